set_option maxRecDepth 100000 in
set_option maxHeartbeats 4000000 in
theorem m_move {d B cnt p0 t0 : Nat} {σ : pm_S} {I : Nat → Int32} {A : Nat → Nat → Int32} {n k z : Nat → Int32} {ac wt pl im : Int32} {y : Nat → Int32} {za zb zc zd ze : Int32} (hdd : 2 ≤ d) (hn : KI n) (hz : SZ z)  : pm_met mX12_move d 0 0 B [.ref (B + 54), .int za, .int zb, .int zc, .int zd, .int ze] cnt (pm_mid σ (md_L B I A n k z ac wt pl (nI p0) (nI t0) im y)) (pm_Qi (fun v σ' cnt' => (∃ (I' : Nat → Int32) (A' : Nat → Nat → Int32), σ' = pm_mid σ (md_L B I' A' n k z ac wt pl (nI p0) (nI t0) im y) ∧ v = vM za zb zc zd ze (vbx y za) (vbx y zc) (vbx z za) (vbx z zc)) ∧ cnt = cnt')) := by
  refine pm_enter 1 (by decide) (Nat.le_of_ble_eq_true rfl) rfl (fun G hG hR hF => ?_)
  refine pm_iloadn hG dX12_move_0 rfl ?_
  refine pm_callS (As := [.int za]) (rest := []) hG hR dX12_move_1 (lkX12_239 _ rfl) okS_X12_isSheet (m_isSheet (d := 1) (by decide)) rfl rfl hdd (Nat.le_refl _) (Nat.le_refl _) (by decide) (pm_ki (fun v1 σ' cnt' hq => ?_))
  obtain ⟨hq, rfl, rfl⟩ := hq
  rcases hq with ⟨rfl, ac2, bc2⟩ | ⟨rfl, c2⟩
  · obtain ⟨k3, hk3, ek3⟩ := in_nat (by omega) (by omega) ac2 bc2
    refine pm_ifN_eq (tgt := 14) hG dX12_move_4 rfl (by omega) (fun q => absurd q (by omega)) (fun _ => ?_)
    refine pm_iloadn hG dX12_move_7 rfl ?_
    refine pm_callS (As := [.int zc]) (rest := []) hG hR dX12_move_8 (lkX12_239 _ rfl) okS_X12_isSheet (m_isSheet (d := 1) (by decide)) rfl rfl hdd (Nat.le_refl _) (Nat.le_refl _) (by decide) (pm_ki (fun v4 σ' cnt' hq => ?_))
    obtain ⟨hq, rfl, rfl⟩ := hq
    rcases hq with ⟨rfl, ac5, bc5⟩ | ⟨rfl, c5⟩
    · obtain ⟨k6, hk6, ek6⟩ := in_nat (by omega) (by omega) ac5 bc5
      refine pm_ifN_ne (tgt := 20) hG dX12_move_11 rfl (by omega) (fun _ => ?_) (fun q => absurd q (by omega))
      refine pm_aloadn hG dX12_move_20 rfl ?_
      refine pm_getf hG dX12_move_21 (flX12_55 _ rfl) rfl rfl ?_
      refine pm_iloadn hG dX12_move_24 rfl ?_
      refine pm_top (v := nI k3) ek3 ?_
      refine pm_ialdN hG dX12_move_25 rfl (by decide) (by omega) ?_
      refine pm_gen (fun x7 ex7 => ?_)
      refine pm_if_eq (tgt := 38) hG dX12_move_26 rfl (fun c8 => ?_) (fun c8 => ?_)
      · refine pm_aloadn hG dX12_move_38 rfl ?_
        refine pm_iconst (v := nI 2) hG dX12_move_39 (by decide) ?_
        refine pm_callV (As := [.int (nI 2)]) (rest := []) hG hR dX12_move_40 (lkX12_80 _ rfl) okV_X12_finds rfl rfl (m_finds (d := 1) (by decide) hn hz (by omega)) rfl rfl hdd (Nat.le_refl _) (Nat.le_refl _) (by decide) (pm_ki (fun v9 σ' cnt' hq => ?_))
        obtain ⟨⟨I10, A10, rfl⟩, rfl, fv9⟩ := hq
        exact pm_iret hG hF dX12_move_43 rfl (Nat.le_refl _) (Nat.le_refl _) ⟨_, rfl, ⟨_, _, rfl, fv9.trans ((by decide : (-1000000 : Int32) - nI 2 = -1000002).trans (vM_b (fun q => q.elim ac2 bc2) (fun q => q.elim ac5 bc5) (Or.inl (((vbx_k ek3 (by omega)).trans ex7).trans c8))).symm)⟩, rfl⟩
      · refine pm_aloadn hG dX12_move_29 rfl ?_
        refine pm_getf hG dX12_move_30 (flX12_55 _ rfl) rfl rfl ?_
        refine pm_iloadn hG dX12_move_33 rfl ?_
        refine pm_top (v := nI k6) ek6 ?_
        refine pm_ialdN hG dX12_move_34 rfl (by decide) (by omega) ?_
        refine pm_gen (fun x11 ex11 => ?_)
        refine pm_if_ne (tgt := 44) hG dX12_move_35 rfl (fun c12 => ?_) (fun c12 => ?_)
        · refine pm_aloadn hG dX12_move_44 rfl ?_
          refine pm_getf hG dX12_move_45 (flX12_55 _ rfl) rfl rfl ?_
          refine pm_iloadn hG dX12_move_48 rfl ?_
          refine pm_top (v := nI k3) ek3 ?_
          refine pm_ialdN hG dX12_move_49 rfl (by decide) (by omega) ?_
          refine pm_top (v := x7) ex7 ?_
          refine pm_aloadn hG dX12_move_50 rfl ?_
          refine pm_getf hG dX12_move_51 (flX12_55 _ rfl) rfl rfl ?_
          refine pm_iloadn hG dX12_move_54 rfl ?_
          refine pm_top (v := nI k6) ek6 ?_
          refine pm_ialdN hG dX12_move_55 rfl (by decide) (by omega) ?_
          refine pm_top (v := x11) ex11 ?_
          refine pm_icmp_eq (tgt := 65) hG dX12_move_56 rfl (fun c13 => ?_) (fun c13 => ?_)
          · refine pm_iloadi hG dX12_move_65 rfl ?_
            refine pm_if_lt (tgt := 114) hG dX12_move_67 rfl (fun c14 => ?_) (fun c14 => ?_)
            · refine pm_aloadn hG dX12_move_114 rfl ?_
              refine pm_iconst (v := nI 1) hG dX12_move_115 (by decide) ?_
              refine pm_callV (As := [.int (nI 1)]) (rest := []) hG hR dX12_move_116 (lkX12_80 _ rfl) okV_X12_finds rfl rfl (m_finds (d := 1) (by decide) hn hz (by omega)) rfl rfl hdd (Nat.le_refl _) (Nat.le_refl _) (by decide) (pm_ki (fun v15 σ' cnt' hq => ?_))
              obtain ⟨⟨I16, A16, rfl⟩, rfl, fv15⟩ := hq
              exact pm_iret hG hF dX12_move_119 rfl (Nat.le_refl _) (Nat.le_refl _) ⟨_, rfl, ⟨_, _, rfl, fv15.trans ((by decide : (-1000000 : Int32) - nI 1 = -1000001).trans (vM_d (fun q => q.elim ac2 bc2) (fun q => q.elim ac5 bc5) (fun q => c8 (((vbx_k ek3 (by omega)).trans ex7).symm.trans q)) (fun q => c12 (((vbx_k ek6 (by omega)).trans ex11).symm.trans q)) (((vbx_k ek3 (by omega)).trans ex7).trans (c13.trans ((vbx_k ek6 (by omega)).trans ex11).symm)) (Or.inl (Or.inr (Or.inl c14)))).symm)⟩, rfl⟩
            · obtain ⟨k17, hk17, ek17⟩ := nI_of c14
              refine pm_iloadn hG dX12_move_70 rfl ?_
              refine pm_if_lt (tgt := 114) hG dX12_move_71 rfl (fun c18 => ?_) (fun c18 => ?_)
              · refine pm_aloadn hG dX12_move_114 rfl ?_
                refine pm_iconst (v := nI 1) hG dX12_move_115 (by decide) ?_
                refine pm_callV (As := [.int (nI 1)]) (rest := []) hG hR dX12_move_116 (lkX12_80 _ rfl) okV_X12_finds rfl rfl (m_finds (d := 1) (by decide) hn hz (by omega)) rfl rfl hdd (Nat.le_refl _) (Nat.le_refl _) (by decide) (pm_ki (fun v19 σ' cnt' hq => ?_))
                obtain ⟨⟨I20, A20, rfl⟩, rfl, fv19⟩ := hq
                exact pm_iret hG hF dX12_move_119 rfl (Nat.le_refl _) (Nat.le_refl _) ⟨_, rfl, ⟨_, _, rfl, fv19.trans ((by decide : (-1000000 : Int32) - nI 1 = -1000001).trans (vM_d (fun q => q.elim ac2 bc2) (fun q => q.elim ac5 bc5) (fun q => c8 (((vbx_k ek3 (by omega)).trans ex7).symm.trans q)) (fun q => c12 (((vbx_k ek6 (by omega)).trans ex11).symm.trans q)) (((vbx_k ek3 (by omega)).trans ex7).trans (c13.trans ((vbx_k ek6 (by omega)).trans ex11).symm)) (Or.inl (Or.inl c18))).symm)⟩, rfl⟩
              · obtain ⟨k21, hk21, ek21⟩ := nI_of c18
                refine pm_iloadi hG dX12_move_74 rfl ?_
                refine pm_if_lt (tgt := 114) hG dX12_move_76 rfl (fun c22 => ?_) (fun c22 => ?_)
                · refine pm_aloadn hG dX12_move_114 rfl ?_
                  refine pm_iconst (v := nI 1) hG dX12_move_115 (by decide) ?_
                  refine pm_callV (As := [.int (nI 1)]) (rest := []) hG hR dX12_move_116 (lkX12_80 _ rfl) okV_X12_finds rfl rfl (m_finds (d := 1) (by decide) hn hz (by omega)) rfl rfl hdd (Nat.le_refl _) (Nat.le_refl _) (by decide) (pm_ki (fun v23 σ' cnt' hq => ?_))
                  obtain ⟨⟨I24, A24, rfl⟩, rfl, fv23⟩ := hq
                  exact pm_iret hG hF dX12_move_119 rfl (Nat.le_refl _) (Nat.le_refl _) ⟨_, rfl, ⟨_, _, rfl, fv23.trans ((by decide : (-1000000 : Int32) - nI 1 = -1000001).trans (vM_d (fun q => q.elim ac2 bc2) (fun q => q.elim ac5 bc5) (fun q => c8 (((vbx_k ek3 (by omega)).trans ex7).symm.trans q)) (fun q => c12 (((vbx_k ek6 (by omega)).trans ex11).symm.trans q)) (((vbx_k ek3 (by omega)).trans ex7).trans (c13.trans ((vbx_k ek6 (by omega)).trans ex11).symm)) (Or.inr (Or.inl c22))).symm)⟩, rfl⟩
                · obtain ⟨k25, hk25, ek25⟩ := nI_of c22
                  refine pm_iloadn hG dX12_move_79 rfl ?_
                  refine pm_top (v := nI k21) ek21 ?_
                  refine pm_i2l hG dX12_move_80 rfl ?_
                  refine pm_iloadi hG dX12_move_81 rfl ?_
                  refine pm_top (v := nI k17) ek17 ?_
                  refine pm_i2l hG dX12_move_83 rfl ?_
                  refine pm_ladd hG dX12_move_84 ?_
                  refine pm_aloadn hG dX12_move_85 rfl ?_
                  refine pm_getf hG dX12_move_86 (flX12_58 _ rfl) rfl rfl ?_
                  refine pm_iloadn hG dX12_move_89 rfl ?_
                  refine pm_top (v := nI k3) ek3 ?_
                  refine pm_ialdN hG dX12_move_90 rfl (by decide) (by omega) ?_
                  obtain ⟨k26, hk26, ek26⟩ := hz k3 (by omega)
                  refine pm_top (v := nI k26) ek26 ?_
                  refine pm_i2l hG dX12_move_91 rfl ?_
                  refine pm_lcmp hG dX12_move_92 ?_
                  refine pm_if_gt (tgt := 114) hG dX12_move_93 rfl (fun c27 => ?_) (fun c27 => ?_)
                  · have lc27 := lcmp_gt (by omega) (by omega) (by omega) c27
                    refine pm_aloadn hG dX12_move_114 rfl ?_
                    refine pm_iconst (v := nI 1) hG dX12_move_115 (by decide) ?_
                    refine pm_callV (As := [.int (nI 1)]) (rest := []) hG hR dX12_move_116 (lkX12_80 _ rfl) okV_X12_finds rfl rfl (m_finds (d := 1) (by decide) hn hz (by omega)) rfl rfl hdd (Nat.le_refl _) (Nat.le_refl _) (by decide) (pm_ki (fun v28 σ' cnt' hq => ?_))
                    obtain ⟨⟨I29, A29, rfl⟩, rfl, fv28⟩ := hq
                    exact pm_iret hG hF dX12_move_119 rfl (Nat.le_refl _) (Nat.le_refl _) ⟨_, rfl, ⟨_, _, rfl, fv28.trans ((by decide : (-1000000 : Int32) - nI 1 = -1000001).trans (vM_d (fun q => q.elim ac2 bc2) (fun q => q.elim ac5 bc5) (fun q => c8 (((vbx_k ek3 (by omega)).trans ex7).symm.trans q)) (fun q => c12 (((vbx_k ek6 (by omega)).trans ex11).symm.trans q)) (((vbx_k ek3 (by omega)).trans ex7).trans (c13.trans ((vbx_k ek6 (by omega)).trans ex11).symm)) (Or.inl (st_gt ((vbx_k ek3 (by omega)).trans ek26) ek21 ek17 (by omega) (by omega) (by omega) (by omega)))).symm)⟩, rfl⟩
                  · have lc27 := lcmp_le (by omega) (by omega) (by omega) c27
                    refine pm_iloadi hG dX12_move_96 rfl ?_
                    refine pm_top (v := nI k25) ek25 ?_
                    refine pm_i2l hG dX12_move_98 rfl ?_
                    refine pm_iloadi hG dX12_move_99 rfl ?_
                    refine pm_top (v := nI k17) ek17 ?_
                    refine pm_i2l hG dX12_move_101 rfl ?_
                    refine pm_ladd hG dX12_move_102 ?_
                    refine pm_aloadn hG dX12_move_103 rfl ?_
                    refine pm_getf hG dX12_move_104 (flX12_58 _ rfl) rfl rfl ?_
                    refine pm_iloadn hG dX12_move_107 rfl ?_
                    refine pm_top (v := nI k6) ek6 ?_
                    refine pm_ialdN hG dX12_move_108 rfl (by decide) (by omega) ?_
                    obtain ⟨k30, hk30, ek30⟩ := hz k6 (by omega)
                    refine pm_top (v := nI k30) ek30 ?_
                    refine pm_i2l hG dX12_move_109 rfl ?_
                    refine pm_lcmp hG dX12_move_110 ?_
                    refine pm_if_le (tgt := 120) hG dX12_move_111 rfl (fun c31 => ?_) (fun c31 => ?_)
                    · have lc31 := lcmp_le (by omega) (by omega) (by omega) (Int32.not_lt.mpr c31)
                      refine pm_iconst (v := nI 0) hG dX12_move_120 (by decide) ?_
                      refine pm_istoreXi (loc' := [some (.ref (B + 54)), some (.int za), some (.int zb), some (.int zc), some (.int zd), some (.int ze), some (.int (nI 0))]) hG dX12_move_121 (by decide) (pm_c1b rfl) rfl ?_
                      have loop123_32 : ∀ (m32 : Nat) (I32 : Nat → Int32) (A32 : Nat → Nat → Int32) (i32 : Nat), i32 ≤ 2147483647 → 2147483647 - i32 < m32 → pm_wp mX12_move G B 123 [some (.ref (B + 54)), some (.int za), some (.int zb), some (.int zc), some (.int zd), some (.int ze), some (.int (nI i32))] [] 0 0 cnt (pm_mid σ (md_L B I32 A32 n k z ac wt pl (nI p0) (nI t0) im y)) := by
                        intro m32
                        induction m32 with
                        | zero => intro I32 A32 i32 _ hm; exact absurd hm (Nat.not_lt_zero _)
                        | succ m32 ih32 =>
                          intro I32 A32 i32 hi32 hm32
                          refine pm_iloadi hG dX12_move_123 rfl ?_
                          refine pm_iloadi hG dX12_move_125 rfl ?_
                          refine pm_top (v := nI k17) ek17 ?_
                          refine pm_icmpN_ge (tgt := 157) hG dX12_move_127 rfl (by omega) (by omega) (fun c33 => ?_) (fun c33 => ?_)
                          · refine pm_iconst (v := nI 0) hG dX12_move_157 (by decide) ?_
                            refine pm_istoreXi (loc' := [some (.ref (B + 54)), some (.int za), some (.int zb), some (.int zc), some (.int zd), some (.int ze), some (.int (nI 0))]) hG dX12_move_158 (by decide) (pm_c1b rfl) rfl ?_
                            have loop160_34 : ∀ (m34 : Nat) (I34 : Nat → Int32) (A34 : Nat → Nat → Int32) (i34 : Nat), i34 ≤ 2147483647 → 2147483647 - i34 < m34 → pm_wp mX12_move G B 160 [some (.ref (B + 54)), some (.int za), some (.int zb), some (.int zc), some (.int zd), some (.int ze), some (.int (nI i34))] [] 0 0 cnt (pm_mid σ (md_L B I34 A34 n k z ac wt pl (nI p0) (nI t0) im y)) := by
                              intro m34
                              induction m34 with
                              | zero => intro I34 A34 i34 _ hm; exact absurd hm (Nat.not_lt_zero _)
                              | succ m34 ih34 =>
                                intro I34 A34 i34 hi34 hm34
                                refine pm_iloadi hG dX12_move_160 rfl ?_
                                refine pm_iloadi hG dX12_move_162 rfl ?_
                                refine pm_top (v := nI k17) ek17 ?_
                                refine pm_icmpN_ge (tgt := 195) hG dX12_move_164 rfl (by omega) (by omega) (fun c35 => ?_) (fun c35 => ?_)
                                · refine pm_iloadi hG dX12_move_195 rfl ?_
                                  refine pm_top (v := nI k17) ek17 ?_
                                  exact pm_iret hG hF dX12_move_197 rfl (Nat.le_refl _) (Nat.le_refl _) ⟨_, rfl, ⟨_, _, rfl, ek17.symm.trans (vM_e (fun q => q.elim ac2 bc2) (fun q => q.elim ac5 bc5) (fun q => c8 (((vbx_k ek3 (by omega)).trans ex7).symm.trans q)) (fun q => c12 (((vbx_k ek6 (by omega)).trans ex11).symm.trans q)) (((vbx_k ek3 (by omega)).trans ex7).trans (c13.trans ((vbx_k ek6 (by omega)).trans ex11).symm)) (st_le ((vbx_k ek3 (by omega)).trans ek26) ek21 ek17 (by omega) (by omega)) (st_le ((vbx_k ek6 (by omega)).trans ek30) ek25 ek17 (by omega) (by omega))).symm⟩, rfl⟩
                                · refine pm_aloadn hG dX12_move_167 rfl ?_
                                  refine pm_getf hG dX12_move_168 (flX12_61 _ rfl) rfl rfl ?_
                                  refine pm_bipush (v := nI 24) hG dX12_move_171 (by decide) ?_
                                  refine pm_iloadn hG dX12_move_173 rfl ?_
                                  refine pm_top (v := nI k6) ek6 ?_
                                  refine pm_imulN (c := 24 * k6) hG dX12_move_174 (by omega) ?_
                                  refine pm_iloadi hG dX12_move_175 rfl ?_
                                  refine pm_top (v := nI k25) ek25 ?_
                                  refine pm_iaddN (c := k25 + 24 * k6) hG dX12_move_177 (by omega) ?_
                                  refine pm_iloadi hG dX12_move_178 rfl ?_
                                  refine pm_iaddN (c := i34 + k25 + 24 * k6) hG dX12_move_180 (by omega) ?_
                                  refine pm_aloadn hG dX12_move_181 rfl ?_
                                  refine pm_getf hG dX12_move_182 (flX12_64 _ rfl) rfl rfl ?_
                                  refine pm_iloadi hG dX12_move_185 rfl ?_
                                  refine pm_ialdN hG dX12_move_187 rfl (by decide) (by omega) ?_
                                  refine pm_any (fun x36 => ?_)
                                  refine pm_iastN hG dX12_move_188 rfl (by decide) (by omega) ?_
                                  refine mdn_sheets (fun A_37 => ?_)
                                  refine pm_iincX (v := nI (i34 + 1)) (loc' := [some (.ref (B + 54)), some (.int za), some (.int zb), some (.int zc), some (.int zd), some (.int ze), some (.int (nI (i34 + 1)))]) hG dX12_move_189 rfl (nI_1 _) (by decide) (pm_c1b rfl) rfl ?_
                                  refine pm_goto (tgt := 160) hG dX12_move_192 rfl ?_
                                  exact ih34 I34 A_37 (i34 + 1) (by omega) (by omega)
                            exact loop160_34 _ I32 A32 0 (by omega) (Nat.lt_succ_self _)
                          · refine pm_aloadn hG dX12_move_130 rfl ?_
                            refine pm_getf hG dX12_move_131 (flX12_64 _ rfl) rfl rfl ?_
                            refine pm_iloadi hG dX12_move_134 rfl ?_
                            refine pm_aloadn hG dX12_move_136 rfl ?_
                            refine pm_getf hG dX12_move_137 (flX12_61 _ rfl) rfl rfl ?_
                            refine pm_bipush (v := nI 24) hG dX12_move_140 (by decide) ?_
                            refine pm_iloadn hG dX12_move_142 rfl ?_
                            refine pm_top (v := nI k3) ek3 ?_
                            refine pm_imulN (c := 24 * k3) hG dX12_move_143 (by omega) ?_
                            refine pm_iloadn hG dX12_move_144 rfl ?_
                            refine pm_top (v := nI k21) ek21 ?_
                            refine pm_iaddN (c := k21 + 24 * k3) hG dX12_move_145 (by omega) ?_
                            refine pm_iloadi hG dX12_move_146 rfl ?_
                            refine pm_iaddN (c := i32 + k21 + 24 * k3) hG dX12_move_148 (by omega) ?_
                            refine pm_ialdN hG dX12_move_149 rfl (by decide) (by omega) ?_
                            refine pm_any (fun x38 => ?_)
                            refine pm_iastN hG dX12_move_150 rfl (by decide) (by omega) ?_
                            refine mdn_carried (fun A_39 => ?_)
                            refine pm_iincX (v := nI (i32 + 1)) (loc' := [some (.ref (B + 54)), some (.int za), some (.int zb), some (.int zc), some (.int zd), some (.int ze), some (.int (nI (i32 + 1)))]) hG dX12_move_151 rfl (nI_1 _) (by decide) (pm_c1b rfl) rfl ?_
                            refine pm_goto (tgt := 123) hG dX12_move_154 rfl ?_
                            exact ih32 I32 A_39 (i32 + 1) (by omega) (by omega)
                      exact loop123_32 _ I A 0 (by omega) (Nat.lt_succ_self _)
                    · have lc31 := lcmp_gt (by omega) (by omega) (by omega) (Int32.not_le.mp c31)
                      refine pm_aloadn hG dX12_move_114 rfl ?_
                      refine pm_iconst (v := nI 1) hG dX12_move_115 (by decide) ?_
                      refine pm_callV (As := [.int (nI 1)]) (rest := []) hG hR dX12_move_116 (lkX12_80 _ rfl) okV_X12_finds rfl rfl (m_finds (d := 1) (by decide) hn hz (by omega)) rfl rfl hdd (Nat.le_refl _) (Nat.le_refl _) (by decide) (pm_ki (fun v40 σ' cnt' hq => ?_))
                      obtain ⟨⟨I41, A41, rfl⟩, rfl, fv40⟩ := hq
                      exact pm_iret hG hF dX12_move_119 rfl (Nat.le_refl _) (Nat.le_refl _) ⟨_, rfl, ⟨_, _, rfl, fv40.trans ((by decide : (-1000000 : Int32) - nI 1 = -1000001).trans (vM_d (fun q => q.elim ac2 bc2) (fun q => q.elim ac5 bc5) (fun q => c8 (((vbx_k ek3 (by omega)).trans ex7).symm.trans q)) (fun q => c12 (((vbx_k ek6 (by omega)).trans ex11).symm.trans q)) (((vbx_k ek3 (by omega)).trans ex7).trans (c13.trans ((vbx_k ek6 (by omega)).trans ex11).symm)) (Or.inr (st_gt ((vbx_k ek6 (by omega)).trans ek30) ek25 ek17 (by omega) (by omega) (by omega) (by omega)))).symm)⟩, rfl⟩
          · refine pm_aloadn hG dX12_move_59 rfl ?_
            refine pm_iconst (v := nI 5) hG dX12_move_60 (by decide) ?_
            refine pm_callV (As := [.int (nI 5)]) (rest := []) hG hR dX12_move_61 (lkX12_80 _ rfl) okV_X12_finds rfl rfl (m_finds (d := 1) (by decide) hn hz (by omega)) rfl rfl hdd (Nat.le_refl _) (Nat.le_refl _) (by decide) (pm_ki (fun v42 σ' cnt' hq => ?_))
            obtain ⟨⟨I43, A43, rfl⟩, rfl, fv42⟩ := hq
            exact pm_iret hG hF dX12_move_64 rfl (Nat.le_refl _) (Nat.le_refl _) ⟨_, rfl, ⟨_, _, rfl, fv42.trans ((by decide : (-1000000 : Int32) - nI 5 = -1000005).trans (vM_c (fun q => q.elim ac2 bc2) (fun q => q.elim ac5 bc5) (fun q => c8 (((vbx_k ek3 (by omega)).trans ex7).symm.trans q)) (fun q => c12 (((vbx_k ek6 (by omega)).trans ex11).symm.trans q)) (fun q => c13 (((vbx_k ek3 (by omega)).trans ex7).symm.trans (q.trans ((vbx_k ek6 (by omega)).trans ex11))))).symm)⟩, rfl⟩
        · refine pm_aloadn hG dX12_move_38 rfl ?_
          refine pm_iconst (v := nI 2) hG dX12_move_39 (by decide) ?_
          refine pm_callV (As := [.int (nI 2)]) (rest := []) hG hR dX12_move_40 (lkX12_80 _ rfl) okV_X12_finds rfl rfl (m_finds (d := 1) (by decide) hn hz (by omega)) rfl rfl hdd (Nat.le_refl _) (Nat.le_refl _) (by decide) (pm_ki (fun v44 σ' cnt' hq => ?_))
          obtain ⟨⟨I45, A45, rfl⟩, rfl, fv44⟩ := hq
          exact pm_iret hG hF dX12_move_43 rfl (Nat.le_refl _) (Nat.le_refl _) ⟨_, rfl, ⟨_, _, rfl, fv44.trans ((by decide : (-1000000 : Int32) - nI 2 = -1000002).trans (vM_b (fun q => q.elim ac2 bc2) (fun q => q.elim ac5 bc5) (Or.inr (((vbx_k ek6 (by omega)).trans ex11).trans c12))).symm)⟩, rfl⟩
    · refine pm_ifN_ne (tgt := 20) hG dX12_move_11 rfl (by omega) (fun q => absurd q (by omega)) (fun _ => ?_)
      refine pm_aloadn hG dX12_move_14 rfl ?_
      refine pm_iconst (v := nI 1) hG dX12_move_15 (by decide) ?_
      refine pm_callV (As := [.int (nI 1)]) (rest := []) hG hR dX12_move_16 (lkX12_80 _ rfl) okV_X12_finds rfl rfl (m_finds (d := 1) (by decide) hn hz (by omega)) rfl rfl hdd (Nat.le_refl _) (Nat.le_refl _) (by decide) (pm_ki (fun v46 σ' cnt' hq => ?_))
      obtain ⟨⟨I47, A47, rfl⟩, rfl, fv46⟩ := hq
      exact pm_iret hG hF dX12_move_19 rfl (Nat.le_refl _) (Nat.le_refl _) ⟨_, rfl, ⟨_, _, rfl, fv46.trans ((by decide : (-1000000 : Int32) - nI 1 = -1000001).trans (vM_a (Or.inr c5)).symm)⟩, rfl⟩
  · refine pm_ifN_eq (tgt := 14) hG dX12_move_4 rfl (by omega) (fun _ => ?_) (fun q => absurd q (by omega))
    refine pm_aloadn hG dX12_move_14 rfl ?_
    refine pm_iconst (v := nI 1) hG dX12_move_15 (by decide) ?_
    refine pm_callV (As := [.int (nI 1)]) (rest := []) hG hR dX12_move_16 (lkX12_80 _ rfl) okV_X12_finds rfl rfl (m_finds (d := 1) (by decide) hn hz (by omega)) rfl rfl hdd (Nat.le_refl _) (Nat.le_refl _) (by decide) (pm_ki (fun v48 σ' cnt' hq => ?_))
    obtain ⟨⟨I49, A49, rfl⟩, rfl, fv48⟩ := hq
    exact pm_iret hG hF dX12_move_19 rfl (Nat.le_refl _) (Nat.le_refl _) ⟨_, rfl, ⟨_, _, rfl, fv48.trans ((by decide : (-1000000 : Int32) - nI 1 = -1000001).trans (vM_a (Or.inl c2)).symm)⟩, rfl⟩
