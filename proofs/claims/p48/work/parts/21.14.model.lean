set_option maxRecDepth 100000 in
set_option maxHeartbeats 4000000 in
theorem m_night {d B cnt p0 t0 : Nat} {σ : pm_S} {I : Nat → Int32} {A : Nat → Nat → Int32} {n k z : Nat → Int32} {ac wt pl : Int32} {za zb zc zd : Int32} (hdd : 7 ≤ d) (hn : KI n) (hz : SZ z)  : pm_met mX12_night d 0 0 B [.ref (B + 54), .int za, .int zb, .int zc, .int zd] cnt (pm_mid σ (md_L B I A n k z ac wt pl (nI p0) (nI t0))) (pm_Qi (fun v σ' cnt' => (∃ (I' : Nat → Int32) (A' : Nat → Nat → Int32), σ' = pm_mid σ (md_L B I' A' n k z ac wt pl (nI p0) (nI t0))) ∧ cnt' = cnt)) := by
  refine pm_enter 2 (by decide) (Nat.le_of_ble_eq_true rfl) rfl (fun G hG hR hF => ?_)
  refine pm_iloadn hG dX12_night_0 rfl ?_
  refine pm_iconst (v := nI 1) hG dX12_night_1 (by decide) ?_
  refine pm_bipush (v := nI 20) hG dX12_night_2 (by decide) ?_
  refine pm_callS (As := [.int za, .int (nI 1), .int (nI 20)]) (rest := []) hG hR dX12_night_4 (lkX12_68 _ rfl) okS_X12_in (m_in (d := 6)) rfl rfl hdd (Nat.le_refl _) (Nat.le_refl _) (by decide) (pm_ki (fun v1 σ' cnt' hq => ?_))
  obtain ⟨hq, rfl, rfl⟩ := hq
  rcases hq with ⟨rfl, ac2, bc2⟩ | ⟨rfl, c2⟩
  · obtain ⟨k3, hk3, ek3⟩ := in_nat (by omega) (by omega) ac2 bc2
    refine pm_ifN_eq (tgt := 38) hG dX12_night_7 rfl (by omega) (fun q => absurd q (by omega)) (fun _ => ?_)
    refine pm_iloadn hG dX12_night_10 rfl ?_
    refine pm_iconst (v := nI 1) hG dX12_night_11 (by decide) ?_
    refine pm_iconst (v := nI 3) hG dX12_night_12 (by decide) ?_
    refine pm_callS (As := [.int zb, .int (nI 1), .int (nI 3)]) (rest := []) hG hR dX12_night_13 (lkX12_68 _ rfl) okS_X12_in (m_in (d := 6)) rfl rfl hdd (Nat.le_refl _) (Nat.le_refl _) (by decide) (pm_ki (fun v4 σ' cnt' hq => ?_))
    obtain ⟨hq, rfl, rfl⟩ := hq
    rcases hq with ⟨rfl, ac5, bc5⟩ | ⟨rfl, c5⟩
    · obtain ⟨k6, hk6, ek6⟩ := in_nat (by omega) (by omega) ac5 bc5
      refine pm_ifN_eq (tgt := 38) hG dX12_night_16 rfl (by omega) (fun q => absurd q (by omega)) (fun _ => ?_)
      refine pm_iloadn hG dX12_night_19 rfl ?_
      refine pm_iconst (v := nI 0) hG dX12_night_20 (by decide) ?_
      refine pm_iconst (v := nI 4) hG dX12_night_21 (by decide) ?_
      refine pm_callS (As := [.int zc, .int (nI 0), .int (nI 4)]) (rest := []) hG hR dX12_night_22 (lkX12_68 _ rfl) okS_X12_in (m_in (d := 6)) rfl rfl hdd (Nat.le_refl _) (Nat.le_refl _) (by decide) (pm_ki (fun v7 σ' cnt' hq => ?_))
      obtain ⟨hq, rfl, rfl⟩ := hq
      rcases hq with ⟨rfl, ac8, bc8⟩ | ⟨rfl, c8⟩
      · obtain ⟨k9, hk9, ek9⟩ := in_nat (by omega) (by omega) ac8 bc8
        refine pm_ifN_eq (tgt := 38) hG dX12_night_25 rfl (by omega) (fun q => absurd q (by omega)) (fun _ => ?_)
        refine pm_iloadi hG dX12_night_28 rfl ?_
        refine pm_iconst (v := nI 0) hG dX12_night_30 (by decide) ?_
        refine pm_iconst (v := nI 1) hG dX12_night_31 (by decide) ?_
        refine pm_callS (As := [.int zd, .int (nI 0), .int (nI 1)]) (rest := []) hG hR dX12_night_32 (lkX12_68 _ rfl) okS_X12_in (m_in (d := 6)) rfl rfl hdd (Nat.le_refl _) (Nat.le_refl _) (by decide) (pm_ki (fun v10 σ' cnt' hq => ?_))
        obtain ⟨hq, rfl, rfl⟩ := hq
        rcases hq with ⟨rfl, ac11, bc11⟩ | ⟨rfl, c11⟩
        · obtain ⟨k12, hk12, ek12⟩ := in_nat (by omega) (by omega) ac11 bc11
          refine pm_ifN_ne (tgt := 44) hG dX12_night_35 rfl (by omega) (fun _ => ?_) (fun q => absurd q (by omega))
          rcases (show k6 = 1 ∨ k6 = 2 ∨ k6 = 3 by omega) with hH | hH | hH
          · have eH : zb = nI 1 := by rw [ek6, hH]
            refine pm_iconst (v := nI 0) hG dX12_night_44 (by decide) ?_
            refine pm_istoreXi (loc' := [some (.ref (B + 54)), some (.int za), some (.int zb), some (.int zc), some (.int zd), some (.int (nI 0)), none]) hG dX12_night_45 (by decide) (pm_c1b rfl) rfl ?_
            have loop47_13 : ∀ (m13 : Nat) (I13 : Nat → Int32) (A13 : Nat → Nat → Int32) (i13 : Nat), i13 ≤ 5 → 5 - i13 < m13 → pm_wp mX12_night G B 47 [some (.ref (B + 54)), some (.int za), some (.int zb), some (.int zc), some (.int zd), some (.int (nI i13)), none] [] 0 0 cnt (pm_mid σ (md_L B I13 A13 n k z ac wt pl (nI p0) (nI t0))) := by
              intro m13
              induction m13 with
              | zero => intro I13 A13 i13 _ hm; exact absurd hm (Nat.not_lt_zero _)
              | succ m13 ih13 =>
                intro I13 A13 i13 hi13 hm13
                refine pm_iloadi hG dX12_night_47 rfl ?_
                refine pm_iconst (v := nI 5) hG dX12_night_49 (by decide) ?_
                refine pm_icmpN_ge (tgt := 77) hG dX12_night_50 rfl (by omega) (by omega) (fun c14 => ?_) (fun c14 => ?_)
                · refine pm_bipush (v := (-2)) hG dX12_night_77 (by decide) ?_
                  refine pm_istoreXi (loc' := [some (.ref (B + 54)), some (.int za), some (.int zb), some (.int zc), some (.int zd), some (.int (-2)), none]) hG dX12_night_79 (by decide) (pm_c1b rfl) rfl ?_
                  refine pm_iconst (v := nI 4) hG dX12_night_81 (by decide) ?_
                  refine pm_istoreXi (loc' := [some (.ref (B + 54)), some (.int za), some (.int zb), some (.int zc), some (.int zd), some (.int (-2)), some (.int (nI 4))]) hG dX12_night_82 (by decide) (pm_c1b rfl) rfl ?_
                  have loop84_15 : ∀ (m15 : Nat) (I15 : Nat → Int32) (A15 : Nat → Nat → Int32) (x15_5 : Int32) (i15 : Nat), i15 ≤ 5 → i15 < m15 → pm_wp mX12_night G B 84 [some (.ref (B + 54)), some (.int za), some (.int zb), some (.int zc), some (.int zd), some (.int x15_5), some (.int (nI i15 - nI 1))] [] 0 0 cnt (pm_mid σ (md_L B I15 A15 n k z ac wt pl (nI p0) (nI t0))) := by
                    intro m15
                    induction m15 with
                    | zero => intro I15 A15 x15_5 i15 _ hm; exact absurd hm (Nat.not_lt_zero _)
                    | succ m15 ih15 =>
                      intro I15 A15 x15_5 i15 hi15 hm15
                      rcases i15 with _ | i15
                      · refine pm_iloadi hG dX12_night_84 rfl ?_
                        refine pm_top (v := (-1)) (by decide) ?_
                        refine pm_if_lt (tgt := 128) hG dX12_night_86 rfl (fun _ => ?_) (fun q => absurd q (by decide))
                        refine pm_iloadi hG dX12_night_128 rfl ?_
                        refine pm_bipush (v := (-2)) hG dX12_night_130 (by decide) ?_
                        refine pm_icmp_ne (tgt := 150) hG dX12_night_132 rfl (fun c16 => ?_) (fun c16 => ?_)
                        · refine pm_iloadi hG dX12_night_150 rfl ?_
                          refine pm_top (v := nI k12) ek12 ?_
                          refine pm_ifN_ne (tgt := 170) hG dX12_night_152 rfl (by omega) (fun c17 => ?_) (fun c17 => ?_)
                          · refine pm_iloadi hG dX12_night_170 rfl ?_
                            refine pm_bipush (v := (-2)) hG dX12_night_172 (by decide) ?_
                            refine pm_icmp_le (tgt := 182) hG dX12_night_174 rfl (fun c18 => ?_) (fun c18 => ?_)
                            · refine pm_aloadn hG dX12_night_182 rfl ?_
                              refine pm_iconst (v := nI 2) hG dX12_night_183 (by decide) ?_
                              refine pm_callV (As := [.int (nI 2)]) (rest := []) hG hR dX12_night_184 (lkX12_80 _ rfl) okV_X12_finds rfl rfl (m_finds (d := 6) (by decide) hn hz (by omega)) rfl rfl hdd (Nat.le_refl _) (Nat.le_refl _) (by decide) (pm_ki (fun v19 σ' cnt' hq => ?_))
                              obtain ⟨⟨I20, A20, rfl⟩, rfl⟩ := hq
                              exact pm_iret hG hF dX12_night_187 rfl (Nat.le_refl _) (Nat.le_refl _) ⟨_, rfl, ⟨_, _, rfl⟩, rfl⟩
                            · refine pm_iloadi hG dX12_night_177 rfl ?_
                              refine pm_goto (tgt := 187) hG dX12_night_179 rfl ?_
                              exact pm_iret hG hF dX12_night_187 rfl (Nat.le_refl _) (Nat.le_refl _) ⟨_, rfl, ⟨_, _, rfl⟩, rfl⟩
                          · refine pm_iloadi hG dX12_night_155 rfl ?_
                            refine pm_bipush (v := (-2)) hG dX12_night_157 (by decide) ?_
                            refine pm_icmp_le (tgt := 166) hG dX12_night_159 rfl (fun c21 => ?_) (fun c21 => ?_)
                            · refine pm_iconst (v := nI 0) hG dX12_night_166 (by decide) ?_
                              refine pm_goto (tgt := 187) hG dX12_night_167 rfl ?_
                              exact pm_iret hG hF dX12_night_187 rfl (Nat.le_refl _) (Nat.le_refl _) ⟨_, rfl, ⟨_, _, rfl⟩, rfl⟩
                            · refine pm_iconst (v := nI 1) hG dX12_night_162 (by decide) ?_
                              refine pm_goto (tgt := 187) hG dX12_night_163 rfl ?_
                              exact pm_iret hG hF dX12_night_187 rfl (Nat.le_refl _) (Nat.le_refl _) ⟨_, rfl, ⟨_, _, rfl⟩, rfl⟩
                        · refine pm_aloadn hG dX12_night_135 rfl ?_
                          refine pm_iconst (v := (-1)) hG dX12_night_136 (by decide) ?_
                          refine pm_iloadn hG dX12_night_137 rfl ?_
                          refine pm_top (v := nI 1) eH ?_
                          refine pm_iconst (v := nI 0) hG dX12_night_138 (by decide) ?_
                          refine pm_iloadn hG dX12_night_139 rfl ?_
                          refine pm_top (v := nI k3) ek3 ?_
                          refine pm_iloadn hG dX12_night_140 rfl ?_
                          refine pm_top (v := nI k9) ek9 ?_
                          refine pm_callV (As := [.int (-1), .int (nI 1), .int (nI 0), .int (nI k3), .int (nI k9)]) (rest := []) hG hR dX12_night_141 (lkX12_260 _ rfl) okV_X12_winsBy rfl rfl (m_winsBy_m_c1 (d := 6) (by decide) hn hz) rfl rfl hdd (Nat.le_refl _) (Nat.le_refl _) (by decide) (pm_ki (fun v22 σ' cnt' hq => ?_))
                          obtain ⟨⟨I23, A23, rfl⟩, rfl, bv22⟩ := hq
                          refine pm_if_eq (tgt := 150) hG dX12_night_144 rfl (fun c24 => ?_) (fun c24 => ?_)
                          · refine pm_iloadi hG dX12_night_150 rfl ?_
                            refine pm_top (v := nI k12) ek12 ?_
                            refine pm_ifN_ne (tgt := 170) hG dX12_night_152 rfl (by omega) (fun c25 => ?_) (fun c25 => ?_)
                            · refine pm_iloadi hG dX12_night_170 rfl ?_
                              refine pm_top (v := (-2)) c16 ?_
                              refine pm_bipush (v := (-2)) hG dX12_night_172 (by decide) ?_
                              refine pm_icmp_le (tgt := 182) hG dX12_night_174 rfl (fun _ => ?_) (fun q => absurd q (by decide))
                              refine pm_aloadn hG dX12_night_182 rfl ?_
                              refine pm_iconst (v := nI 2) hG dX12_night_183 (by decide) ?_
                              refine pm_callV (As := [.int (nI 2)]) (rest := []) hG hR dX12_night_184 (lkX12_80 _ rfl) okV_X12_finds rfl rfl (m_finds (d := 6) (by decide) hn hz (by omega)) rfl rfl hdd (Nat.le_refl _) (Nat.le_refl _) (by decide) (pm_ki (fun v26 σ' cnt' hq => ?_))
                              obtain ⟨⟨I27, A27, rfl⟩, rfl⟩ := hq
                              exact pm_iret hG hF dX12_night_187 rfl (Nat.le_refl _) (Nat.le_refl _) ⟨_, rfl, ⟨_, _, rfl⟩, rfl⟩
                            · refine pm_iloadi hG dX12_night_155 rfl ?_
                              refine pm_top (v := (-2)) c16 ?_
                              refine pm_bipush (v := (-2)) hG dX12_night_157 (by decide) ?_
                              refine pm_icmp_le (tgt := 166) hG dX12_night_159 rfl (fun _ => ?_) (fun q => absurd q (by decide))
                              refine pm_iconst (v := nI 0) hG dX12_night_166 (by decide) ?_
                              refine pm_goto (tgt := 187) hG dX12_night_167 rfl ?_
                              exact pm_iret hG hF dX12_night_187 rfl (Nat.le_refl _) (Nat.le_refl _) ⟨_, rfl, ⟨_, _, rfl⟩, rfl⟩
                          · refine pm_iconst (v := (-1)) hG dX12_night_147 (by decide) ?_
                            refine pm_istoreXi (loc' := [some (.ref (B + 54)), some (.int za), some (.int zb), some (.int zc), some (.int zd), some (.int (-1)), some (.int (nI 0 - nI 1))]) hG dX12_night_148 (by decide) (pm_c1b rfl) rfl ?_
                            refine pm_iloadi hG dX12_night_150 rfl ?_
                            refine pm_top (v := nI k12) ek12 ?_
                            refine pm_ifN_ne (tgt := 170) hG dX12_night_152 rfl (by omega) (fun c28 => ?_) (fun c28 => ?_)
                            · refine pm_iloadi hG dX12_night_170 rfl ?_
                              refine pm_bipush (v := (-2)) hG dX12_night_172 (by decide) ?_
                              refine pm_icmp_le (tgt := 182) hG dX12_night_174 rfl (fun q => absurd q (by decide)) (fun _ => ?_)
                              refine pm_iloadi hG dX12_night_177 rfl ?_
                              refine pm_goto (tgt := 187) hG dX12_night_179 rfl ?_
                              exact pm_iret hG hF dX12_night_187 rfl (Nat.le_refl _) (Nat.le_refl _) ⟨_, rfl, ⟨_, _, rfl⟩, rfl⟩
                            · refine pm_iloadi hG dX12_night_155 rfl ?_
                              refine pm_bipush (v := (-2)) hG dX12_night_157 (by decide) ?_
                              refine pm_icmp_le (tgt := 166) hG dX12_night_159 rfl (fun q => absurd q (by decide)) (fun _ => ?_)
                              refine pm_iconst (v := nI 1) hG dX12_night_162 (by decide) ?_
                              refine pm_goto (tgt := 187) hG dX12_night_163 rfl ?_
                              exact pm_iret hG hF dX12_night_187 rfl (Nat.le_refl _) (Nat.le_refl _) ⟨_, rfl, ⟨_, _, rfl⟩, rfl⟩
                      · refine pm_iloadi hG dX12_night_84 rfl ?_
                        refine pm_top (v := nI i15) (nI_pred _) ?_
                        refine pm_ifN_lt hG dX12_night_86 rfl (by omega) ?_
                        refine pm_aloadn hG dX12_night_89 rfl ?_
                        refine pm_iconst (v := nI 0) hG dX12_night_90 (by decide) ?_
                        refine pm_iloadn hG dX12_night_91 rfl ?_
                        refine pm_top (v := nI k3) ek3 ?_
                        refine pm_iloadi hG dX12_night_92 rfl ?_
                        refine pm_top (v := nI i15) (nI_pred _) ?_
                        refine pm_callV (As := [.int (nI 0), .int (nI k3), .int (nI i15)]) (rest := []) hG hR dX12_night_94 (lkX12_264 _ rfl) okV_X12_canTake rfl rfl (m_canTake (d := 6) (by decide) hn hz (by omega)) rfl rfl hdd (Nat.le_refl _) (Nat.le_refl _) (by decide) (pm_ki (fun v29 σ' cnt' hq => ?_))
                        obtain ⟨rfl, rfl, bv29⟩ := hq
                        refine pm_if_eq (tgt := 118) hG dX12_night_97 rfl (fun c31 => ?_) (fun c31 => ?_)
                        · refine pm_iloadi hG dX12_night_118 rfl ?_
                          refine pm_istoreXi (loc' := [some (.ref (B + 54)), some (.int za), some (.int zb), some (.int zc), some (.int zd), some (.int x15_5), some (.int (nI (i15 + 1) - nI 1))]) hG dX12_night_120 (by decide) (pm_c1b rfl) rfl ?_
                          refine pm_iincX (v := nI (i15 + 1) - nI 1 + (-1)) (loc' := [some (.ref (B + 54)), some (.int za), some (.int zb), some (.int zc), some (.int zd), some (.int x15_5), some (.int (nI (i15 + 1) - nI 1 + (-1)))]) hG dX12_night_122 rfl (by rfl) (by decide) (pm_c1b rfl) rfl ?_
                          refine pm_goto (tgt := 84) hG dX12_night_125 rfl ?_
                          refine pm_le (loc' := [some (.ref (B + 54)), some (.int za), some (.int zb), some (.int zc), some (.int zd), some (.int x15_5), some (.int (nI i15 - nI 1))]) (by rw [nI_dn]) ?_
                          exact ih15 I15 A15 x15_5 i15 (by omega) (by omega)
                        · refine pm_aloadn hG dX12_night_100 rfl ?_
                          refine pm_iloadi hG dX12_night_101 rfl ?_
                          refine pm_top (v := nI i15) (nI_pred _) ?_
                          refine pm_iloadn hG dX12_night_103 rfl ?_
                          refine pm_top (v := nI 1) eH ?_
                          refine pm_iconst (v := nI 0) hG dX12_night_104 (by decide) ?_
                          refine pm_iloadn hG dX12_night_105 rfl ?_
                          refine pm_top (v := nI k3) ek3 ?_
                          refine pm_iloadn hG dX12_night_106 rfl ?_
                          refine pm_top (v := nI k9) ek9 ?_
                          refine pm_callV (As := [.int (nI i15), .int (nI 1), .int (nI 0), .int (nI k3), .int (nI k9)]) (rest := []) hG hR dX12_night_107 (lkX12_260 _ rfl) okV_X12_winsBy rfl rfl (m_winsBy_n5_c1 (d := 6) (by decide) hn hz (by omega)) rfl rfl hdd (Nat.le_refl _) (Nat.le_refl _) (by decide) (pm_ki (fun v32 σ' cnt' hq => ?_))
                          obtain ⟨⟨I33, A33, rfl⟩, rfl, bv32⟩ := hq
                          refine pm_if_eq (tgt := 118) hG dX12_night_110 rfl (fun c34 => ?_) (fun c34 => ?_)
                          · refine pm_iloadi hG dX12_night_118 rfl ?_
                            refine pm_istoreXi (loc' := [some (.ref (B + 54)), some (.int za), some (.int zb), some (.int zc), some (.int zd), some (.int x15_5), some (.int (nI (i15 + 1) - nI 1))]) hG dX12_night_120 (by decide) (pm_c1b rfl) rfl ?_
                            refine pm_iincX (v := nI (i15 + 1) - nI 1 + (-1)) (loc' := [some (.ref (B + 54)), some (.int za), some (.int zb), some (.int zc), some (.int zd), some (.int x15_5), some (.int (nI (i15 + 1) - nI 1 + (-1)))]) hG dX12_night_122 rfl (by rfl) (by decide) (pm_c1b rfl) rfl ?_
                            refine pm_goto (tgt := 84) hG dX12_night_125 rfl ?_
                            refine pm_le (loc' := [some (.ref (B + 54)), some (.int za), some (.int zb), some (.int zc), some (.int zd), some (.int x15_5), some (.int (nI i15 - nI 1))]) (by rw [nI_dn]) ?_
                            exact ih15 I33 A33 x15_5 i15 (by omega) (by omega)
                          · refine pm_iloadi hG dX12_night_113 rfl ?_
                            refine pm_top (v := nI i15) (nI_pred _) ?_
                            refine pm_goto (tgt := 120) hG dX12_night_115 rfl ?_
                            refine pm_istoreXi (loc' := [some (.ref (B + 54)), some (.int za), some (.int zb), some (.int zc), some (.int zd), some (.int (nI i15)), some (.int (nI (i15 + 1) - nI 1))]) hG dX12_night_120 (by decide) (pm_c1b rfl) rfl ?_
                            refine pm_iincX (v := nI (i15 + 1) - nI 1 + (-1)) (loc' := [some (.ref (B + 54)), some (.int za), some (.int zb), some (.int zc), some (.int zd), some (.int (nI i15)), some (.int (nI (i15 + 1) - nI 1 + (-1)))]) hG dX12_night_122 rfl (by rfl) (by decide) (pm_c1b rfl) rfl ?_
                            refine pm_goto (tgt := 84) hG dX12_night_125 rfl ?_
                            refine pm_le (loc' := [some (.ref (B + 54)), some (.int za), some (.int zb), some (.int zc), some (.int zd), some (.int (nI i15)), some (.int (nI i15 - nI 1))]) (by rw [nI_dn]) ?_
                            exact ih15 I33 A33 (nI i15) i15 (by omega) (by omega)
                  exact loop84_15 _ I13 A13 (-2) 5 (by omega) (Nat.lt_succ_self _)
                · refine pm_aloadn hG dX12_night_53 rfl ?_
                  refine pm_getf hG dX12_night_54 (flX12_43 _ rfl) rfl rfl ?_
                  refine pm_iloadi hG dX12_night_57 rfl ?_
                  refine pm_aloadn hG dX12_night_59 rfl ?_
                  refine pm_getf hG dX12_night_60 (flX12_7 _ rfl) rfl rfl ?_
                  refine pm_sipush (v := nI 1986) hG dX12_night_63 (by decide) ?_
                  refine pm_iloadi hG dX12_night_66 rfl ?_
                  refine pm_iaddN (c := i13 + 1986) hG dX12_night_68 (by omega) ?_
                  refine pm_ialdN hG dX12_night_69 rfl (by decide) (by omega) ?_
                  refine pm_gen (fun x35 ex35 => ?_)
                  refine pm_iastN hG dX12_night_70 rfl (by decide) (by omega) ?_
                  refine mdn_guards (fun A_36 => ?_)
                  refine pm_iincX (v := nI (i13 + 1)) (loc' := [some (.ref (B + 54)), some (.int za), some (.int zb), some (.int zc), some (.int zd), some (.int (nI (i13 + 1))), none]) hG dX12_night_71 rfl (nI_1 _) (by decide) (pm_c1b rfl) rfl ?_
                  refine pm_goto (tgt := 47) hG dX12_night_74 rfl ?_
                  exact ih13 I13 A_36 (i13 + 1) (by omega) (by omega)
            exact loop47_13 _ I A 0 (by omega) (Nat.lt_succ_self _)
          · have eH : zb = nI 2 := by rw [ek6, hH]
            refine pm_iconst (v := nI 0) hG dX12_night_44 (by decide) ?_
            refine pm_istoreXi (loc' := [some (.ref (B + 54)), some (.int za), some (.int zb), some (.int zc), some (.int zd), some (.int (nI 0)), none]) hG dX12_night_45 (by decide) (pm_c1b rfl) rfl ?_
            have loop47_37 : ∀ (m37 : Nat) (I37 : Nat → Int32) (A37 : Nat → Nat → Int32) (i37 : Nat), i37 ≤ 5 → 5 - i37 < m37 → pm_wp mX12_night G B 47 [some (.ref (B + 54)), some (.int za), some (.int zb), some (.int zc), some (.int zd), some (.int (nI i37)), none] [] 0 0 cnt (pm_mid σ (md_L B I37 A37 n k z ac wt pl (nI p0) (nI t0))) := by
              intro m37
              induction m37 with
              | zero => intro I37 A37 i37 _ hm; exact absurd hm (Nat.not_lt_zero _)
              | succ m37 ih37 =>
                intro I37 A37 i37 hi37 hm37
                refine pm_iloadi hG dX12_night_47 rfl ?_
                refine pm_iconst (v := nI 5) hG dX12_night_49 (by decide) ?_
                refine pm_icmpN_ge (tgt := 77) hG dX12_night_50 rfl (by omega) (by omega) (fun c38 => ?_) (fun c38 => ?_)
                · refine pm_bipush (v := (-2)) hG dX12_night_77 (by decide) ?_
                  refine pm_istoreXi (loc' := [some (.ref (B + 54)), some (.int za), some (.int zb), some (.int zc), some (.int zd), some (.int (-2)), none]) hG dX12_night_79 (by decide) (pm_c1b rfl) rfl ?_
                  refine pm_iconst (v := nI 4) hG dX12_night_81 (by decide) ?_
                  refine pm_istoreXi (loc' := [some (.ref (B + 54)), some (.int za), some (.int zb), some (.int zc), some (.int zd), some (.int (-2)), some (.int (nI 4))]) hG dX12_night_82 (by decide) (pm_c1b rfl) rfl ?_
                  have loop84_39 : ∀ (m39 : Nat) (I39 : Nat → Int32) (A39 : Nat → Nat → Int32) (x39_5 : Int32) (i39 : Nat), i39 ≤ 5 → i39 < m39 → pm_wp mX12_night G B 84 [some (.ref (B + 54)), some (.int za), some (.int zb), some (.int zc), some (.int zd), some (.int x39_5), some (.int (nI i39 - nI 1))] [] 0 0 cnt (pm_mid σ (md_L B I39 A39 n k z ac wt pl (nI p0) (nI t0))) := by
                    intro m39
                    induction m39 with
                    | zero => intro I39 A39 x39_5 i39 _ hm; exact absurd hm (Nat.not_lt_zero _)
                    | succ m39 ih39 =>
                      intro I39 A39 x39_5 i39 hi39 hm39
                      rcases i39 with _ | i39
                      · refine pm_iloadi hG dX12_night_84 rfl ?_
                        refine pm_top (v := (-1)) (by decide) ?_
                        refine pm_if_lt (tgt := 128) hG dX12_night_86 rfl (fun _ => ?_) (fun q => absurd q (by decide))
                        refine pm_iloadi hG dX12_night_128 rfl ?_
                        refine pm_bipush (v := (-2)) hG dX12_night_130 (by decide) ?_
                        refine pm_icmp_ne (tgt := 150) hG dX12_night_132 rfl (fun c40 => ?_) (fun c40 => ?_)
                        · refine pm_iloadi hG dX12_night_150 rfl ?_
                          refine pm_top (v := nI k12) ek12 ?_
                          refine pm_ifN_ne (tgt := 170) hG dX12_night_152 rfl (by omega) (fun c41 => ?_) (fun c41 => ?_)
                          · refine pm_iloadi hG dX12_night_170 rfl ?_
                            refine pm_bipush (v := (-2)) hG dX12_night_172 (by decide) ?_
                            refine pm_icmp_le (tgt := 182) hG dX12_night_174 rfl (fun c42 => ?_) (fun c42 => ?_)
                            · refine pm_aloadn hG dX12_night_182 rfl ?_
                              refine pm_iconst (v := nI 2) hG dX12_night_183 (by decide) ?_
                              refine pm_callV (As := [.int (nI 2)]) (rest := []) hG hR dX12_night_184 (lkX12_80 _ rfl) okV_X12_finds rfl rfl (m_finds (d := 6) (by decide) hn hz (by omega)) rfl rfl hdd (Nat.le_refl _) (Nat.le_refl _) (by decide) (pm_ki (fun v43 σ' cnt' hq => ?_))
                              obtain ⟨⟨I44, A44, rfl⟩, rfl⟩ := hq
                              exact pm_iret hG hF dX12_night_187 rfl (Nat.le_refl _) (Nat.le_refl _) ⟨_, rfl, ⟨_, _, rfl⟩, rfl⟩
                            · refine pm_iloadi hG dX12_night_177 rfl ?_
                              refine pm_goto (tgt := 187) hG dX12_night_179 rfl ?_
                              exact pm_iret hG hF dX12_night_187 rfl (Nat.le_refl _) (Nat.le_refl _) ⟨_, rfl, ⟨_, _, rfl⟩, rfl⟩
                          · refine pm_iloadi hG dX12_night_155 rfl ?_
                            refine pm_bipush (v := (-2)) hG dX12_night_157 (by decide) ?_
                            refine pm_icmp_le (tgt := 166) hG dX12_night_159 rfl (fun c45 => ?_) (fun c45 => ?_)
                            · refine pm_iconst (v := nI 0) hG dX12_night_166 (by decide) ?_
                              refine pm_goto (tgt := 187) hG dX12_night_167 rfl ?_
                              exact pm_iret hG hF dX12_night_187 rfl (Nat.le_refl _) (Nat.le_refl _) ⟨_, rfl, ⟨_, _, rfl⟩, rfl⟩
                            · refine pm_iconst (v := nI 1) hG dX12_night_162 (by decide) ?_
                              refine pm_goto (tgt := 187) hG dX12_night_163 rfl ?_
                              exact pm_iret hG hF dX12_night_187 rfl (Nat.le_refl _) (Nat.le_refl _) ⟨_, rfl, ⟨_, _, rfl⟩, rfl⟩
                        · refine pm_aloadn hG dX12_night_135 rfl ?_
                          refine pm_iconst (v := (-1)) hG dX12_night_136 (by decide) ?_
                          refine pm_iloadn hG dX12_night_137 rfl ?_
                          refine pm_top (v := nI 2) eH ?_
                          refine pm_iconst (v := nI 0) hG dX12_night_138 (by decide) ?_
                          refine pm_iloadn hG dX12_night_139 rfl ?_
                          refine pm_top (v := nI k3) ek3 ?_
                          refine pm_iloadn hG dX12_night_140 rfl ?_
                          refine pm_top (v := nI k9) ek9 ?_
                          refine pm_callV (As := [.int (-1), .int (nI 2), .int (nI 0), .int (nI k3), .int (nI k9)]) (rest := []) hG hR dX12_night_141 (lkX12_260 _ rfl) okV_X12_winsBy rfl rfl (m_winsBy_m_c2 (d := 6) (by decide) hn hz) rfl rfl hdd (Nat.le_refl _) (Nat.le_refl _) (by decide) (pm_ki (fun v46 σ' cnt' hq => ?_))
                          obtain ⟨⟨I47, A47, rfl⟩, rfl, bv46⟩ := hq
                          refine pm_if_eq (tgt := 150) hG dX12_night_144 rfl (fun c48 => ?_) (fun c48 => ?_)
                          · refine pm_iloadi hG dX12_night_150 rfl ?_
                            refine pm_top (v := nI k12) ek12 ?_
                            refine pm_ifN_ne (tgt := 170) hG dX12_night_152 rfl (by omega) (fun c49 => ?_) (fun c49 => ?_)
                            · refine pm_iloadi hG dX12_night_170 rfl ?_
                              refine pm_top (v := (-2)) c40 ?_
                              refine pm_bipush (v := (-2)) hG dX12_night_172 (by decide) ?_
                              refine pm_icmp_le (tgt := 182) hG dX12_night_174 rfl (fun _ => ?_) (fun q => absurd q (by decide))
                              refine pm_aloadn hG dX12_night_182 rfl ?_
                              refine pm_iconst (v := nI 2) hG dX12_night_183 (by decide) ?_
                              refine pm_callV (As := [.int (nI 2)]) (rest := []) hG hR dX12_night_184 (lkX12_80 _ rfl) okV_X12_finds rfl rfl (m_finds (d := 6) (by decide) hn hz (by omega)) rfl rfl hdd (Nat.le_refl _) (Nat.le_refl _) (by decide) (pm_ki (fun v50 σ' cnt' hq => ?_))
                              obtain ⟨⟨I51, A51, rfl⟩, rfl⟩ := hq
                              exact pm_iret hG hF dX12_night_187 rfl (Nat.le_refl _) (Nat.le_refl _) ⟨_, rfl, ⟨_, _, rfl⟩, rfl⟩
                            · refine pm_iloadi hG dX12_night_155 rfl ?_
                              refine pm_top (v := (-2)) c40 ?_
                              refine pm_bipush (v := (-2)) hG dX12_night_157 (by decide) ?_
                              refine pm_icmp_le (tgt := 166) hG dX12_night_159 rfl (fun _ => ?_) (fun q => absurd q (by decide))
                              refine pm_iconst (v := nI 0) hG dX12_night_166 (by decide) ?_
                              refine pm_goto (tgt := 187) hG dX12_night_167 rfl ?_
                              exact pm_iret hG hF dX12_night_187 rfl (Nat.le_refl _) (Nat.le_refl _) ⟨_, rfl, ⟨_, _, rfl⟩, rfl⟩
                          · refine pm_iconst (v := (-1)) hG dX12_night_147 (by decide) ?_
                            refine pm_istoreXi (loc' := [some (.ref (B + 54)), some (.int za), some (.int zb), some (.int zc), some (.int zd), some (.int (-1)), some (.int (nI 0 - nI 1))]) hG dX12_night_148 (by decide) (pm_c1b rfl) rfl ?_
                            refine pm_iloadi hG dX12_night_150 rfl ?_
                            refine pm_top (v := nI k12) ek12 ?_
                            refine pm_ifN_ne (tgt := 170) hG dX12_night_152 rfl (by omega) (fun c52 => ?_) (fun c52 => ?_)
                            · refine pm_iloadi hG dX12_night_170 rfl ?_
                              refine pm_bipush (v := (-2)) hG dX12_night_172 (by decide) ?_
                              refine pm_icmp_le (tgt := 182) hG dX12_night_174 rfl (fun q => absurd q (by decide)) (fun _ => ?_)
                              refine pm_iloadi hG dX12_night_177 rfl ?_
                              refine pm_goto (tgt := 187) hG dX12_night_179 rfl ?_
                              exact pm_iret hG hF dX12_night_187 rfl (Nat.le_refl _) (Nat.le_refl _) ⟨_, rfl, ⟨_, _, rfl⟩, rfl⟩
                            · refine pm_iloadi hG dX12_night_155 rfl ?_
                              refine pm_bipush (v := (-2)) hG dX12_night_157 (by decide) ?_
                              refine pm_icmp_le (tgt := 166) hG dX12_night_159 rfl (fun q => absurd q (by decide)) (fun _ => ?_)
                              refine pm_iconst (v := nI 1) hG dX12_night_162 (by decide) ?_
                              refine pm_goto (tgt := 187) hG dX12_night_163 rfl ?_
                              exact pm_iret hG hF dX12_night_187 rfl (Nat.le_refl _) (Nat.le_refl _) ⟨_, rfl, ⟨_, _, rfl⟩, rfl⟩
                      · refine pm_iloadi hG dX12_night_84 rfl ?_
                        refine pm_top (v := nI i39) (nI_pred _) ?_
                        refine pm_ifN_lt hG dX12_night_86 rfl (by omega) ?_
                        refine pm_aloadn hG dX12_night_89 rfl ?_
                        refine pm_iconst (v := nI 0) hG dX12_night_90 (by decide) ?_
                        refine pm_iloadn hG dX12_night_91 rfl ?_
                        refine pm_top (v := nI k3) ek3 ?_
                        refine pm_iloadi hG dX12_night_92 rfl ?_
                        refine pm_top (v := nI i39) (nI_pred _) ?_
                        refine pm_callV (As := [.int (nI 0), .int (nI k3), .int (nI i39)]) (rest := []) hG hR dX12_night_94 (lkX12_264 _ rfl) okV_X12_canTake rfl rfl (m_canTake (d := 6) (by decide) hn hz (by omega)) rfl rfl hdd (Nat.le_refl _) (Nat.le_refl _) (by decide) (pm_ki (fun v53 σ' cnt' hq => ?_))
                        obtain ⟨rfl, rfl, bv53⟩ := hq
                        refine pm_if_eq (tgt := 118) hG dX12_night_97 rfl (fun c55 => ?_) (fun c55 => ?_)
                        · refine pm_iloadi hG dX12_night_118 rfl ?_
                          refine pm_istoreXi (loc' := [some (.ref (B + 54)), some (.int za), some (.int zb), some (.int zc), some (.int zd), some (.int x39_5), some (.int (nI (i39 + 1) - nI 1))]) hG dX12_night_120 (by decide) (pm_c1b rfl) rfl ?_
                          refine pm_iincX (v := nI (i39 + 1) - nI 1 + (-1)) (loc' := [some (.ref (B + 54)), some (.int za), some (.int zb), some (.int zc), some (.int zd), some (.int x39_5), some (.int (nI (i39 + 1) - nI 1 + (-1)))]) hG dX12_night_122 rfl (by rfl) (by decide) (pm_c1b rfl) rfl ?_
                          refine pm_goto (tgt := 84) hG dX12_night_125 rfl ?_
                          refine pm_le (loc' := [some (.ref (B + 54)), some (.int za), some (.int zb), some (.int zc), some (.int zd), some (.int x39_5), some (.int (nI i39 - nI 1))]) (by rw [nI_dn]) ?_
                          exact ih39 I39 A39 x39_5 i39 (by omega) (by omega)
                        · refine pm_aloadn hG dX12_night_100 rfl ?_
                          refine pm_iloadi hG dX12_night_101 rfl ?_
                          refine pm_top (v := nI i39) (nI_pred _) ?_
                          refine pm_iloadn hG dX12_night_103 rfl ?_
                          refine pm_top (v := nI 2) eH ?_
                          refine pm_iconst (v := nI 0) hG dX12_night_104 (by decide) ?_
                          refine pm_iloadn hG dX12_night_105 rfl ?_
                          refine pm_top (v := nI k3) ek3 ?_
                          refine pm_iloadn hG dX12_night_106 rfl ?_
                          refine pm_top (v := nI k9) ek9 ?_
                          refine pm_callV (As := [.int (nI i39), .int (nI 2), .int (nI 0), .int (nI k3), .int (nI k9)]) (rest := []) hG hR dX12_night_107 (lkX12_260 _ rfl) okV_X12_winsBy rfl rfl (m_winsBy_n5_c2 (d := 6) (by decide) hn hz (by omega)) rfl rfl hdd (Nat.le_refl _) (Nat.le_refl _) (by decide) (pm_ki (fun v56 σ' cnt' hq => ?_))
                          obtain ⟨⟨I57, A57, rfl⟩, rfl, bv56⟩ := hq
                          refine pm_if_eq (tgt := 118) hG dX12_night_110 rfl (fun c58 => ?_) (fun c58 => ?_)
                          · refine pm_iloadi hG dX12_night_118 rfl ?_
                            refine pm_istoreXi (loc' := [some (.ref (B + 54)), some (.int za), some (.int zb), some (.int zc), some (.int zd), some (.int x39_5), some (.int (nI (i39 + 1) - nI 1))]) hG dX12_night_120 (by decide) (pm_c1b rfl) rfl ?_
                            refine pm_iincX (v := nI (i39 + 1) - nI 1 + (-1)) (loc' := [some (.ref (B + 54)), some (.int za), some (.int zb), some (.int zc), some (.int zd), some (.int x39_5), some (.int (nI (i39 + 1) - nI 1 + (-1)))]) hG dX12_night_122 rfl (by rfl) (by decide) (pm_c1b rfl) rfl ?_
                            refine pm_goto (tgt := 84) hG dX12_night_125 rfl ?_
                            refine pm_le (loc' := [some (.ref (B + 54)), some (.int za), some (.int zb), some (.int zc), some (.int zd), some (.int x39_5), some (.int (nI i39 - nI 1))]) (by rw [nI_dn]) ?_
                            exact ih39 I57 A57 x39_5 i39 (by omega) (by omega)
                          · refine pm_iloadi hG dX12_night_113 rfl ?_
                            refine pm_top (v := nI i39) (nI_pred _) ?_
                            refine pm_goto (tgt := 120) hG dX12_night_115 rfl ?_
                            refine pm_istoreXi (loc' := [some (.ref (B + 54)), some (.int za), some (.int zb), some (.int zc), some (.int zd), some (.int (nI i39)), some (.int (nI (i39 + 1) - nI 1))]) hG dX12_night_120 (by decide) (pm_c1b rfl) rfl ?_
                            refine pm_iincX (v := nI (i39 + 1) - nI 1 + (-1)) (loc' := [some (.ref (B + 54)), some (.int za), some (.int zb), some (.int zc), some (.int zd), some (.int (nI i39)), some (.int (nI (i39 + 1) - nI 1 + (-1)))]) hG dX12_night_122 rfl (by rfl) (by decide) (pm_c1b rfl) rfl ?_
                            refine pm_goto (tgt := 84) hG dX12_night_125 rfl ?_
                            refine pm_le (loc' := [some (.ref (B + 54)), some (.int za), some (.int zb), some (.int zc), some (.int zd), some (.int (nI i39)), some (.int (nI i39 - nI 1))]) (by rw [nI_dn]) ?_
                            exact ih39 I57 A57 (nI i39) i39 (by omega) (by omega)
                  exact loop84_39 _ I37 A37 (-2) 5 (by omega) (Nat.lt_succ_self _)
                · refine pm_aloadn hG dX12_night_53 rfl ?_
                  refine pm_getf hG dX12_night_54 (flX12_43 _ rfl) rfl rfl ?_
                  refine pm_iloadi hG dX12_night_57 rfl ?_
                  refine pm_aloadn hG dX12_night_59 rfl ?_
                  refine pm_getf hG dX12_night_60 (flX12_7 _ rfl) rfl rfl ?_
                  refine pm_sipush (v := nI 1986) hG dX12_night_63 (by decide) ?_
                  refine pm_iloadi hG dX12_night_66 rfl ?_
                  refine pm_iaddN (c := i37 + 1986) hG dX12_night_68 (by omega) ?_
                  refine pm_ialdN hG dX12_night_69 rfl (by decide) (by omega) ?_
                  refine pm_gen (fun x59 ex59 => ?_)
                  refine pm_iastN hG dX12_night_70 rfl (by decide) (by omega) ?_
                  refine mdn_guards (fun A_60 => ?_)
                  refine pm_iincX (v := nI (i37 + 1)) (loc' := [some (.ref (B + 54)), some (.int za), some (.int zb), some (.int zc), some (.int zd), some (.int (nI (i37 + 1))), none]) hG dX12_night_71 rfl (nI_1 _) (by decide) (pm_c1b rfl) rfl ?_
                  refine pm_goto (tgt := 47) hG dX12_night_74 rfl ?_
                  exact ih37 I37 A_60 (i37 + 1) (by omega) (by omega)
            exact loop47_37 _ I A 0 (by omega) (Nat.lt_succ_self _)
          · have eH : zb = nI 3 := by rw [ek6, hH]
            refine pm_iconst (v := nI 0) hG dX12_night_44 (by decide) ?_
            refine pm_istoreXi (loc' := [some (.ref (B + 54)), some (.int za), some (.int zb), some (.int zc), some (.int zd), some (.int (nI 0)), none]) hG dX12_night_45 (by decide) (pm_c1b rfl) rfl ?_
            have loop47_61 : ∀ (m61 : Nat) (I61 : Nat → Int32) (A61 : Nat → Nat → Int32) (i61 : Nat), i61 ≤ 5 → 5 - i61 < m61 → pm_wp mX12_night G B 47 [some (.ref (B + 54)), some (.int za), some (.int zb), some (.int zc), some (.int zd), some (.int (nI i61)), none] [] 0 0 cnt (pm_mid σ (md_L B I61 A61 n k z ac wt pl (nI p0) (nI t0))) := by
              intro m61
              induction m61 with
              | zero => intro I61 A61 i61 _ hm; exact absurd hm (Nat.not_lt_zero _)
              | succ m61 ih61 =>
                intro I61 A61 i61 hi61 hm61
                refine pm_iloadi hG dX12_night_47 rfl ?_
                refine pm_iconst (v := nI 5) hG dX12_night_49 (by decide) ?_
                refine pm_icmpN_ge (tgt := 77) hG dX12_night_50 rfl (by omega) (by omega) (fun c62 => ?_) (fun c62 => ?_)
                · refine pm_bipush (v := (-2)) hG dX12_night_77 (by decide) ?_
                  refine pm_istoreXi (loc' := [some (.ref (B + 54)), some (.int za), some (.int zb), some (.int zc), some (.int zd), some (.int (-2)), none]) hG dX12_night_79 (by decide) (pm_c1b rfl) rfl ?_
                  refine pm_iconst (v := nI 4) hG dX12_night_81 (by decide) ?_
                  refine pm_istoreXi (loc' := [some (.ref (B + 54)), some (.int za), some (.int zb), some (.int zc), some (.int zd), some (.int (-2)), some (.int (nI 4))]) hG dX12_night_82 (by decide) (pm_c1b rfl) rfl ?_
                  have loop84_63 : ∀ (m63 : Nat) (I63 : Nat → Int32) (A63 : Nat → Nat → Int32) (x63_5 : Int32) (i63 : Nat), i63 ≤ 5 → i63 < m63 → pm_wp mX12_night G B 84 [some (.ref (B + 54)), some (.int za), some (.int zb), some (.int zc), some (.int zd), some (.int x63_5), some (.int (nI i63 - nI 1))] [] 0 0 cnt (pm_mid σ (md_L B I63 A63 n k z ac wt pl (nI p0) (nI t0))) := by
                    intro m63
                    induction m63 with
                    | zero => intro I63 A63 x63_5 i63 _ hm; exact absurd hm (Nat.not_lt_zero _)
                    | succ m63 ih63 =>
                      intro I63 A63 x63_5 i63 hi63 hm63
                      rcases i63 with _ | i63
                      · refine pm_iloadi hG dX12_night_84 rfl ?_
                        refine pm_top (v := (-1)) (by decide) ?_
                        refine pm_if_lt (tgt := 128) hG dX12_night_86 rfl (fun _ => ?_) (fun q => absurd q (by decide))
                        refine pm_iloadi hG dX12_night_128 rfl ?_
                        refine pm_bipush (v := (-2)) hG dX12_night_130 (by decide) ?_
                        refine pm_icmp_ne (tgt := 150) hG dX12_night_132 rfl (fun c64 => ?_) (fun c64 => ?_)
                        · refine pm_iloadi hG dX12_night_150 rfl ?_
                          refine pm_top (v := nI k12) ek12 ?_
                          refine pm_ifN_ne (tgt := 170) hG dX12_night_152 rfl (by omega) (fun c65 => ?_) (fun c65 => ?_)
                          · refine pm_iloadi hG dX12_night_170 rfl ?_
                            refine pm_bipush (v := (-2)) hG dX12_night_172 (by decide) ?_
                            refine pm_icmp_le (tgt := 182) hG dX12_night_174 rfl (fun c66 => ?_) (fun c66 => ?_)
                            · refine pm_aloadn hG dX12_night_182 rfl ?_
                              refine pm_iconst (v := nI 2) hG dX12_night_183 (by decide) ?_
                              refine pm_callV (As := [.int (nI 2)]) (rest := []) hG hR dX12_night_184 (lkX12_80 _ rfl) okV_X12_finds rfl rfl (m_finds (d := 6) (by decide) hn hz (by omega)) rfl rfl hdd (Nat.le_refl _) (Nat.le_refl _) (by decide) (pm_ki (fun v67 σ' cnt' hq => ?_))
                              obtain ⟨⟨I68, A68, rfl⟩, rfl⟩ := hq
                              exact pm_iret hG hF dX12_night_187 rfl (Nat.le_refl _) (Nat.le_refl _) ⟨_, rfl, ⟨_, _, rfl⟩, rfl⟩
                            · refine pm_iloadi hG dX12_night_177 rfl ?_
                              refine pm_goto (tgt := 187) hG dX12_night_179 rfl ?_
                              exact pm_iret hG hF dX12_night_187 rfl (Nat.le_refl _) (Nat.le_refl _) ⟨_, rfl, ⟨_, _, rfl⟩, rfl⟩
                          · refine pm_iloadi hG dX12_night_155 rfl ?_
                            refine pm_bipush (v := (-2)) hG dX12_night_157 (by decide) ?_
                            refine pm_icmp_le (tgt := 166) hG dX12_night_159 rfl (fun c69 => ?_) (fun c69 => ?_)
                            · refine pm_iconst (v := nI 0) hG dX12_night_166 (by decide) ?_
                              refine pm_goto (tgt := 187) hG dX12_night_167 rfl ?_
                              exact pm_iret hG hF dX12_night_187 rfl (Nat.le_refl _) (Nat.le_refl _) ⟨_, rfl, ⟨_, _, rfl⟩, rfl⟩
                            · refine pm_iconst (v := nI 1) hG dX12_night_162 (by decide) ?_
                              refine pm_goto (tgt := 187) hG dX12_night_163 rfl ?_
                              exact pm_iret hG hF dX12_night_187 rfl (Nat.le_refl _) (Nat.le_refl _) ⟨_, rfl, ⟨_, _, rfl⟩, rfl⟩
                        · refine pm_aloadn hG dX12_night_135 rfl ?_
                          refine pm_iconst (v := (-1)) hG dX12_night_136 (by decide) ?_
                          refine pm_iloadn hG dX12_night_137 rfl ?_
                          refine pm_top (v := nI 3) eH ?_
                          refine pm_iconst (v := nI 0) hG dX12_night_138 (by decide) ?_
                          refine pm_iloadn hG dX12_night_139 rfl ?_
                          refine pm_top (v := nI k3) ek3 ?_
                          refine pm_iloadn hG dX12_night_140 rfl ?_
                          refine pm_top (v := nI k9) ek9 ?_
                          refine pm_callV (As := [.int (-1), .int (nI 3), .int (nI 0), .int (nI k3), .int (nI k9)]) (rest := []) hG hR dX12_night_141 (lkX12_260 _ rfl) okV_X12_winsBy rfl rfl (m_winsBy_m_c3 (d := 6) (by decide) hn hz) rfl rfl hdd (Nat.le_refl _) (Nat.le_refl _) (by decide) (pm_ki (fun v70 σ' cnt' hq => ?_))
                          obtain ⟨⟨I71, A71, rfl⟩, rfl, bv70⟩ := hq
                          refine pm_if_eq (tgt := 150) hG dX12_night_144 rfl (fun c72 => ?_) (fun c72 => ?_)
                          · refine pm_iloadi hG dX12_night_150 rfl ?_
                            refine pm_top (v := nI k12) ek12 ?_
                            refine pm_ifN_ne (tgt := 170) hG dX12_night_152 rfl (by omega) (fun c73 => ?_) (fun c73 => ?_)
                            · refine pm_iloadi hG dX12_night_170 rfl ?_
                              refine pm_top (v := (-2)) c64 ?_
                              refine pm_bipush (v := (-2)) hG dX12_night_172 (by decide) ?_
                              refine pm_icmp_le (tgt := 182) hG dX12_night_174 rfl (fun _ => ?_) (fun q => absurd q (by decide))
                              refine pm_aloadn hG dX12_night_182 rfl ?_
                              refine pm_iconst (v := nI 2) hG dX12_night_183 (by decide) ?_
                              refine pm_callV (As := [.int (nI 2)]) (rest := []) hG hR dX12_night_184 (lkX12_80 _ rfl) okV_X12_finds rfl rfl (m_finds (d := 6) (by decide) hn hz (by omega)) rfl rfl hdd (Nat.le_refl _) (Nat.le_refl _) (by decide) (pm_ki (fun v74 σ' cnt' hq => ?_))
                              obtain ⟨⟨I75, A75, rfl⟩, rfl⟩ := hq
                              exact pm_iret hG hF dX12_night_187 rfl (Nat.le_refl _) (Nat.le_refl _) ⟨_, rfl, ⟨_, _, rfl⟩, rfl⟩
                            · refine pm_iloadi hG dX12_night_155 rfl ?_
                              refine pm_top (v := (-2)) c64 ?_
                              refine pm_bipush (v := (-2)) hG dX12_night_157 (by decide) ?_
                              refine pm_icmp_le (tgt := 166) hG dX12_night_159 rfl (fun _ => ?_) (fun q => absurd q (by decide))
                              refine pm_iconst (v := nI 0) hG dX12_night_166 (by decide) ?_
                              refine pm_goto (tgt := 187) hG dX12_night_167 rfl ?_
                              exact pm_iret hG hF dX12_night_187 rfl (Nat.le_refl _) (Nat.le_refl _) ⟨_, rfl, ⟨_, _, rfl⟩, rfl⟩
                          · refine pm_iconst (v := (-1)) hG dX12_night_147 (by decide) ?_
                            refine pm_istoreXi (loc' := [some (.ref (B + 54)), some (.int za), some (.int zb), some (.int zc), some (.int zd), some (.int (-1)), some (.int (nI 0 - nI 1))]) hG dX12_night_148 (by decide) (pm_c1b rfl) rfl ?_
                            refine pm_iloadi hG dX12_night_150 rfl ?_
                            refine pm_top (v := nI k12) ek12 ?_
                            refine pm_ifN_ne (tgt := 170) hG dX12_night_152 rfl (by omega) (fun c76 => ?_) (fun c76 => ?_)
                            · refine pm_iloadi hG dX12_night_170 rfl ?_
                              refine pm_bipush (v := (-2)) hG dX12_night_172 (by decide) ?_
                              refine pm_icmp_le (tgt := 182) hG dX12_night_174 rfl (fun q => absurd q (by decide)) (fun _ => ?_)
                              refine pm_iloadi hG dX12_night_177 rfl ?_
                              refine pm_goto (tgt := 187) hG dX12_night_179 rfl ?_
                              exact pm_iret hG hF dX12_night_187 rfl (Nat.le_refl _) (Nat.le_refl _) ⟨_, rfl, ⟨_, _, rfl⟩, rfl⟩
                            · refine pm_iloadi hG dX12_night_155 rfl ?_
                              refine pm_bipush (v := (-2)) hG dX12_night_157 (by decide) ?_
                              refine pm_icmp_le (tgt := 166) hG dX12_night_159 rfl (fun q => absurd q (by decide)) (fun _ => ?_)
                              refine pm_iconst (v := nI 1) hG dX12_night_162 (by decide) ?_
                              refine pm_goto (tgt := 187) hG dX12_night_163 rfl ?_
                              exact pm_iret hG hF dX12_night_187 rfl (Nat.le_refl _) (Nat.le_refl _) ⟨_, rfl, ⟨_, _, rfl⟩, rfl⟩
                      · refine pm_iloadi hG dX12_night_84 rfl ?_
                        refine pm_top (v := nI i63) (nI_pred _) ?_
                        refine pm_ifN_lt hG dX12_night_86 rfl (by omega) ?_
                        refine pm_aloadn hG dX12_night_89 rfl ?_
                        refine pm_iconst (v := nI 0) hG dX12_night_90 (by decide) ?_
                        refine pm_iloadn hG dX12_night_91 rfl ?_
                        refine pm_top (v := nI k3) ek3 ?_
                        refine pm_iloadi hG dX12_night_92 rfl ?_
                        refine pm_top (v := nI i63) (nI_pred _) ?_
                        refine pm_callV (As := [.int (nI 0), .int (nI k3), .int (nI i63)]) (rest := []) hG hR dX12_night_94 (lkX12_264 _ rfl) okV_X12_canTake rfl rfl (m_canTake (d := 6) (by decide) hn hz (by omega)) rfl rfl hdd (Nat.le_refl _) (Nat.le_refl _) (by decide) (pm_ki (fun v77 σ' cnt' hq => ?_))
                        obtain ⟨rfl, rfl, bv77⟩ := hq
                        refine pm_if_eq (tgt := 118) hG dX12_night_97 rfl (fun c79 => ?_) (fun c79 => ?_)
                        · refine pm_iloadi hG dX12_night_118 rfl ?_
                          refine pm_istoreXi (loc' := [some (.ref (B + 54)), some (.int za), some (.int zb), some (.int zc), some (.int zd), some (.int x63_5), some (.int (nI (i63 + 1) - nI 1))]) hG dX12_night_120 (by decide) (pm_c1b rfl) rfl ?_
                          refine pm_iincX (v := nI (i63 + 1) - nI 1 + (-1)) (loc' := [some (.ref (B + 54)), some (.int za), some (.int zb), some (.int zc), some (.int zd), some (.int x63_5), some (.int (nI (i63 + 1) - nI 1 + (-1)))]) hG dX12_night_122 rfl (by rfl) (by decide) (pm_c1b rfl) rfl ?_
                          refine pm_goto (tgt := 84) hG dX12_night_125 rfl ?_
                          refine pm_le (loc' := [some (.ref (B + 54)), some (.int za), some (.int zb), some (.int zc), some (.int zd), some (.int x63_5), some (.int (nI i63 - nI 1))]) (by rw [nI_dn]) ?_
                          exact ih63 I63 A63 x63_5 i63 (by omega) (by omega)
                        · refine pm_aloadn hG dX12_night_100 rfl ?_
                          refine pm_iloadi hG dX12_night_101 rfl ?_
                          refine pm_top (v := nI i63) (nI_pred _) ?_
                          refine pm_iloadn hG dX12_night_103 rfl ?_
                          refine pm_top (v := nI 3) eH ?_
                          refine pm_iconst (v := nI 0) hG dX12_night_104 (by decide) ?_
                          refine pm_iloadn hG dX12_night_105 rfl ?_
                          refine pm_top (v := nI k3) ek3 ?_
                          refine pm_iloadn hG dX12_night_106 rfl ?_
                          refine pm_top (v := nI k9) ek9 ?_
                          refine pm_callV (As := [.int (nI i63), .int (nI 3), .int (nI 0), .int (nI k3), .int (nI k9)]) (rest := []) hG hR dX12_night_107 (lkX12_260 _ rfl) okV_X12_winsBy rfl rfl (m_winsBy_n5_c3 (d := 6) (by decide) hn hz (by omega)) rfl rfl hdd (Nat.le_refl _) (Nat.le_refl _) (by decide) (pm_ki (fun v80 σ' cnt' hq => ?_))
                          obtain ⟨⟨I81, A81, rfl⟩, rfl, bv80⟩ := hq
                          refine pm_if_eq (tgt := 118) hG dX12_night_110 rfl (fun c82 => ?_) (fun c82 => ?_)
                          · refine pm_iloadi hG dX12_night_118 rfl ?_
                            refine pm_istoreXi (loc' := [some (.ref (B + 54)), some (.int za), some (.int zb), some (.int zc), some (.int zd), some (.int x63_5), some (.int (nI (i63 + 1) - nI 1))]) hG dX12_night_120 (by decide) (pm_c1b rfl) rfl ?_
                            refine pm_iincX (v := nI (i63 + 1) - nI 1 + (-1)) (loc' := [some (.ref (B + 54)), some (.int za), some (.int zb), some (.int zc), some (.int zd), some (.int x63_5), some (.int (nI (i63 + 1) - nI 1 + (-1)))]) hG dX12_night_122 rfl (by rfl) (by decide) (pm_c1b rfl) rfl ?_
                            refine pm_goto (tgt := 84) hG dX12_night_125 rfl ?_
                            refine pm_le (loc' := [some (.ref (B + 54)), some (.int za), some (.int zb), some (.int zc), some (.int zd), some (.int x63_5), some (.int (nI i63 - nI 1))]) (by rw [nI_dn]) ?_
                            exact ih63 I81 A81 x63_5 i63 (by omega) (by omega)
                          · refine pm_iloadi hG dX12_night_113 rfl ?_
                            refine pm_top (v := nI i63) (nI_pred _) ?_
                            refine pm_goto (tgt := 120) hG dX12_night_115 rfl ?_
                            refine pm_istoreXi (loc' := [some (.ref (B + 54)), some (.int za), some (.int zb), some (.int zc), some (.int zd), some (.int (nI i63)), some (.int (nI (i63 + 1) - nI 1))]) hG dX12_night_120 (by decide) (pm_c1b rfl) rfl ?_
                            refine pm_iincX (v := nI (i63 + 1) - nI 1 + (-1)) (loc' := [some (.ref (B + 54)), some (.int za), some (.int zb), some (.int zc), some (.int zd), some (.int (nI i63)), some (.int (nI (i63 + 1) - nI 1 + (-1)))]) hG dX12_night_122 rfl (by rfl) (by decide) (pm_c1b rfl) rfl ?_
                            refine pm_goto (tgt := 84) hG dX12_night_125 rfl ?_
                            refine pm_le (loc' := [some (.ref (B + 54)), some (.int za), some (.int zb), some (.int zc), some (.int zd), some (.int (nI i63)), some (.int (nI i63 - nI 1))]) (by rw [nI_dn]) ?_
                            exact ih63 I81 A81 (nI i63) i63 (by omega) (by omega)
                  exact loop84_63 _ I61 A61 (-2) 5 (by omega) (Nat.lt_succ_self _)
                · refine pm_aloadn hG dX12_night_53 rfl ?_
                  refine pm_getf hG dX12_night_54 (flX12_43 _ rfl) rfl rfl ?_
                  refine pm_iloadi hG dX12_night_57 rfl ?_
                  refine pm_aloadn hG dX12_night_59 rfl ?_
                  refine pm_getf hG dX12_night_60 (flX12_7 _ rfl) rfl rfl ?_
                  refine pm_sipush (v := nI 1986) hG dX12_night_63 (by decide) ?_
                  refine pm_iloadi hG dX12_night_66 rfl ?_
                  refine pm_iaddN (c := i61 + 1986) hG dX12_night_68 (by omega) ?_
                  refine pm_ialdN hG dX12_night_69 rfl (by decide) (by omega) ?_
                  refine pm_gen (fun x83 ex83 => ?_)
                  refine pm_iastN hG dX12_night_70 rfl (by decide) (by omega) ?_
                  refine mdn_guards (fun A_84 => ?_)
                  refine pm_iincX (v := nI (i61 + 1)) (loc' := [some (.ref (B + 54)), some (.int za), some (.int zb), some (.int zc), some (.int zd), some (.int (nI (i61 + 1))), none]) hG dX12_night_71 rfl (nI_1 _) (by decide) (pm_c1b rfl) rfl ?_
                  refine pm_goto (tgt := 47) hG dX12_night_74 rfl ?_
                  exact ih61 I61 A_84 (i61 + 1) (by omega) (by omega)
            exact loop47_61 _ I A 0 (by omega) (Nat.lt_succ_self _)
        · refine pm_ifN_ne (tgt := 44) hG dX12_night_35 rfl (by omega) (fun q => absurd q (by omega)) (fun _ => ?_)
          refine pm_aloadn hG dX12_night_38 rfl ?_
          refine pm_iconst (v := nI 1) hG dX12_night_39 (by decide) ?_
          refine pm_callV (As := [.int (nI 1)]) (rest := []) hG hR dX12_night_40 (lkX12_80 _ rfl) okV_X12_finds rfl rfl (m_finds (d := 6) (by decide) hn hz (by omega)) rfl rfl hdd (Nat.le_refl _) (Nat.le_refl _) (by decide) (pm_ki (fun v85 σ' cnt' hq => ?_))
          obtain ⟨⟨I86, A86, rfl⟩, rfl⟩ := hq
          exact pm_iret hG hF dX12_night_43 rfl (Nat.le_refl _) (Nat.le_refl _) ⟨_, rfl, ⟨_, _, rfl⟩, rfl⟩
      · refine pm_ifN_eq (tgt := 38) hG dX12_night_25 rfl (by omega) (fun _ => ?_) (fun q => absurd q (by omega))
        refine pm_aloadn hG dX12_night_38 rfl ?_
        refine pm_iconst (v := nI 1) hG dX12_night_39 (by decide) ?_
        refine pm_callV (As := [.int (nI 1)]) (rest := []) hG hR dX12_night_40 (lkX12_80 _ rfl) okV_X12_finds rfl rfl (m_finds (d := 6) (by decide) hn hz (by omega)) rfl rfl hdd (Nat.le_refl _) (Nat.le_refl _) (by decide) (pm_ki (fun v87 σ' cnt' hq => ?_))
        obtain ⟨⟨I88, A88, rfl⟩, rfl⟩ := hq
        exact pm_iret hG hF dX12_night_43 rfl (Nat.le_refl _) (Nat.le_refl _) ⟨_, rfl, ⟨_, _, rfl⟩, rfl⟩
    · refine pm_ifN_eq (tgt := 38) hG dX12_night_16 rfl (by omega) (fun _ => ?_) (fun q => absurd q (by omega))
      refine pm_aloadn hG dX12_night_38 rfl ?_
      refine pm_iconst (v := nI 1) hG dX12_night_39 (by decide) ?_
      refine pm_callV (As := [.int (nI 1)]) (rest := []) hG hR dX12_night_40 (lkX12_80 _ rfl) okV_X12_finds rfl rfl (m_finds (d := 6) (by decide) hn hz (by omega)) rfl rfl hdd (Nat.le_refl _) (Nat.le_refl _) (by decide) (pm_ki (fun v89 σ' cnt' hq => ?_))
      obtain ⟨⟨I90, A90, rfl⟩, rfl⟩ := hq
      exact pm_iret hG hF dX12_night_43 rfl (Nat.le_refl _) (Nat.le_refl _) ⟨_, rfl, ⟨_, _, rfl⟩, rfl⟩
  · refine pm_ifN_eq (tgt := 38) hG dX12_night_7 rfl (by omega) (fun _ => ?_) (fun q => absurd q (by omega))
    refine pm_aloadn hG dX12_night_38 rfl ?_
    refine pm_iconst (v := nI 1) hG dX12_night_39 (by decide) ?_
    refine pm_callV (As := [.int (nI 1)]) (rest := []) hG hR dX12_night_40 (lkX12_80 _ rfl) okV_X12_finds rfl rfl (m_finds (d := 6) (by decide) hn hz (by omega)) rfl rfl hdd (Nat.le_refl _) (Nat.le_refl _) (by decide) (pm_ki (fun v91 σ' cnt' hq => ?_))
    obtain ⟨⟨I92, A92, rfl⟩, rfl⟩ := hq
    exact pm_iret hG hF dX12_night_43 rfl (Nat.le_refl _) (Nat.le_refl _) ⟨_, rfl, ⟨_, _, rfl⟩, rfl⟩

set_option maxRecDepth 100000 in
set_option maxHeartbeats 4000000 in
theorem m_obeys {d B cnt p0 t0 : Nat} {σ : pm_S} {I : Nat → Int32} {A : Nat → Nat → Int32} {n k z : Nat → Int32} {ac wt pl : Int32} {aa c0 c1 : Nat} (hdd : 5 ≤ d) (hn : KI n) (hr : NR n) (hz : SZ z) (haa : aa < 40) (ec0 : n (12 * aa + 1294) = nI c0) (hc0 : c0 < 20) (ec1 : n 5 = nI c1) (hc1 : c1 < 41) (hl5 : aa < c1) (hob : obOK n aa) : pm_met mX12_obeys d 0 0 B [.ref (B + 54), .int (nI aa)] cnt (pm_mid σ (md_L B I A n k z ac wt pl (nI p0) (nI t0))) (pm_Qi (fun v σ' cnt' => (∃ (I' : Nat → Int32) (A' : Nat → Nat → Int32) (n' : Nat → Int32), σ' = pm_mid σ (md_L B I' A' n' k z ac wt pl (nI p0) (nI t0)) ∧ KI n' ∧ NR n') ∧ cnt' = cnt)) := by
  refine pm_enter 5 (by decide) (Nat.le_of_ble_eq_true rfl) rfl (fun G hG hR hF => ?_)
  refine pm_aloadn hG dX12_obeys_0 rfl ?_
  refine pm_iloadn hG dX12_obeys_1 rfl ?_
  refine pm_iconst (v := nI 4) hG dX12_obeys_2 (by decide) ?_
  refine pm_callV (As := [.int (nI aa), .int (nI 4)]) (rest := []) hG hR dX12_obeys_3 (lkX12_199 _ rfl) okV_X12_of rfl rfl (m_of (d := 4) (e := 12 * aa + 1294) (by omega) (by omega) (by omega)) rfl rfl hdd (Nat.le_refl _) (Nat.le_refl _) (by decide) (pm_ki (fun v1 σ' cnt' hq => ?_))
  obtain ⟨rfl, rfl, rfl⟩ := hq
  refine pm_top (v := nI c0) ec0 ?_
  refine pm_istoreXn (loc' := [some (.ref (B + 54)), some (.int (nI aa)), some (.int (nI c0)), none, none, none, none]) hG dX12_obeys_6 (by decide) (pm_c1b rfl) rfl ?_
  refine pm_aloadn hG dX12_obeys_7 rfl ?_
  refine pm_iloadn hG dX12_obeys_8 rfl ?_
  refine pm_iconst (v := nI 2) hG dX12_obeys_9 (by decide) ?_
  refine pm_callV (As := [.int (nI aa), .int (nI 2)]) (rest := []) hG hR dX12_obeys_10 (lkX12_199 _ rfl) okV_X12_of rfl rfl (m_of (d := 4) (e := 12 * aa + 1292) (by omega) (by omega) (by omega)) rfl rfl hdd (Nat.le_refl _) (Nat.le_refl _) (by decide) (pm_ki (fun v2 σ' cnt' hq => ?_))
  obtain ⟨rfl, rfl, rfl⟩ := hq
  obtain ⟨k3, hk3, ek3⟩ := KI.nat hn (show kd (12 * aa + 1292) = (1, 1000, false) from (kd_E (k := aa) (c := 2) (by omega) (by omega) (by decide)))
  refine pm_top (v := nI k3) ek3 ?_
  refine pm_istoreXn (loc' := [some (.ref (B + 54)), some (.int (nI aa)), some (.int (nI c0)), some (.int (nI k3)), none, none, none]) hG dX12_obeys_13 (by decide) (pm_c1b rfl) rfl ?_
  refine pm_aloadn hG dX12_obeys_14 rfl ?_
  refine pm_iloadn hG dX12_obeys_15 rfl ?_
  refine pm_iconst (v := nI 1) hG dX12_obeys_16 (by decide) ?_
  refine pm_callV (As := [.int (nI aa), .int (nI 1)]) (rest := []) hG hR dX12_obeys_17 (lkX12_199 _ rfl) okV_X12_of rfl rfl (m_of (d := 4) (e := 12 * aa + 1291) (by omega) (by omega) (by omega)) rfl rfl hdd (Nat.le_refl _) (Nat.le_refl _) (by decide) (pm_ki (fun v4 σ' cnt' hq => ?_))
  obtain ⟨rfl, rfl, rfl⟩ := hq
  refine pm_gen (fun x5 ex5 => ?_)
  by_cases c6 : x5 = nI 0
  · refine pm_top (v := nI 0) c6 ?_
    refine pm_tswIn (tgt := 52) hG dX12_obeys_20 (by decide) (by decide) rfl rfl ?_
    refine pm_aloadn hG dX12_obeys_52 rfl ?_
    refine pm_getf hG dX12_obeys_53 (flX12_7 _ rfl) rfl rfl ?_
    refine pm_bipush (v := nI 9) hG dX12_obeys_56 (by decide) ?_
    refine pm_dup2 hG dX12_obeys_58 rfl rfl ?_
    refine pm_ialdN hG dX12_obeys_59 rfl (by decide) (by omega) ?_
    refine pm_gen (fun x7 ex7 => ?_)
    refine pm_iloadn hG dX12_obeys_60 rfl ?_
    refine pm_isub hG dX12_obeys_61 ?_
    refine pm_iastN hG dX12_obeys_62 rfl (by decide) (by omega) ?_
    refine mdn_now (fun n_8 en_8 => ?_)
    have hnn_8 := KI.w en_8 hn (okv_f (show kd 9 = (0, 0, false) by decide))
    have hrn_8 := NRx.w en_8 hr (by rw [(show kd 9 = (0, 0, false) by decide)])
    have e9 : n_8 (12 * aa + 1294) = nI c0 := by rw [en_8, pk_un (by omega)]; exact ec0
    have e10 : n_8 5 = nI c1 := by rw [en_8, pk_un (by omega)]; exact ec1
    have e11 : n_8 (12 * aa + 1292) = nI k3 := by rw [en_8, pk_un (by omega)]; exact ek3
    have e12 : n_8 (12 * aa + 1291) = x5 := by rw [en_8, pk_un (by omega)]; exact ex5
    have e13 : n_8 9 = x7 - (nI k3) := by rw [en_8, pk_us]
    refine pm_aloadn hG dX12_obeys_63 rfl ?_
    refine pm_iloadn hG dX12_obeys_64 rfl ?_
    refine pm_bipush (v := nI 7) hG dX12_obeys_65 (by decide) ?_
    refine pm_aloadn hG dX12_obeys_67 rfl ?_
    refine pm_iloadn hG dX12_obeys_68 rfl ?_
    refine pm_bipush (v := nI 7) hG dX12_obeys_69 (by decide) ?_
    refine pm_callV (As := [.int (nI c0), .int (nI 7)]) (rest := [.int (nI 7), .int (nI c0), .ref (B + 54)]) hG hR dX12_obeys_71 (lkX12_72 _ rfl) okV_X12_man rfl rfl (m_man (d := 4) (e := 14 * c0 + 117) (by omega) (by omega) (by omega)) rfl rfl hdd (Nat.le_refl _) (Nat.le_refl _) (Nat.le_of_ble_eq_true rfl) (pm_ki (fun v14 σ' cnt' hq => ?_))
    obtain ⟨rfl, rfl, rfl⟩ := hq
    refine pm_gen (fun x15 ex15 => ?_)
    refine pm_iloadn hG dX12_obeys_74 rfl ?_
    refine pm_iadd hG dX12_obeys_75 ?_
    refine pm_callV (As := [.int (nI c0), .int (nI 7), .int (x15 + (nI k3))]) (rest := []) hG hR dX12_obeys_76 (lkX12_97 _ rfl) okV_X12_sets rfl rfl (m_sets (d := 4) (e := 14 * c0 + 117) (by omega) (by omega) (by omega)) rfl rfl hdd (Nat.le_refl _) (Nat.le_refl _) (by decide) (pm_kv (fun σ' cnt' hq => ?_))
    obtain ⟨rfl, rfl⟩ := hq
    obtain ⟨n_16, en_16⟩ : ∃ f : Nat → Int32, f = upd n_8 (14 * c0 + 117) (x15 + (nI k3)) := ⟨_, rfl⟩
    rw [← en_16]
    have hnn_16 := KI.w en_16 hnn_8 (okv_f (show kd (14 * c0 + 117) = (0, 0, false) from (kd_P (k := c0) (c := 7) (by omega) (by omega) (by decide))))
    have hrn_16 := NRx.w en_16 hrn_8 (by rw [(show kd (14 * c0 + 117) = (0, 0, false) from (kd_P (k := c0) (c := 7) (by omega) (by omega) (by decide)))])
    have e17 : n_16 (12 * aa + 1294) = nI c0 := by rw [en_16, pk_un (by omega)]; exact e9
    have e18 : n_16 5 = nI c1 := by rw [en_16, pk_un (by omega)]; exact e10
    have e19 : n_16 (12 * aa + 1292) = nI k3 := by rw [en_16, pk_un (by omega)]; exact e11
    have e20 : n_16 (12 * aa + 1291) = x5 := by rw [en_16, pk_un (by omega)]; exact e12
    have e21 : n_16 9 = x7 - (nI k3) := by rw [en_16, pk_un (by omega)]; exact e13
    have e22 : n_16 (14 * c0 + 117) = x15 + (nI k3) := by rw [en_16, pk_us]
    refine pm_aloadn hG dX12_obeys_79 rfl ?_
    refine pm_getf hG dX12_obeys_80 (flX12_7 _ rfl) rfl rfl ?_
    refine pm_bipush (v := nI 9) hG dX12_obeys_83 (by decide) ?_
    refine pm_ialdN hG dX12_obeys_85 rfl (by decide) (by omega) ?_
    refine pm_top (v := x7 - (nI k3)) e21 ?_
    exact pm_iret hG hF dX12_obeys_86 rfl (Nat.le_refl _) (Nat.le_refl _) ⟨_, rfl, ⟨_, _, _, rfl, hnn_16, hrn_16⟩, rfl⟩
  by_cases c23 : x5 = nI 1
  · refine pm_top (v := nI 1) c23 ?_
    refine pm_tswIn (tgt := 87) hG dX12_obeys_20 (by decide) (by decide) rfl rfl ?_
    refine pm_aloadn hG dX12_obeys_87 rfl ?_
    refine pm_iloadn hG dX12_obeys_88 rfl ?_
    obtain ⟨k24, hk24, ek24⟩ := NRx.someL hn ec1 (by omega) hr
    refine pm_iloadn hG dX12_obeys_89 rfl ?_
    refine pm_aloadn hG dX12_obeys_90 rfl ?_
    refine pm_getf hG dX12_obeys_91 (flX12_7 _ rfl) rfl rfl ?_
    refine pm_iconst (v := nI 0) hG dX12_obeys_94 (by decide) ?_
    refine pm_ialdN hG dX12_obeys_95 rfl (by decide) (by omega) ?_
    refine pm_top (v := nI k24) ek24 ?_
    refine pm_iremN hG dX12_obeys_96 (by omega) (by omega) (by omega) (fun r25 hr25 _ => ?_)
    refine pm_callV (As := [.int (nI c0), .int (nI r25)]) (rest := []) hG hR dX12_obeys_97 (lkX12_119 _ rfl) okV_X12_goes rfl rfl (m_goes (d := 4) (by decide) hn hr hz (by omega) (by omega)) rfl rfl hdd (Nat.le_refl _) (Nat.le_refl _) (by decide) (pm_ki (fun v26 σ' cnt' hq => ?_))
    obtain ⟨⟨I27, A27, n_27, rfl, hn27, hr27⟩, rfl⟩ := hq
    exact pm_iret hG hF dX12_obeys_100 rfl (Nat.le_refl _) (Nat.le_refl _) ⟨_, rfl, ⟨_, _, _, rfl, hn27, hr27⟩, rfl⟩
  by_cases c28 : x5 = nI 2
  · refine pm_top (v := nI 2) c28 ?_
    refine pm_tswIn (tgt := 101) hG dX12_obeys_20 (by decide) (by decide) rfl rfl ?_
    obtain ⟨k29, hk29, ek29⟩ := hob.1 (ex5.trans c28)
    have gk29 := nI_inj (by omega) (by omega) (ek3.symm.trans ek29)
    refine pm_aloadn hG dX12_obeys_101 rfl ?_
    refine pm_iloadn hG dX12_obeys_102 rfl ?_
    refine pm_iconst (v := nI 1) hG dX12_obeys_103 (by decide) ?_
    refine pm_callV (As := [.int (nI k3), .int (nI 1)]) (rest := []) hG hR dX12_obeys_104 (lkX12_110 _ rfl) okV_X12_its rfl rfl (m_its (d := 4) (e := 6 * k3 + 391) (by omega) (by omega) (by omega)) rfl rfl hdd (Nat.le_refl _) (Nat.le_refl _) (by decide) (pm_ki (fun v30 σ' cnt' hq => ?_))
    obtain ⟨rfl, rfl, rfl⟩ := hq
    rcases KI.opt hn (show kd (6 * k3 + 391) = (2, 20, false) from (kd_W (k := k3) (c := 1) (by omega) (by omega) (by decide))) with ek31 | ⟨k31, hk31, ek31⟩
    · refine pm_top (v := (-1)) ek31 ?_
      refine pm_istoreXi (loc' := [some (.ref (B + 54)), some (.int (nI aa)), some (.int (nI c0)), some (.int (nI k3)), some (.int (-1)), none, none]) hG dX12_obeys_107 (by decide) (pm_c1b rfl) rfl ?_
      refine pm_aloadn hG dX12_obeys_109 rfl ?_
      refine pm_iloadn hG dX12_obeys_110 rfl ?_
      refine pm_iconst (v := nI 1) hG dX12_obeys_111 (by decide) ?_
      refine pm_iloadn hG dX12_obeys_112 rfl ?_
      refine pm_callV (As := [.int (nI k3), .int (nI 1), .int (nI c0)]) (rest := []) hG hR dX12_obeys_113 (lkX12_113 _ rfl) okV_X12_makes rfl rfl (m_makes (d := 4) (e := 6 * k3 + 391) (by omega) (by omega) (by omega)) rfl rfl hdd (Nat.le_refl _) (Nat.le_refl _) (by decide) (pm_kv (fun σ' cnt' hq => ?_))
      obtain ⟨rfl, rfl⟩ := hq
      obtain ⟨n_32, en_32⟩ : ∃ f : Nat → Int32, f = upd n (6 * k3 + 391) (nI c0) := ⟨_, rfl⟩
      rw [← en_32]
      have hnn_32 := KI.w en_32 hn (okv_o (show kd (6 * k3 + 391) = (2, 20, false) from (kd_W (k := k3) (c := 1) (by omega) (by omega) (by decide))) (by omega))
      have hrn_32 := NRx.w en_32 hr (by rw [(show kd (6 * k3 + 391) = (2, 20, false) from (kd_W (k := k3) (c := 1) (by omega) (by omega) (by decide)))])
      have e33 : n_32 (12 * aa + 1294) = nI c0 := by rw [en_32, pk_un (by omega)]; exact ec0
      have e34 : n_32 5 = nI c1 := by rw [en_32, pk_un (by omega)]; exact ec1
      have e35 : n_32 (12 * aa + 1292) = nI k3 := by rw [en_32, pk_un (by omega)]; exact ek3
      have e36 : n_32 (12 * aa + 1291) = x5 := by rw [en_32, pk_un (by omega)]; exact ex5
      have e37 : n_32 (6 * k3 + 391) = nI c0 := by rw [en_32, pk_us]
      refine pm_aloadn hG dX12_obeys_116 rfl ?_
      refine pm_iloadn hG dX12_obeys_117 rfl ?_
      refine pm_callV (As := [.int (nI k3)]) (rest := []) hG hR dX12_obeys_118 (lkX12_116 _ rfl) okV_X12_comesBack rfl rfl (m_comesBack (d := 4) (e := 6 * k3 + 392) (e2 := 6 * k3 + 393) (by decide) (by omega) (by omega) (by omega)) rfl rfl hdd (Nat.le_refl _) (Nat.le_refl _) (by decide) (pm_kv (fun σ' cnt' hq => ?_))
      obtain ⟨rfl, rfl⟩ := hq
      obtain ⟨n_38, en_38⟩ : ∃ f : Nat → Int32, f = upd n_32 (6 * k3 + 392) (-1) := ⟨_, rfl⟩
      rw [← en_38]
      have hnn_38 := KI.w en_38 hnn_32 (okv_m (show kd (6 * k3 + 392) = (2, 20, false) from (kd_W (k := k3) (c := 2) (by omega) (by omega) (by decide))))
      have hrn_38 := NRx.w en_38 hrn_32 (by rw [(show kd (6 * k3 + 392) = (2, 20, false) from (kd_W (k := k3) (c := 2) (by omega) (by omega) (by decide)))])
      have e39 : n_38 (12 * aa + 1294) = nI c0 := by rw [en_38, pk_un (by omega)]; exact e33
      have e40 : n_38 5 = nI c1 := by rw [en_38, pk_un (by omega)]; exact e34
      have e41 : n_38 (12 * aa + 1292) = nI k3 := by rw [en_38, pk_un (by omega)]; exact e35
      have e42 : n_38 (12 * aa + 1291) = x5 := by rw [en_38, pk_un (by omega)]; exact e36
      have e43 : n_38 (6 * k3 + 391) = nI c0 := by rw [en_38, pk_un (by omega)]; exact e37
      have e44 : n_38 (6 * k3 + 392) = (-1) := by rw [en_38, pk_us]
      obtain ⟨n_45, en_45⟩ : ∃ f : Nat → Int32, f = upd n_38 (6 * k3 + 393) (-1) := ⟨_, rfl⟩
      rw [← en_45]
      have hnn_45 := KI.w en_45 hnn_38 (okv_f (show kd (6 * k3 + 393) = (0, 0, false) from (kd_W (k := k3) (c := 3) (by omega) (by omega) (by decide))))
      have hrn_45 := NRx.w en_45 hrn_38 (by rw [(show kd (6 * k3 + 393) = (0, 0, false) from (kd_W (k := k3) (c := 3) (by omega) (by omega) (by decide)))])
      have e46 : n_45 (12 * aa + 1294) = nI c0 := by rw [en_45, pk_un (by omega)]; exact e39
      have e47 : n_45 5 = nI c1 := by rw [en_45, pk_un (by omega)]; exact e40
      have e48 : n_45 (12 * aa + 1292) = nI k3 := by rw [en_45, pk_un (by omega)]; exact e41
      have e49 : n_45 (12 * aa + 1291) = x5 := by rw [en_45, pk_un (by omega)]; exact e42
      have e50 : n_45 (6 * k3 + 391) = nI c0 := by rw [en_45, pk_un (by omega)]; exact e43
      have e51 : n_45 (6 * k3 + 392) = (-1) := by rw [en_45, pk_un (by omega)]; exact e44
      have e52 : n_45 (6 * k3 + 393) = (-1) := by rw [en_45, pk_us]
      refine pm_iloadi hG dX12_obeys_121 rfl ?_
      exact pm_iret hG hF dX12_obeys_123 rfl (Nat.le_refl _) (Nat.le_refl _) ⟨_, rfl, ⟨_, _, _, rfl, hnn_45, hrn_45⟩, rfl⟩
    · refine pm_top (v := nI k31) ek31 ?_
      refine pm_istoreXi (loc' := [some (.ref (B + 54)), some (.int (nI aa)), some (.int (nI c0)), some (.int (nI k3)), some (.int (nI k31)), none, none]) hG dX12_obeys_107 (by decide) (pm_c1b rfl) rfl ?_
      refine pm_aloadn hG dX12_obeys_109 rfl ?_
      refine pm_iloadn hG dX12_obeys_110 rfl ?_
      refine pm_iconst (v := nI 1) hG dX12_obeys_111 (by decide) ?_
      refine pm_iloadn hG dX12_obeys_112 rfl ?_
      refine pm_callV (As := [.int (nI k3), .int (nI 1), .int (nI c0)]) (rest := []) hG hR dX12_obeys_113 (lkX12_113 _ rfl) okV_X12_makes rfl rfl (m_makes (d := 4) (e := 6 * k3 + 391) (by omega) (by omega) (by omega)) rfl rfl hdd (Nat.le_refl _) (Nat.le_refl _) (by decide) (pm_kv (fun σ' cnt' hq => ?_))
      obtain ⟨rfl, rfl⟩ := hq
      obtain ⟨n_53, en_53⟩ : ∃ f : Nat → Int32, f = upd n (6 * k3 + 391) (nI c0) := ⟨_, rfl⟩
      rw [← en_53]
      have hnn_53 := KI.w en_53 hn (okv_o (show kd (6 * k3 + 391) = (2, 20, false) from (kd_W (k := k3) (c := 1) (by omega) (by omega) (by decide))) (by omega))
      have hrn_53 := NRx.w en_53 hr (by rw [(show kd (6 * k3 + 391) = (2, 20, false) from (kd_W (k := k3) (c := 1) (by omega) (by omega) (by decide)))])
      have e54 : n_53 (12 * aa + 1294) = nI c0 := by rw [en_53, pk_un (by omega)]; exact ec0
      have e55 : n_53 5 = nI c1 := by rw [en_53, pk_un (by omega)]; exact ec1
      have e56 : n_53 (12 * aa + 1292) = nI k3 := by rw [en_53, pk_un (by omega)]; exact ek3
      have e57 : n_53 (12 * aa + 1291) = x5 := by rw [en_53, pk_un (by omega)]; exact ex5
      have e58 : n_53 (6 * k3 + 391) = nI c0 := by rw [en_53, pk_us]
      refine pm_aloadn hG dX12_obeys_116 rfl ?_
      refine pm_iloadn hG dX12_obeys_117 rfl ?_
      refine pm_callV (As := [.int (nI k3)]) (rest := []) hG hR dX12_obeys_118 (lkX12_116 _ rfl) okV_X12_comesBack rfl rfl (m_comesBack (d := 4) (e := 6 * k3 + 392) (e2 := 6 * k3 + 393) (by decide) (by omega) (by omega) (by omega)) rfl rfl hdd (Nat.le_refl _) (Nat.le_refl _) (by decide) (pm_kv (fun σ' cnt' hq => ?_))
      obtain ⟨rfl, rfl⟩ := hq
      obtain ⟨n_59, en_59⟩ : ∃ f : Nat → Int32, f = upd n_53 (6 * k3 + 392) (-1) := ⟨_, rfl⟩
      rw [← en_59]
      have hnn_59 := KI.w en_59 hnn_53 (okv_m (show kd (6 * k3 + 392) = (2, 20, false) from (kd_W (k := k3) (c := 2) (by omega) (by omega) (by decide))))
      have hrn_59 := NRx.w en_59 hrn_53 (by rw [(show kd (6 * k3 + 392) = (2, 20, false) from (kd_W (k := k3) (c := 2) (by omega) (by omega) (by decide)))])
      have e60 : n_59 (12 * aa + 1294) = nI c0 := by rw [en_59, pk_un (by omega)]; exact e54
      have e61 : n_59 5 = nI c1 := by rw [en_59, pk_un (by omega)]; exact e55
      have e62 : n_59 (12 * aa + 1292) = nI k3 := by rw [en_59, pk_un (by omega)]; exact e56
      have e63 : n_59 (12 * aa + 1291) = x5 := by rw [en_59, pk_un (by omega)]; exact e57
      have e64 : n_59 (6 * k3 + 391) = nI c0 := by rw [en_59, pk_un (by omega)]; exact e58
      have e65 : n_59 (6 * k3 + 392) = (-1) := by rw [en_59, pk_us]
      obtain ⟨n_66, en_66⟩ : ∃ f : Nat → Int32, f = upd n_59 (6 * k3 + 393) (-1) := ⟨_, rfl⟩
      rw [← en_66]
      have hnn_66 := KI.w en_66 hnn_59 (okv_f (show kd (6 * k3 + 393) = (0, 0, false) from (kd_W (k := k3) (c := 3) (by omega) (by omega) (by decide))))
      have hrn_66 := NRx.w en_66 hrn_59 (by rw [(show kd (6 * k3 + 393) = (0, 0, false) from (kd_W (k := k3) (c := 3) (by omega) (by omega) (by decide)))])
      have e67 : n_66 (12 * aa + 1294) = nI c0 := by rw [en_66, pk_un (by omega)]; exact e60
      have e68 : n_66 5 = nI c1 := by rw [en_66, pk_un (by omega)]; exact e61
      have e69 : n_66 (12 * aa + 1292) = nI k3 := by rw [en_66, pk_un (by omega)]; exact e62
      have e70 : n_66 (12 * aa + 1291) = x5 := by rw [en_66, pk_un (by omega)]; exact e63
      have e71 : n_66 (6 * k3 + 391) = nI c0 := by rw [en_66, pk_un (by omega)]; exact e64
      have e72 : n_66 (6 * k3 + 392) = (-1) := by rw [en_66, pk_un (by omega)]; exact e65
      have e73 : n_66 (6 * k3 + 393) = (-1) := by rw [en_66, pk_us]
      refine pm_iloadi hG dX12_obeys_121 rfl ?_
      exact pm_iret hG hF dX12_obeys_123 rfl (Nat.le_refl _) (Nat.le_refl _) ⟨_, rfl, ⟨_, _, _, rfl, hnn_66, hrn_66⟩, rfl⟩
  by_cases c74 : x5 = nI 3
  · refine pm_top (v := nI 3) c74 ?_
    refine pm_tswIn (tgt := 124) hG dX12_obeys_20 (by decide) (by decide) rfl rfl ?_
    obtain ⟨k75, hk75, ek75⟩ := hob.2 (ex5.trans c74)
    have gk75 := nI_inj (by omega) (by omega) (ek3.symm.trans ek75)
    refine pm_aloadn hG dX12_obeys_124 rfl ?_
    refine pm_getf hG dX12_obeys_125 (flX12_7 _ rfl) rfl rfl ?_
    refine pm_sipush (v := nI 510) hG dX12_obeys_128 (by decide) ?_
    refine pm_bipush (v := nI 65) hG dX12_obeys_131 (by decide) ?_
    refine pm_iloadn hG dX12_obeys_133 rfl ?_
    refine pm_imulN (c := 65 * k3) hG dX12_obeys_134 (by omega) ?_
    refine pm_iaddN (c := 65 * k3 + 510) hG dX12_obeys_135 (by omega) ?_
    refine pm_iconst (v := nI 3) hG dX12_obeys_136 (by decide) ?_
    refine pm_iaddN (c := 65 * k3 + 513) hG dX12_obeys_137 (by omega) ?_
    refine pm_aloadn hG dX12_obeys_138 rfl ?_
    refine pm_getf hG dX12_obeys_139 (flX12_7 _ rfl) rfl rfl ?_
    refine pm_bipush (v := nI 8) hG dX12_obeys_142 (by decide) ?_
    refine pm_ialdN hG dX12_obeys_144 rfl (by decide) (by omega) ?_
    obtain ⟨k76, hk76, ek76⟩ := KI.nat hn (show kd 8 = (1, 2001, false) by decide)
    refine pm_top (v := nI k76) ek76 ?_
    refine pm_iastN hG dX12_obeys_145 rfl (by decide) (by omega) ?_
    refine mdn_now (fun n_77 en_77 => ?_)
    have hnn_77 := KI.w en_77 hn (okv_f (show kd (65 * k3 + 513) = (0, 0, false) from (kd_L (k := k3) (c := 3) (by omega) (by omega) (by decide))))
    have hrn_77 := NRx.w en_77 hr (by rw [(show kd (65 * k3 + 513) = (0, 0, false) from (kd_L (k := k3) (c := 3) (by omega) (by omega) (by decide)))])
    have e78 : n_77 (12 * aa + 1294) = nI c0 := by rw [en_77, pk_un (by omega)]; exact ec0
    have e79 : n_77 5 = nI c1 := by rw [en_77, pk_un (by omega)]; exact ec1
    have e80 : n_77 (12 * aa + 1292) = nI k3 := by rw [en_77, pk_un (by omega)]; exact ek3
    have e81 : n_77 (12 * aa + 1291) = x5 := by rw [en_77, pk_un (by omega)]; exact ex5
    have e82 : n_77 8 = nI k76 := by rw [en_77, pk_un (by omega)]; exact ek76
    have e83 : n_77 (65 * k3 + 513) = nI k76 := by rw [en_77, pk_us]
    refine pm_iconst (v := nI 1) hG dX12_obeys_146 (by decide) ?_
    exact pm_iret hG hF dX12_obeys_147 rfl (Nat.le_refl _) (Nat.le_refl _) ⟨_, rfl, ⟨_, _, _, rfl, hnn_77, hrn_77⟩, rfl⟩
  have tc6 : ¬ x5.toInt = 0 := fun q => c6 (Int32.toInt_inj.mp (q.trans (by decide)))
  have tc23 : ¬ x5.toInt = 1 := fun q => c23 (Int32.toInt_inj.mp (q.trans (by decide)))
  have tc28 : ¬ x5.toInt = 2 := fun q => c28 (Int32.toInt_inj.mp (q.trans (by decide)))
  have tc74 : ¬ x5.toInt = 3 := fun q => c74 (Int32.toInt_inj.mp (q.trans (by decide)))
  refine pm_tswOut (tgt := 148) hG dX12_obeys_20 (by omega) rfl ?_
  refine pm_iconst (v := nI 0) hG dX12_obeys_148 (by decide) ?_
  refine pm_istoreXi (loc' := [some (.ref (B + 54)), some (.int (nI aa)), some (.int (nI c0)), some (.int (nI k3)), none, some (.int (nI 0)), none]) hG dX12_obeys_149 (by decide) (pm_c1b rfl) rfl ?_
  refine pm_iconst (v := nI 0) hG dX12_obeys_151 (by decide) ?_
  refine pm_istoreXi (loc' := [some (.ref (B + 54)), some (.int (nI aa)), some (.int (nI c0)), some (.int (nI k3)), none, some (.int (nI 0)), some (.int (nI 0))]) hG dX12_obeys_152 (by decide) (pm_c1b rfl) rfl ?_
  have loop154_84 : ∀ (m84 : Nat) (I84 : Nat → Int32) (A84 : Nat → Nat → Int32) (n_84 : Nat → Int32) (x84_5 : Int32) (i84 : Nat), KI n_84 → NRx 40 n_84 → i84 ≤ 30 → 30 - i84 < m84 → pm_wp mX12_obeys G B 154 [some (.ref (B + 54)), some (.int (nI aa)), some (.int (nI c0)), some (.int (nI k3)), none, some (.int x84_5), some (.int (nI i84))] [] 0 0 cnt (pm_mid σ (md_L B I84 A84 n_84 k z ac wt pl (nI p0) (nI t0))) := by
    intro m84
    induction m84 with
    | zero => intro I84 A84 n_84 x84_5 i84 _ _ _ hm; exact absurd hm (Nat.not_lt_zero _)
    | succ m84 ih84 =>
      intro I84 A84 n_84 x84_5 i84 hnn_84 hrn_84 hi84 hm84
      refine pm_iloadi hG dX12_obeys_154 rfl ?_
      refine pm_aloadn hG dX12_obeys_156 rfl ?_
      refine pm_getf hG dX12_obeys_157 (flX12_7 _ rfl) rfl rfl ?_
      refine pm_bipush (v := nI 7) hG dX12_obeys_160 (by decide) ?_
      refine pm_ialdN hG dX12_obeys_162 rfl (by decide) (by omega) ?_
      obtain ⟨k85, hk85, ek85⟩ := KI.nat hnn_84 (show kd 7 = (1, 31, false) by decide)
      refine pm_top (v := nI k85) ek85 ?_
      refine pm_icmpN_ge (tgt := 215) hG dX12_obeys_163 rfl (by omega) (by omega) (fun c86 => ?_) (fun c86 => ?_)
      · refine pm_iloadi hG dX12_obeys_215 rfl ?_
        exact pm_iret hG hF dX12_obeys_217 rfl (Nat.le_refl _) (Nat.le_refl _) ⟨_, rfl, ⟨_, _, _, rfl, hnn_84, hrn_84⟩, rfl⟩
      · refine pm_aloadn hG dX12_obeys_166 rfl ?_
        refine pm_iloadi hG dX12_obeys_167 rfl ?_
        refine pm_iconst (v := nI 0) hG dX12_obeys_169 (by decide) ?_
        refine pm_callV (As := [.int (nI i84), .int (nI 0)]) (rest := []) hG hR dX12_obeys_170 (lkX12_223 _ rfl) okV_X12_promised rfl rfl (m_promised (d := 4) (e := 6 * i84 + 1806) (by omega) (by omega) (by omega)) rfl rfl hdd (Nat.le_refl _) (Nat.le_refl _) (by decide) (pm_ki (fun v87 σ' cnt' hq => ?_))
        obtain ⟨rfl, rfl, rfl⟩ := hq
        obtain ⟨k88, hk88, ek88⟩ := KI.nat hnn_84 (show kd (6 * i84 + 1806) = (1, 20, false) from (kd_Q (k := i84) (c := 0) (by omega) (by omega) (by decide)))
        refine pm_top (v := nI k88) ek88 ?_
        refine pm_iloadn hG dX12_obeys_173 rfl ?_
        refine pm_icmpN_ne (tgt := 209) hG dX12_obeys_174 rfl (by omega) (by omega) (fun c89 => ?_) (fun c89 => ?_)
        · refine pm_iincX (v := nI (i84 + 1)) (loc' := [some (.ref (B + 54)), some (.int (nI aa)), some (.int (nI c0)), some (.int (nI k3)), none, some (.int x84_5), some (.int (nI (i84 + 1)))]) hG dX12_obeys_209 rfl (nI_1 _) (by decide) (pm_c1b rfl) rfl ?_
          refine pm_goto (tgt := 154) hG dX12_obeys_212 rfl ?_
          exact ih84 I84 A84 n_84 x84_5 (i84 + 1) hnn_84 hrn_84 (by omega) (by omega)
        · refine pm_aloadn hG dX12_obeys_177 rfl ?_
          refine pm_iloadi hG dX12_obeys_178 rfl ?_
          refine pm_callV (As := [.int (nI i84)]) (rest := []) hG hR dX12_obeys_180 (lkX12_226 _ rfl) okV_X12_stands rfl rfl (m_stands (d := 4) (by decide) hnn_84 hz (by omega)) rfl rfl hdd (Nat.le_refl _) (Nat.le_refl _) (by decide) (pm_ki (fun v90 σ' cnt' hq => ?_))
          obtain ⟨rfl, rfl, bv90⟩ := hq
          refine pm_if_ne (tgt := 189) hG dX12_obeys_183 rfl (fun c92 => ?_) (fun c92 => ?_)
          · refine pm_aloadn hG dX12_obeys_189 rfl ?_
            refine pm_getf hG dX12_obeys_190 (flX12_7 _ rfl) rfl rfl ?_
            refine pm_sipush (v := nI 1806) hG dX12_obeys_193 (by decide) ?_
            refine pm_bipush (v := nI 6) hG dX12_obeys_196 (by decide) ?_
            refine pm_iloadi hG dX12_obeys_198 rfl ?_
            refine pm_imulN (c := 6 * i84) hG dX12_obeys_200 (by omega) ?_
            refine pm_iaddN (c := 6 * i84 + 1806) hG dX12_obeys_201 (by omega) ?_
            refine pm_iconst (v := nI 4) hG dX12_obeys_202 (by decide) ?_
            refine pm_iaddN (c := 6 * i84 + 1810) hG dX12_obeys_203 (by omega) ?_
            refine pm_iconst (v := nI 1) hG dX12_obeys_204 (by decide) ?_
            refine pm_iastN hG dX12_obeys_205 rfl (by decide) (by omega) ?_
            refine mdn_now (fun n_93 en_93 => ?_)
            have hnn_93 := KI.w en_93 hnn_84 (okv_f (show kd (6 * i84 + 1810) = (0, 0, false) from (kd_Q (k := i84) (c := 4) (by omega) (by omega) (by decide))))
            have hrn_93 := NRx.w en_93 hrn_84 (by rw [(show kd (6 * i84 + 1810) = (0, 0, false) from (kd_Q (k := i84) (c := 4) (by omega) (by omega) (by decide)))])
            have e94 : n_93 7 = nI k85 := by rw [en_93, pk_un (by omega)]; exact ek85
            have e95 : n_93 (6 * i84 + 1806) = nI k88 := by rw [en_93, pk_un (by omega)]; exact ek88
            have e96 : n_93 (6 * i84 + 1810) = nI 1 := by rw [en_93, pk_us]
            refine pm_iincX (v := x84_5 + 1) (loc' := [some (.ref (B + 54)), some (.int (nI aa)), some (.int (nI c0)), some (.int (nI k3)), none, some (.int (x84_5 + 1)), some (.int (nI i84))]) hG dX12_obeys_206 rfl (by rfl) (by decide) (pm_c1b rfl) rfl ?_
            refine pm_iincX (v := nI (i84 + 1)) (loc' := [some (.ref (B + 54)), some (.int (nI aa)), some (.int (nI c0)), some (.int (nI k3)), none, some (.int (x84_5 + 1)), some (.int (nI (i84 + 1)))]) hG dX12_obeys_209 rfl (nI_1 _) (by decide) (pm_c1b rfl) rfl ?_
            refine pm_goto (tgt := 154) hG dX12_obeys_212 rfl ?_
            exact ih84 I84 A84 n_93 (x84_5 + 1) (i84 + 1) hnn_93 hrn_93 (by omega) (by omega)
          · refine pm_goto (tgt := 209) hG dX12_obeys_186 rfl ?_
            refine pm_iincX (v := nI (i84 + 1)) (loc' := [some (.ref (B + 54)), some (.int (nI aa)), some (.int (nI c0)), some (.int (nI k3)), none, some (.int x84_5), some (.int (nI (i84 + 1)))]) hG dX12_obeys_209 rfl (nI_1 _) (by decide) (pm_c1b rfl) rfl ?_
            refine pm_goto (tgt := 154) hG dX12_obeys_212 rfl ?_
            exact ih84 I84 A84 n_84 x84_5 (i84 + 1) hnn_84 hrn_84 (by omega) (by omega)
  exact loop154_84 _ I A n (nI 0) 0 hn hr (by omega) (Nat.lt_succ_self _)
