set_option maxRecDepth 100000 in
set_option maxHeartbeats 4000000 in
theorem m_winsBy_n5_c2 {d B cnt p0 t0 : Nat} {σ : pm_S} {I : Nat → Int32} {A : Nat → Nat → Int32} {n k z : Nat → Int32} {ac wt pl im : Int32} {zc zd ze : Int32} {ba : Nat} (hdd : 4 ≤ d) (hn : KI n) (hz : SZ z) (hba : ba < 5) : pm_met mX12_winsBy d 0 0 B [.ref (B + 54), .int (nI ba), .int (nI 2), .int zc, .int zd, .int ze] cnt (pm_mid σ (md_L B I A n k z ac wt pl (nI p0) (nI t0) im)) (pm_Qi (fun v σ' cnt' => (∃ (I' : Nat → Int32) (A' : Nat → Nat → Int32), σ' = pm_mid σ (md_L B I' A' n k z ac wt pl (nI p0) (nI t0) im)) ∧ cnt = cnt' ∧ (v = 0 ∨ v = 1))) := by
  refine pm_enter 6 (by decide) (Nat.le_of_ble_eq_true rfl) rfl (fun G hG hR hF => ?_)
  refine pm_iloadn hG dX12_winsBy_0 rfl ?_
  refine pm_iloadi hG dX12_winsBy_1 rfl ?_
  refine pm_icmp_ne (tgt := 8) hG dX12_winsBy_3 rfl (fun c1 => ?_) (fun c1 => ?_)
  · refine pm_iloadn hG dX12_winsBy_8 rfl ?_
    refine pm_iconst (v := nI 1) hG dX12_winsBy_9 (by decide) ?_
    refine pm_icmpN_ne (tgt := 15) hG dX12_winsBy_10 rfl (by omega) (by omega) (fun _ => ?_) (fun q => absurd q (by omega))
    refine pm_iloadn hG dX12_winsBy_15 rfl ?_
    refine pm_ifN_ge (tgt := 23) hG dX12_winsBy_16 rfl (by omega) ?_
    refine pm_iloadn hG dX12_winsBy_23 rfl ?_
    refine pm_iconst (v := nI 1) hG dX12_winsBy_24 (by decide) ?_
    refine pm_iloadn hG dX12_winsBy_25 rfl ?_
    refine pm_ishl hG dX12_winsBy_26 ?_
    refine pm_any (fun x2 => ?_)
    refine pm_ior hG dX12_winsBy_27 ?_
    refine pm_any (fun x3 => ?_)
    refine pm_istoreXi (loc' := [some (.ref (B + 54)), some (.int (nI ba)), some (.int (nI 2)), some (.int zc), some (.int zd), some (.int ze), some (.int x3), none, none, none, none, none]) hG dX12_winsBy_28 (by decide) (pm_c1b rfl) rfl ?_
    refine pm_iloadn hG dX12_winsBy_30 rfl ?_
    refine pm_ifN_ge (tgt := 39) hG dX12_winsBy_31 rfl (by omega) ?_
    refine pm_iloadi hG dX12_winsBy_39 rfl ?_
    refine pm_aloadn hG dX12_winsBy_41 rfl ?_
    refine pm_getf hG dX12_winsBy_42 (flX12_43 _ rfl) rfl rfl ?_
    refine pm_iloadn hG dX12_winsBy_45 rfl ?_
    refine pm_ialdN hG dX12_winsBy_46 rfl (by decide) (by omega) ?_
    refine pm_any (fun x4 => ?_)
    refine pm_isub hG dX12_winsBy_47 ?_
    refine pm_istoreXi (loc' := [some (.ref (B + 54)), some (.int (nI ba)), some (.int (nI 2)), some (.int zc), some (.int zd), some (.int ze), some (.int x3), some (.int (zd - x4)), none, none, none, none]) hG dX12_winsBy_48 (by decide) (pm_c1b rfl) rfl ?_
    refine pm_aloadn hG dX12_winsBy_50 rfl ?_
    refine pm_iloadn hG dX12_winsBy_51 rfl ?_
    refine pm_iconst (v := nI 1) hG dX12_winsBy_52 (by decide) ?_
    refine pm_isubN (c := 1) hG dX12_winsBy_53 (by omega) ?_
    refine pm_iloadi hG dX12_winsBy_54 rfl ?_
    refine pm_iloadi hG dX12_winsBy_56 rfl ?_
    refine pm_iloadi hG dX12_winsBy_58 rfl ?_
    refine pm_callV (As := [.int (nI 1), .int x3, .int (zd - x4), .int ze]) (rest := []) hG hR dX12_winsBy_60 (lkX12_256 _ rfl) okV_X12_wins rfl rfl (m_wins_c1 (d := 3) (by decide) hn hz) rfl rfl hdd (Nat.le_refl _) (Nat.le_refl _) (by decide) (pm_ki (fun v5 σ' cnt' hq => ?_))
    obtain ⟨⟨I6, A6, rfl⟩, rfl, bv5⟩ := hq
    refine pm_istoreXi (loc' := [some (.ref (B + 54)), some (.int (nI ba)), some (.int (nI 2)), some (.int zc), some (.int zd), some (.int ze), some (.int x3), some (.int (zd - x4)), some (.int v5), none, none, none]) hG dX12_winsBy_63 (by decide) (pm_c1b rfl) rfl ?_
    refine pm_iconst (v := nI 0) hG dX12_winsBy_65 (by decide) ?_
    refine pm_istoreXi (loc' := [some (.ref (B + 54)), some (.int (nI ba)), some (.int (nI 2)), some (.int zc), some (.int zd), some (.int ze), some (.int x3), some (.int (zd - x4)), some (.int v5), some (.int (nI 0)), none, none]) hG dX12_winsBy_66 (by decide) (pm_c1b rfl) rfl ?_
    have loop68_7 : ∀ (m7 : Nat) (I7 : Nat → Int32) (A7 : Nat → Nat → Int32) (x7_8 : Int32) (i7 : Nat), (x7_8 = 0 ∨ x7_8 = 1) → i7 ≤ 5 → 5 - i7 < m7 → pm_wp mX12_winsBy G B 68 [some (.ref (B + 54)), some (.int (nI ba)), some (.int (nI 2)), some (.int zc), some (.int zd), some (.int ze), some (.int x3), some (.int (zd - x4)), some (.int x7_8), some (.int (nI i7)), none, none] [] 0 0 cnt (pm_mid σ (md_L B I7 A7 n k z ac wt pl (nI p0) (nI t0) im)) := by
      intro m7
      induction m7 with
      | zero => intro I7 A7 x7_8 i7 _ _ hm; exact absurd hm (Nat.not_lt_zero _)
      | succ m7 ih7 =>
        intro I7 A7 x7_8 i7 bx7_8 hi7 hm7
        refine pm_iloadi hG dX12_winsBy_68 rfl ?_
        refine pm_iconst (v := nI 5) hG dX12_winsBy_70 (by decide) ?_
        refine pm_icmpN_ge (tgt := 226) hG dX12_winsBy_71 rfl (by omega) (by omega) (fun c8 => ?_) (fun c8 => ?_)
        · refine pm_iloadi hG dX12_winsBy_226 rfl ?_
          exact pm_zret hG hF dX12_winsBy_228 rfl (pm_nz bx7_8) (Nat.le_refl _) (Nat.le_refl _) ⟨_, rfl, ⟨_, _, rfl⟩, rfl, bx7_8⟩
        · refine pm_iloadi hG dX12_winsBy_74 rfl ?_
          refine pm_if_eq (tgt := 226) hG dX12_winsBy_76 rfl (fun c9 => ?_) (fun c9 => ?_)
          · refine pm_iloadi hG dX12_winsBy_226 rfl ?_
            refine pm_top (v := nI 0) c9 ?_
            exact pm_zret hG hF dX12_winsBy_228 rfl (pm_nz (Or.inl rfl)) (Nat.le_refl _) (Nat.le_refl _) ⟨_, rfl, ⟨_, _, rfl⟩, rfl, (Or.inl rfl)⟩
          · refine pm_iconst (v := (-1)) hG dX12_winsBy_79 (by decide) ?_
            refine pm_istoreXi (loc' := [some (.ref (B + 54)), some (.int (nI ba)), some (.int (nI 2)), some (.int zc), some (.int zd), some (.int ze), some (.int x3), some (.int (zd - x4)), some (.int x7_8), some (.int (nI i7)), some (.int (-1)), none]) hG dX12_winsBy_80 (by decide) (pm_c1b rfl) rfl ?_
            have loop10 : ∀ (m10 : Nat) (I10 : Nat → Int32) (A10 : Nat → Nat → Int32) (x10 : Int32) (s10 : Nat), (x10 = 0 ∨ x10 = 1) → s10 ≤ 2 → 2 - s10 < m10 → pm_wp mX12_winsBy G B 82 [some (.ref (B + 54)), some (.int (nI ba)), some (.int (nI 2)), some (.int zc), some (.int zd), some (.int ze), some (.int x3), some (.int (zd - x4)), some (.int x10), some (.int (nI i7)), some (.int (sdI s10)), none] [] 0 0 cnt (pm_mid σ (md_L B I10 A10 n k z ac wt pl (nI p0) (nI t0) im)) := by
              intro m10
              induction m10 with
              | zero => intro I10 A10 x10 s10 _ _ hm; exact absurd hm (Nat.not_lt_zero _)
              | succ m10 ih10 =>
                intro I10 A10 x10 s10 b10 hs10 hm10
                rcases (show s10 = 0 ∨ s10 = 1 ∨ s10 = 2 by omega) with rfl | rfl | rfl
                · refine pm_le (loc' := [some (.ref (B + 54)), some (.int (nI ba)), some (.int (nI 2)), some (.int zc), some (.int zd), some (.int ze), some (.int x3), some (.int (zd - x4)), some (.int x10), some (.int (nI i7)), some (.int (-1)), none]) rfl ?_
                  refine pm_iloadi hG dX12_winsBy_82 rfl ?_
                  refine pm_iconst (v := nI 1) hG dX12_winsBy_84 (by decide) ?_
                  refine pm_icmp_gt (tgt := 220) hG dX12_winsBy_85 rfl (fun q => absurd q (by decide)) (fun _ => ?_)
                  refine pm_iloadi hG dX12_winsBy_88 rfl ?_
                  refine pm_if_eq (tgt := 220) hG dX12_winsBy_90 rfl (fun c11 => ?_) (fun c11 => ?_)
                  · refine pm_iincX (v := nI (i7 + 1)) (loc' := [some (.ref (B + 54)), some (.int (nI ba)), some (.int (nI 2)), some (.int zc), some (.int zd), some (.int ze), some (.int x3), some (.int (zd - x4)), some (.int x10), some (.int (nI (i7 + 1))), some (.int (-1)), none]) hG dX12_winsBy_220 rfl (nI_1 _) (by decide) (pm_c1b rfl) rfl ?_
                    refine pm_goto (tgt := 68) hG dX12_winsBy_223 rfl ?_
                    refine pm_fg 10 (loc' := [some (.ref (B + 54)), some (.int (nI ba)), some (.int (nI 2)), some (.int zc), some (.int zd), some (.int ze), some (.int x3), some (.int (zd - x4)), some (.int x10), some (.int (nI (i7 + 1))), none, none]) rfl ?_
                    exact ih7 I10 A10 x10 (i7 + 1) b10 (by omega) (by omega)
                  · refine pm_iloadi hG dX12_winsBy_93 rfl ?_
                    refine pm_iloadi hG dX12_winsBy_95 rfl ?_
                    refine pm_iadd hG dX12_winsBy_97 ?_
                    refine pm_istoreXi (loc' := [some (.ref (B + 54)), some (.int (nI ba)), some (.int (nI 2)), some (.int zc), some (.int zd), some (.int ze), some (.int x3), some (.int (zd - x4)), some (.int x10), some (.int (nI i7)), some (.int (-1)), some (.int ((nI i7) + (-1)))]) hG dX12_winsBy_98 (by decide) (pm_c1b rfl) rfl ?_
                    refine pm_iloadi hG dX12_winsBy_100 rfl ?_
                    refine pm_iconst (v := nI 0) hG dX12_winsBy_102 (by decide) ?_
                    refine pm_iconst (v := nI 4) hG dX12_winsBy_103 (by decide) ?_
                    refine pm_callS (As := [.int ((nI i7) + (-1)), .int (nI 0), .int (nI 4)]) (rest := []) hG hR dX12_winsBy_104 (lkX12_68 _ rfl) okS_X12_in (m_in (d := 3)) rfl rfl hdd (Nat.le_refl _) (Nat.le_refl _) (by decide) (pm_ki (fun v12 σ' cnt' hq => ?_))
                    obtain ⟨hq, rfl, rfl⟩ := hq
                    rcases hq with ⟨rfl, ac13, bc13⟩ | ⟨rfl, c13⟩
                    · obtain ⟨k14, hk14, ek14⟩ := in_nat (by omega) (by omega) ac13 bc13
                      refine pm_ifN_eq (tgt := 214) hG dX12_winsBy_107 rfl (by omega) (fun q => absurd q (by omega)) (fun _ => ?_)
                      refine pm_iloadi hG dX12_winsBy_110 rfl ?_
                      refine pm_iloadi hG dX12_winsBy_112 rfl ?_
                      refine pm_callS (As := [.int x3, .int (nI i7)]) (rest := []) hG hR dX12_winsBy_114 (lkX12_253 _ rfl) okS_X12_isTaken (m_isTaken (d := 3) (by decide) hn hz) rfl rfl hdd (Nat.le_refl _) (Nat.le_refl _) (by decide) (pm_ki (fun v15 σ' cnt' hq => ?_))
                      obtain ⟨rfl, rfl, bv15⟩ := hq
                      refine pm_if_ne (tgt := 214) hG dX12_winsBy_117 rfl (fun c17 => ?_) (fun c17 => ?_)
                      · refine pm_iincX (v := nI 1) (loc' := [some (.ref (B + 54)), some (.int (nI ba)), some (.int (nI 2)), some (.int zc), some (.int zd), some (.int ze), some (.int x3), some (.int (zd - x4)), some (.int x10), some (.int (nI i7)), some (.int (nI 1)), some (.int ((nI i7) + (-1)))]) hG dX12_winsBy_214 rfl (by decide) (by decide) (pm_c1b rfl) rfl ?_
                        refine pm_goto (tgt := 82) hG dX12_winsBy_217 rfl ?_
                        refine pm_fg 11 (loc' := [some (.ref (B + 54)), some (.int (nI ba)), some (.int (nI 2)), some (.int zc), some (.int zd), some (.int ze), some (.int x3), some (.int (zd - x4)), some (.int x10), some (.int (nI i7)), some (.int (nI 1)), none]) rfl ?_
                        exact ih10 I10 A10 x10 1 b10 (by omega) (by omega)
                      · refine pm_iloadi hG dX12_winsBy_120 rfl ?_
                        refine pm_iloadi hG dX12_winsBy_122 rfl ?_
                        refine pm_top (v := nI k14) ek14 ?_
                        refine pm_callS (As := [.int x3, .int (nI k14)]) (rest := []) hG hR dX12_winsBy_124 (lkX12_253 _ rfl) okS_X12_isTaken (m_isTaken (d := 3) (by decide) hn hz) rfl rfl hdd (Nat.le_refl _) (Nat.le_refl _) (by decide) (pm_ki (fun v18 σ' cnt' hq => ?_))
                        obtain ⟨rfl, rfl, bv18⟩ := hq
                        refine pm_if_ne (tgt := 214) hG dX12_winsBy_127 rfl (fun c20 => ?_) (fun c20 => ?_)
                        · refine pm_iincX (v := nI 1) (loc' := [some (.ref (B + 54)), some (.int (nI ba)), some (.int (nI 2)), some (.int zc), some (.int zd), some (.int ze), some (.int x3), some (.int (zd - x4)), some (.int x10), some (.int (nI i7)), some (.int (nI 1)), some (.int ((nI i7) + (-1)))]) hG dX12_winsBy_214 rfl (by decide) (by decide) (pm_c1b rfl) rfl ?_
                          refine pm_goto (tgt := 82) hG dX12_winsBy_217 rfl ?_
                          refine pm_fg 11 (loc' := [some (.ref (B + 54)), some (.int (nI ba)), some (.int (nI 2)), some (.int zc), some (.int zd), some (.int ze), some (.int x3), some (.int (zd - x4)), some (.int x10), some (.int (nI i7)), some (.int (nI 1)), none]) rfl ?_
                          exact ih10 I10 A10 x10 1 b10 (by omega) (by omega)
                        · refine pm_aloadn hG dX12_winsBy_130 rfl ?_
                          refine pm_getf hG dX12_winsBy_131 (flX12_43 _ rfl) rfl rfl ?_
                          refine pm_iloadi hG dX12_winsBy_134 rfl ?_
                          refine pm_ialdN hG dX12_winsBy_136 rfl (by decide) (by omega) ?_
                          refine pm_any (fun x21 => ?_)
                          refine pm_if_eq (tgt := 214) hG dX12_winsBy_137 rfl (fun c22 => ?_) (fun c22 => ?_)
                          · refine pm_iincX (v := nI 1) (loc' := [some (.ref (B + 54)), some (.int (nI ba)), some (.int (nI 2)), some (.int zc), some (.int zd), some (.int ze), some (.int x3), some (.int (zd - x4)), some (.int x10), some (.int (nI i7)), some (.int (nI 1)), some (.int ((nI i7) + (-1)))]) hG dX12_winsBy_214 rfl (by decide) (by decide) (pm_c1b rfl) rfl ?_
                            refine pm_goto (tgt := 82) hG dX12_winsBy_217 rfl ?_
                            refine pm_fg 11 (loc' := [some (.ref (B + 54)), some (.int (nI ba)), some (.int (nI 2)), some (.int zc), some (.int zd), some (.int ze), some (.int x3), some (.int (zd - x4)), some (.int x10), some (.int (nI i7)), some (.int (nI 1)), none]) rfl ?_
                            exact ih10 I10 A10 x10 1 b10 (by omega) (by omega)
                          · refine pm_aloadn hG dX12_winsBy_140 rfl ?_
                            refine pm_getf hG dX12_winsBy_141 (flX12_43 _ rfl) rfl rfl ?_
                            refine pm_iloadi hG dX12_winsBy_144 rfl ?_
                            refine pm_top (v := nI k14) ek14 ?_
                            refine pm_ialdN hG dX12_winsBy_146 rfl (by decide) (by omega) ?_
                            refine pm_any (fun x23 => ?_)
                            refine pm_bipush (v := nI 6) hG dX12_winsBy_147 (by decide) ?_
                            refine pm_icmp_ne (tgt := 155) hG dX12_winsBy_149 rfl (fun c24 => ?_) (fun c24 => ?_)
                            · refine pm_aloadn hG dX12_winsBy_155 rfl ?_
                              refine pm_getf hG dX12_winsBy_156 (flX12_43 _ rfl) rfl rfl ?_
                              refine pm_iloadi hG dX12_winsBy_159 rfl ?_
                              refine pm_dup2 hG dX12_winsBy_161 rfl rfl ?_
                              refine pm_ialdN hG dX12_winsBy_162 rfl (by decide) (by omega) ?_
                              refine pm_any (fun x25 => ?_)
                              refine pm_iconst (v := nI 1) hG dX12_winsBy_163 (by decide) ?_
                              refine pm_isub hG dX12_winsBy_164 ?_
                              refine pm_iastN hG dX12_winsBy_165 rfl (by decide) (by omega) ?_
                              refine mdn_guards (fun A_26 => ?_)
                              refine pm_aloadn hG dX12_winsBy_166 rfl ?_
                              refine pm_getf hG dX12_winsBy_167 (flX12_43 _ rfl) rfl rfl ?_
                              refine pm_iloadi hG dX12_winsBy_170 rfl ?_
                              refine pm_top (v := nI k14) ek14 ?_
                              refine pm_dup2 hG dX12_winsBy_172 rfl rfl ?_
                              refine pm_ialdN hG dX12_winsBy_173 rfl (by decide) (by omega) ?_
                              refine pm_any (fun x27 => ?_)
                              refine pm_iconst (v := nI 1) hG dX12_winsBy_174 (by decide) ?_
                              refine pm_iadd hG dX12_winsBy_175 ?_
                              refine pm_iastN hG dX12_winsBy_176 rfl (by decide) (by omega) ?_
                              refine mdn_guards (fun A_28 => ?_)
                              refine pm_aloadn hG dX12_winsBy_177 rfl ?_
                              refine pm_iloadn hG dX12_winsBy_178 rfl ?_
                              refine pm_iconst (v := nI 1) hG dX12_winsBy_179 (by decide) ?_
                              refine pm_isubN (c := 1) hG dX12_winsBy_180 (by omega) ?_
                              refine pm_iloadi hG dX12_winsBy_181 rfl ?_
                              refine pm_iloadi hG dX12_winsBy_183 rfl ?_
                              refine pm_iloadi hG dX12_winsBy_185 rfl ?_
                              refine pm_callV (As := [.int (nI 1), .int x3, .int (zd - x4), .int ze]) (rest := []) hG hR dX12_winsBy_187 (lkX12_256 _ rfl) okV_X12_wins rfl rfl (m_wins_c1 (d := 3) (by decide) hn hz) rfl rfl hdd (Nat.le_refl _) (Nat.le_refl _) (by decide) (pm_ki (fun v29 σ' cnt' hq => ?_))
                              obtain ⟨⟨I30, A30, rfl⟩, rfl, bv29⟩ := hq
                              refine pm_istoreXi (loc' := [some (.ref (B + 54)), some (.int (nI ba)), some (.int (nI 2)), some (.int zc), some (.int zd), some (.int ze), some (.int x3), some (.int (zd - x4)), some (.int v29), some (.int (nI i7)), some (.int (-1)), some (.int ((nI i7) + (-1)))]) hG dX12_winsBy_190 (by decide) (pm_c1b rfl) rfl ?_
                              refine pm_aloadn hG dX12_winsBy_192 rfl ?_
                              refine pm_getf hG dX12_winsBy_193 (flX12_43 _ rfl) rfl rfl ?_
                              refine pm_iloadi hG dX12_winsBy_196 rfl ?_
                              refine pm_dup2 hG dX12_winsBy_198 rfl rfl ?_
                              refine pm_ialdN hG dX12_winsBy_199 rfl (by decide) (by omega) ?_
                              refine pm_any (fun x31 => ?_)
                              refine pm_iconst (v := nI 1) hG dX12_winsBy_200 (by decide) ?_
                              refine pm_iadd hG dX12_winsBy_201 ?_
                              refine pm_iastN hG dX12_winsBy_202 rfl (by decide) (by omega) ?_
                              refine mdn_guards (fun A_32 => ?_)
                              refine pm_aloadn hG dX12_winsBy_203 rfl ?_
                              refine pm_getf hG dX12_winsBy_204 (flX12_43 _ rfl) rfl rfl ?_
                              refine pm_iloadi hG dX12_winsBy_207 rfl ?_
                              refine pm_top (v := nI k14) ek14 ?_
                              refine pm_dup2 hG dX12_winsBy_209 rfl rfl ?_
                              refine pm_ialdN hG dX12_winsBy_210 rfl (by decide) (by omega) ?_
                              refine pm_any (fun x33 => ?_)
                              refine pm_iconst (v := nI 1) hG dX12_winsBy_211 (by decide) ?_
                              refine pm_isub hG dX12_winsBy_212 ?_
                              refine pm_iastN hG dX12_winsBy_213 rfl (by decide) (by omega) ?_
                              refine mdn_guards (fun A_34 => ?_)
                              refine pm_iincX (v := nI 1) (loc' := [some (.ref (B + 54)), some (.int (nI ba)), some (.int (nI 2)), some (.int zc), some (.int zd), some (.int ze), some (.int x3), some (.int (zd - x4)), some (.int v29), some (.int (nI i7)), some (.int (nI 1)), some (.int ((nI i7) + (-1)))]) hG dX12_winsBy_214 rfl (by decide) (by decide) (pm_c1b rfl) rfl ?_
                              refine pm_goto (tgt := 82) hG dX12_winsBy_217 rfl ?_
                              refine pm_fg 11 (loc' := [some (.ref (B + 54)), some (.int (nI ba)), some (.int (nI 2)), some (.int zc), some (.int zd), some (.int ze), some (.int x3), some (.int (zd - x4)), some (.int v29), some (.int (nI i7)), some (.int (nI 1)), none]) rfl ?_
                              exact ih10 I30 A_34 v29 1 bv29 (by omega) (by omega)
                            · refine pm_goto (tgt := 214) hG dX12_winsBy_152 rfl ?_
                              refine pm_iincX (v := nI 1) (loc' := [some (.ref (B + 54)), some (.int (nI ba)), some (.int (nI 2)), some (.int zc), some (.int zd), some (.int ze), some (.int x3), some (.int (zd - x4)), some (.int x10), some (.int (nI i7)), some (.int (nI 1)), some (.int ((nI i7) + (-1)))]) hG dX12_winsBy_214 rfl (by decide) (by decide) (pm_c1b rfl) rfl ?_
                              refine pm_goto (tgt := 82) hG dX12_winsBy_217 rfl ?_
                              refine pm_fg 11 (loc' := [some (.ref (B + 54)), some (.int (nI ba)), some (.int (nI 2)), some (.int zc), some (.int zd), some (.int ze), some (.int x3), some (.int (zd - x4)), some (.int x10), some (.int (nI i7)), some (.int (nI 1)), none]) rfl ?_
                              exact ih10 I10 A10 x10 1 b10 (by omega) (by omega)
                    · refine pm_ifN_eq (tgt := 214) hG dX12_winsBy_107 rfl (by omega) (fun _ => ?_) (fun q => absurd q (by omega))
                      refine pm_iincX (v := nI 1) (loc' := [some (.ref (B + 54)), some (.int (nI ba)), some (.int (nI 2)), some (.int zc), some (.int zd), some (.int ze), some (.int x3), some (.int (zd - x4)), some (.int x10), some (.int (nI i7)), some (.int (nI 1)), some (.int ((nI i7) + (-1)))]) hG dX12_winsBy_214 rfl (by decide) (by decide) (pm_c1b rfl) rfl ?_
                      refine pm_goto (tgt := 82) hG dX12_winsBy_217 rfl ?_
                      refine pm_fg 11 (loc' := [some (.ref (B + 54)), some (.int (nI ba)), some (.int (nI 2)), some (.int zc), some (.int zd), some (.int ze), some (.int x3), some (.int (zd - x4)), some (.int x10), some (.int (nI i7)), some (.int (nI 1)), none]) rfl ?_
                      exact ih10 I10 A10 x10 1 b10 (by omega) (by omega)
                · refine pm_le (loc' := [some (.ref (B + 54)), some (.int (nI ba)), some (.int (nI 2)), some (.int zc), some (.int zd), some (.int ze), some (.int x3), some (.int (zd - x4)), some (.int x10), some (.int (nI i7)), some (.int (nI 1)), none]) rfl ?_
                  refine pm_iloadi hG dX12_winsBy_82 rfl ?_
                  refine pm_iconst (v := nI 1) hG dX12_winsBy_84 (by decide) ?_
                  refine pm_icmpN_gt (tgt := 220) hG dX12_winsBy_85 rfl (by omega) (by omega) (fun q => absurd q (by omega)) (fun _ => ?_)
                  refine pm_iloadi hG dX12_winsBy_88 rfl ?_
                  refine pm_if_eq (tgt := 220) hG dX12_winsBy_90 rfl (fun c35 => ?_) (fun c35 => ?_)
                  · refine pm_iincX (v := nI (i7 + 1)) (loc' := [some (.ref (B + 54)), some (.int (nI ba)), some (.int (nI 2)), some (.int zc), some (.int zd), some (.int ze), some (.int x3), some (.int (zd - x4)), some (.int x10), some (.int (nI (i7 + 1))), some (.int (nI 1)), none]) hG dX12_winsBy_220 rfl (nI_1 _) (by decide) (pm_c1b rfl) rfl ?_
                    refine pm_goto (tgt := 68) hG dX12_winsBy_223 rfl ?_
                    refine pm_fg 10 (loc' := [some (.ref (B + 54)), some (.int (nI ba)), some (.int (nI 2)), some (.int zc), some (.int zd), some (.int ze), some (.int x3), some (.int (zd - x4)), some (.int x10), some (.int (nI (i7 + 1))), none, none]) rfl ?_
                    exact ih7 I10 A10 x10 (i7 + 1) b10 (by omega) (by omega)
                  · refine pm_iloadi hG dX12_winsBy_93 rfl ?_
                    refine pm_iloadi hG dX12_winsBy_95 rfl ?_
                    refine pm_iaddN (c := i7 + 1) hG dX12_winsBy_97 (by omega) ?_
                    refine pm_istoreXi (loc' := [some (.ref (B + 54)), some (.int (nI ba)), some (.int (nI 2)), some (.int zc), some (.int zd), some (.int ze), some (.int x3), some (.int (zd - x4)), some (.int x10), some (.int (nI i7)), some (.int (nI 1)), some (.int (nI (i7 + 1)))]) hG dX12_winsBy_98 (by decide) (pm_c1b rfl) rfl ?_
                    refine pm_iloadi hG dX12_winsBy_100 rfl ?_
                    refine pm_iconst (v := nI 0) hG dX12_winsBy_102 (by decide) ?_
                    refine pm_iconst (v := nI 4) hG dX12_winsBy_103 (by decide) ?_
                    refine pm_callS (As := [.int (nI (i7 + 1)), .int (nI 0), .int (nI 4)]) (rest := []) hG hR dX12_winsBy_104 (lkX12_68 _ rfl) okS_X12_in (m_in (d := 3)) rfl rfl hdd (Nat.le_refl _) (Nat.le_refl _) (by decide) (pm_ki (fun v36 σ' cnt' hq => ?_))
                    obtain ⟨hq, rfl, rfl⟩ := hq
                    rcases hq with ⟨rfl, ac37, bc37⟩ | ⟨rfl, c37⟩
                    · have ic37 := (nI_leI (by omega) (by omega)).mp (Int32.not_lt.mp ac37)
                      have jc37 := (nI_leI (by omega) (by omega)).mp (Int32.not_lt.mp bc37)
                      refine pm_ifN_eq (tgt := 214) hG dX12_winsBy_107 rfl (by omega) (fun q => absurd q (by omega)) (fun _ => ?_)
                      refine pm_iloadi hG dX12_winsBy_110 rfl ?_
                      refine pm_iloadi hG dX12_winsBy_112 rfl ?_
                      refine pm_callS (As := [.int x3, .int (nI i7)]) (rest := []) hG hR dX12_winsBy_114 (lkX12_253 _ rfl) okS_X12_isTaken (m_isTaken (d := 3) (by decide) hn hz) rfl rfl hdd (Nat.le_refl _) (Nat.le_refl _) (by decide) (pm_ki (fun v38 σ' cnt' hq => ?_))
                      obtain ⟨rfl, rfl, bv38⟩ := hq
                      refine pm_if_ne (tgt := 214) hG dX12_winsBy_117 rfl (fun c40 => ?_) (fun c40 => ?_)
                      · refine pm_iincX (v := nI 3) (loc' := [some (.ref (B + 54)), some (.int (nI ba)), some (.int (nI 2)), some (.int zc), some (.int zd), some (.int ze), some (.int x3), some (.int (zd - x4)), some (.int x10), some (.int (nI i7)), some (.int (nI 3)), some (.int (nI (i7 + 1)))]) hG dX12_winsBy_214 rfl (by decide) (by decide) (pm_c1b rfl) rfl ?_
                        refine pm_goto (tgt := 82) hG dX12_winsBy_217 rfl ?_
                        refine pm_fg 11 (loc' := [some (.ref (B + 54)), some (.int (nI ba)), some (.int (nI 2)), some (.int zc), some (.int zd), some (.int ze), some (.int x3), some (.int (zd - x4)), some (.int x10), some (.int (nI i7)), some (.int (nI 3)), none]) rfl ?_
                        exact ih10 I10 A10 x10 2 b10 (by omega) (by omega)
                      · refine pm_iloadi hG dX12_winsBy_120 rfl ?_
                        refine pm_iloadi hG dX12_winsBy_122 rfl ?_
                        refine pm_callS (As := [.int x3, .int (nI (i7 + 1))]) (rest := []) hG hR dX12_winsBy_124 (lkX12_253 _ rfl) okS_X12_isTaken (m_isTaken (d := 3) (by decide) hn hz) rfl rfl hdd (Nat.le_refl _) (Nat.le_refl _) (by decide) (pm_ki (fun v41 σ' cnt' hq => ?_))
                        obtain ⟨rfl, rfl, bv41⟩ := hq
                        refine pm_if_ne (tgt := 214) hG dX12_winsBy_127 rfl (fun c43 => ?_) (fun c43 => ?_)
                        · refine pm_iincX (v := nI 3) (loc' := [some (.ref (B + 54)), some (.int (nI ba)), some (.int (nI 2)), some (.int zc), some (.int zd), some (.int ze), some (.int x3), some (.int (zd - x4)), some (.int x10), some (.int (nI i7)), some (.int (nI 3)), some (.int (nI (i7 + 1)))]) hG dX12_winsBy_214 rfl (by decide) (by decide) (pm_c1b rfl) rfl ?_
                          refine pm_goto (tgt := 82) hG dX12_winsBy_217 rfl ?_
                          refine pm_fg 11 (loc' := [some (.ref (B + 54)), some (.int (nI ba)), some (.int (nI 2)), some (.int zc), some (.int zd), some (.int ze), some (.int x3), some (.int (zd - x4)), some (.int x10), some (.int (nI i7)), some (.int (nI 3)), none]) rfl ?_
                          exact ih10 I10 A10 x10 2 b10 (by omega) (by omega)
                        · refine pm_aloadn hG dX12_winsBy_130 rfl ?_
                          refine pm_getf hG dX12_winsBy_131 (flX12_43 _ rfl) rfl rfl ?_
                          refine pm_iloadi hG dX12_winsBy_134 rfl ?_
                          refine pm_ialdN hG dX12_winsBy_136 rfl (by decide) (by omega) ?_
                          refine pm_any (fun x44 => ?_)
                          refine pm_if_eq (tgt := 214) hG dX12_winsBy_137 rfl (fun c45 => ?_) (fun c45 => ?_)
                          · refine pm_iincX (v := nI 3) (loc' := [some (.ref (B + 54)), some (.int (nI ba)), some (.int (nI 2)), some (.int zc), some (.int zd), some (.int ze), some (.int x3), some (.int (zd - x4)), some (.int x10), some (.int (nI i7)), some (.int (nI 3)), some (.int (nI (i7 + 1)))]) hG dX12_winsBy_214 rfl (by decide) (by decide) (pm_c1b rfl) rfl ?_
                            refine pm_goto (tgt := 82) hG dX12_winsBy_217 rfl ?_
                            refine pm_fg 11 (loc' := [some (.ref (B + 54)), some (.int (nI ba)), some (.int (nI 2)), some (.int zc), some (.int zd), some (.int ze), some (.int x3), some (.int (zd - x4)), some (.int x10), some (.int (nI i7)), some (.int (nI 3)), none]) rfl ?_
                            exact ih10 I10 A10 x10 2 b10 (by omega) (by omega)
                          · refine pm_aloadn hG dX12_winsBy_140 rfl ?_
                            refine pm_getf hG dX12_winsBy_141 (flX12_43 _ rfl) rfl rfl ?_
                            refine pm_iloadi hG dX12_winsBy_144 rfl ?_
                            refine pm_ialdN hG dX12_winsBy_146 rfl (by decide) (by omega) ?_
                            refine pm_any (fun x46 => ?_)
                            refine pm_bipush (v := nI 6) hG dX12_winsBy_147 (by decide) ?_
                            refine pm_icmp_ne (tgt := 155) hG dX12_winsBy_149 rfl (fun c47 => ?_) (fun c47 => ?_)
                            · refine pm_aloadn hG dX12_winsBy_155 rfl ?_
                              refine pm_getf hG dX12_winsBy_156 (flX12_43 _ rfl) rfl rfl ?_
                              refine pm_iloadi hG dX12_winsBy_159 rfl ?_
                              refine pm_dup2 hG dX12_winsBy_161 rfl rfl ?_
                              refine pm_ialdN hG dX12_winsBy_162 rfl (by decide) (by omega) ?_
                              refine pm_any (fun x48 => ?_)
                              refine pm_iconst (v := nI 1) hG dX12_winsBy_163 (by decide) ?_
                              refine pm_isub hG dX12_winsBy_164 ?_
                              refine pm_iastN hG dX12_winsBy_165 rfl (by decide) (by omega) ?_
                              refine mdn_guards (fun A_49 => ?_)
                              refine pm_aloadn hG dX12_winsBy_166 rfl ?_
                              refine pm_getf hG dX12_winsBy_167 (flX12_43 _ rfl) rfl rfl ?_
                              refine pm_iloadi hG dX12_winsBy_170 rfl ?_
                              refine pm_dup2 hG dX12_winsBy_172 rfl rfl ?_
                              refine pm_ialdN hG dX12_winsBy_173 rfl (by decide) (by omega) ?_
                              refine pm_any (fun x50 => ?_)
                              refine pm_iconst (v := nI 1) hG dX12_winsBy_174 (by decide) ?_
                              refine pm_iadd hG dX12_winsBy_175 ?_
                              refine pm_iastN hG dX12_winsBy_176 rfl (by decide) (by omega) ?_
                              refine mdn_guards (fun A_51 => ?_)
                              refine pm_aloadn hG dX12_winsBy_177 rfl ?_
                              refine pm_iloadn hG dX12_winsBy_178 rfl ?_
                              refine pm_iconst (v := nI 1) hG dX12_winsBy_179 (by decide) ?_
                              refine pm_isubN (c := 1) hG dX12_winsBy_180 (by omega) ?_
                              refine pm_iloadi hG dX12_winsBy_181 rfl ?_
                              refine pm_iloadi hG dX12_winsBy_183 rfl ?_
                              refine pm_iloadi hG dX12_winsBy_185 rfl ?_
                              refine pm_callV (As := [.int (nI 1), .int x3, .int (zd - x4), .int ze]) (rest := []) hG hR dX12_winsBy_187 (lkX12_256 _ rfl) okV_X12_wins rfl rfl (m_wins_c1 (d := 3) (by decide) hn hz) rfl rfl hdd (Nat.le_refl _) (Nat.le_refl _) (by decide) (pm_ki (fun v52 σ' cnt' hq => ?_))
                              obtain ⟨⟨I53, A53, rfl⟩, rfl, bv52⟩ := hq
                              refine pm_istoreXi (loc' := [some (.ref (B + 54)), some (.int (nI ba)), some (.int (nI 2)), some (.int zc), some (.int zd), some (.int ze), some (.int x3), some (.int (zd - x4)), some (.int v52), some (.int (nI i7)), some (.int (nI 1)), some (.int (nI (i7 + 1)))]) hG dX12_winsBy_190 (by decide) (pm_c1b rfl) rfl ?_
                              refine pm_aloadn hG dX12_winsBy_192 rfl ?_
                              refine pm_getf hG dX12_winsBy_193 (flX12_43 _ rfl) rfl rfl ?_
                              refine pm_iloadi hG dX12_winsBy_196 rfl ?_
                              refine pm_dup2 hG dX12_winsBy_198 rfl rfl ?_
                              refine pm_ialdN hG dX12_winsBy_199 rfl (by decide) (by omega) ?_
                              refine pm_any (fun x54 => ?_)
                              refine pm_iconst (v := nI 1) hG dX12_winsBy_200 (by decide) ?_
                              refine pm_iadd hG dX12_winsBy_201 ?_
                              refine pm_iastN hG dX12_winsBy_202 rfl (by decide) (by omega) ?_
                              refine mdn_guards (fun A_55 => ?_)
                              refine pm_aloadn hG dX12_winsBy_203 rfl ?_
                              refine pm_getf hG dX12_winsBy_204 (flX12_43 _ rfl) rfl rfl ?_
                              refine pm_iloadi hG dX12_winsBy_207 rfl ?_
                              refine pm_dup2 hG dX12_winsBy_209 rfl rfl ?_
                              refine pm_ialdN hG dX12_winsBy_210 rfl (by decide) (by omega) ?_
                              refine pm_any (fun x56 => ?_)
                              refine pm_iconst (v := nI 1) hG dX12_winsBy_211 (by decide) ?_
                              refine pm_isub hG dX12_winsBy_212 ?_
                              refine pm_iastN hG dX12_winsBy_213 rfl (by decide) (by omega) ?_
                              refine mdn_guards (fun A_57 => ?_)
                              refine pm_iincX (v := nI 3) (loc' := [some (.ref (B + 54)), some (.int (nI ba)), some (.int (nI 2)), some (.int zc), some (.int zd), some (.int ze), some (.int x3), some (.int (zd - x4)), some (.int v52), some (.int (nI i7)), some (.int (nI 3)), some (.int (nI (i7 + 1)))]) hG dX12_winsBy_214 rfl (by decide) (by decide) (pm_c1b rfl) rfl ?_
                              refine pm_goto (tgt := 82) hG dX12_winsBy_217 rfl ?_
                              refine pm_fg 11 (loc' := [some (.ref (B + 54)), some (.int (nI ba)), some (.int (nI 2)), some (.int zc), some (.int zd), some (.int ze), some (.int x3), some (.int (zd - x4)), some (.int v52), some (.int (nI i7)), some (.int (nI 3)), none]) rfl ?_
                              exact ih10 I53 A_57 v52 2 bv52 (by omega) (by omega)
                            · refine pm_goto (tgt := 214) hG dX12_winsBy_152 rfl ?_
                              refine pm_iincX (v := nI 3) (loc' := [some (.ref (B + 54)), some (.int (nI ba)), some (.int (nI 2)), some (.int zc), some (.int zd), some (.int ze), some (.int x3), some (.int (zd - x4)), some (.int x10), some (.int (nI i7)), some (.int (nI 3)), some (.int (nI (i7 + 1)))]) hG dX12_winsBy_214 rfl (by decide) (by decide) (pm_c1b rfl) rfl ?_
                              refine pm_goto (tgt := 82) hG dX12_winsBy_217 rfl ?_
                              refine pm_fg 11 (loc' := [some (.ref (B + 54)), some (.int (nI ba)), some (.int (nI 2)), some (.int zc), some (.int zd), some (.int ze), some (.int x3), some (.int (zd - x4)), some (.int x10), some (.int (nI i7)), some (.int (nI 3)), none]) rfl ?_
                              exact ih10 I10 A10 x10 2 b10 (by omega) (by omega)
                    · refine pm_ifN_eq (tgt := 214) hG dX12_winsBy_107 rfl (by omega) (fun _ => ?_) (fun q => absurd q (by omega))
                      refine pm_iincX (v := nI 3) (loc' := [some (.ref (B + 54)), some (.int (nI ba)), some (.int (nI 2)), some (.int zc), some (.int zd), some (.int ze), some (.int x3), some (.int (zd - x4)), some (.int x10), some (.int (nI i7)), some (.int (nI 3)), some (.int (nI (i7 + 1)))]) hG dX12_winsBy_214 rfl (by decide) (by decide) (pm_c1b rfl) rfl ?_
                      refine pm_goto (tgt := 82) hG dX12_winsBy_217 rfl ?_
                      refine pm_fg 11 (loc' := [some (.ref (B + 54)), some (.int (nI ba)), some (.int (nI 2)), some (.int zc), some (.int zd), some (.int ze), some (.int x3), some (.int (zd - x4)), some (.int x10), some (.int (nI i7)), some (.int (nI 3)), none]) rfl ?_
                      exact ih10 I10 A10 x10 2 b10 (by omega) (by omega)
                · refine pm_le (loc' := [some (.ref (B + 54)), some (.int (nI ba)), some (.int (nI 2)), some (.int zc), some (.int zd), some (.int ze), some (.int x3), some (.int (zd - x4)), some (.int x10), some (.int (nI i7)), some (.int (nI 3)), none]) rfl ?_
                  refine pm_iloadi hG dX12_winsBy_82 rfl ?_
                  refine pm_iconst (v := nI 1) hG dX12_winsBy_84 (by decide) ?_
                  refine pm_icmpN_gt (tgt := 220) hG dX12_winsBy_85 rfl (by omega) (by omega) (fun _ => ?_) (fun q => absurd q (by omega))
                  refine pm_iincX (v := nI (i7 + 1)) (loc' := [some (.ref (B + 54)), some (.int (nI ba)), some (.int (nI 2)), some (.int zc), some (.int zd), some (.int ze), some (.int x3), some (.int (zd - x4)), some (.int x10), some (.int (nI (i7 + 1))), some (.int (nI 3)), none]) hG dX12_winsBy_220 rfl (nI_1 _) (by decide) (pm_c1b rfl) rfl ?_
                  refine pm_goto (tgt := 68) hG dX12_winsBy_223 rfl ?_
                  refine pm_fg 10 (loc' := [some (.ref (B + 54)), some (.int (nI ba)), some (.int (nI 2)), some (.int zc), some (.int zd), some (.int ze), some (.int x3), some (.int (zd - x4)), some (.int x10), some (.int (nI (i7 + 1))), none, none]) rfl ?_
                  exact ih7 I10 A10 x10 (i7 + 1) b10 (by omega) (by omega)
            exact loop10 _ I7 A7 x7_8 0 bx7_8 (by omega) (Nat.lt_succ_self _)
    exact loop68_7 _ I6 A6 v5 0 bv5 (by omega) (Nat.lt_succ_self _)
  · refine pm_iconst (v := nI 1) hG dX12_winsBy_6 (by decide) ?_
    exact pm_zret hG hF dX12_winsBy_7 rfl (pm_nz (Or.inr rfl)) (Nat.le_refl _) (Nat.le_refl _) ⟨_, rfl, ⟨_, _, rfl⟩, rfl, (Or.inr rfl)⟩

set_option maxRecDepth 100000 in
set_option maxHeartbeats 4000000 in
theorem m_wins_c2 {d B cnt p0 t0 : Nat} {σ : pm_S} {I : Nat → Int32} {A : Nat → Nat → Int32} {n k z : Nat → Int32} {ac wt pl im : Int32} {zb zc zd : Int32} (hdd : 5 ≤ d) (hn : KI n) (hz : SZ z)  : pm_met mX12_wins d 0 0 B [.ref (B + 54), .int (nI 2), .int zb, .int zc, .int zd] cnt (pm_mid σ (md_L B I A n k z ac wt pl (nI p0) (nI t0) im)) (pm_Qi (fun v σ' cnt' => (∃ (I' : Nat → Int32) (A' : Nat → Nat → Int32), σ' = pm_mid σ (md_L B I' A' n k z ac wt pl (nI p0) (nI t0) im)) ∧ cnt = cnt' ∧ (v = 0 ∨ v = 1))) := by
  refine pm_enter 2 (by decide) (Nat.le_of_ble_eq_true rfl) rfl (fun G hG hR hF => ?_)
  refine pm_aloadn hG dX12_wins_0 rfl ?_
  refine pm_iconst (v := (-1)) hG dX12_wins_1 (by decide) ?_
  refine pm_iloadn hG dX12_wins_2 rfl ?_
  refine pm_iloadn hG dX12_wins_3 rfl ?_
  refine pm_iloadn hG dX12_wins_4 rfl ?_
  refine pm_iloadi hG dX12_wins_5 rfl ?_
  refine pm_callV (As := [.int (-1), .int (nI 2), .int zb, .int zc, .int zd]) (rest := []) hG hR dX12_wins_7 (lkX12_260 _ rfl) okV_X12_winsBy rfl rfl (m_winsBy_m_c2 (d := 4) (by decide) hn hz) rfl rfl hdd (Nat.le_refl _) (Nat.le_refl _) (by decide) (pm_ki (fun v1 σ' cnt' hq => ?_))
  obtain ⟨⟨I2, A2, rfl⟩, rfl, bv1⟩ := hq
  refine pm_istoreXi (loc' := [some (.ref (B + 54)), some (.int (nI 2)), some (.int zb), some (.int zc), some (.int zd), some (.int v1), none]) hG dX12_wins_10 (by decide) (pm_c1b rfl) rfl ?_
  refine pm_iconst (v := nI 0) hG dX12_wins_12 (by decide) ?_
  refine pm_istoreXi (loc' := [some (.ref (B + 54)), some (.int (nI 2)), some (.int zb), some (.int zc), some (.int zd), some (.int v1), some (.int (nI 0))]) hG dX12_wins_13 (by decide) (pm_c1b rfl) rfl ?_
  have loop15_3 : ∀ (m3 : Nat) (I3 : Nat → Int32) (A3 : Nat → Nat → Int32) (x3_5 : Int32) (i3 : Nat), (x3_5 = 0 ∨ x3_5 = 1) → i3 ≤ 5 → 5 - i3 < m3 → pm_wp mX12_wins G B 15 [some (.ref (B + 54)), some (.int (nI 2)), some (.int zb), some (.int zc), some (.int zd), some (.int x3_5), some (.int (nI i3))] [] 0 0 cnt (pm_mid σ (md_L B I3 A3 n k z ac wt pl (nI p0) (nI t0) im)) := by
    intro m3
    induction m3 with
    | zero => intro I3 A3 x3_5 i3 _ _ hm; exact absurd hm (Nat.not_lt_zero _)
    | succ m3 ih3 =>
      intro I3 A3 x3_5 i3 bx3_5 hi3 hm3
      refine pm_iloadi hG dX12_wins_15 rfl ?_
      refine pm_iconst (v := nI 5) hG dX12_wins_17 (by decide) ?_
      refine pm_icmpN_ge (tgt := 64) hG dX12_wins_18 rfl (by omega) (by omega) (fun c4 => ?_) (fun c4 => ?_)
      · refine pm_iloadi hG dX12_wins_64 rfl ?_
        exact pm_zret hG hF dX12_wins_66 rfl (pm_nz bx3_5) (Nat.le_refl _) (Nat.le_refl _) ⟨_, rfl, ⟨_, _, rfl⟩, rfl, bx3_5⟩
      · refine pm_iloadi hG dX12_wins_21 rfl ?_
        refine pm_if_ne (tgt := 64) hG dX12_wins_23 rfl (fun c5 => ?_) (fun c5 => ?_)
        · refine pm_iloadi hG dX12_wins_64 rfl ?_
          exact pm_zret hG hF dX12_wins_66 rfl (pm_nz bx3_5) (Nat.le_refl _) (Nat.le_refl _) ⟨_, rfl, ⟨_, _, rfl⟩, rfl, bx3_5⟩
        · refine pm_aloadn hG dX12_wins_26 rfl ?_
          refine pm_iloadn hG dX12_wins_27 rfl ?_
          refine pm_iloadn hG dX12_wins_28 rfl ?_
          refine pm_iloadi hG dX12_wins_29 rfl ?_
          refine pm_callV (As := [.int zb, .int zc, .int (nI i3)]) (rest := []) hG hR dX12_wins_31 (lkX12_264 _ rfl) okV_X12_canTake rfl rfl (m_canTake (d := 4) (by decide) hn hz (by omega)) rfl rfl hdd (Nat.le_refl _) (Nat.le_refl _) (by decide) (pm_ki (fun v6 σ' cnt' hq => ?_))
          obtain ⟨rfl, rfl, bv6⟩ := hq
          refine pm_if_eq (tgt := 55) hG dX12_wins_34 rfl (fun c8 => ?_) (fun c8 => ?_)
          · refine pm_iconst (v := nI 0) hG dX12_wins_55 (by decide) ?_
            refine pm_istoreXi (loc' := [some (.ref (B + 54)), some (.int (nI 2)), some (.int zb), some (.int zc), some (.int zd), some (.int (nI 0)), some (.int (nI i3))]) hG dX12_wins_56 (by decide) (pm_c1b rfl) rfl ?_
            refine pm_iincX (v := nI (i3 + 1)) (loc' := [some (.ref (B + 54)), some (.int (nI 2)), some (.int zb), some (.int zc), some (.int zd), some (.int (nI 0)), some (.int (nI (i3 + 1)))]) hG dX12_wins_58 rfl (nI_1 _) (by decide) (pm_c1b rfl) rfl ?_
            refine pm_goto (tgt := 15) hG dX12_wins_61 rfl ?_
            exact ih3 I3 A3 (nI 0) (i3 + 1) (Or.inl rfl) (by omega) (by omega)
          · refine pm_aloadn hG dX12_wins_37 rfl ?_
            refine pm_iloadi hG dX12_wins_38 rfl ?_
            refine pm_iloadn hG dX12_wins_40 rfl ?_
            refine pm_iloadn hG dX12_wins_41 rfl ?_
            refine pm_iloadn hG dX12_wins_42 rfl ?_
            refine pm_iloadi hG dX12_wins_43 rfl ?_
            refine pm_callV (As := [.int (nI i3), .int (nI 2), .int zb, .int zc, .int zd]) (rest := []) hG hR dX12_wins_45 (lkX12_260 _ rfl) okV_X12_winsBy rfl rfl (m_winsBy_n5_c2 (d := 4) (by decide) hn hz (by omega)) rfl rfl hdd (Nat.le_refl _) (Nat.le_refl _) (by decide) (pm_ki (fun v9 σ' cnt' hq => ?_))
            obtain ⟨⟨I10, A10, rfl⟩, rfl, bv9⟩ := hq
            refine pm_if_eq (tgt := 55) hG dX12_wins_48 rfl (fun c11 => ?_) (fun c11 => ?_)
            · refine pm_iconst (v := nI 0) hG dX12_wins_55 (by decide) ?_
              refine pm_istoreXi (loc' := [some (.ref (B + 54)), some (.int (nI 2)), some (.int zb), some (.int zc), some (.int zd), some (.int (nI 0)), some (.int (nI i3))]) hG dX12_wins_56 (by decide) (pm_c1b rfl) rfl ?_
              refine pm_iincX (v := nI (i3 + 1)) (loc' := [some (.ref (B + 54)), some (.int (nI 2)), some (.int zb), some (.int zc), some (.int zd), some (.int (nI 0)), some (.int (nI (i3 + 1)))]) hG dX12_wins_58 rfl (nI_1 _) (by decide) (pm_c1b rfl) rfl ?_
              refine pm_goto (tgt := 15) hG dX12_wins_61 rfl ?_
              exact ih3 I10 A10 (nI 0) (i3 + 1) (Or.inl rfl) (by omega) (by omega)
            · refine pm_iconst (v := nI 1) hG dX12_wins_51 (by decide) ?_
              refine pm_goto (tgt := 56) hG dX12_wins_52 rfl ?_
              refine pm_istoreXi (loc' := [some (.ref (B + 54)), some (.int (nI 2)), some (.int zb), some (.int zc), some (.int zd), some (.int (nI 1)), some (.int (nI i3))]) hG dX12_wins_56 (by decide) (pm_c1b rfl) rfl ?_
              refine pm_iincX (v := nI (i3 + 1)) (loc' := [some (.ref (B + 54)), some (.int (nI 2)), some (.int zb), some (.int zc), some (.int zd), some (.int (nI 1)), some (.int (nI (i3 + 1)))]) hG dX12_wins_58 rfl (nI_1 _) (by decide) (pm_c1b rfl) rfl ?_
              refine pm_goto (tgt := 15) hG dX12_wins_61 rfl ?_
              exact ih3 I10 A10 (nI 1) (i3 + 1) (Or.inr rfl) (by omega) (by omega)
  exact loop15_3 _ I2 A2 v1 0 bv1 (by omega) (Nat.lt_succ_self _)

set_option maxRecDepth 100000 in
set_option maxHeartbeats 4000000 in
theorem m_winsBy_m_c3 {d B cnt p0 t0 : Nat} {σ : pm_S} {I : Nat → Int32} {A : Nat → Nat → Int32} {n k z : Nat → Int32} {ac wt pl im : Int32} {zc zd ze : Int32} (hdd : 6 ≤ d) (hn : KI n) (hz : SZ z)  : pm_met mX12_winsBy d 0 0 B [.ref (B + 54), .int (-1), .int (nI 3), .int zc, .int zd, .int ze] cnt (pm_mid σ (md_L B I A n k z ac wt pl (nI p0) (nI t0) im)) (pm_Qi (fun v σ' cnt' => (∃ (I' : Nat → Int32) (A' : Nat → Nat → Int32), σ' = pm_mid σ (md_L B I' A' n k z ac wt pl (nI p0) (nI t0) im)) ∧ cnt = cnt' ∧ (v = 0 ∨ v = 1))) := by
  refine pm_enter 6 (by decide) (Nat.le_of_ble_eq_true rfl) rfl (fun G hG hR hF => ?_)
  refine pm_iloadn hG dX12_winsBy_0 rfl ?_
  refine pm_iloadi hG dX12_winsBy_1 rfl ?_
  refine pm_icmp_ne (tgt := 8) hG dX12_winsBy_3 rfl (fun c1 => ?_) (fun c1 => ?_)
  · refine pm_iloadn hG dX12_winsBy_8 rfl ?_
    refine pm_iconst (v := nI 1) hG dX12_winsBy_9 (by decide) ?_
    refine pm_icmpN_ne (tgt := 15) hG dX12_winsBy_10 rfl (by omega) (by omega) (fun _ => ?_) (fun q => absurd q (by omega))
    refine pm_iloadn hG dX12_winsBy_15 rfl ?_
    refine pm_if_ge (tgt := 23) hG dX12_winsBy_16 rfl (fun q => absurd q (by decide)) (fun _ => ?_)
    refine pm_iloadn hG dX12_winsBy_19 rfl ?_
    refine pm_goto (tgt := 28) hG dX12_winsBy_20 rfl ?_
    refine pm_istoreXi (loc' := [some (.ref (B + 54)), some (.int (-1)), some (.int (nI 3)), some (.int zc), some (.int zd), some (.int ze), some (.int zc), none, none, none, none, none]) hG dX12_winsBy_28 (by decide) (pm_c1b rfl) rfl ?_
    refine pm_iloadn hG dX12_winsBy_30 rfl ?_
    refine pm_if_ge (tgt := 39) hG dX12_winsBy_31 rfl (fun q => absurd q (by decide)) (fun _ => ?_)
    refine pm_iloadi hG dX12_winsBy_34 rfl ?_
    refine pm_goto (tgt := 48) hG dX12_winsBy_36 rfl ?_
    refine pm_istoreXi (loc' := [some (.ref (B + 54)), some (.int (-1)), some (.int (nI 3)), some (.int zc), some (.int zd), some (.int ze), some (.int zc), some (.int zd), none, none, none, none]) hG dX12_winsBy_48 (by decide) (pm_c1b rfl) rfl ?_
    refine pm_aloadn hG dX12_winsBy_50 rfl ?_
    refine pm_iloadn hG dX12_winsBy_51 rfl ?_
    refine pm_iconst (v := nI 1) hG dX12_winsBy_52 (by decide) ?_
    refine pm_isubN (c := 2) hG dX12_winsBy_53 (by omega) ?_
    refine pm_iloadi hG dX12_winsBy_54 rfl ?_
    refine pm_iloadi hG dX12_winsBy_56 rfl ?_
    refine pm_iloadi hG dX12_winsBy_58 rfl ?_
    refine pm_callV (As := [.int (nI 2), .int zc, .int zd, .int ze]) (rest := []) hG hR dX12_winsBy_60 (lkX12_256 _ rfl) okV_X12_wins rfl rfl (m_wins_c2 (d := 5) (by decide) hn hz) rfl rfl hdd (Nat.le_refl _) (Nat.le_refl _) (by decide) (pm_ki (fun v2 σ' cnt' hq => ?_))
    obtain ⟨⟨I3, A3, rfl⟩, rfl, bv2⟩ := hq
    refine pm_istoreXi (loc' := [some (.ref (B + 54)), some (.int (-1)), some (.int (nI 3)), some (.int zc), some (.int zd), some (.int ze), some (.int zc), some (.int zd), some (.int v2), none, none, none]) hG dX12_winsBy_63 (by decide) (pm_c1b rfl) rfl ?_
    refine pm_iconst (v := nI 0) hG dX12_winsBy_65 (by decide) ?_
    refine pm_istoreXi (loc' := [some (.ref (B + 54)), some (.int (-1)), some (.int (nI 3)), some (.int zc), some (.int zd), some (.int ze), some (.int zc), some (.int zd), some (.int v2), some (.int (nI 0)), none, none]) hG dX12_winsBy_66 (by decide) (pm_c1b rfl) rfl ?_
    have loop68_4 : ∀ (m4 : Nat) (I4 : Nat → Int32) (A4 : Nat → Nat → Int32) (x4_8 : Int32) (i4 : Nat), (x4_8 = 0 ∨ x4_8 = 1) → i4 ≤ 5 → 5 - i4 < m4 → pm_wp mX12_winsBy G B 68 [some (.ref (B + 54)), some (.int (-1)), some (.int (nI 3)), some (.int zc), some (.int zd), some (.int ze), some (.int zc), some (.int zd), some (.int x4_8), some (.int (nI i4)), none, none] [] 0 0 cnt (pm_mid σ (md_L B I4 A4 n k z ac wt pl (nI p0) (nI t0) im)) := by
      intro m4
      induction m4 with
      | zero => intro I4 A4 x4_8 i4 _ _ hm; exact absurd hm (Nat.not_lt_zero _)
      | succ m4 ih4 =>
        intro I4 A4 x4_8 i4 bx4_8 hi4 hm4
        refine pm_iloadi hG dX12_winsBy_68 rfl ?_
        refine pm_iconst (v := nI 5) hG dX12_winsBy_70 (by decide) ?_
        refine pm_icmpN_ge (tgt := 226) hG dX12_winsBy_71 rfl (by omega) (by omega) (fun c5 => ?_) (fun c5 => ?_)
        · refine pm_iloadi hG dX12_winsBy_226 rfl ?_
          exact pm_zret hG hF dX12_winsBy_228 rfl (pm_nz bx4_8) (Nat.le_refl _) (Nat.le_refl _) ⟨_, rfl, ⟨_, _, rfl⟩, rfl, bx4_8⟩
        · refine pm_iloadi hG dX12_winsBy_74 rfl ?_
          refine pm_if_eq (tgt := 226) hG dX12_winsBy_76 rfl (fun c6 => ?_) (fun c6 => ?_)
          · refine pm_iloadi hG dX12_winsBy_226 rfl ?_
            refine pm_top (v := nI 0) c6 ?_
            exact pm_zret hG hF dX12_winsBy_228 rfl (pm_nz (Or.inl rfl)) (Nat.le_refl _) (Nat.le_refl _) ⟨_, rfl, ⟨_, _, rfl⟩, rfl, (Or.inl rfl)⟩
          · refine pm_iconst (v := (-1)) hG dX12_winsBy_79 (by decide) ?_
            refine pm_istoreXi (loc' := [some (.ref (B + 54)), some (.int (-1)), some (.int (nI 3)), some (.int zc), some (.int zd), some (.int ze), some (.int zc), some (.int zd), some (.int x4_8), some (.int (nI i4)), some (.int (-1)), none]) hG dX12_winsBy_80 (by decide) (pm_c1b rfl) rfl ?_
            have loop7 : ∀ (m7 : Nat) (I7 : Nat → Int32) (A7 : Nat → Nat → Int32) (x7 : Int32) (s7 : Nat), (x7 = 0 ∨ x7 = 1) → s7 ≤ 2 → 2 - s7 < m7 → pm_wp mX12_winsBy G B 82 [some (.ref (B + 54)), some (.int (-1)), some (.int (nI 3)), some (.int zc), some (.int zd), some (.int ze), some (.int zc), some (.int zd), some (.int x7), some (.int (nI i4)), some (.int (sdI s7)), none] [] 0 0 cnt (pm_mid σ (md_L B I7 A7 n k z ac wt pl (nI p0) (nI t0) im)) := by
              intro m7
              induction m7 with
              | zero => intro I7 A7 x7 s7 _ _ hm; exact absurd hm (Nat.not_lt_zero _)
              | succ m7 ih7 =>
                intro I7 A7 x7 s7 b7 hs7 hm7
                rcases (show s7 = 0 ∨ s7 = 1 ∨ s7 = 2 by omega) with rfl | rfl | rfl
                · refine pm_le (loc' := [some (.ref (B + 54)), some (.int (-1)), some (.int (nI 3)), some (.int zc), some (.int zd), some (.int ze), some (.int zc), some (.int zd), some (.int x7), some (.int (nI i4)), some (.int (-1)), none]) rfl ?_
                  refine pm_iloadi hG dX12_winsBy_82 rfl ?_
                  refine pm_iconst (v := nI 1) hG dX12_winsBy_84 (by decide) ?_
                  refine pm_icmp_gt (tgt := 220) hG dX12_winsBy_85 rfl (fun q => absurd q (by decide)) (fun _ => ?_)
                  refine pm_iloadi hG dX12_winsBy_88 rfl ?_
                  refine pm_if_eq (tgt := 220) hG dX12_winsBy_90 rfl (fun c8 => ?_) (fun c8 => ?_)
                  · refine pm_iincX (v := nI (i4 + 1)) (loc' := [some (.ref (B + 54)), some (.int (-1)), some (.int (nI 3)), some (.int zc), some (.int zd), some (.int ze), some (.int zc), some (.int zd), some (.int x7), some (.int (nI (i4 + 1))), some (.int (-1)), none]) hG dX12_winsBy_220 rfl (nI_1 _) (by decide) (pm_c1b rfl) rfl ?_
                    refine pm_goto (tgt := 68) hG dX12_winsBy_223 rfl ?_
                    refine pm_fg 10 (loc' := [some (.ref (B + 54)), some (.int (-1)), some (.int (nI 3)), some (.int zc), some (.int zd), some (.int ze), some (.int zc), some (.int zd), some (.int x7), some (.int (nI (i4 + 1))), none, none]) rfl ?_
                    exact ih4 I7 A7 x7 (i4 + 1) b7 (by omega) (by omega)
                  · refine pm_iloadi hG dX12_winsBy_93 rfl ?_
                    refine pm_iloadi hG dX12_winsBy_95 rfl ?_
                    refine pm_iadd hG dX12_winsBy_97 ?_
                    refine pm_istoreXi (loc' := [some (.ref (B + 54)), some (.int (-1)), some (.int (nI 3)), some (.int zc), some (.int zd), some (.int ze), some (.int zc), some (.int zd), some (.int x7), some (.int (nI i4)), some (.int (-1)), some (.int ((nI i4) + (-1)))]) hG dX12_winsBy_98 (by decide) (pm_c1b rfl) rfl ?_
                    refine pm_iloadi hG dX12_winsBy_100 rfl ?_
                    refine pm_iconst (v := nI 0) hG dX12_winsBy_102 (by decide) ?_
                    refine pm_iconst (v := nI 4) hG dX12_winsBy_103 (by decide) ?_
                    refine pm_callS (As := [.int ((nI i4) + (-1)), .int (nI 0), .int (nI 4)]) (rest := []) hG hR dX12_winsBy_104 (lkX12_68 _ rfl) okS_X12_in (m_in (d := 5)) rfl rfl hdd (Nat.le_refl _) (Nat.le_refl _) (by decide) (pm_ki (fun v9 σ' cnt' hq => ?_))
                    obtain ⟨hq, rfl, rfl⟩ := hq
                    rcases hq with ⟨rfl, ac10, bc10⟩ | ⟨rfl, c10⟩
                    · obtain ⟨k11, hk11, ek11⟩ := in_nat (by omega) (by omega) ac10 bc10
                      refine pm_ifN_eq (tgt := 214) hG dX12_winsBy_107 rfl (by omega) (fun q => absurd q (by omega)) (fun _ => ?_)
                      refine pm_iloadi hG dX12_winsBy_110 rfl ?_
                      refine pm_iloadi hG dX12_winsBy_112 rfl ?_
                      refine pm_callS (As := [.int zc, .int (nI i4)]) (rest := []) hG hR dX12_winsBy_114 (lkX12_253 _ rfl) okS_X12_isTaken (m_isTaken (d := 5) (by decide) hn hz) rfl rfl hdd (Nat.le_refl _) (Nat.le_refl _) (by decide) (pm_ki (fun v12 σ' cnt' hq => ?_))
                      obtain ⟨rfl, rfl, bv12⟩ := hq
                      refine pm_if_ne (tgt := 214) hG dX12_winsBy_117 rfl (fun c14 => ?_) (fun c14 => ?_)
                      · refine pm_iincX (v := nI 1) (loc' := [some (.ref (B + 54)), some (.int (-1)), some (.int (nI 3)), some (.int zc), some (.int zd), some (.int ze), some (.int zc), some (.int zd), some (.int x7), some (.int (nI i4)), some (.int (nI 1)), some (.int ((nI i4) + (-1)))]) hG dX12_winsBy_214 rfl (by decide) (by decide) (pm_c1b rfl) rfl ?_
                        refine pm_goto (tgt := 82) hG dX12_winsBy_217 rfl ?_
                        refine pm_fg 11 (loc' := [some (.ref (B + 54)), some (.int (-1)), some (.int (nI 3)), some (.int zc), some (.int zd), some (.int ze), some (.int zc), some (.int zd), some (.int x7), some (.int (nI i4)), some (.int (nI 1)), none]) rfl ?_
                        exact ih7 I7 A7 x7 1 b7 (by omega) (by omega)
                      · refine pm_iloadi hG dX12_winsBy_120 rfl ?_
                        refine pm_iloadi hG dX12_winsBy_122 rfl ?_
                        refine pm_top (v := nI k11) ek11 ?_
                        refine pm_callS (As := [.int zc, .int (nI k11)]) (rest := []) hG hR dX12_winsBy_124 (lkX12_253 _ rfl) okS_X12_isTaken (m_isTaken (d := 5) (by decide) hn hz) rfl rfl hdd (Nat.le_refl _) (Nat.le_refl _) (by decide) (pm_ki (fun v15 σ' cnt' hq => ?_))
                        obtain ⟨rfl, rfl, bv15⟩ := hq
                        refine pm_if_ne (tgt := 214) hG dX12_winsBy_127 rfl (fun c17 => ?_) (fun c17 => ?_)
                        · refine pm_iincX (v := nI 1) (loc' := [some (.ref (B + 54)), some (.int (-1)), some (.int (nI 3)), some (.int zc), some (.int zd), some (.int ze), some (.int zc), some (.int zd), some (.int x7), some (.int (nI i4)), some (.int (nI 1)), some (.int ((nI i4) + (-1)))]) hG dX12_winsBy_214 rfl (by decide) (by decide) (pm_c1b rfl) rfl ?_
                          refine pm_goto (tgt := 82) hG dX12_winsBy_217 rfl ?_
                          refine pm_fg 11 (loc' := [some (.ref (B + 54)), some (.int (-1)), some (.int (nI 3)), some (.int zc), some (.int zd), some (.int ze), some (.int zc), some (.int zd), some (.int x7), some (.int (nI i4)), some (.int (nI 1)), none]) rfl ?_
                          exact ih7 I7 A7 x7 1 b7 (by omega) (by omega)
                        · refine pm_aloadn hG dX12_winsBy_130 rfl ?_
                          refine pm_getf hG dX12_winsBy_131 (flX12_43 _ rfl) rfl rfl ?_
                          refine pm_iloadi hG dX12_winsBy_134 rfl ?_
                          refine pm_ialdN hG dX12_winsBy_136 rfl (by decide) (by omega) ?_
                          refine pm_any (fun x18 => ?_)
                          refine pm_if_eq (tgt := 214) hG dX12_winsBy_137 rfl (fun c19 => ?_) (fun c19 => ?_)
                          · refine pm_iincX (v := nI 1) (loc' := [some (.ref (B + 54)), some (.int (-1)), some (.int (nI 3)), some (.int zc), some (.int zd), some (.int ze), some (.int zc), some (.int zd), some (.int x7), some (.int (nI i4)), some (.int (nI 1)), some (.int ((nI i4) + (-1)))]) hG dX12_winsBy_214 rfl (by decide) (by decide) (pm_c1b rfl) rfl ?_
                            refine pm_goto (tgt := 82) hG dX12_winsBy_217 rfl ?_
                            refine pm_fg 11 (loc' := [some (.ref (B + 54)), some (.int (-1)), some (.int (nI 3)), some (.int zc), some (.int zd), some (.int ze), some (.int zc), some (.int zd), some (.int x7), some (.int (nI i4)), some (.int (nI 1)), none]) rfl ?_
                            exact ih7 I7 A7 x7 1 b7 (by omega) (by omega)
                          · refine pm_aloadn hG dX12_winsBy_140 rfl ?_
                            refine pm_getf hG dX12_winsBy_141 (flX12_43 _ rfl) rfl rfl ?_
                            refine pm_iloadi hG dX12_winsBy_144 rfl ?_
                            refine pm_top (v := nI k11) ek11 ?_
                            refine pm_ialdN hG dX12_winsBy_146 rfl (by decide) (by omega) ?_
                            refine pm_any (fun x20 => ?_)
                            refine pm_bipush (v := nI 6) hG dX12_winsBy_147 (by decide) ?_
                            refine pm_icmp_ne (tgt := 155) hG dX12_winsBy_149 rfl (fun c21 => ?_) (fun c21 => ?_)
                            · refine pm_aloadn hG dX12_winsBy_155 rfl ?_
                              refine pm_getf hG dX12_winsBy_156 (flX12_43 _ rfl) rfl rfl ?_
                              refine pm_iloadi hG dX12_winsBy_159 rfl ?_
                              refine pm_dup2 hG dX12_winsBy_161 rfl rfl ?_
                              refine pm_ialdN hG dX12_winsBy_162 rfl (by decide) (by omega) ?_
                              refine pm_any (fun x22 => ?_)
                              refine pm_iconst (v := nI 1) hG dX12_winsBy_163 (by decide) ?_
                              refine pm_isub hG dX12_winsBy_164 ?_
                              refine pm_iastN hG dX12_winsBy_165 rfl (by decide) (by omega) ?_
                              refine mdn_guards (fun A_23 => ?_)
                              refine pm_aloadn hG dX12_winsBy_166 rfl ?_
                              refine pm_getf hG dX12_winsBy_167 (flX12_43 _ rfl) rfl rfl ?_
                              refine pm_iloadi hG dX12_winsBy_170 rfl ?_
                              refine pm_top (v := nI k11) ek11 ?_
                              refine pm_dup2 hG dX12_winsBy_172 rfl rfl ?_
                              refine pm_ialdN hG dX12_winsBy_173 rfl (by decide) (by omega) ?_
                              refine pm_any (fun x24 => ?_)
                              refine pm_iconst (v := nI 1) hG dX12_winsBy_174 (by decide) ?_
                              refine pm_iadd hG dX12_winsBy_175 ?_
                              refine pm_iastN hG dX12_winsBy_176 rfl (by decide) (by omega) ?_
                              refine mdn_guards (fun A_25 => ?_)
                              refine pm_aloadn hG dX12_winsBy_177 rfl ?_
                              refine pm_iloadn hG dX12_winsBy_178 rfl ?_
                              refine pm_iconst (v := nI 1) hG dX12_winsBy_179 (by decide) ?_
                              refine pm_isubN (c := 2) hG dX12_winsBy_180 (by omega) ?_
                              refine pm_iloadi hG dX12_winsBy_181 rfl ?_
                              refine pm_iloadi hG dX12_winsBy_183 rfl ?_
                              refine pm_iloadi hG dX12_winsBy_185 rfl ?_
                              refine pm_callV (As := [.int (nI 2), .int zc, .int zd, .int ze]) (rest := []) hG hR dX12_winsBy_187 (lkX12_256 _ rfl) okV_X12_wins rfl rfl (m_wins_c2 (d := 5) (by decide) hn hz) rfl rfl hdd (Nat.le_refl _) (Nat.le_refl _) (by decide) (pm_ki (fun v26 σ' cnt' hq => ?_))
                              obtain ⟨⟨I27, A27, rfl⟩, rfl, bv26⟩ := hq
                              refine pm_istoreXi (loc' := [some (.ref (B + 54)), some (.int (-1)), some (.int (nI 3)), some (.int zc), some (.int zd), some (.int ze), some (.int zc), some (.int zd), some (.int v26), some (.int (nI i4)), some (.int (-1)), some (.int ((nI i4) + (-1)))]) hG dX12_winsBy_190 (by decide) (pm_c1b rfl) rfl ?_
                              refine pm_aloadn hG dX12_winsBy_192 rfl ?_
                              refine pm_getf hG dX12_winsBy_193 (flX12_43 _ rfl) rfl rfl ?_
                              refine pm_iloadi hG dX12_winsBy_196 rfl ?_
                              refine pm_dup2 hG dX12_winsBy_198 rfl rfl ?_
                              refine pm_ialdN hG dX12_winsBy_199 rfl (by decide) (by omega) ?_
                              refine pm_any (fun x28 => ?_)
                              refine pm_iconst (v := nI 1) hG dX12_winsBy_200 (by decide) ?_
                              refine pm_iadd hG dX12_winsBy_201 ?_
                              refine pm_iastN hG dX12_winsBy_202 rfl (by decide) (by omega) ?_
                              refine mdn_guards (fun A_29 => ?_)
                              refine pm_aloadn hG dX12_winsBy_203 rfl ?_
                              refine pm_getf hG dX12_winsBy_204 (flX12_43 _ rfl) rfl rfl ?_
                              refine pm_iloadi hG dX12_winsBy_207 rfl ?_
                              refine pm_top (v := nI k11) ek11 ?_
                              refine pm_dup2 hG dX12_winsBy_209 rfl rfl ?_
                              refine pm_ialdN hG dX12_winsBy_210 rfl (by decide) (by omega) ?_
                              refine pm_any (fun x30 => ?_)
                              refine pm_iconst (v := nI 1) hG dX12_winsBy_211 (by decide) ?_
                              refine pm_isub hG dX12_winsBy_212 ?_
                              refine pm_iastN hG dX12_winsBy_213 rfl (by decide) (by omega) ?_
                              refine mdn_guards (fun A_31 => ?_)
                              refine pm_iincX (v := nI 1) (loc' := [some (.ref (B + 54)), some (.int (-1)), some (.int (nI 3)), some (.int zc), some (.int zd), some (.int ze), some (.int zc), some (.int zd), some (.int v26), some (.int (nI i4)), some (.int (nI 1)), some (.int ((nI i4) + (-1)))]) hG dX12_winsBy_214 rfl (by decide) (by decide) (pm_c1b rfl) rfl ?_
                              refine pm_goto (tgt := 82) hG dX12_winsBy_217 rfl ?_
                              refine pm_fg 11 (loc' := [some (.ref (B + 54)), some (.int (-1)), some (.int (nI 3)), some (.int zc), some (.int zd), some (.int ze), some (.int zc), some (.int zd), some (.int v26), some (.int (nI i4)), some (.int (nI 1)), none]) rfl ?_
                              exact ih7 I27 A_31 v26 1 bv26 (by omega) (by omega)
                            · refine pm_goto (tgt := 214) hG dX12_winsBy_152 rfl ?_
                              refine pm_iincX (v := nI 1) (loc' := [some (.ref (B + 54)), some (.int (-1)), some (.int (nI 3)), some (.int zc), some (.int zd), some (.int ze), some (.int zc), some (.int zd), some (.int x7), some (.int (nI i4)), some (.int (nI 1)), some (.int ((nI i4) + (-1)))]) hG dX12_winsBy_214 rfl (by decide) (by decide) (pm_c1b rfl) rfl ?_
                              refine pm_goto (tgt := 82) hG dX12_winsBy_217 rfl ?_
                              refine pm_fg 11 (loc' := [some (.ref (B + 54)), some (.int (-1)), some (.int (nI 3)), some (.int zc), some (.int zd), some (.int ze), some (.int zc), some (.int zd), some (.int x7), some (.int (nI i4)), some (.int (nI 1)), none]) rfl ?_
                              exact ih7 I7 A7 x7 1 b7 (by omega) (by omega)
                    · refine pm_ifN_eq (tgt := 214) hG dX12_winsBy_107 rfl (by omega) (fun _ => ?_) (fun q => absurd q (by omega))
                      refine pm_iincX (v := nI 1) (loc' := [some (.ref (B + 54)), some (.int (-1)), some (.int (nI 3)), some (.int zc), some (.int zd), some (.int ze), some (.int zc), some (.int zd), some (.int x7), some (.int (nI i4)), some (.int (nI 1)), some (.int ((nI i4) + (-1)))]) hG dX12_winsBy_214 rfl (by decide) (by decide) (pm_c1b rfl) rfl ?_
                      refine pm_goto (tgt := 82) hG dX12_winsBy_217 rfl ?_
                      refine pm_fg 11 (loc' := [some (.ref (B + 54)), some (.int (-1)), some (.int (nI 3)), some (.int zc), some (.int zd), some (.int ze), some (.int zc), some (.int zd), some (.int x7), some (.int (nI i4)), some (.int (nI 1)), none]) rfl ?_
                      exact ih7 I7 A7 x7 1 b7 (by omega) (by omega)
                · refine pm_le (loc' := [some (.ref (B + 54)), some (.int (-1)), some (.int (nI 3)), some (.int zc), some (.int zd), some (.int ze), some (.int zc), some (.int zd), some (.int x7), some (.int (nI i4)), some (.int (nI 1)), none]) rfl ?_
                  refine pm_iloadi hG dX12_winsBy_82 rfl ?_
                  refine pm_iconst (v := nI 1) hG dX12_winsBy_84 (by decide) ?_
                  refine pm_icmpN_gt (tgt := 220) hG dX12_winsBy_85 rfl (by omega) (by omega) (fun q => absurd q (by omega)) (fun _ => ?_)
                  refine pm_iloadi hG dX12_winsBy_88 rfl ?_
                  refine pm_if_eq (tgt := 220) hG dX12_winsBy_90 rfl (fun c32 => ?_) (fun c32 => ?_)
                  · refine pm_iincX (v := nI (i4 + 1)) (loc' := [some (.ref (B + 54)), some (.int (-1)), some (.int (nI 3)), some (.int zc), some (.int zd), some (.int ze), some (.int zc), some (.int zd), some (.int x7), some (.int (nI (i4 + 1))), some (.int (nI 1)), none]) hG dX12_winsBy_220 rfl (nI_1 _) (by decide) (pm_c1b rfl) rfl ?_
                    refine pm_goto (tgt := 68) hG dX12_winsBy_223 rfl ?_
                    refine pm_fg 10 (loc' := [some (.ref (B + 54)), some (.int (-1)), some (.int (nI 3)), some (.int zc), some (.int zd), some (.int ze), some (.int zc), some (.int zd), some (.int x7), some (.int (nI (i4 + 1))), none, none]) rfl ?_
                    exact ih4 I7 A7 x7 (i4 + 1) b7 (by omega) (by omega)
                  · refine pm_iloadi hG dX12_winsBy_93 rfl ?_
                    refine pm_iloadi hG dX12_winsBy_95 rfl ?_
                    refine pm_iaddN (c := i4 + 1) hG dX12_winsBy_97 (by omega) ?_
                    refine pm_istoreXi (loc' := [some (.ref (B + 54)), some (.int (-1)), some (.int (nI 3)), some (.int zc), some (.int zd), some (.int ze), some (.int zc), some (.int zd), some (.int x7), some (.int (nI i4)), some (.int (nI 1)), some (.int (nI (i4 + 1)))]) hG dX12_winsBy_98 (by decide) (pm_c1b rfl) rfl ?_
                    refine pm_iloadi hG dX12_winsBy_100 rfl ?_
                    refine pm_iconst (v := nI 0) hG dX12_winsBy_102 (by decide) ?_
                    refine pm_iconst (v := nI 4) hG dX12_winsBy_103 (by decide) ?_
                    refine pm_callS (As := [.int (nI (i4 + 1)), .int (nI 0), .int (nI 4)]) (rest := []) hG hR dX12_winsBy_104 (lkX12_68 _ rfl) okS_X12_in (m_in (d := 5)) rfl rfl hdd (Nat.le_refl _) (Nat.le_refl _) (by decide) (pm_ki (fun v33 σ' cnt' hq => ?_))
                    obtain ⟨hq, rfl, rfl⟩ := hq
                    rcases hq with ⟨rfl, ac34, bc34⟩ | ⟨rfl, c34⟩
                    · have ic34 := (nI_leI (by omega) (by omega)).mp (Int32.not_lt.mp ac34)
                      have jc34 := (nI_leI (by omega) (by omega)).mp (Int32.not_lt.mp bc34)
                      refine pm_ifN_eq (tgt := 214) hG dX12_winsBy_107 rfl (by omega) (fun q => absurd q (by omega)) (fun _ => ?_)
                      refine pm_iloadi hG dX12_winsBy_110 rfl ?_
                      refine pm_iloadi hG dX12_winsBy_112 rfl ?_
                      refine pm_callS (As := [.int zc, .int (nI i4)]) (rest := []) hG hR dX12_winsBy_114 (lkX12_253 _ rfl) okS_X12_isTaken (m_isTaken (d := 5) (by decide) hn hz) rfl rfl hdd (Nat.le_refl _) (Nat.le_refl _) (by decide) (pm_ki (fun v35 σ' cnt' hq => ?_))
                      obtain ⟨rfl, rfl, bv35⟩ := hq
                      refine pm_if_ne (tgt := 214) hG dX12_winsBy_117 rfl (fun c37 => ?_) (fun c37 => ?_)
                      · refine pm_iincX (v := nI 3) (loc' := [some (.ref (B + 54)), some (.int (-1)), some (.int (nI 3)), some (.int zc), some (.int zd), some (.int ze), some (.int zc), some (.int zd), some (.int x7), some (.int (nI i4)), some (.int (nI 3)), some (.int (nI (i4 + 1)))]) hG dX12_winsBy_214 rfl (by decide) (by decide) (pm_c1b rfl) rfl ?_
                        refine pm_goto (tgt := 82) hG dX12_winsBy_217 rfl ?_
                        refine pm_fg 11 (loc' := [some (.ref (B + 54)), some (.int (-1)), some (.int (nI 3)), some (.int zc), some (.int zd), some (.int ze), some (.int zc), some (.int zd), some (.int x7), some (.int (nI i4)), some (.int (nI 3)), none]) rfl ?_
                        exact ih7 I7 A7 x7 2 b7 (by omega) (by omega)
                      · refine pm_iloadi hG dX12_winsBy_120 rfl ?_
                        refine pm_iloadi hG dX12_winsBy_122 rfl ?_
                        refine pm_callS (As := [.int zc, .int (nI (i4 + 1))]) (rest := []) hG hR dX12_winsBy_124 (lkX12_253 _ rfl) okS_X12_isTaken (m_isTaken (d := 5) (by decide) hn hz) rfl rfl hdd (Nat.le_refl _) (Nat.le_refl _) (by decide) (pm_ki (fun v38 σ' cnt' hq => ?_))
                        obtain ⟨rfl, rfl, bv38⟩ := hq
                        refine pm_if_ne (tgt := 214) hG dX12_winsBy_127 rfl (fun c40 => ?_) (fun c40 => ?_)
                        · refine pm_iincX (v := nI 3) (loc' := [some (.ref (B + 54)), some (.int (-1)), some (.int (nI 3)), some (.int zc), some (.int zd), some (.int ze), some (.int zc), some (.int zd), some (.int x7), some (.int (nI i4)), some (.int (nI 3)), some (.int (nI (i4 + 1)))]) hG dX12_winsBy_214 rfl (by decide) (by decide) (pm_c1b rfl) rfl ?_
                          refine pm_goto (tgt := 82) hG dX12_winsBy_217 rfl ?_
                          refine pm_fg 11 (loc' := [some (.ref (B + 54)), some (.int (-1)), some (.int (nI 3)), some (.int zc), some (.int zd), some (.int ze), some (.int zc), some (.int zd), some (.int x7), some (.int (nI i4)), some (.int (nI 3)), none]) rfl ?_
                          exact ih7 I7 A7 x7 2 b7 (by omega) (by omega)
                        · refine pm_aloadn hG dX12_winsBy_130 rfl ?_
                          refine pm_getf hG dX12_winsBy_131 (flX12_43 _ rfl) rfl rfl ?_
                          refine pm_iloadi hG dX12_winsBy_134 rfl ?_
                          refine pm_ialdN hG dX12_winsBy_136 rfl (by decide) (by omega) ?_
                          refine pm_any (fun x41 => ?_)
                          refine pm_if_eq (tgt := 214) hG dX12_winsBy_137 rfl (fun c42 => ?_) (fun c42 => ?_)
                          · refine pm_iincX (v := nI 3) (loc' := [some (.ref (B + 54)), some (.int (-1)), some (.int (nI 3)), some (.int zc), some (.int zd), some (.int ze), some (.int zc), some (.int zd), some (.int x7), some (.int (nI i4)), some (.int (nI 3)), some (.int (nI (i4 + 1)))]) hG dX12_winsBy_214 rfl (by decide) (by decide) (pm_c1b rfl) rfl ?_
                            refine pm_goto (tgt := 82) hG dX12_winsBy_217 rfl ?_
                            refine pm_fg 11 (loc' := [some (.ref (B + 54)), some (.int (-1)), some (.int (nI 3)), some (.int zc), some (.int zd), some (.int ze), some (.int zc), some (.int zd), some (.int x7), some (.int (nI i4)), some (.int (nI 3)), none]) rfl ?_
                            exact ih7 I7 A7 x7 2 b7 (by omega) (by omega)
                          · refine pm_aloadn hG dX12_winsBy_140 rfl ?_
                            refine pm_getf hG dX12_winsBy_141 (flX12_43 _ rfl) rfl rfl ?_
                            refine pm_iloadi hG dX12_winsBy_144 rfl ?_
                            refine pm_ialdN hG dX12_winsBy_146 rfl (by decide) (by omega) ?_
                            refine pm_any (fun x43 => ?_)
                            refine pm_bipush (v := nI 6) hG dX12_winsBy_147 (by decide) ?_
                            refine pm_icmp_ne (tgt := 155) hG dX12_winsBy_149 rfl (fun c44 => ?_) (fun c44 => ?_)
                            · refine pm_aloadn hG dX12_winsBy_155 rfl ?_
                              refine pm_getf hG dX12_winsBy_156 (flX12_43 _ rfl) rfl rfl ?_
                              refine pm_iloadi hG dX12_winsBy_159 rfl ?_
                              refine pm_dup2 hG dX12_winsBy_161 rfl rfl ?_
                              refine pm_ialdN hG dX12_winsBy_162 rfl (by decide) (by omega) ?_
                              refine pm_any (fun x45 => ?_)
                              refine pm_iconst (v := nI 1) hG dX12_winsBy_163 (by decide) ?_
                              refine pm_isub hG dX12_winsBy_164 ?_
                              refine pm_iastN hG dX12_winsBy_165 rfl (by decide) (by omega) ?_
                              refine mdn_guards (fun A_46 => ?_)
                              refine pm_aloadn hG dX12_winsBy_166 rfl ?_
                              refine pm_getf hG dX12_winsBy_167 (flX12_43 _ rfl) rfl rfl ?_
                              refine pm_iloadi hG dX12_winsBy_170 rfl ?_
                              refine pm_dup2 hG dX12_winsBy_172 rfl rfl ?_
                              refine pm_ialdN hG dX12_winsBy_173 rfl (by decide) (by omega) ?_
                              refine pm_any (fun x47 => ?_)
                              refine pm_iconst (v := nI 1) hG dX12_winsBy_174 (by decide) ?_
                              refine pm_iadd hG dX12_winsBy_175 ?_
                              refine pm_iastN hG dX12_winsBy_176 rfl (by decide) (by omega) ?_
                              refine mdn_guards (fun A_48 => ?_)
                              refine pm_aloadn hG dX12_winsBy_177 rfl ?_
                              refine pm_iloadn hG dX12_winsBy_178 rfl ?_
                              refine pm_iconst (v := nI 1) hG dX12_winsBy_179 (by decide) ?_
                              refine pm_isubN (c := 2) hG dX12_winsBy_180 (by omega) ?_
                              refine pm_iloadi hG dX12_winsBy_181 rfl ?_
                              refine pm_iloadi hG dX12_winsBy_183 rfl ?_
                              refine pm_iloadi hG dX12_winsBy_185 rfl ?_
                              refine pm_callV (As := [.int (nI 2), .int zc, .int zd, .int ze]) (rest := []) hG hR dX12_winsBy_187 (lkX12_256 _ rfl) okV_X12_wins rfl rfl (m_wins_c2 (d := 5) (by decide) hn hz) rfl rfl hdd (Nat.le_refl _) (Nat.le_refl _) (by decide) (pm_ki (fun v49 σ' cnt' hq => ?_))
                              obtain ⟨⟨I50, A50, rfl⟩, rfl, bv49⟩ := hq
                              refine pm_istoreXi (loc' := [some (.ref (B + 54)), some (.int (-1)), some (.int (nI 3)), some (.int zc), some (.int zd), some (.int ze), some (.int zc), some (.int zd), some (.int v49), some (.int (nI i4)), some (.int (nI 1)), some (.int (nI (i4 + 1)))]) hG dX12_winsBy_190 (by decide) (pm_c1b rfl) rfl ?_
                              refine pm_aloadn hG dX12_winsBy_192 rfl ?_
                              refine pm_getf hG dX12_winsBy_193 (flX12_43 _ rfl) rfl rfl ?_
                              refine pm_iloadi hG dX12_winsBy_196 rfl ?_
                              refine pm_dup2 hG dX12_winsBy_198 rfl rfl ?_
                              refine pm_ialdN hG dX12_winsBy_199 rfl (by decide) (by omega) ?_
                              refine pm_any (fun x51 => ?_)
                              refine pm_iconst (v := nI 1) hG dX12_winsBy_200 (by decide) ?_
                              refine pm_iadd hG dX12_winsBy_201 ?_
                              refine pm_iastN hG dX12_winsBy_202 rfl (by decide) (by omega) ?_
                              refine mdn_guards (fun A_52 => ?_)
                              refine pm_aloadn hG dX12_winsBy_203 rfl ?_
                              refine pm_getf hG dX12_winsBy_204 (flX12_43 _ rfl) rfl rfl ?_
                              refine pm_iloadi hG dX12_winsBy_207 rfl ?_
                              refine pm_dup2 hG dX12_winsBy_209 rfl rfl ?_
                              refine pm_ialdN hG dX12_winsBy_210 rfl (by decide) (by omega) ?_
                              refine pm_any (fun x53 => ?_)
                              refine pm_iconst (v := nI 1) hG dX12_winsBy_211 (by decide) ?_
                              refine pm_isub hG dX12_winsBy_212 ?_
                              refine pm_iastN hG dX12_winsBy_213 rfl (by decide) (by omega) ?_
                              refine mdn_guards (fun A_54 => ?_)
                              refine pm_iincX (v := nI 3) (loc' := [some (.ref (B + 54)), some (.int (-1)), some (.int (nI 3)), some (.int zc), some (.int zd), some (.int ze), some (.int zc), some (.int zd), some (.int v49), some (.int (nI i4)), some (.int (nI 3)), some (.int (nI (i4 + 1)))]) hG dX12_winsBy_214 rfl (by decide) (by decide) (pm_c1b rfl) rfl ?_
                              refine pm_goto (tgt := 82) hG dX12_winsBy_217 rfl ?_
                              refine pm_fg 11 (loc' := [some (.ref (B + 54)), some (.int (-1)), some (.int (nI 3)), some (.int zc), some (.int zd), some (.int ze), some (.int zc), some (.int zd), some (.int v49), some (.int (nI i4)), some (.int (nI 3)), none]) rfl ?_
                              exact ih7 I50 A_54 v49 2 bv49 (by omega) (by omega)
                            · refine pm_goto (tgt := 214) hG dX12_winsBy_152 rfl ?_
                              refine pm_iincX (v := nI 3) (loc' := [some (.ref (B + 54)), some (.int (-1)), some (.int (nI 3)), some (.int zc), some (.int zd), some (.int ze), some (.int zc), some (.int zd), some (.int x7), some (.int (nI i4)), some (.int (nI 3)), some (.int (nI (i4 + 1)))]) hG dX12_winsBy_214 rfl (by decide) (by decide) (pm_c1b rfl) rfl ?_
                              refine pm_goto (tgt := 82) hG dX12_winsBy_217 rfl ?_
                              refine pm_fg 11 (loc' := [some (.ref (B + 54)), some (.int (-1)), some (.int (nI 3)), some (.int zc), some (.int zd), some (.int ze), some (.int zc), some (.int zd), some (.int x7), some (.int (nI i4)), some (.int (nI 3)), none]) rfl ?_
                              exact ih7 I7 A7 x7 2 b7 (by omega) (by omega)
                    · refine pm_ifN_eq (tgt := 214) hG dX12_winsBy_107 rfl (by omega) (fun _ => ?_) (fun q => absurd q (by omega))
                      refine pm_iincX (v := nI 3) (loc' := [some (.ref (B + 54)), some (.int (-1)), some (.int (nI 3)), some (.int zc), some (.int zd), some (.int ze), some (.int zc), some (.int zd), some (.int x7), some (.int (nI i4)), some (.int (nI 3)), some (.int (nI (i4 + 1)))]) hG dX12_winsBy_214 rfl (by decide) (by decide) (pm_c1b rfl) rfl ?_
                      refine pm_goto (tgt := 82) hG dX12_winsBy_217 rfl ?_
                      refine pm_fg 11 (loc' := [some (.ref (B + 54)), some (.int (-1)), some (.int (nI 3)), some (.int zc), some (.int zd), some (.int ze), some (.int zc), some (.int zd), some (.int x7), some (.int (nI i4)), some (.int (nI 3)), none]) rfl ?_
                      exact ih7 I7 A7 x7 2 b7 (by omega) (by omega)
                · refine pm_le (loc' := [some (.ref (B + 54)), some (.int (-1)), some (.int (nI 3)), some (.int zc), some (.int zd), some (.int ze), some (.int zc), some (.int zd), some (.int x7), some (.int (nI i4)), some (.int (nI 3)), none]) rfl ?_
                  refine pm_iloadi hG dX12_winsBy_82 rfl ?_
                  refine pm_iconst (v := nI 1) hG dX12_winsBy_84 (by decide) ?_
                  refine pm_icmpN_gt (tgt := 220) hG dX12_winsBy_85 rfl (by omega) (by omega) (fun _ => ?_) (fun q => absurd q (by omega))
                  refine pm_iincX (v := nI (i4 + 1)) (loc' := [some (.ref (B + 54)), some (.int (-1)), some (.int (nI 3)), some (.int zc), some (.int zd), some (.int ze), some (.int zc), some (.int zd), some (.int x7), some (.int (nI (i4 + 1))), some (.int (nI 3)), none]) hG dX12_winsBy_220 rfl (nI_1 _) (by decide) (pm_c1b rfl) rfl ?_
                  refine pm_goto (tgt := 68) hG dX12_winsBy_223 rfl ?_
                  refine pm_fg 10 (loc' := [some (.ref (B + 54)), some (.int (-1)), some (.int (nI 3)), some (.int zc), some (.int zd), some (.int ze), some (.int zc), some (.int zd), some (.int x7), some (.int (nI (i4 + 1))), none, none]) rfl ?_
                  exact ih4 I7 A7 x7 (i4 + 1) b7 (by omega) (by omega)
            exact loop7 _ I4 A4 x4_8 0 bx4_8 (by omega) (Nat.lt_succ_self _)
    exact loop68_4 _ I3 A3 v2 0 bv2 (by omega) (Nat.lt_succ_self _)
  · refine pm_iconst (v := nI 1) hG dX12_winsBy_6 (by decide) ?_
    exact pm_zret hG hF dX12_winsBy_7 rfl (pm_nz (Or.inr rfl)) (Nat.le_refl _) (Nat.le_refl _) ⟨_, rfl, ⟨_, _, rfl⟩, rfl, (Or.inr rfl)⟩
