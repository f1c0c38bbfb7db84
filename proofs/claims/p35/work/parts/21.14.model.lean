set_option maxRecDepth 100000 in
set_option maxHeartbeats 4000000 in
theorem m_winsBy_n5_c3 {d B cnt p0 t0 : Nat} {σ : pm_S} {I : Nat → Int32} {A : Nat → Nat → Int32} {n k z : Nat → Int32} {ac wt pl im : Int32} {zc zd ze : Int32} {ba : Nat} (hdd : 6 ≤ d) (hn : KI n) (hz : SZ z) (hba : ba < 5) : pm_met mX12_winsBy d 0 0 B [.ref (B + 54), .int (nI ba), .int (nI 3), .int zc, .int zd, .int ze] cnt (pm_mid σ (md_L B I A n k z ac wt pl (nI p0) (nI t0) im)) (pm_Qi (fun v σ' cnt' => (∃ (I' : Nat → Int32) (A' : Nat → Nat → Int32), σ' = pm_mid σ (md_L B I' A' n k z ac wt pl (nI p0) (nI t0) im)) ∧ cnt = cnt' ∧ (v = 0 ∨ v = 1))) := by
  refine pm_enter 6 (by decide) (Nat.le_of_ble_eq_true rfl) rfl (fun G hG hR hF => ?_)
  refine pm_iloadn hG dX12_winsBy_0 rfl ?_
  refine pm_iloadi hG dX12_winsBy_1 rfl ?_
  refine pm_icmp_ne (tgt := 8) hG dX12_winsBy_3 rfl (fun c1 => ?_) (fun c1 => ?_)
  · refine pm_iloadn hG dX12_winsBy_8 rfl ?_
    refine pm_iconst (v := nI 1) hG dX12_winsBy_9 (by decide) ?_
    refine pm_icmpN_ne (tgt := 15) hG dX12_winsBy_10 rfl (by omega) (by omega) (fun _ => ?_) (fun q => absurd q (by omega))
    refine pm_iloadn hG dX12_winsBy_15 rfl ?_
    refine pm_ifN_ge (tgt := 23) hG dX12_winsBy_16 rfl (by omega) ?_
    refine pm_iloadn hG dX12_winsBy_23 rfl ?_
    refine pm_iconst (v := nI 1) hG dX12_winsBy_24 (by decide) ?_
    refine pm_iloadn hG dX12_winsBy_25 rfl ?_
    refine pm_ishl hG dX12_winsBy_26 ?_
    refine pm_any (fun x2 => ?_)
    refine pm_ior hG dX12_winsBy_27 ?_
    refine pm_any (fun x3 => ?_)
    refine pm_istoreXi (loc' := [some (.ref (B + 54)), some (.int (nI ba)), some (.int (nI 3)), some (.int zc), some (.int zd), some (.int ze), some (.int x3), none, none, none, none, none]) hG dX12_winsBy_28 (by decide) (pm_c1b rfl) rfl ?_
    refine pm_iloadn hG dX12_winsBy_30 rfl ?_
    refine pm_ifN_ge (tgt := 39) hG dX12_winsBy_31 rfl (by omega) ?_
    refine pm_iloadi hG dX12_winsBy_39 rfl ?_
    refine pm_aloadn hG dX12_winsBy_41 rfl ?_
    refine pm_getf hG dX12_winsBy_42 (flX12_43 _ rfl) rfl rfl ?_
    refine pm_iloadn hG dX12_winsBy_45 rfl ?_
    refine pm_ialdN hG dX12_winsBy_46 rfl (by decide) (by omega) ?_
    refine pm_any (fun x4 => ?_)
    refine pm_isub hG dX12_winsBy_47 ?_
    refine pm_istoreXi (loc' := [some (.ref (B + 54)), some (.int (nI ba)), some (.int (nI 3)), some (.int zc), some (.int zd), some (.int ze), some (.int x3), some (.int (zd - x4)), none, none, none, none]) hG dX12_winsBy_48 (by decide) (pm_c1b rfl) rfl ?_
    refine pm_aloadn hG dX12_winsBy_50 rfl ?_
    refine pm_iloadn hG dX12_winsBy_51 rfl ?_
    refine pm_iconst (v := nI 1) hG dX12_winsBy_52 (by decide) ?_
    refine pm_isubN (c := 2) hG dX12_winsBy_53 (by omega) ?_
    refine pm_iloadi hG dX12_winsBy_54 rfl ?_
    refine pm_iloadi hG dX12_winsBy_56 rfl ?_
    refine pm_iloadi hG dX12_winsBy_58 rfl ?_
    refine pm_callV (As := [.int (nI 2), .int x3, .int (zd - x4), .int ze]) (rest := []) hG hR dX12_winsBy_60 (lkX12_256 _ rfl) okV_X12_wins rfl rfl (m_wins_c2 (d := 5) (by decide) hn hz) rfl rfl hdd (Nat.le_refl _) (Nat.le_refl _) (by decide) (pm_ki (fun v5 σ' cnt' hq => ?_))
    obtain ⟨⟨I6, A6, rfl⟩, rfl, bv5⟩ := hq
    refine pm_istoreXi (loc' := [some (.ref (B + 54)), some (.int (nI ba)), some (.int (nI 3)), some (.int zc), some (.int zd), some (.int ze), some (.int x3), some (.int (zd - x4)), some (.int v5), none, none, none]) hG dX12_winsBy_63 (by decide) (pm_c1b rfl) rfl ?_
    refine pm_iconst (v := nI 0) hG dX12_winsBy_65 (by decide) ?_
    refine pm_istoreXi (loc' := [some (.ref (B + 54)), some (.int (nI ba)), some (.int (nI 3)), some (.int zc), some (.int zd), some (.int ze), some (.int x3), some (.int (zd - x4)), some (.int v5), some (.int (nI 0)), none, none]) hG dX12_winsBy_66 (by decide) (pm_c1b rfl) rfl ?_
    have loop68_7 : ∀ (m7 : Nat) (I7 : Nat → Int32) (A7 : Nat → Nat → Int32) (x7_8 : Int32) (i7 : Nat), (x7_8 = 0 ∨ x7_8 = 1) → i7 ≤ 5 → 5 - i7 < m7 → pm_wp mX12_winsBy G B 68 [some (.ref (B + 54)), some (.int (nI ba)), some (.int (nI 3)), some (.int zc), some (.int zd), some (.int ze), some (.int x3), some (.int (zd - x4)), some (.int x7_8), some (.int (nI i7)), none, none] [] 0 0 cnt (pm_mid σ (md_L B I7 A7 n k z ac wt pl (nI p0) (nI t0) im)) := by
      intro m7
      induction m7 with
      | zero => intro I7 A7 x7_8 i7 _ _ hm; exact absurd hm (Nat.not_lt_zero _)
      | succ m7 ih7 =>
        intro I7 A7 x7_8 i7 bx7_8 hi7 hm7
        refine pm_iloadi hG dX12_winsBy_68 rfl ?_
        refine pm_iconst (v := nI 5) hG dX12_winsBy_70 (by decide) ?_
        refine pm_icmpN_ge (tgt := 226) hG dX12_winsBy_71 rfl (by omega) (by omega) (fun c8 => ?_) (fun c8 => ?_)
        · refine pm_iloadi hG dX12_winsBy_226 rfl ?_
          exact pm_zret hG hF dX12_winsBy_228 rfl (pm_nz bx7_8) (Nat.le_refl _) (Nat.le_refl _) ⟨_, rfl, ⟨_, _, rfl⟩, rfl, bx7_8⟩
        · refine pm_iloadi hG dX12_winsBy_74 rfl ?_
          refine pm_if_eq (tgt := 226) hG dX12_winsBy_76 rfl (fun c9 => ?_) (fun c9 => ?_)
          · refine pm_iloadi hG dX12_winsBy_226 rfl ?_
            refine pm_top (v := nI 0) c9 ?_
            exact pm_zret hG hF dX12_winsBy_228 rfl (pm_nz (Or.inl rfl)) (Nat.le_refl _) (Nat.le_refl _) ⟨_, rfl, ⟨_, _, rfl⟩, rfl, (Or.inl rfl)⟩
          · refine pm_iconst (v := (-1)) hG dX12_winsBy_79 (by decide) ?_
            refine pm_istoreXi (loc' := [some (.ref (B + 54)), some (.int (nI ba)), some (.int (nI 3)), some (.int zc), some (.int zd), some (.int ze), some (.int x3), some (.int (zd - x4)), some (.int x7_8), some (.int (nI i7)), some (.int (-1)), none]) hG dX12_winsBy_80 (by decide) (pm_c1b rfl) rfl ?_
            have loop10 : ∀ (m10 : Nat) (I10 : Nat → Int32) (A10 : Nat → Nat → Int32) (x10 : Int32) (s10 : Nat), (x10 = 0 ∨ x10 = 1) → s10 ≤ 2 → 2 - s10 < m10 → pm_wp mX12_winsBy G B 82 [some (.ref (B + 54)), some (.int (nI ba)), some (.int (nI 3)), some (.int zc), some (.int zd), some (.int ze), some (.int x3), some (.int (zd - x4)), some (.int x10), some (.int (nI i7)), some (.int (sdI s10)), none] [] 0 0 cnt (pm_mid σ (md_L B I10 A10 n k z ac wt pl (nI p0) (nI t0) im)) := by
              intro m10
              induction m10 with
              | zero => intro I10 A10 x10 s10 _ _ hm; exact absurd hm (Nat.not_lt_zero _)
              | succ m10 ih10 =>
                intro I10 A10 x10 s10 b10 hs10 hm10
                rcases (show s10 = 0 ∨ s10 = 1 ∨ s10 = 2 by omega) with rfl | rfl | rfl
                · refine pm_le (loc' := [some (.ref (B + 54)), some (.int (nI ba)), some (.int (nI 3)), some (.int zc), some (.int zd), some (.int ze), some (.int x3), some (.int (zd - x4)), some (.int x10), some (.int (nI i7)), some (.int (-1)), none]) rfl ?_
                  refine pm_iloadi hG dX12_winsBy_82 rfl ?_
                  refine pm_iconst (v := nI 1) hG dX12_winsBy_84 (by decide) ?_
                  refine pm_icmp_gt (tgt := 220) hG dX12_winsBy_85 rfl (fun q => absurd q (by decide)) (fun _ => ?_)
                  refine pm_iloadi hG dX12_winsBy_88 rfl ?_
                  refine pm_if_eq (tgt := 220) hG dX12_winsBy_90 rfl (fun c11 => ?_) (fun c11 => ?_)
                  · refine pm_iincX (v := nI (i7 + 1)) (loc' := [some (.ref (B + 54)), some (.int (nI ba)), some (.int (nI 3)), some (.int zc), some (.int zd), some (.int ze), some (.int x3), some (.int (zd - x4)), some (.int x10), some (.int (nI (i7 + 1))), some (.int (-1)), none]) hG dX12_winsBy_220 rfl (nI_1 _) (by decide) (pm_c1b rfl) rfl ?_
                    refine pm_goto (tgt := 68) hG dX12_winsBy_223 rfl ?_
                    refine pm_fg 10 (loc' := [some (.ref (B + 54)), some (.int (nI ba)), some (.int (nI 3)), some (.int zc), some (.int zd), some (.int ze), some (.int x3), some (.int (zd - x4)), some (.int x10), some (.int (nI (i7 + 1))), none, none]) rfl ?_
                    exact ih7 I10 A10 x10 (i7 + 1) b10 (by omega) (by omega)
                  · refine pm_iloadi hG dX12_winsBy_93 rfl ?_
                    refine pm_iloadi hG dX12_winsBy_95 rfl ?_
                    refine pm_iadd hG dX12_winsBy_97 ?_
                    refine pm_istoreXi (loc' := [some (.ref (B + 54)), some (.int (nI ba)), some (.int (nI 3)), some (.int zc), some (.int zd), some (.int ze), some (.int x3), some (.int (zd - x4)), some (.int x10), some (.int (nI i7)), some (.int (-1)), some (.int ((nI i7) + (-1)))]) hG dX12_winsBy_98 (by decide) (pm_c1b rfl) rfl ?_
                    refine pm_iloadi hG dX12_winsBy_100 rfl ?_
                    refine pm_iconst (v := nI 0) hG dX12_winsBy_102 (by decide) ?_
                    refine pm_iconst (v := nI 4) hG dX12_winsBy_103 (by decide) ?_
                    refine pm_callS (As := [.int ((nI i7) + (-1)), .int (nI 0), .int (nI 4)]) (rest := []) hG hR dX12_winsBy_104 (lkX12_68 _ rfl) okS_X12_in (m_in (d := 5)) rfl rfl hdd (Nat.le_refl _) (Nat.le_refl _) (by decide) (pm_ki (fun v12 σ' cnt' hq => ?_))
                    obtain ⟨hq, rfl, rfl⟩ := hq
                    rcases hq with ⟨rfl, ac13, bc13⟩ | ⟨rfl, c13⟩
                    · obtain ⟨k14, hk14, ek14⟩ := in_nat (by omega) (by omega) ac13 bc13
                      refine pm_ifN_eq (tgt := 214) hG dX12_winsBy_107 rfl (by omega) (fun q => absurd q (by omega)) (fun _ => ?_)
                      refine pm_iloadi hG dX12_winsBy_110 rfl ?_
                      refine pm_iloadi hG dX12_winsBy_112 rfl ?_
                      refine pm_callS (As := [.int x3, .int (nI i7)]) (rest := []) hG hR dX12_winsBy_114 (lkX12_253 _ rfl) okS_X12_isTaken (m_isTaken (d := 5) (by decide) hn hz) rfl rfl hdd (Nat.le_refl _) (Nat.le_refl _) (by decide) (pm_ki (fun v15 σ' cnt' hq => ?_))
                      obtain ⟨rfl, rfl, bv15⟩ := hq
                      refine pm_if_ne (tgt := 214) hG dX12_winsBy_117 rfl (fun c17 => ?_) (fun c17 => ?_)
                      · refine pm_iincX (v := nI 1) (loc' := [some (.ref (B + 54)), some (.int (nI ba)), some (.int (nI 3)), some (.int zc), some (.int zd), some (.int ze), some (.int x3), some (.int (zd - x4)), some (.int x10), some (.int (nI i7)), some (.int (nI 1)), some (.int ((nI i7) + (-1)))]) hG dX12_winsBy_214 rfl (by decide) (by decide) (pm_c1b rfl) rfl ?_
                        refine pm_goto (tgt := 82) hG dX12_winsBy_217 rfl ?_
                        refine pm_fg 11 (loc' := [some (.ref (B + 54)), some (.int (nI ba)), some (.int (nI 3)), some (.int zc), some (.int zd), some (.int ze), some (.int x3), some (.int (zd - x4)), some (.int x10), some (.int (nI i7)), some (.int (nI 1)), none]) rfl ?_
                        exact ih10 I10 A10 x10 1 b10 (by omega) (by omega)
                      · refine pm_iloadi hG dX12_winsBy_120 rfl ?_
                        refine pm_iloadi hG dX12_winsBy_122 rfl ?_
                        refine pm_top (v := nI k14) ek14 ?_
                        refine pm_callS (As := [.int x3, .int (nI k14)]) (rest := []) hG hR dX12_winsBy_124 (lkX12_253 _ rfl) okS_X12_isTaken (m_isTaken (d := 5) (by decide) hn hz) rfl rfl hdd (Nat.le_refl _) (Nat.le_refl _) (by decide) (pm_ki (fun v18 σ' cnt' hq => ?_))
                        obtain ⟨rfl, rfl, bv18⟩ := hq
                        refine pm_if_ne (tgt := 214) hG dX12_winsBy_127 rfl (fun c20 => ?_) (fun c20 => ?_)
                        · refine pm_iincX (v := nI 1) (loc' := [some (.ref (B + 54)), some (.int (nI ba)), some (.int (nI 3)), some (.int zc), some (.int zd), some (.int ze), some (.int x3), some (.int (zd - x4)), some (.int x10), some (.int (nI i7)), some (.int (nI 1)), some (.int ((nI i7) + (-1)))]) hG dX12_winsBy_214 rfl (by decide) (by decide) (pm_c1b rfl) rfl ?_
                          refine pm_goto (tgt := 82) hG dX12_winsBy_217 rfl ?_
                          refine pm_fg 11 (loc' := [some (.ref (B + 54)), some (.int (nI ba)), some (.int (nI 3)), some (.int zc), some (.int zd), some (.int ze), some (.int x3), some (.int (zd - x4)), some (.int x10), some (.int (nI i7)), some (.int (nI 1)), none]) rfl ?_
                          exact ih10 I10 A10 x10 1 b10 (by omega) (by omega)
                        · refine pm_aloadn hG dX12_winsBy_130 rfl ?_
                          refine pm_getf hG dX12_winsBy_131 (flX12_43 _ rfl) rfl rfl ?_
                          refine pm_iloadi hG dX12_winsBy_134 rfl ?_
                          refine pm_ialdN hG dX12_winsBy_136 rfl (by decide) (by omega) ?_
                          refine pm_any (fun x21 => ?_)
                          refine pm_if_eq (tgt := 214) hG dX12_winsBy_137 rfl (fun c22 => ?_) (fun c22 => ?_)
                          · refine pm_iincX (v := nI 1) (loc' := [some (.ref (B + 54)), some (.int (nI ba)), some (.int (nI 3)), some (.int zc), some (.int zd), some (.int ze), some (.int x3), some (.int (zd - x4)), some (.int x10), some (.int (nI i7)), some (.int (nI 1)), some (.int ((nI i7) + (-1)))]) hG dX12_winsBy_214 rfl (by decide) (by decide) (pm_c1b rfl) rfl ?_
                            refine pm_goto (tgt := 82) hG dX12_winsBy_217 rfl ?_
                            refine pm_fg 11 (loc' := [some (.ref (B + 54)), some (.int (nI ba)), some (.int (nI 3)), some (.int zc), some (.int zd), some (.int ze), some (.int x3), some (.int (zd - x4)), some (.int x10), some (.int (nI i7)), some (.int (nI 1)), none]) rfl ?_
                            exact ih10 I10 A10 x10 1 b10 (by omega) (by omega)
                          · refine pm_aloadn hG dX12_winsBy_140 rfl ?_
                            refine pm_getf hG dX12_winsBy_141 (flX12_43 _ rfl) rfl rfl ?_
                            refine pm_iloadi hG dX12_winsBy_144 rfl ?_
                            refine pm_top (v := nI k14) ek14 ?_
                            refine pm_ialdN hG dX12_winsBy_146 rfl (by decide) (by omega) ?_
                            refine pm_any (fun x23 => ?_)
                            refine pm_bipush (v := nI 6) hG dX12_winsBy_147 (by decide) ?_
                            refine pm_icmp_ne (tgt := 155) hG dX12_winsBy_149 rfl (fun c24 => ?_) (fun c24 => ?_)
                            · refine pm_aloadn hG dX12_winsBy_155 rfl ?_
                              refine pm_getf hG dX12_winsBy_156 (flX12_43 _ rfl) rfl rfl ?_
                              refine pm_iloadi hG dX12_winsBy_159 rfl ?_
                              refine pm_dup2 hG dX12_winsBy_161 rfl rfl ?_
                              refine pm_ialdN hG dX12_winsBy_162 rfl (by decide) (by omega) ?_
                              refine pm_any (fun x25 => ?_)
                              refine pm_iconst (v := nI 1) hG dX12_winsBy_163 (by decide) ?_
                              refine pm_isub hG dX12_winsBy_164 ?_
                              refine pm_iastN hG dX12_winsBy_165 rfl (by decide) (by omega) ?_
                              refine mdn_guards (fun A_26 => ?_)
                              refine pm_aloadn hG dX12_winsBy_166 rfl ?_
                              refine pm_getf hG dX12_winsBy_167 (flX12_43 _ rfl) rfl rfl ?_
                              refine pm_iloadi hG dX12_winsBy_170 rfl ?_
                              refine pm_top (v := nI k14) ek14 ?_
                              refine pm_dup2 hG dX12_winsBy_172 rfl rfl ?_
                              refine pm_ialdN hG dX12_winsBy_173 rfl (by decide) (by omega) ?_
                              refine pm_any (fun x27 => ?_)
                              refine pm_iconst (v := nI 1) hG dX12_winsBy_174 (by decide) ?_
                              refine pm_iadd hG dX12_winsBy_175 ?_
                              refine pm_iastN hG dX12_winsBy_176 rfl (by decide) (by omega) ?_
                              refine mdn_guards (fun A_28 => ?_)
                              refine pm_aloadn hG dX12_winsBy_177 rfl ?_
                              refine pm_iloadn hG dX12_winsBy_178 rfl ?_
                              refine pm_iconst (v := nI 1) hG dX12_winsBy_179 (by decide) ?_
                              refine pm_isubN (c := 2) hG dX12_winsBy_180 (by omega) ?_
                              refine pm_iloadi hG dX12_winsBy_181 rfl ?_
                              refine pm_iloadi hG dX12_winsBy_183 rfl ?_
                              refine pm_iloadi hG dX12_winsBy_185 rfl ?_
                              refine pm_callV (As := [.int (nI 2), .int x3, .int (zd - x4), .int ze]) (rest := []) hG hR dX12_winsBy_187 (lkX12_256 _ rfl) okV_X12_wins rfl rfl (m_wins_c2 (d := 5) (by decide) hn hz) rfl rfl hdd (Nat.le_refl _) (Nat.le_refl _) (by decide) (pm_ki (fun v29 σ' cnt' hq => ?_))
                              obtain ⟨⟨I30, A30, rfl⟩, rfl, bv29⟩ := hq
                              refine pm_istoreXi (loc' := [some (.ref (B + 54)), some (.int (nI ba)), some (.int (nI 3)), some (.int zc), some (.int zd), some (.int ze), some (.int x3), some (.int (zd - x4)), some (.int v29), some (.int (nI i7)), some (.int (-1)), some (.int ((nI i7) + (-1)))]) hG dX12_winsBy_190 (by decide) (pm_c1b rfl) rfl ?_
                              refine pm_aloadn hG dX12_winsBy_192 rfl ?_
                              refine pm_getf hG dX12_winsBy_193 (flX12_43 _ rfl) rfl rfl ?_
                              refine pm_iloadi hG dX12_winsBy_196 rfl ?_
                              refine pm_dup2 hG dX12_winsBy_198 rfl rfl ?_
                              refine pm_ialdN hG dX12_winsBy_199 rfl (by decide) (by omega) ?_
                              refine pm_any (fun x31 => ?_)
                              refine pm_iconst (v := nI 1) hG dX12_winsBy_200 (by decide) ?_
                              refine pm_iadd hG dX12_winsBy_201 ?_
                              refine pm_iastN hG dX12_winsBy_202 rfl (by decide) (by omega) ?_
                              refine mdn_guards (fun A_32 => ?_)
                              refine pm_aloadn hG dX12_winsBy_203 rfl ?_
                              refine pm_getf hG dX12_winsBy_204 (flX12_43 _ rfl) rfl rfl ?_
                              refine pm_iloadi hG dX12_winsBy_207 rfl ?_
                              refine pm_top (v := nI k14) ek14 ?_
                              refine pm_dup2 hG dX12_winsBy_209 rfl rfl ?_
                              refine pm_ialdN hG dX12_winsBy_210 rfl (by decide) (by omega) ?_
                              refine pm_any (fun x33 => ?_)
                              refine pm_iconst (v := nI 1) hG dX12_winsBy_211 (by decide) ?_
                              refine pm_isub hG dX12_winsBy_212 ?_
                              refine pm_iastN hG dX12_winsBy_213 rfl (by decide) (by omega) ?_
                              refine mdn_guards (fun A_34 => ?_)
                              refine pm_iincX (v := nI 1) (loc' := [some (.ref (B + 54)), some (.int (nI ba)), some (.int (nI 3)), some (.int zc), some (.int zd), some (.int ze), some (.int x3), some (.int (zd - x4)), some (.int v29), some (.int (nI i7)), some (.int (nI 1)), some (.int ((nI i7) + (-1)))]) hG dX12_winsBy_214 rfl (by decide) (by decide) (pm_c1b rfl) rfl ?_
                              refine pm_goto (tgt := 82) hG dX12_winsBy_217 rfl ?_
                              refine pm_fg 11 (loc' := [some (.ref (B + 54)), some (.int (nI ba)), some (.int (nI 3)), some (.int zc), some (.int zd), some (.int ze), some (.int x3), some (.int (zd - x4)), some (.int v29), some (.int (nI i7)), some (.int (nI 1)), none]) rfl ?_
                              exact ih10 I30 A_34 v29 1 bv29 (by omega) (by omega)
                            · refine pm_goto (tgt := 214) hG dX12_winsBy_152 rfl ?_
                              refine pm_iincX (v := nI 1) (loc' := [some (.ref (B + 54)), some (.int (nI ba)), some (.int (nI 3)), some (.int zc), some (.int zd), some (.int ze), some (.int x3), some (.int (zd - x4)), some (.int x10), some (.int (nI i7)), some (.int (nI 1)), some (.int ((nI i7) + (-1)))]) hG dX12_winsBy_214 rfl (by decide) (by decide) (pm_c1b rfl) rfl ?_
                              refine pm_goto (tgt := 82) hG dX12_winsBy_217 rfl ?_
                              refine pm_fg 11 (loc' := [some (.ref (B + 54)), some (.int (nI ba)), some (.int (nI 3)), some (.int zc), some (.int zd), some (.int ze), some (.int x3), some (.int (zd - x4)), some (.int x10), some (.int (nI i7)), some (.int (nI 1)), none]) rfl ?_
                              exact ih10 I10 A10 x10 1 b10 (by omega) (by omega)
                    · refine pm_ifN_eq (tgt := 214) hG dX12_winsBy_107 rfl (by omega) (fun _ => ?_) (fun q => absurd q (by omega))
                      refine pm_iincX (v := nI 1) (loc' := [some (.ref (B + 54)), some (.int (nI ba)), some (.int (nI 3)), some (.int zc), some (.int zd), some (.int ze), some (.int x3), some (.int (zd - x4)), some (.int x10), some (.int (nI i7)), some (.int (nI 1)), some (.int ((nI i7) + (-1)))]) hG dX12_winsBy_214 rfl (by decide) (by decide) (pm_c1b rfl) rfl ?_
                      refine pm_goto (tgt := 82) hG dX12_winsBy_217 rfl ?_
                      refine pm_fg 11 (loc' := [some (.ref (B + 54)), some (.int (nI ba)), some (.int (nI 3)), some (.int zc), some (.int zd), some (.int ze), some (.int x3), some (.int (zd - x4)), some (.int x10), some (.int (nI i7)), some (.int (nI 1)), none]) rfl ?_
                      exact ih10 I10 A10 x10 1 b10 (by omega) (by omega)
                · refine pm_le (loc' := [some (.ref (B + 54)), some (.int (nI ba)), some (.int (nI 3)), some (.int zc), some (.int zd), some (.int ze), some (.int x3), some (.int (zd - x4)), some (.int x10), some (.int (nI i7)), some (.int (nI 1)), none]) rfl ?_
                  refine pm_iloadi hG dX12_winsBy_82 rfl ?_
                  refine pm_iconst (v := nI 1) hG dX12_winsBy_84 (by decide) ?_
                  refine pm_icmpN_gt (tgt := 220) hG dX12_winsBy_85 rfl (by omega) (by omega) (fun q => absurd q (by omega)) (fun _ => ?_)
                  refine pm_iloadi hG dX12_winsBy_88 rfl ?_
                  refine pm_if_eq (tgt := 220) hG dX12_winsBy_90 rfl (fun c35 => ?_) (fun c35 => ?_)
                  · refine pm_iincX (v := nI (i7 + 1)) (loc' := [some (.ref (B + 54)), some (.int (nI ba)), some (.int (nI 3)), some (.int zc), some (.int zd), some (.int ze), some (.int x3), some (.int (zd - x4)), some (.int x10), some (.int (nI (i7 + 1))), some (.int (nI 1)), none]) hG dX12_winsBy_220 rfl (nI_1 _) (by decide) (pm_c1b rfl) rfl ?_
                    refine pm_goto (tgt := 68) hG dX12_winsBy_223 rfl ?_
                    refine pm_fg 10 (loc' := [some (.ref (B + 54)), some (.int (nI ba)), some (.int (nI 3)), some (.int zc), some (.int zd), some (.int ze), some (.int x3), some (.int (zd - x4)), some (.int x10), some (.int (nI (i7 + 1))), none, none]) rfl ?_
                    exact ih7 I10 A10 x10 (i7 + 1) b10 (by omega) (by omega)
                  · refine pm_iloadi hG dX12_winsBy_93 rfl ?_
                    refine pm_iloadi hG dX12_winsBy_95 rfl ?_
                    refine pm_iaddN (c := i7 + 1) hG dX12_winsBy_97 (by omega) ?_
                    refine pm_istoreXi (loc' := [some (.ref (B + 54)), some (.int (nI ba)), some (.int (nI 3)), some (.int zc), some (.int zd), some (.int ze), some (.int x3), some (.int (zd - x4)), some (.int x10), some (.int (nI i7)), some (.int (nI 1)), some (.int (nI (i7 + 1)))]) hG dX12_winsBy_98 (by decide) (pm_c1b rfl) rfl ?_
                    refine pm_iloadi hG dX12_winsBy_100 rfl ?_
                    refine pm_iconst (v := nI 0) hG dX12_winsBy_102 (by decide) ?_
                    refine pm_iconst (v := nI 4) hG dX12_winsBy_103 (by decide) ?_
                    refine pm_callS (As := [.int (nI (i7 + 1)), .int (nI 0), .int (nI 4)]) (rest := []) hG hR dX12_winsBy_104 (lkX12_68 _ rfl) okS_X12_in (m_in (d := 5)) rfl rfl hdd (Nat.le_refl _) (Nat.le_refl _) (by decide) (pm_ki (fun v36 σ' cnt' hq => ?_))
                    obtain ⟨hq, rfl, rfl⟩ := hq
                    rcases hq with ⟨rfl, ac37, bc37⟩ | ⟨rfl, c37⟩
                    · have ic37 := (nI_leI (by omega) (by omega)).mp (Int32.not_lt.mp ac37)
                      have jc37 := (nI_leI (by omega) (by omega)).mp (Int32.not_lt.mp bc37)
                      refine pm_ifN_eq (tgt := 214) hG dX12_winsBy_107 rfl (by omega) (fun q => absurd q (by omega)) (fun _ => ?_)
                      refine pm_iloadi hG dX12_winsBy_110 rfl ?_
                      refine pm_iloadi hG dX12_winsBy_112 rfl ?_
                      refine pm_callS (As := [.int x3, .int (nI i7)]) (rest := []) hG hR dX12_winsBy_114 (lkX12_253 _ rfl) okS_X12_isTaken (m_isTaken (d := 5) (by decide) hn hz) rfl rfl hdd (Nat.le_refl _) (Nat.le_refl _) (by decide) (pm_ki (fun v38 σ' cnt' hq => ?_))
                      obtain ⟨rfl, rfl, bv38⟩ := hq
                      refine pm_if_ne (tgt := 214) hG dX12_winsBy_117 rfl (fun c40 => ?_) (fun c40 => ?_)
                      · refine pm_iincX (v := nI 3) (loc' := [some (.ref (B + 54)), some (.int (nI ba)), some (.int (nI 3)), some (.int zc), some (.int zd), some (.int ze), some (.int x3), some (.int (zd - x4)), some (.int x10), some (.int (nI i7)), some (.int (nI 3)), some (.int (nI (i7 + 1)))]) hG dX12_winsBy_214 rfl (by decide) (by decide) (pm_c1b rfl) rfl ?_
                        refine pm_goto (tgt := 82) hG dX12_winsBy_217 rfl ?_
                        refine pm_fg 11 (loc' := [some (.ref (B + 54)), some (.int (nI ba)), some (.int (nI 3)), some (.int zc), some (.int zd), some (.int ze), some (.int x3), some (.int (zd - x4)), some (.int x10), some (.int (nI i7)), some (.int (nI 3)), none]) rfl ?_
                        exact ih10 I10 A10 x10 2 b10 (by omega) (by omega)
                      · refine pm_iloadi hG dX12_winsBy_120 rfl ?_
                        refine pm_iloadi hG dX12_winsBy_122 rfl ?_
                        refine pm_callS (As := [.int x3, .int (nI (i7 + 1))]) (rest := []) hG hR dX12_winsBy_124 (lkX12_253 _ rfl) okS_X12_isTaken (m_isTaken (d := 5) (by decide) hn hz) rfl rfl hdd (Nat.le_refl _) (Nat.le_refl _) (by decide) (pm_ki (fun v41 σ' cnt' hq => ?_))
                        obtain ⟨rfl, rfl, bv41⟩ := hq
                        refine pm_if_ne (tgt := 214) hG dX12_winsBy_127 rfl (fun c43 => ?_) (fun c43 => ?_)
                        · refine pm_iincX (v := nI 3) (loc' := [some (.ref (B + 54)), some (.int (nI ba)), some (.int (nI 3)), some (.int zc), some (.int zd), some (.int ze), some (.int x3), some (.int (zd - x4)), some (.int x10), some (.int (nI i7)), some (.int (nI 3)), some (.int (nI (i7 + 1)))]) hG dX12_winsBy_214 rfl (by decide) (by decide) (pm_c1b rfl) rfl ?_
                          refine pm_goto (tgt := 82) hG dX12_winsBy_217 rfl ?_
                          refine pm_fg 11 (loc' := [some (.ref (B + 54)), some (.int (nI ba)), some (.int (nI 3)), some (.int zc), some (.int zd), some (.int ze), some (.int x3), some (.int (zd - x4)), some (.int x10), some (.int (nI i7)), some (.int (nI 3)), none]) rfl ?_
                          exact ih10 I10 A10 x10 2 b10 (by omega) (by omega)
                        · refine pm_aloadn hG dX12_winsBy_130 rfl ?_
                          refine pm_getf hG dX12_winsBy_131 (flX12_43 _ rfl) rfl rfl ?_
                          refine pm_iloadi hG dX12_winsBy_134 rfl ?_
                          refine pm_ialdN hG dX12_winsBy_136 rfl (by decide) (by omega) ?_
                          refine pm_any (fun x44 => ?_)
                          refine pm_if_eq (tgt := 214) hG dX12_winsBy_137 rfl (fun c45 => ?_) (fun c45 => ?_)
                          · refine pm_iincX (v := nI 3) (loc' := [some (.ref (B + 54)), some (.int (nI ba)), some (.int (nI 3)), some (.int zc), some (.int zd), some (.int ze), some (.int x3), some (.int (zd - x4)), some (.int x10), some (.int (nI i7)), some (.int (nI 3)), some (.int (nI (i7 + 1)))]) hG dX12_winsBy_214 rfl (by decide) (by decide) (pm_c1b rfl) rfl ?_
                            refine pm_goto (tgt := 82) hG dX12_winsBy_217 rfl ?_
                            refine pm_fg 11 (loc' := [some (.ref (B + 54)), some (.int (nI ba)), some (.int (nI 3)), some (.int zc), some (.int zd), some (.int ze), some (.int x3), some (.int (zd - x4)), some (.int x10), some (.int (nI i7)), some (.int (nI 3)), none]) rfl ?_
                            exact ih10 I10 A10 x10 2 b10 (by omega) (by omega)
                          · refine pm_aloadn hG dX12_winsBy_140 rfl ?_
                            refine pm_getf hG dX12_winsBy_141 (flX12_43 _ rfl) rfl rfl ?_
                            refine pm_iloadi hG dX12_winsBy_144 rfl ?_
                            refine pm_ialdN hG dX12_winsBy_146 rfl (by decide) (by omega) ?_
                            refine pm_any (fun x46 => ?_)
                            refine pm_bipush (v := nI 6) hG dX12_winsBy_147 (by decide) ?_
                            refine pm_icmp_ne (tgt := 155) hG dX12_winsBy_149 rfl (fun c47 => ?_) (fun c47 => ?_)
                            · refine pm_aloadn hG dX12_winsBy_155 rfl ?_
                              refine pm_getf hG dX12_winsBy_156 (flX12_43 _ rfl) rfl rfl ?_
                              refine pm_iloadi hG dX12_winsBy_159 rfl ?_
                              refine pm_dup2 hG dX12_winsBy_161 rfl rfl ?_
                              refine pm_ialdN hG dX12_winsBy_162 rfl (by decide) (by omega) ?_
                              refine pm_any (fun x48 => ?_)
                              refine pm_iconst (v := nI 1) hG dX12_winsBy_163 (by decide) ?_
                              refine pm_isub hG dX12_winsBy_164 ?_
                              refine pm_iastN hG dX12_winsBy_165 rfl (by decide) (by omega) ?_
                              refine mdn_guards (fun A_49 => ?_)
                              refine pm_aloadn hG dX12_winsBy_166 rfl ?_
                              refine pm_getf hG dX12_winsBy_167 (flX12_43 _ rfl) rfl rfl ?_
                              refine pm_iloadi hG dX12_winsBy_170 rfl ?_
                              refine pm_dup2 hG dX12_winsBy_172 rfl rfl ?_
                              refine pm_ialdN hG dX12_winsBy_173 rfl (by decide) (by omega) ?_
                              refine pm_any (fun x50 => ?_)
                              refine pm_iconst (v := nI 1) hG dX12_winsBy_174 (by decide) ?_
                              refine pm_iadd hG dX12_winsBy_175 ?_
                              refine pm_iastN hG dX12_winsBy_176 rfl (by decide) (by omega) ?_
                              refine mdn_guards (fun A_51 => ?_)
                              refine pm_aloadn hG dX12_winsBy_177 rfl ?_
                              refine pm_iloadn hG dX12_winsBy_178 rfl ?_
                              refine pm_iconst (v := nI 1) hG dX12_winsBy_179 (by decide) ?_
                              refine pm_isubN (c := 2) hG dX12_winsBy_180 (by omega) ?_
                              refine pm_iloadi hG dX12_winsBy_181 rfl ?_
                              refine pm_iloadi hG dX12_winsBy_183 rfl ?_
                              refine pm_iloadi hG dX12_winsBy_185 rfl ?_
                              refine pm_callV (As := [.int (nI 2), .int x3, .int (zd - x4), .int ze]) (rest := []) hG hR dX12_winsBy_187 (lkX12_256 _ rfl) okV_X12_wins rfl rfl (m_wins_c2 (d := 5) (by decide) hn hz) rfl rfl hdd (Nat.le_refl _) (Nat.le_refl _) (by decide) (pm_ki (fun v52 σ' cnt' hq => ?_))
                              obtain ⟨⟨I53, A53, rfl⟩, rfl, bv52⟩ := hq
                              refine pm_istoreXi (loc' := [some (.ref (B + 54)), some (.int (nI ba)), some (.int (nI 3)), some (.int zc), some (.int zd), some (.int ze), some (.int x3), some (.int (zd - x4)), some (.int v52), some (.int (nI i7)), some (.int (nI 1)), some (.int (nI (i7 + 1)))]) hG dX12_winsBy_190 (by decide) (pm_c1b rfl) rfl ?_
                              refine pm_aloadn hG dX12_winsBy_192 rfl ?_
                              refine pm_getf hG dX12_winsBy_193 (flX12_43 _ rfl) rfl rfl ?_
                              refine pm_iloadi hG dX12_winsBy_196 rfl ?_
                              refine pm_dup2 hG dX12_winsBy_198 rfl rfl ?_
                              refine pm_ialdN hG dX12_winsBy_199 rfl (by decide) (by omega) ?_
                              refine pm_any (fun x54 => ?_)
                              refine pm_iconst (v := nI 1) hG dX12_winsBy_200 (by decide) ?_
                              refine pm_iadd hG dX12_winsBy_201 ?_
                              refine pm_iastN hG dX12_winsBy_202 rfl (by decide) (by omega) ?_
                              refine mdn_guards (fun A_55 => ?_)
                              refine pm_aloadn hG dX12_winsBy_203 rfl ?_
                              refine pm_getf hG dX12_winsBy_204 (flX12_43 _ rfl) rfl rfl ?_
                              refine pm_iloadi hG dX12_winsBy_207 rfl ?_
                              refine pm_dup2 hG dX12_winsBy_209 rfl rfl ?_
                              refine pm_ialdN hG dX12_winsBy_210 rfl (by decide) (by omega) ?_
                              refine pm_any (fun x56 => ?_)
                              refine pm_iconst (v := nI 1) hG dX12_winsBy_211 (by decide) ?_
                              refine pm_isub hG dX12_winsBy_212 ?_
                              refine pm_iastN hG dX12_winsBy_213 rfl (by decide) (by omega) ?_
                              refine mdn_guards (fun A_57 => ?_)
                              refine pm_iincX (v := nI 3) (loc' := [some (.ref (B + 54)), some (.int (nI ba)), some (.int (nI 3)), some (.int zc), some (.int zd), some (.int ze), some (.int x3), some (.int (zd - x4)), some (.int v52), some (.int (nI i7)), some (.int (nI 3)), some (.int (nI (i7 + 1)))]) hG dX12_winsBy_214 rfl (by decide) (by decide) (pm_c1b rfl) rfl ?_
                              refine pm_goto (tgt := 82) hG dX12_winsBy_217 rfl ?_
                              refine pm_fg 11 (loc' := [some (.ref (B + 54)), some (.int (nI ba)), some (.int (nI 3)), some (.int zc), some (.int zd), some (.int ze), some (.int x3), some (.int (zd - x4)), some (.int v52), some (.int (nI i7)), some (.int (nI 3)), none]) rfl ?_
                              exact ih10 I53 A_57 v52 2 bv52 (by omega) (by omega)
                            · refine pm_goto (tgt := 214) hG dX12_winsBy_152 rfl ?_
                              refine pm_iincX (v := nI 3) (loc' := [some (.ref (B + 54)), some (.int (nI ba)), some (.int (nI 3)), some (.int zc), some (.int zd), some (.int ze), some (.int x3), some (.int (zd - x4)), some (.int x10), some (.int (nI i7)), some (.int (nI 3)), some (.int (nI (i7 + 1)))]) hG dX12_winsBy_214 rfl (by decide) (by decide) (pm_c1b rfl) rfl ?_
                              refine pm_goto (tgt := 82) hG dX12_winsBy_217 rfl ?_
                              refine pm_fg 11 (loc' := [some (.ref (B + 54)), some (.int (nI ba)), some (.int (nI 3)), some (.int zc), some (.int zd), some (.int ze), some (.int x3), some (.int (zd - x4)), some (.int x10), some (.int (nI i7)), some (.int (nI 3)), none]) rfl ?_
                              exact ih10 I10 A10 x10 2 b10 (by omega) (by omega)
                    · refine pm_ifN_eq (tgt := 214) hG dX12_winsBy_107 rfl (by omega) (fun _ => ?_) (fun q => absurd q (by omega))
                      refine pm_iincX (v := nI 3) (loc' := [some (.ref (B + 54)), some (.int (nI ba)), some (.int (nI 3)), some (.int zc), some (.int zd), some (.int ze), some (.int x3), some (.int (zd - x4)), some (.int x10), some (.int (nI i7)), some (.int (nI 3)), some (.int (nI (i7 + 1)))]) hG dX12_winsBy_214 rfl (by decide) (by decide) (pm_c1b rfl) rfl ?_
                      refine pm_goto (tgt := 82) hG dX12_winsBy_217 rfl ?_
                      refine pm_fg 11 (loc' := [some (.ref (B + 54)), some (.int (nI ba)), some (.int (nI 3)), some (.int zc), some (.int zd), some (.int ze), some (.int x3), some (.int (zd - x4)), some (.int x10), some (.int (nI i7)), some (.int (nI 3)), none]) rfl ?_
                      exact ih10 I10 A10 x10 2 b10 (by omega) (by omega)
                · refine pm_le (loc' := [some (.ref (B + 54)), some (.int (nI ba)), some (.int (nI 3)), some (.int zc), some (.int zd), some (.int ze), some (.int x3), some (.int (zd - x4)), some (.int x10), some (.int (nI i7)), some (.int (nI 3)), none]) rfl ?_
                  refine pm_iloadi hG dX12_winsBy_82 rfl ?_
                  refine pm_iconst (v := nI 1) hG dX12_winsBy_84 (by decide) ?_
                  refine pm_icmpN_gt (tgt := 220) hG dX12_winsBy_85 rfl (by omega) (by omega) (fun _ => ?_) (fun q => absurd q (by omega))
                  refine pm_iincX (v := nI (i7 + 1)) (loc' := [some (.ref (B + 54)), some (.int (nI ba)), some (.int (nI 3)), some (.int zc), some (.int zd), some (.int ze), some (.int x3), some (.int (zd - x4)), some (.int x10), some (.int (nI (i7 + 1))), some (.int (nI 3)), none]) hG dX12_winsBy_220 rfl (nI_1 _) (by decide) (pm_c1b rfl) rfl ?_
                  refine pm_goto (tgt := 68) hG dX12_winsBy_223 rfl ?_
                  refine pm_fg 10 (loc' := [some (.ref (B + 54)), some (.int (nI ba)), some (.int (nI 3)), some (.int zc), some (.int zd), some (.int ze), some (.int x3), some (.int (zd - x4)), some (.int x10), some (.int (nI (i7 + 1))), none, none]) rfl ?_
                  exact ih7 I10 A10 x10 (i7 + 1) b10 (by omega) (by omega)
            exact loop10 _ I7 A7 x7_8 0 bx7_8 (by omega) (Nat.lt_succ_self _)
    exact loop68_7 _ I6 A6 v5 0 bv5 (by omega) (Nat.lt_succ_self _)
  · refine pm_iconst (v := nI 1) hG dX12_winsBy_6 (by decide) ?_
    exact pm_zret hG hF dX12_winsBy_7 rfl (pm_nz (Or.inr rfl)) (Nat.le_refl _) (Nat.le_refl _) ⟨_, rfl, ⟨_, _, rfl⟩, rfl, (Or.inr rfl)⟩

set_option maxRecDepth 100000 in
set_option maxHeartbeats 4000000 in
theorem m_night {d B cnt p0 t0 : Nat} {σ : pm_S} {I : Nat → Int32} {A : Nat → Nat → Int32} {n k z : Nat → Int32} {ac wt pl im : Int32} {za zb zc zd : Int32} (hdd : 7 ≤ d) (hn : KI n) (hz : SZ z)  : pm_met mX12_night d 0 0 B [.ref (B + 54), .int za, .int zb, .int zc, .int zd] cnt (pm_mid σ (md_L B I A n k z ac wt pl (nI p0) (nI t0) im)) (pm_Qi (fun v σ' cnt' => (∃ (I' : Nat → Int32) (A' : Nat → Nat → Int32), σ' = pm_mid σ (md_L B I' A' n k z ac wt pl (nI p0) (nI t0) im)) ∧ cnt = cnt')) := by
  refine pm_enter 2 (by decide) (Nat.le_of_ble_eq_true rfl) rfl (fun G hG hR hF => ?_)
  refine pm_iloadn hG dX12_night_0 rfl ?_
  refine pm_iconst (v := nI 1) hG dX12_night_1 (by decide) ?_
  refine pm_bipush (v := nI 20) hG dX12_night_2 (by decide) ?_
  refine pm_callS (As := [.int za, .int (nI 1), .int (nI 20)]) (rest := []) hG hR dX12_night_4 (lkX12_68 _ rfl) okS_X12_in (m_in (d := 6)) rfl rfl hdd (Nat.le_refl _) (Nat.le_refl _) (by decide) (pm_ki (fun v1 σ' cnt' hq => ?_))
  obtain ⟨hq, rfl, rfl⟩ := hq
  rcases hq with ⟨rfl, ac2, bc2⟩ | ⟨rfl, c2⟩
  · obtain ⟨k3, hk3, ek3⟩ := in_nat (by omega) (by omega) ac2 bc2
    refine pm_ifN_eq (tgt := 38) hG dX12_night_7 rfl (by omega) (fun q => absurd q (by omega)) (fun _ => ?_)
    refine pm_iloadn hG dX12_night_10 rfl ?_
    refine pm_iconst (v := nI 1) hG dX12_night_11 (by decide) ?_
    refine pm_iconst (v := nI 3) hG dX12_night_12 (by decide) ?_
    refine pm_callS (As := [.int zb, .int (nI 1), .int (nI 3)]) (rest := []) hG hR dX12_night_13 (lkX12_68 _ rfl) okS_X12_in (m_in (d := 6)) rfl rfl hdd (Nat.le_refl _) (Nat.le_refl _) (by decide) (pm_ki (fun v4 σ' cnt' hq => ?_))
    obtain ⟨hq, rfl, rfl⟩ := hq
    rcases hq with ⟨rfl, ac5, bc5⟩ | ⟨rfl, c5⟩
    · obtain ⟨k6, hk6, ek6⟩ := in_nat (by omega) (by omega) ac5 bc5
      refine pm_ifN_eq (tgt := 38) hG dX12_night_16 rfl (by omega) (fun q => absurd q (by omega)) (fun _ => ?_)
      refine pm_iloadn hG dX12_night_19 rfl ?_
      refine pm_iconst (v := nI 0) hG dX12_night_20 (by decide) ?_
      refine pm_iconst (v := nI 4) hG dX12_night_21 (by decide) ?_
      refine pm_callS (As := [.int zc, .int (nI 0), .int (nI 4)]) (rest := []) hG hR dX12_night_22 (lkX12_68 _ rfl) okS_X12_in (m_in (d := 6)) rfl rfl hdd (Nat.le_refl _) (Nat.le_refl _) (by decide) (pm_ki (fun v7 σ' cnt' hq => ?_))
      obtain ⟨hq, rfl, rfl⟩ := hq
      rcases hq with ⟨rfl, ac8, bc8⟩ | ⟨rfl, c8⟩
      · obtain ⟨k9, hk9, ek9⟩ := in_nat (by omega) (by omega) ac8 bc8
        refine pm_ifN_eq (tgt := 38) hG dX12_night_25 rfl (by omega) (fun q => absurd q (by omega)) (fun _ => ?_)
        refine pm_iloadi hG dX12_night_28 rfl ?_
        refine pm_iconst (v := nI 0) hG dX12_night_30 (by decide) ?_
        refine pm_iconst (v := nI 1) hG dX12_night_31 (by decide) ?_
        refine pm_callS (As := [.int zd, .int (nI 0), .int (nI 1)]) (rest := []) hG hR dX12_night_32 (lkX12_68 _ rfl) okS_X12_in (m_in (d := 6)) rfl rfl hdd (Nat.le_refl _) (Nat.le_refl _) (by decide) (pm_ki (fun v10 σ' cnt' hq => ?_))
        obtain ⟨hq, rfl, rfl⟩ := hq
        rcases hq with ⟨rfl, ac11, bc11⟩ | ⟨rfl, c11⟩
        · obtain ⟨k12, hk12, ek12⟩ := in_nat (by omega) (by omega) ac11 bc11
          refine pm_ifN_ne (tgt := 44) hG dX12_night_35 rfl (by omega) (fun _ => ?_) (fun q => absurd q (by omega))
          rcases (show k6 = 1 ∨ k6 = 2 ∨ k6 = 3 by omega) with hH | hH | hH
          · have eH : zb = nI 1 := by rw [ek6, hH]
            refine pm_iconst (v := nI 0) hG dX12_night_44 (by decide) ?_
            refine pm_istoreXi (loc' := [some (.ref (B + 54)), some (.int za), some (.int zb), some (.int zc), some (.int zd), some (.int (nI 0)), none]) hG dX12_night_45 (by decide) (pm_c1b rfl) rfl ?_
            have loop47_13 : ∀ (m13 : Nat) (I13 : Nat → Int32) (A13 : Nat → Nat → Int32) (i13 : Nat), i13 ≤ 5 → 5 - i13 < m13 → pm_wp mX12_night G B 47 [some (.ref (B + 54)), some (.int za), some (.int zb), some (.int zc), some (.int zd), some (.int (nI i13)), none] [] 0 0 cnt (pm_mid σ (md_L B I13 A13 n k z ac wt pl (nI p0) (nI t0) im)) := by
              intro m13
              induction m13 with
              | zero => intro I13 A13 i13 _ hm; exact absurd hm (Nat.not_lt_zero _)
              | succ m13 ih13 =>
                intro I13 A13 i13 hi13 hm13
                refine pm_iloadi hG dX12_night_47 rfl ?_
                refine pm_iconst (v := nI 5) hG dX12_night_49 (by decide) ?_
                refine pm_icmpN_ge (tgt := 77) hG dX12_night_50 rfl (by omega) (by omega) (fun c14 => ?_) (fun c14 => ?_)
                · refine pm_bipush (v := (-2)) hG dX12_night_77 (by decide) ?_
                  refine pm_istoreXi (loc' := [some (.ref (B + 54)), some (.int za), some (.int zb), some (.int zc), some (.int zd), some (.int (-2)), none]) hG dX12_night_79 (by decide) (pm_c1b rfl) rfl ?_
                  refine pm_iconst (v := nI 4) hG dX12_night_81 (by decide) ?_
                  refine pm_istoreXi (loc' := [some (.ref (B + 54)), some (.int za), some (.int zb), some (.int zc), some (.int zd), some (.int (-2)), some (.int (nI 4))]) hG dX12_night_82 (by decide) (pm_c1b rfl) rfl ?_
                  have loop84_15 : ∀ (m15 : Nat) (I15 : Nat → Int32) (A15 : Nat → Nat → Int32) (x15_5 : Int32) (i15 : Nat), i15 ≤ 5 → i15 < m15 → pm_wp mX12_night G B 84 [some (.ref (B + 54)), some (.int za), some (.int zb), some (.int zc), some (.int zd), some (.int x15_5), some (.int (nI i15 - nI 1))] [] 0 0 cnt (pm_mid σ (md_L B I15 A15 n k z ac wt pl (nI p0) (nI t0) im)) := by
                    intro m15
                    induction m15 with
                    | zero => intro I15 A15 x15_5 i15 _ hm; exact absurd hm (Nat.not_lt_zero _)
                    | succ m15 ih15 =>
                      intro I15 A15 x15_5 i15 hi15 hm15
                      rcases i15 with _ | i15
                      · refine pm_iloadi hG dX12_night_84 rfl ?_
                        refine pm_top (v := (-1)) (by decide) ?_
                        refine pm_if_lt (tgt := 128) hG dX12_night_86 rfl (fun _ => ?_) (fun q => absurd q (by decide))
                        refine pm_iloadi hG dX12_night_128 rfl ?_
                        refine pm_bipush (v := (-2)) hG dX12_night_130 (by decide) ?_
                        refine pm_icmp_ne (tgt := 150) hG dX12_night_132 rfl (fun c16 => ?_) (fun c16 => ?_)
                        · refine pm_iloadi hG dX12_night_150 rfl ?_
                          refine pm_top (v := nI k12) ek12 ?_
                          refine pm_ifN_ne (tgt := 170) hG dX12_night_152 rfl (by omega) (fun c17 => ?_) (fun c17 => ?_)
                          · refine pm_iloadi hG dX12_night_170 rfl ?_
                            refine pm_bipush (v := (-2)) hG dX12_night_172 (by decide) ?_
                            refine pm_icmp_le (tgt := 182) hG dX12_night_174 rfl (fun c18 => ?_) (fun c18 => ?_)
                            · refine pm_aloadn hG dX12_night_182 rfl ?_
                              refine pm_iconst (v := nI 2) hG dX12_night_183 (by decide) ?_
                              refine pm_callV (As := [.int (nI 2)]) (rest := []) hG hR dX12_night_184 (lkX12_80 _ rfl) okV_X12_finds rfl rfl (m_finds (d := 6) (by decide) hn hz (by omega)) rfl rfl hdd (Nat.le_refl _) (Nat.le_refl _) (by decide) (pm_ki (fun v19 σ' cnt' hq => ?_))
                              obtain ⟨⟨I20, A20, rfl⟩, rfl, fv19⟩ := hq
                              exact pm_iret hG hF dX12_night_187 rfl (Nat.le_refl _) (Nat.le_refl _) ⟨_, rfl, ⟨_, _, rfl⟩, rfl⟩
                            · refine pm_iloadi hG dX12_night_177 rfl ?_
                              refine pm_goto (tgt := 187) hG dX12_night_179 rfl ?_
                              exact pm_iret hG hF dX12_night_187 rfl (Nat.le_refl _) (Nat.le_refl _) ⟨_, rfl, ⟨_, _, rfl⟩, rfl⟩
                          · refine pm_iloadi hG dX12_night_155 rfl ?_
                            refine pm_bipush (v := (-2)) hG dX12_night_157 (by decide) ?_
                            refine pm_icmp_le (tgt := 166) hG dX12_night_159 rfl (fun c21 => ?_) (fun c21 => ?_)
                            · refine pm_iconst (v := nI 0) hG dX12_night_166 (by decide) ?_
                              refine pm_goto (tgt := 187) hG dX12_night_167 rfl ?_
                              exact pm_iret hG hF dX12_night_187 rfl (Nat.le_refl _) (Nat.le_refl _) ⟨_, rfl, ⟨_, _, rfl⟩, rfl⟩
                            · refine pm_iconst (v := nI 1) hG dX12_night_162 (by decide) ?_
                              refine pm_goto (tgt := 187) hG dX12_night_163 rfl ?_
                              exact pm_iret hG hF dX12_night_187 rfl (Nat.le_refl _) (Nat.le_refl _) ⟨_, rfl, ⟨_, _, rfl⟩, rfl⟩
                        · refine pm_aloadn hG dX12_night_135 rfl ?_
                          refine pm_iconst (v := (-1)) hG dX12_night_136 (by decide) ?_
                          refine pm_iloadn hG dX12_night_137 rfl ?_
                          refine pm_top (v := nI 1) eH ?_
                          refine pm_iconst (v := nI 0) hG dX12_night_138 (by decide) ?_
                          refine pm_iloadn hG dX12_night_139 rfl ?_
                          refine pm_top (v := nI k3) ek3 ?_
                          refine pm_iloadn hG dX12_night_140 rfl ?_
                          refine pm_top (v := nI k9) ek9 ?_
                          refine pm_callV (As := [.int (-1), .int (nI 1), .int (nI 0), .int (nI k3), .int (nI k9)]) (rest := []) hG hR dX12_night_141 (lkX12_260 _ rfl) okV_X12_winsBy rfl rfl (m_winsBy_m_c1 (d := 6) (by decide) hn hz) rfl rfl hdd (Nat.le_refl _) (Nat.le_refl _) (by decide) (pm_ki (fun v22 σ' cnt' hq => ?_))
                          obtain ⟨⟨I23, A23, rfl⟩, rfl, bv22⟩ := hq
                          refine pm_if_eq (tgt := 150) hG dX12_night_144 rfl (fun c24 => ?_) (fun c24 => ?_)
                          · refine pm_iloadi hG dX12_night_150 rfl ?_
                            refine pm_top (v := nI k12) ek12 ?_
                            refine pm_ifN_ne (tgt := 170) hG dX12_night_152 rfl (by omega) (fun c25 => ?_) (fun c25 => ?_)
                            · refine pm_iloadi hG dX12_night_170 rfl ?_
                              refine pm_top (v := (-2)) c16 ?_
                              refine pm_bipush (v := (-2)) hG dX12_night_172 (by decide) ?_
                              refine pm_icmp_le (tgt := 182) hG dX12_night_174 rfl (fun _ => ?_) (fun q => absurd q (by decide))
                              refine pm_aloadn hG dX12_night_182 rfl ?_
                              refine pm_iconst (v := nI 2) hG dX12_night_183 (by decide) ?_
                              refine pm_callV (As := [.int (nI 2)]) (rest := []) hG hR dX12_night_184 (lkX12_80 _ rfl) okV_X12_finds rfl rfl (m_finds (d := 6) (by decide) hn hz (by omega)) rfl rfl hdd (Nat.le_refl _) (Nat.le_refl _) (by decide) (pm_ki (fun v26 σ' cnt' hq => ?_))
                              obtain ⟨⟨I27, A27, rfl⟩, rfl, fv26⟩ := hq
                              exact pm_iret hG hF dX12_night_187 rfl (Nat.le_refl _) (Nat.le_refl _) ⟨_, rfl, ⟨_, _, rfl⟩, rfl⟩
                            · refine pm_iloadi hG dX12_night_155 rfl ?_
                              refine pm_top (v := (-2)) c16 ?_
                              refine pm_bipush (v := (-2)) hG dX12_night_157 (by decide) ?_
                              refine pm_icmp_le (tgt := 166) hG dX12_night_159 rfl (fun _ => ?_) (fun q => absurd q (by decide))
                              refine pm_iconst (v := nI 0) hG dX12_night_166 (by decide) ?_
                              refine pm_goto (tgt := 187) hG dX12_night_167 rfl ?_
                              exact pm_iret hG hF dX12_night_187 rfl (Nat.le_refl _) (Nat.le_refl _) ⟨_, rfl, ⟨_, _, rfl⟩, rfl⟩
                          · refine pm_iconst (v := (-1)) hG dX12_night_147 (by decide) ?_
                            refine pm_istoreXi (loc' := [some (.ref (B + 54)), some (.int za), some (.int zb), some (.int zc), some (.int zd), some (.int (-1)), some (.int (nI 0 - nI 1))]) hG dX12_night_148 (by decide) (pm_c1b rfl) rfl ?_
                            refine pm_iloadi hG dX12_night_150 rfl ?_
                            refine pm_top (v := nI k12) ek12 ?_
                            refine pm_ifN_ne (tgt := 170) hG dX12_night_152 rfl (by omega) (fun c28 => ?_) (fun c28 => ?_)
                            · refine pm_iloadi hG dX12_night_170 rfl ?_
                              refine pm_bipush (v := (-2)) hG dX12_night_172 (by decide) ?_
                              refine pm_icmp_le (tgt := 182) hG dX12_night_174 rfl (fun q => absurd q (by decide)) (fun _ => ?_)
                              refine pm_iloadi hG dX12_night_177 rfl ?_
                              refine pm_goto (tgt := 187) hG dX12_night_179 rfl ?_
                              exact pm_iret hG hF dX12_night_187 rfl (Nat.le_refl _) (Nat.le_refl _) ⟨_, rfl, ⟨_, _, rfl⟩, rfl⟩
                            · refine pm_iloadi hG dX12_night_155 rfl ?_
                              refine pm_bipush (v := (-2)) hG dX12_night_157 (by decide) ?_
                              refine pm_icmp_le (tgt := 166) hG dX12_night_159 rfl (fun q => absurd q (by decide)) (fun _ => ?_)
                              refine pm_iconst (v := nI 1) hG dX12_night_162 (by decide) ?_
                              refine pm_goto (tgt := 187) hG dX12_night_163 rfl ?_
                              exact pm_iret hG hF dX12_night_187 rfl (Nat.le_refl _) (Nat.le_refl _) ⟨_, rfl, ⟨_, _, rfl⟩, rfl⟩
                      · refine pm_iloadi hG dX12_night_84 rfl ?_
                        refine pm_top (v := nI i15) (nI_pred _) ?_
                        refine pm_ifN_lt hG dX12_night_86 rfl (by omega) ?_
                        refine pm_aloadn hG dX12_night_89 rfl ?_
                        refine pm_iconst (v := nI 0) hG dX12_night_90 (by decide) ?_
                        refine pm_iloadn hG dX12_night_91 rfl ?_
                        refine pm_top (v := nI k3) ek3 ?_
                        refine pm_iloadi hG dX12_night_92 rfl ?_
                        refine pm_top (v := nI i15) (nI_pred _) ?_
                        refine pm_callV (As := [.int (nI 0), .int (nI k3), .int (nI i15)]) (rest := []) hG hR dX12_night_94 (lkX12_264 _ rfl) okV_X12_canTake rfl rfl (m_canTake (d := 6) (by decide) hn hz (by omega)) rfl rfl hdd (Nat.le_refl _) (Nat.le_refl _) (by decide) (pm_ki (fun v29 σ' cnt' hq => ?_))
                        obtain ⟨rfl, rfl, bv29⟩ := hq
                        refine pm_if_eq (tgt := 118) hG dX12_night_97 rfl (fun c31 => ?_) (fun c31 => ?_)
                        · refine pm_iloadi hG dX12_night_118 rfl ?_
                          refine pm_istoreXi (loc' := [some (.ref (B + 54)), some (.int za), some (.int zb), some (.int zc), some (.int zd), some (.int x15_5), some (.int (nI (i15 + 1) - nI 1))]) hG dX12_night_120 (by decide) (pm_c1b rfl) rfl ?_
                          refine pm_iincX (v := nI (i15 + 1) - nI 1 + (-1)) (loc' := [some (.ref (B + 54)), some (.int za), some (.int zb), some (.int zc), some (.int zd), some (.int x15_5), some (.int (nI (i15 + 1) - nI 1 + (-1)))]) hG dX12_night_122 rfl (by rfl) (by decide) (pm_c1b rfl) rfl ?_
                          refine pm_goto (tgt := 84) hG dX12_night_125 rfl ?_
                          refine pm_le (loc' := [some (.ref (B + 54)), some (.int za), some (.int zb), some (.int zc), some (.int zd), some (.int x15_5), some (.int (nI i15 - nI 1))]) (by rw [nI_dn]) ?_
                          exact ih15 I15 A15 x15_5 i15 (by omega) (by omega)
                        · refine pm_aloadn hG dX12_night_100 rfl ?_
                          refine pm_iloadi hG dX12_night_101 rfl ?_
                          refine pm_top (v := nI i15) (nI_pred _) ?_
                          refine pm_iloadn hG dX12_night_103 rfl ?_
                          refine pm_top (v := nI 1) eH ?_
                          refine pm_iconst (v := nI 0) hG dX12_night_104 (by decide) ?_
                          refine pm_iloadn hG dX12_night_105 rfl ?_
                          refine pm_top (v := nI k3) ek3 ?_
                          refine pm_iloadn hG dX12_night_106 rfl ?_
                          refine pm_top (v := nI k9) ek9 ?_
                          refine pm_callV (As := [.int (nI i15), .int (nI 1), .int (nI 0), .int (nI k3), .int (nI k9)]) (rest := []) hG hR dX12_night_107 (lkX12_260 _ rfl) okV_X12_winsBy rfl rfl (m_winsBy_n5_c1 (d := 6) (by decide) hn hz (by omega)) rfl rfl hdd (Nat.le_refl _) (Nat.le_refl _) (by decide) (pm_ki (fun v32 σ' cnt' hq => ?_))
                          obtain ⟨⟨I33, A33, rfl⟩, rfl, bv32⟩ := hq
                          refine pm_if_eq (tgt := 118) hG dX12_night_110 rfl (fun c34 => ?_) (fun c34 => ?_)
                          · refine pm_iloadi hG dX12_night_118 rfl ?_
                            refine pm_istoreXi (loc' := [some (.ref (B + 54)), some (.int za), some (.int zb), some (.int zc), some (.int zd), some (.int x15_5), some (.int (nI (i15 + 1) - nI 1))]) hG dX12_night_120 (by decide) (pm_c1b rfl) rfl ?_
                            refine pm_iincX (v := nI (i15 + 1) - nI 1 + (-1)) (loc' := [some (.ref (B + 54)), some (.int za), some (.int zb), some (.int zc), some (.int zd), some (.int x15_5), some (.int (nI (i15 + 1) - nI 1 + (-1)))]) hG dX12_night_122 rfl (by rfl) (by decide) (pm_c1b rfl) rfl ?_
                            refine pm_goto (tgt := 84) hG dX12_night_125 rfl ?_
                            refine pm_le (loc' := [some (.ref (B + 54)), some (.int za), some (.int zb), some (.int zc), some (.int zd), some (.int x15_5), some (.int (nI i15 - nI 1))]) (by rw [nI_dn]) ?_
                            exact ih15 I33 A33 x15_5 i15 (by omega) (by omega)
                          · refine pm_iloadi hG dX12_night_113 rfl ?_
                            refine pm_top (v := nI i15) (nI_pred _) ?_
                            refine pm_goto (tgt := 120) hG dX12_night_115 rfl ?_
                            refine pm_istoreXi (loc' := [some (.ref (B + 54)), some (.int za), some (.int zb), some (.int zc), some (.int zd), some (.int (nI i15)), some (.int (nI (i15 + 1) - nI 1))]) hG dX12_night_120 (by decide) (pm_c1b rfl) rfl ?_
                            refine pm_iincX (v := nI (i15 + 1) - nI 1 + (-1)) (loc' := [some (.ref (B + 54)), some (.int za), some (.int zb), some (.int zc), some (.int zd), some (.int (nI i15)), some (.int (nI (i15 + 1) - nI 1 + (-1)))]) hG dX12_night_122 rfl (by rfl) (by decide) (pm_c1b rfl) rfl ?_
                            refine pm_goto (tgt := 84) hG dX12_night_125 rfl ?_
                            refine pm_le (loc' := [some (.ref (B + 54)), some (.int za), some (.int zb), some (.int zc), some (.int zd), some (.int (nI i15)), some (.int (nI i15 - nI 1))]) (by rw [nI_dn]) ?_
                            exact ih15 I33 A33 (nI i15) i15 (by omega) (by omega)
                  exact loop84_15 _ I13 A13 (-2) 5 (by omega) (Nat.lt_succ_self _)
                · refine pm_aloadn hG dX12_night_53 rfl ?_
                  refine pm_getf hG dX12_night_54 (flX12_43 _ rfl) rfl rfl ?_
                  refine pm_iloadi hG dX12_night_57 rfl ?_
                  refine pm_aloadn hG dX12_night_59 rfl ?_
                  refine pm_getf hG dX12_night_60 (flX12_7 _ rfl) rfl rfl ?_
                  refine pm_sipush (v := nI 1986) hG dX12_night_63 (by decide) ?_
                  refine pm_iloadi hG dX12_night_66 rfl ?_
                  refine pm_iaddN (c := i13 + 1986) hG dX12_night_68 (by omega) ?_
                  refine pm_ialdN hG dX12_night_69 rfl (by decide) (by omega) ?_
                  refine pm_gen (fun x35 ex35 => ?_)
                  refine pm_iastN hG dX12_night_70 rfl (by decide) (by omega) ?_
                  refine mdn_guards (fun A_36 => ?_)
                  refine pm_iincX (v := nI (i13 + 1)) (loc' := [some (.ref (B + 54)), some (.int za), some (.int zb), some (.int zc), some (.int zd), some (.int (nI (i13 + 1))), none]) hG dX12_night_71 rfl (nI_1 _) (by decide) (pm_c1b rfl) rfl ?_
                  refine pm_goto (tgt := 47) hG dX12_night_74 rfl ?_
                  exact ih13 I13 A_36 (i13 + 1) (by omega) (by omega)
            exact loop47_13 _ I A 0 (by omega) (Nat.lt_succ_self _)
          · have eH : zb = nI 2 := by rw [ek6, hH]
            refine pm_iconst (v := nI 0) hG dX12_night_44 (by decide) ?_
            refine pm_istoreXi (loc' := [some (.ref (B + 54)), some (.int za), some (.int zb), some (.int zc), some (.int zd), some (.int (nI 0)), none]) hG dX12_night_45 (by decide) (pm_c1b rfl) rfl ?_
            have loop47_37 : ∀ (m37 : Nat) (I37 : Nat → Int32) (A37 : Nat → Nat → Int32) (i37 : Nat), i37 ≤ 5 → 5 - i37 < m37 → pm_wp mX12_night G B 47 [some (.ref (B + 54)), some (.int za), some (.int zb), some (.int zc), some (.int zd), some (.int (nI i37)), none] [] 0 0 cnt (pm_mid σ (md_L B I37 A37 n k z ac wt pl (nI p0) (nI t0) im)) := by
              intro m37
              induction m37 with
              | zero => intro I37 A37 i37 _ hm; exact absurd hm (Nat.not_lt_zero _)
              | succ m37 ih37 =>
                intro I37 A37 i37 hi37 hm37
                refine pm_iloadi hG dX12_night_47 rfl ?_
                refine pm_iconst (v := nI 5) hG dX12_night_49 (by decide) ?_
                refine pm_icmpN_ge (tgt := 77) hG dX12_night_50 rfl (by omega) (by omega) (fun c38 => ?_) (fun c38 => ?_)
                · refine pm_bipush (v := (-2)) hG dX12_night_77 (by decide) ?_
                  refine pm_istoreXi (loc' := [some (.ref (B + 54)), some (.int za), some (.int zb), some (.int zc), some (.int zd), some (.int (-2)), none]) hG dX12_night_79 (by decide) (pm_c1b rfl) rfl ?_
                  refine pm_iconst (v := nI 4) hG dX12_night_81 (by decide) ?_
                  refine pm_istoreXi (loc' := [some (.ref (B + 54)), some (.int za), some (.int zb), some (.int zc), some (.int zd), some (.int (-2)), some (.int (nI 4))]) hG dX12_night_82 (by decide) (pm_c1b rfl) rfl ?_
                  have loop84_39 : ∀ (m39 : Nat) (I39 : Nat → Int32) (A39 : Nat → Nat → Int32) (x39_5 : Int32) (i39 : Nat), i39 ≤ 5 → i39 < m39 → pm_wp mX12_night G B 84 [some (.ref (B + 54)), some (.int za), some (.int zb), some (.int zc), some (.int zd), some (.int x39_5), some (.int (nI i39 - nI 1))] [] 0 0 cnt (pm_mid σ (md_L B I39 A39 n k z ac wt pl (nI p0) (nI t0) im)) := by
                    intro m39
                    induction m39 with
                    | zero => intro I39 A39 x39_5 i39 _ hm; exact absurd hm (Nat.not_lt_zero _)
                    | succ m39 ih39 =>
                      intro I39 A39 x39_5 i39 hi39 hm39
                      rcases i39 with _ | i39
                      · refine pm_iloadi hG dX12_night_84 rfl ?_
                        refine pm_top (v := (-1)) (by decide) ?_
                        refine pm_if_lt (tgt := 128) hG dX12_night_86 rfl (fun _ => ?_) (fun q => absurd q (by decide))
                        refine pm_iloadi hG dX12_night_128 rfl ?_
                        refine pm_bipush (v := (-2)) hG dX12_night_130 (by decide) ?_
                        refine pm_icmp_ne (tgt := 150) hG dX12_night_132 rfl (fun c40 => ?_) (fun c40 => ?_)
                        · refine pm_iloadi hG dX12_night_150 rfl ?_
                          refine pm_top (v := nI k12) ek12 ?_
                          refine pm_ifN_ne (tgt := 170) hG dX12_night_152 rfl (by omega) (fun c41 => ?_) (fun c41 => ?_)
                          · refine pm_iloadi hG dX12_night_170 rfl ?_
                            refine pm_bipush (v := (-2)) hG dX12_night_172 (by decide) ?_
                            refine pm_icmp_le (tgt := 182) hG dX12_night_174 rfl (fun c42 => ?_) (fun c42 => ?_)
                            · refine pm_aloadn hG dX12_night_182 rfl ?_
                              refine pm_iconst (v := nI 2) hG dX12_night_183 (by decide) ?_
                              refine pm_callV (As := [.int (nI 2)]) (rest := []) hG hR dX12_night_184 (lkX12_80 _ rfl) okV_X12_finds rfl rfl (m_finds (d := 6) (by decide) hn hz (by omega)) rfl rfl hdd (Nat.le_refl _) (Nat.le_refl _) (by decide) (pm_ki (fun v43 σ' cnt' hq => ?_))
                              obtain ⟨⟨I44, A44, rfl⟩, rfl, fv43⟩ := hq
                              exact pm_iret hG hF dX12_night_187 rfl (Nat.le_refl _) (Nat.le_refl _) ⟨_, rfl, ⟨_, _, rfl⟩, rfl⟩
                            · refine pm_iloadi hG dX12_night_177 rfl ?_
                              refine pm_goto (tgt := 187) hG dX12_night_179 rfl ?_
                              exact pm_iret hG hF dX12_night_187 rfl (Nat.le_refl _) (Nat.le_refl _) ⟨_, rfl, ⟨_, _, rfl⟩, rfl⟩
                          · refine pm_iloadi hG dX12_night_155 rfl ?_
                            refine pm_bipush (v := (-2)) hG dX12_night_157 (by decide) ?_
                            refine pm_icmp_le (tgt := 166) hG dX12_night_159 rfl (fun c45 => ?_) (fun c45 => ?_)
                            · refine pm_iconst (v := nI 0) hG dX12_night_166 (by decide) ?_
                              refine pm_goto (tgt := 187) hG dX12_night_167 rfl ?_
                              exact pm_iret hG hF dX12_night_187 rfl (Nat.le_refl _) (Nat.le_refl _) ⟨_, rfl, ⟨_, _, rfl⟩, rfl⟩
                            · refine pm_iconst (v := nI 1) hG dX12_night_162 (by decide) ?_
                              refine pm_goto (tgt := 187) hG dX12_night_163 rfl ?_
                              exact pm_iret hG hF dX12_night_187 rfl (Nat.le_refl _) (Nat.le_refl _) ⟨_, rfl, ⟨_, _, rfl⟩, rfl⟩
                        · refine pm_aloadn hG dX12_night_135 rfl ?_
                          refine pm_iconst (v := (-1)) hG dX12_night_136 (by decide) ?_
                          refine pm_iloadn hG dX12_night_137 rfl ?_
                          refine pm_top (v := nI 2) eH ?_
                          refine pm_iconst (v := nI 0) hG dX12_night_138 (by decide) ?_
                          refine pm_iloadn hG dX12_night_139 rfl ?_
                          refine pm_top (v := nI k3) ek3 ?_
                          refine pm_iloadn hG dX12_night_140 rfl ?_
                          refine pm_top (v := nI k9) ek9 ?_
                          refine pm_callV (As := [.int (-1), .int (nI 2), .int (nI 0), .int (nI k3), .int (nI k9)]) (rest := []) hG hR dX12_night_141 (lkX12_260 _ rfl) okV_X12_winsBy rfl rfl (m_winsBy_m_c2 (d := 6) (by decide) hn hz) rfl rfl hdd (Nat.le_refl _) (Nat.le_refl _) (by decide) (pm_ki (fun v46 σ' cnt' hq => ?_))
                          obtain ⟨⟨I47, A47, rfl⟩, rfl, bv46⟩ := hq
                          refine pm_if_eq (tgt := 150) hG dX12_night_144 rfl (fun c48 => ?_) (fun c48 => ?_)
                          · refine pm_iloadi hG dX12_night_150 rfl ?_
                            refine pm_top (v := nI k12) ek12 ?_
                            refine pm_ifN_ne (tgt := 170) hG dX12_night_152 rfl (by omega) (fun c49 => ?_) (fun c49 => ?_)
                            · refine pm_iloadi hG dX12_night_170 rfl ?_
                              refine pm_top (v := (-2)) c40 ?_
                              refine pm_bipush (v := (-2)) hG dX12_night_172 (by decide) ?_
                              refine pm_icmp_le (tgt := 182) hG dX12_night_174 rfl (fun _ => ?_) (fun q => absurd q (by decide))
                              refine pm_aloadn hG dX12_night_182 rfl ?_
                              refine pm_iconst (v := nI 2) hG dX12_night_183 (by decide) ?_
                              refine pm_callV (As := [.int (nI 2)]) (rest := []) hG hR dX12_night_184 (lkX12_80 _ rfl) okV_X12_finds rfl rfl (m_finds (d := 6) (by decide) hn hz (by omega)) rfl rfl hdd (Nat.le_refl _) (Nat.le_refl _) (by decide) (pm_ki (fun v50 σ' cnt' hq => ?_))
                              obtain ⟨⟨I51, A51, rfl⟩, rfl, fv50⟩ := hq
                              exact pm_iret hG hF dX12_night_187 rfl (Nat.le_refl _) (Nat.le_refl _) ⟨_, rfl, ⟨_, _, rfl⟩, rfl⟩
                            · refine pm_iloadi hG dX12_night_155 rfl ?_
                              refine pm_top (v := (-2)) c40 ?_
                              refine pm_bipush (v := (-2)) hG dX12_night_157 (by decide) ?_
                              refine pm_icmp_le (tgt := 166) hG dX12_night_159 rfl (fun _ => ?_) (fun q => absurd q (by decide))
                              refine pm_iconst (v := nI 0) hG dX12_night_166 (by decide) ?_
                              refine pm_goto (tgt := 187) hG dX12_night_167 rfl ?_
                              exact pm_iret hG hF dX12_night_187 rfl (Nat.le_refl _) (Nat.le_refl _) ⟨_, rfl, ⟨_, _, rfl⟩, rfl⟩
                          · refine pm_iconst (v := (-1)) hG dX12_night_147 (by decide) ?_
                            refine pm_istoreXi (loc' := [some (.ref (B + 54)), some (.int za), some (.int zb), some (.int zc), some (.int zd), some (.int (-1)), some (.int (nI 0 - nI 1))]) hG dX12_night_148 (by decide) (pm_c1b rfl) rfl ?_
                            refine pm_iloadi hG dX12_night_150 rfl ?_
                            refine pm_top (v := nI k12) ek12 ?_
                            refine pm_ifN_ne (tgt := 170) hG dX12_night_152 rfl (by omega) (fun c52 => ?_) (fun c52 => ?_)
                            · refine pm_iloadi hG dX12_night_170 rfl ?_
                              refine pm_bipush (v := (-2)) hG dX12_night_172 (by decide) ?_
                              refine pm_icmp_le (tgt := 182) hG dX12_night_174 rfl (fun q => absurd q (by decide)) (fun _ => ?_)
                              refine pm_iloadi hG dX12_night_177 rfl ?_
                              refine pm_goto (tgt := 187) hG dX12_night_179 rfl ?_
                              exact pm_iret hG hF dX12_night_187 rfl (Nat.le_refl _) (Nat.le_refl _) ⟨_, rfl, ⟨_, _, rfl⟩, rfl⟩
                            · refine pm_iloadi hG dX12_night_155 rfl ?_
                              refine pm_bipush (v := (-2)) hG dX12_night_157 (by decide) ?_
                              refine pm_icmp_le (tgt := 166) hG dX12_night_159 rfl (fun q => absurd q (by decide)) (fun _ => ?_)
                              refine pm_iconst (v := nI 1) hG dX12_night_162 (by decide) ?_
                              refine pm_goto (tgt := 187) hG dX12_night_163 rfl ?_
                              exact pm_iret hG hF dX12_night_187 rfl (Nat.le_refl _) (Nat.le_refl _) ⟨_, rfl, ⟨_, _, rfl⟩, rfl⟩
                      · refine pm_iloadi hG dX12_night_84 rfl ?_
                        refine pm_top (v := nI i39) (nI_pred _) ?_
                        refine pm_ifN_lt hG dX12_night_86 rfl (by omega) ?_
                        refine pm_aloadn hG dX12_night_89 rfl ?_
                        refine pm_iconst (v := nI 0) hG dX12_night_90 (by decide) ?_
                        refine pm_iloadn hG dX12_night_91 rfl ?_
                        refine pm_top (v := nI k3) ek3 ?_
                        refine pm_iloadi hG dX12_night_92 rfl ?_
                        refine pm_top (v := nI i39) (nI_pred _) ?_
                        refine pm_callV (As := [.int (nI 0), .int (nI k3), .int (nI i39)]) (rest := []) hG hR dX12_night_94 (lkX12_264 _ rfl) okV_X12_canTake rfl rfl (m_canTake (d := 6) (by decide) hn hz (by omega)) rfl rfl hdd (Nat.le_refl _) (Nat.le_refl _) (by decide) (pm_ki (fun v53 σ' cnt' hq => ?_))
                        obtain ⟨rfl, rfl, bv53⟩ := hq
                        refine pm_if_eq (tgt := 118) hG dX12_night_97 rfl (fun c55 => ?_) (fun c55 => ?_)
                        · refine pm_iloadi hG dX12_night_118 rfl ?_
                          refine pm_istoreXi (loc' := [some (.ref (B + 54)), some (.int za), some (.int zb), some (.int zc), some (.int zd), some (.int x39_5), some (.int (nI (i39 + 1) - nI 1))]) hG dX12_night_120 (by decide) (pm_c1b rfl) rfl ?_
                          refine pm_iincX (v := nI (i39 + 1) - nI 1 + (-1)) (loc' := [some (.ref (B + 54)), some (.int za), some (.int zb), some (.int zc), some (.int zd), some (.int x39_5), some (.int (nI (i39 + 1) - nI 1 + (-1)))]) hG dX12_night_122 rfl (by rfl) (by decide) (pm_c1b rfl) rfl ?_
                          refine pm_goto (tgt := 84) hG dX12_night_125 rfl ?_
                          refine pm_le (loc' := [some (.ref (B + 54)), some (.int za), some (.int zb), some (.int zc), some (.int zd), some (.int x39_5), some (.int (nI i39 - nI 1))]) (by rw [nI_dn]) ?_
                          exact ih39 I39 A39 x39_5 i39 (by omega) (by omega)
                        · refine pm_aloadn hG dX12_night_100 rfl ?_
                          refine pm_iloadi hG dX12_night_101 rfl ?_
                          refine pm_top (v := nI i39) (nI_pred _) ?_
                          refine pm_iloadn hG dX12_night_103 rfl ?_
                          refine pm_top (v := nI 2) eH ?_
                          refine pm_iconst (v := nI 0) hG dX12_night_104 (by decide) ?_
                          refine pm_iloadn hG dX12_night_105 rfl ?_
                          refine pm_top (v := nI k3) ek3 ?_
                          refine pm_iloadn hG dX12_night_106 rfl ?_
                          refine pm_top (v := nI k9) ek9 ?_
                          refine pm_callV (As := [.int (nI i39), .int (nI 2), .int (nI 0), .int (nI k3), .int (nI k9)]) (rest := []) hG hR dX12_night_107 (lkX12_260 _ rfl) okV_X12_winsBy rfl rfl (m_winsBy_n5_c2 (d := 6) (by decide) hn hz (by omega)) rfl rfl hdd (Nat.le_refl _) (Nat.le_refl _) (by decide) (pm_ki (fun v56 σ' cnt' hq => ?_))
                          obtain ⟨⟨I57, A57, rfl⟩, rfl, bv56⟩ := hq
                          refine pm_if_eq (tgt := 118) hG dX12_night_110 rfl (fun c58 => ?_) (fun c58 => ?_)
                          · refine pm_iloadi hG dX12_night_118 rfl ?_
                            refine pm_istoreXi (loc' := [some (.ref (B + 54)), some (.int za), some (.int zb), some (.int zc), some (.int zd), some (.int x39_5), some (.int (nI (i39 + 1) - nI 1))]) hG dX12_night_120 (by decide) (pm_c1b rfl) rfl ?_
                            refine pm_iincX (v := nI (i39 + 1) - nI 1 + (-1)) (loc' := [some (.ref (B + 54)), some (.int za), some (.int zb), some (.int zc), some (.int zd), some (.int x39_5), some (.int (nI (i39 + 1) - nI 1 + (-1)))]) hG dX12_night_122 rfl (by rfl) (by decide) (pm_c1b rfl) rfl ?_
                            refine pm_goto (tgt := 84) hG dX12_night_125 rfl ?_
                            refine pm_le (loc' := [some (.ref (B + 54)), some (.int za), some (.int zb), some (.int zc), some (.int zd), some (.int x39_5), some (.int (nI i39 - nI 1))]) (by rw [nI_dn]) ?_
                            exact ih39 I57 A57 x39_5 i39 (by omega) (by omega)
                          · refine pm_iloadi hG dX12_night_113 rfl ?_
                            refine pm_top (v := nI i39) (nI_pred _) ?_
                            refine pm_goto (tgt := 120) hG dX12_night_115 rfl ?_
                            refine pm_istoreXi (loc' := [some (.ref (B + 54)), some (.int za), some (.int zb), some (.int zc), some (.int zd), some (.int (nI i39)), some (.int (nI (i39 + 1) - nI 1))]) hG dX12_night_120 (by decide) (pm_c1b rfl) rfl ?_
                            refine pm_iincX (v := nI (i39 + 1) - nI 1 + (-1)) (loc' := [some (.ref (B + 54)), some (.int za), some (.int zb), some (.int zc), some (.int zd), some (.int (nI i39)), some (.int (nI (i39 + 1) - nI 1 + (-1)))]) hG dX12_night_122 rfl (by rfl) (by decide) (pm_c1b rfl) rfl ?_
                            refine pm_goto (tgt := 84) hG dX12_night_125 rfl ?_
                            refine pm_le (loc' := [some (.ref (B + 54)), some (.int za), some (.int zb), some (.int zc), some (.int zd), some (.int (nI i39)), some (.int (nI i39 - nI 1))]) (by rw [nI_dn]) ?_
                            exact ih39 I57 A57 (nI i39) i39 (by omega) (by omega)
                  exact loop84_39 _ I37 A37 (-2) 5 (by omega) (Nat.lt_succ_self _)
                · refine pm_aloadn hG dX12_night_53 rfl ?_
                  refine pm_getf hG dX12_night_54 (flX12_43 _ rfl) rfl rfl ?_
                  refine pm_iloadi hG dX12_night_57 rfl ?_
                  refine pm_aloadn hG dX12_night_59 rfl ?_
                  refine pm_getf hG dX12_night_60 (flX12_7 _ rfl) rfl rfl ?_
                  refine pm_sipush (v := nI 1986) hG dX12_night_63 (by decide) ?_
                  refine pm_iloadi hG dX12_night_66 rfl ?_
                  refine pm_iaddN (c := i37 + 1986) hG dX12_night_68 (by omega) ?_
                  refine pm_ialdN hG dX12_night_69 rfl (by decide) (by omega) ?_
                  refine pm_gen (fun x59 ex59 => ?_)
                  refine pm_iastN hG dX12_night_70 rfl (by decide) (by omega) ?_
                  refine mdn_guards (fun A_60 => ?_)
                  refine pm_iincX (v := nI (i37 + 1)) (loc' := [some (.ref (B + 54)), some (.int za), some (.int zb), some (.int zc), some (.int zd), some (.int (nI (i37 + 1))), none]) hG dX12_night_71 rfl (nI_1 _) (by decide) (pm_c1b rfl) rfl ?_
                  refine pm_goto (tgt := 47) hG dX12_night_74 rfl ?_
                  exact ih37 I37 A_60 (i37 + 1) (by omega) (by omega)
            exact loop47_37 _ I A 0 (by omega) (Nat.lt_succ_self _)
          · have eH : zb = nI 3 := by rw [ek6, hH]
            refine pm_iconst (v := nI 0) hG dX12_night_44 (by decide) ?_
            refine pm_istoreXi (loc' := [some (.ref (B + 54)), some (.int za), some (.int zb), some (.int zc), some (.int zd), some (.int (nI 0)), none]) hG dX12_night_45 (by decide) (pm_c1b rfl) rfl ?_
            have loop47_61 : ∀ (m61 : Nat) (I61 : Nat → Int32) (A61 : Nat → Nat → Int32) (i61 : Nat), i61 ≤ 5 → 5 - i61 < m61 → pm_wp mX12_night G B 47 [some (.ref (B + 54)), some (.int za), some (.int zb), some (.int zc), some (.int zd), some (.int (nI i61)), none] [] 0 0 cnt (pm_mid σ (md_L B I61 A61 n k z ac wt pl (nI p0) (nI t0) im)) := by
              intro m61
              induction m61 with
              | zero => intro I61 A61 i61 _ hm; exact absurd hm (Nat.not_lt_zero _)
              | succ m61 ih61 =>
                intro I61 A61 i61 hi61 hm61
                refine pm_iloadi hG dX12_night_47 rfl ?_
                refine pm_iconst (v := nI 5) hG dX12_night_49 (by decide) ?_
                refine pm_icmpN_ge (tgt := 77) hG dX12_night_50 rfl (by omega) (by omega) (fun c62 => ?_) (fun c62 => ?_)
                · refine pm_bipush (v := (-2)) hG dX12_night_77 (by decide) ?_
                  refine pm_istoreXi (loc' := [some (.ref (B + 54)), some (.int za), some (.int zb), some (.int zc), some (.int zd), some (.int (-2)), none]) hG dX12_night_79 (by decide) (pm_c1b rfl) rfl ?_
                  refine pm_iconst (v := nI 4) hG dX12_night_81 (by decide) ?_
                  refine pm_istoreXi (loc' := [some (.ref (B + 54)), some (.int za), some (.int zb), some (.int zc), some (.int zd), some (.int (-2)), some (.int (nI 4))]) hG dX12_night_82 (by decide) (pm_c1b rfl) rfl ?_
                  have loop84_63 : ∀ (m63 : Nat) (I63 : Nat → Int32) (A63 : Nat → Nat → Int32) (x63_5 : Int32) (i63 : Nat), i63 ≤ 5 → i63 < m63 → pm_wp mX12_night G B 84 [some (.ref (B + 54)), some (.int za), some (.int zb), some (.int zc), some (.int zd), some (.int x63_5), some (.int (nI i63 - nI 1))] [] 0 0 cnt (pm_mid σ (md_L B I63 A63 n k z ac wt pl (nI p0) (nI t0) im)) := by
                    intro m63
                    induction m63 with
                    | zero => intro I63 A63 x63_5 i63 _ hm; exact absurd hm (Nat.not_lt_zero _)
                    | succ m63 ih63 =>
                      intro I63 A63 x63_5 i63 hi63 hm63
                      rcases i63 with _ | i63
                      · refine pm_iloadi hG dX12_night_84 rfl ?_
                        refine pm_top (v := (-1)) (by decide) ?_
                        refine pm_if_lt (tgt := 128) hG dX12_night_86 rfl (fun _ => ?_) (fun q => absurd q (by decide))
                        refine pm_iloadi hG dX12_night_128 rfl ?_
                        refine pm_bipush (v := (-2)) hG dX12_night_130 (by decide) ?_
                        refine pm_icmp_ne (tgt := 150) hG dX12_night_132 rfl (fun c64 => ?_) (fun c64 => ?_)
                        · refine pm_iloadi hG dX12_night_150 rfl ?_
                          refine pm_top (v := nI k12) ek12 ?_
                          refine pm_ifN_ne (tgt := 170) hG dX12_night_152 rfl (by omega) (fun c65 => ?_) (fun c65 => ?_)
                          · refine pm_iloadi hG dX12_night_170 rfl ?_
                            refine pm_bipush (v := (-2)) hG dX12_night_172 (by decide) ?_
                            refine pm_icmp_le (tgt := 182) hG dX12_night_174 rfl (fun c66 => ?_) (fun c66 => ?_)
                            · refine pm_aloadn hG dX12_night_182 rfl ?_
                              refine pm_iconst (v := nI 2) hG dX12_night_183 (by decide) ?_
                              refine pm_callV (As := [.int (nI 2)]) (rest := []) hG hR dX12_night_184 (lkX12_80 _ rfl) okV_X12_finds rfl rfl (m_finds (d := 6) (by decide) hn hz (by omega)) rfl rfl hdd (Nat.le_refl _) (Nat.le_refl _) (by decide) (pm_ki (fun v67 σ' cnt' hq => ?_))
                              obtain ⟨⟨I68, A68, rfl⟩, rfl, fv67⟩ := hq
                              exact pm_iret hG hF dX12_night_187 rfl (Nat.le_refl _) (Nat.le_refl _) ⟨_, rfl, ⟨_, _, rfl⟩, rfl⟩
                            · refine pm_iloadi hG dX12_night_177 rfl ?_
                              refine pm_goto (tgt := 187) hG dX12_night_179 rfl ?_
                              exact pm_iret hG hF dX12_night_187 rfl (Nat.le_refl _) (Nat.le_refl _) ⟨_, rfl, ⟨_, _, rfl⟩, rfl⟩
                          · refine pm_iloadi hG dX12_night_155 rfl ?_
                            refine pm_bipush (v := (-2)) hG dX12_night_157 (by decide) ?_
                            refine pm_icmp_le (tgt := 166) hG dX12_night_159 rfl (fun c69 => ?_) (fun c69 => ?_)
                            · refine pm_iconst (v := nI 0) hG dX12_night_166 (by decide) ?_
                              refine pm_goto (tgt := 187) hG dX12_night_167 rfl ?_
                              exact pm_iret hG hF dX12_night_187 rfl (Nat.le_refl _) (Nat.le_refl _) ⟨_, rfl, ⟨_, _, rfl⟩, rfl⟩
                            · refine pm_iconst (v := nI 1) hG dX12_night_162 (by decide) ?_
                              refine pm_goto (tgt := 187) hG dX12_night_163 rfl ?_
                              exact pm_iret hG hF dX12_night_187 rfl (Nat.le_refl _) (Nat.le_refl _) ⟨_, rfl, ⟨_, _, rfl⟩, rfl⟩
                        · refine pm_aloadn hG dX12_night_135 rfl ?_
                          refine pm_iconst (v := (-1)) hG dX12_night_136 (by decide) ?_
                          refine pm_iloadn hG dX12_night_137 rfl ?_
                          refine pm_top (v := nI 3) eH ?_
                          refine pm_iconst (v := nI 0) hG dX12_night_138 (by decide) ?_
                          refine pm_iloadn hG dX12_night_139 rfl ?_
                          refine pm_top (v := nI k3) ek3 ?_
                          refine pm_iloadn hG dX12_night_140 rfl ?_
                          refine pm_top (v := nI k9) ek9 ?_
                          refine pm_callV (As := [.int (-1), .int (nI 3), .int (nI 0), .int (nI k3), .int (nI k9)]) (rest := []) hG hR dX12_night_141 (lkX12_260 _ rfl) okV_X12_winsBy rfl rfl (m_winsBy_m_c3 (d := 6) (by decide) hn hz) rfl rfl hdd (Nat.le_refl _) (Nat.le_refl _) (by decide) (pm_ki (fun v70 σ' cnt' hq => ?_))
                          obtain ⟨⟨I71, A71, rfl⟩, rfl, bv70⟩ := hq
                          refine pm_if_eq (tgt := 150) hG dX12_night_144 rfl (fun c72 => ?_) (fun c72 => ?_)
                          · refine pm_iloadi hG dX12_night_150 rfl ?_
                            refine pm_top (v := nI k12) ek12 ?_
                            refine pm_ifN_ne (tgt := 170) hG dX12_night_152 rfl (by omega) (fun c73 => ?_) (fun c73 => ?_)
                            · refine pm_iloadi hG dX12_night_170 rfl ?_
                              refine pm_top (v := (-2)) c64 ?_
                              refine pm_bipush (v := (-2)) hG dX12_night_172 (by decide) ?_
                              refine pm_icmp_le (tgt := 182) hG dX12_night_174 rfl (fun _ => ?_) (fun q => absurd q (by decide))
                              refine pm_aloadn hG dX12_night_182 rfl ?_
                              refine pm_iconst (v := nI 2) hG dX12_night_183 (by decide) ?_
                              refine pm_callV (As := [.int (nI 2)]) (rest := []) hG hR dX12_night_184 (lkX12_80 _ rfl) okV_X12_finds rfl rfl (m_finds (d := 6) (by decide) hn hz (by omega)) rfl rfl hdd (Nat.le_refl _) (Nat.le_refl _) (by decide) (pm_ki (fun v74 σ' cnt' hq => ?_))
                              obtain ⟨⟨I75, A75, rfl⟩, rfl, fv74⟩ := hq
                              exact pm_iret hG hF dX12_night_187 rfl (Nat.le_refl _) (Nat.le_refl _) ⟨_, rfl, ⟨_, _, rfl⟩, rfl⟩
                            · refine pm_iloadi hG dX12_night_155 rfl ?_
                              refine pm_top (v := (-2)) c64 ?_
                              refine pm_bipush (v := (-2)) hG dX12_night_157 (by decide) ?_
                              refine pm_icmp_le (tgt := 166) hG dX12_night_159 rfl (fun _ => ?_) (fun q => absurd q (by decide))
                              refine pm_iconst (v := nI 0) hG dX12_night_166 (by decide) ?_
                              refine pm_goto (tgt := 187) hG dX12_night_167 rfl ?_
                              exact pm_iret hG hF dX12_night_187 rfl (Nat.le_refl _) (Nat.le_refl _) ⟨_, rfl, ⟨_, _, rfl⟩, rfl⟩
                          · refine pm_iconst (v := (-1)) hG dX12_night_147 (by decide) ?_
                            refine pm_istoreXi (loc' := [some (.ref (B + 54)), some (.int za), some (.int zb), some (.int zc), some (.int zd), some (.int (-1)), some (.int (nI 0 - nI 1))]) hG dX12_night_148 (by decide) (pm_c1b rfl) rfl ?_
                            refine pm_iloadi hG dX12_night_150 rfl ?_
                            refine pm_top (v := nI k12) ek12 ?_
                            refine pm_ifN_ne (tgt := 170) hG dX12_night_152 rfl (by omega) (fun c76 => ?_) (fun c76 => ?_)
                            · refine pm_iloadi hG dX12_night_170 rfl ?_
                              refine pm_bipush (v := (-2)) hG dX12_night_172 (by decide) ?_
                              refine pm_icmp_le (tgt := 182) hG dX12_night_174 rfl (fun q => absurd q (by decide)) (fun _ => ?_)
                              refine pm_iloadi hG dX12_night_177 rfl ?_
                              refine pm_goto (tgt := 187) hG dX12_night_179 rfl ?_
                              exact pm_iret hG hF dX12_night_187 rfl (Nat.le_refl _) (Nat.le_refl _) ⟨_, rfl, ⟨_, _, rfl⟩, rfl⟩
                            · refine pm_iloadi hG dX12_night_155 rfl ?_
                              refine pm_bipush (v := (-2)) hG dX12_night_157 (by decide) ?_
                              refine pm_icmp_le (tgt := 166) hG dX12_night_159 rfl (fun q => absurd q (by decide)) (fun _ => ?_)
                              refine pm_iconst (v := nI 1) hG dX12_night_162 (by decide) ?_
                              refine pm_goto (tgt := 187) hG dX12_night_163 rfl ?_
                              exact pm_iret hG hF dX12_night_187 rfl (Nat.le_refl _) (Nat.le_refl _) ⟨_, rfl, ⟨_, _, rfl⟩, rfl⟩
                      · refine pm_iloadi hG dX12_night_84 rfl ?_
                        refine pm_top (v := nI i63) (nI_pred _) ?_
                        refine pm_ifN_lt hG dX12_night_86 rfl (by omega) ?_
                        refine pm_aloadn hG dX12_night_89 rfl ?_
                        refine pm_iconst (v := nI 0) hG dX12_night_90 (by decide) ?_
                        refine pm_iloadn hG dX12_night_91 rfl ?_
                        refine pm_top (v := nI k3) ek3 ?_
                        refine pm_iloadi hG dX12_night_92 rfl ?_
                        refine pm_top (v := nI i63) (nI_pred _) ?_
                        refine pm_callV (As := [.int (nI 0), .int (nI k3), .int (nI i63)]) (rest := []) hG hR dX12_night_94 (lkX12_264 _ rfl) okV_X12_canTake rfl rfl (m_canTake (d := 6) (by decide) hn hz (by omega)) rfl rfl hdd (Nat.le_refl _) (Nat.le_refl _) (by decide) (pm_ki (fun v77 σ' cnt' hq => ?_))
                        obtain ⟨rfl, rfl, bv77⟩ := hq
                        refine pm_if_eq (tgt := 118) hG dX12_night_97 rfl (fun c79 => ?_) (fun c79 => ?_)
                        · refine pm_iloadi hG dX12_night_118 rfl ?_
                          refine pm_istoreXi (loc' := [some (.ref (B + 54)), some (.int za), some (.int zb), some (.int zc), some (.int zd), some (.int x63_5), some (.int (nI (i63 + 1) - nI 1))]) hG dX12_night_120 (by decide) (pm_c1b rfl) rfl ?_
                          refine pm_iincX (v := nI (i63 + 1) - nI 1 + (-1)) (loc' := [some (.ref (B + 54)), some (.int za), some (.int zb), some (.int zc), some (.int zd), some (.int x63_5), some (.int (nI (i63 + 1) - nI 1 + (-1)))]) hG dX12_night_122 rfl (by rfl) (by decide) (pm_c1b rfl) rfl ?_
                          refine pm_goto (tgt := 84) hG dX12_night_125 rfl ?_
                          refine pm_le (loc' := [some (.ref (B + 54)), some (.int za), some (.int zb), some (.int zc), some (.int zd), some (.int x63_5), some (.int (nI i63 - nI 1))]) (by rw [nI_dn]) ?_
                          exact ih63 I63 A63 x63_5 i63 (by omega) (by omega)
                        · refine pm_aloadn hG dX12_night_100 rfl ?_
                          refine pm_iloadi hG dX12_night_101 rfl ?_
                          refine pm_top (v := nI i63) (nI_pred _) ?_
                          refine pm_iloadn hG dX12_night_103 rfl ?_
                          refine pm_top (v := nI 3) eH ?_
                          refine pm_iconst (v := nI 0) hG dX12_night_104 (by decide) ?_
                          refine pm_iloadn hG dX12_night_105 rfl ?_
                          refine pm_top (v := nI k3) ek3 ?_
                          refine pm_iloadn hG dX12_night_106 rfl ?_
                          refine pm_top (v := nI k9) ek9 ?_
                          refine pm_callV (As := [.int (nI i63), .int (nI 3), .int (nI 0), .int (nI k3), .int (nI k9)]) (rest := []) hG hR dX12_night_107 (lkX12_260 _ rfl) okV_X12_winsBy rfl rfl (m_winsBy_n5_c3 (d := 6) (by decide) hn hz (by omega)) rfl rfl hdd (Nat.le_refl _) (Nat.le_refl _) (by decide) (pm_ki (fun v80 σ' cnt' hq => ?_))
                          obtain ⟨⟨I81, A81, rfl⟩, rfl, bv80⟩ := hq
                          refine pm_if_eq (tgt := 118) hG dX12_night_110 rfl (fun c82 => ?_) (fun c82 => ?_)
                          · refine pm_iloadi hG dX12_night_118 rfl ?_
                            refine pm_istoreXi (loc' := [some (.ref (B + 54)), some (.int za), some (.int zb), some (.int zc), some (.int zd), some (.int x63_5), some (.int (nI (i63 + 1) - nI 1))]) hG dX12_night_120 (by decide) (pm_c1b rfl) rfl ?_
                            refine pm_iincX (v := nI (i63 + 1) - nI 1 + (-1)) (loc' := [some (.ref (B + 54)), some (.int za), some (.int zb), some (.int zc), some (.int zd), some (.int x63_5), some (.int (nI (i63 + 1) - nI 1 + (-1)))]) hG dX12_night_122 rfl (by rfl) (by decide) (pm_c1b rfl) rfl ?_
                            refine pm_goto (tgt := 84) hG dX12_night_125 rfl ?_
                            refine pm_le (loc' := [some (.ref (B + 54)), some (.int za), some (.int zb), some (.int zc), some (.int zd), some (.int x63_5), some (.int (nI i63 - nI 1))]) (by rw [nI_dn]) ?_
                            exact ih63 I81 A81 x63_5 i63 (by omega) (by omega)
                          · refine pm_iloadi hG dX12_night_113 rfl ?_
                            refine pm_top (v := nI i63) (nI_pred _) ?_
                            refine pm_goto (tgt := 120) hG dX12_night_115 rfl ?_
                            refine pm_istoreXi (loc' := [some (.ref (B + 54)), some (.int za), some (.int zb), some (.int zc), some (.int zd), some (.int (nI i63)), some (.int (nI (i63 + 1) - nI 1))]) hG dX12_night_120 (by decide) (pm_c1b rfl) rfl ?_
                            refine pm_iincX (v := nI (i63 + 1) - nI 1 + (-1)) (loc' := [some (.ref (B + 54)), some (.int za), some (.int zb), some (.int zc), some (.int zd), some (.int (nI i63)), some (.int (nI (i63 + 1) - nI 1 + (-1)))]) hG dX12_night_122 rfl (by rfl) (by decide) (pm_c1b rfl) rfl ?_
                            refine pm_goto (tgt := 84) hG dX12_night_125 rfl ?_
                            refine pm_le (loc' := [some (.ref (B + 54)), some (.int za), some (.int zb), some (.int zc), some (.int zd), some (.int (nI i63)), some (.int (nI i63 - nI 1))]) (by rw [nI_dn]) ?_
                            exact ih63 I81 A81 (nI i63) i63 (by omega) (by omega)
                  exact loop84_63 _ I61 A61 (-2) 5 (by omega) (Nat.lt_succ_self _)
                · refine pm_aloadn hG dX12_night_53 rfl ?_
                  refine pm_getf hG dX12_night_54 (flX12_43 _ rfl) rfl rfl ?_
                  refine pm_iloadi hG dX12_night_57 rfl ?_
                  refine pm_aloadn hG dX12_night_59 rfl ?_
                  refine pm_getf hG dX12_night_60 (flX12_7 _ rfl) rfl rfl ?_
                  refine pm_sipush (v := nI 1986) hG dX12_night_63 (by decide) ?_
                  refine pm_iloadi hG dX12_night_66 rfl ?_
                  refine pm_iaddN (c := i61 + 1986) hG dX12_night_68 (by omega) ?_
                  refine pm_ialdN hG dX12_night_69 rfl (by decide) (by omega) ?_
                  refine pm_gen (fun x83 ex83 => ?_)
                  refine pm_iastN hG dX12_night_70 rfl (by decide) (by omega) ?_
                  refine mdn_guards (fun A_84 => ?_)
                  refine pm_iincX (v := nI (i61 + 1)) (loc' := [some (.ref (B + 54)), some (.int za), some (.int zb), some (.int zc), some (.int zd), some (.int (nI (i61 + 1))), none]) hG dX12_night_71 rfl (nI_1 _) (by decide) (pm_c1b rfl) rfl ?_
                  refine pm_goto (tgt := 47) hG dX12_night_74 rfl ?_
                  exact ih61 I61 A_84 (i61 + 1) (by omega) (by omega)
            exact loop47_61 _ I A 0 (by omega) (Nat.lt_succ_self _)
        · refine pm_ifN_ne (tgt := 44) hG dX12_night_35 rfl (by omega) (fun q => absurd q (by omega)) (fun _ => ?_)
          refine pm_aloadn hG dX12_night_38 rfl ?_
          refine pm_iconst (v := nI 1) hG dX12_night_39 (by decide) ?_
          refine pm_callV (As := [.int (nI 1)]) (rest := []) hG hR dX12_night_40 (lkX12_80 _ rfl) okV_X12_finds rfl rfl (m_finds (d := 6) (by decide) hn hz (by omega)) rfl rfl hdd (Nat.le_refl _) (Nat.le_refl _) (by decide) (pm_ki (fun v85 σ' cnt' hq => ?_))
          obtain ⟨⟨I86, A86, rfl⟩, rfl, fv85⟩ := hq
          exact pm_iret hG hF dX12_night_43 rfl (Nat.le_refl _) (Nat.le_refl _) ⟨_, rfl, ⟨_, _, rfl⟩, rfl⟩
      · refine pm_ifN_eq (tgt := 38) hG dX12_night_25 rfl (by omega) (fun _ => ?_) (fun q => absurd q (by omega))
        refine pm_aloadn hG dX12_night_38 rfl ?_
        refine pm_iconst (v := nI 1) hG dX12_night_39 (by decide) ?_
        refine pm_callV (As := [.int (nI 1)]) (rest := []) hG hR dX12_night_40 (lkX12_80 _ rfl) okV_X12_finds rfl rfl (m_finds (d := 6) (by decide) hn hz (by omega)) rfl rfl hdd (Nat.le_refl _) (Nat.le_refl _) (by decide) (pm_ki (fun v87 σ' cnt' hq => ?_))
        obtain ⟨⟨I88, A88, rfl⟩, rfl, fv87⟩ := hq
        exact pm_iret hG hF dX12_night_43 rfl (Nat.le_refl _) (Nat.le_refl _) ⟨_, rfl, ⟨_, _, rfl⟩, rfl⟩
    · refine pm_ifN_eq (tgt := 38) hG dX12_night_16 rfl (by omega) (fun _ => ?_) (fun q => absurd q (by omega))
      refine pm_aloadn hG dX12_night_38 rfl ?_
      refine pm_iconst (v := nI 1) hG dX12_night_39 (by decide) ?_
      refine pm_callV (As := [.int (nI 1)]) (rest := []) hG hR dX12_night_40 (lkX12_80 _ rfl) okV_X12_finds rfl rfl (m_finds (d := 6) (by decide) hn hz (by omega)) rfl rfl hdd (Nat.le_refl _) (Nat.le_refl _) (by decide) (pm_ki (fun v89 σ' cnt' hq => ?_))
      obtain ⟨⟨I90, A90, rfl⟩, rfl, fv89⟩ := hq
      exact pm_iret hG hF dX12_night_43 rfl (Nat.le_refl _) (Nat.le_refl _) ⟨_, rfl, ⟨_, _, rfl⟩, rfl⟩
  · refine pm_ifN_eq (tgt := 38) hG dX12_night_7 rfl (by omega) (fun _ => ?_) (fun q => absurd q (by omega))
    refine pm_aloadn hG dX12_night_38 rfl ?_
    refine pm_iconst (v := nI 1) hG dX12_night_39 (by decide) ?_
    refine pm_callV (As := [.int (nI 1)]) (rest := []) hG hR dX12_night_40 (lkX12_80 _ rfl) okV_X12_finds rfl rfl (m_finds (d := 6) (by decide) hn hz (by omega)) rfl rfl hdd (Nat.le_refl _) (Nat.le_refl _) (by decide) (pm_ki (fun v91 σ' cnt' hq => ?_))
    obtain ⟨⟨I92, A92, rfl⟩, rfl, fv91⟩ := hq
    exact pm_iret hG hF dX12_night_43 rfl (Nat.le_refl _) (Nat.le_refl _) ⟨_, rfl, ⟨_, _, rfl⟩, rfl⟩
