set_option maxRecDepth 100000 in
set_option maxHeartbeats 4000000 in
theorem m_findDays {d B cnt p0 t0 : Nat} {σ : pm_S} {I : Nat → Int32} {A : Nat → Nat → Int32} {n k z : Nat → Int32} {ac wt pl im : Int32} {za : Int32} (hdd : 1 ≤ d) (hn : KI n) (hz : SZ z)  : pm_met mX12_findDays d 0 0 B [.ref (B + 54), .int za] cnt (pm_mid σ (md_L B I A n k z ac wt pl (nI p0) (nI t0) im)) (pm_Qv (fun σ' cnt' => (∃ (I' : Nat → Int32) (A' : Nat → Nat → Int32), σ' = pm_mid σ (md_L B I' A' n k z ac wt pl (nI p0) (nI t0) im)) ∧ cnt = cnt')) := by
  refine pm_enter 6 (by decide) (Nat.le_of_ble_eq_true rfl) rfl (fun G hG hR hF => ?_)
  refine pm_iconst (v := nI 0) hG dX12_findDays_0 (by decide) ?_
  refine pm_istoreXn (loc' := [some (.ref (B + 54)), some (.int za), some (.int (nI 0)), none, none, none, none, none]) hG dX12_findDays_1 (by decide) (pm_c1b rfl) rfl ?_
  have loop2_1 : ∀ (m1 : Nat) (I1 : Nat → Int32) (A1 : Nat → Nat → Int32) (i1 : Nat), i1 ≤ 10 → dInit (A1 58) za i1 → 10 - i1 < m1 → pm_wp mX12_findDays G B 2 [some (.ref (B + 54)), some (.int za), some (.int (nI i1)), none, none, none, none, none] [] 0 0 cnt (pm_mid σ (md_L B I1 A1 n k z ac wt pl (nI p0) (nI t0) im)) := by
    intro m1
    induction m1 with
    | zero => intro I1 A1 i1 _ _ hm; exact absurd hm (Nat.not_lt_zero _)
    | succ m1 ih1 =>
      intro I1 A1 i1 hi1 dini1 hm1
      refine pm_iloadn hG dX12_findDays_2 rfl ?_
      refine pm_bipush (v := nI 10) hG dX12_findDays_3 (by decide) ?_
      refine pm_icmpN_ge (tgt := 30) hG dX12_findDays_5 rfl (by omega) (by omega) (fun c2 => ?_) (fun c2 => ?_)
      · have d10 : dOK (A1 58) := by
          have e10 : i1 = 10 := by omega
          have q10 := dini1
          rw [e10] at q10; exact q10.ok
        refine pm_iconst (v := nI 1) hG dX12_findDays_30 (by decide) ?_
        refine pm_istoreXn (loc' := [some (.ref (B + 54)), some (.int za), some (.int (nI 1)), none, none, none, none, none]) hG dX12_findDays_31 (by decide) (pm_c1b rfl) rfl ?_
        have loopO : ∀ (mO : Nat) (IO : Nat → Int32) (AO : Nat → Nat → Int32) (xO : Int32), dOK (AO 58) → (if xO = 0 then 0 else dMu (AO 58) 10 + 1) < mO → pm_wp mX12_findDays G B 32 [some (.ref (B + 54)), some (.int za), some (.int xO), none, none, none, none, none] [] 0 0 cnt (pm_mid σ (md_L B IO AO n k z ac wt pl (nI p0) (nI t0) im)) := by
          intro mO
          induction mO with
          | zero => intro IO AO xO dO hm; exact absurd hm (Nat.not_lt_zero _)
          | succ mO ihO =>
            intro IO AO xO dO hm
            refine pm_iloadn hG dX12_findDays_32 rfl ?_
            refine pm_if_eq (tgt := 177) hG dX12_findDays_33 rfl (fun hx => ?_) (fun hx => ?_)
            · exact pm_vret hG hF dX12_findDays_177 rfl (Nat.le_refl _) (Nat.le_refl _) ⟨rfl, ⟨_, _, rfl⟩, rfl⟩
            · rw [if_neg hx] at hm
              obtain ⟨mu, emu⟩ : ∃ mu : Nat, mu = dMu (AO 58) 10 := ⟨_, rfl⟩
              have lmu : dMu (AO 58) 10 ≤ mu := Nat.le_of_eq emu.symm
              have hmu : mu < mO := by omega
              refine pm_iconst (v := nI 0) hG dX12_findDays_36 (by decide) ?_
              refine pm_istoreXn (loc' := [some (.ref (B + 54)), some (.int za), some (.int (nI 0)), none, none, none, none, none]) hG dX12_findDays_37 (by decide) (pm_c1b rfl) rfl ?_
              refine pm_iconst (v := nI 0) hG dX12_findDays_38 (by decide) ?_
              refine pm_istoreXn (loc' := [some (.ref (B + 54)), some (.int za), some (.int (nI 0)), some (.int (nI 0)), none, none, none, none]) hG dX12_findDays_39 (by decide) (pm_c1b rfl) rfl ?_
              have loop40_3 : ∀ (m3 : Nat) (I3 : Nat → Int32) (A3 : Nat → Nat → Int32) (x3_2 : Int32) (i3 : Nat), i3 ≤ 20 → dOK (A3 58) → dMu (A3 58) 10 ≤ mu → (¬ x3_2 = 0 → dMu (A3 58) 10 < mu) → 20 - i3 < m3 → pm_wp mX12_findDays G B 40 [some (.ref (B + 54)), some (.int za), some (.int x3_2), some (.int (nI i3)), none, none, none, none] [] 0 0 cnt (pm_mid σ (md_L B I3 A3 n k z ac wt pl (nI p0) (nI t0) im)) := by
                intro m3
                induction m3 with
                | zero => intro I3 A3 x3_2 i3 _ _ _ _ hm; exact absurd hm (Nat.not_lt_zero _)
                | succ m3 ih3 =>
                  intro I3 A3 x3_2 i3 hi3 dok3 dle3 dlt3 hm3
                  refine pm_iloadn hG dX12_findDays_40 rfl ?_
                  refine pm_aloadn hG dX12_findDays_41 rfl ?_
                  refine pm_getf hG dX12_findDays_42 (flX12_7 _ rfl) rfl rfl ?_
                  refine pm_iconst (v := nI 1) hG dX12_findDays_45 (by decide) ?_
                  refine pm_ialdN hG dX12_findDays_46 rfl (by decide) (by omega) ?_
                  obtain ⟨k4, hk4, ek4⟩ := KI.nat hn (show kd 1 = (1, 21, false) by decide)
                  refine pm_top (v := nI k4) ek4 ?_
                  refine pm_icmpN_ge (tgt := 174) hG dX12_findDays_47 rfl (by omega) (by omega) (fun c5 => ?_) (fun c5 => ?_)
                  · refine pm_goto (tgt := 32) hG dX12_findDays_174 rfl ?_
                    refine pm_fg 3 (loc' := [some (.ref (B + 54)), some (.int za), some (.int x3_2), none, none, none, none, none]) rfl ?_
                    exact ihO I3 A3 x3_2 dok3 (by
                      have q1 := dlt3
                      split
                      · omega
                      · next hx => have := q1 hx; omega)
                  · refine pm_iconst (v := nI 0) hG dX12_findDays_50 (by decide) ?_
                    refine pm_istoreXi (loc' := [some (.ref (B + 54)), some (.int za), some (.int x3_2), some (.int (nI i3)), some (.int (nI 0)), none, none, none]) hG dX12_findDays_51 (by decide) (pm_c1b rfl) rfl ?_
                    have loop53_6 : ∀ (m6 : Nat) (I6 : Nat → Int32) (A6 : Nat → Nat → Int32) (x6_2 : Int32) (i6 : Nat), i6 ≤ 2 → dOK (A6 58) → dMu (A6 58) 10 ≤ mu → (¬ x6_2 = 0 → dMu (A6 58) 10 < mu) → 2 - i6 < m6 → pm_wp mX12_findDays G B 53 [some (.ref (B + 54)), some (.int za), some (.int x6_2), some (.int (nI i3)), some (.int (nI i6)), none, none, none] [] 0 0 cnt (pm_mid σ (md_L B I6 A6 n k z ac wt pl (nI p0) (nI t0) im)) := by
                      intro m6
                      induction m6 with
                      | zero => intro I6 A6 x6_2 i6 _ _ _ _ hm; exact absurd hm (Nat.not_lt_zero _)
                      | succ m6 ih6 =>
                        intro I6 A6 x6_2 i6 hi6 dok6 dle6 dlt6 hm6
                        refine pm_iloadi hG dX12_findDays_53 rfl ?_
                        refine pm_iconst (v := nI 2) hG dX12_findDays_55 (by decide) ?_
                        refine pm_icmpN_ge (tgt := 168) hG dX12_findDays_56 rfl (by omega) (by omega) (fun c7 => ?_) (fun c7 => ?_)
                        · refine pm_iincX (v := nI (i3 + 1)) (loc' := [some (.ref (B + 54)), some (.int za), some (.int x6_2), some (.int (nI (i3 + 1))), some (.int (nI i6)), none, none, none]) hG dX12_findDays_168 rfl (nI_1 _) (by decide) (pm_c1b rfl) rfl ?_
                          refine pm_goto (tgt := 40) hG dX12_findDays_171 rfl ?_
                          refine pm_fg 4 (loc' := [some (.ref (B + 54)), some (.int za), some (.int x6_2), some (.int (nI (i3 + 1))), none, none, none, none]) rfl ?_
                          exact ih3 I6 A6 x6_2 (i3 + 1) (by omega) dok6 dle6 dlt6 (by omega)
                        · refine pm_aloadn hG dX12_findDays_59 rfl ?_
                          refine pm_getf hG dX12_findDays_60 (flX12_7 _ rfl) rfl rfl ?_
                          refine pm_bipush (v := nI 50) hG dX12_findDays_63 (by decide) ?_
                          refine pm_iconst (v := nI 3) hG dX12_findDays_65 (by decide) ?_
                          refine pm_iloadn hG dX12_findDays_66 rfl ?_
                          refine pm_imulN (c := 3 * i3) hG dX12_findDays_67 (by omega) ?_
                          refine pm_iaddN (c := 3 * i3 + 50) hG dX12_findDays_68 (by omega) ?_
                          refine pm_iloadi hG dX12_findDays_69 rfl ?_
                          refine pm_iaddN (c := 3 * i3 + i6 + 50) hG dX12_findDays_71 (by omega) ?_
                          refine pm_ialdN hG dX12_findDays_72 rfl (by decide) (by omega) ?_
                          obtain ⟨k8, hk8, ek8⟩ := KI.nat hn (show kd (3 * i3 + i6 + 50) = (1, 10, false) from (kd_Rx (by omega) (by omega)))
                          refine pm_top (v := nI k8) ek8 ?_
                          refine pm_istoreXi (loc' := [some (.ref (B + 54)), some (.int za), some (.int x6_2), some (.int (nI i3)), some (.int (nI i6)), some (.int (nI k8)), none, none]) hG dX12_findDays_73 (by decide) (pm_c1b rfl) rfl ?_
                          refine pm_aloadn hG dX12_findDays_75 rfl ?_
                          refine pm_getf hG dX12_findDays_76 (flX12_7 _ rfl) rfl rfl ?_
                          refine pm_bipush (v := nI 50) hG dX12_findDays_79 (by decide) ?_
                          refine pm_iconst (v := nI 3) hG dX12_findDays_81 (by decide) ?_
                          refine pm_iloadn hG dX12_findDays_82 rfl ?_
                          refine pm_imulN (c := 3 * i3) hG dX12_findDays_83 (by omega) ?_
                          refine pm_iaddN (c := 3 * i3 + 50) hG dX12_findDays_84 (by omega) ?_
                          refine pm_iconst (v := nI 1) hG dX12_findDays_85 (by decide) ?_
                          refine pm_iaddN (c := 3 * i3 + 51) hG dX12_findDays_86 (by omega) ?_
                          refine pm_iloadi hG dX12_findDays_87 rfl ?_
                          obtain ⟨q9, hq9⟩ : ∃ q9 : Nat, 3 * i3 + 51 = i6 + q9 := ⟨(3 * i3 + 51) - (i6), by omega⟩
                          refine pm_isubN (c := q9) hG dX12_findDays_89 (by omega) ?_
                          refine pm_ialdN hG dX12_findDays_90 rfl (by decide) (by omega) ?_
                          obtain ⟨k10, hk10, ek10⟩ := KI.nat hn (show kd q9 = (1, 10, false) from (kd_Rx (by omega) (by omega)))
                          refine pm_top (v := nI k10) ek10 ?_
                          refine pm_istoreXi (loc' := [some (.ref (B + 54)), some (.int za), some (.int x6_2), some (.int (nI i3)), some (.int (nI i6)), some (.int (nI k8)), some (.int (nI k10)), none]) hG dX12_findDays_91 (by decide) (pm_c1b rfl) rfl ?_
                          refine pm_aloadn hG dX12_findDays_93 rfl ?_
                          refine pm_getf hG dX12_findDays_94 (flX12_19 _ rfl) rfl rfl ?_
                          refine pm_iloadi hG dX12_findDays_97 rfl ?_
                          refine pm_ialdN hG dX12_findDays_99 rfl (by decide) (by omega) ?_
                          rcases dok6 k8 (by omega) with ek11 | ⟨k11, ek11, hk11⟩
                          · refine pm_top (v := (-1)) ek11 ?_
                            refine pm_aloadn hG dX12_findDays_100 rfl ?_
                            refine pm_getf hG dX12_findDays_101 (flX12_7 _ rfl) rfl rfl ?_
                            refine pm_bipush (v := nI 50) hG dX12_findDays_104 (by decide) ?_
                            refine pm_iconst (v := nI 3) hG dX12_findDays_106 (by decide) ?_
                            refine pm_iloadn hG dX12_findDays_107 rfl ?_
                            refine pm_imulN (c := 3 * i3) hG dX12_findDays_108 (by omega) ?_
                            refine pm_iaddN (c := 3 * i3 + 50) hG dX12_findDays_109 (by omega) ?_
                            refine pm_iconst (v := nI 2) hG dX12_findDays_110 (by decide) ?_
                            refine pm_iaddN (c := 3 * i3 + 52) hG dX12_findDays_111 (by omega) ?_
                            refine pm_ialdN hG dX12_findDays_112 rfl (by decide) (by omega) ?_
                            obtain ⟨k12, hk12, ek12⟩ := KI.nat hn (show kd (3 * i3 + 52) = (1, 10, false) from (kd_R (k := i3) (c := 2) (by omega) (by omega) (by decide)))
                            refine pm_top (v := nI k12) ek12 ?_
                            refine pm_iadd hG dX12_findDays_113 ?_
                            refine pm_istoreXi (loc' := [some (.ref (B + 54)), some (.int za), some (.int x6_2), some (.int (nI i3)), some (.int (nI i6)), some (.int (nI k8)), some (.int (nI k10)), some (.int ((-1) + (nI k12)))]) hG dX12_findDays_114 (by decide) (pm_c1b rfl) rfl ?_
                            refine pm_aloadn hG dX12_findDays_116 rfl ?_
                            refine pm_getf hG dX12_findDays_117 (flX12_19 _ rfl) rfl rfl ?_
                            refine pm_iloadi hG dX12_findDays_120 rfl ?_
                            refine pm_ialdN hG dX12_findDays_122 rfl (by decide) (by omega) ?_
                            refine pm_top (v := (-1)) ek11 ?_
                            refine pm_if_lt (tgt := 162) hG dX12_findDays_123 rfl (fun _ => ?_) (fun q => absurd q (by decide))
                            refine pm_iincX (v := nI (i6 + 1)) (loc' := [some (.ref (B + 54)), some (.int za), some (.int x6_2), some (.int (nI i3)), some (.int (nI (i6 + 1))), some (.int (nI k8)), some (.int (nI k10)), some (.int ((-1) + (nI k12)))]) hG dX12_findDays_162 rfl (nI_1 _) (by decide) (pm_c1b rfl) rfl ?_
                            refine pm_goto (tgt := 53) hG dX12_findDays_165 rfl ?_
                            refine pm_fg 5 (loc' := [some (.ref (B + 54)), some (.int za), some (.int x6_2), some (.int (nI i3)), some (.int (nI (i6 + 1))), none, some (.int (nI k10)), some (.int ((-1) + (nI k12)))]) rfl ?_
                            refine pm_fg 6 (loc' := [some (.ref (B + 54)), some (.int za), some (.int x6_2), some (.int (nI i3)), some (.int (nI (i6 + 1))), none, none, some (.int ((-1) + (nI k12)))]) rfl ?_
                            refine pm_fg 7 (loc' := [some (.ref (B + 54)), some (.int za), some (.int x6_2), some (.int (nI i3)), some (.int (nI (i6 + 1))), none, none, none]) rfl ?_
                            exact ih6 I6 A6 x6_2 (i6 + 1) (by omega) dok6 dle6 dlt6 (by omega)
                          · refine pm_top (v := nI k11) ek11 ?_
                            refine pm_aloadn hG dX12_findDays_100 rfl ?_
                            refine pm_getf hG dX12_findDays_101 (flX12_7 _ rfl) rfl rfl ?_
                            refine pm_bipush (v := nI 50) hG dX12_findDays_104 (by decide) ?_
                            refine pm_iconst (v := nI 3) hG dX12_findDays_106 (by decide) ?_
                            refine pm_iloadn hG dX12_findDays_107 rfl ?_
                            refine pm_imulN (c := 3 * i3) hG dX12_findDays_108 (by omega) ?_
                            refine pm_iaddN (c := 3 * i3 + 50) hG dX12_findDays_109 (by omega) ?_
                            refine pm_iconst (v := nI 2) hG dX12_findDays_110 (by decide) ?_
                            refine pm_iaddN (c := 3 * i3 + 52) hG dX12_findDays_111 (by omega) ?_
                            refine pm_ialdN hG dX12_findDays_112 rfl (by decide) (by omega) ?_
                            obtain ⟨k13, hk13, ek13⟩ := KI.nat hn (show kd (3 * i3 + 52) = (1, 10, false) from (kd_R (k := i3) (c := 2) (by omega) (by omega) (by decide)))
                            refine pm_top (v := nI k13) ek13 ?_
                            refine pm_iaddN (c := k11 + k13) hG dX12_findDays_113 (by omega) ?_
                            refine pm_istoreXi (loc' := [some (.ref (B + 54)), some (.int za), some (.int x6_2), some (.int (nI i3)), some (.int (nI i6)), some (.int (nI k8)), some (.int (nI k10)), some (.int (nI (k11 + k13)))]) hG dX12_findDays_114 (by decide) (pm_c1b rfl) rfl ?_
                            refine pm_aloadn hG dX12_findDays_116 rfl ?_
                            refine pm_getf hG dX12_findDays_117 (flX12_19 _ rfl) rfl rfl ?_
                            refine pm_iloadi hG dX12_findDays_120 rfl ?_
                            refine pm_ialdN hG dX12_findDays_122 rfl (by decide) (by omega) ?_
                            refine pm_top (v := nI k11) ek11 ?_
                            refine pm_ifN_lt hG dX12_findDays_123 rfl (by omega) ?_
                            refine pm_aloadn hG dX12_findDays_126 rfl ?_
                            refine pm_getf hG dX12_findDays_127 (flX12_19 _ rfl) rfl rfl ?_
                            refine pm_iloadi hG dX12_findDays_130 rfl ?_
                            refine pm_ialdN hG dX12_findDays_132 rfl (by decide) (by omega) ?_
                            rcases dok6 k10 (by omega) with ek14 | ⟨k14, ek14, hk14⟩
                            · refine pm_top (v := (-1)) ek14 ?_
                              refine pm_if_lt (tgt := 151) hG dX12_findDays_133 rfl (fun _ => ?_) (fun q => absurd q (by decide))
                              refine pm_aloadn hG dX12_findDays_151 rfl ?_
                              refine pm_getf hG dX12_findDays_152 (flX12_19 _ rfl) rfl rfl ?_
                              refine pm_iloadi hG dX12_findDays_155 rfl ?_
                              refine pm_iloadi hG dX12_findDays_157 rfl ?_
                              refine pm_iastN hG dX12_findDays_159 rfl (by decide) (by omega) ?_
                              refine mdE_days (fun A_15 eA_15 _ => ?_)
                              have wA_15 := dOK.one (a := k11) (d := k11 + k13) dok6 (by omega) ek14 (by omega) hk11
                              rw [← eA_15] at wA_15
                              have vA_15 : dMu (A_15 58) 10 < mu := Nat.lt_of_lt_of_le wA_15.2 dle6
                              refine pm_iconst (v := nI 1) hG dX12_findDays_160 (by decide) ?_
                              refine pm_istoreXn (loc' := [some (.ref (B + 54)), some (.int za), some (.int (nI 1)), some (.int (nI i3)), some (.int (nI i6)), some (.int (nI k8)), some (.int (nI k10)), some (.int (nI (k11 + k13)))]) hG dX12_findDays_161 (by decide) (pm_c1b rfl) rfl ?_
                              refine pm_iincX (v := nI (i6 + 1)) (loc' := [some (.ref (B + 54)), some (.int za), some (.int (nI 1)), some (.int (nI i3)), some (.int (nI (i6 + 1))), some (.int (nI k8)), some (.int (nI k10)), some (.int (nI (k11 + k13)))]) hG dX12_findDays_162 rfl (nI_1 _) (by decide) (pm_c1b rfl) rfl ?_
                              refine pm_goto (tgt := 53) hG dX12_findDays_165 rfl ?_
                              refine pm_fg 5 (loc' := [some (.ref (B + 54)), some (.int za), some (.int (nI 1)), some (.int (nI i3)), some (.int (nI (i6 + 1))), none, some (.int (nI k10)), some (.int (nI (k11 + k13)))]) rfl ?_
                              refine pm_fg 6 (loc' := [some (.ref (B + 54)), some (.int za), some (.int (nI 1)), some (.int (nI i3)), some (.int (nI (i6 + 1))), none, none, some (.int (nI (k11 + k13)))]) rfl ?_
                              refine pm_fg 7 (loc' := [some (.ref (B + 54)), some (.int za), some (.int (nI 1)), some (.int (nI i3)), some (.int (nI (i6 + 1))), none, none, none]) rfl ?_
                              exact ih6 I6 A_15 (nI 1) (i6 + 1) (by omega) wA_15.1 (Nat.le_of_lt vA_15) (fun _ => vA_15) (by omega)
                            · refine pm_top (v := nI k14) ek14 ?_
                              refine pm_ifN_lt hG dX12_findDays_133 rfl (by omega) ?_
                              refine pm_aloadn hG dX12_findDays_136 rfl ?_
                              refine pm_getf hG dX12_findDays_137 (flX12_19 _ rfl) rfl rfl ?_
                              refine pm_iloadi hG dX12_findDays_140 rfl ?_
                              refine pm_ialdN hG dX12_findDays_142 rfl (by decide) (by omega) ?_
                              refine pm_top (v := nI k14) ek14 ?_
                              refine pm_iloadi hG dX12_findDays_143 rfl ?_
                              refine pm_icmpN_gt (tgt := 151) hG dX12_findDays_145 rfl (by omega) (by omega) (fun c16 => ?_) (fun c16 => ?_)
                              · refine pm_aloadn hG dX12_findDays_151 rfl ?_
                                refine pm_getf hG dX12_findDays_152 (flX12_19 _ rfl) rfl rfl ?_
                                refine pm_iloadi hG dX12_findDays_155 rfl ?_
                                refine pm_iloadi hG dX12_findDays_157 rfl ?_
                                refine pm_iastN hG dX12_findDays_159 rfl (by decide) (by omega) ?_
                                refine mdE_days (fun A_17 eA_17 _ => ?_)
                                have wA_17 := dOK.two (d := k11 + k13) dok6 (by omega) ek14 hk14 (by omega)
                                rw [← eA_17] at wA_17
                                have vA_17 : dMu (A_17 58) 10 < mu := Nat.lt_of_lt_of_le wA_17.2 dle6
                                refine pm_iconst (v := nI 1) hG dX12_findDays_160 (by decide) ?_
                                refine pm_istoreXn (loc' := [some (.ref (B + 54)), some (.int za), some (.int (nI 1)), some (.int (nI i3)), some (.int (nI i6)), some (.int (nI k8)), some (.int (nI k10)), some (.int (nI (k11 + k13)))]) hG dX12_findDays_161 (by decide) (pm_c1b rfl) rfl ?_
                                refine pm_iincX (v := nI (i6 + 1)) (loc' := [some (.ref (B + 54)), some (.int za), some (.int (nI 1)), some (.int (nI i3)), some (.int (nI (i6 + 1))), some (.int (nI k8)), some (.int (nI k10)), some (.int (nI (k11 + k13)))]) hG dX12_findDays_162 rfl (nI_1 _) (by decide) (pm_c1b rfl) rfl ?_
                                refine pm_goto (tgt := 53) hG dX12_findDays_165 rfl ?_
                                refine pm_fg 5 (loc' := [some (.ref (B + 54)), some (.int za), some (.int (nI 1)), some (.int (nI i3)), some (.int (nI (i6 + 1))), none, some (.int (nI k10)), some (.int (nI (k11 + k13)))]) rfl ?_
                                refine pm_fg 6 (loc' := [some (.ref (B + 54)), some (.int za), some (.int (nI 1)), some (.int (nI i3)), some (.int (nI (i6 + 1))), none, none, some (.int (nI (k11 + k13)))]) rfl ?_
                                refine pm_fg 7 (loc' := [some (.ref (B + 54)), some (.int za), some (.int (nI 1)), some (.int (nI i3)), some (.int (nI (i6 + 1))), none, none, none]) rfl ?_
                                exact ih6 I6 A_17 (nI 1) (i6 + 1) (by omega) wA_17.1 (Nat.le_of_lt vA_17) (fun _ => vA_17) (by omega)
                              · refine pm_goto (tgt := 162) hG dX12_findDays_148 rfl ?_
                                refine pm_iincX (v := nI (i6 + 1)) (loc' := [some (.ref (B + 54)), some (.int za), some (.int x6_2), some (.int (nI i3)), some (.int (nI (i6 + 1))), some (.int (nI k8)), some (.int (nI k10)), some (.int (nI (k11 + k13)))]) hG dX12_findDays_162 rfl (nI_1 _) (by decide) (pm_c1b rfl) rfl ?_
                                refine pm_goto (tgt := 53) hG dX12_findDays_165 rfl ?_
                                refine pm_fg 5 (loc' := [some (.ref (B + 54)), some (.int za), some (.int x6_2), some (.int (nI i3)), some (.int (nI (i6 + 1))), none, some (.int (nI k10)), some (.int (nI (k11 + k13)))]) rfl ?_
                                refine pm_fg 6 (loc' := [some (.ref (B + 54)), some (.int za), some (.int x6_2), some (.int (nI i3)), some (.int (nI (i6 + 1))), none, none, some (.int (nI (k11 + k13)))]) rfl ?_
                                refine pm_fg 7 (loc' := [some (.ref (B + 54)), some (.int za), some (.int x6_2), some (.int (nI i3)), some (.int (nI (i6 + 1))), none, none, none]) rfl ?_
                                exact ih6 I6 A6 x6_2 (i6 + 1) (by omega) dok6 dle6 dlt6 (by omega)
                    exact loop53_6 _ I3 A3 x3_2 0 (by omega) dok3 dle3 dlt3 (Nat.lt_succ_self _)
              exact loop40_3 _ IO AO (nI 0) 0 (by omega) dO lmu (fun q => absurd rfl q) (Nat.lt_succ_self _)
        exact loopO _ I1 A1 (nI 1) d10 (Nat.lt_succ_self _)
      · refine pm_aloadn hG dX12_findDays_8 rfl ?_
        refine pm_getf hG dX12_findDays_9 (flX12_19 _ rfl) rfl rfl ?_
        refine pm_iloadn hG dX12_findDays_12 rfl ?_
        refine pm_iloadn hG dX12_findDays_13 rfl ?_
        refine pm_iloadn hG dX12_findDays_14 rfl ?_
        refine pm_icmp_ne (tgt := 22) hG dX12_findDays_15 rfl (fun c18 => ?_) (fun c18 => ?_)
        · refine pm_iconst (v := (-1)) hG dX12_findDays_22 (by decide) ?_
          refine pm_iastN hG dX12_findDays_23 rfl (by decide) (by omega) ?_
          refine mdE_days (fun A_19 eA_19 _ => ?_)
          have iA_19 := dInit.step dini1 eA_19 (if_neg c18).symm
          refine pm_iincX (v := nI (i1 + 1)) (loc' := [some (.ref (B + 54)), some (.int za), some (.int (nI (i1 + 1))), none, none, none, none, none]) hG dX12_findDays_24 rfl (nI_1 _) (by decide) (pm_c1b rfl) rfl ?_
          refine pm_goto (tgt := 2) hG dX12_findDays_27 rfl ?_
          exact ih1 I1 A_19 (i1 + 1) (by omega) iA_19 (by omega)
        · refine pm_iconst (v := nI 0) hG dX12_findDays_18 (by decide) ?_
          refine pm_goto (tgt := 23) hG dX12_findDays_19 rfl ?_
          refine pm_iastN hG dX12_findDays_23 rfl (by decide) (by omega) ?_
          refine mdE_days (fun A_20 eA_20 _ => ?_)
          have iA_20 := dInit.step dini1 eA_20 (if_pos c18).symm
          refine pm_iincX (v := nI (i1 + 1)) (loc' := [some (.ref (B + 54)), some (.int za), some (.int (nI (i1 + 1))), none, none, none, none, none]) hG dX12_findDays_24 rfl (nI_1 _) (by decide) (pm_c1b rfl) rfl ?_
          refine pm_goto (tgt := 2) hG dX12_findDays_27 rfl ?_
          exact ih1 I1 A_20 (i1 + 1) (by omega) iA_20 (by omega)
  exact loop2_1 _ I A 0 (by omega) dInit.nil (Nat.lt_succ_self _)

set_option maxRecDepth 100000 in
set_option maxHeartbeats 4000000 in
theorem m_farOf {d B cnt p0 t0 : Nat} {σ : pm_S} {I : Nat → Int32} {A : Nat → Nat → Int32} {n k z : Nat → Int32} {ac wt pl im : Int32} {za : Int32} {bb : Nat} (hdd : 2 ≤ d) (hn : KI n) (hz : SZ z) (hbb : bb < 10) : pm_met mX12_farOf d 0 0 B [.ref (B + 54), .int za, .int (nI bb)] cnt (pm_mid σ (md_L B I A n k z ac wt pl (nI p0) (nI t0) im)) (pm_Qi (fun v σ' cnt' => (∃ (I' : Nat → Int32) (A' : Nat → Nat → Int32), σ' = pm_mid σ (md_L B I' A' n k z ac wt pl (nI p0) (nI t0) im)) ∧ cnt = cnt')) := by
  refine pm_enter 0 (by decide) (Nat.le_of_ble_eq_true rfl) rfl (fun G hG hR hF => ?_)
  refine pm_aloadn hG dX12_farOf_0 rfl ?_
  refine pm_iloadn hG dX12_farOf_1 rfl ?_
  refine pm_callV (As := [.int za]) (rest := []) hG hR dX12_farOf_2 (lkX12_76 _ rfl) okV_X12_findDays rfl rfl (m_findDays (d := 1) (by decide) hn hz) rfl rfl hdd (Nat.le_refl _) (Nat.le_refl _) (by decide) (pm_kv (fun σ' cnt' hq => ?_))
  obtain ⟨⟨I2, A2, rfl⟩, rfl⟩ := hq
  refine pm_aloadn hG dX12_farOf_5 rfl ?_
  refine pm_getf hG dX12_farOf_6 (flX12_19 _ rfl) rfl rfl ?_
  refine pm_iloadn hG dX12_farOf_9 rfl ?_
  refine pm_ialdN hG dX12_farOf_10 rfl (by decide) (by omega) ?_
  refine pm_any (fun x3 => ?_)
  exact pm_iret hG hF dX12_farOf_11 rfl (Nat.le_refl _) (Nat.le_refl _) ⟨_, rfl, ⟨_, _, rfl⟩, rfl⟩

set_option maxRecDepth 100000 in
set_option maxHeartbeats 4000000 in
theorem m_knownTo {d B cnt p0 t0 : Nat} {σ : pm_S} {I : Nat → Int32} {A : Nat → Nat → Int32} {n k z : Nat → Int32} {ac wt pl im : Int32} {ba : Nat} (hdd : 3 ≤ d) (hn : KI n) (hz : SZ z) (hba : ba < 20) : pm_met mX12_knownTo d 0 0 B [.ref (B + 54), .int (nI ba)] cnt (pm_mid σ (md_L B I A n k z ac wt pl (nI p0) (nI t0) im)) (pm_Qi (fun v σ' cnt' => (∃ (I' : Nat → Int32) (A' : Nat → Nat → Int32), σ' = pm_mid σ (md_L B I' A' n k z ac wt pl (nI p0) (nI t0) im)) ∧ cnt = cnt')) := by
  refine pm_enter 1 (by decide) (Nat.le_of_ble_eq_true rfl) rfl (fun G hG hR hF => ?_)
  refine pm_aloadn hG dX12_knownTo_0 rfl ?_
  refine pm_iloadn hG dX12_knownTo_1 rfl ?_
  refine pm_iconst (v := nI 4) hG dX12_knownTo_2 (by decide) ?_
  refine pm_callV (As := [.int (nI ba), .int (nI 4)]) (rest := []) hG hR dX12_knownTo_3 (lkX12_72 _ rfl) okV_X12_man rfl rfl (m_man (d := 2) (e := 14 * ba + 114) (by omega) (by omega) (by omega)) rfl rfl hdd (Nat.le_refl _) (Nat.le_refl _) (by decide) (pm_ki (fun v1 σ' cnt' hq => ?_))
  obtain ⟨rfl, rfl, rfl⟩ := hq
  rcases KI.opt hn (show kd (14 * ba + 114) = (2, 10, false) from (kd_P (k := ba) (c := 4) (by omega) (by omega) (by decide))) with ek2 | ⟨k2, hk2, ek2⟩
  · refine pm_top (v := (-1)) ek2 ?_
    refine pm_if_lt (tgt := 17) hG dX12_knownTo_6 rfl (fun _ => ?_) (fun q => absurd q (by decide))
    refine pm_aloadn hG dX12_knownTo_17 rfl ?_
    refine pm_iloadn hG dX12_knownTo_18 rfl ?_
    refine pm_bipush (v := nI 10) hG dX12_knownTo_19 (by decide) ?_
    refine pm_callV (As := [.int (nI ba), .int (nI 10)]) (rest := []) hG hR dX12_knownTo_21 (lkX12_72 _ rfl) okV_X12_man rfl rfl (m_man (d := 2) (e := 14 * ba + 120) (by omega) (by omega) (by omega)) rfl rfl hdd (Nat.le_refl _) (Nat.le_refl _) (by decide) (pm_ki (fun v3 σ' cnt' hq => ?_))
    obtain ⟨rfl, rfl, rfl⟩ := hq
    refine pm_gen (fun x4 ex4 => ?_)
    exact pm_iret hG hF dX12_knownTo_24 rfl (Nat.le_refl _) (Nat.le_refl _) ⟨_, rfl, ⟨_, _, rfl⟩, rfl⟩
  · refine pm_top (v := nI k2) ek2 ?_
    refine pm_ifN_lt hG dX12_knownTo_6 rfl (by omega) ?_
    refine pm_aloadn hG dX12_knownTo_9 rfl ?_
    refine pm_iloadn hG dX12_knownTo_10 rfl ?_
    rcases KI.opt hn (show kd (14 * ba + 119) = (2, 2001, false) from (kd_P (k := ba) (c := 9) (by omega) (by omega) (by decide))) with ek5 | ⟨k5, hk5, ek5⟩
    · refine pm_callV (As := [.int (nI ba)]) (rest := []) hG hR dX12_knownTo_11 (lkX12_101 _ rfl) okV_X12_lives rfl rfl (m_lives1 (d := 2) (by decide) (by omega) (by omega : 14 * ba + 119 = 14 * ba + 119) ek5) rfl rfl hdd (Nat.le_refl _) (Nat.le_refl _) (by decide) (pm_ki (fun v6 σ' cnt' hq => ?_))
      obtain ⟨rfl, rfl, rfl⟩ := hq
      refine pm_ifN_ne (tgt := 25) hG dX12_knownTo_14 rfl (by omega) (fun _ => ?_) (fun q => absurd q (by omega))
      refine pm_aloadn hG dX12_knownTo_25 rfl ?_
      refine pm_iconst (v := nI 0) hG dX12_knownTo_26 (by decide) ?_
      refine pm_aloadn hG dX12_knownTo_27 rfl ?_
      refine pm_iloadn hG dX12_knownTo_28 rfl ?_
      refine pm_iconst (v := nI 4) hG dX12_knownTo_29 (by decide) ?_
      refine pm_callV (As := [.int (nI ba), .int (nI 4)]) (rest := [.int (nI 0), .ref (B + 54)]) hG hR dX12_knownTo_30 (lkX12_72 _ rfl) okV_X12_man rfl rfl (m_man (d := 2) (e := 14 * ba + 114) (by omega) (by omega) (by omega)) rfl rfl hdd (Nat.le_refl _) (Nat.le_refl _) (Nat.le_of_ble_eq_true rfl) (pm_ki (fun v7 σ' cnt' hq => ?_))
      obtain ⟨rfl, rfl, rfl⟩ := hq
      refine pm_top (v := nI k2) ek2 ?_
      refine pm_callV (As := [.int (nI 0), .int (nI k2)]) (rest := []) hG hR dX12_knownTo_33 (lkX12_88 _ rfl) okV_X12_farOf rfl rfl (m_farOf (d := 2) (by decide) hn hz (by omega)) rfl rfl hdd (Nat.le_refl _) (Nat.le_refl _) (by decide) (pm_ki (fun v8 σ' cnt' hq => ?_))
      obtain ⟨⟨I9, A9, rfl⟩, rfl⟩ := hq
      refine pm_istoreXn (loc' := [some (.ref (B + 54)), some (.int (nI ba)), some (.int v8)]) hG dX12_knownTo_36 (by decide) (pm_c1b rfl) rfl ?_
      refine pm_iloadn hG dX12_knownTo_37 rfl ?_
      refine pm_if_lt (tgt := 60) hG dX12_knownTo_38 rfl (fun c10 => ?_) (fun c10 => ?_)
      · refine pm_aloadn hG dX12_knownTo_60 rfl ?_
        refine pm_iloadn hG dX12_knownTo_61 rfl ?_
        refine pm_bipush (v := nI 10) hG dX12_knownTo_62 (by decide) ?_
        refine pm_callV (As := [.int (nI ba), .int (nI 10)]) (rest := []) hG hR dX12_knownTo_64 (lkX12_72 _ rfl) okV_X12_man rfl rfl (m_man (d := 2) (e := 14 * ba + 120) (by omega) (by omega) (by omega)) rfl rfl hdd (Nat.le_refl _) (Nat.le_refl _) (by decide) (pm_ki (fun v11 σ' cnt' hq => ?_))
        obtain ⟨rfl, rfl, rfl⟩ := hq
        refine pm_gen (fun x12 ex12 => ?_)
        refine pm_goto (tgt := 79) hG dX12_knownTo_67 rfl ?_
        exact pm_iret hG hF dX12_knownTo_79 rfl (Nat.le_refl _) (Nat.le_refl _) ⟨_, rfl, ⟨_, _, rfl⟩, rfl⟩
      · obtain ⟨k13, hk13, ek13⟩ := nI_of c10
        refine pm_aloadn hG dX12_knownTo_41 rfl ?_
        refine pm_getf hG dX12_knownTo_42 (flX12_7 _ rfl) rfl rfl ?_
        refine pm_bipush (v := nI 8) hG dX12_knownTo_45 (by decide) ?_
        refine pm_ialdN hG dX12_knownTo_47 rfl (by decide) (by omega) ?_
        obtain ⟨k14, hk14, ek14⟩ := KI.nat hn (show kd 8 = (1, 2001, false) by decide)
        refine pm_top (v := nI k14) ek14 ?_
        refine pm_iloadn hG dX12_knownTo_48 rfl ?_
        refine pm_top (v := nI k13) ek13 ?_
        refine pm_isub hG dX12_knownTo_49 ?_
        refine pm_aloadn hG dX12_knownTo_50 rfl ?_
        refine pm_iloadn hG dX12_knownTo_51 rfl ?_
        refine pm_bipush (v := nI 10) hG dX12_knownTo_52 (by decide) ?_
        refine pm_callV (As := [.int (nI ba), .int (nI 10)]) (rest := [.int ((nI k14) - (nI k13))]) hG hR dX12_knownTo_54 (lkX12_72 _ rfl) okV_X12_man rfl rfl (m_man (d := 2) (e := 14 * ba + 120) (by omega) (by omega) (by omega)) rfl rfl hdd (Nat.le_refl _) (Nat.le_refl _) (Nat.le_of_ble_eq_true rfl) (pm_ki (fun v15 σ' cnt' hq => ?_))
        obtain ⟨rfl, rfl, rfl⟩ := hq
        refine pm_gen (fun x16 ex16 => ?_)
        refine pm_icmp_ge (tgt := 70) hG dX12_knownTo_57 rfl (fun c17 => ?_) (fun c17 => ?_)
        · refine pm_aloadn hG dX12_knownTo_70 rfl ?_
          refine pm_getf hG dX12_knownTo_71 (flX12_7 _ rfl) rfl rfl ?_
          refine pm_bipush (v := nI 8) hG dX12_knownTo_74 (by decide) ?_
          refine pm_ialdN hG dX12_knownTo_76 rfl (by decide) (by omega) ?_
          refine pm_top (v := nI k14) ek14 ?_
          refine pm_iloadn hG dX12_knownTo_77 rfl ?_
          refine pm_top (v := nI k13) ek13 ?_
          refine pm_isub hG dX12_knownTo_78 ?_
          exact pm_iret hG hF dX12_knownTo_79 rfl (Nat.le_refl _) (Nat.le_refl _) ⟨_, rfl, ⟨_, _, rfl⟩, rfl⟩
        · refine pm_aloadn hG dX12_knownTo_60 rfl ?_
          refine pm_iloadn hG dX12_knownTo_61 rfl ?_
          refine pm_bipush (v := nI 10) hG dX12_knownTo_62 (by decide) ?_
          refine pm_callV (As := [.int (nI ba), .int (nI 10)]) (rest := []) hG hR dX12_knownTo_64 (lkX12_72 _ rfl) okV_X12_man rfl rfl (m_man (d := 2) (e := 14 * ba + 120) (by omega) (by omega) (by omega)) rfl rfl hdd (Nat.le_refl _) (Nat.le_refl _) (by decide) (pm_ki (fun v18 σ' cnt' hq => ?_))
          obtain ⟨rfl, rfl, rfl⟩ := hq
          refine pm_top (v := x16) ex16 ?_
          refine pm_goto (tgt := 79) hG dX12_knownTo_67 rfl ?_
          exact pm_iret hG hF dX12_knownTo_79 rfl (Nat.le_refl _) (Nat.le_refl _) ⟨_, rfl, ⟨_, _, rfl⟩, rfl⟩
    · refine pm_callV (As := [.int (nI ba)]) (rest := []) hG hR dX12_knownTo_11 (lkX12_101 _ rfl) okV_X12_lives rfl rfl (m_lives0 (d := 2) (by decide) (by omega) (by omega : 14 * ba + 119 = 14 * ba + 119) ek5 (by omega)) rfl rfl hdd (Nat.le_refl _) (Nat.le_refl _) (by decide) (pm_ki (fun v19 σ' cnt' hq => ?_))
      obtain ⟨rfl, rfl, rfl⟩ := hq
      refine pm_ifN_ne (tgt := 25) hG dX12_knownTo_14 rfl (by omega) (fun q => absurd q (by omega)) (fun _ => ?_)
      refine pm_aloadn hG dX12_knownTo_17 rfl ?_
      refine pm_iloadn hG dX12_knownTo_18 rfl ?_
      refine pm_bipush (v := nI 10) hG dX12_knownTo_19 (by decide) ?_
      refine pm_callV (As := [.int (nI ba), .int (nI 10)]) (rest := []) hG hR dX12_knownTo_21 (lkX12_72 _ rfl) okV_X12_man rfl rfl (m_man (d := 2) (e := 14 * ba + 120) (by omega) (by omega) (by omega)) rfl rfl hdd (Nat.le_refl _) (Nat.le_refl _) (by decide) (pm_ki (fun v20 σ' cnt' hq => ?_))
      obtain ⟨rfl, rfl, rfl⟩ := hq
      refine pm_gen (fun x21 ex21 => ?_)
      exact pm_iret hG hF dX12_knownTo_24 rfl (Nat.le_refl _) (Nat.le_refl _) ⟨_, rfl, ⟨_, _, rfl⟩, rfl⟩

set_option maxRecDepth 100000 in
set_option maxHeartbeats 4000000 in
theorem m_holdsMany {d B cnt p0 t0 : Nat} {σ : pm_S} {I : Nat → Int32} {A : Nat → Nat → Int32} {n k z : Nat → Int32} {ac wt pl im : Int32} {za : Int32} (hdd : 1 ≤ d) (hn : KI n) (hz : SZ z)  : pm_met mX12_holdsMany d 0 0 B [.ref (B + 54), .int za] cnt (pm_mid σ (md_L B I A n k z ac wt pl (nI p0) (nI t0) im)) (pm_Qi (fun v σ' cnt' => σ' = pm_mid σ (md_L B I A n k z ac wt pl (nI p0) (nI t0) im) ∧ cnt = cnt')) := by
  refine pm_enter 2 (by decide) (Nat.le_of_ble_eq_true rfl) rfl (fun G hG hR hF => ?_)
  refine pm_iconst (v := nI 0) hG dX12_holdsMany_0 (by decide) ?_
  refine pm_istoreXn (loc' := [some (.ref (B + 54)), some (.int za), some (.int (nI 0)), none]) hG dX12_holdsMany_1 (by decide) (pm_c1b rfl) rfl ?_
  refine pm_iconst (v := nI 0) hG dX12_holdsMany_2 (by decide) ?_
  refine pm_istoreXn (loc' := [some (.ref (B + 54)), some (.int za), some (.int (nI 0)), some (.int (nI 0))]) hG dX12_holdsMany_3 (by decide) (pm_c1b rfl) rfl ?_
  have loop4_1 : ∀ (m1 : Nat) (x1_2 : Int32) (i1 : Nat), i1 ≤ 20 → 20 - i1 < m1 → pm_wp mX12_holdsMany G B 4 [some (.ref (B + 54)), some (.int za), some (.int x1_2), some (.int (nI i1))] [] 0 0 cnt (pm_mid σ (md_L B I A n k z ac wt pl (nI p0) (nI t0) im)) := by
    intro m1
    induction m1 with
    | zero => intro x1_2 i1 _ hm; exact absurd hm (Nat.not_lt_zero _)
    | succ m1 ih1 =>
      intro x1_2 i1 hi1 hm1
      refine pm_iloadn hG dX12_holdsMany_4 rfl ?_
      refine pm_aloadn hG dX12_holdsMany_5 rfl ?_
      refine pm_getf hG dX12_holdsMany_6 (flX12_7 _ rfl) rfl rfl ?_
      refine pm_iconst (v := nI 3) hG dX12_holdsMany_9 (by decide) ?_
      refine pm_ialdN hG dX12_holdsMany_10 rfl (by decide) (by omega) ?_
      obtain ⟨k2, hk2, ek2⟩ := KI.nat hn (show kd 3 = (1, 21, false) by decide)
      refine pm_top (v := nI k2) ek2 ?_
      refine pm_icmpN_ge (tgt := 38) hG dX12_holdsMany_11 rfl (by omega) (by omega) (fun c3 => ?_) (fun c3 => ?_)
      · refine pm_iloadn hG dX12_holdsMany_38 rfl ?_
        exact pm_iret hG hF dX12_holdsMany_39 rfl (Nat.le_refl _) (Nat.le_refl _) ⟨_, rfl, rfl, rfl⟩
      · refine pm_iloadn hG dX12_holdsMany_14 rfl ?_
        refine pm_aloadn hG dX12_holdsMany_15 rfl ?_
        refine pm_iloadn hG dX12_holdsMany_16 rfl ?_
        refine pm_iconst (v := nI 1) hG dX12_holdsMany_17 (by decide) ?_
        refine pm_callV (As := [.int (nI i1), .int (nI 1)]) (rest := [.int x1_2]) hG hR dX12_holdsMany_18 (lkX12_110 _ rfl) okV_X12_its rfl rfl (m_its (d := 0) (e := 6 * i1 + 391) (by omega) (by omega) (by omega)) rfl rfl hdd (Nat.le_refl _) (Nat.le_refl _) (Nat.le_of_ble_eq_true rfl) (pm_ki (fun v4 σ' cnt' hq => ?_))
        obtain ⟨rfl, rfl, rfl⟩ := hq
        rcases KI.opt hn (show kd (6 * i1 + 391) = (2, 20, false) from (kd_W (k := i1) (c := 1) (by omega) (by omega) (by decide))) with ek5 | ⟨k5, hk5, ek5⟩
        · refine pm_top (v := (-1)) ek5 ?_
          refine pm_iloadn hG dX12_holdsMany_21 rfl ?_
          refine pm_icmp_ne (tgt := 29) hG dX12_holdsMany_22 rfl (fun c6 => ?_) (fun c6 => ?_)
          · refine pm_iconst (v := nI 0) hG dX12_holdsMany_29 (by decide) ?_
            refine pm_iadd hG dX12_holdsMany_30 ?_
            refine pm_istoreXn (loc' := [some (.ref (B + 54)), some (.int za), some (.int (x1_2 + (nI 0))), some (.int (nI i1))]) hG dX12_holdsMany_31 (by decide) (pm_c1b rfl) rfl ?_
            refine pm_iincX (v := nI (i1 + 1)) (loc' := [some (.ref (B + 54)), some (.int za), some (.int (x1_2 + (nI 0))), some (.int (nI (i1 + 1)))]) hG dX12_holdsMany_32 rfl (nI_1 _) (by decide) (pm_c1b rfl) rfl ?_
            refine pm_goto (tgt := 4) hG dX12_holdsMany_35 rfl ?_
            exact ih1 (x1_2 + (nI 0)) (i1 + 1) (by omega) (by omega)
          · refine pm_iconst (v := nI 1) hG dX12_holdsMany_25 (by decide) ?_
            refine pm_goto (tgt := 30) hG dX12_holdsMany_26 rfl ?_
            refine pm_iadd hG dX12_holdsMany_30 ?_
            refine pm_istoreXn (loc' := [some (.ref (B + 54)), some (.int za), some (.int (x1_2 + (nI 1))), some (.int (nI i1))]) hG dX12_holdsMany_31 (by decide) (pm_c1b rfl) rfl ?_
            refine pm_iincX (v := nI (i1 + 1)) (loc' := [some (.ref (B + 54)), some (.int za), some (.int (x1_2 + (nI 1))), some (.int (nI (i1 + 1)))]) hG dX12_holdsMany_32 rfl (nI_1 _) (by decide) (pm_c1b rfl) rfl ?_
            refine pm_goto (tgt := 4) hG dX12_holdsMany_35 rfl ?_
            exact ih1 (x1_2 + (nI 1)) (i1 + 1) (by omega) (by omega)
        · refine pm_top (v := nI k5) ek5 ?_
          refine pm_iloadn hG dX12_holdsMany_21 rfl ?_
          refine pm_icmp_ne (tgt := 29) hG dX12_holdsMany_22 rfl (fun c7 => ?_) (fun c7 => ?_)
          · refine pm_iconst (v := nI 0) hG dX12_holdsMany_29 (by decide) ?_
            refine pm_iadd hG dX12_holdsMany_30 ?_
            refine pm_istoreXn (loc' := [some (.ref (B + 54)), some (.int za), some (.int (x1_2 + (nI 0))), some (.int (nI i1))]) hG dX12_holdsMany_31 (by decide) (pm_c1b rfl) rfl ?_
            refine pm_iincX (v := nI (i1 + 1)) (loc' := [some (.ref (B + 54)), some (.int za), some (.int (x1_2 + (nI 0))), some (.int (nI (i1 + 1)))]) hG dX12_holdsMany_32 rfl (nI_1 _) (by decide) (pm_c1b rfl) rfl ?_
            refine pm_goto (tgt := 4) hG dX12_holdsMany_35 rfl ?_
            exact ih1 (x1_2 + (nI 0)) (i1 + 1) (by omega) (by omega)
          · refine pm_iconst (v := nI 1) hG dX12_holdsMany_25 (by decide) ?_
            refine pm_goto (tgt := 30) hG dX12_holdsMany_26 rfl ?_
            refine pm_iadd hG dX12_holdsMany_30 ?_
            refine pm_istoreXn (loc' := [some (.ref (B + 54)), some (.int za), some (.int (x1_2 + (nI 1))), some (.int (nI i1))]) hG dX12_holdsMany_31 (by decide) (pm_c1b rfl) rfl ?_
            refine pm_iincX (v := nI (i1 + 1)) (loc' := [some (.ref (B + 54)), some (.int za), some (.int (x1_2 + (nI 1))), some (.int (nI (i1 + 1)))]) hG dX12_holdsMany_32 rfl (nI_1 _) (by decide) (pm_c1b rfl) rfl ?_
            refine pm_goto (tgt := 4) hG dX12_holdsMany_35 rfl ?_
            exact ih1 (x1_2 + (nI 1)) (i1 + 1) (by omega) (by omega)
  exact loop4_1 _ (nI 0) 0 (by omega) (Nat.lt_succ_self _)

set_option maxRecDepth 100000 in
set_option maxHeartbeats 4000000 in
theorem m_stepsOf {d B cnt p0 t0 : Nat} {σ : pm_S} {I : Nat → Int32} {A : Nat → Nat → Int32} {n k z : Nat → Int32} {ac wt pl im : Int32} {ba : Nat} (hdd : 1 ≤ d) (hn : KI n) (hz : SZ z) (hba : ba < 20) : pm_met mX12_stepsOf d 0 0 B [.ref (B + 54), .int (nI ba)] cnt (pm_mid σ (md_L B I A n k z ac wt pl (nI p0) (nI t0) im)) (pm_Qi (fun v σ' cnt' => (∃ (I' : Nat → Int32) (A' : Nat → Nat → Int32), σ' = pm_mid σ (md_L B I' A' n k z ac wt pl (nI p0) (nI t0) im)) ∧ cnt = cnt')) := by
  refine pm_enter 4 (by decide) (Nat.le_of_ble_eq_true rfl) rfl (fun G hG hR hF => ?_)
  refine pm_iconst (v := nI 0) hG dX12_stepsOf_0 (by decide) ?_
  refine pm_istoreXn (loc' := [some (.ref (B + 54)), some (.int (nI ba)), some (.int (nI 0)), none, none, none]) hG dX12_stepsOf_1 (by decide) (pm_c1b rfl) rfl ?_
  have loop2_1 : ∀ (m1 : Nat) (I1 : Nat → Int32) (A1 : Nat → Nat → Int32) (i1 : Nat), i1 ≤ 20 → 20 - i1 < m1 → pm_wp mX12_stepsOf G B 2 [some (.ref (B + 54)), some (.int (nI ba)), some (.int (nI i1)), none, none, none] [] 0 0 cnt (pm_mid σ (md_L B I1 A1 n k z ac wt pl (nI p0) (nI t0) im)) := by
    intro m1
    induction m1 with
    | zero => intro I1 A1 i1 _ hm; exact absurd hm (Nat.not_lt_zero _)
    | succ m1 ih1 =>
      intro I1 A1 i1 hi1 hm1
      refine pm_iloadn hG dX12_stepsOf_2 rfl ?_
      refine pm_bipush (v := nI 20) hG dX12_stepsOf_3 (by decide) ?_
      refine pm_icmpN_ge (tgt := 30) hG dX12_stepsOf_5 rfl (by omega) (by omega) (fun c2 => ?_) (fun c2 => ?_)
      · refine pm_iconst (v := nI 1) hG dX12_stepsOf_30 (by decide) ?_
        refine pm_istoreXn (loc' := [some (.ref (B + 54)), some (.int (nI ba)), some (.int (nI 1)), none, none, none]) hG dX12_stepsOf_31 (by decide) (pm_c1b rfl) rfl ?_
        have loop32_3 : ∀ (m3 : Nat) (I3 : Nat → Int32) (A3 : Nat → Nat → Int32) (i3 : Nat), i3 ≤ 20 → 20 - i3 < m3 → pm_wp mX12_stepsOf G B 32 [some (.ref (B + 54)), some (.int (nI ba)), some (.int (nI i3)), none, none, none] [] 0 0 cnt (pm_mid σ (md_L B I3 A3 n k z ac wt pl (nI p0) (nI t0) im)) := by
          intro m3
          induction m3 with
          | zero => intro I3 A3 i3 _ hm; exact absurd hm (Nat.not_lt_zero _)
          | succ m3 ih3 =>
            intro I3 A3 i3 hi3 hm3
            refine pm_iloadn hG dX12_stepsOf_32 rfl ?_
            refine pm_bipush (v := nI 20) hG dX12_stepsOf_33 (by decide) ?_
            refine pm_icmpN_ge (tgt := 155) hG dX12_stepsOf_35 rfl (by omega) (by omega) (fun c4 => ?_) (fun c4 => ?_)
            · refine pm_aloadn hG dX12_stepsOf_155 rfl ?_
              refine pm_getf hG dX12_stepsOf_156 (flX12_22 _ rfl) rfl rfl ?_
              refine pm_iloadn hG dX12_stepsOf_159 rfl ?_
              refine pm_ialdN hG dX12_stepsOf_160 rfl (by decide) (by omega) ?_
              refine pm_any (fun x5 => ?_)
              exact pm_iret hG hF dX12_stepsOf_161 rfl (Nat.le_refl _) (Nat.le_refl _) ⟨_, rfl, ⟨_, _, rfl⟩, rfl⟩
            · refine pm_iconst (v := nI 0) hG dX12_stepsOf_38 (by decide) ?_
              refine pm_istoreXn (loc' := [some (.ref (B + 54)), some (.int (nI ba)), some (.int (nI i3)), some (.int (nI 0)), none, none]) hG dX12_stepsOf_39 (by decide) (pm_c1b rfl) rfl ?_
              have loop40_6 : ∀ (m6 : Nat) (I6 : Nat → Int32) (A6 : Nat → Nat → Int32) (i6 : Nat), i6 ≤ 20 → 20 - i6 < m6 → pm_wp mX12_stepsOf G B 40 [some (.ref (B + 54)), some (.int (nI ba)), some (.int (nI i3)), some (.int (nI i6)), none, none] [] 0 0 cnt (pm_mid σ (md_L B I6 A6 n k z ac wt pl (nI p0) (nI t0) im)) := by
                intro m6
                induction m6 with
                | zero => intro I6 A6 i6 _ hm; exact absurd hm (Nat.not_lt_zero _)
                | succ m6 ih6 =>
                  intro I6 A6 i6 hi6 hm6
                  refine pm_iloadn hG dX12_stepsOf_40 rfl ?_
                  refine pm_aloadn hG dX12_stepsOf_41 rfl ?_
                  refine pm_getf hG dX12_stepsOf_42 (flX12_7 _ rfl) rfl rfl ?_
                  refine pm_iconst (v := nI 2) hG dX12_stepsOf_45 (by decide) ?_
                  refine pm_ialdN hG dX12_stepsOf_46 rfl (by decide) (by omega) ?_
                  obtain ⟨k7, hk7, ek7⟩ := KI.nat hn (show kd 2 = (1, 21, true) by decide)
                  refine pm_top (v := nI k7) ek7 ?_
                  refine pm_icmpN_ge (tgt := 149) hG dX12_stepsOf_47 rfl (by omega) (by omega) (fun c8 => ?_) (fun c8 => ?_)
                  · refine pm_iincX (v := nI (i3 + 1)) (loc' := [some (.ref (B + 54)), some (.int (nI ba)), some (.int (nI (i3 + 1))), some (.int (nI i6)), none, none]) hG dX12_stepsOf_149 rfl (nI_1 _) (by decide) (pm_c1b rfl) rfl ?_
                    refine pm_goto (tgt := 32) hG dX12_stepsOf_152 rfl ?_
                    refine pm_fg 3 (loc' := [some (.ref (B + 54)), some (.int (nI ba)), some (.int (nI (i3 + 1))), none, none, none]) rfl ?_
                    exact ih3 I6 A6 (i3 + 1) (by omega) (by omega)
                  · refine pm_iconst (v := nI 2) hG dX12_stepsOf_50 (by decide) ?_
                    refine pm_istoreXi (loc' := [some (.ref (B + 54)), some (.int (nI ba)), some (.int (nI i3)), some (.int (nI i6)), some (.int (nI 2)), none]) hG dX12_stepsOf_51 (by decide) (pm_c1b rfl) rfl ?_
                    have loop53_9 : ∀ (m9 : Nat) (I9 : Nat → Int32) (A9 : Nat → Nat → Int32) (i9 : Nat), i9 ≤ 4 → 2 ≤ i9 → 4 - i9 < m9 → pm_wp mX12_stepsOf G B 53 [some (.ref (B + 54)), some (.int (nI ba)), some (.int (nI i3)), some (.int (nI i6)), some (.int (nI i9)), none] [] 0 0 cnt (pm_mid σ (md_L B I9 A9 n k z ac wt pl (nI p0) (nI t0) im)) := by
                      intro m9
                      induction m9 with
                      | zero => intro I9 A9 i9 _ _ hm; exact absurd hm (Nat.not_lt_zero _)
                      | succ m9 ih9 =>
                        intro I9 A9 i9 hi9 hl9 hm9
                        refine pm_iloadi hG dX12_stepsOf_53 rfl ?_
                        refine pm_iconst (v := nI 3) hG dX12_stepsOf_55 (by decide) ?_
                        refine pm_icmpN_gt (tgt := 143) hG dX12_stepsOf_56 rfl (by omega) (by omega) (fun c10 => ?_) (fun c10 => ?_)
                        · refine pm_iincX (v := nI (i6 + 1)) (loc' := [some (.ref (B + 54)), some (.int (nI ba)), some (.int (nI i3)), some (.int (nI (i6 + 1))), some (.int (nI i9)), none]) hG dX12_stepsOf_143 rfl (nI_1 _) (by decide) (pm_c1b rfl) rfl ?_
                          refine pm_goto (tgt := 40) hG dX12_stepsOf_146 rfl ?_
                          refine pm_fg 4 (loc' := [some (.ref (B + 54)), some (.int (nI ba)), some (.int (nI i3)), some (.int (nI (i6 + 1))), none, none]) rfl ?_
                          exact ih6 I9 A9 (i6 + 1) (by omega) (by omega)
                        · refine pm_aloadn hG dX12_stepsOf_59 rfl ?_
                          refine pm_iloadn hG dX12_stepsOf_60 rfl ?_
                          refine pm_iloadi hG dX12_stepsOf_61 rfl ?_
                          refine pm_callV (As := [.int (nI i6), .int (nI i9)]) (rest := []) hG hR dX12_stepsOf_63 (lkX12_72 _ rfl) okV_X12_man rfl rfl (m_man (d := 0) (e := 14 * i6 + i9 + 110) (by omega) (by omega) (by omega)) rfl rfl hdd (Nat.le_refl _) (Nat.le_refl _) (by decide) (pm_ki (fun v11 σ' cnt' hq => ?_))
                          obtain ⟨rfl, rfl, rfl⟩ := hq
                          rcases KI.opt hn (show kd (14 * i6 + i9 + 110) = (2, 20, false) from (kd_PF (k := i6) (c := i9) (by omega) (by omega) (by omega) (by omega))) with ek12 | ⟨k12, hk12, ek12⟩
                          · refine pm_top (v := (-1)) ek12 ?_
                            refine pm_istoreXi (loc' := [some (.ref (B + 54)), some (.int (nI ba)), some (.int (nI i3)), some (.int (nI i6)), some (.int (nI i9)), some (.int (-1))]) hG dX12_stepsOf_66 (by decide) (pm_c1b rfl) rfl ?_
                            refine pm_iloadi hG dX12_stepsOf_68 rfl ?_
                            refine pm_if_ge (tgt := 76) hG dX12_stepsOf_70 rfl (fun q => absurd q (by decide)) (fun _ => ?_)
                            refine pm_goto (tgt := 137) hG dX12_stepsOf_73 rfl ?_
                            refine pm_iincX (v := nI (i9 + 1)) (loc' := [some (.ref (B + 54)), some (.int (nI ba)), some (.int (nI i3)), some (.int (nI i6)), some (.int (nI (i9 + 1))), some (.int (-1))]) hG dX12_stepsOf_137 rfl (nI_1 _) (by decide) (pm_c1b rfl) rfl ?_
                            refine pm_goto (tgt := 53) hG dX12_stepsOf_140 rfl ?_
                            refine pm_fg 5 (loc' := [some (.ref (B + 54)), some (.int (nI ba)), some (.int (nI i3)), some (.int (nI i6)), some (.int (nI (i9 + 1))), none]) rfl ?_
                            exact ih9 I9 A9 (i9 + 1) (by omega) (by omega) (by omega)
                          · refine pm_top (v := nI k12) ek12 ?_
                            refine pm_istoreXi (loc' := [some (.ref (B + 54)), some (.int (nI ba)), some (.int (nI i3)), some (.int (nI i6)), some (.int (nI i9)), some (.int (nI k12))]) hG dX12_stepsOf_66 (by decide) (pm_c1b rfl) rfl ?_
                            refine pm_iloadi hG dX12_stepsOf_68 rfl ?_
                            refine pm_ifN_ge (tgt := 76) hG dX12_stepsOf_70 rfl (by omega) ?_
                            refine pm_aloadn hG dX12_stepsOf_76 rfl ?_
                            refine pm_getf hG dX12_stepsOf_77 (flX12_22 _ rfl) rfl rfl ?_
                            refine pm_iloadi hG dX12_stepsOf_80 rfl ?_
                            refine pm_ialdN hG dX12_stepsOf_82 rfl (by decide) (by omega) ?_
                            refine pm_any (fun x13 => ?_)
                            refine pm_iloadn hG dX12_stepsOf_83 rfl ?_
                            refine pm_iconst (v := nI 1) hG dX12_stepsOf_84 (by decide) ?_
                            refine pm_isub hG dX12_stepsOf_85 ?_
                            refine pm_icmp_ne (tgt := 106) hG dX12_stepsOf_86 rfl (fun c14 => ?_) (fun c14 => ?_)
                            · refine pm_aloadn hG dX12_stepsOf_106 rfl ?_
                              refine pm_getf hG dX12_stepsOf_107 (flX12_22 _ rfl) rfl rfl ?_
                              refine pm_iloadn hG dX12_stepsOf_110 rfl ?_
                              refine pm_ialdN hG dX12_stepsOf_111 rfl (by decide) (by omega) ?_
                              refine pm_any (fun x15 => ?_)
                              refine pm_iloadn hG dX12_stepsOf_112 rfl ?_
                              refine pm_iconst (v := nI 1) hG dX12_stepsOf_113 (by decide) ?_
                              refine pm_isub hG dX12_stepsOf_114 ?_
                              refine pm_icmp_ne (tgt := 137) hG dX12_stepsOf_115 rfl (fun c16 => ?_) (fun c16 => ?_)
                              · refine pm_iincX (v := nI (i9 + 1)) (loc' := [some (.ref (B + 54)), some (.int (nI ba)), some (.int (nI i3)), some (.int (nI i6)), some (.int (nI (i9 + 1))), some (.int (nI k12))]) hG dX12_stepsOf_137 rfl (nI_1 _) (by decide) (pm_c1b rfl) rfl ?_
                                refine pm_goto (tgt := 53) hG dX12_stepsOf_140 rfl ?_
                                refine pm_fg 5 (loc' := [some (.ref (B + 54)), some (.int (nI ba)), some (.int (nI i3)), some (.int (nI i6)), some (.int (nI (i9 + 1))), none]) rfl ?_
                                exact ih9 I9 A9 (i9 + 1) (by omega) (by omega) (by omega)
                              · refine pm_aloadn hG dX12_stepsOf_118 rfl ?_
                                refine pm_getf hG dX12_stepsOf_119 (flX12_22 _ rfl) rfl rfl ?_
                                refine pm_iloadi hG dX12_stepsOf_122 rfl ?_
                                refine pm_ialdN hG dX12_stepsOf_124 rfl (by decide) (by omega) ?_
                                refine pm_any (fun x17 => ?_)
                                refine pm_iloadn hG dX12_stepsOf_125 rfl ?_
                                refine pm_icmp_le (tgt := 137) hG dX12_stepsOf_126 rfl (fun c18 => ?_) (fun c18 => ?_)
                                · refine pm_iincX (v := nI (i9 + 1)) (loc' := [some (.ref (B + 54)), some (.int (nI ba)), some (.int (nI i3)), some (.int (nI i6)), some (.int (nI (i9 + 1))), some (.int (nI k12))]) hG dX12_stepsOf_137 rfl (nI_1 _) (by decide) (pm_c1b rfl) rfl ?_
                                  refine pm_goto (tgt := 53) hG dX12_stepsOf_140 rfl ?_
                                  refine pm_fg 5 (loc' := [some (.ref (B + 54)), some (.int (nI ba)), some (.int (nI i3)), some (.int (nI i6)), some (.int (nI (i9 + 1))), none]) rfl ?_
                                  exact ih9 I9 A9 (i9 + 1) (by omega) (by omega) (by omega)
                                · refine pm_aloadn hG dX12_stepsOf_129 rfl ?_
                                  refine pm_getf hG dX12_stepsOf_130 (flX12_22 _ rfl) rfl rfl ?_
                                  refine pm_iloadi hG dX12_stepsOf_133 rfl ?_
                                  refine pm_iloadn hG dX12_stepsOf_135 rfl ?_
                                  refine pm_iastN hG dX12_stepsOf_136 rfl (by decide) (by omega) ?_
                                  refine mdn_steps (fun A_19 => ?_)
                                  refine pm_iincX (v := nI (i9 + 1)) (loc' := [some (.ref (B + 54)), some (.int (nI ba)), some (.int (nI i3)), some (.int (nI i6)), some (.int (nI (i9 + 1))), some (.int (nI k12))]) hG dX12_stepsOf_137 rfl (nI_1 _) (by decide) (pm_c1b rfl) rfl ?_
                                  refine pm_goto (tgt := 53) hG dX12_stepsOf_140 rfl ?_
                                  refine pm_fg 5 (loc' := [some (.ref (B + 54)), some (.int (nI ba)), some (.int (nI i3)), some (.int (nI i6)), some (.int (nI (i9 + 1))), none]) rfl ?_
                                  exact ih9 I9 A_19 (i9 + 1) (by omega) (by omega) (by omega)
                            · refine pm_aloadn hG dX12_stepsOf_89 rfl ?_
                              refine pm_getf hG dX12_stepsOf_90 (flX12_22 _ rfl) rfl rfl ?_
                              refine pm_iloadn hG dX12_stepsOf_93 rfl ?_
                              refine pm_ialdN hG dX12_stepsOf_94 rfl (by decide) (by omega) ?_
                              refine pm_any (fun x20 => ?_)
                              refine pm_iloadn hG dX12_stepsOf_95 rfl ?_
                              refine pm_icmp_le (tgt := 106) hG dX12_stepsOf_96 rfl (fun c21 => ?_) (fun c21 => ?_)
                              · refine pm_aloadn hG dX12_stepsOf_106 rfl ?_
                                refine pm_getf hG dX12_stepsOf_107 (flX12_22 _ rfl) rfl rfl ?_
                                refine pm_iloadn hG dX12_stepsOf_110 rfl ?_
                                refine pm_ialdN hG dX12_stepsOf_111 rfl (by decide) (by omega) ?_
                                refine pm_any (fun x22 => ?_)
                                refine pm_iloadn hG dX12_stepsOf_112 rfl ?_
                                refine pm_iconst (v := nI 1) hG dX12_stepsOf_113 (by decide) ?_
                                refine pm_isub hG dX12_stepsOf_114 ?_
                                refine pm_icmp_ne (tgt := 137) hG dX12_stepsOf_115 rfl (fun c23 => ?_) (fun c23 => ?_)
                                · refine pm_iincX (v := nI (i9 + 1)) (loc' := [some (.ref (B + 54)), some (.int (nI ba)), some (.int (nI i3)), some (.int (nI i6)), some (.int (nI (i9 + 1))), some (.int (nI k12))]) hG dX12_stepsOf_137 rfl (nI_1 _) (by decide) (pm_c1b rfl) rfl ?_
                                  refine pm_goto (tgt := 53) hG dX12_stepsOf_140 rfl ?_
                                  refine pm_fg 5 (loc' := [some (.ref (B + 54)), some (.int (nI ba)), some (.int (nI i3)), some (.int (nI i6)), some (.int (nI (i9 + 1))), none]) rfl ?_
                                  exact ih9 I9 A9 (i9 + 1) (by omega) (by omega) (by omega)
                                · refine pm_aloadn hG dX12_stepsOf_118 rfl ?_
                                  refine pm_getf hG dX12_stepsOf_119 (flX12_22 _ rfl) rfl rfl ?_
                                  refine pm_iloadi hG dX12_stepsOf_122 rfl ?_
                                  refine pm_ialdN hG dX12_stepsOf_124 rfl (by decide) (by omega) ?_
                                  refine pm_any (fun x24 => ?_)
                                  refine pm_iloadn hG dX12_stepsOf_125 rfl ?_
                                  refine pm_icmp_le (tgt := 137) hG dX12_stepsOf_126 rfl (fun c25 => ?_) (fun c25 => ?_)
                                  · refine pm_iincX (v := nI (i9 + 1)) (loc' := [some (.ref (B + 54)), some (.int (nI ba)), some (.int (nI i3)), some (.int (nI i6)), some (.int (nI (i9 + 1))), some (.int (nI k12))]) hG dX12_stepsOf_137 rfl (nI_1 _) (by decide) (pm_c1b rfl) rfl ?_
                                    refine pm_goto (tgt := 53) hG dX12_stepsOf_140 rfl ?_
                                    refine pm_fg 5 (loc' := [some (.ref (B + 54)), some (.int (nI ba)), some (.int (nI i3)), some (.int (nI i6)), some (.int (nI (i9 + 1))), none]) rfl ?_
                                    exact ih9 I9 A9 (i9 + 1) (by omega) (by omega) (by omega)
                                  · refine pm_aloadn hG dX12_stepsOf_129 rfl ?_
                                    refine pm_getf hG dX12_stepsOf_130 (flX12_22 _ rfl) rfl rfl ?_
                                    refine pm_iloadi hG dX12_stepsOf_133 rfl ?_
                                    refine pm_iloadn hG dX12_stepsOf_135 rfl ?_
                                    refine pm_iastN hG dX12_stepsOf_136 rfl (by decide) (by omega) ?_
                                    refine mdn_steps (fun A_26 => ?_)
                                    refine pm_iincX (v := nI (i9 + 1)) (loc' := [some (.ref (B + 54)), some (.int (nI ba)), some (.int (nI i3)), some (.int (nI i6)), some (.int (nI (i9 + 1))), some (.int (nI k12))]) hG dX12_stepsOf_137 rfl (nI_1 _) (by decide) (pm_c1b rfl) rfl ?_
                                    refine pm_goto (tgt := 53) hG dX12_stepsOf_140 rfl ?_
                                    refine pm_fg 5 (loc' := [some (.ref (B + 54)), some (.int (nI ba)), some (.int (nI i3)), some (.int (nI i6)), some (.int (nI (i9 + 1))), none]) rfl ?_
                                    exact ih9 I9 A_26 (i9 + 1) (by omega) (by omega) (by omega)
                              · refine pm_aloadn hG dX12_stepsOf_99 rfl ?_
                                refine pm_getf hG dX12_stepsOf_100 (flX12_22 _ rfl) rfl rfl ?_
                                refine pm_iloadn hG dX12_stepsOf_103 rfl ?_
                                refine pm_iloadn hG dX12_stepsOf_104 rfl ?_
                                refine pm_iastN hG dX12_stepsOf_105 rfl (by decide) (by omega) ?_
                                refine mdn_steps (fun A_27 => ?_)
                                refine pm_aloadn hG dX12_stepsOf_106 rfl ?_
                                refine pm_getf hG dX12_stepsOf_107 (flX12_22 _ rfl) rfl rfl ?_
                                refine pm_iloadn hG dX12_stepsOf_110 rfl ?_
                                refine pm_ialdN hG dX12_stepsOf_111 rfl (by decide) (by omega) ?_
                                refine pm_any (fun x28 => ?_)
                                refine pm_iloadn hG dX12_stepsOf_112 rfl ?_
                                refine pm_iconst (v := nI 1) hG dX12_stepsOf_113 (by decide) ?_
                                refine pm_isub hG dX12_stepsOf_114 ?_
                                refine pm_icmp_ne (tgt := 137) hG dX12_stepsOf_115 rfl (fun c29 => ?_) (fun c29 => ?_)
                                · refine pm_iincX (v := nI (i9 + 1)) (loc' := [some (.ref (B + 54)), some (.int (nI ba)), some (.int (nI i3)), some (.int (nI i6)), some (.int (nI (i9 + 1))), some (.int (nI k12))]) hG dX12_stepsOf_137 rfl (nI_1 _) (by decide) (pm_c1b rfl) rfl ?_
                                  refine pm_goto (tgt := 53) hG dX12_stepsOf_140 rfl ?_
                                  refine pm_fg 5 (loc' := [some (.ref (B + 54)), some (.int (nI ba)), some (.int (nI i3)), some (.int (nI i6)), some (.int (nI (i9 + 1))), none]) rfl ?_
                                  exact ih9 I9 A_27 (i9 + 1) (by omega) (by omega) (by omega)
                                · refine pm_aloadn hG dX12_stepsOf_118 rfl ?_
                                  refine pm_getf hG dX12_stepsOf_119 (flX12_22 _ rfl) rfl rfl ?_
                                  refine pm_iloadi hG dX12_stepsOf_122 rfl ?_
                                  refine pm_ialdN hG dX12_stepsOf_124 rfl (by decide) (by omega) ?_
                                  refine pm_any (fun x30 => ?_)
                                  refine pm_iloadn hG dX12_stepsOf_125 rfl ?_
                                  refine pm_icmp_le (tgt := 137) hG dX12_stepsOf_126 rfl (fun c31 => ?_) (fun c31 => ?_)
                                  · refine pm_iincX (v := nI (i9 + 1)) (loc' := [some (.ref (B + 54)), some (.int (nI ba)), some (.int (nI i3)), some (.int (nI i6)), some (.int (nI (i9 + 1))), some (.int (nI k12))]) hG dX12_stepsOf_137 rfl (nI_1 _) (by decide) (pm_c1b rfl) rfl ?_
                                    refine pm_goto (tgt := 53) hG dX12_stepsOf_140 rfl ?_
                                    refine pm_fg 5 (loc' := [some (.ref (B + 54)), some (.int (nI ba)), some (.int (nI i3)), some (.int (nI i6)), some (.int (nI (i9 + 1))), none]) rfl ?_
                                    exact ih9 I9 A_27 (i9 + 1) (by omega) (by omega) (by omega)
                                  · refine pm_aloadn hG dX12_stepsOf_129 rfl ?_
                                    refine pm_getf hG dX12_stepsOf_130 (flX12_22 _ rfl) rfl rfl ?_
                                    refine pm_iloadi hG dX12_stepsOf_133 rfl ?_
                                    refine pm_iloadn hG dX12_stepsOf_135 rfl ?_
                                    refine pm_iastN hG dX12_stepsOf_136 rfl (by decide) (by omega) ?_
                                    refine mdn_steps (fun A_32 => ?_)
                                    refine pm_iincX (v := nI (i9 + 1)) (loc' := [some (.ref (B + 54)), some (.int (nI ba)), some (.int (nI i3)), some (.int (nI i6)), some (.int (nI (i9 + 1))), some (.int (nI k12))]) hG dX12_stepsOf_137 rfl (nI_1 _) (by decide) (pm_c1b rfl) rfl ?_
                                    refine pm_goto (tgt := 53) hG dX12_stepsOf_140 rfl ?_
                                    refine pm_fg 5 (loc' := [some (.ref (B + 54)), some (.int (nI ba)), some (.int (nI i3)), some (.int (nI i6)), some (.int (nI (i9 + 1))), none]) rfl ?_
                                    exact ih9 I9 A_32 (i9 + 1) (by omega) (by omega) (by omega)
                    exact loop53_9 _ I6 A6 2 (by omega) (by omega) (Nat.lt_succ_self _)
              exact loop40_6 _ I3 A3 0 (by omega) (Nat.lt_succ_self _)
        exact loop32_3 _ I1 A1 1 (by omega) (Nat.lt_succ_self _)
      · refine pm_aloadn hG dX12_stepsOf_8 rfl ?_
        refine pm_getf hG dX12_stepsOf_9 (flX12_22 _ rfl) rfl rfl ?_
        refine pm_iloadn hG dX12_stepsOf_12 rfl ?_
        refine pm_iloadn hG dX12_stepsOf_13 rfl ?_
        refine pm_ifN_ne (tgt := 21) hG dX12_stepsOf_14 rfl (by omega) (fun c33 => ?_) (fun c33 => ?_)
        · refine pm_bipush (v := nI 99) hG dX12_stepsOf_21 (by decide) ?_
          refine pm_iastN hG dX12_stepsOf_23 rfl (by decide) (by omega) ?_
          refine mdn_steps (fun A_34 => ?_)
          refine pm_iincX (v := nI (i1 + 1)) (loc' := [some (.ref (B + 54)), some (.int (nI ba)), some (.int (nI (i1 + 1))), none, none, none]) hG dX12_stepsOf_24 rfl (nI_1 _) (by decide) (pm_c1b rfl) rfl ?_
          refine pm_goto (tgt := 2) hG dX12_stepsOf_27 rfl ?_
          exact ih1 I1 A_34 (i1 + 1) (by omega) (by omega)
        · refine pm_iconst (v := nI 0) hG dX12_stepsOf_17 (by decide) ?_
          refine pm_goto (tgt := 23) hG dX12_stepsOf_18 rfl ?_
          refine pm_iastN hG dX12_stepsOf_23 rfl (by decide) (by omega) ?_
          refine mdn_steps (fun A_35 => ?_)
          refine pm_iincX (v := nI (i1 + 1)) (loc' := [some (.ref (B + 54)), some (.int (nI ba)), some (.int (nI (i1 + 1))), none, none, none]) hG dX12_stepsOf_24 rfl (nI_1 _) (by decide) (pm_c1b rfl) rfl ?_
          refine pm_goto (tgt := 2) hG dX12_stepsOf_27 rfl ?_
          exact ih1 I1 A_35 (i1 + 1) (by omega) (by omega)
  exact loop2_1 _ I A 0 (by omega) (Nat.lt_succ_self _)
