set_option maxRecDepth 100000 in
set_option maxHeartbeats 4000000 in
theorem m_count {d B cnt p0 t0 : Nat} {σ : pm_S} {I : Nat → Int32} {A : Nat → Nat → Int32} {n k z : Nat → Int32} {ac wt pl im : Int32} {y : Nat → Int32} {za : Int32} (hdd : 2 ≤ d) (hn : KI n) (hr : NR n) (hz : SZ z) (ht0 : t0 ≤ 40)  : pm_met mX12_count d 0 0 B [.ref (B + 54), .int za] cnt (pm_mid σ (md_L B I A n k z ac wt pl (nI p0) (nI t0) im y)) (pm_Qi (fun v σ' cnt' => (∃ (I' : Nat → Int32) (A' : Nat → Nat → Int32), σ' = pm_mid σ (md_L B I' A' n k z ac wt pl (nI p0) (nI t0) im y)) ∧ cnt = cnt')) := by
  refine pm_enter 2 (by decide) (Nat.le_of_ble_eq_true rfl) rfl (fun G hG hR hF => ?_)
  refine pm_iconst (v := nI 0) hG dX12_count_0 (by decide) ?_
  refine pm_istoreXn (loc' := [some (.ref (B + 54)), some (.int za), some (.int (nI 0)), none]) hG dX12_count_1 (by decide) (pm_c1b rfl) rfl ?_
  refine pm_iloadn hG dX12_count_2 rfl ?_
  by_cases c1 : za = nI 0
  · refine pm_top (v := nI 0) c1 ?_
    refine pm_tswIn (tgt := 80) hG dX12_count_3 (by decide) (by decide) rfl rfl ?_
    refine pm_aloadn hG dX12_count_80 rfl ?_
    refine pm_getf hG dX12_count_81 (flX12_7 _ rfl) rfl rfl ?_
    refine pm_iloadn hG dX12_count_84 rfl ?_
    refine pm_top (v := nI 0) c1 ?_
    refine pm_ialdN hG dX12_count_85 rfl (by decide) (by omega) ?_
    obtain ⟨k2, hk2, ek2⟩ := KI.nat hn (show kd 0 = (1, 11, true) by decide)
    refine pm_top (v := nI k2) ek2 ?_
    exact pm_iret hG hF dX12_count_86 rfl (Nat.le_refl _) (Nat.le_refl _) ⟨_, rfl, ⟨_, _, rfl⟩, rfl⟩
  by_cases c3 : za = nI 1
  · refine pm_top (v := nI 1) c3 ?_
    refine pm_tswIn (tgt := 80) hG dX12_count_3 (by decide) (by decide) rfl rfl ?_
    refine pm_aloadn hG dX12_count_80 rfl ?_
    refine pm_getf hG dX12_count_81 (flX12_7 _ rfl) rfl rfl ?_
    refine pm_iloadn hG dX12_count_84 rfl ?_
    refine pm_top (v := nI 1) c3 ?_
    refine pm_ialdN hG dX12_count_85 rfl (by decide) (by omega) ?_
    obtain ⟨k4, hk4, ek4⟩ := KI.nat hn (show kd 1 = (1, 21, false) by decide)
    refine pm_top (v := nI k4) ek4 ?_
    exact pm_iret hG hF dX12_count_86 rfl (Nat.le_refl _) (Nat.le_refl _) ⟨_, rfl, ⟨_, _, rfl⟩, rfl⟩
  by_cases c5 : za = nI 2
  · refine pm_top (v := nI 2) c5 ?_
    refine pm_tswIn (tgt := 80) hG dX12_count_3 (by decide) (by decide) rfl rfl ?_
    refine pm_aloadn hG dX12_count_80 rfl ?_
    refine pm_getf hG dX12_count_81 (flX12_7 _ rfl) rfl rfl ?_
    refine pm_iloadn hG dX12_count_84 rfl ?_
    refine pm_top (v := nI 2) c5 ?_
    refine pm_ialdN hG dX12_count_85 rfl (by decide) (by omega) ?_
    obtain ⟨k6, hk6, ek6⟩ := KI.nat hn (show kd 2 = (1, 21, true) by decide)
    refine pm_top (v := nI k6) ek6 ?_
    exact pm_iret hG hF dX12_count_86 rfl (Nat.le_refl _) (Nat.le_refl _) ⟨_, rfl, ⟨_, _, rfl⟩, rfl⟩
  by_cases c7 : za = nI 3
  · refine pm_top (v := nI 3) c7 ?_
    refine pm_tswIn (tgt := 80) hG dX12_count_3 (by decide) (by decide) rfl rfl ?_
    refine pm_aloadn hG dX12_count_80 rfl ?_
    refine pm_getf hG dX12_count_81 (flX12_7 _ rfl) rfl rfl ?_
    refine pm_iloadn hG dX12_count_84 rfl ?_
    refine pm_top (v := nI 3) c7 ?_
    refine pm_ialdN hG dX12_count_85 rfl (by decide) (by omega) ?_
    obtain ⟨k8, hk8, ek8⟩ := KI.nat hn (show kd 3 = (1, 21, false) by decide)
    refine pm_top (v := nI k8) ek8 ?_
    exact pm_iret hG hF dX12_count_86 rfl (Nat.le_refl _) (Nat.le_refl _) ⟨_, rfl, ⟨_, _, rfl⟩, rfl⟩
  by_cases c9 : za = nI 4
  · refine pm_top (v := nI 4) c9 ?_
    refine pm_tswIn (tgt := 80) hG dX12_count_3 (by decide) (by decide) rfl rfl ?_
    refine pm_aloadn hG dX12_count_80 rfl ?_
    refine pm_getf hG dX12_count_81 (flX12_7 _ rfl) rfl rfl ?_
    refine pm_iloadn hG dX12_count_84 rfl ?_
    refine pm_top (v := nI 4) c9 ?_
    refine pm_ialdN hG dX12_count_85 rfl (by decide) (by omega) ?_
    obtain ⟨k10, hk10, ek10⟩ := KI.nat hn (show kd 4 = (1, 13, false) by decide)
    refine pm_top (v := nI k10) ek10 ?_
    exact pm_iret hG hF dX12_count_86 rfl (Nat.le_refl _) (Nat.le_refl _) ⟨_, rfl, ⟨_, _, rfl⟩, rfl⟩
  by_cases c11 : za = nI 5
  · refine pm_top (v := nI 5) c11 ?_
    refine pm_tswIn (tgt := 80) hG dX12_count_3 (by decide) (by decide) rfl rfl ?_
    refine pm_aloadn hG dX12_count_80 rfl ?_
    refine pm_getf hG dX12_count_81 (flX12_7 _ rfl) rfl rfl ?_
    refine pm_iloadn hG dX12_count_84 rfl ?_
    refine pm_top (v := nI 5) c11 ?_
    refine pm_ialdN hG dX12_count_85 rfl (by decide) (by omega) ?_
    obtain ⟨k12, hk12, ek12⟩ := KI.nat hn (show kd 5 = (1, 41, true) by decide)
    refine pm_top (v := nI k12) ek12 ?_
    exact pm_iret hG hF dX12_count_86 rfl (Nat.le_refl _) (Nat.le_refl _) ⟨_, rfl, ⟨_, _, rfl⟩, rfl⟩
  by_cases c13 : za = nI 6
  · refine pm_top (v := nI 6) c13 ?_
    refine pm_tswIn (tgt := 80) hG dX12_count_3 (by decide) (by decide) rfl rfl ?_
    refine pm_aloadn hG dX12_count_80 rfl ?_
    refine pm_getf hG dX12_count_81 (flX12_7 _ rfl) rfl rfl ?_
    refine pm_iloadn hG dX12_count_84 rfl ?_
    refine pm_top (v := nI 6) c13 ?_
    refine pm_ialdN hG dX12_count_85 rfl (by decide) (by omega) ?_
    obtain ⟨k14, hk14, ek14⟩ := KI.nat hn (show kd 6 = (1, 7, false) by decide)
    refine pm_top (v := nI k14) ek14 ?_
    exact pm_iret hG hF dX12_count_86 rfl (Nat.le_refl _) (Nat.le_refl _) ⟨_, rfl, ⟨_, _, rfl⟩, rfl⟩
  by_cases c15 : za = nI 7
  · refine pm_top (v := nI 7) c15 ?_
    refine pm_tswIn (tgt := 80) hG dX12_count_3 (by decide) (by decide) rfl rfl ?_
    refine pm_aloadn hG dX12_count_80 rfl ?_
    refine pm_getf hG dX12_count_81 (flX12_7 _ rfl) rfl rfl ?_
    refine pm_iloadn hG dX12_count_84 rfl ?_
    refine pm_top (v := nI 7) c15 ?_
    refine pm_ialdN hG dX12_count_85 rfl (by decide) (by omega) ?_
    obtain ⟨k16, hk16, ek16⟩ := KI.nat hn (show kd 7 = (1, 31, false) by decide)
    refine pm_top (v := nI k16) ek16 ?_
    exact pm_iret hG hF dX12_count_86 rfl (Nat.le_refl _) (Nat.le_refl _) ⟨_, rfl, ⟨_, _, rfl⟩, rfl⟩
  by_cases c17 : za = nI 8
  · refine pm_top (v := nI 8) c17 ?_
    refine pm_tswIn (tgt := 80) hG dX12_count_3 (by decide) (by decide) rfl rfl ?_
    refine pm_aloadn hG dX12_count_80 rfl ?_
    refine pm_getf hG dX12_count_81 (flX12_7 _ rfl) rfl rfl ?_
    refine pm_iloadn hG dX12_count_84 rfl ?_
    refine pm_top (v := nI 8) c17 ?_
    refine pm_ialdN hG dX12_count_85 rfl (by decide) (by omega) ?_
    obtain ⟨k18, hk18, ek18⟩ := KI.nat hn (show kd 8 = (1, 2001, false) by decide)
    refine pm_top (v := nI k18) ek18 ?_
    exact pm_iret hG hF dX12_count_86 rfl (Nat.le_refl _) (Nat.le_refl _) ⟨_, rfl, ⟨_, _, rfl⟩, rfl⟩
  by_cases c19 : za = nI 9
  · refine pm_top (v := nI 9) c19 ?_
    refine pm_tswIn (tgt := 80) hG dX12_count_3 (by decide) (by decide) rfl rfl ?_
    refine pm_aloadn hG dX12_count_80 rfl ?_
    refine pm_getf hG dX12_count_81 (flX12_7 _ rfl) rfl rfl ?_
    refine pm_iloadn hG dX12_count_84 rfl ?_
    refine pm_top (v := nI 9) c19 ?_
    refine pm_ialdN hG dX12_count_85 rfl (by decide) (by omega) ?_
    refine pm_gen (fun x20 ex20 => ?_)
    exact pm_iret hG hF dX12_count_86 rfl (Nat.le_refl _) (Nat.le_refl _) ⟨_, rfl, ⟨_, _, rfl⟩, rfl⟩
  by_cases c21 : za = nI 10
  · refine pm_top (v := nI 10) c21 ?_
    refine pm_tswIn (tgt := 80) hG dX12_count_3 (by decide) (by decide) rfl rfl ?_
    refine pm_aloadn hG dX12_count_80 rfl ?_
    refine pm_getf hG dX12_count_81 (flX12_7 _ rfl) rfl rfl ?_
    refine pm_iloadn hG dX12_count_84 rfl ?_
    refine pm_top (v := nI 10) c21 ?_
    refine pm_ialdN hG dX12_count_85 rfl (by decide) (by omega) ?_
    obtain ⟨k22, hk22, ek22⟩ := KI.nat hn (show kd 10 = (1, 61, false) by decide)
    refine pm_top (v := nI k22) ek22 ?_
    exact pm_iret hG hF dX12_count_86 rfl (Nat.le_refl _) (Nat.le_refl _) ⟨_, rfl, ⟨_, _, rfl⟩, rfl⟩
  by_cases c23 : za = nI 11
  · refine pm_top (v := nI 11) c23 ?_
    refine pm_tswIn (tgt := 87) hG dX12_count_3 (by decide) (by decide) rfl rfl ?_
    refine pm_aloadn hG dX12_count_87 rfl ?_
    obtain ⟨k24, hk24, ek24⟩ := KI.nat hn (show kd 2 = (1, 21, true) by decide)
    refine pm_callV (As := []) (rest := []) hG hR dX12_count_88 (lkX12_243 _ rfl) okV_X12_seatedMany rfl rfl (m_seatedMany (d := 1) (by decide) hn ek24 (by omega)) rfl rfl hdd (Nat.le_refl _) (Nat.le_refl _) (by decide) (pm_ki (fun v25 σ' cnt' hq => ?_))
    obtain ⟨rfl, rfl, rfl⟩ := hq
    have h26 : stN n k24 ≤ 9 := Nat.le_trans (stN_mono (by omega)) hr.2.2.1.1
    exact pm_iret hG hF dX12_count_91 rfl (Nat.le_refl _) (Nat.le_refl _) ⟨_, rfl, ⟨_, _, rfl⟩, rfl⟩
  by_cases c27 : za = nI 12
  · refine pm_top (v := nI 12) c27 ?_
    refine pm_tswIn (tgt := 92) hG dX12_count_3 (by decide) (by decide) rfl rfl ?_
    refine pm_aloadn hG dX12_count_92 rfl ?_
    refine pm_getf hG dX12_count_93 (flX12_283 _ rfl) rfl rfl ?_
    exact pm_iret hG hF dX12_count_96 rfl (Nat.le_refl _) (Nat.le_refl _) ⟨_, rfl, ⟨_, _, rfl⟩, rfl⟩
  by_cases c28 : za = nI 13
  · refine pm_top (v := nI 13) c28 ?_
    refine pm_tswIn (tgt := 97) hG dX12_count_3 (by decide) (by decide) rfl rfl ?_
    refine pm_aloadn hG dX12_count_97 rfl ?_
    refine pm_getf hG dX12_count_98 (flX12_7 _ rfl) rfl rfl ?_
    refine pm_bipush (v := nI 11) hG dX12_count_101 (by decide) ?_
    refine pm_ialdN hG dX12_count_103 rfl (by decide) (by omega) ?_
    obtain ⟨k29, hk29, ek29⟩ := KI.nat hn (show kd 11 = (1, 21, false) by decide)
    refine pm_top (v := nI k29) ek29 ?_
    exact pm_iret hG hF dX12_count_104 rfl (Nat.le_refl _) (Nat.le_refl _) ⟨_, rfl, ⟨_, _, rfl⟩, rfl⟩
  by_cases c30 : za = nI 14
  · refine pm_top (v := nI 14) c30 ?_
    refine pm_tswIn (tgt := 105) hG dX12_count_3 (by decide) (by decide) rfl rfl ?_
    refine pm_iconst (v := nI 0) hG dX12_count_105 (by decide) ?_
    refine pm_istoreXn (loc' := [some (.ref (B + 54)), some (.int za), some (.int (nI 0)), some (.int (nI 0))]) hG dX12_count_106 (by decide) (pm_c1b rfl) rfl ?_
    have loop107_31 : ∀ (m31 : Nat) (I31 : Nat → Int32) (A31 : Nat → Nat → Int32) (x31_2 : Int32) (i31 : Nat), i31 ≤ 20 → 20 - i31 < m31 → pm_wp mX12_count G B 107 [some (.ref (B + 54)), some (.int za), some (.int x31_2), some (.int (nI i31))] [] 0 0 cnt (pm_mid σ (md_L B I31 A31 n k z ac wt pl (nI p0) (nI t0) im y)) := by
      intro m31
      induction m31 with
      | zero => intro I31 A31 x31_2 i31 _ hm; exact absurd hm (Nat.not_lt_zero _)
      | succ m31 ih31 =>
        intro I31 A31 x31_2 i31 hi31 hm31
        refine pm_iloadn hG dX12_count_107 rfl ?_
        refine pm_aloadn hG dX12_count_108 rfl ?_
        refine pm_getf hG dX12_count_109 (flX12_7 _ rfl) rfl rfl ?_
        refine pm_iconst (v := nI 2) hG dX12_count_112 (by decide) ?_
        refine pm_ialdN hG dX12_count_113 rfl (by decide) (by omega) ?_
        obtain ⟨k32, hk32, ek32⟩ := KI.nat hn (show kd 2 = (1, 21, true) by decide)
        refine pm_top (v := nI k32) ek32 ?_
        refine pm_icmpN_ge (tgt := 133) hG dX12_count_114 rfl (by omega) (by omega) (fun c33 => ?_) (fun c33 => ?_)
        · refine pm_iloadn hG dX12_count_133 rfl ?_
          exact pm_iret hG hF dX12_count_134 rfl (Nat.le_refl _) (Nat.le_refl _) ⟨_, rfl, ⟨_, _, rfl⟩, rfl⟩
        · refine pm_iloadn hG dX12_count_117 rfl ?_
          refine pm_aloadn hG dX12_count_118 rfl ?_
          refine pm_iloadn hG dX12_count_119 rfl ?_
          refine pm_bipush (v := nI 7) hG dX12_count_120 (by decide) ?_
          refine pm_callV (As := [.int (nI i31), .int (nI 7)]) (rest := [.int x31_2]) hG hR dX12_count_122 (lkX12_72 _ rfl) okV_X12_man rfl rfl (m_man (d := 1) (e := 14 * i31 + 117) (by omega) (by omega) (by omega)) rfl rfl hdd (Nat.le_refl _) (Nat.le_refl _) (Nat.le_of_ble_eq_true rfl) (pm_ki (fun v34 σ' cnt' hq => ?_))
          obtain ⟨rfl, rfl, rfl⟩ := hq
          refine pm_gen (fun x35 ex35 => ?_)
          refine pm_iadd hG dX12_count_125 ?_
          refine pm_istoreXn (loc' := [some (.ref (B + 54)), some (.int za), some (.int (x31_2 + x35)), some (.int (nI i31))]) hG dX12_count_126 (by decide) (pm_c1b rfl) rfl ?_
          refine pm_iincX (v := nI (i31 + 1)) (loc' := [some (.ref (B + 54)), some (.int za), some (.int (x31_2 + x35)), some (.int (nI (i31 + 1)))]) hG dX12_count_127 rfl (nI_1 _) (by decide) (pm_c1b rfl) rfl ?_
          refine pm_goto (tgt := 107) hG dX12_count_130 rfl ?_
          exact ih31 I31 A31 (x31_2 + x35) (i31 + 1) (by omega) (by omega)
    exact loop107_31 _ I A (nI 0) 0 (by omega) (Nat.lt_succ_self _)
  by_cases c36 : za = nI 15
  · refine pm_top (v := nI 15) c36 ?_
    refine pm_tswIn (tgt := 135) hG dX12_count_3 (by decide) (by decide) rfl rfl ?_
    refine pm_iconst (v := nI 0) hG dX12_count_135 (by decide) ?_
    refine pm_istoreXn (loc' := [some (.ref (B + 54)), some (.int za), some (.int (nI 0)), some (.int (nI 0))]) hG dX12_count_136 (by decide) (pm_c1b rfl) rfl ?_
    have loop137_37 : ∀ (m37 : Nat) (I37 : Nat → Int32) (A37 : Nat → Nat → Int32) (x37_2 : Int32) (i37 : Nat), i37 ≤ 40 → 40 - i37 < m37 → pm_wp mX12_count G B 137 [some (.ref (B + 54)), some (.int za), some (.int x37_2), some (.int (nI i37))] [] 0 0 cnt (pm_mid σ (md_L B I37 A37 n k z ac wt pl (nI p0) (nI t0) im y)) := by
      intro m37
      induction m37 with
      | zero => intro I37 A37 x37_2 i37 _ hm; exact absurd hm (Nat.not_lt_zero _)
      | succ m37 ih37 =>
        intro I37 A37 x37_2 i37 hi37 hm37
        refine pm_iloadn hG dX12_count_137 rfl ?_
        refine pm_aloadn hG dX12_count_138 rfl ?_
        refine pm_getf hG dX12_count_139 (flX12_7 _ rfl) rfl rfl ?_
        refine pm_iconst (v := nI 5) hG dX12_count_142 (by decide) ?_
        refine pm_ialdN hG dX12_count_143 rfl (by decide) (by omega) ?_
        obtain ⟨k38, hk38, ek38⟩ := KI.nat hn (show kd 5 = (1, 41, true) by decide)
        refine pm_top (v := nI k38) ek38 ?_
        refine pm_icmpN_ge (tgt := 186) hG dX12_count_144 rfl (by omega) (by omega) (fun c39 => ?_) (fun c39 => ?_)
        · refine pm_iloadn hG dX12_count_186 rfl ?_
          exact pm_iret hG hF dX12_count_187 rfl (Nat.le_refl _) (Nat.le_refl _) ⟨_, rfl, ⟨_, _, rfl⟩, rfl⟩
        · refine pm_iloadn hG dX12_count_147 rfl ?_
          refine pm_aloadn hG dX12_count_148 rfl ?_
          refine pm_iloadn hG dX12_count_149 rfl ?_
          refine pm_iconst (v := nI 4) hG dX12_count_150 (by decide) ?_
          refine pm_callV (As := [.int (nI i37), .int (nI 4)]) (rest := [.int x37_2]) hG hR dX12_count_151 (lkX12_199 _ rfl) okV_X12_of rfl rfl (m_of (d := 1) (e := 12 * i37 + 1294) (by omega) (by omega) (by omega)) rfl rfl hdd (Nat.le_refl _) (Nat.le_refl _) (Nat.le_of_ble_eq_true rfl) (pm_ki (fun v40 σ' cnt' hq => ?_))
          obtain ⟨rfl, rfl, rfl⟩ := hq
          rcases KI.opt hn (show kd (12 * i37 + 1294) = (2, 20, true) from (kd_E (k := i37) (c := 4) (by omega) (by omega) (by decide))) with ek41 | ⟨k41, hk41, ek41⟩
          · refine pm_top (v := (-1)) ek41 ?_
            refine pm_if_lt (tgt := 177) hG dX12_count_154 rfl (fun _ => ?_) (fun q => absurd q (by decide))
            refine pm_iconst (v := nI 0) hG dX12_count_177 (by decide) ?_
            refine pm_iadd hG dX12_count_178 ?_
            refine pm_istoreXn (loc' := [some (.ref (B + 54)), some (.int za), some (.int (x37_2 + (nI 0))), some (.int (nI i37))]) hG dX12_count_179 (by decide) (pm_c1b rfl) rfl ?_
            refine pm_iincX (v := nI (i37 + 1)) (loc' := [some (.ref (B + 54)), some (.int za), some (.int (x37_2 + (nI 0))), some (.int (nI (i37 + 1)))]) hG dX12_count_180 rfl (nI_1 _) (by decide) (pm_c1b rfl) rfl ?_
            refine pm_goto (tgt := 137) hG dX12_count_183 rfl ?_
            exact ih37 I37 A37 (x37_2 + (nI 0)) (i37 + 1) (by omega) (by omega)
          · refine pm_top (v := nI k41) ek41 ?_
            refine pm_ifN_lt hG dX12_count_154 rfl (by omega) ?_
            refine pm_aloadn hG dX12_count_157 rfl ?_
            refine pm_iloadn hG dX12_count_158 rfl ?_
            refine pm_iconst (v := nI 5) hG dX12_count_159 (by decide) ?_
            refine pm_callV (As := [.int (nI i37), .int (nI 5)]) (rest := [.int x37_2]) hG hR dX12_count_160 (lkX12_199 _ rfl) okV_X12_of rfl rfl (m_of (d := 1) (e := 12 * i37 + 1295) (by omega) (by omega) (by omega)) rfl rfl hdd (Nat.le_refl _) (Nat.le_refl _) (Nat.le_of_ble_eq_true rfl) (pm_ki (fun v42 σ' cnt' hq => ?_))
            obtain ⟨rfl, rfl, rfl⟩ := hq
            refine pm_gen (fun x43 ex43 => ?_)
            refine pm_aloadn hG dX12_count_163 rfl ?_
            refine pm_getf hG dX12_count_164 (flX12_7 _ rfl) rfl rfl ?_
            refine pm_bipush (v := nI 8) hG dX12_count_167 (by decide) ?_
            refine pm_ialdN hG dX12_count_169 rfl (by decide) (by omega) ?_
            obtain ⟨k44, hk44, ek44⟩ := KI.nat hn (show kd 8 = (1, 2001, false) by decide)
            refine pm_top (v := nI k44) ek44 ?_
            refine pm_icmp_le (tgt := 177) hG dX12_count_170 rfl (fun c45 => ?_) (fun c45 => ?_)
            · refine pm_iconst (v := nI 0) hG dX12_count_177 (by decide) ?_
              refine pm_iadd hG dX12_count_178 ?_
              refine pm_istoreXn (loc' := [some (.ref (B + 54)), some (.int za), some (.int (x37_2 + (nI 0))), some (.int (nI i37))]) hG dX12_count_179 (by decide) (pm_c1b rfl) rfl ?_
              refine pm_iincX (v := nI (i37 + 1)) (loc' := [some (.ref (B + 54)), some (.int za), some (.int (x37_2 + (nI 0))), some (.int (nI (i37 + 1)))]) hG dX12_count_180 rfl (nI_1 _) (by decide) (pm_c1b rfl) rfl ?_
              refine pm_goto (tgt := 137) hG dX12_count_183 rfl ?_
              exact ih37 I37 A37 (x37_2 + (nI 0)) (i37 + 1) (by omega) (by omega)
            · refine pm_iconst (v := nI 1) hG dX12_count_173 (by decide) ?_
              refine pm_goto (tgt := 178) hG dX12_count_174 rfl ?_
              refine pm_iadd hG dX12_count_178 ?_
              refine pm_istoreXn (loc' := [some (.ref (B + 54)), some (.int za), some (.int (x37_2 + (nI 1))), some (.int (nI i37))]) hG dX12_count_179 (by decide) (pm_c1b rfl) rfl ?_
              refine pm_iincX (v := nI (i37 + 1)) (loc' := [some (.ref (B + 54)), some (.int za), some (.int (x37_2 + (nI 1))), some (.int (nI (i37 + 1)))]) hG dX12_count_180 rfl (nI_1 _) (by decide) (pm_c1b rfl) rfl ?_
              refine pm_goto (tgt := 137) hG dX12_count_183 rfl ?_
              exact ih37 I37 A37 (x37_2 + (nI 1)) (i37 + 1) (by omega) (by omega)
    exact loop137_37 _ I A (nI 0) 0 (by omega) (Nat.lt_succ_self _)
  have tc1 : ¬ za.toInt = 0 := fun q => c1 (Int32.toInt_inj.mp (q.trans (by decide)))
  have tc3 : ¬ za.toInt = 1 := fun q => c3 (Int32.toInt_inj.mp (q.trans (by decide)))
  have tc5 : ¬ za.toInt = 2 := fun q => c5 (Int32.toInt_inj.mp (q.trans (by decide)))
  have tc7 : ¬ za.toInt = 3 := fun q => c7 (Int32.toInt_inj.mp (q.trans (by decide)))
  have tc9 : ¬ za.toInt = 4 := fun q => c9 (Int32.toInt_inj.mp (q.trans (by decide)))
  have tc11 : ¬ za.toInt = 5 := fun q => c11 (Int32.toInt_inj.mp (q.trans (by decide)))
  have tc13 : ¬ za.toInt = 6 := fun q => c13 (Int32.toInt_inj.mp (q.trans (by decide)))
  have tc15 : ¬ za.toInt = 7 := fun q => c15 (Int32.toInt_inj.mp (q.trans (by decide)))
  have tc17 : ¬ za.toInt = 8 := fun q => c17 (Int32.toInt_inj.mp (q.trans (by decide)))
  have tc19 : ¬ za.toInt = 9 := fun q => c19 (Int32.toInt_inj.mp (q.trans (by decide)))
  have tc21 : ¬ za.toInt = 10 := fun q => c21 (Int32.toInt_inj.mp (q.trans (by decide)))
  have tc23 : ¬ za.toInt = 11 := fun q => c23 (Int32.toInt_inj.mp (q.trans (by decide)))
  have tc27 : ¬ za.toInt = 12 := fun q => c27 (Int32.toInt_inj.mp (q.trans (by decide)))
  have tc28 : ¬ za.toInt = 13 := fun q => c28 (Int32.toInt_inj.mp (q.trans (by decide)))
  have tc30 : ¬ za.toInt = 14 := fun q => c30 (Int32.toInt_inj.mp (q.trans (by decide)))
  have tc36 : ¬ za.toInt = 15 := fun q => c36 (Int32.toInt_inj.mp (q.trans (by decide)))
  refine pm_tswOut (tgt := 188) hG dX12_count_3 (by omega) rfl ?_
  refine pm_aloadn hG dX12_count_188 rfl ?_
  refine pm_iconst (v := nI 1) hG dX12_count_189 (by decide) ?_
  refine pm_callV (As := [.int (nI 1)]) (rest := []) hG hR dX12_count_190 (lkX12_80 _ rfl) okV_X12_finds rfl rfl (m_finds (d := 1) (by decide) hn hz (by omega)) rfl rfl hdd (Nat.le_refl _) (Nat.le_refl _) (by decide) (pm_ki (fun v46 σ' cnt' hq => ?_))
  obtain ⟨⟨I47, A47, rfl⟩, rfl, fv46⟩ := hq
  exact pm_iret hG hF dX12_count_193 rfl (Nat.le_refl _) (Nat.le_refl _) ⟨_, rfl, ⟨_, _, rfl⟩, rfl⟩
