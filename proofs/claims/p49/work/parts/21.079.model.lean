set_option maxRecDepth 100000 in
set_option maxHeartbeats 4000000 in
theorem m_owed {d B cnt p0 t0 : Nat} {σ : pm_S} {I : Nat → Int32} {A : Nat → Nat → Int32} {n k z : Nat → Int32} {ac wt pl im : Int32} {y : Nat → Int32} {za zb : Int32} (hdd : 2 ≤ d) (hn : KI n) (hz : SZ z)  : pm_met mX12_owed d 0 0 B [.ref (B + 54), .int za, .int zb] cnt (pm_mid σ (md_L B I A n k z ac wt pl (nI p0) (nI t0) im y)) (pm_Qi (fun v σ' cnt' => (∃ (I' : Nat → Int32) (A' : Nat → Nat → Int32), σ' = pm_mid σ (md_L B I' A' n k z ac wt pl (nI p0) (nI t0) im y)) ∧ cnt = cnt')) := by
  refine pm_enter 3 (by decide) (Nat.le_of_ble_eq_true rfl) rfl (fun G hG hR hF => ?_)
  refine pm_iloadn hG dX12_owed_0 rfl ?_
  refine pm_iconst (v := nI 0) hG dX12_owed_1 (by decide) ?_
  refine pm_aloadn hG dX12_owed_2 rfl ?_
  refine pm_getf hG dX12_owed_3 (flX12_7 _ rfl) rfl rfl ?_
  refine pm_bipush (v := nI 6) hG dX12_owed_6 (by decide) ?_
  refine pm_ialdN hG dX12_owed_8 rfl (by decide) (by omega) ?_
  obtain ⟨k1, hk1, ek1⟩ := KI.nat hn (show kd 6 = (1, 7, false) by decide)
  refine pm_top (v := nI k1) ek1 ?_
  refine pm_iconst (v := nI 1) hG dX12_owed_9 (by decide) ?_
  refine pm_isub hG dX12_owed_10 ?_
  refine pm_callS (As := [.int za, .int (nI 0), .int ((nI k1) - (nI 1))]) (rest := []) hG hR dX12_owed_11 (lkX12_68 _ rfl) okS_X12_in (m_in (d := 1)) rfl rfl hdd (Nat.le_refl _) (Nat.le_refl _) (by decide) (pm_ki (fun v2 σ' cnt' hq => ?_))
  obtain ⟨hq, rfl, rfl⟩ := hq
  rcases hq with ⟨rfl, ac3, bc3⟩ | ⟨rfl, c3⟩
  · obtain ⟨k4, hk4, ek4⟩ := in_cnt (c := k1) (by omega) ac3 bc3
    refine pm_ifN_ne (tgt := 23) hG dX12_owed_14 rfl (by omega) (fun _ => ?_) (fun q => absurd q (by omega))
    refine pm_aloadn hG dX12_owed_23 rfl ?_
    refine pm_getf hG dX12_owed_24 (flX12_7 _ rfl) rfl rfl ?_
    refine pm_sipush (v := nI 1770) hG dX12_owed_27 (by decide) ?_
    refine pm_bipush (v := nI 6) hG dX12_owed_30 (by decide) ?_
    refine pm_iloadn hG dX12_owed_32 rfl ?_
    refine pm_top (v := nI k4) ek4 ?_
    refine pm_imulN (c := 6 * k4) hG dX12_owed_33 (by omega) ?_
    refine pm_iaddN (c := 6 * k4 + 1770) hG dX12_owed_34 (by omega) ?_
    refine pm_iconst (v := nI 4) hG dX12_owed_35 (by decide) ?_
    refine pm_iaddN (c := 6 * k4 + 1774) hG dX12_owed_36 (by omega) ?_
    refine pm_ialdN hG dX12_owed_37 rfl (by decide) (by omega) ?_
    obtain ⟨k5, hk5, ek5⟩ := KI.nat hn (show kd (6 * k4 + 1774) = (1, 10, false) from (kd_D (k := k4) (c := 4) (by omega) (by omega) (by decide)))
    refine pm_top (v := nI k5) ek5 ?_
    refine pm_istoreXn (loc' := [some (.ref (B + 54)), some (.int za), some (.int zb), some (.int (nI k5)), none, none]) hG dX12_owed_38 (by decide) (pm_c1b rfl) rfl ?_
    refine pm_iloadn hG dX12_owed_39 rfl ?_
    by_cases c6 : zb = nI 0
    · refine pm_top (v := nI 0) c6 ?_
      refine pm_tswIn (tgt := 72) hG dX12_owed_40 (by decide) (by decide) rfl rfl ?_
      refine pm_aloadn hG dX12_owed_72 rfl ?_
      refine pm_getf hG dX12_owed_73 (flX12_7 _ rfl) rfl rfl ?_
      refine pm_sipush (v := nI 1770) hG dX12_owed_76 (by decide) ?_
      refine pm_bipush (v := nI 6) hG dX12_owed_79 (by decide) ?_
      refine pm_iloadn hG dX12_owed_81 rfl ?_
      refine pm_top (v := nI k4) ek4 ?_
      refine pm_imulN (c := 6 * k4) hG dX12_owed_82 (by omega) ?_
      refine pm_iaddN (c := 6 * k4 + 1770) hG dX12_owed_83 (by omega) ?_
      refine pm_ialdN hG dX12_owed_84 rfl (by decide) (by omega) ?_
      refine pm_gen (fun x7 ex7 => ?_)
      exact pm_iret hG hF dX12_owed_85 rfl (Nat.le_refl _) (Nat.le_refl _) ⟨_, rfl, ⟨_, _, rfl⟩, rfl⟩
    by_cases c8 : zb = nI 1
    · refine pm_top (v := nI 1) c8 ?_
      refine pm_tswIn (tgt := 86) hG dX12_owed_40 (by decide) (by decide) rfl rfl ?_
      refine pm_aloadn hG dX12_owed_86 rfl ?_
      refine pm_getf hG dX12_owed_87 (flX12_7 _ rfl) rfl rfl ?_
      refine pm_sipush (v := nI 1770) hG dX12_owed_90 (by decide) ?_
      refine pm_bipush (v := nI 6) hG dX12_owed_93 (by decide) ?_
      refine pm_iloadn hG dX12_owed_95 rfl ?_
      refine pm_top (v := nI k4) ek4 ?_
      refine pm_imulN (c := 6 * k4) hG dX12_owed_96 (by omega) ?_
      refine pm_iaddN (c := 6 * k4 + 1770) hG dX12_owed_97 (by omega) ?_
      refine pm_iconst (v := nI 3) hG dX12_owed_98 (by decide) ?_
      refine pm_iaddN (c := 6 * k4 + 1773) hG dX12_owed_99 (by omega) ?_
      refine pm_ialdN hG dX12_owed_100 rfl (by decide) (by omega) ?_
      refine pm_gen (fun x9 ex9 => ?_)
      exact pm_iret hG hF dX12_owed_101 rfl (Nat.le_refl _) (Nat.le_refl _) ⟨_, rfl, ⟨_, _, rfl⟩, rfl⟩
    by_cases c10 : zb = nI 2
    · refine pm_top (v := nI 2) c10 ?_
      refine pm_tswIn (tgt := 102) hG dX12_owed_40 (by decide) (by decide) rfl rfl ?_
      refine pm_aloadn hG dX12_owed_102 rfl ?_
      refine pm_getf hG dX12_owed_103 (flX12_7 _ rfl) rfl rfl ?_
      refine pm_bipush (v := nI 20) hG dX12_owed_106 (by decide) ?_
      refine pm_iconst (v := nI 3) hG dX12_owed_108 (by decide) ?_
      refine pm_iloadn hG dX12_owed_109 rfl ?_
      refine pm_imulN (c := 3 * k5) hG dX12_owed_110 (by omega) ?_
      refine pm_iaddN (c := 3 * k5 + 20) hG dX12_owed_111 (by omega) ?_
      refine pm_iconst (v := nI 2) hG dX12_owed_112 (by decide) ?_
      refine pm_iaddN (c := 3 * k5 + 22) hG dX12_owed_113 (by omega) ?_
      refine pm_ialdN hG dX12_owed_114 rfl (by decide) (by omega) ?_
      refine pm_gen (fun x11 ex11 => ?_)
      exact pm_iret hG hF dX12_owed_115 rfl (Nat.le_refl _) (Nat.le_refl _) ⟨_, rfl, ⟨_, _, rfl⟩, rfl⟩
    by_cases c12 : zb = nI 3
    · refine pm_top (v := nI 3) c12 ?_
      refine pm_tswIn (tgt := 116) hG dX12_owed_40 (by decide) (by decide) rfl rfl ?_
      refine pm_iconst (v := nI 0) hG dX12_owed_116 (by decide) ?_
      refine pm_istoreXi (loc' := [some (.ref (B + 54)), some (.int za), some (.int zb), some (.int (nI k5)), some (.int (nI 0)), none]) hG dX12_owed_117 (by decide) (pm_c1b rfl) rfl ?_
      refine pm_iconst (v := nI 0) hG dX12_owed_119 (by decide) ?_
      refine pm_istoreXi (loc' := [some (.ref (B + 54)), some (.int za), some (.int zb), some (.int (nI k5)), some (.int (nI 0)), some (.int (nI 0))]) hG dX12_owed_120 (by decide) (pm_c1b rfl) rfl ?_
      have loop122_13 : ∀ (m13 : Nat) (I13 : Nat → Int32) (A13 : Nat → Nat → Int32) (x13_4 : Int32) (i13 : Nat), i13 ≤ 6 → 6 - i13 < m13 → pm_wp mX12_owed G B 122 [some (.ref (B + 54)), some (.int za), some (.int zb), some (.int (nI k5)), some (.int x13_4), some (.int (nI i13))] [] 0 0 cnt (pm_mid σ (md_L B I13 A13 n k z ac wt pl (nI p0) (nI t0) im y)) := by
        intro m13
        induction m13 with
        | zero => intro I13 A13 x13_4 i13 _ hm; exact absurd hm (Nat.not_lt_zero _)
        | succ m13 ih13 =>
          intro I13 A13 x13_4 i13 hi13 hm13
          refine pm_iloadi hG dX12_owed_122 rfl ?_
          refine pm_aloadn hG dX12_owed_124 rfl ?_
          refine pm_getf hG dX12_owed_125 (flX12_7 _ rfl) rfl rfl ?_
          refine pm_bipush (v := nI 6) hG dX12_owed_128 (by decide) ?_
          refine pm_ialdN hG dX12_owed_130 rfl (by decide) (by omega) ?_
          refine pm_top (v := nI k1) ek1 ?_
          refine pm_icmpN_ge (tgt := 170) hG dX12_owed_131 rfl (by omega) (by omega) (fun c14 => ?_) (fun c14 => ?_)
          · refine pm_iloadi hG dX12_owed_170 rfl ?_
            exact pm_iret hG hF dX12_owed_172 rfl (Nat.le_refl _) (Nat.le_refl _) ⟨_, rfl, ⟨_, _, rfl⟩, rfl⟩
          · refine pm_iloadi hG dX12_owed_134 rfl ?_
            refine pm_aloadn hG dX12_owed_136 rfl ?_
            refine pm_getf hG dX12_owed_137 (flX12_7 _ rfl) rfl rfl ?_
            refine pm_sipush (v := nI 1770) hG dX12_owed_140 (by decide) ?_
            refine pm_bipush (v := nI 6) hG dX12_owed_143 (by decide) ?_
            refine pm_iloadi hG dX12_owed_145 rfl ?_
            refine pm_imulN (c := 6 * i13) hG dX12_owed_147 (by omega) ?_
            refine pm_iaddN (c := 6 * i13 + 1770) hG dX12_owed_148 (by omega) ?_
            refine pm_iconst (v := nI 4) hG dX12_owed_149 (by decide) ?_
            refine pm_iaddN (c := 6 * i13 + 1774) hG dX12_owed_150 (by omega) ?_
            refine pm_ialdN hG dX12_owed_151 rfl (by decide) (by omega) ?_
            obtain ⟨k15, hk15, ek15⟩ := KI.nat hn (show kd (6 * i13 + 1774) = (1, 10, false) from (kd_D (k := i13) (c := 4) (by omega) (by omega) (by decide)))
            refine pm_top (v := nI k15) ek15 ?_
            refine pm_iloadn hG dX12_owed_152 rfl ?_
            refine pm_icmpN_ne (tgt := 160) hG dX12_owed_153 rfl (by omega) (by omega) (fun c16 => ?_) (fun c16 => ?_)
            · refine pm_iconst (v := nI 0) hG dX12_owed_160 (by decide) ?_
              refine pm_iadd hG dX12_owed_161 ?_
              refine pm_istoreXi (loc' := [some (.ref (B + 54)), some (.int za), some (.int zb), some (.int (nI k5)), some (.int (x13_4 + (nI 0))), some (.int (nI i13))]) hG dX12_owed_162 (by decide) (pm_c1b rfl) rfl ?_
              refine pm_iincX (v := nI (i13 + 1)) (loc' := [some (.ref (B + 54)), some (.int za), some (.int zb), some (.int (nI k5)), some (.int (x13_4 + (nI 0))), some (.int (nI (i13 + 1)))]) hG dX12_owed_164 rfl (nI_1 _) (by decide) (pm_c1b rfl) rfl ?_
              refine pm_goto (tgt := 122) hG dX12_owed_167 rfl ?_
              exact ih13 I13 A13 (x13_4 + (nI 0)) (i13 + 1) (by omega) (by omega)
            · refine pm_iconst (v := nI 1) hG dX12_owed_156 (by decide) ?_
              refine pm_goto (tgt := 161) hG dX12_owed_157 rfl ?_
              refine pm_iadd hG dX12_owed_161 ?_
              refine pm_istoreXi (loc' := [some (.ref (B + 54)), some (.int za), some (.int zb), some (.int (nI k5)), some (.int (x13_4 + (nI 1))), some (.int (nI i13))]) hG dX12_owed_162 (by decide) (pm_c1b rfl) rfl ?_
              refine pm_iincX (v := nI (i13 + 1)) (loc' := [some (.ref (B + 54)), some (.int za), some (.int zb), some (.int (nI k5)), some (.int (x13_4 + (nI 1))), some (.int (nI (i13 + 1)))]) hG dX12_owed_164 rfl (nI_1 _) (by decide) (pm_c1b rfl) rfl ?_
              refine pm_goto (tgt := 122) hG dX12_owed_167 rfl ?_
              exact ih13 I13 A13 (x13_4 + (nI 1)) (i13 + 1) (by omega) (by omega)
      exact loop122_13 _ I A (nI 0) 0 (by omega) (Nat.lt_succ_self _)
    have tc6 : ¬ zb.toInt = 0 := fun q => c6 (Int32.toInt_inj.mp (q.trans (by decide)))
    have tc8 : ¬ zb.toInt = 1 := fun q => c8 (Int32.toInt_inj.mp (q.trans (by decide)))
    have tc10 : ¬ zb.toInt = 2 := fun q => c10 (Int32.toInt_inj.mp (q.trans (by decide)))
    have tc12 : ¬ zb.toInt = 3 := fun q => c12 (Int32.toInt_inj.mp (q.trans (by decide)))
    refine pm_tswOut (tgt := 173) hG dX12_owed_40 (by omega) rfl ?_
    refine pm_aloadn hG dX12_owed_173 rfl ?_
    refine pm_iconst (v := nI 1) hG dX12_owed_174 (by decide) ?_
    refine pm_callV (As := [.int (nI 1)]) (rest := []) hG hR dX12_owed_175 (lkX12_80 _ rfl) okV_X12_finds rfl rfl (m_finds (d := 1) (by decide) hn hz (by omega)) rfl rfl hdd (Nat.le_refl _) (Nat.le_refl _) (by decide) (pm_ki (fun v17 σ' cnt' hq => ?_))
    obtain ⟨⟨I18, A18, rfl⟩, rfl, fv17⟩ := hq
    exact pm_iret hG hF dX12_owed_178 rfl (Nat.le_refl _) (Nat.le_refl _) ⟨_, rfl, ⟨_, _, rfl⟩, rfl⟩
  · refine pm_ifN_ne (tgt := 23) hG dX12_owed_14 rfl (by omega) (fun q => absurd q (by omega)) (fun _ => ?_)
    refine pm_aloadn hG dX12_owed_17 rfl ?_
    refine pm_iconst (v := nI 1) hG dX12_owed_18 (by decide) ?_
    refine pm_callV (As := [.int (nI 1)]) (rest := []) hG hR dX12_owed_19 (lkX12_80 _ rfl) okV_X12_finds rfl rfl (m_finds (d := 1) (by decide) hn hz (by omega)) rfl rfl hdd (Nat.le_refl _) (Nat.le_refl _) (by decide) (pm_ki (fun v19 σ' cnt' hq => ?_))
    obtain ⟨⟨I20, A20, rfl⟩, rfl, fv19⟩ := hq
    exact pm_iret hG hF dX12_owed_22 rfl (Nat.le_refl _) (Nat.le_refl _) ⟨_, rfl, ⟨_, _, rfl⟩, rfl⟩
