set_option maxRecDepth 100000 in
set_option maxHeartbeats 4000000 in
theorem m_owed {d B cnt p0 t0 : Nat} {σ : pm_S} {I : Nat → Int32} {A : Nat → Nat → Int32} {n k z : Nat → Int32} {ac wt pl : Int32} {za zb : Int32} (hdd : 2 ≤ d) (hn : KI n) (hz : SZ z)  : pm_met mX12_owed d 0 0 B [.ref (B + 54), .int za, .int zb] cnt (pm_mid σ (md_L B I A n k z ac wt pl (nI p0) (nI t0))) (pm_Qi (fun v σ' cnt' => (∃ (I' : Nat → Int32) (A' : Nat → Nat → Int32), σ' = pm_mid σ (md_L B I' A' n k z ac wt pl (nI p0) (nI t0))) ∧ cnt' = cnt)) := by
  refine pm_enter 3 (by decide) (Nat.le_of_ble_eq_true rfl) rfl (fun G hG hR hF => ?_)
  refine pm_iloadn hG dX12_owed_0 rfl ?_
  refine pm_iconst (v := nI 0) hG dX12_owed_1 (by decide) ?_
  refine pm_aloadn hG dX12_owed_2 rfl ?_
  refine pm_getf hG dX12_owed_3 (flX12_7 _ rfl) rfl rfl ?_
  refine pm_bipush (v := nI 6) hG dX12_owed_6 (by decide) ?_
  refine pm_ialdN hG dX12_owed_8 rfl (by decide) (by omega) ?_
  obtain ⟨k1, hk1, ek1⟩ := KI.nat hn (by decide)
  refine pm_top (v := nI k1) ek1 ?_
  refine pm_iconst (v := nI 1) hG dX12_owed_9 (by decide) ?_
  refine pm_isub hG dX12_owed_10 ?_
  refine pm_callS (As := [.int za, .int (nI 0), .int ((nI k1) - (nI 1))]) (rest := []) hG hR dX12_owed_11 (lkX12_68 _ rfl) okS_X12_in (m_in (d := 1)) rfl rfl hdd (Nat.le_refl _) (Nat.le_refl _) (by decide) (pm_ki (fun v2 σ' cnt' hq => ?_))
  obtain ⟨hq, rfl, rfl⟩ := hq
  rcases hq with ⟨rfl, ac3, bc3⟩ | ⟨rfl, c3⟩
  · obtain ⟨k4, hk4, ek4⟩ := in_cnt (c := k1) (by omega) ac3 bc3
    refine pm_ifN_ne (tgt := 23) hG dX12_owed_14 rfl (by omega) (fun _ => ?_) (fun q => absurd q (by omega))
    refine pm_aloadn hG dX12_owed_23 rfl ?_
    refine pm_getf hG dX12_owed_24 (flX12_7 _ rfl) rfl rfl ?_
    refine pm_sipush (v := nI 1770) hG dX12_owed_27 (by decide) ?_
    refine pm_bipush (v := nI 6) hG dX12_owed_30 (by decide) ?_
    refine pm_iloadn hG dX12_owed_32 rfl ?_
    refine pm_top (v := nI k4) ek4 ?_
    refine pm_imulN (c := 6 * k4) hG dX12_owed_33 (by omega) ?_
    refine pm_iaddN (c := 6 * k4 + 1770) hG dX12_owed_34 (by omega) ?_
    refine pm_iconst (v := nI 4) hG dX12_owed_35 (by decide) ?_
    refine pm_iaddN (c := 6 * k4 + 1774) hG dX12_owed_36 (by omega) ?_
    refine pm_ialdN hG dX12_owed_37 rfl (by decide) (by omega) ?_
    obtain ⟨k5, hk5, ek5⟩ := KI.nat hn (kd_D (k := k4) (c := 4) (by omega) (by omega) (by decide))
    refine pm_top (v := nI k5) ek5 ?_
    refine pm_istoreXn (loc' := [some (.ref (B + 54)), some (.int za), some (.int zb), some (.int (nI k5)), none, none]) hG dX12_owed_38 (by decide) (pm_c1b rfl) rfl ?_
    refine pm_iloadn hG dX12_owed_39 rfl ?_
    by_cases c6 : zb = nI 0
    · refine pm_top (v := nI 0) c6 ?_
      refine pm_tswIn (tgt := 72) hG dX12_owed_40 (by decide) (by decide) rfl rfl ?_
      refine pm_aloadn hG dX12_owed_72 rfl ?_
      refine pm_getf hG dX12_owed_73 (flX12_7 _ rfl) rfl rfl ?_
      refine pm_sipush (v := nI 1770) hG dX12_owed_76 (by decide) ?_
      refine pm_bipush (v := nI 6) hG dX12_owed_79 (by decide) ?_
      refine pm_iloadn hG dX12_owed_81 rfl ?_
      refine pm_top (v := nI k4) ek4 ?_
      refine pm_imulN (c := 6 * k4) hG dX12_owed_82 (by omega) ?_
      refine pm_iaddN (c := 6 * k4 + 1770) hG dX12_owed_83 (by omega) ?_
      refine pm_ialdN hG dX12_owed_84 rfl (by decide) (by omega) ?_
      refine pm_gen (fun x7 ex7 => ?_)
      exact pm_iret hG hF dX12_owed_85 rfl (Nat.le_refl _) (Nat.le_refl _) ⟨_, rfl, ⟨_, _, rfl⟩, rfl⟩
    by_cases c8 : zb = nI 1
    · refine pm_top (v := nI 1) c8 ?_
      refine pm_tswIn (tgt := 86) hG dX12_owed_40 (by decide) (by decide) rfl rfl ?_
      refine pm_aloadn hG dX12_owed_86 rfl ?_
      refine pm_getf hG dX12_owed_87 (flX12_7 _ rfl) rfl rfl ?_
      refine pm_sipush (v := nI 1770) hG dX12_owed_90 (by decide) ?_
      refine pm_bipush (v := nI 6) hG dX12_owed_93 (by decide) ?_
      refine pm_iloadn hG dX12_owed_95 rfl ?_
      refine pm_top (v := nI k4) ek4 ?_
      refine pm_imulN (c := 6 * k4) hG dX12_owed_96 (by omega) ?_
      refine pm_iaddN (c := 6 * k4 + 1770) hG dX12_owed_97 (by omega) ?_
      refine pm_iconst (v := nI 3) hG dX12_owed_98 (by decide) ?_
      refine pm_iaddN (c := 6 * k4 + 1773) hG dX12_owed_99 (by omega) ?_
      refine pm_ialdN hG dX12_owed_100 rfl (by decide) (by omega) ?_
      refine pm_gen (fun x9 ex9 => ?_)
      exact pm_iret hG hF dX12_owed_101 rfl (Nat.le_refl _) (Nat.le_refl _) ⟨_, rfl, ⟨_, _, rfl⟩, rfl⟩
    by_cases c10 : zb = nI 2
    · refine pm_top (v := nI 2) c10 ?_
      refine pm_tswIn (tgt := 102) hG dX12_owed_40 (by decide) (by decide) rfl rfl ?_
      refine pm_aloadn hG dX12_owed_102 rfl ?_
      refine pm_getf hG dX12_owed_103 (flX12_7 _ rfl) rfl rfl ?_
      refine pm_bipush (v := nI 20) hG dX12_owed_106 (by decide) ?_
      refine pm_iconst (v := nI 3) hG dX12_owed_108 (by decide) ?_
      refine pm_iloadn hG dX12_owed_109 rfl ?_
      refine pm_imulN (c := 3 * k5) hG dX12_owed_110 (by omega) ?_
      refine pm_iaddN (c := 3 * k5 + 20) hG dX12_owed_111 (by omega) ?_
      refine pm_iconst (v := nI 2) hG dX12_owed_112 (by decide) ?_
      refine pm_iaddN (c := 3 * k5 + 22) hG dX12_owed_113 (by omega) ?_
      refine pm_ialdN hG dX12_owed_114 rfl (by decide) (by omega) ?_
      refine pm_gen (fun x11 ex11 => ?_)
      exact pm_iret hG hF dX12_owed_115 rfl (Nat.le_refl _) (Nat.le_refl _) ⟨_, rfl, ⟨_, _, rfl⟩, rfl⟩
    by_cases c12 : zb = nI 3
    · refine pm_top (v := nI 3) c12 ?_
      refine pm_tswIn (tgt := 116) hG dX12_owed_40 (by decide) (by decide) rfl rfl ?_
      refine pm_iconst (v := nI 0) hG dX12_owed_116 (by decide) ?_
      refine pm_istoreXi (loc' := [some (.ref (B + 54)), some (.int za), some (.int zb), some (.int (nI k5)), some (.int (nI 0)), none]) hG dX12_owed_117 (by decide) (pm_c1b rfl) rfl ?_
      refine pm_iconst (v := nI 0) hG dX12_owed_119 (by decide) ?_
      refine pm_istoreXi (loc' := [some (.ref (B + 54)), some (.int za), some (.int zb), some (.int (nI k5)), some (.int (nI 0)), some (.int (nI 0))]) hG dX12_owed_120 (by decide) (pm_c1b rfl) rfl ?_
      have loop122_13 : ∀ (m13 : Nat) (I13 : Nat → Int32) (A13 : Nat → Nat → Int32) (x13_4 : Int32) (i13 : Nat), i13 ≤ 6 → 6 - i13 < m13 → pm_wp mX12_owed G B 122 [some (.ref (B + 54)), some (.int za), some (.int zb), some (.int (nI k5)), some (.int x13_4), some (.int (nI i13))] [] 0 0 cnt (pm_mid σ (md_L B I13 A13 n k z ac wt pl (nI p0) (nI t0))) := by
        intro m13
        induction m13 with
        | zero => intro I13 A13 x13_4 i13 _ hm; exact absurd hm (Nat.not_lt_zero _)
        | succ m13 ih13 =>
          intro I13 A13 x13_4 i13 hi13 hm13
          refine pm_iloadi hG dX12_owed_122 rfl ?_
          refine pm_aloadn hG dX12_owed_124 rfl ?_
          refine pm_getf hG dX12_owed_125 (flX12_7 _ rfl) rfl rfl ?_
          refine pm_bipush (v := nI 6) hG dX12_owed_128 (by decide) ?_
          refine pm_ialdN hG dX12_owed_130 rfl (by decide) (by omega) ?_
          refine pm_top (v := nI k1) ek1 ?_
          refine pm_icmpN_ge (tgt := 170) hG dX12_owed_131 rfl (by omega) (by omega) (fun c14 => ?_) (fun c14 => ?_)
          · refine pm_iloadi hG dX12_owed_170 rfl ?_
            exact pm_iret hG hF dX12_owed_172 rfl (Nat.le_refl _) (Nat.le_refl _) ⟨_, rfl, ⟨_, _, rfl⟩, rfl⟩
          · refine pm_iloadi hG dX12_owed_134 rfl ?_
            refine pm_aloadn hG dX12_owed_136 rfl ?_
            refine pm_getf hG dX12_owed_137 (flX12_7 _ rfl) rfl rfl ?_
            refine pm_sipush (v := nI 1770) hG dX12_owed_140 (by decide) ?_
            refine pm_bipush (v := nI 6) hG dX12_owed_143 (by decide) ?_
            refine pm_iloadi hG dX12_owed_145 rfl ?_
            refine pm_imulN (c := 6 * i13) hG dX12_owed_147 (by omega) ?_
            refine pm_iaddN (c := 6 * i13 + 1770) hG dX12_owed_148 (by omega) ?_
            refine pm_iconst (v := nI 4) hG dX12_owed_149 (by decide) ?_
            refine pm_iaddN (c := 6 * i13 + 1774) hG dX12_owed_150 (by omega) ?_
            refine pm_ialdN hG dX12_owed_151 rfl (by decide) (by omega) ?_
            obtain ⟨k15, hk15, ek15⟩ := KI.nat hn (kd_D (k := i13) (c := 4) (by omega) (by omega) (by decide))
            refine pm_top (v := nI k15) ek15 ?_
            refine pm_iloadn hG dX12_owed_152 rfl ?_
            refine pm_icmpN_ne (tgt := 160) hG dX12_owed_153 rfl (by omega) (by omega) (fun c16 => ?_) (fun c16 => ?_)
            · refine pm_iconst (v := nI 0) hG dX12_owed_160 (by decide) ?_
              refine pm_iadd hG dX12_owed_161 ?_
              refine pm_istoreXi (loc' := [some (.ref (B + 54)), some (.int za), some (.int zb), some (.int (nI k5)), some (.int (x13_4 + (nI 0))), some (.int (nI i13))]) hG dX12_owed_162 (by decide) (pm_c1b rfl) rfl ?_
              refine pm_iincX (v := nI (i13 + 1)) (loc' := [some (.ref (B + 54)), some (.int za), some (.int zb), some (.int (nI k5)), some (.int (x13_4 + (nI 0))), some (.int (nI (i13 + 1)))]) hG dX12_owed_164 rfl (nI_1 _) (by decide) (pm_c1b rfl) rfl ?_
              refine pm_goto (tgt := 122) hG dX12_owed_167 rfl ?_
              exact ih13 I13 A13 (x13_4 + (nI 0)) (i13 + 1) (by omega) (by omega)
            · refine pm_iconst (v := nI 1) hG dX12_owed_156 (by decide) ?_
              refine pm_goto (tgt := 161) hG dX12_owed_157 rfl ?_
              refine pm_iadd hG dX12_owed_161 ?_
              refine pm_istoreXi (loc' := [some (.ref (B + 54)), some (.int za), some (.int zb), some (.int (nI k5)), some (.int (x13_4 + (nI 1))), some (.int (nI i13))]) hG dX12_owed_162 (by decide) (pm_c1b rfl) rfl ?_
              refine pm_iincX (v := nI (i13 + 1)) (loc' := [some (.ref (B + 54)), some (.int za), some (.int zb), some (.int (nI k5)), some (.int (x13_4 + (nI 1))), some (.int (nI (i13 + 1)))]) hG dX12_owed_164 rfl (nI_1 _) (by decide) (pm_c1b rfl) rfl ?_
              refine pm_goto (tgt := 122) hG dX12_owed_167 rfl ?_
              exact ih13 I13 A13 (x13_4 + (nI 1)) (i13 + 1) (by omega) (by omega)
      exact loop122_13 _ I A (nI 0) 0 (by omega) (Nat.lt_succ_self _)
    have tc6 : ¬ zb.toInt = 0 := fun q => c6 (Int32.toInt_inj.mp (q.trans (by decide)))
    have tc8 : ¬ zb.toInt = 1 := fun q => c8 (Int32.toInt_inj.mp (q.trans (by decide)))
    have tc10 : ¬ zb.toInt = 2 := fun q => c10 (Int32.toInt_inj.mp (q.trans (by decide)))
    have tc12 : ¬ zb.toInt = 3 := fun q => c12 (Int32.toInt_inj.mp (q.trans (by decide)))
    refine pm_tswOut (tgt := 173) hG dX12_owed_40 (by omega) rfl ?_
    refine pm_aloadn hG dX12_owed_173 rfl ?_
    refine pm_iconst (v := nI 1) hG dX12_owed_174 (by decide) ?_
    refine pm_callV (As := [.int (nI 1)]) (rest := []) hG hR dX12_owed_175 (lkX12_80 _ rfl) okV_X12_finds rfl rfl (m_finds (d := 1) (by decide) hn hz (by omega)) rfl rfl hdd (Nat.le_refl _) (Nat.le_refl _) (by decide) (pm_ki (fun v17 σ' cnt' hq => ?_))
    obtain ⟨⟨I18, A18, rfl⟩, rfl⟩ := hq
    exact pm_iret hG hF dX12_owed_178 rfl (Nat.le_refl _) (Nat.le_refl _) ⟨_, rfl, ⟨_, _, rfl⟩, rfl⟩
  · refine pm_ifN_ne (tgt := 23) hG dX12_owed_14 rfl (by omega) (fun q => absurd q (by omega)) (fun _ => ?_)
    refine pm_aloadn hG dX12_owed_17 rfl ?_
    refine pm_iconst (v := nI 1) hG dX12_owed_18 (by decide) ?_
    refine pm_callV (As := [.int (nI 1)]) (rest := []) hG hR dX12_owed_19 (lkX12_80 _ rfl) okV_X12_finds rfl rfl (m_finds (d := 1) (by decide) hn hz (by omega)) rfl rfl hdd (Nat.le_refl _) (Nat.le_refl _) (by decide) (pm_ki (fun v19 σ' cnt' hq => ?_))
    obtain ⟨⟨I20, A20, rfl⟩, rfl⟩ := hq
    exact pm_iret hG hF dX12_owed_22 rfl (Nat.le_refl _) (Nat.le_refl _) ⟨_, rfl, ⟨_, _, rfl⟩, rfl⟩

set_option maxRecDepth 100000 in
set_option maxHeartbeats 4000000 in
theorem m_own {d B cnt p0 t0 : Nat} {σ : pm_S} {I : Nat → Int32} {A : Nat → Nat → Int32} {n k z : Nat → Int32} {ac wt pl : Int32} {za zb : Int32} (hdd : 2 ≤ d) (hn : KI n) (hr : NR n) (hz : SZ z)  : pm_met mX12_own d 0 0 B [.ref (B + 54), .int za, .int zb] cnt (pm_mid σ (md_L B I A n k z ac wt pl (nI p0) (nI t0))) (pm_Qi (fun v σ' cnt' => (∃ (I' : Nat → Int32) (A' : Nat → Nat → Int32) (n' : Nat → Int32), σ' = pm_mid σ (md_L B I' A' n' k z ac wt pl (nI p0) (nI t0)) ∧ KI n' ∧ NR n') ∧ cnt' = cnt)) := by
  refine pm_enter 1 (by decide) (Nat.le_of_ble_eq_true rfl) rfl (fun G hG hR hF => ?_)
  refine pm_aloadn hG dX12_own_0 rfl ?_
  refine pm_iloadn hG dX12_own_1 rfl ?_
  obtain ⟨k1, hk1, ek1⟩ := KI.nat hn (by decide)
  refine pm_callV (As := [.int za]) (rest := []) hG hR dX12_own_2 (lkX12_84 _ rfl) okV_X12_isTown rfl rfl (m_isTown (d := 1) (by decide) ek1 (by omega)) rfl rfl hdd (Nat.le_refl _) (Nat.le_refl _) (by decide) (pm_ki (fun v2 σ' cnt' hq => ?_))
  obtain ⟨hq, rfl, rfl⟩ := hq
  rcases hq with ⟨rfl, k4, hk4, ek4⟩ | rfl
  · refine pm_ifN_eq (tgt := 29) hG dX12_own_5 rfl (by omega) (fun q => absurd q (by omega)) (fun _ => ?_)
    refine pm_iloadn hG dX12_own_8 rfl ?_
    refine pm_iconst (v := (-1)) hG dX12_own_9 (by decide) ?_
    refine pm_icmp_eq (tgt := 35) hG dX12_own_10 rfl (fun c5 => ?_) (fun c5 => ?_)
    · refine pm_aloadn hG dX12_own_35 rfl ?_
      refine pm_getf hG dX12_own_36 (flX12_7 _ rfl) rfl rfl ?_
      refine pm_bipush (v := nI 20) hG dX12_own_39 (by decide) ?_
      refine pm_iconst (v := nI 3) hG dX12_own_41 (by decide) ?_
      refine pm_iloadn hG dX12_own_42 rfl ?_
      refine pm_top (v := nI k4) ek4 ?_
      refine pm_imulN (c := 3 * k4) hG dX12_own_43 (by omega) ?_
      refine pm_iaddN (c := 3 * k4 + 20) hG dX12_own_44 (by omega) ?_
      refine pm_iconst (v := nI 2) hG dX12_own_45 (by decide) ?_
      refine pm_iaddN (c := 3 * k4 + 22) hG dX12_own_46 (by omega) ?_
      refine pm_ialdN hG dX12_own_47 rfl (by decide) (by omega) ?_
      refine pm_gen (fun x6 ex6 => ?_)
      refine pm_iconst (v := nI 1) hG dX12_own_48 (by decide) ?_
      refine pm_icmp_ne (tgt := 58) hG dX12_own_49 rfl (fun c7 => ?_) (fun c7 => ?_)
      · refine pm_aloadn hG dX12_own_58 rfl ?_
        refine pm_getf hG dX12_own_59 (flX12_7 _ rfl) rfl rfl ?_
        refine pm_bipush (v := nI 20) hG dX12_own_62 (by decide) ?_
        refine pm_iconst (v := nI 3) hG dX12_own_64 (by decide) ?_
        refine pm_iloadn hG dX12_own_65 rfl ?_
        refine pm_top (v := nI k4) ek4 ?_
        refine pm_imulN (c := 3 * k4) hG dX12_own_66 (by omega) ?_
        refine pm_iaddN (c := 3 * k4 + 20) hG dX12_own_67 (by omega) ?_
        refine pm_iconst (v := nI 1) hG dX12_own_68 (by decide) ?_
        refine pm_iaddN (c := 3 * k4 + 21) hG dX12_own_69 (by omega) ?_
        refine pm_ialdN hG dX12_own_70 rfl (by decide) (by omega) ?_
        rcases KI.opt hn (kd_T (k := k4) (c := 1) (by omega) (by omega) (by decide)) with ek8 | ⟨k8, hk8, ek8⟩
        · refine pm_top (v := (-1)) ek8 ?_
          refine pm_istoreXn (loc' := [some (.ref (B + 54)), some (.int za), some (.int zb), some (.int (-1))]) hG dX12_own_71 (by decide) (pm_c1b rfl) rfl ?_
          refine pm_aloadn hG dX12_own_72 rfl ?_
          refine pm_getf hG dX12_own_73 (flX12_7 _ rfl) rfl rfl ?_
          refine pm_bipush (v := nI 20) hG dX12_own_76 (by decide) ?_
          refine pm_iconst (v := nI 3) hG dX12_own_78 (by decide) ?_
          refine pm_iloadn hG dX12_own_79 rfl ?_
          refine pm_top (v := nI k4) ek4 ?_
          refine pm_imulN (c := 3 * k4) hG dX12_own_80 (by omega) ?_
          refine pm_iaddN (c := 3 * k4 + 20) hG dX12_own_81 (by omega) ?_
          refine pm_iconst (v := nI 1) hG dX12_own_82 (by decide) ?_
          refine pm_iaddN (c := 3 * k4 + 21) hG dX12_own_83 (by omega) ?_
          refine pm_iloadn hG dX12_own_84 rfl ?_
          refine pm_top (v := (-1)) c5 ?_
          refine pm_iastN hG dX12_own_85 rfl (by decide) (by omega) ?_
          refine mdn_now (fun n_9 en_9 => ?_)
          have hnn_9 := KI.w en_9 hn (okv_m (kd_T (k := k4) (c := 1) (by omega) (by omega) (by decide)))
          have hrn_9 := NRx.w en_9 hr (by rw [(kd_T (k := k4) (c := 1) (by omega) (by omega) (by decide))]; rfl)
          have e10 : n_9 0 = nI k1 := by rw [en_9, pk_un (by omega)]; exact ek1
          have e11 : n_9 (3 * k4 + 22) = x6 := by rw [en_9, pk_un (by omega)]; exact ex6
          have e12 : n_9 (3 * k4 + 21) = (-1) := by rw [en_9, pk_us]
          refine pm_iloadn hG dX12_own_86 rfl ?_
          exact pm_iret hG hF dX12_own_87 rfl (Nat.le_refl _) (Nat.le_refl _) ⟨_, rfl, ⟨_, _, _, rfl, hnn_9, hrn_9⟩, rfl⟩
        · refine pm_top (v := nI k8) ek8 ?_
          refine pm_istoreXn (loc' := [some (.ref (B + 54)), some (.int za), some (.int zb), some (.int (nI k8))]) hG dX12_own_71 (by decide) (pm_c1b rfl) rfl ?_
          refine pm_aloadn hG dX12_own_72 rfl ?_
          refine pm_getf hG dX12_own_73 (flX12_7 _ rfl) rfl rfl ?_
          refine pm_bipush (v := nI 20) hG dX12_own_76 (by decide) ?_
          refine pm_iconst (v := nI 3) hG dX12_own_78 (by decide) ?_
          refine pm_iloadn hG dX12_own_79 rfl ?_
          refine pm_top (v := nI k4) ek4 ?_
          refine pm_imulN (c := 3 * k4) hG dX12_own_80 (by omega) ?_
          refine pm_iaddN (c := 3 * k4 + 20) hG dX12_own_81 (by omega) ?_
          refine pm_iconst (v := nI 1) hG dX12_own_82 (by decide) ?_
          refine pm_iaddN (c := 3 * k4 + 21) hG dX12_own_83 (by omega) ?_
          refine pm_iloadn hG dX12_own_84 rfl ?_
          refine pm_top (v := (-1)) c5 ?_
          refine pm_iastN hG dX12_own_85 rfl (by decide) (by omega) ?_
          refine mdn_now (fun n_13 en_13 => ?_)
          have hnn_13 := KI.w en_13 hn (okv_m (kd_T (k := k4) (c := 1) (by omega) (by omega) (by decide)))
          have hrn_13 := NRx.w en_13 hr (by rw [(kd_T (k := k4) (c := 1) (by omega) (by omega) (by decide))]; rfl)
          have e14 : n_13 0 = nI k1 := by rw [en_13, pk_un (by omega)]; exact ek1
          have e15 : n_13 (3 * k4 + 22) = x6 := by rw [en_13, pk_un (by omega)]; exact ex6
          have e16 : n_13 (3 * k4 + 21) = (-1) := by rw [en_13, pk_us]
          refine pm_iloadn hG dX12_own_86 rfl ?_
          exact pm_iret hG hF dX12_own_87 rfl (Nat.le_refl _) (Nat.le_refl _) ⟨_, rfl, ⟨_, _, _, rfl, hnn_13, hrn_13⟩, rfl⟩
      · refine pm_aloadn hG dX12_own_52 rfl ?_
        refine pm_iconst (v := nI 3) hG dX12_own_53 (by decide) ?_
        refine pm_callV (As := [.int (nI 3)]) (rest := []) hG hR dX12_own_54 (lkX12_80 _ rfl) okV_X12_finds rfl rfl (m_finds (d := 1) (by decide) hn hz (by omega)) rfl rfl hdd (Nat.le_refl _) (Nat.le_refl _) (by decide) (pm_ki (fun v17 σ' cnt' hq => ?_))
        obtain ⟨⟨I18, A18, rfl⟩, rfl⟩ := hq
        exact pm_iret hG hF dX12_own_57 rfl (Nat.le_refl _) (Nat.le_refl _) ⟨_, rfl, ⟨_, _, _, rfl, hn, hr⟩, rfl⟩
    · refine pm_aloadn hG dX12_own_13 rfl ?_
      refine pm_iloadn hG dX12_own_14 rfl ?_
      obtain ⟨k19, hk19, ek19⟩ := KI.nat hn (by decide)
      refine pm_callV (As := [.int zb]) (rest := []) hG hR dX12_own_15 (lkX12_91 _ rfl) okV_X12_isPerson rfl rfl (m_isPerson (d := 1) (by decide) ek19 (by omega)) rfl rfl hdd (Nat.le_refl _) (Nat.le_refl _) (by decide) (pm_ki (fun v20 σ' cnt' hq => ?_))
      obtain ⟨hq, rfl, rfl⟩ := hq
      rcases hq with ⟨rfl, k22, hk22, ek22⟩ | rfl
      · refine pm_ifN_eq (tgt := 29) hG dX12_own_18 rfl (by omega) (fun q => absurd q (by omega)) (fun _ => ?_)
        refine pm_aloadn hG dX12_own_21 rfl ?_
        refine pm_iloadn hG dX12_own_22 rfl ?_
        refine pm_top (v := nI k22) ek22 ?_
        rcases KI.opt hn (kd_P (k := k22) (c := 9) (by omega) (by omega) (by decide)) with ek23 | ⟨k23, hk23, ek23⟩
        · refine pm_callV (As := [.int (nI k22)]) (rest := []) hG hR dX12_own_23 (lkX12_101 _ rfl) okV_X12_lives rfl rfl (m_lives1 (d := 1) (by decide) (by omega) (by omega : 14 * k22 + 119 = 14 * k22 + 119) ek23) rfl rfl hdd (Nat.le_refl _) (Nat.le_refl _) (by decide) (pm_ki (fun v24 σ' cnt' hq => ?_))
          obtain ⟨rfl, rfl, rfl⟩ := hq
          refine pm_ifN_ne (tgt := 35) hG dX12_own_26 rfl (by omega) (fun _ => ?_) (fun q => absurd q (by omega))
          refine pm_aloadn hG dX12_own_35 rfl ?_
          refine pm_getf hG dX12_own_36 (flX12_7 _ rfl) rfl rfl ?_
          refine pm_bipush (v := nI 20) hG dX12_own_39 (by decide) ?_
          refine pm_iconst (v := nI 3) hG dX12_own_41 (by decide) ?_
          refine pm_iloadn hG dX12_own_42 rfl ?_
          refine pm_top (v := nI k4) ek4 ?_
          refine pm_imulN (c := 3 * k4) hG dX12_own_43 (by omega) ?_
          refine pm_iaddN (c := 3 * k4 + 20) hG dX12_own_44 (by omega) ?_
          refine pm_iconst (v := nI 2) hG dX12_own_45 (by decide) ?_
          refine pm_iaddN (c := 3 * k4 + 22) hG dX12_own_46 (by omega) ?_
          refine pm_ialdN hG dX12_own_47 rfl (by decide) (by omega) ?_
          refine pm_gen (fun x25 ex25 => ?_)
          refine pm_iconst (v := nI 1) hG dX12_own_48 (by decide) ?_
          refine pm_icmp_ne (tgt := 58) hG dX12_own_49 rfl (fun c26 => ?_) (fun c26 => ?_)
          · refine pm_aloadn hG dX12_own_58 rfl ?_
            refine pm_getf hG dX12_own_59 (flX12_7 _ rfl) rfl rfl ?_
            refine pm_bipush (v := nI 20) hG dX12_own_62 (by decide) ?_
            refine pm_iconst (v := nI 3) hG dX12_own_64 (by decide) ?_
            refine pm_iloadn hG dX12_own_65 rfl ?_
            refine pm_top (v := nI k4) ek4 ?_
            refine pm_imulN (c := 3 * k4) hG dX12_own_66 (by omega) ?_
            refine pm_iaddN (c := 3 * k4 + 20) hG dX12_own_67 (by omega) ?_
            refine pm_iconst (v := nI 1) hG dX12_own_68 (by decide) ?_
            refine pm_iaddN (c := 3 * k4 + 21) hG dX12_own_69 (by omega) ?_
            refine pm_ialdN hG dX12_own_70 rfl (by decide) (by omega) ?_
            rcases KI.opt hn (kd_T (k := k4) (c := 1) (by omega) (by omega) (by decide)) with ek27 | ⟨k27, hk27, ek27⟩
            · refine pm_top (v := (-1)) ek27 ?_
              refine pm_istoreXn (loc' := [some (.ref (B + 54)), some (.int za), some (.int zb), some (.int (-1))]) hG dX12_own_71 (by decide) (pm_c1b rfl) rfl ?_
              refine pm_aloadn hG dX12_own_72 rfl ?_
              refine pm_getf hG dX12_own_73 (flX12_7 _ rfl) rfl rfl ?_
              refine pm_bipush (v := nI 20) hG dX12_own_76 (by decide) ?_
              refine pm_iconst (v := nI 3) hG dX12_own_78 (by decide) ?_
              refine pm_iloadn hG dX12_own_79 rfl ?_
              refine pm_top (v := nI k4) ek4 ?_
              refine pm_imulN (c := 3 * k4) hG dX12_own_80 (by omega) ?_
              refine pm_iaddN (c := 3 * k4 + 20) hG dX12_own_81 (by omega) ?_
              refine pm_iconst (v := nI 1) hG dX12_own_82 (by decide) ?_
              refine pm_iaddN (c := 3 * k4 + 21) hG dX12_own_83 (by omega) ?_
              refine pm_iloadn hG dX12_own_84 rfl ?_
              refine pm_top (v := nI k22) ek22 ?_
              refine pm_iastN hG dX12_own_85 rfl (by decide) (by omega) ?_
              refine mdn_now (fun n_28 en_28 => ?_)
              have hnn_28 := KI.w en_28 hn (okv_o (kd_T (k := k4) (c := 1) (by omega) (by omega) (by decide)) (by omega))
              have hrn_28 := NRx.w en_28 hr (by rw [(kd_T (k := k4) (c := 1) (by omega) (by omega) (by decide))]; rfl)
              have e29 : n_28 0 = nI k1 := by rw [en_28, pk_un (by omega)]; exact ek1
              have e30 : n_28 2 = nI k19 := by rw [en_28, pk_un (by omega)]; exact ek19
              have e31 : n_28 (14 * k22 + 119) = (-1) := by rw [en_28, pk_un (by omega)]; exact ek23
              have e32 : n_28 (3 * k4 + 22) = x25 := by rw [en_28, pk_un (by omega)]; exact ex25
              have e33 : n_28 (3 * k4 + 21) = nI k22 := by rw [en_28, pk_us]
              refine pm_iloadn hG dX12_own_86 rfl ?_
              exact pm_iret hG hF dX12_own_87 rfl (Nat.le_refl _) (Nat.le_refl _) ⟨_, rfl, ⟨_, _, _, rfl, hnn_28, hrn_28⟩, rfl⟩
            · refine pm_top (v := nI k27) ek27 ?_
              refine pm_istoreXn (loc' := [some (.ref (B + 54)), some (.int za), some (.int zb), some (.int (nI k27))]) hG dX12_own_71 (by decide) (pm_c1b rfl) rfl ?_
              refine pm_aloadn hG dX12_own_72 rfl ?_
              refine pm_getf hG dX12_own_73 (flX12_7 _ rfl) rfl rfl ?_
              refine pm_bipush (v := nI 20) hG dX12_own_76 (by decide) ?_
              refine pm_iconst (v := nI 3) hG dX12_own_78 (by decide) ?_
              refine pm_iloadn hG dX12_own_79 rfl ?_
              refine pm_top (v := nI k4) ek4 ?_
              refine pm_imulN (c := 3 * k4) hG dX12_own_80 (by omega) ?_
              refine pm_iaddN (c := 3 * k4 + 20) hG dX12_own_81 (by omega) ?_
              refine pm_iconst (v := nI 1) hG dX12_own_82 (by decide) ?_
              refine pm_iaddN (c := 3 * k4 + 21) hG dX12_own_83 (by omega) ?_
              refine pm_iloadn hG dX12_own_84 rfl ?_
              refine pm_top (v := nI k22) ek22 ?_
              refine pm_iastN hG dX12_own_85 rfl (by decide) (by omega) ?_
              refine mdn_now (fun n_34 en_34 => ?_)
              have hnn_34 := KI.w en_34 hn (okv_o (kd_T (k := k4) (c := 1) (by omega) (by omega) (by decide)) (by omega))
              have hrn_34 := NRx.w en_34 hr (by rw [(kd_T (k := k4) (c := 1) (by omega) (by omega) (by decide))]; rfl)
              have e35 : n_34 0 = nI k1 := by rw [en_34, pk_un (by omega)]; exact ek1
              have e36 : n_34 2 = nI k19 := by rw [en_34, pk_un (by omega)]; exact ek19
              have e37 : n_34 (14 * k22 + 119) = (-1) := by rw [en_34, pk_un (by omega)]; exact ek23
              have e38 : n_34 (3 * k4 + 22) = x25 := by rw [en_34, pk_un (by omega)]; exact ex25
              have e39 : n_34 (3 * k4 + 21) = nI k22 := by rw [en_34, pk_us]
              refine pm_iloadn hG dX12_own_86 rfl ?_
              exact pm_iret hG hF dX12_own_87 rfl (Nat.le_refl _) (Nat.le_refl _) ⟨_, rfl, ⟨_, _, _, rfl, hnn_34, hrn_34⟩, rfl⟩
          · refine pm_aloadn hG dX12_own_52 rfl ?_
            refine pm_iconst (v := nI 3) hG dX12_own_53 (by decide) ?_
            refine pm_callV (As := [.int (nI 3)]) (rest := []) hG hR dX12_own_54 (lkX12_80 _ rfl) okV_X12_finds rfl rfl (m_finds (d := 1) (by decide) hn hz (by omega)) rfl rfl hdd (Nat.le_refl _) (Nat.le_refl _) (by decide) (pm_ki (fun v40 σ' cnt' hq => ?_))
            obtain ⟨⟨I41, A41, rfl⟩, rfl⟩ := hq
            exact pm_iret hG hF dX12_own_57 rfl (Nat.le_refl _) (Nat.le_refl _) ⟨_, rfl, ⟨_, _, _, rfl, hn, hr⟩, rfl⟩
        · refine pm_callV (As := [.int (nI k22)]) (rest := []) hG hR dX12_own_23 (lkX12_101 _ rfl) okV_X12_lives rfl rfl (m_lives0 (d := 1) (by decide) (by omega) (by omega : 14 * k22 + 119 = 14 * k22 + 119) ek23 (by omega)) rfl rfl hdd (Nat.le_refl _) (Nat.le_refl _) (by decide) (pm_ki (fun v42 σ' cnt' hq => ?_))
          obtain ⟨rfl, rfl, rfl⟩ := hq
          refine pm_ifN_ne (tgt := 35) hG dX12_own_26 rfl (by omega) (fun q => absurd q (by omega)) (fun _ => ?_)
          refine pm_aloadn hG dX12_own_29 rfl ?_
          refine pm_iconst (v := nI 1) hG dX12_own_30 (by decide) ?_
          refine pm_callV (As := [.int (nI 1)]) (rest := []) hG hR dX12_own_31 (lkX12_80 _ rfl) okV_X12_finds rfl rfl (m_finds (d := 1) (by decide) hn hz (by omega)) rfl rfl hdd (Nat.le_refl _) (Nat.le_refl _) (by decide) (pm_ki (fun v43 σ' cnt' hq => ?_))
          obtain ⟨⟨I44, A44, rfl⟩, rfl⟩ := hq
          exact pm_iret hG hF dX12_own_34 rfl (Nat.le_refl _) (Nat.le_refl _) ⟨_, rfl, ⟨_, _, _, rfl, hn, hr⟩, rfl⟩
      · refine pm_ifN_eq (tgt := 29) hG dX12_own_18 rfl (by omega) (fun _ => ?_) (fun q => absurd q (by omega))
        refine pm_aloadn hG dX12_own_29 rfl ?_
        refine pm_iconst (v := nI 1) hG dX12_own_30 (by decide) ?_
        refine pm_callV (As := [.int (nI 1)]) (rest := []) hG hR dX12_own_31 (lkX12_80 _ rfl) okV_X12_finds rfl rfl (m_finds (d := 1) (by decide) hn hz (by omega)) rfl rfl hdd (Nat.le_refl _) (Nat.le_refl _) (by decide) (pm_ki (fun v45 σ' cnt' hq => ?_))
        obtain ⟨⟨I46, A46, rfl⟩, rfl⟩ := hq
        exact pm_iret hG hF dX12_own_34 rfl (Nat.le_refl _) (Nat.le_refl _) ⟨_, rfl, ⟨_, _, _, rfl, hn, hr⟩, rfl⟩
  · refine pm_ifN_eq (tgt := 29) hG dX12_own_5 rfl (by omega) (fun _ => ?_) (fun q => absurd q (by omega))
    refine pm_aloadn hG dX12_own_29 rfl ?_
    refine pm_iconst (v := nI 1) hG dX12_own_30 (by decide) ?_
    refine pm_callV (As := [.int (nI 1)]) (rest := []) hG hR dX12_own_31 (lkX12_80 _ rfl) okV_X12_finds rfl rfl (m_finds (d := 1) (by decide) hn hz (by omega)) rfl rfl hdd (Nat.le_refl _) (Nat.le_refl _) (by decide) (pm_ki (fun v47 σ' cnt' hq => ?_))
    obtain ⟨⟨I48, A48, rfl⟩, rfl⟩ := hq
    exact pm_iret hG hF dX12_own_34 rfl (Nat.le_refl _) (Nat.le_refl _) ⟨_, rfl, ⟨_, _, _, rfl, hn, hr⟩, rfl⟩

set_option maxRecDepth 100000 in
set_option maxHeartbeats 4000000 in
theorem m_pay {d B cnt p0 t0 : Nat} {σ : pm_S} {I : Nat → Int32} {A : Nat → Nat → Int32} {n k z : Nat → Int32} {ac wt pl : Int32} {za zb : Int32} (hdd : 2 ≤ d) (hn : KI n) (hr : NR n) (hz : SZ z)  : pm_met mX12_pay d 0 0 B [.ref (B + 54), .int za, .int zb] cnt (pm_mid σ (md_L B I A n k z ac wt pl (nI p0) (nI t0))) (pm_Qi (fun v σ' cnt' => (∃ (I' : Nat → Int32) (A' : Nat → Nat → Int32) (n' : Nat → Int32), σ' = pm_mid σ (md_L B I' A' n' k z ac wt pl (nI p0) (nI t0)) ∧ KI n' ∧ NR n') ∧ cnt' = cnt)) := by
  refine pm_enter 0 (by decide) (Nat.le_of_ble_eq_true rfl) rfl (fun G hG hR hF => ?_)
  refine pm_aloadn hG dX12_pay_0 rfl ?_
  refine pm_iloadn hG dX12_pay_1 rfl ?_
  obtain ⟨k1, hk1, ek1⟩ := KI.nat hn (by decide)
  refine pm_callV (As := [.int za]) (rest := []) hG hR dX12_pay_2 (lkX12_91 _ rfl) okV_X12_isPerson rfl rfl (m_isPerson (d := 1) (by decide) ek1 (by omega)) rfl rfl hdd (Nat.le_refl _) (Nat.le_refl _) (by decide) (pm_ki (fun v2 σ' cnt' hq => ?_))
  obtain ⟨hq, rfl, rfl⟩ := hq
  rcases hq with ⟨rfl, k4, hk4, ek4⟩ | rfl
  · refine pm_ifN_eq (tgt := 19) hG dX12_pay_5 rfl (by omega) (fun q => absurd q (by omega)) (fun _ => ?_)
    refine pm_iloadn hG dX12_pay_8 rfl ?_
    refine pm_iconst (v := nI 1) hG dX12_pay_9 (by decide) ?_
    refine pm_sipush (v := nI 9999) hG dX12_pay_10 (by decide) ?_
    refine pm_callS (As := [.int zb, .int (nI 1), .int (nI 9999)]) (rest := []) hG hR dX12_pay_13 (lkX12_68 _ rfl) okS_X12_in (m_in (d := 1)) rfl rfl hdd (Nat.le_refl _) (Nat.le_refl _) (by decide) (pm_ki (fun v5 σ' cnt' hq => ?_))
    obtain ⟨hq, rfl, rfl⟩ := hq
    rcases hq with ⟨rfl, ac6, bc6⟩ | ⟨rfl, c6⟩
    · obtain ⟨k7, hk7, ek7⟩ := in_nat (by omega) (by omega) ac6 bc6
      refine pm_ifN_ne (tgt := 25) hG dX12_pay_16 rfl (by omega) (fun _ => ?_) (fun q => absurd q (by omega))
      refine pm_aloadn hG dX12_pay_25 rfl ?_
      refine pm_iloadn hG dX12_pay_26 rfl ?_
      refine pm_top (v := nI k4) ek4 ?_
      rcases KI.opt hn (kd_P (k := k4) (c := 9) (by omega) (by omega) (by decide)) with ek8 | ⟨k8, hk8, ek8⟩
      · refine pm_callV (As := [.int (nI k4)]) (rest := []) hG hR dX12_pay_27 (lkX12_101 _ rfl) okV_X12_lives rfl rfl (m_lives1 (d := 1) (by decide) (by omega) (by omega : 14 * k4 + 119 = 14 * k4 + 119) ek8) rfl rfl hdd (Nat.le_refl _) (Nat.le_refl _) (by decide) (pm_ki (fun v9 σ' cnt' hq => ?_))
        obtain ⟨rfl, rfl, rfl⟩ := hq
        refine pm_ifN_ne (tgt := 39) hG dX12_pay_30 rfl (by omega) (fun _ => ?_) (fun q => absurd q (by omega))
        refine pm_aloadn hG dX12_pay_39 rfl ?_
        refine pm_getf hG dX12_pay_40 (flX12_7 _ rfl) rfl rfl ?_
        refine pm_bipush (v := nI 9) hG dX12_pay_43 (by decide) ?_
        refine pm_ialdN hG dX12_pay_45 rfl (by decide) (by omega) ?_
        refine pm_gen (fun x10 ex10 => ?_)
        refine pm_iloadn hG dX12_pay_46 rfl ?_
        refine pm_top (v := nI k7) ek7 ?_
        refine pm_icmp_ge (tgt := 56) hG dX12_pay_47 rfl (fun c11 => ?_) (fun c11 => ?_)
        · refine pm_aloadn hG dX12_pay_56 rfl ?_
          refine pm_getf hG dX12_pay_57 (flX12_7 _ rfl) rfl rfl ?_
          refine pm_bipush (v := nI 9) hG dX12_pay_60 (by decide) ?_
          refine pm_dup2 hG dX12_pay_62 rfl rfl ?_
          refine pm_ialdN hG dX12_pay_63 rfl (by decide) (by omega) ?_
          refine pm_top (v := x10) ex10 ?_
          refine pm_iloadn hG dX12_pay_64 rfl ?_
          refine pm_top (v := nI k7) ek7 ?_
          refine pm_isub hG dX12_pay_65 ?_
          refine pm_iastN hG dX12_pay_66 rfl (by decide) (by omega) ?_
          refine mdn_now (fun n_12 en_12 => ?_)
          have hnn_12 := KI.w en_12 hn (okv_f (by decide))
          have hrn_12 := NRx.w en_12 hr (by decide)
          have e13 : n_12 2 = nI k1 := by rw [en_12, pk_un (by omega)]; exact ek1
          have e14 : n_12 (14 * k4 + 119) = (-1) := by rw [en_12, pk_un (by omega)]; exact ek8
          have e15 : n_12 9 = x10 - (nI k7) := by rw [en_12, pk_us]
          refine pm_aloadn hG dX12_pay_67 rfl ?_
          refine pm_iloadn hG dX12_pay_68 rfl ?_
          refine pm_top (v := nI k4) ek4 ?_
          refine pm_bipush (v := nI 7) hG dX12_pay_69 (by decide) ?_
          refine pm_aloadn hG dX12_pay_71 rfl ?_
          refine pm_iloadn hG dX12_pay_72 rfl ?_
          refine pm_top (v := nI k4) ek4 ?_
          refine pm_bipush (v := nI 7) hG dX12_pay_73 (by decide) ?_
          refine pm_callV (As := [.int (nI k4), .int (nI 7)]) (rest := [.int (nI 7), .int (nI k4), .ref (B + 54)]) hG hR dX12_pay_75 (lkX12_72 _ rfl) okV_X12_man rfl rfl (m_man (d := 1) (e := 14 * k4 + 117) (by omega) (by omega) (by omega)) rfl rfl hdd (Nat.le_refl _) (Nat.le_refl _) (Nat.le_of_ble_eq_true rfl) (pm_ki (fun v16 σ' cnt' hq => ?_))
          obtain ⟨rfl, rfl, rfl⟩ := hq
          refine pm_gen (fun x17 ex17 => ?_)
          refine pm_iloadn hG dX12_pay_78 rfl ?_
          refine pm_top (v := nI k7) ek7 ?_
          refine pm_iadd hG dX12_pay_79 ?_
          refine pm_callV (As := [.int (nI k4), .int (nI 7), .int (x17 + (nI k7))]) (rest := []) hG hR dX12_pay_80 (lkX12_97 _ rfl) okV_X12_sets rfl rfl (m_sets (d := 1) (e := 14 * k4 + 117) (by omega) (by omega) (by omega)) rfl rfl hdd (Nat.le_refl _) (Nat.le_refl _) (by decide) (pm_kv (fun σ' cnt' hq => ?_))
          obtain ⟨rfl, rfl⟩ := hq
          obtain ⟨n_18, en_18⟩ : ∃ f : Nat → Int32, f = upd n_12 (14 * k4 + 117) (x17 + (nI k7)) := ⟨_, rfl⟩
          rw [← en_18]
          have hnn_18 := KI.w en_18 hnn_12 (okv_f (kd_P (k := k4) (c := 7) (by omega) (by omega) (by decide)))
          have hrn_18 := NRx.w en_18 hrn_12 (by rw [(kd_P (k := k4) (c := 7) (by omega) (by omega) (by decide))]; rfl)
          have e19 : n_18 2 = nI k1 := by rw [en_18, pk_un (by omega)]; exact e13
          have e20 : n_18 (14 * k4 + 119) = (-1) := by rw [en_18, pk_un (by omega)]; exact e14
          have e21 : n_18 9 = x10 - (nI k7) := by rw [en_18, pk_un (by omega)]; exact e15
          have e22 : n_18 (14 * k4 + 117) = x17 + (nI k7) := by rw [en_18, pk_us]
          refine pm_aloadn hG dX12_pay_83 rfl ?_
          refine pm_getf hG dX12_pay_84 (flX12_7 _ rfl) rfl rfl ?_
          refine pm_bipush (v := nI 9) hG dX12_pay_87 (by decide) ?_
          refine pm_ialdN hG dX12_pay_89 rfl (by decide) (by omega) ?_
          refine pm_top (v := x10 - (nI k7)) e21 ?_
          exact pm_iret hG hF dX12_pay_90 rfl (Nat.le_refl _) (Nat.le_refl _) ⟨_, rfl, ⟨_, _, _, rfl, hnn_18, hrn_18⟩, rfl⟩
        · refine pm_aloadn hG dX12_pay_50 rfl ?_
          refine pm_iconst (v := nI 2) hG dX12_pay_51 (by decide) ?_
          refine pm_callV (As := [.int (nI 2)]) (rest := []) hG hR dX12_pay_52 (lkX12_80 _ rfl) okV_X12_finds rfl rfl (m_finds (d := 1) (by decide) hn hz (by omega)) rfl rfl hdd (Nat.le_refl _) (Nat.le_refl _) (by decide) (pm_ki (fun v23 σ' cnt' hq => ?_))
          obtain ⟨⟨I24, A24, rfl⟩, rfl⟩ := hq
          exact pm_iret hG hF dX12_pay_55 rfl (Nat.le_refl _) (Nat.le_refl _) ⟨_, rfl, ⟨_, _, _, rfl, hn, hr⟩, rfl⟩
      · refine pm_callV (As := [.int (nI k4)]) (rest := []) hG hR dX12_pay_27 (lkX12_101 _ rfl) okV_X12_lives rfl rfl (m_lives0 (d := 1) (by decide) (by omega) (by omega : 14 * k4 + 119 = 14 * k4 + 119) ek8 (by omega)) rfl rfl hdd (Nat.le_refl _) (Nat.le_refl _) (by decide) (pm_ki (fun v25 σ' cnt' hq => ?_))
        obtain ⟨rfl, rfl, rfl⟩ := hq
        refine pm_ifN_ne (tgt := 39) hG dX12_pay_30 rfl (by omega) (fun q => absurd q (by omega)) (fun _ => ?_)
        refine pm_aloadn hG dX12_pay_33 rfl ?_
        refine pm_iconst (v := nI 3) hG dX12_pay_34 (by decide) ?_
        refine pm_callV (As := [.int (nI 3)]) (rest := []) hG hR dX12_pay_35 (lkX12_80 _ rfl) okV_X12_finds rfl rfl (m_finds (d := 1) (by decide) hn hz (by omega)) rfl rfl hdd (Nat.le_refl _) (Nat.le_refl _) (by decide) (pm_ki (fun v26 σ' cnt' hq => ?_))
        obtain ⟨⟨I27, A27, rfl⟩, rfl⟩ := hq
        exact pm_iret hG hF dX12_pay_38 rfl (Nat.le_refl _) (Nat.le_refl _) ⟨_, rfl, ⟨_, _, _, rfl, hn, hr⟩, rfl⟩
    · refine pm_ifN_ne (tgt := 25) hG dX12_pay_16 rfl (by omega) (fun q => absurd q (by omega)) (fun _ => ?_)
      refine pm_aloadn hG dX12_pay_19 rfl ?_
      refine pm_iconst (v := nI 1) hG dX12_pay_20 (by decide) ?_
      refine pm_callV (As := [.int (nI 1)]) (rest := []) hG hR dX12_pay_21 (lkX12_80 _ rfl) okV_X12_finds rfl rfl (m_finds (d := 1) (by decide) hn hz (by omega)) rfl rfl hdd (Nat.le_refl _) (Nat.le_refl _) (by decide) (pm_ki (fun v28 σ' cnt' hq => ?_))
      obtain ⟨⟨I29, A29, rfl⟩, rfl⟩ := hq
      exact pm_iret hG hF dX12_pay_24 rfl (Nat.le_refl _) (Nat.le_refl _) ⟨_, rfl, ⟨_, _, _, rfl, hn, hr⟩, rfl⟩
  · refine pm_ifN_eq (tgt := 19) hG dX12_pay_5 rfl (by omega) (fun _ => ?_) (fun q => absurd q (by omega))
    refine pm_aloadn hG dX12_pay_19 rfl ?_
    refine pm_iconst (v := nI 1) hG dX12_pay_20 (by decide) ?_
    refine pm_callV (As := [.int (nI 1)]) (rest := []) hG hR dX12_pay_21 (lkX12_80 _ rfl) okV_X12_finds rfl rfl (m_finds (d := 1) (by decide) hn hz (by omega)) rfl rfl hdd (Nat.le_refl _) (Nat.le_refl _) (by decide) (pm_ki (fun v30 σ' cnt' hq => ?_))
    obtain ⟨⟨I31, A31, rfl⟩, rfl⟩ := hq
    exact pm_iret hG hF dX12_pay_24 rfl (Nat.le_refl _) (Nat.le_refl _) ⟨_, rfl, ⟨_, _, _, rfl, hn, hr⟩, rfl⟩

set_option maxRecDepth 100000 in
set_option maxHeartbeats 4000000 in
theorem m_newPower_m {d B cnt p0 t0 : Nat} {σ : pm_S} {I : Nat → Int32} {A : Nat → Nat → Int32} {n k z : Nat → Int32} {ac wt pl : Int32} {za zc zd : Int32} {c0 : Nat} (hdd : 2 ≤ d) (hn : KI n) (hr : NR n) (hz : SZ z) (ec0 : n 3 = nI c0) (hc0 : c0 < 20) : pm_met mX12_newPower d 0 0 B [.ref (B + 54), .int za, .int (-1), .int zc, .int zd] cnt (pm_mid σ (md_L B I A n k z ac wt pl (nI p0) (nI t0))) (pm_Qi (fun v σ' cnt' => (∃ (n' : Nat → Int32), σ' = pm_mid σ (md_L B I A n' k z ac wt pl (nI p0) (nI t0)) ∧ KI n' ∧ NR n') ∧ cnt' = cnt)) := by
  refine pm_enter 1 (by decide) (Nat.le_of_ble_eq_true rfl) rfl (fun G hG hR hF => ?_)
  refine pm_aloadn hG dX12_newPower_0 rfl ?_
  refine pm_getf hG dX12_newPower_1 (flX12_7 _ rfl) rfl rfl ?_
  refine pm_iconst (v := nI 3) hG dX12_newPower_4 (by decide) ?_
  refine pm_ialdN hG dX12_newPower_5 rfl (by decide) (by omega) ?_
  refine pm_top (v := nI c0) ec0 ?_
  refine pm_istoreXi (loc' := [some (.ref (B + 54)), some (.int za), some (.int (-1)), some (.int zc), some (.int zd), some (.int (nI c0))]) hG dX12_newPower_6 (by decide) (pm_c1b rfl) rfl ?_
  refine pm_aloadn hG dX12_newPower_8 rfl ?_
  refine pm_getf hG dX12_newPower_9 (flX12_7 _ rfl) rfl rfl ?_
  refine pm_iconst (v := nI 3) hG dX12_newPower_12 (by decide) ?_
  refine pm_dup2 hG dX12_newPower_13 rfl rfl ?_
  refine pm_ialdN hG dX12_newPower_14 rfl (by decide) (by omega) ?_
  refine pm_top (v := nI c0) ec0 ?_
  refine pm_iconst (v := nI 1) hG dX12_newPower_15 (by decide) ?_
  refine pm_iaddN (c := c0 + 1) hG dX12_newPower_16 (by omega) ?_
  refine pm_iastN hG dX12_newPower_17 rfl (by decide) (by omega) ?_
  refine mdn_now (fun n_1 en_1 => ?_)
  have hnn_1 := KI.w en_1 hn (okv_n (by decide) (by omega))
  have hrn_1 := NRx.w en_1 hr (by decide)
  have e2 : n_1 3 = nI (c0 + 1) := by rw [en_1, pk_us]
  refine pm_aloadn hG dX12_newPower_18 rfl ?_
  refine pm_iloadi hG dX12_newPower_19 rfl ?_
  refine pm_iconst (v := nI 0) hG dX12_newPower_21 (by decide) ?_
  refine pm_iloadn hG dX12_newPower_22 rfl ?_
  refine pm_callV (As := [.int (nI c0), .int (nI 0), .int za]) (rest := []) hG hR dX12_newPower_23 (lkX12_113 _ rfl) okV_X12_makes rfl rfl (m_makes (d := 1) (e := 6 * c0 + 390) (by omega) (by omega) (by omega)) rfl rfl hdd (Nat.le_refl _) (Nat.le_refl _) (by decide) (pm_kv (fun σ' cnt' hq => ?_))
  obtain ⟨rfl, rfl⟩ := hq
  obtain ⟨n_3, en_3⟩ : ∃ f : Nat → Int32, f = upd n_1 (6 * c0 + 390) za := ⟨_, rfl⟩
  rw [← en_3]
  have hnn_3 := KI.w en_3 hnn_1 (okv_f (kd_W (k := c0) (c := 0) (by omega) (by omega) (by decide)))
  have hrn_3 := NRx.w en_3 hrn_1 (by rw [(kd_W (k := c0) (c := 0) (by omega) (by omega) (by decide))]; rfl)
  have e4 : n_3 3 = nI (c0 + 1) := by rw [en_3, pk_un (by omega)]; exact e2
  have e5 : n_3 (6 * c0 + 390) = za := by rw [en_3, pk_us]
  refine pm_aloadn hG dX12_newPower_26 rfl ?_
  refine pm_iloadi hG dX12_newPower_27 rfl ?_
  refine pm_iconst (v := nI 1) hG dX12_newPower_29 (by decide) ?_
  refine pm_iloadn hG dX12_newPower_30 rfl ?_
  refine pm_callV (As := [.int (nI c0), .int (nI 1), .int (-1)]) (rest := []) hG hR dX12_newPower_31 (lkX12_113 _ rfl) okV_X12_makes rfl rfl (m_makes (d := 1) (e := 6 * c0 + 391) (by omega) (by omega) (by omega)) rfl rfl hdd (Nat.le_refl _) (Nat.le_refl _) (by decide) (pm_kv (fun σ' cnt' hq => ?_))
  obtain ⟨rfl, rfl⟩ := hq
  obtain ⟨n_6, en_6⟩ : ∃ f : Nat → Int32, f = upd n_3 (6 * c0 + 391) (-1) := ⟨_, rfl⟩
  rw [← en_6]
  have hnn_6 := KI.w en_6 hnn_3 (okv_m (kd_W (k := c0) (c := 1) (by omega) (by omega) (by decide)))
  have hrn_6 := NRx.w en_6 hrn_3 (by rw [(kd_W (k := c0) (c := 1) (by omega) (by omega) (by decide))]; rfl)
  have e7 : n_6 3 = nI (c0 + 1) := by rw [en_6, pk_un (by omega)]; exact e4
  have e8 : n_6 (6 * c0 + 390) = za := by rw [en_6, pk_un (by omega)]; exact e5
  have e9 : n_6 (6 * c0 + 391) = (-1) := by rw [en_6, pk_us]
  refine pm_aloadn hG dX12_newPower_34 rfl ?_
  refine pm_iloadi hG dX12_newPower_35 rfl ?_
  refine pm_iconst (v := nI 4) hG dX12_newPower_37 (by decide) ?_
  refine pm_iloadn hG dX12_newPower_38 rfl ?_
  refine pm_callV (As := [.int (nI c0), .int (nI 4), .int zc]) (rest := []) hG hR dX12_newPower_39 (lkX12_113 _ rfl) okV_X12_makes rfl rfl (m_makes (d := 1) (e := 6 * c0 + 394) (by omega) (by omega) (by omega)) rfl rfl hdd (Nat.le_refl _) (Nat.le_refl _) (by decide) (pm_kv (fun σ' cnt' hq => ?_))
  obtain ⟨rfl, rfl⟩ := hq
  obtain ⟨n_10, en_10⟩ : ∃ f : Nat → Int32, f = upd n_6 (6 * c0 + 394) zc := ⟨_, rfl⟩
  rw [← en_10]
  have hnn_10 := KI.w en_10 hnn_6 (okv_f (kd_W (k := c0) (c := 4) (by omega) (by omega) (by decide)))
  have hrn_10 := NRx.w en_10 hrn_6 (by rw [(kd_W (k := c0) (c := 4) (by omega) (by omega) (by decide))]; rfl)
  have e11 : n_10 3 = nI (c0 + 1) := by rw [en_10, pk_un (by omega)]; exact e7
  have e12 : n_10 (6 * c0 + 390) = za := by rw [en_10, pk_un (by omega)]; exact e8
  have e13 : n_10 (6 * c0 + 391) = (-1) := by rw [en_10, pk_un (by omega)]; exact e9
  have e14 : n_10 (6 * c0 + 394) = zc := by rw [en_10, pk_us]
  refine pm_aloadn hG dX12_newPower_42 rfl ?_
  refine pm_iloadi hG dX12_newPower_43 rfl ?_
  refine pm_iconst (v := nI 5) hG dX12_newPower_45 (by decide) ?_
  refine pm_iloadi hG dX12_newPower_46 rfl ?_
  refine pm_if_ge (tgt := 56) hG dX12_newPower_48 rfl (fun c15 => ?_) (fun c15 => ?_)
  · obtain ⟨k16, hk16, ek16⟩ := nI_of (Int32.not_lt.mpr c15)
    refine pm_iloadi hG dX12_newPower_56 rfl ?_
    refine pm_top (v := nI k16) ek16 ?_
    refine pm_callV (As := [.int (nI c0), .int (nI 5), .int (nI k16)]) (rest := []) hG hR dX12_newPower_58 (lkX12_113 _ rfl) okV_X12_makes rfl rfl (m_makes (d := 1) (e := 6 * c0 + 395) (by omega) (by omega) (by omega)) rfl rfl hdd (Nat.le_refl _) (Nat.le_refl _) (by decide) (pm_kv (fun σ' cnt' hq => ?_))
    obtain ⟨rfl, rfl⟩ := hq
    obtain ⟨n_17, en_17⟩ : ∃ f : Nat → Int32, f = upd n_10 (6 * c0 + 395) (nI k16) := ⟨_, rfl⟩
    rw [← en_17]
    have hnn_17 := KI.w en_17 hnn_10 (okv_f (kd_W (k := c0) (c := 5) (by omega) (by omega) (by decide)))
    have hrn_17 := NRx.w en_17 hrn_10 (by rw [(kd_W (k := c0) (c := 5) (by omega) (by omega) (by decide))]; rfl)
    have e18 : n_17 3 = nI (c0 + 1) := by rw [en_17, pk_un (by omega)]; exact e11
    have e19 : n_17 (6 * c0 + 390) = za := by rw [en_17, pk_un (by omega)]; exact e12
    have e20 : n_17 (6 * c0 + 391) = (-1) := by rw [en_17, pk_un (by omega)]; exact e13
    have e21 : n_17 (6 * c0 + 394) = zc := by rw [en_17, pk_un (by omega)]; exact e14
    have e22 : n_17 (6 * c0 + 395) = nI k16 := by rw [en_17, pk_us]
    refine pm_aloadn hG dX12_newPower_61 rfl ?_
    refine pm_iloadi hG dX12_newPower_62 rfl ?_
    refine pm_callV (As := [.int (nI c0)]) (rest := []) hG hR dX12_newPower_64 (lkX12_116 _ rfl) okV_X12_comesBack rfl rfl (m_comesBack (d := 1) (e := 6 * c0 + 392) (e2 := 6 * c0 + 393) (by decide) (by omega) (by omega) (by omega)) rfl rfl hdd (Nat.le_refl _) (Nat.le_refl _) (by decide) (pm_kv (fun σ' cnt' hq => ?_))
    obtain ⟨rfl, rfl⟩ := hq
    obtain ⟨n_23, en_23⟩ : ∃ f : Nat → Int32, f = upd n_17 (6 * c0 + 392) (-1) := ⟨_, rfl⟩
    rw [← en_23]
    have hnn_23 := KI.w en_23 hnn_17 (okv_m (kd_W (k := c0) (c := 2) (by omega) (by omega) (by decide)))
    have hrn_23 := NRx.w en_23 hrn_17 (by rw [(kd_W (k := c0) (c := 2) (by omega) (by omega) (by decide))]; rfl)
    have e24 : n_23 3 = nI (c0 + 1) := by rw [en_23, pk_un (by omega)]; exact e18
    have e25 : n_23 (6 * c0 + 390) = za := by rw [en_23, pk_un (by omega)]; exact e19
    have e26 : n_23 (6 * c0 + 391) = (-1) := by rw [en_23, pk_un (by omega)]; exact e20
    have e27 : n_23 (6 * c0 + 394) = zc := by rw [en_23, pk_un (by omega)]; exact e21
    have e28 : n_23 (6 * c0 + 395) = nI k16 := by rw [en_23, pk_un (by omega)]; exact e22
    have e29 : n_23 (6 * c0 + 392) = (-1) := by rw [en_23, pk_us]
    obtain ⟨n_30, en_30⟩ : ∃ f : Nat → Int32, f = upd n_23 (6 * c0 + 393) (-1) := ⟨_, rfl⟩
    rw [← en_30]
    have hnn_30 := KI.w en_30 hnn_23 (okv_f (kd_W (k := c0) (c := 3) (by omega) (by omega) (by decide)))
    have hrn_30 := NRx.w en_30 hrn_23 (by rw [(kd_W (k := c0) (c := 3) (by omega) (by omega) (by decide))]; rfl)
    have e31 : n_30 3 = nI (c0 + 1) := by rw [en_30, pk_un (by omega)]; exact e24
    have e32 : n_30 (6 * c0 + 390) = za := by rw [en_30, pk_un (by omega)]; exact e25
    have e33 : n_30 (6 * c0 + 391) = (-1) := by rw [en_30, pk_un (by omega)]; exact e26
    have e34 : n_30 (6 * c0 + 394) = zc := by rw [en_30, pk_un (by omega)]; exact e27
    have e35 : n_30 (6 * c0 + 395) = nI k16 := by rw [en_30, pk_un (by omega)]; exact e28
    have e36 : n_30 (6 * c0 + 392) = (-1) := by rw [en_30, pk_un (by omega)]; exact e29
    have e37 : n_30 (6 * c0 + 393) = (-1) := by rw [en_30, pk_us]
    refine pm_iloadi hG dX12_newPower_67 rfl ?_
    exact pm_iret hG hF dX12_newPower_69 rfl (Nat.le_refl _) (Nat.le_refl _) ⟨_, rfl, ⟨_, rfl, hnn_30, hrn_30⟩, rfl⟩
  · refine pm_iloadi hG dX12_newPower_51 rfl ?_
    refine pm_goto (tgt := 58) hG dX12_newPower_53 rfl ?_
    refine pm_callV (As := [.int (nI c0), .int (nI 5), .int (nI c0)]) (rest := []) hG hR dX12_newPower_58 (lkX12_113 _ rfl) okV_X12_makes rfl rfl (m_makes (d := 1) (e := 6 * c0 + 395) (by omega) (by omega) (by omega)) rfl rfl hdd (Nat.le_refl _) (Nat.le_refl _) (by decide) (pm_kv (fun σ' cnt' hq => ?_))
    obtain ⟨rfl, rfl⟩ := hq
    obtain ⟨n_38, en_38⟩ : ∃ f : Nat → Int32, f = upd n_10 (6 * c0 + 395) (nI c0) := ⟨_, rfl⟩
    rw [← en_38]
    have hnn_38 := KI.w en_38 hnn_10 (okv_f (kd_W (k := c0) (c := 5) (by omega) (by omega) (by decide)))
    have hrn_38 := NRx.w en_38 hrn_10 (by rw [(kd_W (k := c0) (c := 5) (by omega) (by omega) (by decide))]; rfl)
    have e39 : n_38 3 = nI (c0 + 1) := by rw [en_38, pk_un (by omega)]; exact e11
    have e40 : n_38 (6 * c0 + 390) = za := by rw [en_38, pk_un (by omega)]; exact e12
    have e41 : n_38 (6 * c0 + 391) = (-1) := by rw [en_38, pk_un (by omega)]; exact e13
    have e42 : n_38 (6 * c0 + 394) = zc := by rw [en_38, pk_un (by omega)]; exact e14
    have e43 : n_38 (6 * c0 + 395) = nI c0 := by rw [en_38, pk_us]
    refine pm_aloadn hG dX12_newPower_61 rfl ?_
    refine pm_iloadi hG dX12_newPower_62 rfl ?_
    refine pm_callV (As := [.int (nI c0)]) (rest := []) hG hR dX12_newPower_64 (lkX12_116 _ rfl) okV_X12_comesBack rfl rfl (m_comesBack (d := 1) (e := 6 * c0 + 392) (e2 := 6 * c0 + 393) (by decide) (by omega) (by omega) (by omega)) rfl rfl hdd (Nat.le_refl _) (Nat.le_refl _) (by decide) (pm_kv (fun σ' cnt' hq => ?_))
    obtain ⟨rfl, rfl⟩ := hq
    obtain ⟨n_44, en_44⟩ : ∃ f : Nat → Int32, f = upd n_38 (6 * c0 + 392) (-1) := ⟨_, rfl⟩
    rw [← en_44]
    have hnn_44 := KI.w en_44 hnn_38 (okv_m (kd_W (k := c0) (c := 2) (by omega) (by omega) (by decide)))
    have hrn_44 := NRx.w en_44 hrn_38 (by rw [(kd_W (k := c0) (c := 2) (by omega) (by omega) (by decide))]; rfl)
    have e45 : n_44 3 = nI (c0 + 1) := by rw [en_44, pk_un (by omega)]; exact e39
    have e46 : n_44 (6 * c0 + 390) = za := by rw [en_44, pk_un (by omega)]; exact e40
    have e47 : n_44 (6 * c0 + 391) = (-1) := by rw [en_44, pk_un (by omega)]; exact e41
    have e48 : n_44 (6 * c0 + 394) = zc := by rw [en_44, pk_un (by omega)]; exact e42
    have e49 : n_44 (6 * c0 + 395) = nI c0 := by rw [en_44, pk_un (by omega)]; exact e43
    have e50 : n_44 (6 * c0 + 392) = (-1) := by rw [en_44, pk_us]
    obtain ⟨n_51, en_51⟩ : ∃ f : Nat → Int32, f = upd n_44 (6 * c0 + 393) (-1) := ⟨_, rfl⟩
    rw [← en_51]
    have hnn_51 := KI.w en_51 hnn_44 (okv_f (kd_W (k := c0) (c := 3) (by omega) (by omega) (by decide)))
    have hrn_51 := NRx.w en_51 hrn_44 (by rw [(kd_W (k := c0) (c := 3) (by omega) (by omega) (by decide))]; rfl)
    have e52 : n_51 3 = nI (c0 + 1) := by rw [en_51, pk_un (by omega)]; exact e45
    have e53 : n_51 (6 * c0 + 390) = za := by rw [en_51, pk_un (by omega)]; exact e46
    have e54 : n_51 (6 * c0 + 391) = (-1) := by rw [en_51, pk_un (by omega)]; exact e47
    have e55 : n_51 (6 * c0 + 394) = zc := by rw [en_51, pk_un (by omega)]; exact e48
    have e56 : n_51 (6 * c0 + 395) = nI c0 := by rw [en_51, pk_un (by omega)]; exact e49
    have e57 : n_51 (6 * c0 + 392) = (-1) := by rw [en_51, pk_un (by omega)]; exact e50
    have e58 : n_51 (6 * c0 + 393) = (-1) := by rw [en_51, pk_us]
    refine pm_iloadi hG dX12_newPower_67 rfl ?_
    exact pm_iret hG hF dX12_newPower_69 rfl (Nat.le_refl _) (Nat.le_refl _) ⟨_, rfl, ⟨_, rfl, hnn_51, hrn_51⟩, rfl⟩
