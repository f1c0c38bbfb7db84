set_option maxRecDepth 100000 in
set_option maxHeartbeats 4000000 in
theorem m_finds {d B cnt p0 t0 : Nat} {σ : pm_S} {I : Nat → Int32} {A : Nat → Nat → Int32} {n k z : Nat → Int32} {ac wt pl im : Int32} {ba : Nat} (hdd : 1 ≤ d) (hn : KI n) (hz : SZ z) (hba : ba < 6) : pm_met mX12_finds d 0 0 B [.ref (B + 54), .int (nI ba)] cnt (pm_mid σ (md_L B I A n k z ac wt pl (nI p0) (nI t0) im)) (pm_Qi (fun v σ' cnt' => (∃ (I' : Nat → Int32) (A' : Nat → Nat → Int32), σ' = pm_mid σ (md_L B I' A' n k z ac wt pl (nI p0) (nI t0) im)) ∧ cnt = cnt' ∧ v = (-1000000) - nI ba)) := by
  refine pm_enter 0 (by decide) (Nat.le_of_ble_eq_true rfl) rfl (fun G hG hR hF => ?_)
  refine pm_aloadn hG dX12_finds_0 rfl ?_
  refine pm_getf hG dX12_finds_1 (flX12_16 _ rfl) rfl rfl ?_
  refine pm_iloadn hG dX12_finds_4 rfl ?_
  refine pm_dup2 hG dX12_finds_5 rfl rfl ?_
  refine pm_ialdN hG dX12_finds_6 rfl (by decide) (by omega) ?_
  refine pm_any (fun x1 => ?_)
  refine pm_iconst (v := nI 1) hG dX12_finds_7 (by decide) ?_
  refine pm_iadd hG dX12_finds_8 ?_
  refine pm_iastN hG dX12_finds_9 rfl (by decide) (by omega) ?_
  refine mdn_found (fun A_2 => ?_)
  refine pm_ldc hG dX12_finds_10 (ctX12_67 _ rfl) ?_
  refine pm_iloadn hG dX12_finds_12 rfl ?_
  refine pm_isub hG dX12_finds_13 ?_
  exact pm_iret hG hF dX12_finds_14 rfl (Nat.le_refl _) (Nat.le_refl _) ⟨_, rfl, ⟨_, _, rfl⟩, rfl, rfl⟩

set_option maxRecDepth 100000 in
set_option maxHeartbeats 4000000 in
theorem m_about {d B cnt p0 t0 : Nat} {σ : pm_S} {I : Nat → Int32} {A : Nat → Nat → Int32} {n k z : Nat → Int32} {ac wt pl im : Int32} {za zb : Int32} (hdd : 4 ≤ d) (hn : KI n) (hz : SZ z)  : pm_met mX12_about d 0 0 B [.ref (B + 54), .int za, .int zb] cnt (pm_mid σ (md_L B I A n k z ac wt pl (nI p0) (nI t0) im)) (pm_Qi (fun v σ' cnt' => (∃ (I' : Nat → Int32) (A' : Nat → Nat → Int32), σ' = pm_mid σ (md_L B I' A' n k z ac wt pl (nI p0) (nI t0) im)) ∧ cnt = cnt')) := by
  refine pm_enter 0 (by decide) (Nat.le_of_ble_eq_true rfl) rfl (fun G hG hR hF => ?_)
  refine pm_aloadn hG dX12_about_0 rfl ?_
  refine pm_iloadn hG dX12_about_1 rfl ?_
  obtain ⟨k1, hk1, ek1⟩ := KI.nat hn (show kd 2 = (1, 21, true) by decide)
  refine pm_callV (As := [.int za]) (rest := []) hG hR dX12_about_2 (lkX12_91 _ rfl) okV_X12_isPerson rfl rfl (m_isPerson (d := 3) (by decide) ek1 (by omega)) rfl rfl hdd (Nat.le_refl _) (Nat.le_refl _) (by decide) (pm_ki (fun v2 σ' cnt' hq => ?_))
  obtain ⟨hq, rfl, rfl⟩ := hq
  rcases hq with ⟨rfl, k4, hk4, ek4⟩ | ⟨rfl, ntk4⟩
  · refine pm_ifN_ne (tgt := 14) hG dX12_about_5 rfl (by omega) (fun _ => ?_) (fun q => absurd q (by omega))
    refine pm_iloadn hG dX12_about_14 rfl ?_
    by_cases c5 : zb = nI 0
    · refine pm_top (v := nI 0) c5 ?_
      refine pm_tswIn (tgt := 68) hG dX12_about_15 (by decide) (by decide) rfl rfl ?_
      refine pm_aloadn hG dX12_about_68 rfl ?_
      refine pm_iloadn hG dX12_about_69 rfl ?_
      refine pm_top (v := nI k4) ek4 ?_
      refine pm_iconst (v := nI 4) hG dX12_about_70 (by decide) ?_
      refine pm_callV (As := [.int (nI k4), .int (nI 4)]) (rest := []) hG hR dX12_about_71 (lkX12_72 _ rfl) okV_X12_man rfl rfl (m_man (d := 3) (e := 14 * k4 + 114) (by omega) (by omega) (by omega)) rfl rfl hdd (Nat.le_refl _) (Nat.le_refl _) (by decide) (pm_ki (fun v6 σ' cnt' hq => ?_))
      obtain ⟨rfl, rfl, rfl⟩ := hq
      rcases KI.opt hn (show kd (14 * k4 + 114) = (2, 10, false) from (kd_P (k := k4) (c := 4) (by omega) (by omega) (by decide))) with ek7 | ⟨k7, hk7, ek7⟩
      · refine pm_top (v := (-1)) ek7 ?_
        exact pm_iret hG hF dX12_about_74 rfl (Nat.le_refl _) (Nat.le_refl _) ⟨_, rfl, ⟨_, _, rfl⟩, rfl⟩
      · refine pm_top (v := nI k7) ek7 ?_
        exact pm_iret hG hF dX12_about_74 rfl (Nat.le_refl _) (Nat.le_refl _) ⟨_, rfl, ⟨_, _, rfl⟩, rfl⟩
    by_cases c8 : zb = nI 1
    · refine pm_top (v := nI 1) c8 ?_
      refine pm_tswIn (tgt := 75) hG dX12_about_15 (by decide) (by decide) rfl rfl ?_
      refine pm_aloadn hG dX12_about_75 rfl ?_
      refine pm_iloadn hG dX12_about_76 rfl ?_
      refine pm_top (v := nI k4) ek4 ?_
      refine pm_bipush (v := nI 7) hG dX12_about_77 (by decide) ?_
      refine pm_callV (As := [.int (nI k4), .int (nI 7)]) (rest := []) hG hR dX12_about_79 (lkX12_72 _ rfl) okV_X12_man rfl rfl (m_man (d := 3) (e := 14 * k4 + 117) (by omega) (by omega) (by omega)) rfl rfl hdd (Nat.le_refl _) (Nat.le_refl _) (by decide) (pm_ki (fun v9 σ' cnt' hq => ?_))
      obtain ⟨rfl, rfl, rfl⟩ := hq
      refine pm_gen (fun x10 ex10 => ?_)
      exact pm_iret hG hF dX12_about_82 rfl (Nat.le_refl _) (Nat.le_refl _) ⟨_, rfl, ⟨_, _, rfl⟩, rfl⟩
    by_cases c11 : zb = nI 2
    · refine pm_top (v := nI 2) c11 ?_
      refine pm_tswIn (tgt := 83) hG dX12_about_15 (by decide) (by decide) rfl rfl ?_
      refine pm_aloadn hG dX12_about_83 rfl ?_
      refine pm_iloadn hG dX12_about_84 rfl ?_
      refine pm_top (v := nI k4) ek4 ?_
      refine pm_bipush (v := nI 8) hG dX12_about_85 (by decide) ?_
      refine pm_callV (As := [.int (nI k4), .int (nI 8)]) (rest := []) hG hR dX12_about_87 (lkX12_72 _ rfl) okV_X12_man rfl rfl (m_man (d := 3) (e := 14 * k4 + 118) (by omega) (by omega) (by omega)) rfl rfl hdd (Nat.le_refl _) (Nat.le_refl _) (by decide) (pm_ki (fun v12 σ' cnt' hq => ?_))
      obtain ⟨rfl, rfl, rfl⟩ := hq
      refine pm_gen (fun x13 ex13 => ?_)
      exact pm_iret hG hF dX12_about_90 rfl (Nat.le_refl _) (Nat.le_refl _) ⟨_, rfl, ⟨_, _, rfl⟩, rfl⟩
    by_cases c14 : zb = nI 3
    · refine pm_top (v := nI 3) c14 ?_
      refine pm_tswIn (tgt := 91) hG dX12_about_15 (by decide) (by decide) rfl rfl ?_
      refine pm_aloadn hG dX12_about_91 rfl ?_
      refine pm_getf hG dX12_about_92 (flX12_7 _ rfl) rfl rfl ?_
      refine pm_bipush (v := nI 8) hG dX12_about_95 (by decide) ?_
      refine pm_ialdN hG dX12_about_97 rfl (by decide) (by omega) ?_
      obtain ⟨k15, hk15, ek15⟩ := KI.nat hn (show kd 8 = (1, 2001, false) by decide)
      refine pm_top (v := nI k15) ek15 ?_
      refine pm_aloadn hG dX12_about_98 rfl ?_
      refine pm_iloadn hG dX12_about_99 rfl ?_
      refine pm_top (v := nI k4) ek4 ?_
      refine pm_iconst (v := nI 1) hG dX12_about_100 (by decide) ?_
      refine pm_callV (As := [.int (nI k4), .int (nI 1)]) (rest := [.int (nI k15)]) hG hR dX12_about_101 (lkX12_72 _ rfl) okV_X12_man rfl rfl (m_man (d := 3) (e := 14 * k4 + 111) (by omega) (by omega) (by omega)) rfl rfl hdd (Nat.le_refl _) (Nat.le_refl _) (Nat.le_of_ble_eq_true rfl) (pm_ki (fun v16 σ' cnt' hq => ?_))
      obtain ⟨rfl, rfl, rfl⟩ := hq
      refine pm_gen (fun x17 ex17 => ?_)
      refine pm_isub hG dX12_about_104 ?_
      refine pm_sipush (v := nI 360) hG dX12_about_105 (by decide) ?_
      refine pm_idiv hG dX12_about_108 (by decide) ?_
      refine pm_any (fun x18 => ?_)
      exact pm_iret hG hF dX12_about_109 rfl (Nat.le_refl _) (Nat.le_refl _) ⟨_, rfl, ⟨_, _, rfl⟩, rfl⟩
    by_cases c19 : zb = nI 4
    · refine pm_top (v := nI 4) c19 ?_
      refine pm_tswIn (tgt := 110) hG dX12_about_15 (by decide) (by decide) rfl rfl ?_
      refine pm_aloadn hG dX12_about_110 rfl ?_
      refine pm_iloadn hG dX12_about_111 rfl ?_
      refine pm_top (v := nI k4) ek4 ?_
      refine pm_callV (As := [.int (nI k4)]) (rest := []) hG hR dX12_about_112 (lkX12_104 _ rfl) okV_X12_knownTo rfl rfl (m_knownTo (d := 3) (by decide) hn hz (by omega)) rfl rfl hdd (Nat.le_refl _) (Nat.le_refl _) (by decide) (pm_ki (fun v20 σ' cnt' hq => ?_))
      obtain ⟨⟨I21, A21, rfl⟩, rfl⟩ := hq
      exact pm_iret hG hF dX12_about_115 rfl (Nat.le_refl _) (Nat.le_refl _) ⟨_, rfl, ⟨_, _, rfl⟩, rfl⟩
    by_cases c22 : zb = nI 5
    · refine pm_top (v := nI 5) c22 ?_
      refine pm_tswIn (tgt := 116) hG dX12_about_15 (by decide) (by decide) rfl rfl ?_
      refine pm_aloadn hG dX12_about_116 rfl ?_
      refine pm_iloadn hG dX12_about_117 rfl ?_
      refine pm_top (v := nI k4) ek4 ?_
      refine pm_callV (As := [.int (nI k4)]) (rest := []) hG hR dX12_about_118 (lkX12_122 _ rfl) okV_X12_holdsMany rfl rfl (m_holdsMany (d := 3) (by decide) hn hz) rfl rfl hdd (Nat.le_refl _) (Nat.le_refl _) (by decide) (pm_ki (fun v23 σ' cnt' hq => ?_))
      obtain ⟨rfl, rfl⟩ := hq
      exact pm_iret hG hF dX12_about_121 rfl (Nat.le_refl _) (Nat.le_refl _) ⟨_, rfl, ⟨_, _, rfl⟩, rfl⟩
    by_cases c25 : zb = nI 6
    · refine pm_top (v := nI 6) c25 ?_
      refine pm_tswIn (tgt := 122) hG dX12_about_15 (by decide) (by decide) rfl rfl ?_
      refine pm_aloadn hG dX12_about_122 rfl ?_
      refine pm_iloadn hG dX12_about_123 rfl ?_
      refine pm_top (v := nI k4) ek4 ?_
      rcases KI.opt hn (show kd (14 * k4 + 119) = (2, 2001, false) from (kd_P (k := k4) (c := 9) (by omega) (by omega) (by decide))) with ek26 | ⟨k26, hk26, ek26⟩
      · refine pm_callV (As := [.int (nI k4)]) (rest := []) hG hR dX12_about_124 (lkX12_101 _ rfl) okV_X12_lives rfl rfl (m_lives1 (d := 3) (by decide) (by omega) (by omega : 14 * k4 + 119 = 14 * k4 + 119) ek26) rfl rfl hdd (Nat.le_refl _) (Nat.le_refl _) (by decide) (pm_ki (fun v27 σ' cnt' hq => ?_))
        obtain ⟨rfl, rfl, rfl⟩ := hq
        refine pm_ifN_eq (tgt := 134) hG dX12_about_127 rfl (by omega) (fun q => absurd q (by omega)) (fun _ => ?_)
        refine pm_iconst (v := nI 0) hG dX12_about_130 (by decide) ?_
        refine pm_goto (tgt := 135) hG dX12_about_131 rfl ?_
        exact pm_iret hG hF dX12_about_135 rfl (Nat.le_refl _) (Nat.le_refl _) ⟨_, rfl, ⟨_, _, rfl⟩, rfl⟩
      · refine pm_callV (As := [.int (nI k4)]) (rest := []) hG hR dX12_about_124 (lkX12_101 _ rfl) okV_X12_lives rfl rfl (m_lives0 (d := 3) (by decide) (by omega) (by omega : 14 * k4 + 119 = 14 * k4 + 119) ek26 (by omega)) rfl rfl hdd (Nat.le_refl _) (Nat.le_refl _) (by decide) (pm_ki (fun v28 σ' cnt' hq => ?_))
        obtain ⟨rfl, rfl, rfl⟩ := hq
        refine pm_ifN_eq (tgt := 134) hG dX12_about_127 rfl (by omega) (fun _ => ?_) (fun q => absurd q (by omega))
        refine pm_iconst (v := nI 1) hG dX12_about_134 (by decide) ?_
        exact pm_iret hG hF dX12_about_135 rfl (Nat.le_refl _) (Nat.le_refl _) ⟨_, rfl, ⟨_, _, rfl⟩, rfl⟩
    by_cases c29 : zb = nI 7
    · refine pm_top (v := nI 7) c29 ?_
      refine pm_tswIn (tgt := 136) hG dX12_about_15 (by decide) (by decide) rfl rfl ?_
      refine pm_aloadn hG dX12_about_136 rfl ?_
      refine pm_iloadn hG dX12_about_137 rfl ?_
      refine pm_top (v := nI k4) ek4 ?_
      refine pm_bipush (v := nI 11) hG dX12_about_138 (by decide) ?_
      refine pm_callV (As := [.int (nI k4), .int (nI 11)]) (rest := []) hG hR dX12_about_140 (lkX12_72 _ rfl) okV_X12_man rfl rfl (m_man (d := 3) (e := 14 * k4 + 121) (by omega) (by omega) (by omega)) rfl rfl hdd (Nat.le_refl _) (Nat.le_refl _) (by decide) (pm_ki (fun v30 σ' cnt' hq => ?_))
      obtain ⟨rfl, rfl, rfl⟩ := hq
      obtain ⟨k31, hk31, ek31⟩ := KI.nat hn (show kd (14 * k4 + 121) = (1, 2, true) from (kd_P (k := k4) (c := 11) (by omega) (by omega) (by decide)))
      refine pm_top (v := nI k31) ek31 ?_
      exact pm_iret hG hF dX12_about_143 rfl (Nat.le_refl _) (Nat.le_refl _) ⟨_, rfl, ⟨_, _, rfl⟩, rfl⟩
    by_cases c32 : zb = nI 8
    · refine pm_top (v := nI 8) c32 ?_
      refine pm_tswIn (tgt := 144) hG dX12_about_15 (by decide) (by decide) rfl rfl ?_
      refine pm_aloadn hG dX12_about_144 rfl ?_
      refine pm_iloadn hG dX12_about_145 rfl ?_
      refine pm_top (v := nI k4) ek4 ?_
      refine pm_callV (As := [.int (nI k4)]) (rest := []) hG hR dX12_about_146 (lkX12_125 _ rfl) okV_X12_stepsOf rfl rfl (m_stepsOf (d := 3) (by decide) hn hz (by omega)) rfl rfl hdd (Nat.le_refl _) (Nat.le_refl _) (by decide) (pm_ki (fun v33 σ' cnt' hq => ?_))
      obtain ⟨⟨I34, A34, rfl⟩, rfl⟩ := hq
      exact pm_iret hG hF dX12_about_149 rfl (Nat.le_refl _) (Nat.le_refl _) ⟨_, rfl, ⟨_, _, rfl⟩, rfl⟩
    by_cases c35 : zb = nI 9
    · refine pm_top (v := nI 9) c35 ?_
      refine pm_tswIn (tgt := 150) hG dX12_about_15 (by decide) (by decide) rfl rfl ?_
      refine pm_aloadn hG dX12_about_150 rfl ?_
      refine pm_iloadn hG dX12_about_151 rfl ?_
      refine pm_top (v := nI k4) ek4 ?_
      refine pm_bipush (v := nI 12) hG dX12_about_152 (by decide) ?_
      refine pm_callV (As := [.int (nI k4), .int (nI 12)]) (rest := []) hG hR dX12_about_154 (lkX12_72 _ rfl) okV_X12_man rfl rfl (m_man (d := 3) (e := 14 * k4 + 122) (by omega) (by omega) (by omega)) rfl rfl hdd (Nat.le_refl _) (Nat.le_refl _) (by decide) (pm_ki (fun v36 σ' cnt' hq => ?_))
      obtain ⟨rfl, rfl, rfl⟩ := hq
      refine pm_gen (fun x37 ex37 => ?_)
      exact pm_iret hG hF dX12_about_157 rfl (Nat.le_refl _) (Nat.le_refl _) ⟨_, rfl, ⟨_, _, rfl⟩, rfl⟩
    have tc5 : ¬ zb.toInt = 0 := fun q => c5 (Int32.toInt_inj.mp (q.trans (by decide)))
    have tc8 : ¬ zb.toInt = 1 := fun q => c8 (Int32.toInt_inj.mp (q.trans (by decide)))
    have tc11 : ¬ zb.toInt = 2 := fun q => c11 (Int32.toInt_inj.mp (q.trans (by decide)))
    have tc14 : ¬ zb.toInt = 3 := fun q => c14 (Int32.toInt_inj.mp (q.trans (by decide)))
    have tc19 : ¬ zb.toInt = 4 := fun q => c19 (Int32.toInt_inj.mp (q.trans (by decide)))
    have tc22 : ¬ zb.toInt = 5 := fun q => c22 (Int32.toInt_inj.mp (q.trans (by decide)))
    have tc25 : ¬ zb.toInt = 6 := fun q => c25 (Int32.toInt_inj.mp (q.trans (by decide)))
    have tc29 : ¬ zb.toInt = 7 := fun q => c29 (Int32.toInt_inj.mp (q.trans (by decide)))
    have tc32 : ¬ zb.toInt = 8 := fun q => c32 (Int32.toInt_inj.mp (q.trans (by decide)))
    have tc35 : ¬ zb.toInt = 9 := fun q => c35 (Int32.toInt_inj.mp (q.trans (by decide)))
    refine pm_tswOut (tgt := 158) hG dX12_about_15 (by omega) rfl ?_
    refine pm_aloadn hG dX12_about_158 rfl ?_
    refine pm_iconst (v := nI 1) hG dX12_about_159 (by decide) ?_
    refine pm_callV (As := [.int (nI 1)]) (rest := []) hG hR dX12_about_160 (lkX12_80 _ rfl) okV_X12_finds rfl rfl (m_finds (d := 3) (by decide) hn hz (by omega)) rfl rfl hdd (Nat.le_refl _) (Nat.le_refl _) (by decide) (pm_ki (fun v38 σ' cnt' hq => ?_))
    obtain ⟨⟨I39, A39, rfl⟩, rfl, fv38⟩ := hq
    exact pm_iret hG hF dX12_about_163 rfl (Nat.le_refl _) (Nat.le_refl _) ⟨_, rfl, ⟨_, _, rfl⟩, rfl⟩
  · refine pm_ifN_ne (tgt := 14) hG dX12_about_5 rfl (by omega) (fun q => absurd q (by omega)) (fun _ => ?_)
    refine pm_aloadn hG dX12_about_8 rfl ?_
    refine pm_iconst (v := nI 1) hG dX12_about_9 (by decide) ?_
    refine pm_callV (As := [.int (nI 1)]) (rest := []) hG hR dX12_about_10 (lkX12_80 _ rfl) okV_X12_finds rfl rfl (m_finds (d := 3) (by decide) hn hz (by omega)) rfl rfl hdd (Nat.le_refl _) (Nat.le_refl _) (by decide) (pm_ki (fun v40 σ' cnt' hq => ?_))
    obtain ⟨⟨I41, A41, rfl⟩, rfl, fv40⟩ := hq
    exact pm_iret hG hF dX12_about_13 rfl (Nat.le_refl _) (Nat.le_refl _) ⟨_, rfl, ⟨_, _, rfl⟩, rfl⟩

set_option maxRecDepth 100000 in
set_option maxHeartbeats 4000000 in
theorem m_ran {d B cnt p0 t0 : Nat} {σ : pm_S} {I : Nat → Int32} {A : Nat → Nat → Int32} {n k z : Nat → Int32} {ac wt pl im : Int32} {za : Int32} (hdd : 1 ≤ d) (hn : KI n) (hz : SZ z) (ht0 : t0 ≤ 40)  : pm_met mX12_ran d 0 0 B [.ref (B + 54), .int za] cnt (pm_mid σ (md_L B I A n k z ac wt pl (nI p0) (nI t0) im)) (pm_Qv (fun σ' cnt' => (∃ (I' : Nat → Int32) (A' : Nat → Nat → Int32) (t0' : Nat), σ' = pm_mid σ (md_L B I' A' n k z ac wt pl (nI p0) (nI t0') im) ∧ t0' ≤ 40) ∧ cnt = cnt')) := by
  refine pm_enter 0 (by decide) (Nat.le_of_ble_eq_true rfl) rfl (fun G hG hR hF => ?_)
  refine pm_aloadn hG dX12_ran_0 rfl ?_
  refine pm_getf hG dX12_ran_1 (flX12_283 _ rfl) rfl rfl ?_
  refine pm_bipush (v := nI 40) hG dX12_ran_4 (by decide) ?_
  refine pm_icmpN_ge (tgt := 29) hG dX12_ran_6 rfl (by omega) (by omega) (fun c1 => ?_) (fun c1 => ?_)
  · exact pm_vret hG hF dX12_ran_29 rfl (Nat.le_refl _) (Nat.le_refl _) ⟨rfl, ⟨_, _, _, rfl, by omega⟩, rfl⟩
  · refine pm_aloadn hG dX12_ran_9 rfl ?_
    refine pm_getf hG dX12_ran_10 (flX12_52 _ rfl) rfl rfl ?_
    refine pm_aloadn hG dX12_ran_13 rfl ?_
    refine pm_getf hG dX12_ran_14 (flX12_283 _ rfl) rfl rfl ?_
    refine pm_iloadn hG dX12_ran_17 rfl ?_
    refine pm_iastN hG dX12_ran_18 rfl (by decide) (by omega) ?_
    refine mdn_trace (fun A_2 => ?_)
    refine pm_aloadn hG dX12_ran_19 rfl ?_
    refine pm_dup hG dX12_ran_20 rfl ?_
    refine pm_getf hG dX12_ran_21 (flX12_283 _ rfl) rfl rfl ?_
    refine pm_iconst (v := nI 1) hG dX12_ran_24 (by decide) ?_
    refine pm_iaddN (c := t0 + 1) hG dX12_ran_25 (by omega) ?_
    refine pm_putf hG dX12_ran_26 (fwX12_283 _ rfl) rfl rfl rfl ?_
    refine mdn_traced ?_
    exact pm_vret hG hF dX12_ran_29 rfl (Nat.le_refl _) (Nat.le_refl _) ⟨rfl, ⟨_, _, _, rfl, by omega⟩, rfl⟩

set_option maxRecDepth 100000 in
set_option maxHeartbeats 4000000 in
theorem m_actsPower {d B cnt p0 t0 : Nat} {σ : pm_S} {I : Nat → Int32} {A : Nat → Nat → Int32} {n k z : Nat → Int32} {ac wt pl im : Int32} {zb : Int32} {ba : Nat} (hdd : 2 ≤ d) (hn : KI n) (hz : SZ z) (ht0 : t0 ≤ 40) (hba : ba < 20) : pm_met mX12_actsPower d 0 0 B [.ref (B + 54), .int (nI ba), .int zb] cnt (pm_mid σ (md_L B I A n k z ac wt pl (nI p0) (nI t0) im)) (pm_Qi (fun v σ' cnt' => (∃ (I' : Nat → Int32) (A' : Nat → Nat → Int32) (t0' : Nat), σ' = pm_mid σ (md_L B I' A' n k z ac wt pl (nI p0) (nI t0') im) ∧ t0' ≤ 40) ∧ cnt = cnt')) := by
  refine pm_enter 0 (by decide) (Nat.le_of_ble_eq_true rfl) rfl (fun G hG hR hF => ?_)
  refine pm_aloadn hG dX12_actsPower_0 rfl ?_
  refine pm_bipush (v := nI 10) hG dX12_actsPower_1 (by decide) ?_
  refine pm_callV (As := [.int (nI 10)]) (rest := []) hG hR dX12_actsPower_3 (lkX12_286 _ rfl) okV_X12_ran rfl rfl (m_ran (d := 1) (by decide) hn hz (by omega)) rfl rfl hdd (Nat.le_refl _) (Nat.le_refl _) (by decide) (pm_kv (fun σ' cnt' hq => ?_))
  obtain ⟨⟨I2, A2, t2, rfl, ht2⟩, rfl⟩ := hq
  refine pm_iloadn hG dX12_actsPower_6 rfl ?_
  refine pm_aloadn hG dX12_actsPower_7 rfl ?_
  refine pm_iloadn hG dX12_actsPower_8 rfl ?_
  refine pm_iconst (v := nI 4) hG dX12_actsPower_9 (by decide) ?_
  refine pm_callV (As := [.int (nI ba), .int (nI 4)]) (rest := [.int zb]) hG hR dX12_actsPower_10 (lkX12_110 _ rfl) okV_X12_its rfl rfl (m_its (d := 1) (e := 6 * ba + 394) (by omega) (by omega) (by omega)) rfl rfl hdd (Nat.le_refl _) (Nat.le_refl _) (Nat.le_of_ble_eq_true rfl) (pm_ki (fun v3 σ' cnt' hq => ?_))
  obtain ⟨rfl, rfl, rfl⟩ := hq
  refine pm_gen (fun x4 ex4 => ?_)
  refine pm_iadd hG dX12_actsPower_13 ?_
  exact pm_iret hG hF dX12_actsPower_14 rfl (Nat.le_refl _) (Nat.le_refl _) ⟨_, rfl, ⟨_, _, _, rfl, by omega⟩, rfl⟩

set_option maxRecDepth 100000 in
set_option maxHeartbeats 4000000 in
theorem m_actsOffice {d B cnt p0 t0 : Nat} {σ : pm_S} {I : Nat → Int32} {A : Nat → Nat → Int32} {n k z : Nat → Int32} {ac wt pl im : Int32} {zb : Int32} {ba : Nat} (hdd : 3 ≤ d) (hn : KI n) (hz : SZ z) (ht0 : t0 ≤ 40) (hba : ba < 20) : pm_met mX12_actsOffice d 0 0 B [.ref (B + 54), .int (nI ba), .int zb] cnt (pm_mid σ (md_L B I A n k z ac wt pl (nI p0) (nI t0) im)) (pm_Qi (fun v σ' cnt' => (∃ (I' : Nat → Int32) (A' : Nat → Nat → Int32) (t0' : Nat), σ' = pm_mid σ (md_L B I' A' n k z ac wt pl (nI p0) (nI t0') im) ∧ t0' ≤ 40) ∧ cnt = cnt')) := by
  refine pm_enter 0 (by decide) (Nat.le_of_ble_eq_true rfl) rfl (fun G hG hR hF => ?_)
  refine pm_aloadn hG dX12_actsOffice_0 rfl ?_
  refine pm_bipush (v := nI 20) hG dX12_actsOffice_1 (by decide) ?_
  refine pm_callV (As := [.int (nI 20)]) (rest := []) hG hR dX12_actsOffice_3 (lkX12_286 _ rfl) okV_X12_ran rfl rfl (m_ran (d := 2) (by decide) hn hz (by omega)) rfl rfl hdd (Nat.le_refl _) (Nat.le_refl _) (by decide) (pm_kv (fun σ' cnt' hq => ?_))
  obtain ⟨⟨I2, A2, t2, rfl, ht2⟩, rfl⟩ := hq
  refine pm_aloadn hG dX12_actsOffice_6 rfl ?_
  refine pm_iloadn hG dX12_actsOffice_7 rfl ?_
  refine pm_iloadn hG dX12_actsOffice_8 rfl ?_
  refine pm_callV (As := [.int (nI ba), .int zb]) (rest := []) hG hR dX12_actsOffice_9 (lkX12_289 _ rfl) okV_X12_actsPower rfl rfl (m_actsPower (d := 2) (by decide) hn hz (by omega) (by omega)) rfl rfl hdd (Nat.le_refl _) (Nat.le_refl _) (by decide) (pm_ki (fun v3 σ' cnt' hq => ?_))
  obtain ⟨⟨I4, A4, t4, rfl, ht4⟩, rfl⟩ := hq
  refine pm_iloadn hG dX12_actsOffice_12 rfl ?_
  refine pm_iadd hG dX12_actsOffice_13 ?_
  exact pm_iret hG hF dX12_actsOffice_14 rfl (Nat.le_refl _) (Nat.le_refl _) ⟨_, rfl, ⟨_, _, _, rfl, by omega⟩, rfl⟩

set_option maxRecDepth 100000 in
set_option maxHeartbeats 4000000 in
theorem m_actsOf {d B cnt p0 t0 : Nat} {σ : pm_S} {I : Nat → Int32} {A : Nat → Nat → Int32} {n k z : Nat → Int32} {ac wt pl im : Int32} {zb : Int32} {ba : Nat} (hdd : 4 ≤ d) (hn : KI n) (hz : SZ z) (ht0 : t0 ≤ 40) (hba : ba < 20) : pm_met mX12_actsOf d 0 0 B [.ref (B + 54), .int (nI ba), .int zb] cnt (pm_mid σ (md_L B I A n k z ac wt pl (nI p0) (nI t0) im)) (pm_Qi (fun v σ' cnt' => (∃ (I' : Nat → Int32) (A' : Nat → Nat → Int32) (t0' : Nat), σ' = pm_mid σ (md_L B I' A' n k z ac wt pl (nI p0) (nI t0') im) ∧ t0' ≤ 40) ∧ cnt = cnt')) := by
  refine pm_enter 1 (by decide) (Nat.le_of_ble_eq_true rfl) rfl (fun G hG hR hF => ?_)
  refine pm_aloadn hG dX12_actsOf_0 rfl ?_
  refine pm_iloadn hG dX12_actsOf_1 rfl ?_
  refine pm_iconst (v := nI 0) hG dX12_actsOf_2 (by decide) ?_
  refine pm_callV (As := [.int (nI ba), .int (nI 0)]) (rest := []) hG hR dX12_actsOf_3 (lkX12_110 _ rfl) okV_X12_its rfl rfl (m_its (d := 3) (e := 6 * ba + 390) (by omega) (by omega) (by omega)) rfl rfl hdd (Nat.le_refl _) (Nat.le_refl _) (by decide) (pm_ki (fun v1 σ' cnt' hq => ?_))
  obtain ⟨rfl, rfl, rfl⟩ := hq
  refine pm_gen (fun x2 ex2 => ?_)
  refine pm_istoreXn (loc' := [some (.ref (B + 54)), some (.int (nI ba)), some (.int zb), some (.int x2)]) hG dX12_actsOf_6 (by decide) (pm_c1b rfl) rfl ?_
  refine pm_iloadn hG dX12_actsOf_7 rfl ?_
  refine pm_iconst (v := nI 1) hG dX12_actsOf_8 (by decide) ?_
  refine pm_icmp_eq (tgt := 17) hG dX12_actsOf_9 rfl (fun c3 => ?_) (fun c3 => ?_)
  · refine pm_aloadn hG dX12_actsOf_17 rfl ?_
    refine pm_iloadn hG dX12_actsOf_18 rfl ?_
    refine pm_iloadn hG dX12_actsOf_19 rfl ?_
    refine pm_callV (As := [.int (nI ba), .int zb]) (rest := []) hG hR dX12_actsOf_20 (lkX12_292 _ rfl) okV_X12_actsOffice rfl rfl (m_actsOffice (d := 3) (by decide) hn hz (by omega) (by omega)) rfl rfl hdd (Nat.le_refl _) (Nat.le_refl _) (by decide) (pm_ki (fun v4 σ' cnt' hq => ?_))
    obtain ⟨⟨I5, A5, t5, rfl, ht5⟩, rfl⟩ := hq
    exact pm_iret hG hF dX12_actsOf_23 rfl (Nat.le_refl _) (Nat.le_refl _) ⟨_, rfl, ⟨_, _, _, rfl, by omega⟩, rfl⟩
  · refine pm_iloadn hG dX12_actsOf_12 rfl ?_
    refine pm_iconst (v := nI 3) hG dX12_actsOf_13 (by decide) ?_
    refine pm_icmp_ne (tgt := 24) hG dX12_actsOf_14 rfl (fun c6 => ?_) (fun c6 => ?_)
    · refine pm_iloadn hG dX12_actsOf_24 rfl ?_
      refine pm_iconst (v := nI 4) hG dX12_actsOf_25 (by decide) ?_
      refine pm_icmp_eq (tgt := 36) hG dX12_actsOf_26 rfl (fun c7 => ?_) (fun c7 => ?_)
      · refine pm_aloadn hG dX12_actsOf_36 rfl ?_
        refine pm_bipush (v := nI 50) hG dX12_actsOf_37 (by decide) ?_
        refine pm_callV (As := [.int (nI 50)]) (rest := []) hG hR dX12_actsOf_39 (lkX12_286 _ rfl) okV_X12_ran rfl rfl (m_ran (d := 3) (by decide) hn hz (by omega)) rfl rfl hdd (Nat.le_refl _) (Nat.le_refl _) (by decide) (pm_kv (fun σ' cnt' hq => ?_))
        obtain ⟨⟨I9, A9, t9, rfl, ht9⟩, rfl⟩ := hq
        refine pm_aloadn hG dX12_actsOf_42 rfl ?_
        refine pm_iloadn hG dX12_actsOf_43 rfl ?_
        refine pm_iloadn hG dX12_actsOf_44 rfl ?_
        refine pm_aloadn hG dX12_actsOf_45 rfl ?_
        refine pm_iloadn hG dX12_actsOf_46 rfl ?_
        refine pm_iconst (v := nI 4) hG dX12_actsOf_47 (by decide) ?_
        refine pm_callV (As := [.int (nI ba), .int (nI 4)]) (rest := [.int zb, .int (nI ba), .ref (B + 54)]) hG hR dX12_actsOf_48 (lkX12_110 _ rfl) okV_X12_its rfl rfl (m_its (d := 3) (e := 6 * ba + 394) (by omega) (by omega) (by omega)) rfl rfl hdd (Nat.le_refl _) (Nat.le_refl _) (Nat.le_of_ble_eq_true rfl) (pm_ki (fun v10 σ' cnt' hq => ?_))
        obtain ⟨rfl, rfl, rfl⟩ := hq
        refine pm_gen (fun x11 ex11 => ?_)
        refine pm_isub hG dX12_actsOf_51 ?_
        refine pm_callV (As := [.int (nI ba), .int (zb - x11)]) (rest := []) hG hR dX12_actsOf_52 (lkX12_292 _ rfl) okV_X12_actsOffice rfl rfl (m_actsOffice (d := 3) (by decide) hn hz (by omega) (by omega)) rfl rfl hdd (Nat.le_refl _) (Nat.le_refl _) (by decide) (pm_ki (fun v12 σ' cnt' hq => ?_))
        obtain ⟨⟨I13, A13, t13, rfl, ht13⟩, rfl⟩ := hq
        exact pm_iret hG hF dX12_actsOf_55 rfl (Nat.le_refl _) (Nat.le_refl _) ⟨_, rfl, ⟨_, _, _, rfl, by omega⟩, rfl⟩
      · refine pm_aloadn hG dX12_actsOf_29 rfl ?_
        refine pm_iloadn hG dX12_actsOf_30 rfl ?_
        refine pm_iloadn hG dX12_actsOf_31 rfl ?_
        refine pm_callV (As := [.int (nI ba), .int zb]) (rest := []) hG hR dX12_actsOf_32 (lkX12_289 _ rfl) okV_X12_actsPower rfl rfl (m_actsPower (d := 3) (by decide) hn hz (by omega) (by omega)) rfl rfl hdd (Nat.le_refl _) (Nat.le_refl _) (by decide) (pm_ki (fun v14 σ' cnt' hq => ?_))
        obtain ⟨⟨I15, A15, t15, rfl, ht15⟩, rfl⟩ := hq
        exact pm_iret hG hF dX12_actsOf_35 rfl (Nat.le_refl _) (Nat.le_refl _) ⟨_, rfl, ⟨_, _, _, rfl, by omega⟩, rfl⟩
    · refine pm_aloadn hG dX12_actsOf_17 rfl ?_
      refine pm_iloadn hG dX12_actsOf_18 rfl ?_
      refine pm_iloadn hG dX12_actsOf_19 rfl ?_
      refine pm_callV (As := [.int (nI ba), .int zb]) (rest := []) hG hR dX12_actsOf_20 (lkX12_292 _ rfl) okV_X12_actsOffice rfl rfl (m_actsOffice (d := 3) (by decide) hn hz (by omega) (by omega)) rfl rfl hdd (Nat.le_refl _) (Nat.le_refl _) (by decide) (pm_ki (fun v16 σ' cnt' hq => ?_))
      obtain ⟨⟨I17, A17, t17, rfl, ht17⟩, rfl⟩ := hq
      exact pm_iret hG hF dX12_actsOf_23 rfl (Nat.le_refl _) (Nat.le_refl _) ⟨_, rfl, ⟨_, _, _, rfl, by omega⟩, rfl⟩

set_option maxRecDepth 100000 in
set_option maxHeartbeats 4000000 in
theorem m_inForce {d B cnt p0 t0 : Nat} {σ : pm_S} {I : Nat → Int32} {A : Nat → Nat → Int32} {n k z : Nat → Int32} {ac wt pl im : Int32} {za zb zc : Int32} (hdd : 1 ≤ d) (hn : KI n) (hz : SZ z)  : pm_met mX12_inForce d 0 0 B [.ref (B + 54), .int za, .int zb, .int zc] cnt (pm_mid σ (md_L B I A n k z ac wt pl (nI p0) (nI t0) im)) (pm_Qi (fun v σ' cnt' => σ' = pm_mid σ (md_L B I A n k z ac wt pl (nI p0) (nI t0) im) ∧ cnt = cnt' ∧ (v = -1 ∨ ∃ k : Nat, k < 12 ∧ v = nI k))) := by
  refine pm_enter 4 (by decide) (Nat.le_of_ble_eq_true rfl) rfl (fun G hG hR hF => ?_)
  refine pm_iconst (v := (-1)) hG dX12_inForce_0 (by decide) ?_
  refine pm_istoreXi (loc' := [some (.ref (B + 54)), some (.int za), some (.int zb), some (.int zc), some (.int (-1)), none, none, none]) hG dX12_inForce_1 (by decide) (pm_c1b rfl) rfl ?_
  refine pm_iconst (v := nI 0) hG dX12_inForce_3 (by decide) ?_
  refine pm_istoreXi (loc' := [some (.ref (B + 54)), some (.int za), some (.int zb), some (.int zc), some (.int (-1)), some (.int (nI 0)), none, none]) hG dX12_inForce_4 (by decide) (pm_c1b rfl) rfl ?_
  have loop6_1 : ∀ (m1 : Nat) (x1_4 : Int32) (i1 : Nat), (x1_4 = -1 ∨ ∃ q : Nat, q < 12 ∧ x1_4 = nI q) → i1 ≤ 12 → 12 - i1 < m1 → pm_wp mX12_inForce G B 6 [some (.ref (B + 54)), some (.int za), some (.int zb), some (.int zc), some (.int x1_4), some (.int (nI i1)), none, none] [] 0 0 cnt (pm_mid σ (md_L B I A n k z ac wt pl (nI p0) (nI t0) im)) := by
    intro m1
    induction m1 with
    | zero => intro x1_4 i1 _ _ hm; exact absurd hm (Nat.not_lt_zero _)
    | succ m1 ih1 =>
      intro x1_4 i1 ho1_4 hi1 hm1
      rcases ho1_4 with rfl | ⟨k2, hk2, rfl⟩
      · refine pm_iloadi hG dX12_inForce_6 rfl ?_
        refine pm_aloadn hG dX12_inForce_8 rfl ?_
        refine pm_getf hG dX12_inForce_9 (flX12_7 _ rfl) rfl rfl ?_
        refine pm_iconst (v := nI 4) hG dX12_inForce_12 (by decide) ?_
        refine pm_ialdN hG dX12_inForce_13 rfl (by decide) (by omega) ?_
        obtain ⟨k3, hk3, ek3⟩ := KI.nat hn (show kd 4 = (1, 13, false) by decide)
        refine pm_top (v := nI k3) ek3 ?_
        refine pm_icmpN_ge (tgt := 137) hG dX12_inForce_14 rfl (by omega) (by omega) (fun c4 => ?_) (fun c4 => ?_)
        · refine pm_iloadi hG dX12_inForce_137 rfl ?_
          exact pm_iret hG hF dX12_inForce_139 rfl (Nat.le_refl _) (Nat.le_refl _) ⟨_, rfl, rfl, rfl, Or.inl rfl⟩
        · refine pm_sipush (v := nI 510) hG dX12_inForce_17 (by decide) ?_
          refine pm_bipush (v := nI 65) hG dX12_inForce_20 (by decide) ?_
          refine pm_iloadi hG dX12_inForce_22 rfl ?_
          refine pm_imulN (c := 65 * i1) hG dX12_inForce_24 (by omega) ?_
          refine pm_iaddN (c := 65 * i1 + 510) hG dX12_inForce_25 (by omega) ?_
          refine pm_istoreXi (loc' := [some (.ref (B + 54)), some (.int za), some (.int zb), some (.int zc), some (.int (-1)), some (.int (nI i1)), some (.int (nI (65 * i1 + 510))), none]) hG dX12_inForce_26 (by decide) (pm_c1b rfl) rfl ?_
          refine pm_aloadn hG dX12_inForce_28 rfl ?_
          refine pm_getf hG dX12_inForce_29 (flX12_7 _ rfl) rfl rfl ?_
          refine pm_iloadi hG dX12_inForce_32 rfl ?_
          refine pm_iconst (v := nI 3) hG dX12_inForce_34 (by decide) ?_
          refine pm_iaddN (c := 65 * i1 + 513) hG dX12_inForce_35 (by omega) ?_
          refine pm_ialdN hG dX12_inForce_36 rfl (by decide) (by omega) ?_
          refine pm_gen (fun x5 ex5 => ?_)
          refine pm_iconst (v := nI 0) hG dX12_inForce_37 (by decide) ?_
          refine pm_iloadn hG dX12_inForce_38 rfl ?_
          refine pm_callS (As := [.int x5, .int (nI 0), .int zc]) (rest := []) hG hR dX12_inForce_39 (lkX12_68 _ rfl) okS_X12_in (m_in (d := 0)) rfl rfl hdd (Nat.le_refl _) (Nat.le_refl _) (by decide) (pm_ki (fun v6 σ' cnt' hq => ?_))
          obtain ⟨hq, rfl, rfl⟩ := hq
          rcases hq with ⟨rfl, ac7, bc7⟩ | ⟨rfl, c7⟩
          · refine pm_istoreXi (loc' := [some (.ref (B + 54)), some (.int za), some (.int zb), some (.int zc), some (.int (-1)), some (.int (nI i1)), some (.int (nI (65 * i1 + 510))), some (.int (nI 1))]) hG dX12_inForce_42 (by decide) (pm_c1b rfl) rfl ?_
            refine pm_aloadn hG dX12_inForce_44 rfl ?_
            refine pm_getf hG dX12_inForce_45 (flX12_7 _ rfl) rfl rfl ?_
            refine pm_iloadi hG dX12_inForce_48 rfl ?_
            refine pm_ialdN hG dX12_inForce_50 rfl (by decide) (by omega) ?_
            refine pm_gen (fun x8 ex8 => ?_)
            refine pm_iloadn hG dX12_inForce_51 rfl ?_
            refine pm_icmp_ne (tgt := 131) hG dX12_inForce_52 rfl (fun c9 => ?_) (fun c9 => ?_)
            · refine pm_iincX (v := nI (i1 + 1)) (loc' := [some (.ref (B + 54)), some (.int za), some (.int zb), some (.int zc), some (.int (-1)), some (.int (nI (i1 + 1))), some (.int (nI (65 * i1 + 510))), some (.int (nI 1))]) hG dX12_inForce_131 rfl (nI_1 _) (by decide) (pm_c1b rfl) rfl ?_
              refine pm_goto (tgt := 6) hG dX12_inForce_134 rfl ?_
              refine pm_fg 6 (loc' := [some (.ref (B + 54)), some (.int za), some (.int zb), some (.int zc), some (.int (-1)), some (.int (nI (i1 + 1))), none, some (.int (nI 1))]) rfl ?_
              refine pm_fg 7 (loc' := [some (.ref (B + 54)), some (.int za), some (.int zb), some (.int zc), some (.int (-1)), some (.int (nI (i1 + 1))), none, none]) rfl ?_
              exact ih1 (-1) (i1 + 1) (Or.inl rfl) (by omega) (by omega)
            · refine pm_aloadn hG dX12_inForce_55 rfl ?_
              refine pm_getf hG dX12_inForce_56 (flX12_7 _ rfl) rfl rfl ?_
              refine pm_iloadi hG dX12_inForce_59 rfl ?_
              refine pm_iconst (v := nI 1) hG dX12_inForce_61 (by decide) ?_
              refine pm_iaddN (c := 65 * i1 + 511) hG dX12_inForce_62 (by omega) ?_
              refine pm_ialdN hG dX12_inForce_63 rfl (by decide) (by omega) ?_
              refine pm_gen (fun x10 ex10 => ?_)
              refine pm_iloadn hG dX12_inForce_64 rfl ?_
              refine pm_icmp_gt (tgt := 131) hG dX12_inForce_65 rfl (fun c11 => ?_) (fun c11 => ?_)
              · refine pm_iincX (v := nI (i1 + 1)) (loc' := [some (.ref (B + 54)), some (.int za), some (.int zb), some (.int zc), some (.int (-1)), some (.int (nI (i1 + 1))), some (.int (nI (65 * i1 + 510))), some (.int (nI 1))]) hG dX12_inForce_131 rfl (nI_1 _) (by decide) (pm_c1b rfl) rfl ?_
                refine pm_goto (tgt := 6) hG dX12_inForce_134 rfl ?_
                refine pm_fg 6 (loc' := [some (.ref (B + 54)), some (.int za), some (.int zb), some (.int zc), some (.int (-1)), some (.int (nI (i1 + 1))), none, some (.int (nI 1))]) rfl ?_
                refine pm_fg 7 (loc' := [some (.ref (B + 54)), some (.int za), some (.int zb), some (.int zc), some (.int (-1)), some (.int (nI (i1 + 1))), none, none]) rfl ?_
                exact ih1 (-1) (i1 + 1) (Or.inl rfl) (by omega) (by omega)
              · refine pm_aloadn hG dX12_inForce_68 rfl ?_
                refine pm_getf hG dX12_inForce_69 (flX12_7 _ rfl) rfl rfl ?_
                refine pm_iloadi hG dX12_inForce_72 rfl ?_
                refine pm_iconst (v := nI 2) hG dX12_inForce_74 (by decide) ?_
                refine pm_iaddN (c := 65 * i1 + 512) hG dX12_inForce_75 (by omega) ?_
                refine pm_ialdN hG dX12_inForce_76 rfl (by decide) (by omega) ?_
                refine pm_gen (fun x12 ex12 => ?_)
                refine pm_iloadn hG dX12_inForce_77 rfl ?_
                refine pm_icmp_gt (tgt := 131) hG dX12_inForce_78 rfl (fun c13 => ?_) (fun c13 => ?_)
                · refine pm_iincX (v := nI (i1 + 1)) (loc' := [some (.ref (B + 54)), some (.int za), some (.int zb), some (.int zc), some (.int (-1)), some (.int (nI (i1 + 1))), some (.int (nI (65 * i1 + 510))), some (.int (nI 1))]) hG dX12_inForce_131 rfl (nI_1 _) (by decide) (pm_c1b rfl) rfl ?_
                  refine pm_goto (tgt := 6) hG dX12_inForce_134 rfl ?_
                  refine pm_fg 6 (loc' := [some (.ref (B + 54)), some (.int za), some (.int zb), some (.int zc), some (.int (-1)), some (.int (nI (i1 + 1))), none, some (.int (nI 1))]) rfl ?_
                  refine pm_fg 7 (loc' := [some (.ref (B + 54)), some (.int za), some (.int zb), some (.int zc), some (.int (-1)), some (.int (nI (i1 + 1))), none, none]) rfl ?_
                  exact ih1 (-1) (i1 + 1) (Or.inl rfl) (by omega) (by omega)
                · refine pm_iloadi hG dX12_inForce_81 rfl ?_
                  refine pm_ifN_eq (tgt := 89) hG dX12_inForce_83 rfl (by omega) (fun q => absurd q (by omega)) (fun _ => ?_)
                  refine pm_goto (tgt := 131) hG dX12_inForce_86 rfl ?_
                  refine pm_iincX (v := nI (i1 + 1)) (loc' := [some (.ref (B + 54)), some (.int za), some (.int zb), some (.int zc), some (.int (-1)), some (.int (nI (i1 + 1))), some (.int (nI (65 * i1 + 510))), some (.int (nI 1))]) hG dX12_inForce_131 rfl (nI_1 _) (by decide) (pm_c1b rfl) rfl ?_
                  refine pm_goto (tgt := 6) hG dX12_inForce_134 rfl ?_
                  refine pm_fg 6 (loc' := [some (.ref (B + 54)), some (.int za), some (.int zb), some (.int zc), some (.int (-1)), some (.int (nI (i1 + 1))), none, some (.int (nI 1))]) rfl ?_
                  refine pm_fg 7 (loc' := [some (.ref (B + 54)), some (.int za), some (.int zb), some (.int zc), some (.int (-1)), some (.int (nI (i1 + 1))), none, none]) rfl ?_
                  exact ih1 (-1) (i1 + 1) (Or.inl rfl) (by omega) (by omega)
          · refine pm_istoreXi (loc' := [some (.ref (B + 54)), some (.int za), some (.int zb), some (.int zc), some (.int (-1)), some (.int (nI i1)), some (.int (nI (65 * i1 + 510))), some (.int (nI 0))]) hG dX12_inForce_42 (by decide) (pm_c1b rfl) rfl ?_
            refine pm_aloadn hG dX12_inForce_44 rfl ?_
            refine pm_getf hG dX12_inForce_45 (flX12_7 _ rfl) rfl rfl ?_
            refine pm_iloadi hG dX12_inForce_48 rfl ?_
            refine pm_ialdN hG dX12_inForce_50 rfl (by decide) (by omega) ?_
            refine pm_gen (fun x14 ex14 => ?_)
            refine pm_iloadn hG dX12_inForce_51 rfl ?_
            refine pm_icmp_ne (tgt := 131) hG dX12_inForce_52 rfl (fun c15 => ?_) (fun c15 => ?_)
            · refine pm_iincX (v := nI (i1 + 1)) (loc' := [some (.ref (B + 54)), some (.int za), some (.int zb), some (.int zc), some (.int (-1)), some (.int (nI (i1 + 1))), some (.int (nI (65 * i1 + 510))), some (.int (nI 0))]) hG dX12_inForce_131 rfl (nI_1 _) (by decide) (pm_c1b rfl) rfl ?_
              refine pm_goto (tgt := 6) hG dX12_inForce_134 rfl ?_
              refine pm_fg 6 (loc' := [some (.ref (B + 54)), some (.int za), some (.int zb), some (.int zc), some (.int (-1)), some (.int (nI (i1 + 1))), none, some (.int (nI 0))]) rfl ?_
              refine pm_fg 7 (loc' := [some (.ref (B + 54)), some (.int za), some (.int zb), some (.int zc), some (.int (-1)), some (.int (nI (i1 + 1))), none, none]) rfl ?_
              exact ih1 (-1) (i1 + 1) (Or.inl rfl) (by omega) (by omega)
            · refine pm_aloadn hG dX12_inForce_55 rfl ?_
              refine pm_getf hG dX12_inForce_56 (flX12_7 _ rfl) rfl rfl ?_
              refine pm_iloadi hG dX12_inForce_59 rfl ?_
              refine pm_iconst (v := nI 1) hG dX12_inForce_61 (by decide) ?_
              refine pm_iaddN (c := 65 * i1 + 511) hG dX12_inForce_62 (by omega) ?_
              refine pm_ialdN hG dX12_inForce_63 rfl (by decide) (by omega) ?_
              refine pm_gen (fun x16 ex16 => ?_)
              refine pm_iloadn hG dX12_inForce_64 rfl ?_
              refine pm_icmp_gt (tgt := 131) hG dX12_inForce_65 rfl (fun c17 => ?_) (fun c17 => ?_)
              · refine pm_iincX (v := nI (i1 + 1)) (loc' := [some (.ref (B + 54)), some (.int za), some (.int zb), some (.int zc), some (.int (-1)), some (.int (nI (i1 + 1))), some (.int (nI (65 * i1 + 510))), some (.int (nI 0))]) hG dX12_inForce_131 rfl (nI_1 _) (by decide) (pm_c1b rfl) rfl ?_
                refine pm_goto (tgt := 6) hG dX12_inForce_134 rfl ?_
                refine pm_fg 6 (loc' := [some (.ref (B + 54)), some (.int za), some (.int zb), some (.int zc), some (.int (-1)), some (.int (nI (i1 + 1))), none, some (.int (nI 0))]) rfl ?_
                refine pm_fg 7 (loc' := [some (.ref (B + 54)), some (.int za), some (.int zb), some (.int zc), some (.int (-1)), some (.int (nI (i1 + 1))), none, none]) rfl ?_
                exact ih1 (-1) (i1 + 1) (Or.inl rfl) (by omega) (by omega)
              · refine pm_aloadn hG dX12_inForce_68 rfl ?_
                refine pm_getf hG dX12_inForce_69 (flX12_7 _ rfl) rfl rfl ?_
                refine pm_iloadi hG dX12_inForce_72 rfl ?_
                refine pm_iconst (v := nI 2) hG dX12_inForce_74 (by decide) ?_
                refine pm_iaddN (c := 65 * i1 + 512) hG dX12_inForce_75 (by omega) ?_
                refine pm_ialdN hG dX12_inForce_76 rfl (by decide) (by omega) ?_
                refine pm_gen (fun x18 ex18 => ?_)
                refine pm_iloadn hG dX12_inForce_77 rfl ?_
                refine pm_icmp_gt (tgt := 131) hG dX12_inForce_78 rfl (fun c19 => ?_) (fun c19 => ?_)
                · refine pm_iincX (v := nI (i1 + 1)) (loc' := [some (.ref (B + 54)), some (.int za), some (.int zb), some (.int zc), some (.int (-1)), some (.int (nI (i1 + 1))), some (.int (nI (65 * i1 + 510))), some (.int (nI 0))]) hG dX12_inForce_131 rfl (nI_1 _) (by decide) (pm_c1b rfl) rfl ?_
                  refine pm_goto (tgt := 6) hG dX12_inForce_134 rfl ?_
                  refine pm_fg 6 (loc' := [some (.ref (B + 54)), some (.int za), some (.int zb), some (.int zc), some (.int (-1)), some (.int (nI (i1 + 1))), none, some (.int (nI 0))]) rfl ?_
                  refine pm_fg 7 (loc' := [some (.ref (B + 54)), some (.int za), some (.int zb), some (.int zc), some (.int (-1)), some (.int (nI (i1 + 1))), none, none]) rfl ?_
                  exact ih1 (-1) (i1 + 1) (Or.inl rfl) (by omega) (by omega)
                · refine pm_iloadi hG dX12_inForce_81 rfl ?_
                  refine pm_ifN_eq (tgt := 89) hG dX12_inForce_83 rfl (by omega) (fun _ => ?_) (fun q => absurd q (by omega))
                  refine pm_iloadi hG dX12_inForce_89 rfl ?_
                  refine pm_if_lt (tgt := 122) hG dX12_inForce_91 rfl (fun _ => ?_) (fun q => absurd q (by decide))
                  refine pm_iloadi hG dX12_inForce_122 rfl ?_
                  refine pm_goto (tgt := 129) hG dX12_inForce_124 rfl ?_
                  refine pm_istoreXi (loc' := [some (.ref (B + 54)), some (.int za), some (.int zb), some (.int zc), some (.int (nI i1)), some (.int (nI i1)), some (.int (nI (65 * i1 + 510))), some (.int (nI 0))]) hG dX12_inForce_129 (by decide) (pm_c1b rfl) rfl ?_
                  refine pm_iincX (v := nI (i1 + 1)) (loc' := [some (.ref (B + 54)), some (.int za), some (.int zb), some (.int zc), some (.int (nI i1)), some (.int (nI (i1 + 1))), some (.int (nI (65 * i1 + 510))), some (.int (nI 0))]) hG dX12_inForce_131 rfl (nI_1 _) (by decide) (pm_c1b rfl) rfl ?_
                  refine pm_goto (tgt := 6) hG dX12_inForce_134 rfl ?_
                  refine pm_fg 6 (loc' := [some (.ref (B + 54)), some (.int za), some (.int zb), some (.int zc), some (.int (nI i1)), some (.int (nI (i1 + 1))), none, some (.int (nI 0))]) rfl ?_
                  refine pm_fg 7 (loc' := [some (.ref (B + 54)), some (.int za), some (.int zb), some (.int zc), some (.int (nI i1)), some (.int (nI (i1 + 1))), none, none]) rfl ?_
                  exact ih1 (nI i1) (i1 + 1) (Or.inr ⟨i1, by omega, rfl⟩) (by omega) (by omega)
      · refine pm_iloadi hG dX12_inForce_6 rfl ?_
        refine pm_aloadn hG dX12_inForce_8 rfl ?_
        refine pm_getf hG dX12_inForce_9 (flX12_7 _ rfl) rfl rfl ?_
        refine pm_iconst (v := nI 4) hG dX12_inForce_12 (by decide) ?_
        refine pm_ialdN hG dX12_inForce_13 rfl (by decide) (by omega) ?_
        obtain ⟨k20, hk20, ek20⟩ := KI.nat hn (show kd 4 = (1, 13, false) by decide)
        refine pm_top (v := nI k20) ek20 ?_
        refine pm_icmpN_ge (tgt := 137) hG dX12_inForce_14 rfl (by omega) (by omega) (fun c21 => ?_) (fun c21 => ?_)
        · refine pm_iloadi hG dX12_inForce_137 rfl ?_
          exact pm_iret hG hF dX12_inForce_139 rfl (Nat.le_refl _) (Nat.le_refl _) ⟨_, rfl, rfl, rfl, Or.inr ⟨k2, by omega, rfl⟩⟩
        · refine pm_sipush (v := nI 510) hG dX12_inForce_17 (by decide) ?_
          refine pm_bipush (v := nI 65) hG dX12_inForce_20 (by decide) ?_
          refine pm_iloadi hG dX12_inForce_22 rfl ?_
          refine pm_imulN (c := 65 * i1) hG dX12_inForce_24 (by omega) ?_
          refine pm_iaddN (c := 65 * i1 + 510) hG dX12_inForce_25 (by omega) ?_
          refine pm_istoreXi (loc' := [some (.ref (B + 54)), some (.int za), some (.int zb), some (.int zc), some (.int (nI k2)), some (.int (nI i1)), some (.int (nI (65 * i1 + 510))), none]) hG dX12_inForce_26 (by decide) (pm_c1b rfl) rfl ?_
          refine pm_aloadn hG dX12_inForce_28 rfl ?_
          refine pm_getf hG dX12_inForce_29 (flX12_7 _ rfl) rfl rfl ?_
          refine pm_iloadi hG dX12_inForce_32 rfl ?_
          refine pm_iconst (v := nI 3) hG dX12_inForce_34 (by decide) ?_
          refine pm_iaddN (c := 65 * i1 + 513) hG dX12_inForce_35 (by omega) ?_
          refine pm_ialdN hG dX12_inForce_36 rfl (by decide) (by omega) ?_
          refine pm_gen (fun x22 ex22 => ?_)
          refine pm_iconst (v := nI 0) hG dX12_inForce_37 (by decide) ?_
          refine pm_iloadn hG dX12_inForce_38 rfl ?_
          refine pm_callS (As := [.int x22, .int (nI 0), .int zc]) (rest := []) hG hR dX12_inForce_39 (lkX12_68 _ rfl) okS_X12_in (m_in (d := 0)) rfl rfl hdd (Nat.le_refl _) (Nat.le_refl _) (by decide) (pm_ki (fun v23 σ' cnt' hq => ?_))
          obtain ⟨hq, rfl, rfl⟩ := hq
          rcases hq with ⟨rfl, ac24, bc24⟩ | ⟨rfl, c24⟩
          · refine pm_istoreXi (loc' := [some (.ref (B + 54)), some (.int za), some (.int zb), some (.int zc), some (.int (nI k2)), some (.int (nI i1)), some (.int (nI (65 * i1 + 510))), some (.int (nI 1))]) hG dX12_inForce_42 (by decide) (pm_c1b rfl) rfl ?_
            refine pm_aloadn hG dX12_inForce_44 rfl ?_
            refine pm_getf hG dX12_inForce_45 (flX12_7 _ rfl) rfl rfl ?_
            refine pm_iloadi hG dX12_inForce_48 rfl ?_
            refine pm_ialdN hG dX12_inForce_50 rfl (by decide) (by omega) ?_
            refine pm_gen (fun x25 ex25 => ?_)
            refine pm_iloadn hG dX12_inForce_51 rfl ?_
            refine pm_icmp_ne (tgt := 131) hG dX12_inForce_52 rfl (fun c26 => ?_) (fun c26 => ?_)
            · refine pm_iincX (v := nI (i1 + 1)) (loc' := [some (.ref (B + 54)), some (.int za), some (.int zb), some (.int zc), some (.int (nI k2)), some (.int (nI (i1 + 1))), some (.int (nI (65 * i1 + 510))), some (.int (nI 1))]) hG dX12_inForce_131 rfl (nI_1 _) (by decide) (pm_c1b rfl) rfl ?_
              refine pm_goto (tgt := 6) hG dX12_inForce_134 rfl ?_
              refine pm_fg 6 (loc' := [some (.ref (B + 54)), some (.int za), some (.int zb), some (.int zc), some (.int (nI k2)), some (.int (nI (i1 + 1))), none, some (.int (nI 1))]) rfl ?_
              refine pm_fg 7 (loc' := [some (.ref (B + 54)), some (.int za), some (.int zb), some (.int zc), some (.int (nI k2)), some (.int (nI (i1 + 1))), none, none]) rfl ?_
              exact ih1 (nI k2) (i1 + 1) (Or.inr ⟨k2, by omega, rfl⟩) (by omega) (by omega)
            · refine pm_aloadn hG dX12_inForce_55 rfl ?_
              refine pm_getf hG dX12_inForce_56 (flX12_7 _ rfl) rfl rfl ?_
              refine pm_iloadi hG dX12_inForce_59 rfl ?_
              refine pm_iconst (v := nI 1) hG dX12_inForce_61 (by decide) ?_
              refine pm_iaddN (c := 65 * i1 + 511) hG dX12_inForce_62 (by omega) ?_
              refine pm_ialdN hG dX12_inForce_63 rfl (by decide) (by omega) ?_
              refine pm_gen (fun x27 ex27 => ?_)
              refine pm_iloadn hG dX12_inForce_64 rfl ?_
              refine pm_icmp_gt (tgt := 131) hG dX12_inForce_65 rfl (fun c28 => ?_) (fun c28 => ?_)
              · refine pm_iincX (v := nI (i1 + 1)) (loc' := [some (.ref (B + 54)), some (.int za), some (.int zb), some (.int zc), some (.int (nI k2)), some (.int (nI (i1 + 1))), some (.int (nI (65 * i1 + 510))), some (.int (nI 1))]) hG dX12_inForce_131 rfl (nI_1 _) (by decide) (pm_c1b rfl) rfl ?_
                refine pm_goto (tgt := 6) hG dX12_inForce_134 rfl ?_
                refine pm_fg 6 (loc' := [some (.ref (B + 54)), some (.int za), some (.int zb), some (.int zc), some (.int (nI k2)), some (.int (nI (i1 + 1))), none, some (.int (nI 1))]) rfl ?_
                refine pm_fg 7 (loc' := [some (.ref (B + 54)), some (.int za), some (.int zb), some (.int zc), some (.int (nI k2)), some (.int (nI (i1 + 1))), none, none]) rfl ?_
                exact ih1 (nI k2) (i1 + 1) (Or.inr ⟨k2, by omega, rfl⟩) (by omega) (by omega)
              · refine pm_aloadn hG dX12_inForce_68 rfl ?_
                refine pm_getf hG dX12_inForce_69 (flX12_7 _ rfl) rfl rfl ?_
                refine pm_iloadi hG dX12_inForce_72 rfl ?_
                refine pm_iconst (v := nI 2) hG dX12_inForce_74 (by decide) ?_
                refine pm_iaddN (c := 65 * i1 + 512) hG dX12_inForce_75 (by omega) ?_
                refine pm_ialdN hG dX12_inForce_76 rfl (by decide) (by omega) ?_
                refine pm_gen (fun x29 ex29 => ?_)
                refine pm_iloadn hG dX12_inForce_77 rfl ?_
                refine pm_icmp_gt (tgt := 131) hG dX12_inForce_78 rfl (fun c30 => ?_) (fun c30 => ?_)
                · refine pm_iincX (v := nI (i1 + 1)) (loc' := [some (.ref (B + 54)), some (.int za), some (.int zb), some (.int zc), some (.int (nI k2)), some (.int (nI (i1 + 1))), some (.int (nI (65 * i1 + 510))), some (.int (nI 1))]) hG dX12_inForce_131 rfl (nI_1 _) (by decide) (pm_c1b rfl) rfl ?_
                  refine pm_goto (tgt := 6) hG dX12_inForce_134 rfl ?_
                  refine pm_fg 6 (loc' := [some (.ref (B + 54)), some (.int za), some (.int zb), some (.int zc), some (.int (nI k2)), some (.int (nI (i1 + 1))), none, some (.int (nI 1))]) rfl ?_
                  refine pm_fg 7 (loc' := [some (.ref (B + 54)), some (.int za), some (.int zb), some (.int zc), some (.int (nI k2)), some (.int (nI (i1 + 1))), none, none]) rfl ?_
                  exact ih1 (nI k2) (i1 + 1) (Or.inr ⟨k2, by omega, rfl⟩) (by omega) (by omega)
                · refine pm_iloadi hG dX12_inForce_81 rfl ?_
                  refine pm_ifN_eq (tgt := 89) hG dX12_inForce_83 rfl (by omega) (fun q => absurd q (by omega)) (fun _ => ?_)
                  refine pm_goto (tgt := 131) hG dX12_inForce_86 rfl ?_
                  refine pm_iincX (v := nI (i1 + 1)) (loc' := [some (.ref (B + 54)), some (.int za), some (.int zb), some (.int zc), some (.int (nI k2)), some (.int (nI (i1 + 1))), some (.int (nI (65 * i1 + 510))), some (.int (nI 1))]) hG dX12_inForce_131 rfl (nI_1 _) (by decide) (pm_c1b rfl) rfl ?_
                  refine pm_goto (tgt := 6) hG dX12_inForce_134 rfl ?_
                  refine pm_fg 6 (loc' := [some (.ref (B + 54)), some (.int za), some (.int zb), some (.int zc), some (.int (nI k2)), some (.int (nI (i1 + 1))), none, some (.int (nI 1))]) rfl ?_
                  refine pm_fg 7 (loc' := [some (.ref (B + 54)), some (.int za), some (.int zb), some (.int zc), some (.int (nI k2)), some (.int (nI (i1 + 1))), none, none]) rfl ?_
                  exact ih1 (nI k2) (i1 + 1) (Or.inr ⟨k2, by omega, rfl⟩) (by omega) (by omega)
          · refine pm_istoreXi (loc' := [some (.ref (B + 54)), some (.int za), some (.int zb), some (.int zc), some (.int (nI k2)), some (.int (nI i1)), some (.int (nI (65 * i1 + 510))), some (.int (nI 0))]) hG dX12_inForce_42 (by decide) (pm_c1b rfl) rfl ?_
            refine pm_aloadn hG dX12_inForce_44 rfl ?_
            refine pm_getf hG dX12_inForce_45 (flX12_7 _ rfl) rfl rfl ?_
            refine pm_iloadi hG dX12_inForce_48 rfl ?_
            refine pm_ialdN hG dX12_inForce_50 rfl (by decide) (by omega) ?_
            refine pm_gen (fun x31 ex31 => ?_)
            refine pm_iloadn hG dX12_inForce_51 rfl ?_
            refine pm_icmp_ne (tgt := 131) hG dX12_inForce_52 rfl (fun c32 => ?_) (fun c32 => ?_)
            · refine pm_iincX (v := nI (i1 + 1)) (loc' := [some (.ref (B + 54)), some (.int za), some (.int zb), some (.int zc), some (.int (nI k2)), some (.int (nI (i1 + 1))), some (.int (nI (65 * i1 + 510))), some (.int (nI 0))]) hG dX12_inForce_131 rfl (nI_1 _) (by decide) (pm_c1b rfl) rfl ?_
              refine pm_goto (tgt := 6) hG dX12_inForce_134 rfl ?_
              refine pm_fg 6 (loc' := [some (.ref (B + 54)), some (.int za), some (.int zb), some (.int zc), some (.int (nI k2)), some (.int (nI (i1 + 1))), none, some (.int (nI 0))]) rfl ?_
              refine pm_fg 7 (loc' := [some (.ref (B + 54)), some (.int za), some (.int zb), some (.int zc), some (.int (nI k2)), some (.int (nI (i1 + 1))), none, none]) rfl ?_
              exact ih1 (nI k2) (i1 + 1) (Or.inr ⟨k2, by omega, rfl⟩) (by omega) (by omega)
            · refine pm_aloadn hG dX12_inForce_55 rfl ?_
              refine pm_getf hG dX12_inForce_56 (flX12_7 _ rfl) rfl rfl ?_
              refine pm_iloadi hG dX12_inForce_59 rfl ?_
              refine pm_iconst (v := nI 1) hG dX12_inForce_61 (by decide) ?_
              refine pm_iaddN (c := 65 * i1 + 511) hG dX12_inForce_62 (by omega) ?_
              refine pm_ialdN hG dX12_inForce_63 rfl (by decide) (by omega) ?_
              refine pm_gen (fun x33 ex33 => ?_)
              refine pm_iloadn hG dX12_inForce_64 rfl ?_
              refine pm_icmp_gt (tgt := 131) hG dX12_inForce_65 rfl (fun c34 => ?_) (fun c34 => ?_)
              · refine pm_iincX (v := nI (i1 + 1)) (loc' := [some (.ref (B + 54)), some (.int za), some (.int zb), some (.int zc), some (.int (nI k2)), some (.int (nI (i1 + 1))), some (.int (nI (65 * i1 + 510))), some (.int (nI 0))]) hG dX12_inForce_131 rfl (nI_1 _) (by decide) (pm_c1b rfl) rfl ?_
                refine pm_goto (tgt := 6) hG dX12_inForce_134 rfl ?_
                refine pm_fg 6 (loc' := [some (.ref (B + 54)), some (.int za), some (.int zb), some (.int zc), some (.int (nI k2)), some (.int (nI (i1 + 1))), none, some (.int (nI 0))]) rfl ?_
                refine pm_fg 7 (loc' := [some (.ref (B + 54)), some (.int za), some (.int zb), some (.int zc), some (.int (nI k2)), some (.int (nI (i1 + 1))), none, none]) rfl ?_
                exact ih1 (nI k2) (i1 + 1) (Or.inr ⟨k2, by omega, rfl⟩) (by omega) (by omega)
              · refine pm_aloadn hG dX12_inForce_68 rfl ?_
                refine pm_getf hG dX12_inForce_69 (flX12_7 _ rfl) rfl rfl ?_
                refine pm_iloadi hG dX12_inForce_72 rfl ?_
                refine pm_iconst (v := nI 2) hG dX12_inForce_74 (by decide) ?_
                refine pm_iaddN (c := 65 * i1 + 512) hG dX12_inForce_75 (by omega) ?_
                refine pm_ialdN hG dX12_inForce_76 rfl (by decide) (by omega) ?_
                refine pm_gen (fun x35 ex35 => ?_)
                refine pm_iloadn hG dX12_inForce_77 rfl ?_
                refine pm_icmp_gt (tgt := 131) hG dX12_inForce_78 rfl (fun c36 => ?_) (fun c36 => ?_)
                · refine pm_iincX (v := nI (i1 + 1)) (loc' := [some (.ref (B + 54)), some (.int za), some (.int zb), some (.int zc), some (.int (nI k2)), some (.int (nI (i1 + 1))), some (.int (nI (65 * i1 + 510))), some (.int (nI 0))]) hG dX12_inForce_131 rfl (nI_1 _) (by decide) (pm_c1b rfl) rfl ?_
                  refine pm_goto (tgt := 6) hG dX12_inForce_134 rfl ?_
                  refine pm_fg 6 (loc' := [some (.ref (B + 54)), some (.int za), some (.int zb), some (.int zc), some (.int (nI k2)), some (.int (nI (i1 + 1))), none, some (.int (nI 0))]) rfl ?_
                  refine pm_fg 7 (loc' := [some (.ref (B + 54)), some (.int za), some (.int zb), some (.int zc), some (.int (nI k2)), some (.int (nI (i1 + 1))), none, none]) rfl ?_
                  exact ih1 (nI k2) (i1 + 1) (Or.inr ⟨k2, by omega, rfl⟩) (by omega) (by omega)
                · refine pm_iloadi hG dX12_inForce_81 rfl ?_
                  refine pm_ifN_eq (tgt := 89) hG dX12_inForce_83 rfl (by omega) (fun _ => ?_) (fun q => absurd q (by omega))
                  refine pm_iloadi hG dX12_inForce_89 rfl ?_
                  refine pm_ifN_lt hG dX12_inForce_91 rfl (by omega) ?_
                  refine pm_aloadn hG dX12_inForce_94 rfl ?_
                  refine pm_getf hG dX12_inForce_95 (flX12_7 _ rfl) rfl rfl ?_
                  refine pm_iloadi hG dX12_inForce_98 rfl ?_
                  refine pm_iconst (v := nI 2) hG dX12_inForce_100 (by decide) ?_
                  refine pm_iaddN (c := 65 * i1 + 512) hG dX12_inForce_101 (by omega) ?_
                  refine pm_ialdN hG dX12_inForce_102 rfl (by decide) (by omega) ?_
                  refine pm_top (v := x35) ex35 ?_
                  refine pm_aloadn hG dX12_inForce_103 rfl ?_
                  refine pm_getf hG dX12_inForce_104 (flX12_7 _ rfl) rfl rfl ?_
                  refine pm_sipush (v := nI 510) hG dX12_inForce_107 (by decide) ?_
                  refine pm_bipush (v := nI 65) hG dX12_inForce_110 (by decide) ?_
                  refine pm_iloadi hG dX12_inForce_112 rfl ?_
                  refine pm_imulN (c := 65 * k2) hG dX12_inForce_114 (by omega) ?_
                  refine pm_iaddN (c := 65 * k2 + 510) hG dX12_inForce_115 (by omega) ?_
                  refine pm_iconst (v := nI 2) hG dX12_inForce_116 (by decide) ?_
                  refine pm_iaddN (c := 65 * k2 + 512) hG dX12_inForce_117 (by omega) ?_
                  refine pm_ialdN hG dX12_inForce_118 rfl (by decide) (by omega) ?_
                  refine pm_gen (fun x37 ex37 => ?_)
                  refine pm_icmp_lt (tgt := 127) hG dX12_inForce_119 rfl (fun c38 => ?_) (fun c38 => ?_)
                  · refine pm_iloadi hG dX12_inForce_127 rfl ?_
                    refine pm_istoreXi (loc' := [some (.ref (B + 54)), some (.int za), some (.int zb), some (.int zc), some (.int (nI k2)), some (.int (nI i1)), some (.int (nI (65 * i1 + 510))), some (.int (nI 0))]) hG dX12_inForce_129 (by decide) (pm_c1b rfl) rfl ?_
                    refine pm_iincX (v := nI (i1 + 1)) (loc' := [some (.ref (B + 54)), some (.int za), some (.int zb), some (.int zc), some (.int (nI k2)), some (.int (nI (i1 + 1))), some (.int (nI (65 * i1 + 510))), some (.int (nI 0))]) hG dX12_inForce_131 rfl (nI_1 _) (by decide) (pm_c1b rfl) rfl ?_
                    refine pm_goto (tgt := 6) hG dX12_inForce_134 rfl ?_
                    refine pm_fg 6 (loc' := [some (.ref (B + 54)), some (.int za), some (.int zb), some (.int zc), some (.int (nI k2)), some (.int (nI (i1 + 1))), none, some (.int (nI 0))]) rfl ?_
                    refine pm_fg 7 (loc' := [some (.ref (B + 54)), some (.int za), some (.int zb), some (.int zc), some (.int (nI k2)), some (.int (nI (i1 + 1))), none, none]) rfl ?_
                    exact ih1 (nI k2) (i1 + 1) (Or.inr ⟨k2, by omega, rfl⟩) (by omega) (by omega)
                  · refine pm_iloadi hG dX12_inForce_122 rfl ?_
                    refine pm_goto (tgt := 129) hG dX12_inForce_124 rfl ?_
                    refine pm_istoreXi (loc' := [some (.ref (B + 54)), some (.int za), some (.int zb), some (.int zc), some (.int (nI i1)), some (.int (nI i1)), some (.int (nI (65 * i1 + 510))), some (.int (nI 0))]) hG dX12_inForce_129 (by decide) (pm_c1b rfl) rfl ?_
                    refine pm_iincX (v := nI (i1 + 1)) (loc' := [some (.ref (B + 54)), some (.int za), some (.int zb), some (.int zc), some (.int (nI i1)), some (.int (nI (i1 + 1))), some (.int (nI (65 * i1 + 510))), some (.int (nI 0))]) hG dX12_inForce_131 rfl (nI_1 _) (by decide) (pm_c1b rfl) rfl ?_
                    refine pm_goto (tgt := 6) hG dX12_inForce_134 rfl ?_
                    refine pm_fg 6 (loc' := [some (.ref (B + 54)), some (.int za), some (.int zb), some (.int zc), some (.int (nI i1)), some (.int (nI (i1 + 1))), none, some (.int (nI 0))]) rfl ?_
                    refine pm_fg 7 (loc' := [some (.ref (B + 54)), some (.int za), some (.int zb), some (.int zc), some (.int (nI i1)), some (.int (nI (i1 + 1))), none, none]) rfl ?_
                    exact ih1 (nI i1) (i1 + 1) (Or.inr ⟨i1, by omega, rfl⟩) (by omega) (by omega)
  exact loop6_1 _ (-1) 0 (Or.inl rfl) (by omega) (Nat.lt_succ_self _)

set_option maxRecDepth 100000 in
set_option maxHeartbeats 4000000 in
theorem m_comesTo_m_n20_m {d B cnt p0 t0 : Nat} {σ : pm_S} {I : Nat → Int32} {A : Nat → Nat → Int32} {n k z : Nat → Int32} {ac wt pl im : Int32} {zd : Int32} {bb : Nat} (hdd : 1 ≤ d) (hn : KI n) (hr : NR n) (hz : SZ z) (hbb : bb < 20) : pm_met mX12_comesTo d 0 0 B [.ref (B + 54), .int (-1), .int (nI bb), .int (-1), .int zd] cnt (pm_mid σ (md_L B I A n k z ac wt pl (nI p0) (nI t0) im)) (pm_Qi (fun v σ' cnt' => (∃ (I' : Nat → Int32) (A' : Nat → Nat → Int32), σ' = pm_mid σ (md_L B I' A' n k z ac wt pl (nI p0) (nI t0) im)) ∧ cnt = cnt')) := by
  refine pm_enter 4 (by decide) (Nat.le_of_ble_eq_true rfl) rfl (fun G hG hR hF => ?_)
  refine pm_iloadn hG dX12_comesTo_0 rfl ?_
  refine pm_if_ge (tgt := 6) hG dX12_comesTo_1 rfl (fun q => absurd q (by decide)) (fun _ => ?_)
  refine pm_iconst (v := nI 1) hG dX12_comesTo_4 (by decide) ?_
  exact pm_iret hG hF dX12_comesTo_5 rfl (Nat.le_refl _) (Nat.le_refl _) ⟨_, rfl, ⟨_, _, rfl⟩, rfl⟩

set_option maxRecDepth 100000 in
set_option maxHeartbeats 4000000 in
theorem m_setNames_n20_m {d B cnt p0 t0 : Nat} {σ : pm_S} {I : Nat → Int32} {A : Nat → Nat → Int32} {n k z : Nat → Int32} {ac wt pl im : Int32} {zc : Int32} {ba : Nat} (hdd : 2 ≤ d) (hn : KI n) (hz : SZ z) (hba : ba < 20) : pm_met mX12_setNames d 0 0 B [.ref (B + 54), .int (nI ba), .int (-1), .int zc] cnt (pm_mid σ (md_L B I A n k z ac wt pl (nI p0) (nI t0) im)) (pm_Qv (fun σ' cnt' => (∃ (I' : Nat → Int32) (A' : Nat → Nat → Int32), σ' = pm_mid σ (md_L B I' A' n k z ac wt pl (nI p0) (nI t0) im)) ∧ cnt = cnt')) := by
  refine pm_enter 0 (by decide) (Nat.le_of_ble_eq_true rfl) rfl (fun G hG hR hF => ?_)
  refine pm_aloadn hG dX12_setNames_0 rfl ?_
  refine pm_getf hG dX12_setNames_1 (flX12_34 _ rfl) rfl rfl ?_
  refine pm_iconst (v := nI 0) hG dX12_setNames_4 (by decide) ?_
  refine pm_iloadn hG dX12_setNames_5 rfl ?_
  refine pm_ifN_ge (tgt := 13) hG dX12_setNames_6 rfl (by omega) ?_
  refine pm_iloadn hG dX12_setNames_13 rfl ?_
  refine pm_aloadn hG dX12_setNames_14 rfl ?_
  refine pm_iloadn hG dX12_setNames_15 rfl ?_
  refine pm_iconst (v := nI 1) hG dX12_setNames_16 (by decide) ?_
  refine pm_callV (As := [.int (nI ba), .int (nI 1)]) (rest := [.int zc, .int (nI 0), .ref (B + 63)]) hG hR dX12_setNames_17 (lkX12_72 _ rfl) okV_X12_man rfl rfl (m_man (d := 1) (e := 14 * ba + 111) (by omega) (by omega) (by omega)) rfl rfl hdd (Nat.le_refl _) (Nat.le_refl _) (Nat.le_of_ble_eq_true rfl) (pm_ki (fun v1 σ' cnt' hq => ?_))
  obtain ⟨rfl, rfl, rfl⟩ := hq
  refine pm_gen (fun x2 ex2 => ?_)
  refine pm_isub hG dX12_setNames_20 ?_
  refine pm_sipush (v := nI 360) hG dX12_setNames_21 (by decide) ?_
  refine pm_idiv hG dX12_setNames_24 (by decide) ?_
  refine pm_any (fun x3 => ?_)
  refine pm_iastN hG dX12_setNames_25 rfl (by decide) (by omega) ?_
  refine mdn_names (fun A_4 => ?_)
  refine pm_aloadn hG dX12_setNames_26 rfl ?_
  refine pm_getf hG dX12_setNames_27 (flX12_34 _ rfl) rfl rfl ?_
  refine pm_iconst (v := nI 1) hG dX12_setNames_30 (by decide) ?_
  refine pm_iloadn hG dX12_setNames_31 rfl ?_
  refine pm_ifN_ge (tgt := 39) hG dX12_setNames_32 rfl (by omega) ?_
  refine pm_aloadn hG dX12_setNames_39 rfl ?_
  refine pm_iloadn hG dX12_setNames_40 rfl ?_
  refine pm_iconst (v := nI 0) hG dX12_setNames_41 (by decide) ?_
  refine pm_callV (As := [.int (nI ba), .int (nI 0)]) (rest := [.int (nI 1), .ref (B + 63)]) hG hR dX12_setNames_42 (lkX12_72 _ rfl) okV_X12_man rfl rfl (m_man (d := 1) (e := 14 * ba + 110) (by omega) (by omega) (by omega)) rfl rfl hdd (Nat.le_refl _) (Nat.le_refl _) (Nat.le_of_ble_eq_true rfl) (pm_ki (fun v5 σ' cnt' hq => ?_))
  obtain ⟨rfl, rfl, rfl⟩ := hq
  refine pm_gen (fun x6 ex6 => ?_)
  refine pm_iastN hG dX12_setNames_45 rfl (by decide) (by omega) ?_
  refine mdn_names (fun A_7 => ?_)
  refine pm_aloadn hG dX12_setNames_46 rfl ?_
  refine pm_getf hG dX12_setNames_47 (flX12_34 _ rfl) rfl rfl ?_
  refine pm_iconst (v := nI 2) hG dX12_setNames_50 (by decide) ?_
  refine pm_iloadn hG dX12_setNames_51 rfl ?_
  refine pm_ifN_ge (tgt := 59) hG dX12_setNames_52 rfl (by omega) ?_
  refine pm_aloadn hG dX12_setNames_59 rfl ?_
  refine pm_iloadn hG dX12_setNames_60 rfl ?_
  refine pm_callV (As := [.int (nI ba)]) (rest := [.int (nI 2), .ref (B + 63)]) hG hR dX12_setNames_61 (lkX12_122 _ rfl) okV_X12_holdsMany rfl rfl (m_holdsMany (d := 1) (by decide) hn hz) rfl rfl hdd (Nat.le_refl _) (Nat.le_refl _) (Nat.le_of_ble_eq_true rfl) (pm_ki (fun v8 σ' cnt' hq => ?_))
  obtain ⟨rfl, rfl⟩ := hq
  refine pm_iastN hG dX12_setNames_64 rfl (by decide) (by omega) ?_
  refine mdn_names (fun A_10 => ?_)
  refine pm_aloadn hG dX12_setNames_65 rfl ?_
  refine pm_getf hG dX12_setNames_66 (flX12_34 _ rfl) rfl rfl ?_
  refine pm_iconst (v := nI 3) hG dX12_setNames_69 (by decide) ?_
  refine pm_iloadn hG dX12_setNames_70 rfl ?_
  refine pm_ifN_ge (tgt := 78) hG dX12_setNames_71 rfl (by omega) ?_
  refine pm_aloadn hG dX12_setNames_78 rfl ?_
  refine pm_iloadn hG dX12_setNames_79 rfl ?_
  refine pm_bipush (v := nI 7) hG dX12_setNames_80 (by decide) ?_
  refine pm_callV (As := [.int (nI ba), .int (nI 7)]) (rest := [.int (nI 3), .ref (B + 63)]) hG hR dX12_setNames_82 (lkX12_72 _ rfl) okV_X12_man rfl rfl (m_man (d := 1) (e := 14 * ba + 117) (by omega) (by omega) (by omega)) rfl rfl hdd (Nat.le_refl _) (Nat.le_refl _) (Nat.le_of_ble_eq_true rfl) (pm_ki (fun v11 σ' cnt' hq => ?_))
  obtain ⟨rfl, rfl, rfl⟩ := hq
  refine pm_gen (fun x12 ex12 => ?_)
  refine pm_iastN hG dX12_setNames_85 rfl (by decide) (by omega) ?_
  refine mdn_names (fun A_13 => ?_)
  refine pm_aloadn hG dX12_setNames_86 rfl ?_
  refine pm_getf hG dX12_setNames_87 (flX12_34 _ rfl) rfl rfl ?_
  refine pm_iconst (v := nI 4) hG dX12_setNames_90 (by decide) ?_
  refine pm_iloadn hG dX12_setNames_91 rfl ?_
  refine pm_ifN_ge (tgt := 99) hG dX12_setNames_92 rfl (by omega) ?_
  refine pm_aloadn hG dX12_setNames_99 rfl ?_
  refine pm_iloadn hG dX12_setNames_100 rfl ?_
  refine pm_bipush (v := nI 8) hG dX12_setNames_101 (by decide) ?_
  refine pm_callV (As := [.int (nI ba), .int (nI 8)]) (rest := [.int (nI 4), .ref (B + 63)]) hG hR dX12_setNames_103 (lkX12_72 _ rfl) okV_X12_man rfl rfl (m_man (d := 1) (e := 14 * ba + 118) (by omega) (by omega) (by omega)) rfl rfl hdd (Nat.le_refl _) (Nat.le_refl _) (Nat.le_of_ble_eq_true rfl) (pm_ki (fun v14 σ' cnt' hq => ?_))
  obtain ⟨rfl, rfl, rfl⟩ := hq
  refine pm_gen (fun x15 ex15 => ?_)
  refine pm_iastN hG dX12_setNames_106 rfl (by decide) (by omega) ?_
  refine mdn_names (fun A_16 => ?_)
  refine pm_aloadn hG dX12_setNames_107 rfl ?_
  refine pm_getf hG dX12_setNames_108 (flX12_34 _ rfl) rfl rfl ?_
  refine pm_iconst (v := nI 5) hG dX12_setNames_111 (by decide) ?_
  refine pm_iloadn hG dX12_setNames_112 rfl ?_
  refine pm_ifN_ge (tgt := 120) hG dX12_setNames_113 rfl (by omega) ?_
  refine pm_aloadn hG dX12_setNames_120 rfl ?_
  refine pm_iloadn hG dX12_setNames_121 rfl ?_
  refine pm_iconst (v := nI 4) hG dX12_setNames_122 (by decide) ?_
  refine pm_callV (As := [.int (nI ba), .int (nI 4)]) (rest := [.int (nI 5), .ref (B + 63)]) hG hR dX12_setNames_123 (lkX12_72 _ rfl) okV_X12_man rfl rfl (m_man (d := 1) (e := 14 * ba + 114) (by omega) (by omega) (by omega)) rfl rfl hdd (Nat.le_refl _) (Nat.le_refl _) (Nat.le_of_ble_eq_true rfl) (pm_ki (fun v17 σ' cnt' hq => ?_))
  obtain ⟨rfl, rfl, rfl⟩ := hq
  rcases KI.opt hn (show kd (14 * ba + 114) = (2, 10, false) from (kd_P (k := ba) (c := 4) (by omega) (by omega) (by decide))) with ek18 | ⟨k18, hk18, ek18⟩
  · refine pm_top (v := (-1)) ek18 ?_
    refine pm_if_ge (tgt := 134) hG dX12_setNames_126 rfl (fun q => absurd q (by decide)) (fun _ => ?_)
    refine pm_bipush (v := nI 10) hG dX12_setNames_129 (by decide) ?_
    refine pm_goto (tgt := 140) hG dX12_setNames_131 rfl ?_
    refine pm_iastN hG dX12_setNames_140 rfl (by decide) (by omega) ?_
    refine mdn_names (fun A_19 => ?_)
    refine pm_aloadn hG dX12_setNames_141 rfl ?_
    refine pm_getf hG dX12_setNames_142 (flX12_34 _ rfl) rfl rfl ?_
    refine pm_bipush (v := nI 6) hG dX12_setNames_145 (by decide) ?_
    refine pm_iloadn hG dX12_setNames_147 rfl ?_
    refine pm_ifN_ge (tgt := 155) hG dX12_setNames_148 rfl (by omega) ?_
    refine pm_aloadn hG dX12_setNames_155 rfl ?_
    refine pm_iloadn hG dX12_setNames_156 rfl ?_
    refine pm_callV (As := [.int (nI ba)]) (rest := [.int (nI 6), .ref (B + 63)]) hG hR dX12_setNames_157 (lkX12_125 _ rfl) okV_X12_stepsOf rfl rfl (m_stepsOf (d := 1) (by decide) hn hz (by omega)) rfl rfl hdd (Nat.le_refl _) (Nat.le_refl _) (Nat.le_of_ble_eq_true rfl) (pm_ki (fun v20 σ' cnt' hq => ?_))
    obtain ⟨⟨I21, A21, rfl⟩, rfl⟩ := hq
    refine pm_iastN hG dX12_setNames_160 rfl (by decide) (by omega) ?_
    refine mdn_names (fun A_22 => ?_)
    refine pm_aloadn hG dX12_setNames_161 rfl ?_
    refine pm_getf hG dX12_setNames_162 (flX12_34 _ rfl) rfl rfl ?_
    refine pm_bipush (v := nI 7) hG dX12_setNames_165 (by decide) ?_
    refine pm_iloadn hG dX12_setNames_167 rfl ?_
    refine pm_if_ge (tgt := 175) hG dX12_setNames_168 rfl (fun q => absurd q (by decide)) (fun _ => ?_)
    refine pm_iconst (v := nI 0) hG dX12_setNames_171 (by decide) ?_
    refine pm_goto (tgt := 184) hG dX12_setNames_172 rfl ?_
    refine pm_iastN hG dX12_setNames_184 rfl (by decide) (by omega) ?_
    refine mdn_names (fun A_23 => ?_)
    refine pm_aloadn hG dX12_setNames_185 rfl ?_
    refine pm_getf hG dX12_setNames_186 (flX12_34 _ rfl) rfl rfl ?_
    refine pm_bipush (v := nI 8) hG dX12_setNames_189 (by decide) ?_
    refine pm_iloadn hG dX12_setNames_191 rfl ?_
    refine pm_if_ge (tgt := 199) hG dX12_setNames_192 rfl (fun q => absurd q (by decide)) (fun _ => ?_)
    refine pm_iconst (v := nI 0) hG dX12_setNames_195 (by decide) ?_
    refine pm_goto (tgt := 205) hG dX12_setNames_196 rfl ?_
    refine pm_iastN hG dX12_setNames_205 rfl (by decide) (by omega) ?_
    refine mdn_names (fun A_24 => ?_)
    refine pm_aloadn hG dX12_setNames_206 rfl ?_
    refine pm_getf hG dX12_setNames_207 (flX12_34 _ rfl) rfl rfl ?_
    refine pm_bipush (v := nI 9) hG dX12_setNames_210 (by decide) ?_
    refine pm_iloadn hG dX12_setNames_212 rfl ?_
    refine pm_if_ge (tgt := 220) hG dX12_setNames_213 rfl (fun q => absurd q (by decide)) (fun _ => ?_)
    refine pm_iconst (v := nI 0) hG dX12_setNames_216 (by decide) ?_
    refine pm_goto (tgt := 226) hG dX12_setNames_217 rfl ?_
    refine pm_iastN hG dX12_setNames_226 rfl (by decide) (by omega) ?_
    refine mdn_names (fun A_25 => ?_)
    refine pm_aloadn hG dX12_setNames_227 rfl ?_
    refine pm_getf hG dX12_setNames_228 (flX12_34 _ rfl) rfl rfl ?_
    refine pm_bipush (v := nI 10) hG dX12_setNames_231 (by decide) ?_
    refine pm_iloadn hG dX12_setNames_233 rfl ?_
    refine pm_iastN hG dX12_setNames_234 rfl (by decide) (by omega) ?_
    refine mdn_names (fun A_26 => ?_)
    exact pm_vret hG hF dX12_setNames_235 rfl (Nat.le_refl _) (Nat.le_refl _) ⟨rfl, ⟨_, _, rfl⟩, rfl⟩
  · refine pm_top (v := nI k18) ek18 ?_
    refine pm_ifN_ge (tgt := 134) hG dX12_setNames_126 rfl (by omega) ?_
    refine pm_aloadn hG dX12_setNames_134 rfl ?_
    refine pm_iloadn hG dX12_setNames_135 rfl ?_
    refine pm_iconst (v := nI 4) hG dX12_setNames_136 (by decide) ?_
    refine pm_callV (As := [.int (nI ba), .int (nI 4)]) (rest := [.int (nI 5), .ref (B + 63)]) hG hR dX12_setNames_137 (lkX12_72 _ rfl) okV_X12_man rfl rfl (m_man (d := 1) (e := 14 * ba + 114) (by omega) (by omega) (by omega)) rfl rfl hdd (Nat.le_refl _) (Nat.le_refl _) (Nat.le_of_ble_eq_true rfl) (pm_ki (fun v27 σ' cnt' hq => ?_))
    obtain ⟨rfl, rfl, rfl⟩ := hq
    refine pm_top (v := nI k18) ek18 ?_
    refine pm_iastN hG dX12_setNames_140 rfl (by decide) (by omega) ?_
    refine mdn_names (fun A_28 => ?_)
    refine pm_aloadn hG dX12_setNames_141 rfl ?_
    refine pm_getf hG dX12_setNames_142 (flX12_34 _ rfl) rfl rfl ?_
    refine pm_bipush (v := nI 6) hG dX12_setNames_145 (by decide) ?_
    refine pm_iloadn hG dX12_setNames_147 rfl ?_
    refine pm_ifN_ge (tgt := 155) hG dX12_setNames_148 rfl (by omega) ?_
    refine pm_aloadn hG dX12_setNames_155 rfl ?_
    refine pm_iloadn hG dX12_setNames_156 rfl ?_
    refine pm_callV (As := [.int (nI ba)]) (rest := [.int (nI 6), .ref (B + 63)]) hG hR dX12_setNames_157 (lkX12_125 _ rfl) okV_X12_stepsOf rfl rfl (m_stepsOf (d := 1) (by decide) hn hz (by omega)) rfl rfl hdd (Nat.le_refl _) (Nat.le_refl _) (Nat.le_of_ble_eq_true rfl) (pm_ki (fun v29 σ' cnt' hq => ?_))
    obtain ⟨⟨I30, A30, rfl⟩, rfl⟩ := hq
    refine pm_iastN hG dX12_setNames_160 rfl (by decide) (by omega) ?_
    refine mdn_names (fun A_31 => ?_)
    refine pm_aloadn hG dX12_setNames_161 rfl ?_
    refine pm_getf hG dX12_setNames_162 (flX12_34 _ rfl) rfl rfl ?_
    refine pm_bipush (v := nI 7) hG dX12_setNames_165 (by decide) ?_
    refine pm_iloadn hG dX12_setNames_167 rfl ?_
    refine pm_if_ge (tgt := 175) hG dX12_setNames_168 rfl (fun q => absurd q (by decide)) (fun _ => ?_)
    refine pm_iconst (v := nI 0) hG dX12_setNames_171 (by decide) ?_
    refine pm_goto (tgt := 184) hG dX12_setNames_172 rfl ?_
    refine pm_iastN hG dX12_setNames_184 rfl (by decide) (by omega) ?_
    refine mdn_names (fun A_32 => ?_)
    refine pm_aloadn hG dX12_setNames_185 rfl ?_
    refine pm_getf hG dX12_setNames_186 (flX12_34 _ rfl) rfl rfl ?_
    refine pm_bipush (v := nI 8) hG dX12_setNames_189 (by decide) ?_
    refine pm_iloadn hG dX12_setNames_191 rfl ?_
    refine pm_if_ge (tgt := 199) hG dX12_setNames_192 rfl (fun q => absurd q (by decide)) (fun _ => ?_)
    refine pm_iconst (v := nI 0) hG dX12_setNames_195 (by decide) ?_
    refine pm_goto (tgt := 205) hG dX12_setNames_196 rfl ?_
    refine pm_iastN hG dX12_setNames_205 rfl (by decide) (by omega) ?_
    refine mdn_names (fun A_33 => ?_)
    refine pm_aloadn hG dX12_setNames_206 rfl ?_
    refine pm_getf hG dX12_setNames_207 (flX12_34 _ rfl) rfl rfl ?_
    refine pm_bipush (v := nI 9) hG dX12_setNames_210 (by decide) ?_
    refine pm_iloadn hG dX12_setNames_212 rfl ?_
    refine pm_if_ge (tgt := 220) hG dX12_setNames_213 rfl (fun q => absurd q (by decide)) (fun _ => ?_)
    refine pm_iconst (v := nI 0) hG dX12_setNames_216 (by decide) ?_
    refine pm_goto (tgt := 226) hG dX12_setNames_217 rfl ?_
    refine pm_iastN hG dX12_setNames_226 rfl (by decide) (by omega) ?_
    refine mdn_names (fun A_34 => ?_)
    refine pm_aloadn hG dX12_setNames_227 rfl ?_
    refine pm_getf hG dX12_setNames_228 (flX12_34 _ rfl) rfl rfl ?_
    refine pm_bipush (v := nI 10) hG dX12_setNames_231 (by decide) ?_
    refine pm_iloadn hG dX12_setNames_233 rfl ?_
    refine pm_iastN hG dX12_setNames_234 rfl (by decide) (by omega) ?_
    refine mdn_names (fun A_35 => ?_)
    exact pm_vret hG hF dX12_setNames_235 rfl (Nat.le_refl _) (Nat.le_refl _) ⟨rfl, ⟨_, _, rfl⟩, rfl⟩
