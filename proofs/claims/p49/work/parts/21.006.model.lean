set_option maxRecDepth 100000 in
set_option maxHeartbeats 4000000 in
theorem m_about {d B cnt p0 t0 : Nat} {σ : pm_S} {I : Nat → Int32} {A : Nat → Nat → Int32} {n k z : Nat → Int32} {ac wt pl im : Int32} {y : Nat → Int32} {za zb : Int32} (hdd : 4 ≤ d) (hn : KI n) (hz : SZ z)  : pm_met mX12_about d 0 0 B [.ref (B + 54), .int za, .int zb] cnt (pm_mid σ (md_L B I A n k z ac wt pl (nI p0) (nI t0) im y)) (pm_Qi (fun v σ' cnt' => (∃ (I' : Nat → Int32) (A' : Nat → Nat → Int32), σ' = pm_mid σ (md_L B I' A' n k z ac wt pl (nI p0) (nI t0) im y)) ∧ cnt = cnt')) := by
  refine pm_enter 0 (by decide) (Nat.le_of_ble_eq_true rfl) rfl (fun G hG hR hF => ?_)
  refine pm_aloadn hG dX12_about_0 rfl ?_
  refine pm_iloadn hG dX12_about_1 rfl ?_
  obtain ⟨k1, hk1, ek1⟩ := KI.nat hn (show kd 2 = (1, 21, true) by decide)
  refine pm_callV (As := [.int za]) (rest := []) hG hR dX12_about_2 (lkX12_91 _ rfl) okV_X12_isPerson rfl rfl (m_isPerson (d := 3) (by decide) ek1 (by omega)) rfl rfl hdd (Nat.le_refl _) (Nat.le_refl _) (by decide) (pm_ki (fun v2 σ' cnt' hq => ?_))
  obtain ⟨hq, rfl, rfl⟩ := hq
  rcases hq with ⟨rfl, k4, hk4, ek4⟩ | rfl
  · refine pm_ifN_ne (tgt := 14) hG dX12_about_5 rfl (by omega) (fun _ => ?_) (fun q => absurd q (by omega))
    refine pm_iloadn hG dX12_about_14 rfl ?_
    by_cases c5 : zb = nI 0
    · refine pm_top (v := nI 0) c5 ?_
      refine pm_tswIn (tgt := 68) hG dX12_about_15 (by decide) (by decide) rfl rfl ?_
      refine pm_aloadn hG dX12_about_68 rfl ?_
      refine pm_iloadn hG dX12_about_69 rfl ?_
      refine pm_top (v := nI k4) ek4 ?_
      refine pm_iconst (v := nI 4) hG dX12_about_70 (by decide) ?_
      refine pm_callV (As := [.int (nI k4), .int (nI 4)]) (rest := []) hG hR dX12_about_71 (lkX12_72 _ rfl) okV_X12_man rfl rfl (m_man (d := 3) (e := 14 * k4 + 114) (by omega) (by omega) (by omega)) rfl rfl hdd (Nat.le_refl _) (Nat.le_refl _) (by decide) (pm_ki (fun v6 σ' cnt' hq => ?_))
      obtain ⟨rfl, rfl, rfl⟩ := hq
      rcases KI.opt hn (show kd (14 * k4 + 114) = (2, 10, false) from (kd_P (k := k4) (c := 4) (by omega) (by omega) (by decide))) with ek7 | ⟨k7, hk7, ek7⟩
      · refine pm_top (v := (-1)) ek7 ?_
        exact pm_iret hG hF dX12_about_74 rfl (Nat.le_refl _) (Nat.le_refl _) ⟨_, rfl, ⟨_, _, rfl⟩, rfl⟩
      · refine pm_top (v := nI k7) ek7 ?_
        exact pm_iret hG hF dX12_about_74 rfl (Nat.le_refl _) (Nat.le_refl _) ⟨_, rfl, ⟨_, _, rfl⟩, rfl⟩
    by_cases c8 : zb = nI 1
    · refine pm_top (v := nI 1) c8 ?_
      refine pm_tswIn (tgt := 75) hG dX12_about_15 (by decide) (by decide) rfl rfl ?_
      refine pm_aloadn hG dX12_about_75 rfl ?_
      refine pm_iloadn hG dX12_about_76 rfl ?_
      refine pm_top (v := nI k4) ek4 ?_
      refine pm_bipush (v := nI 7) hG dX12_about_77 (by decide) ?_
      refine pm_callV (As := [.int (nI k4), .int (nI 7)]) (rest := []) hG hR dX12_about_79 (lkX12_72 _ rfl) okV_X12_man rfl rfl (m_man (d := 3) (e := 14 * k4 + 117) (by omega) (by omega) (by omega)) rfl rfl hdd (Nat.le_refl _) (Nat.le_refl _) (by decide) (pm_ki (fun v9 σ' cnt' hq => ?_))
      obtain ⟨rfl, rfl, rfl⟩ := hq
      refine pm_gen (fun x10 ex10 => ?_)
      exact pm_iret hG hF dX12_about_82 rfl (Nat.le_refl _) (Nat.le_refl _) ⟨_, rfl, ⟨_, _, rfl⟩, rfl⟩
    by_cases c11 : zb = nI 2
    · refine pm_top (v := nI 2) c11 ?_
      refine pm_tswIn (tgt := 83) hG dX12_about_15 (by decide) (by decide) rfl rfl ?_
      refine pm_aloadn hG dX12_about_83 rfl ?_
      refine pm_iloadn hG dX12_about_84 rfl ?_
      refine pm_top (v := nI k4) ek4 ?_
      refine pm_bipush (v := nI 8) hG dX12_about_85 (by decide) ?_
      refine pm_callV (As := [.int (nI k4), .int (nI 8)]) (rest := []) hG hR dX12_about_87 (lkX12_72 _ rfl) okV_X12_man rfl rfl (m_man (d := 3) (e := 14 * k4 + 118) (by omega) (by omega) (by omega)) rfl rfl hdd (Nat.le_refl _) (Nat.le_refl _) (by decide) (pm_ki (fun v12 σ' cnt' hq => ?_))
      obtain ⟨rfl, rfl, rfl⟩ := hq
      refine pm_gen (fun x13 ex13 => ?_)
      exact pm_iret hG hF dX12_about_90 rfl (Nat.le_refl _) (Nat.le_refl _) ⟨_, rfl, ⟨_, _, rfl⟩, rfl⟩
    by_cases c14 : zb = nI 3
    · refine pm_top (v := nI 3) c14 ?_
      refine pm_tswIn (tgt := 91) hG dX12_about_15 (by decide) (by decide) rfl rfl ?_
      refine pm_aloadn hG dX12_about_91 rfl ?_
      refine pm_getf hG dX12_about_92 (flX12_7 _ rfl) rfl rfl ?_
      refine pm_bipush (v := nI 8) hG dX12_about_95 (by decide) ?_
      refine pm_ialdN hG dX12_about_97 rfl (by decide) (by omega) ?_
      obtain ⟨k15, hk15, ek15⟩ := KI.nat hn (show kd 8 = (1, 2001, false) by decide)
      refine pm_top (v := nI k15) ek15 ?_
      refine pm_aloadn hG dX12_about_98 rfl ?_
      refine pm_iloadn hG dX12_about_99 rfl ?_
      refine pm_top (v := nI k4) ek4 ?_
      refine pm_iconst (v := nI 1) hG dX12_about_100 (by decide) ?_
      refine pm_callV (As := [.int (nI k4), .int (nI 1)]) (rest := [.int (nI k15)]) hG hR dX12_about_101 (lkX12_72 _ rfl) okV_X12_man rfl rfl (m_man (d := 3) (e := 14 * k4 + 111) (by omega) (by omega) (by omega)) rfl rfl hdd (Nat.le_refl _) (Nat.le_refl _) (Nat.le_of_ble_eq_true rfl) (pm_ki (fun v16 σ' cnt' hq => ?_))
      obtain ⟨rfl, rfl, rfl⟩ := hq
      refine pm_gen (fun x17 ex17 => ?_)
      refine pm_isub hG dX12_about_104 ?_
      refine pm_sipush (v := nI 360) hG dX12_about_105 (by decide) ?_
      refine pm_idiv hG dX12_about_108 (by decide) ?_
      refine pm_any (fun x18 => ?_)
      exact pm_iret hG hF dX12_about_109 rfl (Nat.le_refl _) (Nat.le_refl _) ⟨_, rfl, ⟨_, _, rfl⟩, rfl⟩
    by_cases c19 : zb = nI 4
    · refine pm_top (v := nI 4) c19 ?_
      refine pm_tswIn (tgt := 110) hG dX12_about_15 (by decide) (by decide) rfl rfl ?_
      refine pm_aloadn hG dX12_about_110 rfl ?_
      refine pm_iloadn hG dX12_about_111 rfl ?_
      refine pm_top (v := nI k4) ek4 ?_
      refine pm_callV (As := [.int (nI k4)]) (rest := []) hG hR dX12_about_112 (lkX12_104 _ rfl) okV_X12_knownTo rfl rfl (m_knownTo (d := 3) (by decide) hn hz (by omega)) rfl rfl hdd (Nat.le_refl _) (Nat.le_refl _) (by decide) (pm_ki (fun v20 σ' cnt' hq => ?_))
      obtain ⟨⟨I21, A21, rfl⟩, rfl⟩ := hq
      exact pm_iret hG hF dX12_about_115 rfl (Nat.le_refl _) (Nat.le_refl _) ⟨_, rfl, ⟨_, _, rfl⟩, rfl⟩
    by_cases c22 : zb = nI 5
    · refine pm_top (v := nI 5) c22 ?_
      refine pm_tswIn (tgt := 116) hG dX12_about_15 (by decide) (by decide) rfl rfl ?_
      refine pm_aloadn hG dX12_about_116 rfl ?_
      refine pm_iloadn hG dX12_about_117 rfl ?_
      refine pm_top (v := nI k4) ek4 ?_
      refine pm_callV (As := [.int (nI k4)]) (rest := []) hG hR dX12_about_118 (lkX12_122 _ rfl) okV_X12_holdsMany rfl rfl (m_holdsMany (d := 3) (by decide) hn hz) rfl rfl hdd (Nat.le_refl _) (Nat.le_refl _) (by decide) (pm_ki (fun v23 σ' cnt' hq => ?_))
      obtain ⟨rfl, rfl⟩ := hq
      exact pm_iret hG hF dX12_about_121 rfl (Nat.le_refl _) (Nat.le_refl _) ⟨_, rfl, ⟨_, _, rfl⟩, rfl⟩
    by_cases c25 : zb = nI 6
    · refine pm_top (v := nI 6) c25 ?_
      refine pm_tswIn (tgt := 122) hG dX12_about_15 (by decide) (by decide) rfl rfl ?_
      refine pm_aloadn hG dX12_about_122 rfl ?_
      refine pm_iloadn hG dX12_about_123 rfl ?_
      refine pm_top (v := nI k4) ek4 ?_
      rcases KI.opt hn (show kd (14 * k4 + 119) = (2, 2001, false) from (kd_P (k := k4) (c := 9) (by omega) (by omega) (by decide))) with ek26 | ⟨k26, hk26, ek26⟩
      · refine pm_callV (As := [.int (nI k4)]) (rest := []) hG hR dX12_about_124 (lkX12_101 _ rfl) okV_X12_lives rfl rfl (m_lives1 (d := 3) (by decide) (by omega) (by omega : 14 * k4 + 119 = 14 * k4 + 119) ek26) rfl rfl hdd (Nat.le_refl _) (Nat.le_refl _) (by decide) (pm_ki (fun v27 σ' cnt' hq => ?_))
        obtain ⟨rfl, rfl, rfl⟩ := hq
        refine pm_ifN_eq (tgt := 134) hG dX12_about_127 rfl (by omega) (fun q => absurd q (by omega)) (fun _ => ?_)
        refine pm_iconst (v := nI 0) hG dX12_about_130 (by decide) ?_
        refine pm_goto (tgt := 135) hG dX12_about_131 rfl ?_
        exact pm_iret hG hF dX12_about_135 rfl (Nat.le_refl _) (Nat.le_refl _) ⟨_, rfl, ⟨_, _, rfl⟩, rfl⟩
      · refine pm_callV (As := [.int (nI k4)]) (rest := []) hG hR dX12_about_124 (lkX12_101 _ rfl) okV_X12_lives rfl rfl (m_lives0 (d := 3) (by decide) (by omega) (by omega : 14 * k4 + 119 = 14 * k4 + 119) ek26 (by omega)) rfl rfl hdd (Nat.le_refl _) (Nat.le_refl _) (by decide) (pm_ki (fun v28 σ' cnt' hq => ?_))
        obtain ⟨rfl, rfl, rfl⟩ := hq
        refine pm_ifN_eq (tgt := 134) hG dX12_about_127 rfl (by omega) (fun _ => ?_) (fun q => absurd q (by omega))
        refine pm_iconst (v := nI 1) hG dX12_about_134 (by decide) ?_
        exact pm_iret hG hF dX12_about_135 rfl (Nat.le_refl _) (Nat.le_refl _) ⟨_, rfl, ⟨_, _, rfl⟩, rfl⟩
    by_cases c29 : zb = nI 7
    · refine pm_top (v := nI 7) c29 ?_
      refine pm_tswIn (tgt := 136) hG dX12_about_15 (by decide) (by decide) rfl rfl ?_
      refine pm_aloadn hG dX12_about_136 rfl ?_
      refine pm_iloadn hG dX12_about_137 rfl ?_
      refine pm_top (v := nI k4) ek4 ?_
      refine pm_bipush (v := nI 11) hG dX12_about_138 (by decide) ?_
      refine pm_callV (As := [.int (nI k4), .int (nI 11)]) (rest := []) hG hR dX12_about_140 (lkX12_72 _ rfl) okV_X12_man rfl rfl (m_man (d := 3) (e := 14 * k4 + 121) (by omega) (by omega) (by omega)) rfl rfl hdd (Nat.le_refl _) (Nat.le_refl _) (by decide) (pm_ki (fun v30 σ' cnt' hq => ?_))
      obtain ⟨rfl, rfl, rfl⟩ := hq
      obtain ⟨k31, hk31, ek31⟩ := KI.nat hn (show kd (14 * k4 + 121) = (1, 2, true) from (kd_P (k := k4) (c := 11) (by omega) (by omega) (by decide)))
      refine pm_top (v := nI k31) ek31 ?_
      exact pm_iret hG hF dX12_about_143 rfl (Nat.le_refl _) (Nat.le_refl _) ⟨_, rfl, ⟨_, _, rfl⟩, rfl⟩
    by_cases c32 : zb = nI 8
    · refine pm_top (v := nI 8) c32 ?_
      refine pm_tswIn (tgt := 144) hG dX12_about_15 (by decide) (by decide) rfl rfl ?_
      refine pm_aloadn hG dX12_about_144 rfl ?_
      refine pm_iloadn hG dX12_about_145 rfl ?_
      refine pm_top (v := nI k4) ek4 ?_
      refine pm_callV (As := [.int (nI k4)]) (rest := []) hG hR dX12_about_146 (lkX12_125 _ rfl) okV_X12_stepsOf rfl rfl (m_stepsOf (d := 3) (by decide) hn hz (by omega)) rfl rfl hdd (Nat.le_refl _) (Nat.le_refl _) (by decide) (pm_ki (fun v33 σ' cnt' hq => ?_))
      obtain ⟨⟨I34, A34, rfl⟩, rfl⟩ := hq
      exact pm_iret hG hF dX12_about_149 rfl (Nat.le_refl _) (Nat.le_refl _) ⟨_, rfl, ⟨_, _, rfl⟩, rfl⟩
    by_cases c35 : zb = nI 9
    · refine pm_top (v := nI 9) c35 ?_
      refine pm_tswIn (tgt := 150) hG dX12_about_15 (by decide) (by decide) rfl rfl ?_
      refine pm_aloadn hG dX12_about_150 rfl ?_
      refine pm_iloadn hG dX12_about_151 rfl ?_
      refine pm_top (v := nI k4) ek4 ?_
      refine pm_bipush (v := nI 12) hG dX12_about_152 (by decide) ?_
      refine pm_callV (As := [.int (nI k4), .int (nI 12)]) (rest := []) hG hR dX12_about_154 (lkX12_72 _ rfl) okV_X12_man rfl rfl (m_man (d := 3) (e := 14 * k4 + 122) (by omega) (by omega) (by omega)) rfl rfl hdd (Nat.le_refl _) (Nat.le_refl _) (by decide) (pm_ki (fun v36 σ' cnt' hq => ?_))
      obtain ⟨rfl, rfl, rfl⟩ := hq
      refine pm_gen (fun x37 ex37 => ?_)
      exact pm_iret hG hF dX12_about_157 rfl (Nat.le_refl _) (Nat.le_refl _) ⟨_, rfl, ⟨_, _, rfl⟩, rfl⟩
    have tc5 : ¬ zb.toInt = 0 := fun q => c5 (Int32.toInt_inj.mp (q.trans (by decide)))
    have tc8 : ¬ zb.toInt = 1 := fun q => c8 (Int32.toInt_inj.mp (q.trans (by decide)))
    have tc11 : ¬ zb.toInt = 2 := fun q => c11 (Int32.toInt_inj.mp (q.trans (by decide)))
    have tc14 : ¬ zb.toInt = 3 := fun q => c14 (Int32.toInt_inj.mp (q.trans (by decide)))
    have tc19 : ¬ zb.toInt = 4 := fun q => c19 (Int32.toInt_inj.mp (q.trans (by decide)))
    have tc22 : ¬ zb.toInt = 5 := fun q => c22 (Int32.toInt_inj.mp (q.trans (by decide)))
    have tc25 : ¬ zb.toInt = 6 := fun q => c25 (Int32.toInt_inj.mp (q.trans (by decide)))
    have tc29 : ¬ zb.toInt = 7 := fun q => c29 (Int32.toInt_inj.mp (q.trans (by decide)))
    have tc32 : ¬ zb.toInt = 8 := fun q => c32 (Int32.toInt_inj.mp (q.trans (by decide)))
    have tc35 : ¬ zb.toInt = 9 := fun q => c35 (Int32.toInt_inj.mp (q.trans (by decide)))
    refine pm_tswOut (tgt := 158) hG dX12_about_15 (by omega) rfl ?_
    refine pm_aloadn hG dX12_about_158 rfl ?_
    refine pm_iconst (v := nI 1) hG dX12_about_159 (by decide) ?_
    refine pm_callV (As := [.int (nI 1)]) (rest := []) hG hR dX12_about_160 (lkX12_80 _ rfl) okV_X12_finds rfl rfl (m_finds (d := 3) (by decide) hn hz (by omega)) rfl rfl hdd (Nat.le_refl _) (Nat.le_refl _) (by decide) (pm_ki (fun v38 σ' cnt' hq => ?_))
    obtain ⟨⟨I39, A39, rfl⟩, rfl, fv38⟩ := hq
    exact pm_iret hG hF dX12_about_163 rfl (Nat.le_refl _) (Nat.le_refl _) ⟨_, rfl, ⟨_, _, rfl⟩, rfl⟩
  · refine pm_ifN_ne (tgt := 14) hG dX12_about_5 rfl (by omega) (fun q => absurd q (by omega)) (fun _ => ?_)
    refine pm_aloadn hG dX12_about_8 rfl ?_
    refine pm_iconst (v := nI 1) hG dX12_about_9 (by decide) ?_
    refine pm_callV (As := [.int (nI 1)]) (rest := []) hG hR dX12_about_10 (lkX12_80 _ rfl) okV_X12_finds rfl rfl (m_finds (d := 3) (by decide) hn hz (by omega)) rfl rfl hdd (Nat.le_refl _) (Nat.le_refl _) (by decide) (pm_ki (fun v40 σ' cnt' hq => ?_))
    obtain ⟨⟨I41, A41, rfl⟩, rfl, fv40⟩ := hq
    exact pm_iret hG hF dX12_about_13 rfl (Nat.le_refl _) (Nat.le_refl _) ⟨_, rfl, ⟨_, _, rfl⟩, rfl⟩
