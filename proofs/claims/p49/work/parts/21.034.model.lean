set_option maxRecDepth 100000 in
set_option maxHeartbeats 4000000 in
theorem m_cannot {d B cnt p0 t0 : Nat} {σ : pm_S} {I : Nat → Int32} {A : Nat → Nat → Int32} {n k z : Nat → Int32} {ac wt pl im : Int32} {y : Nat → Int32} {ba c0 c1 : Nat} (hdd : 3 ≤ d) (hn : KI n) (hr : NR n) (hz : SZ z) (hba : ba < 40) (ec0 : n (12 * ba + 1294) = nI c0) (hc0 : c0 < 20) (ec1 : n 5 = nI c1) (hc1 : c1 < 41) (hl5 : ba < c1) : pm_met mX12_cannot d 0 0 B [.ref (B + 54), .int (nI ba)] cnt (pm_mid σ (md_L B I A n k z ac wt pl (nI p0) (nI t0) im y)) (pm_Qi (fun v σ' cnt' => (∃ (I' : Nat → Int32) (A' : Nat → Nat → Int32), σ' = pm_mid σ (md_L B I' A' n k z ac wt pl (nI p0) (nI t0) im y)) ∧ cnt = cnt' ∧ (v = nI 1 ∨ (v = nI 0 ∧ obOK n ba)))) := by
  refine pm_enter 2 (by decide) (Nat.le_of_ble_eq_true rfl) rfl (fun G hG hR hF => ?_)
  refine pm_aloadn hG dX12_cannot_0 rfl ?_
  refine pm_iloadn hG dX12_cannot_1 rfl ?_
  refine pm_iconst (v := nI 4) hG dX12_cannot_2 (by decide) ?_
  refine pm_callV (As := [.int (nI ba), .int (nI 4)]) (rest := []) hG hR dX12_cannot_3 (lkX12_199 _ rfl) okV_X12_of rfl rfl (m_of (d := 2) (e := 12 * ba + 1294) (by omega) (by omega) (by omega)) rfl rfl hdd (Nat.le_refl _) (Nat.le_refl _) (by decide) (pm_ki (fun v1 σ' cnt' hq => ?_))
  obtain ⟨rfl, rfl, rfl⟩ := hq
  refine pm_top (v := nI c0) ec0 ?_
  refine pm_istoreXn (loc' := [some (.ref (B + 54)), some (.int (nI ba)), some (.int (nI c0)), none]) hG dX12_cannot_6 (by decide) (pm_c1b rfl) rfl ?_
  refine pm_aloadn hG dX12_cannot_7 rfl ?_
  refine pm_iloadn hG dX12_cannot_8 rfl ?_
  refine pm_iconst (v := nI 2) hG dX12_cannot_9 (by decide) ?_
  refine pm_callV (As := [.int (nI ba), .int (nI 2)]) (rest := []) hG hR dX12_cannot_10 (lkX12_199 _ rfl) okV_X12_of rfl rfl (m_of (d := 2) (e := 12 * ba + 1292) (by omega) (by omega) (by omega)) rfl rfl hdd (Nat.le_refl _) (Nat.le_refl _) (by decide) (pm_ki (fun v2 σ' cnt' hq => ?_))
  obtain ⟨rfl, rfl, rfl⟩ := hq
  obtain ⟨k3, hk3, ek3⟩ := KI.nat hn (show kd (12 * ba + 1292) = (1, 1000, false) from (kd_E (k := ba) (c := 2) (by omega) (by omega) (by decide)))
  refine pm_top (v := nI k3) ek3 ?_
  refine pm_istoreXn (loc' := [some (.ref (B + 54)), some (.int (nI ba)), some (.int (nI c0)), some (.int (nI k3))]) hG dX12_cannot_13 (by decide) (pm_c1b rfl) rfl ?_
  refine pm_aloadn hG dX12_cannot_14 rfl ?_
  refine pm_iloadn hG dX12_cannot_15 rfl ?_
  refine pm_iconst (v := nI 1) hG dX12_cannot_16 (by decide) ?_
  refine pm_callV (As := [.int (nI ba), .int (nI 1)]) (rest := []) hG hR dX12_cannot_17 (lkX12_199 _ rfl) okV_X12_of rfl rfl (m_of (d := 2) (e := 12 * ba + 1291) (by omega) (by omega) (by omega)) rfl rfl hdd (Nat.le_refl _) (Nat.le_refl _) (by decide) (pm_ki (fun v4 σ' cnt' hq => ?_))
  obtain ⟨rfl, rfl, rfl⟩ := hq
  refine pm_gen (fun x5 ex5 => ?_)
  by_cases c6 : x5 = nI 0
  · refine pm_top (v := nI 0) c6 ?_
    refine pm_tswIn (tgt := 52) hG dX12_cannot_20 (by decide) (by decide) rfl rfl ?_
    refine pm_aloadn hG dX12_cannot_52 rfl ?_
    refine pm_getf hG dX12_cannot_53 (flX12_7 _ rfl) rfl rfl ?_
    refine pm_bipush (v := nI 9) hG dX12_cannot_56 (by decide) ?_
    refine pm_ialdN hG dX12_cannot_58 rfl (by decide) (by omega) ?_
    refine pm_gen (fun x7 ex7 => ?_)
    refine pm_iloadn hG dX12_cannot_59 rfl ?_
    refine pm_icmp_ge (tgt := 67) hG dX12_cannot_60 rfl (fun c8 => ?_) (fun c8 => ?_)
    · refine pm_iconst (v := nI 0) hG dX12_cannot_67 (by decide) ?_
      refine pm_zret hG hF dX12_cannot_68 rfl (by rfl) (Nat.le_refl _) (Nat.le_refl _) ⟨_, rfl, ⟨_, _, rfl⟩, rfl, Or.inr ⟨rfl, fun hs => ?_, fun hs => ?_⟩⟩
      · exact absurd (c6.symm.trans (ex5.symm.trans hs)) (by decide)
      · exact absurd (c6.symm.trans (ex5.symm.trans hs)) (by decide)
    · refine pm_iconst (v := nI 1) hG dX12_cannot_63 (by decide) ?_
      refine pm_goto (tgt := 68) hG dX12_cannot_64 rfl ?_
      exact pm_zret hG hF dX12_cannot_68 rfl (by rfl) (Nat.le_refl _) (Nat.le_refl _) ⟨_, rfl, ⟨_, _, rfl⟩, rfl, Or.inl rfl⟩
  by_cases c9 : x5 = nI 1
  · refine pm_top (v := nI 1) c9 ?_
    refine pm_tswIn (tgt := 69) hG dX12_cannot_20 (by decide) (by decide) rfl rfl ?_
    refine pm_aloadn hG dX12_cannot_69 rfl ?_
    refine pm_iloadn hG dX12_cannot_70 rfl ?_
    refine pm_iconst (v := nI 4) hG dX12_cannot_71 (by decide) ?_
    refine pm_callV (As := [.int (nI c0), .int (nI 4)]) (rest := []) hG hR dX12_cannot_72 (lkX12_72 _ rfl) okV_X12_man rfl rfl (m_man (d := 2) (e := 14 * c0 + 114) (by omega) (by omega) (by omega)) rfl rfl hdd (Nat.le_refl _) (Nat.le_refl _) (by decide) (pm_ki (fun v10 σ' cnt' hq => ?_))
    obtain ⟨rfl, rfl, rfl⟩ := hq
    rcases KI.opt hn (show kd (14 * c0 + 114) = (2, 10, false) from (kd_P (k := c0) (c := 4) (by omega) (by omega) (by decide))) with ek11 | ⟨k11, hk11, ek11⟩
    · refine pm_top (v := (-1)) ek11 ?_
      refine pm_if_lt (tgt := 99) hG dX12_cannot_75 rfl (fun _ => ?_) (fun q => absurd q (by decide))
      refine pm_iconst (v := nI 1) hG dX12_cannot_99 (by decide) ?_
      refine pm_goto (tgt := 104) hG dX12_cannot_100 rfl ?_
      exact pm_zret hG hF dX12_cannot_104 rfl (by rfl) (Nat.le_refl _) (Nat.le_refl _) ⟨_, rfl, ⟨_, _, rfl⟩, rfl, Or.inl rfl⟩
    · refine pm_top (v := nI k11) ek11 ?_
      refine pm_ifN_lt hG dX12_cannot_75 rfl (by omega) ?_
      refine pm_aloadn hG dX12_cannot_78 rfl ?_
      refine pm_aloadn hG dX12_cannot_79 rfl ?_
      refine pm_iloadn hG dX12_cannot_80 rfl ?_
      refine pm_iconst (v := nI 4) hG dX12_cannot_81 (by decide) ?_
      refine pm_callV (As := [.int (nI c0), .int (nI 4)]) (rest := [.ref (B + 54)]) hG hR dX12_cannot_82 (lkX12_72 _ rfl) okV_X12_man rfl rfl (m_man (d := 2) (e := 14 * c0 + 114) (by omega) (by omega) (by omega)) rfl rfl hdd (Nat.le_refl _) (Nat.le_refl _) (Nat.le_of_ble_eq_true rfl) (pm_ki (fun v12 σ' cnt' hq => ?_))
      obtain ⟨rfl, rfl, rfl⟩ := hq
      refine pm_top (v := nI k11) ek11 ?_
      obtain ⟨k13, hk13, ek13⟩ := NRx.someL hn ec1 (by omega) hr
      refine pm_iloadn hG dX12_cannot_85 rfl ?_
      refine pm_aloadn hG dX12_cannot_86 rfl ?_
      refine pm_getf hG dX12_cannot_87 (flX12_7 _ rfl) rfl rfl ?_
      refine pm_iconst (v := nI 0) hG dX12_cannot_90 (by decide) ?_
      refine pm_ialdN hG dX12_cannot_91 rfl (by decide) (by omega) ?_
      refine pm_top (v := nI k13) ek13 ?_
      refine pm_iremN hG dX12_cannot_92 (by omega) (by omega) (by omega) (fun r14 hr14 _ => ?_)
      refine pm_callV (As := [.int (nI k11), .int (nI r14)]) (rest := []) hG hR dX12_cannot_93 (lkX12_88 _ rfl) okV_X12_farOf rfl rfl (m_farOf (d := 2) (by decide) hn hz (by omega)) rfl rfl hdd (Nat.le_refl _) (Nat.le_refl _) (by decide) (pm_ki (fun v15 σ' cnt' hq => ?_))
      obtain ⟨⟨I16, A16, rfl⟩, rfl⟩ := hq
      refine pm_if_ge (tgt := 103) hG dX12_cannot_96 rfl (fun c17 => ?_) (fun c17 => ?_)
      · obtain ⟨k18, hk18, ek18⟩ := nI_of (Int32.not_lt.mpr c17)
        refine pm_iconst (v := nI 0) hG dX12_cannot_103 (by decide) ?_
        refine pm_zret hG hF dX12_cannot_104 rfl (by rfl) (Nat.le_refl _) (Nat.le_refl _) ⟨_, rfl, ⟨_, _, rfl⟩, rfl, Or.inr ⟨rfl, fun hs => ?_, fun hs => ?_⟩⟩
        · exact absurd (c9.symm.trans (ex5.symm.trans hs)) (by decide)
        · exact absurd (c9.symm.trans (ex5.symm.trans hs)) (by decide)
      · refine pm_iconst (v := nI 1) hG dX12_cannot_99 (by decide) ?_
        refine pm_goto (tgt := 104) hG dX12_cannot_100 rfl ?_
        exact pm_zret hG hF dX12_cannot_104 rfl (by rfl) (Nat.le_refl _) (Nat.le_refl _) ⟨_, rfl, ⟨_, _, rfl⟩, rfl, Or.inl rfl⟩
  by_cases c19 : x5 = nI 2
  · refine pm_top (v := nI 2) c19 ?_
    refine pm_tswIn (tgt := 105) hG dX12_cannot_20 (by decide) (by decide) rfl rfl ?_
    refine pm_aloadn hG dX12_cannot_105 rfl ?_
    refine pm_iloadn hG dX12_cannot_106 rfl ?_
    obtain ⟨k20, hk20, ek20⟩ := KI.nat hn (show kd 3 = (1, 21, false) by decide)
    refine pm_callV (As := [.int (nI k3)]) (rest := []) hG hR dX12_cannot_107 (lkX12_132 _ rfl) okV_X12_isPower rfl rfl (m_isPower (d := 2) (by decide) ek20 (by omega)) rfl rfl hdd (Nat.le_refl _) (Nat.le_refl _) (by decide) (pm_ki (fun v21 σ' cnt' hq => ?_))
    obtain ⟨hq, rfl, rfl⟩ := hq
    rcases hq with ⟨rfl, k23, hk23, ek23⟩ | rfl
    · have gk23 := nI_inj (by omega) (by omega) ek23
      refine pm_ifN_ne (tgt := 117) hG dX12_cannot_110 rfl (by omega) (fun _ => ?_) (fun q => absurd q (by omega))
      refine pm_iconst (v := nI 0) hG dX12_cannot_117 (by decide) ?_
      refine pm_zret hG hF dX12_cannot_118 rfl (by rfl) (Nat.le_refl _) (Nat.le_refl _) ⟨_, rfl, ⟨_, _, rfl⟩, rfl, Or.inr ⟨rfl, fun hs => ?_, fun hs => ?_⟩⟩
      · exact ⟨k3, by omega, ek3⟩
      · exact absurd (c19.symm.trans (ex5.symm.trans hs)) (by decide)
    · refine pm_ifN_ne (tgt := 117) hG dX12_cannot_110 rfl (by omega) (fun q => absurd q (by omega)) (fun _ => ?_)
      refine pm_iconst (v := nI 1) hG dX12_cannot_113 (by decide) ?_
      refine pm_goto (tgt := 118) hG dX12_cannot_114 rfl ?_
      exact pm_zret hG hF dX12_cannot_118 rfl (by rfl) (Nat.le_refl _) (Nat.le_refl _) ⟨_, rfl, ⟨_, _, rfl⟩, rfl, Or.inl rfl⟩
  by_cases c24 : x5 = nI 3
  · refine pm_top (v := nI 3) c24 ?_
    refine pm_tswIn (tgt := 119) hG dX12_cannot_20 (by decide) (by decide) rfl rfl ?_
    refine pm_aloadn hG dX12_cannot_119 rfl ?_
    refine pm_iloadn hG dX12_cannot_120 rfl ?_
    obtain ⟨k25, hk25, ek25⟩ := KI.nat hn (show kd 4 = (1, 13, false) by decide)
    refine pm_callV (As := [.int (nI k3)]) (rest := []) hG hR dX12_cannot_121 (lkX12_192 _ rfl) okV_X12_isLaw rfl rfl (m_isLaw (d := 2) (by decide) ek25 (by omega)) rfl rfl hdd (Nat.le_refl _) (Nat.le_refl _) (by decide) (pm_ki (fun v26 σ' cnt' hq => ?_))
    obtain ⟨hq, rfl, rfl⟩ := hq
    rcases hq with ⟨rfl, k28, hk28, ek28⟩ | rfl
    · have gk28 := nI_inj (by omega) (by omega) ek28
      refine pm_ifN_eq (tgt := 145) hG dX12_cannot_124 rfl (by omega) (fun q => absurd q (by omega)) (fun _ => ?_)
      refine pm_aloadn hG dX12_cannot_127 rfl ?_
      refine pm_getf hG dX12_cannot_128 (flX12_7 _ rfl) rfl rfl ?_
      refine pm_sipush (v := nI 510) hG dX12_cannot_131 (by decide) ?_
      refine pm_bipush (v := nI 65) hG dX12_cannot_134 (by decide) ?_
      refine pm_iloadn hG dX12_cannot_136 rfl ?_
      refine pm_imulN (c := 65 * k3) hG dX12_cannot_137 (by omega) ?_
      refine pm_iaddN (c := 65 * k3 + 510) hG dX12_cannot_138 (by omega) ?_
      refine pm_iconst (v := nI 3) hG dX12_cannot_139 (by decide) ?_
      refine pm_iaddN (c := 65 * k3 + 513) hG dX12_cannot_140 (by omega) ?_
      refine pm_ialdN hG dX12_cannot_141 rfl (by decide) (by omega) ?_
      refine pm_gen (fun x29 ex29 => ?_)
      refine pm_if_lt (tgt := 149) hG dX12_cannot_142 rfl (fun c30 => ?_) (fun c30 => ?_)
      · refine pm_iconst (v := nI 0) hG dX12_cannot_149 (by decide) ?_
        refine pm_zret hG hF dX12_cannot_150 rfl (by rfl) (Nat.le_refl _) (Nat.le_refl _) ⟨_, rfl, ⟨_, _, rfl⟩, rfl, Or.inr ⟨rfl, fun hs => ?_, fun hs => ?_⟩⟩
        · exact absurd (c24.symm.trans (ex5.symm.trans hs)) (by decide)
        · exact ⟨k3, by omega, ek3⟩
      · obtain ⟨k31, hk31, ek31⟩ := nI_of c30
        refine pm_iconst (v := nI 1) hG dX12_cannot_145 (by decide) ?_
        refine pm_goto (tgt := 150) hG dX12_cannot_146 rfl ?_
        exact pm_zret hG hF dX12_cannot_150 rfl (by rfl) (Nat.le_refl _) (Nat.le_refl _) ⟨_, rfl, ⟨_, _, rfl⟩, rfl, Or.inl rfl⟩
    · refine pm_ifN_eq (tgt := 145) hG dX12_cannot_124 rfl (by omega) (fun _ => ?_) (fun q => absurd q (by omega))
      refine pm_iconst (v := nI 1) hG dX12_cannot_145 (by decide) ?_
      refine pm_goto (tgt := 150) hG dX12_cannot_146 rfl ?_
      exact pm_zret hG hF dX12_cannot_150 rfl (by rfl) (Nat.le_refl _) (Nat.le_refl _) ⟨_, rfl, ⟨_, _, rfl⟩, rfl, Or.inl rfl⟩
  have tc6 : ¬ x5.toInt = 0 := fun q => c6 (Int32.toInt_inj.mp (q.trans (by decide)))
  have tc9 : ¬ x5.toInt = 1 := fun q => c9 (Int32.toInt_inj.mp (q.trans (by decide)))
  have tc19 : ¬ x5.toInt = 2 := fun q => c19 (Int32.toInt_inj.mp (q.trans (by decide)))
  have tc24 : ¬ x5.toInt = 3 := fun q => c24 (Int32.toInt_inj.mp (q.trans (by decide)))
  refine pm_tswOut (tgt := 151) hG dX12_cannot_20 (by omega) rfl ?_
  refine pm_iconst (v := nI 0) hG dX12_cannot_151 (by decide) ?_
  refine pm_zret hG hF dX12_cannot_152 rfl (by rfl) (Nat.le_refl _) (Nat.le_refl _) ⟨_, rfl, ⟨_, _, rfl⟩, rfl, Or.inr ⟨rfl, fun hs => ?_, fun hs => ?_⟩⟩
  · exact absurd (congrArg Int32.toInt (ex5.symm.trans hs)) tc19
  · exact absurd (congrArg Int32.toInt (ex5.symm.trans hs)) tc24
