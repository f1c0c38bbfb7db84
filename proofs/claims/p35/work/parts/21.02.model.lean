set_option maxRecDepth 100000 in
set_option maxHeartbeats 4000000 in
theorem m_done {d B cnt p0 t0 : Nat} {σ : pm_S} {I : Nat → Int32} {A : Nat → Nat → Int32} {n k z : Nat → Int32} {ac wt pl im : Int32} {za zb zc : Int32} (hdd : 1 ≤ d) (hn : KI n) (hz : SZ z)  : pm_met mX12_done d 0 0 B [.int za, .int zb, .int zc] cnt (pm_mid σ (md_L B I A n k z ac wt pl (nI p0) (nI t0) im)) (pm_Qi (fun v σ' cnt' => σ' = pm_mid σ (md_L B I A n k z ac wt pl (nI p0) (nI t0) im) ∧ cnt = cnt')) := by
  refine pm_enter 0 (by decide) (Nat.le_of_ble_eq_true rfl) rfl (fun G hG hR hF => ?_)
  refine pm_iloadn hG dX12_done_0 rfl ?_
  by_cases c1 : za = nI 38
  · refine pm_top (v := nI 38) c1 ?_
    refine pm_lsw (off := 73) (tgt := 74) hG dX12_done_1 (by decide) (by decide) rfl ?_
    refine pm_iloadn hG dX12_done_74 rfl ?_
    refine pm_if_eq (tgt := 86) hG dX12_done_75 rfl (fun c2 => ?_) (fun c2 => ?_)
    · refine pm_iconst (v := nI 0) hG dX12_done_86 (by decide) ?_
      exact pm_iret hG hF dX12_done_87 rfl (Nat.le_refl _) (Nat.le_refl _) ⟨_, rfl, rfl, rfl⟩
    · refine pm_iloadn hG dX12_done_78 rfl ?_
      refine pm_if_eq (tgt := 86) hG dX12_done_79 rfl (fun c3 => ?_) (fun c3 => ?_)
      · refine pm_iconst (v := nI 0) hG dX12_done_86 (by decide) ?_
        exact pm_iret hG hF dX12_done_87 rfl (Nat.le_refl _) (Nat.le_refl _) ⟨_, rfl, rfl, rfl⟩
      · refine pm_iconst (v := nI 1) hG dX12_done_82 (by decide) ?_
        refine pm_goto (tgt := 87) hG dX12_done_83 rfl ?_
        exact pm_iret hG hF dX12_done_87 rfl (Nat.le_refl _) (Nat.le_refl _) ⟨_, rfl, rfl, rfl⟩
  by_cases c4 : za = nI 43
  · refine pm_top (v := nI 43) c4 ?_
    refine pm_lsw (off := 120) (tgt := 121) hG dX12_done_1 (by decide) (by decide) rfl ?_
    refine pm_iloadn hG dX12_done_121 rfl ?_
    refine pm_iloadn hG dX12_done_122 rfl ?_
    refine pm_iadd hG dX12_done_123 ?_
    exact pm_iret hG hF dX12_done_124 rfl (Nat.le_refl _) (Nat.le_refl _) ⟨_, rfl, rfl, rfl⟩
  by_cases c5 : za = nI 60
  · refine pm_top (v := nI 60) c5 ?_
    refine pm_lsw (off := 87) (tgt := 88) hG dX12_done_1 (by decide) (by decide) rfl ?_
    refine pm_iloadn hG dX12_done_88 rfl ?_
    refine pm_iloadn hG dX12_done_89 rfl ?_
    refine pm_icmp_ge (tgt := 97) hG dX12_done_90 rfl (fun c6 => ?_) (fun c6 => ?_)
    · refine pm_iconst (v := nI 0) hG dX12_done_97 (by decide) ?_
      exact pm_iret hG hF dX12_done_98 rfl (Nat.le_refl _) (Nat.le_refl _) ⟨_, rfl, rfl, rfl⟩
    · refine pm_iconst (v := nI 1) hG dX12_done_93 (by decide) ?_
      refine pm_goto (tgt := 98) hG dX12_done_94 rfl ?_
      exact pm_iret hG hF dX12_done_98 rfl (Nat.le_refl _) (Nat.le_refl _) ⟨_, rfl, rfl, rfl⟩
  by_cases c7 : za = nI 61
  · refine pm_top (v := nI 61) c7 ?_
    refine pm_lsw (off := 98) (tgt := 99) hG dX12_done_1 (by decide) (by decide) rfl ?_
    refine pm_iloadn hG dX12_done_99 rfl ?_
    refine pm_iloadn hG dX12_done_100 rfl ?_
    refine pm_icmp_ne (tgt := 108) hG dX12_done_101 rfl (fun c8 => ?_) (fun c8 => ?_)
    · refine pm_iconst (v := nI 0) hG dX12_done_108 (by decide) ?_
      exact pm_iret hG hF dX12_done_109 rfl (Nat.le_refl _) (Nat.le_refl _) ⟨_, rfl, rfl, rfl⟩
    · refine pm_iconst (v := nI 1) hG dX12_done_104 (by decide) ?_
      refine pm_goto (tgt := 109) hG dX12_done_105 rfl ?_
      exact pm_iret hG hF dX12_done_109 rfl (Nat.le_refl _) (Nat.le_refl _) ⟨_, rfl, rfl, rfl⟩
  by_cases c9 : za = nI 62
  · refine pm_top (v := nI 62) c9 ?_
    refine pm_lsw (off := 109) (tgt := 110) hG dX12_done_1 (by decide) (by decide) rfl ?_
    refine pm_iloadn hG dX12_done_110 rfl ?_
    refine pm_iloadn hG dX12_done_111 rfl ?_
    refine pm_icmp_le (tgt := 119) hG dX12_done_112 rfl (fun c10 => ?_) (fun c10 => ?_)
    · refine pm_iconst (v := nI 0) hG dX12_done_119 (by decide) ?_
      exact pm_iret hG hF dX12_done_120 rfl (Nat.le_refl _) (Nat.le_refl _) ⟨_, rfl, rfl, rfl⟩
    · refine pm_iconst (v := nI 1) hG dX12_done_115 (by decide) ?_
      refine pm_goto (tgt := 120) hG dX12_done_116 rfl ?_
      exact pm_iret hG hF dX12_done_120 rfl (Nat.le_refl _) (Nat.le_refl _) ⟨_, rfl, rfl, rfl⟩
  by_cases c11 : za = nI 124
  · refine pm_top (v := nI 124) c11 ?_
    refine pm_lsw (off := 59) (tgt := 60) hG dX12_done_1 (by decide) (by decide) rfl ?_
    refine pm_iloadn hG dX12_done_60 rfl ?_
    refine pm_if_ne (tgt := 68) hG dX12_done_61 rfl (fun c12 => ?_) (fun c12 => ?_)
    · refine pm_iconst (v := nI 1) hG dX12_done_68 (by decide) ?_
      refine pm_goto (tgt := 73) hG dX12_done_69 rfl ?_
      exact pm_iret hG hF dX12_done_73 rfl (Nat.le_refl _) (Nat.le_refl _) ⟨_, rfl, rfl, rfl⟩
    · refine pm_iloadn hG dX12_done_64 rfl ?_
      refine pm_if_eq (tgt := 72) hG dX12_done_65 rfl (fun c13 => ?_) (fun c13 => ?_)
      · refine pm_iconst (v := nI 0) hG dX12_done_72 (by decide) ?_
        exact pm_iret hG hF dX12_done_73 rfl (Nat.le_refl _) (Nat.le_refl _) ⟨_, rfl, rfl, rfl⟩
      · refine pm_iconst (v := nI 1) hG dX12_done_68 (by decide) ?_
        refine pm_goto (tgt := 73) hG dX12_done_69 rfl ?_
        exact pm_iret hG hF dX12_done_73 rfl (Nat.le_refl _) (Nat.le_refl _) ⟨_, rfl, rfl, rfl⟩
  have tc1 : ¬ za.toInt = 38 := fun q => c1 (Int32.toInt_inj.mp (q.trans (by decide)))
  have tc4 : ¬ za.toInt = 43 := fun q => c4 (Int32.toInt_inj.mp (q.trans (by decide)))
  have tc5 : ¬ za.toInt = 60 := fun q => c5 (Int32.toInt_inj.mp (q.trans (by decide)))
  have tc7 : ¬ za.toInt = 61 := fun q => c7 (Int32.toInt_inj.mp (q.trans (by decide)))
  have tc9 : ¬ za.toInt = 62 := fun q => c9 (Int32.toInt_inj.mp (q.trans (by decide)))
  have tc11 : ¬ za.toInt = 124 := fun q => c11 (Int32.toInt_inj.mp (q.trans (by decide)))
  refine pm_lsw (off := 124) (tgt := 125) hG dX12_done_1 (by decide) (by simp [Op.lookupswitch.offset, tc1, Ne.symm tc1, tc4, Ne.symm tc4, tc5, Ne.symm tc5, tc7, Ne.symm tc7, tc9, Ne.symm tc9, tc11, Ne.symm tc11]) rfl ?_
  refine pm_iloadn hG dX12_done_125 rfl ?_
  refine pm_iloadn hG dX12_done_126 rfl ?_
  refine pm_isub hG dX12_done_127 ?_
  exact pm_iret hG hF dX12_done_128 rfl (Nat.le_refl _) (Nat.le_refl _) ⟨_, rfl, rfl, rfl⟩

set_option maxRecDepth 100000 in
set_option maxHeartbeats 4000000 in
theorem m_comesTo_n12_n20_m {d B cnt p0 t0 : Nat} {σ : pm_S} {I : Nat → Int32} {A : Nat → Nat → Int32} {n k z : Nat → Int32} {ac wt pl im : Int32} {zd : Int32} {ba bb : Nat} (hdd : 3 ≤ d) (hn : KI n) (hr : NR n) (hz : SZ z) (hba : ba < 12) (hbb : bb < 20) : pm_met mX12_comesTo d 0 0 B [.ref (B + 54), .int (nI ba), .int (nI bb), .int (-1), .int zd] cnt (pm_mid σ (md_L B I A n k z ac wt pl (nI p0) (nI t0) im)) (pm_Qi (fun v σ' cnt' => (∃ (I' : Nat → Int32) (A' : Nat → Nat → Int32), σ' = pm_mid σ (md_L B I' A' n k z ac wt pl (nI p0) (nI t0) im)) ∧ cnt = cnt')) := by
  refine pm_enter 4 (by decide) (Nat.le_of_ble_eq_true rfl) rfl (fun G hG hR hF => ?_)
  refine pm_iloadn hG dX12_comesTo_0 rfl ?_
  refine pm_ifN_ge (tgt := 6) hG dX12_comesTo_1 rfl (by omega) ?_
  refine pm_aloadn hG dX12_comesTo_6 rfl ?_
  refine pm_iloadn hG dX12_comesTo_7 rfl ?_
  refine pm_iloadn hG dX12_comesTo_8 rfl ?_
  refine pm_iloadi hG dX12_comesTo_9 rfl ?_
  refine pm_callV (As := [.int (nI bb), .int (-1), .int zd]) (rest := []) hG hR dX12_comesTo_11 (lkX12_205 _ rfl) okV_X12_setNames rfl rfl (m_setNames_n20_m (d := 2) (by decide) hn hz (by omega)) rfl rfl hdd (Nat.le_refl _) (Nat.le_refl _) (by decide) (pm_kv (fun σ' cnt' hq => ?_))
  obtain ⟨⟨I2, A2, rfl⟩, rfl⟩ := hq
  refine pm_iconst (v := nI 0) hG dX12_comesTo_14 (by decide) ?_
  refine pm_istoreXi (loc' := [some (.ref (B + 54)), some (.int (nI ba)), some (.int (nI bb)), some (.int (-1)), some (.int zd), some (.int (nI 0)), none, none, none]) hG dX12_comesTo_15 (by decide) (pm_c1b rfl) rfl ?_
  refine pm_sipush (v := nI 510) hG dX12_comesTo_17 (by decide) ?_
  refine pm_bipush (v := nI 65) hG dX12_comesTo_20 (by decide) ?_
  refine pm_iloadn hG dX12_comesTo_22 rfl ?_
  refine pm_imulN (c := 65 * ba) hG dX12_comesTo_23 (by omega) ?_
  refine pm_iaddN (c := 65 * ba + 510) hG dX12_comesTo_24 (by omega) ?_
  refine pm_iconst (v := nI 5) hG dX12_comesTo_25 (by decide) ?_
  refine pm_iaddN (c := 65 * ba + 515) hG dX12_comesTo_26 (by omega) ?_
  refine pm_istoreXi (loc' := [some (.ref (B + 54)), some (.int (nI ba)), some (.int (nI bb)), some (.int (-1)), some (.int zd), some (.int (nI 0)), some (.int (nI (65 * ba + 515))), none, none]) hG dX12_comesTo_27 (by decide) (pm_c1b rfl) rfl ?_
  refine pm_iloadi hG dX12_comesTo_29 rfl ?_
  refine pm_istoreXi (loc' := [some (.ref (B + 54)), some (.int (nI ba)), some (.int (nI bb)), some (.int (-1)), some (.int zd), some (.int (nI 0)), some (.int (nI (65 * ba + 515))), some (.int (nI (65 * ba + 515))), none]) hG dX12_comesTo_31 (by decide) (pm_c1b rfl) rfl ?_
  obtain ⟨lC, eC, hC, cC⟩ := hr.2.2.2 ba (by omega)
  have fC : n (65 * ba + 514) = nI lC := eC
  have loopC : ∀ (mC : Nat) (rC : Nat) (IC : Nat → Int32) (AC : Nat → Nat → Int32) (jC dC : Nat), cOK (fun q => n (65 * ba + 515 + q)) rC jC dC → dC ≤ jC → jC + rC = lC → rC < mC → pm_wp mX12_comesTo G B 33 [some (.ref (B + 54)), some (.int (nI ba)), some (.int (nI bb)), some (.int (-1)), some (.int zd), some (.int (nI dC)), some (.int (nI (65 * ba + 515))), some (.int (nI (65 * ba + jC + 515))), none] [] 0 0 cnt (pm_mid σ (md_L B IC AC n k z ac wt pl (nI p0) (nI t0) im)) := by
    intro mC
    induction mC with
    | zero => intro rC IC AC jC dC _ _ _ hm; exact absurd hm (Nat.not_lt_zero _)
    | succ mC ihC =>
      intro rC IC AC jC dC kC hdC hjC hmC
      refine pm_iloadi hG dX12_comesTo_33 rfl ?_
      refine pm_iloadi hG dX12_comesTo_35 rfl ?_
      refine pm_aloadn hG dX12_comesTo_37 rfl ?_
      refine pm_getf hG dX12_comesTo_38 (flX12_7 _ rfl) rfl rfl ?_
      refine pm_iloadi hG dX12_comesTo_41 rfl ?_
      refine pm_iconst (v := nI 1) hG dX12_comesTo_43 (by decide) ?_
      refine pm_isubN (c := 65 * ba + 514) hG dX12_comesTo_44 (by omega) ?_
      refine pm_ialdN hG dX12_comesTo_45 rfl (by decide) (by omega) ?_
      refine pm_top (v := nI lC) fC ?_
      refine pm_iaddN (c := 65 * ba + lC + 515) hG dX12_comesTo_46 (by omega) ?_
      refine pm_icmpN_ge (tgt := 177) hG dX12_comesTo_47 rfl (by omega) (by omega) (fun c3 => ?_) (fun c3 => ?_)
      · refine pm_aloadn hG dX12_comesTo_177 rfl ?_
        refine pm_getf hG dX12_comesTo_178 (flX12_31 _ rfl) rfl rfl ?_
        refine pm_iconst (v := nI 0) hG dX12_comesTo_181 (by decide) ?_
        refine pm_ialdN hG dX12_comesTo_182 rfl (by decide) (by omega) ?_
        refine pm_any (fun x4 => ?_)
        exact pm_iret hG hF dX12_comesTo_183 rfl (Nat.le_refl _) (Nat.le_refl _) ⟨_, rfl, ⟨_, _, rfl⟩, rfl⟩
      · refine pm_aloadn hG dX12_comesTo_50 rfl ?_
        refine pm_getf hG dX12_comesTo_51 (flX12_7 _ rfl) rfl rfl ?_
        refine pm_iloadi hG dX12_comesTo_54 rfl ?_
        refine pm_ialdN hG dX12_comesTo_56 rfl (by decide) (by omega) ?_
        refine pm_gen (fun x5 ex5 => ?_)
        refine pm_istoreXi (loc' := [some (.ref (B + 54)), some (.int (nI ba)), some (.int (nI bb)), some (.int (-1)), some (.int zd), some (.int (nI dC)), some (.int (nI (65 * ba + 515))), some (.int (nI (65 * ba + jC + 515))), some (.int x5)]) hG dX12_comesTo_57 (by decide) (pm_c1b rfl) rfl ?_
        obtain ⟨rD, rfl⟩ : ∃ rD : Nat, rC = rD + 1 := ⟨rC - 1, by omega⟩
        have fx : n (65 * ba + 515 + jC) = x5 := by
          rw [show 65 * ba + 515 + jC = 65 * ba + jC + 515 by omega]; exact ex5
        unfold cOK at kC
        rw [fx] at kC
        rcases kC with ⟨g1, g2, g3⟩ | ⟨g1, g2, g3⟩ | ⟨g1, g2, g3, g4⟩
        · refine pm_iloadi hG dX12_comesTo_59 rfl ?_
          refine pm_bipush (v := (-100)) hG dX12_comesTo_61 (by decide) ?_
          refine pm_icmp_le (tgt := 98) hG dX12_comesTo_63 rfl (fun q => absurd q g1) (fun _ => ?_)
          refine pm_aloadn hG dX12_comesTo_66 rfl ?_
          refine pm_getf hG dX12_comesTo_67 (flX12_31 _ rfl) rfl rfl ?_
          refine pm_iloadi hG dX12_comesTo_70 rfl ?_
          refine pm_iloadi hG dX12_comesTo_72 rfl ?_
          refine pm_if_ge (tgt := 89) hG dX12_comesTo_74 rfl (fun _ => ?_) (fun cx => ?_)
          · refine pm_iloadi hG dX12_comesTo_89 rfl ?_
            refine pm_iastN hG dX12_comesTo_91 rfl (by decide) (by omega) ?_
            refine mdn_row (fun A_6 => ?_)
            refine pm_iincX (v := nI (dC + 1)) (loc' := [some (.ref (B + 54)), some (.int (nI ba)), some (.int (nI bb)), some (.int (-1)), some (.int zd), some (.int (nI (dC + 1))), some (.int (nI (65 * ba + 515))), some (.int (nI (65 * ba + jC + 515))), some (.int x5)]) hG dX12_comesTo_92 rfl (nI_1 _) (by decide) (pm_c1b rfl) rfl ?_
            refine pm_goto (tgt := 171) hG dX12_comesTo_95 rfl ?_
            refine pm_iincX (v := nI (65 * ba + jC + 516)) (loc' := [some (.ref (B + 54)), some (.int (nI ba)), some (.int (nI bb)), some (.int (-1)), some (.int zd), some (.int (nI (dC + 1))), some (.int (nI (65 * ba + 515))), some (.int (nI (65 * ba + jC + 516))), some (.int x5)]) hG dX12_comesTo_171 rfl (nI_1 _) (by decide) (pm_c1b rfl) rfl ?_
            refine pm_goto (tgt := 33) hG dX12_comesTo_174 rfl ?_
            refine pm_fg 8 (loc' := [some (.ref (B + 54)), some (.int (nI ba)), some (.int (nI bb)), some (.int (-1)), some (.int zd), some (.int (nI (dC + 1))), some (.int (nI (65 * ba + 515))), some (.int (nI (65 * ba + jC + 516))), none]) rfl ?_
            exact ihC _ _ _ (jC + 1) (dC + 1) g3 (by omega) (by omega) (Nat.lt_of_succ_lt_succ hmC)
          · obtain ⟨kC, hkC, ekC⟩ := g2 (Int32.not_le.mp cx)
            refine pm_aloadn hG dX12_comesTo_77 rfl ?_
            refine pm_getf hG dX12_comesTo_78 (flX12_34 _ rfl) rfl rfl ?_
            refine pm_iconst (v := (-1)) hG dX12_comesTo_81 (by decide) ?_
            refine pm_iloadi hG dX12_comesTo_82 rfl ?_
            refine pm_isub hG dX12_comesTo_84 ?_
            refine pm_top (v := nI kC) ekC ?_
            refine pm_ialdN hG dX12_comesTo_85 rfl (by decide) (by omega) ?_
            refine pm_any (fun x7 => ?_)
            refine pm_goto (tgt := 91) hG dX12_comesTo_86 rfl ?_
            refine pm_iastN hG dX12_comesTo_91 rfl (by decide) (by omega) ?_
            refine mdn_row (fun A_8 => ?_)
            refine pm_iincX (v := nI (dC + 1)) (loc' := [some (.ref (B + 54)), some (.int (nI ba)), some (.int (nI bb)), some (.int (-1)), some (.int zd), some (.int (nI (dC + 1))), some (.int (nI (65 * ba + 515))), some (.int (nI (65 * ba + jC + 515))), some (.int x5)]) hG dX12_comesTo_92 rfl (nI_1 _) (by decide) (pm_c1b rfl) rfl ?_
            refine pm_goto (tgt := 171) hG dX12_comesTo_95 rfl ?_
            refine pm_iincX (v := nI (65 * ba + jC + 516)) (loc' := [some (.ref (B + 54)), some (.int (nI ba)), some (.int (nI bb)), some (.int (-1)), some (.int zd), some (.int (nI (dC + 1))), some (.int (nI (65 * ba + 515))), some (.int (nI (65 * ba + jC + 516))), some (.int x5)]) hG dX12_comesTo_171 rfl (nI_1 _) (by decide) (pm_c1b rfl) rfl ?_
            refine pm_goto (tgt := 33) hG dX12_comesTo_174 rfl ?_
            refine pm_fg 8 (loc' := [some (.ref (B + 54)), some (.int (nI ba)), some (.int (nI bb)), some (.int (-1)), some (.int zd), some (.int (nI (dC + 1))), some (.int (nI (65 * ba + 515))), some (.int (nI (65 * ba + jC + 516))), none]) rfl ?_
            exact ihC _ _ _ (jC + 1) (dC + 1) g3 (by omega) (by omega) (Nat.lt_of_succ_lt_succ hmC)
        · refine pm_iloadi hG dX12_comesTo_59 rfl ?_
          refine pm_top (v := (-133)) g1 ?_
          refine pm_bipush (v := (-100)) hG dX12_comesTo_61 (by decide) ?_
          refine pm_icmp_le (tgt := 98) hG dX12_comesTo_63 rfl (fun _ => ?_) (fun q => absurd q (by decide))
          refine pm_iloadi hG dX12_comesTo_98 rfl ?_
          refine pm_top (v := (-133)) g1 ?_
          refine pm_sipush (v := (-133)) hG dX12_comesTo_100 (by decide) ?_
          refine pm_icmp_ne (tgt := 135) hG dX12_comesTo_103 rfl (fun q => absurd q (by decide)) (fun _ => ?_)
          refine pm_aloadn hG dX12_comesTo_106 rfl ?_
          refine pm_getf hG dX12_comesTo_107 (flX12_31 _ rfl) rfl rfl ?_
          refine pm_iloadi hG dX12_comesTo_110 rfl ?_
          refine pm_iconst (v := nI 1) hG dX12_comesTo_112 (by decide) ?_
          obtain ⟨q9, hq9⟩ : ∃ q9 : Nat, dC = 1 + q9 := ⟨dC - (1), by omega⟩
          refine pm_isubN (c := q9) hG dX12_comesTo_113 (by omega) ?_
          refine pm_aloadn hG dX12_comesTo_114 rfl ?_
          refine pm_getf hG dX12_comesTo_115 (flX12_31 _ rfl) rfl rfl ?_
          refine pm_iloadi hG dX12_comesTo_118 rfl ?_
          refine pm_iconst (v := nI 1) hG dX12_comesTo_120 (by decide) ?_
          obtain ⟨q10, hq10⟩ : ∃ q10 : Nat, dC = 1 + q10 := ⟨dC - (1), by omega⟩
          refine pm_isubN (c := q10) hG dX12_comesTo_121 (by omega) ?_
          refine pm_ialdN hG dX12_comesTo_122 rfl (by decide) (by omega) ?_
          refine pm_any (fun x11 => ?_)
          refine pm_if_ne (tgt := 130) hG dX12_comesTo_123 rfl (fun c12 => ?_) (fun c12 => ?_)
          · refine pm_iconst (v := nI 0) hG dX12_comesTo_130 (by decide) ?_
            refine pm_iastN hG dX12_comesTo_131 rfl (by decide) (by omega) ?_
            refine mdn_row (fun A_13 => ?_)
            refine pm_goto (tgt := 171) hG dX12_comesTo_132 rfl ?_
            refine pm_iincX (v := nI (65 * ba + jC + 516)) (loc' := [some (.ref (B + 54)), some (.int (nI ba)), some (.int (nI bb)), some (.int (-1)), some (.int zd), some (.int (nI dC)), some (.int (nI (65 * ba + 515))), some (.int (nI (65 * ba + jC + 516))), some (.int x5)]) hG dX12_comesTo_171 rfl (nI_1 _) (by decide) (pm_c1b rfl) rfl ?_
            refine pm_goto (tgt := 33) hG dX12_comesTo_174 rfl ?_
            refine pm_fg 8 (loc' := [some (.ref (B + 54)), some (.int (nI ba)), some (.int (nI bb)), some (.int (-1)), some (.int zd), some (.int (nI dC)), some (.int (nI (65 * ba + 515))), some (.int (nI (65 * ba + jC + 516))), none]) rfl ?_
            exact ihC _ _ _ (jC + 1) dC g3 (by omega) (by omega) (Nat.lt_of_succ_lt_succ hmC)
          · refine pm_iconst (v := nI 1) hG dX12_comesTo_126 (by decide) ?_
            refine pm_goto (tgt := 131) hG dX12_comesTo_127 rfl ?_
            refine pm_iastN hG dX12_comesTo_131 rfl (by decide) (by omega) ?_
            refine mdn_row (fun A_14 => ?_)
            refine pm_goto (tgt := 171) hG dX12_comesTo_132 rfl ?_
            refine pm_iincX (v := nI (65 * ba + jC + 516)) (loc' := [some (.ref (B + 54)), some (.int (nI ba)), some (.int (nI bb)), some (.int (-1)), some (.int zd), some (.int (nI dC)), some (.int (nI (65 * ba + 515))), some (.int (nI (65 * ba + jC + 516))), some (.int x5)]) hG dX12_comesTo_171 rfl (nI_1 _) (by decide) (pm_c1b rfl) rfl ?_
            refine pm_goto (tgt := 33) hG dX12_comesTo_174 rfl ?_
            refine pm_fg 8 (loc' := [some (.ref (B + 54)), some (.int (nI ba)), some (.int (nI bb)), some (.int (-1)), some (.int zd), some (.int (nI dC)), some (.int (nI (65 * ba + 515))), some (.int (nI (65 * ba + jC + 516))), none]) rfl ?_
            exact ihC _ _ _ (jC + 1) dC g3 (by omega) (by omega) (Nat.lt_of_succ_lt_succ hmC)
        · refine pm_iloadi hG dX12_comesTo_59 rfl ?_
          refine pm_bipush (v := (-100)) hG dX12_comesTo_61 (by decide) ?_
          refine pm_icmp_le (tgt := 98) hG dX12_comesTo_63 rfl (fun _ => ?_) (fun q => absurd g1 q)
          refine pm_iloadi hG dX12_comesTo_98 rfl ?_
          refine pm_sipush (v := (-133)) hG dX12_comesTo_100 (by decide) ?_
          refine pm_icmp_ne (tgt := 135) hG dX12_comesTo_103 rfl (fun _ => ?_) (fun q => absurd q g2)
          obtain ⟨dD, rfl⟩ : ∃ dD : Nat, dC = dD + 1 + 1 := ⟨dC - 2, by omega⟩
          refine pm_iincX (v := nI (dD + 1)) (loc' := [some (.ref (B + 54)), some (.int (nI ba)), some (.int (nI bb)), some (.int (-1)), some (.int zd), some (.int (nI (dD + 1))), some (.int (nI (65 * ba + 515))), some (.int (nI (65 * ba + jC + 515))), some (.int x5)]) hG dX12_comesTo_135 rfl (pk_m1 (dD + 1)) (by decide) (pm_c1b rfl) rfl ?_
          refine pm_aloadn hG dX12_comesTo_138 rfl ?_
          refine pm_getf hG dX12_comesTo_139 (flX12_31 _ rfl) rfl rfl ?_
          refine pm_iloadi hG dX12_comesTo_142 rfl ?_
          refine pm_iconst (v := nI 1) hG dX12_comesTo_144 (by decide) ?_
          refine pm_isubN (c := dD) hG dX12_comesTo_145 (by omega) ?_
          refine pm_bipush (v := (-100)) hG dX12_comesTo_146 (by decide) ?_
          refine pm_iloadi hG dX12_comesTo_148 rfl ?_
          refine pm_isub hG dX12_comesTo_150 ?_
          refine pm_aloadn hG dX12_comesTo_151 rfl ?_
          refine pm_getf hG dX12_comesTo_152 (flX12_31 _ rfl) rfl rfl ?_
          refine pm_iloadi hG dX12_comesTo_155 rfl ?_
          refine pm_iconst (v := nI 1) hG dX12_comesTo_157 (by decide) ?_
          refine pm_isubN (c := dD) hG dX12_comesTo_158 (by omega) ?_
          refine pm_ialdN hG dX12_comesTo_159 rfl (by decide) (by omega) ?_
          refine pm_any (fun x15 => ?_)
          refine pm_aloadn hG dX12_comesTo_160 rfl ?_
          refine pm_getf hG dX12_comesTo_161 (flX12_31 _ rfl) rfl rfl ?_
          refine pm_iloadi hG dX12_comesTo_164 rfl ?_
          refine pm_ialdN hG dX12_comesTo_166 rfl (by decide) (by omega) ?_
          refine pm_any (fun x16 => ?_)
          refine pm_callS (As := [.int ((-100) - x5), .int x15, .int x16]) (rest := [.int (nI dD), .ref (B + 62)]) hG hR dX12_comesTo_167 (lkX12_208 _ rfl) okS_X12_done (m_done (d := 2) (by decide) hn hz) rfl rfl hdd (Nat.le_refl _) (Nat.le_refl _) (Nat.le_of_ble_eq_true rfl) (pm_ki (fun v17 σ' cnt' hq => ?_))
          obtain ⟨rfl, rfl⟩ := hq
          refine pm_iastN hG dX12_comesTo_170 rfl (by decide) (by omega) ?_
          refine mdn_row (fun A_19 => ?_)
          refine pm_iincX (v := nI (65 * ba + jC + 516)) (loc' := [some (.ref (B + 54)), some (.int (nI ba)), some (.int (nI bb)), some (.int (-1)), some (.int zd), some (.int (nI (dD + 1))), some (.int (nI (65 * ba + 515))), some (.int (nI (65 * ba + jC + 516))), some (.int x5)]) hG dX12_comesTo_171 rfl (nI_1 _) (by decide) (pm_c1b rfl) rfl ?_
          refine pm_goto (tgt := 33) hG dX12_comesTo_174 rfl ?_
          refine pm_fg 8 (loc' := [some (.ref (B + 54)), some (.int (nI ba)), some (.int (nI bb)), some (.int (-1)), some (.int zd), some (.int (nI (dD + 1))), some (.int (nI (65 * ba + 515))), some (.int (nI (65 * ba + jC + 516))), none]) rfl ?_
          exact ihC _ _ _ (jC + 1) (dD + 1) g4 (by omega) (by omega) (Nat.lt_of_succ_lt_succ hmC)
  exact loopC _ lC I2 A2 0 0 cC (Nat.le_refl _) (Nat.zero_add _) (Nat.lt_succ_self _)

set_option maxRecDepth 100000 in
set_option maxHeartbeats 4000000 in
theorem m_ageDay {d B cnt p0 t0 : Nat} {σ : pm_S} {I : Nat → Int32} {A : Nat → Nat → Int32} {n k z : Nat → Int32} {ac wt pl im : Int32} (hdd : 4 ≤ d) (hn : KI n) (hr : NR n) (hz : SZ z)  : pm_met mX12_ageDay d 0 0 B [.ref (B + 54)] cnt (pm_mid σ (md_L B I A n k z ac wt pl (nI p0) (nI t0) im)) (pm_Qi (fun v σ' cnt' => (∃ (I' : Nat → Int32) (A' : Nat → Nat → Int32), σ' = pm_mid σ (md_L B I' A' n k z ac wt pl (nI p0) (nI t0) im)) ∧ cnt = cnt')) := by
  refine pm_enter 1 (by decide) (Nat.le_of_ble_eq_true rfl) rfl (fun G hG hR hF => ?_)
  refine pm_aloadn hG dX12_ageDay_0 rfl ?_
  refine pm_getf hG dX12_ageDay_1 (flX12_7 _ rfl) rfl rfl ?_
  refine pm_iconst (v := nI 2) hG dX12_ageDay_4 (by decide) ?_
  refine pm_ialdN hG dX12_ageDay_5 rfl (by decide) (by omega) ?_
  obtain ⟨k1, hk1, ek1⟩ := KI.nat hn (show kd 2 = (1, 21, true) by decide)
  refine pm_top (v := nI k1) ek1 ?_
  refine pm_ifN_ne (tgt := 11) hG dX12_ageDay_6 rfl (by omega) (fun c2 => ?_) (fun c2 => ?_)
  · refine pm_aloadn hG dX12_ageDay_11 rfl ?_
    refine pm_getf hG dX12_ageDay_12 (flX12_7 _ rfl) rfl rfl ?_
    refine pm_bipush (v := nI 8) hG dX12_ageDay_15 (by decide) ?_
    refine pm_ialdN hG dX12_ageDay_17 rfl (by decide) (by omega) ?_
    obtain ⟨k3, hk3, ek3⟩ := KI.nat hn (show kd 8 = (1, 2001, false) by decide)
    refine pm_top (v := nI k3) ek3 ?_
    refine pm_istoreXn (loc' := [some (.ref (B + 54)), some (.int (nI k3))]) hG dX12_ageDay_18 (by decide) (pm_c1b rfl) rfl ?_
    have loop19_4 : ∀ (m4 : Nat) (I4 : Nat → Int32) (A4 : Nat → Nat → Int32) (i4 : Nat), i4 ≤ 2001 → 2001 - i4 < m4 → pm_wp mX12_ageDay G B 19 [some (.ref (B + 54)), some (.int (nI i4))] [] 0 0 cnt (pm_mid σ (md_L B I4 A4 n k z ac wt pl (nI p0) (nI t0) im)) := by
      intro m4
      induction m4 with
      | zero => intro I4 A4 i4 _ hm; exact absurd hm (Nat.not_lt_zero _)
      | succ m4 ih4 =>
        intro I4 A4 i4 hi4 hm4
        refine pm_iloadn hG dX12_ageDay_19 rfl ?_
        refine pm_sipush (v := nI 2000) hG dX12_ageDay_20 (by decide) ?_
        refine pm_icmpN_gt (tgt := 57) hG dX12_ageDay_23 rfl (by omega) (by omega) (fun c5 => ?_) (fun c5 => ?_)
        · refine pm_iconst (v := (-1)) hG dX12_ageDay_57 (by decide) ?_
          exact pm_iret hG hF dX12_ageDay_58 rfl (Nat.le_refl _) (Nat.le_refl _) ⟨_, rfl, ⟨_, _, rfl⟩, rfl⟩
        · refine pm_aloadn hG dX12_ageDay_26 rfl ?_
          refine pm_aloadn hG dX12_ageDay_27 rfl ?_
          refine pm_iconst (v := nI 3) hG dX12_ageDay_28 (by decide) ?_
          refine pm_iloadn hG dX12_ageDay_29 rfl ?_
          refine pm_aloadn hG dX12_ageDay_30 rfl ?_
          refine pm_getf hG dX12_ageDay_31 (flX12_7 _ rfl) rfl rfl ?_
          refine pm_bipush (v := nI 8) hG dX12_ageDay_34 (by decide) ?_
          refine pm_ialdN hG dX12_ageDay_36 rfl (by decide) (by omega) ?_
          refine pm_top (v := nI k3) ek3 ?_
          refine pm_callV (As := [.int (nI 3), .int (nI i4), .int (nI k3)]) (rest := [.ref (B + 54)]) hG hR dX12_ageDay_37 (lkX12_195 _ rfl) okV_X12_inForce rfl rfl (m_inForce (d := 3) (by decide) hn hz) rfl rfl hdd (Nat.le_refl _) (Nat.le_refl _) (Nat.le_of_ble_eq_true rfl) (pm_ki (fun v6 σ' cnt' hq => ?_))
          obtain ⟨rfl, rfl, rv6⟩ := hq
          rcases rv6 with rfl | ⟨k8, hk8, rfl⟩
          · refine pm_iconst (v := nI 0) hG dX12_ageDay_40 (by decide) ?_
            refine pm_iconst (v := (-1)) hG dX12_ageDay_41 (by decide) ?_
            refine pm_iloadn hG dX12_ageDay_42 rfl ?_
            refine pm_callV (As := [.int (-1), .int (nI 0), .int (-1), .int (nI i4)]) (rest := []) hG hR dX12_ageDay_43 (lkX12_214 _ rfl) okV_X12_comesTo rfl rfl (m_comesTo_m_n20_m (d := 3) (by decide) hn hr hz (by omega)) rfl rfl hdd (Nat.le_refl _) (Nat.le_refl _) (by decide) (pm_ki (fun v9 σ' cnt' hq => ?_))
            obtain ⟨⟨I10, A10, rfl⟩, rfl⟩ := hq
            refine pm_if_eq (tgt := 51) hG dX12_ageDay_46 rfl (fun c11 => ?_) (fun c11 => ?_)
            · refine pm_iincX (v := nI (i4 + 1)) (loc' := [some (.ref (B + 54)), some (.int (nI (i4 + 1)))]) hG dX12_ageDay_51 rfl (nI_1 _) (by decide) (pm_c1b rfl) rfl ?_
              refine pm_goto (tgt := 19) hG dX12_ageDay_54 rfl ?_
              exact ih4 I10 A10 (i4 + 1) (by omega) (by omega)
            · refine pm_iloadn hG dX12_ageDay_49 rfl ?_
              exact pm_iret hG hF dX12_ageDay_50 rfl (Nat.le_refl _) (Nat.le_refl _) ⟨_, rfl, ⟨_, _, rfl⟩, rfl⟩
          · refine pm_iconst (v := nI 0) hG dX12_ageDay_40 (by decide) ?_
            refine pm_iconst (v := (-1)) hG dX12_ageDay_41 (by decide) ?_
            refine pm_iloadn hG dX12_ageDay_42 rfl ?_
            refine pm_callV (As := [.int (nI k8), .int (nI 0), .int (-1), .int (nI i4)]) (rest := []) hG hR dX12_ageDay_43 (lkX12_214 _ rfl) okV_X12_comesTo rfl rfl (m_comesTo_n12_n20_m (d := 3) (by decide) hn hr hz (by omega) (by omega)) rfl rfl hdd (Nat.le_refl _) (Nat.le_refl _) (by decide) (pm_ki (fun v12 σ' cnt' hq => ?_))
            obtain ⟨⟨I13, A13, rfl⟩, rfl⟩ := hq
            refine pm_if_eq (tgt := 51) hG dX12_ageDay_46 rfl (fun c14 => ?_) (fun c14 => ?_)
            · refine pm_iincX (v := nI (i4 + 1)) (loc' := [some (.ref (B + 54)), some (.int (nI (i4 + 1)))]) hG dX12_ageDay_51 rfl (nI_1 _) (by decide) (pm_c1b rfl) rfl ?_
              refine pm_goto (tgt := 19) hG dX12_ageDay_54 rfl ?_
              exact ih4 I13 A13 (i4 + 1) (by omega) (by omega)
            · refine pm_iloadn hG dX12_ageDay_49 rfl ?_
              exact pm_iret hG hF dX12_ageDay_50 rfl (Nat.le_refl _) (Nat.le_refl _) ⟨_, rfl, ⟨_, _, rfl⟩, rfl⟩
    exact loop19_4 _ I A k3 (by omega) (Nat.lt_succ_self _)
  · refine pm_iconst (v := (-1)) hG dX12_ageDay_9 (by decide) ?_
    exact pm_iret hG hF dX12_ageDay_10 rfl (Nat.le_refl _) (Nat.le_refl _) ⟨_, rfl, ⟨_, _, rfl⟩, rfl⟩

set_option maxRecDepth 100000 in
set_option maxHeartbeats 4000000 in
theorem m_comesTo_m_m_m {d B cnt p0 t0 : Nat} {σ : pm_S} {I : Nat → Int32} {A : Nat → Nat → Int32} {n k z : Nat → Int32} {ac wt pl im : Int32} {zd : Int32} (hdd : 1 ≤ d) (hn : KI n) (hr : NR n) (hz : SZ z)  : pm_met mX12_comesTo d 0 0 B [.ref (B + 54), .int (-1), .int (-1), .int (-1), .int zd] cnt (pm_mid σ (md_L B I A n k z ac wt pl (nI p0) (nI t0) im)) (pm_Qi (fun v σ' cnt' => (∃ (I' : Nat → Int32) (A' : Nat → Nat → Int32), σ' = pm_mid σ (md_L B I' A' n k z ac wt pl (nI p0) (nI t0) im)) ∧ cnt = cnt')) := by
  refine pm_enter 4 (by decide) (Nat.le_of_ble_eq_true rfl) rfl (fun G hG hR hF => ?_)
  refine pm_iloadn hG dX12_comesTo_0 rfl ?_
  refine pm_if_ge (tgt := 6) hG dX12_comesTo_1 rfl (fun q => absurd q (by decide)) (fun _ => ?_)
  refine pm_iconst (v := nI 1) hG dX12_comesTo_4 (by decide) ?_
  exact pm_iret hG hF dX12_comesTo_5 rfl (Nat.le_refl _) (Nat.le_refl _) ⟨_, rfl, ⟨_, _, rfl⟩, rfl⟩

set_option maxRecDepth 100000 in
set_option maxHeartbeats 4000000 in
theorem m_setNames_m_m {d B cnt p0 t0 : Nat} {σ : pm_S} {I : Nat → Int32} {A : Nat → Nat → Int32} {n k z : Nat → Int32} {ac wt pl im : Int32} {zc : Int32} (hdd : 1 ≤ d) (hn : KI n) (hz : SZ z)  : pm_met mX12_setNames d 0 0 B [.ref (B + 54), .int (-1), .int (-1), .int zc] cnt (pm_mid σ (md_L B I A n k z ac wt pl (nI p0) (nI t0) im)) (pm_Qv (fun σ' cnt' => (∃ (I' : Nat → Int32) (A' : Nat → Nat → Int32), σ' = pm_mid σ (md_L B I' A' n k z ac wt pl (nI p0) (nI t0) im)) ∧ cnt = cnt')) := by
  refine pm_enter 0 (by decide) (Nat.le_of_ble_eq_true rfl) rfl (fun G hG hR hF => ?_)
  refine pm_aloadn hG dX12_setNames_0 rfl ?_
  refine pm_getf hG dX12_setNames_1 (flX12_34 _ rfl) rfl rfl ?_
  refine pm_iconst (v := nI 0) hG dX12_setNames_4 (by decide) ?_
  refine pm_iloadn hG dX12_setNames_5 rfl ?_
  refine pm_if_ge (tgt := 13) hG dX12_setNames_6 rfl (fun q => absurd q (by decide)) (fun _ => ?_)
  refine pm_iconst (v := nI 0) hG dX12_setNames_9 (by decide) ?_
  refine pm_goto (tgt := 25) hG dX12_setNames_10 rfl ?_
  refine pm_iastN hG dX12_setNames_25 rfl (by decide) (by omega) ?_
  refine mdn_names (fun A_1 => ?_)
  refine pm_aloadn hG dX12_setNames_26 rfl ?_
  refine pm_getf hG dX12_setNames_27 (flX12_34 _ rfl) rfl rfl ?_
  refine pm_iconst (v := nI 1) hG dX12_setNames_30 (by decide) ?_
  refine pm_iloadn hG dX12_setNames_31 rfl ?_
  refine pm_if_ge (tgt := 39) hG dX12_setNames_32 rfl (fun q => absurd q (by decide)) (fun _ => ?_)
  refine pm_iconst (v := nI 0) hG dX12_setNames_35 (by decide) ?_
  refine pm_goto (tgt := 45) hG dX12_setNames_36 rfl ?_
  refine pm_iastN hG dX12_setNames_45 rfl (by decide) (by omega) ?_
  refine mdn_names (fun A_2 => ?_)
  refine pm_aloadn hG dX12_setNames_46 rfl ?_
  refine pm_getf hG dX12_setNames_47 (flX12_34 _ rfl) rfl rfl ?_
  refine pm_iconst (v := nI 2) hG dX12_setNames_50 (by decide) ?_
  refine pm_iloadn hG dX12_setNames_51 rfl ?_
  refine pm_if_ge (tgt := 59) hG dX12_setNames_52 rfl (fun q => absurd q (by decide)) (fun _ => ?_)
  refine pm_iconst (v := nI 0) hG dX12_setNames_55 (by decide) ?_
  refine pm_goto (tgt := 64) hG dX12_setNames_56 rfl ?_
  refine pm_iastN hG dX12_setNames_64 rfl (by decide) (by omega) ?_
  refine mdn_names (fun A_3 => ?_)
  refine pm_aloadn hG dX12_setNames_65 rfl ?_
  refine pm_getf hG dX12_setNames_66 (flX12_34 _ rfl) rfl rfl ?_
  refine pm_iconst (v := nI 3) hG dX12_setNames_69 (by decide) ?_
  refine pm_iloadn hG dX12_setNames_70 rfl ?_
  refine pm_if_ge (tgt := 78) hG dX12_setNames_71 rfl (fun q => absurd q (by decide)) (fun _ => ?_)
  refine pm_iconst (v := nI 0) hG dX12_setNames_74 (by decide) ?_
  refine pm_goto (tgt := 85) hG dX12_setNames_75 rfl ?_
  refine pm_iastN hG dX12_setNames_85 rfl (by decide) (by omega) ?_
  refine mdn_names (fun A_4 => ?_)
  refine pm_aloadn hG dX12_setNames_86 rfl ?_
  refine pm_getf hG dX12_setNames_87 (flX12_34 _ rfl) rfl rfl ?_
  refine pm_iconst (v := nI 4) hG dX12_setNames_90 (by decide) ?_
  refine pm_iloadn hG dX12_setNames_91 rfl ?_
  refine pm_if_ge (tgt := 99) hG dX12_setNames_92 rfl (fun q => absurd q (by decide)) (fun _ => ?_)
  refine pm_iconst (v := nI 0) hG dX12_setNames_95 (by decide) ?_
  refine pm_goto (tgt := 106) hG dX12_setNames_96 rfl ?_
  refine pm_iastN hG dX12_setNames_106 rfl (by decide) (by omega) ?_
  refine mdn_names (fun A_5 => ?_)
  refine pm_aloadn hG dX12_setNames_107 rfl ?_
  refine pm_getf hG dX12_setNames_108 (flX12_34 _ rfl) rfl rfl ?_
  refine pm_iconst (v := nI 5) hG dX12_setNames_111 (by decide) ?_
  refine pm_iloadn hG dX12_setNames_112 rfl ?_
  refine pm_if_ge (tgt := 120) hG dX12_setNames_113 rfl (fun q => absurd q (by decide)) (fun _ => ?_)
  refine pm_iconst (v := nI 0) hG dX12_setNames_116 (by decide) ?_
  refine pm_goto (tgt := 140) hG dX12_setNames_117 rfl ?_
  refine pm_iastN hG dX12_setNames_140 rfl (by decide) (by omega) ?_
  refine mdn_names (fun A_6 => ?_)
  refine pm_aloadn hG dX12_setNames_141 rfl ?_
  refine pm_getf hG dX12_setNames_142 (flX12_34 _ rfl) rfl rfl ?_
  refine pm_bipush (v := nI 6) hG dX12_setNames_145 (by decide) ?_
  refine pm_iloadn hG dX12_setNames_147 rfl ?_
  refine pm_if_ge (tgt := 155) hG dX12_setNames_148 rfl (fun q => absurd q (by decide)) (fun _ => ?_)
  refine pm_iconst (v := nI 0) hG dX12_setNames_151 (by decide) ?_
  refine pm_goto (tgt := 160) hG dX12_setNames_152 rfl ?_
  refine pm_iastN hG dX12_setNames_160 rfl (by decide) (by omega) ?_
  refine mdn_names (fun A_7 => ?_)
  refine pm_aloadn hG dX12_setNames_161 rfl ?_
  refine pm_getf hG dX12_setNames_162 (flX12_34 _ rfl) rfl rfl ?_
  refine pm_bipush (v := nI 7) hG dX12_setNames_165 (by decide) ?_
  refine pm_iloadn hG dX12_setNames_167 rfl ?_
  refine pm_if_ge (tgt := 175) hG dX12_setNames_168 rfl (fun q => absurd q (by decide)) (fun _ => ?_)
  refine pm_iconst (v := nI 0) hG dX12_setNames_171 (by decide) ?_
  refine pm_goto (tgt := 184) hG dX12_setNames_172 rfl ?_
  refine pm_iastN hG dX12_setNames_184 rfl (by decide) (by omega) ?_
  refine mdn_names (fun A_8 => ?_)
  refine pm_aloadn hG dX12_setNames_185 rfl ?_
  refine pm_getf hG dX12_setNames_186 (flX12_34 _ rfl) rfl rfl ?_
  refine pm_bipush (v := nI 8) hG dX12_setNames_189 (by decide) ?_
  refine pm_iloadn hG dX12_setNames_191 rfl ?_
  refine pm_if_ge (tgt := 199) hG dX12_setNames_192 rfl (fun q => absurd q (by decide)) (fun _ => ?_)
  refine pm_iconst (v := nI 0) hG dX12_setNames_195 (by decide) ?_
  refine pm_goto (tgt := 205) hG dX12_setNames_196 rfl ?_
  refine pm_iastN hG dX12_setNames_205 rfl (by decide) (by omega) ?_
  refine mdn_names (fun A_9 => ?_)
  refine pm_aloadn hG dX12_setNames_206 rfl ?_
  refine pm_getf hG dX12_setNames_207 (flX12_34 _ rfl) rfl rfl ?_
  refine pm_bipush (v := nI 9) hG dX12_setNames_210 (by decide) ?_
  refine pm_iloadn hG dX12_setNames_212 rfl ?_
  refine pm_if_ge (tgt := 220) hG dX12_setNames_213 rfl (fun q => absurd q (by decide)) (fun _ => ?_)
  refine pm_iconst (v := nI 0) hG dX12_setNames_216 (by decide) ?_
  refine pm_goto (tgt := 226) hG dX12_setNames_217 rfl ?_
  refine pm_iastN hG dX12_setNames_226 rfl (by decide) (by omega) ?_
  refine mdn_names (fun A_10 => ?_)
  refine pm_aloadn hG dX12_setNames_227 rfl ?_
  refine pm_getf hG dX12_setNames_228 (flX12_34 _ rfl) rfl rfl ?_
  refine pm_bipush (v := nI 10) hG dX12_setNames_231 (by decide) ?_
  refine pm_iloadn hG dX12_setNames_233 rfl ?_
  refine pm_iastN hG dX12_setNames_234 rfl (by decide) (by omega) ?_
  refine mdn_names (fun A_11 => ?_)
  exact pm_vret hG hF dX12_setNames_235 rfl (Nat.le_refl _) (Nat.le_refl _) ⟨rfl, ⟨_, _, rfl⟩, rfl⟩

set_option maxRecDepth 100000 in
set_option maxHeartbeats 4000000 in
theorem m_comesTo_n12_m_m {d B cnt p0 t0 : Nat} {σ : pm_S} {I : Nat → Int32} {A : Nat → Nat → Int32} {n k z : Nat → Int32} {ac wt pl im : Int32} {zd : Int32} {ba : Nat} (hdd : 2 ≤ d) (hn : KI n) (hr : NR n) (hz : SZ z) (hba : ba < 12) : pm_met mX12_comesTo d 0 0 B [.ref (B + 54), .int (nI ba), .int (-1), .int (-1), .int zd] cnt (pm_mid σ (md_L B I A n k z ac wt pl (nI p0) (nI t0) im)) (pm_Qi (fun v σ' cnt' => (∃ (I' : Nat → Int32) (A' : Nat → Nat → Int32), σ' = pm_mid σ (md_L B I' A' n k z ac wt pl (nI p0) (nI t0) im)) ∧ cnt = cnt')) := by
  refine pm_enter 4 (by decide) (Nat.le_of_ble_eq_true rfl) rfl (fun G hG hR hF => ?_)
  refine pm_iloadn hG dX12_comesTo_0 rfl ?_
  refine pm_ifN_ge (tgt := 6) hG dX12_comesTo_1 rfl (by omega) ?_
  refine pm_aloadn hG dX12_comesTo_6 rfl ?_
  refine pm_iloadn hG dX12_comesTo_7 rfl ?_
  refine pm_iloadn hG dX12_comesTo_8 rfl ?_
  refine pm_iloadi hG dX12_comesTo_9 rfl ?_
  refine pm_callV (As := [.int (-1), .int (-1), .int zd]) (rest := []) hG hR dX12_comesTo_11 (lkX12_205 _ rfl) okV_X12_setNames rfl rfl (m_setNames_m_m (d := 1) (by decide) hn hz) rfl rfl hdd (Nat.le_refl _) (Nat.le_refl _) (by decide) (pm_kv (fun σ' cnt' hq => ?_))
  obtain ⟨⟨I2, A2, rfl⟩, rfl⟩ := hq
  refine pm_iconst (v := nI 0) hG dX12_comesTo_14 (by decide) ?_
  refine pm_istoreXi (loc' := [some (.ref (B + 54)), some (.int (nI ba)), some (.int (-1)), some (.int (-1)), some (.int zd), some (.int (nI 0)), none, none, none]) hG dX12_comesTo_15 (by decide) (pm_c1b rfl) rfl ?_
  refine pm_sipush (v := nI 510) hG dX12_comesTo_17 (by decide) ?_
  refine pm_bipush (v := nI 65) hG dX12_comesTo_20 (by decide) ?_
  refine pm_iloadn hG dX12_comesTo_22 rfl ?_
  refine pm_imulN (c := 65 * ba) hG dX12_comesTo_23 (by omega) ?_
  refine pm_iaddN (c := 65 * ba + 510) hG dX12_comesTo_24 (by omega) ?_
  refine pm_iconst (v := nI 5) hG dX12_comesTo_25 (by decide) ?_
  refine pm_iaddN (c := 65 * ba + 515) hG dX12_comesTo_26 (by omega) ?_
  refine pm_istoreXi (loc' := [some (.ref (B + 54)), some (.int (nI ba)), some (.int (-1)), some (.int (-1)), some (.int zd), some (.int (nI 0)), some (.int (nI (65 * ba + 515))), none, none]) hG dX12_comesTo_27 (by decide) (pm_c1b rfl) rfl ?_
  refine pm_iloadi hG dX12_comesTo_29 rfl ?_
  refine pm_istoreXi (loc' := [some (.ref (B + 54)), some (.int (nI ba)), some (.int (-1)), some (.int (-1)), some (.int zd), some (.int (nI 0)), some (.int (nI (65 * ba + 515))), some (.int (nI (65 * ba + 515))), none]) hG dX12_comesTo_31 (by decide) (pm_c1b rfl) rfl ?_
  obtain ⟨lC, eC, hC, cC⟩ := hr.2.2.2 ba (by omega)
  have fC : n (65 * ba + 514) = nI lC := eC
  have loopC : ∀ (mC : Nat) (rC : Nat) (IC : Nat → Int32) (AC : Nat → Nat → Int32) (jC dC : Nat), cOK (fun q => n (65 * ba + 515 + q)) rC jC dC → dC ≤ jC → jC + rC = lC → rC < mC → pm_wp mX12_comesTo G B 33 [some (.ref (B + 54)), some (.int (nI ba)), some (.int (-1)), some (.int (-1)), some (.int zd), some (.int (nI dC)), some (.int (nI (65 * ba + 515))), some (.int (nI (65 * ba + jC + 515))), none] [] 0 0 cnt (pm_mid σ (md_L B IC AC n k z ac wt pl (nI p0) (nI t0) im)) := by
    intro mC
    induction mC with
    | zero => intro rC IC AC jC dC _ _ _ hm; exact absurd hm (Nat.not_lt_zero _)
    | succ mC ihC =>
      intro rC IC AC jC dC kC hdC hjC hmC
      refine pm_iloadi hG dX12_comesTo_33 rfl ?_
      refine pm_iloadi hG dX12_comesTo_35 rfl ?_
      refine pm_aloadn hG dX12_comesTo_37 rfl ?_
      refine pm_getf hG dX12_comesTo_38 (flX12_7 _ rfl) rfl rfl ?_
      refine pm_iloadi hG dX12_comesTo_41 rfl ?_
      refine pm_iconst (v := nI 1) hG dX12_comesTo_43 (by decide) ?_
      refine pm_isubN (c := 65 * ba + 514) hG dX12_comesTo_44 (by omega) ?_
      refine pm_ialdN hG dX12_comesTo_45 rfl (by decide) (by omega) ?_
      refine pm_top (v := nI lC) fC ?_
      refine pm_iaddN (c := 65 * ba + lC + 515) hG dX12_comesTo_46 (by omega) ?_
      refine pm_icmpN_ge (tgt := 177) hG dX12_comesTo_47 rfl (by omega) (by omega) (fun c3 => ?_) (fun c3 => ?_)
      · refine pm_aloadn hG dX12_comesTo_177 rfl ?_
        refine pm_getf hG dX12_comesTo_178 (flX12_31 _ rfl) rfl rfl ?_
        refine pm_iconst (v := nI 0) hG dX12_comesTo_181 (by decide) ?_
        refine pm_ialdN hG dX12_comesTo_182 rfl (by decide) (by omega) ?_
        refine pm_any (fun x4 => ?_)
        exact pm_iret hG hF dX12_comesTo_183 rfl (Nat.le_refl _) (Nat.le_refl _) ⟨_, rfl, ⟨_, _, rfl⟩, rfl⟩
      · refine pm_aloadn hG dX12_comesTo_50 rfl ?_
        refine pm_getf hG dX12_comesTo_51 (flX12_7 _ rfl) rfl rfl ?_
        refine pm_iloadi hG dX12_comesTo_54 rfl ?_
        refine pm_ialdN hG dX12_comesTo_56 rfl (by decide) (by omega) ?_
        refine pm_gen (fun x5 ex5 => ?_)
        refine pm_istoreXi (loc' := [some (.ref (B + 54)), some (.int (nI ba)), some (.int (-1)), some (.int (-1)), some (.int zd), some (.int (nI dC)), some (.int (nI (65 * ba + 515))), some (.int (nI (65 * ba + jC + 515))), some (.int x5)]) hG dX12_comesTo_57 (by decide) (pm_c1b rfl) rfl ?_
        obtain ⟨rD, rfl⟩ : ∃ rD : Nat, rC = rD + 1 := ⟨rC - 1, by omega⟩
        have fx : n (65 * ba + 515 + jC) = x5 := by
          rw [show 65 * ba + 515 + jC = 65 * ba + jC + 515 by omega]; exact ex5
        unfold cOK at kC
        rw [fx] at kC
        rcases kC with ⟨g1, g2, g3⟩ | ⟨g1, g2, g3⟩ | ⟨g1, g2, g3, g4⟩
        · refine pm_iloadi hG dX12_comesTo_59 rfl ?_
          refine pm_bipush (v := (-100)) hG dX12_comesTo_61 (by decide) ?_
          refine pm_icmp_le (tgt := 98) hG dX12_comesTo_63 rfl (fun q => absurd q g1) (fun _ => ?_)
          refine pm_aloadn hG dX12_comesTo_66 rfl ?_
          refine pm_getf hG dX12_comesTo_67 (flX12_31 _ rfl) rfl rfl ?_
          refine pm_iloadi hG dX12_comesTo_70 rfl ?_
          refine pm_iloadi hG dX12_comesTo_72 rfl ?_
          refine pm_if_ge (tgt := 89) hG dX12_comesTo_74 rfl (fun _ => ?_) (fun cx => ?_)
          · refine pm_iloadi hG dX12_comesTo_89 rfl ?_
            refine pm_iastN hG dX12_comesTo_91 rfl (by decide) (by omega) ?_
            refine mdn_row (fun A_6 => ?_)
            refine pm_iincX (v := nI (dC + 1)) (loc' := [some (.ref (B + 54)), some (.int (nI ba)), some (.int (-1)), some (.int (-1)), some (.int zd), some (.int (nI (dC + 1))), some (.int (nI (65 * ba + 515))), some (.int (nI (65 * ba + jC + 515))), some (.int x5)]) hG dX12_comesTo_92 rfl (nI_1 _) (by decide) (pm_c1b rfl) rfl ?_
            refine pm_goto (tgt := 171) hG dX12_comesTo_95 rfl ?_
            refine pm_iincX (v := nI (65 * ba + jC + 516)) (loc' := [some (.ref (B + 54)), some (.int (nI ba)), some (.int (-1)), some (.int (-1)), some (.int zd), some (.int (nI (dC + 1))), some (.int (nI (65 * ba + 515))), some (.int (nI (65 * ba + jC + 516))), some (.int x5)]) hG dX12_comesTo_171 rfl (nI_1 _) (by decide) (pm_c1b rfl) rfl ?_
            refine pm_goto (tgt := 33) hG dX12_comesTo_174 rfl ?_
            refine pm_fg 8 (loc' := [some (.ref (B + 54)), some (.int (nI ba)), some (.int (-1)), some (.int (-1)), some (.int zd), some (.int (nI (dC + 1))), some (.int (nI (65 * ba + 515))), some (.int (nI (65 * ba + jC + 516))), none]) rfl ?_
            exact ihC _ _ _ (jC + 1) (dC + 1) g3 (by omega) (by omega) (Nat.lt_of_succ_lt_succ hmC)
          · obtain ⟨kC, hkC, ekC⟩ := g2 (Int32.not_le.mp cx)
            refine pm_aloadn hG dX12_comesTo_77 rfl ?_
            refine pm_getf hG dX12_comesTo_78 (flX12_34 _ rfl) rfl rfl ?_
            refine pm_iconst (v := (-1)) hG dX12_comesTo_81 (by decide) ?_
            refine pm_iloadi hG dX12_comesTo_82 rfl ?_
            refine pm_isub hG dX12_comesTo_84 ?_
            refine pm_top (v := nI kC) ekC ?_
            refine pm_ialdN hG dX12_comesTo_85 rfl (by decide) (by omega) ?_
            refine pm_any (fun x7 => ?_)
            refine pm_goto (tgt := 91) hG dX12_comesTo_86 rfl ?_
            refine pm_iastN hG dX12_comesTo_91 rfl (by decide) (by omega) ?_
            refine mdn_row (fun A_8 => ?_)
            refine pm_iincX (v := nI (dC + 1)) (loc' := [some (.ref (B + 54)), some (.int (nI ba)), some (.int (-1)), some (.int (-1)), some (.int zd), some (.int (nI (dC + 1))), some (.int (nI (65 * ba + 515))), some (.int (nI (65 * ba + jC + 515))), some (.int x5)]) hG dX12_comesTo_92 rfl (nI_1 _) (by decide) (pm_c1b rfl) rfl ?_
            refine pm_goto (tgt := 171) hG dX12_comesTo_95 rfl ?_
            refine pm_iincX (v := nI (65 * ba + jC + 516)) (loc' := [some (.ref (B + 54)), some (.int (nI ba)), some (.int (-1)), some (.int (-1)), some (.int zd), some (.int (nI (dC + 1))), some (.int (nI (65 * ba + 515))), some (.int (nI (65 * ba + jC + 516))), some (.int x5)]) hG dX12_comesTo_171 rfl (nI_1 _) (by decide) (pm_c1b rfl) rfl ?_
            refine pm_goto (tgt := 33) hG dX12_comesTo_174 rfl ?_
            refine pm_fg 8 (loc' := [some (.ref (B + 54)), some (.int (nI ba)), some (.int (-1)), some (.int (-1)), some (.int zd), some (.int (nI (dC + 1))), some (.int (nI (65 * ba + 515))), some (.int (nI (65 * ba + jC + 516))), none]) rfl ?_
            exact ihC _ _ _ (jC + 1) (dC + 1) g3 (by omega) (by omega) (Nat.lt_of_succ_lt_succ hmC)
        · refine pm_iloadi hG dX12_comesTo_59 rfl ?_
          refine pm_top (v := (-133)) g1 ?_
          refine pm_bipush (v := (-100)) hG dX12_comesTo_61 (by decide) ?_
          refine pm_icmp_le (tgt := 98) hG dX12_comesTo_63 rfl (fun _ => ?_) (fun q => absurd q (by decide))
          refine pm_iloadi hG dX12_comesTo_98 rfl ?_
          refine pm_top (v := (-133)) g1 ?_
          refine pm_sipush (v := (-133)) hG dX12_comesTo_100 (by decide) ?_
          refine pm_icmp_ne (tgt := 135) hG dX12_comesTo_103 rfl (fun q => absurd q (by decide)) (fun _ => ?_)
          refine pm_aloadn hG dX12_comesTo_106 rfl ?_
          refine pm_getf hG dX12_comesTo_107 (flX12_31 _ rfl) rfl rfl ?_
          refine pm_iloadi hG dX12_comesTo_110 rfl ?_
          refine pm_iconst (v := nI 1) hG dX12_comesTo_112 (by decide) ?_
          obtain ⟨q9, hq9⟩ : ∃ q9 : Nat, dC = 1 + q9 := ⟨dC - (1), by omega⟩
          refine pm_isubN (c := q9) hG dX12_comesTo_113 (by omega) ?_
          refine pm_aloadn hG dX12_comesTo_114 rfl ?_
          refine pm_getf hG dX12_comesTo_115 (flX12_31 _ rfl) rfl rfl ?_
          refine pm_iloadi hG dX12_comesTo_118 rfl ?_
          refine pm_iconst (v := nI 1) hG dX12_comesTo_120 (by decide) ?_
          obtain ⟨q10, hq10⟩ : ∃ q10 : Nat, dC = 1 + q10 := ⟨dC - (1), by omega⟩
          refine pm_isubN (c := q10) hG dX12_comesTo_121 (by omega) ?_
          refine pm_ialdN hG dX12_comesTo_122 rfl (by decide) (by omega) ?_
          refine pm_any (fun x11 => ?_)
          refine pm_if_ne (tgt := 130) hG dX12_comesTo_123 rfl (fun c12 => ?_) (fun c12 => ?_)
          · refine pm_iconst (v := nI 0) hG dX12_comesTo_130 (by decide) ?_
            refine pm_iastN hG dX12_comesTo_131 rfl (by decide) (by omega) ?_
            refine mdn_row (fun A_13 => ?_)
            refine pm_goto (tgt := 171) hG dX12_comesTo_132 rfl ?_
            refine pm_iincX (v := nI (65 * ba + jC + 516)) (loc' := [some (.ref (B + 54)), some (.int (nI ba)), some (.int (-1)), some (.int (-1)), some (.int zd), some (.int (nI dC)), some (.int (nI (65 * ba + 515))), some (.int (nI (65 * ba + jC + 516))), some (.int x5)]) hG dX12_comesTo_171 rfl (nI_1 _) (by decide) (pm_c1b rfl) rfl ?_
            refine pm_goto (tgt := 33) hG dX12_comesTo_174 rfl ?_
            refine pm_fg 8 (loc' := [some (.ref (B + 54)), some (.int (nI ba)), some (.int (-1)), some (.int (-1)), some (.int zd), some (.int (nI dC)), some (.int (nI (65 * ba + 515))), some (.int (nI (65 * ba + jC + 516))), none]) rfl ?_
            exact ihC _ _ _ (jC + 1) dC g3 (by omega) (by omega) (Nat.lt_of_succ_lt_succ hmC)
          · refine pm_iconst (v := nI 1) hG dX12_comesTo_126 (by decide) ?_
            refine pm_goto (tgt := 131) hG dX12_comesTo_127 rfl ?_
            refine pm_iastN hG dX12_comesTo_131 rfl (by decide) (by omega) ?_
            refine mdn_row (fun A_14 => ?_)
            refine pm_goto (tgt := 171) hG dX12_comesTo_132 rfl ?_
            refine pm_iincX (v := nI (65 * ba + jC + 516)) (loc' := [some (.ref (B + 54)), some (.int (nI ba)), some (.int (-1)), some (.int (-1)), some (.int zd), some (.int (nI dC)), some (.int (nI (65 * ba + 515))), some (.int (nI (65 * ba + jC + 516))), some (.int x5)]) hG dX12_comesTo_171 rfl (nI_1 _) (by decide) (pm_c1b rfl) rfl ?_
            refine pm_goto (tgt := 33) hG dX12_comesTo_174 rfl ?_
            refine pm_fg 8 (loc' := [some (.ref (B + 54)), some (.int (nI ba)), some (.int (-1)), some (.int (-1)), some (.int zd), some (.int (nI dC)), some (.int (nI (65 * ba + 515))), some (.int (nI (65 * ba + jC + 516))), none]) rfl ?_
            exact ihC _ _ _ (jC + 1) dC g3 (by omega) (by omega) (Nat.lt_of_succ_lt_succ hmC)
        · refine pm_iloadi hG dX12_comesTo_59 rfl ?_
          refine pm_bipush (v := (-100)) hG dX12_comesTo_61 (by decide) ?_
          refine pm_icmp_le (tgt := 98) hG dX12_comesTo_63 rfl (fun _ => ?_) (fun q => absurd g1 q)
          refine pm_iloadi hG dX12_comesTo_98 rfl ?_
          refine pm_sipush (v := (-133)) hG dX12_comesTo_100 (by decide) ?_
          refine pm_icmp_ne (tgt := 135) hG dX12_comesTo_103 rfl (fun _ => ?_) (fun q => absurd q g2)
          obtain ⟨dD, rfl⟩ : ∃ dD : Nat, dC = dD + 1 + 1 := ⟨dC - 2, by omega⟩
          refine pm_iincX (v := nI (dD + 1)) (loc' := [some (.ref (B + 54)), some (.int (nI ba)), some (.int (-1)), some (.int (-1)), some (.int zd), some (.int (nI (dD + 1))), some (.int (nI (65 * ba + 515))), some (.int (nI (65 * ba + jC + 515))), some (.int x5)]) hG dX12_comesTo_135 rfl (pk_m1 (dD + 1)) (by decide) (pm_c1b rfl) rfl ?_
          refine pm_aloadn hG dX12_comesTo_138 rfl ?_
          refine pm_getf hG dX12_comesTo_139 (flX12_31 _ rfl) rfl rfl ?_
          refine pm_iloadi hG dX12_comesTo_142 rfl ?_
          refine pm_iconst (v := nI 1) hG dX12_comesTo_144 (by decide) ?_
          refine pm_isubN (c := dD) hG dX12_comesTo_145 (by omega) ?_
          refine pm_bipush (v := (-100)) hG dX12_comesTo_146 (by decide) ?_
          refine pm_iloadi hG dX12_comesTo_148 rfl ?_
          refine pm_isub hG dX12_comesTo_150 ?_
          refine pm_aloadn hG dX12_comesTo_151 rfl ?_
          refine pm_getf hG dX12_comesTo_152 (flX12_31 _ rfl) rfl rfl ?_
          refine pm_iloadi hG dX12_comesTo_155 rfl ?_
          refine pm_iconst (v := nI 1) hG dX12_comesTo_157 (by decide) ?_
          refine pm_isubN (c := dD) hG dX12_comesTo_158 (by omega) ?_
          refine pm_ialdN hG dX12_comesTo_159 rfl (by decide) (by omega) ?_
          refine pm_any (fun x15 => ?_)
          refine pm_aloadn hG dX12_comesTo_160 rfl ?_
          refine pm_getf hG dX12_comesTo_161 (flX12_31 _ rfl) rfl rfl ?_
          refine pm_iloadi hG dX12_comesTo_164 rfl ?_
          refine pm_ialdN hG dX12_comesTo_166 rfl (by decide) (by omega) ?_
          refine pm_any (fun x16 => ?_)
          refine pm_callS (As := [.int ((-100) - x5), .int x15, .int x16]) (rest := [.int (nI dD), .ref (B + 62)]) hG hR dX12_comesTo_167 (lkX12_208 _ rfl) okS_X12_done (m_done (d := 1) (by decide) hn hz) rfl rfl hdd (Nat.le_refl _) (Nat.le_refl _) (Nat.le_of_ble_eq_true rfl) (pm_ki (fun v17 σ' cnt' hq => ?_))
          obtain ⟨rfl, rfl⟩ := hq
          refine pm_iastN hG dX12_comesTo_170 rfl (by decide) (by omega) ?_
          refine mdn_row (fun A_19 => ?_)
          refine pm_iincX (v := nI (65 * ba + jC + 516)) (loc' := [some (.ref (B + 54)), some (.int (nI ba)), some (.int (-1)), some (.int (-1)), some (.int zd), some (.int (nI (dD + 1))), some (.int (nI (65 * ba + 515))), some (.int (nI (65 * ba + jC + 516))), some (.int x5)]) hG dX12_comesTo_171 rfl (nI_1 _) (by decide) (pm_c1b rfl) rfl ?_
          refine pm_goto (tgt := 33) hG dX12_comesTo_174 rfl ?_
          refine pm_fg 8 (loc' := [some (.ref (B + 54)), some (.int (nI ba)), some (.int (-1)), some (.int (-1)), some (.int zd), some (.int (nI (dD + 1))), some (.int (nI (65 * ba + 515))), some (.int (nI (65 * ba + jC + 516))), none]) rfl ?_
          exact ihC _ _ _ (jC + 1) (dD + 1) g4 (by omega) (by omega) (Nat.lt_of_succ_lt_succ hmC)
  exact loopC _ lC I2 A2 0 0 cC (Nat.le_refl _) (Nat.zero_add _) (Nat.lt_succ_self _)
