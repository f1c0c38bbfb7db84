set_option maxRecDepth 100000 in
set_option maxHeartbeats 4000000 in
theorem m_comesTo_n12_n20_m {d B cnt p0 t0 : Nat} {σ : pm_S} {I : Nat → Int32} {A : Nat → Nat → Int32} {n k z : Nat → Int32} {ac wt pl im : Int32} {y : Nat → Int32} {zd : Int32} {ba bb : Nat} (hdd : 3 ≤ d) (hn : KI n) (hr : NR n) (hz : SZ z) (hba : ba < 12) (hbb : bb < 20) : pm_met mX12_comesTo d 0 0 B [.ref (B + 54), .int (nI ba), .int (nI bb), .int (-1), .int zd] cnt (pm_mid σ (md_L B I A n k z ac wt pl (nI p0) (nI t0) im y)) (pm_Qi (fun v σ' cnt' => (∃ (I' : Nat → Int32) (A' : Nat → Nat → Int32), σ' = pm_mid σ (md_L B I' A' n k z ac wt pl (nI p0) (nI t0) im y)) ∧ cnt = cnt')) := by
  refine pm_enter 4 (by decide) (Nat.le_of_ble_eq_true rfl) rfl (fun G hG hR hF => ?_)
  refine pm_iloadn hG dX12_comesTo_0 rfl ?_
  refine pm_ifN_ge (tgt := 6) hG dX12_comesTo_1 rfl (by omega) ?_
  refine pm_aloadn hG dX12_comesTo_6 rfl ?_
  refine pm_iloadn hG dX12_comesTo_7 rfl ?_
  refine pm_iloadn hG dX12_comesTo_8 rfl ?_
  refine pm_iloadi hG dX12_comesTo_9 rfl ?_
  refine pm_callV (As := [.int (nI bb), .int (-1), .int zd]) (rest := []) hG hR dX12_comesTo_11 (lkX12_205 _ rfl) okV_X12_setNames rfl rfl (m_setNames_n20_m (d := 2) (by decide) hn hz (by omega)) rfl rfl hdd (Nat.le_refl _) (Nat.le_refl _) (by decide) (pm_kv (fun σ' cnt' hq => ?_))
  obtain ⟨⟨I2, A2, rfl⟩, rfl⟩ := hq
  refine pm_iconst (v := nI 0) hG dX12_comesTo_14 (by decide) ?_
  refine pm_istoreXi (loc' := [some (.ref (B + 54)), some (.int (nI ba)), some (.int (nI bb)), some (.int (-1)), some (.int zd), some (.int (nI 0)), none, none, none]) hG dX12_comesTo_15 (by decide) (pm_c1b rfl) rfl ?_
  refine pm_sipush (v := nI 510) hG dX12_comesTo_17 (by decide) ?_
  refine pm_bipush (v := nI 65) hG dX12_comesTo_20 (by decide) ?_
  refine pm_iloadn hG dX12_comesTo_22 rfl ?_
  refine pm_imulN (c := 65 * ba) hG dX12_comesTo_23 (by omega) ?_
  refine pm_iaddN (c := 65 * ba + 510) hG dX12_comesTo_24 (by omega) ?_
  refine pm_iconst (v := nI 5) hG dX12_comesTo_25 (by decide) ?_
  refine pm_iaddN (c := 65 * ba + 515) hG dX12_comesTo_26 (by omega) ?_
  refine pm_istoreXi (loc' := [some (.ref (B + 54)), some (.int (nI ba)), some (.int (nI bb)), some (.int (-1)), some (.int zd), some (.int (nI 0)), some (.int (nI (65 * ba + 515))), none, none]) hG dX12_comesTo_27 (by decide) (pm_c1b rfl) rfl ?_
  refine pm_iloadi hG dX12_comesTo_29 rfl ?_
  refine pm_istoreXi (loc' := [some (.ref (B + 54)), some (.int (nI ba)), some (.int (nI bb)), some (.int (-1)), some (.int zd), some (.int (nI 0)), some (.int (nI (65 * ba + 515))), some (.int (nI (65 * ba + 515))), none]) hG dX12_comesTo_31 (by decide) (pm_c1b rfl) rfl ?_
  obtain ⟨lC, eC, hC, cC⟩ := hr.2.2.2 ba (by omega)
  have fC : n (65 * ba + 514) = nI lC := eC
  have loopC : ∀ (mC : Nat) (rC : Nat) (IC : Nat → Int32) (AC : Nat → Nat → Int32) (jC dC : Nat), cOK (fun q => n (65 * ba + 515 + q)) rC jC dC → dC ≤ jC → jC + rC = lC → rC < mC → pm_wp mX12_comesTo G B 33 [some (.ref (B + 54)), some (.int (nI ba)), some (.int (nI bb)), some (.int (-1)), some (.int zd), some (.int (nI dC)), some (.int (nI (65 * ba + 515))), some (.int (nI (65 * ba + jC + 515))), none] [] 0 0 cnt (pm_mid σ (md_L B IC AC n k z ac wt pl (nI p0) (nI t0) im y)) := by
    intro mC
    induction mC with
    | zero => intro rC IC AC jC dC _ _ _ hm; exact absurd hm (Nat.not_lt_zero _)
    | succ mC ihC =>
      intro rC IC AC jC dC kC hdC hjC hmC
      refine pm_iloadi hG dX12_comesTo_33 rfl ?_
      refine pm_iloadi hG dX12_comesTo_35 rfl ?_
      refine pm_aloadn hG dX12_comesTo_37 rfl ?_
      refine pm_getf hG dX12_comesTo_38 (flX12_7 _ rfl) rfl rfl ?_
      refine pm_iloadi hG dX12_comesTo_41 rfl ?_
      refine pm_iconst (v := nI 1) hG dX12_comesTo_43 (by decide) ?_
      refine pm_isubN (c := 65 * ba + 514) hG dX12_comesTo_44 (by omega) ?_
      refine pm_ialdN hG dX12_comesTo_45 rfl (by decide) (by omega) ?_
      refine pm_top (v := nI lC) fC ?_
      refine pm_iaddN (c := 65 * ba + lC + 515) hG dX12_comesTo_46 (by omega) ?_
      refine pm_icmpN_ge (tgt := 177) hG dX12_comesTo_47 rfl (by omega) (by omega) (fun c3 => ?_) (fun c3 => ?_)
      · refine pm_aloadn hG dX12_comesTo_177 rfl ?_
        refine pm_getf hG dX12_comesTo_178 (flX12_31 _ rfl) rfl rfl ?_
        refine pm_iconst (v := nI 0) hG dX12_comesTo_181 (by decide) ?_
        refine pm_ialdN hG dX12_comesTo_182 rfl (by decide) (by omega) ?_
        refine pm_any (fun x4 => ?_)
        exact pm_iret hG hF dX12_comesTo_183 rfl (Nat.le_refl _) (Nat.le_refl _) ⟨_, rfl, ⟨_, _, rfl⟩, rfl⟩
      · refine pm_aloadn hG dX12_comesTo_50 rfl ?_
        refine pm_getf hG dX12_comesTo_51 (flX12_7 _ rfl) rfl rfl ?_
        refine pm_iloadi hG dX12_comesTo_54 rfl ?_
        refine pm_ialdN hG dX12_comesTo_56 rfl (by decide) (by omega) ?_
        refine pm_gen (fun x5 ex5 => ?_)
        refine pm_istoreXi (loc' := [some (.ref (B + 54)), some (.int (nI ba)), some (.int (nI bb)), some (.int (-1)), some (.int zd), some (.int (nI dC)), some (.int (nI (65 * ba + 515))), some (.int (nI (65 * ba + jC + 515))), some (.int x5)]) hG dX12_comesTo_57 (by decide) (pm_c1b rfl) rfl ?_
        obtain ⟨rD, rfl⟩ : ∃ rD : Nat, rC = rD + 1 := ⟨rC - 1, by omega⟩
        have fx : n (65 * ba + 515 + jC) = x5 := by
          rw [show 65 * ba + 515 + jC = 65 * ba + jC + 515 by omega]; exact ex5
        unfold cOK at kC
        rw [fx] at kC
        rcases kC with ⟨g1, g2, g3⟩ | ⟨g1, g2, g3⟩ | ⟨g1, g2, g3, g4⟩
        · refine pm_iloadi hG dX12_comesTo_59 rfl ?_
          refine pm_bipush (v := (-100)) hG dX12_comesTo_61 (by decide) ?_
          refine pm_icmp_le (tgt := 98) hG dX12_comesTo_63 rfl (fun q => absurd q g1) (fun _ => ?_)
          refine pm_aloadn hG dX12_comesTo_66 rfl ?_
          refine pm_getf hG dX12_comesTo_67 (flX12_31 _ rfl) rfl rfl ?_
          refine pm_iloadi hG dX12_comesTo_70 rfl ?_
          refine pm_iloadi hG dX12_comesTo_72 rfl ?_
          refine pm_if_ge (tgt := 89) hG dX12_comesTo_74 rfl (fun _ => ?_) (fun cx => ?_)
          · refine pm_iloadi hG dX12_comesTo_89 rfl ?_
            refine pm_iastN hG dX12_comesTo_91 rfl (by decide) (by omega) ?_
            refine mdn_row (fun A_6 => ?_)
            refine pm_iincX (v := nI (dC + 1)) (loc' := [some (.ref (B + 54)), some (.int (nI ba)), some (.int (nI bb)), some (.int (-1)), some (.int zd), some (.int (nI (dC + 1))), some (.int (nI (65 * ba + 515))), some (.int (nI (65 * ba + jC + 515))), some (.int x5)]) hG dX12_comesTo_92 rfl (nI_1 _) (by decide) (pm_c1b rfl) rfl ?_
            refine pm_goto (tgt := 171) hG dX12_comesTo_95 rfl ?_
            refine pm_iincX (v := nI (65 * ba + jC + 516)) (loc' := [some (.ref (B + 54)), some (.int (nI ba)), some (.int (nI bb)), some (.int (-1)), some (.int zd), some (.int (nI (dC + 1))), some (.int (nI (65 * ba + 515))), some (.int (nI (65 * ba + jC + 516))), some (.int x5)]) hG dX12_comesTo_171 rfl (nI_1 _) (by decide) (pm_c1b rfl) rfl ?_
            refine pm_goto (tgt := 33) hG dX12_comesTo_174 rfl ?_
            refine pm_fg 8 (loc' := [some (.ref (B + 54)), some (.int (nI ba)), some (.int (nI bb)), some (.int (-1)), some (.int zd), some (.int (nI (dC + 1))), some (.int (nI (65 * ba + 515))), some (.int (nI (65 * ba + jC + 516))), none]) rfl ?_
            exact ihC _ _ _ (jC + 1) (dC + 1) g3 (by omega) (by omega) (Nat.lt_of_succ_lt_succ hmC)
          · obtain ⟨kC, hkC, ekC⟩ := g2 (Int32.not_le.mp cx)
            refine pm_aloadn hG dX12_comesTo_77 rfl ?_
            refine pm_getf hG dX12_comesTo_78 (flX12_34 _ rfl) rfl rfl ?_
            refine pm_iconst (v := (-1)) hG dX12_comesTo_81 (by decide) ?_
            refine pm_iloadi hG dX12_comesTo_82 rfl ?_
            refine pm_isub hG dX12_comesTo_84 ?_
            refine pm_top (v := nI kC) ekC ?_
            refine pm_ialdN hG dX12_comesTo_85 rfl (by decide) (by omega) ?_
            refine pm_any (fun x7 => ?_)
            refine pm_goto (tgt := 91) hG dX12_comesTo_86 rfl ?_
            refine pm_iastN hG dX12_comesTo_91 rfl (by decide) (by omega) ?_
            refine mdn_row (fun A_8 => ?_)
            refine pm_iincX (v := nI (dC + 1)) (loc' := [some (.ref (B + 54)), some (.int (nI ba)), some (.int (nI bb)), some (.int (-1)), some (.int zd), some (.int (nI (dC + 1))), some (.int (nI (65 * ba + 515))), some (.int (nI (65 * ba + jC + 515))), some (.int x5)]) hG dX12_comesTo_92 rfl (nI_1 _) (by decide) (pm_c1b rfl) rfl ?_
            refine pm_goto (tgt := 171) hG dX12_comesTo_95 rfl ?_
            refine pm_iincX (v := nI (65 * ba + jC + 516)) (loc' := [some (.ref (B + 54)), some (.int (nI ba)), some (.int (nI bb)), some (.int (-1)), some (.int zd), some (.int (nI (dC + 1))), some (.int (nI (65 * ba + 515))), some (.int (nI (65 * ba + jC + 516))), some (.int x5)]) hG dX12_comesTo_171 rfl (nI_1 _) (by decide) (pm_c1b rfl) rfl ?_
            refine pm_goto (tgt := 33) hG dX12_comesTo_174 rfl ?_
            refine pm_fg 8 (loc' := [some (.ref (B + 54)), some (.int (nI ba)), some (.int (nI bb)), some (.int (-1)), some (.int zd), some (.int (nI (dC + 1))), some (.int (nI (65 * ba + 515))), some (.int (nI (65 * ba + jC + 516))), none]) rfl ?_
            exact ihC _ _ _ (jC + 1) (dC + 1) g3 (by omega) (by omega) (Nat.lt_of_succ_lt_succ hmC)
        · refine pm_iloadi hG dX12_comesTo_59 rfl ?_
          refine pm_top (v := (-133)) g1 ?_
          refine pm_bipush (v := (-100)) hG dX12_comesTo_61 (by decide) ?_
          refine pm_icmp_le (tgt := 98) hG dX12_comesTo_63 rfl (fun _ => ?_) (fun q => absurd q (by decide))
          refine pm_iloadi hG dX12_comesTo_98 rfl ?_
          refine pm_top (v := (-133)) g1 ?_
          refine pm_sipush (v := (-133)) hG dX12_comesTo_100 (by decide) ?_
          refine pm_icmp_ne (tgt := 135) hG dX12_comesTo_103 rfl (fun q => absurd q (by decide)) (fun _ => ?_)
          refine pm_aloadn hG dX12_comesTo_106 rfl ?_
          refine pm_getf hG dX12_comesTo_107 (flX12_31 _ rfl) rfl rfl ?_
          refine pm_iloadi hG dX12_comesTo_110 rfl ?_
          refine pm_iconst (v := nI 1) hG dX12_comesTo_112 (by decide) ?_
          obtain ⟨q9, hq9⟩ : ∃ q9 : Nat, dC = 1 + q9 := ⟨dC - (1), by omega⟩
          refine pm_isubN (c := q9) hG dX12_comesTo_113 (by omega) ?_
          refine pm_aloadn hG dX12_comesTo_114 rfl ?_
          refine pm_getf hG dX12_comesTo_115 (flX12_31 _ rfl) rfl rfl ?_
          refine pm_iloadi hG dX12_comesTo_118 rfl ?_
          refine pm_iconst (v := nI 1) hG dX12_comesTo_120 (by decide) ?_
          obtain ⟨q10, hq10⟩ : ∃ q10 : Nat, dC = 1 + q10 := ⟨dC - (1), by omega⟩
          refine pm_isubN (c := q10) hG dX12_comesTo_121 (by omega) ?_
          refine pm_ialdN hG dX12_comesTo_122 rfl (by decide) (by omega) ?_
          refine pm_any (fun x11 => ?_)
          refine pm_if_ne (tgt := 130) hG dX12_comesTo_123 rfl (fun c12 => ?_) (fun c12 => ?_)
          · refine pm_iconst (v := nI 0) hG dX12_comesTo_130 (by decide) ?_
            refine pm_iastN hG dX12_comesTo_131 rfl (by decide) (by omega) ?_
            refine mdn_row (fun A_13 => ?_)
            refine pm_goto (tgt := 171) hG dX12_comesTo_132 rfl ?_
            refine pm_iincX (v := nI (65 * ba + jC + 516)) (loc' := [some (.ref (B + 54)), some (.int (nI ba)), some (.int (nI bb)), some (.int (-1)), some (.int zd), some (.int (nI dC)), some (.int (nI (65 * ba + 515))), some (.int (nI (65 * ba + jC + 516))), some (.int x5)]) hG dX12_comesTo_171 rfl (nI_1 _) (by decide) (pm_c1b rfl) rfl ?_
            refine pm_goto (tgt := 33) hG dX12_comesTo_174 rfl ?_
            refine pm_fg 8 (loc' := [some (.ref (B + 54)), some (.int (nI ba)), some (.int (nI bb)), some (.int (-1)), some (.int zd), some (.int (nI dC)), some (.int (nI (65 * ba + 515))), some (.int (nI (65 * ba + jC + 516))), none]) rfl ?_
            exact ihC _ _ _ (jC + 1) dC g3 (by omega) (by omega) (Nat.lt_of_succ_lt_succ hmC)
          · refine pm_iconst (v := nI 1) hG dX12_comesTo_126 (by decide) ?_
            refine pm_goto (tgt := 131) hG dX12_comesTo_127 rfl ?_
            refine pm_iastN hG dX12_comesTo_131 rfl (by decide) (by omega) ?_
            refine mdn_row (fun A_14 => ?_)
            refine pm_goto (tgt := 171) hG dX12_comesTo_132 rfl ?_
            refine pm_iincX (v := nI (65 * ba + jC + 516)) (loc' := [some (.ref (B + 54)), some (.int (nI ba)), some (.int (nI bb)), some (.int (-1)), some (.int zd), some (.int (nI dC)), some (.int (nI (65 * ba + 515))), some (.int (nI (65 * ba + jC + 516))), some (.int x5)]) hG dX12_comesTo_171 rfl (nI_1 _) (by decide) (pm_c1b rfl) rfl ?_
            refine pm_goto (tgt := 33) hG dX12_comesTo_174 rfl ?_
            refine pm_fg 8 (loc' := [some (.ref (B + 54)), some (.int (nI ba)), some (.int (nI bb)), some (.int (-1)), some (.int zd), some (.int (nI dC)), some (.int (nI (65 * ba + 515))), some (.int (nI (65 * ba + jC + 516))), none]) rfl ?_
            exact ihC _ _ _ (jC + 1) dC g3 (by omega) (by omega) (Nat.lt_of_succ_lt_succ hmC)
        · refine pm_iloadi hG dX12_comesTo_59 rfl ?_
          refine pm_bipush (v := (-100)) hG dX12_comesTo_61 (by decide) ?_
          refine pm_icmp_le (tgt := 98) hG dX12_comesTo_63 rfl (fun _ => ?_) (fun q => absurd g1 q)
          refine pm_iloadi hG dX12_comesTo_98 rfl ?_
          refine pm_sipush (v := (-133)) hG dX12_comesTo_100 (by decide) ?_
          refine pm_icmp_ne (tgt := 135) hG dX12_comesTo_103 rfl (fun _ => ?_) (fun q => absurd q g2)
          obtain ⟨dD, rfl⟩ : ∃ dD : Nat, dC = dD + 1 + 1 := ⟨dC - 2, by omega⟩
          refine pm_iincX (v := nI (dD + 1)) (loc' := [some (.ref (B + 54)), some (.int (nI ba)), some (.int (nI bb)), some (.int (-1)), some (.int zd), some (.int (nI (dD + 1))), some (.int (nI (65 * ba + 515))), some (.int (nI (65 * ba + jC + 515))), some (.int x5)]) hG dX12_comesTo_135 rfl (pk_m1 (dD + 1)) (by decide) (pm_c1b rfl) rfl ?_
          refine pm_aloadn hG dX12_comesTo_138 rfl ?_
          refine pm_getf hG dX12_comesTo_139 (flX12_31 _ rfl) rfl rfl ?_
          refine pm_iloadi hG dX12_comesTo_142 rfl ?_
          refine pm_iconst (v := nI 1) hG dX12_comesTo_144 (by decide) ?_
          refine pm_isubN (c := dD) hG dX12_comesTo_145 (by omega) ?_
          refine pm_bipush (v := (-100)) hG dX12_comesTo_146 (by decide) ?_
          refine pm_iloadi hG dX12_comesTo_148 rfl ?_
          refine pm_isub hG dX12_comesTo_150 ?_
          refine pm_aloadn hG dX12_comesTo_151 rfl ?_
          refine pm_getf hG dX12_comesTo_152 (flX12_31 _ rfl) rfl rfl ?_
          refine pm_iloadi hG dX12_comesTo_155 rfl ?_
          refine pm_iconst (v := nI 1) hG dX12_comesTo_157 (by decide) ?_
          refine pm_isubN (c := dD) hG dX12_comesTo_158 (by omega) ?_
          refine pm_ialdN hG dX12_comesTo_159 rfl (by decide) (by omega) ?_
          refine pm_any (fun x15 => ?_)
          refine pm_aloadn hG dX12_comesTo_160 rfl ?_
          refine pm_getf hG dX12_comesTo_161 (flX12_31 _ rfl) rfl rfl ?_
          refine pm_iloadi hG dX12_comesTo_164 rfl ?_
          refine pm_ialdN hG dX12_comesTo_166 rfl (by decide) (by omega) ?_
          refine pm_any (fun x16 => ?_)
          refine pm_callS (As := [.int ((-100) - x5), .int x15, .int x16]) (rest := [.int (nI dD), .ref (B + 62)]) hG hR dX12_comesTo_167 (lkX12_208 _ rfl) okS_X12_done (m_done (d := 2) (by decide) hn hz) rfl rfl hdd (Nat.le_refl _) (Nat.le_refl _) (Nat.le_of_ble_eq_true rfl) (pm_ki (fun v17 σ' cnt' hq => ?_))
          obtain ⟨rfl, rfl⟩ := hq
          refine pm_iastN hG dX12_comesTo_170 rfl (by decide) (by omega) ?_
          refine mdn_row (fun A_19 => ?_)
          refine pm_iincX (v := nI (65 * ba + jC + 516)) (loc' := [some (.ref (B + 54)), some (.int (nI ba)), some (.int (nI bb)), some (.int (-1)), some (.int zd), some (.int (nI (dD + 1))), some (.int (nI (65 * ba + 515))), some (.int (nI (65 * ba + jC + 516))), some (.int x5)]) hG dX12_comesTo_171 rfl (nI_1 _) (by decide) (pm_c1b rfl) rfl ?_
          refine pm_goto (tgt := 33) hG dX12_comesTo_174 rfl ?_
          refine pm_fg 8 (loc' := [some (.ref (B + 54)), some (.int (nI ba)), some (.int (nI bb)), some (.int (-1)), some (.int zd), some (.int (nI (dD + 1))), some (.int (nI (65 * ba + 515))), some (.int (nI (65 * ba + jC + 516))), none]) rfl ?_
          exact ihC _ _ _ (jC + 1) (dD + 1) g4 (by omega) (by omega) (Nat.lt_of_succ_lt_succ hmC)
  exact loopC _ lC I2 A2 0 0 cC (Nat.le_refl _) (Nat.zero_add _) (Nat.lt_succ_self _)
