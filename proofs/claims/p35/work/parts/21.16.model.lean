set_option maxRecDepth 100000 in
set_option maxHeartbeats 4000000 in
theorem m_comesTo_n12_n20_n40 {d B cnt p0 t0 : Nat} {σ : pm_S} {I : Nat → Int32} {A : Nat → Nat → Int32} {n k z : Nat → Int32} {ac wt pl im : Int32} {zd : Int32} {ba bb bc : Nat} (hdd : 3 ≤ d) (hn : KI n) (hr : NR n) (hz : SZ z) (hba : ba < 12) (hbb : bb < 20) (hbc : bc < 40) : pm_met mX12_comesTo d 0 0 B [.ref (B + 54), .int (nI ba), .int (nI bb), .int (nI bc), .int zd] cnt (pm_mid σ (md_L B I A n k z ac wt pl (nI p0) (nI t0) im)) (pm_Qi (fun v σ' cnt' => (∃ (I' : Nat → Int32) (A' : Nat → Nat → Int32), σ' = pm_mid σ (md_L B I' A' n k z ac wt pl (nI p0) (nI t0) im)) ∧ cnt = cnt')) := by
  refine pm_enter 4 (by decide) (Nat.le_of_ble_eq_true rfl) rfl (fun G hG hR hF => ?_)
  refine pm_iloadn hG dX12_comesTo_0 rfl ?_
  refine pm_ifN_ge (tgt := 6) hG dX12_comesTo_1 rfl (by omega) ?_
  refine pm_aloadn hG dX12_comesTo_6 rfl ?_
  refine pm_iloadn hG dX12_comesTo_7 rfl ?_
  refine pm_iloadn hG dX12_comesTo_8 rfl ?_
  refine pm_iloadi hG dX12_comesTo_9 rfl ?_
  refine pm_callV (As := [.int (nI bb), .int (nI bc), .int zd]) (rest := []) hG hR dX12_comesTo_11 (lkX12_205 _ rfl) okV_X12_setNames rfl rfl (m_setNames_n20_n40 (d := 2) (by decide) hn hz (by omega) (by omega)) rfl rfl hdd (Nat.le_refl _) (Nat.le_refl _) (by decide) (pm_kv (fun σ' cnt' hq => ?_))
  obtain ⟨⟨I2, A2, rfl⟩, rfl⟩ := hq
  refine pm_iconst (v := nI 0) hG dX12_comesTo_14 (by decide) ?_
  refine pm_istoreXi (loc' := [some (.ref (B + 54)), some (.int (nI ba)), some (.int (nI bb)), some (.int (nI bc)), some (.int zd), some (.int (nI 0)), none, none, none]) hG dX12_comesTo_15 (by decide) (pm_c1b rfl) rfl ?_
  refine pm_sipush (v := nI 510) hG dX12_comesTo_17 (by decide) ?_
  refine pm_bipush (v := nI 65) hG dX12_comesTo_20 (by decide) ?_
  refine pm_iloadn hG dX12_comesTo_22 rfl ?_
  refine pm_imulN (c := 65 * ba) hG dX12_comesTo_23 (by omega) ?_
  refine pm_iaddN (c := 65 * ba + 510) hG dX12_comesTo_24 (by omega) ?_
  refine pm_iconst (v := nI 5) hG dX12_comesTo_25 (by decide) ?_
  refine pm_iaddN (c := 65 * ba + 515) hG dX12_comesTo_26 (by omega) ?_
  refine pm_istoreXi (loc' := [some (.ref (B + 54)), some (.int (nI ba)), some (.int (nI bb)), some (.int (nI bc)), some (.int zd), some (.int (nI 0)), some (.int (nI (65 * ba + 515))), none, none]) hG dX12_comesTo_27 (by decide) (pm_c1b rfl) rfl ?_
  refine pm_iloadi hG dX12_comesTo_29 rfl ?_
  refine pm_istoreXi (loc' := [some (.ref (B + 54)), some (.int (nI ba)), some (.int (nI bb)), some (.int (nI bc)), some (.int zd), some (.int (nI 0)), some (.int (nI (65 * ba + 515))), some (.int (nI (65 * ba + 515))), none]) hG dX12_comesTo_31 (by decide) (pm_c1b rfl) rfl ?_
  obtain ⟨lC, eC, hC, cC⟩ := hr.2.2.2 ba (by omega)
  have fC : n (65 * ba + 514) = nI lC := eC
  have loopC : ∀ (mC : Nat) (rC : Nat) (IC : Nat → Int32) (AC : Nat → Nat → Int32) (jC dC : Nat), cOK (fun q => n (65 * ba + 515 + q)) rC jC dC → dC ≤ jC → jC + rC = lC → rC < mC → pm_wp mX12_comesTo G B 33 [some (.ref (B + 54)), some (.int (nI ba)), some (.int (nI bb)), some (.int (nI bc)), some (.int zd), some (.int (nI dC)), some (.int (nI (65 * ba + 515))), some (.int (nI (65 * ba + jC + 515))), none] [] 0 0 cnt (pm_mid σ (md_L B IC AC n k z ac wt pl (nI p0) (nI t0) im)) := by
    intro mC
    induction mC with
    | zero => intro rC IC AC jC dC _ _ _ hm; exact absurd hm (Nat.not_lt_zero _)
    | succ mC ihC =>
      intro rC IC AC jC dC kC hdC hjC hmC
      refine pm_iloadi hG dX12_comesTo_33 rfl ?_
      refine pm_iloadi hG dX12_comesTo_35 rfl ?_
      refine pm_aloadn hG dX12_comesTo_37 rfl ?_
      refine pm_getf hG dX12_comesTo_38 (flX12_7 _ rfl) rfl rfl ?_
      refine pm_iloadi hG dX12_comesTo_41 rfl ?_
      refine pm_iconst (v := nI 1) hG dX12_comesTo_43 (by decide) ?_
      refine pm_isubN (c := 65 * ba + 514) hG dX12_comesTo_44 (by omega) ?_
      refine pm_ialdN hG dX12_comesTo_45 rfl (by decide) (by omega) ?_
      refine pm_top (v := nI lC) fC ?_
      refine pm_iaddN (c := 65 * ba + lC + 515) hG dX12_comesTo_46 (by omega) ?_
      refine pm_icmpN_ge (tgt := 177) hG dX12_comesTo_47 rfl (by omega) (by omega) (fun c3 => ?_) (fun c3 => ?_)
      · refine pm_aloadn hG dX12_comesTo_177 rfl ?_
        refine pm_getf hG dX12_comesTo_178 (flX12_31 _ rfl) rfl rfl ?_
        refine pm_iconst (v := nI 0) hG dX12_comesTo_181 (by decide) ?_
        refine pm_ialdN hG dX12_comesTo_182 rfl (by decide) (by omega) ?_
        refine pm_any (fun x4 => ?_)
        exact pm_iret hG hF dX12_comesTo_183 rfl (Nat.le_refl _) (Nat.le_refl _) ⟨_, rfl, ⟨_, _, rfl⟩, rfl⟩
      · refine pm_aloadn hG dX12_comesTo_50 rfl ?_
        refine pm_getf hG dX12_comesTo_51 (flX12_7 _ rfl) rfl rfl ?_
        refine pm_iloadi hG dX12_comesTo_54 rfl ?_
        refine pm_ialdN hG dX12_comesTo_56 rfl (by decide) (by omega) ?_
        refine pm_gen (fun x5 ex5 => ?_)
        refine pm_istoreXi (loc' := [some (.ref (B + 54)), some (.int (nI ba)), some (.int (nI bb)), some (.int (nI bc)), some (.int zd), some (.int (nI dC)), some (.int (nI (65 * ba + 515))), some (.int (nI (65 * ba + jC + 515))), some (.int x5)]) hG dX12_comesTo_57 (by decide) (pm_c1b rfl) rfl ?_
        obtain ⟨rD, rfl⟩ : ∃ rD : Nat, rC = rD + 1 := ⟨rC - 1, by omega⟩
        have fx : n (65 * ba + 515 + jC) = x5 := by
          rw [show 65 * ba + 515 + jC = 65 * ba + jC + 515 by omega]; exact ex5
        unfold cOK at kC
        rw [fx] at kC
        rcases kC with ⟨g1, g2, g3⟩ | ⟨g1, g2, g3⟩ | ⟨g1, g2, g3, g4⟩
        · refine pm_iloadi hG dX12_comesTo_59 rfl ?_
          refine pm_bipush (v := (-100)) hG dX12_comesTo_61 (by decide) ?_
          refine pm_icmp_le (tgt := 98) hG dX12_comesTo_63 rfl (fun q => absurd q g1) (fun _ => ?_)
          refine pm_aloadn hG dX12_comesTo_66 rfl ?_
          refine pm_getf hG dX12_comesTo_67 (flX12_31 _ rfl) rfl rfl ?_
          refine pm_iloadi hG dX12_comesTo_70 rfl ?_
          refine pm_iloadi hG dX12_comesTo_72 rfl ?_
          refine pm_if_ge (tgt := 89) hG dX12_comesTo_74 rfl (fun _ => ?_) (fun cx => ?_)
          · refine pm_iloadi hG dX12_comesTo_89 rfl ?_
            refine pm_iastN hG dX12_comesTo_91 rfl (by decide) (by omega) ?_
            refine mdn_row (fun A_6 => ?_)
            refine pm_iincX (v := nI (dC + 1)) (loc' := [some (.ref (B + 54)), some (.int (nI ba)), some (.int (nI bb)), some (.int (nI bc)), some (.int zd), some (.int (nI (dC + 1))), some (.int (nI (65 * ba + 515))), some (.int (nI (65 * ba + jC + 515))), some (.int x5)]) hG dX12_comesTo_92 rfl (nI_1 _) (by decide) (pm_c1b rfl) rfl ?_
            refine pm_goto (tgt := 171) hG dX12_comesTo_95 rfl ?_
            refine pm_iincX (v := nI (65 * ba + jC + 516)) (loc' := [some (.ref (B + 54)), some (.int (nI ba)), some (.int (nI bb)), some (.int (nI bc)), some (.int zd), some (.int (nI (dC + 1))), some (.int (nI (65 * ba + 515))), some (.int (nI (65 * ba + jC + 516))), some (.int x5)]) hG dX12_comesTo_171 rfl (nI_1 _) (by decide) (pm_c1b rfl) rfl ?_
            refine pm_goto (tgt := 33) hG dX12_comesTo_174 rfl ?_
            refine pm_fg 8 (loc' := [some (.ref (B + 54)), some (.int (nI ba)), some (.int (nI bb)), some (.int (nI bc)), some (.int zd), some (.int (nI (dC + 1))), some (.int (nI (65 * ba + 515))), some (.int (nI (65 * ba + jC + 516))), none]) rfl ?_
            exact ihC _ _ _ (jC + 1) (dC + 1) g3 (by omega) (by omega) (Nat.lt_of_succ_lt_succ hmC)
          · obtain ⟨kC, hkC, ekC⟩ := g2 (Int32.not_le.mp cx)
            refine pm_aloadn hG dX12_comesTo_77 rfl ?_
            refine pm_getf hG dX12_comesTo_78 (flX12_34 _ rfl) rfl rfl ?_
            refine pm_iconst (v := (-1)) hG dX12_comesTo_81 (by decide) ?_
            refine pm_iloadi hG dX12_comesTo_82 rfl ?_
            refine pm_isub hG dX12_comesTo_84 ?_
            refine pm_top (v := nI kC) ekC ?_
            refine pm_ialdN hG dX12_comesTo_85 rfl (by decide) (by omega) ?_
            refine pm_any (fun x7 => ?_)
            refine pm_goto (tgt := 91) hG dX12_comesTo_86 rfl ?_
            refine pm_iastN hG dX12_comesTo_91 rfl (by decide) (by omega) ?_
            refine mdn_row (fun A_8 => ?_)
            refine pm_iincX (v := nI (dC + 1)) (loc' := [some (.ref (B + 54)), some (.int (nI ba)), some (.int (nI bb)), some (.int (nI bc)), some (.int zd), some (.int (nI (dC + 1))), some (.int (nI (65 * ba + 515))), some (.int (nI (65 * ba + jC + 515))), some (.int x5)]) hG dX12_comesTo_92 rfl (nI_1 _) (by decide) (pm_c1b rfl) rfl ?_
            refine pm_goto (tgt := 171) hG dX12_comesTo_95 rfl ?_
            refine pm_iincX (v := nI (65 * ba + jC + 516)) (loc' := [some (.ref (B + 54)), some (.int (nI ba)), some (.int (nI bb)), some (.int (nI bc)), some (.int zd), some (.int (nI (dC + 1))), some (.int (nI (65 * ba + 515))), some (.int (nI (65 * ba + jC + 516))), some (.int x5)]) hG dX12_comesTo_171 rfl (nI_1 _) (by decide) (pm_c1b rfl) rfl ?_
            refine pm_goto (tgt := 33) hG dX12_comesTo_174 rfl ?_
            refine pm_fg 8 (loc' := [some (.ref (B + 54)), some (.int (nI ba)), some (.int (nI bb)), some (.int (nI bc)), some (.int zd), some (.int (nI (dC + 1))), some (.int (nI (65 * ba + 515))), some (.int (nI (65 * ba + jC + 516))), none]) rfl ?_
            exact ihC _ _ _ (jC + 1) (dC + 1) g3 (by omega) (by omega) (Nat.lt_of_succ_lt_succ hmC)
        · refine pm_iloadi hG dX12_comesTo_59 rfl ?_
          refine pm_top (v := (-133)) g1 ?_
          refine pm_bipush (v := (-100)) hG dX12_comesTo_61 (by decide) ?_
          refine pm_icmp_le (tgt := 98) hG dX12_comesTo_63 rfl (fun _ => ?_) (fun q => absurd q (by decide))
          refine pm_iloadi hG dX12_comesTo_98 rfl ?_
          refine pm_top (v := (-133)) g1 ?_
          refine pm_sipush (v := (-133)) hG dX12_comesTo_100 (by decide) ?_
          refine pm_icmp_ne (tgt := 135) hG dX12_comesTo_103 rfl (fun q => absurd q (by decide)) (fun _ => ?_)
          refine pm_aloadn hG dX12_comesTo_106 rfl ?_
          refine pm_getf hG dX12_comesTo_107 (flX12_31 _ rfl) rfl rfl ?_
          refine pm_iloadi hG dX12_comesTo_110 rfl ?_
          refine pm_iconst (v := nI 1) hG dX12_comesTo_112 (by decide) ?_
          obtain ⟨q9, hq9⟩ : ∃ q9 : Nat, dC = 1 + q9 := ⟨dC - (1), by omega⟩
          refine pm_isubN (c := q9) hG dX12_comesTo_113 (by omega) ?_
          refine pm_aloadn hG dX12_comesTo_114 rfl ?_
          refine pm_getf hG dX12_comesTo_115 (flX12_31 _ rfl) rfl rfl ?_
          refine pm_iloadi hG dX12_comesTo_118 rfl ?_
          refine pm_iconst (v := nI 1) hG dX12_comesTo_120 (by decide) ?_
          obtain ⟨q10, hq10⟩ : ∃ q10 : Nat, dC = 1 + q10 := ⟨dC - (1), by omega⟩
          refine pm_isubN (c := q10) hG dX12_comesTo_121 (by omega) ?_
          refine pm_ialdN hG dX12_comesTo_122 rfl (by decide) (by omega) ?_
          refine pm_any (fun x11 => ?_)
          refine pm_if_ne (tgt := 130) hG dX12_comesTo_123 rfl (fun c12 => ?_) (fun c12 => ?_)
          · refine pm_iconst (v := nI 0) hG dX12_comesTo_130 (by decide) ?_
            refine pm_iastN hG dX12_comesTo_131 rfl (by decide) (by omega) ?_
            refine mdn_row (fun A_13 => ?_)
            refine pm_goto (tgt := 171) hG dX12_comesTo_132 rfl ?_
            refine pm_iincX (v := nI (65 * ba + jC + 516)) (loc' := [some (.ref (B + 54)), some (.int (nI ba)), some (.int (nI bb)), some (.int (nI bc)), some (.int zd), some (.int (nI dC)), some (.int (nI (65 * ba + 515))), some (.int (nI (65 * ba + jC + 516))), some (.int x5)]) hG dX12_comesTo_171 rfl (nI_1 _) (by decide) (pm_c1b rfl) rfl ?_
            refine pm_goto (tgt := 33) hG dX12_comesTo_174 rfl ?_
            refine pm_fg 8 (loc' := [some (.ref (B + 54)), some (.int (nI ba)), some (.int (nI bb)), some (.int (nI bc)), some (.int zd), some (.int (nI dC)), some (.int (nI (65 * ba + 515))), some (.int (nI (65 * ba + jC + 516))), none]) rfl ?_
            exact ihC _ _ _ (jC + 1) dC g3 (by omega) (by omega) (Nat.lt_of_succ_lt_succ hmC)
          · refine pm_iconst (v := nI 1) hG dX12_comesTo_126 (by decide) ?_
            refine pm_goto (tgt := 131) hG dX12_comesTo_127 rfl ?_
            refine pm_iastN hG dX12_comesTo_131 rfl (by decide) (by omega) ?_
            refine mdn_row (fun A_14 => ?_)
            refine pm_goto (tgt := 171) hG dX12_comesTo_132 rfl ?_
            refine pm_iincX (v := nI (65 * ba + jC + 516)) (loc' := [some (.ref (B + 54)), some (.int (nI ba)), some (.int (nI bb)), some (.int (nI bc)), some (.int zd), some (.int (nI dC)), some (.int (nI (65 * ba + 515))), some (.int (nI (65 * ba + jC + 516))), some (.int x5)]) hG dX12_comesTo_171 rfl (nI_1 _) (by decide) (pm_c1b rfl) rfl ?_
            refine pm_goto (tgt := 33) hG dX12_comesTo_174 rfl ?_
            refine pm_fg 8 (loc' := [some (.ref (B + 54)), some (.int (nI ba)), some (.int (nI bb)), some (.int (nI bc)), some (.int zd), some (.int (nI dC)), some (.int (nI (65 * ba + 515))), some (.int (nI (65 * ba + jC + 516))), none]) rfl ?_
            exact ihC _ _ _ (jC + 1) dC g3 (by omega) (by omega) (Nat.lt_of_succ_lt_succ hmC)
        · refine pm_iloadi hG dX12_comesTo_59 rfl ?_
          refine pm_bipush (v := (-100)) hG dX12_comesTo_61 (by decide) ?_
          refine pm_icmp_le (tgt := 98) hG dX12_comesTo_63 rfl (fun _ => ?_) (fun q => absurd g1 q)
          refine pm_iloadi hG dX12_comesTo_98 rfl ?_
          refine pm_sipush (v := (-133)) hG dX12_comesTo_100 (by decide) ?_
          refine pm_icmp_ne (tgt := 135) hG dX12_comesTo_103 rfl (fun _ => ?_) (fun q => absurd q g2)
          obtain ⟨dD, rfl⟩ : ∃ dD : Nat, dC = dD + 1 + 1 := ⟨dC - 2, by omega⟩
          refine pm_iincX (v := nI (dD + 1)) (loc' := [some (.ref (B + 54)), some (.int (nI ba)), some (.int (nI bb)), some (.int (nI bc)), some (.int zd), some (.int (nI (dD + 1))), some (.int (nI (65 * ba + 515))), some (.int (nI (65 * ba + jC + 515))), some (.int x5)]) hG dX12_comesTo_135 rfl (pk_m1 (dD + 1)) (by decide) (pm_c1b rfl) rfl ?_
          refine pm_aloadn hG dX12_comesTo_138 rfl ?_
          refine pm_getf hG dX12_comesTo_139 (flX12_31 _ rfl) rfl rfl ?_
          refine pm_iloadi hG dX12_comesTo_142 rfl ?_
          refine pm_iconst (v := nI 1) hG dX12_comesTo_144 (by decide) ?_
          refine pm_isubN (c := dD) hG dX12_comesTo_145 (by omega) ?_
          refine pm_bipush (v := (-100)) hG dX12_comesTo_146 (by decide) ?_
          refine pm_iloadi hG dX12_comesTo_148 rfl ?_
          refine pm_isub hG dX12_comesTo_150 ?_
          refine pm_aloadn hG dX12_comesTo_151 rfl ?_
          refine pm_getf hG dX12_comesTo_152 (flX12_31 _ rfl) rfl rfl ?_
          refine pm_iloadi hG dX12_comesTo_155 rfl ?_
          refine pm_iconst (v := nI 1) hG dX12_comesTo_157 (by decide) ?_
          refine pm_isubN (c := dD) hG dX12_comesTo_158 (by omega) ?_
          refine pm_ialdN hG dX12_comesTo_159 rfl (by decide) (by omega) ?_
          refine pm_any (fun x15 => ?_)
          refine pm_aloadn hG dX12_comesTo_160 rfl ?_
          refine pm_getf hG dX12_comesTo_161 (flX12_31 _ rfl) rfl rfl ?_
          refine pm_iloadi hG dX12_comesTo_164 rfl ?_
          refine pm_ialdN hG dX12_comesTo_166 rfl (by decide) (by omega) ?_
          refine pm_any (fun x16 => ?_)
          refine pm_callS (As := [.int ((-100) - x5), .int x15, .int x16]) (rest := [.int (nI dD), .ref (B + 62)]) hG hR dX12_comesTo_167 (lkX12_208 _ rfl) okS_X12_done (m_done (d := 2) (by decide) hn hz) rfl rfl hdd (Nat.le_refl _) (Nat.le_refl _) (Nat.le_of_ble_eq_true rfl) (pm_ki (fun v17 σ' cnt' hq => ?_))
          obtain ⟨rfl, rfl⟩ := hq
          refine pm_iastN hG dX12_comesTo_170 rfl (by decide) (by omega) ?_
          refine mdn_row (fun A_19 => ?_)
          refine pm_iincX (v := nI (65 * ba + jC + 516)) (loc' := [some (.ref (B + 54)), some (.int (nI ba)), some (.int (nI bb)), some (.int (nI bc)), some (.int zd), some (.int (nI (dD + 1))), some (.int (nI (65 * ba + 515))), some (.int (nI (65 * ba + jC + 516))), some (.int x5)]) hG dX12_comesTo_171 rfl (nI_1 _) (by decide) (pm_c1b rfl) rfl ?_
          refine pm_goto (tgt := 33) hG dX12_comesTo_174 rfl ?_
          refine pm_fg 8 (loc' := [some (.ref (B + 54)), some (.int (nI ba)), some (.int (nI bb)), some (.int (nI bc)), some (.int zd), some (.int (nI (dD + 1))), some (.int (nI (65 * ba + 515))), some (.int (nI (65 * ba + jC + 516))), none]) rfl ?_
          exact ihC _ _ _ (jC + 1) (dD + 1) g4 (by omega) (by omega) (Nat.lt_of_succ_lt_succ hmC)
  exact loopC _ lC I2 A2 0 0 cC (Nat.le_refl _) (Nat.zero_add _) (Nat.lt_succ_self _)

set_option maxRecDepth 100000 in
set_option maxHeartbeats 4000000 in
theorem m_open {d B cnt p0 t0 : Nat} {σ : pm_S} {I : Nat → Int32} {A : Nat → Nat → Int32} {n k z : Nat → Int32} {ac wt pl im : Int32} {za : Int32} (hdd : 4 ≤ d) (hn : KI n) (hr : NR n) (hz : SZ z)  : pm_met mX12_open d 0 0 B [.ref (B + 54), .int za] cnt (pm_mid σ (md_L B I A n k z ac wt pl (nI p0) (nI t0) im)) (pm_Qi (fun v σ' cnt' => (∃ (I' : Nat → Int32) (A' : Nat → Nat → Int32) (n' : Nat → Int32), σ' = pm_mid σ (md_L B I' A' n' k z ac wt pl (nI p0) (nI t0) im) ∧ KI n' ∧ NR n' ∧ n' 0 = n 0 ∧ n' 2 = n 2 ∧ n' 7 = n 7 ∧ n' 8 = n 8 ∧ KS n' n) ∧ cnt = cnt')) := by
  obtain ⟨kc0, hkc0, ekc0⟩ := KI.nat hn (show kd 0 = (1, 11, true) by decide)
  obtain ⟨kc2, hkc2, ekc2⟩ := KI.nat hn (show kd 2 = (1, 21, true) by decide)
  obtain ⟨kc7, hkc7, ekc7⟩ := KI.nat hn (show kd 7 = (1, 31, false) by decide)
  obtain ⟨kc8, hkc8, ekc8⟩ := KI.nat hn (show kd 8 = (1, 2001, false) by decide)
  refine pm_enter 2 (by decide) (Nat.le_of_ble_eq_true rfl) rfl (fun G hG hR hF => ?_)
  refine pm_aloadn hG dX12_open_0 rfl ?_
  refine pm_iloadn hG dX12_open_1 rfl ?_
  obtain ⟨k1, hk1, ek1⟩ := KI.nat hn (show kd 5 = (1, 41, true) by decide)
  refine pm_callV (As := [.int za]) (rest := []) hG hR dX12_open_2 (lkX12_211 _ rfl) okV_X12_isLetter rfl rfl (m_isLetter (d := 3) (by decide) ek1 (by omega)) rfl rfl hdd (Nat.le_refl _) (Nat.le_refl _) (by decide) (pm_ki (fun v2 σ' cnt' hq => ?_))
  obtain ⟨hq, rfl, rfl⟩ := hq
  rcases hq with ⟨rfl, k4, hk4, ek4⟩ | rfl
  · refine pm_ifN_ne (tgt := 14) hG dX12_open_5 rfl (by omega) (fun _ => ?_) (fun q => absurd q (by omega))
    refine pm_aloadn hG dX12_open_14 rfl ?_
    refine pm_iloadn hG dX12_open_15 rfl ?_
    refine pm_top (v := nI k4) ek4 ?_
    refine pm_iconst (v := nI 4) hG dX12_open_16 (by decide) ?_
    refine pm_callV (As := [.int (nI k4), .int (nI 4)]) (rest := []) hG hR dX12_open_17 (lkX12_199 _ rfl) okV_X12_of rfl rfl (m_of (d := 3) (e := 12 * k4 + 1294) (by omega) (by omega) (by omega)) rfl rfl hdd (Nat.le_refl _) (Nat.le_refl _) (by decide) (pm_ki (fun v5 σ' cnt' hq => ?_))
    obtain ⟨rfl, rfl, rfl⟩ := hq
    rcases KI.opt hn (show kd (12 * k4 + 1294) = (2, 20, true) from (kd_E (k := k4) (c := 4) (by omega) (by omega) (by decide))) with ek6 | ⟨k6, hk6, ek6⟩
    · refine pm_top (v := (-1)) ek6 ?_
      refine pm_istoreXn (loc' := [some (.ref (B + 54)), some (.int za), some (.int (-1)), none]) hG dX12_open_20 (by decide) (pm_c1b rfl) rfl ?_
      refine pm_iloadn hG dX12_open_21 rfl ?_
      refine pm_if_lt (tgt := 75) hG dX12_open_22 rfl (fun _ => ?_) (fun q => absurd q (by decide))
      refine pm_aloadn hG dX12_open_75 rfl ?_
      refine pm_iconst (v := nI 3) hG dX12_open_76 (by decide) ?_
      refine pm_callV (As := [.int (nI 3)]) (rest := []) hG hR dX12_open_77 (lkX12_80 _ rfl) okV_X12_finds rfl rfl (m_finds (d := 3) (by decide) hn hz (by omega)) rfl rfl hdd (Nat.le_refl _) (Nat.le_refl _) (by decide) (pm_ki (fun v7 σ' cnt' hq => ?_))
      obtain ⟨⟨I8, A8, rfl⟩, rfl, fv7⟩ := hq
      exact pm_iret hG hF dX12_open_80 rfl (Nat.le_refl _) (Nat.le_refl _) ⟨_, rfl, ⟨_, _, _, rfl, hn, hr, ekc0.trans ekc0.symm, ekc2.trans ekc2.symm, ekc7.trans ekc7.symm, ekc8.trans ekc8.symm, KS.rf⟩, rfl⟩
    · refine pm_top (v := nI k6) ek6 ?_
      refine pm_istoreXn (loc' := [some (.ref (B + 54)), some (.int za), some (.int (nI k6)), none]) hG dX12_open_20 (by decide) (pm_c1b rfl) rfl ?_
      refine pm_iloadn hG dX12_open_21 rfl ?_
      refine pm_ifN_lt hG dX12_open_22 rfl (by omega) ?_
      refine pm_aloadn hG dX12_open_25 rfl ?_
      refine pm_iloadn hG dX12_open_26 rfl ?_
      refine pm_top (v := nI k4) ek4 ?_
      refine pm_iconst (v := nI 5) hG dX12_open_27 (by decide) ?_
      refine pm_callV (As := [.int (nI k4), .int (nI 5)]) (rest := []) hG hR dX12_open_28 (lkX12_199 _ rfl) okV_X12_of rfl rfl (m_of (d := 3) (e := 12 * k4 + 1295) (by omega) (by omega) (by omega)) rfl rfl hdd (Nat.le_refl _) (Nat.le_refl _) (by decide) (pm_ki (fun v9 σ' cnt' hq => ?_))
      obtain ⟨rfl, rfl, rfl⟩ := hq
      refine pm_gen (fun x10 ex10 => ?_)
      refine pm_aloadn hG dX12_open_31 rfl ?_
      refine pm_getf hG dX12_open_32 (flX12_7 _ rfl) rfl rfl ?_
      refine pm_bipush (v := nI 8) hG dX12_open_35 (by decide) ?_
      refine pm_ialdN hG dX12_open_37 rfl (by decide) (by omega) ?_
      refine pm_top (v := nI kc8) ekc8 ?_
      refine pm_icmp_gt (tgt := 75) hG dX12_open_38 rfl (fun c11 => ?_) (fun c11 => ?_)
      · refine pm_aloadn hG dX12_open_75 rfl ?_
        refine pm_iconst (v := nI 3) hG dX12_open_76 (by decide) ?_
        refine pm_callV (As := [.int (nI 3)]) (rest := []) hG hR dX12_open_77 (lkX12_80 _ rfl) okV_X12_finds rfl rfl (m_finds (d := 3) (by decide) hn hz (by omega)) rfl rfl hdd (Nat.le_refl _) (Nat.le_refl _) (by decide) (pm_ki (fun v12 σ' cnt' hq => ?_))
        obtain ⟨⟨I13, A13, rfl⟩, rfl, fv12⟩ := hq
        exact pm_iret hG hF dX12_open_80 rfl (Nat.le_refl _) (Nat.le_refl _) ⟨_, rfl, ⟨_, _, _, rfl, hn, hr, ekc0.trans ekc0.symm, ekc2.trans ekc2.symm, ekc7.trans ekc7.symm, ekc8.trans ekc8.symm, KS.rf⟩, rfl⟩
      · refine pm_aloadn hG dX12_open_41 rfl ?_
        refine pm_iloadn hG dX12_open_42 rfl ?_
        refine pm_top (v := nI k4) ek4 ?_
        refine pm_bipush (v := nI 6) hG dX12_open_43 (by decide) ?_
        refine pm_callV (As := [.int (nI k4), .int (nI 6)]) (rest := []) hG hR dX12_open_45 (lkX12_199 _ rfl) okV_X12_of rfl rfl (m_of (d := 3) (e := 12 * k4 + 1296) (by omega) (by omega) (by omega)) rfl rfl hdd (Nat.le_refl _) (Nat.le_refl _) (by decide) (pm_ki (fun v14 σ' cnt' hq => ?_))
        obtain ⟨rfl, rfl, rfl⟩ := hq
        refine pm_gen (fun x15 ex15 => ?_)
        refine pm_if_ge (tgt := 75) hG dX12_open_48 rfl (fun c16 => ?_) (fun c16 => ?_)
        · obtain ⟨k17, hk17, ek17⟩ := nI_of (Int32.not_lt.mpr c16)
          refine pm_aloadn hG dX12_open_75 rfl ?_
          refine pm_iconst (v := nI 3) hG dX12_open_76 (by decide) ?_
          refine pm_callV (As := [.int (nI 3)]) (rest := []) hG hR dX12_open_77 (lkX12_80 _ rfl) okV_X12_finds rfl rfl (m_finds (d := 3) (by decide) hn hz (by omega)) rfl rfl hdd (Nat.le_refl _) (Nat.le_refl _) (by decide) (pm_ki (fun v18 σ' cnt' hq => ?_))
          obtain ⟨⟨I19, A19, rfl⟩, rfl, fv18⟩ := hq
          exact pm_iret hG hF dX12_open_80 rfl (Nat.le_refl _) (Nat.le_refl _) ⟨_, rfl, ⟨_, _, _, rfl, hn, hr, ekc0.trans ekc0.symm, ekc2.trans ekc2.symm, ekc7.trans ekc7.symm, ekc8.trans ekc8.symm, KS.rf⟩, rfl⟩
        · refine pm_aloadn hG dX12_open_51 rfl ?_
          refine pm_iloadn hG dX12_open_52 rfl ?_
          rcases KI.opt hn (show kd (14 * k6 + 119) = (2, 2001, false) from (kd_P (k := k6) (c := 9) (by omega) (by omega) (by decide))) with ek20 | ⟨k20, hk20, ek20⟩
          · refine pm_callV (As := [.int (nI k6)]) (rest := []) hG hR dX12_open_53 (lkX12_101 _ rfl) okV_X12_lives rfl rfl (m_lives1 (d := 3) (by decide) (by omega) (by omega : 14 * k6 + 119 = 14 * k6 + 119) ek20) rfl rfl hdd (Nat.le_refl _) (Nat.le_refl _) (by decide) (pm_ki (fun v21 σ' cnt' hq => ?_))
            obtain ⟨rfl, rfl, rfl⟩ := hq
            refine pm_ifN_eq (tgt := 75) hG dX12_open_56 rfl (by omega) (fun q => absurd q (by omega)) (fun _ => ?_)
            refine pm_aloadn hG dX12_open_59 rfl ?_
            refine pm_iloadn hG dX12_open_60 rfl ?_
            refine pm_iconst (v := nI 4) hG dX12_open_61 (by decide) ?_
            refine pm_callV (As := [.int (nI k6), .int (nI 4)]) (rest := []) hG hR dX12_open_62 (lkX12_72 _ rfl) okV_X12_man rfl rfl (m_man (d := 3) (e := 14 * k6 + 114) (by omega) (by omega) (by omega)) rfl rfl hdd (Nat.le_refl _) (Nat.le_refl _) (by decide) (pm_ki (fun v22 σ' cnt' hq => ?_))
            obtain ⟨rfl, rfl, rfl⟩ := hq
            rcases KI.opt hn (show kd (14 * k6 + 114) = (2, 10, false) from (kd_P (k := k6) (c := 4) (by omega) (by omega) (by decide))) with ek23 | ⟨k23, hk23, ek23⟩
            · refine pm_top (v := (-1)) ek23 ?_
              refine pm_aloadn hG dX12_open_65 rfl ?_
              refine pm_iloadn hG dX12_open_66 rfl ?_
              refine pm_top (v := nI k4) ek4 ?_
              refine pm_bipush (v := nI 10) hG dX12_open_67 (by decide) ?_
              refine pm_callV (As := [.int (nI k4), .int (nI 10)]) (rest := [.int (-1)]) hG hR dX12_open_69 (lkX12_199 _ rfl) okV_X12_of rfl rfl (m_of (d := 3) (e := 12 * k4 + 1300) (by omega) (by omega) (by omega)) rfl rfl hdd (Nat.le_refl _) (Nat.le_refl _) (Nat.le_of_ble_eq_true rfl) (pm_ki (fun v24 σ' cnt' hq => ?_))
              obtain ⟨rfl, rfl, rfl⟩ := hq
              obtain ⟨k25, hk25, ek25⟩ := KI.nat hn (show kd (12 * k4 + 1300) = (1, 10, false) from (kd_E (k := k4) (c := 10) (by omega) (by omega) (by decide)))
              refine pm_top (v := nI k25) ek25 ?_
              refine pm_icmp_eq (tgt := 81) hG dX12_open_72 rfl (fun q => absurd q ((fun q => nI_m1 (by omega) q.symm))) (fun _ => ?_)
              refine pm_aloadn hG dX12_open_75 rfl ?_
              refine pm_iconst (v := nI 3) hG dX12_open_76 (by decide) ?_
              refine pm_callV (As := [.int (nI 3)]) (rest := []) hG hR dX12_open_77 (lkX12_80 _ rfl) okV_X12_finds rfl rfl (m_finds (d := 3) (by decide) hn hz (by omega)) rfl rfl hdd (Nat.le_refl _) (Nat.le_refl _) (by decide) (pm_ki (fun v26 σ' cnt' hq => ?_))
              obtain ⟨⟨I27, A27, rfl⟩, rfl, fv26⟩ := hq
              exact pm_iret hG hF dX12_open_80 rfl (Nat.le_refl _) (Nat.le_refl _) ⟨_, rfl, ⟨_, _, _, rfl, hn, hr, ekc0.trans ekc0.symm, ekc2.trans ekc2.symm, ekc7.trans ekc7.symm, ekc8.trans ekc8.symm, KS.rf⟩, rfl⟩
            · refine pm_top (v := nI k23) ek23 ?_
              refine pm_aloadn hG dX12_open_65 rfl ?_
              refine pm_iloadn hG dX12_open_66 rfl ?_
              refine pm_top (v := nI k4) ek4 ?_
              refine pm_bipush (v := nI 10) hG dX12_open_67 (by decide) ?_
              refine pm_callV (As := [.int (nI k4), .int (nI 10)]) (rest := [.int (nI k23)]) hG hR dX12_open_69 (lkX12_199 _ rfl) okV_X12_of rfl rfl (m_of (d := 3) (e := 12 * k4 + 1300) (by omega) (by omega) (by omega)) rfl rfl hdd (Nat.le_refl _) (Nat.le_refl _) (Nat.le_of_ble_eq_true rfl) (pm_ki (fun v28 σ' cnt' hq => ?_))
              obtain ⟨rfl, rfl, rfl⟩ := hq
              obtain ⟨k29, hk29, ek29⟩ := KI.nat hn (show kd (12 * k4 + 1300) = (1, 10, false) from (kd_E (k := k4) (c := 10) (by omega) (by omega) (by decide)))
              refine pm_top (v := nI k29) ek29 ?_
              refine pm_icmpN_eq (tgt := 81) hG dX12_open_72 rfl (by omega) (by omega) (fun c30 => ?_) (fun c30 => ?_)
              · refine pm_aloadn hG dX12_open_81 rfl ?_
                refine pm_aloadn hG dX12_open_82 rfl ?_
                refine pm_iconst (v := nI 1) hG dX12_open_83 (by decide) ?_
                refine pm_aloadn hG dX12_open_84 rfl ?_
                refine pm_getf hG dX12_open_85 (flX12_7 _ rfl) rfl rfl ?_
                refine pm_bipush (v := nI 8) hG dX12_open_88 (by decide) ?_
                refine pm_ialdN hG dX12_open_90 rfl (by decide) (by omega) ?_
                refine pm_top (v := nI kc8) ekc8 ?_
                refine pm_aloadn hG dX12_open_91 rfl ?_
                refine pm_iloadn hG dX12_open_92 rfl ?_
                refine pm_callV (As := [.int (nI k6)]) (rest := [.int (nI kc8), .int (nI 1), .ref (B + 54), .ref (B + 54)]) hG hR dX12_open_93 (lkX12_104 _ rfl) okV_X12_knownTo rfl rfl (m_knownTo (d := 3) (by decide) hn hz (by omega)) rfl rfl hdd (Nat.le_refl _) (Nat.le_refl _) (Nat.le_of_ble_eq_true rfl) (pm_ki (fun v31 σ' cnt' hq => ?_))
                obtain ⟨⟨I32, A32, rfl⟩, rfl⟩ := hq
                refine pm_callV (As := [.int (nI 1), .int (nI kc8), .int v31]) (rest := [.ref (B + 54)]) hG hR dX12_open_96 (lkX12_195 _ rfl) okV_X12_inForce rfl rfl (m_inForce (d := 3) (by decide) hn hz) rfl rfl hdd (Nat.le_refl _) (Nat.le_refl _) (Nat.le_of_ble_eq_true rfl) (pm_ki (fun v33 σ' cnt' hq => ?_))
                obtain ⟨rfl, rfl, rv33⟩ := hq
                rcases rv33 with rfl | ⟨k35, hk35, rfl⟩
                · refine pm_iloadn hG dX12_open_99 rfl ?_
                  refine pm_iloadn hG dX12_open_100 rfl ?_
                  refine pm_top (v := nI k4) ek4 ?_
                  refine pm_aloadn hG dX12_open_101 rfl ?_
                  refine pm_getf hG dX12_open_102 (flX12_7 _ rfl) rfl rfl ?_
                  refine pm_bipush (v := nI 8) hG dX12_open_105 (by decide) ?_
                  refine pm_ialdN hG dX12_open_107 rfl (by decide) (by omega) ?_
                  refine pm_top (v := nI kc8) ekc8 ?_
                  refine pm_callV (As := [.int (-1), .int (nI k6), .int (nI k4), .int (nI kc8)]) (rest := []) hG hR dX12_open_108 (lkX12_214 _ rfl) okV_X12_comesTo rfl rfl (m_comesTo_m_n20_n40 (d := 3) (by decide) hn hr hz (by omega) (by omega)) rfl rfl hdd (Nat.le_refl _) (Nat.le_refl _) (by decide) (pm_ki (fun v36 σ' cnt' hq => ?_))
                  obtain ⟨⟨I37, A37, rfl⟩, rfl⟩ := hq
                  refine pm_if_eq (tgt := 118) hG dX12_open_111 rfl (fun c38 => ?_) (fun c38 => ?_)
                  · refine pm_iconst (v := nI 0) hG dX12_open_118 (by decide) ?_
                    refine pm_istoreXn (loc' := [some (.ref (B + 54)), some (.int za), some (.int (nI k6)), some (.int (nI 0))]) hG dX12_open_119 (by decide) (pm_c1b rfl) rfl ?_
                    refine pm_aloadn hG dX12_open_120 rfl ?_
                    refine pm_iloadn hG dX12_open_121 rfl ?_
                    refine pm_top (v := nI k4) ek4 ?_
                    refine pm_bipush (v := nI 6) hG dX12_open_122 (by decide) ?_
                    refine pm_aloadn hG dX12_open_124 rfl ?_
                    refine pm_getf hG dX12_open_125 (flX12_7 _ rfl) rfl rfl ?_
                    refine pm_bipush (v := nI 8) hG dX12_open_128 (by decide) ?_
                    refine pm_ialdN hG dX12_open_130 rfl (by decide) (by omega) ?_
                    refine pm_top (v := nI kc8) ekc8 ?_
                    refine pm_callV (As := [.int (nI k4), .int (nI 6), .int (nI kc8)]) (rest := []) hG hR dX12_open_131 (lkX12_217 _ rfl) okV_X12_writes rfl rfl (m_writes (d := 3) (e := 12 * k4 + 1296) (by omega) (by omega) (by omega)) rfl rfl hdd (Nat.le_refl _) (Nat.le_refl _) (by decide) (pm_kv (fun σ' cnt' hq => ?_))
                    obtain ⟨rfl, rfl⟩ := hq
                    obtain ⟨n_39, en_39⟩ : ∃ f : Nat → Int32, f = upd n (12 * k4 + 1296) (nI kc8) := ⟨_, rfl⟩
                    rw [← en_39]
                    have hnn_39 := KI.w en_39 hn (okv_f (show kd (12 * k4 + 1296) = (0, 0, true) from (kd_E (k := k4) (c := 6) (by omega) (by omega) (by decide))))
                    have hrn_39 := NRx.opened (l := k4) en_39 hr (by rw [ek6]; exact nI_m1 (by omega)) (by omega)
                    have ksn_39 := KS.w en_39 KS.rf (by unfold tS; omega)
                    have e40 : n_39 0 = nI kc0 := by rw [en_39, pk_un (by omega)]; exact ekc0
                    have e41 : n_39 2 = nI kc2 := by rw [en_39, pk_un (by omega)]; exact ekc2
                    have e42 : n_39 7 = nI kc7 := by rw [en_39, pk_un (by omega)]; exact ekc7
                    have e43 : n_39 8 = nI kc8 := by rw [en_39, pk_un (by omega)]; exact ekc8
                    have e44 : n_39 5 = nI k1 := by rw [en_39, pk_un (by omega)]; exact ek1
                    have e45 : n_39 (12 * k4 + 1294) = nI k6 := by rw [en_39, pk_un (by omega)]; exact ek6
                    have e46 : n_39 (12 * k4 + 1295) = x10 := by rw [en_39, pk_un (by omega)]; exact ex10
                    have e47 : n_39 (14 * k6 + 119) = (-1) := by rw [en_39, pk_un (by omega)]; exact ek20
                    have e48 : n_39 (14 * k6 + 114) = nI k23 := by rw [en_39, pk_un (by omega)]; exact ek23
                    have e49 : n_39 (12 * k4 + 1300) = nI k29 := by rw [en_39, pk_un (by omega)]; exact ek29
                    have e50 : n_39 (12 * k4 + 1296) = nI kc8 := by rw [en_39, pk_us]
                    refine pm_aloadn hG dX12_open_134 rfl ?_
                    refine pm_iloadn hG dX12_open_135 rfl ?_
                    refine pm_top (v := nI k4) ek4 ?_
                    refine pm_bipush (v := nI 7) hG dX12_open_136 (by decide) ?_
                    refine pm_iloadn hG dX12_open_138 rfl ?_
                    refine pm_callV (As := [.int (nI k4), .int (nI 7), .int (nI 0)]) (rest := []) hG hR dX12_open_139 (lkX12_217 _ rfl) okV_X12_writes rfl rfl (m_writes (d := 3) (e := 12 * k4 + 1297) (by omega) (by omega) (by omega)) rfl rfl hdd (Nat.le_refl _) (Nat.le_refl _) (by decide) (pm_kv (fun σ' cnt' hq => ?_))
                    obtain ⟨rfl, rfl⟩ := hq
                    obtain ⟨n_51, en_51⟩ : ∃ f : Nat → Int32, f = upd n_39 (12 * k4 + 1297) (nI 0) := ⟨_, rfl⟩
                    rw [← en_51]
                    have hnn_51 := KI.w en_51 hnn_39 (okv_f (show kd (12 * k4 + 1297) = (0, 0, false) from (kd_E (k := k4) (c := 7) (by omega) (by omega) (by decide))))
                    have hrn_51 := NRx.w en_51 hrn_39 (by rw [(show kd (12 * k4 + 1297) = (0, 0, false) from (kd_E (k := k4) (c := 7) (by omega) (by omega) (by decide)))])
                    have ksn_51 := KS.w en_51 ksn_39 (by unfold tS; omega)
                    have e52 : n_51 0 = nI kc0 := by rw [en_51, pk_un (by omega)]; exact e40
                    have e53 : n_51 2 = nI kc2 := by rw [en_51, pk_un (by omega)]; exact e41
                    have e54 : n_51 7 = nI kc7 := by rw [en_51, pk_un (by omega)]; exact e42
                    have e55 : n_51 8 = nI kc8 := by rw [en_51, pk_un (by omega)]; exact e43
                    have e56 : n_51 5 = nI k1 := by rw [en_51, pk_un (by omega)]; exact e44
                    have e57 : n_51 (12 * k4 + 1294) = nI k6 := by rw [en_51, pk_un (by omega)]; exact e45
                    have e58 : n_51 (12 * k4 + 1295) = x10 := by rw [en_51, pk_un (by omega)]; exact e46
                    have e59 : n_51 (14 * k6 + 119) = (-1) := by rw [en_51, pk_un (by omega)]; exact e47
                    have e60 : n_51 (14 * k6 + 114) = nI k23 := by rw [en_51, pk_un (by omega)]; exact e48
                    have e61 : n_51 (12 * k4 + 1300) = nI k29 := by rw [en_51, pk_un (by omega)]; exact e49
                    have e62 : n_51 (12 * k4 + 1296) = nI kc8 := by rw [en_51, pk_un (by omega)]; exact e50
                    have e63 : n_51 (12 * k4 + 1297) = nI 0 := by rw [en_51, pk_us]
                    refine pm_iloadn hG dX12_open_142 rfl ?_
                    exact pm_iret hG hF dX12_open_143 rfl (Nat.le_refl _) (Nat.le_refl _) ⟨_, rfl, ⟨_, _, _, rfl, hnn_51, hrn_51, e52.trans ekc0.symm, e53.trans ekc2.symm, e54.trans ekc7.symm, e55.trans ekc8.symm, ksn_51⟩, rfl⟩
                  · refine pm_iconst (v := nI 1) hG dX12_open_114 (by decide) ?_
                    refine pm_goto (tgt := 119) hG dX12_open_115 rfl ?_
                    refine pm_istoreXn (loc' := [some (.ref (B + 54)), some (.int za), some (.int (nI k6)), some (.int (nI 1))]) hG dX12_open_119 (by decide) (pm_c1b rfl) rfl ?_
                    refine pm_aloadn hG dX12_open_120 rfl ?_
                    refine pm_iloadn hG dX12_open_121 rfl ?_
                    refine pm_top (v := nI k4) ek4 ?_
                    refine pm_bipush (v := nI 6) hG dX12_open_122 (by decide) ?_
                    refine pm_aloadn hG dX12_open_124 rfl ?_
                    refine pm_getf hG dX12_open_125 (flX12_7 _ rfl) rfl rfl ?_
                    refine pm_bipush (v := nI 8) hG dX12_open_128 (by decide) ?_
                    refine pm_ialdN hG dX12_open_130 rfl (by decide) (by omega) ?_
                    refine pm_top (v := nI kc8) ekc8 ?_
                    refine pm_callV (As := [.int (nI k4), .int (nI 6), .int (nI kc8)]) (rest := []) hG hR dX12_open_131 (lkX12_217 _ rfl) okV_X12_writes rfl rfl (m_writes (d := 3) (e := 12 * k4 + 1296) (by omega) (by omega) (by omega)) rfl rfl hdd (Nat.le_refl _) (Nat.le_refl _) (by decide) (pm_kv (fun σ' cnt' hq => ?_))
                    obtain ⟨rfl, rfl⟩ := hq
                    obtain ⟨n_64, en_64⟩ : ∃ f : Nat → Int32, f = upd n (12 * k4 + 1296) (nI kc8) := ⟨_, rfl⟩
                    rw [← en_64]
                    have hnn_64 := KI.w en_64 hn (okv_f (show kd (12 * k4 + 1296) = (0, 0, true) from (kd_E (k := k4) (c := 6) (by omega) (by omega) (by decide))))
                    have hrn_64 := NRx.opened (l := k4) en_64 hr (by rw [ek6]; exact nI_m1 (by omega)) (by omega)
                    have ksn_64 := KS.w en_64 KS.rf (by unfold tS; omega)
                    have e65 : n_64 0 = nI kc0 := by rw [en_64, pk_un (by omega)]; exact ekc0
                    have e66 : n_64 2 = nI kc2 := by rw [en_64, pk_un (by omega)]; exact ekc2
                    have e67 : n_64 7 = nI kc7 := by rw [en_64, pk_un (by omega)]; exact ekc7
                    have e68 : n_64 8 = nI kc8 := by rw [en_64, pk_un (by omega)]; exact ekc8
                    have e69 : n_64 5 = nI k1 := by rw [en_64, pk_un (by omega)]; exact ek1
                    have e70 : n_64 (12 * k4 + 1294) = nI k6 := by rw [en_64, pk_un (by omega)]; exact ek6
                    have e71 : n_64 (12 * k4 + 1295) = x10 := by rw [en_64, pk_un (by omega)]; exact ex10
                    have e72 : n_64 (14 * k6 + 119) = (-1) := by rw [en_64, pk_un (by omega)]; exact ek20
                    have e73 : n_64 (14 * k6 + 114) = nI k23 := by rw [en_64, pk_un (by omega)]; exact ek23
                    have e74 : n_64 (12 * k4 + 1300) = nI k29 := by rw [en_64, pk_un (by omega)]; exact ek29
                    have e75 : n_64 (12 * k4 + 1296) = nI kc8 := by rw [en_64, pk_us]
                    refine pm_aloadn hG dX12_open_134 rfl ?_
                    refine pm_iloadn hG dX12_open_135 rfl ?_
                    refine pm_top (v := nI k4) ek4 ?_
                    refine pm_bipush (v := nI 7) hG dX12_open_136 (by decide) ?_
                    refine pm_iloadn hG dX12_open_138 rfl ?_
                    refine pm_callV (As := [.int (nI k4), .int (nI 7), .int (nI 1)]) (rest := []) hG hR dX12_open_139 (lkX12_217 _ rfl) okV_X12_writes rfl rfl (m_writes (d := 3) (e := 12 * k4 + 1297) (by omega) (by omega) (by omega)) rfl rfl hdd (Nat.le_refl _) (Nat.le_refl _) (by decide) (pm_kv (fun σ' cnt' hq => ?_))
                    obtain ⟨rfl, rfl⟩ := hq
                    obtain ⟨n_76, en_76⟩ : ∃ f : Nat → Int32, f = upd n_64 (12 * k4 + 1297) (nI 1) := ⟨_, rfl⟩
                    rw [← en_76]
                    have hnn_76 := KI.w en_76 hnn_64 (okv_f (show kd (12 * k4 + 1297) = (0, 0, false) from (kd_E (k := k4) (c := 7) (by omega) (by omega) (by decide))))
                    have hrn_76 := NRx.w en_76 hrn_64 (by rw [(show kd (12 * k4 + 1297) = (0, 0, false) from (kd_E (k := k4) (c := 7) (by omega) (by omega) (by decide)))])
                    have ksn_76 := KS.w en_76 ksn_64 (by unfold tS; omega)
                    have e77 : n_76 0 = nI kc0 := by rw [en_76, pk_un (by omega)]; exact e65
                    have e78 : n_76 2 = nI kc2 := by rw [en_76, pk_un (by omega)]; exact e66
                    have e79 : n_76 7 = nI kc7 := by rw [en_76, pk_un (by omega)]; exact e67
                    have e80 : n_76 8 = nI kc8 := by rw [en_76, pk_un (by omega)]; exact e68
                    have e81 : n_76 5 = nI k1 := by rw [en_76, pk_un (by omega)]; exact e69
                    have e82 : n_76 (12 * k4 + 1294) = nI k6 := by rw [en_76, pk_un (by omega)]; exact e70
                    have e83 : n_76 (12 * k4 + 1295) = x10 := by rw [en_76, pk_un (by omega)]; exact e71
                    have e84 : n_76 (14 * k6 + 119) = (-1) := by rw [en_76, pk_un (by omega)]; exact e72
                    have e85 : n_76 (14 * k6 + 114) = nI k23 := by rw [en_76, pk_un (by omega)]; exact e73
                    have e86 : n_76 (12 * k4 + 1300) = nI k29 := by rw [en_76, pk_un (by omega)]; exact e74
                    have e87 : n_76 (12 * k4 + 1296) = nI kc8 := by rw [en_76, pk_un (by omega)]; exact e75
                    have e88 : n_76 (12 * k4 + 1297) = nI 1 := by rw [en_76, pk_us]
                    refine pm_iloadn hG dX12_open_142 rfl ?_
                    exact pm_iret hG hF dX12_open_143 rfl (Nat.le_refl _) (Nat.le_refl _) ⟨_, rfl, ⟨_, _, _, rfl, hnn_76, hrn_76, e77.trans ekc0.symm, e78.trans ekc2.symm, e79.trans ekc7.symm, e80.trans ekc8.symm, ksn_76⟩, rfl⟩
                · refine pm_iloadn hG dX12_open_99 rfl ?_
                  refine pm_iloadn hG dX12_open_100 rfl ?_
                  refine pm_top (v := nI k4) ek4 ?_
                  refine pm_aloadn hG dX12_open_101 rfl ?_
                  refine pm_getf hG dX12_open_102 (flX12_7 _ rfl) rfl rfl ?_
                  refine pm_bipush (v := nI 8) hG dX12_open_105 (by decide) ?_
                  refine pm_ialdN hG dX12_open_107 rfl (by decide) (by omega) ?_
                  refine pm_top (v := nI kc8) ekc8 ?_
                  refine pm_callV (As := [.int (nI k35), .int (nI k6), .int (nI k4), .int (nI kc8)]) (rest := []) hG hR dX12_open_108 (lkX12_214 _ rfl) okV_X12_comesTo rfl rfl (m_comesTo_n12_n20_n40 (d := 3) (by decide) hn hr hz (by omega) (by omega) (by omega)) rfl rfl hdd (Nat.le_refl _) (Nat.le_refl _) (by decide) (pm_ki (fun v89 σ' cnt' hq => ?_))
                  obtain ⟨⟨I90, A90, rfl⟩, rfl⟩ := hq
                  refine pm_if_eq (tgt := 118) hG dX12_open_111 rfl (fun c91 => ?_) (fun c91 => ?_)
                  · refine pm_iconst (v := nI 0) hG dX12_open_118 (by decide) ?_
                    refine pm_istoreXn (loc' := [some (.ref (B + 54)), some (.int za), some (.int (nI k6)), some (.int (nI 0))]) hG dX12_open_119 (by decide) (pm_c1b rfl) rfl ?_
                    refine pm_aloadn hG dX12_open_120 rfl ?_
                    refine pm_iloadn hG dX12_open_121 rfl ?_
                    refine pm_top (v := nI k4) ek4 ?_
                    refine pm_bipush (v := nI 6) hG dX12_open_122 (by decide) ?_
                    refine pm_aloadn hG dX12_open_124 rfl ?_
                    refine pm_getf hG dX12_open_125 (flX12_7 _ rfl) rfl rfl ?_
                    refine pm_bipush (v := nI 8) hG dX12_open_128 (by decide) ?_
                    refine pm_ialdN hG dX12_open_130 rfl (by decide) (by omega) ?_
                    refine pm_top (v := nI kc8) ekc8 ?_
                    refine pm_callV (As := [.int (nI k4), .int (nI 6), .int (nI kc8)]) (rest := []) hG hR dX12_open_131 (lkX12_217 _ rfl) okV_X12_writes rfl rfl (m_writes (d := 3) (e := 12 * k4 + 1296) (by omega) (by omega) (by omega)) rfl rfl hdd (Nat.le_refl _) (Nat.le_refl _) (by decide) (pm_kv (fun σ' cnt' hq => ?_))
                    obtain ⟨rfl, rfl⟩ := hq
                    obtain ⟨n_92, en_92⟩ : ∃ f : Nat → Int32, f = upd n (12 * k4 + 1296) (nI kc8) := ⟨_, rfl⟩
                    rw [← en_92]
                    have hnn_92 := KI.w en_92 hn (okv_f (show kd (12 * k4 + 1296) = (0, 0, true) from (kd_E (k := k4) (c := 6) (by omega) (by omega) (by decide))))
                    have hrn_92 := NRx.opened (l := k4) en_92 hr (by rw [ek6]; exact nI_m1 (by omega)) (by omega)
                    have ksn_92 := KS.w en_92 KS.rf (by unfold tS; omega)
                    have e93 : n_92 0 = nI kc0 := by rw [en_92, pk_un (by omega)]; exact ekc0
                    have e94 : n_92 2 = nI kc2 := by rw [en_92, pk_un (by omega)]; exact ekc2
                    have e95 : n_92 7 = nI kc7 := by rw [en_92, pk_un (by omega)]; exact ekc7
                    have e96 : n_92 8 = nI kc8 := by rw [en_92, pk_un (by omega)]; exact ekc8
                    have e97 : n_92 5 = nI k1 := by rw [en_92, pk_un (by omega)]; exact ek1
                    have e98 : n_92 (12 * k4 + 1294) = nI k6 := by rw [en_92, pk_un (by omega)]; exact ek6
                    have e99 : n_92 (12 * k4 + 1295) = x10 := by rw [en_92, pk_un (by omega)]; exact ex10
                    have e100 : n_92 (14 * k6 + 119) = (-1) := by rw [en_92, pk_un (by omega)]; exact ek20
                    have e101 : n_92 (14 * k6 + 114) = nI k23 := by rw [en_92, pk_un (by omega)]; exact ek23
                    have e102 : n_92 (12 * k4 + 1300) = nI k29 := by rw [en_92, pk_un (by omega)]; exact ek29
                    have e103 : n_92 (12 * k4 + 1296) = nI kc8 := by rw [en_92, pk_us]
                    refine pm_aloadn hG dX12_open_134 rfl ?_
                    refine pm_iloadn hG dX12_open_135 rfl ?_
                    refine pm_top (v := nI k4) ek4 ?_
                    refine pm_bipush (v := nI 7) hG dX12_open_136 (by decide) ?_
                    refine pm_iloadn hG dX12_open_138 rfl ?_
                    refine pm_callV (As := [.int (nI k4), .int (nI 7), .int (nI 0)]) (rest := []) hG hR dX12_open_139 (lkX12_217 _ rfl) okV_X12_writes rfl rfl (m_writes (d := 3) (e := 12 * k4 + 1297) (by omega) (by omega) (by omega)) rfl rfl hdd (Nat.le_refl _) (Nat.le_refl _) (by decide) (pm_kv (fun σ' cnt' hq => ?_))
                    obtain ⟨rfl, rfl⟩ := hq
                    obtain ⟨n_104, en_104⟩ : ∃ f : Nat → Int32, f = upd n_92 (12 * k4 + 1297) (nI 0) := ⟨_, rfl⟩
                    rw [← en_104]
                    have hnn_104 := KI.w en_104 hnn_92 (okv_f (show kd (12 * k4 + 1297) = (0, 0, false) from (kd_E (k := k4) (c := 7) (by omega) (by omega) (by decide))))
                    have hrn_104 := NRx.w en_104 hrn_92 (by rw [(show kd (12 * k4 + 1297) = (0, 0, false) from (kd_E (k := k4) (c := 7) (by omega) (by omega) (by decide)))])
                    have ksn_104 := KS.w en_104 ksn_92 (by unfold tS; omega)
                    have e105 : n_104 0 = nI kc0 := by rw [en_104, pk_un (by omega)]; exact e93
                    have e106 : n_104 2 = nI kc2 := by rw [en_104, pk_un (by omega)]; exact e94
                    have e107 : n_104 7 = nI kc7 := by rw [en_104, pk_un (by omega)]; exact e95
                    have e108 : n_104 8 = nI kc8 := by rw [en_104, pk_un (by omega)]; exact e96
                    have e109 : n_104 5 = nI k1 := by rw [en_104, pk_un (by omega)]; exact e97
                    have e110 : n_104 (12 * k4 + 1294) = nI k6 := by rw [en_104, pk_un (by omega)]; exact e98
                    have e111 : n_104 (12 * k4 + 1295) = x10 := by rw [en_104, pk_un (by omega)]; exact e99
                    have e112 : n_104 (14 * k6 + 119) = (-1) := by rw [en_104, pk_un (by omega)]; exact e100
                    have e113 : n_104 (14 * k6 + 114) = nI k23 := by rw [en_104, pk_un (by omega)]; exact e101
                    have e114 : n_104 (12 * k4 + 1300) = nI k29 := by rw [en_104, pk_un (by omega)]; exact e102
                    have e115 : n_104 (12 * k4 + 1296) = nI kc8 := by rw [en_104, pk_un (by omega)]; exact e103
                    have e116 : n_104 (12 * k4 + 1297) = nI 0 := by rw [en_104, pk_us]
                    refine pm_iloadn hG dX12_open_142 rfl ?_
                    exact pm_iret hG hF dX12_open_143 rfl (Nat.le_refl _) (Nat.le_refl _) ⟨_, rfl, ⟨_, _, _, rfl, hnn_104, hrn_104, e105.trans ekc0.symm, e106.trans ekc2.symm, e107.trans ekc7.symm, e108.trans ekc8.symm, ksn_104⟩, rfl⟩
                  · refine pm_iconst (v := nI 1) hG dX12_open_114 (by decide) ?_
                    refine pm_goto (tgt := 119) hG dX12_open_115 rfl ?_
                    refine pm_istoreXn (loc' := [some (.ref (B + 54)), some (.int za), some (.int (nI k6)), some (.int (nI 1))]) hG dX12_open_119 (by decide) (pm_c1b rfl) rfl ?_
                    refine pm_aloadn hG dX12_open_120 rfl ?_
                    refine pm_iloadn hG dX12_open_121 rfl ?_
                    refine pm_top (v := nI k4) ek4 ?_
                    refine pm_bipush (v := nI 6) hG dX12_open_122 (by decide) ?_
                    refine pm_aloadn hG dX12_open_124 rfl ?_
                    refine pm_getf hG dX12_open_125 (flX12_7 _ rfl) rfl rfl ?_
                    refine pm_bipush (v := nI 8) hG dX12_open_128 (by decide) ?_
                    refine pm_ialdN hG dX12_open_130 rfl (by decide) (by omega) ?_
                    refine pm_top (v := nI kc8) ekc8 ?_
                    refine pm_callV (As := [.int (nI k4), .int (nI 6), .int (nI kc8)]) (rest := []) hG hR dX12_open_131 (lkX12_217 _ rfl) okV_X12_writes rfl rfl (m_writes (d := 3) (e := 12 * k4 + 1296) (by omega) (by omega) (by omega)) rfl rfl hdd (Nat.le_refl _) (Nat.le_refl _) (by decide) (pm_kv (fun σ' cnt' hq => ?_))
                    obtain ⟨rfl, rfl⟩ := hq
                    obtain ⟨n_117, en_117⟩ : ∃ f : Nat → Int32, f = upd n (12 * k4 + 1296) (nI kc8) := ⟨_, rfl⟩
                    rw [← en_117]
                    have hnn_117 := KI.w en_117 hn (okv_f (show kd (12 * k4 + 1296) = (0, 0, true) from (kd_E (k := k4) (c := 6) (by omega) (by omega) (by decide))))
                    have hrn_117 := NRx.opened (l := k4) en_117 hr (by rw [ek6]; exact nI_m1 (by omega)) (by omega)
                    have ksn_117 := KS.w en_117 KS.rf (by unfold tS; omega)
                    have e118 : n_117 0 = nI kc0 := by rw [en_117, pk_un (by omega)]; exact ekc0
                    have e119 : n_117 2 = nI kc2 := by rw [en_117, pk_un (by omega)]; exact ekc2
                    have e120 : n_117 7 = nI kc7 := by rw [en_117, pk_un (by omega)]; exact ekc7
                    have e121 : n_117 8 = nI kc8 := by rw [en_117, pk_un (by omega)]; exact ekc8
                    have e122 : n_117 5 = nI k1 := by rw [en_117, pk_un (by omega)]; exact ek1
                    have e123 : n_117 (12 * k4 + 1294) = nI k6 := by rw [en_117, pk_un (by omega)]; exact ek6
                    have e124 : n_117 (12 * k4 + 1295) = x10 := by rw [en_117, pk_un (by omega)]; exact ex10
                    have e125 : n_117 (14 * k6 + 119) = (-1) := by rw [en_117, pk_un (by omega)]; exact ek20
                    have e126 : n_117 (14 * k6 + 114) = nI k23 := by rw [en_117, pk_un (by omega)]; exact ek23
                    have e127 : n_117 (12 * k4 + 1300) = nI k29 := by rw [en_117, pk_un (by omega)]; exact ek29
                    have e128 : n_117 (12 * k4 + 1296) = nI kc8 := by rw [en_117, pk_us]
                    refine pm_aloadn hG dX12_open_134 rfl ?_
                    refine pm_iloadn hG dX12_open_135 rfl ?_
                    refine pm_top (v := nI k4) ek4 ?_
                    refine pm_bipush (v := nI 7) hG dX12_open_136 (by decide) ?_
                    refine pm_iloadn hG dX12_open_138 rfl ?_
                    refine pm_callV (As := [.int (nI k4), .int (nI 7), .int (nI 1)]) (rest := []) hG hR dX12_open_139 (lkX12_217 _ rfl) okV_X12_writes rfl rfl (m_writes (d := 3) (e := 12 * k4 + 1297) (by omega) (by omega) (by omega)) rfl rfl hdd (Nat.le_refl _) (Nat.le_refl _) (by decide) (pm_kv (fun σ' cnt' hq => ?_))
                    obtain ⟨rfl, rfl⟩ := hq
                    obtain ⟨n_129, en_129⟩ : ∃ f : Nat → Int32, f = upd n_117 (12 * k4 + 1297) (nI 1) := ⟨_, rfl⟩
                    rw [← en_129]
                    have hnn_129 := KI.w en_129 hnn_117 (okv_f (show kd (12 * k4 + 1297) = (0, 0, false) from (kd_E (k := k4) (c := 7) (by omega) (by omega) (by decide))))
                    have hrn_129 := NRx.w en_129 hrn_117 (by rw [(show kd (12 * k4 + 1297) = (0, 0, false) from (kd_E (k := k4) (c := 7) (by omega) (by omega) (by decide)))])
                    have ksn_129 := KS.w en_129 ksn_117 (by unfold tS; omega)
                    have e130 : n_129 0 = nI kc0 := by rw [en_129, pk_un (by omega)]; exact e118
                    have e131 : n_129 2 = nI kc2 := by rw [en_129, pk_un (by omega)]; exact e119
                    have e132 : n_129 7 = nI kc7 := by rw [en_129, pk_un (by omega)]; exact e120
                    have e133 : n_129 8 = nI kc8 := by rw [en_129, pk_un (by omega)]; exact e121
                    have e134 : n_129 5 = nI k1 := by rw [en_129, pk_un (by omega)]; exact e122
                    have e135 : n_129 (12 * k4 + 1294) = nI k6 := by rw [en_129, pk_un (by omega)]; exact e123
                    have e136 : n_129 (12 * k4 + 1295) = x10 := by rw [en_129, pk_un (by omega)]; exact e124
                    have e137 : n_129 (14 * k6 + 119) = (-1) := by rw [en_129, pk_un (by omega)]; exact e125
                    have e138 : n_129 (14 * k6 + 114) = nI k23 := by rw [en_129, pk_un (by omega)]; exact e126
                    have e139 : n_129 (12 * k4 + 1300) = nI k29 := by rw [en_129, pk_un (by omega)]; exact e127
                    have e140 : n_129 (12 * k4 + 1296) = nI kc8 := by rw [en_129, pk_un (by omega)]; exact e128
                    have e141 : n_129 (12 * k4 + 1297) = nI 1 := by rw [en_129, pk_us]
                    refine pm_iloadn hG dX12_open_142 rfl ?_
                    exact pm_iret hG hF dX12_open_143 rfl (Nat.le_refl _) (Nat.le_refl _) ⟨_, rfl, ⟨_, _, _, rfl, hnn_129, hrn_129, e130.trans ekc0.symm, e131.trans ekc2.symm, e132.trans ekc7.symm, e133.trans ekc8.symm, ksn_129⟩, rfl⟩
              · refine pm_aloadn hG dX12_open_75 rfl ?_
                refine pm_iconst (v := nI 3) hG dX12_open_76 (by decide) ?_
                refine pm_callV (As := [.int (nI 3)]) (rest := []) hG hR dX12_open_77 (lkX12_80 _ rfl) okV_X12_finds rfl rfl (m_finds (d := 3) (by decide) hn hz (by omega)) rfl rfl hdd (Nat.le_refl _) (Nat.le_refl _) (by decide) (pm_ki (fun v142 σ' cnt' hq => ?_))
                obtain ⟨⟨I143, A143, rfl⟩, rfl, fv142⟩ := hq
                exact pm_iret hG hF dX12_open_80 rfl (Nat.le_refl _) (Nat.le_refl _) ⟨_, rfl, ⟨_, _, _, rfl, hn, hr, ekc0.trans ekc0.symm, ekc2.trans ekc2.symm, ekc7.trans ekc7.symm, ekc8.trans ekc8.symm, KS.rf⟩, rfl⟩
          · refine pm_callV (As := [.int (nI k6)]) (rest := []) hG hR dX12_open_53 (lkX12_101 _ rfl) okV_X12_lives rfl rfl (m_lives0 (d := 3) (by decide) (by omega) (by omega : 14 * k6 + 119 = 14 * k6 + 119) ek20 (by omega)) rfl rfl hdd (Nat.le_refl _) (Nat.le_refl _) (by decide) (pm_ki (fun v144 σ' cnt' hq => ?_))
            obtain ⟨rfl, rfl, rfl⟩ := hq
            refine pm_ifN_eq (tgt := 75) hG dX12_open_56 rfl (by omega) (fun _ => ?_) (fun q => absurd q (by omega))
            refine pm_aloadn hG dX12_open_75 rfl ?_
            refine pm_iconst (v := nI 3) hG dX12_open_76 (by decide) ?_
            refine pm_callV (As := [.int (nI 3)]) (rest := []) hG hR dX12_open_77 (lkX12_80 _ rfl) okV_X12_finds rfl rfl (m_finds (d := 3) (by decide) hn hz (by omega)) rfl rfl hdd (Nat.le_refl _) (Nat.le_refl _) (by decide) (pm_ki (fun v145 σ' cnt' hq => ?_))
            obtain ⟨⟨I146, A146, rfl⟩, rfl, fv145⟩ := hq
            exact pm_iret hG hF dX12_open_80 rfl (Nat.le_refl _) (Nat.le_refl _) ⟨_, rfl, ⟨_, _, _, rfl, hn, hr, ekc0.trans ekc0.symm, ekc2.trans ekc2.symm, ekc7.trans ekc7.symm, ekc8.trans ekc8.symm, KS.rf⟩, rfl⟩
  · refine pm_ifN_ne (tgt := 14) hG dX12_open_5 rfl (by omega) (fun q => absurd q (by omega)) (fun _ => ?_)
    refine pm_aloadn hG dX12_open_8 rfl ?_
    refine pm_iconst (v := nI 1) hG dX12_open_9 (by decide) ?_
    refine pm_callV (As := [.int (nI 1)]) (rest := []) hG hR dX12_open_10 (lkX12_80 _ rfl) okV_X12_finds rfl rfl (m_finds (d := 3) (by decide) hn hz (by omega)) rfl rfl hdd (Nat.le_refl _) (Nat.le_refl _) (by decide) (pm_ki (fun v147 σ' cnt' hq => ?_))
    obtain ⟨⟨I148, A148, rfl⟩, rfl, fv147⟩ := hq
    exact pm_iret hG hF dX12_open_13 rfl (Nat.le_refl _) (Nat.le_refl _) ⟨_, rfl, ⟨_, _, _, rfl, hn, hr, ekc0.trans ekc0.symm, ekc2.trans ekc2.symm, ekc7.trans ekc7.symm, ekc8.trans ekc8.symm, KS.rf⟩, rfl⟩

set_option maxRecDepth 100000 in
set_option maxHeartbeats 4000000 in
theorem m_owed {d B cnt p0 t0 : Nat} {σ : pm_S} {I : Nat → Int32} {A : Nat → Nat → Int32} {n k z : Nat → Int32} {ac wt pl im : Int32} {za zb : Int32} (hdd : 2 ≤ d) (hn : KI n) (hz : SZ z)  : pm_met mX12_owed d 0 0 B [.ref (B + 54), .int za, .int zb] cnt (pm_mid σ (md_L B I A n k z ac wt pl (nI p0) (nI t0) im)) (pm_Qi (fun v σ' cnt' => (∃ (I' : Nat → Int32) (A' : Nat → Nat → Int32), σ' = pm_mid σ (md_L B I' A' n k z ac wt pl (nI p0) (nI t0) im)) ∧ cnt = cnt')) := by
  refine pm_enter 3 (by decide) (Nat.le_of_ble_eq_true rfl) rfl (fun G hG hR hF => ?_)
  refine pm_iloadn hG dX12_owed_0 rfl ?_
  refine pm_iconst (v := nI 0) hG dX12_owed_1 (by decide) ?_
  refine pm_aloadn hG dX12_owed_2 rfl ?_
  refine pm_getf hG dX12_owed_3 (flX12_7 _ rfl) rfl rfl ?_
  refine pm_bipush (v := nI 6) hG dX12_owed_6 (by decide) ?_
  refine pm_ialdN hG dX12_owed_8 rfl (by decide) (by omega) ?_
  obtain ⟨k1, hk1, ek1⟩ := KI.nat hn (show kd 6 = (1, 7, false) by decide)
  refine pm_top (v := nI k1) ek1 ?_
  refine pm_iconst (v := nI 1) hG dX12_owed_9 (by decide) ?_
  refine pm_isub hG dX12_owed_10 ?_
  refine pm_callS (As := [.int za, .int (nI 0), .int ((nI k1) - (nI 1))]) (rest := []) hG hR dX12_owed_11 (lkX12_68 _ rfl) okS_X12_in (m_in (d := 1)) rfl rfl hdd (Nat.le_refl _) (Nat.le_refl _) (by decide) (pm_ki (fun v2 σ' cnt' hq => ?_))
  obtain ⟨hq, rfl, rfl⟩ := hq
  rcases hq with ⟨rfl, ac3, bc3⟩ | ⟨rfl, c3⟩
  · obtain ⟨k4, hk4, ek4⟩ := in_cnt (c := k1) (by omega) ac3 bc3
    refine pm_ifN_ne (tgt := 23) hG dX12_owed_14 rfl (by omega) (fun _ => ?_) (fun q => absurd q (by omega))
    refine pm_aloadn hG dX12_owed_23 rfl ?_
    refine pm_getf hG dX12_owed_24 (flX12_7 _ rfl) rfl rfl ?_
    refine pm_sipush (v := nI 1770) hG dX12_owed_27 (by decide) ?_
    refine pm_bipush (v := nI 6) hG dX12_owed_30 (by decide) ?_
    refine pm_iloadn hG dX12_owed_32 rfl ?_
    refine pm_top (v := nI k4) ek4 ?_
    refine pm_imulN (c := 6 * k4) hG dX12_owed_33 (by omega) ?_
    refine pm_iaddN (c := 6 * k4 + 1770) hG dX12_owed_34 (by omega) ?_
    refine pm_iconst (v := nI 4) hG dX12_owed_35 (by decide) ?_
    refine pm_iaddN (c := 6 * k4 + 1774) hG dX12_owed_36 (by omega) ?_
    refine pm_ialdN hG dX12_owed_37 rfl (by decide) (by omega) ?_
    obtain ⟨k5, hk5, ek5⟩ := KI.nat hn (show kd (6 * k4 + 1774) = (1, 10, false) from (kd_D (k := k4) (c := 4) (by omega) (by omega) (by decide)))
    refine pm_top (v := nI k5) ek5 ?_
    refine pm_istoreXn (loc' := [some (.ref (B + 54)), some (.int za), some (.int zb), some (.int (nI k5)), none, none]) hG dX12_owed_38 (by decide) (pm_c1b rfl) rfl ?_
    refine pm_iloadn hG dX12_owed_39 rfl ?_
    by_cases c6 : zb = nI 0
    · refine pm_top (v := nI 0) c6 ?_
      refine pm_tswIn (tgt := 72) hG dX12_owed_40 (by decide) (by decide) rfl rfl ?_
      refine pm_aloadn hG dX12_owed_72 rfl ?_
      refine pm_getf hG dX12_owed_73 (flX12_7 _ rfl) rfl rfl ?_
      refine pm_sipush (v := nI 1770) hG dX12_owed_76 (by decide) ?_
      refine pm_bipush (v := nI 6) hG dX12_owed_79 (by decide) ?_
      refine pm_iloadn hG dX12_owed_81 rfl ?_
      refine pm_top (v := nI k4) ek4 ?_
      refine pm_imulN (c := 6 * k4) hG dX12_owed_82 (by omega) ?_
      refine pm_iaddN (c := 6 * k4 + 1770) hG dX12_owed_83 (by omega) ?_
      refine pm_ialdN hG dX12_owed_84 rfl (by decide) (by omega) ?_
      refine pm_gen (fun x7 ex7 => ?_)
      exact pm_iret hG hF dX12_owed_85 rfl (Nat.le_refl _) (Nat.le_refl _) ⟨_, rfl, ⟨_, _, rfl⟩, rfl⟩
    by_cases c8 : zb = nI 1
    · refine pm_top (v := nI 1) c8 ?_
      refine pm_tswIn (tgt := 86) hG dX12_owed_40 (by decide) (by decide) rfl rfl ?_
      refine pm_aloadn hG dX12_owed_86 rfl ?_
      refine pm_getf hG dX12_owed_87 (flX12_7 _ rfl) rfl rfl ?_
      refine pm_sipush (v := nI 1770) hG dX12_owed_90 (by decide) ?_
      refine pm_bipush (v := nI 6) hG dX12_owed_93 (by decide) ?_
      refine pm_iloadn hG dX12_owed_95 rfl ?_
      refine pm_top (v := nI k4) ek4 ?_
      refine pm_imulN (c := 6 * k4) hG dX12_owed_96 (by omega) ?_
      refine pm_iaddN (c := 6 * k4 + 1770) hG dX12_owed_97 (by omega) ?_
      refine pm_iconst (v := nI 3) hG dX12_owed_98 (by decide) ?_
      refine pm_iaddN (c := 6 * k4 + 1773) hG dX12_owed_99 (by omega) ?_
      refine pm_ialdN hG dX12_owed_100 rfl (by decide) (by omega) ?_
      refine pm_gen (fun x9 ex9 => ?_)
      exact pm_iret hG hF dX12_owed_101 rfl (Nat.le_refl _) (Nat.le_refl _) ⟨_, rfl, ⟨_, _, rfl⟩, rfl⟩
    by_cases c10 : zb = nI 2
    · refine pm_top (v := nI 2) c10 ?_
      refine pm_tswIn (tgt := 102) hG dX12_owed_40 (by decide) (by decide) rfl rfl ?_
      refine pm_aloadn hG dX12_owed_102 rfl ?_
      refine pm_getf hG dX12_owed_103 (flX12_7 _ rfl) rfl rfl ?_
      refine pm_bipush (v := nI 20) hG dX12_owed_106 (by decide) ?_
      refine pm_iconst (v := nI 3) hG dX12_owed_108 (by decide) ?_
      refine pm_iloadn hG dX12_owed_109 rfl ?_
      refine pm_imulN (c := 3 * k5) hG dX12_owed_110 (by omega) ?_
      refine pm_iaddN (c := 3 * k5 + 20) hG dX12_owed_111 (by omega) ?_
      refine pm_iconst (v := nI 2) hG dX12_owed_112 (by decide) ?_
      refine pm_iaddN (c := 3 * k5 + 22) hG dX12_owed_113 (by omega) ?_
      refine pm_ialdN hG dX12_owed_114 rfl (by decide) (by omega) ?_
      refine pm_gen (fun x11 ex11 => ?_)
      exact pm_iret hG hF dX12_owed_115 rfl (Nat.le_refl _) (Nat.le_refl _) ⟨_, rfl, ⟨_, _, rfl⟩, rfl⟩
    by_cases c12 : zb = nI 3
    · refine pm_top (v := nI 3) c12 ?_
      refine pm_tswIn (tgt := 116) hG dX12_owed_40 (by decide) (by decide) rfl rfl ?_
      refine pm_iconst (v := nI 0) hG dX12_owed_116 (by decide) ?_
      refine pm_istoreXi (loc' := [some (.ref (B + 54)), some (.int za), some (.int zb), some (.int (nI k5)), some (.int (nI 0)), none]) hG dX12_owed_117 (by decide) (pm_c1b rfl) rfl ?_
      refine pm_iconst (v := nI 0) hG dX12_owed_119 (by decide) ?_
      refine pm_istoreXi (loc' := [some (.ref (B + 54)), some (.int za), some (.int zb), some (.int (nI k5)), some (.int (nI 0)), some (.int (nI 0))]) hG dX12_owed_120 (by decide) (pm_c1b rfl) rfl ?_
      have loop122_13 : ∀ (m13 : Nat) (I13 : Nat → Int32) (A13 : Nat → Nat → Int32) (x13_4 : Int32) (i13 : Nat), i13 ≤ 6 → 6 - i13 < m13 → pm_wp mX12_owed G B 122 [some (.ref (B + 54)), some (.int za), some (.int zb), some (.int (nI k5)), some (.int x13_4), some (.int (nI i13))] [] 0 0 cnt (pm_mid σ (md_L B I13 A13 n k z ac wt pl (nI p0) (nI t0) im)) := by
        intro m13
        induction m13 with
        | zero => intro I13 A13 x13_4 i13 _ hm; exact absurd hm (Nat.not_lt_zero _)
        | succ m13 ih13 =>
          intro I13 A13 x13_4 i13 hi13 hm13
          refine pm_iloadi hG dX12_owed_122 rfl ?_
          refine pm_aloadn hG dX12_owed_124 rfl ?_
          refine pm_getf hG dX12_owed_125 (flX12_7 _ rfl) rfl rfl ?_
          refine pm_bipush (v := nI 6) hG dX12_owed_128 (by decide) ?_
          refine pm_ialdN hG dX12_owed_130 rfl (by decide) (by omega) ?_
          refine pm_top (v := nI k1) ek1 ?_
          refine pm_icmpN_ge (tgt := 170) hG dX12_owed_131 rfl (by omega) (by omega) (fun c14 => ?_) (fun c14 => ?_)
          · refine pm_iloadi hG dX12_owed_170 rfl ?_
            exact pm_iret hG hF dX12_owed_172 rfl (Nat.le_refl _) (Nat.le_refl _) ⟨_, rfl, ⟨_, _, rfl⟩, rfl⟩
          · refine pm_iloadi hG dX12_owed_134 rfl ?_
            refine pm_aloadn hG dX12_owed_136 rfl ?_
            refine pm_getf hG dX12_owed_137 (flX12_7 _ rfl) rfl rfl ?_
            refine pm_sipush (v := nI 1770) hG dX12_owed_140 (by decide) ?_
            refine pm_bipush (v := nI 6) hG dX12_owed_143 (by decide) ?_
            refine pm_iloadi hG dX12_owed_145 rfl ?_
            refine pm_imulN (c := 6 * i13) hG dX12_owed_147 (by omega) ?_
            refine pm_iaddN (c := 6 * i13 + 1770) hG dX12_owed_148 (by omega) ?_
            refine pm_iconst (v := nI 4) hG dX12_owed_149 (by decide) ?_
            refine pm_iaddN (c := 6 * i13 + 1774) hG dX12_owed_150 (by omega) ?_
            refine pm_ialdN hG dX12_owed_151 rfl (by decide) (by omega) ?_
            obtain ⟨k15, hk15, ek15⟩ := KI.nat hn (show kd (6 * i13 + 1774) = (1, 10, false) from (kd_D (k := i13) (c := 4) (by omega) (by omega) (by decide)))
            refine pm_top (v := nI k15) ek15 ?_
            refine pm_iloadn hG dX12_owed_152 rfl ?_
            refine pm_icmpN_ne (tgt := 160) hG dX12_owed_153 rfl (by omega) (by omega) (fun c16 => ?_) (fun c16 => ?_)
            · refine pm_iconst (v := nI 0) hG dX12_owed_160 (by decide) ?_
              refine pm_iadd hG dX12_owed_161 ?_
              refine pm_istoreXi (loc' := [some (.ref (B + 54)), some (.int za), some (.int zb), some (.int (nI k5)), some (.int (x13_4 + (nI 0))), some (.int (nI i13))]) hG dX12_owed_162 (by decide) (pm_c1b rfl) rfl ?_
              refine pm_iincX (v := nI (i13 + 1)) (loc' := [some (.ref (B + 54)), some (.int za), some (.int zb), some (.int (nI k5)), some (.int (x13_4 + (nI 0))), some (.int (nI (i13 + 1)))]) hG dX12_owed_164 rfl (nI_1 _) (by decide) (pm_c1b rfl) rfl ?_
              refine pm_goto (tgt := 122) hG dX12_owed_167 rfl ?_
              exact ih13 I13 A13 (x13_4 + (nI 0)) (i13 + 1) (by omega) (by omega)
            · refine pm_iconst (v := nI 1) hG dX12_owed_156 (by decide) ?_
              refine pm_goto (tgt := 161) hG dX12_owed_157 rfl ?_
              refine pm_iadd hG dX12_owed_161 ?_
              refine pm_istoreXi (loc' := [some (.ref (B + 54)), some (.int za), some (.int zb), some (.int (nI k5)), some (.int (x13_4 + (nI 1))), some (.int (nI i13))]) hG dX12_owed_162 (by decide) (pm_c1b rfl) rfl ?_
              refine pm_iincX (v := nI (i13 + 1)) (loc' := [some (.ref (B + 54)), some (.int za), some (.int zb), some (.int (nI k5)), some (.int (x13_4 + (nI 1))), some (.int (nI (i13 + 1)))]) hG dX12_owed_164 rfl (nI_1 _) (by decide) (pm_c1b rfl) rfl ?_
              refine pm_goto (tgt := 122) hG dX12_owed_167 rfl ?_
              exact ih13 I13 A13 (x13_4 + (nI 1)) (i13 + 1) (by omega) (by omega)
      exact loop122_13 _ I A (nI 0) 0 (by omega) (Nat.lt_succ_self _)
    have tc6 : ¬ zb.toInt = 0 := fun q => c6 (Int32.toInt_inj.mp (q.trans (by decide)))
    have tc8 : ¬ zb.toInt = 1 := fun q => c8 (Int32.toInt_inj.mp (q.trans (by decide)))
    have tc10 : ¬ zb.toInt = 2 := fun q => c10 (Int32.toInt_inj.mp (q.trans (by decide)))
    have tc12 : ¬ zb.toInt = 3 := fun q => c12 (Int32.toInt_inj.mp (q.trans (by decide)))
    refine pm_tswOut (tgt := 173) hG dX12_owed_40 (by omega) rfl ?_
    refine pm_aloadn hG dX12_owed_173 rfl ?_
    refine pm_iconst (v := nI 1) hG dX12_owed_174 (by decide) ?_
    refine pm_callV (As := [.int (nI 1)]) (rest := []) hG hR dX12_owed_175 (lkX12_80 _ rfl) okV_X12_finds rfl rfl (m_finds (d := 1) (by decide) hn hz (by omega)) rfl rfl hdd (Nat.le_refl _) (Nat.le_refl _) (by decide) (pm_ki (fun v17 σ' cnt' hq => ?_))
    obtain ⟨⟨I18, A18, rfl⟩, rfl, fv17⟩ := hq
    exact pm_iret hG hF dX12_owed_178 rfl (Nat.le_refl _) (Nat.le_refl _) ⟨_, rfl, ⟨_, _, rfl⟩, rfl⟩
  · refine pm_ifN_ne (tgt := 23) hG dX12_owed_14 rfl (by omega) (fun q => absurd q (by omega)) (fun _ => ?_)
    refine pm_aloadn hG dX12_owed_17 rfl ?_
    refine pm_iconst (v := nI 1) hG dX12_owed_18 (by decide) ?_
    refine pm_callV (As := [.int (nI 1)]) (rest := []) hG hR dX12_owed_19 (lkX12_80 _ rfl) okV_X12_finds rfl rfl (m_finds (d := 1) (by decide) hn hz (by omega)) rfl rfl hdd (Nat.le_refl _) (Nat.le_refl _) (by decide) (pm_ki (fun v19 σ' cnt' hq => ?_))
    obtain ⟨⟨I20, A20, rfl⟩, rfl, fv19⟩ := hq
    exact pm_iret hG hF dX12_owed_22 rfl (Nat.le_refl _) (Nat.le_refl _) ⟨_, rfl, ⟨_, _, rfl⟩, rfl⟩
