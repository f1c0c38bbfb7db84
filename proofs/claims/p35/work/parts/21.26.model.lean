set_option maxRecDepth 100000 in
set_option maxHeartbeats 4000000 in
theorem m_setNames_m_n40 {d B cnt p0 t0 : Nat} {σ : pm_S} {I : Nat → Int32} {A : Nat → Nat → Int32} {n k z : Nat → Int32} {ac wt pl im : Int32} {zc : Int32} {bb : Nat} (hdd : 2 ≤ d) (hn : KI n) (hz : SZ z) (hbb : bb < 40) : pm_met mX12_setNames d 0 0 B [.ref (B + 54), .int (-1), .int (nI bb), .int zc] cnt (pm_mid σ (md_L B I A n k z ac wt pl (nI p0) (nI t0) im)) (pm_Qv (fun σ' cnt' => (∃ (I' : Nat → Int32) (A' : Nat → Nat → Int32), σ' = pm_mid σ (md_L B I' A' n k z ac wt pl (nI p0) (nI t0) im)) ∧ cnt = cnt')) := by
  refine pm_enter 0 (by decide) (Nat.le_of_ble_eq_true rfl) rfl (fun G hG hR hF => ?_)
  refine pm_aloadn hG dX12_setNames_0 rfl ?_
  refine pm_getf hG dX12_setNames_1 (flX12_34 _ rfl) rfl rfl ?_
  refine pm_iconst (v := nI 0) hG dX12_setNames_4 (by decide) ?_
  refine pm_iloadn hG dX12_setNames_5 rfl ?_
  refine pm_if_ge (tgt := 13) hG dX12_setNames_6 rfl (fun q => absurd q (by decide)) (fun _ => ?_)
  refine pm_iconst (v := nI 0) hG dX12_setNames_9 (by decide) ?_
  refine pm_goto (tgt := 25) hG dX12_setNames_10 rfl ?_
  refine pm_iastN hG dX12_setNames_25 rfl (by decide) (by omega) ?_
  refine mdn_names (fun A_1 => ?_)
  refine pm_aloadn hG dX12_setNames_26 rfl ?_
  refine pm_getf hG dX12_setNames_27 (flX12_34 _ rfl) rfl rfl ?_
  refine pm_iconst (v := nI 1) hG dX12_setNames_30 (by decide) ?_
  refine pm_iloadn hG dX12_setNames_31 rfl ?_
  refine pm_if_ge (tgt := 39) hG dX12_setNames_32 rfl (fun q => absurd q (by decide)) (fun _ => ?_)
  refine pm_iconst (v := nI 0) hG dX12_setNames_35 (by decide) ?_
  refine pm_goto (tgt := 45) hG dX12_setNames_36 rfl ?_
  refine pm_iastN hG dX12_setNames_45 rfl (by decide) (by omega) ?_
  refine mdn_names (fun A_2 => ?_)
  refine pm_aloadn hG dX12_setNames_46 rfl ?_
  refine pm_getf hG dX12_setNames_47 (flX12_34 _ rfl) rfl rfl ?_
  refine pm_iconst (v := nI 2) hG dX12_setNames_50 (by decide) ?_
  refine pm_iloadn hG dX12_setNames_51 rfl ?_
  refine pm_if_ge (tgt := 59) hG dX12_setNames_52 rfl (fun q => absurd q (by decide)) (fun _ => ?_)
  refine pm_iconst (v := nI 0) hG dX12_setNames_55 (by decide) ?_
  refine pm_goto (tgt := 64) hG dX12_setNames_56 rfl ?_
  refine pm_iastN hG dX12_setNames_64 rfl (by decide) (by omega) ?_
  refine mdn_names (fun A_3 => ?_)
  refine pm_aloadn hG dX12_setNames_65 rfl ?_
  refine pm_getf hG dX12_setNames_66 (flX12_34 _ rfl) rfl rfl ?_
  refine pm_iconst (v := nI 3) hG dX12_setNames_69 (by decide) ?_
  refine pm_iloadn hG dX12_setNames_70 rfl ?_
  refine pm_if_ge (tgt := 78) hG dX12_setNames_71 rfl (fun q => absurd q (by decide)) (fun _ => ?_)
  refine pm_iconst (v := nI 0) hG dX12_setNames_74 (by decide) ?_
  refine pm_goto (tgt := 85) hG dX12_setNames_75 rfl ?_
  refine pm_iastN hG dX12_setNames_85 rfl (by decide) (by omega) ?_
  refine mdn_names (fun A_4 => ?_)
  refine pm_aloadn hG dX12_setNames_86 rfl ?_
  refine pm_getf hG dX12_setNames_87 (flX12_34 _ rfl) rfl rfl ?_
  refine pm_iconst (v := nI 4) hG dX12_setNames_90 (by decide) ?_
  refine pm_iloadn hG dX12_setNames_91 rfl ?_
  refine pm_if_ge (tgt := 99) hG dX12_setNames_92 rfl (fun q => absurd q (by decide)) (fun _ => ?_)
  refine pm_iconst (v := nI 0) hG dX12_setNames_95 (by decide) ?_
  refine pm_goto (tgt := 106) hG dX12_setNames_96 rfl ?_
  refine pm_iastN hG dX12_setNames_106 rfl (by decide) (by omega) ?_
  refine mdn_names (fun A_5 => ?_)
  refine pm_aloadn hG dX12_setNames_107 rfl ?_
  refine pm_getf hG dX12_setNames_108 (flX12_34 _ rfl) rfl rfl ?_
  refine pm_iconst (v := nI 5) hG dX12_setNames_111 (by decide) ?_
  refine pm_iloadn hG dX12_setNames_112 rfl ?_
  refine pm_if_ge (tgt := 120) hG dX12_setNames_113 rfl (fun q => absurd q (by decide)) (fun _ => ?_)
  refine pm_iconst (v := nI 0) hG dX12_setNames_116 (by decide) ?_
  refine pm_goto (tgt := 140) hG dX12_setNames_117 rfl ?_
  refine pm_iastN hG dX12_setNames_140 rfl (by decide) (by omega) ?_
  refine mdn_names (fun A_6 => ?_)
  refine pm_aloadn hG dX12_setNames_141 rfl ?_
  refine pm_getf hG dX12_setNames_142 (flX12_34 _ rfl) rfl rfl ?_
  refine pm_bipush (v := nI 6) hG dX12_setNames_145 (by decide) ?_
  refine pm_iloadn hG dX12_setNames_147 rfl ?_
  refine pm_if_ge (tgt := 155) hG dX12_setNames_148 rfl (fun q => absurd q (by decide)) (fun _ => ?_)
  refine pm_iconst (v := nI 0) hG dX12_setNames_151 (by decide) ?_
  refine pm_goto (tgt := 160) hG dX12_setNames_152 rfl ?_
  refine pm_iastN hG dX12_setNames_160 rfl (by decide) (by omega) ?_
  refine mdn_names (fun A_7 => ?_)
  refine pm_aloadn hG dX12_setNames_161 rfl ?_
  refine pm_getf hG dX12_setNames_162 (flX12_34 _ rfl) rfl rfl ?_
  refine pm_bipush (v := nI 7) hG dX12_setNames_165 (by decide) ?_
  refine pm_iloadn hG dX12_setNames_167 rfl ?_
  refine pm_ifN_ge (tgt := 175) hG dX12_setNames_168 rfl (by omega) ?_
  refine pm_aloadn hG dX12_setNames_175 rfl ?_
  refine pm_iloadn hG dX12_setNames_176 rfl ?_
  refine pm_iconst (v := nI 3) hG dX12_setNames_177 (by decide) ?_
  refine pm_callV (As := [.int (nI bb), .int (nI 3)]) (rest := [.int (nI 7), .ref (B + 63)]) hG hR dX12_setNames_178 (lkX12_199 _ rfl) okV_X12_of rfl rfl (m_of (d := 1) (e := 12 * bb + 1293) (by omega) (by omega) (by omega)) rfl rfl hdd (Nat.le_refl _) (Nat.le_refl _) (Nat.le_of_ble_eq_true rfl) (pm_ki (fun v8 σ' cnt' hq => ?_))
  obtain ⟨rfl, rfl, rfl⟩ := hq
  refine pm_gen (fun x9 ex9 => ?_)
  refine pm_callS (As := [.int x9]) (rest := [.int (nI 7), .ref (B + 63)]) hG hR dX12_setNames_181 (lkX12_202 _ rfl) okS_X12_bits (m_bits (d := 1) (by decide) hn hz) rfl rfl hdd (Nat.le_refl _) (Nat.le_refl _) (Nat.le_of_ble_eq_true rfl) (pm_ki (fun v10 σ' cnt' hq => ?_))
  obtain ⟨rfl, rfl⟩ := hq
  refine pm_iastN hG dX12_setNames_184 rfl (by decide) (by omega) ?_
  refine mdn_names (fun A_12 => ?_)
  refine pm_aloadn hG dX12_setNames_185 rfl ?_
  refine pm_getf hG dX12_setNames_186 (flX12_34 _ rfl) rfl rfl ?_
  refine pm_bipush (v := nI 8) hG dX12_setNames_189 (by decide) ?_
  refine pm_iloadn hG dX12_setNames_191 rfl ?_
  refine pm_ifN_ge (tgt := 199) hG dX12_setNames_192 rfl (by omega) ?_
  refine pm_aloadn hG dX12_setNames_199 rfl ?_
  refine pm_iloadn hG dX12_setNames_200 rfl ?_
  refine pm_iconst (v := nI 1) hG dX12_setNames_201 (by decide) ?_
  refine pm_callV (As := [.int (nI bb), .int (nI 1)]) (rest := [.int (nI 8), .ref (B + 63)]) hG hR dX12_setNames_202 (lkX12_199 _ rfl) okV_X12_of rfl rfl (m_of (d := 1) (e := 12 * bb + 1291) (by omega) (by omega) (by omega)) rfl rfl hdd (Nat.le_refl _) (Nat.le_refl _) (Nat.le_of_ble_eq_true rfl) (pm_ki (fun v13 σ' cnt' hq => ?_))
  obtain ⟨rfl, rfl, rfl⟩ := hq
  refine pm_gen (fun x14 ex14 => ?_)
  refine pm_iastN hG dX12_setNames_205 rfl (by decide) (by omega) ?_
  refine mdn_names (fun A_15 => ?_)
  refine pm_aloadn hG dX12_setNames_206 rfl ?_
  refine pm_getf hG dX12_setNames_207 (flX12_34 _ rfl) rfl rfl ?_
  refine pm_bipush (v := nI 9) hG dX12_setNames_210 (by decide) ?_
  refine pm_iloadn hG dX12_setNames_212 rfl ?_
  refine pm_ifN_ge (tgt := 220) hG dX12_setNames_213 rfl (by omega) ?_
  refine pm_aloadn hG dX12_setNames_220 rfl ?_
  refine pm_iloadn hG dX12_setNames_221 rfl ?_
  refine pm_iconst (v := nI 2) hG dX12_setNames_222 (by decide) ?_
  refine pm_callV (As := [.int (nI bb), .int (nI 2)]) (rest := [.int (nI 9), .ref (B + 63)]) hG hR dX12_setNames_223 (lkX12_199 _ rfl) okV_X12_of rfl rfl (m_of (d := 1) (e := 12 * bb + 1292) (by omega) (by omega) (by omega)) rfl rfl hdd (Nat.le_refl _) (Nat.le_refl _) (Nat.le_of_ble_eq_true rfl) (pm_ki (fun v16 σ' cnt' hq => ?_))
  obtain ⟨rfl, rfl, rfl⟩ := hq
  obtain ⟨k17, hk17, ek17⟩ := KI.nat hn (show kd (12 * bb + 1292) = (1, 1000, false) from (kd_E (k := bb) (c := 2) (by omega) (by omega) (by decide)))
  refine pm_top (v := nI k17) ek17 ?_
  refine pm_iastN hG dX12_setNames_226 rfl (by decide) (by omega) ?_
  refine mdn_names (fun A_18 => ?_)
  refine pm_aloadn hG dX12_setNames_227 rfl ?_
  refine pm_getf hG dX12_setNames_228 (flX12_34 _ rfl) rfl rfl ?_
  refine pm_bipush (v := nI 10) hG dX12_setNames_231 (by decide) ?_
  refine pm_iloadn hG dX12_setNames_233 rfl ?_
  refine pm_iastN hG dX12_setNames_234 rfl (by decide) (by omega) ?_
  refine mdn_names (fun A_19 => ?_)
  exact pm_vret hG hF dX12_setNames_235 rfl (Nat.le_refl _) (Nat.le_refl _) ⟨rfl, ⟨_, _, rfl⟩, rfl⟩

set_option maxRecDepth 100000 in
set_option maxHeartbeats 4000000 in
theorem m_comesTo_n12_m_n40 {d B cnt p0 t0 : Nat} {σ : pm_S} {I : Nat → Int32} {A : Nat → Nat → Int32} {n k z : Nat → Int32} {ac wt pl im : Int32} {zd : Int32} {ba bc : Nat} (hdd : 3 ≤ d) (hn : KI n) (hr : NR n) (hz : SZ z) (hba : ba < 12) (hbc : bc < 40) : pm_met mX12_comesTo d 0 0 B [.ref (B + 54), .int (nI ba), .int (-1), .int (nI bc), .int zd] cnt (pm_mid σ (md_L B I A n k z ac wt pl (nI p0) (nI t0) im)) (pm_Qi (fun v σ' cnt' => (∃ (I' : Nat → Int32) (A' : Nat → Nat → Int32), σ' = pm_mid σ (md_L B I' A' n k z ac wt pl (nI p0) (nI t0) im)) ∧ cnt = cnt')) := by
  refine pm_enter 4 (by decide) (Nat.le_of_ble_eq_true rfl) rfl (fun G hG hR hF => ?_)
  refine pm_iloadn hG dX12_comesTo_0 rfl ?_
  refine pm_ifN_ge (tgt := 6) hG dX12_comesTo_1 rfl (by omega) ?_
  refine pm_aloadn hG dX12_comesTo_6 rfl ?_
  refine pm_iloadn hG dX12_comesTo_7 rfl ?_
  refine pm_iloadn hG dX12_comesTo_8 rfl ?_
  refine pm_iloadi hG dX12_comesTo_9 rfl ?_
  refine pm_callV (As := [.int (-1), .int (nI bc), .int zd]) (rest := []) hG hR dX12_comesTo_11 (lkX12_205 _ rfl) okV_X12_setNames rfl rfl (m_setNames_m_n40 (d := 2) (by decide) hn hz (by omega)) rfl rfl hdd (Nat.le_refl _) (Nat.le_refl _) (by decide) (pm_kv (fun σ' cnt' hq => ?_))
  obtain ⟨⟨I2, A2, rfl⟩, rfl⟩ := hq
  refine pm_iconst (v := nI 0) hG dX12_comesTo_14 (by decide) ?_
  refine pm_istoreXi (loc' := [some (.ref (B + 54)), some (.int (nI ba)), some (.int (-1)), some (.int (nI bc)), some (.int zd), some (.int (nI 0)), none, none, none]) hG dX12_comesTo_15 (by decide) (pm_c1b rfl) rfl ?_
  refine pm_sipush (v := nI 510) hG dX12_comesTo_17 (by decide) ?_
  refine pm_bipush (v := nI 65) hG dX12_comesTo_20 (by decide) ?_
  refine pm_iloadn hG dX12_comesTo_22 rfl ?_
  refine pm_imulN (c := 65 * ba) hG dX12_comesTo_23 (by omega) ?_
  refine pm_iaddN (c := 65 * ba + 510) hG dX12_comesTo_24 (by omega) ?_
  refine pm_iconst (v := nI 5) hG dX12_comesTo_25 (by decide) ?_
  refine pm_iaddN (c := 65 * ba + 515) hG dX12_comesTo_26 (by omega) ?_
  refine pm_istoreXi (loc' := [some (.ref (B + 54)), some (.int (nI ba)), some (.int (-1)), some (.int (nI bc)), some (.int zd), some (.int (nI 0)), some (.int (nI (65 * ba + 515))), none, none]) hG dX12_comesTo_27 (by decide) (pm_c1b rfl) rfl ?_
  refine pm_iloadi hG dX12_comesTo_29 rfl ?_
  refine pm_istoreXi (loc' := [some (.ref (B + 54)), some (.int (nI ba)), some (.int (-1)), some (.int (nI bc)), some (.int zd), some (.int (nI 0)), some (.int (nI (65 * ba + 515))), some (.int (nI (65 * ba + 515))), none]) hG dX12_comesTo_31 (by decide) (pm_c1b rfl) rfl ?_
  obtain ⟨lC, eC, hC, cC⟩ := hr.2.2.2 ba (by omega)
  have fC : n (65 * ba + 514) = nI lC := eC
  have loopC : ∀ (mC : Nat) (rC : Nat) (IC : Nat → Int32) (AC : Nat → Nat → Int32) (jC dC : Nat), cOK (fun q => n (65 * ba + 515 + q)) rC jC dC → dC ≤ jC → jC + rC = lC → rC < mC → pm_wp mX12_comesTo G B 33 [some (.ref (B + 54)), some (.int (nI ba)), some (.int (-1)), some (.int (nI bc)), some (.int zd), some (.int (nI dC)), some (.int (nI (65 * ba + 515))), some (.int (nI (65 * ba + jC + 515))), none] [] 0 0 cnt (pm_mid σ (md_L B IC AC n k z ac wt pl (nI p0) (nI t0) im)) := by
    intro mC
    induction mC with
    | zero => intro rC IC AC jC dC _ _ _ hm; exact absurd hm (Nat.not_lt_zero _)
    | succ mC ihC =>
      intro rC IC AC jC dC kC hdC hjC hmC
      refine pm_iloadi hG dX12_comesTo_33 rfl ?_
      refine pm_iloadi hG dX12_comesTo_35 rfl ?_
      refine pm_aloadn hG dX12_comesTo_37 rfl ?_
      refine pm_getf hG dX12_comesTo_38 (flX12_7 _ rfl) rfl rfl ?_
      refine pm_iloadi hG dX12_comesTo_41 rfl ?_
      refine pm_iconst (v := nI 1) hG dX12_comesTo_43 (by decide) ?_
      refine pm_isubN (c := 65 * ba + 514) hG dX12_comesTo_44 (by omega) ?_
      refine pm_ialdN hG dX12_comesTo_45 rfl (by decide) (by omega) ?_
      refine pm_top (v := nI lC) fC ?_
      refine pm_iaddN (c := 65 * ba + lC + 515) hG dX12_comesTo_46 (by omega) ?_
      refine pm_icmpN_ge (tgt := 177) hG dX12_comesTo_47 rfl (by omega) (by omega) (fun c3 => ?_) (fun c3 => ?_)
      · refine pm_aloadn hG dX12_comesTo_177 rfl ?_
        refine pm_getf hG dX12_comesTo_178 (flX12_31 _ rfl) rfl rfl ?_
        refine pm_iconst (v := nI 0) hG dX12_comesTo_181 (by decide) ?_
        refine pm_ialdN hG dX12_comesTo_182 rfl (by decide) (by omega) ?_
        refine pm_any (fun x4 => ?_)
        exact pm_iret hG hF dX12_comesTo_183 rfl (Nat.le_refl _) (Nat.le_refl _) ⟨_, rfl, ⟨_, _, rfl⟩, rfl⟩
      · refine pm_aloadn hG dX12_comesTo_50 rfl ?_
        refine pm_getf hG dX12_comesTo_51 (flX12_7 _ rfl) rfl rfl ?_
        refine pm_iloadi hG dX12_comesTo_54 rfl ?_
        refine pm_ialdN hG dX12_comesTo_56 rfl (by decide) (by omega) ?_
        refine pm_gen (fun x5 ex5 => ?_)
        refine pm_istoreXi (loc' := [some (.ref (B + 54)), some (.int (nI ba)), some (.int (-1)), some (.int (nI bc)), some (.int zd), some (.int (nI dC)), some (.int (nI (65 * ba + 515))), some (.int (nI (65 * ba + jC + 515))), some (.int x5)]) hG dX12_comesTo_57 (by decide) (pm_c1b rfl) rfl ?_
        obtain ⟨rD, rfl⟩ : ∃ rD : Nat, rC = rD + 1 := ⟨rC - 1, by omega⟩
        have fx : n (65 * ba + 515 + jC) = x5 := by
          rw [show 65 * ba + 515 + jC = 65 * ba + jC + 515 by omega]; exact ex5
        unfold cOK at kC
        rw [fx] at kC
        rcases kC with ⟨g1, g2, g3⟩ | ⟨g1, g2, g3⟩ | ⟨g1, g2, g3, g4⟩
        · refine pm_iloadi hG dX12_comesTo_59 rfl ?_
          refine pm_bipush (v := (-100)) hG dX12_comesTo_61 (by decide) ?_
          refine pm_icmp_le (tgt := 98) hG dX12_comesTo_63 rfl (fun q => absurd q g1) (fun _ => ?_)
          refine pm_aloadn hG dX12_comesTo_66 rfl ?_
          refine pm_getf hG dX12_comesTo_67 (flX12_31 _ rfl) rfl rfl ?_
          refine pm_iloadi hG dX12_comesTo_70 rfl ?_
          refine pm_iloadi hG dX12_comesTo_72 rfl ?_
          refine pm_if_ge (tgt := 89) hG dX12_comesTo_74 rfl (fun _ => ?_) (fun cx => ?_)
          · refine pm_iloadi hG dX12_comesTo_89 rfl ?_
            refine pm_iastN hG dX12_comesTo_91 rfl (by decide) (by omega) ?_
            refine mdn_row (fun A_6 => ?_)
            refine pm_iincX (v := nI (dC + 1)) (loc' := [some (.ref (B + 54)), some (.int (nI ba)), some (.int (-1)), some (.int (nI bc)), some (.int zd), some (.int (nI (dC + 1))), some (.int (nI (65 * ba + 515))), some (.int (nI (65 * ba + jC + 515))), some (.int x5)]) hG dX12_comesTo_92 rfl (nI_1 _) (by decide) (pm_c1b rfl) rfl ?_
            refine pm_goto (tgt := 171) hG dX12_comesTo_95 rfl ?_
            refine pm_iincX (v := nI (65 * ba + jC + 516)) (loc' := [some (.ref (B + 54)), some (.int (nI ba)), some (.int (-1)), some (.int (nI bc)), some (.int zd), some (.int (nI (dC + 1))), some (.int (nI (65 * ba + 515))), some (.int (nI (65 * ba + jC + 516))), some (.int x5)]) hG dX12_comesTo_171 rfl (nI_1 _) (by decide) (pm_c1b rfl) rfl ?_
            refine pm_goto (tgt := 33) hG dX12_comesTo_174 rfl ?_
            refine pm_fg 8 (loc' := [some (.ref (B + 54)), some (.int (nI ba)), some (.int (-1)), some (.int (nI bc)), some (.int zd), some (.int (nI (dC + 1))), some (.int (nI (65 * ba + 515))), some (.int (nI (65 * ba + jC + 516))), none]) rfl ?_
            exact ihC _ _ _ (jC + 1) (dC + 1) g3 (by omega) (by omega) (Nat.lt_of_succ_lt_succ hmC)
          · obtain ⟨kC, hkC, ekC⟩ := g2 (Int32.not_le.mp cx)
            refine pm_aloadn hG dX12_comesTo_77 rfl ?_
            refine pm_getf hG dX12_comesTo_78 (flX12_34 _ rfl) rfl rfl ?_
            refine pm_iconst (v := (-1)) hG dX12_comesTo_81 (by decide) ?_
            refine pm_iloadi hG dX12_comesTo_82 rfl ?_
            refine pm_isub hG dX12_comesTo_84 ?_
            refine pm_top (v := nI kC) ekC ?_
            refine pm_ialdN hG dX12_comesTo_85 rfl (by decide) (by omega) ?_
            refine pm_any (fun x7 => ?_)
            refine pm_goto (tgt := 91) hG dX12_comesTo_86 rfl ?_
            refine pm_iastN hG dX12_comesTo_91 rfl (by decide) (by omega) ?_
            refine mdn_row (fun A_8 => ?_)
            refine pm_iincX (v := nI (dC + 1)) (loc' := [some (.ref (B + 54)), some (.int (nI ba)), some (.int (-1)), some (.int (nI bc)), some (.int zd), some (.int (nI (dC + 1))), some (.int (nI (65 * ba + 515))), some (.int (nI (65 * ba + jC + 515))), some (.int x5)]) hG dX12_comesTo_92 rfl (nI_1 _) (by decide) (pm_c1b rfl) rfl ?_
            refine pm_goto (tgt := 171) hG dX12_comesTo_95 rfl ?_
            refine pm_iincX (v := nI (65 * ba + jC + 516)) (loc' := [some (.ref (B + 54)), some (.int (nI ba)), some (.int (-1)), some (.int (nI bc)), some (.int zd), some (.int (nI (dC + 1))), some (.int (nI (65 * ba + 515))), some (.int (nI (65 * ba + jC + 516))), some (.int x5)]) hG dX12_comesTo_171 rfl (nI_1 _) (by decide) (pm_c1b rfl) rfl ?_
            refine pm_goto (tgt := 33) hG dX12_comesTo_174 rfl ?_
            refine pm_fg 8 (loc' := [some (.ref (B + 54)), some (.int (nI ba)), some (.int (-1)), some (.int (nI bc)), some (.int zd), some (.int (nI (dC + 1))), some (.int (nI (65 * ba + 515))), some (.int (nI (65 * ba + jC + 516))), none]) rfl ?_
            exact ihC _ _ _ (jC + 1) (dC + 1) g3 (by omega) (by omega) (Nat.lt_of_succ_lt_succ hmC)
        · refine pm_iloadi hG dX12_comesTo_59 rfl ?_
          refine pm_top (v := (-133)) g1 ?_
          refine pm_bipush (v := (-100)) hG dX12_comesTo_61 (by decide) ?_
          refine pm_icmp_le (tgt := 98) hG dX12_comesTo_63 rfl (fun _ => ?_) (fun q => absurd q (by decide))
          refine pm_iloadi hG dX12_comesTo_98 rfl ?_
          refine pm_top (v := (-133)) g1 ?_
          refine pm_sipush (v := (-133)) hG dX12_comesTo_100 (by decide) ?_
          refine pm_icmp_ne (tgt := 135) hG dX12_comesTo_103 rfl (fun q => absurd q (by decide)) (fun _ => ?_)
          refine pm_aloadn hG dX12_comesTo_106 rfl ?_
          refine pm_getf hG dX12_comesTo_107 (flX12_31 _ rfl) rfl rfl ?_
          refine pm_iloadi hG dX12_comesTo_110 rfl ?_
          refine pm_iconst (v := nI 1) hG dX12_comesTo_112 (by decide) ?_
          obtain ⟨q9, hq9⟩ : ∃ q9 : Nat, dC = 1 + q9 := ⟨dC - (1), by omega⟩
          refine pm_isubN (c := q9) hG dX12_comesTo_113 (by omega) ?_
          refine pm_aloadn hG dX12_comesTo_114 rfl ?_
          refine pm_getf hG dX12_comesTo_115 (flX12_31 _ rfl) rfl rfl ?_
          refine pm_iloadi hG dX12_comesTo_118 rfl ?_
          refine pm_iconst (v := nI 1) hG dX12_comesTo_120 (by decide) ?_
          obtain ⟨q10, hq10⟩ : ∃ q10 : Nat, dC = 1 + q10 := ⟨dC - (1), by omega⟩
          refine pm_isubN (c := q10) hG dX12_comesTo_121 (by omega) ?_
          refine pm_ialdN hG dX12_comesTo_122 rfl (by decide) (by omega) ?_
          refine pm_any (fun x11 => ?_)
          refine pm_if_ne (tgt := 130) hG dX12_comesTo_123 rfl (fun c12 => ?_) (fun c12 => ?_)
          · refine pm_iconst (v := nI 0) hG dX12_comesTo_130 (by decide) ?_
            refine pm_iastN hG dX12_comesTo_131 rfl (by decide) (by omega) ?_
            refine mdn_row (fun A_13 => ?_)
            refine pm_goto (tgt := 171) hG dX12_comesTo_132 rfl ?_
            refine pm_iincX (v := nI (65 * ba + jC + 516)) (loc' := [some (.ref (B + 54)), some (.int (nI ba)), some (.int (-1)), some (.int (nI bc)), some (.int zd), some (.int (nI dC)), some (.int (nI (65 * ba + 515))), some (.int (nI (65 * ba + jC + 516))), some (.int x5)]) hG dX12_comesTo_171 rfl (nI_1 _) (by decide) (pm_c1b rfl) rfl ?_
            refine pm_goto (tgt := 33) hG dX12_comesTo_174 rfl ?_
            refine pm_fg 8 (loc' := [some (.ref (B + 54)), some (.int (nI ba)), some (.int (-1)), some (.int (nI bc)), some (.int zd), some (.int (nI dC)), some (.int (nI (65 * ba + 515))), some (.int (nI (65 * ba + jC + 516))), none]) rfl ?_
            exact ihC _ _ _ (jC + 1) dC g3 (by omega) (by omega) (Nat.lt_of_succ_lt_succ hmC)
          · refine pm_iconst (v := nI 1) hG dX12_comesTo_126 (by decide) ?_
            refine pm_goto (tgt := 131) hG dX12_comesTo_127 rfl ?_
            refine pm_iastN hG dX12_comesTo_131 rfl (by decide) (by omega) ?_
            refine mdn_row (fun A_14 => ?_)
            refine pm_goto (tgt := 171) hG dX12_comesTo_132 rfl ?_
            refine pm_iincX (v := nI (65 * ba + jC + 516)) (loc' := [some (.ref (B + 54)), some (.int (nI ba)), some (.int (-1)), some (.int (nI bc)), some (.int zd), some (.int (nI dC)), some (.int (nI (65 * ba + 515))), some (.int (nI (65 * ba + jC + 516))), some (.int x5)]) hG dX12_comesTo_171 rfl (nI_1 _) (by decide) (pm_c1b rfl) rfl ?_
            refine pm_goto (tgt := 33) hG dX12_comesTo_174 rfl ?_
            refine pm_fg 8 (loc' := [some (.ref (B + 54)), some (.int (nI ba)), some (.int (-1)), some (.int (nI bc)), some (.int zd), some (.int (nI dC)), some (.int (nI (65 * ba + 515))), some (.int (nI (65 * ba + jC + 516))), none]) rfl ?_
            exact ihC _ _ _ (jC + 1) dC g3 (by omega) (by omega) (Nat.lt_of_succ_lt_succ hmC)
        · refine pm_iloadi hG dX12_comesTo_59 rfl ?_
          refine pm_bipush (v := (-100)) hG dX12_comesTo_61 (by decide) ?_
          refine pm_icmp_le (tgt := 98) hG dX12_comesTo_63 rfl (fun _ => ?_) (fun q => absurd g1 q)
          refine pm_iloadi hG dX12_comesTo_98 rfl ?_
          refine pm_sipush (v := (-133)) hG dX12_comesTo_100 (by decide) ?_
          refine pm_icmp_ne (tgt := 135) hG dX12_comesTo_103 rfl (fun _ => ?_) (fun q => absurd q g2)
          obtain ⟨dD, rfl⟩ : ∃ dD : Nat, dC = dD + 1 + 1 := ⟨dC - 2, by omega⟩
          refine pm_iincX (v := nI (dD + 1)) (loc' := [some (.ref (B + 54)), some (.int (nI ba)), some (.int (-1)), some (.int (nI bc)), some (.int zd), some (.int (nI (dD + 1))), some (.int (nI (65 * ba + 515))), some (.int (nI (65 * ba + jC + 515))), some (.int x5)]) hG dX12_comesTo_135 rfl (pk_m1 (dD + 1)) (by decide) (pm_c1b rfl) rfl ?_
          refine pm_aloadn hG dX12_comesTo_138 rfl ?_
          refine pm_getf hG dX12_comesTo_139 (flX12_31 _ rfl) rfl rfl ?_
          refine pm_iloadi hG dX12_comesTo_142 rfl ?_
          refine pm_iconst (v := nI 1) hG dX12_comesTo_144 (by decide) ?_
          refine pm_isubN (c := dD) hG dX12_comesTo_145 (by omega) ?_
          refine pm_bipush (v := (-100)) hG dX12_comesTo_146 (by decide) ?_
          refine pm_iloadi hG dX12_comesTo_148 rfl ?_
          refine pm_isub hG dX12_comesTo_150 ?_
          refine pm_aloadn hG dX12_comesTo_151 rfl ?_
          refine pm_getf hG dX12_comesTo_152 (flX12_31 _ rfl) rfl rfl ?_
          refine pm_iloadi hG dX12_comesTo_155 rfl ?_
          refine pm_iconst (v := nI 1) hG dX12_comesTo_157 (by decide) ?_
          refine pm_isubN (c := dD) hG dX12_comesTo_158 (by omega) ?_
          refine pm_ialdN hG dX12_comesTo_159 rfl (by decide) (by omega) ?_
          refine pm_any (fun x15 => ?_)
          refine pm_aloadn hG dX12_comesTo_160 rfl ?_
          refine pm_getf hG dX12_comesTo_161 (flX12_31 _ rfl) rfl rfl ?_
          refine pm_iloadi hG dX12_comesTo_164 rfl ?_
          refine pm_ialdN hG dX12_comesTo_166 rfl (by decide) (by omega) ?_
          refine pm_any (fun x16 => ?_)
          refine pm_callS (As := [.int ((-100) - x5), .int x15, .int x16]) (rest := [.int (nI dD), .ref (B + 62)]) hG hR dX12_comesTo_167 (lkX12_208 _ rfl) okS_X12_done (m_done (d := 2) (by decide) hn hz) rfl rfl hdd (Nat.le_refl _) (Nat.le_refl _) (Nat.le_of_ble_eq_true rfl) (pm_ki (fun v17 σ' cnt' hq => ?_))
          obtain ⟨rfl, rfl⟩ := hq
          refine pm_iastN hG dX12_comesTo_170 rfl (by decide) (by omega) ?_
          refine mdn_row (fun A_19 => ?_)
          refine pm_iincX (v := nI (65 * ba + jC + 516)) (loc' := [some (.ref (B + 54)), some (.int (nI ba)), some (.int (-1)), some (.int (nI bc)), some (.int zd), some (.int (nI (dD + 1))), some (.int (nI (65 * ba + 515))), some (.int (nI (65 * ba + jC + 516))), some (.int x5)]) hG dX12_comesTo_171 rfl (nI_1 _) (by decide) (pm_c1b rfl) rfl ?_
          refine pm_goto (tgt := 33) hG dX12_comesTo_174 rfl ?_
          refine pm_fg 8 (loc' := [some (.ref (B + 54)), some (.int (nI ba)), some (.int (-1)), some (.int (nI bc)), some (.int zd), some (.int (nI (dD + 1))), some (.int (nI (65 * ba + 515))), some (.int (nI (65 * ba + jC + 516))), none]) rfl ?_
          exact ihC _ _ _ (jC + 1) (dD + 1) g4 (by omega) (by omega) (Nat.lt_of_succ_lt_succ hmC)
  exact loopC _ lC I2 A2 0 0 cC (Nat.le_refl _) (Nat.zero_add _) (Nat.lt_succ_self _)

set_option maxRecDepth 100000 in
set_option maxHeartbeats 4000000 in
theorem m_says {d B cnt p0 t0 : Nat} {σ : pm_S} {I : Nat → Int32} {A : Nat → Nat → Int32} {n k z : Nat → Int32} {ac wt pl im : Int32} {za zb zc : Int32} (hdd : 4 ≤ d) (hn : KI n) (hr : NR n) (hz : SZ z)  : pm_met mX12_says d 0 0 B [.ref (B + 54), .int za, .int zb, .int zc] cnt (pm_mid σ (md_L B I A n k z ac wt pl (nI p0) (nI t0) im)) (pm_Qi (fun v σ' cnt' => (∃ (I' : Nat → Int32) (A' : Nat → Nat → Int32), σ' = pm_mid σ (md_L B I' A' n k z ac wt pl (nI p0) (nI t0) im)) ∧ cnt = cnt')) := by
  refine pm_enter 0 (by decide) (Nat.le_of_ble_eq_true rfl) rfl (fun G hG hR hF => ?_)
  refine pm_aloadn hG dX12_says_0 rfl ?_
  refine pm_iloadn hG dX12_says_1 rfl ?_
  obtain ⟨k1, hk1, ek1⟩ := KI.nat hn (show kd 4 = (1, 13, false) by decide)
  refine pm_callV (As := [.int za]) (rest := []) hG hR dX12_says_2 (lkX12_192 _ rfl) okV_X12_isLaw rfl rfl (m_isLaw (d := 3) (by decide) ek1 (by omega)) rfl rfl hdd (Nat.le_refl _) (Nat.le_refl _) (by decide) (pm_ki (fun v2 σ' cnt' hq => ?_))
  obtain ⟨hq, rfl, rfl⟩ := hq
  rcases hq with ⟨rfl, k4, hk4, ek4⟩ | rfl
  · refine pm_ifN_eq (tgt := 34) hG dX12_says_5 rfl (by omega) (fun q => absurd q (by omega)) (fun _ => ?_)
    refine pm_iloadn hG dX12_says_8 rfl ?_
    refine pm_iconst (v := (-1)) hG dX12_says_9 (by decide) ?_
    refine pm_icmp_eq (tgt := 21) hG dX12_says_10 rfl (fun c5 => ?_) (fun c5 => ?_)
    · refine pm_iloadn hG dX12_says_21 rfl ?_
      refine pm_iconst (v := (-1)) hG dX12_says_22 (by decide) ?_
      refine pm_icmp_eq (tgt := 40) hG dX12_says_23 rfl (fun c6 => ?_) (fun c6 => ?_)
      · refine pm_aloadn hG dX12_says_40 rfl ?_
        refine pm_iloadn hG dX12_says_41 rfl ?_
        refine pm_top (v := nI k4) ek4 ?_
        refine pm_iloadn hG dX12_says_42 rfl ?_
        refine pm_top (v := (-1)) c5 ?_
        refine pm_iloadn hG dX12_says_43 rfl ?_
        refine pm_top (v := (-1)) c6 ?_
        refine pm_aloadn hG dX12_says_44 rfl ?_
        refine pm_getf hG dX12_says_45 (flX12_7 _ rfl) rfl rfl ?_
        refine pm_bipush (v := nI 8) hG dX12_says_48 (by decide) ?_
        refine pm_ialdN hG dX12_says_50 rfl (by decide) (by omega) ?_
        obtain ⟨k7, hk7, ek7⟩ := KI.nat hn (show kd 8 = (1, 2001, false) by decide)
        refine pm_top (v := nI k7) ek7 ?_
        refine pm_callV (As := [.int (nI k4), .int (-1), .int (-1), .int (nI k7)]) (rest := []) hG hR dX12_says_51 (lkX12_214 _ rfl) okV_X12_comesTo rfl rfl (m_comesTo_n12_m_m (d := 3) (by decide) hn hr hz (by omega)) rfl rfl hdd (Nat.le_refl _) (Nat.le_refl _) (by decide) (pm_ki (fun v8 σ' cnt' hq => ?_))
        obtain ⟨⟨I9, A9, rfl⟩, rfl⟩ := hq
        exact pm_iret hG hF dX12_says_54 rfl (Nat.le_refl _) (Nat.le_refl _) ⟨_, rfl, ⟨_, _, rfl⟩, rfl⟩
      · refine pm_aloadn hG dX12_says_26 rfl ?_
        refine pm_iloadn hG dX12_says_27 rfl ?_
        obtain ⟨k10, hk10, ek10⟩ := KI.nat hn (show kd 5 = (1, 41, true) by decide)
        refine pm_callV (As := [.int zc]) (rest := []) hG hR dX12_says_28 (lkX12_211 _ rfl) okV_X12_isLetter rfl rfl (m_isLetter (d := 3) (by decide) ek10 (by omega)) rfl rfl hdd (Nat.le_refl _) (Nat.le_refl _) (by decide) (pm_ki (fun v11 σ' cnt' hq => ?_))
        obtain ⟨hq, rfl, rfl⟩ := hq
        rcases hq with ⟨rfl, k13, hk13, ek13⟩ | rfl
        · refine pm_ifN_ne (tgt := 40) hG dX12_says_31 rfl (by omega) (fun _ => ?_) (fun q => absurd q (by omega))
          refine pm_aloadn hG dX12_says_40 rfl ?_
          refine pm_iloadn hG dX12_says_41 rfl ?_
          refine pm_top (v := nI k4) ek4 ?_
          refine pm_iloadn hG dX12_says_42 rfl ?_
          refine pm_top (v := (-1)) c5 ?_
          refine pm_iloadn hG dX12_says_43 rfl ?_
          refine pm_top (v := nI k13) ek13 ?_
          refine pm_aloadn hG dX12_says_44 rfl ?_
          refine pm_getf hG dX12_says_45 (flX12_7 _ rfl) rfl rfl ?_
          refine pm_bipush (v := nI 8) hG dX12_says_48 (by decide) ?_
          refine pm_ialdN hG dX12_says_50 rfl (by decide) (by omega) ?_
          obtain ⟨k14, hk14, ek14⟩ := KI.nat hn (show kd 8 = (1, 2001, false) by decide)
          refine pm_top (v := nI k14) ek14 ?_
          refine pm_callV (As := [.int (nI k4), .int (-1), .int (nI k13), .int (nI k14)]) (rest := []) hG hR dX12_says_51 (lkX12_214 _ rfl) okV_X12_comesTo rfl rfl (m_comesTo_n12_m_n40 (d := 3) (by decide) hn hr hz (by omega) (by omega)) rfl rfl hdd (Nat.le_refl _) (Nat.le_refl _) (by decide) (pm_ki (fun v15 σ' cnt' hq => ?_))
          obtain ⟨⟨I16, A16, rfl⟩, rfl⟩ := hq
          exact pm_iret hG hF dX12_says_54 rfl (Nat.le_refl _) (Nat.le_refl _) ⟨_, rfl, ⟨_, _, rfl⟩, rfl⟩
        · refine pm_ifN_ne (tgt := 40) hG dX12_says_31 rfl (by omega) (fun q => absurd q (by omega)) (fun _ => ?_)
          refine pm_aloadn hG dX12_says_34 rfl ?_
          refine pm_iconst (v := nI 1) hG dX12_says_35 (by decide) ?_
          refine pm_callV (As := [.int (nI 1)]) (rest := []) hG hR dX12_says_36 (lkX12_80 _ rfl) okV_X12_finds rfl rfl (m_finds (d := 3) (by decide) hn hz (by omega)) rfl rfl hdd (Nat.le_refl _) (Nat.le_refl _) (by decide) (pm_ki (fun v17 σ' cnt' hq => ?_))
          obtain ⟨⟨I18, A18, rfl⟩, rfl, fv17⟩ := hq
          exact pm_iret hG hF dX12_says_39 rfl (Nat.le_refl _) (Nat.le_refl _) ⟨_, rfl, ⟨_, _, rfl⟩, rfl⟩
    · refine pm_aloadn hG dX12_says_13 rfl ?_
      refine pm_iloadn hG dX12_says_14 rfl ?_
      obtain ⟨k19, hk19, ek19⟩ := KI.nat hn (show kd 2 = (1, 21, true) by decide)
      refine pm_callV (As := [.int zb]) (rest := []) hG hR dX12_says_15 (lkX12_91 _ rfl) okV_X12_isPerson rfl rfl (m_isPerson (d := 3) (by decide) ek19 (by omega)) rfl rfl hdd (Nat.le_refl _) (Nat.le_refl _) (by decide) (pm_ki (fun v20 σ' cnt' hq => ?_))
      obtain ⟨hq, rfl, rfl⟩ := hq
      rcases hq with ⟨rfl, k22, hk22, ek22⟩ | ⟨rfl, ntk22⟩
      · refine pm_ifN_eq (tgt := 34) hG dX12_says_18 rfl (by omega) (fun q => absurd q (by omega)) (fun _ => ?_)
        refine pm_iloadn hG dX12_says_21 rfl ?_
        refine pm_iconst (v := (-1)) hG dX12_says_22 (by decide) ?_
        refine pm_icmp_eq (tgt := 40) hG dX12_says_23 rfl (fun c23 => ?_) (fun c23 => ?_)
        · refine pm_aloadn hG dX12_says_40 rfl ?_
          refine pm_iloadn hG dX12_says_41 rfl ?_
          refine pm_top (v := nI k4) ek4 ?_
          refine pm_iloadn hG dX12_says_42 rfl ?_
          refine pm_top (v := nI k22) ek22 ?_
          refine pm_iloadn hG dX12_says_43 rfl ?_
          refine pm_top (v := (-1)) c23 ?_
          refine pm_aloadn hG dX12_says_44 rfl ?_
          refine pm_getf hG dX12_says_45 (flX12_7 _ rfl) rfl rfl ?_
          refine pm_bipush (v := nI 8) hG dX12_says_48 (by decide) ?_
          refine pm_ialdN hG dX12_says_50 rfl (by decide) (by omega) ?_
          obtain ⟨k24, hk24, ek24⟩ := KI.nat hn (show kd 8 = (1, 2001, false) by decide)
          refine pm_top (v := nI k24) ek24 ?_
          refine pm_callV (As := [.int (nI k4), .int (nI k22), .int (-1), .int (nI k24)]) (rest := []) hG hR dX12_says_51 (lkX12_214 _ rfl) okV_X12_comesTo rfl rfl (m_comesTo_n12_n20_m (d := 3) (by decide) hn hr hz (by omega) (by omega)) rfl rfl hdd (Nat.le_refl _) (Nat.le_refl _) (by decide) (pm_ki (fun v25 σ' cnt' hq => ?_))
          obtain ⟨⟨I26, A26, rfl⟩, rfl⟩ := hq
          exact pm_iret hG hF dX12_says_54 rfl (Nat.le_refl _) (Nat.le_refl _) ⟨_, rfl, ⟨_, _, rfl⟩, rfl⟩
        · refine pm_aloadn hG dX12_says_26 rfl ?_
          refine pm_iloadn hG dX12_says_27 rfl ?_
          obtain ⟨k27, hk27, ek27⟩ := KI.nat hn (show kd 5 = (1, 41, true) by decide)
          refine pm_callV (As := [.int zc]) (rest := []) hG hR dX12_says_28 (lkX12_211 _ rfl) okV_X12_isLetter rfl rfl (m_isLetter (d := 3) (by decide) ek27 (by omega)) rfl rfl hdd (Nat.le_refl _) (Nat.le_refl _) (by decide) (pm_ki (fun v28 σ' cnt' hq => ?_))
          obtain ⟨hq, rfl, rfl⟩ := hq
          rcases hq with ⟨rfl, k30, hk30, ek30⟩ | rfl
          · refine pm_ifN_ne (tgt := 40) hG dX12_says_31 rfl (by omega) (fun _ => ?_) (fun q => absurd q (by omega))
            refine pm_aloadn hG dX12_says_40 rfl ?_
            refine pm_iloadn hG dX12_says_41 rfl ?_
            refine pm_top (v := nI k4) ek4 ?_
            refine pm_iloadn hG dX12_says_42 rfl ?_
            refine pm_top (v := nI k22) ek22 ?_
            refine pm_iloadn hG dX12_says_43 rfl ?_
            refine pm_top (v := nI k30) ek30 ?_
            refine pm_aloadn hG dX12_says_44 rfl ?_
            refine pm_getf hG dX12_says_45 (flX12_7 _ rfl) rfl rfl ?_
            refine pm_bipush (v := nI 8) hG dX12_says_48 (by decide) ?_
            refine pm_ialdN hG dX12_says_50 rfl (by decide) (by omega) ?_
            obtain ⟨k31, hk31, ek31⟩ := KI.nat hn (show kd 8 = (1, 2001, false) by decide)
            refine pm_top (v := nI k31) ek31 ?_
            refine pm_callV (As := [.int (nI k4), .int (nI k22), .int (nI k30), .int (nI k31)]) (rest := []) hG hR dX12_says_51 (lkX12_214 _ rfl) okV_X12_comesTo rfl rfl (m_comesTo_n12_n20_n40 (d := 3) (by decide) hn hr hz (by omega) (by omega) (by omega)) rfl rfl hdd (Nat.le_refl _) (Nat.le_refl _) (by decide) (pm_ki (fun v32 σ' cnt' hq => ?_))
            obtain ⟨⟨I33, A33, rfl⟩, rfl⟩ := hq
            exact pm_iret hG hF dX12_says_54 rfl (Nat.le_refl _) (Nat.le_refl _) ⟨_, rfl, ⟨_, _, rfl⟩, rfl⟩
          · refine pm_ifN_ne (tgt := 40) hG dX12_says_31 rfl (by omega) (fun q => absurd q (by omega)) (fun _ => ?_)
            refine pm_aloadn hG dX12_says_34 rfl ?_
            refine pm_iconst (v := nI 1) hG dX12_says_35 (by decide) ?_
            refine pm_callV (As := [.int (nI 1)]) (rest := []) hG hR dX12_says_36 (lkX12_80 _ rfl) okV_X12_finds rfl rfl (m_finds (d := 3) (by decide) hn hz (by omega)) rfl rfl hdd (Nat.le_refl _) (Nat.le_refl _) (by decide) (pm_ki (fun v34 σ' cnt' hq => ?_))
            obtain ⟨⟨I35, A35, rfl⟩, rfl, fv34⟩ := hq
            exact pm_iret hG hF dX12_says_39 rfl (Nat.le_refl _) (Nat.le_refl _) ⟨_, rfl, ⟨_, _, rfl⟩, rfl⟩
      · refine pm_ifN_eq (tgt := 34) hG dX12_says_18 rfl (by omega) (fun _ => ?_) (fun q => absurd q (by omega))
        refine pm_aloadn hG dX12_says_34 rfl ?_
        refine pm_iconst (v := nI 1) hG dX12_says_35 (by decide) ?_
        refine pm_callV (As := [.int (nI 1)]) (rest := []) hG hR dX12_says_36 (lkX12_80 _ rfl) okV_X12_finds rfl rfl (m_finds (d := 3) (by decide) hn hz (by omega)) rfl rfl hdd (Nat.le_refl _) (Nat.le_refl _) (by decide) (pm_ki (fun v36 σ' cnt' hq => ?_))
        obtain ⟨⟨I37, A37, rfl⟩, rfl, fv36⟩ := hq
        exact pm_iret hG hF dX12_says_39 rfl (Nat.le_refl _) (Nat.le_refl _) ⟨_, rfl, ⟨_, _, rfl⟩, rfl⟩
  · refine pm_ifN_eq (tgt := 34) hG dX12_says_5 rfl (by omega) (fun _ => ?_) (fun q => absurd q (by omega))
    refine pm_aloadn hG dX12_says_34 rfl ?_
    refine pm_iconst (v := nI 1) hG dX12_says_35 (by decide) ?_
    refine pm_callV (As := [.int (nI 1)]) (rest := []) hG hR dX12_says_36 (lkX12_80 _ rfl) okV_X12_finds rfl rfl (m_finds (d := 3) (by decide) hn hz (by omega)) rfl rfl hdd (Nat.le_refl _) (Nat.le_refl _) (by decide) (pm_ki (fun v38 σ' cnt' hq => ?_))
    obtain ⟨⟨I39, A39, rfl⟩, rfl, fv38⟩ := hq
    exact pm_iret hG hF dX12_says_39 rfl (Nat.le_refl _) (Nat.le_refl _) ⟨_, rfl, ⟨_, _, rfl⟩, rfl⟩

set_option maxRecDepth 100000 in
set_option maxHeartbeats 4000000 in
theorem m_send {d B cnt p0 t0 : Nat} {σ : pm_S} {I : Nat → Int32} {A : Nat → Nat → Int32} {n k z : Nat → Int32} {ac wt pl im : Int32} {za zb : Int32} (hdd : 3 ≤ d) (hn : KI n) (hr : NR n) (hz : SZ z)  : pm_met mX12_send d 0 0 B [.ref (B + 54), .int za, .int zb] cnt (pm_mid σ (md_L B I A n k z ac wt pl (nI p0) (nI t0) im)) (pm_Qi (fun v σ' cnt' => (∃ (I' : Nat → Int32) (A' : Nat → Nat → Int32) (n' : Nat → Int32), σ' = pm_mid σ (md_L B I' A' n' k z ac wt pl (nI p0) (nI t0) im) ∧ KI n' ∧ NR n' ∧ n' 0 = n 0 ∧ n' 2 = n 2 ∧ n' 7 = n 7 ∧ n' 8 = n 8 ∧ KS n' n) ∧ cnt = cnt')) := by
  obtain ⟨kc0, hkc0, ekc0⟩ := KI.nat hn (show kd 0 = (1, 11, true) by decide)
  obtain ⟨kc2, hkc2, ekc2⟩ := KI.nat hn (show kd 2 = (1, 21, true) by decide)
  obtain ⟨kc7, hkc7, ekc7⟩ := KI.nat hn (show kd 7 = (1, 31, false) by decide)
  obtain ⟨kc8, hkc8, ekc8⟩ := KI.nat hn (show kd 8 = (1, 2001, false) by decide)
  refine pm_enter 1 (by decide) (Nat.le_of_ble_eq_true rfl) rfl (fun G hG hR hF => ?_)
  refine pm_aloadn hG dX12_send_0 rfl ?_
  refine pm_iloadn hG dX12_send_1 rfl ?_
  obtain ⟨k1, hk1, ek1⟩ := KI.nat hn (show kd 5 = (1, 41, true) by decide)
  refine pm_callV (As := [.int za]) (rest := []) hG hR dX12_send_2 (lkX12_211 _ rfl) okV_X12_isLetter rfl rfl (m_isLetter (d := 2) (by decide) ek1 (by omega)) rfl rfl hdd (Nat.le_refl _) (Nat.le_refl _) (by decide) (pm_ki (fun v2 σ' cnt' hq => ?_))
  obtain ⟨hq, rfl, rfl⟩ := hq
  rcases hq with ⟨rfl, k4, hk4, ek4⟩ | rfl
  · refine pm_ifN_eq (tgt := 16) hG dX12_send_5 rfl (by omega) (fun q => absurd q (by omega)) (fun _ => ?_)
    refine pm_aloadn hG dX12_send_8 rfl ?_
    refine pm_iloadn hG dX12_send_9 rfl ?_
    refine pm_callV (As := [.int zb]) (rest := []) hG hR dX12_send_10 (lkX12_91 _ rfl) okV_X12_isPerson rfl rfl (m_isPerson (d := 2) (by decide) ekc2 (by omega)) rfl rfl hdd (Nat.le_refl _) (Nat.le_refl _) (by decide) (pm_ki (fun v5 σ' cnt' hq => ?_))
    obtain ⟨hq, rfl, rfl⟩ := hq
    rcases hq with ⟨rfl, k7, hk7, ek7⟩ | ⟨rfl, ntk7⟩
    · refine pm_ifN_ne (tgt := 22) hG dX12_send_13 rfl (by omega) (fun _ => ?_) (fun q => absurd q (by omega))
      refine pm_aloadn hG dX12_send_22 rfl ?_
      refine pm_iloadn hG dX12_send_23 rfl ?_
      refine pm_top (v := nI k4) ek4 ?_
      refine pm_iconst (v := nI 4) hG dX12_send_24 (by decide) ?_
      refine pm_callV (As := [.int (nI k4), .int (nI 4)]) (rest := []) hG hR dX12_send_25 (lkX12_199 _ rfl) okV_X12_of rfl rfl (m_of (d := 2) (e := 12 * k4 + 1294) (by omega) (by omega) (by omega)) rfl rfl hdd (Nat.le_refl _) (Nat.le_refl _) (by decide) (pm_ki (fun v8 σ' cnt' hq => ?_))
      obtain ⟨rfl, rfl, rfl⟩ := hq
      rcases KI.opt hn (show kd (12 * k4 + 1294) = (2, 20, true) from (kd_E (k := k4) (c := 4) (by omega) (by omega) (by decide))) with ek9 | ⟨k9, hk9, ek9⟩
      · refine pm_top (v := (-1)) ek9 ?_
        refine pm_if_ge (tgt := 48) hG dX12_send_28 rfl (fun q => absurd q (by decide)) (fun _ => ?_)
        refine pm_aloadn hG dX12_send_31 rfl ?_
        refine pm_iloadn hG dX12_send_32 rfl ?_
        refine pm_top (v := nI k7) ek7 ?_
        rcases KI.opt hn (show kd (14 * k7 + 119) = (2, 2001, false) from (kd_P (k := k7) (c := 9) (by omega) (by omega) (by decide))) with ek10 | ⟨k10, hk10, ek10⟩
        · refine pm_callV (As := [.int (nI k7)]) (rest := []) hG hR dX12_send_33 (lkX12_101 _ rfl) okV_X12_lives rfl rfl (m_lives1 (d := 2) (by decide) (by omega) (by omega : 14 * k7 + 119 = 14 * k7 + 119) ek10) rfl rfl hdd (Nat.le_refl _) (Nat.le_refl _) (by decide) (pm_ki (fun v11 σ' cnt' hq => ?_))
          obtain ⟨rfl, rfl, rfl⟩ := hq
          refine pm_ifN_eq (tgt := 48) hG dX12_send_36 rfl (by omega) (fun q => absurd q (by omega)) (fun _ => ?_)
          refine pm_aloadn hG dX12_send_39 rfl ?_
          refine pm_iloadn hG dX12_send_40 rfl ?_
          refine pm_top (v := nI k7) ek7 ?_
          refine pm_iconst (v := nI 4) hG dX12_send_41 (by decide) ?_
          refine pm_callV (As := [.int (nI k7), .int (nI 4)]) (rest := []) hG hR dX12_send_42 (lkX12_72 _ rfl) okV_X12_man rfl rfl (m_man (d := 2) (e := 14 * k7 + 114) (by omega) (by omega) (by omega)) rfl rfl hdd (Nat.le_refl _) (Nat.le_refl _) (by decide) (pm_ki (fun v12 σ' cnt' hq => ?_))
          obtain ⟨rfl, rfl, rfl⟩ := hq
          rcases KI.opt hn (show kd (14 * k7 + 114) = (2, 10, false) from (kd_P (k := k7) (c := 4) (by omega) (by omega) (by decide))) with ek13 | ⟨k13, hk13, ek13⟩
          · refine pm_top (v := (-1)) ek13 ?_
            refine pm_if_ge (tgt := 54) hG dX12_send_45 rfl (fun q => absurd q (by decide)) (fun _ => ?_)
            refine pm_aloadn hG dX12_send_48 rfl ?_
            refine pm_iconst (v := nI 3) hG dX12_send_49 (by decide) ?_
            refine pm_callV (As := [.int (nI 3)]) (rest := []) hG hR dX12_send_50 (lkX12_80 _ rfl) okV_X12_finds rfl rfl (m_finds (d := 2) (by decide) hn hz (by omega)) rfl rfl hdd (Nat.le_refl _) (Nat.le_refl _) (by decide) (pm_ki (fun v14 σ' cnt' hq => ?_))
            obtain ⟨⟨I15, A15, rfl⟩, rfl, fv14⟩ := hq
            exact pm_iret hG hF dX12_send_53 rfl (Nat.le_refl _) (Nat.le_refl _) ⟨_, rfl, ⟨_, _, _, rfl, hn, hr, ekc0.trans ekc0.symm, ekc2.trans ekc2.symm, ekc7.trans ekc7.symm, ekc8.trans ekc8.symm, KS.rf⟩, rfl⟩
          · refine pm_top (v := nI k13) ek13 ?_
            refine pm_ifN_ge (tgt := 54) hG dX12_send_45 rfl (by omega) ?_
            refine pm_aloadn hG dX12_send_54 rfl ?_
            refine pm_aloadn hG dX12_send_55 rfl ?_
            refine pm_iloadn hG dX12_send_56 rfl ?_
            refine pm_top (v := nI k4) ek4 ?_
            refine pm_bipush (v := nI 10) hG dX12_send_57 (by decide) ?_
            refine pm_callV (As := [.int (nI k4), .int (nI 10)]) (rest := [.ref (B + 54)]) hG hR dX12_send_59 (lkX12_199 _ rfl) okV_X12_of rfl rfl (m_of (d := 2) (e := 12 * k4 + 1300) (by omega) (by omega) (by omega)) rfl rfl hdd (Nat.le_refl _) (Nat.le_refl _) (Nat.le_of_ble_eq_true rfl) (pm_ki (fun v16 σ' cnt' hq => ?_))
            obtain ⟨rfl, rfl, rfl⟩ := hq
            obtain ⟨k17, hk17, ek17⟩ := KI.nat hn (show kd (12 * k4 + 1300) = (1, 10, false) from (kd_E (k := k4) (c := 10) (by omega) (by omega) (by decide)))
            refine pm_top (v := nI k17) ek17 ?_
            refine pm_aloadn hG dX12_send_62 rfl ?_
            refine pm_iloadn hG dX12_send_63 rfl ?_
            refine pm_top (v := nI k7) ek7 ?_
            refine pm_iconst (v := nI 4) hG dX12_send_64 (by decide) ?_
            refine pm_callV (As := [.int (nI k7), .int (nI 4)]) (rest := [.int (nI k17), .ref (B + 54)]) hG hR dX12_send_65 (lkX12_72 _ rfl) okV_X12_man rfl rfl (m_man (d := 2) (e := 14 * k7 + 114) (by omega) (by omega) (by omega)) rfl rfl hdd (Nat.le_refl _) (Nat.le_refl _) (Nat.le_of_ble_eq_true rfl) (pm_ki (fun v18 σ' cnt' hq => ?_))
            obtain ⟨rfl, rfl, rfl⟩ := hq
            refine pm_top (v := nI k13) ek13 ?_
            refine pm_callV (As := [.int (nI k17), .int (nI k13)]) (rest := []) hG hR dX12_send_68 (lkX12_88 _ rfl) okV_X12_farOf rfl rfl (m_farOf (d := 2) (by decide) hn hz (by omega)) rfl rfl hdd (Nat.le_refl _) (Nat.le_refl _) (by decide) (pm_ki (fun v19 σ' cnt' hq => ?_))
            obtain ⟨⟨I20, A20, rfl⟩, rfl⟩ := hq
            refine pm_istoreXn (loc' := [some (.ref (B + 54)), some (.int za), some (.int zb), some (.int v19)]) hG dX12_send_71 (by decide) (pm_c1b rfl) rfl ?_
            refine pm_iloadn hG dX12_send_72 rfl ?_
            refine pm_if_ge (tgt := 82) hG dX12_send_73 rfl (fun c21 => ?_) (fun c21 => ?_)
            · obtain ⟨k22, hk22, ek22⟩ := nI_of (Int32.not_lt.mpr c21)
              refine pm_aloadn hG dX12_send_82 rfl ?_
              refine pm_iloadn hG dX12_send_83 rfl ?_
              refine pm_top (v := nI k4) ek4 ?_
              refine pm_iconst (v := nI 4) hG dX12_send_84 (by decide) ?_
              refine pm_iloadn hG dX12_send_85 rfl ?_
              refine pm_top (v := nI k7) ek7 ?_
              refine pm_callV (As := [.int (nI k4), .int (nI 4), .int (nI k7)]) (rest := []) hG hR dX12_send_86 (lkX12_217 _ rfl) okV_X12_writes rfl rfl (m_writes (d := 2) (e := 12 * k4 + 1294) (by omega) (by omega) (by omega)) rfl rfl hdd (Nat.le_refl _) (Nat.le_refl _) (by decide) (pm_kv (fun σ' cnt' hq => ?_))
              obtain ⟨rfl, rfl⟩ := hq
              obtain ⟨n_23, en_23⟩ : ∃ f : Nat → Int32, f = upd n (12 * k4 + 1294) (nI k7) := ⟨_, rfl⟩
              rw [← en_23]
              have hnn_23 := KI.w en_23 hn (okv_o (show kd (12 * k4 + 1294) = (2, 20, true) from (kd_E (k := k4) (c := 4) (by omega) (by omega) (by decide))) (by omega))
              have hrn_23 := NRx.sent (l := k4) en_23 hr (by omega)
              have ksn_23 := KS.w en_23 KS.rf (by unfold tS; omega)
              have e24 : n_23 0 = nI kc0 := by rw [en_23, pk_un (by omega)]; exact ekc0
              have e25 : n_23 2 = nI kc2 := by rw [en_23, pk_un (by omega)]; exact ekc2
              have e26 : n_23 7 = nI kc7 := by rw [en_23, pk_un (by omega)]; exact ekc7
              have e27 : n_23 8 = nI kc8 := by rw [en_23, pk_un (by omega)]; exact ekc8
              have e28 : n_23 5 = nI k1 := by rw [en_23, pk_un (by omega)]; exact ek1
              have e29 : n_23 (14 * k7 + 119) = (-1) := by rw [en_23, pk_un (by omega)]; exact ek10
              have e30 : n_23 (14 * k7 + 114) = nI k13 := by rw [en_23, pk_un (by omega)]; exact ek13
              have e31 : n_23 (12 * k4 + 1300) = nI k17 := by rw [en_23, pk_un (by omega)]; exact ek17
              have e32 : n_23 (12 * k4 + 1294) = nI k7 := by rw [en_23, pk_us]
              refine pm_aloadn hG dX12_send_89 rfl ?_
              refine pm_iloadn hG dX12_send_90 rfl ?_
              refine pm_top (v := nI k4) ek4 ?_
              refine pm_iconst (v := nI 5) hG dX12_send_91 (by decide) ?_
              refine pm_aloadn hG dX12_send_92 rfl ?_
              refine pm_getf hG dX12_send_93 (flX12_7 _ rfl) rfl rfl ?_
              refine pm_bipush (v := nI 8) hG dX12_send_96 (by decide) ?_
              refine pm_ialdN hG dX12_send_98 rfl (by decide) (by omega) ?_
              refine pm_top (v := nI kc8) e27 ?_
              refine pm_iloadn hG dX12_send_99 rfl ?_
              refine pm_top (v := nI k22) ek22 ?_
              refine pm_iaddN (c := k22 + kc8) hG dX12_send_100 (by omega) ?_
              refine pm_callV (As := [.int (nI k4), .int (nI 5), .int (nI (k22 + kc8))]) (rest := []) hG hR dX12_send_101 (lkX12_217 _ rfl) okV_X12_writes rfl rfl (m_writes (d := 2) (e := 12 * k4 + 1295) (by omega) (by omega) (by omega)) rfl rfl hdd (Nat.le_refl _) (Nat.le_refl _) (by decide) (pm_kv (fun σ' cnt' hq => ?_))
              obtain ⟨rfl, rfl⟩ := hq
              obtain ⟨n_33, en_33⟩ : ∃ f : Nat → Int32, f = upd n_23 (12 * k4 + 1295) (nI (k22 + kc8)) := ⟨_, rfl⟩
              rw [← en_33]
              have hnn_33 := KI.w en_33 hnn_23 (okv_f (show kd (12 * k4 + 1295) = (0, 0, false) from (kd_E (k := k4) (c := 5) (by omega) (by omega) (by decide))))
              have hrn_33 := NRx.w en_33 hrn_23 (by rw [(show kd (12 * k4 + 1295) = (0, 0, false) from (kd_E (k := k4) (c := 5) (by omega) (by omega) (by decide)))])
              have ksn_33 := KS.w en_33 ksn_23 (by unfold tS; omega)
              have e34 : n_33 0 = nI kc0 := by rw [en_33, pk_un (by omega)]; exact e24
              have e35 : n_33 2 = nI kc2 := by rw [en_33, pk_un (by omega)]; exact e25
              have e36 : n_33 7 = nI kc7 := by rw [en_33, pk_un (by omega)]; exact e26
              have e37 : n_33 8 = nI kc8 := by rw [en_33, pk_un (by omega)]; exact e27
              have e38 : n_33 5 = nI k1 := by rw [en_33, pk_un (by omega)]; exact e28
              have e39 : n_33 (14 * k7 + 119) = (-1) := by rw [en_33, pk_un (by omega)]; exact e29
              have e40 : n_33 (14 * k7 + 114) = nI k13 := by rw [en_33, pk_un (by omega)]; exact e30
              have e41 : n_33 (12 * k4 + 1300) = nI k17 := by rw [en_33, pk_un (by omega)]; exact e31
              have e42 : n_33 (12 * k4 + 1294) = nI k7 := by rw [en_33, pk_un (by omega)]; exact e32
              have e43 : n_33 (12 * k4 + 1295) = nI (k22 + kc8) := by rw [en_33, pk_us]
              refine pm_aloadn hG dX12_send_104 rfl ?_
              refine pm_iloadn hG dX12_send_105 rfl ?_
              refine pm_top (v := nI k4) ek4 ?_
              refine pm_bipush (v := nI 10) hG dX12_send_106 (by decide) ?_
              refine pm_aloadn hG dX12_send_108 rfl ?_
              refine pm_iloadn hG dX12_send_109 rfl ?_
              refine pm_top (v := nI k7) ek7 ?_
              refine pm_iconst (v := nI 4) hG dX12_send_110 (by decide) ?_
              refine pm_callV (As := [.int (nI k7), .int (nI 4)]) (rest := [.int (nI 10), .int (nI k4), .ref (B + 54)]) hG hR dX12_send_111 (lkX12_72 _ rfl) okV_X12_man rfl rfl (m_man (d := 2) (e := 14 * k7 + 114) (by omega) (by omega) (by omega)) rfl rfl hdd (Nat.le_refl _) (Nat.le_refl _) (Nat.le_of_ble_eq_true rfl) (pm_ki (fun v44 σ' cnt' hq => ?_))
              obtain ⟨rfl, rfl, rfl⟩ := hq
              refine pm_top (v := nI k13) e40 ?_
              refine pm_callV (As := [.int (nI k4), .int (nI 10), .int (nI k13)]) (rest := []) hG hR dX12_send_114 (lkX12_217 _ rfl) okV_X12_writes rfl rfl (m_writes (d := 2) (e := 12 * k4 + 1300) (by omega) (by omega) (by omega)) rfl rfl hdd (Nat.le_refl _) (Nat.le_refl _) (by decide) (pm_kv (fun σ' cnt' hq => ?_))
              obtain ⟨rfl, rfl⟩ := hq
              obtain ⟨n_45, en_45⟩ : ∃ f : Nat → Int32, f = upd n_33 (12 * k4 + 1300) (nI k13) := ⟨_, rfl⟩
              rw [← en_45]
              have hnn_45 := KI.w en_45 hnn_33 (okv_n (show kd (12 * k4 + 1300) = (1, 10, false) from (kd_E (k := k4) (c := 10) (by omega) (by omega) (by decide))) (by omega))
              have hrn_45 := NRx.w en_45 hrn_33 (by rw [(show kd (12 * k4 + 1300) = (1, 10, false) from (kd_E (k := k4) (c := 10) (by omega) (by omega) (by decide)))])
              have ksn_45 := KS.w en_45 ksn_33 (by unfold tS; omega)
              have e46 : n_45 0 = nI kc0 := by rw [en_45, pk_un (by omega)]; exact e34
              have e47 : n_45 2 = nI kc2 := by rw [en_45, pk_un (by omega)]; exact e35
              have e48 : n_45 7 = nI kc7 := by rw [en_45, pk_un (by omega)]; exact e36
              have e49 : n_45 8 = nI kc8 := by rw [en_45, pk_un (by omega)]; exact e37
              have e50 : n_45 5 = nI k1 := by rw [en_45, pk_un (by omega)]; exact e38
              have e51 : n_45 (14 * k7 + 119) = (-1) := by rw [en_45, pk_un (by omega)]; exact e39
              have e52 : n_45 (14 * k7 + 114) = nI k13 := by rw [en_45, pk_un (by omega)]; exact e40
              have e53 : n_45 (12 * k4 + 1294) = nI k7 := by rw [en_45, pk_un (by omega)]; exact e42
              have e54 : n_45 (12 * k4 + 1295) = nI (k22 + kc8) := by rw [en_45, pk_un (by omega)]; exact e43
              have e55 : n_45 (12 * k4 + 1300) = nI k13 := by rw [en_45, pk_us]
              refine pm_aloadn hG dX12_send_117 rfl ?_
              refine pm_getf hG dX12_send_118 (flX12_7 _ rfl) rfl rfl ?_
              refine pm_bipush (v := nI 8) hG dX12_send_121 (by decide) ?_
              refine pm_ialdN hG dX12_send_123 rfl (by decide) (by omega) ?_
              refine pm_top (v := nI kc8) e49 ?_
              refine pm_iloadn hG dX12_send_124 rfl ?_
              refine pm_top (v := nI k22) ek22 ?_
              refine pm_iaddN (c := k22 + kc8) hG dX12_send_125 (by omega) ?_
              exact pm_iret hG hF dX12_send_126 rfl (Nat.le_refl _) (Nat.le_refl _) ⟨_, rfl, ⟨_, _, _, rfl, hnn_45, hrn_45, e46.trans ekc0.symm, e47.trans ekc2.symm, e48.trans ekc7.symm, e49.trans ekc8.symm, ksn_45⟩, rfl⟩
            · refine pm_aloadn hG dX12_send_76 rfl ?_
              refine pm_iconst (v := nI 2) hG dX12_send_77 (by decide) ?_
              refine pm_callV (As := [.int (nI 2)]) (rest := []) hG hR dX12_send_78 (lkX12_80 _ rfl) okV_X12_finds rfl rfl (m_finds (d := 2) (by decide) hn hz (by omega)) rfl rfl hdd (Nat.le_refl _) (Nat.le_refl _) (by decide) (pm_ki (fun v56 σ' cnt' hq => ?_))
              obtain ⟨⟨I57, A57, rfl⟩, rfl, fv56⟩ := hq
              exact pm_iret hG hF dX12_send_81 rfl (Nat.le_refl _) (Nat.le_refl _) ⟨_, rfl, ⟨_, _, _, rfl, hn, hr, ekc0.trans ekc0.symm, ekc2.trans ekc2.symm, ekc7.trans ekc7.symm, ekc8.trans ekc8.symm, KS.rf⟩, rfl⟩
        · refine pm_callV (As := [.int (nI k7)]) (rest := []) hG hR dX12_send_33 (lkX12_101 _ rfl) okV_X12_lives rfl rfl (m_lives0 (d := 2) (by decide) (by omega) (by omega : 14 * k7 + 119 = 14 * k7 + 119) ek10 (by omega)) rfl rfl hdd (Nat.le_refl _) (Nat.le_refl _) (by decide) (pm_ki (fun v58 σ' cnt' hq => ?_))
          obtain ⟨rfl, rfl, rfl⟩ := hq
          refine pm_ifN_eq (tgt := 48) hG dX12_send_36 rfl (by omega) (fun _ => ?_) (fun q => absurd q (by omega))
          refine pm_aloadn hG dX12_send_48 rfl ?_
          refine pm_iconst (v := nI 3) hG dX12_send_49 (by decide) ?_
          refine pm_callV (As := [.int (nI 3)]) (rest := []) hG hR dX12_send_50 (lkX12_80 _ rfl) okV_X12_finds rfl rfl (m_finds (d := 2) (by decide) hn hz (by omega)) rfl rfl hdd (Nat.le_refl _) (Nat.le_refl _) (by decide) (pm_ki (fun v59 σ' cnt' hq => ?_))
          obtain ⟨⟨I60, A60, rfl⟩, rfl, fv59⟩ := hq
          exact pm_iret hG hF dX12_send_53 rfl (Nat.le_refl _) (Nat.le_refl _) ⟨_, rfl, ⟨_, _, _, rfl, hn, hr, ekc0.trans ekc0.symm, ekc2.trans ekc2.symm, ekc7.trans ekc7.symm, ekc8.trans ekc8.symm, KS.rf⟩, rfl⟩
      · refine pm_top (v := nI k9) ek9 ?_
        refine pm_ifN_ge (tgt := 48) hG dX12_send_28 rfl (by omega) ?_
        refine pm_aloadn hG dX12_send_48 rfl ?_
        refine pm_iconst (v := nI 3) hG dX12_send_49 (by decide) ?_
        refine pm_callV (As := [.int (nI 3)]) (rest := []) hG hR dX12_send_50 (lkX12_80 _ rfl) okV_X12_finds rfl rfl (m_finds (d := 2) (by decide) hn hz (by omega)) rfl rfl hdd (Nat.le_refl _) (Nat.le_refl _) (by decide) (pm_ki (fun v61 σ' cnt' hq => ?_))
        obtain ⟨⟨I62, A62, rfl⟩, rfl, fv61⟩ := hq
        exact pm_iret hG hF dX12_send_53 rfl (Nat.le_refl _) (Nat.le_refl _) ⟨_, rfl, ⟨_, _, _, rfl, hn, hr, ekc0.trans ekc0.symm, ekc2.trans ekc2.symm, ekc7.trans ekc7.symm, ekc8.trans ekc8.symm, KS.rf⟩, rfl⟩
    · refine pm_ifN_ne (tgt := 22) hG dX12_send_13 rfl (by omega) (fun q => absurd q (by omega)) (fun _ => ?_)
      refine pm_aloadn hG dX12_send_16 rfl ?_
      refine pm_iconst (v := nI 1) hG dX12_send_17 (by decide) ?_
      refine pm_callV (As := [.int (nI 1)]) (rest := []) hG hR dX12_send_18 (lkX12_80 _ rfl) okV_X12_finds rfl rfl (m_finds (d := 2) (by decide) hn hz (by omega)) rfl rfl hdd (Nat.le_refl _) (Nat.le_refl _) (by decide) (pm_ki (fun v63 σ' cnt' hq => ?_))
      obtain ⟨⟨I64, A64, rfl⟩, rfl, fv63⟩ := hq
      exact pm_iret hG hF dX12_send_21 rfl (Nat.le_refl _) (Nat.le_refl _) ⟨_, rfl, ⟨_, _, _, rfl, hn, hr, ekc0.trans ekc0.symm, ekc2.trans ekc2.symm, ekc7.trans ekc7.symm, ekc8.trans ekc8.symm, KS.rf⟩, rfl⟩
  · refine pm_ifN_eq (tgt := 16) hG dX12_send_5 rfl (by omega) (fun _ => ?_) (fun q => absurd q (by omega))
    refine pm_aloadn hG dX12_send_16 rfl ?_
    refine pm_iconst (v := nI 1) hG dX12_send_17 (by decide) ?_
    refine pm_callV (As := [.int (nI 1)]) (rest := []) hG hR dX12_send_18 (lkX12_80 _ rfl) okV_X12_finds rfl rfl (m_finds (d := 2) (by decide) hn hz (by omega)) rfl rfl hdd (Nat.le_refl _) (Nat.le_refl _) (by decide) (pm_ki (fun v65 σ' cnt' hq => ?_))
    obtain ⟨⟨I66, A66, rfl⟩, rfl, fv65⟩ := hq
    exact pm_iret hG hF dX12_send_21 rfl (Nat.le_refl _) (Nat.le_refl _) ⟨_, rfl, ⟨_, _, _, rfl, hn, hr, ekc0.trans ekc0.symm, ekc2.trans ekc2.symm, ekc7.trans ekc7.symm, ekc8.trans ekc8.symm, KS.rf⟩, rfl⟩
