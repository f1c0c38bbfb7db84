set_option maxRecDepth 100000 in
set_option maxHeartbeats 4000000 in
theorem m_setNames_n20_n40 {d B cnt p0 t0 : Nat} {σ : pm_S} {I : Nat → Int32} {A : Nat → Nat → Int32} {n k z : Nat → Int32} {ac wt pl im : Int32} {y : Nat → Int32} {zc : Int32} {ba bb : Nat} (hdd : 2 ≤ d) (hn : KI n) (hz : SZ z) (hba : ba < 20) (hbb : bb < 40) : pm_met mX12_setNames d 0 0 B [.ref (B + 54), .int (nI ba), .int (nI bb), .int zc] cnt (pm_mid σ (md_L B I A n k z ac wt pl (nI p0) (nI t0) im y)) (pm_Qv (fun σ' cnt' => (∃ (I' : Nat → Int32) (A' : Nat → Nat → Int32), σ' = pm_mid σ (md_L B I' A' n k z ac wt pl (nI p0) (nI t0) im y)) ∧ cnt = cnt')) := by
  refine pm_enter 0 (by decide) (Nat.le_of_ble_eq_true rfl) rfl (fun G hG hR hF => ?_)
  refine pm_aloadn hG dX12_setNames_0 rfl ?_
  refine pm_getf hG dX12_setNames_1 (flX12_34 _ rfl) rfl rfl ?_
  refine pm_iconst (v := nI 0) hG dX12_setNames_4 (by decide) ?_
  refine pm_iloadn hG dX12_setNames_5 rfl ?_
  refine pm_ifN_ge (tgt := 13) hG dX12_setNames_6 rfl (by omega) ?_
  refine pm_iloadn hG dX12_setNames_13 rfl ?_
  refine pm_aloadn hG dX12_setNames_14 rfl ?_
  refine pm_iloadn hG dX12_setNames_15 rfl ?_
  refine pm_iconst (v := nI 1) hG dX12_setNames_16 (by decide) ?_
  refine pm_callV (As := [.int (nI ba), .int (nI 1)]) (rest := [.int zc, .int (nI 0), .ref (B + 63)]) hG hR dX12_setNames_17 (lkX12_72 _ rfl) okV_X12_man rfl rfl (m_man (d := 1) (e := 14 * ba + 111) (by omega) (by omega) (by omega)) rfl rfl hdd (Nat.le_refl _) (Nat.le_refl _) (Nat.le_of_ble_eq_true rfl) (pm_ki (fun v1 σ' cnt' hq => ?_))
  obtain ⟨rfl, rfl, rfl⟩ := hq
  refine pm_gen (fun x2 ex2 => ?_)
  refine pm_isub hG dX12_setNames_20 ?_
  refine pm_sipush (v := nI 360) hG dX12_setNames_21 (by decide) ?_
  refine pm_idiv hG dX12_setNames_24 (by decide) ?_
  refine pm_any (fun x3 => ?_)
  refine pm_iastN hG dX12_setNames_25 rfl (by decide) (by omega) ?_
  refine mdn_names (fun A_4 => ?_)
  refine pm_aloadn hG dX12_setNames_26 rfl ?_
  refine pm_getf hG dX12_setNames_27 (flX12_34 _ rfl) rfl rfl ?_
  refine pm_iconst (v := nI 1) hG dX12_setNames_30 (by decide) ?_
  refine pm_iloadn hG dX12_setNames_31 rfl ?_
  refine pm_ifN_ge (tgt := 39) hG dX12_setNames_32 rfl (by omega) ?_
  refine pm_aloadn hG dX12_setNames_39 rfl ?_
  refine pm_iloadn hG dX12_setNames_40 rfl ?_
  refine pm_iconst (v := nI 0) hG dX12_setNames_41 (by decide) ?_
  refine pm_callV (As := [.int (nI ba), .int (nI 0)]) (rest := [.int (nI 1), .ref (B + 63)]) hG hR dX12_setNames_42 (lkX12_72 _ rfl) okV_X12_man rfl rfl (m_man (d := 1) (e := 14 * ba + 110) (by omega) (by omega) (by omega)) rfl rfl hdd (Nat.le_refl _) (Nat.le_refl _) (Nat.le_of_ble_eq_true rfl) (pm_ki (fun v5 σ' cnt' hq => ?_))
  obtain ⟨rfl, rfl, rfl⟩ := hq
  refine pm_gen (fun x6 ex6 => ?_)
  refine pm_iastN hG dX12_setNames_45 rfl (by decide) (by omega) ?_
  refine mdn_names (fun A_7 => ?_)
  refine pm_aloadn hG dX12_setNames_46 rfl ?_
  refine pm_getf hG dX12_setNames_47 (flX12_34 _ rfl) rfl rfl ?_
  refine pm_iconst (v := nI 2) hG dX12_setNames_50 (by decide) ?_
  refine pm_iloadn hG dX12_setNames_51 rfl ?_
  refine pm_ifN_ge (tgt := 59) hG dX12_setNames_52 rfl (by omega) ?_
  refine pm_aloadn hG dX12_setNames_59 rfl ?_
  refine pm_iloadn hG dX12_setNames_60 rfl ?_
  refine pm_callV (As := [.int (nI ba)]) (rest := [.int (nI 2), .ref (B + 63)]) hG hR dX12_setNames_61 (lkX12_122 _ rfl) okV_X12_holdsMany rfl rfl (m_holdsMany (d := 1) (by decide) hn hz) rfl rfl hdd (Nat.le_refl _) (Nat.le_refl _) (Nat.le_of_ble_eq_true rfl) (pm_ki (fun v8 σ' cnt' hq => ?_))
  obtain ⟨rfl, rfl⟩ := hq
  refine pm_iastN hG dX12_setNames_64 rfl (by decide) (by omega) ?_
  refine mdn_names (fun A_10 => ?_)
  refine pm_aloadn hG dX12_setNames_65 rfl ?_
  refine pm_getf hG dX12_setNames_66 (flX12_34 _ rfl) rfl rfl ?_
  refine pm_iconst (v := nI 3) hG dX12_setNames_69 (by decide) ?_
  refine pm_iloadn hG dX12_setNames_70 rfl ?_
  refine pm_ifN_ge (tgt := 78) hG dX12_setNames_71 rfl (by omega) ?_
  refine pm_aloadn hG dX12_setNames_78 rfl ?_
  refine pm_iloadn hG dX12_setNames_79 rfl ?_
  refine pm_bipush (v := nI 7) hG dX12_setNames_80 (by decide) ?_
  refine pm_callV (As := [.int (nI ba), .int (nI 7)]) (rest := [.int (nI 3), .ref (B + 63)]) hG hR dX12_setNames_82 (lkX12_72 _ rfl) okV_X12_man rfl rfl (m_man (d := 1) (e := 14 * ba + 117) (by omega) (by omega) (by omega)) rfl rfl hdd (Nat.le_refl _) (Nat.le_refl _) (Nat.le_of_ble_eq_true rfl) (pm_ki (fun v11 σ' cnt' hq => ?_))
  obtain ⟨rfl, rfl, rfl⟩ := hq
  refine pm_gen (fun x12 ex12 => ?_)
  refine pm_iastN hG dX12_setNames_85 rfl (by decide) (by omega) ?_
  refine mdn_names (fun A_13 => ?_)
  refine pm_aloadn hG dX12_setNames_86 rfl ?_
  refine pm_getf hG dX12_setNames_87 (flX12_34 _ rfl) rfl rfl ?_
  refine pm_iconst (v := nI 4) hG dX12_setNames_90 (by decide) ?_
  refine pm_iloadn hG dX12_setNames_91 rfl ?_
  refine pm_ifN_ge (tgt := 99) hG dX12_setNames_92 rfl (by omega) ?_
  refine pm_aloadn hG dX12_setNames_99 rfl ?_
  refine pm_iloadn hG dX12_setNames_100 rfl ?_
  refine pm_bipush (v := nI 8) hG dX12_setNames_101 (by decide) ?_
  refine pm_callV (As := [.int (nI ba), .int (nI 8)]) (rest := [.int (nI 4), .ref (B + 63)]) hG hR dX12_setNames_103 (lkX12_72 _ rfl) okV_X12_man rfl rfl (m_man (d := 1) (e := 14 * ba + 118) (by omega) (by omega) (by omega)) rfl rfl hdd (Nat.le_refl _) (Nat.le_refl _) (Nat.le_of_ble_eq_true rfl) (pm_ki (fun v14 σ' cnt' hq => ?_))
  obtain ⟨rfl, rfl, rfl⟩ := hq
  refine pm_gen (fun x15 ex15 => ?_)
  refine pm_iastN hG dX12_setNames_106 rfl (by decide) (by omega) ?_
  refine mdn_names (fun A_16 => ?_)
  refine pm_aloadn hG dX12_setNames_107 rfl ?_
  refine pm_getf hG dX12_setNames_108 (flX12_34 _ rfl) rfl rfl ?_
  refine pm_iconst (v := nI 5) hG dX12_setNames_111 (by decide) ?_
  refine pm_iloadn hG dX12_setNames_112 rfl ?_
  refine pm_ifN_ge (tgt := 120) hG dX12_setNames_113 rfl (by omega) ?_
  refine pm_aloadn hG dX12_setNames_120 rfl ?_
  refine pm_iloadn hG dX12_setNames_121 rfl ?_
  refine pm_iconst (v := nI 4) hG dX12_setNames_122 (by decide) ?_
  refine pm_callV (As := [.int (nI ba), .int (nI 4)]) (rest := [.int (nI 5), .ref (B + 63)]) hG hR dX12_setNames_123 (lkX12_72 _ rfl) okV_X12_man rfl rfl (m_man (d := 1) (e := 14 * ba + 114) (by omega) (by omega) (by omega)) rfl rfl hdd (Nat.le_refl _) (Nat.le_refl _) (Nat.le_of_ble_eq_true rfl) (pm_ki (fun v17 σ' cnt' hq => ?_))
  obtain ⟨rfl, rfl, rfl⟩ := hq
  rcases KI.opt hn (show kd (14 * ba + 114) = (2, 10, false) from (kd_P (k := ba) (c := 4) (by omega) (by omega) (by decide))) with ek18 | ⟨k18, hk18, ek18⟩
  · refine pm_top (v := (-1)) ek18 ?_
    refine pm_if_ge (tgt := 134) hG dX12_setNames_126 rfl (fun q => absurd q (by decide)) (fun _ => ?_)
    refine pm_bipush (v := nI 10) hG dX12_setNames_129 (by decide) ?_
    refine pm_goto (tgt := 140) hG dX12_setNames_131 rfl ?_
    refine pm_iastN hG dX12_setNames_140 rfl (by decide) (by omega) ?_
    refine mdn_names (fun A_19 => ?_)
    refine pm_aloadn hG dX12_setNames_141 rfl ?_
    refine pm_getf hG dX12_setNames_142 (flX12_34 _ rfl) rfl rfl ?_
    refine pm_bipush (v := nI 6) hG dX12_setNames_145 (by decide) ?_
    refine pm_iloadn hG dX12_setNames_147 rfl ?_
    refine pm_ifN_ge (tgt := 155) hG dX12_setNames_148 rfl (by omega) ?_
    refine pm_aloadn hG dX12_setNames_155 rfl ?_
    refine pm_iloadn hG dX12_setNames_156 rfl ?_
    refine pm_callV (As := [.int (nI ba)]) (rest := [.int (nI 6), .ref (B + 63)]) hG hR dX12_setNames_157 (lkX12_125 _ rfl) okV_X12_stepsOf rfl rfl (m_stepsOf (d := 1) (by decide) hn hz (by omega)) rfl rfl hdd (Nat.le_refl _) (Nat.le_refl _) (Nat.le_of_ble_eq_true rfl) (pm_ki (fun v20 σ' cnt' hq => ?_))
    obtain ⟨⟨I21, A21, rfl⟩, rfl⟩ := hq
    refine pm_iastN hG dX12_setNames_160 rfl (by decide) (by omega) ?_
    refine mdn_names (fun A_22 => ?_)
    refine pm_aloadn hG dX12_setNames_161 rfl ?_
    refine pm_getf hG dX12_setNames_162 (flX12_34 _ rfl) rfl rfl ?_
    refine pm_bipush (v := nI 7) hG dX12_setNames_165 (by decide) ?_
    refine pm_iloadn hG dX12_setNames_167 rfl ?_
    refine pm_ifN_ge (tgt := 175) hG dX12_setNames_168 rfl (by omega) ?_
    refine pm_aloadn hG dX12_setNames_175 rfl ?_
    refine pm_iloadn hG dX12_setNames_176 rfl ?_
    refine pm_iconst (v := nI 3) hG dX12_setNames_177 (by decide) ?_
    refine pm_callV (As := [.int (nI bb), .int (nI 3)]) (rest := [.int (nI 7), .ref (B + 63)]) hG hR dX12_setNames_178 (lkX12_199 _ rfl) okV_X12_of rfl rfl (m_of (d := 1) (e := 12 * bb + 1293) (by omega) (by omega) (by omega)) rfl rfl hdd (Nat.le_refl _) (Nat.le_refl _) (Nat.le_of_ble_eq_true rfl) (pm_ki (fun v23 σ' cnt' hq => ?_))
    obtain ⟨rfl, rfl, rfl⟩ := hq
    refine pm_gen (fun x24 ex24 => ?_)
    refine pm_callS (As := [.int x24]) (rest := [.int (nI 7), .ref (B + 63)]) hG hR dX12_setNames_181 (lkX12_202 _ rfl) okS_X12_bits (m_bits (d := 1) (by decide) hn hz) rfl rfl hdd (Nat.le_refl _) (Nat.le_refl _) (Nat.le_of_ble_eq_true rfl) (pm_ki (fun v25 σ' cnt' hq => ?_))
    obtain ⟨rfl, rfl⟩ := hq
    refine pm_iastN hG dX12_setNames_184 rfl (by decide) (by omega) ?_
    refine mdn_names (fun A_27 => ?_)
    refine pm_aloadn hG dX12_setNames_185 rfl ?_
    refine pm_getf hG dX12_setNames_186 (flX12_34 _ rfl) rfl rfl ?_
    refine pm_bipush (v := nI 8) hG dX12_setNames_189 (by decide) ?_
    refine pm_iloadn hG dX12_setNames_191 rfl ?_
    refine pm_ifN_ge (tgt := 199) hG dX12_setNames_192 rfl (by omega) ?_
    refine pm_aloadn hG dX12_setNames_199 rfl ?_
    refine pm_iloadn hG dX12_setNames_200 rfl ?_
    refine pm_iconst (v := nI 1) hG dX12_setNames_201 (by decide) ?_
    refine pm_callV (As := [.int (nI bb), .int (nI 1)]) (rest := [.int (nI 8), .ref (B + 63)]) hG hR dX12_setNames_202 (lkX12_199 _ rfl) okV_X12_of rfl rfl (m_of (d := 1) (e := 12 * bb + 1291) (by omega) (by omega) (by omega)) rfl rfl hdd (Nat.le_refl _) (Nat.le_refl _) (Nat.le_of_ble_eq_true rfl) (pm_ki (fun v28 σ' cnt' hq => ?_))
    obtain ⟨rfl, rfl, rfl⟩ := hq
    refine pm_gen (fun x29 ex29 => ?_)
    refine pm_iastN hG dX12_setNames_205 rfl (by decide) (by omega) ?_
    refine mdn_names (fun A_30 => ?_)
    refine pm_aloadn hG dX12_setNames_206 rfl ?_
    refine pm_getf hG dX12_setNames_207 (flX12_34 _ rfl) rfl rfl ?_
    refine pm_bipush (v := nI 9) hG dX12_setNames_210 (by decide) ?_
    refine pm_iloadn hG dX12_setNames_212 rfl ?_
    refine pm_ifN_ge (tgt := 220) hG dX12_setNames_213 rfl (by omega) ?_
    refine pm_aloadn hG dX12_setNames_220 rfl ?_
    refine pm_iloadn hG dX12_setNames_221 rfl ?_
    refine pm_iconst (v := nI 2) hG dX12_setNames_222 (by decide) ?_
    refine pm_callV (As := [.int (nI bb), .int (nI 2)]) (rest := [.int (nI 9), .ref (B + 63)]) hG hR dX12_setNames_223 (lkX12_199 _ rfl) okV_X12_of rfl rfl (m_of (d := 1) (e := 12 * bb + 1292) (by omega) (by omega) (by omega)) rfl rfl hdd (Nat.le_refl _) (Nat.le_refl _) (Nat.le_of_ble_eq_true rfl) (pm_ki (fun v31 σ' cnt' hq => ?_))
    obtain ⟨rfl, rfl, rfl⟩ := hq
    obtain ⟨k32, hk32, ek32⟩ := KI.nat hn (show kd (12 * bb + 1292) = (1, 1000, false) from (kd_E (k := bb) (c := 2) (by omega) (by omega) (by decide)))
    refine pm_top (v := nI k32) ek32 ?_
    refine pm_iastN hG dX12_setNames_226 rfl (by decide) (by omega) ?_
    refine mdn_names (fun A_33 => ?_)
    refine pm_aloadn hG dX12_setNames_227 rfl ?_
    refine pm_getf hG dX12_setNames_228 (flX12_34 _ rfl) rfl rfl ?_
    refine pm_bipush (v := nI 10) hG dX12_setNames_231 (by decide) ?_
    refine pm_iloadn hG dX12_setNames_233 rfl ?_
    refine pm_iastN hG dX12_setNames_234 rfl (by decide) (by omega) ?_
    refine mdn_names (fun A_34 => ?_)
    exact pm_vret hG hF dX12_setNames_235 rfl (Nat.le_refl _) (Nat.le_refl _) ⟨rfl, ⟨_, _, rfl⟩, rfl⟩
  · refine pm_top (v := nI k18) ek18 ?_
    refine pm_ifN_ge (tgt := 134) hG dX12_setNames_126 rfl (by omega) ?_
    refine pm_aloadn hG dX12_setNames_134 rfl ?_
    refine pm_iloadn hG dX12_setNames_135 rfl ?_
    refine pm_iconst (v := nI 4) hG dX12_setNames_136 (by decide) ?_
    refine pm_callV (As := [.int (nI ba), .int (nI 4)]) (rest := [.int (nI 5), .ref (B + 63)]) hG hR dX12_setNames_137 (lkX12_72 _ rfl) okV_X12_man rfl rfl (m_man (d := 1) (e := 14 * ba + 114) (by omega) (by omega) (by omega)) rfl rfl hdd (Nat.le_refl _) (Nat.le_refl _) (Nat.le_of_ble_eq_true rfl) (pm_ki (fun v35 σ' cnt' hq => ?_))
    obtain ⟨rfl, rfl, rfl⟩ := hq
    refine pm_top (v := nI k18) ek18 ?_
    refine pm_iastN hG dX12_setNames_140 rfl (by decide) (by omega) ?_
    refine mdn_names (fun A_36 => ?_)
    refine pm_aloadn hG dX12_setNames_141 rfl ?_
    refine pm_getf hG dX12_setNames_142 (flX12_34 _ rfl) rfl rfl ?_
    refine pm_bipush (v := nI 6) hG dX12_setNames_145 (by decide) ?_
    refine pm_iloadn hG dX12_setNames_147 rfl ?_
    refine pm_ifN_ge (tgt := 155) hG dX12_setNames_148 rfl (by omega) ?_
    refine pm_aloadn hG dX12_setNames_155 rfl ?_
    refine pm_iloadn hG dX12_setNames_156 rfl ?_
    refine pm_callV (As := [.int (nI ba)]) (rest := [.int (nI 6), .ref (B + 63)]) hG hR dX12_setNames_157 (lkX12_125 _ rfl) okV_X12_stepsOf rfl rfl (m_stepsOf (d := 1) (by decide) hn hz (by omega)) rfl rfl hdd (Nat.le_refl _) (Nat.le_refl _) (Nat.le_of_ble_eq_true rfl) (pm_ki (fun v37 σ' cnt' hq => ?_))
    obtain ⟨⟨I38, A38, rfl⟩, rfl⟩ := hq
    refine pm_iastN hG dX12_setNames_160 rfl (by decide) (by omega) ?_
    refine mdn_names (fun A_39 => ?_)
    refine pm_aloadn hG dX12_setNames_161 rfl ?_
    refine pm_getf hG dX12_setNames_162 (flX12_34 _ rfl) rfl rfl ?_
    refine pm_bipush (v := nI 7) hG dX12_setNames_165 (by decide) ?_
    refine pm_iloadn hG dX12_setNames_167 rfl ?_
    refine pm_ifN_ge (tgt := 175) hG dX12_setNames_168 rfl (by omega) ?_
    refine pm_aloadn hG dX12_setNames_175 rfl ?_
    refine pm_iloadn hG dX12_setNames_176 rfl ?_
    refine pm_iconst (v := nI 3) hG dX12_setNames_177 (by decide) ?_
    refine pm_callV (As := [.int (nI bb), .int (nI 3)]) (rest := [.int (nI 7), .ref (B + 63)]) hG hR dX12_setNames_178 (lkX12_199 _ rfl) okV_X12_of rfl rfl (m_of (d := 1) (e := 12 * bb + 1293) (by omega) (by omega) (by omega)) rfl rfl hdd (Nat.le_refl _) (Nat.le_refl _) (Nat.le_of_ble_eq_true rfl) (pm_ki (fun v40 σ' cnt' hq => ?_))
    obtain ⟨rfl, rfl, rfl⟩ := hq
    refine pm_gen (fun x41 ex41 => ?_)
    refine pm_callS (As := [.int x41]) (rest := [.int (nI 7), .ref (B + 63)]) hG hR dX12_setNames_181 (lkX12_202 _ rfl) okS_X12_bits (m_bits (d := 1) (by decide) hn hz) rfl rfl hdd (Nat.le_refl _) (Nat.le_refl _) (Nat.le_of_ble_eq_true rfl) (pm_ki (fun v42 σ' cnt' hq => ?_))
    obtain ⟨rfl, rfl⟩ := hq
    refine pm_iastN hG dX12_setNames_184 rfl (by decide) (by omega) ?_
    refine mdn_names (fun A_44 => ?_)
    refine pm_aloadn hG dX12_setNames_185 rfl ?_
    refine pm_getf hG dX12_setNames_186 (flX12_34 _ rfl) rfl rfl ?_
    refine pm_bipush (v := nI 8) hG dX12_setNames_189 (by decide) ?_
    refine pm_iloadn hG dX12_setNames_191 rfl ?_
    refine pm_ifN_ge (tgt := 199) hG dX12_setNames_192 rfl (by omega) ?_
    refine pm_aloadn hG dX12_setNames_199 rfl ?_
    refine pm_iloadn hG dX12_setNames_200 rfl ?_
    refine pm_iconst (v := nI 1) hG dX12_setNames_201 (by decide) ?_
    refine pm_callV (As := [.int (nI bb), .int (nI 1)]) (rest := [.int (nI 8), .ref (B + 63)]) hG hR dX12_setNames_202 (lkX12_199 _ rfl) okV_X12_of rfl rfl (m_of (d := 1) (e := 12 * bb + 1291) (by omega) (by omega) (by omega)) rfl rfl hdd (Nat.le_refl _) (Nat.le_refl _) (Nat.le_of_ble_eq_true rfl) (pm_ki (fun v45 σ' cnt' hq => ?_))
    obtain ⟨rfl, rfl, rfl⟩ := hq
    refine pm_gen (fun x46 ex46 => ?_)
    refine pm_iastN hG dX12_setNames_205 rfl (by decide) (by omega) ?_
    refine mdn_names (fun A_47 => ?_)
    refine pm_aloadn hG dX12_setNames_206 rfl ?_
    refine pm_getf hG dX12_setNames_207 (flX12_34 _ rfl) rfl rfl ?_
    refine pm_bipush (v := nI 9) hG dX12_setNames_210 (by decide) ?_
    refine pm_iloadn hG dX12_setNames_212 rfl ?_
    refine pm_ifN_ge (tgt := 220) hG dX12_setNames_213 rfl (by omega) ?_
    refine pm_aloadn hG dX12_setNames_220 rfl ?_
    refine pm_iloadn hG dX12_setNames_221 rfl ?_
    refine pm_iconst (v := nI 2) hG dX12_setNames_222 (by decide) ?_
    refine pm_callV (As := [.int (nI bb), .int (nI 2)]) (rest := [.int (nI 9), .ref (B + 63)]) hG hR dX12_setNames_223 (lkX12_199 _ rfl) okV_X12_of rfl rfl (m_of (d := 1) (e := 12 * bb + 1292) (by omega) (by omega) (by omega)) rfl rfl hdd (Nat.le_refl _) (Nat.le_refl _) (Nat.le_of_ble_eq_true rfl) (pm_ki (fun v48 σ' cnt' hq => ?_))
    obtain ⟨rfl, rfl, rfl⟩ := hq
    obtain ⟨k49, hk49, ek49⟩ := KI.nat hn (show kd (12 * bb + 1292) = (1, 1000, false) from (kd_E (k := bb) (c := 2) (by omega) (by omega) (by decide)))
    refine pm_top (v := nI k49) ek49 ?_
    refine pm_iastN hG dX12_setNames_226 rfl (by decide) (by omega) ?_
    refine mdn_names (fun A_50 => ?_)
    refine pm_aloadn hG dX12_setNames_227 rfl ?_
    refine pm_getf hG dX12_setNames_228 (flX12_34 _ rfl) rfl rfl ?_
    refine pm_bipush (v := nI 10) hG dX12_setNames_231 (by decide) ?_
    refine pm_iloadn hG dX12_setNames_233 rfl ?_
    refine pm_iastN hG dX12_setNames_234 rfl (by decide) (by omega) ?_
    refine mdn_names (fun A_51 => ?_)
    exact pm_vret hG hF dX12_setNames_235 rfl (Nat.le_refl _) (Nat.le_refl _) ⟨rfl, ⟨_, _, rfl⟩, rfl⟩
