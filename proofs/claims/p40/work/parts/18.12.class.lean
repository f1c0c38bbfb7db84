set_option maxRecDepth 100000 in
set_option maxHeartbeats 4000000 in
theorem g_X11_letter {ε : Nat → Int32} {d B cnt : Nat} {kp : Value} {ρ : pm_S} {I : Nat → Int32} {A : Nat → Nat → Int32} {za zb : Int32} (hdd : 1 ≤ d) (h : gq ε I) : pm_met mX11_letter d 0 0 B [.ref (B + 0), .int za, .int zb] cnt (pm_two (cl_L B kp I A) ρ) (pm_Qi (fun _ σ' cnt' => hvq ε B kp ρ cnt σ' cnt')) := by
  refine pm_enter 0 (by decide) (Nat.le_of_ble_eq_true rfl) rfl (fun G hG hR hF => ?_)
  refine pm_aloadn hG dX11_letter_0 rfl ?_
  refine pm_getf hG dX11_letter_1 (flX11_12 _ rfl) rfl rfl ?_
  refine pm_getf hG dX11_letter_4 (flX11_224 _ rfl) rfl rfl ?_
  refine pm_iloadn hG dX11_letter_7 rfl ?_
  refine pm_callV (As := [.int za]) (rest := []) hG hR dX11_letter_8 (lkX11_101 _ rfl) okV_X9_has rfl rfl (tb_has (d := 0) rfl) rfl rfl hdd (Nat.le_refl _) (Nat.le_refl _) (by decide) (pm_ki (fun v1 σ' cnt' hq => ?_))
  have b1 := pm_b01 hq.1
  obtain ⟨I1, A1, rfl, rfl, h1⟩ := hv_id (kp := kp) (I := I) (A := A) h hq.2
  refine pm_if_ne (tgt := 21) hG dX11_letter_11 rfl (fun c2 => ?_) (fun c2 => ?_)
  · refine pm_iloadn hG dX11_letter_21 rfl ?_
    by_cases c3 : zb = 0
    · refine pm_top (v := 0) c3 ?_
      refine pm_tswIn (tgt := 76) hG dX11_letter_22 (by decide) (by decide) rfl rfl ?_
      refine pm_aloadn hG dX11_letter_76 rfl ?_
      refine pm_getf hG dX11_letter_77 (flX11_12 _ rfl) rfl rfl ?_
      refine pm_getf hG dX11_letter_80 (flX11_224 _ rfl) rfl rfl ?_
      refine pm_iloadn hG dX11_letter_83 rfl ?_
      refine pm_iconst (v := 0) hG dX11_letter_84 (by decide) ?_
      refine pm_callV (As := [.int za, .int 0]) (rest := []) hG hR dX11_letter_85 (lkX11_152 _ rfl) okV_X9_get rfl rfl (tb_get (d := 0) rfl rfl (pm_tw_of 40 12 (by decide) (by decide) (by decide))) rfl rfl hdd (Nat.le_refl _) (Nat.le_refl _) (by decide) (pm_ki (fun v4 σ' cnt' hq => ?_))
      obtain ⟨I4, A4, rfl, rfl, h4⟩ := hv_id (kp := kp) (I := I1) (A := A1) h1 hq.2
      exact pm_iret hG hF dX11_letter_88 rfl (Nat.le_refl _) (Nat.le_refl _) ⟨_, rfl, _, _, rfl, rfl, h4⟩
    by_cases c5 : zb = 1
    · refine pm_top (v := 1) c5 ?_
      refine pm_tswIn (tgt := 89) hG dX11_letter_22 (by decide) (by decide) rfl rfl ?_
      refine pm_aloadn hG dX11_letter_89 rfl ?_
      refine pm_getf hG dX11_letter_90 (flX11_12 _ rfl) rfl rfl ?_
      refine pm_getf hG dX11_letter_93 (flX11_224 _ rfl) rfl rfl ?_
      refine pm_iloadn hG dX11_letter_96 rfl ?_
      refine pm_iconst (v := 1) hG dX11_letter_97 (by decide) ?_
      refine pm_callV (As := [.int za, .int 1]) (rest := []) hG hR dX11_letter_98 (lkX11_152 _ rfl) okV_X9_get rfl rfl (tb_get (d := 0) rfl rfl (pm_tw_of 40 12 (by decide) (by decide) (by decide))) rfl rfl hdd (Nat.le_refl _) (Nat.le_refl _) (by decide) (pm_ki (fun v6 σ' cnt' hq => ?_))
      obtain ⟨I6, A6, rfl, rfl, h6⟩ := hv_id (kp := kp) (I := I1) (A := A1) h1 hq.2
      exact pm_iret hG hF dX11_letter_101 rfl (Nat.le_refl _) (Nat.le_refl _) ⟨_, rfl, _, _, rfl, rfl, h6⟩
    by_cases c7 : zb = 2
    · refine pm_top (v := 2) c7 ?_
      refine pm_tswIn (tgt := 102) hG dX11_letter_22 (by decide) (by decide) rfl rfl ?_
      refine pm_aloadn hG dX11_letter_102 rfl ?_
      refine pm_getf hG dX11_letter_103 (flX11_12 _ rfl) rfl rfl ?_
      refine pm_getf hG dX11_letter_106 (flX11_224 _ rfl) rfl rfl ?_
      refine pm_iloadn hG dX11_letter_109 rfl ?_
      refine pm_iconst (v := 2) hG dX11_letter_110 (by decide) ?_
      refine pm_callV (As := [.int za, .int 2]) (rest := []) hG hR dX11_letter_111 (lkX11_152 _ rfl) okV_X9_get rfl rfl (tb_get (d := 0) rfl rfl (pm_tw_of 40 12 (by decide) (by decide) (by decide))) rfl rfl hdd (Nat.le_refl _) (Nat.le_refl _) (by decide) (pm_ki (fun v8 σ' cnt' hq => ?_))
      obtain ⟨I8, A8, rfl, rfl, h8⟩ := hv_id (kp := kp) (I := I1) (A := A1) h1 hq.2
      exact pm_iret hG hF dX11_letter_114 rfl (Nat.le_refl _) (Nat.le_refl _) ⟨_, rfl, _, _, rfl, rfl, h8⟩
    by_cases c9 : zb = 3
    · refine pm_top (v := 3) c9 ?_
      refine pm_tswIn (tgt := 115) hG dX11_letter_22 (by decide) (by decide) rfl rfl ?_
      refine pm_aloadn hG dX11_letter_115 rfl ?_
      refine pm_getf hG dX11_letter_116 (flX11_12 _ rfl) rfl rfl ?_
      refine pm_getf hG dX11_letter_119 (flX11_224 _ rfl) rfl rfl ?_
      refine pm_iloadn hG dX11_letter_122 rfl ?_
      refine pm_iconst (v := 4) hG dX11_letter_123 (by decide) ?_
      refine pm_callV (As := [.int za, .int 4]) (rest := []) hG hR dX11_letter_124 (lkX11_152 _ rfl) okV_X9_get rfl rfl (tb_get (d := 0) rfl rfl (pm_tw_of 40 12 (by decide) (by decide) (by decide))) rfl rfl hdd (Nat.le_refl _) (Nat.le_refl _) (by decide) (pm_ki (fun v10 σ' cnt' hq => ?_))
      obtain ⟨I10, A10, rfl, rfl, h10⟩ := hv_id (kp := kp) (I := I1) (A := A1) h1 hq.2
      exact pm_iret hG hF dX11_letter_127 rfl (Nat.le_refl _) (Nat.le_refl _) ⟨_, rfl, _, _, rfl, rfl, h10⟩
    by_cases c11 : zb = 4
    · refine pm_top (v := 4) c11 ?_
      refine pm_tswIn (tgt := 128) hG dX11_letter_22 (by decide) (by decide) rfl rfl ?_
      refine pm_aloadn hG dX11_letter_128 rfl ?_
      refine pm_getf hG dX11_letter_129 (flX11_12 _ rfl) rfl rfl ?_
      refine pm_getf hG dX11_letter_132 (flX11_224 _ rfl) rfl rfl ?_
      refine pm_iloadn hG dX11_letter_135 rfl ?_
      refine pm_bipush (v := 6) hG dX11_letter_136 (by decide) ?_
      refine pm_callV (As := [.int za, .int 6]) (rest := []) hG hR dX11_letter_138 (lkX11_152 _ rfl) okV_X9_get rfl rfl (tb_get (d := 0) rfl rfl (pm_tw_of 40 12 (by decide) (by decide) (by decide))) rfl rfl hdd (Nat.le_refl _) (Nat.le_refl _) (by decide) (pm_ki (fun v12 σ' cnt' hq => ?_))
      obtain ⟨I12, A12, rfl, rfl, h12⟩ := hv_id (kp := kp) (I := I1) (A := A1) h1 hq.2
      exact pm_iret hG hF dX11_letter_141 rfl (Nat.le_refl _) (Nat.le_refl _) ⟨_, rfl, _, _, rfl, rfl, h12⟩
    by_cases c13 : zb = 5
    · refine pm_top (v := 5) c13 ?_
      refine pm_tswIn (tgt := 142) hG dX11_letter_22 (by decide) (by decide) rfl rfl ?_
      refine pm_aloadn hG dX11_letter_142 rfl ?_
      refine pm_getf hG dX11_letter_143 (flX11_12 _ rfl) rfl rfl ?_
      refine pm_getf hG dX11_letter_146 (flX11_224 _ rfl) rfl rfl ?_
      refine pm_iloadn hG dX11_letter_149 rfl ?_
      refine pm_bipush (v := 8) hG dX11_letter_150 (by decide) ?_
      refine pm_callV (As := [.int za, .int 8]) (rest := []) hG hR dX11_letter_152 (lkX11_152 _ rfl) okV_X9_get rfl rfl (tb_get (d := 0) rfl rfl (pm_tw_of 40 12 (by decide) (by decide) (by decide))) rfl rfl hdd (Nat.le_refl _) (Nat.le_refl _) (by decide) (pm_ki (fun v14 σ' cnt' hq => ?_))
      obtain ⟨I14, A14, rfl, rfl, h14⟩ := hv_id (kp := kp) (I := I1) (A := A1) h1 hq.2
      exact pm_iret hG hF dX11_letter_155 rfl (Nat.le_refl _) (Nat.le_refl _) ⟨_, rfl, _, _, rfl, rfl, h14⟩
    by_cases c15 : zb = 6
    · refine pm_top (v := 6) c15 ?_
      refine pm_tswIn (tgt := 156) hG dX11_letter_22 (by decide) (by decide) rfl rfl ?_
      refine pm_aloadn hG dX11_letter_156 rfl ?_
      refine pm_getf hG dX11_letter_157 (flX11_12 _ rfl) rfl rfl ?_
      refine pm_getf hG dX11_letter_160 (flX11_224 _ rfl) rfl rfl ?_
      refine pm_iloadn hG dX11_letter_163 rfl ?_
      refine pm_bipush (v := 9) hG dX11_letter_164 (by decide) ?_
      refine pm_callV (As := [.int za, .int 9]) (rest := []) hG hR dX11_letter_166 (lkX11_152 _ rfl) okV_X9_get rfl rfl (tb_get (d := 0) rfl rfl (pm_tw_of 40 12 (by decide) (by decide) (by decide))) rfl rfl hdd (Nat.le_refl _) (Nat.le_refl _) (by decide) (pm_ki (fun v16 σ' cnt' hq => ?_))
      obtain ⟨I16, A16, rfl, rfl, h16⟩ := hv_id (kp := kp) (I := I1) (A := A1) h1 hq.2
      exact pm_iret hG hF dX11_letter_169 rfl (Nat.le_refl _) (Nat.le_refl _) ⟨_, rfl, _, _, rfl, rfl, h16⟩
    by_cases c17 : zb = 7
    · refine pm_top (v := 7) c17 ?_
      refine pm_tswIn (tgt := 170) hG dX11_letter_22 (by decide) (by decide) rfl rfl ?_
      refine pm_aloadn hG dX11_letter_170 rfl ?_
      refine pm_getf hG dX11_letter_171 (flX11_12 _ rfl) rfl rfl ?_
      refine pm_getf hG dX11_letter_174 (flX11_224 _ rfl) rfl rfl ?_
      refine pm_iloadn hG dX11_letter_177 rfl ?_
      refine pm_bipush (v := 10) hG dX11_letter_178 (by decide) ?_
      refine pm_callV (As := [.int za, .int 10]) (rest := []) hG hR dX11_letter_180 (lkX11_152 _ rfl) okV_X9_get rfl rfl (tb_get (d := 0) rfl rfl (pm_tw_of 40 12 (by decide) (by decide) (by decide))) rfl rfl hdd (Nat.le_refl _) (Nat.le_refl _) (by decide) (pm_ki (fun v18 σ' cnt' hq => ?_))
      obtain ⟨I18, A18, rfl, rfl, h18⟩ := hv_id (kp := kp) (I := I1) (A := A1) h1 hq.2
      exact pm_iret hG hF dX11_letter_183 rfl (Nat.le_refl _) (Nat.le_refl _) ⟨_, rfl, _, _, rfl, rfl, h18⟩
    by_cases c19 : zb = 8
    · refine pm_top (v := 8) c19 ?_
      refine pm_tswIn (tgt := 184) hG dX11_letter_22 (by decide) (by decide) rfl rfl ?_
      refine pm_aloadn hG dX11_letter_184 rfl ?_
      refine pm_getf hG dX11_letter_185 (flX11_12 _ rfl) rfl rfl ?_
      refine pm_getf hG dX11_letter_188 (flX11_224 _ rfl) rfl rfl ?_
      refine pm_iloadn hG dX11_letter_191 rfl ?_
      refine pm_bipush (v := 11) hG dX11_letter_192 (by decide) ?_
      refine pm_callV (As := [.int za, .int 11]) (rest := []) hG hR dX11_letter_194 (lkX11_152 _ rfl) okV_X9_get rfl rfl (tb_get (d := 0) rfl rfl (pm_tw_of 40 12 (by decide) (by decide) (by decide))) rfl rfl hdd (Nat.le_refl _) (Nat.le_refl _) (by decide) (pm_ki (fun v20 σ' cnt' hq => ?_))
      obtain ⟨I20, A20, rfl, rfl, h20⟩ := hv_id (kp := kp) (I := I1) (A := A1) h1 hq.2
      exact pm_iret hG hF dX11_letter_197 rfl (Nat.le_refl _) (Nat.le_refl _) ⟨_, rfl, _, _, rfl, rfl, h20⟩
    by_cases c21 : zb = 9
    · refine pm_top (v := 9) c21 ?_
      refine pm_tswIn (tgt := 198) hG dX11_letter_22 (by decide) (by decide) rfl rfl ?_
      refine pm_aloadn hG dX11_letter_198 rfl ?_
      refine pm_getf hG dX11_letter_199 (flX11_12 _ rfl) rfl rfl ?_
      refine pm_getf hG dX11_letter_202 (flX11_224 _ rfl) rfl rfl ?_
      refine pm_iloadn hG dX11_letter_205 rfl ?_
      refine pm_iconst (v := 5) hG dX11_letter_206 (by decide) ?_
      refine pm_callV (As := [.int za, .int 5]) (rest := []) hG hR dX11_letter_207 (lkX11_152 _ rfl) okV_X9_get rfl rfl (tb_get (d := 0) rfl rfl (pm_tw_of 40 12 (by decide) (by decide) (by decide))) rfl rfl hdd (Nat.le_refl _) (Nat.le_refl _) (by decide) (pm_ki (fun v22 σ' cnt' hq => ?_))
      obtain ⟨I22, A22, rfl, rfl, h22⟩ := hv_id (kp := kp) (I := I1) (A := A1) h1 hq.2
      exact pm_iret hG hF dX11_letter_210 rfl (Nat.le_refl _) (Nat.le_refl _) ⟨_, rfl, _, _, rfl, rfl, h22⟩
    have tc3 : ¬ zb.toInt = 0 := fun q => c3 (Int32.toInt_inj.mp q)
    have tc5 : ¬ zb.toInt = 1 := fun q => c5 (Int32.toInt_inj.mp q)
    have tc7 : ¬ zb.toInt = 2 := fun q => c7 (Int32.toInt_inj.mp q)
    have tc9 : ¬ zb.toInt = 3 := fun q => c9 (Int32.toInt_inj.mp q)
    have tc11 : ¬ zb.toInt = 4 := fun q => c11 (Int32.toInt_inj.mp q)
    have tc13 : ¬ zb.toInt = 5 := fun q => c13 (Int32.toInt_inj.mp q)
    have tc15 : ¬ zb.toInt = 6 := fun q => c15 (Int32.toInt_inj.mp q)
    have tc17 : ¬ zb.toInt = 7 := fun q => c17 (Int32.toInt_inj.mp q)
    have tc19 : ¬ zb.toInt = 8 := fun q => c19 (Int32.toInt_inj.mp q)
    have tc21 : ¬ zb.toInt = 9 := fun q => c21 (Int32.toInt_inj.mp q)
    refine pm_tswOut (tgt := 211) hG dX11_letter_22 (by omega) rfl ?_
    refine pm_aloadn hG dX11_letter_211 rfl ?_
    refine pm_ldc hG dX11_letter_212 (ctX11_109 _ rfl) ?_
    refine pm_callV (As := [.int (-1000001)]) (rest := []) hG hR dX11_letter_214 (lkX11_97 _ rfl) okV_X11_told rfl rfl (sx_told (d := 0) (by decide) rfl rfl) rfl rfl hdd (Nat.le_refl _) (Nat.le_refl _) (by decide) (pm_ki (fun v23 σ' cnt' hq => ?_))
    obtain ⟨-, ⟨g23, hg23⟩, hc23⟩ := hq
    obtain ⟨I23, A23, rfl, rfl, h23⟩ := hv_a53 (kp := kp) (I := I1) (A := A1) h1 ⟨hg23, hc23⟩
    exact pm_iret hG hF dX11_letter_217 rfl (Nat.le_refl _) (Nat.le_refl _) ⟨_, rfl, _, _, rfl, rfl, h23⟩
  · refine pm_aloadn hG dX11_letter_14 rfl ?_
    refine pm_ldc hG dX11_letter_15 (ctX11_109 _ rfl) ?_
    refine pm_callV (As := [.int (-1000001)]) (rest := []) hG hR dX11_letter_17 (lkX11_97 _ rfl) okV_X11_told rfl rfl (sx_told (d := 0) (by decide) rfl rfl) rfl rfl hdd (Nat.le_refl _) (Nat.le_refl _) (by decide) (pm_ki (fun v24 σ' cnt' hq => ?_))
    obtain ⟨-, ⟨g24, hg24⟩, hc24⟩ := hq
    obtain ⟨I24, A24, rfl, rfl, h24⟩ := hv_a53 (kp := kp) (I := I1) (A := A1) h1 ⟨hg24, hc24⟩
    exact pm_iret hG hF dX11_letter_20 rfl (Nat.le_refl _) (Nat.le_refl _) ⟨_, rfl, _, _, rfl, rfl, h24⟩

set_option maxRecDepth 100000 in
set_option maxHeartbeats 4000000 in
theorem g_X11_men {ε : Nat → Int32} {d B cnt : Nat} {kp : Value} {ρ : pm_S} {I : Nat → Int32} {A : Nat → Nat → Int32} {za zb : Int32} (hdd : 2 ≤ d) (h : gq ε I) : pm_met mX11_men d 0 0 B [.ref (B + 0), .int za, .int zb] cnt (pm_two (cl_L B kp I A) ρ) (pm_Qi (fun _ σ' cnt' => hvq ε B kp ρ cnt σ' cnt')) := by
  refine pm_enter 1 (by decide) (Nat.le_of_ble_eq_true rfl) rfl (fun G hG hR hF => ?_)
  refine pm_aloadn hG dX11_men_0 rfl ?_
  refine pm_getf hG dX11_men_1 (flX11_12 _ rfl) rfl rfl ?_
  refine pm_getf hG dX11_men_4 (flX11_128 _ rfl) rfl rfl ?_
  refine pm_iloadn hG dX11_men_7 rfl ?_
  refine pm_callV (As := [.int za]) (rest := []) hG hR dX11_men_8 (lkX11_101 _ rfl) okV_X9_has rfl rfl (tb_has (d := 1) rfl) rfl rfl hdd (Nat.le_refl _) (Nat.le_refl _) (by decide) (pm_ki (fun v1 σ' cnt' hq => ?_))
  have b1 := pm_b01 hq.1
  obtain ⟨I1, A1, rfl, rfl, h1⟩ := hv_id (kp := kp) (I := I) (A := A) h hq.2
  refine pm_if_eq (tgt := 25) hG dX11_men_11 rfl (fun c2 => ?_) (fun c2 => ?_)
  · refine pm_aloadn hG dX11_men_25 rfl ?_
    refine pm_ldc hG dX11_men_26 (ctX11_109 _ rfl) ?_
    refine pm_callV (As := [.int (-1000001)]) (rest := []) hG hR dX11_men_28 (lkX11_97 _ rfl) okV_X11_told rfl rfl (sx_told (d := 1) (by decide) rfl rfl) rfl rfl hdd (Nat.le_refl _) (Nat.le_refl _) (by decide) (pm_ki (fun v3 σ' cnt' hq => ?_))
    obtain ⟨-, ⟨g3, hg3⟩, hc3⟩ := hq
    obtain ⟨I3, A3, rfl, rfl, h3⟩ := hv_a53 (kp := kp) (I := I1) (A := A1) h1 ⟨hg3, hc3⟩
    exact pm_iret hG hF dX11_men_31 rfl (Nat.le_refl _) (Nat.le_refl _) ⟨_, rfl, _, _, rfl, rfl, h3⟩
  · refine pm_iloadn hG dX11_men_14 rfl ?_
    refine pm_bipush (v := (-99)) hG dX11_men_15 (by decide) ?_
    refine pm_bipush (v := 99) hG dX11_men_17 (by decide) ?_
    refine pm_callS (As := [.int zb, .int (-99), .int 99]) (rest := []) hG hR dX11_men_19 (lkX11_105 _ rfl) okS_X11_isOutside (sx_isOutside (d := 1)) rfl rfl hdd (Nat.le_refl _) (Nat.le_refl _) (by decide) (pm_ki (fun v4 σ' cnt' hq => ?_))
    have o4 := hq.1
    have b4 := pm_b10 hq.1
    obtain ⟨I4, A4, rfl, rfl, h4⟩ := hv_id (kp := kp) (I := I1) (A := A1) h1 hq.2
    refine pm_if_eq (tgt := 32) hG dX11_men_22 rfl (fun c5 => ?_) (fun c5 => ?_)
    · refine pm_aloadn hG dX11_men_32 rfl ?_
      refine pm_getf hG dX11_men_33 (flX11_12 _ rfl) rfl rfl ?_
      refine pm_iloadn hG dX11_men_36 rfl ?_
      refine pm_callV (As := [.int za]) (rest := []) hG hR dX11_men_37 (lkX11_135 _ rfl) okV_X7_isLiving rfl rfl (g_X7_isLiving (d := 1) (by decide) h4) rfl rfl hdd (Nat.le_refl _) (Nat.le_refl _) (by decide) (pm_ki (fun v6 σ' cnt' hq => ?_))
      obtain ⟨b6, I6, A6, rfl, rfl, h6⟩ := hq
      refine pm_if_ne (tgt := 50) hG dX11_men_40 rfl (fun c7 => ?_) (fun c7 => ?_)
      · refine pm_aloadn hG dX11_men_50 rfl ?_
        refine pm_getf hG dX11_men_51 (flX11_12 _ rfl) rfl rfl ?_
        refine pm_getf hG dX11_men_54 (flX11_128 _ rfl) rfl rfl ?_
        refine pm_iloadn hG dX11_men_57 rfl ?_
        refine pm_bipush (v := 8) hG dX11_men_58 (by decide) ?_
        refine pm_callV (As := [.int za, .int 8]) (rest := []) hG hR dX11_men_60 (lkX11_152 _ rfl) okV_X9_get rfl rfl (tb_get (d := 1) rfl rfl (pm_tw_of 20 14 (by decide) (by decide) (by decide))) rfl rfl hdd (Nat.le_refl _) (Nat.le_refl _) (by decide) (pm_ki (fun v8 σ' cnt' hq => ?_))
        obtain ⟨I8, A8, rfl, rfl, h8⟩ := hv_id (kp := kp) (I := I6) (A := A6) h6 hq.2
        refine pm_iloadn hG dX11_men_63 rfl ?_
        refine pm_iadd hG dX11_men_64 ?_
        refine pm_istoreXn (loc' := [some (.ref (B + 0)), some (.int za), some (.int zb), some (.int (v8 + zb))]) hG dX11_men_65 (by decide) (pm_c1b rfl) rfl ?_
        refine pm_iloadn hG dX11_men_66 rfl ?_
        refine pm_iconst (v := 0) hG dX11_men_67 (by decide) ?_
        refine pm_sipush (v := 999) hG dX11_men_68 (by decide) ?_
        refine pm_callS (As := [.int (v8 + zb), .int 0, .int 999]) (rest := []) hG hR dX11_men_71 (lkX11_105 _ rfl) okS_X11_isOutside (sx_isOutside (d := 1)) rfl rfl hdd (Nat.le_refl _) (Nat.le_refl _) (by decide) (pm_ki (fun v9 σ' cnt' hq => ?_))
        have o9 := hq.1
        have b9 := pm_b10 hq.1
        obtain ⟨I9, A9, rfl, rfl, h9⟩ := hv_id (kp := kp) (I := I8) (A := A8) h8 hq.2
        refine pm_if_eq (tgt := 84) hG dX11_men_74 rfl (fun c10 => ?_) (fun c10 => ?_)
        · refine pm_aloadn hG dX11_men_84 rfl ?_
          refine pm_getf hG dX11_men_85 (flX11_12 _ rfl) rfl rfl ?_
          refine pm_getf hG dX11_men_88 (flX11_128 _ rfl) rfl rfl ?_
          refine pm_iloadn hG dX11_men_91 rfl ?_
          refine pm_bipush (v := 8) hG dX11_men_92 (by decide) ?_
          refine pm_iloadn hG dX11_men_94 rfl ?_
          refine pm_callV (As := [.int za, .int 8, .int (v8 + zb)]) (rest := []) hG hR dX11_men_95 (lkX11_170 _ rfl) okV_X9_set rfl rfl (tb_set (d := 1) rfl rfl (pm_tw_of 20 14 (by decide) (by decide) (by decide)) (by decide)) rfl rfl hdd (Nat.le_refl _) (Nat.le_refl _) (by decide) (pm_kv (fun σ' cnt' hq => ?_))
          obtain ⟨I11, A11, rfl, rfl, h11⟩ := hv_a7 (kp := kp) (I := I9) (A := A9) h9 hq
          refine pm_iloadn hG dX11_men_98 rfl ?_
          exact pm_iret hG hF dX11_men_99 rfl (Nat.le_refl _) (Nat.le_refl _) ⟨_, rfl, _, _, rfl, rfl, h11⟩
        · refine pm_aloadn hG dX11_men_77 rfl ?_
          refine pm_ldc hG dX11_men_78 (ctX11_109 _ rfl) ?_
          refine pm_callV (As := [.int (-1000001)]) (rest := []) hG hR dX11_men_80 (lkX11_97 _ rfl) okV_X11_told rfl rfl (sx_told (d := 1) (by decide) rfl rfl) rfl rfl hdd (Nat.le_refl _) (Nat.le_refl _) (by decide) (pm_ki (fun v12 σ' cnt' hq => ?_))
          obtain ⟨-, ⟨g12, hg12⟩, hc12⟩ := hq
          obtain ⟨I12, A12, rfl, rfl, h12⟩ := hv_a53 (kp := kp) (I := I9) (A := A9) h9 ⟨hg12, hc12⟩
          exact pm_iret hG hF dX11_men_83 rfl (Nat.le_refl _) (Nat.le_refl _) ⟨_, rfl, _, _, rfl, rfl, h12⟩
      · refine pm_aloadn hG dX11_men_43 rfl ?_
        refine pm_ldc hG dX11_men_44 (ctX11_138 _ rfl) ?_
        refine pm_callV (As := [.int (-1000003)]) (rest := []) hG hR dX11_men_46 (lkX11_97 _ rfl) okV_X11_told rfl rfl (sx_told (d := 1) (by decide) rfl rfl) rfl rfl hdd (Nat.le_refl _) (Nat.le_refl _) (by decide) (pm_ki (fun v13 σ' cnt' hq => ?_))
        obtain ⟨-, ⟨g13, hg13⟩, hc13⟩ := hq
        obtain ⟨I13, A13, rfl, rfl, h13⟩ := hv_a53 (kp := kp) (I := I6) (A := A6) h6 ⟨hg13, hc13⟩
        exact pm_iret hG hF dX11_men_49 rfl (Nat.le_refl _) (Nat.le_refl _) ⟨_, rfl, _, _, rfl, rfl, h13⟩
    · refine pm_aloadn hG dX11_men_25 rfl ?_
      refine pm_ldc hG dX11_men_26 (ctX11_109 _ rfl) ?_
      refine pm_callV (As := [.int (-1000001)]) (rest := []) hG hR dX11_men_28 (lkX11_97 _ rfl) okV_X11_told rfl rfl (sx_told (d := 1) (by decide) rfl rfl) rfl rfl hdd (Nat.le_refl _) (Nat.le_refl _) (by decide) (pm_ki (fun v14 σ' cnt' hq => ?_))
      obtain ⟨-, ⟨g14, hg14⟩, hc14⟩ := hq
      obtain ⟨I14, A14, rfl, rfl, h14⟩ := hv_a53 (kp := kp) (I := I4) (A := A4) h4 ⟨hg14, hc14⟩
      exact pm_iret hG hF dX11_men_31 rfl (Nat.le_refl _) (Nat.le_refl _) ⟨_, rfl, _, _, rfl, rfl, h14⟩

set_option maxRecDepth 100000 in
set_option maxHeartbeats 4000000 in
theorem g_X8_has {ε : Nat → Int32} {d B cnt : Nat} {kp : Value} {ρ : pm_S} {I : Nat → Int32} {A : Nat → Nat → Int32} {za : Int32} (hdd : 1 ≤ d) (h : gq ε I) : pm_met mX8_has d 0 0 B [.ref (B + 48), .int za] cnt (pm_two (cl_L B kp I A) ρ) (pm_Qi (fun v σ' cnt' => (v = 0 ∨ v = 1) ∧ hvq ε B kp ρ cnt σ' cnt')) := by
  refine pm_enter 0 (by decide) (Nat.le_of_ble_eq_true rfl) rfl (fun G hG hR hF => ?_)
  refine pm_iloadn hG dX8_has_0 rfl ?_
  refine pm_if_lt (tgt := 13) hG dX8_has_1 rfl (fun c1 => ?_) (fun c1 => ?_)
  · refine pm_iconst (v := 0) hG dX8_has_13 (by decide) ?_
    exact pm_zret hG hF dX8_has_14 rfl (pm_nz (Or.inl rfl)) (Nat.le_refl _) (Nat.le_refl _) ⟨_, rfl, (Or.inl rfl), _, _, rfl, rfl, h⟩
  · refine pm_iloadn hG dX8_has_4 rfl ?_
    refine pm_iconst (v := 4) hG dX8_has_5 (by decide) ?_
    refine pm_icmp_ge (tgt := 13) hG dX8_has_6 rfl (fun c2 => ?_) (fun c2 => ?_)
    · refine pm_iconst (v := 0) hG dX8_has_13 (by decide) ?_
      exact pm_zret hG hF dX8_has_14 rfl (pm_nz (Or.inl rfl)) (Nat.le_refl _) (Nat.le_refl _) ⟨_, rfl, (Or.inl rfl), _, _, rfl, rfl, h⟩
    · refine pm_iconst (v := 1) hG dX8_has_9 (by decide) ?_
      refine pm_goto (tgt := 14) hG dX8_has_10 rfl ?_
      exact pm_zret hG hF dX8_has_14 rfl (pm_nz (Or.inr rfl)) (Nat.le_refl _) (Nat.le_refl _) ⟨_, rfl, (Or.inr rfl), _, _, rfl, rfl, h⟩

set_option maxRecDepth 100000 in
set_option maxHeartbeats 4000000 in
theorem g_X8_bitsOf {ε : Nat → Int32} {d B cnt : Nat} {kp : Value} {ρ : pm_S} {I : Nat → Int32} {A : Nat → Nat → Int32} {za : Int32} (hdd : 1 ≤ d) (h : gq ε I) : pm_met mX8_bitsOf d 0 0 B [.ref (B + 48), .int za] cnt (pm_two (cl_L B kp I A) ρ) (pm_Qi (fun _ σ' cnt' => hvq ε B kp ρ cnt σ' cnt')) := by
  refine pm_enter 0 (by decide) (Nat.le_of_ble_eq_true rfl) rfl (fun G hG hR hF => ?_)
  refine pm_iloadn hG dX8_bitsOf_0 rfl ?_
  refine pm_if_lt (tgt := 22) hG dX8_bitsOf_1 rfl (fun c1 => ?_) (fun c1 => ?_)
  · refine pm_iconst (v := 0) hG dX8_bitsOf_22 (by decide) ?_
    exact pm_iret hG hF dX8_bitsOf_23 rfl (Nat.le_refl _) (Nat.le_refl _) ⟨_, rfl, _, _, rfl, rfl, h⟩
  · refine pm_iloadn hG dX8_bitsOf_4 rfl ?_
    refine pm_aloadn hG dX8_bitsOf_5 rfl ?_
    refine pm_getf hG dX8_bitsOf_6 (flX8_9 _ rfl) rfl rfl ?_
    refine pm_alen (v := 4) hG dX8_bitsOf_9 rfl (by decide) ?_
    refine pm_icmp_ge (tgt := 22) hG dX8_bitsOf_10 rfl (fun c2 => ?_) (fun c2 => ?_)
    · refine pm_iconst (v := 0) hG dX8_bitsOf_22 (by decide) ?_
      exact pm_iret hG hF dX8_bitsOf_23 rfl (Nat.le_refl _) (Nat.le_refl _) ⟨_, rfl, _, _, rfl, rfl, h⟩
    · refine pm_aloadn hG dX8_bitsOf_13 rfl ?_
      refine pm_getf hG dX8_bitsOf_14 (flX8_9 _ rfl) rfl rfl ?_
      refine pm_iloadn hG dX8_bitsOf_17 rfl ?_
      refine pm_iald hG dX8_bitsOf_18 rfl (pm_ib2 rfl c1 c2) ?_
      refine pm_goto (tgt := 23) hG dX8_bitsOf_19 rfl ?_
      exact pm_iret hG hF dX8_bitsOf_23 rfl (Nat.le_refl _) (Nat.le_refl _) ⟨_, rfl, _, _, rfl, rfl, h⟩

set_option maxRecDepth 100000 in
set_option maxHeartbeats 4000000 in
theorem g_X8_isMissing {ε : Nat → Int32} {d B cnt : Nat} {kp : Value} {ρ : pm_S} {I : Nat → Int32} {A : Nat → Nat → Int32} {za : Int32} (hdd : 2 ≤ d) (h : gq ε I) : pm_met mX8_isMissing d 0 0 B [.ref (B + 48), .int za] cnt (pm_two (cl_L B kp I A) ρ) (pm_Qi (fun v σ' cnt' => (v = 0 ∨ v = 1) ∧ hvq ε B kp ρ cnt σ' cnt')) := by
  refine pm_enter 0 (by decide) (Nat.le_of_ble_eq_true rfl) rfl (fun G hG hR hF => ?_)
  refine pm_aloadn hG dX8_isMissing_0 rfl ?_
  refine pm_iloadn hG dX8_isMissing_1 rfl ?_
  refine pm_callV (As := [.int za]) (rest := []) hG hR dX8_isMissing_2 (lkX8_27 _ rfl) okV_X8_bitsOf rfl rfl (g_X8_bitsOf (d := 1) (by decide) h) rfl rfl hdd (Nat.le_refl _) (Nat.le_refl _) (by decide) (pm_ki (fun v1 σ' cnt' hq => ?_))
  obtain ⟨I1, A1, rfl, rfl, h1⟩ := hq
  refine pm_if_ne (tgt := 12) hG dX8_isMissing_5 rfl (fun c2 => ?_) (fun c2 => ?_)
  · refine pm_iconst (v := 0) hG dX8_isMissing_12 (by decide) ?_
    exact pm_zret hG hF dX8_isMissing_13 rfl (pm_nz (Or.inl rfl)) (Nat.le_refl _) (Nat.le_refl _) ⟨_, rfl, (Or.inl rfl), _, _, rfl, rfl, h1⟩
  · refine pm_iconst (v := 1) hG dX8_isMissing_8 (by decide) ?_
    refine pm_goto (tgt := 13) hG dX8_isMissing_9 rfl ?_
    exact pm_zret hG hF dX8_isMissing_13 rfl (pm_nz (Or.inr rfl)) (Nat.le_refl _) (Nat.le_refl _) ⟨_, rfl, (Or.inr rfl), _, _, rfl, rfl, h1⟩

set_option maxRecDepth 100000 in
set_option maxHeartbeats 4000000 in
theorem g_X8_sizeOf {ε : Nat → Int32} {d B cnt : Nat} {kp : Value} {ρ : pm_S} {I : Nat → Int32} {A : Nat → Nat → Int32} {za : Int32} (hdd : 1 ≤ d) (h : gq ε I) : pm_met mX8_sizeOf d 0 0 B [.ref (B + 48), .int za] cnt (pm_two (cl_L B kp I A) ρ) (pm_Qi (fun _ σ' cnt' => hvq ε B kp ρ cnt σ' cnt')) := by
  refine pm_enter 0 (by decide) (Nat.le_of_ble_eq_true rfl) rfl (fun G hG hR hF => ?_)
  refine pm_iloadn hG dX8_sizeOf_0 rfl ?_
  refine pm_if_lt (tgt := 22) hG dX8_sizeOf_1 rfl (fun c1 => ?_) (fun c1 => ?_)
  · refine pm_iconst (v := 0) hG dX8_sizeOf_22 (by decide) ?_
    exact pm_iret hG hF dX8_sizeOf_23 rfl (Nat.le_refl _) (Nat.le_refl _) ⟨_, rfl, _, _, rfl, rfl, h⟩
  · refine pm_iloadn hG dX8_sizeOf_4 rfl ?_
    refine pm_aloadn hG dX8_sizeOf_5 rfl ?_
    refine pm_getf hG dX8_sizeOf_6 (flX8_15 _ rfl) rfl rfl ?_
    refine pm_alen (v := 4) hG dX8_sizeOf_9 rfl (by decide) ?_
    refine pm_icmp_ge (tgt := 22) hG dX8_sizeOf_10 rfl (fun c2 => ?_) (fun c2 => ?_)
    · refine pm_iconst (v := 0) hG dX8_sizeOf_22 (by decide) ?_
      exact pm_iret hG hF dX8_sizeOf_23 rfl (Nat.le_refl _) (Nat.le_refl _) ⟨_, rfl, _, _, rfl, rfl, h⟩
    · refine pm_aloadn hG dX8_sizeOf_13 rfl ?_
      refine pm_getf hG dX8_sizeOf_14 (flX8_15 _ rfl) rfl rfl ?_
      refine pm_iloadn hG dX8_sizeOf_17 rfl ?_
      refine pm_iald hG dX8_sizeOf_18 rfl (pm_ib2 rfl c1 c2) ?_
      refine pm_goto (tgt := 23) hG dX8_sizeOf_19 rfl ?_
      exact pm_iret hG hF dX8_sizeOf_23 rfl (Nat.le_refl _) (Nat.le_refl _) ⟨_, rfl, _, _, rfl, rfl, h⟩

set_option maxRecDepth 100000 in
set_option maxHeartbeats 4000000 in
theorem g_X8_stand {ε : Nat → Int32} {d B cnt : Nat} {kp : Value} {ρ : pm_S} {I : Nat → Int32} {A : Nat → Nat → Int32} {za zb zc : Int32} (hdd : 2 ≤ d) (h : gq ε I) : pm_met mX8_stand d 0 0 B [.ref (B + 48), .int za, .int zb, .int zc] cnt (pm_two (cl_L B kp I A) ρ) (pm_Qi (fun v σ' cnt' => (v = 0 ∨ v = 1) ∧ hvq ε B kp ρ cnt σ' cnt')) := by
  refine pm_enter 0 (by decide) (Nat.le_of_ble_eq_true rfl) rfl (fun G hG hR hF => ?_)
  refine pm_iloadn hG dX8_stand_0 rfl ?_
  refine pm_if_lt (tgt := 32) hG dX8_stand_1 rfl (fun c1 => ?_) (fun c1 => ?_)
  · refine pm_iconst (v := 0) hG dX8_stand_32 (by decide) ?_
    exact pm_zret hG hF dX8_stand_33 rfl (pm_nz (Or.inl rfl)) (Nat.le_refl _) (Nat.le_refl _) ⟨_, rfl, (Or.inl rfl), _, _, rfl, rfl, h⟩
  · refine pm_iloadn hG dX8_stand_4 rfl ?_
    refine pm_if_lt (tgt := 32) hG dX8_stand_5 rfl (fun c2 => ?_) (fun c2 => ?_)
    · refine pm_iconst (v := 0) hG dX8_stand_32 (by decide) ?_
      exact pm_zret hG hF dX8_stand_33 rfl (pm_nz (Or.inl rfl)) (Nat.le_refl _) (Nat.le_refl _) ⟨_, rfl, (Or.inl rfl), _, _, rfl, rfl, h⟩
    · refine pm_iloadn hG dX8_stand_8 rfl ?_
      refine pm_aloadn hG dX8_stand_9 rfl ?_
      refine pm_iloadn hG dX8_stand_10 rfl ?_
      refine pm_callV (As := [.int za]) (rest := [.int zc]) hG hR dX8_stand_11 (lkX8_39 _ rfl) okV_X8_sizeOf rfl rfl (g_X8_sizeOf (d := 1) (by decide) h) rfl rfl hdd (Nat.le_refl _) (Nat.le_refl _) (by first | decide | exact Nat.le_of_ble_eq_true rfl) (pm_ki (fun v3 σ' cnt' hq => ?_))
      obtain ⟨I3, A3, rfl, rfl, h3⟩ := hq
      refine pm_icmp_gt (tgt := 32) hG dX8_stand_14 rfl (fun c4 => ?_) (fun c4 => ?_)
      · refine pm_iconst (v := 0) hG dX8_stand_32 (by decide) ?_
        exact pm_zret hG hF dX8_stand_33 rfl (pm_nz (Or.inl rfl)) (Nat.le_refl _) (Nat.le_refl _) ⟨_, rfl, (Or.inl rfl), _, _, rfl, rfl, h3⟩
      · refine pm_iloadn hG dX8_stand_17 rfl ?_
        refine pm_aloadn hG dX8_stand_18 rfl ?_
        refine pm_iloadn hG dX8_stand_19 rfl ?_
        refine pm_callV (As := [.int za]) (rest := [.int zb]) hG hR dX8_stand_20 (lkX8_39 _ rfl) okV_X8_sizeOf rfl rfl (g_X8_sizeOf (d := 1) (by decide) h3) rfl rfl hdd (Nat.le_refl _) (Nat.le_refl _) (by first | decide | exact Nat.le_of_ble_eq_true rfl) (pm_ki (fun v5 σ' cnt' hq => ?_))
        obtain ⟨I5, A5, rfl, rfl, h5⟩ := hq
        refine pm_iloadn hG dX8_stand_23 rfl ?_
        refine pm_isub hG dX8_stand_24 ?_
        refine pm_icmp_gt (tgt := 32) hG dX8_stand_25 rfl (fun c6 => ?_) (fun c6 => ?_)
        · refine pm_iconst (v := 0) hG dX8_stand_32 (by decide) ?_
          exact pm_zret hG hF dX8_stand_33 rfl (pm_nz (Or.inl rfl)) (Nat.le_refl _) (Nat.le_refl _) ⟨_, rfl, (Or.inl rfl), _, _, rfl, rfl, h5⟩
        · refine pm_iconst (v := 1) hG dX8_stand_28 (by decide) ?_
          refine pm_goto (tgt := 33) hG dX8_stand_29 rfl ?_
          exact pm_zret hG hF dX8_stand_33 rfl (pm_nz (Or.inr rfl)) (Nat.le_refl _) (Nat.le_refl _) ⟨_, rfl, (Or.inr rfl), _, _, rfl, rfl, h5⟩

set_option maxRecDepth 100000 in
set_option maxHeartbeats 4000000 in
theorem g_X8_transfer {ε : Nat → Int32} {d B cnt : Nat} {kp : Value} {ρ : pm_S} {I : Nat → Int32} {A : Nat → Nat → Int32} {za zb zc zd ze : Int32} (hdd : 2 ≤ d) (h : gq ε I) : pm_met mX8_transfer d 0 0 B [.ref (B + 48), .int za, .int zb, .int zc, .int zd, .int ze] cnt (pm_two (cl_L B kp I A) ρ) (pm_Qv (fun σ' cnt' => hvq ε B kp ρ cnt σ' cnt')) := by
  refine pm_enter 0 (by decide) (Nat.le_of_ble_eq_true rfl) rfl (fun G hG hR hF => ?_)
  refine pm_aloadn hG dX8_transfer_0 rfl ?_
  refine pm_getf hG dX8_transfer_1 (flX8_23 _ rfl) rfl rfl ?_
  refine pm_iloadn hG dX8_transfer_4 rfl ?_
  refine pm_iloadn hG dX8_transfer_5 rfl ?_
  refine pm_iloadn hG dX8_transfer_6 rfl ?_
  refine pm_iloadi hG dX8_transfer_7 rfl ?_
  refine pm_iloadi hG dX8_transfer_9 rfl ?_
  refine pm_callV (As := [.int za, .int zb, .int zc, .int zd, .int ze]) (rest := []) hG hR dX8_transfer_11 (lkX8_49 _ rfl) okV_X9_transfer rfl rfl (tb_transfer (R := 4) (W := 24) (d := 1) (by decide) rfl rfl rfl (by decide) (by decide) (by decide) (by decide)) rfl rfl hdd (Nat.le_refl _) (Nat.le_refl _) (by decide) (pm_kv (fun σ' cnt' hq => ?_))
  obtain ⟨⟨g1, hg1⟩, hc1⟩ := hq
  obtain ⟨I1, A1, rfl, rfl, h1⟩ := hv_a52 (kp := kp) (I := I) (A := A) h ⟨hg1, hc1⟩
  exact pm_vret hG hF dX8_transfer_14 rfl (Nat.le_refl _) (Nat.le_refl _) ⟨rfl, _, _, rfl, rfl, h1⟩

set_option maxRecDepth 100000 in
set_option maxHeartbeats 4000000 in
theorem g_X11_move {ε : Nat → Int32} {d B cnt : Nat} {kp : Value} {ρ : pm_S} {I : Nat → Int32} {A : Nat → Nat → Int32} {za zb zc zd ze : Int32} (hdd : 3 ≤ d) (h : gq ε I) : pm_met mX11_move d 0 0 B [.ref (B + 0), .int za, .int zb, .int zc, .int zd, .int ze] cnt (pm_two (cl_L B kp I A) ρ) (pm_Qi (fun _ σ' cnt' => hvq ε B kp ρ cnt σ' cnt')) := by
  refine pm_enter 0 (by decide) (Nat.le_of_ble_eq_true rfl) rfl (fun G hG hR hF => ?_)
  refine pm_aloadn hG dX11_move_0 rfl ?_
  refine pm_getf hG dX11_move_1 (flX11_74 _ rfl) rfl rfl ?_
  refine pm_iloadn hG dX11_move_4 rfl ?_
  refine pm_callV (As := [.int za]) (rest := []) hG hR dX11_move_5 (lkX11_251 _ rfl) okV_X8_has rfl rfl (g_X8_has (d := 2) (by decide) h) rfl rfl hdd (Nat.le_refl _) (Nat.le_refl _) (by decide) (pm_ki (fun v1 σ' cnt' hq => ?_))
  obtain ⟨b1, I1, A1, rfl, rfl, h1⟩ := hq
  refine pm_if_eq (tgt := 22) hG dX11_move_8 rfl (fun c2 => ?_) (fun c2 => ?_)
  · refine pm_aloadn hG dX11_move_22 rfl ?_
    refine pm_ldc hG dX11_move_23 (ctX11_109 _ rfl) ?_
    refine pm_callV (As := [.int (-1000001)]) (rest := []) hG hR dX11_move_25 (lkX11_97 _ rfl) okV_X11_told rfl rfl (sx_told (d := 2) (by decide) rfl rfl) rfl rfl hdd (Nat.le_refl _) (Nat.le_refl _) (by decide) (pm_ki (fun v3 σ' cnt' hq => ?_))
    obtain ⟨-, ⟨g3, hg3⟩, hc3⟩ := hq
    obtain ⟨I3, A3, rfl, rfl, h3⟩ := hv_a53 (kp := kp) (I := I1) (A := A1) h1 ⟨hg3, hc3⟩
    exact pm_iret hG hF dX11_move_28 rfl (Nat.le_refl _) (Nat.le_refl _) ⟨_, rfl, _, _, rfl, rfl, h3⟩
  · refine pm_aloadn hG dX11_move_11 rfl ?_
    refine pm_getf hG dX11_move_12 (flX11_74 _ rfl) rfl rfl ?_
    refine pm_iloadn hG dX11_move_15 rfl ?_
    refine pm_callV (As := [.int zc]) (rest := []) hG hR dX11_move_16 (lkX11_251 _ rfl) okV_X8_has rfl rfl (g_X8_has (d := 2) (by decide) h1) rfl rfl hdd (Nat.le_refl _) (Nat.le_refl _) (by decide) (pm_ki (fun v4 σ' cnt' hq => ?_))
    obtain ⟨b4, I4, A4, rfl, rfl, h4⟩ := hq
    refine pm_if_ne (tgt := 29) hG dX11_move_19 rfl (fun c5 => ?_) (fun c5 => ?_)
    · refine pm_aloadn hG dX11_move_29 rfl ?_
      refine pm_getf hG dX11_move_30 (flX11_74 _ rfl) rfl rfl ?_
      refine pm_iloadn hG dX11_move_33 rfl ?_
      refine pm_callV (As := [.int za]) (rest := []) hG hR dX11_move_34 (lkX11_255 _ rfl) okV_X8_isMissing rfl rfl (g_X8_isMissing (d := 2) (by decide) h4) rfl rfl hdd (Nat.le_refl _) (Nat.le_refl _) (by decide) (pm_ki (fun v6 σ' cnt' hq => ?_))
      obtain ⟨b6, I6, A6, rfl, rfl, h6⟩ := hq
      refine pm_if_ne (tgt := 51) hG dX11_move_37 rfl (fun c7 => ?_) (fun c7 => ?_)
      · refine pm_aloadn hG dX11_move_51 rfl ?_
        refine pm_ldc hG dX11_move_52 (ctX11_223 _ rfl) ?_
        refine pm_callV (As := [.int (-1000002)]) (rest := []) hG hR dX11_move_54 (lkX11_97 _ rfl) okV_X11_told rfl rfl (sx_told (d := 2) (by decide) rfl rfl) rfl rfl hdd (Nat.le_refl _) (Nat.le_refl _) (by decide) (pm_ki (fun v8 σ' cnt' hq => ?_))
        obtain ⟨-, ⟨g8, hg8⟩, hc8⟩ := hq
        obtain ⟨I8, A8, rfl, rfl, h8⟩ := hv_a53 (kp := kp) (I := I6) (A := A6) h6 ⟨hg8, hc8⟩
        exact pm_iret hG hF dX11_move_57 rfl (Nat.le_refl _) (Nat.le_refl _) ⟨_, rfl, _, _, rfl, rfl, h8⟩
      · refine pm_aloadn hG dX11_move_40 rfl ?_
        refine pm_getf hG dX11_move_41 (flX11_74 _ rfl) rfl rfl ?_
        refine pm_iloadn hG dX11_move_44 rfl ?_
        refine pm_callV (As := [.int zc]) (rest := []) hG hR dX11_move_45 (lkX11_255 _ rfl) okV_X8_isMissing rfl rfl (g_X8_isMissing (d := 2) (by decide) h6) rfl rfl hdd (Nat.le_refl _) (Nat.le_refl _) (by decide) (pm_ki (fun v9 σ' cnt' hq => ?_))
        obtain ⟨b9, I9, A9, rfl, rfl, h9⟩ := hq
        refine pm_if_eq (tgt := 58) hG dX11_move_48 rfl (fun c10 => ?_) (fun c10 => ?_)
        · refine pm_aloadn hG dX11_move_58 rfl ?_
          refine pm_getf hG dX11_move_59 (flX11_74 _ rfl) rfl rfl ?_
          refine pm_iloadn hG dX11_move_62 rfl ?_
          refine pm_callV (As := [.int za]) (rest := []) hG hR dX11_move_63 (lkX11_258 _ rfl) okV_X8_bitsOf rfl rfl (g_X8_bitsOf (d := 2) (by decide) h9) rfl rfl hdd (Nat.le_refl _) (Nat.le_refl _) (by decide) (pm_ki (fun v11 σ' cnt' hq => ?_))
          obtain ⟨I11, A11, rfl, rfl, h11⟩ := hq
          refine pm_aloadn hG dX11_move_66 rfl ?_
          refine pm_getf hG dX11_move_67 (flX11_74 _ rfl) rfl rfl ?_
          refine pm_iloadn hG dX11_move_70 rfl ?_
          refine pm_callV (As := [.int zc]) (rest := [.int v11]) hG hR dX11_move_71 (lkX11_258 _ rfl) okV_X8_bitsOf rfl rfl (g_X8_bitsOf (d := 2) (by decide) h11) rfl rfl hdd (Nat.le_refl _) (Nat.le_refl _) (by first | decide | exact Nat.le_of_ble_eq_true rfl) (pm_ki (fun v12 σ' cnt' hq => ?_))
          obtain ⟨I12, A12, rfl, rfl, h12⟩ := hq
          refine pm_icmp_eq (tgt := 84) hG dX11_move_74 rfl (fun c13 => ?_) (fun c13 => ?_)
          · refine pm_aloadn hG dX11_move_84 rfl ?_
            refine pm_getf hG dX11_move_85 (flX11_74 _ rfl) rfl rfl ?_
            refine pm_iloadn hG dX11_move_88 rfl ?_
            refine pm_iloadn hG dX11_move_89 rfl ?_
            refine pm_iloadi hG dX11_move_90 rfl ?_
            refine pm_callV (As := [.int za, .int zb, .int ze]) (rest := []) hG hR dX11_move_92 (lkX11_370 _ rfl) okV_X8_stand rfl rfl (g_X8_stand (d := 2) (by decide) h12) rfl rfl hdd (Nat.le_refl _) (Nat.le_refl _) (by decide) (pm_ki (fun v14 σ' cnt' hq => ?_))
            obtain ⟨b14, I14, A14, rfl, rfl, h14⟩ := hq
            refine pm_if_eq (tgt := 113) hG dX11_move_95 rfl (fun c15 => ?_) (fun c15 => ?_)
            · refine pm_aloadn hG dX11_move_113 rfl ?_
              refine pm_ldc hG dX11_move_114 (ctX11_109 _ rfl) ?_
              refine pm_callV (As := [.int (-1000001)]) (rest := []) hG hR dX11_move_116 (lkX11_97 _ rfl) okV_X11_told rfl rfl (sx_told (d := 2) (by decide) rfl rfl) rfl rfl hdd (Nat.le_refl _) (Nat.le_refl _) (by decide) (pm_ki (fun v16 σ' cnt' hq => ?_))
              obtain ⟨-, ⟨g16, hg16⟩, hc16⟩ := hq
              obtain ⟨I16, A16, rfl, rfl, h16⟩ := hv_a53 (kp := kp) (I := I14) (A := A14) h14 ⟨hg16, hc16⟩
              exact pm_iret hG hF dX11_move_119 rfl (Nat.le_refl _) (Nat.le_refl _) ⟨_, rfl, _, _, rfl, rfl, h16⟩
            · refine pm_aloadn hG dX11_move_98 rfl ?_
              refine pm_getf hG dX11_move_99 (flX11_74 _ rfl) rfl rfl ?_
              refine pm_iloadn hG dX11_move_102 rfl ?_
              refine pm_iloadi hG dX11_move_103 rfl ?_
              refine pm_iloadi hG dX11_move_105 rfl ?_
              refine pm_callV (As := [.int zc, .int zd, .int ze]) (rest := []) hG hR dX11_move_107 (lkX11_370 _ rfl) okV_X8_stand rfl rfl (g_X8_stand (d := 2) (by decide) h14) rfl rfl hdd (Nat.le_refl _) (Nat.le_refl _) (by decide) (pm_ki (fun v17 σ' cnt' hq => ?_))
              obtain ⟨b17, I17, A17, rfl, rfl, h17⟩ := hq
              refine pm_if_ne (tgt := 120) hG dX11_move_110 rfl (fun c18 => ?_) (fun c18 => ?_)
              · refine pm_aloadn hG dX11_move_120 rfl ?_
                refine pm_getf hG dX11_move_121 (flX11_74 _ rfl) rfl rfl ?_
                refine pm_iloadn hG dX11_move_124 rfl ?_
                refine pm_iloadn hG dX11_move_125 rfl ?_
                refine pm_iloadn hG dX11_move_126 rfl ?_
                refine pm_iloadi hG dX11_move_127 rfl ?_
                refine pm_iloadi hG dX11_move_129 rfl ?_
                refine pm_callV (As := [.int za, .int zb, .int zc, .int zd, .int ze]) (rest := []) hG hR dX11_move_131 (lkX11_373 _ rfl) okV_X8_transfer rfl rfl (g_X8_transfer (d := 2) (by decide) h17) rfl rfl hdd (Nat.le_refl _) (Nat.le_refl _) (by decide) (pm_kv (fun σ' cnt' hq => ?_))
                obtain ⟨I19, A19, rfl, rfl, h19⟩ := hq
                refine pm_iloadi hG dX11_move_134 rfl ?_
                exact pm_iret hG hF dX11_move_136 rfl (Nat.le_refl _) (Nat.le_refl _) ⟨_, rfl, _, _, rfl, rfl, h19⟩
              · refine pm_aloadn hG dX11_move_113 rfl ?_
                refine pm_ldc hG dX11_move_114 (ctX11_109 _ rfl) ?_
                refine pm_callV (As := [.int (-1000001)]) (rest := []) hG hR dX11_move_116 (lkX11_97 _ rfl) okV_X11_told rfl rfl (sx_told (d := 2) (by decide) rfl rfl) rfl rfl hdd (Nat.le_refl _) (Nat.le_refl _) (by decide) (pm_ki (fun v20 σ' cnt' hq => ?_))
                obtain ⟨-, ⟨g20, hg20⟩, hc20⟩ := hq
                obtain ⟨I20, A20, rfl, rfl, h20⟩ := hv_a53 (kp := kp) (I := I17) (A := A17) h17 ⟨hg20, hc20⟩
                exact pm_iret hG hF dX11_move_119 rfl (Nat.le_refl _) (Nat.le_refl _) ⟨_, rfl, _, _, rfl, rfl, h20⟩
          · refine pm_aloadn hG dX11_move_77 rfl ?_
            refine pm_ldc hG dX11_move_78 (ctX11_184 _ rfl) ?_
            refine pm_callV (As := [.int (-1000005)]) (rest := []) hG hR dX11_move_80 (lkX11_97 _ rfl) okV_X11_told rfl rfl (sx_told (d := 2) (by decide) rfl rfl) rfl rfl hdd (Nat.le_refl _) (Nat.le_refl _) (by decide) (pm_ki (fun v21 σ' cnt' hq => ?_))
            obtain ⟨-, ⟨g21, hg21⟩, hc21⟩ := hq
            obtain ⟨I21, A21, rfl, rfl, h21⟩ := hv_a53 (kp := kp) (I := I12) (A := A12) h12 ⟨hg21, hc21⟩
            exact pm_iret hG hF dX11_move_83 rfl (Nat.le_refl _) (Nat.le_refl _) ⟨_, rfl, _, _, rfl, rfl, h21⟩
        · refine pm_aloadn hG dX11_move_51 rfl ?_
          refine pm_ldc hG dX11_move_52 (ctX11_223 _ rfl) ?_
          refine pm_callV (As := [.int (-1000002)]) (rest := []) hG hR dX11_move_54 (lkX11_97 _ rfl) okV_X11_told rfl rfl (sx_told (d := 2) (by decide) rfl rfl) rfl rfl hdd (Nat.le_refl _) (Nat.le_refl _) (by decide) (pm_ki (fun v22 σ' cnt' hq => ?_))
          obtain ⟨-, ⟨g22, hg22⟩, hc22⟩ := hq
          obtain ⟨I22, A22, rfl, rfl, h22⟩ := hv_a53 (kp := kp) (I := I9) (A := A9) h9 ⟨hg22, hc22⟩
          exact pm_iret hG hF dX11_move_57 rfl (Nat.le_refl _) (Nat.le_refl _) ⟨_, rfl, _, _, rfl, rfl, h22⟩
    · refine pm_aloadn hG dX11_move_22 rfl ?_
      refine pm_ldc hG dX11_move_23 (ctX11_109 _ rfl) ?_
      refine pm_callV (As := [.int (-1000001)]) (rest := []) hG hR dX11_move_25 (lkX11_97 _ rfl) okV_X11_told rfl rfl (sx_told (d := 2) (by decide) rfl rfl) rfl rfl hdd (Nat.le_refl _) (Nat.le_refl _) (by decide) (pm_ki (fun v23 σ' cnt' hq => ?_))
      obtain ⟨-, ⟨g23, hg23⟩, hc23⟩ := hq
      obtain ⟨I23, A23, rfl, rfl, h23⟩ := hv_a53 (kp := kp) (I := I4) (A := A4) h4 ⟨hg23, hc23⟩
      exact pm_iret hG hF dX11_move_28 rfl (Nat.le_refl _) (Nat.le_refl _) ⟨_, rfl, _, _, rfl, rfl, h23⟩

set_option maxRecDepth 100000 in
set_option maxHeartbeats 4000000 in
theorem g_X1_prepare {ε : Nat → Int32} {d B cnt : Nat} {kp : Value} {ρ : pm_S} {I : Nat → Int32} {A : Nat → Nat → Int32} {za : Int32} (hdd : 1 ≤ d) (h : gq ε I) : pm_met mX1_prepare d 0 0 B [.ref (B + 40), .int za] cnt (pm_two (cl_L B kp I A) ρ) (pm_Qv (fun σ' cnt' => hvq ε B kp ρ cnt σ' cnt')) := by
  refine pm_enter 1 (by decide) (Nat.le_of_ble_eq_true rfl) rfl (fun G hG hR hF => ?_)
  refine pm_aloadn hG dX1_prepare_0 rfl ?_
  refine pm_iloadn hG dX1_prepare_1 rfl ?_
  refine pm_putf hG dX1_prepare_2 (fwX1_19 _ rfl) rfl rfl rfl ?_
  refine pm_nrm (L' := cl_L B kp (ui I 111 za) A) (by decide) (Nat.le_of_ble_eq_true rfl) rfl ?_
  refine pm_iconst (v := 0) hG dX1_prepare_5 (by decide) ?_
  refine pm_istoreXn (loc' := [some (.ref (B + 40)), some (.int za), some (.int 0)]) hG dX1_prepare_6 (by decide) (pm_c1b rfl) rfl ?_
  have loop7 : ∀ (m7 : Nat) (I2 : Nat → Int32) (A2 : Nat → Nat → Int32) (x2_2 : Int32), gq ε I2 → (¬ x2_2 < 0) → ((5 : Int32).toInt - x2_2.toInt).toNat < m7 → pm_wp mX1_prepare G B 7 [some (.ref (B + 40)), some (.int za), some (.int x2_2)] [] 0 0 cnt (pm_two (cl_L B kp I2 A2) ρ) := by
    intro m7
    induction m7 with
    | zero => intro I2 A2 x2_2 _  _ hm; exact absurd hm (Nat.not_lt_zero _)
    | succ m7 ih7 =>
      intro I2 A2 x2_2 h2 s7 hm7
      refine pm_iloadn hG dX1_prepare_7 rfl ?_
      refine pm_aloadn hG dX1_prepare_8 rfl ?_
      refine pm_getf hG dX1_prepare_9 (flX1_15 _ rfl) rfl rfl ?_
      refine pm_alen (v := 5) hG dX1_prepare_12 rfl (by decide) ?_
      refine pm_icmp_ge (tgt := 40) hG dX1_prepare_13 rfl (fun c3 => ?_) (fun c3 => ?_)
      · exact pm_vret hG hF dX1_prepare_40 rfl (Nat.le_refl _) (Nat.le_refl _) ⟨rfl, _, _, rfl, rfl, h2⟩
      · refine pm_aloadn hG dX1_prepare_16 rfl ?_
        refine pm_getf hG dX1_prepare_17 (flX1_15 _ rfl) rfl rfl ?_
        refine pm_iloadn hG dX1_prepare_20 rfl ?_
        refine pm_aloadn hG dX1_prepare_21 rfl ?_
        refine pm_getf hG dX1_prepare_22 (flX1_9 _ rfl) rfl rfl ?_
        refine pm_getf hG dX1_prepare_25 (flX1_23 _ rfl) rfl rfl ?_
        refine pm_iloadn hG dX1_prepare_28 rfl ?_
        refine pm_iconst (v := 0) hG dX1_prepare_29 (by decide) ?_
        refine pm_callV (As := [.int x2_2, .int 0]) (rest := [.int x2_2, .ref (B + 41)]) hG hR dX1_prepare_30 (lkX1_28 _ rfl) okV_X9_get rfl rfl (tb_get (d := 0) rfl rfl (pm_tw_of 5 1 (by decide) (by decide) (by decide))) rfl rfl hdd (Nat.le_refl _) (Nat.le_refl _) (by first | decide | exact Nat.le_of_ble_eq_true rfl) (pm_ki (fun v4 σ' cnt' hq => ?_))
        obtain ⟨I4, A4, rfl, rfl, h4⟩ := hv_id (kp := kp) (I := I2) (A := A2) h2 hq.2
        refine pm_iast hG dX1_prepare_33 rfl (pm_ib2 rfl s7 c3) ?_
        refine nm_a41 (fun A5 => ?_)
        refine pm_iincX (v := x2_2 + 1) (loc' := [some (.ref (B + 40)), some (.int za), some (.int (x2_2 + 1))]) hG dX1_prepare_34 rfl (by rfl) (by decide) (pm_c1b rfl) rfl ?_
        refine pm_goto (tgt := 7) hG dX1_prepare_37 rfl ?_
        exact ih7 _ _ (x2_2 + 1) h4 (pm_sd1 c3 s7) (Nat.lt_of_lt_of_le (pm_mu1 c3) (Nat.le_of_lt_succ hm7))
  exact loop7 _ _ _ 0 (gq.wi (k := 111) rfl h) (by decide) (Nat.lt_succ_self _)

set_option maxRecDepth 100000 in
set_option maxHeartbeats 4000000 in
theorem g_X1_winsWithin_k0 {ε : Nat → Int32} {d B cnt : Nat} {kp : Value} {ρ : pm_S} {I : Nat → Int32} {A : Nat → Nat → Int32} {zb zc : Int32} (hdd : 1 ≤ d) (h : gq ε I) : pm_met mX1_winsWithin d 0 0 B [.ref (B + 40), .int 0, .int zb, .int zc] cnt (pm_two (cl_L B kp I A) ρ) (pm_Qi (fun v σ' cnt' => (v = 0 ∨ v = 1) ∧ hvq ε B kp ρ cnt σ' cnt')) := by
  refine pm_enter 0 (by decide) (Nat.le_of_ble_eq_true rfl) rfl (fun G hG hR hF => ?_)
  refine pm_iloadn hG dX1_winsWithin_0 rfl ?_
  refine pm_if_le (tgt := 28) hG dX1_winsWithin_1 rfl (fun _ => ?_) (fun q => absurd q (by decide))
  refine pm_iconst (v := 0) hG dX1_winsWithin_28 (by decide) ?_
  exact pm_zret hG hF dX1_winsWithin_29 rfl (pm_nz (Or.inl rfl)) (Nat.le_refl _) (Nat.le_refl _) ⟨_, rfl, (Or.inl rfl), _, _, rfl, rfl, h⟩

set_option maxRecDepth 100000 in
set_option maxHeartbeats 4000000 in
theorem g_X1_winsDespite_k0 {ε : Nat → Int32} {d B cnt : Nat} {kp : Value} {ρ : pm_S} {I : Nat → Int32} {A : Nat → Nat → Int32} {za zb zd ze : Int32} (hdd : 2 ≤ d) (h : gq ε I) : pm_met mX1_winsDespite d 0 0 B [.ref (B + 40), .int za, .int zb, .int 0, .int zd, .int ze] cnt (pm_two (cl_L B kp I A) ρ) (pm_Qi (fun v σ' cnt' => (v = 0 ∨ v = 1) ∧ hvq ε B kp ρ cnt σ' cnt')) := by
  refine pm_enter 2 (by decide) (Nat.le_of_ble_eq_true rfl) rfl (fun G hG hR hF => ?_)
  refine pm_iloadn hG dX1_winsDespite_0 rfl ?_
  refine pm_if_lt (tgt := 30) hG dX1_winsDespite_1 rfl (fun c1 => ?_) (fun c1 => ?_)
  · refine pm_iconst (v := 0) hG dX1_winsDespite_30 (by decide) ?_
    refine pm_istoreXi (loc' := [some (.ref (B + 40)), some (.int za), some (.int zb), some (.int 0), some (.int zd), some (.int ze), some (.int 0), none]) hG dX1_winsDespite_31 (by decide) (pm_c1b rfl) rfl ?_
    refine pm_iloadi hG dX1_winsDespite_33 rfl ?_
    refine pm_if_eq (tgt := 59) hG dX1_winsDespite_35 rfl (fun _ => ?_) (fun q => absurd q (by decide))
    refine pm_iconst (v := 1) hG dX1_winsDespite_59 (by decide) ?_
    exact pm_zret hG hF dX1_winsDespite_60 rfl (pm_nz (Or.inr rfl)) (Nat.le_refl _) (Nat.le_refl _) ⟨_, rfl, (Or.inr rfl), _, _, rfl, rfl, h⟩
  · refine pm_iloadn hG dX1_winsDespite_4 rfl ?_
    refine pm_aloadn hG dX1_winsDespite_5 rfl ?_
    refine pm_getf hG dX1_winsDespite_6 (flX1_15 _ rfl) rfl rfl ?_
    refine pm_alen (v := 5) hG dX1_winsDespite_9 rfl (by decide) ?_
    refine pm_icmp_ge (tgt := 30) hG dX1_winsDespite_10 rfl (fun c2 => ?_) (fun c2 => ?_)
    · refine pm_iconst (v := 0) hG dX1_winsDespite_30 (by decide) ?_
      refine pm_istoreXi (loc' := [some (.ref (B + 40)), some (.int za), some (.int zb), some (.int 0), some (.int zd), some (.int ze), some (.int 0), none]) hG dX1_winsDespite_31 (by decide) (pm_c1b rfl) rfl ?_
      refine pm_iloadi hG dX1_winsDespite_33 rfl ?_
      refine pm_if_eq (tgt := 59) hG dX1_winsDespite_35 rfl (fun _ => ?_) (fun q => absurd q (by decide))
      refine pm_iconst (v := 1) hG dX1_winsDespite_59 (by decide) ?_
      exact pm_zret hG hF dX1_winsDespite_60 rfl (pm_nz (Or.inr rfl)) (Nat.le_refl _) (Nat.le_refl _) ⟨_, rfl, (Or.inr rfl), _, _, rfl, rfl, h⟩
    · refine pm_iloadn hG dX1_winsDespite_13 rfl ?_
      refine pm_if_lt (tgt := 30) hG dX1_winsDespite_14 rfl (fun c3 => ?_) (fun c3 => ?_)
      · refine pm_iconst (v := 0) hG dX1_winsDespite_30 (by decide) ?_
        refine pm_istoreXi (loc' := [some (.ref (B + 40)), some (.int za), some (.int zb), some (.int 0), some (.int zd), some (.int ze), some (.int 0), none]) hG dX1_winsDespite_31 (by decide) (pm_c1b rfl) rfl ?_
        refine pm_iloadi hG dX1_winsDespite_33 rfl ?_
        refine pm_if_eq (tgt := 59) hG dX1_winsDespite_35 rfl (fun _ => ?_) (fun q => absurd q (by decide))
        refine pm_iconst (v := 1) hG dX1_winsDespite_59 (by decide) ?_
        exact pm_zret hG hF dX1_winsDespite_60 rfl (pm_nz (Or.inr rfl)) (Nat.le_refl _) (Nat.le_refl _) ⟨_, rfl, (Or.inr rfl), _, _, rfl, rfl, h⟩
      · refine pm_iloadn hG dX1_winsDespite_17 rfl ?_
        refine pm_aloadn hG dX1_winsDespite_18 rfl ?_
        refine pm_getf hG dX1_winsDespite_19 (flX1_15 _ rfl) rfl rfl ?_
        refine pm_alen (v := 5) hG dX1_winsDespite_22 rfl (by decide) ?_
        refine pm_icmp_ge (tgt := 30) hG dX1_winsDespite_23 rfl (fun c4 => ?_) (fun c4 => ?_)
        · refine pm_iconst (v := 0) hG dX1_winsDespite_30 (by decide) ?_
          refine pm_istoreXi (loc' := [some (.ref (B + 40)), some (.int za), some (.int zb), some (.int 0), some (.int zd), some (.int ze), some (.int 0), none]) hG dX1_winsDespite_31 (by decide) (pm_c1b rfl) rfl ?_
          refine pm_iloadi hG dX1_winsDespite_33 rfl ?_
          refine pm_if_eq (tgt := 59) hG dX1_winsDespite_35 rfl (fun _ => ?_) (fun q => absurd q (by decide))
          refine pm_iconst (v := 1) hG dX1_winsDespite_59 (by decide) ?_
          exact pm_zret hG hF dX1_winsDespite_60 rfl (pm_nz (Or.inr rfl)) (Nat.le_refl _) (Nat.le_refl _) ⟨_, rfl, (Or.inr rfl), _, _, rfl, rfl, h⟩
        · refine pm_iconst (v := 1) hG dX1_winsDespite_26 (by decide) ?_
          refine pm_goto (tgt := 31) hG dX1_winsDespite_27 rfl ?_
          refine pm_istoreXi (loc' := [some (.ref (B + 40)), some (.int za), some (.int zb), some (.int 0), some (.int zd), some (.int ze), some (.int 1), none]) hG dX1_winsDespite_31 (by decide) (pm_c1b rfl) rfl ?_
          refine pm_iloadi hG dX1_winsDespite_33 rfl ?_
          refine pm_if_eq (tgt := 59) hG dX1_winsDespite_35 rfl (fun q => absurd q (by decide)) (fun _ => ?_)
          refine pm_aloadn hG dX1_winsDespite_38 rfl ?_
          refine pm_getf hG dX1_winsDespite_39 (flX1_15 _ rfl) rfl rfl ?_
          refine pm_iloadn hG dX1_winsDespite_42 rfl ?_
          refine pm_iald hG dX1_winsDespite_43 rfl (pm_ib2 rfl c1 c2) ?_
          refine pm_iconst (v := 1) hG dX1_winsDespite_44 (by decide) ?_
          refine pm_icmp_lt (tgt := 59) hG dX1_winsDespite_45 rfl (fun c5 => ?_) (fun c5 => ?_)
          · refine pm_iconst (v := 1) hG dX1_winsDespite_59 (by decide) ?_
            exact pm_zret hG hF dX1_winsDespite_60 rfl (pm_nz (Or.inr rfl)) (Nat.le_refl _) (Nat.le_refl _) ⟨_, rfl, (Or.inr rfl), _, _, rfl, rfl, h⟩
          · refine pm_aloadn hG dX1_winsDespite_48 rfl ?_
            refine pm_getf hG dX1_winsDespite_49 (flX1_15 _ rfl) rfl rfl ?_
            refine pm_iloadn hG dX1_winsDespite_52 rfl ?_
            refine pm_iald hG dX1_winsDespite_53 rfl (pm_ib2 rfl c3 c4) ?_
            refine pm_bipush (v := 6) hG dX1_winsDespite_54 (by decide) ?_
            refine pm_icmp_lt (tgt := 61) hG dX1_winsDespite_56 rfl (fun c6 => ?_) (fun c6 => ?_)
            · refine pm_aloadn hG dX1_winsDespite_61 rfl ?_
              refine pm_getf hG dX1_winsDespite_62 (flX1_15 _ rfl) rfl rfl ?_
              refine pm_iloadn hG dX1_winsDespite_65 rfl ?_
              refine pm_dup2 hG dX1_winsDespite_66 rfl rfl ?_
              refine pm_iald hG dX1_winsDespite_67 rfl (pm_ib2 rfl c1 c2) ?_
              refine pm_iconst (v := 1) hG dX1_winsDespite_68 (by decide) ?_
              refine pm_isub hG dX1_winsDespite_69 ?_
              refine pm_iast hG dX1_winsDespite_70 rfl (pm_ib2 rfl c1 c2) ?_
              refine nm_a41 (fun A7 => ?_)
              refine pm_aloadn hG dX1_winsDespite_71 rfl ?_
              refine pm_getf hG dX1_winsDespite_72 (flX1_15 _ rfl) rfl rfl ?_
              refine pm_iloadn hG dX1_winsDespite_75 rfl ?_
              refine pm_dup2 hG dX1_winsDespite_76 rfl rfl ?_
              refine pm_iald hG dX1_winsDespite_77 rfl (pm_ib2 rfl c3 c4) ?_
              refine pm_iconst (v := 1) hG dX1_winsDespite_78 (by decide) ?_
              refine pm_iadd hG dX1_winsDespite_79 ?_
              refine pm_iast hG dX1_winsDespite_80 rfl (pm_ib2 rfl c3 c4) ?_
              refine nm_a41 (fun A8 => ?_)
              refine pm_aloadn hG dX1_winsDespite_81 rfl ?_
              refine pm_iloadn hG dX1_winsDespite_82 rfl ?_
              refine pm_iloadi hG dX1_winsDespite_83 rfl ?_
              refine pm_iloadi hG dX1_winsDespite_85 rfl ?_
              refine pm_callV (As := [.int 0, .int zd, .int ze]) (rest := []) hG hR dX1_winsDespite_87 (lkX1_44 _ rfl) okV_X1_winsWithin rfl rfl (g_X1_winsWithin_k0 (d := 1) (by decide) h) rfl rfl hdd (Nat.le_refl _) (Nat.le_refl _) (by decide) (pm_ki (fun v9 σ' cnt' hq => ?_))
              obtain ⟨b9, I9, A9, rfl, rfl, h9⟩ := hq
              refine pm_istoreXi (loc' := [some (.ref (B + 40)), some (.int za), some (.int zb), some (.int 0), some (.int zd), some (.int ze), some (.int 1), some (.int v9)]) hG dX1_winsDespite_90 (by decide) (pm_c1b rfl) rfl ?_
              refine pm_aloadn hG dX1_winsDespite_92 rfl ?_
              refine pm_getf hG dX1_winsDespite_93 (flX1_15 _ rfl) rfl rfl ?_
              refine pm_iloadn hG dX1_winsDespite_96 rfl ?_
              refine pm_dup2 hG dX1_winsDespite_97 rfl rfl ?_
              refine pm_iald hG dX1_winsDespite_98 rfl (pm_ib2 rfl c1 c2) ?_
              refine pm_iconst (v := 1) hG dX1_winsDespite_99 (by decide) ?_
              refine pm_iadd hG dX1_winsDespite_100 ?_
              refine pm_iast hG dX1_winsDespite_101 rfl (pm_ib2 rfl c1 c2) ?_
              refine nm_a41 (fun A10 => ?_)
              refine pm_aloadn hG dX1_winsDespite_102 rfl ?_
              refine pm_getf hG dX1_winsDespite_103 (flX1_15 _ rfl) rfl rfl ?_
              refine pm_iloadn hG dX1_winsDespite_106 rfl ?_
              refine pm_dup2 hG dX1_winsDespite_107 rfl rfl ?_
              refine pm_iald hG dX1_winsDespite_108 rfl (pm_ib2 rfl c3 c4) ?_
              refine pm_iconst (v := 1) hG dX1_winsDespite_109 (by decide) ?_
              refine pm_isub hG dX1_winsDespite_110 ?_
              refine pm_iast hG dX1_winsDespite_111 rfl (pm_ib2 rfl c3 c4) ?_
              refine nm_a41 (fun A11 => ?_)
              refine pm_iloadi hG dX1_winsDespite_112 rfl ?_
              exact pm_zret hG hF dX1_winsDespite_114 rfl (pm_nz b9) (Nat.le_refl _) (Nat.le_refl _) ⟨_, rfl, b9, _, _, rfl, rfl, h9⟩
            · refine pm_iconst (v := 1) hG dX1_winsDespite_59 (by decide) ?_
              exact pm_zret hG hF dX1_winsDespite_60 rfl (pm_nz (Or.inr rfl)) (Nat.le_refl _) (Nat.le_refl _) ⟨_, rfl, (Or.inr rfl), _, _, rfl, rfl, h⟩

set_option maxRecDepth 100000 in
set_option maxHeartbeats 4000000 in
theorem g_X1_winsWhatever_k0 {ε : Nat → Int32} {d B cnt : Nat} {kp : Value} {ρ : pm_S} {I : Nat → Int32} {A : Nat → Nat → Int32} {zb zc : Int32} (hdd : 3 ≤ d) (h : gq ε I) : pm_met mX1_winsWhatever d 0 0 B [.ref (B + 40), .int 0, .int zb, .int zc] cnt (pm_two (cl_L B kp I A) ρ) (pm_Qi (fun v σ' cnt' => (v = 0 ∨ v = 1) ∧ hvq ε B kp ρ cnt σ' cnt')) := by
  refine pm_enter 2 (by decide) (Nat.le_of_ble_eq_true rfl) rfl (fun G hG hR hF => ?_)
  refine pm_aloadn hG dX1_winsWhatever_0 rfl ?_
  refine pm_iloadn hG dX1_winsWhatever_1 rfl ?_
  refine pm_iloadn hG dX1_winsWhatever_2 rfl ?_
  refine pm_iloadn hG dX1_winsWhatever_3 rfl ?_
  refine pm_callV (As := [.int 0, .int zb, .int zc]) (rest := []) hG hR dX1_winsWhatever_4 (lkX1_44 _ rfl) okV_X1_winsWithin rfl rfl (g_X1_winsWithin_k0 (d := 2) (by decide) h) rfl rfl hdd (Nat.le_refl _) (Nat.le_refl _) (by decide) (pm_ki (fun v1 σ' cnt' hq => ?_))
  obtain ⟨b1, I1, A1, rfl, rfl, h1⟩ := hq
  refine pm_istoreXi (loc' := [some (.ref (B + 40)), some (.int 0), some (.int zb), some (.int zc), some (.int v1), none]) hG dX1_winsWhatever_7 (by decide) (pm_c1b rfl) rfl ?_
  refine pm_iconst (v := 0) hG dX1_winsWhatever_9 (by decide) ?_
  refine pm_iloadn hG dX1_winsWhatever_10 rfl ?_
  refine pm_mmax hG hR dX1_winsWhatever_11 (mmX1_47 _ rfl) pm_mwmax (by omega) (by first | decide | exact Nat.le_of_ble_eq_true rfl) (Nat.le_refl _) (Nat.le_refl _) ?_
  refine pm_istoreXi (loc' := [some (.ref (B + 40)), some (.int 0), some (.int zb), some (.int zc), some (.int v1), some (.int (if 0 < zb then zb else 0))]) hG dX1_winsWhatever_14 (by decide) (pm_c1b rfl) rfl ?_
  have loop16 : ∀ (m16 : Nat) (I2 : Nat → Int32) (A2 : Nat → Nat → Int32) (x2_4 x2_5 : Int32), gq ε I2 → (x2_4 = 0 ∨ x2_4 = 1) → ((4 : Int32).toInt - x2_5.toInt).toNat < m16 → pm_wp mX1_winsWhatever G B 16 [some (.ref (B + 40)), some (.int 0), some (.int zb), some (.int zc), some (.int x2_4), some (.int x2_5)] [] 0 0 cnt (pm_two (cl_L B kp I2 A2) ρ) := by
    intro m16
    induction m16 with
    | zero => intro I2 A2 x2_4 x2_5 _ _ hm; exact absurd hm (Nat.not_lt_zero _)
    | succ m16 ih16 =>
      intro I2 A2 x2_4 x2_5 h2 b2_4 hm16
      refine pm_iloadi hG dX1_winsWhatever_16 rfl ?_
      refine pm_aloadn hG dX1_winsWhatever_18 rfl ?_
      refine pm_getf hG dX1_winsWhatever_19 (flX1_15 _ rfl) rfl rfl ?_
      refine pm_alen (v := 5) hG dX1_winsWhatever_22 rfl (by decide) ?_
      refine pm_iconst (v := 1) hG dX1_winsWhatever_23 (by decide) ?_
      refine pm_isub hG dX1_winsWhatever_24 ?_
      refine pm_top (v := 4) (by decide) ?_
      refine pm_icmp_ge (tgt := 78) hG dX1_winsWhatever_25 rfl (fun c3 => ?_) (fun c3 => ?_)
      · refine pm_iloadi hG dX1_winsWhatever_78 rfl ?_
        exact pm_zret hG hF dX1_winsWhatever_80 rfl (pm_nz b2_4) (Nat.le_refl _) (Nat.le_refl _) ⟨_, rfl, b2_4, _, _, rfl, rfl, h2⟩
      · refine pm_iloadi hG dX1_winsWhatever_28 rfl ?_
        refine pm_if_eq (tgt := 78) hG dX1_winsWhatever_30 rfl (fun c4 => ?_) (fun c4 => ?_)
        · refine pm_iloadi hG dX1_winsWhatever_78 rfl ?_
          exact pm_zret hG hF dX1_winsWhatever_80 rfl (pm_nz b2_4) (Nat.le_refl _) (Nat.le_refl _) ⟨_, rfl, b2_4, _, _, rfl, rfl, h2⟩
        · refine pm_aloadn hG dX1_winsWhatever_33 rfl ?_
          refine pm_iloadi hG dX1_winsWhatever_34 rfl ?_
          refine pm_iloadi hG dX1_winsWhatever_36 rfl ?_
          refine pm_iconst (v := 1) hG dX1_winsWhatever_38 (by decide) ?_
          refine pm_iadd hG dX1_winsWhatever_39 ?_
          refine pm_iloadn hG dX1_winsWhatever_40 rfl ?_
          refine pm_iloadn hG dX1_winsWhatever_41 rfl ?_
          refine pm_iloadn hG dX1_winsWhatever_42 rfl ?_
          refine pm_callV (As := [.int x2_5, .int (x2_5 + 1), .int 0, .int zb, .int zc]) (rest := []) hG hR dX1_winsWhatever_43 (lkX1_52 _ rfl) okV_X1_winsDespite rfl rfl (g_X1_winsDespite_k0 (d := 2) (by decide) h2) rfl rfl hdd (Nat.le_refl _) (Nat.le_refl _) (by decide) (pm_ki (fun v5 σ' cnt' hq => ?_))
          obtain ⟨b5, I5, A5, rfl, rfl, h5⟩ := hq
          refine pm_if_eq (tgt := 69) hG dX1_winsWhatever_46 rfl (fun c6 => ?_) (fun c6 => ?_)
          · refine pm_iconst (v := 0) hG dX1_winsWhatever_69 (by decide) ?_
            refine pm_istoreXi (loc' := [some (.ref (B + 40)), some (.int 0), some (.int zb), some (.int zc), some (.int 0), some (.int x2_5)]) hG dX1_winsWhatever_70 (by decide) (pm_c1b rfl) rfl ?_
            refine pm_iincX (v := x2_5 + 1) (loc' := [some (.ref (B + 40)), some (.int 0), some (.int zb), some (.int zc), some (.int 0), some (.int (x2_5 + 1))]) hG dX1_winsWhatever_72 rfl (by rfl) (by decide) (pm_c1b rfl) rfl ?_
            refine pm_goto (tgt := 16) hG dX1_winsWhatever_75 rfl ?_
            exact ih16 _ _ 0 (x2_5 + 1) h5 (Or.inl rfl) (Nat.lt_of_lt_of_le (pm_mu1 c3) (Nat.le_of_lt_succ hm16))
          · refine pm_aloadn hG dX1_winsWhatever_49 rfl ?_
            refine pm_iloadi hG dX1_winsWhatever_50 rfl ?_
            refine pm_iconst (v := 1) hG dX1_winsWhatever_52 (by decide) ?_
            refine pm_iadd hG dX1_winsWhatever_53 ?_
            refine pm_iloadi hG dX1_winsWhatever_54 rfl ?_
            refine pm_iloadn hG dX1_winsWhatever_56 rfl ?_
            refine pm_iloadn hG dX1_winsWhatever_57 rfl ?_
            refine pm_iloadn hG dX1_winsWhatever_58 rfl ?_
            refine pm_callV (As := [.int (x2_5 + 1), .int x2_5, .int 0, .int zb, .int zc]) (rest := []) hG hR dX1_winsWhatever_59 (lkX1_52 _ rfl) okV_X1_winsDespite rfl rfl (g_X1_winsDespite_k0 (d := 2) (by decide) h5) rfl rfl hdd (Nat.le_refl _) (Nat.le_refl _) (by decide) (pm_ki (fun v7 σ' cnt' hq => ?_))
            obtain ⟨b7, I7, A7, rfl, rfl, h7⟩ := hq
            refine pm_if_eq (tgt := 69) hG dX1_winsWhatever_62 rfl (fun c8 => ?_) (fun c8 => ?_)
            · refine pm_iconst (v := 0) hG dX1_winsWhatever_69 (by decide) ?_
              refine pm_istoreXi (loc' := [some (.ref (B + 40)), some (.int 0), some (.int zb), some (.int zc), some (.int 0), some (.int x2_5)]) hG dX1_winsWhatever_70 (by decide) (pm_c1b rfl) rfl ?_
              refine pm_iincX (v := x2_5 + 1) (loc' := [some (.ref (B + 40)), some (.int 0), some (.int zb), some (.int zc), some (.int 0), some (.int (x2_5 + 1))]) hG dX1_winsWhatever_72 rfl (by rfl) (by decide) (pm_c1b rfl) rfl ?_
              refine pm_goto (tgt := 16) hG dX1_winsWhatever_75 rfl ?_
              exact ih16 _ _ 0 (x2_5 + 1) h7 (Or.inl rfl) (Nat.lt_of_lt_of_le (pm_mu1 c3) (Nat.le_of_lt_succ hm16))
            · refine pm_iconst (v := 1) hG dX1_winsWhatever_65 (by decide) ?_
              refine pm_goto (tgt := 70) hG dX1_winsWhatever_66 rfl ?_
              refine pm_istoreXi (loc' := [some (.ref (B + 40)), some (.int 0), some (.int zb), some (.int zc), some (.int 1), some (.int x2_5)]) hG dX1_winsWhatever_70 (by decide) (pm_c1b rfl) rfl ?_
              refine pm_iincX (v := x2_5 + 1) (loc' := [some (.ref (B + 40)), some (.int 0), some (.int zb), some (.int zc), some (.int 1), some (.int (x2_5 + 1))]) hG dX1_winsWhatever_72 rfl (by rfl) (by decide) (pm_c1b rfl) rfl ?_
              refine pm_goto (tgt := 16) hG dX1_winsWhatever_75 rfl ?_
              exact ih16 _ _ 1 (x2_5 + 1) h7 (Or.inr rfl) (Nat.lt_of_lt_of_le (pm_mu1 c3) (Nat.le_of_lt_succ hm16))
  exact loop16 _ _ _ v1 (if 0 < zb then zb else 0) h1 b1 (Nat.lt_succ_self _)

set_option maxRecDepth 100000 in
set_option maxHeartbeats 4000000 in
theorem g_X1_winsByTaking_k1 {ε : Nat → Int32} {d B cnt : Nat} {kp : Value} {ρ : pm_S} {I : Nat → Int32} {A : Nat → Nat → Int32} {zb zc : Int32} (hdd : 4 ≤ d) (h : gq ε I) : pm_met mX1_winsByTaking d 0 0 B [.ref (B + 40), .int 1, .int zb, .int zc] cnt (pm_two (cl_L B kp I A) ρ) (pm_Qi (fun v σ' cnt' => (v = 0 ∨ v = 1) ∧ hvq ε B kp ρ cnt σ' cnt')) := by
  refine pm_enter 0 (by decide) (Nat.le_of_ble_eq_true rfl) rfl (fun G hG hR hF => ?_)
  refine pm_iloadn hG dX1_winsByTaking_0 rfl ?_
  refine pm_if_lt (tgt := 23) hG dX1_winsByTaking_1 rfl (fun c1 => ?_) (fun c1 => ?_)
  · refine pm_iconst (v := 0) hG dX1_winsByTaking_23 (by decide) ?_
    exact pm_zret hG hF dX1_winsByTaking_24 rfl (pm_nz (Or.inl rfl)) (Nat.le_refl _) (Nat.le_refl _) ⟨_, rfl, (Or.inl rfl), _, _, rfl, rfl, h⟩
  · refine pm_iloadn hG dX1_winsByTaking_4 rfl ?_
    refine pm_aloadn hG dX1_winsByTaking_5 rfl ?_
    refine pm_getf hG dX1_winsByTaking_6 (flX1_15 _ rfl) rfl rfl ?_
    refine pm_alen (v := 5) hG dX1_winsByTaking_9 rfl (by decide) ?_
    refine pm_icmp_ge (tgt := 23) hG dX1_winsByTaking_10 rfl (fun c2 => ?_) (fun c2 => ?_)
    · refine pm_iconst (v := 0) hG dX1_winsByTaking_23 (by decide) ?_
      exact pm_zret hG hF dX1_winsByTaking_24 rfl (pm_nz (Or.inl rfl)) (Nat.le_refl _) (Nat.le_refl _) ⟨_, rfl, (Or.inl rfl), _, _, rfl, rfl, h⟩
    · refine pm_iloadn hG dX1_winsByTaking_13 rfl ?_
      refine pm_aloadn hG dX1_winsByTaking_14 rfl ?_
      refine pm_getf hG dX1_winsByTaking_15 (flX1_15 _ rfl) rfl rfl ?_
      refine pm_iloadn hG dX1_winsByTaking_18 rfl ?_
      refine pm_iald hG dX1_winsByTaking_19 rfl (pm_ib2 rfl c1 c2) ?_
      refine pm_icmp_gt (tgt := 25) hG dX1_winsByTaking_20 rfl (fun c3 => ?_) (fun c3 => ?_)
      · refine pm_iloadn hG dX1_winsByTaking_25 rfl ?_
        refine pm_aloadn hG dX1_winsByTaking_26 rfl ?_
        refine pm_getf hG dX1_winsByTaking_27 (flX1_19 _ rfl) rfl rfl ?_
        refine pm_icmp_eq (tgt := 54) hG dX1_winsByTaking_30 rfl (fun c4 => ?_) (fun c4 => ?_)
        · refine pm_iconst (v := 1) hG dX1_winsByTaking_54 (by decide) ?_
          refine pm_goto (tgt := 59) hG dX1_winsByTaking_55 rfl ?_
          exact pm_zret hG hF dX1_winsByTaking_59 rfl (pm_nz (Or.inr rfl)) (Nat.le_refl _) (Nat.le_refl _) ⟨_, rfl, (Or.inr rfl), _, _, rfl, rfl, h⟩
        · refine pm_aloadn hG dX1_winsByTaking_33 rfl ?_
          refine pm_iloadn hG dX1_winsByTaking_34 rfl ?_
          refine pm_iconst (v := 1) hG dX1_winsByTaking_35 (by decide) ?_
          refine pm_isub hG dX1_winsByTaking_36 ?_
          refine pm_top (v := 0) (by decide) ?_
          refine pm_iloadn hG dX1_winsByTaking_37 rfl ?_
          refine pm_iconst (v := 1) hG dX1_winsByTaking_38 (by decide) ?_
          refine pm_iadd hG dX1_winsByTaking_39 ?_
          refine pm_iloadn hG dX1_winsByTaking_40 rfl ?_
          refine pm_aloadn hG dX1_winsByTaking_41 rfl ?_
          refine pm_getf hG dX1_winsByTaking_42 (flX1_15 _ rfl) rfl rfl ?_
          refine pm_iloadn hG dX1_winsByTaking_45 rfl ?_
          refine pm_iald hG dX1_winsByTaking_46 rfl (pm_ib2 rfl c1 c2) ?_
          refine pm_isub hG dX1_winsByTaking_47 ?_
          refine pm_callV (As := [.int 0, .int (zb + 1), .int (zc - ((A 41) zb.toNatClampNeg))]) (rest := []) hG hR dX1_winsByTaking_48 (lkX1_41 _ rfl) okV_X1_winsWhatever rfl rfl (g_X1_winsWhatever_k0 (d := 3) (by decide) h) rfl rfl hdd (Nat.le_refl _) (Nat.le_refl _) (by decide) (pm_ki (fun v5 σ' cnt' hq => ?_))
          obtain ⟨b5, I5, A5, rfl, rfl, h5⟩ := hq
          refine pm_if_eq (tgt := 58) hG dX1_winsByTaking_51 rfl (fun c6 => ?_) (fun c6 => ?_)
          · refine pm_iconst (v := 0) hG dX1_winsByTaking_58 (by decide) ?_
            exact pm_zret hG hF dX1_winsByTaking_59 rfl (pm_nz (Or.inl rfl)) (Nat.le_refl _) (Nat.le_refl _) ⟨_, rfl, (Or.inl rfl), _, _, rfl, rfl, h5⟩
          · refine pm_iconst (v := 1) hG dX1_winsByTaking_54 (by decide) ?_
            refine pm_goto (tgt := 59) hG dX1_winsByTaking_55 rfl ?_
            exact pm_zret hG hF dX1_winsByTaking_59 rfl (pm_nz (Or.inr rfl)) (Nat.le_refl _) (Nat.le_refl _) ⟨_, rfl, (Or.inr rfl), _, _, rfl, rfl, h5⟩
      · refine pm_iconst (v := 0) hG dX1_winsByTaking_23 (by decide) ?_
        exact pm_zret hG hF dX1_winsByTaking_24 rfl (pm_nz (Or.inl rfl)) (Nat.le_refl _) (Nat.le_refl _) ⟨_, rfl, (Or.inl rfl), _, _, rfl, rfl, h⟩

set_option maxRecDepth 100000 in
set_option maxHeartbeats 4000000 in
theorem g_X1_winsByWaiting_k1 {ε : Nat → Int32} {d B cnt : Nat} {kp : Value} {ρ : pm_S} {I : Nat → Int32} {A : Nat → Nat → Int32} {zb zc : Int32} (hdd : 4 ≤ d) (h : gq ε I) : pm_met mX1_winsByWaiting d 0 0 B [.ref (B + 40), .int 1, .int zb, .int zc] cnt (pm_two (cl_L B kp I A) ρ) (pm_Qi (fun v σ' cnt' => (v = 0 ∨ v = 1) ∧ hvq ε B kp ρ cnt σ' cnt')) := by
  refine pm_enter 0 (by decide) (Nat.le_of_ble_eq_true rfl) rfl (fun G hG hR hF => ?_)
  refine pm_aloadn hG dX1_winsByWaiting_0 rfl ?_
  refine pm_iloadn hG dX1_winsByWaiting_1 rfl ?_
  refine pm_iconst (v := 1) hG dX1_winsByWaiting_2 (by decide) ?_
  refine pm_isub hG dX1_winsByWaiting_3 ?_
  refine pm_top (v := 0) (by decide) ?_
  refine pm_iloadn hG dX1_winsByWaiting_4 rfl ?_
  refine pm_iloadn hG dX1_winsByWaiting_5 rfl ?_
  refine pm_callV (As := [.int 0, .int zb, .int zc]) (rest := []) hG hR dX1_winsByWaiting_6 (lkX1_41 _ rfl) okV_X1_winsWhatever rfl rfl (g_X1_winsWhatever_k0 (d := 3) (by decide) h) rfl rfl hdd (Nat.le_refl _) (Nat.le_refl _) (by decide) (pm_ki (fun v1 σ' cnt' hq => ?_))
  obtain ⟨b1, I1, A1, rfl, rfl, h1⟩ := hq
  exact pm_zret hG hF dX1_winsByWaiting_9 rfl (pm_nz b1) (Nat.le_refl _) (Nat.le_refl _) ⟨_, rfl, b1, _, _, rfl, rfl, h1⟩

set_option maxRecDepth 100000 in
set_option maxHeartbeats 4000000 in
theorem g_X1_winsWithin_k1 {ε : Nat → Int32} {d B cnt : Nat} {kp : Value} {ρ : pm_S} {I : Nat → Int32} {A : Nat → Nat → Int32} {zb zc : Int32} (hdd : 5 ≤ d) (h : gq ε I) : pm_met mX1_winsWithin d 0 0 B [.ref (B + 40), .int 1, .int zb, .int zc] cnt (pm_two (cl_L B kp I A) ρ) (pm_Qi (fun v σ' cnt' => (v = 0 ∨ v = 1) ∧ hvq ε B kp ρ cnt σ' cnt')) := by
  refine pm_enter 0 (by decide) (Nat.le_of_ble_eq_true rfl) rfl (fun G hG hR hF => ?_)
  refine pm_iloadn hG dX1_winsWithin_0 rfl ?_
  refine pm_if_le (tgt := 28) hG dX1_winsWithin_1 rfl (fun q => absurd q (by decide)) (fun _ => ?_)
  refine pm_aloadn hG dX1_winsWithin_4 rfl ?_
  refine pm_iloadn hG dX1_winsWithin_5 rfl ?_
  refine pm_iloadn hG dX1_winsWithin_6 rfl ?_
  refine pm_iloadn hG dX1_winsWithin_7 rfl ?_
  refine pm_callV (As := [.int 1, .int zb, .int zc]) (rest := []) hG hR dX1_winsWithin_8 (lkX1_34 _ rfl) okV_X1_winsByTaking rfl rfl (g_X1_winsByTaking_k1 (d := 4) (by decide) h) rfl rfl hdd (Nat.le_refl _) (Nat.le_refl _) (by decide) (pm_ki (fun v1 σ' cnt' hq => ?_))
  obtain ⟨b1, I1, A1, rfl, rfl, h1⟩ := hq
  refine pm_if_ne (tgt := 24) hG dX1_winsWithin_11 rfl (fun c2 => ?_) (fun c2 => ?_)
  · refine pm_iconst (v := 1) hG dX1_winsWithin_24 (by decide) ?_
    refine pm_goto (tgt := 29) hG dX1_winsWithin_25 rfl ?_
    exact pm_zret hG hF dX1_winsWithin_29 rfl (pm_nz (Or.inr rfl)) (Nat.le_refl _) (Nat.le_refl _) ⟨_, rfl, (Or.inr rfl), _, _, rfl, rfl, h1⟩
  · refine pm_aloadn hG dX1_winsWithin_14 rfl ?_
    refine pm_iloadn hG dX1_winsWithin_15 rfl ?_
    refine pm_iloadn hG dX1_winsWithin_16 rfl ?_
    refine pm_iloadn hG dX1_winsWithin_17 rfl ?_
    refine pm_callV (As := [.int 1, .int zb, .int zc]) (rest := []) hG hR dX1_winsWithin_18 (lkX1_38 _ rfl) okV_X1_winsByWaiting rfl rfl (g_X1_winsByWaiting_k1 (d := 4) (by decide) h1) rfl rfl hdd (Nat.le_refl _) (Nat.le_refl _) (by decide) (pm_ki (fun v3 σ' cnt' hq => ?_))
    obtain ⟨b3, I3, A3, rfl, rfl, h3⟩ := hq
    refine pm_if_eq (tgt := 28) hG dX1_winsWithin_21 rfl (fun c4 => ?_) (fun c4 => ?_)
    · refine pm_iconst (v := 0) hG dX1_winsWithin_28 (by decide) ?_
      exact pm_zret hG hF dX1_winsWithin_29 rfl (pm_nz (Or.inl rfl)) (Nat.le_refl _) (Nat.le_refl _) ⟨_, rfl, (Or.inl rfl), _, _, rfl, rfl, h3⟩
    · refine pm_iconst (v := 1) hG dX1_winsWithin_24 (by decide) ?_
      refine pm_goto (tgt := 29) hG dX1_winsWithin_25 rfl ?_
      exact pm_zret hG hF dX1_winsWithin_29 rfl (pm_nz (Or.inr rfl)) (Nat.le_refl _) (Nat.le_refl _) ⟨_, rfl, (Or.inr rfl), _, _, rfl, rfl, h3⟩

set_option maxRecDepth 100000 in
set_option maxHeartbeats 4000000 in
theorem g_X1_winsDespite_k1 {ε : Nat → Int32} {d B cnt : Nat} {kp : Value} {ρ : pm_S} {I : Nat → Int32} {A : Nat → Nat → Int32} {za zb zd ze : Int32} (hdd : 6 ≤ d) (h : gq ε I) : pm_met mX1_winsDespite d 0 0 B [.ref (B + 40), .int za, .int zb, .int 1, .int zd, .int ze] cnt (pm_two (cl_L B kp I A) ρ) (pm_Qi (fun v σ' cnt' => (v = 0 ∨ v = 1) ∧ hvq ε B kp ρ cnt σ' cnt')) := by
  refine pm_enter 2 (by decide) (Nat.le_of_ble_eq_true rfl) rfl (fun G hG hR hF => ?_)
  refine pm_iloadn hG dX1_winsDespite_0 rfl ?_
  refine pm_if_lt (tgt := 30) hG dX1_winsDespite_1 rfl (fun c1 => ?_) (fun c1 => ?_)
  · refine pm_iconst (v := 0) hG dX1_winsDespite_30 (by decide) ?_
    refine pm_istoreXi (loc' := [some (.ref (B + 40)), some (.int za), some (.int zb), some (.int 1), some (.int zd), some (.int ze), some (.int 0), none]) hG dX1_winsDespite_31 (by decide) (pm_c1b rfl) rfl ?_
    refine pm_iloadi hG dX1_winsDespite_33 rfl ?_
    refine pm_if_eq (tgt := 59) hG dX1_winsDespite_35 rfl (fun _ => ?_) (fun q => absurd q (by decide))
    refine pm_iconst (v := 1) hG dX1_winsDespite_59 (by decide) ?_
    exact pm_zret hG hF dX1_winsDespite_60 rfl (pm_nz (Or.inr rfl)) (Nat.le_refl _) (Nat.le_refl _) ⟨_, rfl, (Or.inr rfl), _, _, rfl, rfl, h⟩
  · refine pm_iloadn hG dX1_winsDespite_4 rfl ?_
    refine pm_aloadn hG dX1_winsDespite_5 rfl ?_
    refine pm_getf hG dX1_winsDespite_6 (flX1_15 _ rfl) rfl rfl ?_
    refine pm_alen (v := 5) hG dX1_winsDespite_9 rfl (by decide) ?_
    refine pm_icmp_ge (tgt := 30) hG dX1_winsDespite_10 rfl (fun c2 => ?_) (fun c2 => ?_)
    · refine pm_iconst (v := 0) hG dX1_winsDespite_30 (by decide) ?_
      refine pm_istoreXi (loc' := [some (.ref (B + 40)), some (.int za), some (.int zb), some (.int 1), some (.int zd), some (.int ze), some (.int 0), none]) hG dX1_winsDespite_31 (by decide) (pm_c1b rfl) rfl ?_
      refine pm_iloadi hG dX1_winsDespite_33 rfl ?_
      refine pm_if_eq (tgt := 59) hG dX1_winsDespite_35 rfl (fun _ => ?_) (fun q => absurd q (by decide))
      refine pm_iconst (v := 1) hG dX1_winsDespite_59 (by decide) ?_
      exact pm_zret hG hF dX1_winsDespite_60 rfl (pm_nz (Or.inr rfl)) (Nat.le_refl _) (Nat.le_refl _) ⟨_, rfl, (Or.inr rfl), _, _, rfl, rfl, h⟩
    · refine pm_iloadn hG dX1_winsDespite_13 rfl ?_
      refine pm_if_lt (tgt := 30) hG dX1_winsDespite_14 rfl (fun c3 => ?_) (fun c3 => ?_)
      · refine pm_iconst (v := 0) hG dX1_winsDespite_30 (by decide) ?_
        refine pm_istoreXi (loc' := [some (.ref (B + 40)), some (.int za), some (.int zb), some (.int 1), some (.int zd), some (.int ze), some (.int 0), none]) hG dX1_winsDespite_31 (by decide) (pm_c1b rfl) rfl ?_
        refine pm_iloadi hG dX1_winsDespite_33 rfl ?_
        refine pm_if_eq (tgt := 59) hG dX1_winsDespite_35 rfl (fun _ => ?_) (fun q => absurd q (by decide))
        refine pm_iconst (v := 1) hG dX1_winsDespite_59 (by decide) ?_
        exact pm_zret hG hF dX1_winsDespite_60 rfl (pm_nz (Or.inr rfl)) (Nat.le_refl _) (Nat.le_refl _) ⟨_, rfl, (Or.inr rfl), _, _, rfl, rfl, h⟩
      · refine pm_iloadn hG dX1_winsDespite_17 rfl ?_
        refine pm_aloadn hG dX1_winsDespite_18 rfl ?_
        refine pm_getf hG dX1_winsDespite_19 (flX1_15 _ rfl) rfl rfl ?_
        refine pm_alen (v := 5) hG dX1_winsDespite_22 rfl (by decide) ?_
        refine pm_icmp_ge (tgt := 30) hG dX1_winsDespite_23 rfl (fun c4 => ?_) (fun c4 => ?_)
        · refine pm_iconst (v := 0) hG dX1_winsDespite_30 (by decide) ?_
          refine pm_istoreXi (loc' := [some (.ref (B + 40)), some (.int za), some (.int zb), some (.int 1), some (.int zd), some (.int ze), some (.int 0), none]) hG dX1_winsDespite_31 (by decide) (pm_c1b rfl) rfl ?_
          refine pm_iloadi hG dX1_winsDespite_33 rfl ?_
          refine pm_if_eq (tgt := 59) hG dX1_winsDespite_35 rfl (fun _ => ?_) (fun q => absurd q (by decide))
          refine pm_iconst (v := 1) hG dX1_winsDespite_59 (by decide) ?_
          exact pm_zret hG hF dX1_winsDespite_60 rfl (pm_nz (Or.inr rfl)) (Nat.le_refl _) (Nat.le_refl _) ⟨_, rfl, (Or.inr rfl), _, _, rfl, rfl, h⟩
        · refine pm_iconst (v := 1) hG dX1_winsDespite_26 (by decide) ?_
          refine pm_goto (tgt := 31) hG dX1_winsDespite_27 rfl ?_
          refine pm_istoreXi (loc' := [some (.ref (B + 40)), some (.int za), some (.int zb), some (.int 1), some (.int zd), some (.int ze), some (.int 1), none]) hG dX1_winsDespite_31 (by decide) (pm_c1b rfl) rfl ?_
          refine pm_iloadi hG dX1_winsDespite_33 rfl ?_
          refine pm_if_eq (tgt := 59) hG dX1_winsDespite_35 rfl (fun q => absurd q (by decide)) (fun _ => ?_)
          refine pm_aloadn hG dX1_winsDespite_38 rfl ?_
          refine pm_getf hG dX1_winsDespite_39 (flX1_15 _ rfl) rfl rfl ?_
          refine pm_iloadn hG dX1_winsDespite_42 rfl ?_
          refine pm_iald hG dX1_winsDespite_43 rfl (pm_ib2 rfl c1 c2) ?_
          refine pm_iconst (v := 1) hG dX1_winsDespite_44 (by decide) ?_
          refine pm_icmp_lt (tgt := 59) hG dX1_winsDespite_45 rfl (fun c5 => ?_) (fun c5 => ?_)
          · refine pm_iconst (v := 1) hG dX1_winsDespite_59 (by decide) ?_
            exact pm_zret hG hF dX1_winsDespite_60 rfl (pm_nz (Or.inr rfl)) (Nat.le_refl _) (Nat.le_refl _) ⟨_, rfl, (Or.inr rfl), _, _, rfl, rfl, h⟩
          · refine pm_aloadn hG dX1_winsDespite_48 rfl ?_
            refine pm_getf hG dX1_winsDespite_49 (flX1_15 _ rfl) rfl rfl ?_
            refine pm_iloadn hG dX1_winsDespite_52 rfl ?_
            refine pm_iald hG dX1_winsDespite_53 rfl (pm_ib2 rfl c3 c4) ?_
            refine pm_bipush (v := 6) hG dX1_winsDespite_54 (by decide) ?_
            refine pm_icmp_lt (tgt := 61) hG dX1_winsDespite_56 rfl (fun c6 => ?_) (fun c6 => ?_)
            · refine pm_aloadn hG dX1_winsDespite_61 rfl ?_
              refine pm_getf hG dX1_winsDespite_62 (flX1_15 _ rfl) rfl rfl ?_
              refine pm_iloadn hG dX1_winsDespite_65 rfl ?_
              refine pm_dup2 hG dX1_winsDespite_66 rfl rfl ?_
              refine pm_iald hG dX1_winsDespite_67 rfl (pm_ib2 rfl c1 c2) ?_
              refine pm_iconst (v := 1) hG dX1_winsDespite_68 (by decide) ?_
              refine pm_isub hG dX1_winsDespite_69 ?_
              refine pm_iast hG dX1_winsDespite_70 rfl (pm_ib2 rfl c1 c2) ?_
              refine nm_a41 (fun A7 => ?_)
              refine pm_aloadn hG dX1_winsDespite_71 rfl ?_
              refine pm_getf hG dX1_winsDespite_72 (flX1_15 _ rfl) rfl rfl ?_
              refine pm_iloadn hG dX1_winsDespite_75 rfl ?_
              refine pm_dup2 hG dX1_winsDespite_76 rfl rfl ?_
              refine pm_iald hG dX1_winsDespite_77 rfl (pm_ib2 rfl c3 c4) ?_
              refine pm_iconst (v := 1) hG dX1_winsDespite_78 (by decide) ?_
              refine pm_iadd hG dX1_winsDespite_79 ?_
              refine pm_iast hG dX1_winsDespite_80 rfl (pm_ib2 rfl c3 c4) ?_
              refine nm_a41 (fun A8 => ?_)
              refine pm_aloadn hG dX1_winsDespite_81 rfl ?_
              refine pm_iloadn hG dX1_winsDespite_82 rfl ?_
              refine pm_iloadi hG dX1_winsDespite_83 rfl ?_
              refine pm_iloadi hG dX1_winsDespite_85 rfl ?_
              refine pm_callV (As := [.int 1, .int zd, .int ze]) (rest := []) hG hR dX1_winsDespite_87 (lkX1_44 _ rfl) okV_X1_winsWithin rfl rfl (g_X1_winsWithin_k1 (d := 5) (by decide) h) rfl rfl hdd (Nat.le_refl _) (Nat.le_refl _) (by decide) (pm_ki (fun v9 σ' cnt' hq => ?_))
              obtain ⟨b9, I9, A9, rfl, rfl, h9⟩ := hq
              refine pm_istoreXi (loc' := [some (.ref (B + 40)), some (.int za), some (.int zb), some (.int 1), some (.int zd), some (.int ze), some (.int 1), some (.int v9)]) hG dX1_winsDespite_90 (by decide) (pm_c1b rfl) rfl ?_
              refine pm_aloadn hG dX1_winsDespite_92 rfl ?_
              refine pm_getf hG dX1_winsDespite_93 (flX1_15 _ rfl) rfl rfl ?_
              refine pm_iloadn hG dX1_winsDespite_96 rfl ?_
              refine pm_dup2 hG dX1_winsDespite_97 rfl rfl ?_
              refine pm_iald hG dX1_winsDespite_98 rfl (pm_ib2 rfl c1 c2) ?_
              refine pm_iconst (v := 1) hG dX1_winsDespite_99 (by decide) ?_
              refine pm_iadd hG dX1_winsDespite_100 ?_
              refine pm_iast hG dX1_winsDespite_101 rfl (pm_ib2 rfl c1 c2) ?_
              refine nm_a41 (fun A10 => ?_)
              refine pm_aloadn hG dX1_winsDespite_102 rfl ?_
              refine pm_getf hG dX1_winsDespite_103 (flX1_15 _ rfl) rfl rfl ?_
              refine pm_iloadn hG dX1_winsDespite_106 rfl ?_
              refine pm_dup2 hG dX1_winsDespite_107 rfl rfl ?_
              refine pm_iald hG dX1_winsDespite_108 rfl (pm_ib2 rfl c3 c4) ?_
              refine pm_iconst (v := 1) hG dX1_winsDespite_109 (by decide) ?_
              refine pm_isub hG dX1_winsDespite_110 ?_
              refine pm_iast hG dX1_winsDespite_111 rfl (pm_ib2 rfl c3 c4) ?_
              refine nm_a41 (fun A11 => ?_)
              refine pm_iloadi hG dX1_winsDespite_112 rfl ?_
              exact pm_zret hG hF dX1_winsDespite_114 rfl (pm_nz b9) (Nat.le_refl _) (Nat.le_refl _) ⟨_, rfl, b9, _, _, rfl, rfl, h9⟩
            · refine pm_iconst (v := 1) hG dX1_winsDespite_59 (by decide) ?_
              exact pm_zret hG hF dX1_winsDespite_60 rfl (pm_nz (Or.inr rfl)) (Nat.le_refl _) (Nat.le_refl _) ⟨_, rfl, (Or.inr rfl), _, _, rfl, rfl, h⟩
