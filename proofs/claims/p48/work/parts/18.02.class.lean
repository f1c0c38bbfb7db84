set_option maxRecDepth 100000 in
set_option maxHeartbeats 4000000 in
theorem g_X11_men {d B cnt : Nat} {kp : Value} {ρ : pm_S} {I : Nat → Int32} {A : Nat → Nat → Int32} {za zb : Int32} (hdd : 2 ≤ d) (h : gs I) : pm_met mX11_men d 0 0 B [.ref (B + 0), .int za, .int zb] cnt (pm_two (cl_L B kp I A) ρ) (pm_Qi (fun _ σ' cnt' => hvc B kp ρ cnt σ' cnt')) := by
  refine pm_enter 1 (by decide) (Nat.le_of_ble_eq_true rfl) rfl (fun G hG hR hF => ?_)
  refine pm_aloadn hG dX11_men_0 rfl ?_
  refine pm_getf hG dX11_men_1 (flX11_12 _ rfl) rfl rfl ?_
  refine pm_getf hG dX11_men_4 (flX11_128 _ rfl) rfl rfl ?_
  refine pm_iloadn hG dX11_men_7 rfl ?_
  refine pm_callV (As := [.int za]) (rest := []) hG hR dX11_men_8 (lkX11_101 _ rfl) okV_X9_has rfl rfl (tb_has (d := 1) rfl) rfl rfl hdd (Nat.le_refl _) (Nat.le_refl _) (by decide) (pm_ki (fun v1 σ' cnt' hq => ?_))
  have b1 := pm_b01 hq.1
  obtain ⟨I1, A1, rfl, rfl, h1⟩ := hv_id (kp := kp) (I := I) (A := A) h hq.2
  refine pm_if_eq (tgt := 25) hG dX11_men_11 rfl (fun c2 => ?_) (fun c2 => ?_)
  · refine pm_aloadn hG dX11_men_25 rfl ?_
    refine pm_ldc hG dX11_men_26 (ctX11_109 _ rfl) ?_
    refine pm_callV (As := [.int (-1000001)]) (rest := []) hG hR dX11_men_28 (lkX11_97 _ rfl) okV_X11_told rfl rfl (sx_told (d := 1) (by decide) rfl rfl) rfl rfl hdd (Nat.le_refl _) (Nat.le_refl _) (by decide) (pm_ki (fun v3 σ' cnt' hq => ?_))
    obtain ⟨-, ⟨g3, hg3⟩, hc3⟩ := hq
    obtain ⟨I3, A3, rfl, rfl, h3⟩ := hv_a53 (kp := kp) (I := I1) (A := A1) h1 ⟨hg3, hc3⟩
    exact pm_iret hG hF dX11_men_31 rfl (Nat.le_refl _) (Nat.le_refl _) ⟨_, rfl, _, _, rfl, rfl, h3⟩
  · refine pm_iloadn hG dX11_men_14 rfl ?_
    refine pm_bipush (v := (-99)) hG dX11_men_15 (by decide) ?_
    refine pm_bipush (v := 99) hG dX11_men_17 (by decide) ?_
    refine pm_callS (As := [.int zb, .int (-99), .int 99]) (rest := []) hG hR dX11_men_19 (lkX11_105 _ rfl) okS_X11_isOutside (sx_isOutside (d := 1)) rfl rfl hdd (Nat.le_refl _) (Nat.le_refl _) (by decide) (pm_ki (fun v4 σ' cnt' hq => ?_))
    have b4 := pm_b10 hq.1
    obtain ⟨I4, A4, rfl, rfl, h4⟩ := hv_id (kp := kp) (I := I1) (A := A1) h1 hq.2
    refine pm_if_eq (tgt := 32) hG dX11_men_22 rfl (fun c5 => ?_) (fun c5 => ?_)
    · refine pm_aloadn hG dX11_men_32 rfl ?_
      refine pm_getf hG dX11_men_33 (flX11_12 _ rfl) rfl rfl ?_
      refine pm_iloadn hG dX11_men_36 rfl ?_
      refine pm_callV (As := [.int za]) (rest := []) hG hR dX11_men_37 (lkX11_135 _ rfl) okV_X7_isLiving rfl rfl (g_X7_isLiving (d := 1) (by decide) h4) rfl rfl hdd (Nat.le_refl _) (Nat.le_refl _) (by decide) (pm_ki (fun v6 σ' cnt' hq => ?_))
      obtain ⟨b6, I6, A6, rfl, rfl, h6⟩ := hq
      refine pm_if_ne (tgt := 50) hG dX11_men_40 rfl (fun c7 => ?_) (fun c7 => ?_)
      · refine pm_aloadn hG dX11_men_50 rfl ?_
        refine pm_getf hG dX11_men_51 (flX11_12 _ rfl) rfl rfl ?_
        refine pm_getf hG dX11_men_54 (flX11_128 _ rfl) rfl rfl ?_
        refine pm_iloadn hG dX11_men_57 rfl ?_
        refine pm_bipush (v := 8) hG dX11_men_58 (by decide) ?_
        refine pm_callV (As := [.int za, .int 8]) (rest := []) hG hR dX11_men_60 (lkX11_152 _ rfl) okV_X9_get rfl rfl (tb_get (d := 1) rfl rfl (pm_tw_of 20 14 (by decide) (by decide) (by decide))) rfl rfl hdd (Nat.le_refl _) (Nat.le_refl _) (by decide) (pm_ki (fun v8 σ' cnt' hq => ?_))
        obtain ⟨I8, A8, rfl, rfl, h8⟩ := hv_id (kp := kp) (I := I6) (A := A6) h6 hq.2
        refine pm_iloadn hG dX11_men_63 rfl ?_
        refine pm_iadd hG dX11_men_64 ?_
        refine pm_istoreXn (loc' := [some (.ref (B + 0)), some (.int za), some (.int zb), some (.int (v8 + zb))]) hG dX11_men_65 (by decide) (pm_c1b rfl) rfl ?_
        refine pm_iloadn hG dX11_men_66 rfl ?_
        refine pm_iconst (v := 0) hG dX11_men_67 (by decide) ?_
        refine pm_sipush (v := 999) hG dX11_men_68 (by decide) ?_
        refine pm_callS (As := [.int (v8 + zb), .int 0, .int 999]) (rest := []) hG hR dX11_men_71 (lkX11_105 _ rfl) okS_X11_isOutside (sx_isOutside (d := 1)) rfl rfl hdd (Nat.le_refl _) (Nat.le_refl _) (by decide) (pm_ki (fun v9 σ' cnt' hq => ?_))
        have b9 := pm_b10 hq.1
        obtain ⟨I9, A9, rfl, rfl, h9⟩ := hv_id (kp := kp) (I := I8) (A := A8) h8 hq.2
        refine pm_if_eq (tgt := 84) hG dX11_men_74 rfl (fun c10 => ?_) (fun c10 => ?_)
        · refine pm_aloadn hG dX11_men_84 rfl ?_
          refine pm_getf hG dX11_men_85 (flX11_12 _ rfl) rfl rfl ?_
          refine pm_getf hG dX11_men_88 (flX11_128 _ rfl) rfl rfl ?_
          refine pm_iloadn hG dX11_men_91 rfl ?_
          refine pm_bipush (v := 8) hG dX11_men_92 (by decide) ?_
          refine pm_iloadn hG dX11_men_94 rfl ?_
          refine pm_callV (As := [.int za, .int 8, .int (v8 + zb)]) (rest := []) hG hR dX11_men_95 (lkX11_170 _ rfl) okV_X9_set rfl rfl (tb_set (d := 1) rfl rfl (pm_tw_of 20 14 (by decide) (by decide) (by decide)) (by decide)) rfl rfl hdd (Nat.le_refl _) (Nat.le_refl _) (by decide) (pm_kv (fun σ' cnt' hq => ?_))
          obtain ⟨I11, A11, rfl, rfl, h11⟩ := hv_a7 (kp := kp) (I := I9) (A := A9) h9 hq
          refine pm_iloadn hG dX11_men_98 rfl ?_
          exact pm_iret hG hF dX11_men_99 rfl (Nat.le_refl _) (Nat.le_refl _) ⟨_, rfl, _, _, rfl, rfl, h11⟩
        · refine pm_aloadn hG dX11_men_77 rfl ?_
          refine pm_ldc hG dX11_men_78 (ctX11_109 _ rfl) ?_
          refine pm_callV (As := [.int (-1000001)]) (rest := []) hG hR dX11_men_80 (lkX11_97 _ rfl) okV_X11_told rfl rfl (sx_told (d := 1) (by decide) rfl rfl) rfl rfl hdd (Nat.le_refl _) (Nat.le_refl _) (by decide) (pm_ki (fun v12 σ' cnt' hq => ?_))
          obtain ⟨-, ⟨g12, hg12⟩, hc12⟩ := hq
          obtain ⟨I12, A12, rfl, rfl, h12⟩ := hv_a53 (kp := kp) (I := I9) (A := A9) h9 ⟨hg12, hc12⟩
          exact pm_iret hG hF dX11_men_83 rfl (Nat.le_refl _) (Nat.le_refl _) ⟨_, rfl, _, _, rfl, rfl, h12⟩
      · refine pm_aloadn hG dX11_men_43 rfl ?_
        refine pm_ldc hG dX11_men_44 (ctX11_138 _ rfl) ?_
        refine pm_callV (As := [.int (-1000003)]) (rest := []) hG hR dX11_men_46 (lkX11_97 _ rfl) okV_X11_told rfl rfl (sx_told (d := 1) (by decide) rfl rfl) rfl rfl hdd (Nat.le_refl _) (Nat.le_refl _) (by decide) (pm_ki (fun v13 σ' cnt' hq => ?_))
        obtain ⟨-, ⟨g13, hg13⟩, hc13⟩ := hq
        obtain ⟨I13, A13, rfl, rfl, h13⟩ := hv_a53 (kp := kp) (I := I6) (A := A6) h6 ⟨hg13, hc13⟩
        exact pm_iret hG hF dX11_men_49 rfl (Nat.le_refl _) (Nat.le_refl _) ⟨_, rfl, _, _, rfl, rfl, h13⟩
    · refine pm_aloadn hG dX11_men_25 rfl ?_
      refine pm_ldc hG dX11_men_26 (ctX11_109 _ rfl) ?_
      refine pm_callV (As := [.int (-1000001)]) (rest := []) hG hR dX11_men_28 (lkX11_97 _ rfl) okV_X11_told rfl rfl (sx_told (d := 1) (by decide) rfl rfl) rfl rfl hdd (Nat.le_refl _) (Nat.le_refl _) (by decide) (pm_ki (fun v14 σ' cnt' hq => ?_))
      obtain ⟨-, ⟨g14, hg14⟩, hc14⟩ := hq
      obtain ⟨I14, A14, rfl, rfl, h14⟩ := hv_a53 (kp := kp) (I := I4) (A := A4) h4 ⟨hg14, hc14⟩
      exact pm_iret hG hF dX11_men_31 rfl (Nat.le_refl _) (Nat.le_refl _) ⟨_, rfl, _, _, rfl, rfl, h14⟩

set_option maxRecDepth 100000 in
set_option maxHeartbeats 4000000 in
theorem g_X8_has {d B cnt : Nat} {kp : Value} {ρ : pm_S} {I : Nat → Int32} {A : Nat → Nat → Int32} {za : Int32} (hdd : 1 ≤ d) (h : gs I) : pm_met mX8_has d 0 0 B [.ref (B + 48), .int za] cnt (pm_two (cl_L B kp I A) ρ) (pm_Qi (fun v σ' cnt' => (v = 0 ∨ v = 1) ∧ hvc B kp ρ cnt σ' cnt')) := by
  refine pm_enter 0 (by decide) (Nat.le_of_ble_eq_true rfl) rfl (fun G hG hR hF => ?_)
  refine pm_iloadn hG dX8_has_0 rfl ?_
  refine pm_if_lt (tgt := 13) hG dX8_has_1 rfl (fun c1 => ?_) (fun c1 => ?_)
  · refine pm_iconst (v := 0) hG dX8_has_13 (by decide) ?_
    exact pm_zret hG hF dX8_has_14 rfl (pm_nz (Or.inl rfl)) (Nat.le_refl _) (Nat.le_refl _) ⟨_, rfl, (Or.inl rfl), _, _, rfl, rfl, h⟩
  · refine pm_iloadn hG dX8_has_4 rfl ?_
    refine pm_iconst (v := 4) hG dX8_has_5 (by decide) ?_
    refine pm_icmp_ge (tgt := 13) hG dX8_has_6 rfl (fun c2 => ?_) (fun c2 => ?_)
    · refine pm_iconst (v := 0) hG dX8_has_13 (by decide) ?_
      exact pm_zret hG hF dX8_has_14 rfl (pm_nz (Or.inl rfl)) (Nat.le_refl _) (Nat.le_refl _) ⟨_, rfl, (Or.inl rfl), _, _, rfl, rfl, h⟩
    · refine pm_iconst (v := 1) hG dX8_has_9 (by decide) ?_
      refine pm_goto (tgt := 14) hG dX8_has_10 rfl ?_
      exact pm_zret hG hF dX8_has_14 rfl (pm_nz (Or.inr rfl)) (Nat.le_refl _) (Nat.le_refl _) ⟨_, rfl, (Or.inr rfl), _, _, rfl, rfl, h⟩

set_option maxRecDepth 100000 in
set_option maxHeartbeats 4000000 in
theorem g_X8_bitsOf {d B cnt : Nat} {kp : Value} {ρ : pm_S} {I : Nat → Int32} {A : Nat → Nat → Int32} {za : Int32} (hdd : 1 ≤ d) (h : gs I) : pm_met mX8_bitsOf d 0 0 B [.ref (B + 48), .int za] cnt (pm_two (cl_L B kp I A) ρ) (pm_Qi (fun _ σ' cnt' => hvc B kp ρ cnt σ' cnt')) := by
  refine pm_enter 0 (by decide) (Nat.le_of_ble_eq_true rfl) rfl (fun G hG hR hF => ?_)
  refine pm_iloadn hG dX8_bitsOf_0 rfl ?_
  refine pm_if_lt (tgt := 22) hG dX8_bitsOf_1 rfl (fun c1 => ?_) (fun c1 => ?_)
  · refine pm_iconst (v := 0) hG dX8_bitsOf_22 (by decide) ?_
    exact pm_iret hG hF dX8_bitsOf_23 rfl (Nat.le_refl _) (Nat.le_refl _) ⟨_, rfl, _, _, rfl, rfl, h⟩
  · refine pm_iloadn hG dX8_bitsOf_4 rfl ?_
    refine pm_aloadn hG dX8_bitsOf_5 rfl ?_
    refine pm_getf hG dX8_bitsOf_6 (flX8_9 _ rfl) rfl rfl ?_
    refine pm_alen (v := 4) hG dX8_bitsOf_9 rfl (by decide) ?_
    refine pm_icmp_ge (tgt := 22) hG dX8_bitsOf_10 rfl (fun c2 => ?_) (fun c2 => ?_)
    · refine pm_iconst (v := 0) hG dX8_bitsOf_22 (by decide) ?_
      exact pm_iret hG hF dX8_bitsOf_23 rfl (Nat.le_refl _) (Nat.le_refl _) ⟨_, rfl, _, _, rfl, rfl, h⟩
    · refine pm_aloadn hG dX8_bitsOf_13 rfl ?_
      refine pm_getf hG dX8_bitsOf_14 (flX8_9 _ rfl) rfl rfl ?_
      refine pm_iloadn hG dX8_bitsOf_17 rfl ?_
      refine pm_iald hG dX8_bitsOf_18 rfl (pm_ibt (by have q := And.intro True.intro True.intro;  simp only [Int32.lt_iff_toInt_lt, Int32.le_iff_toInt_le, ← Int32.toInt_inj, (show (0 : Int32).toInt = 0 from rfl), (show (4 : Int32).toInt = 4 from rfl)] at *; omega)) ?_
      refine pm_goto (tgt := 23) hG dX8_bitsOf_19 rfl ?_
      exact pm_iret hG hF dX8_bitsOf_23 rfl (Nat.le_refl _) (Nat.le_refl _) ⟨_, rfl, _, _, rfl, rfl, h⟩

set_option maxRecDepth 100000 in
set_option maxHeartbeats 4000000 in
theorem g_X8_isMissing {d B cnt : Nat} {kp : Value} {ρ : pm_S} {I : Nat → Int32} {A : Nat → Nat → Int32} {za : Int32} (hdd : 2 ≤ d) (h : gs I) : pm_met mX8_isMissing d 0 0 B [.ref (B + 48), .int za] cnt (pm_two (cl_L B kp I A) ρ) (pm_Qi (fun v σ' cnt' => (v = 0 ∨ v = 1) ∧ hvc B kp ρ cnt σ' cnt')) := by
  refine pm_enter 0 (by decide) (Nat.le_of_ble_eq_true rfl) rfl (fun G hG hR hF => ?_)
  refine pm_aloadn hG dX8_isMissing_0 rfl ?_
  refine pm_iloadn hG dX8_isMissing_1 rfl ?_
  refine pm_callV (As := [.int za]) (rest := []) hG hR dX8_isMissing_2 (lkX8_27 _ rfl) okV_X8_bitsOf rfl rfl (g_X8_bitsOf (d := 1) (by decide) h) rfl rfl hdd (Nat.le_refl _) (Nat.le_refl _) (by decide) (pm_ki (fun v1 σ' cnt' hq => ?_))
  obtain ⟨I1, A1, rfl, rfl, h1⟩ := hq
  refine pm_if_ne (tgt := 12) hG dX8_isMissing_5 rfl (fun c2 => ?_) (fun c2 => ?_)
  · refine pm_iconst (v := 0) hG dX8_isMissing_12 (by decide) ?_
    exact pm_zret hG hF dX8_isMissing_13 rfl (pm_nz (Or.inl rfl)) (Nat.le_refl _) (Nat.le_refl _) ⟨_, rfl, (Or.inl rfl), _, _, rfl, rfl, h1⟩
  · refine pm_iconst (v := 1) hG dX8_isMissing_8 (by decide) ?_
    refine pm_goto (tgt := 13) hG dX8_isMissing_9 rfl ?_
    exact pm_zret hG hF dX8_isMissing_13 rfl (pm_nz (Or.inr rfl)) (Nat.le_refl _) (Nat.le_refl _) ⟨_, rfl, (Or.inr rfl), _, _, rfl, rfl, h1⟩

set_option maxRecDepth 100000 in
set_option maxHeartbeats 4000000 in
theorem g_X8_sizeOf {d B cnt : Nat} {kp : Value} {ρ : pm_S} {I : Nat → Int32} {A : Nat → Nat → Int32} {za : Int32} (hdd : 1 ≤ d) (h : gs I) : pm_met mX8_sizeOf d 0 0 B [.ref (B + 48), .int za] cnt (pm_two (cl_L B kp I A) ρ) (pm_Qi (fun _ σ' cnt' => hvc B kp ρ cnt σ' cnt')) := by
  refine pm_enter 0 (by decide) (Nat.le_of_ble_eq_true rfl) rfl (fun G hG hR hF => ?_)
  refine pm_iloadn hG dX8_sizeOf_0 rfl ?_
  refine pm_if_lt (tgt := 22) hG dX8_sizeOf_1 rfl (fun c1 => ?_) (fun c1 => ?_)
  · refine pm_iconst (v := 0) hG dX8_sizeOf_22 (by decide) ?_
    exact pm_iret hG hF dX8_sizeOf_23 rfl (Nat.le_refl _) (Nat.le_refl _) ⟨_, rfl, _, _, rfl, rfl, h⟩
  · refine pm_iloadn hG dX8_sizeOf_4 rfl ?_
    refine pm_aloadn hG dX8_sizeOf_5 rfl ?_
    refine pm_getf hG dX8_sizeOf_6 (flX8_15 _ rfl) rfl rfl ?_
    refine pm_alen (v := 4) hG dX8_sizeOf_9 rfl (by decide) ?_
    refine pm_icmp_ge (tgt := 22) hG dX8_sizeOf_10 rfl (fun c2 => ?_) (fun c2 => ?_)
    · refine pm_iconst (v := 0) hG dX8_sizeOf_22 (by decide) ?_
      exact pm_iret hG hF dX8_sizeOf_23 rfl (Nat.le_refl _) (Nat.le_refl _) ⟨_, rfl, _, _, rfl, rfl, h⟩
    · refine pm_aloadn hG dX8_sizeOf_13 rfl ?_
      refine pm_getf hG dX8_sizeOf_14 (flX8_15 _ rfl) rfl rfl ?_
      refine pm_iloadn hG dX8_sizeOf_17 rfl ?_
      refine pm_iald hG dX8_sizeOf_18 rfl (pm_ibt (by have q := And.intro True.intro True.intro;  simp only [Int32.lt_iff_toInt_lt, Int32.le_iff_toInt_le, ← Int32.toInt_inj, (show (0 : Int32).toInt = 0 from rfl), (show (4 : Int32).toInt = 4 from rfl)] at *; omega)) ?_
      refine pm_goto (tgt := 23) hG dX8_sizeOf_19 rfl ?_
      exact pm_iret hG hF dX8_sizeOf_23 rfl (Nat.le_refl _) (Nat.le_refl _) ⟨_, rfl, _, _, rfl, rfl, h⟩

set_option maxRecDepth 100000 in
set_option maxHeartbeats 4000000 in
theorem g_X8_stand {d B cnt : Nat} {kp : Value} {ρ : pm_S} {I : Nat → Int32} {A : Nat → Nat → Int32} {za zb zc : Int32} (hdd : 2 ≤ d) (h : gs I) : pm_met mX8_stand d 0 0 B [.ref (B + 48), .int za, .int zb, .int zc] cnt (pm_two (cl_L B kp I A) ρ) (pm_Qi (fun v σ' cnt' => (v = 0 ∨ v = 1) ∧ hvc B kp ρ cnt σ' cnt')) := by
  refine pm_enter 0 (by decide) (Nat.le_of_ble_eq_true rfl) rfl (fun G hG hR hF => ?_)
  refine pm_iloadn hG dX8_stand_0 rfl ?_
  refine pm_if_lt (tgt := 32) hG dX8_stand_1 rfl (fun c1 => ?_) (fun c1 => ?_)
  · refine pm_iconst (v := 0) hG dX8_stand_32 (by decide) ?_
    exact pm_zret hG hF dX8_stand_33 rfl (pm_nz (Or.inl rfl)) (Nat.le_refl _) (Nat.le_refl _) ⟨_, rfl, (Or.inl rfl), _, _, rfl, rfl, h⟩
  · refine pm_iloadn hG dX8_stand_4 rfl ?_
    refine pm_if_lt (tgt := 32) hG dX8_stand_5 rfl (fun c2 => ?_) (fun c2 => ?_)
    · refine pm_iconst (v := 0) hG dX8_stand_32 (by decide) ?_
      exact pm_zret hG hF dX8_stand_33 rfl (pm_nz (Or.inl rfl)) (Nat.le_refl _) (Nat.le_refl _) ⟨_, rfl, (Or.inl rfl), _, _, rfl, rfl, h⟩
    · refine pm_iloadn hG dX8_stand_8 rfl ?_
      refine pm_aloadn hG dX8_stand_9 rfl ?_
      refine pm_iloadn hG dX8_stand_10 rfl ?_
      refine pm_callV (As := [.int za]) (rest := [.int zc]) hG hR dX8_stand_11 (lkX8_39 _ rfl) okV_X8_sizeOf rfl rfl (g_X8_sizeOf (d := 1) (by decide) h) rfl rfl hdd (Nat.le_refl _) (Nat.le_refl _) (by first | decide | exact Nat.le_of_ble_eq_true rfl) (pm_ki (fun v3 σ' cnt' hq => ?_))
      obtain ⟨I3, A3, rfl, rfl, h3⟩ := hq
      refine pm_icmp_gt (tgt := 32) hG dX8_stand_14 rfl (fun c4 => ?_) (fun c4 => ?_)
      · refine pm_iconst (v := 0) hG dX8_stand_32 (by decide) ?_
        exact pm_zret hG hF dX8_stand_33 rfl (pm_nz (Or.inl rfl)) (Nat.le_refl _) (Nat.le_refl _) ⟨_, rfl, (Or.inl rfl), _, _, rfl, rfl, h3⟩
      · refine pm_iloadn hG dX8_stand_17 rfl ?_
        refine pm_aloadn hG dX8_stand_18 rfl ?_
        refine pm_iloadn hG dX8_stand_19 rfl ?_
        refine pm_callV (As := [.int za]) (rest := [.int zb]) hG hR dX8_stand_20 (lkX8_39 _ rfl) okV_X8_sizeOf rfl rfl (g_X8_sizeOf (d := 1) (by decide) h3) rfl rfl hdd (Nat.le_refl _) (Nat.le_refl _) (by first | decide | exact Nat.le_of_ble_eq_true rfl) (pm_ki (fun v5 σ' cnt' hq => ?_))
        obtain ⟨I5, A5, rfl, rfl, h5⟩ := hq
        refine pm_iloadn hG dX8_stand_23 rfl ?_
        refine pm_isub hG dX8_stand_24 ?_
        refine pm_icmp_gt (tgt := 32) hG dX8_stand_25 rfl (fun c6 => ?_) (fun c6 => ?_)
        · refine pm_iconst (v := 0) hG dX8_stand_32 (by decide) ?_
          exact pm_zret hG hF dX8_stand_33 rfl (pm_nz (Or.inl rfl)) (Nat.le_refl _) (Nat.le_refl _) ⟨_, rfl, (Or.inl rfl), _, _, rfl, rfl, h5⟩
        · refine pm_iconst (v := 1) hG dX8_stand_28 (by decide) ?_
          refine pm_goto (tgt := 33) hG dX8_stand_29 rfl ?_
          exact pm_zret hG hF dX8_stand_33 rfl (pm_nz (Or.inr rfl)) (Nat.le_refl _) (Nat.le_refl _) ⟨_, rfl, (Or.inr rfl), _, _, rfl, rfl, h5⟩

set_option maxRecDepth 100000 in
set_option maxHeartbeats 4000000 in
theorem g_X1_prepare {d B cnt : Nat} {kp : Value} {ρ : pm_S} {I : Nat → Int32} {A : Nat → Nat → Int32} {za : Int32} (hdd : 1 ≤ d) (h : gs I) : pm_met mX1_prepare d 0 0 B [.ref (B + 40), .int za] cnt (pm_two (cl_L B kp I A) ρ) (pm_Qv (fun σ' cnt' => hvc B kp ρ cnt σ' cnt')) := by
  refine pm_enter 1 (by decide) (Nat.le_of_ble_eq_true rfl) rfl (fun G hG hR hF => ?_)
  refine pm_aloadn hG dX1_prepare_0 rfl ?_
  refine pm_iloadn hG dX1_prepare_1 rfl ?_
  refine pm_putf hG dX1_prepare_2 (fwX1_19 _ rfl) rfl rfl rfl ?_
  refine pm_nrm (L' := cl_L B kp (ui I 111 za) A) (by decide) (Nat.le_of_ble_eq_true rfl) rfl ?_
  refine pm_iconst (v := 0) hG dX1_prepare_5 (by decide) ?_
  refine pm_istoreXn (loc' := [some (.ref (B + 40)), some (.int za), some (.int 0)]) hG dX1_prepare_6 (by decide) (pm_c1b rfl) rfl ?_
  have loop7 : ∀ (m7 : Nat) (I1 : Nat → Int32) (A1 : Nat → Nat → Int32) (x1_2 : Int32), gs I1 → ((5 : Int32).toInt - x1_2.toInt).toNat < m7 → pm_wp mX1_prepare G B 7 [some (.ref (B + 40)), some (.int za), some (.int x1_2)] [] 0 0 cnt (pm_two (cl_L B kp I1 A1) ρ) := by
    intro m7
    induction m7 with
    | zero => intro I1 A1 x1_2 _  hm; exact absurd hm (Nat.not_lt_zero _)
    | succ m7 ih7 =>
      intro I1 A1 x1_2 h1  hm7
      refine pm_iloadn hG dX1_prepare_7 rfl ?_
      refine pm_aloadn hG dX1_prepare_8 rfl ?_
      refine pm_getf hG dX1_prepare_9 (flX1_15 _ rfl) rfl rfl ?_
      refine pm_alen (v := 5) hG dX1_prepare_12 rfl (by decide) ?_
      refine pm_icmp_ge (tgt := 40) hG dX1_prepare_13 rfl (fun c2 => ?_) (fun c2 => ?_)
      · exact pm_vret hG hF dX1_prepare_40 rfl (Nat.le_refl _) (Nat.le_refl _) ⟨rfl, _, _, rfl, rfl, h1⟩
      · refine pm_aloadn hG dX1_prepare_16 rfl ?_
        refine pm_getf hG dX1_prepare_17 (flX1_15 _ rfl) rfl rfl ?_
        refine pm_iloadn hG dX1_prepare_20 rfl ?_
        refine pm_aloadn hG dX1_prepare_21 rfl ?_
        refine pm_getf hG dX1_prepare_22 (flX1_9 _ rfl) rfl rfl ?_
        refine pm_getf hG dX1_prepare_25 (flX1_23 _ rfl) rfl rfl ?_
        refine pm_iloadn hG dX1_prepare_28 rfl ?_
        refine pm_iconst (v := 0) hG dX1_prepare_29 (by decide) ?_
        refine pm_callV (As := [.int x1_2, .int 0]) (rest := [.int x1_2, .ref (B + 41)]) hG hR dX1_prepare_30 (lkX1_28 _ rfl) okV_X9_get rfl rfl (tb_get (d := 0) rfl rfl (pm_tw_of 5 1 (by decide) (by decide) (by decide))) rfl rfl hdd (Nat.le_refl _) (Nat.le_refl _) (by first | decide | exact Nat.le_of_ble_eq_true rfl) (pm_ki (fun v3 σ' cnt' hq => ?_))
        obtain ⟨I3, A3, rfl, rfl, h3⟩ := hv_id (kp := kp) (I := I1) (A := A1) h1 hq.2
        refine pm_iast hG dX1_prepare_33 rfl (pm_ibt (by have q := And.intro True.intro True.intro;  simp only [Int32.lt_iff_toInt_lt, Int32.le_iff_toInt_le, ← Int32.toInt_inj, (show (5 : Int32).toInt = 5 from rfl)] at *; omega)) ?_
        refine pm_nrm (L' := cl_L B kp I3 (ua A3 41 (upd (A3 41) x1_2.toNatClampNeg v3))) (by decide) (Nat.le_of_ble_eq_true rfl) rfl ?_
        refine pm_iincX (v := x1_2 + 1) (loc' := [some (.ref (B + 40)), some (.int za), some (.int (x1_2 + 1))]) hG dX1_prepare_34 rfl (by rfl) (by decide) (pm_c1b rfl) rfl ?_
        refine pm_goto (tgt := 7) hG dX1_prepare_37 rfl ?_
        exact ih7 _ _ (x1_2 + 1) h3 (Nat.lt_of_lt_of_le (pm_mu1 c2) (Nat.le_of_lt_succ hm7))
  exact loop7 _ _ _ 0 (gs.wi (k := 111) rfl h) (Nat.lt_succ_self _)

set_option maxRecDepth 100000 in
set_option maxHeartbeats 4000000 in
theorem g_X7_payFromChest {d B cnt : Nat} {kp : Value} {ρ : pm_S} {I : Nat → Int32} {A : Nat → Nat → Int32} {za zb : Int32} (hdd : 2 ≤ d) (h : gs I) : pm_met mX7_payFromChest d 0 0 B [.ref (B + 1), .int za, .int zb] cnt (pm_two (cl_L B kp I A) ρ) (pm_Qi (fun _ σ' cnt' => hvc B kp ρ cnt σ' cnt')) := by
  refine pm_enter 0 (by decide) (Nat.le_of_ble_eq_true rfl) rfl (fun G hG hR hF => ?_)
  refine pm_aloadn hG dX7_payFromChest_0 rfl ?_
  refine pm_getf hG dX7_payFromChest_1 (flX7_53 _ rfl) rfl rfl ?_
  refine pm_iloadn hG dX7_payFromChest_4 rfl ?_
  refine pm_icmp_ge (tgt := 11) hG dX7_payFromChest_5 rfl (fun c1 => ?_) (fun c1 => ?_)
  · refine pm_aloadn hG dX7_payFromChest_11 rfl ?_
    refine pm_dup hG dX7_payFromChest_12 rfl ?_
    refine pm_getf hG dX7_payFromChest_13 (flX7_53 _ rfl) rfl rfl ?_
    refine pm_iloadn hG dX7_payFromChest_16 rfl ?_
    refine pm_isub hG dX7_payFromChest_17 ?_
    refine pm_putf hG dX7_payFromChest_18 (fwX7_53 _ rfl) rfl rfl rfl ?_
    refine pm_nrm (L' := cl_L B kp (ui I 103 ((I 103) - zb)) A) (by decide) (Nat.le_of_ble_eq_true rfl) rfl ?_
    refine pm_aloadn hG dX7_payFromChest_21 rfl ?_
    refine pm_getf hG dX7_payFromChest_22 (flX7_23 _ rfl) rfl rfl ?_
    refine pm_iloadn hG dX7_payFromChest_25 rfl ?_
    refine pm_bipush (v := 7) hG dX7_payFromChest_26 (by decide) ?_
    refine pm_iloadn hG dX7_payFromChest_28 rfl ?_
    refine pm_callV (As := [.int za, .int 7, .int zb]) (rest := []) hG hR dX7_payFromChest_29 (lkX7_125 _ rfl) okV_X9_add rfl rfl (tb_add (d := 1) (by decide) rfl rfl (pm_tw_of 20 14 (by decide) (by decide) (by decide)) (by decide)) rfl rfl hdd (Nat.le_refl _) (Nat.le_refl _) (by decide) (pm_kv (fun σ' cnt' hq => ?_))
    obtain ⟨I2, A2, rfl, rfl, h2⟩ := hv_a7 (kp := kp) (I := (ui I 103 ((I 103) - zb))) (A := A) (gs.wi (k := 103) rfl h) hq
    refine pm_aloadn hG dX7_payFromChest_32 rfl ?_
    refine pm_getf hG dX7_payFromChest_33 (flX7_53 _ rfl) rfl rfl ?_
    exact pm_iret hG hF dX7_payFromChest_36 rfl (Nat.le_refl _) (Nat.le_refl _) ⟨_, rfl, _, _, rfl, rfl, h2⟩
  · refine pm_ldc hG dX7_payFromChest_8 (ctX7_92 _ rfl) ?_
    exact pm_iret hG hF dX7_payFromChest_10 rfl (Nat.le_refl _) (Nat.le_refl _) ⟨_, rfl, _, _, rfl, rfl, h⟩

set_option maxRecDepth 100000 in
set_option maxHeartbeats 4000000 in
theorem g_X11_owed {d B cnt : Nat} {kp : Value} {ρ : pm_S} {I : Nat → Int32} {A : Nat → Nat → Int32} {za zb : Int32} (hdd : 1 ≤ d) (h : gs I) : pm_met mX11_owed d 0 0 B [.ref (B + 0), .int za, .int zb] cnt (pm_two (cl_L B kp I A) ρ) (pm_Qi (fun _ σ' cnt' => hvc B kp ρ cnt σ' cnt')) := by
  refine pm_enter 1 (by decide) (Nat.le_of_ble_eq_true rfl) rfl (fun G hG hR hF => ?_)
  refine pm_aloadn hG dX11_owed_0 rfl ?_
  refine pm_getf hG dX11_owed_1 (flX11_12 _ rfl) rfl rfl ?_
  refine pm_getf hG dX11_owed_4 (flX11_271 _ rfl) rfl rfl ?_
  refine pm_iloadn hG dX11_owed_7 rfl ?_
  refine pm_callV (As := [.int za]) (rest := []) hG hR dX11_owed_8 (lkX11_101 _ rfl) okV_X9_has rfl rfl (tb_has (d := 0) rfl) rfl rfl hdd (Nat.le_refl _) (Nat.le_refl _) (by decide) (pm_ki (fun v1 σ' cnt' hq => ?_))
  have b1 := pm_b01 hq.1
  obtain ⟨I1, A1, rfl, rfl, h1⟩ := hv_id (kp := kp) (I := I) (A := A) h hq.2
  refine pm_if_ne (tgt := 21) hG dX11_owed_11 rfl (fun c2 => ?_) (fun c2 => ?_)
  · refine pm_aloadn hG dX11_owed_21 rfl ?_
    refine pm_getf hG dX11_owed_22 (flX11_12 _ rfl) rfl rfl ?_
    refine pm_getf hG dX11_owed_25 (flX11_271 _ rfl) rfl rfl ?_
    refine pm_iloadn hG dX11_owed_28 rfl ?_
    refine pm_iconst (v := 3) hG dX11_owed_29 (by decide) ?_
    refine pm_callV (As := [.int za, .int 3]) (rest := []) hG hR dX11_owed_30 (lkX11_152 _ rfl) okV_X9_get rfl rfl (tb_get (d := 0) rfl rfl (pm_tw_of 6 5 (by decide) (by decide) (by decide))) rfl rfl hdd (Nat.le_refl _) (Nat.le_refl _) (by decide) (pm_ki (fun v3 σ' cnt' hq => ?_))
    obtain ⟨I3, A3, rfl, rfl, h3⟩ := hv_id (kp := kp) (I := I1) (A := A1) h1 hq.2
    refine pm_istoreXn (loc' := [some (.ref (B + 0)), some (.int za), some (.int zb), some (.int v3)]) hG dX11_owed_33 (by decide) (pm_c1b rfl) rfl ?_
    refine pm_iloadn hG dX11_owed_34 rfl ?_
    by_cases c4 : zb = 0
    · refine pm_top (v := 0) c4 ?_
      refine pm_tswIn (tgt := 64) hG dX11_owed_35 (by decide) (by decide) rfl rfl ?_
      refine pm_aloadn hG dX11_owed_64 rfl ?_
      refine pm_getf hG dX11_owed_65 (flX11_12 _ rfl) rfl rfl ?_
      refine pm_getf hG dX11_owed_68 (flX11_271 _ rfl) rfl rfl ?_
      refine pm_iloadn hG dX11_owed_71 rfl ?_
      refine pm_iconst (v := 0) hG dX11_owed_72 (by decide) ?_
      refine pm_callV (As := [.int za, .int 0]) (rest := []) hG hR dX11_owed_73 (lkX11_152 _ rfl) okV_X9_get rfl rfl (tb_get (d := 0) rfl rfl (pm_tw_of 6 5 (by decide) (by decide) (by decide))) rfl rfl hdd (Nat.le_refl _) (Nat.le_refl _) (by decide) (pm_ki (fun v5 σ' cnt' hq => ?_))
      obtain ⟨I5, A5, rfl, rfl, h5⟩ := hv_id (kp := kp) (I := I3) (A := A3) h3 hq.2
      exact pm_iret hG hF dX11_owed_76 rfl (Nat.le_refl _) (Nat.le_refl _) ⟨_, rfl, _, _, rfl, rfl, h5⟩
    by_cases c6 : zb = 1
    · refine pm_top (v := 1) c6 ?_
      refine pm_tswIn (tgt := 77) hG dX11_owed_35 (by decide) (by decide) rfl rfl ?_
      refine pm_aloadn hG dX11_owed_77 rfl ?_
      refine pm_getf hG dX11_owed_78 (flX11_12 _ rfl) rfl rfl ?_
      refine pm_getf hG dX11_owed_81 (flX11_271 _ rfl) rfl rfl ?_
      refine pm_iloadn hG dX11_owed_84 rfl ?_
      refine pm_iconst (v := 4) hG dX11_owed_85 (by decide) ?_
      refine pm_callV (As := [.int za, .int 4]) (rest := []) hG hR dX11_owed_86 (lkX11_152 _ rfl) okV_X9_get rfl rfl (tb_get (d := 0) rfl rfl (pm_tw_of 6 5 (by decide) (by decide) (by decide))) rfl rfl hdd (Nat.le_refl _) (Nat.le_refl _) (by decide) (pm_ki (fun v7 σ' cnt' hq => ?_))
      obtain ⟨I7, A7, rfl, rfl, h7⟩ := hv_id (kp := kp) (I := I3) (A := A3) h3 hq.2
      exact pm_iret hG hF dX11_owed_89 rfl (Nat.le_refl _) (Nat.le_refl _) ⟨_, rfl, _, _, rfl, rfl, h7⟩
    by_cases c8 : zb = 2
    · refine pm_top (v := 2) c8 ?_
      refine pm_tswIn (tgt := 90) hG dX11_owed_35 (by decide) (by decide) rfl rfl ?_
      refine pm_aloadn hG dX11_owed_90 rfl ?_
      refine pm_getf hG dX11_owed_91 (flX11_12 _ rfl) rfl rfl ?_
      refine pm_getf hG dX11_owed_94 (flX11_82 _ rfl) rfl rfl ?_
      refine pm_iloadn hG dX11_owed_97 rfl ?_
      refine pm_iconst (v := 2) hG dX11_owed_98 (by decide) ?_
      refine pm_callV (As := [.int v3, .int 2]) (rest := []) hG hR dX11_owed_99 (lkX11_152 _ rfl) okV_X9_get rfl rfl (tb_get (d := 0) rfl rfl (pm_tw_of 10 3 (by decide) (by decide) (by decide))) rfl rfl hdd (Nat.le_refl _) (Nat.le_refl _) (by decide) (pm_ki (fun v9 σ' cnt' hq => ?_))
      obtain ⟨I9, A9, rfl, rfl, h9⟩ := hv_id (kp := kp) (I := I3) (A := A3) h3 hq.2
      exact pm_iret hG hF dX11_owed_102 rfl (Nat.le_refl _) (Nat.le_refl _) ⟨_, rfl, _, _, rfl, rfl, h9⟩
    by_cases c10 : zb = 3
    · refine pm_top (v := 3) c10 ?_
      refine pm_tswIn (tgt := 103) hG dX11_owed_35 (by decide) (by decide) rfl rfl ?_
      refine pm_aloadn hG dX11_owed_103 rfl ?_
      refine pm_getf hG dX11_owed_104 (flX11_12 _ rfl) rfl rfl ?_
      refine pm_getf hG dX11_owed_107 (flX11_271 _ rfl) rfl rfl ?_
      refine pm_iconst (v := 3) hG dX11_owed_110 (by decide) ?_
      refine pm_iloadn hG dX11_owed_111 rfl ?_
      obtain ⟨k11, hk11, hu11⟩ := gs.used h3 16 6 (by decide)
      have ht11 : pm_two (cl_L B kp I3 A3) ρ 16 = some (.inr (9, [.int (nI 6), .int (nI 5), .ref (B + 17), .int (nI k11)])) := by rw [← hu11]; rfl
      refine pm_callV (As := [.int 3, .int v3]) (rest := []) hG hR dX11_owed_112 (lkX11_164 _ rfl) okV_X9_rowsWith rfl rfl (tb_rowsWith (d := 0) (k := 3) ht11 rfl (by decide) (by decide) (by decide) hk11 (by omega) (by decide)) rfl rfl hdd (Nat.le_refl _) (Nat.le_refl _) (by decide) (pm_ki (fun v11 σ' cnt' hq => ?_))
      obtain ⟨I11, A11, rfl, rfl, h11⟩ := hv_id (kp := kp) (I := I3) (A := A3) h3 hq.2
      exact pm_iret hG hF dX11_owed_115 rfl (Nat.le_refl _) (Nat.le_refl _) ⟨_, rfl, _, _, rfl, rfl, h11⟩
    have tc4 : ¬ zb.toInt = 0 := fun q => c4 (Int32.toInt_inj.mp q)
    have tc6 : ¬ zb.toInt = 1 := fun q => c6 (Int32.toInt_inj.mp q)
    have tc8 : ¬ zb.toInt = 2 := fun q => c8 (Int32.toInt_inj.mp q)
    have tc10 : ¬ zb.toInt = 3 := fun q => c10 (Int32.toInt_inj.mp q)
    refine pm_tswOut (tgt := 116) hG dX11_owed_35 (by omega) rfl ?_
    refine pm_aloadn hG dX11_owed_116 rfl ?_
    refine pm_ldc hG dX11_owed_117 (ctX11_109 _ rfl) ?_
    refine pm_callV (As := [.int (-1000001)]) (rest := []) hG hR dX11_owed_119 (lkX11_97 _ rfl) okV_X11_told rfl rfl (sx_told (d := 0) (by decide) rfl rfl) rfl rfl hdd (Nat.le_refl _) (Nat.le_refl _) (by decide) (pm_ki (fun v12 σ' cnt' hq => ?_))
    obtain ⟨-, ⟨g12, hg12⟩, hc12⟩ := hq
    obtain ⟨I12, A12, rfl, rfl, h12⟩ := hv_a53 (kp := kp) (I := I3) (A := A3) h3 ⟨hg12, hc12⟩
    exact pm_iret hG hF dX11_owed_122 rfl (Nat.le_refl _) (Nat.le_refl _) ⟨_, rfl, _, _, rfl, rfl, h12⟩
  · refine pm_aloadn hG dX11_owed_14 rfl ?_
    refine pm_ldc hG dX11_owed_15 (ctX11_109 _ rfl) ?_
    refine pm_callV (As := [.int (-1000001)]) (rest := []) hG hR dX11_owed_17 (lkX11_97 _ rfl) okV_X11_told rfl rfl (sx_told (d := 0) (by decide) rfl rfl) rfl rfl hdd (Nat.le_refl _) (Nat.le_refl _) (by decide) (pm_ki (fun v13 σ' cnt' hq => ?_))
    obtain ⟨-, ⟨g13, hg13⟩, hc13⟩ := hq
    obtain ⟨I13, A13, rfl, rfl, h13⟩ := hv_a53 (kp := kp) (I := I1) (A := A1) h1 ⟨hg13, hc13⟩
    exact pm_iret hG hF dX11_owed_20 rfl (Nat.le_refl _) (Nat.le_refl _) ⟨_, rfl, _, _, rfl, rfl, h13⟩

set_option maxRecDepth 100000 in
set_option maxHeartbeats 4000000 in
theorem g_X11_own {d B cnt : Nat} {kp : Value} {ρ : pm_S} {I : Nat → Int32} {A : Nat → Nat → Int32} {za zb : Int32} (hdd : 3 ≤ d) (h : gs I) : pm_met mX11_own d 0 0 B [.ref (B + 0), .int za, .int zb] cnt (pm_two (cl_L B kp I A) ρ) (pm_Qi (fun _ σ' cnt' => hvc B kp ρ cnt σ' cnt')) := by
  refine pm_enter 0 (by decide) (Nat.le_of_ble_eq_true rfl) rfl (fun G hG hR hF => ?_)
  refine pm_aloadn hG dX11_own_0 rfl ?_
  refine pm_getf hG dX11_own_1 (flX11_12 _ rfl) rfl rfl ?_
  refine pm_getf hG dX11_own_4 (flX11_82 _ rfl) rfl rfl ?_
  refine pm_iloadn hG dX11_own_7 rfl ?_
  refine pm_callV (As := [.int za]) (rest := []) hG hR dX11_own_8 (lkX11_101 _ rfl) okV_X9_has rfl rfl (tb_has (d := 2) rfl) rfl rfl hdd (Nat.le_refl _) (Nat.le_refl _) (by decide) (pm_ki (fun v1 σ' cnt' hq => ?_))
  have b1 := pm_b01 hq.1
  obtain ⟨I1, A1, rfl, rfl, h1⟩ := hv_id (kp := kp) (I := I) (A := A) h hq.2
  refine pm_if_eq (tgt := 25) hG dX11_own_11 rfl (fun c2 => ?_) (fun c2 => ?_)
  · refine pm_aloadn hG dX11_own_25 rfl ?_
    refine pm_ldc hG dX11_own_26 (ctX11_109 _ rfl) ?_
    refine pm_callV (As := [.int (-1000001)]) (rest := []) hG hR dX11_own_28 (lkX11_97 _ rfl) okV_X11_told rfl rfl (sx_told (d := 2) (by decide) rfl rfl) rfl rfl hdd (Nat.le_refl _) (Nat.le_refl _) (by decide) (pm_ki (fun v3 σ' cnt' hq => ?_))
    obtain ⟨-, ⟨g3, hg3⟩, hc3⟩ := hq
    obtain ⟨I3, A3, rfl, rfl, h3⟩ := hv_a53 (kp := kp) (I := I1) (A := A1) h1 ⟨hg3, hc3⟩
    exact pm_iret hG hF dX11_own_31 rfl (Nat.le_refl _) (Nat.le_refl _) ⟨_, rfl, _, _, rfl, rfl, h3⟩
  · refine pm_aloadn hG dX11_own_14 rfl ?_
    refine pm_getf hG dX11_own_15 (flX11_12 _ rfl) rfl rfl ?_
    refine pm_iloadn hG dX11_own_18 rfl ?_
    refine pm_callV (As := [.int zb]) (rest := []) hG hR dX11_own_19 (lkX11_174 _ rfl) okV_X7_isLivingOrNobody rfl rfl (g_X7_isLivingOrNobody (d := 2) (by decide) h1) rfl rfl hdd (Nat.le_refl _) (Nat.le_refl _) (by decide) (pm_ki (fun v4 σ' cnt' hq => ?_))
    obtain ⟨b4, I4, A4, rfl, rfl, h4⟩ := hq
    refine pm_if_ne (tgt := 32) hG dX11_own_22 rfl (fun c5 => ?_) (fun c5 => ?_)
    · refine pm_aloadn hG dX11_own_32 rfl ?_
      refine pm_getf hG dX11_own_33 (flX11_12 _ rfl) rfl rfl ?_
      refine pm_getf hG dX11_own_36 (flX11_82 _ rfl) rfl rfl ?_
      refine pm_iloadn hG dX11_own_39 rfl ?_
      refine pm_iconst (v := 2) hG dX11_own_40 (by decide) ?_
      refine pm_callV (As := [.int za, .int 2]) (rest := []) hG hR dX11_own_41 (lkX11_152 _ rfl) okV_X9_get rfl rfl (tb_get (d := 2) rfl rfl (pm_tw_of 10 3 (by decide) (by decide) (by decide))) rfl rfl hdd (Nat.le_refl _) (Nat.le_refl _) (by decide) (pm_ki (fun v6 σ' cnt' hq => ?_))
      obtain ⟨I6, A6, rfl, rfl, h6⟩ := hv_id (kp := kp) (I := I4) (A := A4) h4 hq.2
      refine pm_if_eq (tgt := 54) hG dX11_own_44 rfl (fun c7 => ?_) (fun c7 => ?_)
      · refine pm_aloadn hG dX11_own_54 rfl ?_
        refine pm_getf hG dX11_own_55 (flX11_12 _ rfl) rfl rfl ?_
        refine pm_getf hG dX11_own_58 (flX11_82 _ rfl) rfl rfl ?_
        refine pm_iloadn hG dX11_own_61 rfl ?_
        refine pm_iconst (v := 1) hG dX11_own_62 (by decide) ?_
        refine pm_iloadn hG dX11_own_63 rfl ?_
        refine pm_callV (As := [.int za, .int 1, .int zb]) (rest := []) hG hR dX11_own_64 (lkX11_248 _ rfl) okV_X9_swap rfl rfl (tb_swap (d := 2) (by decide) rfl rfl (pm_tw_of 10 3 (by decide) (by decide) (by decide)) (by decide)) rfl rfl hdd (Nat.le_refl _) (Nat.le_refl _) (by decide) (pm_ki (fun v8 σ' cnt' hq => ?_))
        obtain ⟨I8, A8, rfl, rfl, h8⟩ := hv_a3 (kp := kp) (I := I6) (A := A6) h6 hq.2
        exact pm_iret hG hF dX11_own_67 rfl (Nat.le_refl _) (Nat.le_refl _) ⟨_, rfl, _, _, rfl, rfl, h8⟩
      · refine pm_aloadn hG dX11_own_47 rfl ?_
        refine pm_ldc hG dX11_own_48 (ctX11_138 _ rfl) ?_
        refine pm_callV (As := [.int (-1000003)]) (rest := []) hG hR dX11_own_50 (lkX11_97 _ rfl) okV_X11_told rfl rfl (sx_told (d := 2) (by decide) rfl rfl) rfl rfl hdd (Nat.le_refl _) (Nat.le_refl _) (by decide) (pm_ki (fun v9 σ' cnt' hq => ?_))
        obtain ⟨-, ⟨g9, hg9⟩, hc9⟩ := hq
        obtain ⟨I9, A9, rfl, rfl, h9⟩ := hv_a53 (kp := kp) (I := I6) (A := A6) h6 ⟨hg9, hc9⟩
        exact pm_iret hG hF dX11_own_53 rfl (Nat.le_refl _) (Nat.le_refl _) ⟨_, rfl, _, _, rfl, rfl, h9⟩
    · refine pm_aloadn hG dX11_own_25 rfl ?_
      refine pm_ldc hG dX11_own_26 (ctX11_109 _ rfl) ?_
      refine pm_callV (As := [.int (-1000001)]) (rest := []) hG hR dX11_own_28 (lkX11_97 _ rfl) okV_X11_told rfl rfl (sx_told (d := 2) (by decide) rfl rfl) rfl rfl hdd (Nat.le_refl _) (Nat.le_refl _) (by decide) (pm_ki (fun v10 σ' cnt' hq => ?_))
      obtain ⟨-, ⟨g10, hg10⟩, hc10⟩ := hq
      obtain ⟨I10, A10, rfl, rfl, h10⟩ := hv_a53 (kp := kp) (I := I4) (A := A4) h4 ⟨hg10, hc10⟩
      exact pm_iret hG hF dX11_own_31 rfl (Nat.le_refl _) (Nat.le_refl _) ⟨_, rfl, _, _, rfl, rfl, h10⟩

set_option maxRecDepth 100000 in
set_option maxHeartbeats 4000000 in
theorem g_X11_pay {d B cnt : Nat} {kp : Value} {ρ : pm_S} {I : Nat → Int32} {A : Nat → Nat → Int32} {za zb : Int32} (hdd : 3 ≤ d) (h : gs I) : pm_met mX11_pay d 0 0 B [.ref (B + 0), .int za, .int zb] cnt (pm_two (cl_L B kp I A) ρ) (pm_Qi (fun _ σ' cnt' => hvc B kp ρ cnt σ' cnt')) := by
  refine pm_enter 0 (by decide) (Nat.le_of_ble_eq_true rfl) rfl (fun G hG hR hF => ?_)
  refine pm_aloadn hG dX11_pay_0 rfl ?_
  refine pm_getf hG dX11_pay_1 (flX11_12 _ rfl) rfl rfl ?_
  refine pm_getf hG dX11_pay_4 (flX11_128 _ rfl) rfl rfl ?_
  refine pm_iloadn hG dX11_pay_7 rfl ?_
  refine pm_callV (As := [.int za]) (rest := []) hG hR dX11_pay_8 (lkX11_101 _ rfl) okV_X9_has rfl rfl (tb_has (d := 2) rfl) rfl rfl hdd (Nat.le_refl _) (Nat.le_refl _) (by decide) (pm_ki (fun v1 σ' cnt' hq => ?_))
  have b1 := pm_b01 hq.1
  obtain ⟨I1, A1, rfl, rfl, h1⟩ := hv_id (kp := kp) (I := I) (A := A) h hq.2
  refine pm_if_eq (tgt := 25) hG dX11_pay_11 rfl (fun c2 => ?_) (fun c2 => ?_)
  · refine pm_aloadn hG dX11_pay_25 rfl ?_
    refine pm_ldc hG dX11_pay_26 (ctX11_109 _ rfl) ?_
    refine pm_callV (As := [.int (-1000001)]) (rest := []) hG hR dX11_pay_28 (lkX11_97 _ rfl) okV_X11_told rfl rfl (sx_told (d := 2) (by decide) rfl rfl) rfl rfl hdd (Nat.le_refl _) (Nat.le_refl _) (by decide) (pm_ki (fun v3 σ' cnt' hq => ?_))
    obtain ⟨-, ⟨g3, hg3⟩, hc3⟩ := hq
    obtain ⟨I3, A3, rfl, rfl, h3⟩ := hv_a53 (kp := kp) (I := I1) (A := A1) h1 ⟨hg3, hc3⟩
    exact pm_iret hG hF dX11_pay_31 rfl (Nat.le_refl _) (Nat.le_refl _) ⟨_, rfl, _, _, rfl, rfl, h3⟩
  · refine pm_iloadn hG dX11_pay_14 rfl ?_
    refine pm_iconst (v := 1) hG dX11_pay_15 (by decide) ?_
    refine pm_sipush (v := 9999) hG dX11_pay_16 (by decide) ?_
    refine pm_callS (As := [.int zb, .int 1, .int 9999]) (rest := []) hG hR dX11_pay_19 (lkX11_105 _ rfl) okS_X11_isOutside (sx_isOutside (d := 2)) rfl rfl hdd (Nat.le_refl _) (Nat.le_refl _) (by decide) (pm_ki (fun v4 σ' cnt' hq => ?_))
    have b4 := pm_b10 hq.1
    obtain ⟨I4, A4, rfl, rfl, h4⟩ := hv_id (kp := kp) (I := I1) (A := A1) h1 hq.2
    refine pm_if_eq (tgt := 32) hG dX11_pay_22 rfl (fun c5 => ?_) (fun c5 => ?_)
    · refine pm_aloadn hG dX11_pay_32 rfl ?_
      refine pm_aloadn hG dX11_pay_33 rfl ?_
      refine pm_getf hG dX11_pay_34 (flX11_12 _ rfl) rfl rfl ?_
      refine pm_iloadn hG dX11_pay_37 rfl ?_
      refine pm_callV (As := [.int za]) (rest := [.ref (B + 0)]) hG hR dX11_pay_38 (lkX11_135 _ rfl) okV_X7_isLiving rfl rfl (g_X7_isLiving (d := 2) (by decide) h4) rfl rfl hdd (Nat.le_refl _) (Nat.le_refl _) (by first | decide | exact Nat.le_of_ble_eq_true rfl) (pm_ki (fun v6 σ' cnt' hq => ?_))
      obtain ⟨b6, I6, A6, rfl, rfl, h6⟩ := hq
      refine pm_if_eq (tgt := 56) hG dX11_pay_41 rfl (fun c7 => ?_) (fun c7 => ?_)
      · refine pm_ldc hG dX11_pay_56 (ctX11_138 _ rfl) ?_
        refine pm_callV (As := [.int (-1000003)]) (rest := []) hG hR dX11_pay_58 (lkX11_97 _ rfl) okV_X11_told rfl rfl (sx_told (d := 2) (by decide) rfl rfl) rfl rfl hdd (Nat.le_refl _) (Nat.le_refl _) (by decide) (pm_ki (fun v8 σ' cnt' hq => ?_))
        obtain ⟨-, ⟨g8, hg8⟩, hc8⟩ := hq
        obtain ⟨I8, A8, rfl, rfl, h8⟩ := hv_a53 (kp := kp) (I := I6) (A := A6) h6 ⟨hg8, hc8⟩
        exact pm_iret hG hF dX11_pay_61 rfl (Nat.le_refl _) (Nat.le_refl _) ⟨_, rfl, _, _, rfl, rfl, h8⟩
      · refine pm_aloadn hG dX11_pay_44 rfl ?_
        refine pm_getf hG dX11_pay_45 (flX11_12 _ rfl) rfl rfl ?_
        refine pm_iloadn hG dX11_pay_48 rfl ?_
        refine pm_iloadn hG dX11_pay_49 rfl ?_
        refine pm_callV (As := [.int za, .int zb]) (rest := [.ref (B + 0)]) hG hR dX11_pay_50 (lkX11_167 _ rfl) okV_X7_payFromChest rfl rfl (g_X7_payFromChest (d := 2) (by decide) h6) rfl rfl hdd (Nat.le_refl _) (Nat.le_refl _) (by first | decide | exact Nat.le_of_ble_eq_true rfl) (pm_ki (fun v9 σ' cnt' hq => ?_))
        obtain ⟨I9, A9, rfl, rfl, h9⟩ := hq
        refine pm_goto (tgt := 58) hG dX11_pay_53 rfl ?_
        refine pm_callV (As := [.int v9]) (rest := []) hG hR dX11_pay_58 (lkX11_97 _ rfl) okV_X11_told rfl rfl (sx_told (d := 2) (by decide) rfl rfl) rfl rfl hdd (Nat.le_refl _) (Nat.le_refl _) (by decide) (pm_ki (fun v10 σ' cnt' hq => ?_))
        obtain ⟨-, ⟨g10, hg10⟩, hc10⟩ := hq
        obtain ⟨I10, A10, rfl, rfl, h10⟩ := hv_a53 (kp := kp) (I := I9) (A := A9) h9 ⟨hg10, hc10⟩
        exact pm_iret hG hF dX11_pay_61 rfl (Nat.le_refl _) (Nat.le_refl _) ⟨_, rfl, _, _, rfl, rfl, h10⟩
    · refine pm_aloadn hG dX11_pay_25 rfl ?_
      refine pm_ldc hG dX11_pay_26 (ctX11_109 _ rfl) ?_
      refine pm_callV (As := [.int (-1000001)]) (rest := []) hG hR dX11_pay_28 (lkX11_97 _ rfl) okV_X11_told rfl rfl (sx_told (d := 2) (by decide) rfl rfl) rfl rfl hdd (Nat.le_refl _) (Nat.le_refl _) (by decide) (pm_ki (fun v11 σ' cnt' hq => ?_))
      obtain ⟨-, ⟨g11, hg11⟩, hc11⟩ := hq
      obtain ⟨I11, A11, rfl, rfl, h11⟩ := hv_a53 (kp := kp) (I := I4) (A := A4) h4 ⟨hg11, hc11⟩
      exact pm_iret hG hF dX11_pay_31 rfl (Nat.le_refl _) (Nat.le_refl _) ⟨_, rfl, _, _, rfl, rfl, h11⟩

set_option maxRecDepth 100000 in
set_option maxHeartbeats 4000000 in
theorem g_X7_mayBeParent {d B cnt : Nat} {kp : Value} {ρ : pm_S} {I : Nat → Int32} {A : Nat → Nat → Int32} {za zb zc : Int32} (hdd : 1 ≤ d) (h : gs I) : pm_met mX7_mayBeParent d 0 0 B [.ref (B + 1), .int za, .int zb, .int zc] cnt (pm_two (cl_L B kp I A) ρ) (pm_Qi (fun v σ' cnt' => (v = 0 ∨ v = 1) ∧ hvc B kp ρ cnt σ' cnt')) := by
  refine pm_enter 0 (by decide) (Nat.le_of_ble_eq_true rfl) rfl (fun G hG hR hF => ?_)
  refine pm_iloadn hG dX7_mayBeParent_0 rfl ?_
  refine pm_iconst (v := (-1)) hG dX7_mayBeParent_1 (by decide) ?_
  refine pm_icmp_eq (tgt := 42) hG dX7_mayBeParent_2 rfl (fun c1 => ?_) (fun c1 => ?_)
  · refine pm_iconst (v := 1) hG dX7_mayBeParent_42 (by decide) ?_
    refine pm_goto (tgt := 47) hG dX7_mayBeParent_43 rfl ?_
    exact pm_zret hG hF dX7_mayBeParent_47 rfl (pm_nz (Or.inr rfl)) (Nat.le_refl _) (Nat.le_refl _) ⟨_, rfl, (Or.inr rfl), _, _, rfl, rfl, h⟩
  · refine pm_aloadn hG dX7_mayBeParent_5 rfl ?_
    refine pm_getf hG dX7_mayBeParent_6 (flX7_23 _ rfl) rfl rfl ?_
    refine pm_iloadn hG dX7_mayBeParent_9 rfl ?_
    refine pm_callV (As := [.int za]) (rest := []) hG hR dX7_mayBeParent_10 (lkX7_93 _ rfl) okV_X9_has rfl rfl (tb_has (d := 0) rfl) rfl rfl hdd (Nat.le_refl _) (Nat.le_refl _) (by decide) (pm_ki (fun v2 σ' cnt' hq => ?_))
    have b2 := pm_b01 hq.1
    obtain ⟨I2, A2, rfl, rfl, h2⟩ := hv_id (kp := kp) (I := I) (A := A) h hq.2
    refine pm_if_eq (tgt := 46) hG dX7_mayBeParent_13 rfl (fun c3 => ?_) (fun c3 => ?_)
    · refine pm_iconst (v := 0) hG dX7_mayBeParent_46 (by decide) ?_
      exact pm_zret hG hF dX7_mayBeParent_47 rfl (pm_nz (Or.inl rfl)) (Nat.le_refl _) (Nat.le_refl _) ⟨_, rfl, (Or.inl rfl), _, _, rfl, rfl, h2⟩
    · refine pm_aloadn hG dX7_mayBeParent_16 rfl ?_
      refine pm_getf hG dX7_mayBeParent_17 (flX7_23 _ rfl) rfl rfl ?_
      refine pm_iloadn hG dX7_mayBeParent_20 rfl ?_
      refine pm_iconst (v := 0) hG dX7_mayBeParent_21 (by decide) ?_
      refine pm_callV (As := [.int za, .int 0]) (rest := []) hG hR dX7_mayBeParent_22 (lkX7_83 _ rfl) okV_X9_get rfl rfl (tb_get (d := 0) rfl rfl (pm_tw_of 20 14 (by decide) (by decide) (by decide))) rfl rfl hdd (Nat.le_refl _) (Nat.le_refl _) (by decide) (pm_ki (fun v4 σ' cnt' hq => ?_))
      obtain ⟨I4, A4, rfl, rfl, h4⟩ := hv_id (kp := kp) (I := I2) (A := A2) h2 hq.2
      refine pm_iloadn hG dX7_mayBeParent_25 rfl ?_
      refine pm_icmp_ne (tgt := 46) hG dX7_mayBeParent_26 rfl (fun c5 => ?_) (fun c5 => ?_)
      · refine pm_iconst (v := 0) hG dX7_mayBeParent_46 (by decide) ?_
        exact pm_zret hG hF dX7_mayBeParent_47 rfl (pm_nz (Or.inl rfl)) (Nat.le_refl _) (Nat.le_refl _) ⟨_, rfl, (Or.inl rfl), _, _, rfl, rfl, h4⟩
      · refine pm_aloadn hG dX7_mayBeParent_29 rfl ?_
        refine pm_getf hG dX7_mayBeParent_30 (flX7_23 _ rfl) rfl rfl ?_
        refine pm_iloadn hG dX7_mayBeParent_33 rfl ?_
        refine pm_iconst (v := 1) hG dX7_mayBeParent_34 (by decide) ?_
        refine pm_callV (As := [.int za, .int 1]) (rest := []) hG hR dX7_mayBeParent_35 (lkX7_83 _ rfl) okV_X9_get rfl rfl (tb_get (d := 0) rfl rfl (pm_tw_of 20 14 (by decide) (by decide) (by decide))) rfl rfl hdd (Nat.le_refl _) (Nat.le_refl _) (by decide) (pm_ki (fun v6 σ' cnt' hq => ?_))
        obtain ⟨I6, A6, rfl, rfl, h6⟩ := hv_id (kp := kp) (I := I4) (A := A4) h4 hq.2
        refine pm_iloadn hG dX7_mayBeParent_38 rfl ?_
        refine pm_icmp_ge (tgt := 46) hG dX7_mayBeParent_39 rfl (fun c7 => ?_) (fun c7 => ?_)
        · refine pm_iconst (v := 0) hG dX7_mayBeParent_46 (by decide) ?_
          exact pm_zret hG hF dX7_mayBeParent_47 rfl (pm_nz (Or.inl rfl)) (Nat.le_refl _) (Nat.le_refl _) ⟨_, rfl, (Or.inl rfl), _, _, rfl, rfl, h6⟩
        · refine pm_iconst (v := 1) hG dX7_mayBeParent_42 (by decide) ?_
          refine pm_goto (tgt := 47) hG dX7_mayBeParent_43 rfl ?_
          exact pm_zret hG hF dX7_mayBeParent_47 rfl (pm_nz (Or.inr rfl)) (Nat.le_refl _) (Nat.le_refl _) ⟨_, rfl, (Or.inr rfl), _, _, rfl, rfl, h6⟩

set_option maxRecDepth 100000 in
set_option maxHeartbeats 4000000 in
theorem g_X7_bringNearer {d B cnt : Nat} {kp : Value} {ρ : pm_S} {I : Nat → Int32} {A : Nat → Nat → Int32} {za zb : Int32} (hdd : 1 ≤ d) (h : gs I) : pm_met mX7_bringNearer d 0 0 B [.ref (B + 1), .int za, .int zb] cnt (pm_two (cl_L B kp I A) ρ) (pm_Qv (fun σ' cnt' => hvc B kp ρ cnt σ' cnt')) := by
  refine pm_enter 2 (by decide) (Nat.le_of_ble_eq_true rfl) rfl (fun G hG hR hF => ?_)
  refine pm_iloadn hG dX7_bringNearer_0 rfl ?_
  refine pm_iconst (v := (-1)) hG dX7_bringNearer_1 (by decide) ?_
  refine pm_icmp_eq (tgt := 64) hG dX7_bringNearer_2 rfl (fun c1 => ?_) (fun c1 => ?_)
  · exact pm_vret hG hF dX7_bringNearer_64 rfl (Nat.le_refl _) (Nat.le_refl _) ⟨rfl, _, _, rfl, rfl, h⟩
  · refine pm_aloadn hG dX7_bringNearer_5 rfl ?_
    refine pm_getf hG dX7_bringNearer_6 (flX7_23 _ rfl) rfl rfl ?_
    refine pm_iloadn hG dX7_bringNearer_9 rfl ?_
    refine pm_bipush (v := 11) hG dX7_bringNearer_10 (by decide) ?_
    refine pm_callV (As := [.int za, .int 11]) (rest := []) hG hR dX7_bringNearer_12 (lkX7_83 _ rfl) okV_X9_get rfl rfl (tb_get (d := 0) rfl rfl (pm_tw_of 20 14 (by decide) (by decide) (by decide))) rfl rfl hdd (Nat.le_refl _) (Nat.le_refl _) (by decide) (pm_ki (fun v2 σ' cnt' hq => ?_))
    obtain ⟨I2, A2, rfl, rfl, h2⟩ := hv_id (kp := kp) (I := I) (A := A) h hq.2
    refine pm_istoreXn (loc' := [some (.ref (B + 1)), some (.int za), some (.int zb), some (.int v2), none]) hG dX7_bringNearer_15 (by decide) (pm_c1b rfl) rfl ?_
    refine pm_aloadn hG dX7_bringNearer_16 rfl ?_
    refine pm_getf hG dX7_bringNearer_17 (flX7_23 _ rfl) rfl rfl ?_
    refine pm_iloadn hG dX7_bringNearer_20 rfl ?_
    refine pm_bipush (v := 11) hG dX7_bringNearer_21 (by decide) ?_
    refine pm_callV (As := [.int zb, .int 11]) (rest := []) hG hR dX7_bringNearer_23 (lkX7_83 _ rfl) okV_X9_get rfl rfl (tb_get (d := 0) rfl rfl (pm_tw_of 20 14 (by decide) (by decide) (by decide))) rfl rfl hdd (Nat.le_refl _) (Nat.le_refl _) (by decide) (pm_ki (fun v3 σ' cnt' hq => ?_))
    obtain ⟨I3, A3, rfl, rfl, h3⟩ := hv_id (kp := kp) (I := I2) (A := A2) h2 hq.2
    refine pm_istoreXi (loc' := [some (.ref (B + 1)), some (.int za), some (.int zb), some (.int v2), some (.int v3)]) hG dX7_bringNearer_26 (by decide) (pm_c1b rfl) rfl ?_
    refine pm_aloadn hG dX7_bringNearer_28 rfl ?_
    refine pm_getf hG dX7_bringNearer_29 (flX7_23 _ rfl) rfl rfl ?_
    refine pm_iloadn hG dX7_bringNearer_32 rfl ?_
    refine pm_bipush (v := 11) hG dX7_bringNearer_33 (by decide) ?_
    refine pm_iloadn hG dX7_bringNearer_35 rfl ?_
    refine pm_iloadi hG dX7_bringNearer_36 rfl ?_
    refine pm_iconst (v := 1) hG dX7_bringNearer_38 (by decide) ?_
    refine pm_iadd hG dX7_bringNearer_39 ?_
    refine pm_mmin hG hR dX7_bringNearer_40 (mmX7_87 _ rfl) pm_mwmin (by omega) (by first | decide | exact Nat.le_of_ble_eq_true rfl) (Nat.le_refl _) (Nat.le_refl _) ?_
    refine pm_callV (As := [.int za, .int 11, .int (if (v3 + 1) < v2 then v3 + 1 else v2)]) (rest := []) hG hR dX7_bringNearer_43 (lkX7_61 _ rfl) okV_X9_set rfl rfl (tb_set (d := 0) rfl rfl (pm_tw_of 20 14 (by decide) (by decide) (by decide)) (by decide)) rfl rfl hdd (Nat.le_refl _) (Nat.le_refl _) (by decide) (pm_kv (fun σ' cnt' hq => ?_))
    obtain ⟨I4, A4, rfl, rfl, h4⟩ := hv_a7 (kp := kp) (I := I3) (A := A3) h3 hq
    refine pm_aloadn hG dX7_bringNearer_46 rfl ?_
    refine pm_getf hG dX7_bringNearer_47 (flX7_23 _ rfl) rfl rfl ?_
    refine pm_iloadn hG dX7_bringNearer_50 rfl ?_
    refine pm_bipush (v := 11) hG dX7_bringNearer_51 (by decide) ?_
    refine pm_iloadi hG dX7_bringNearer_53 rfl ?_
    refine pm_iloadn hG dX7_bringNearer_55 rfl ?_
    refine pm_iconst (v := 1) hG dX7_bringNearer_56 (by decide) ?_
    refine pm_iadd hG dX7_bringNearer_57 ?_
    refine pm_mmin hG hR dX7_bringNearer_58 (mmX7_87 _ rfl) pm_mwmin (by omega) (by first | decide | exact Nat.le_of_ble_eq_true rfl) (Nat.le_refl _) (Nat.le_refl _) ?_
    refine pm_callV (As := [.int zb, .int 11, .int (if (v2 + 1) < v3 then v2 + 1 else v3)]) (rest := []) hG hR dX7_bringNearer_61 (lkX7_61 _ rfl) okV_X9_set rfl rfl (tb_set (d := 0) rfl rfl (pm_tw_of 20 14 (by decide) (by decide) (by decide)) (by decide)) rfl rfl hdd (Nat.le_refl _) (Nat.le_refl _) (by decide) (pm_kv (fun σ' cnt' hq => ?_))
    obtain ⟨I5, A5, rfl, rfl, h5⟩ := hv_a7 (kp := kp) (I := I4) (A := A4) h4 hq
    exact pm_vret hG hF dX7_bringNearer_64 rfl (Nat.le_refl _) (Nat.le_refl _) ⟨rfl, _, _, rfl, rfl, h5⟩

set_option maxRecDepth 100000 in
set_option maxHeartbeats 4000000 in
theorem g_X7_findSteps {d B cnt : Nat} {kp : Value} {ρ : pm_S} {I : Nat → Int32} {A : Nat → Nat → Int32} (hdd : 2 ≤ d) (h : gs I) : pm_met mX7_findSteps d 0 0 B [.ref (B + 1)] cnt (pm_two (cl_L B kp I A) ρ) (pm_Qv (fun σ' cnt' => hvc B kp ρ cnt σ' cnt')) := by
  refine pm_enter 3 (by decide) (Nat.le_of_ble_eq_true rfl) rfl (fun G hG hR hF => ?_)
  refine pm_aloadn hG dX7_findSteps_0 rfl ?_
  refine pm_getf hG dX7_findSteps_1 (flX7_23 _ rfl) rfl rfl ?_
  refine pm_callV (As := []) (rest := []) hG hR dX7_findSteps_4 (lkX7_79 _ rfl) okV_X9_used rfl rfl (tb_used (d := 1) rfl) rfl rfl hdd (Nat.le_refl _) (Nat.le_refl _) (by decide) (pm_ki (fun v1 σ' cnt' hq => ?_))
  obtain ⟨I1, A1, rfl, rfl, h1⟩ := hv_id (kp := kp) (I := I) (A := A) h hq.2
  refine pm_istoreXn (loc' := [some (.ref (B + 1)), some (.int v1), none, none]) hG dX7_findSteps_7 (by decide) (pm_c1b rfl) rfl ?_
  refine pm_iconst (v := 0) hG dX7_findSteps_8 (by decide) ?_
  refine pm_istoreXn (loc' := [some (.ref (B + 1)), some (.int v1), some (.int 0), none]) hG dX7_findSteps_9 (by decide) (pm_c1b rfl) rfl ?_
  have loop10 : ∀ (m10 : Nat) (I2 : Nat → Int32) (A2 : Nat → Nat → Int32) (x2_2 : Int32), gs I2 → ((v1 : Int32).toInt - x2_2.toInt).toNat < m10 → pm_wp mX7_findSteps G B 10 [some (.ref (B + 1)), some (.int v1), some (.int x2_2), none] [] 0 0 cnt (pm_two (cl_L B kp I2 A2) ρ) := by
    intro m10
    induction m10 with
    | zero => intro I2 A2 x2_2 _  hm; exact absurd hm (Nat.not_lt_zero _)
    | succ m10 ih10 =>
      intro I2 A2 x2_2 h2  hm10
      refine pm_iloadn hG dX7_findSteps_10 rfl ?_
      refine pm_iloadn hG dX7_findSteps_11 rfl ?_
      refine pm_icmp_ge (tgt := 62) hG dX7_findSteps_12 rfl (fun c3 => ?_) (fun c3 => ?_)
      · exact pm_vret hG hF dX7_findSteps_62 rfl (Nat.le_refl _) (Nat.le_refl _) ⟨rfl, _, _, rfl, rfl, h2⟩
      · refine pm_iconst (v := 0) hG dX7_findSteps_15 (by decide) ?_
        refine pm_istoreXn (loc' := [some (.ref (B + 1)), some (.int v1), some (.int x2_2), some (.int 0)]) hG dX7_findSteps_16 (by decide) (pm_c1b rfl) rfl ?_
        have loop17 : ∀ (m17 : Nat) (I4 : Nat → Int32) (A4 : Nat → Nat → Int32) (x4_3 : Int32), gs I4 → ((v1 : Int32).toInt - x4_3.toInt).toNat < m17 → pm_wp mX7_findSteps G B 17 [some (.ref (B + 1)), some (.int v1), some (.int x2_2), some (.int x4_3)] [] 0 0 cnt (pm_two (cl_L B kp I4 A4) ρ) := by
          intro m17
          induction m17 with
          | zero => intro I4 A4 x4_3 _  hm; exact absurd hm (Nat.not_lt_zero _)
          | succ m17 ih17 =>
            intro I4 A4 x4_3 h4  hm17
            refine pm_iloadn hG dX7_findSteps_17 rfl ?_
            refine pm_iloadn hG dX7_findSteps_18 rfl ?_
            refine pm_icmp_ge (tgt := 56) hG dX7_findSteps_19 rfl (fun c5 => ?_) (fun c5 => ?_)
            · refine pm_iincX (v := x2_2 + 1) (loc' := [some (.ref (B + 1)), some (.int v1), some (.int (x2_2 + 1)), some (.int x4_3)]) hG dX7_findSteps_56 rfl (by rfl) (by decide) (pm_c1b rfl) rfl ?_
              refine pm_goto (tgt := 10) hG dX7_findSteps_59 rfl ?_
              refine pm_fg 3 (loc' := [some (.ref (B + 1)), some (.int v1), some (.int (x2_2 + 1)), none]) rfl ?_
              exact ih10 _ _ (x2_2 + 1) h4 (Nat.lt_of_lt_of_le (pm_mu1 c3) (Nat.le_of_lt_succ hm10))
            · refine pm_aloadn hG dX7_findSteps_22 rfl ?_
              refine pm_iloadn hG dX7_findSteps_23 rfl ?_
              refine pm_aloadn hG dX7_findSteps_24 rfl ?_
              refine pm_getf hG dX7_findSteps_25 (flX7_23 _ rfl) rfl rfl ?_
              refine pm_iloadn hG dX7_findSteps_28 rfl ?_
              refine pm_iconst (v := 2) hG dX7_findSteps_29 (by decide) ?_
              refine pm_callV (As := [.int x4_3, .int 2]) (rest := [.int x4_3, .ref (B + 1)]) hG hR dX7_findSteps_30 (lkX7_83 _ rfl) okV_X9_get rfl rfl (tb_get (d := 1) rfl rfl (pm_tw_of 20 14 (by decide) (by decide) (by decide))) rfl rfl hdd (Nat.le_refl _) (Nat.le_refl _) (by first | decide | exact Nat.le_of_ble_eq_true rfl) (pm_ki (fun v6 σ' cnt' hq => ?_))
              obtain ⟨I6, A6, rfl, rfl, h6⟩ := hv_id (kp := kp) (I := I4) (A := A4) h4 hq.2
              refine pm_callV (As := [.int x4_3, .int v6]) (rest := []) hG hR dX7_findSteps_33 (lkX7_100 _ rfl) okV_X7_bringNearer rfl rfl (g_X7_bringNearer (d := 1) (by decide) h6) rfl rfl hdd (Nat.le_refl _) (Nat.le_refl _) (by decide) (pm_kv (fun σ' cnt' hq => ?_))
              obtain ⟨I7, A7, rfl, rfl, h7⟩ := hq
              refine pm_aloadn hG dX7_findSteps_36 rfl ?_
              refine pm_iloadn hG dX7_findSteps_37 rfl ?_
              refine pm_aloadn hG dX7_findSteps_38 rfl ?_
              refine pm_getf hG dX7_findSteps_39 (flX7_23 _ rfl) rfl rfl ?_
              refine pm_iloadn hG dX7_findSteps_42 rfl ?_
              refine pm_iconst (v := 3) hG dX7_findSteps_43 (by decide) ?_
              refine pm_callV (As := [.int x4_3, .int 3]) (rest := [.int x4_3, .ref (B + 1)]) hG hR dX7_findSteps_44 (lkX7_83 _ rfl) okV_X9_get rfl rfl (tb_get (d := 1) rfl rfl (pm_tw_of 20 14 (by decide) (by decide) (by decide))) rfl rfl hdd (Nat.le_refl _) (Nat.le_refl _) (by first | decide | exact Nat.le_of_ble_eq_true rfl) (pm_ki (fun v8 σ' cnt' hq => ?_))
              obtain ⟨I8, A8, rfl, rfl, h8⟩ := hv_id (kp := kp) (I := I7) (A := A7) h7 hq.2
              refine pm_callV (As := [.int x4_3, .int v8]) (rest := []) hG hR dX7_findSteps_47 (lkX7_100 _ rfl) okV_X7_bringNearer rfl rfl (g_X7_bringNearer (d := 1) (by decide) h8) rfl rfl hdd (Nat.le_refl _) (Nat.le_refl _) (by decide) (pm_kv (fun σ' cnt' hq => ?_))
              obtain ⟨I9, A9, rfl, rfl, h9⟩ := hq
              refine pm_iincX (v := x4_3 + 1) (loc' := [some (.ref (B + 1)), some (.int v1), some (.int x2_2), some (.int (x4_3 + 1))]) hG dX7_findSteps_50 rfl (by rfl) (by decide) (pm_c1b rfl) rfl ?_
              refine pm_goto (tgt := 17) hG dX7_findSteps_53 rfl ?_
              exact ih17 _ _ (x4_3 + 1) h9 (Nat.lt_of_lt_of_le (pm_mu1 c5) (Nat.le_of_lt_succ hm17))
        exact loop17 _ _ _ 0 h2 (Nat.lt_succ_self _)
  exact loop10 _ _ _ 0 h1 (Nat.lt_succ_self _)

set_option maxRecDepth 100000 in
set_option maxHeartbeats 4000000 in
theorem g_X7_addPerson {d B cnt : Nat} {kp : Value} {ρ : pm_S} {I : Nat → Int32} {A : Nat → Nat → Int32} {za zb zc zd ze : Int32} (hdd : 3 ≤ d) (h : gs I) : pm_met mX7_addPerson d 0 0 B [.ref (B + 1), .int za, .int zb, .int zc, .int zd, .int ze] cnt (pm_two (cl_L B kp I A) ρ) (pm_Qi (fun _ σ' cnt' => hvc B kp ρ cnt σ' cnt')) := by
  refine pm_enter 1 (by decide) (Nat.le_of_ble_eq_true rfl) rfl (fun G hG hR hF => ?_)
  refine pm_aloadn hG dX7_addPerson_0 rfl ?_
  refine pm_getf hG dX7_addPerson_1 (flX7_23 _ rfl) rfl rfl ?_
  refine pm_iloadn hG dX7_addPerson_4 rfl ?_
  obtain ⟨k1, hk1, hu1⟩ := gs.used h 6 20 (by decide)
  have ht1 : pm_two (cl_L B kp I A) ρ 6 = some (.inr (9, [.int (nI 20), .int (nI 14), .ref (B + 7), .int (nI k1)])) := by rw [← hu1]; rfl
  refine pm_callV (As := [.int za]) (rest := []) hG hR dX7_addPerson_5 (lkX7_75 _ rfl) okV_X9_append rfl rfl (tb_append (d := 2) (by decide) ht1 rfl (by decide) (by decide) (by decide) (by decide) (by decide) (by decide) hk1) rfl rfl hdd (Nat.le_refl _) (Nat.le_refl _) (by decide) (pm_ki (fun v1 σ' cnt' hq => ?_))
  obtain ⟨I1, A1, rfl, rfl, h1⟩ := hv_p6 (kp := kp) (I := I) (A := A) hk1 h hq
  refine pm_istoreXi (loc' := [some (.ref (B + 1)), some (.int za), some (.int zb), some (.int zc), some (.int zd), some (.int ze), some (.int v1)]) hG dX7_addPerson_8 (by decide) (pm_c1b rfl) rfl ?_
  refine pm_aloadn hG dX7_addPerson_10 rfl ?_
  refine pm_getf hG dX7_addPerson_11 (flX7_23 _ rfl) rfl rfl ?_
  refine pm_iloadi hG dX7_addPerson_14 rfl ?_
  refine pm_iconst (v := 1) hG dX7_addPerson_16 (by decide) ?_
  refine pm_iloadn hG dX7_addPerson_17 rfl ?_
  refine pm_callV (As := [.int v1, .int 1, .int zb]) (rest := []) hG hR dX7_addPerson_18 (lkX7_61 _ rfl) okV_X9_set rfl rfl (tb_set (d := 2) rfl rfl (pm_tw_of 20 14 (by decide) (by decide) (by decide)) (by decide)) rfl rfl hdd (Nat.le_refl _) (Nat.le_refl _) (by decide) (pm_kv (fun σ' cnt' hq => ?_))
  obtain ⟨I2, A2, rfl, rfl, h2⟩ := hv_a7 (kp := kp) (I := I1) (A := A1) h1 hq
  refine pm_aloadn hG dX7_addPerson_21 rfl ?_
  refine pm_getf hG dX7_addPerson_22 (flX7_23 _ rfl) rfl rfl ?_
  refine pm_iloadi hG dX7_addPerson_25 rfl ?_
  refine pm_iconst (v := 2) hG dX7_addPerson_27 (by decide) ?_
  refine pm_iloadn hG dX7_addPerson_28 rfl ?_
  refine pm_callV (As := [.int v1, .int 2, .int zc]) (rest := []) hG hR dX7_addPerson_29 (lkX7_61 _ rfl) okV_X9_set rfl rfl (tb_set (d := 2) rfl rfl (pm_tw_of 20 14 (by decide) (by decide) (by decide)) (by decide)) rfl rfl hdd (Nat.le_refl _) (Nat.le_refl _) (by decide) (pm_kv (fun σ' cnt' hq => ?_))
  obtain ⟨I3, A3, rfl, rfl, h3⟩ := hv_a7 (kp := kp) (I := I2) (A := A2) h2 hq
  refine pm_aloadn hG dX7_addPerson_32 rfl ?_
  refine pm_getf hG dX7_addPerson_33 (flX7_23 _ rfl) rfl rfl ?_
  refine pm_iloadi hG dX7_addPerson_36 rfl ?_
  refine pm_iconst (v := 3) hG dX7_addPerson_38 (by decide) ?_
  refine pm_iloadi hG dX7_addPerson_39 rfl ?_
  refine pm_callV (As := [.int v1, .int 3, .int zd]) (rest := []) hG hR dX7_addPerson_41 (lkX7_61 _ rfl) okV_X9_set rfl rfl (tb_set (d := 2) rfl rfl (pm_tw_of 20 14 (by decide) (by decide) (by decide)) (by decide)) rfl rfl hdd (Nat.le_refl _) (Nat.le_refl _) (by decide) (pm_kv (fun σ' cnt' hq => ?_))
  obtain ⟨I4, A4, rfl, rfl, h4⟩ := hv_a7 (kp := kp) (I := I3) (A := A3) h3 hq
  refine pm_aloadn hG dX7_addPerson_44 rfl ?_
  refine pm_getf hG dX7_addPerson_45 (flX7_23 _ rfl) rfl rfl ?_
  refine pm_iloadi hG dX7_addPerson_48 rfl ?_
  refine pm_iconst (v := 4) hG dX7_addPerson_50 (by decide) ?_
  refine pm_iloadi hG dX7_addPerson_51 rfl ?_
  refine pm_callV (As := [.int v1, .int 4, .int ze]) (rest := []) hG hR dX7_addPerson_53 (lkX7_61 _ rfl) okV_X9_set rfl rfl (tb_set (d := 2) rfl rfl (pm_tw_of 20 14 (by decide) (by decide) (by decide)) (by decide)) rfl rfl hdd (Nat.le_refl _) (Nat.le_refl _) (by decide) (pm_kv (fun σ' cnt' hq => ?_))
  obtain ⟨I5, A5, rfl, rfl, h5⟩ := hv_a7 (kp := kp) (I := I4) (A := A4) h4 hq
  refine pm_aloadn hG dX7_addPerson_56 rfl ?_
  refine pm_getf hG dX7_addPerson_57 (flX7_23 _ rfl) rfl rfl ?_
  refine pm_iloadi hG dX7_addPerson_60 rfl ?_
  refine pm_bipush (v := 10) hG dX7_addPerson_62 (by decide) ?_
  refine pm_iconst (v := (-1)) hG dX7_addPerson_64 (by decide) ?_
  refine pm_callV (As := [.int v1, .int 10, .int (-1)]) (rest := []) hG hR dX7_addPerson_65 (lkX7_61 _ rfl) okV_X9_set rfl rfl (tb_set (d := 2) rfl rfl (pm_tw_of 20 14 (by decide) (by decide) (by decide)) (by decide)) rfl rfl hdd (Nat.le_refl _) (Nat.le_refl _) (by decide) (pm_kv (fun σ' cnt' hq => ?_))
  obtain ⟨I6, A6, rfl, rfl, h6⟩ := hv_a7 (kp := kp) (I := I5) (A := A5) h5 hq
  refine pm_aloadn hG dX7_addPerson_68 rfl ?_
  refine pm_getf hG dX7_addPerson_69 (flX7_23 _ rfl) rfl rfl ?_
  refine pm_iloadi hG dX7_addPerson_72 rfl ?_
  refine pm_bipush (v := 11) hG dX7_addPerson_74 (by decide) ?_
  refine pm_iloadi hG dX7_addPerson_76 rfl ?_
  refine pm_if_ne (tgt := 85) hG dX7_addPerson_78 rfl (fun c7 => ?_) (fun c7 => ?_)
  · refine pm_bipush (v := 99) hG dX7_addPerson_85 (by decide) ?_
    refine pm_callV (As := [.int v1, .int 11, .int 99]) (rest := []) hG hR dX7_addPerson_87 (lkX7_61 _ rfl) okV_X9_set rfl rfl (tb_set (d := 2) rfl rfl (pm_tw_of 20 14 (by decide) (by decide) (by decide)) (by decide)) rfl rfl hdd (Nat.le_refl _) (Nat.le_refl _) (by decide) (pm_kv (fun σ' cnt' hq => ?_))
    obtain ⟨I8, A8, rfl, rfl, h8⟩ := hv_a7 (kp := kp) (I := I6) (A := A6) h6 hq
    refine pm_aloadn hG dX7_addPerson_90 rfl ?_
    refine pm_getf hG dX7_addPerson_91 (flX7_23 _ rfl) rfl rfl ?_
    refine pm_iloadi hG dX7_addPerson_94 rfl ?_
    refine pm_bipush (v := 12) hG dX7_addPerson_96 (by decide) ?_
    refine pm_iconst (v := 1) hG dX7_addPerson_98 (by decide) ?_
    refine pm_callV (As := [.int v1, .int 12, .int 1]) (rest := []) hG hR dX7_addPerson_99 (lkX7_61 _ rfl) okV_X9_set rfl rfl (tb_set (d := 2) rfl rfl (pm_tw_of 20 14 (by decide) (by decide) (by decide)) (by decide)) rfl rfl hdd (Nat.le_refl _) (Nat.le_refl _) (by decide) (pm_kv (fun σ' cnt' hq => ?_))
    obtain ⟨I9, A9, rfl, rfl, h9⟩ := hv_a7 (kp := kp) (I := I8) (A := A8) h8 hq
    refine pm_aloadn hG dX7_addPerson_102 rfl ?_
    refine pm_callV (As := []) (rest := []) hG hR dX7_addPerson_103 (lkX7_97 _ rfl) okV_X7_findSteps rfl rfl (g_X7_findSteps (d := 2) (by decide) h9) rfl rfl hdd (Nat.le_refl _) (Nat.le_refl _) (by decide) (pm_kv (fun σ' cnt' hq => ?_))
    obtain ⟨I10, A10, rfl, rfl, h10⟩ := hq
    refine pm_iloadi hG dX7_addPerson_106 rfl ?_
    exact pm_iret hG hF dX7_addPerson_108 rfl (Nat.le_refl _) (Nat.le_refl _) ⟨_, rfl, _, _, rfl, rfl, h10⟩
  · refine pm_iconst (v := 0) hG dX7_addPerson_81 (by decide) ?_
    refine pm_goto (tgt := 87) hG dX7_addPerson_82 rfl ?_
    refine pm_callV (As := [.int v1, .int 11, .int 0]) (rest := []) hG hR dX7_addPerson_87 (lkX7_61 _ rfl) okV_X9_set rfl rfl (tb_set (d := 2) rfl rfl (pm_tw_of 20 14 (by decide) (by decide) (by decide)) (by decide)) rfl rfl hdd (Nat.le_refl _) (Nat.le_refl _) (by decide) (pm_kv (fun σ' cnt' hq => ?_))
    obtain ⟨I11, A11, rfl, rfl, h11⟩ := hv_a7 (kp := kp) (I := I6) (A := A6) h6 hq
    refine pm_aloadn hG dX7_addPerson_90 rfl ?_
    refine pm_getf hG dX7_addPerson_91 (flX7_23 _ rfl) rfl rfl ?_
    refine pm_iloadi hG dX7_addPerson_94 rfl ?_
    refine pm_bipush (v := 12) hG dX7_addPerson_96 (by decide) ?_
    refine pm_iconst (v := 1) hG dX7_addPerson_98 (by decide) ?_
    refine pm_callV (As := [.int v1, .int 12, .int 1]) (rest := []) hG hR dX7_addPerson_99 (lkX7_61 _ rfl) okV_X9_set rfl rfl (tb_set (d := 2) rfl rfl (pm_tw_of 20 14 (by decide) (by decide) (by decide)) (by decide)) rfl rfl hdd (Nat.le_refl _) (Nat.le_refl _) (by decide) (pm_kv (fun σ' cnt' hq => ?_))
    obtain ⟨I12, A12, rfl, rfl, h12⟩ := hv_a7 (kp := kp) (I := I11) (A := A11) h11 hq
    refine pm_aloadn hG dX7_addPerson_102 rfl ?_
    refine pm_callV (As := []) (rest := []) hG hR dX7_addPerson_103 (lkX7_97 _ rfl) okV_X7_findSteps rfl rfl (g_X7_findSteps (d := 2) (by decide) h12) rfl rfl hdd (Nat.le_refl _) (Nat.le_refl _) (by decide) (pm_kv (fun σ' cnt' hq => ?_))
    obtain ⟨I13, A13, rfl, rfl, h13⟩ := hq
    refine pm_iloadi hG dX7_addPerson_106 rfl ?_
    exact pm_iret hG hF dX7_addPerson_108 rfl (Nat.le_refl _) (Nat.le_refl _) ⟨_, rfl, _, _, rfl, rfl, h13⟩

set_option maxRecDepth 100000 in
set_option maxHeartbeats 4000000 in
theorem g_X11_person {d B cnt : Nat} {kp : Value} {ρ : pm_S} {I : Nat → Int32} {A : Nat → Nat → Int32} {za zb zc zd : Int32} (hdd : 4 ≤ d) (h : gs I) : pm_met mX11_person d 0 0 B [.ref (B + 0), .int za, .int zb, .int zc, .int zd] cnt (pm_two (cl_L B kp I A) ρ) (pm_Qi (fun _ σ' cnt' => hvc B kp ρ cnt σ' cnt')) := by
  refine pm_enter 2 (by decide) (Nat.le_of_ble_eq_true rfl) rfl (fun G hG hR hF => ?_)
  refine pm_iloadn hG dX11_person_0 rfl ?_
  refine pm_bipush (v := 100) hG dX11_person_1 (by decide) ?_
  refine pm_idiv hG dX11_person_3 (by decide) ?_
  refine pm_iconst (v := 1) hG dX11_person_4 (by decide) ?_
  refine pm_isub hG dX11_person_5 ?_
  refine pm_istoreXi (loc' := [some (.ref (B + 0)), some (.int za), some (.int zb), some (.int zc), some (.int zd), some (.int ((zc / 100) - 1)), none]) hG dX11_person_6 (by decide) (pm_c1b rfl) rfl ?_
  refine pm_iloadn hG dX11_person_8 rfl ?_
  refine pm_bipush (v := 100) hG dX11_person_9 (by decide) ?_
  refine pm_irem hG dX11_person_11 (by decide) ?_
  refine pm_iconst (v := 1) hG dX11_person_12 (by decide) ?_
  refine pm_isub hG dX11_person_13 ?_
  refine pm_istoreXi (loc' := [some (.ref (B + 0)), some (.int za), some (.int zb), some (.int zc), some (.int zd), some (.int ((zc / 100) - 1)), some (.int ((zc - zc / 100 * 100) - 1))]) hG dX11_person_14 (by decide) (pm_c1b rfl) rfl ?_
  refine pm_iloadn hG dX11_person_16 rfl ?_
  refine pm_iconst (v := 0) hG dX11_person_17 (by decide) ?_
  refine pm_iconst (v := 1) hG dX11_person_18 (by decide) ?_
  refine pm_callS (As := [.int za, .int 0, .int 1]) (rest := []) hG hR dX11_person_19 (lkX11_105 _ rfl) okS_X11_isOutside (sx_isOutside (d := 3)) rfl rfl hdd (Nat.le_refl _) (Nat.le_refl _) (by decide) (pm_ki (fun v1 σ' cnt' hq => ?_))
  have b1 := pm_b10 hq.1
  obtain ⟨I1, A1, rfl, rfl, h1⟩ := hv_id (kp := kp) (I := I) (A := A) h hq.2
  refine pm_if_ne (tgt := 89) hG dX11_person_22 rfl (fun c2 => ?_) (fun c2 => ?_)
  · refine pm_aloadn hG dX11_person_89 rfl ?_
    refine pm_ldc hG dX11_person_90 (ctX11_109 _ rfl) ?_
    refine pm_callV (As := [.int (-1000001)]) (rest := []) hG hR dX11_person_92 (lkX11_97 _ rfl) okV_X11_told rfl rfl (sx_told (d := 3) (by decide) rfl rfl) rfl rfl hdd (Nat.le_refl _) (Nat.le_refl _) (by decide) (pm_ki (fun v3 σ' cnt' hq => ?_))
    obtain ⟨-, ⟨g3, hg3⟩, hc3⟩ := hq
    obtain ⟨I3, A3, rfl, rfl, h3⟩ := hv_a53 (kp := kp) (I := I1) (A := A1) h1 ⟨hg3, hc3⟩
    exact pm_iret hG hF dX11_person_95 rfl (Nat.le_refl _) (Nat.le_refl _) ⟨_, rfl, _, _, rfl, rfl, h3⟩
  · refine pm_iloadn hG dX11_person_25 rfl ?_
    refine pm_sipush (v := (-20000)) hG dX11_person_26 (by decide) ?_
    refine pm_aloadn hG dX11_person_29 rfl ?_
    refine pm_getf hG dX11_person_30 (flX11_12 _ rfl) rfl rfl ?_
    refine pm_getf hG dX11_person_33 (flX11_122 _ rfl) rfl rfl ?_
    refine pm_callS (As := [.int zb, .int (-20000), .int (I1 102)]) (rest := []) hG hR dX11_person_36 (lkX11_105 _ rfl) okS_X11_isOutside (sx_isOutside (d := 3)) rfl rfl hdd (Nat.le_refl _) (Nat.le_refl _) (by decide) (pm_ki (fun v4 σ' cnt' hq => ?_))
    have b4 := pm_b10 hq.1
    obtain ⟨I4, A4, rfl, rfl, h4⟩ := hv_id (kp := kp) (I := I1) (A := A1) h1 hq.2
    refine pm_if_ne (tgt := 89) hG dX11_person_39 rfl (fun c5 => ?_) (fun c5 => ?_)
    · refine pm_aloadn hG dX11_person_89 rfl ?_
      refine pm_ldc hG dX11_person_90 (ctX11_109 _ rfl) ?_
      refine pm_callV (As := [.int (-1000001)]) (rest := []) hG hR dX11_person_92 (lkX11_97 _ rfl) okV_X11_told rfl rfl (sx_told (d := 3) (by decide) rfl rfl) rfl rfl hdd (Nat.le_refl _) (Nat.le_refl _) (by decide) (pm_ki (fun v6 σ' cnt' hq => ?_))
      obtain ⟨-, ⟨g6, hg6⟩, hc6⟩ := hq
      obtain ⟨I6, A6, rfl, rfl, h6⟩ := hv_a53 (kp := kp) (I := I4) (A := A4) h4 ⟨hg6, hc6⟩
      exact pm_iret hG hF dX11_person_95 rfl (Nat.le_refl _) (Nat.le_refl _) ⟨_, rfl, _, _, rfl, rfl, h6⟩
    · refine pm_iloadn hG dX11_person_42 rfl ?_
      refine pm_if_lt (tgt := 89) hG dX11_person_43 rfl (fun c7 => ?_) (fun c7 => ?_)
      · refine pm_aloadn hG dX11_person_89 rfl ?_
        refine pm_ldc hG dX11_person_90 (ctX11_109 _ rfl) ?_
        refine pm_callV (As := [.int (-1000001)]) (rest := []) hG hR dX11_person_92 (lkX11_97 _ rfl) okV_X11_told rfl rfl (sx_told (d := 3) (by decide) rfl rfl) rfl rfl hdd (Nat.le_refl _) (Nat.le_refl _) (by decide) (pm_ki (fun v8 σ' cnt' hq => ?_))
        obtain ⟨-, ⟨g8, hg8⟩, hc8⟩ := hq
        obtain ⟨I8, A8, rfl, rfl, h8⟩ := hv_a53 (kp := kp) (I := I4) (A := A4) h4 ⟨hg8, hc8⟩
        exact pm_iret hG hF dX11_person_95 rfl (Nat.le_refl _) (Nat.le_refl _) ⟨_, rfl, _, _, rfl, rfl, h8⟩
      · refine pm_aloadn hG dX11_person_46 rfl ?_
        refine pm_getf hG dX11_person_47 (flX11_12 _ rfl) rfl rfl ?_
        refine pm_getf hG dX11_person_50 (flX11_82 _ rfl) rfl rfl ?_
        refine pm_iloadi hG dX11_person_53 rfl ?_
        refine pm_callV (As := [.int zd]) (rest := []) hG hR dX11_person_55 (lkX11_101 _ rfl) okV_X9_has rfl rfl (tb_has (d := 3) rfl) rfl rfl hdd (Nat.le_refl _) (Nat.le_refl _) (by decide) (pm_ki (fun v9 σ' cnt' hq => ?_))
        have b9 := pm_b01 hq.1
        obtain ⟨I9, A9, rfl, rfl, h9⟩ := hv_id (kp := kp) (I := I4) (A := A4) h4 hq.2
        refine pm_if_eq (tgt := 89) hG dX11_person_58 rfl (fun c10 => ?_) (fun c10 => ?_)
        · refine pm_aloadn hG dX11_person_89 rfl ?_
          refine pm_ldc hG dX11_person_90 (ctX11_109 _ rfl) ?_
          refine pm_callV (As := [.int (-1000001)]) (rest := []) hG hR dX11_person_92 (lkX11_97 _ rfl) okV_X11_told rfl rfl (sx_told (d := 3) (by decide) rfl rfl) rfl rfl hdd (Nat.le_refl _) (Nat.le_refl _) (by decide) (pm_ki (fun v11 σ' cnt' hq => ?_))
          obtain ⟨-, ⟨g11, hg11⟩, hc11⟩ := hq
          obtain ⟨I11, A11, rfl, rfl, h11⟩ := hv_a53 (kp := kp) (I := I9) (A := A9) h9 ⟨hg11, hc11⟩
          exact pm_iret hG hF dX11_person_95 rfl (Nat.le_refl _) (Nat.le_refl _) ⟨_, rfl, _, _, rfl, rfl, h11⟩
        · refine pm_aloadn hG dX11_person_61 rfl ?_
          refine pm_getf hG dX11_person_62 (flX11_12 _ rfl) rfl rfl ?_
          refine pm_iloadi hG dX11_person_65 rfl ?_
          refine pm_iconst (v := 1) hG dX11_person_67 (by decide) ?_
          refine pm_iloadn hG dX11_person_68 rfl ?_
          refine pm_callV (As := [.int ((zc / 100) - 1), .int 1, .int zb]) (rest := []) hG hR dX11_person_69 (lkX11_125 _ rfl) okV_X7_mayBeParent rfl rfl (g_X7_mayBeParent (d := 3) (by decide) h9) rfl rfl hdd (Nat.le_refl _) (Nat.le_refl _) (by decide) (pm_ki (fun v12 σ' cnt' hq => ?_))
          obtain ⟨b12, I12, A12, rfl, rfl, h12⟩ := hq
          refine pm_if_eq (tgt := 89) hG dX11_person_72 rfl (fun c13 => ?_) (fun c13 => ?_)
          · refine pm_aloadn hG dX11_person_89 rfl ?_
            refine pm_ldc hG dX11_person_90 (ctX11_109 _ rfl) ?_
            refine pm_callV (As := [.int (-1000001)]) (rest := []) hG hR dX11_person_92 (lkX11_97 _ rfl) okV_X11_told rfl rfl (sx_told (d := 3) (by decide) rfl rfl) rfl rfl hdd (Nat.le_refl _) (Nat.le_refl _) (by decide) (pm_ki (fun v14 σ' cnt' hq => ?_))
            obtain ⟨-, ⟨g14, hg14⟩, hc14⟩ := hq
            obtain ⟨I14, A14, rfl, rfl, h14⟩ := hv_a53 (kp := kp) (I := I12) (A := A12) h12 ⟨hg14, hc14⟩
            exact pm_iret hG hF dX11_person_95 rfl (Nat.le_refl _) (Nat.le_refl _) ⟨_, rfl, _, _, rfl, rfl, h14⟩
          · refine pm_aloadn hG dX11_person_75 rfl ?_
            refine pm_getf hG dX11_person_76 (flX11_12 _ rfl) rfl rfl ?_
            refine pm_iloadi hG dX11_person_79 rfl ?_
            refine pm_iconst (v := 0) hG dX11_person_81 (by decide) ?_
            refine pm_iloadn hG dX11_person_82 rfl ?_
            refine pm_callV (As := [.int ((zc - zc / 100 * 100) - 1), .int 0, .int zb]) (rest := []) hG hR dX11_person_83 (lkX11_125 _ rfl) okV_X7_mayBeParent rfl rfl (g_X7_mayBeParent (d := 3) (by decide) h12) rfl rfl hdd (Nat.le_refl _) (Nat.le_refl _) (by decide) (pm_ki (fun v15 σ' cnt' hq => ?_))
            obtain ⟨b15, I15, A15, rfl, rfl, h15⟩ := hq
            refine pm_if_ne (tgt := 96) hG dX11_person_86 rfl (fun c16 => ?_) (fun c16 => ?_)
            · refine pm_aloadn hG dX11_person_96 rfl ?_
              refine pm_aloadn hG dX11_person_97 rfl ?_
              refine pm_getf hG dX11_person_98 (flX11_12 _ rfl) rfl rfl ?_
              refine pm_getf hG dX11_person_101 (flX11_128 _ rfl) rfl rfl ?_
              refine pm_callV (As := []) (rest := [.ref (B + 0)]) hG hR dX11_person_104 (lkX11_86 _ rfl) okV_X9_isFull rfl rfl (tb_isFull (d := 3) rfl) rfl rfl hdd (Nat.le_refl _) (Nat.le_refl _) (by first | decide | exact Nat.le_of_ble_eq_true rfl) (pm_ki (fun v17 σ' cnt' hq => ?_))
              have b17 := pm_b01 hq.1
              obtain ⟨I17, A17, rfl, rfl, h17⟩ := hv_id (kp := kp) (I := I15) (A := A15) h15 hq.2
              refine pm_if_eq (tgt := 115) hG dX11_person_107 rfl (fun c18 => ?_) (fun c18 => ?_)
              · refine pm_aloadn hG dX11_person_115 rfl ?_
                refine pm_getf hG dX11_person_116 (flX11_12 _ rfl) rfl rfl ?_
                refine pm_iloadn hG dX11_person_119 rfl ?_
                refine pm_iloadn hG dX11_person_120 rfl ?_
                refine pm_iloadi hG dX11_person_121 rfl ?_
                refine pm_iloadi hG dX11_person_123 rfl ?_
                refine pm_iloadi hG dX11_person_125 rfl ?_
                refine pm_callV (As := [.int za, .int zb, .int ((zc / 100) - 1), .int ((zc - zc / 100 * 100) - 1), .int zd]) (rest := [.ref (B + 0)]) hG hR dX11_person_127 (lkX11_131 _ rfl) okV_X7_addPerson rfl rfl (g_X7_addPerson (d := 3) (by decide) h17) rfl rfl hdd (Nat.le_refl _) (Nat.le_refl _) (by first | decide | exact Nat.le_of_ble_eq_true rfl) (pm_ki (fun v19 σ' cnt' hq => ?_))
                obtain ⟨I19, A19, rfl, rfl, h19⟩ := hq
                refine pm_callV (As := [.int v19]) (rest := []) hG hR dX11_person_130 (lkX11_97 _ rfl) okV_X11_told rfl rfl (sx_told (d := 3) (by decide) rfl rfl) rfl rfl hdd (Nat.le_refl _) (Nat.le_refl _) (by decide) (pm_ki (fun v20 σ' cnt' hq => ?_))
                obtain ⟨-, ⟨g20, hg20⟩, hc20⟩ := hq
                obtain ⟨I20, A20, rfl, rfl, h20⟩ := hv_a53 (kp := kp) (I := I19) (A := A19) h19 ⟨hg20, hc20⟩
                exact pm_iret hG hF dX11_person_133 rfl (Nat.le_refl _) (Nat.le_refl _) ⟨_, rfl, _, _, rfl, rfl, h20⟩
              · refine pm_ldc hG dX11_person_110 (ctX11_92 _ rfl) ?_
                refine pm_goto (tgt := 130) hG dX11_person_112 rfl ?_
                refine pm_callV (As := [.int (-1000004)]) (rest := []) hG hR dX11_person_130 (lkX11_97 _ rfl) okV_X11_told rfl rfl (sx_told (d := 3) (by decide) rfl rfl) rfl rfl hdd (Nat.le_refl _) (Nat.le_refl _) (by decide) (pm_ki (fun v21 σ' cnt' hq => ?_))
                obtain ⟨-, ⟨g21, hg21⟩, hc21⟩ := hq
                obtain ⟨I21, A21, rfl, rfl, h21⟩ := hv_a53 (kp := kp) (I := I17) (A := A17) h17 ⟨hg21, hc21⟩
                exact pm_iret hG hF dX11_person_133 rfl (Nat.le_refl _) (Nat.le_refl _) ⟨_, rfl, _, _, rfl, rfl, h21⟩
            · refine pm_aloadn hG dX11_person_89 rfl ?_
              refine pm_ldc hG dX11_person_90 (ctX11_109 _ rfl) ?_
              refine pm_callV (As := [.int (-1000001)]) (rest := []) hG hR dX11_person_92 (lkX11_97 _ rfl) okV_X11_told rfl rfl (sx_told (d := 3) (by decide) rfl rfl) rfl rfl hdd (Nat.le_refl _) (Nat.le_refl _) (by decide) (pm_ki (fun v22 σ' cnt' hq => ?_))
              obtain ⟨-, ⟨g22, hg22⟩, hc22⟩ := hq
              obtain ⟨I22, A22, rfl, rfl, h22⟩ := hv_a53 (kp := kp) (I := I15) (A := A15) h15 ⟨hg22, hc22⟩
              exact pm_iret hG hF dX11_person_95 rfl (Nat.le_refl _) (Nat.le_refl _) ⟨_, rfl, _, _, rfl, rfl, h22⟩

set_option maxRecDepth 100000 in
set_option maxHeartbeats 4000000 in
theorem g_X8_numberAt {d B cnt : Nat} {kp : Value} {ρ : pm_S} {I : Nat → Int32} {A : Nat → Nat → Int32} {za zb : Int32} (hdd : 1 ≤ d) (h : gs I) : pm_met mX8_numberAt d 0 0 B [.ref (B + 48), .int za, .int zb] cnt (pm_two (cl_L B kp I A) ρ) (pm_Qi (fun _ σ' cnt' => hvc B kp ρ cnt σ' cnt')) := by
  refine pm_enter 0 (by decide) (Nat.le_of_ble_eq_true rfl) rfl (fun G hG hR hF => ?_)
  refine pm_aloadn hG dX8_numberAt_0 rfl ?_
  refine pm_getf hG dX8_numberAt_1 (flX8_23 _ rfl) rfl rfl ?_
  refine pm_iloadn hG dX8_numberAt_4 rfl ?_
  refine pm_iloadn hG dX8_numberAt_5 rfl ?_
  refine pm_callV (As := [.int za, .int zb]) (rest := []) hG hR dX8_numberAt_6 (lkX8_35 _ rfl) okV_X9_get rfl rfl (tb_get (d := 0) rfl rfl (pm_tw_of 4 24 (by decide) (by decide) (by decide))) rfl rfl hdd (Nat.le_refl _) (Nat.le_refl _) (by decide) (pm_ki (fun v1 σ' cnt' hq => ?_))
  obtain ⟨I1, A1, rfl, rfl, h1⟩ := hv_id (kp := kp) (I := I) (A := A) h hq.2
  exact pm_iret hG hF dX8_numberAt_9 rfl (Nat.le_refl _) (Nat.le_refl _) ⟨_, rfl, _, _, rfl, rfl, h1⟩

set_option maxRecDepth 100000 in
set_option maxHeartbeats 4000000 in
theorem g_X8_areAllWithin {d B cnt : Nat} {kp : Value} {ρ : pm_S} {I : Nat → Int32} {A : Nat → Nat → Int32} {za zb zc : Int32} (hdd : 2 ≤ d) (h : gs I) : pm_met mX8_areAllWithin d 0 0 B [.ref (B + 48), .int za, .int zb, .int zc] cnt (pm_two (cl_L B kp I A) ρ) (pm_Qi (fun v σ' cnt' => (v = 0 ∨ v = 1) ∧ hvc B kp ρ cnt σ' cnt')) := by
  refine pm_enter 2 (by decide) (Nat.le_of_ble_eq_true rfl) rfl (fun G hG hR hF => ?_)
  refine pm_aloadn hG dX8_areAllWithin_0 rfl ?_
  refine pm_iloadn hG dX8_areAllWithin_1 rfl ?_
  refine pm_callV (As := [.int za]) (rest := []) hG hR dX8_areAllWithin_2 (lkX8_39 _ rfl) okV_X8_sizeOf rfl rfl (g_X8_sizeOf (d := 1) (by decide) h) rfl rfl hdd (Nat.le_refl _) (Nat.le_refl _) (by decide) (pm_ki (fun v1 σ' cnt' hq => ?_))
  obtain ⟨I1, A1, rfl, rfl, h1⟩ := hq
  refine pm_istoreXi (loc' := [some (.ref (B + 48)), some (.int za), some (.int zb), some (.int zc), some (.int v1), none]) hG dX8_areAllWithin_5 (by decide) (pm_c1b rfl) rfl ?_
  refine pm_iconst (v := 0) hG dX8_areAllWithin_7 (by decide) ?_
  refine pm_istoreXi (loc' := [some (.ref (B + 48)), some (.int za), some (.int zb), some (.int zc), some (.int v1), some (.int 0)]) hG dX8_areAllWithin_8 (by decide) (pm_c1b rfl) rfl ?_
  have loop10 : ∀ (m10 : Nat) (I2 : Nat → Int32) (A2 : Nat → Nat → Int32) (x2_5 : Int32), gs I2 → ((v1 : Int32).toInt - x2_5.toInt).toNat < m10 → pm_wp mX8_areAllWithin G B 10 [some (.ref (B + 48)), some (.int za), some (.int zb), some (.int zc), some (.int v1), some (.int x2_5)] [] 0 0 cnt (pm_two (cl_L B kp I2 A2) ρ) := by
    intro m10
    induction m10 with
    | zero => intro I2 A2 x2_5 _  hm; exact absurd hm (Nat.not_lt_zero _)
    | succ m10 ih10 =>
      intro I2 A2 x2_5 h2  hm10
      refine pm_iloadi hG dX8_areAllWithin_10 rfl ?_
      refine pm_iloadi hG dX8_areAllWithin_12 rfl ?_
      refine pm_icmp_ge (tgt := 40) hG dX8_areAllWithin_14 rfl (fun c3 => ?_) (fun c3 => ?_)
      · refine pm_iconst (v := 1) hG dX8_areAllWithin_40 (by decide) ?_
        exact pm_zret hG hF dX8_areAllWithin_41 rfl (pm_nz (Or.inr rfl)) (Nat.le_refl _) (Nat.le_refl _) ⟨_, rfl, (Or.inr rfl), _, _, rfl, rfl, h2⟩
      · refine pm_aloadn hG dX8_areAllWithin_17 rfl ?_
        refine pm_iloadn hG dX8_areAllWithin_18 rfl ?_
        refine pm_iloadi hG dX8_areAllWithin_19 rfl ?_
        refine pm_callV (As := [.int za, .int x2_5]) (rest := []) hG hR dX8_areAllWithin_21 (lkX8_42 _ rfl) okV_X8_numberAt rfl rfl (g_X8_numberAt (d := 1) (by decide) h2) rfl rfl hdd (Nat.le_refl _) (Nat.le_refl _) (by decide) (pm_ki (fun v4 σ' cnt' hq => ?_))
        obtain ⟨I4, A4, rfl, rfl, h4⟩ := hq
        refine pm_iloadn hG dX8_areAllWithin_24 rfl ?_
        refine pm_iloadn hG dX8_areAllWithin_25 rfl ?_
        refine pm_callS (As := [.int v4, .int zb, .int zc]) (rest := []) hG hR dX8_areAllWithin_26 (lkX8_45 _ rfl) okS_X11_isOutside (sx_isOutside (d := 1)) rfl rfl hdd (Nat.le_refl _) (Nat.le_refl _) (by decide) (pm_ki (fun v5 σ' cnt' hq => ?_))
        have b5 := pm_b10 hq.1
        obtain ⟨I5, A5, rfl, rfl, h5⟩ := hv_id (kp := kp) (I := I4) (A := A4) h4 hq.2
        refine pm_if_eq (tgt := 34) hG dX8_areAllWithin_29 rfl (fun c6 => ?_) (fun c6 => ?_)
        · refine pm_iincX (v := x2_5 + 1) (loc' := [some (.ref (B + 48)), some (.int za), some (.int zb), some (.int zc), some (.int v1), some (.int (x2_5 + 1))]) hG dX8_areAllWithin_34 rfl (by rfl) (by decide) (pm_c1b rfl) rfl ?_
          refine pm_goto (tgt := 10) hG dX8_areAllWithin_37 rfl ?_
          exact ih10 _ _ (x2_5 + 1) h5 (Nat.lt_of_lt_of_le (pm_mu1 c3) (Nat.le_of_lt_succ hm10))
        · refine pm_iconst (v := 0) hG dX8_areAllWithin_32 (by decide) ?_
          exact pm_zret hG hF dX8_areAllWithin_33 rfl (pm_nz (Or.inl rfl)) (Nat.le_refl _) (Nat.le_refl _) ⟨_, rfl, (Or.inl rfl), _, _, rfl, rfl, h5⟩
  exact loop10 _ _ _ 0 h1 (Nat.lt_succ_self _)

set_option maxRecDepth 100000 in
set_option maxHeartbeats 4000000 in
theorem g_X7_addPower {d B cnt : Nat} {kp : Value} {ρ : pm_S} {I : Nat → Int32} {A : Nat → Nat → Int32} {za zb zc : Int32} (hdd : 2 ≤ d) (h : gs I) : pm_met mX7_addPower d 0 0 B [.ref (B + 1), .int za, .int zb, .int zc] cnt (pm_two (cl_L B kp I A) ρ) (pm_Qi (fun _ σ' cnt' => hvc B kp ρ cnt σ' cnt')) := by
  refine pm_enter 1 (by decide) (Nat.le_of_ble_eq_true rfl) rfl (fun G hG hR hF => ?_)
  refine pm_aloadn hG dX7_addPower_0 rfl ?_
  refine pm_getf hG dX7_addPower_1 (flX7_26 _ rfl) rfl rfl ?_
  refine pm_iloadn hG dX7_addPower_4 rfl ?_
  obtain ⟨k1, hk1, hu1⟩ := gs.used h 8 20 (by decide)
  have ht1 : pm_two (cl_L B kp I A) ρ 8 = some (.inr (9, [.int (nI 20), .int (nI 6), .ref (B + 9), .int (nI k1)])) := by rw [← hu1]; rfl
  refine pm_callV (As := [.int za]) (rest := []) hG hR dX7_addPower_5 (lkX7_75 _ rfl) okV_X9_append rfl rfl (tb_append (d := 1) (by decide) ht1 rfl (by decide) (by decide) (by decide) (by decide) (by decide) (by decide) hk1) rfl rfl hdd (Nat.le_refl _) (Nat.le_refl _) (by decide) (pm_ki (fun v1 σ' cnt' hq => ?_))
  obtain ⟨I1, A1, rfl, rfl, h1⟩ := hv_p8 (kp := kp) (I := I) (A := A) hk1 h hq
  refine pm_istoreXi (loc' := [some (.ref (B + 1)), some (.int za), some (.int zb), some (.int zc), some (.int v1)]) hG dX7_addPower_8 (by decide) (pm_c1b rfl) rfl ?_
  refine pm_aloadn hG dX7_addPower_10 rfl ?_
  refine pm_getf hG dX7_addPower_11 (flX7_26 _ rfl) rfl rfl ?_
  refine pm_iloadi hG dX7_addPower_14 rfl ?_
  refine pm_iconst (v := 1) hG dX7_addPower_16 (by decide) ?_
  refine pm_iloadn hG dX7_addPower_17 rfl ?_
  refine pm_callV (As := [.int v1, .int 1, .int zc]) (rest := []) hG hR dX7_addPower_18 (lkX7_61 _ rfl) okV_X9_set rfl rfl (tb_set (d := 1) rfl rfl (pm_tw_of 20 6 (by decide) (by decide) (by decide)) (by decide)) rfl rfl hdd (Nat.le_refl _) (Nat.le_refl _) (by decide) (pm_kv (fun σ' cnt' hq => ?_))
  obtain ⟨I2, A2, rfl, rfl, h2⟩ := hv_a9 (kp := kp) (I := I1) (A := A1) h1 hq
  refine pm_aloadn hG dX7_addPower_21 rfl ?_
  refine pm_getf hG dX7_addPower_22 (flX7_26 _ rfl) rfl rfl ?_
  refine pm_iloadi hG dX7_addPower_25 rfl ?_
  refine pm_iconst (v := 2) hG dX7_addPower_27 (by decide) ?_
  refine pm_iloadn hG dX7_addPower_28 rfl ?_
  refine pm_callV (As := [.int v1, .int 2, .int zb]) (rest := []) hG hR dX7_addPower_29 (lkX7_61 _ rfl) okV_X9_set rfl rfl (tb_set (d := 1) rfl rfl (pm_tw_of 20 6 (by decide) (by decide) (by decide)) (by decide)) rfl rfl hdd (Nat.le_refl _) (Nat.le_refl _) (by decide) (pm_kv (fun σ' cnt' hq => ?_))
  obtain ⟨I3, A3, rfl, rfl, h3⟩ := hv_a9 (kp := kp) (I := I2) (A := A2) h2 hq
  refine pm_aloadn hG dX7_addPower_32 rfl ?_
  refine pm_getf hG dX7_addPower_33 (flX7_26 _ rfl) rfl rfl ?_
  refine pm_iloadi hG dX7_addPower_36 rfl ?_
  refine pm_iconst (v := 5) hG dX7_addPower_38 (by decide) ?_
  refine pm_iloadn hG dX7_addPower_39 rfl ?_
  refine pm_iconst (v := 2) hG dX7_addPower_40 (by decide) ?_
  refine pm_icmp_ne (tgt := 49) hG dX7_addPower_41 rfl (fun c4 => ?_) (fun c4 => ?_)
  · refine pm_iconst (v := (-1)) hG dX7_addPower_49 (by decide) ?_
    refine pm_callV (As := [.int v1, .int 5, .int (-1)]) (rest := []) hG hR dX7_addPower_50 (lkX7_61 _ rfl) okV_X9_set rfl rfl (tb_set (d := 1) rfl rfl (pm_tw_of 20 6 (by decide) (by decide) (by decide)) (by decide)) rfl rfl hdd (Nat.le_refl _) (Nat.le_refl _) (by decide) (pm_kv (fun σ' cnt' hq => ?_))
    obtain ⟨I5, A5, rfl, rfl, h5⟩ := hv_a9 (kp := kp) (I := I3) (A := A3) h3 hq
    refine pm_aloadn hG dX7_addPower_53 rfl ?_
    refine pm_iloadi hG dX7_addPower_54 rfl ?_
    refine pm_iconst (v := (-1)) hG dX7_addPower_56 (by decide) ?_
    refine pm_iconst (v := (-1)) hG dX7_addPower_57 (by decide) ?_
    refine pm_callV (As := [.int v1, .int (-1), .int (-1)]) (rest := []) hG hR dX7_addPower_58 (lkX7_122 _ rfl) okV_X7_setLent rfl rfl (g_X7_setLent (d := 1) (by decide) h5) rfl rfl hdd (Nat.le_refl _) (Nat.le_refl _) (by decide) (pm_kv (fun σ' cnt' hq => ?_))
    obtain ⟨I6, A6, rfl, rfl, h6⟩ := hq
    refine pm_iloadi hG dX7_addPower_61 rfl ?_
    exact pm_iret hG hF dX7_addPower_63 rfl (Nat.le_refl _) (Nat.le_refl _) ⟨_, rfl, _, _, rfl, rfl, h6⟩
  · refine pm_iloadi hG dX7_addPower_44 rfl ?_
    refine pm_goto (tgt := 50) hG dX7_addPower_46 rfl ?_
    refine pm_callV (As := [.int v1, .int 5, .int v1]) (rest := []) hG hR dX7_addPower_50 (lkX7_61 _ rfl) okV_X9_set rfl rfl (tb_set (d := 1) rfl rfl (pm_tw_of 20 6 (by decide) (by decide) (by decide)) (by decide)) rfl rfl hdd (Nat.le_refl _) (Nat.le_refl _) (by decide) (pm_kv (fun σ' cnt' hq => ?_))
    obtain ⟨I7, A7, rfl, rfl, h7⟩ := hv_a9 (kp := kp) (I := I3) (A := A3) h3 hq
    refine pm_aloadn hG dX7_addPower_53 rfl ?_
    refine pm_iloadi hG dX7_addPower_54 rfl ?_
    refine pm_iconst (v := (-1)) hG dX7_addPower_56 (by decide) ?_
    refine pm_iconst (v := (-1)) hG dX7_addPower_57 (by decide) ?_
    refine pm_callV (As := [.int v1, .int (-1), .int (-1)]) (rest := []) hG hR dX7_addPower_58 (lkX7_122 _ rfl) okV_X7_setLent rfl rfl (g_X7_setLent (d := 1) (by decide) h7) rfl rfl hdd (Nat.le_refl _) (Nat.le_refl _) (by decide) (pm_kv (fun σ' cnt' hq => ?_))
    obtain ⟨I8, A8, rfl, rfl, h8⟩ := hq
    refine pm_iloadi hG dX7_addPower_61 rfl ?_
    exact pm_iret hG hF dX7_addPower_63 rfl (Nat.le_refl _) (Nat.le_refl _) ⟨_, rfl, _, _, rfl, rfl, h8⟩

set_option maxRecDepth 100000 in
set_option maxHeartbeats 4000000 in
theorem g_X11_power {d B cnt : Nat} {kp : Value} {ρ : pm_S} {I : Nat → Int32} {A : Nat → Nat → Int32} {za zb zc : Int32} (hdd : 3 ≤ d) (h : gs I) : pm_met mX11_power d 0 0 B [.ref (B + 0), .int za, .int zb, .int zc] cnt (pm_two (cl_L B kp I A) ρ) (pm_Qi (fun _ σ' cnt' => hvc B kp ρ cnt σ' cnt')) := by
  refine pm_enter 0 (by decide) (Nat.le_of_ble_eq_true rfl) rfl (fun G hG hR hF => ?_)
  refine pm_iloadn hG dX11_power_0 rfl ?_
  refine pm_iconst (v := 0) hG dX11_power_1 (by decide) ?_
  refine pm_iconst (v := 5) hG dX11_power_2 (by decide) ?_
  refine pm_callS (As := [.int za, .int 0, .int 5]) (rest := []) hG hR dX11_power_3 (lkX11_105 _ rfl) okS_X11_isOutside (sx_isOutside (d := 2)) rfl rfl hdd (Nat.le_refl _) (Nat.le_refl _) (by decide) (pm_ki (fun v1 σ' cnt' hq => ?_))
  have b1 := pm_b10 hq.1
  obtain ⟨I1, A1, rfl, rfl, h1⟩ := hv_id (kp := kp) (I := I) (A := A) h hq.2
  refine pm_if_ne (tgt := 30) hG dX11_power_6 rfl (fun c2 => ?_) (fun c2 => ?_)
  · refine pm_aloadn hG dX11_power_30 rfl ?_
    refine pm_ldc hG dX11_power_31 (ctX11_109 _ rfl) ?_
    refine pm_callV (As := [.int (-1000001)]) (rest := []) hG hR dX11_power_33 (lkX11_97 _ rfl) okV_X11_told rfl rfl (sx_told (d := 2) (by decide) rfl rfl) rfl rfl hdd (Nat.le_refl _) (Nat.le_refl _) (by decide) (pm_ki (fun v3 σ' cnt' hq => ?_))
    obtain ⟨-, ⟨g3, hg3⟩, hc3⟩ := hq
    obtain ⟨I3, A3, rfl, rfl, h3⟩ := hv_a53 (kp := kp) (I := I1) (A := A1) h1 ⟨hg3, hc3⟩
    exact pm_iret hG hF dX11_power_36 rfl (Nat.le_refl _) (Nat.le_refl _) ⟨_, rfl, _, _, rfl, rfl, h3⟩
  · refine pm_aloadn hG dX11_power_9 rfl ?_
    refine pm_getf hG dX11_power_10 (flX11_12 _ rfl) rfl rfl ?_
    refine pm_iloadn hG dX11_power_13 rfl ?_
    refine pm_callV (As := [.int zb]) (rest := []) hG hR dX11_power_14 (lkX11_174 _ rfl) okV_X7_isLivingOrNobody rfl rfl (g_X7_isLivingOrNobody (d := 2) (by decide) h1) rfl rfl hdd (Nat.le_refl _) (Nat.le_refl _) (by decide) (pm_ki (fun v4 σ' cnt' hq => ?_))
    obtain ⟨b4, I4, A4, rfl, rfl, h4⟩ := hq
    refine pm_if_eq (tgt := 30) hG dX11_power_17 rfl (fun c5 => ?_) (fun c5 => ?_)
    · refine pm_aloadn hG dX11_power_30 rfl ?_
      refine pm_ldc hG dX11_power_31 (ctX11_109 _ rfl) ?_
      refine pm_callV (As := [.int (-1000001)]) (rest := []) hG hR dX11_power_33 (lkX11_97 _ rfl) okV_X11_told rfl rfl (sx_told (d := 2) (by decide) rfl rfl) rfl rfl hdd (Nat.le_refl _) (Nat.le_refl _) (by decide) (pm_ki (fun v6 σ' cnt' hq => ?_))
      obtain ⟨-, ⟨g6, hg6⟩, hc6⟩ := hq
      obtain ⟨I6, A6, rfl, rfl, h6⟩ := hv_a53 (kp := kp) (I := I4) (A := A4) h4 ⟨hg6, hc6⟩
      exact pm_iret hG hF dX11_power_36 rfl (Nat.le_refl _) (Nat.le_refl _) ⟨_, rfl, _, _, rfl, rfl, h6⟩
    · refine pm_iloadn hG dX11_power_20 rfl ?_
      refine pm_iconst (v := 0) hG dX11_power_21 (by decide) ?_
      refine pm_bipush (v := 99) hG dX11_power_22 (by decide) ?_
      refine pm_callS (As := [.int zc, .int 0, .int 99]) (rest := []) hG hR dX11_power_24 (lkX11_105 _ rfl) okS_X11_isOutside (sx_isOutside (d := 2)) rfl rfl hdd (Nat.le_refl _) (Nat.le_refl _) (by decide) (pm_ki (fun v7 σ' cnt' hq => ?_))
      have b7 := pm_b10 hq.1
      obtain ⟨I7, A7, rfl, rfl, h7⟩ := hv_id (kp := kp) (I := I4) (A := A4) h4 hq.2
      refine pm_if_eq (tgt := 37) hG dX11_power_27 rfl (fun c8 => ?_) (fun c8 => ?_)
      · refine pm_aloadn hG dX11_power_37 rfl ?_
        refine pm_aloadn hG dX11_power_38 rfl ?_
        refine pm_getf hG dX11_power_39 (flX11_12 _ rfl) rfl rfl ?_
        refine pm_getf hG dX11_power_42 (flX11_161 _ rfl) rfl rfl ?_
        refine pm_callV (As := []) (rest := [.ref (B + 0)]) hG hR dX11_power_45 (lkX11_86 _ rfl) okV_X9_isFull rfl rfl (tb_isFull (d := 2) rfl) rfl rfl hdd (Nat.le_refl _) (Nat.le_refl _) (by first | decide | exact Nat.le_of_ble_eq_true rfl) (pm_ki (fun v9 σ' cnt' hq => ?_))
        have b9 := pm_b01 hq.1
        obtain ⟨I9, A9, rfl, rfl, h9⟩ := hv_id (kp := kp) (I := I7) (A := A7) h7 hq.2
        refine pm_if_eq (tgt := 56) hG dX11_power_48 rfl (fun c10 => ?_) (fun c10 => ?_)
        · refine pm_aloadn hG dX11_power_56 rfl ?_
          refine pm_getf hG dX11_power_57 (flX11_12 _ rfl) rfl rfl ?_
          refine pm_iloadn hG dX11_power_60 rfl ?_
          refine pm_iloadn hG dX11_power_61 rfl ?_
          refine pm_iloadn hG dX11_power_62 rfl ?_
          refine pm_callV (As := [.int za, .int zb, .int zc]) (rest := [.ref (B + 0)]) hG hR dX11_power_63 (lkX11_177 _ rfl) okV_X7_addPower rfl rfl (g_X7_addPower (d := 2) (by decide) h9) rfl rfl hdd (Nat.le_refl _) (Nat.le_refl _) (by first | decide | exact Nat.le_of_ble_eq_true rfl) (pm_ki (fun v11 σ' cnt' hq => ?_))
          obtain ⟨I11, A11, rfl, rfl, h11⟩ := hq
          refine pm_callV (As := [.int v11]) (rest := []) hG hR dX11_power_66 (lkX11_97 _ rfl) okV_X11_told rfl rfl (sx_told (d := 2) (by decide) rfl rfl) rfl rfl hdd (Nat.le_refl _) (Nat.le_refl _) (by decide) (pm_ki (fun v12 σ' cnt' hq => ?_))
          obtain ⟨-, ⟨g12, hg12⟩, hc12⟩ := hq
          obtain ⟨I12, A12, rfl, rfl, h12⟩ := hv_a53 (kp := kp) (I := I11) (A := A11) h11 ⟨hg12, hc12⟩
          exact pm_iret hG hF dX11_power_69 rfl (Nat.le_refl _) (Nat.le_refl _) ⟨_, rfl, _, _, rfl, rfl, h12⟩
        · refine pm_ldc hG dX11_power_51 (ctX11_92 _ rfl) ?_
          refine pm_goto (tgt := 66) hG dX11_power_53 rfl ?_
          refine pm_callV (As := [.int (-1000004)]) (rest := []) hG hR dX11_power_66 (lkX11_97 _ rfl) okV_X11_told rfl rfl (sx_told (d := 2) (by decide) rfl rfl) rfl rfl hdd (Nat.le_refl _) (Nat.le_refl _) (by decide) (pm_ki (fun v13 σ' cnt' hq => ?_))
          obtain ⟨-, ⟨g13, hg13⟩, hc13⟩ := hq
          obtain ⟨I13, A13, rfl, rfl, h13⟩ := hv_a53 (kp := kp) (I := I9) (A := A9) h9 ⟨hg13, hc13⟩
          exact pm_iret hG hF dX11_power_69 rfl (Nat.le_refl _) (Nat.le_refl _) ⟨_, rfl, _, _, rfl, rfl, h13⟩
      · refine pm_aloadn hG dX11_power_30 rfl ?_
        refine pm_ldc hG dX11_power_31 (ctX11_109 _ rfl) ?_
        refine pm_callV (As := [.int (-1000001)]) (rest := []) hG hR dX11_power_33 (lkX11_97 _ rfl) okV_X11_told rfl rfl (sx_told (d := 2) (by decide) rfl rfl) rfl rfl hdd (Nat.le_refl _) (Nat.le_refl _) (by decide) (pm_ki (fun v14 σ' cnt' hq => ?_))
        obtain ⟨-, ⟨g14, hg14⟩, hc14⟩ := hq
        obtain ⟨I14, A14, rfl, rfl, h14⟩ := hv_a53 (kp := kp) (I := I7) (A := A7) h7 ⟨hg14, hc14⟩
        exact pm_iret hG hF dX11_power_36 rfl (Nat.le_refl _) (Nat.le_refl _) ⟨_, rfl, _, _, rfl, rfl, h14⟩

set_option maxRecDepth 100000 in
set_option maxHeartbeats 4000000 in
theorem g_X11_price {d B cnt : Nat} {kp : Value} {ρ : pm_S} {I : Nat → Int32} {A : Nat → Nat → Int32} {za zb : Int32} (hdd : 2 ≤ d) (h : gs I) : pm_met mX11_price d 0 0 B [.ref (B + 0), .int za, .int zb] cnt (pm_two (cl_L B kp I A) ρ) (pm_Qi (fun _ σ' cnt' => hvc B kp ρ cnt σ' cnt')) := by
  refine pm_enter 0 (by decide) (Nat.le_of_ble_eq_true rfl) rfl (fun G hG hR hF => ?_)
  refine pm_aloadn hG dX11_price_0 rfl ?_
  refine pm_getf hG dX11_price_1 (flX11_12 _ rfl) rfl rfl ?_
  refine pm_getf hG dX11_price_4 (flX11_128 _ rfl) rfl rfl ?_
  refine pm_iloadn hG dX11_price_7 rfl ?_
  refine pm_callV (As := [.int za]) (rest := []) hG hR dX11_price_8 (lkX11_101 _ rfl) okV_X9_has rfl rfl (tb_has (d := 1) rfl) rfl rfl hdd (Nat.le_refl _) (Nat.le_refl _) (by decide) (pm_ki (fun v1 σ' cnt' hq => ?_))
  have b1 := pm_b01 hq.1
  obtain ⟨I1, A1, rfl, rfl, h1⟩ := hv_id (kp := kp) (I := I) (A := A) h hq.2
  refine pm_if_eq (tgt := 25) hG dX11_price_11 rfl (fun c2 => ?_) (fun c2 => ?_)
  · refine pm_aloadn hG dX11_price_25 rfl ?_
    refine pm_ldc hG dX11_price_26 (ctX11_109 _ rfl) ?_
    refine pm_callV (As := [.int (-1000001)]) (rest := []) hG hR dX11_price_28 (lkX11_97 _ rfl) okV_X11_told rfl rfl (sx_told (d := 1) (by decide) rfl rfl) rfl rfl hdd (Nat.le_refl _) (Nat.le_refl _) (by decide) (pm_ki (fun v3 σ' cnt' hq => ?_))
    obtain ⟨-, ⟨g3, hg3⟩, hc3⟩ := hq
    obtain ⟨I3, A3, rfl, rfl, h3⟩ := hv_a53 (kp := kp) (I := I1) (A := A1) h1 ⟨hg3, hc3⟩
    exact pm_iret hG hF dX11_price_31 rfl (Nat.le_refl _) (Nat.le_refl _) ⟨_, rfl, _, _, rfl, rfl, h3⟩
  · refine pm_iloadn hG dX11_price_14 rfl ?_
    refine pm_iconst (v := 1) hG dX11_price_15 (by decide) ?_
    refine pm_sipush (v := 999) hG dX11_price_16 (by decide) ?_
    refine pm_callS (As := [.int zb, .int 1, .int 999]) (rest := []) hG hR dX11_price_19 (lkX11_105 _ rfl) okS_X11_isOutside (sx_isOutside (d := 1)) rfl rfl hdd (Nat.le_refl _) (Nat.le_refl _) (by decide) (pm_ki (fun v4 σ' cnt' hq => ?_))
    have b4 := pm_b10 hq.1
    obtain ⟨I4, A4, rfl, rfl, h4⟩ := hv_id (kp := kp) (I := I1) (A := A1) h1 hq.2
    refine pm_if_eq (tgt := 32) hG dX11_price_22 rfl (fun c5 => ?_) (fun c5 => ?_)
    · refine pm_aloadn hG dX11_price_32 rfl ?_
      refine pm_getf hG dX11_price_33 (flX11_12 _ rfl) rfl rfl ?_
      refine pm_getf hG dX11_price_36 (flX11_128 _ rfl) rfl rfl ?_
      refine pm_iloadn hG dX11_price_39 rfl ?_
      refine pm_bipush (v := 12) hG dX11_price_40 (by decide) ?_
      refine pm_iloadn hG dX11_price_42 rfl ?_
      refine pm_callV (As := [.int za, .int 12, .int zb]) (rest := []) hG hR dX11_price_43 (lkX11_248 _ rfl) okV_X9_swap rfl rfl (tb_swap (d := 1) (by decide) rfl rfl (pm_tw_of 20 14 (by decide) (by decide) (by decide)) (by decide)) rfl rfl hdd (Nat.le_refl _) (Nat.le_refl _) (by decide) (pm_ki (fun v6 σ' cnt' hq => ?_))
      obtain ⟨I6, A6, rfl, rfl, h6⟩ := hv_a7 (kp := kp) (I := I4) (A := A4) h4 hq.2
      exact pm_iret hG hF dX11_price_46 rfl (Nat.le_refl _) (Nat.le_refl _) ⟨_, rfl, _, _, rfl, rfl, h6⟩
    · refine pm_aloadn hG dX11_price_25 rfl ?_
      refine pm_ldc hG dX11_price_26 (ctX11_109 _ rfl) ?_
      refine pm_callV (As := [.int (-1000001)]) (rest := []) hG hR dX11_price_28 (lkX11_97 _ rfl) okV_X11_told rfl rfl (sx_told (d := 1) (by decide) rfl rfl) rfl rfl hdd (Nat.le_refl _) (Nat.le_refl _) (by decide) (pm_ki (fun v7 σ' cnt' hq => ?_))
      obtain ⟨-, ⟨g7, hg7⟩, hc7⟩ := hq
      obtain ⟨I7, A7, rfl, rfl, h7⟩ := hv_a53 (kp := kp) (I := I4) (A := A4) h4 ⟨hg7, hc7⟩
      exact pm_iret hG hF dX11_price_31 rfl (Nat.le_refl _) (Nat.le_refl _) ⟨_, rfl, _, _, rfl, rfl, h7⟩

set_option maxRecDepth 100000 in
set_option maxHeartbeats 4000000 in
theorem g_X11_promise {d B cnt : Nat} {kp : Value} {ρ : pm_S} {I : Nat → Int32} {A : Nat → Nat → Int32} {za zb zc zd : Int32} (hdd : 3 ≤ d) (h : gs I) : pm_met mX11_promise d 0 0 B [.ref (B + 0), .int za, .int zb, .int zc, .int zd] cnt (pm_two (cl_L B kp I A) ρ) (pm_Qi (fun _ σ' cnt' => hvc B kp ρ cnt σ' cnt')) := by
  refine pm_enter 0 (by decide) (Nat.le_of_ble_eq_true rfl) rfl (fun G hG hR hF => ?_)
  refine pm_aloadn hG dX11_promise_0 rfl ?_
  refine pm_getf hG dX11_promise_1 (flX11_12 _ rfl) rfl rfl ?_
  refine pm_getf hG dX11_promise_4 (flX11_128 _ rfl) rfl rfl ?_
  refine pm_iloadn hG dX11_promise_7 rfl ?_
  refine pm_callV (As := [.int za]) (rest := []) hG hR dX11_promise_8 (lkX11_101 _ rfl) okV_X9_has rfl rfl (tb_has (d := 2) rfl) rfl rfl hdd (Nat.le_refl _) (Nat.le_refl _) (by decide) (pm_ki (fun v1 σ' cnt' hq => ?_))
  have b1 := pm_b01 hq.1
  obtain ⟨I1, A1, rfl, rfl, h1⟩ := hv_id (kp := kp) (I := I) (A := A) h hq.2
  refine pm_if_eq (tgt := 40) hG dX11_promise_11 rfl (fun c2 => ?_) (fun c2 => ?_)
  · refine pm_aloadn hG dX11_promise_40 rfl ?_
    refine pm_ldc hG dX11_promise_41 (ctX11_109 _ rfl) ?_
    refine pm_callV (As := [.int (-1000001)]) (rest := []) hG hR dX11_promise_43 (lkX11_97 _ rfl) okV_X11_told rfl rfl (sx_told (d := 2) (by decide) rfl rfl) rfl rfl hdd (Nat.le_refl _) (Nat.le_refl _) (by decide) (pm_ki (fun v3 σ' cnt' hq => ?_))
    obtain ⟨-, ⟨g3, hg3⟩, hc3⟩ := hq
    obtain ⟨I3, A3, rfl, rfl, h3⟩ := hv_a53 (kp := kp) (I := I1) (A := A1) h1 ⟨hg3, hc3⟩
    exact pm_iret hG hF dX11_promise_46 rfl (Nat.le_refl _) (Nat.le_refl _) ⟨_, rfl, _, _, rfl, rfl, h3⟩
  · refine pm_iloadn hG dX11_promise_14 rfl ?_
    refine pm_iconst (v := 0) hG dX11_promise_15 (by decide) ?_
    refine pm_iconst (v := 5) hG dX11_promise_16 (by decide) ?_
    refine pm_callS (As := [.int zb, .int 0, .int 5]) (rest := []) hG hR dX11_promise_17 (lkX11_105 _ rfl) okS_X11_isOutside (sx_isOutside (d := 2)) rfl rfl hdd (Nat.le_refl _) (Nat.le_refl _) (by decide) (pm_ki (fun v4 σ' cnt' hq => ?_))
    have b4 := pm_b10 hq.1
    obtain ⟨I4, A4, rfl, rfl, h4⟩ := hv_id (kp := kp) (I := I1) (A := A1) h1 hq.2
    refine pm_if_ne (tgt := 40) hG dX11_promise_20 rfl (fun c5 => ?_) (fun c5 => ?_)
    · refine pm_aloadn hG dX11_promise_40 rfl ?_
      refine pm_ldc hG dX11_promise_41 (ctX11_109 _ rfl) ?_
      refine pm_callV (As := [.int (-1000001)]) (rest := []) hG hR dX11_promise_43 (lkX11_97 _ rfl) okV_X11_told rfl rfl (sx_told (d := 2) (by decide) rfl rfl) rfl rfl hdd (Nat.le_refl _) (Nat.le_refl _) (by decide) (pm_ki (fun v6 σ' cnt' hq => ?_))
      obtain ⟨-, ⟨g6, hg6⟩, hc6⟩ := hq
      obtain ⟨I6, A6, rfl, rfl, h6⟩ := hv_a53 (kp := kp) (I := I4) (A := A4) h4 ⟨hg6, hc6⟩
      exact pm_iret hG hF dX11_promise_46 rfl (Nat.le_refl _) (Nat.le_refl _) ⟨_, rfl, _, _, rfl, rfl, h6⟩
    · refine pm_iloadn hG dX11_promise_23 rfl ?_
      refine pm_aloadn hG dX11_promise_24 rfl ?_
      refine pm_getf hG dX11_promise_25 (flX11_12 _ rfl) rfl rfl ?_
      refine pm_getf hG dX11_promise_28 (flX11_122 _ rfl) rfl rfl ?_
      refine pm_sipush (v := 2000) hG dX11_promise_31 (by decide) ?_
      refine pm_callS (As := [.int zc, .int (I4 102), .int 2000]) (rest := []) hG hR dX11_promise_34 (lkX11_105 _ rfl) okS_X11_isOutside (sx_isOutside (d := 2)) rfl rfl hdd (Nat.le_refl _) (Nat.le_refl _) (by decide) (pm_ki (fun v7 σ' cnt' hq => ?_))
      have b7 := pm_b10 hq.1
      obtain ⟨I7, A7, rfl, rfl, h7⟩ := hv_id (kp := kp) (I := I4) (A := A4) h4 hq.2
      refine pm_if_eq (tgt := 47) hG dX11_promise_37 rfl (fun c8 => ?_) (fun c8 => ?_)
      · refine pm_aloadn hG dX11_promise_47 rfl ?_
        refine pm_getf hG dX11_promise_48 (flX11_12 _ rfl) rfl rfl ?_
        refine pm_getf hG dX11_promise_51 (flX11_128 _ rfl) rfl rfl ?_
        refine pm_iloadn hG dX11_promise_54 rfl ?_
        refine pm_bipush (v := 13) hG dX11_promise_55 (by decide) ?_
        refine pm_callV (As := [.int za, .int 13]) (rest := []) hG hR dX11_promise_57 (lkX11_152 _ rfl) okV_X9_get rfl rfl (tb_get (d := 2) rfl rfl (pm_tw_of 20 14 (by decide) (by decide) (by decide))) rfl rfl hdd (Nat.le_refl _) (Nat.le_refl _) (by decide) (pm_ki (fun v9 σ' cnt' hq => ?_))
        obtain ⟨I9, A9, rfl, rfl, h9⟩ := hv_id (kp := kp) (I := I7) (A := A7) h7 hq.2
        refine pm_if_ne (tgt := 70) hG dX11_promise_60 rfl (fun c10 => ?_) (fun c10 => ?_)
        · refine pm_aloadn hG dX11_promise_70 rfl ?_
          refine pm_aloadn hG dX11_promise_71 rfl ?_
          refine pm_getf hG dX11_promise_72 (flX11_12 _ rfl) rfl rfl ?_
          refine pm_getf hG dX11_promise_75 (flX11_277 _ rfl) rfl rfl ?_
          refine pm_callV (As := []) (rest := [.ref (B + 0)]) hG hR dX11_promise_78 (lkX11_86 _ rfl) okV_X9_isFull rfl rfl (tb_isFull (d := 2) rfl) rfl rfl hdd (Nat.le_refl _) (Nat.le_refl _) (by first | decide | exact Nat.le_of_ble_eq_true rfl) (pm_ki (fun v11 σ' cnt' hq => ?_))
          have b11 := pm_b01 hq.1
          obtain ⟨I11, A11, rfl, rfl, h11⟩ := hv_id (kp := kp) (I := I9) (A := A9) h9 hq.2
          refine pm_if_eq (tgt := 89) hG dX11_promise_81 rfl (fun c12 => ?_) (fun c12 => ?_)
          · refine pm_aloadn hG dX11_promise_89 rfl ?_
            refine pm_getf hG dX11_promise_90 (flX11_30 _ rfl) rfl rfl ?_
            refine pm_iloadn hG dX11_promise_93 rfl ?_
            refine pm_iloadn hG dX11_promise_94 rfl ?_
            refine pm_iloadn hG dX11_promise_95 rfl ?_
            refine pm_iloadi hG dX11_promise_96 rfl ?_
            refine pm_callV (As := [.int za, .int zb, .int zc, .int zd]) (rest := [.ref (B + 0)]) hG hR dX11_promise_98 (lkX11_280 _ rfl) okV_X0_addPromise rfl rfl (g_X0_addPromise (d := 2) (by decide) h11) rfl rfl hdd (Nat.le_refl _) (Nat.le_refl _) (by first | decide | exact Nat.le_of_ble_eq_true rfl) (pm_ki (fun v13 σ' cnt' hq => ?_))
            obtain ⟨I13, A13, rfl, rfl, h13⟩ := hq
            refine pm_callV (As := [.int v13]) (rest := []) hG hR dX11_promise_101 (lkX11_97 _ rfl) okV_X11_told rfl rfl (sx_told (d := 2) (by decide) rfl rfl) rfl rfl hdd (Nat.le_refl _) (Nat.le_refl _) (by decide) (pm_ki (fun v14 σ' cnt' hq => ?_))
            obtain ⟨-, ⟨g14, hg14⟩, hc14⟩ := hq
            obtain ⟨I14, A14, rfl, rfl, h14⟩ := hv_a53 (kp := kp) (I := I13) (A := A13) h13 ⟨hg14, hc14⟩
            exact pm_iret hG hF dX11_promise_104 rfl (Nat.le_refl _) (Nat.le_refl _) ⟨_, rfl, _, _, rfl, rfl, h14⟩
          · refine pm_ldc hG dX11_promise_84 (ctX11_92 _ rfl) ?_
            refine pm_goto (tgt := 101) hG dX11_promise_86 rfl ?_
            refine pm_callV (As := [.int (-1000004)]) (rest := []) hG hR dX11_promise_101 (lkX11_97 _ rfl) okV_X11_told rfl rfl (sx_told (d := 2) (by decide) rfl rfl) rfl rfl hdd (Nat.le_refl _) (Nat.le_refl _) (by decide) (pm_ki (fun v15 σ' cnt' hq => ?_))
            obtain ⟨-, ⟨g15, hg15⟩, hc15⟩ := hq
            obtain ⟨I15, A15, rfl, rfl, h15⟩ := hv_a53 (kp := kp) (I := I11) (A := A11) h11 ⟨hg15, hc15⟩
            exact pm_iret hG hF dX11_promise_104 rfl (Nat.le_refl _) (Nat.le_refl _) ⟨_, rfl, _, _, rfl, rfl, h15⟩
        · refine pm_aloadn hG dX11_promise_63 rfl ?_
          refine pm_ldc hG dX11_promise_64 (ctX11_138 _ rfl) ?_
          refine pm_callV (As := [.int (-1000003)]) (rest := []) hG hR dX11_promise_66 (lkX11_97 _ rfl) okV_X11_told rfl rfl (sx_told (d := 2) (by decide) rfl rfl) rfl rfl hdd (Nat.le_refl _) (Nat.le_refl _) (by decide) (pm_ki (fun v16 σ' cnt' hq => ?_))
          obtain ⟨-, ⟨g16, hg16⟩, hc16⟩ := hq
          obtain ⟨I16, A16, rfl, rfl, h16⟩ := hv_a53 (kp := kp) (I := I9) (A := A9) h9 ⟨hg16, hc16⟩
          exact pm_iret hG hF dX11_promise_69 rfl (Nat.le_refl _) (Nat.le_refl _) ⟨_, rfl, _, _, rfl, rfl, h16⟩
      · refine pm_aloadn hG dX11_promise_40 rfl ?_
        refine pm_ldc hG dX11_promise_41 (ctX11_109 _ rfl) ?_
        refine pm_callV (As := [.int (-1000001)]) (rest := []) hG hR dX11_promise_43 (lkX11_97 _ rfl) okV_X11_told rfl rfl (sx_told (d := 2) (by decide) rfl rfl) rfl rfl hdd (Nat.le_refl _) (Nat.le_refl _) (by decide) (pm_ki (fun v17 σ' cnt' hq => ?_))
        obtain ⟨-, ⟨g17, hg17⟩, hc17⟩ := hq
        obtain ⟨I17, A17, rfl, rfl, h17⟩ := hv_a53 (kp := kp) (I := I7) (A := A7) h7 ⟨hg17, hc17⟩
        exact pm_iret hG hF dX11_promise_46 rfl (Nat.le_refl _) (Nat.le_refl _) ⟨_, rfl, _, _, rfl, rfl, h17⟩

set_option maxRecDepth 100000 in
set_option maxHeartbeats 4000000 in
theorem g_X8_setNumber {d B cnt : Nat} {kp : Value} {ρ : pm_S} {I : Nat → Int32} {A : Nat → Nat → Int32} {za zb zc : Int32} (hdd : 2 ≤ d) (h : gs I) : pm_met mX8_setNumber d 0 0 B [.ref (B + 48), .int za, .int zb, .int zc] cnt (pm_two (cl_L B kp I A) ρ) (pm_Qv (fun σ' cnt' => hvc B kp ρ cnt σ' cnt')) := by
  refine pm_enter 1 (by decide) (Nat.le_of_ble_eq_true rfl) rfl (fun G hG hR hF => ?_)
  refine pm_aloadn hG dX8_setNumber_0 rfl ?_
  refine pm_iloadn hG dX8_setNumber_1 rfl ?_
  refine pm_callV (As := [.int za]) (rest := []) hG hR dX8_setNumber_2 (lkX8_27 _ rfl) okV_X8_bitsOf rfl rfl (g_X8_bitsOf (d := 1) (by decide) h) rfl rfl hdd (Nat.le_refl _) (Nat.le_refl _) (by decide) (pm_ki (fun v1 σ' cnt' hq => ?_))
  obtain ⟨I1, A1, rfl, rfl, h1⟩ := hq
  refine pm_istoreXi (loc' := [some (.ref (B + 48)), some (.int za), some (.int zb), some (.int zc), some (.int v1)]) hG dX8_setNumber_5 (by decide) (pm_c1b rfl) rfl ?_
  refine pm_aloadn hG dX8_setNumber_7 rfl ?_
  refine pm_getf hG dX8_setNumber_8 (flX8_23 _ rfl) rfl rfl ?_
  refine pm_iloadn hG dX8_setNumber_11 rfl ?_
  refine pm_iloadn hG dX8_setNumber_12 rfl ?_
  refine pm_iloadi hG dX8_setNumber_13 rfl ?_
  refine pm_bipush (v := 8) hG dX8_setNumber_15 (by decide) ?_
  refine pm_icmp_ne (tgt := 25) hG dX8_setNumber_17 rfl (fun c2 => ?_) (fun c2 => ?_)
  · refine pm_iloadi hG dX8_setNumber_25 rfl ?_
    refine pm_bipush (v := 16) hG dX8_setNumber_27 (by decide) ?_
    refine pm_icmp_ne (tgt := 37) hG dX8_setNumber_29 rfl (fun c3 => ?_) (fun c3 => ?_)
    · refine pm_iloadn hG dX8_setNumber_37 rfl ?_
      refine pm_callV (As := [.int za, .int zb, .int zc]) (rest := []) hG hR dX8_setNumber_38 (lkX8_31 _ rfl) okV_X9_set rfl rfl (tb_set (d := 1) rfl rfl (pm_tw_of 4 24 (by decide) (by decide) (by decide)) (by decide)) rfl rfl hdd (Nat.le_refl _) (Nat.le_refl _) (by decide) (pm_kv (fun σ' cnt' hq => ?_))
      obtain ⟨I4, A4, rfl, rfl, h4⟩ := hv_a52 (kp := kp) (I := I1) (A := A1) h1 hq
      exact pm_vret hG hF dX8_setNumber_41 rfl (Nat.le_refl _) (Nat.le_refl _) ⟨rfl, _, _, rfl, rfl, h4⟩
    · refine pm_iloadn hG dX8_setNumber_32 rfl ?_
      refine pm_i2s hG dX8_setNumber_33 rfl ?_
      refine pm_goto (tgt := 38) hG dX8_setNumber_34 rfl ?_
      refine pm_callV (As := [.int za, .int zb, .int zc.toInt16.toInt32]) (rest := []) hG hR dX8_setNumber_38 (lkX8_31 _ rfl) okV_X9_set rfl rfl (tb_set (d := 1) rfl rfl (pm_tw_of 4 24 (by decide) (by decide) (by decide)) (by decide)) rfl rfl hdd (Nat.le_refl _) (Nat.le_refl _) (by decide) (pm_kv (fun σ' cnt' hq => ?_))
      obtain ⟨I5, A5, rfl, rfl, h5⟩ := hv_a52 (kp := kp) (I := I1) (A := A1) h1 hq
      exact pm_vret hG hF dX8_setNumber_41 rfl (Nat.le_refl _) (Nat.le_refl _) ⟨rfl, _, _, rfl, rfl, h5⟩
  · refine pm_iloadn hG dX8_setNumber_20 rfl ?_
    refine pm_i2b hG dX8_setNumber_21 rfl ?_
    refine pm_goto (tgt := 38) hG dX8_setNumber_22 rfl ?_
    refine pm_callV (As := [.int za, .int zb, .int zc.toInt8.toInt32]) (rest := []) hG hR dX8_setNumber_38 (lkX8_31 _ rfl) okV_X9_set rfl rfl (tb_set (d := 1) rfl rfl (pm_tw_of 4 24 (by decide) (by decide) (by decide)) (by decide)) rfl rfl hdd (Nat.le_refl _) (Nat.le_refl _) (by decide) (pm_kv (fun σ' cnt' hq => ?_))
    obtain ⟨I6, A6, rfl, rfl, h6⟩ := hv_a52 (kp := kp) (I := I1) (A := A1) h1 hq
    exact pm_vret hG hF dX8_setNumber_41 rfl (Nat.le_refl _) (Nat.le_refl _) ⟨rfl, _, _, rfl, rfl, h6⟩

set_option maxRecDepth 100000 in
set_option maxHeartbeats 4000000 in
theorem g_X11_put {d B cnt : Nat} {kp : Value} {ρ : pm_S} {I : Nat → Int32} {A : Nat → Nat → Int32} {za zb zc : Int32} (hdd : 3 ≤ d) (h : gs I) : pm_met mX11_put d 0 0 B [.ref (B + 0), .int za, .int zb, .int zc] cnt (pm_two (cl_L B kp I A) ρ) (pm_Qi (fun _ σ' cnt' => hvc B kp ρ cnt σ' cnt')) := by
  refine pm_enter 0 (by decide) (Nat.le_of_ble_eq_true rfl) rfl (fun G hG hR hF => ?_)
  refine pm_aloadn hG dX11_put_0 rfl ?_
  refine pm_getf hG dX11_put_1 (flX11_74 _ rfl) rfl rfl ?_
  refine pm_iloadn hG dX11_put_4 rfl ?_
  refine pm_callV (As := [.int za]) (rest := []) hG hR dX11_put_5 (lkX11_251 _ rfl) okV_X8_has rfl rfl (g_X8_has (d := 2) (by decide) h) rfl rfl hdd (Nat.le_refl _) (Nat.le_refl _) (by decide) (pm_ki (fun v1 σ' cnt' hq => ?_))
  obtain ⟨b1, I1, A1, rfl, rfl, h1⟩ := hq
  refine pm_if_ne (tgt := 18) hG dX11_put_8 rfl (fun c2 => ?_) (fun c2 => ?_)
  · refine pm_aloadn hG dX11_put_18 rfl ?_
    refine pm_getf hG dX11_put_19 (flX11_74 _ rfl) rfl rfl ?_
    refine pm_iloadn hG dX11_put_22 rfl ?_
    refine pm_callV (As := [.int za]) (rest := []) hG hR dX11_put_23 (lkX11_255 _ rfl) okV_X8_isMissing rfl rfl (g_X8_isMissing (d := 2) (by decide) h1) rfl rfl hdd (Nat.le_refl _) (Nat.le_refl _) (by decide) (pm_ki (fun v3 σ' cnt' hq => ?_))
    obtain ⟨b3, I3, A3, rfl, rfl, h3⟩ := hq
    refine pm_if_eq (tgt := 36) hG dX11_put_26 rfl (fun c4 => ?_) (fun c4 => ?_)
    · refine pm_iloadn hG dX11_put_36 rfl ?_
      refine pm_if_lt (tgt := 52) hG dX11_put_37 rfl (fun c5 => ?_) (fun c5 => ?_)
      · refine pm_aloadn hG dX11_put_52 rfl ?_
        refine pm_ldc hG dX11_put_53 (ctX11_109 _ rfl) ?_
        refine pm_callV (As := [.int (-1000001)]) (rest := []) hG hR dX11_put_55 (lkX11_97 _ rfl) okV_X11_told rfl rfl (sx_told (d := 2) (by decide) rfl rfl) rfl rfl hdd (Nat.le_refl _) (Nat.le_refl _) (by decide) (pm_ki (fun v6 σ' cnt' hq => ?_))
        obtain ⟨-, ⟨g6, hg6⟩, hc6⟩ := hq
        obtain ⟨I6, A6, rfl, rfl, h6⟩ := hv_a53 (kp := kp) (I := I3) (A := A3) h3 ⟨hg6, hc6⟩
        exact pm_iret hG hF dX11_put_58 rfl (Nat.le_refl _) (Nat.le_refl _) ⟨_, rfl, _, _, rfl, rfl, h6⟩
      · refine pm_iloadn hG dX11_put_40 rfl ?_
        refine pm_aloadn hG dX11_put_41 rfl ?_
        refine pm_getf hG dX11_put_42 (flX11_74 _ rfl) rfl rfl ?_
        refine pm_iloadn hG dX11_put_45 rfl ?_
        refine pm_callV (As := [.int za]) (rest := [.int zb]) hG hR dX11_put_46 (lkX11_261 _ rfl) okV_X8_sizeOf rfl rfl (g_X8_sizeOf (d := 2) (by decide) h3) rfl rfl hdd (Nat.le_refl _) (Nat.le_refl _) (by first | decide | exact Nat.le_of_ble_eq_true rfl) (pm_ki (fun v7 σ' cnt' hq => ?_))
        obtain ⟨I7, A7, rfl, rfl, h7⟩ := hq
        refine pm_icmp_lt (tgt := 59) hG dX11_put_49 rfl (fun c8 => ?_) (fun c8 => ?_)
        · refine pm_aloadn hG dX11_put_59 rfl ?_
          refine pm_getf hG dX11_put_60 (flX11_74 _ rfl) rfl rfl ?_
          refine pm_iloadn hG dX11_put_63 rfl ?_
          refine pm_iloadn hG dX11_put_64 rfl ?_
          refine pm_iloadn hG dX11_put_65 rfl ?_
          refine pm_callV (As := [.int za, .int zb, .int zc]) (rest := []) hG hR dX11_put_66 (lkX11_367 _ rfl) okV_X8_setNumber rfl rfl (g_X8_setNumber (d := 2) (by decide) h7) rfl rfl hdd (Nat.le_refl _) (Nat.le_refl _) (by decide) (pm_kv (fun σ' cnt' hq => ?_))
          obtain ⟨I9, A9, rfl, rfl, h9⟩ := hq
          refine pm_iconst (v := 1) hG dX11_put_69 (by decide) ?_
          exact pm_iret hG hF dX11_put_70 rfl (Nat.le_refl _) (Nat.le_refl _) ⟨_, rfl, _, _, rfl, rfl, h9⟩
        · refine pm_aloadn hG dX11_put_52 rfl ?_
          refine pm_ldc hG dX11_put_53 (ctX11_109 _ rfl) ?_
          refine pm_callV (As := [.int (-1000001)]) (rest := []) hG hR dX11_put_55 (lkX11_97 _ rfl) okV_X11_told rfl rfl (sx_told (d := 2) (by decide) rfl rfl) rfl rfl hdd (Nat.le_refl _) (Nat.le_refl _) (by decide) (pm_ki (fun v10 σ' cnt' hq => ?_))
          obtain ⟨-, ⟨g10, hg10⟩, hc10⟩ := hq
          obtain ⟨I10, A10, rfl, rfl, h10⟩ := hv_a53 (kp := kp) (I := I7) (A := A7) h7 ⟨hg10, hc10⟩
          exact pm_iret hG hF dX11_put_58 rfl (Nat.le_refl _) (Nat.le_refl _) ⟨_, rfl, _, _, rfl, rfl, h10⟩
    · refine pm_aloadn hG dX11_put_29 rfl ?_
      refine pm_ldc hG dX11_put_30 (ctX11_223 _ rfl) ?_
      refine pm_callV (As := [.int (-1000002)]) (rest := []) hG hR dX11_put_32 (lkX11_97 _ rfl) okV_X11_told rfl rfl (sx_told (d := 2) (by decide) rfl rfl) rfl rfl hdd (Nat.le_refl _) (Nat.le_refl _) (by decide) (pm_ki (fun v11 σ' cnt' hq => ?_))
      obtain ⟨-, ⟨g11, hg11⟩, hc11⟩ := hq
      obtain ⟨I11, A11, rfl, rfl, h11⟩ := hv_a53 (kp := kp) (I := I3) (A := A3) h3 ⟨hg11, hc11⟩
      exact pm_iret hG hF dX11_put_35 rfl (Nat.le_refl _) (Nat.le_refl _) ⟨_, rfl, _, _, rfl, rfl, h11⟩
  · refine pm_aloadn hG dX11_put_11 rfl ?_
    refine pm_ldc hG dX11_put_12 (ctX11_109 _ rfl) ?_
    refine pm_callV (As := [.int (-1000001)]) (rest := []) hG hR dX11_put_14 (lkX11_97 _ rfl) okV_X11_told rfl rfl (sx_told (d := 2) (by decide) rfl rfl) rfl rfl hdd (Nat.le_refl _) (Nat.le_refl _) (by decide) (pm_ki (fun v12 σ' cnt' hq => ?_))
    obtain ⟨-, ⟨g12, hg12⟩, hc12⟩ := hq
    obtain ⟨I12, A12, rfl, rfl, h12⟩ := hv_a53 (kp := kp) (I := I1) (A := A1) h1 ⟨hg12, hc12⟩
    exact pm_iret hG hF dX11_put_17 rfl (Nat.le_refl _) (Nat.le_refl _) ⟨_, rfl, _, _, rfl, rfl, h12⟩

set_option maxRecDepth 100000 in
set_option maxHeartbeats 4000000 in
theorem g_X11_rent {d B cnt : Nat} {kp : Value} {ρ : pm_S} {I : Nat → Int32} {A : Nat → Nat → Int32} {za zb : Int32} (hdd : 2 ≤ d) (h : gs I) : pm_met mX11_rent d 0 0 B [.ref (B + 0), .int za, .int zb] cnt (pm_two (cl_L B kp I A) ρ) (pm_Qi (fun _ σ' cnt' => hvc B kp ρ cnt σ' cnt')) := by
  refine pm_enter 0 (by decide) (Nat.le_of_ble_eq_true rfl) rfl (fun G hG hR hF => ?_)
  refine pm_aloadn hG dX11_rent_0 rfl ?_
  refine pm_getf hG dX11_rent_1 (flX11_12 _ rfl) rfl rfl ?_
  refine pm_getf hG dX11_rent_4 (flX11_82 _ rfl) rfl rfl ?_
  refine pm_iloadn hG dX11_rent_7 rfl ?_
  refine pm_callV (As := [.int za]) (rest := []) hG hR dX11_rent_8 (lkX11_101 _ rfl) okV_X9_has rfl rfl (tb_has (d := 1) rfl) rfl rfl hdd (Nat.le_refl _) (Nat.le_refl _) (by decide) (pm_ki (fun v1 σ' cnt' hq => ?_))
  have b1 := pm_b01 hq.1
  obtain ⟨I1, A1, rfl, rfl, h1⟩ := hv_id (kp := kp) (I := I) (A := A) h hq.2
  refine pm_if_eq (tgt := 25) hG dX11_rent_11 rfl (fun c2 => ?_) (fun c2 => ?_)
  · refine pm_aloadn hG dX11_rent_25 rfl ?_
    refine pm_ldc hG dX11_rent_26 (ctX11_109 _ rfl) ?_
    refine pm_callV (As := [.int (-1000001)]) (rest := []) hG hR dX11_rent_28 (lkX11_97 _ rfl) okV_X11_told rfl rfl (sx_told (d := 1) (by decide) rfl rfl) rfl rfl hdd (Nat.le_refl _) (Nat.le_refl _) (by decide) (pm_ki (fun v3 σ' cnt' hq => ?_))
    obtain ⟨-, ⟨g3, hg3⟩, hc3⟩ := hq
    obtain ⟨I3, A3, rfl, rfl, h3⟩ := hv_a53 (kp := kp) (I := I1) (A := A1) h1 ⟨hg3, hc3⟩
    exact pm_iret hG hF dX11_rent_31 rfl (Nat.le_refl _) (Nat.le_refl _) ⟨_, rfl, _, _, rfl, rfl, h3⟩
  · refine pm_iloadn hG dX11_rent_14 rfl ?_
    refine pm_iconst (v := 0) hG dX11_rent_15 (by decide) ?_
    refine pm_sipush (v := 999) hG dX11_rent_16 (by decide) ?_
    refine pm_callS (As := [.int zb, .int 0, .int 999]) (rest := []) hG hR dX11_rent_19 (lkX11_105 _ rfl) okS_X11_isOutside (sx_isOutside (d := 1)) rfl rfl hdd (Nat.le_refl _) (Nat.le_refl _) (by decide) (pm_ki (fun v4 σ' cnt' hq => ?_))
    have b4 := pm_b10 hq.1
    obtain ⟨I4, A4, rfl, rfl, h4⟩ := hv_id (kp := kp) (I := I1) (A := A1) h1 hq.2
    refine pm_if_eq (tgt := 32) hG dX11_rent_22 rfl (fun c5 => ?_) (fun c5 => ?_)
    · refine pm_aloadn hG dX11_rent_32 rfl ?_
      refine pm_getf hG dX11_rent_33 (flX11_12 _ rfl) rfl rfl ?_
      refine pm_getf hG dX11_rent_36 (flX11_82 _ rfl) rfl rfl ?_
      refine pm_iloadn hG dX11_rent_39 rfl ?_
      refine pm_iconst (v := 0) hG dX11_rent_40 (by decide) ?_
      refine pm_iloadn hG dX11_rent_41 rfl ?_
      refine pm_callV (As := [.int za, .int 0, .int zb]) (rest := []) hG hR dX11_rent_42 (lkX11_248 _ rfl) okV_X9_swap rfl rfl (tb_swap (d := 1) (by decide) rfl rfl (pm_tw_of 10 3 (by decide) (by decide) (by decide)) (by decide)) rfl rfl hdd (Nat.le_refl _) (Nat.le_refl _) (by decide) (pm_ki (fun v6 σ' cnt' hq => ?_))
      obtain ⟨I6, A6, rfl, rfl, h6⟩ := hv_a3 (kp := kp) (I := I4) (A := A4) h4 hq.2
      exact pm_iret hG hF dX11_rent_45 rfl (Nat.le_refl _) (Nat.le_refl _) ⟨_, rfl, _, _, rfl, rfl, h6⟩
    · refine pm_aloadn hG dX11_rent_25 rfl ?_
      refine pm_ldc hG dX11_rent_26 (ctX11_109 _ rfl) ?_
      refine pm_callV (As := [.int (-1000001)]) (rest := []) hG hR dX11_rent_28 (lkX11_97 _ rfl) okV_X11_told rfl rfl (sx_told (d := 1) (by decide) rfl rfl) rfl rfl hdd (Nat.le_refl _) (Nat.le_refl _) (by decide) (pm_ki (fun v7 σ' cnt' hq => ?_))
      obtain ⟨-, ⟨g7, hg7⟩, hc7⟩ := hq
      obtain ⟨I7, A7, rfl, rfl, h7⟩ := hv_a53 (kp := kp) (I := I4) (A := A4) h4 ⟨hg7, hc7⟩
      exact pm_iret hG hF dX11_rent_31 rfl (Nat.le_refl _) (Nat.le_refl _) ⟨_, rfl, _, _, rfl, rfl, h7⟩

set_option maxRecDepth 100000 in
set_option maxHeartbeats 4000000 in
theorem g_X8_isWidth {d B cnt : Nat} {kp : Value} {ρ : pm_S} {I : Nat → Int32} {A : Nat → Nat → Int32} {za : Int32} (hdd : 1 ≤ d) (h : gs I) : pm_met mX8_isWidth d 0 0 B [.ref (B + 48), .int za] cnt (pm_two (cl_L B kp I A) ρ) (pm_Qi (fun v σ' cnt' => (v = 0 ∨ v = 1) ∧ hvc B kp ρ cnt σ' cnt')) := by
  refine pm_enter 0 (by decide) (Nat.le_of_ble_eq_true rfl) rfl (fun G hG hR hF => ?_)
  refine pm_iloadn hG dX8_isWidth_0 rfl ?_
  refine pm_bipush (v := 8) hG dX8_isWidth_1 (by decide) ?_
  refine pm_icmp_eq (tgt := 18) hG dX8_isWidth_3 rfl (fun c1 => ?_) (fun c1 => ?_)
  · refine pm_iconst (v := 1) hG dX8_isWidth_18 (by decide) ?_
    refine pm_goto (tgt := 23) hG dX8_isWidth_19 rfl ?_
    exact pm_zret hG hF dX8_isWidth_23 rfl (pm_nz (Or.inr rfl)) (Nat.le_refl _) (Nat.le_refl _) ⟨_, rfl, (Or.inr rfl), _, _, rfl, rfl, h⟩
  · refine pm_iloadn hG dX8_isWidth_6 rfl ?_
    refine pm_bipush (v := 16) hG dX8_isWidth_7 (by decide) ?_
    refine pm_icmp_eq (tgt := 18) hG dX8_isWidth_9 rfl (fun c2 => ?_) (fun c2 => ?_)
    · refine pm_iconst (v := 1) hG dX8_isWidth_18 (by decide) ?_
      refine pm_goto (tgt := 23) hG dX8_isWidth_19 rfl ?_
      exact pm_zret hG hF dX8_isWidth_23 rfl (pm_nz (Or.inr rfl)) (Nat.le_refl _) (Nat.le_refl _) ⟨_, rfl, (Or.inr rfl), _, _, rfl, rfl, h⟩
    · refine pm_iloadn hG dX8_isWidth_12 rfl ?_
      refine pm_bipush (v := 32) hG dX8_isWidth_13 (by decide) ?_
      refine pm_icmp_ne (tgt := 22) hG dX8_isWidth_15 rfl (fun c3 => ?_) (fun c3 => ?_)
      · refine pm_iconst (v := 0) hG dX8_isWidth_22 (by decide) ?_
        exact pm_zret hG hF dX8_isWidth_23 rfl (pm_nz (Or.inl rfl)) (Nat.le_refl _) (Nat.le_refl _) ⟨_, rfl, (Or.inl rfl), _, _, rfl, rfl, h⟩
      · refine pm_iconst (v := 1) hG dX8_isWidth_18 (by decide) ?_
        refine pm_goto (tgt := 23) hG dX8_isWidth_19 rfl ?_
        exact pm_zret hG hF dX8_isWidth_23 rfl (pm_nz (Or.inr rfl)) (Nat.le_refl _) (Nat.le_refl _) ⟨_, rfl, (Or.inr rfl), _, _, rfl, rfl, h⟩

set_option maxRecDepth 100000 in
set_option maxHeartbeats 4000000 in
theorem g_X11_takeRents {d B cnt : Nat} {kp : Value} {ρ : pm_S} {I : Nat → Int32} {A : Nat → Nat → Int32} {za zb : Int32} (hdd : 2 ≤ d) (h : gs I) : pm_met mX11_takeRents d 0 0 B [.ref (B + 0), .int za, .int zb] cnt (pm_two (cl_L B kp I A) ρ) (pm_Qi (fun _ σ' cnt' => hvc B kp ρ cnt σ' cnt')) := by
  refine pm_enter 3 (by decide) (Nat.le_of_ble_eq_true rfl) rfl (fun G hG hR hF => ?_)
  refine pm_iconst (v := 0) hG dX11_takeRents_0 (by decide) ?_
  refine pm_istoreXn (loc' := [some (.ref (B + 0)), some (.int za), some (.int zb), some (.int 0), none, none]) hG dX11_takeRents_1 (by decide) (pm_c1b rfl) rfl ?_
  refine pm_iconst (v := 0) hG dX11_takeRents_2 (by decide) ?_
  refine pm_istoreXi (loc' := [some (.ref (B + 0)), some (.int za), some (.int zb), some (.int 0), some (.int 0), none]) hG dX11_takeRents_3 (by decide) (pm_c1b rfl) rfl ?_
  have loop5 : ∀ (m5 : Nat) (I1 : Nat → Int32) (A1 : Nat → Nat → Int32) (x1_3 x1_4 : Int32), gs I1 → ((zb : Int32).toInt - x1_4.toInt).toNat < m5 → pm_wp mX11_takeRents G B 5 [some (.ref (B + 0)), some (.int za), some (.int zb), some (.int x1_3), some (.int x1_4), none] [] 0 0 cnt (pm_two (cl_L B kp I1 A1) ρ) := by
    intro m5
    induction m5 with
    | zero => intro I1 A1 x1_3 x1_4 _  hm; exact absurd hm (Nat.not_lt_zero _)
    | succ m5 ih5 =>
      intro I1 A1 x1_3 x1_4 h1  hm5
      refine pm_iloadi hG dX11_takeRents_5 rfl ?_
      refine pm_iloadn hG dX11_takeRents_7 rfl ?_
      refine pm_icmp_ge (tgt := 52) hG dX11_takeRents_8 rfl (fun c2 => ?_) (fun c2 => ?_)
      · refine pm_iloadn hG dX11_takeRents_52 rfl ?_
        exact pm_iret hG hF dX11_takeRents_53 rfl (Nat.le_refl _) (Nat.le_refl _) ⟨_, rfl, _, _, rfl, rfl, h1⟩
      · refine pm_aloadn hG dX11_takeRents_11 rfl ?_
        refine pm_getf hG dX11_takeRents_12 (flX11_74 _ rfl) rfl rfl ?_
        refine pm_iloadn hG dX11_takeRents_15 rfl ?_
        refine pm_iloadi hG dX11_takeRents_16 rfl ?_
        refine pm_callV (As := [.int za, .int x1_4]) (rest := []) hG hR dX11_takeRents_18 (lkX11_338 _ rfl) okV_X8_numberAt rfl rfl (g_X8_numberAt (d := 1) (by decide) h1) rfl rfl hdd (Nat.le_refl _) (Nat.le_refl _) (by decide) (pm_ki (fun v3 σ' cnt' hq => ?_))
        obtain ⟨I3, A3, rfl, rfl, h3⟩ := hq
        refine pm_istoreXi (loc' := [some (.ref (B + 0)), some (.int za), some (.int zb), some (.int x1_3), some (.int x1_4), some (.int v3)]) hG dX11_takeRents_21 (by decide) (pm_c1b rfl) rfl ?_
        refine pm_iloadi hG dX11_takeRents_23 rfl ?_
        refine pm_if_lt (tgt := 46) hG dX11_takeRents_25 rfl (fun c4 => ?_) (fun c4 => ?_)
        · refine pm_iincX (v := x1_4 + 1) (loc' := [some (.ref (B + 0)), some (.int za), some (.int zb), some (.int x1_3), some (.int (x1_4 + 1)), some (.int v3)]) hG dX11_takeRents_46 rfl (by rfl) (by decide) (pm_c1b rfl) rfl ?_
          refine pm_goto (tgt := 5) hG dX11_takeRents_49 rfl ?_
          refine pm_fg 5 (loc' := [some (.ref (B + 0)), some (.int za), some (.int zb), some (.int x1_3), some (.int (x1_4 + 1)), none]) rfl ?_
          exact ih5 _ _ x1_3 (x1_4 + 1) h3 (Nat.lt_of_lt_of_le (pm_mu1 c2) (Nat.le_of_lt_succ hm5))
        · refine pm_aloadn hG dX11_takeRents_28 rfl ?_
          refine pm_getf hG dX11_takeRents_29 (flX11_12 _ rfl) rfl rfl ?_
          refine pm_getf hG dX11_takeRents_32 (flX11_82 _ rfl) rfl rfl ?_
          refine pm_iloadi hG dX11_takeRents_35 rfl ?_
          refine pm_iconst (v := 0) hG dX11_takeRents_37 (by decide) ?_
          refine pm_iloadi hG dX11_takeRents_38 rfl ?_
          refine pm_callV (As := [.int x1_4, .int 0, .int v3]) (rest := []) hG hR dX11_takeRents_40 (lkX11_170 _ rfl) okV_X9_set rfl rfl (tb_set (d := 1) rfl rfl (pm_tw_of 10 3 (by decide) (by decide) (by decide)) (by decide)) rfl rfl hdd (Nat.le_refl _) (Nat.le_refl _) (by decide) (pm_kv (fun σ' cnt' hq => ?_))
          obtain ⟨I5, A5, rfl, rfl, h5⟩ := hv_a3 (kp := kp) (I := I3) (A := A3) h3 hq
          refine pm_iincX (v := x1_3 + 1) (loc' := [some (.ref (B + 0)), some (.int za), some (.int zb), some (.int (x1_3 + 1)), some (.int x1_4), some (.int v3)]) hG dX11_takeRents_43 rfl (by rfl) (by decide) (pm_c1b rfl) rfl ?_
          refine pm_iincX (v := x1_4 + 1) (loc' := [some (.ref (B + 0)), some (.int za), some (.int zb), some (.int (x1_3 + 1)), some (.int (x1_4 + 1)), some (.int v3)]) hG dX11_takeRents_46 rfl (by rfl) (by decide) (pm_c1b rfl) rfl ?_
          refine pm_goto (tgt := 5) hG dX11_takeRents_49 rfl ?_
          refine pm_fg 5 (loc' := [some (.ref (B + 0)), some (.int za), some (.int zb), some (.int (x1_3 + 1)), some (.int (x1_4 + 1)), none]) rfl ?_
          exact ih5 _ _ (x1_3 + 1) (x1_4 + 1) h5 (Nat.lt_of_lt_of_le (pm_mu1 c2) (Nat.le_of_lt_succ hm5))
  exact loop5 _ _ _ 0 0 h (Nat.lt_succ_self _)

set_option maxRecDepth 100000 in
set_option maxHeartbeats 4000000 in
theorem g_X11_rents {d B cnt : Nat} {kp : Value} {ρ : pm_S} {I : Nat → Int32} {A : Nat → Nat → Int32} {za zb : Int32} (hdd : 3 ≤ d) (h : gs I) : pm_met mX11_rents d 0 0 B [.ref (B + 0), .int za, .int zb] cnt (pm_two (cl_L B kp I A) ρ) (pm_Qi (fun _ σ' cnt' => hvc B kp ρ cnt σ' cnt')) := by
  refine pm_enter 1 (by decide) (Nat.le_of_ble_eq_true rfl) rfl (fun G hG hR hF => ?_)
  refine pm_aloadn hG dX11_rents_0 rfl ?_
  refine pm_getf hG dX11_rents_1 (flX11_74 _ rfl) rfl rfl ?_
  refine pm_iloadn hG dX11_rents_4 rfl ?_
  refine pm_callV (As := [.int za]) (rest := []) hG hR dX11_rents_5 (lkX11_251 _ rfl) okV_X8_has rfl rfl (g_X8_has (d := 2) (by decide) h) rfl rfl hdd (Nat.le_refl _) (Nat.le_refl _) (by decide) (pm_ki (fun v1 σ' cnt' hq => ?_))
  obtain ⟨b1, I1, A1, rfl, rfl, h1⟩ := hq
  refine pm_if_eq (tgt := 22) hG dX11_rents_8 rfl (fun c2 => ?_) (fun c2 => ?_)
  · refine pm_aloadn hG dX11_rents_22 rfl ?_
    refine pm_ldc hG dX11_rents_23 (ctX11_109 _ rfl) ?_
    refine pm_callV (As := [.int (-1000001)]) (rest := []) hG hR dX11_rents_25 (lkX11_97 _ rfl) okV_X11_told rfl rfl (sx_told (d := 2) (by decide) rfl rfl) rfl rfl hdd (Nat.le_refl _) (Nat.le_refl _) (by decide) (pm_ki (fun v3 σ' cnt' hq => ?_))
    obtain ⟨-, ⟨g3, hg3⟩, hc3⟩ := hq
    obtain ⟨I3, A3, rfl, rfl, h3⟩ := hv_a53 (kp := kp) (I := I1) (A := A1) h1 ⟨hg3, hc3⟩
    exact pm_iret hG hF dX11_rents_28 rfl (Nat.le_refl _) (Nat.le_refl _) ⟨_, rfl, _, _, rfl, rfl, h3⟩
  · refine pm_aloadn hG dX11_rents_11 rfl ?_
    refine pm_getf hG dX11_rents_12 (flX11_74 _ rfl) rfl rfl ?_
    refine pm_iloadn hG dX11_rents_15 rfl ?_
    refine pm_callV (As := [.int zb]) (rest := []) hG hR dX11_rents_16 (lkX11_252 _ rfl) okV_X8_isWidth rfl rfl (g_X8_isWidth (d := 2) (by decide) h1) rfl rfl hdd (Nat.le_refl _) (Nat.le_refl _) (by decide) (pm_ki (fun v4 σ' cnt' hq => ?_))
    obtain ⟨b4, I4, A4, rfl, rfl, h4⟩ := hq
    refine pm_if_ne (tgt := 29) hG dX11_rents_19 rfl (fun c5 => ?_) (fun c5 => ?_)
    · refine pm_aloadn hG dX11_rents_29 rfl ?_
      refine pm_getf hG dX11_rents_30 (flX11_74 _ rfl) rfl rfl ?_
      refine pm_iloadn hG dX11_rents_33 rfl ?_
      refine pm_callV (As := [.int za]) (rest := []) hG hR dX11_rents_34 (lkX11_255 _ rfl) okV_X8_isMissing rfl rfl (g_X8_isMissing (d := 2) (by decide) h4) rfl rfl hdd (Nat.le_refl _) (Nat.le_refl _) (by decide) (pm_ki (fun v6 σ' cnt' hq => ?_))
      obtain ⟨b6, I6, A6, rfl, rfl, h6⟩ := hq
      refine pm_if_eq (tgt := 47) hG dX11_rents_37 rfl (fun c7 => ?_) (fun c7 => ?_)
      · refine pm_aloadn hG dX11_rents_47 rfl ?_
        refine pm_getf hG dX11_rents_48 (flX11_74 _ rfl) rfl rfl ?_
        refine pm_iloadn hG dX11_rents_51 rfl ?_
        refine pm_callV (As := [.int za]) (rest := []) hG hR dX11_rents_52 (lkX11_258 _ rfl) okV_X8_bitsOf rfl rfl (g_X8_bitsOf (d := 2) (by decide) h6) rfl rfl hdd (Nat.le_refl _) (Nat.le_refl _) (by decide) (pm_ki (fun v8 σ' cnt' hq => ?_))
        obtain ⟨I8, A8, rfl, rfl, h8⟩ := hq
        refine pm_iloadn hG dX11_rents_55 rfl ?_
        refine pm_icmp_eq (tgt := 66) hG dX11_rents_56 rfl (fun c9 => ?_) (fun c9 => ?_)
        · refine pm_aloadn hG dX11_rents_66 rfl ?_
          refine pm_getf hG dX11_rents_67 (flX11_74 _ rfl) rfl rfl ?_
          refine pm_iloadn hG dX11_rents_70 rfl ?_
          refine pm_callV (As := [.int za]) (rest := []) hG hR dX11_rents_71 (lkX11_261 _ rfl) okV_X8_sizeOf rfl rfl (g_X8_sizeOf (d := 2) (by decide) h8) rfl rfl hdd (Nat.le_refl _) (Nat.le_refl _) (by decide) (pm_ki (fun v10 σ' cnt' hq => ?_))
          obtain ⟨I10, A10, rfl, rfl, h10⟩ := hq
          refine pm_istoreXn (loc' := [some (.ref (B + 0)), some (.int za), some (.int zb), some (.int v10)]) hG dX11_rents_74 (by decide) (pm_c1b rfl) rfl ?_
          refine pm_iloadn hG dX11_rents_75 rfl ?_
          refine pm_aloadn hG dX11_rents_76 rfl ?_
          refine pm_getf hG dX11_rents_77 (flX11_12 _ rfl) rfl rfl ?_
          refine pm_getf hG dX11_rents_80 (flX11_82 _ rfl) rfl rfl ?_
          refine pm_callV (As := []) (rest := [.int v10]) hG hR dX11_rents_83 (lkX11_203 _ rfl) okV_X9_used rfl rfl (tb_used (d := 2) rfl) rfl rfl hdd (Nat.le_refl _) (Nat.le_refl _) (by first | decide | exact Nat.le_of_ble_eq_true rfl) (pm_ki (fun v11 σ' cnt' hq => ?_))
          obtain ⟨I11, A11, rfl, rfl, h11⟩ := hv_id (kp := kp) (I := I10) (A := A10) h10 hq.2
          refine pm_icmp_le (tgt := 96) hG dX11_rents_86 rfl (fun c12 => ?_) (fun c12 => ?_)
          · refine pm_aloadn hG dX11_rents_96 rfl ?_
            refine pm_aloadn hG dX11_rents_97 rfl ?_
            refine pm_getf hG dX11_rents_98 (flX11_74 _ rfl) rfl rfl ?_
            refine pm_iloadn hG dX11_rents_101 rfl ?_
            refine pm_iconst (v := (-1)) hG dX11_rents_102 (by decide) ?_
            refine pm_sipush (v := 999) hG dX11_rents_103 (by decide) ?_
            refine pm_callV (As := [.int za, .int (-1), .int 999]) (rest := [.ref (B + 0)]) hG hR dX11_rents_106 (lkX11_264 _ rfl) okV_X8_areAllWithin rfl rfl (g_X8_areAllWithin (d := 2) (by decide) h11) rfl rfl hdd (Nat.le_refl _) (Nat.le_refl _) (by first | decide | exact Nat.le_of_ble_eq_true rfl) (pm_ki (fun v13 σ' cnt' hq => ?_))
            obtain ⟨b13, I13, A13, rfl, rfl, h13⟩ := hq
            refine pm_if_eq (tgt := 121) hG dX11_rents_109 rfl (fun c14 => ?_) (fun c14 => ?_)
            · refine pm_ldc hG dX11_rents_121 (ctX11_109 _ rfl) ?_
              refine pm_callV (As := [.int (-1000001)]) (rest := []) hG hR dX11_rents_123 (lkX11_97 _ rfl) okV_X11_told rfl rfl (sx_told (d := 2) (by decide) rfl rfl) rfl rfl hdd (Nat.le_refl _) (Nat.le_refl _) (by decide) (pm_ki (fun v15 σ' cnt' hq => ?_))
              obtain ⟨-, ⟨g15, hg15⟩, hc15⟩ := hq
              obtain ⟨I15, A15, rfl, rfl, h15⟩ := hv_a53 (kp := kp) (I := I13) (A := A13) h13 ⟨hg15, hc15⟩
              exact pm_iret hG hF dX11_rents_126 rfl (Nat.le_refl _) (Nat.le_refl _) ⟨_, rfl, _, _, rfl, rfl, h15⟩
            · refine pm_aloadn hG dX11_rents_112 rfl ?_
              refine pm_iloadn hG dX11_rents_113 rfl ?_
              refine pm_iloadn hG dX11_rents_114 rfl ?_
              refine pm_callV (As := [.int za, .int v10]) (rest := [.ref (B + 0)]) hG hR dX11_rents_115 (lkX11_267 _ rfl) okV_X11_takeRents rfl rfl (g_X11_takeRents (d := 2) (by decide) h13) rfl rfl hdd (Nat.le_refl _) (Nat.le_refl _) (by first | decide | exact Nat.le_of_ble_eq_true rfl) (pm_ki (fun v16 σ' cnt' hq => ?_))
              obtain ⟨I16, A16, rfl, rfl, h16⟩ := hq
              refine pm_goto (tgt := 123) hG dX11_rents_118 rfl ?_
              refine pm_callV (As := [.int v16]) (rest := []) hG hR dX11_rents_123 (lkX11_97 _ rfl) okV_X11_told rfl rfl (sx_told (d := 2) (by decide) rfl rfl) rfl rfl hdd (Nat.le_refl _) (Nat.le_refl _) (by decide) (pm_ki (fun v17 σ' cnt' hq => ?_))
              obtain ⟨-, ⟨g17, hg17⟩, hc17⟩ := hq
              obtain ⟨I17, A17, rfl, rfl, h17⟩ := hv_a53 (kp := kp) (I := I16) (A := A16) h16 ⟨hg17, hc17⟩
              exact pm_iret hG hF dX11_rents_126 rfl (Nat.le_refl _) (Nat.le_refl _) ⟨_, rfl, _, _, rfl, rfl, h17⟩
          · refine pm_aloadn hG dX11_rents_89 rfl ?_
            refine pm_ldc hG dX11_rents_90 (ctX11_138 _ rfl) ?_
            refine pm_callV (As := [.int (-1000003)]) (rest := []) hG hR dX11_rents_92 (lkX11_97 _ rfl) okV_X11_told rfl rfl (sx_told (d := 2) (by decide) rfl rfl) rfl rfl hdd (Nat.le_refl _) (Nat.le_refl _) (by decide) (pm_ki (fun v18 σ' cnt' hq => ?_))
            obtain ⟨-, ⟨g18, hg18⟩, hc18⟩ := hq
            obtain ⟨I18, A18, rfl, rfl, h18⟩ := hv_a53 (kp := kp) (I := I11) (A := A11) h11 ⟨hg18, hc18⟩
            exact pm_iret hG hF dX11_rents_95 rfl (Nat.le_refl _) (Nat.le_refl _) ⟨_, rfl, _, _, rfl, rfl, h18⟩
        · refine pm_aloadn hG dX11_rents_59 rfl ?_
          refine pm_ldc hG dX11_rents_60 (ctX11_184 _ rfl) ?_
          refine pm_callV (As := [.int (-1000005)]) (rest := []) hG hR dX11_rents_62 (lkX11_97 _ rfl) okV_X11_told rfl rfl (sx_told (d := 2) (by decide) rfl rfl) rfl rfl hdd (Nat.le_refl _) (Nat.le_refl _) (by decide) (pm_ki (fun v19 σ' cnt' hq => ?_))
          obtain ⟨-, ⟨g19, hg19⟩, hc19⟩ := hq
          obtain ⟨I19, A19, rfl, rfl, h19⟩ := hv_a53 (kp := kp) (I := I8) (A := A8) h8 ⟨hg19, hc19⟩
          exact pm_iret hG hF dX11_rents_65 rfl (Nat.le_refl _) (Nat.le_refl _) ⟨_, rfl, _, _, rfl, rfl, h19⟩
      · refine pm_aloadn hG dX11_rents_40 rfl ?_
        refine pm_ldc hG dX11_rents_41 (ctX11_223 _ rfl) ?_
        refine pm_callV (As := [.int (-1000002)]) (rest := []) hG hR dX11_rents_43 (lkX11_97 _ rfl) okV_X11_told rfl rfl (sx_told (d := 2) (by decide) rfl rfl) rfl rfl hdd (Nat.le_refl _) (Nat.le_refl _) (by decide) (pm_ki (fun v20 σ' cnt' hq => ?_))
        obtain ⟨-, ⟨g20, hg20⟩, hc20⟩ := hq
        obtain ⟨I20, A20, rfl, rfl, h20⟩ := hv_a53 (kp := kp) (I := I6) (A := A6) h6 ⟨hg20, hc20⟩
        exact pm_iret hG hF dX11_rents_46 rfl (Nat.le_refl _) (Nat.le_refl _) ⟨_, rfl, _, _, rfl, rfl, h20⟩
    · refine pm_aloadn hG dX11_rents_22 rfl ?_
      refine pm_ldc hG dX11_rents_23 (ctX11_109 _ rfl) ?_
      refine pm_callV (As := [.int (-1000001)]) (rest := []) hG hR dX11_rents_25 (lkX11_97 _ rfl) okV_X11_told rfl rfl (sx_told (d := 2) (by decide) rfl rfl) rfl rfl hdd (Nat.le_refl _) (Nat.le_refl _) (by decide) (pm_ki (fun v21 σ' cnt' hq => ?_))
      obtain ⟨-, ⟨g21, hg21⟩, hc21⟩ := hq
      obtain ⟨I21, A21, rfl, rfl, h21⟩ := hv_a53 (kp := kp) (I := I4) (A := A4) h4 ⟨hg21, hc21⟩
      exact pm_iret hG hF dX11_rents_28 rfl (Nat.le_refl _) (Nat.le_refl _) ⟨_, rfl, _, _, rfl, rfl, h21⟩

set_option maxRecDepth 100000 in
set_option maxHeartbeats 4000000 in
theorem g_X7_join {d B cnt : Nat} {kp : Value} {ρ : pm_S} {I : Nat → Int32} {A : Nat → Nat → Int32} {za zb zc : Int32} (hdd : 1 ≤ d) (h : gs I) : pm_met mX7_join d 0 0 B [.ref (B + 1), .int za, .int zb, .int zc] cnt (pm_two (cl_L B kp I A) ρ) (pm_Qi (fun _ σ' cnt' => hvc B kp ρ cnt σ' cnt')) := by
  refine pm_enter 5 (by decide) (Nat.le_of_ble_eq_true rfl) rfl (fun G hG hR hF => ?_)
  refine pm_aloadn hG dX7_join_0 rfl ?_
  refine pm_getf hG dX7_join_1 (flX7_14 _ rfl) rfl rfl ?_
  refine pm_callV (As := []) (rest := []) hG hR dX7_join_4 (lkX7_79 _ rfl) okV_X9_used rfl rfl (tb_used (d := 0) rfl) rfl rfl hdd (Nat.le_refl _) (Nat.le_refl _) (by decide) (pm_ki (fun v1 σ' cnt' hq => ?_))
  obtain ⟨I1, A1, rfl, rfl, h1⟩ := hv_id (kp := kp) (I := I) (A := A) h hq.2
  refine pm_istoreXi (loc' := [some (.ref (B + 1)), some (.int za), some (.int zb), some (.int zc), some (.int v1), none, none, none, none]) hG dX7_join_7 (by decide) (pm_c1b rfl) rfl ?_
  refine pm_iconst (v := 0) hG dX7_join_9 (by decide) ?_
  refine pm_istoreXi (loc' := [some (.ref (B + 1)), some (.int za), some (.int zb), some (.int zc), some (.int v1), some (.int 0), none, none, none]) hG dX7_join_10 (by decide) (pm_c1b rfl) rfl ?_
  have loop12 : ∀ (m12 : Nat) (I2 : Nat → Int32) (A2 : Nat → Nat → Int32) (x2_5 : Int32), gs I2 → ((v1 : Int32).toInt - x2_5.toInt).toNat < m12 → pm_wp mX7_join G B 12 [some (.ref (B + 1)), some (.int za), some (.int zb), some (.int zc), some (.int v1), some (.int x2_5), none, none, none] [] 0 0 cnt (pm_two (cl_L B kp I2 A2) ρ) := by
    intro m12
    induction m12 with
    | zero => intro I2 A2 x2_5 _  hm; exact absurd hm (Nat.not_lt_zero _)
    | succ m12 ih12 =>
      intro I2 A2 x2_5 h2  hm12
      refine pm_iloadi hG dX7_join_12 rfl ?_
      refine pm_iloadi hG dX7_join_14 rfl ?_
      refine pm_icmp_ge (tgt := 123) hG dX7_join_16 rfl (fun c3 => ?_) (fun c3 => ?_)
      · refine pm_aloadn hG dX7_join_123 rfl ?_
        refine pm_dup hG dX7_join_124 rfl ?_
        refine pm_getf hG dX7_join_125 (flX7_69 _ rfl) rfl rfl ?_
        refine pm_iconst (v := 1) hG dX7_join_128 (by decide) ?_
        refine pm_iadd hG dX7_join_129 ?_
        refine pm_putf hG dX7_join_130 (fwX7_69 _ rfl) rfl rfl rfl ?_
        refine pm_nrm (L' := cl_L B kp (ui I2 101 ((I2 101) + 1)) A2) (by decide) (Nat.le_of_ble_eq_true rfl) rfl ?_
        refine pm_aloadn hG dX7_join_133 rfl ?_
        refine pm_getf hG dX7_join_134 (flX7_69 _ rfl) rfl rfl ?_
        exact pm_iret hG hF dX7_join_137 rfl (Nat.le_refl _) (Nat.le_refl _) ⟨_, rfl, _, _, rfl, rfl, (gs.wi (k := 101) rfl h2)⟩
      · refine pm_iconst (v := 0) hG dX7_join_19 (by decide) ?_
        refine pm_istoreXi (loc' := [some (.ref (B + 1)), some (.int za), some (.int zb), some (.int zc), some (.int v1), some (.int x2_5), some (.int 0), none, none]) hG dX7_join_20 (by decide) (pm_c1b rfl) rfl ?_
        have loop22 : ∀ (m22 : Nat) (I4 : Nat → Int32) (A4 : Nat → Nat → Int32) (x4_6 : Int32), gs I4 → ((v1 : Int32).toInt - x4_6.toInt).toNat < m22 → pm_wp mX7_join G B 22 [some (.ref (B + 1)), some (.int za), some (.int zb), some (.int zc), some (.int v1), some (.int x2_5), some (.int x4_6), none, none] [] 0 0 cnt (pm_two (cl_L B kp I4 A4) ρ) := by
          intro m22
          induction m22 with
          | zero => intro I4 A4 x4_6 _  hm; exact absurd hm (Nat.not_lt_zero _)
          | succ m22 ih22 =>
            intro I4 A4 x4_6 h4  hm22
            refine pm_iloadi hG dX7_join_22 rfl ?_
            refine pm_iloadi hG dX7_join_24 rfl ?_
            refine pm_icmp_ge (tgt := 117) hG dX7_join_26 rfl (fun c5 => ?_) (fun c5 => ?_)
            · refine pm_iincX (v := x2_5 + 1) (loc' := [some (.ref (B + 1)), some (.int za), some (.int zb), some (.int zc), some (.int v1), some (.int (x2_5 + 1)), some (.int x4_6), none, none]) hG dX7_join_117 rfl (by rfl) (by decide) (pm_c1b rfl) rfl ?_
              refine pm_goto (tgt := 12) hG dX7_join_120 rfl ?_
              refine pm_fg 6 (loc' := [some (.ref (B + 1)), some (.int za), some (.int zb), some (.int zc), some (.int v1), some (.int (x2_5 + 1)), none, none, none]) rfl ?_
              exact ih12 _ _ (x2_5 + 1) h4 (Nat.lt_of_lt_of_le (pm_mu1 c3) (Nat.le_of_lt_succ hm12))
            · refine pm_aloadn hG dX7_join_29 rfl ?_
              refine pm_getf hG dX7_join_30 (flX7_20 _ rfl) rfl rfl ?_
              refine pm_iloadi hG dX7_join_33 rfl ?_
              refine pm_iloadn hG dX7_join_35 rfl ?_
              refine pm_callV (As := [.int x2_5, .int za]) (rest := []) hG hR dX7_join_36 (lkX7_83 _ rfl) okV_X9_get rfl rfl (tb_get (d := 0) rfl rfl (pm_tw_of 10 10 (by decide) (by decide) (by decide))) rfl rfl hdd (Nat.le_refl _) (Nat.le_refl _) (by decide) (pm_ki (fun v6 σ' cnt' hq => ?_))
              obtain ⟨I6, A6, rfl, rfl, h6⟩ := hv_id (kp := kp) (I := I4) (A := A4) h4 hq.2
              refine pm_iloadn hG dX7_join_39 rfl ?_
              refine pm_iadd hG dX7_join_40 ?_
              refine pm_aloadn hG dX7_join_41 rfl ?_
              refine pm_getf hG dX7_join_42 (flX7_20 _ rfl) rfl rfl ?_
              refine pm_iloadn hG dX7_join_45 rfl ?_
              refine pm_iloadi hG dX7_join_46 rfl ?_
              refine pm_callV (As := [.int zb, .int x4_6]) (rest := [.int (v6 + zc)]) hG hR dX7_join_48 (lkX7_83 _ rfl) okV_X9_get rfl rfl (tb_get (d := 0) rfl rfl (pm_tw_of 10 10 (by decide) (by decide) (by decide))) rfl rfl hdd (Nat.le_refl _) (Nat.le_refl _) (by first | decide | exact Nat.le_of_ble_eq_true rfl) (pm_ki (fun v7 σ' cnt' hq => ?_))
              obtain ⟨I7, A7, rfl, rfl, h7⟩ := hv_id (kp := kp) (I := I6) (A := A6) h6 hq.2
              refine pm_iadd hG dX7_join_51 ?_
              refine pm_istoreXi (loc' := [some (.ref (B + 1)), some (.int za), some (.int zb), some (.int zc), some (.int v1), some (.int x2_5), some (.int x4_6), some (.int ((v6 + zc) + v7)), none]) hG dX7_join_52 (by decide) (pm_c1b rfl) rfl ?_
              refine pm_aloadn hG dX7_join_54 rfl ?_
              refine pm_getf hG dX7_join_55 (flX7_20 _ rfl) rfl rfl ?_
              refine pm_iloadi hG dX7_join_58 rfl ?_
              refine pm_iloadn hG dX7_join_60 rfl ?_
              refine pm_callV (As := [.int x2_5, .int zb]) (rest := []) hG hR dX7_join_61 (lkX7_83 _ rfl) okV_X9_get rfl rfl (tb_get (d := 0) rfl rfl (pm_tw_of 10 10 (by decide) (by decide) (by decide))) rfl rfl hdd (Nat.le_refl _) (Nat.le_refl _) (by decide) (pm_ki (fun v8 σ' cnt' hq => ?_))
              obtain ⟨I8, A8, rfl, rfl, h8⟩ := hv_id (kp := kp) (I := I7) (A := A7) h7 hq.2
              refine pm_iloadn hG dX7_join_64 rfl ?_
              refine pm_iadd hG dX7_join_65 ?_
              refine pm_aloadn hG dX7_join_66 rfl ?_
              refine pm_getf hG dX7_join_67 (flX7_20 _ rfl) rfl rfl ?_
              refine pm_iloadn hG dX7_join_70 rfl ?_
              refine pm_iloadi hG dX7_join_71 rfl ?_
              refine pm_callV (As := [.int za, .int x4_6]) (rest := [.int (v8 + zc)]) hG hR dX7_join_73 (lkX7_83 _ rfl) okV_X9_get rfl rfl (tb_get (d := 0) rfl rfl (pm_tw_of 10 10 (by decide) (by decide) (by decide))) rfl rfl hdd (Nat.le_refl _) (Nat.le_refl _) (by first | decide | exact Nat.le_of_ble_eq_true rfl) (pm_ki (fun v9 σ' cnt' hq => ?_))
              obtain ⟨I9, A9, rfl, rfl, h9⟩ := hv_id (kp := kp) (I := I8) (A := A8) h8 hq.2
              refine pm_iadd hG dX7_join_76 ?_
              refine pm_istoreXi (loc' := [some (.ref (B + 1)), some (.int za), some (.int zb), some (.int zc), some (.int v1), some (.int x2_5), some (.int x4_6), some (.int ((v6 + zc) + v7)), some (.int ((v8 + zc) + v9))]) hG dX7_join_77 (by decide) (pm_c1b rfl) rfl ?_
              refine pm_aloadn hG dX7_join_79 rfl ?_
              refine pm_getf hG dX7_join_80 (flX7_20 _ rfl) rfl rfl ?_
              refine pm_iloadi hG dX7_join_83 rfl ?_
              refine pm_iloadi hG dX7_join_85 rfl ?_
              refine pm_aloadn hG dX7_join_87 rfl ?_
              refine pm_getf hG dX7_join_88 (flX7_20 _ rfl) rfl rfl ?_
              refine pm_iloadi hG dX7_join_91 rfl ?_
              refine pm_iloadi hG dX7_join_93 rfl ?_
              refine pm_callV (As := [.int x2_5, .int x4_6]) (rest := [.int x4_6, .int x2_5, .ref (B + 4)]) hG hR dX7_join_95 (lkX7_83 _ rfl) okV_X9_get rfl rfl (tb_get (d := 0) rfl rfl (pm_tw_of 10 10 (by decide) (by decide) (by decide))) rfl rfl hdd (Nat.le_refl _) (Nat.le_refl _) (by first | decide | exact Nat.le_of_ble_eq_true rfl) (pm_ki (fun v10 σ' cnt' hq => ?_))
              obtain ⟨I10, A10, rfl, rfl, h10⟩ := hv_id (kp := kp) (I := I9) (A := A9) h9 hq.2
              refine pm_iloadi hG dX7_join_98 rfl ?_
              refine pm_iloadi hG dX7_join_100 rfl ?_
              refine pm_mmin hG hR dX7_join_102 (mmX7_87 _ rfl) pm_mwmin (by omega) (by first | decide | exact Nat.le_of_ble_eq_true rfl) (Nat.le_refl _) (Nat.le_refl _) ?_
              refine pm_mmin hG hR dX7_join_105 (mmX7_87 _ rfl) pm_mwmin (by omega) (by first | decide | exact Nat.le_of_ble_eq_true rfl) (Nat.le_refl _) (Nat.le_refl _) ?_
              refine pm_callV (As := [.int x2_5, .int x4_6, .int (if (if ((v8 + zc) + v9) < ((v6 + zc) + v7) then (v8 + zc) + v9 else (v6 + zc) + v7) < v10 then if ((v8 + zc) + v9) < ((v6 + zc) + v7) then (v8 + zc) + v9 else (v6 + zc) + v7 else v10)]) (rest := []) hG hR dX7_join_108 (lkX7_61 _ rfl) okV_X9_set rfl rfl (tb_set (d := 0) rfl rfl (pm_tw_of 10 10 (by decide) (by decide) (by decide)) (by decide)) rfl rfl hdd (Nat.le_refl _) (Nat.le_refl _) (by decide) (pm_kv (fun σ' cnt' hq => ?_))
              obtain ⟨I11, A11, rfl, rfl, h11⟩ := hv_a5 (kp := kp) (I := I10) (A := A10) h10 hq
              refine pm_iincX (v := x4_6 + 1) (loc' := [some (.ref (B + 1)), some (.int za), some (.int zb), some (.int zc), some (.int v1), some (.int x2_5), some (.int (x4_6 + 1)), some (.int ((v6 + zc) + v7)), some (.int ((v8 + zc) + v9))]) hG dX7_join_111 rfl (by rfl) (by decide) (pm_c1b rfl) rfl ?_
              refine pm_goto (tgt := 22) hG dX7_join_114 rfl ?_
              refine pm_fg 7 (loc' := [some (.ref (B + 1)), some (.int za), some (.int zb), some (.int zc), some (.int v1), some (.int x2_5), some (.int (x4_6 + 1)), none, some (.int ((v8 + zc) + v9))]) rfl ?_
              refine pm_fg 8 (loc' := [some (.ref (B + 1)), some (.int za), some (.int zb), some (.int zc), some (.int v1), some (.int x2_5), some (.int (x4_6 + 1)), none, none]) rfl ?_
              exact ih22 _ _ (x4_6 + 1) h11 (Nat.lt_of_lt_of_le (pm_mu1 c5) (Nat.le_of_lt_succ hm22))
        exact loop22 _ _ _ 0 h2 (Nat.lt_succ_self _)
  exact loop12 _ _ _ 0 h1 (Nat.lt_succ_self _)

set_option maxRecDepth 100000 in
set_option maxHeartbeats 4000000 in
theorem g_X11_road {d B cnt : Nat} {kp : Value} {ρ : pm_S} {I : Nat → Int32} {A : Nat → Nat → Int32} {za zb zc : Int32} (hdd : 2 ≤ d) (h : gs I) : pm_met mX11_road d 0 0 B [.ref (B + 0), .int za, .int zb, .int zc] cnt (pm_two (cl_L B kp I A) ρ) (pm_Qi (fun _ σ' cnt' => hvc B kp ρ cnt σ' cnt')) := by
  refine pm_enter 0 (by decide) (Nat.le_of_ble_eq_true rfl) rfl (fun G hG hR hF => ?_)
  refine pm_aloadn hG dX11_road_0 rfl ?_
  refine pm_getf hG dX11_road_1 (flX11_12 _ rfl) rfl rfl ?_
  refine pm_getf hG dX11_road_4 (flX11_82 _ rfl) rfl rfl ?_
  refine pm_iloadn hG dX11_road_7 rfl ?_
  refine pm_callV (As := [.int za]) (rest := []) hG hR dX11_road_8 (lkX11_101 _ rfl) okV_X9_has rfl rfl (tb_has (d := 1) rfl) rfl rfl hdd (Nat.le_refl _) (Nat.le_refl _) (by decide) (pm_ki (fun v1 σ' cnt' hq => ?_))
  have b1 := pm_b01 hq.1
  obtain ⟨I1, A1, rfl, rfl, h1⟩ := hv_id (kp := kp) (I := I) (A := A) h hq.2
  refine pm_if_eq (tgt := 43) hG dX11_road_11 rfl (fun c2 => ?_) (fun c2 => ?_)
  · refine pm_aloadn hG dX11_road_43 rfl ?_
    refine pm_ldc hG dX11_road_44 (ctX11_109 _ rfl) ?_
    refine pm_callV (As := [.int (-1000001)]) (rest := []) hG hR dX11_road_46 (lkX11_97 _ rfl) okV_X11_told rfl rfl (sx_told (d := 1) (by decide) rfl rfl) rfl rfl hdd (Nat.le_refl _) (Nat.le_refl _) (by decide) (pm_ki (fun v3 σ' cnt' hq => ?_))
    obtain ⟨-, ⟨g3, hg3⟩, hc3⟩ := hq
    obtain ⟨I3, A3, rfl, rfl, h3⟩ := hv_a53 (kp := kp) (I := I1) (A := A1) h1 ⟨hg3, hc3⟩
    exact pm_iret hG hF dX11_road_49 rfl (Nat.le_refl _) (Nat.le_refl _) ⟨_, rfl, _, _, rfl, rfl, h3⟩
  · refine pm_aloadn hG dX11_road_14 rfl ?_
    refine pm_getf hG dX11_road_15 (flX11_12 _ rfl) rfl rfl ?_
    refine pm_getf hG dX11_road_18 (flX11_82 _ rfl) rfl rfl ?_
    refine pm_iloadn hG dX11_road_21 rfl ?_
    refine pm_callV (As := [.int zb]) (rest := []) hG hR dX11_road_22 (lkX11_101 _ rfl) okV_X9_has rfl rfl (tb_has (d := 1) rfl) rfl rfl hdd (Nat.le_refl _) (Nat.le_refl _) (by decide) (pm_ki (fun v4 σ' cnt' hq => ?_))
    have b4 := pm_b01 hq.1
    obtain ⟨I4, A4, rfl, rfl, h4⟩ := hv_id (kp := kp) (I := I1) (A := A1) h1 hq.2
    refine pm_if_eq (tgt := 43) hG dX11_road_25 rfl (fun c5 => ?_) (fun c5 => ?_)
    · refine pm_aloadn hG dX11_road_43 rfl ?_
      refine pm_ldc hG dX11_road_44 (ctX11_109 _ rfl) ?_
      refine pm_callV (As := [.int (-1000001)]) (rest := []) hG hR dX11_road_46 (lkX11_97 _ rfl) okV_X11_told rfl rfl (sx_told (d := 1) (by decide) rfl rfl) rfl rfl hdd (Nat.le_refl _) (Nat.le_refl _) (by decide) (pm_ki (fun v6 σ' cnt' hq => ?_))
      obtain ⟨-, ⟨g6, hg6⟩, hc6⟩ := hq
      obtain ⟨I6, A6, rfl, rfl, h6⟩ := hv_a53 (kp := kp) (I := I4) (A := A4) h4 ⟨hg6, hc6⟩
      exact pm_iret hG hF dX11_road_49 rfl (Nat.le_refl _) (Nat.le_refl _) ⟨_, rfl, _, _, rfl, rfl, h6⟩
    · refine pm_iloadn hG dX11_road_28 rfl ?_
      refine pm_iloadn hG dX11_road_29 rfl ?_
      refine pm_icmp_eq (tgt := 43) hG dX11_road_30 rfl (fun c7 => ?_) (fun c7 => ?_)
      · refine pm_aloadn hG dX11_road_43 rfl ?_
        refine pm_ldc hG dX11_road_44 (ctX11_109 _ rfl) ?_
        refine pm_callV (As := [.int (-1000001)]) (rest := []) hG hR dX11_road_46 (lkX11_97 _ rfl) okV_X11_told rfl rfl (sx_told (d := 1) (by decide) rfl rfl) rfl rfl hdd (Nat.le_refl _) (Nat.le_refl _) (by decide) (pm_ki (fun v8 σ' cnt' hq => ?_))
        obtain ⟨-, ⟨g8, hg8⟩, hc8⟩ := hq
        obtain ⟨I8, A8, rfl, rfl, h8⟩ := hv_a53 (kp := kp) (I := I4) (A := A4) h4 ⟨hg8, hc8⟩
        exact pm_iret hG hF dX11_road_49 rfl (Nat.le_refl _) (Nat.le_refl _) ⟨_, rfl, _, _, rfl, rfl, h8⟩
      · refine pm_iloadn hG dX11_road_33 rfl ?_
        refine pm_iconst (v := 1) hG dX11_road_34 (by decide) ?_
        refine pm_bipush (v := 9) hG dX11_road_35 (by decide) ?_
        refine pm_callS (As := [.int zc, .int 1, .int 9]) (rest := []) hG hR dX11_road_37 (lkX11_105 _ rfl) okS_X11_isOutside (sx_isOutside (d := 1)) rfl rfl hdd (Nat.le_refl _) (Nat.le_refl _) (by decide) (pm_ki (fun v9 σ' cnt' hq => ?_))
        have b9 := pm_b10 hq.1
        obtain ⟨I9, A9, rfl, rfl, h9⟩ := hv_id (kp := kp) (I := I4) (A := A4) h4 hq.2
        refine pm_if_eq (tgt := 50) hG dX11_road_40 rfl (fun c10 => ?_) (fun c10 => ?_)
        · refine pm_aloadn hG dX11_road_50 rfl ?_
          refine pm_aloadn hG dX11_road_51 rfl ?_
          refine pm_getf hG dX11_road_52 (flX11_12 _ rfl) rfl rfl ?_
          refine pm_getf hG dX11_road_55 (flX11_110 _ rfl) rfl rfl ?_
          refine pm_bipush (v := 20) hG dX11_road_58 (by decide) ?_
          refine pm_icmp_lt (tgt := 68) hG dX11_road_60 rfl (fun c11 => ?_) (fun c11 => ?_)
          · refine pm_aloadn hG dX11_road_68 rfl ?_
            refine pm_getf hG dX11_road_69 (flX11_12 _ rfl) rfl rfl ?_
            refine pm_iloadn hG dX11_road_72 rfl ?_
            refine pm_iloadn hG dX11_road_73 rfl ?_
            refine pm_iloadn hG dX11_road_74 rfl ?_
            refine pm_callV (As := [.int za, .int zb, .int zc]) (rest := [.ref (B + 0)]) hG hR dX11_road_75 (lkX11_114 _ rfl) okV_X7_join rfl rfl (g_X7_join (d := 1) (by decide) h9) rfl rfl hdd (Nat.le_refl _) (Nat.le_refl _) (by first | decide | exact Nat.le_of_ble_eq_true rfl) (pm_ki (fun v12 σ' cnt' hq => ?_))
            obtain ⟨I12, A12, rfl, rfl, h12⟩ := hq
            refine pm_callV (As := [.int v12]) (rest := []) hG hR dX11_road_78 (lkX11_97 _ rfl) okV_X11_told rfl rfl (sx_told (d := 1) (by decide) rfl rfl) rfl rfl hdd (Nat.le_refl _) (Nat.le_refl _) (by decide) (pm_ki (fun v13 σ' cnt' hq => ?_))
            obtain ⟨-, ⟨g13, hg13⟩, hc13⟩ := hq
            obtain ⟨I13, A13, rfl, rfl, h13⟩ := hv_a53 (kp := kp) (I := I12) (A := A12) h12 ⟨hg13, hc13⟩
            exact pm_iret hG hF dX11_road_81 rfl (Nat.le_refl _) (Nat.le_refl _) ⟨_, rfl, _, _, rfl, rfl, h13⟩
          · refine pm_ldc hG dX11_road_63 (ctX11_92 _ rfl) ?_
            refine pm_goto (tgt := 78) hG dX11_road_65 rfl ?_
            refine pm_callV (As := [.int (-1000004)]) (rest := []) hG hR dX11_road_78 (lkX11_97 _ rfl) okV_X11_told rfl rfl (sx_told (d := 1) (by decide) rfl rfl) rfl rfl hdd (Nat.le_refl _) (Nat.le_refl _) (by decide) (pm_ki (fun v14 σ' cnt' hq => ?_))
            obtain ⟨-, ⟨g14, hg14⟩, hc14⟩ := hq
            obtain ⟨I14, A14, rfl, rfl, h14⟩ := hv_a53 (kp := kp) (I := I9) (A := A9) h9 ⟨hg14, hc14⟩
            exact pm_iret hG hF dX11_road_81 rfl (Nat.le_refl _) (Nat.le_refl _) ⟨_, rfl, _, _, rfl, rfl, h14⟩
        · refine pm_aloadn hG dX11_road_43 rfl ?_
          refine pm_ldc hG dX11_road_44 (ctX11_109 _ rfl) ?_
          refine pm_callV (As := [.int (-1000001)]) (rest := []) hG hR dX11_road_46 (lkX11_97 _ rfl) okV_X11_told rfl rfl (sx_told (d := 1) (by decide) rfl rfl) rfl rfl hdd (Nat.le_refl _) (Nat.le_refl _) (by decide) (pm_ki (fun v15 σ' cnt' hq => ?_))
          obtain ⟨-, ⟨g15, hg15⟩, hc15⟩ := hq
          obtain ⟨I15, A15, rfl, rfl, h15⟩ := hv_a53 (kp := kp) (I := I9) (A := A9) h9 ⟨hg15, hc15⟩
          exact pm_iret hG hF dX11_road_49 rfl (Nat.le_refl _) (Nat.le_refl _) ⟨_, rfl, _, _, rfl, rfl, h15⟩
