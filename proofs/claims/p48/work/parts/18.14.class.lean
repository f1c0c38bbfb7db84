set_option maxRecDepth 100000 in
set_option maxHeartbeats 4000000 in
theorem g_X11_town {d B cnt : Nat} {kp : Value} {ρ : pm_S} {I : Nat → Int32} {A : Nat → Nat → Int32} (hdd : 3 ≤ d) (h : gs I) : pm_met mX11_town d 0 0 B [.ref (B + 0)] cnt (pm_two (cl_L B kp I A) ρ) (pm_Qi (fun _ σ' cnt' => hvc B kp ρ cnt σ' cnt')) := by
  refine pm_enter 0 (by decide) (Nat.le_of_ble_eq_true rfl) rfl (fun G hG hR hF => ?_)
  refine pm_aloadn hG dX11_town_0 rfl ?_
  refine pm_aloadn hG dX11_town_1 rfl ?_
  refine pm_getf hG dX11_town_2 (flX11_12 _ rfl) rfl rfl ?_
  refine pm_getf hG dX11_town_5 (flX11_82 _ rfl) rfl rfl ?_
  refine pm_callV (As := []) (rest := [.ref (B + 0)]) hG hR dX11_town_8 (lkX11_86 _ rfl) okV_X9_isFull rfl rfl (tb_isFull (d := 2) rfl) rfl rfl hdd (Nat.le_refl _) (Nat.le_refl _) (by first | decide | exact Nat.le_of_ble_eq_true rfl) (pm_ki (fun v1 σ' cnt' hq => ?_))
  have b1 := pm_b01 hq.1
  obtain ⟨I1, A1, rfl, rfl, h1⟩ := hv_id (kp := kp) (I := I) (A := A) h hq.2
  refine pm_if_eq (tgt := 19) hG dX11_town_11 rfl (fun c2 => ?_) (fun c2 => ?_)
  · refine pm_aloadn hG dX11_town_19 rfl ?_
    refine pm_getf hG dX11_town_20 (flX11_12 _ rfl) rfl rfl ?_
    refine pm_callV (As := []) (rest := [.ref (B + 0)]) hG hR dX11_town_23 (lkX11_93 _ rfl) okV_X7_addTown rfl rfl (g_X7_addTown (d := 2) (by decide) h1) rfl rfl hdd (Nat.le_refl _) (Nat.le_refl _) (by first | decide | exact Nat.le_of_ble_eq_true rfl) (pm_ki (fun v3 σ' cnt' hq => ?_))
    obtain ⟨I3, A3, rfl, rfl, h3⟩ := hq
    refine pm_callV (As := [.int v3]) (rest := []) hG hR dX11_town_26 (lkX11_97 _ rfl) okV_X11_told rfl rfl (sx_told (d := 2) (by decide) rfl rfl) rfl rfl hdd (Nat.le_refl _) (Nat.le_refl _) (by decide) (pm_ki (fun v4 σ' cnt' hq => ?_))
    obtain ⟨-, ⟨g4, hg4⟩, hc4⟩ := hq
    obtain ⟨I4, A4, rfl, rfl, h4⟩ := hv_a53 (kp := kp) (I := I3) (A := A3) h3 ⟨hg4, hc4⟩
    exact pm_iret hG hF dX11_town_29 rfl (Nat.le_refl _) (Nat.le_refl _) ⟨_, rfl, _, _, rfl, rfl, h4⟩
  · refine pm_ldc hG dX11_town_14 (ctX11_92 _ rfl) ?_
    refine pm_goto (tgt := 26) hG dX11_town_16 rfl ?_
    refine pm_callV (As := [.int (-1000004)]) (rest := []) hG hR dX11_town_26 (lkX11_97 _ rfl) okV_X11_told rfl rfl (sx_told (d := 2) (by decide) rfl rfl) rfl rfl hdd (Nat.le_refl _) (Nat.le_refl _) (by decide) (pm_ki (fun v5 σ' cnt' hq => ?_))
    obtain ⟨-, ⟨g5, hg5⟩, hc5⟩ := hq
    obtain ⟨I5, A5, rfl, rfl, h5⟩ := hv_a53 (kp := kp) (I := I1) (A := A1) h1 ⟨hg5, hc5⟩
    exact pm_iret hG hF dX11_town_29 rfl (Nat.le_refl _) (Nat.le_refl _) ⟨_, rfl, _, _, rfl, rfl, h5⟩

set_option maxRecDepth 100000 in
set_option maxHeartbeats 4000000 in
theorem g_X11_trace {d B cnt : Nat} {kp : Value} {ρ : pm_S} {I : Nat → Int32} {A : Nat → Nat → Int32} {za : Int32} (hdd : 2 ≤ d) (h : gs I) : pm_met mX11_trace d 0 0 B [.ref (B + 0), .int za] cnt (pm_two (cl_L B kp I A) ρ) (pm_Qi (fun _ σ' cnt' => hvc B kp ρ cnt σ' cnt')) := by
  refine pm_enter 0 (by decide) (Nat.le_of_ble_eq_true rfl) rfl (fun G hG hR hF => ?_)
  refine pm_aloadn hG dX11_trace_0 rfl ?_
  refine pm_iloadn hG dX11_trace_1 rfl ?_
  refine pm_if_lt (tgt := 27) hG dX11_trace_2 rfl (fun c1 => ?_) (fun c1 => ?_)
  · refine pm_ldc hG dX11_trace_27 (ctX11_223 _ rfl) ?_
    refine pm_callV (As := [.int (-1000002)]) (rest := []) hG hR dX11_trace_29 (lkX11_97 _ rfl) okV_X11_told rfl rfl (sx_told (d := 1) (by decide) rfl rfl) rfl rfl hdd (Nat.le_refl _) (Nat.le_refl _) (by decide) (pm_ki (fun v2 σ' cnt' hq => ?_))
    obtain ⟨-, ⟨g2, hg2⟩, hc2⟩ := hq
    obtain ⟨I2, A2, rfl, rfl, h2⟩ := hv_a53 (kp := kp) (I := I) (A := A) h ⟨hg2, hc2⟩
    exact pm_iret hG hF dX11_trace_32 rfl (Nat.le_refl _) (Nat.le_refl _) ⟨_, rfl, _, _, rfl, rfl, h2⟩
  · refine pm_iloadn hG dX11_trace_5 rfl ?_
    refine pm_aloadn hG dX11_trace_6 rfl ?_
    refine pm_getf hG dX11_trace_7 (flX11_67 _ rfl) rfl rfl ?_
    refine pm_getf hG dX11_trace_10 (flX11_358 _ rfl) rfl rfl ?_
    refine pm_icmp_ge (tgt := 27) hG dX11_trace_13 rfl (fun c3 => ?_) (fun c3 => ?_)
    · refine pm_ldc hG dX11_trace_27 (ctX11_223 _ rfl) ?_
      refine pm_callV (As := [.int (-1000002)]) (rest := []) hG hR dX11_trace_29 (lkX11_97 _ rfl) okV_X11_told rfl rfl (sx_told (d := 1) (by decide) rfl rfl) rfl rfl hdd (Nat.le_refl _) (Nat.le_refl _) (by decide) (pm_ki (fun v4 σ' cnt' hq => ?_))
      obtain ⟨-, ⟨g4, hg4⟩, hc4⟩ := hq
      obtain ⟨I4, A4, rfl, rfl, h4⟩ := hv_a53 (kp := kp) (I := I) (A := A) h ⟨hg4, hc4⟩
      exact pm_iret hG hF dX11_trace_32 rfl (Nat.le_refl _) (Nat.le_refl _) ⟨_, rfl, _, _, rfl, rfl, h4⟩
    · refine pm_aloadn hG dX11_trace_16 rfl ?_
      refine pm_getf hG dX11_trace_17 (flX11_67 _ rfl) rfl rfl ?_
      refine pm_iloadn hG dX11_trace_20 rfl ?_
      refine pm_callV (As := [.int za]) (rest := [.ref (B + 0)]) hG hR dX11_trace_21 (lkX11_361 _ rfl) okV_X10_bodyAt rfl rfl (g_X10_bodyAt (d := 1) (by decide) h) rfl rfl hdd (Nat.le_refl _) (Nat.le_refl _) (by first | decide | exact Nat.le_of_ble_eq_true rfl) (pm_ki (fun v5 σ' cnt' hq => ?_))
      obtain ⟨I5, A5, rfl, rfl, h5⟩ := hq
      refine pm_goto (tgt := 29) hG dX11_trace_24 rfl ?_
      refine pm_callV (As := [.int v5]) (rest := []) hG hR dX11_trace_29 (lkX11_97 _ rfl) okV_X11_told rfl rfl (sx_told (d := 1) (by decide) rfl rfl) rfl rfl hdd (Nat.le_refl _) (Nat.le_refl _) (by decide) (pm_ki (fun v6 σ' cnt' hq => ?_))
      obtain ⟨-, ⟨g6, hg6⟩, hc6⟩ := hq
      obtain ⟨I6, A6, rfl, rfl, h6⟩ := hv_a53 (kp := kp) (I := I5) (A := A5) h5 ⟨hg6, hc6⟩
      exact pm_iret hG hF dX11_trace_32 rfl (Nat.le_refl _) (Nat.le_refl _) ⟨_, rfl, _, _, rfl, rfl, h6⟩

set_option maxRecDepth 100000 in
set_option maxHeartbeats 4000000 in
theorem g_X11_voice {d B cnt : Nat} {kp : Value} {ρ : pm_S} {I : Nat → Int32} {A : Nat → Nat → Int32} {za zb zc : Int32} (hdd : 11 ≤ d) (h : gs I) : pm_met mX11_voice d 0 0 B [.ref (B + 0), .int za, .int zb, .int zc] cnt (pm_two (cl_L B kp I A) ρ) (pm_Qi (fun _ σ' cnt' => hvc B kp ρ cnt σ' cnt')) := by
  refine pm_enter 0 (by decide) (Nat.le_of_ble_eq_true rfl) rfl (fun G hG hR hF => ?_)
  refine pm_aloadn hG dX11_voice_0 rfl ?_
  refine pm_getf hG dX11_voice_1 (flX11_12 _ rfl) rfl rfl ?_
  refine pm_getf hG dX11_voice_4 (flX11_161 _ rfl) rfl rfl ?_
  refine pm_iloadn hG dX11_voice_7 rfl ?_
  refine pm_callV (As := [.int za]) (rest := []) hG hR dX11_voice_8 (lkX11_101 _ rfl) okV_X9_has rfl rfl (tb_has (d := 10) rfl) rfl rfl hdd (Nat.le_refl _) (Nat.le_refl _) (by decide) (pm_ki (fun v1 σ' cnt' hq => ?_))
  have b1 := pm_b01 hq.1
  obtain ⟨I1, A1, rfl, rfl, h1⟩ := hv_id (kp := kp) (I := I) (A := A) h hq.2
  refine pm_if_eq (tgt := 23) hG dX11_voice_11 rfl (fun c2 => ?_) (fun c2 => ?_)
  · refine pm_aloadn hG dX11_voice_23 rfl ?_
    refine pm_ldc hG dX11_voice_24 (ctX11_109 _ rfl) ?_
    refine pm_callV (As := [.int (-1000001)]) (rest := []) hG hR dX11_voice_26 (lkX11_97 _ rfl) okV_X11_told rfl rfl (sx_told (d := 10) (by decide) rfl rfl) rfl rfl hdd (Nat.le_refl _) (Nat.le_refl _) (by decide) (pm_ki (fun v3 σ' cnt' hq => ?_))
    obtain ⟨-, ⟨g3, hg3⟩, hc3⟩ := hq
    obtain ⟨I3, A3, rfl, rfl, h3⟩ := hv_a53 (kp := kp) (I := I1) (A := A1) h1 ⟨hg3, hc3⟩
    exact pm_iret hG hF dX11_voice_29 rfl (Nat.le_refl _) (Nat.le_refl _) ⟨_, rfl, _, _, rfl, rfl, h3⟩
  · refine pm_iloadn hG dX11_voice_14 rfl ?_
    refine pm_iconst (v := 0) hG dX11_voice_15 (by decide) ?_
    refine pm_iconst (v := 3) hG dX11_voice_16 (by decide) ?_
    refine pm_callS (As := [.int zb, .int 0, .int 3]) (rest := []) hG hR dX11_voice_17 (lkX11_105 _ rfl) okS_X11_isOutside (sx_isOutside (d := 10)) rfl rfl hdd (Nat.le_refl _) (Nat.le_refl _) (by decide) (pm_ki (fun v4 σ' cnt' hq => ?_))
    have o4 := hq.1
    have b4 := pm_b10 hq.1
    obtain ⟨I4, A4, rfl, rfl, h4⟩ := hv_id (kp := kp) (I := I1) (A := A1) h1 hq.2
    refine pm_if_eq (tgt := 30) hG dX11_voice_20 rfl (fun c5 => ?_) (fun c5 => ?_)
    · refine pm_aloadn hG dX11_voice_30 rfl ?_
      refine pm_getf hG dX11_voice_31 (flX11_67 _ rfl) rfl rfl ?_
      refine pm_aloadn hG dX11_voice_34 rfl ?_
      refine pm_getf hG dX11_voice_35 (flX11_12 _ rfl) rfl rfl ?_
      refine pm_getf hG dX11_voice_38 (flX11_161 _ rfl) rfl rfl ?_
      refine pm_iloadn hG dX11_voice_41 rfl ?_
      refine pm_iconst (v := 0) hG dX11_voice_42 (by decide) ?_
      refine pm_callV (As := [.int za, .int 0]) (rest := [.ref (B + 46)]) hG hR dX11_voice_43 (lkX11_152 _ rfl) okV_X9_get rfl rfl (tb_get (d := 10) rfl rfl (pm_tw_of 20 6 (by decide) (by decide) (by decide))) rfl rfl hdd (Nat.le_refl _) (Nat.le_refl _) (by first | decide | exact Nat.le_of_ble_eq_true rfl) (pm_ki (fun v6 σ' cnt' hq => ?_))
      obtain ⟨I6, A6, rfl, rfl, h6⟩ := hv_id (kp := kp) (I := I4) (A := A4) h4 hq.2
      refine pm_iloadn hG dX11_voice_46 rfl ?_
      refine pm_aloadn hG dX11_voice_47 rfl ?_
      refine pm_getf hG dX11_voice_48 (flX11_12 _ rfl) rfl rfl ?_
      refine pm_getf hG dX11_voice_51 (flX11_161 _ rfl) rfl rfl ?_
      refine pm_iloadn hG dX11_voice_54 rfl ?_
      refine pm_iconst (v := 1) hG dX11_voice_55 (by decide) ?_
      refine pm_callV (As := [.int za, .int 1]) (rest := [.int za, .int v6, .ref (B + 46)]) hG hR dX11_voice_56 (lkX11_152 _ rfl) okV_X9_get rfl rfl (tb_get (d := 10) rfl rfl (pm_tw_of 20 6 (by decide) (by decide) (by decide))) rfl rfl hdd (Nat.le_refl _) (Nat.le_refl _) (by first | decide | exact Nat.le_of_ble_eq_true rfl) (pm_ki (fun v7 σ' cnt' hq => ?_))
      obtain ⟨I7, A7, rfl, rfl, h7⟩ := hv_id (kp := kp) (I := I6) (A := A6) h6 hq.2
      refine pm_callV (As := [.int v6, .int za, .int v7]) (rest := []) hG hR dX11_voice_59 (lkX11_353 _ rfl) okV_X10_begin rfl rfl (g_X10_begin (d := 10) (by decide) h7) rfl rfl hdd (Nat.le_refl _) (Nat.le_refl _) (by decide) (pm_kv (fun σ' cnt' hq => ?_))
      obtain ⟨I8, A8, rfl, rfl, h8⟩ := hq
      refine pm_aloadn hG dX11_voice_62 rfl ?_
      refine pm_getf hG dX11_voice_63 (flX11_67 _ rfl) rfl rfl ?_
      refine pm_iloadn hG dX11_voice_66 rfl ?_
      refine pm_iloadn hG dX11_voice_67 rfl ?_
      refine pm_callV (As := [.int zb, .int zc]) (rest := []) hG hR dX11_voice_68 (lkX11_355 _ rfl) okV_X10_speak rfl rfl (g_X10_speak (d := 10) (by decide) h8) rfl rfl hdd (Nat.le_refl _) (Nat.le_refl _) (by decide) (pm_ki (fun v9 σ' cnt' hq => ?_))
      obtain ⟨I9, A9, rfl, rfl, h9⟩ := hq
      exact pm_iret hG hF dX11_voice_71 rfl (Nat.le_refl _) (Nat.le_refl _) ⟨_, rfl, _, _, rfl, rfl, h9⟩
    · refine pm_aloadn hG dX11_voice_23 rfl ?_
      refine pm_ldc hG dX11_voice_24 (ctX11_109 _ rfl) ?_
      refine pm_callV (As := [.int (-1000001)]) (rest := []) hG hR dX11_voice_26 (lkX11_97 _ rfl) okV_X11_told rfl rfl (sx_told (d := 10) (by decide) rfl rfl) rfl rfl hdd (Nat.le_refl _) (Nat.le_refl _) (by decide) (pm_ki (fun v10 σ' cnt' hq => ?_))
      obtain ⟨-, ⟨g10, hg10⟩, hc10⟩ := hq
      obtain ⟨I10, A10, rfl, rfl, h10⟩ := hv_a53 (kp := kp) (I := I4) (A := A4) h4 ⟨hg10, hc10⟩
      exact pm_iret hG hF dX11_voice_29 rfl (Nat.le_refl _) (Nat.le_refl _) ⟨_, rfl, _, _, rfl, rfl, h10⟩

set_option maxRecDepth 100000 in
set_option maxHeartbeats 4000000 in
theorem g_X5_before {d B cnt : Nat} {kp : Value} {ρ : pm_S} {I : Nat → Int32} {A : Nat → Nat → Int32} {za zb : Int32} (hdd : 1 ≤ d) (h : gs I) : pm_met mX5_before d 0 0 B [.int za, .int zb] cnt (pm_two (cl_L B kp I A) ρ) (pm_Qi (fun _ σ' cnt' => hvc B kp ρ cnt σ' cnt')) := by
  refine pm_enter 1 (by decide) (Nat.le_of_ble_eq_true rfl) rfl (fun G hG hR hF => ?_)
  refine pm_iloadn hG dX5_before_0 rfl ?_
  refine pm_if_ne (tgt := 8) hG dX5_before_1 rfl (fun c1 => ?_) (fun c1 => ?_)
  · refine pm_iloadn hG dX5_before_8 rfl ?_
    refine pm_iconst (v := 1) hG dX5_before_9 (by decide) ?_
    refine pm_iloadn hG dX5_before_10 rfl ?_
    refine pm_iconst (v := 1) hG dX5_before_11 (by decide) ?_
    refine pm_isub hG dX5_before_12 ?_
    refine pm_ishl hG dX5_before_13 ?_
    refine pm_iconst (v := (-1)) hG dX5_before_14 (by decide) ?_
    refine pm_ixor hG dX5_before_15 ?_
    refine pm_iand hG dX5_before_16 ?_
    refine pm_istoreXn (loc' := [some (.int za), some (.int zb), some (.int (za &&& ((1 <<< ((zb - 1) &&& 31)) ^^^ (-1))))]) hG dX5_before_17 (by decide) (pm_c1b rfl) rfl ?_
    refine pm_iloadn hG dX5_before_18 rfl ?_
    refine pm_bipush (v := 63) hG dX5_before_19 (by decide) ?_
    refine pm_iand hG dX5_before_21 ?_
    exact pm_iret hG hF dX5_before_22 rfl (Nat.le_refl _) (Nat.le_refl _) ⟨_, rfl, _, _, rfl, rfl, h⟩
  · refine pm_iloadn hG dX5_before_4 rfl ?_
    refine pm_goto (tgt := 17) hG dX5_before_5 rfl ?_
    refine pm_istoreXn (loc' := [some (.int za), some (.int zb), some (.int za)]) hG dX5_before_17 (by decide) (pm_c1b rfl) rfl ?_
    refine pm_iloadn hG dX5_before_18 rfl ?_
    refine pm_bipush (v := 63) hG dX5_before_19 (by decide) ?_
    refine pm_iand hG dX5_before_21 ?_
    exact pm_iret hG hF dX5_before_22 rfl (Nat.le_refl _) (Nat.le_refl _) ⟨_, rfl, _, _, rfl, rfl, h⟩

set_option maxRecDepth 100000 in
set_option maxHeartbeats 4000000 in
theorem g_X6_fail {d B cnt : Nat} {kp : Value} {ρ : pm_S} {I : Nat → Int32} {A : Nat → Nat → Int32} (hdd : 1 ≤ d) (h : gs I) : pm_met mX6_fail d 0 0 B [.ref (B + 27)] cnt (pm_two (cl_L B kp I A) ρ) (pm_Qv (fun σ' cnt' => hvc B kp ρ cnt σ' cnt')) := by
  refine pm_enter 0 (by decide) (Nat.le_of_ble_eq_true rfl) rfl (fun G hG hR hF => ?_)
  refine pm_aloadn hG dX6_fail_0 rfl ?_
  refine pm_getf hG dX6_fail_1 (flX6_30 _ rfl) rfl rfl ?_
  refine pm_if_ge (tgt := 15) hG dX6_fail_4 rfl (fun c1 => ?_) (fun c1 => ?_)
  · exact pm_vret hG hF dX6_fail_15 rfl (Nat.le_refl _) (Nat.le_refl _) ⟨rfl, _, _, rfl, rfl, h⟩
  · refine pm_aloadn hG dX6_fail_7 rfl ?_
    refine pm_aloadn hG dX6_fail_8 rfl ?_
    refine pm_getf hG dX6_fail_9 (flX6_26 _ rfl) rfl rfl ?_
    refine pm_putf hG dX6_fail_12 (fwX6_30 _ rfl) rfl rfl rfl ?_
    refine nm_i106 h (fun I2 h2 => ?_)
    exact pm_vret hG hF dX6_fail_15 rfl (Nat.le_refl _) (Nat.le_refl _) ⟨rfl, _, _, rfl, rfl, h2⟩

set_option maxRecDepth 100000 in
set_option maxHeartbeats 4000000 in
theorem g_X6_isDigit {d B cnt : Nat} {kp : Value} {ρ : pm_S} {I : Nat → Int32} {A : Nat → Nat → Int32} {za : Int32} (hdd : 1 ≤ d) (h : gs I) : pm_met mX6_isDigit d 0 0 B [.int za] cnt (pm_two (cl_L B kp I A) ρ) (pm_Qi (fun v σ' cnt' => (v = 0 ∨ v = 1) ∧ hvc B kp ρ cnt σ' cnt')) := by
  refine pm_enter 0 (by decide) (Nat.le_of_ble_eq_true rfl) rfl (fun G hG hR hF => ?_)
  refine pm_iloadn hG dX6_isDigit_0 rfl ?_
  refine pm_bipush (v := 48) hG dX6_isDigit_1 (by decide) ?_
  refine pm_icmp_lt (tgt := 16) hG dX6_isDigit_3 rfl (fun c1 => ?_) (fun c1 => ?_)
  · refine pm_iconst (v := 0) hG dX6_isDigit_16 (by decide) ?_
    exact pm_zret hG hF dX6_isDigit_17 rfl (pm_nz (Or.inl rfl)) (Nat.le_refl _) (Nat.le_refl _) ⟨_, rfl, (Or.inl rfl), _, _, rfl, rfl, h⟩
  · refine pm_iloadn hG dX6_isDigit_6 rfl ?_
    refine pm_bipush (v := 57) hG dX6_isDigit_7 (by decide) ?_
    refine pm_icmp_gt (tgt := 16) hG dX6_isDigit_9 rfl (fun c2 => ?_) (fun c2 => ?_)
    · refine pm_iconst (v := 0) hG dX6_isDigit_16 (by decide) ?_
      exact pm_zret hG hF dX6_isDigit_17 rfl (pm_nz (Or.inl rfl)) (Nat.le_refl _) (Nat.le_refl _) ⟨_, rfl, (Or.inl rfl), _, _, rfl, rfl, h⟩
    · refine pm_iconst (v := 1) hG dX6_isDigit_12 (by decide) ?_
      refine pm_goto (tgt := 17) hG dX6_isDigit_13 rfl ?_
      exact pm_zret hG hF dX6_isDigit_17 rfl (pm_nz (Or.inr rfl)) (Nat.le_refl _) (Nat.le_refl _) ⟨_, rfl, (Or.inr rfl), _, _, rfl, rfl, h⟩

set_option maxRecDepth 100000 in
set_option maxHeartbeats 4000000 in
theorem g_X6_readClosing {d B cnt : Nat} {kp : Value} {ρ : pm_S} {I : Nat → Int32} {A : Nat → Nat → Int32} (hdd : 2 ≤ d) (h : gs I) : pm_met mX6_readClosing d 0 0 B [.ref (B + 27)] cnt (pm_two (cl_L B kp I A) ρ) (pm_Qv (fun σ' cnt' => hvc B kp ρ cnt σ' cnt')) := by
  refine pm_enter 0 (by decide) (Nat.le_of_ble_eq_true rfl) rfl (fun G hG hR hF => ?_)
  refine pm_aloadn hG dX6_readClosing_0 rfl ?_
  refine pm_callV (As := []) (rest := []) hG hR dX6_readClosing_1 (lkX6_47 _ rfl) okV_X6_next rfl rfl (g_X6_next (d := 1) (by decide) h) rfl rfl hdd (Nat.le_refl _) (Nat.le_refl _) (by decide) (pm_ki (fun v1 σ' cnt' hq => ?_))
  obtain ⟨I1, A1, rfl, rfl, h1⟩ := hq
  refine pm_bipush (v := 41) hG dX6_readClosing_4 (by decide) ?_
  refine pm_icmp_ne (tgt := 22) hG dX6_readClosing_6 rfl (fun c2 => ?_) (fun c2 => ?_)
  · refine pm_aloadn hG dX6_readClosing_22 rfl ?_
    refine pm_callV (As := []) (rest := []) hG hR dX6_readClosing_23 (lkX6_41 _ rfl) okV_X6_fail rfl rfl (g_X6_fail (d := 1) (by decide) h1) rfl rfl hdd (Nat.le_refl _) (Nat.le_refl _) (by decide) (pm_kv (fun σ' cnt' hq => ?_))
    obtain ⟨I3, A3, rfl, rfl, h3⟩ := hq
    exact pm_vret hG hF dX6_readClosing_26 rfl (Nat.le_refl _) (Nat.le_refl _) ⟨rfl, _, _, rfl, rfl, h3⟩
  · refine pm_aloadn hG dX6_readClosing_9 rfl ?_
    refine pm_dup hG dX6_readClosing_10 rfl ?_
    refine pm_getf hG dX6_readClosing_11 (flX6_26 _ rfl) rfl rfl ?_
    refine pm_iconst (v := 1) hG dX6_readClosing_14 (by decide) ?_
    refine pm_iadd hG dX6_readClosing_15 ?_
    refine pm_putf hG dX6_readClosing_16 (fwX6_26 _ rfl) rfl rfl rfl ?_
    refine nm_i105 h1 (fun I4 h4 => ?_)
    refine pm_goto (tgt := 26) hG dX6_readClosing_19 rfl ?_
    exact pm_vret hG hF dX6_readClosing_26 rfl (Nat.le_refl _) (Nat.le_refl _) ⟨rfl, _, _, rfl, rfl, h4⟩

set_option maxRecDepth 100000 in
set_option maxHeartbeats 4000000 in
theorem g_X6_readNumber {d B cnt : Nat} {kp : Value} {ρ : pm_S} {I : Nat → Int32} {A : Nat → Nat → Int32} (hdd : 2 ≤ d) (h : gs I) : pm_met mX6_readNumber d 0 0 B [.ref (B + 27)] cnt (pm_two (cl_L B kp I A) ρ) (pm_Qv (fun σ' cnt' => hvc B kp ρ cnt σ' cnt')) := by
  refine pm_enter 2 (by decide) (Nat.le_of_ble_eq_true rfl) rfl (fun G hG hR hF => ?_)
  refine pm_iconst (v := 0) hG dX6_readNumber_0 (by decide) ?_
  refine pm_istoreXn (loc' := [some (.ref (B + 27)), some (.int 0), none]) hG dX6_readNumber_1 (by decide) (pm_c1b rfl) rfl ?_
  refine pm_iconst (v := 0) hG dX6_readNumber_2 (by decide) ?_
  refine pm_istoreXn (loc' := [some (.ref (B + 27)), some (.int 0), some (.int 0)]) hG dX6_readNumber_3 (by decide) (pm_c1b rfl) rfl ?_
  have loop4 : ∀ (m4 : Nat) (I1 : Nat → Int32) (A1 : Nat → Nat → Int32) (x1_1 x1_2 : Int32), gs I1 → (¬ x1_2 < 0) → ((4 : Int32).toInt - x1_2.toInt).toNat < m4 → pm_wp mX6_readNumber G B 4 [some (.ref (B + 27)), some (.int x1_1), some (.int x1_2)] [] 0 0 cnt (pm_two (cl_L B kp I1 A1) ρ) := by
    intro m4
    induction m4 with
    | zero => intro I1 A1 x1_1 x1_2 _  _ hm; exact absurd hm (Nat.not_lt_zero _)
    | succ m4 ih4 =>
      intro I1 A1 x1_1 x1_2 h1 s4 hm4
      refine pm_iloadn hG dX6_readNumber_4 rfl ?_
      refine pm_iconst (v := 4) hG dX6_readNumber_5 (by decide) ?_
      refine pm_icmp_ge (tgt := 48) hG dX6_readNumber_6 rfl (fun c2 => ?_) (fun c2 => ?_)
      · refine pm_aloadn hG dX6_readNumber_48 rfl ?_
        refine pm_getf hG dX6_readNumber_49 (flX6_20 _ rfl) rfl rfl ?_
        refine pm_iloadn hG dX6_readNumber_52 rfl ?_
        obtain ⟨k3, hk3, hu3⟩ := gs.used h1 28 60 (by decide)
        have ht3 : pm_two (cl_L B kp I1 A1) ρ 28 = some (.inr (9, [.int (nI 60), .int (nI 1), .ref (B + 29), .int (nI k3)])) := by rw [← hu3]; rfl
        refine pm_callV (As := [.int x1_1]) (rest := []) hG hR dX6_readNumber_53 (lkX6_50 _ rfl) okV_X9_append rfl rfl (tb_append (d := 1) (by decide) ht3 rfl (by decide) (by decide) (by decide) (by decide) (by decide) (by decide) hk3) rfl rfl hdd (Nat.le_refl _) (Nat.le_refl _) (by decide) (pm_ki (fun v3 σ' cnt' hq => ?_))
        obtain ⟨I3, A3, rfl, rfl, h3⟩ := hv_p28 (kp := kp) (I := I1) (A := A1) hk3 h1 hq
        refine pm_pop hG dX6_readNumber_56 rfl ?_
        exact pm_vret hG hF dX6_readNumber_57 rfl (Nat.le_refl _) (Nat.le_refl _) ⟨rfl, _, _, rfl, rfl, h3⟩
      · refine pm_aloadn hG dX6_readNumber_9 rfl ?_
        refine pm_callV (As := []) (rest := []) hG hR dX6_readNumber_10 (lkX6_47 _ rfl) okV_X6_next rfl rfl (g_X6_next (d := 1) (by decide) h1) rfl rfl hdd (Nat.le_refl _) (Nat.le_refl _) (by decide) (pm_ki (fun v4 σ' cnt' hq => ?_))
        obtain ⟨I4, A4, rfl, rfl, h4⟩ := hq
        refine pm_callS (As := [.int v4]) (rest := []) hG hR dX6_readNumber_13 (lkX6_70 _ rfl) okS_X6_isDigit (g_X6_isDigit (d := 1) (by decide) h4) rfl rfl hdd (Nat.le_refl _) (Nat.le_refl _) (by decide) (pm_ki (fun v5 σ' cnt' hq => ?_))
        obtain ⟨b5, I5, A5, rfl, rfl, h5⟩ := hq
        refine pm_if_eq (tgt := 48) hG dX6_readNumber_16 rfl (fun c6 => ?_) (fun c6 => ?_)
        · refine pm_aloadn hG dX6_readNumber_48 rfl ?_
          refine pm_getf hG dX6_readNumber_49 (flX6_20 _ rfl) rfl rfl ?_
          refine pm_iloadn hG dX6_readNumber_52 rfl ?_
          obtain ⟨k7, hk7, hu7⟩ := gs.used h5 28 60 (by decide)
          have ht7 : pm_two (cl_L B kp I5 A5) ρ 28 = some (.inr (9, [.int (nI 60), .int (nI 1), .ref (B + 29), .int (nI k7)])) := by rw [← hu7]; rfl
          refine pm_callV (As := [.int x1_1]) (rest := []) hG hR dX6_readNumber_53 (lkX6_50 _ rfl) okV_X9_append rfl rfl (tb_append (d := 1) (by decide) ht7 rfl (by decide) (by decide) (by decide) (by decide) (by decide) (by decide) hk7) rfl rfl hdd (Nat.le_refl _) (Nat.le_refl _) (by decide) (pm_ki (fun v7 σ' cnt' hq => ?_))
          obtain ⟨I7, A7, rfl, rfl, h7⟩ := hv_p28 (kp := kp) (I := I5) (A := A5) hk7 h5 hq
          refine pm_pop hG dX6_readNumber_56 rfl ?_
          exact pm_vret hG hF dX6_readNumber_57 rfl (Nat.le_refl _) (Nat.le_refl _) ⟨rfl, _, _, rfl, rfl, h7⟩
        · refine pm_iloadn hG dX6_readNumber_19 rfl ?_
          refine pm_bipush (v := 10) hG dX6_readNumber_20 (by decide) ?_
          refine pm_imul hG dX6_readNumber_22 ?_
          refine pm_aloadn hG dX6_readNumber_23 rfl ?_
          refine pm_callV (As := []) (rest := [.int (x1_1 * 10)]) hG hR dX6_readNumber_24 (lkX6_47 _ rfl) okV_X6_next rfl rfl (g_X6_next (d := 1) (by decide) h5) rfl rfl hdd (Nat.le_refl _) (Nat.le_refl _) (by first | decide | exact Nat.le_of_ble_eq_true rfl) (pm_ki (fun v8 σ' cnt' hq => ?_))
          obtain ⟨I8, A8, rfl, rfl, h8⟩ := hq
          refine pm_iadd hG dX6_readNumber_27 ?_
          refine pm_bipush (v := 48) hG dX6_readNumber_28 (by decide) ?_
          refine pm_isub hG dX6_readNumber_30 ?_
          refine pm_istoreXn (loc' := [some (.ref (B + 27)), some (.int (((x1_1 * 10) + v8) - 48)), some (.int x1_2)]) hG dX6_readNumber_31 (by decide) (pm_c1b rfl) rfl ?_
          refine pm_aloadn hG dX6_readNumber_32 rfl ?_
          refine pm_dup hG dX6_readNumber_33 rfl ?_
          refine pm_getf hG dX6_readNumber_34 (flX6_26 _ rfl) rfl rfl ?_
          refine pm_iconst (v := 1) hG dX6_readNumber_37 (by decide) ?_
          refine pm_iadd hG dX6_readNumber_38 ?_
          refine pm_putf hG dX6_readNumber_39 (fwX6_26 _ rfl) rfl rfl rfl ?_
          refine nm_i105 h8 (fun I9 h9 => ?_)
          refine pm_iincX (v := x1_2 + 1) (loc' := [some (.ref (B + 27)), some (.int (((x1_1 * 10) + v8) - 48)), some (.int (x1_2 + 1))]) hG dX6_readNumber_42 rfl (by rfl) (by decide) (pm_c1b rfl) rfl ?_
          refine pm_goto (tgt := 4) hG dX6_readNumber_45 rfl ?_
          exact ih4 _ _ (((x1_1 * 10) + v8) - 48) (x1_2 + 1) h9 (pm_sd1 c2 s4) (Nat.lt_of_lt_of_le (pm_mu1 c2) (Nat.le_of_lt_succ hm4))
  exact loop4 _ _ _ 0 0 h (by decide) (Nat.lt_succ_self _)
