set_option maxRecDepth 100000 in
set_option maxHeartbeats 4000000 in
theorem g_X11_strike {ε : Nat → Int32} {d B cnt : Nat} {kp : pm_KP} {ρ : pm_S} {I : Nat → Int32} {A : Nat → Nat → Int32} {za : Int32} (hdd : 2 ≤ d) (h : gq ε I) : pm_met mX11_strike d 0 0 B [.ref (B + 0), .int za] cnt (pm_two (cl_L B kp I A) ρ) (pm_Qi (fun _ σ' cnt' => hvq ε B kp ρ cnt σ' cnt')) := by
  refine pm_enter 0 (by decide) (Nat.le_of_ble_eq_true rfl) rfl (fun G hG hR hF => ?_)
  refine pm_aloadn hG dX11_strike_0 rfl ?_
  refine pm_getf hG dX11_strike_1 (flX11_12 _ rfl) rfl rfl ?_
  refine pm_getf hG dX11_strike_4 (flX11_209 _ rfl) rfl rfl ?_
  refine pm_iloadn hG dX11_strike_7 rfl ?_
  refine pm_callV (As := [.int za]) (rest := []) hG hR dX11_strike_8 (lkX11_101 _ rfl) okV_X9_has rfl rfl (tb_has (d := 1) rfl) rfl rfl hdd (Nat.le_refl _) (Nat.le_refl _) (by decide) (pm_ki (fun v1 σ' cnt' hq => ?_))
  have b1 := pm_b01 hq.1
  obtain ⟨I1, A1, rfl, rfl, h1⟩ := hv_id (kp := kp) (I := I) (A := A) h hq.2
  refine pm_if_ne (tgt := 21) hG dX11_strike_11 rfl (fun c2 => ?_) (fun c2 => ?_)
  · refine pm_aloadn hG dX11_strike_21 rfl ?_
    refine pm_getf hG dX11_strike_22 (flX11_21 _ rfl) rfl rfl ?_
    refine pm_iloadn hG dX11_strike_25 rfl ?_
    refine pm_callV (As := [.int za]) (rest := []) hG hR dX11_strike_26 (lkX11_214 _ rfl) okV_X2_isStruck rfl rfl (g_X2_isStruck (d := 1) (by decide) h1) rfl rfl hdd (Nat.le_refl _) (Nat.le_refl _) (by decide) (pm_ki (fun v3 σ' cnt' hq => ?_))
    obtain ⟨b3, I3, A3, rfl, rfl, h3⟩ := hq
    refine pm_if_eq (tgt := 39) hG dX11_strike_29 rfl (fun c4 => ?_) (fun c4 => ?_)
    · refine pm_aloadn hG dX11_strike_39 rfl ?_
      refine pm_getf hG dX11_strike_40 (flX11_21 _ rfl) rfl rfl ?_
      refine pm_iloadn hG dX11_strike_43 rfl ?_
      refine pm_callV (As := [.int za]) (rest := []) hG hR dX11_strike_44 (lkX11_217 _ rfl) okV_X2_strikeOut rfl rfl (g_X2_strikeOut (d := 1) (by decide) h3) rfl rfl hdd (Nat.le_refl _) (Nat.le_refl _) (by decide) (pm_kv (fun σ' cnt' hq => ?_))
      obtain ⟨I5, A5, rfl, rfl, h5⟩ := hq
      refine pm_iconst (v := 1) hG dX11_strike_47 (by decide) ?_
      exact pm_iret hG hF dX11_strike_48 rfl (Nat.le_refl _) (Nat.le_refl _) ⟨_, rfl, _, _, rfl, rfl, h5⟩
    · refine pm_aloadn hG dX11_strike_32 rfl ?_
      refine pm_ldc hG dX11_strike_33 (ctX11_138 _ rfl) ?_
      refine pm_callV (As := [.int (-1000003)]) (rest := []) hG hR dX11_strike_35 (lkX11_97 _ rfl) okV_X11_told rfl rfl (sx_told (d := 1) (by decide) rfl rfl) rfl rfl hdd (Nat.le_refl _) (Nat.le_refl _) (by decide) (pm_ki (fun v6 σ' cnt' hq => ?_))
      obtain ⟨-, ⟨g6, hg6⟩, hc6⟩ := hq
      obtain ⟨I6, A6, rfl, rfl, h6⟩ := hv_a53 (kp := kp) (I := I3) (A := A3) h3 ⟨hg6, hc6⟩
      exact pm_iret hG hF dX11_strike_38 rfl (Nat.le_refl _) (Nat.le_refl _) ⟨_, rfl, _, _, rfl, rfl, h6⟩
  · refine pm_aloadn hG dX11_strike_14 rfl ?_
    refine pm_ldc hG dX11_strike_15 (ctX11_109 _ rfl) ?_
    refine pm_callV (As := [.int (-1000001)]) (rest := []) hG hR dX11_strike_17 (lkX11_97 _ rfl) okV_X11_told rfl rfl (sx_told (d := 1) (by decide) rfl rfl) rfl rfl hdd (Nat.le_refl _) (Nat.le_refl _) (by decide) (pm_ki (fun v7 σ' cnt' hq => ?_))
    obtain ⟨-, ⟨g7, hg7⟩, hc7⟩ := hq
    obtain ⟨I7, A7, rfl, rfl, h7⟩ := hv_a53 (kp := kp) (I := I1) (A := A1) h1 ⟨hg7, hc7⟩
    exact pm_iret hG hF dX11_strike_20 rfl (Nat.le_refl _) (Nat.le_refl _) ⟨_, rfl, _, _, rfl, rfl, h7⟩

set_option maxRecDepth 100000 in
set_option maxHeartbeats 4000000 in
theorem g_X11_tell {ε : Nat → Int32} {d B cnt : Nat} {kp : pm_KP} {ρ : pm_S} {I : Nat → Int32} {A : Nat → Nat → Int32} {za : Int32} (hdd : 2 ≤ d) (h : gq ε I) : pm_met mX11_tell d 0 0 B [.ref (B + 0), .int za] cnt (pm_two (cl_L B kp I A) ρ) (pm_Qi (fun _ σ' cnt' => hvq ε B kp ρ cnt σ' cnt')) := by
  refine pm_enter 0 (by decide) (Nat.le_of_ble_eq_true rfl) rfl (fun G hG hR hF => ?_)
  refine pm_aloadn hG dX11_tell_0 rfl ?_
  refine pm_getf hG dX11_tell_1 (flX11_12 _ rfl) rfl rfl ?_
  refine pm_getf hG dX11_tell_4 (flX11_386 _ rfl) rfl rfl ?_
  refine pm_callV (As := []) (rest := []) hG hR dX11_tell_7 (lkX11_86 _ rfl) okV_X9_isFull rfl rfl (tb_isFull (d := 1) rfl) rfl rfl hdd (Nat.le_refl _) (Nat.le_refl _) (by decide) (pm_ki (fun v1 σ' cnt' hq => ?_))
  have b1 := pm_b01 hq.1
  obtain ⟨I1, A1, rfl, rfl, h1⟩ := hv_id (kp := kp) (I := I) (A := A) h hq.2
  refine pm_if_eq (tgt := 20) hG dX11_tell_10 rfl (fun c2 => ?_) (fun c2 => ?_)
  · refine pm_aloadn hG dX11_tell_20 rfl ?_
    refine pm_getf hG dX11_tell_21 (flX11_12 _ rfl) rfl rfl ?_
    refine pm_getf hG dX11_tell_24 (flX11_386 _ rfl) rfl rfl ?_
    refine pm_iloadn hG dX11_tell_27 rfl ?_
    obtain ⟨k3, hk3, hu3⟩ := gq.used h1 22 20 (by decide)
    have ht3 : pm_two (cl_L B kp I1 A1) ρ 22 = some (.inr (9, [.int (nI 20), .int (nI 1), .ref (B + 23), .int (nI k3)])) := by rw [← hu3]; rfl
    refine pm_callV (As := [.int za]) (rest := []) hG hR dX11_tell_28 (lkX11_206 _ rfl) okV_X9_append rfl rfl (tb_append (d := 1) (by decide) ht3 rfl (by decide) (by decide) (by decide) (by decide) (by decide) (by decide) hk3) rfl rfl hdd (Nat.le_refl _) (Nat.le_refl _) (by decide) (pm_ki (fun v3 σ' cnt' hq => ?_))
    obtain ⟨I3, A3, rfl, rfl, h3⟩ := hv_p22 (kp := kp) (I := I1) (A := A1) hk3 h1 hq
    refine pm_pop hG dX11_tell_31 rfl ?_
    refine pm_aloadn hG dX11_tell_32 rfl ?_
    refine pm_getf hG dX11_tell_33 (flX11_12 _ rfl) rfl rfl ?_
    refine pm_getf hG dX11_tell_36 (flX11_386 _ rfl) rfl rfl ?_
    refine pm_callV (As := []) (rest := []) hG hR dX11_tell_39 (lkX11_203 _ rfl) okV_X9_used rfl rfl (tb_used (d := 1) rfl) rfl rfl hdd (Nat.le_refl _) (Nat.le_refl _) (by decide) (pm_ki (fun v4 σ' cnt' hq => ?_))
    obtain ⟨I4, A4, rfl, rfl, h4⟩ := hv_id (kp := kp) (I := I3) (A := A3) h3 hq.2
    exact pm_iret hG hF dX11_tell_42 rfl (Nat.le_refl _) (Nat.le_refl _) ⟨_, rfl, _, _, rfl, rfl, h4⟩
  · refine pm_aloadn hG dX11_tell_13 rfl ?_
    refine pm_ldc hG dX11_tell_14 (ctX11_92 _ rfl) ?_
    refine pm_callV (As := [.int (-1000004)]) (rest := []) hG hR dX11_tell_16 (lkX11_97 _ rfl) okV_X11_told rfl rfl (sx_told (d := 1) (by decide) rfl rfl) rfl rfl hdd (Nat.le_refl _) (Nat.le_refl _) (by decide) (pm_ki (fun v5 σ' cnt' hq => ?_))
    obtain ⟨-, ⟨g5, hg5⟩, hc5⟩ := hq
    obtain ⟨I5, A5, rfl, rfl, h5⟩ := hv_a53 (kp := kp) (I := I1) (A := A1) h1 ⟨hg5, hc5⟩
    exact pm_iret hG hF dX11_tell_19 rfl (Nat.le_refl _) (Nat.le_refl _) ⟨_, rfl, _, _, rfl, rfl, h5⟩

set_option maxRecDepth 100000 in
set_option maxHeartbeats 4000000 in
theorem g_X11_trace {ε : Nat → Int32} {d B cnt : Nat} {kp : pm_KP} {ρ : pm_S} {I : Nat → Int32} {A : Nat → Nat → Int32} {za : Int32} (hdd : 2 ≤ d) (h : gq ε I) : pm_met mX11_trace d 0 0 B [.ref (B + 0), .int za] cnt (pm_two (cl_L B kp I A) ρ) (pm_Qi (fun _ σ' cnt' => hvq ε B kp ρ cnt σ' cnt')) := by
  refine pm_enter 0 (by decide) (Nat.le_of_ble_eq_true rfl) rfl (fun G hG hR hF => ?_)
  refine pm_aloadn hG dX11_trace_0 rfl ?_
  refine pm_iloadn hG dX11_trace_1 rfl ?_
  refine pm_if_lt (tgt := 27) hG dX11_trace_2 rfl (fun c1 => ?_) (fun c1 => ?_)
  · refine pm_ldc hG dX11_trace_27 (ctX11_223 _ rfl) ?_
    refine pm_callV (As := [.int (-1000002)]) (rest := []) hG hR dX11_trace_29 (lkX11_97 _ rfl) okV_X11_told rfl rfl (sx_told (d := 1) (by decide) rfl rfl) rfl rfl hdd (Nat.le_refl _) (Nat.le_refl _) (by decide) (pm_ki (fun v2 σ' cnt' hq => ?_))
    obtain ⟨-, ⟨g2, hg2⟩, hc2⟩ := hq
    obtain ⟨I2, A2, rfl, rfl, h2⟩ := hv_a53 (kp := kp) (I := I) (A := A) h ⟨hg2, hc2⟩
    exact pm_iret hG hF dX11_trace_32 rfl (Nat.le_refl _) (Nat.le_refl _) ⟨_, rfl, _, _, rfl, rfl, h2⟩
  · refine pm_iloadn hG dX11_trace_5 rfl ?_
    refine pm_aloadn hG dX11_trace_6 rfl ?_
    refine pm_getf hG dX11_trace_7 (flX11_67 _ rfl) rfl rfl ?_
    refine pm_getf hG dX11_trace_10 (flX11_358 _ rfl) rfl rfl ?_
    refine pm_icmp_ge (tgt := 27) hG dX11_trace_13 rfl (fun c3 => ?_) (fun c3 => ?_)
    · refine pm_ldc hG dX11_trace_27 (ctX11_223 _ rfl) ?_
      refine pm_callV (As := [.int (-1000002)]) (rest := []) hG hR dX11_trace_29 (lkX11_97 _ rfl) okV_X11_told rfl rfl (sx_told (d := 1) (by decide) rfl rfl) rfl rfl hdd (Nat.le_refl _) (Nat.le_refl _) (by decide) (pm_ki (fun v4 σ' cnt' hq => ?_))
      obtain ⟨-, ⟨g4, hg4⟩, hc4⟩ := hq
      obtain ⟨I4, A4, rfl, rfl, h4⟩ := hv_a53 (kp := kp) (I := I) (A := A) h ⟨hg4, hc4⟩
      exact pm_iret hG hF dX11_trace_32 rfl (Nat.le_refl _) (Nat.le_refl _) ⟨_, rfl, _, _, rfl, rfl, h4⟩
    · refine pm_aloadn hG dX11_trace_16 rfl ?_
      refine pm_getf hG dX11_trace_17 (flX11_67 _ rfl) rfl rfl ?_
      refine pm_iloadn hG dX11_trace_20 rfl ?_
      refine pm_callV (As := [.int za]) (rest := [.ref (B + 0)]) hG hR dX11_trace_21 (lkX11_361 _ rfl) okV_X10_bodyAt rfl rfl (g_X10_bodyAt (d := 1) (by decide) h) rfl rfl hdd (Nat.le_refl _) (Nat.le_refl _) (by first | decide | exact Nat.le_of_ble_eq_true rfl) (pm_ki (fun v5 σ' cnt' hq => ?_))
      obtain ⟨I5, A5, rfl, rfl, h5⟩ := hq
      refine pm_goto (tgt := 29) hG dX11_trace_24 rfl ?_
      refine pm_callV (As := [.int v5]) (rest := []) hG hR dX11_trace_29 (lkX11_97 _ rfl) okV_X11_told rfl rfl (sx_told (d := 1) (by decide) rfl rfl) rfl rfl hdd (Nat.le_refl _) (Nat.le_refl _) (by decide) (pm_ki (fun v6 σ' cnt' hq => ?_))
      obtain ⟨-, ⟨g6, hg6⟩, hc6⟩ := hq
      obtain ⟨I6, A6, rfl, rfl, h6⟩ := hv_a53 (kp := kp) (I := I5) (A := A5) h5 ⟨hg6, hc6⟩
      exact pm_iret hG hF dX11_trace_32 rfl (Nat.le_refl _) (Nat.le_refl _) ⟨_, rfl, _, _, rfl, rfl, h6⟩

set_option maxRecDepth 100000 in
set_option maxHeartbeats 4000000 in
theorem g_X11_voice {ε : Nat → Int32} {d B cnt : Nat} {kp : pm_KP} {ρ : pm_S} {I : Nat → Int32} {A : Nat → Nat → Int32} {za zb zc : Int32} (hdd : 11 ≤ d) (h : gq ε I) : pm_met mX11_voice d 0 0 B [.ref (B + 0), .int za, .int zb, .int zc] cnt (pm_two (cl_L B kp I A) ρ) (pm_Qi (fun _ σ' cnt' => hvq ε B kp ρ cnt σ' cnt')) := by
  refine pm_enter 0 (by decide) (Nat.le_of_ble_eq_true rfl) rfl (fun G hG hR hF => ?_)
  refine pm_aloadn hG dX11_voice_0 rfl ?_
  refine pm_getf hG dX11_voice_1 (flX11_12 _ rfl) rfl rfl ?_
  refine pm_getf hG dX11_voice_4 (flX11_161 _ rfl) rfl rfl ?_
  refine pm_iloadn hG dX11_voice_7 rfl ?_
  refine pm_callV (As := [.int za]) (rest := []) hG hR dX11_voice_8 (lkX11_101 _ rfl) okV_X9_has rfl rfl (tb_has (d := 10) rfl) rfl rfl hdd (Nat.le_refl _) (Nat.le_refl _) (by decide) (pm_ki (fun v1 σ' cnt' hq => ?_))
  have b1 := pm_b01 hq.1
  obtain ⟨I1, A1, rfl, rfl, h1⟩ := hv_id (kp := kp) (I := I) (A := A) h hq.2
  refine pm_if_eq (tgt := 23) hG dX11_voice_11 rfl (fun c2 => ?_) (fun c2 => ?_)
  · refine pm_aloadn hG dX11_voice_23 rfl ?_
    refine pm_ldc hG dX11_voice_24 (ctX11_109 _ rfl) ?_
    refine pm_callV (As := [.int (-1000001)]) (rest := []) hG hR dX11_voice_26 (lkX11_97 _ rfl) okV_X11_told rfl rfl (sx_told (d := 10) (by decide) rfl rfl) rfl rfl hdd (Nat.le_refl _) (Nat.le_refl _) (by decide) (pm_ki (fun v3 σ' cnt' hq => ?_))
    obtain ⟨-, ⟨g3, hg3⟩, hc3⟩ := hq
    obtain ⟨I3, A3, rfl, rfl, h3⟩ := hv_a53 (kp := kp) (I := I1) (A := A1) h1 ⟨hg3, hc3⟩
    exact pm_iret hG hF dX11_voice_29 rfl (Nat.le_refl _) (Nat.le_refl _) ⟨_, rfl, _, _, rfl, rfl, h3⟩
  · refine pm_iloadn hG dX11_voice_14 rfl ?_
    refine pm_iconst (v := 0) hG dX11_voice_15 (by decide) ?_
    refine pm_iconst (v := 3) hG dX11_voice_16 (by decide) ?_
    refine pm_callS (As := [.int zb, .int 0, .int 3]) (rest := []) hG hR dX11_voice_17 (lkX11_105 _ rfl) okS_X11_isOutside (sx_isOutside (d := 10)) rfl rfl hdd (Nat.le_refl _) (Nat.le_refl _) (by decide) (pm_ki (fun v4 σ' cnt' hq => ?_))
    have o4 := hq.1
    have b4 := pm_b10 hq.1
    obtain ⟨I4, A4, rfl, rfl, h4⟩ := hv_id (kp := kp) (I := I1) (A := A1) h1 hq.2
    refine pm_if_eq (tgt := 30) hG dX11_voice_20 rfl (fun c5 => ?_) (fun c5 => ?_)
    · refine pm_aloadn hG dX11_voice_30 rfl ?_
      refine pm_getf hG dX11_voice_31 (flX11_67 _ rfl) rfl rfl ?_
      refine pm_aloadn hG dX11_voice_34 rfl ?_
      refine pm_getf hG dX11_voice_35 (flX11_12 _ rfl) rfl rfl ?_
      refine pm_getf hG dX11_voice_38 (flX11_161 _ rfl) rfl rfl ?_
      refine pm_iloadn hG dX11_voice_41 rfl ?_
      refine pm_iconst (v := 0) hG dX11_voice_42 (by decide) ?_
      refine pm_callV (As := [.int za, .int 0]) (rest := [.ref (B + 46)]) hG hR dX11_voice_43 (lkX11_152 _ rfl) okV_X9_get rfl rfl (tb_get (d := 10) rfl rfl (pm_tw_of 20 6 (by decide) (by decide) (by decide))) rfl rfl hdd (Nat.le_refl _) (Nat.le_refl _) (by first | decide | exact Nat.le_of_ble_eq_true rfl) (pm_ki (fun v6 σ' cnt' hq => ?_))
      obtain ⟨I6, A6, rfl, rfl, h6⟩ := hv_id (kp := kp) (I := I4) (A := A4) h4 hq.2
      refine pm_iloadn hG dX11_voice_46 rfl ?_
      refine pm_aloadn hG dX11_voice_47 rfl ?_
      refine pm_getf hG dX11_voice_48 (flX11_12 _ rfl) rfl rfl ?_
      refine pm_getf hG dX11_voice_51 (flX11_161 _ rfl) rfl rfl ?_
      refine pm_iloadn hG dX11_voice_54 rfl ?_
      refine pm_iconst (v := 1) hG dX11_voice_55 (by decide) ?_
      refine pm_callV (As := [.int za, .int 1]) (rest := [.int za, .int v6, .ref (B + 46)]) hG hR dX11_voice_56 (lkX11_152 _ rfl) okV_X9_get rfl rfl (tb_get (d := 10) rfl rfl (pm_tw_of 20 6 (by decide) (by decide) (by decide))) rfl rfl hdd (Nat.le_refl _) (Nat.le_refl _) (by first | decide | exact Nat.le_of_ble_eq_true rfl) (pm_ki (fun v7 σ' cnt' hq => ?_))
      obtain ⟨I7, A7, rfl, rfl, h7⟩ := hv_id (kp := kp) (I := I6) (A := A6) h6 hq.2
      refine pm_callV (As := [.int v6, .int za, .int v7]) (rest := []) hG hR dX11_voice_59 (lkX11_353 _ rfl) okV_X10_begin rfl rfl (g_X10_begin (d := 10) (by decide) h7) rfl rfl hdd (Nat.le_refl _) (Nat.le_refl _) (by decide) (pm_kv (fun σ' cnt' hq => ?_))
      obtain ⟨I8, A8, rfl, rfl, h8⟩ := hq
      refine pm_aloadn hG dX11_voice_62 rfl ?_
      refine pm_getf hG dX11_voice_63 (flX11_67 _ rfl) rfl rfl ?_
      refine pm_iloadn hG dX11_voice_66 rfl ?_
      refine pm_iloadn hG dX11_voice_67 rfl ?_
      refine pm_callV (As := [.int zb, .int zc]) (rest := []) hG hR dX11_voice_68 (lkX11_355 _ rfl) okV_X10_speak rfl rfl (g_X10_speak (d := 10) (by decide) h8) rfl rfl hdd (Nat.le_refl _) (Nat.le_refl _) (by decide) (pm_ki (fun v9 σ' cnt' hq => ?_))
      obtain ⟨I9, A9, rfl, rfl, h9⟩ := hq
      exact pm_iret hG hF dX11_voice_71 rfl (Nat.le_refl _) (Nat.le_refl _) ⟨_, rfl, _, _, rfl, rfl, h9⟩
    · refine pm_aloadn hG dX11_voice_23 rfl ?_
      refine pm_ldc hG dX11_voice_24 (ctX11_109 _ rfl) ?_
      refine pm_callV (As := [.int (-1000001)]) (rest := []) hG hR dX11_voice_26 (lkX11_97 _ rfl) okV_X11_told rfl rfl (sx_told (d := 10) (by decide) rfl rfl) rfl rfl hdd (Nat.le_refl _) (Nat.le_refl _) (by decide) (pm_ki (fun v10 σ' cnt' hq => ?_))
      obtain ⟨-, ⟨g10, hg10⟩, hc10⟩ := hq
      obtain ⟨I10, A10, rfl, rfl, h10⟩ := hv_a53 (kp := kp) (I := I4) (A := A4) h4 ⟨hg10, hc10⟩
      exact pm_iret hG hF dX11_voice_29 rfl (Nat.le_refl _) (Nat.le_refl _) ⟨_, rfl, _, _, rfl, rfl, h10⟩

set_option maxRecDepth 100000 in
set_option maxHeartbeats 4000000 in
theorem g_X5_before {ε : Nat → Int32} {d B cnt : Nat} {kp : pm_KP} {ρ : pm_S} {I : Nat → Int32} {A : Nat → Nat → Int32} {za zb : Int32} (hdd : 1 ≤ d) (h : gq ε I) : pm_met mX5_before d 0 0 B [.int za, .int zb] cnt (pm_two (cl_L B kp I A) ρ) (pm_Qi (fun _ σ' cnt' => hvq ε B kp ρ cnt σ' cnt')) := by
  refine pm_enter 1 (by decide) (Nat.le_of_ble_eq_true rfl) rfl (fun G hG hR hF => ?_)
  refine pm_iloadn hG dX5_before_0 rfl ?_
  refine pm_if_ne (tgt := 8) hG dX5_before_1 rfl (fun c1 => ?_) (fun c1 => ?_)
  · refine pm_iloadn hG dX5_before_8 rfl ?_
    refine pm_iconst (v := 1) hG dX5_before_9 (by decide) ?_
    refine pm_iloadn hG dX5_before_10 rfl ?_
    refine pm_iconst (v := 1) hG dX5_before_11 (by decide) ?_
    refine pm_isub hG dX5_before_12 ?_
    refine pm_ishl hG dX5_before_13 ?_
    refine pm_iconst (v := (-1)) hG dX5_before_14 (by decide) ?_
    refine pm_ixor hG dX5_before_15 ?_
    refine pm_iand hG dX5_before_16 ?_
    refine pm_istoreXn (loc' := [some (.int za), some (.int zb), some (.int (za &&& ((1 <<< ((zb - 1) &&& 31)) ^^^ (-1))))]) hG dX5_before_17 (by decide) (pm_c1b rfl) rfl ?_
    refine pm_iloadn hG dX5_before_18 rfl ?_
    refine pm_bipush (v := 63) hG dX5_before_19 (by decide) ?_
    refine pm_iand hG dX5_before_21 ?_
    exact pm_iret hG hF dX5_before_22 rfl (Nat.le_refl _) (Nat.le_refl _) ⟨_, rfl, _, _, rfl, rfl, h⟩
  · refine pm_iloadn hG dX5_before_4 rfl ?_
    refine pm_goto (tgt := 17) hG dX5_before_5 rfl ?_
    refine pm_istoreXn (loc' := [some (.int za), some (.int zb), some (.int za)]) hG dX5_before_17 (by decide) (pm_c1b rfl) rfl ?_
    refine pm_iloadn hG dX5_before_18 rfl ?_
    refine pm_bipush (v := 63) hG dX5_before_19 (by decide) ?_
    refine pm_iand hG dX5_before_21 ?_
    exact pm_iret hG hF dX5_before_22 rfl (Nat.le_refl _) (Nat.le_refl _) ⟨_, rfl, _, _, rfl, rfl, h⟩

set_option maxRecDepth 100000 in
set_option maxHeartbeats 4000000 in
theorem g_X7_bringNearer {ε : Nat → Int32} {d B cnt : Nat} {kp : pm_KP} {ρ : pm_S} {I : Nat → Int32} {A : Nat → Nat → Int32} {za zb : Int32} (hdd : 1 ≤ d) (h : gq ε I) : pm_met mX7_bringNearer d 0 0 B [.ref (B + 1), .int za, .int zb] cnt (pm_two (cl_L B kp I A) ρ) (pm_Qv (fun σ' cnt' => hvq ε B kp ρ cnt σ' cnt')) := by
  refine pm_enter 2 (by decide) (Nat.le_of_ble_eq_true rfl) rfl (fun G hG hR hF => ?_)
  refine pm_iloadn hG dX7_bringNearer_0 rfl ?_
  refine pm_iconst (v := (-1)) hG dX7_bringNearer_1 (by decide) ?_
  refine pm_icmp_eq (tgt := 64) hG dX7_bringNearer_2 rfl (fun c1 => ?_) (fun c1 => ?_)
  · exact pm_vret hG hF dX7_bringNearer_64 rfl (Nat.le_refl _) (Nat.le_refl _) ⟨rfl, _, _, rfl, rfl, h⟩
  · refine pm_aloadn hG dX7_bringNearer_5 rfl ?_
    refine pm_getf hG dX7_bringNearer_6 (flX7_23 _ rfl) rfl rfl ?_
    refine pm_iloadn hG dX7_bringNearer_9 rfl ?_
    refine pm_bipush (v := 11) hG dX7_bringNearer_10 (by decide) ?_
    refine pm_callV (As := [.int za, .int 11]) (rest := []) hG hR dX7_bringNearer_12 (lkX7_83 _ rfl) okV_X9_get rfl rfl (tb_get (d := 0) rfl rfl (pm_tw_of 20 14 (by decide) (by decide) (by decide))) rfl rfl hdd (Nat.le_refl _) (Nat.le_refl _) (by decide) (pm_ki (fun v2 σ' cnt' hq => ?_))
    obtain ⟨I2, A2, rfl, rfl, h2⟩ := hv_id (kp := kp) (I := I) (A := A) h hq.2
    refine pm_istoreXn (loc' := [some (.ref (B + 1)), some (.int za), some (.int zb), some (.int v2), none]) hG dX7_bringNearer_15 (by decide) (pm_c1b rfl) rfl ?_
    refine pm_aloadn hG dX7_bringNearer_16 rfl ?_
    refine pm_getf hG dX7_bringNearer_17 (flX7_23 _ rfl) rfl rfl ?_
    refine pm_iloadn hG dX7_bringNearer_20 rfl ?_
    refine pm_bipush (v := 11) hG dX7_bringNearer_21 (by decide) ?_
    refine pm_callV (As := [.int zb, .int 11]) (rest := []) hG hR dX7_bringNearer_23 (lkX7_83 _ rfl) okV_X9_get rfl rfl (tb_get (d := 0) rfl rfl (pm_tw_of 20 14 (by decide) (by decide) (by decide))) rfl rfl hdd (Nat.le_refl _) (Nat.le_refl _) (by decide) (pm_ki (fun v3 σ' cnt' hq => ?_))
    obtain ⟨I3, A3, rfl, rfl, h3⟩ := hv_id (kp := kp) (I := I2) (A := A2) h2 hq.2
    refine pm_istoreXi (loc' := [some (.ref (B + 1)), some (.int za), some (.int zb), some (.int v2), some (.int v3)]) hG dX7_bringNearer_26 (by decide) (pm_c1b rfl) rfl ?_
    refine pm_aloadn hG dX7_bringNearer_28 rfl ?_
    refine pm_getf hG dX7_bringNearer_29 (flX7_23 _ rfl) rfl rfl ?_
    refine pm_iloadn hG dX7_bringNearer_32 rfl ?_
    refine pm_bipush (v := 11) hG dX7_bringNearer_33 (by decide) ?_
    refine pm_iloadn hG dX7_bringNearer_35 rfl ?_
    refine pm_iloadi hG dX7_bringNearer_36 rfl ?_
    refine pm_iconst (v := 1) hG dX7_bringNearer_38 (by decide) ?_
    refine pm_iadd hG dX7_bringNearer_39 ?_
    refine pm_mmin hG hR dX7_bringNearer_40 (mmX7_87 _ rfl) pm_mwmin (by omega) (by first | decide | exact Nat.le_of_ble_eq_true rfl) (Nat.le_refl _) (Nat.le_refl _) ?_
    refine pm_callV (As := [.int za, .int 11, .int (if (v3 + 1) < v2 then v3 + 1 else v2)]) (rest := []) hG hR dX7_bringNearer_43 (lkX7_61 _ rfl) okV_X9_set rfl rfl (tb_set (d := 0) (rows := nI 20) (width := nI 14) (f := cmx kp.2 (A3 7)) rfl rfl (pm_tw_of 20 14 (by decide) (by decide) (by decide)) (by decide)) rfl rfl hdd (Nat.le_refl _) (Nat.le_refl _) (by decide) (pm_kv (fun σ' cnt' hq => ?_))
    obtain ⟨I4, A4, rfl, rfl, h4⟩ := hv_s7 (kp := kp) (I := I3) (A := A3) (ts7 11 (by decide) (by decide)) h3 hq
    refine pm_aloadn hG dX7_bringNearer_46 rfl ?_
    refine pm_getf hG dX7_bringNearer_47 (flX7_23 _ rfl) rfl rfl ?_
    refine pm_iloadn hG dX7_bringNearer_50 rfl ?_
    refine pm_bipush (v := 11) hG dX7_bringNearer_51 (by decide) ?_
    refine pm_iloadi hG dX7_bringNearer_53 rfl ?_
    refine pm_iloadn hG dX7_bringNearer_55 rfl ?_
    refine pm_iconst (v := 1) hG dX7_bringNearer_56 (by decide) ?_
    refine pm_iadd hG dX7_bringNearer_57 ?_
    refine pm_mmin hG hR dX7_bringNearer_58 (mmX7_87 _ rfl) pm_mwmin (by omega) (by first | decide | exact Nat.le_of_ble_eq_true rfl) (Nat.le_refl _) (Nat.le_refl _) ?_
    refine pm_callV (As := [.int zb, .int 11, .int (if (v2 + 1) < v3 then v2 + 1 else v3)]) (rest := []) hG hR dX7_bringNearer_61 (lkX7_61 _ rfl) okV_X9_set rfl rfl (tb_set (d := 0) (rows := nI 20) (width := nI 14) (f := cmx kp.2 (A4 7)) rfl rfl (pm_tw_of 20 14 (by decide) (by decide) (by decide)) (by decide)) rfl rfl hdd (Nat.le_refl _) (Nat.le_refl _) (by decide) (pm_kv (fun σ' cnt' hq => ?_))
    obtain ⟨I5, A5, rfl, rfl, h5⟩ := hv_s7 (kp := kp) (I := I4) (A := A4) (ts7 11 (by decide) (by decide)) h4 hq
    exact pm_vret hG hF dX7_bringNearer_64 rfl (Nat.le_refl _) (Nat.le_refl _) ⟨rfl, _, _, rfl, rfl, h5⟩

set_option maxRecDepth 100000 in
set_option maxHeartbeats 4000000 in
theorem g_X7_bringTravellers {ε : Nat → Int32} {d B cnt : Nat} {kp : pm_KP} {ρ : pm_S} {I : Nat → Int32} {A : Nat → Nat → Int32} (hdd : 1 ≤ d) (h : gq ε I) : pm_met mX7_bringTravellers d 0 0 B [.ref (B + 1)] cnt (pm_two (cl_L B kp I A) ρ) (pm_Qv (fun σ' cnt' => hvq ε B kp ρ cnt σ' cnt')) := by
  refine pm_enter 2 (by decide) (Nat.le_of_ble_eq_true rfl) rfl (fun G hG hR hF => ?_)
  refine pm_aloadn hG dX7_bringTravellers_0 rfl ?_
  refine pm_getf hG dX7_bringTravellers_1 (flX7_23 _ rfl) rfl rfl ?_
  refine pm_callV (As := []) (rest := []) hG hR dX7_bringTravellers_4 (lkX7_79 _ rfl) okV_X9_used rfl rfl (tb_used (d := 0) rfl) rfl rfl hdd (Nat.le_refl _) (Nat.le_refl _) (by decide) (pm_ki (fun v1 σ' cnt' hq => ?_))
  obtain ⟨I1, A1, rfl, rfl, h1⟩ := hv_id (kp := kp) (I := I) (A := A) h hq.2
  refine pm_istoreXn (loc' := [some (.ref (B + 1)), some (.int v1), none]) hG dX7_bringTravellers_7 (by decide) (pm_c1b rfl) rfl ?_
  refine pm_iconst (v := 0) hG dX7_bringTravellers_8 (by decide) ?_
  refine pm_istoreXn (loc' := [some (.ref (B + 1)), some (.int v1), some (.int 0)]) hG dX7_bringTravellers_9 (by decide) (pm_c1b rfl) rfl ?_
  have loop10 : ∀ (m10 : Nat) (I2 : Nat → Int32) (A2 : Nat → Nat → Int32) (x2_2 : Int32), gq ε I2 → (¬ x2_2 < 0) → ((v1 : Int32).toInt - x2_2.toInt).toNat < m10 → pm_wp mX7_bringTravellers G B 10 [some (.ref (B + 1)), some (.int v1), some (.int x2_2)] [] 0 0 cnt (pm_two (cl_L B kp I2 A2) ρ) := by
    intro m10
    induction m10 with
    | zero => intro I2 A2 x2_2 _  _ hm; exact absurd hm (Nat.not_lt_zero _)
    | succ m10 ih10 =>
      intro I2 A2 x2_2 h2 s10 hm10
      refine pm_iloadn hG dX7_bringTravellers_10 rfl ?_
      refine pm_iloadn hG dX7_bringTravellers_11 rfl ?_
      refine pm_icmp_ge (tgt := 68) hG dX7_bringTravellers_12 rfl (fun c3 => ?_) (fun c3 => ?_)
      · exact pm_vret hG hF dX7_bringTravellers_68 rfl (Nat.le_refl _) (Nat.le_refl _) ⟨rfl, _, _, rfl, rfl, h2⟩
      · refine pm_aloadn hG dX7_bringTravellers_15 rfl ?_
        refine pm_getf hG dX7_bringTravellers_16 (flX7_23 _ rfl) rfl rfl ?_
        refine pm_iloadn hG dX7_bringTravellers_19 rfl ?_
        refine pm_iconst (v := 4) hG dX7_bringTravellers_20 (by decide) ?_
        refine pm_callV (As := [.int x2_2, .int 4]) (rest := []) hG hR dX7_bringTravellers_21 (lkX7_83 _ rfl) okV_X9_get rfl rfl (tb_get (d := 0) rfl rfl (pm_tw_of 20 14 (by decide) (by decide) (by decide))) rfl rfl hdd (Nat.le_refl _) (Nat.le_refl _) (by decide) (pm_ki (fun v4 σ' cnt' hq => ?_))
        obtain ⟨I4, A4, rfl, rfl, h4⟩ := hv_id (kp := kp) (I := I2) (A := A2) h2 hq.2
        refine pm_if_ge (tgt := 62) hG dX7_bringTravellers_24 rfl (fun c5 => ?_) (fun c5 => ?_)
        · refine pm_iincX (v := x2_2 + 1) (loc' := [some (.ref (B + 1)), some (.int v1), some (.int (x2_2 + 1))]) hG dX7_bringTravellers_62 rfl (by rfl) (by decide) (pm_c1b rfl) rfl ?_
          refine pm_goto (tgt := 10) hG dX7_bringTravellers_65 rfl ?_
          exact ih10 _ _ (x2_2 + 1) h4 (pm_sd1 c3 s10) (Nat.lt_of_lt_of_le (pm_mu1 c3) (Nat.le_of_lt_succ hm10))
        · refine pm_aloadn hG dX7_bringTravellers_27 rfl ?_
          refine pm_getf hG dX7_bringTravellers_28 (flX7_23 _ rfl) rfl rfl ?_
          refine pm_iloadn hG dX7_bringTravellers_31 rfl ?_
          refine pm_bipush (v := 6) hG dX7_bringTravellers_32 (by decide) ?_
          refine pm_callV (As := [.int x2_2, .int 6]) (rest := []) hG hR dX7_bringTravellers_34 (lkX7_83 _ rfl) okV_X9_get rfl rfl (tb_get (d := 0) rfl rfl (pm_tw_of 20 14 (by decide) (by decide) (by decide))) rfl rfl hdd (Nat.le_refl _) (Nat.le_refl _) (by decide) (pm_ki (fun v6 σ' cnt' hq => ?_))
          obtain ⟨I6, A6, rfl, rfl, h6⟩ := hv_id (kp := kp) (I := I4) (A := A4) h4 hq.2
          refine pm_aloadn hG dX7_bringTravellers_37 rfl ?_
          refine pm_getf hG dX7_bringTravellers_38 (flX7_72 _ rfl) rfl rfl ?_
          refine pm_icmp_gt (tgt := 62) hG dX7_bringTravellers_41 rfl (fun c7 => ?_) (fun c7 => ?_)
          · refine pm_iincX (v := x2_2 + 1) (loc' := [some (.ref (B + 1)), some (.int v1), some (.int (x2_2 + 1))]) hG dX7_bringTravellers_62 rfl (by rfl) (by decide) (pm_c1b rfl) rfl ?_
            refine pm_goto (tgt := 10) hG dX7_bringTravellers_65 rfl ?_
            exact ih10 _ _ (x2_2 + 1) h6 (pm_sd1 c3 s10) (Nat.lt_of_lt_of_le (pm_mu1 c3) (Nat.le_of_lt_succ hm10))
          · refine pm_aloadn hG dX7_bringTravellers_44 rfl ?_
            refine pm_getf hG dX7_bringTravellers_45 (flX7_23 _ rfl) rfl rfl ?_
            refine pm_iloadn hG dX7_bringTravellers_48 rfl ?_
            refine pm_iconst (v := 4) hG dX7_bringTravellers_49 (by decide) ?_
            refine pm_aloadn hG dX7_bringTravellers_50 rfl ?_
            refine pm_getf hG dX7_bringTravellers_51 (flX7_23 _ rfl) rfl rfl ?_
            refine pm_iloadn hG dX7_bringTravellers_54 rfl ?_
            refine pm_iconst (v := 5) hG dX7_bringTravellers_55 (by decide) ?_
            refine pm_callV (As := [.int x2_2, .int 5]) (rest := [.int 4, .int x2_2, .ref (B + 6)]) hG hR dX7_bringTravellers_56 (lkX7_83 _ rfl) okV_X9_get rfl rfl (tb_get (d := 0) rfl rfl (pm_tw_of 20 14 (by decide) (by decide) (by decide))) rfl rfl hdd (Nat.le_refl _) (Nat.le_refl _) (by first | decide | exact Nat.le_of_ble_eq_true rfl) (pm_ki (fun v8 σ' cnt' hq => ?_))
            obtain ⟨I8, A8, rfl, rfl, h8⟩ := hv_id (kp := kp) (I := I6) (A := A6) h6 hq.2
            refine pm_callV (As := [.int x2_2, .int 4, .int v8]) (rest := []) hG hR dX7_bringTravellers_59 (lkX7_61 _ rfl) okV_X9_set rfl rfl (tb_set (d := 0) (rows := nI 20) (width := nI 14) (f := cmx kp.2 (A8 7)) rfl rfl (pm_tw_of 20 14 (by decide) (by decide) (by decide)) (by decide)) rfl rfl hdd (Nat.le_refl _) (Nat.le_refl _) (by decide) (pm_kv (fun σ' cnt' hq => ?_))
            obtain ⟨I9, A9, rfl, rfl, h9⟩ := hv_s7 (kp := kp) (I := I8) (A := A8) (ts7 4 (by decide) (by decide)) h8 hq
            refine pm_iincX (v := x2_2 + 1) (loc' := [some (.ref (B + 1)), some (.int v1), some (.int (x2_2 + 1))]) hG dX7_bringTravellers_62 rfl (by rfl) (by decide) (pm_c1b rfl) rfl ?_
            refine pm_goto (tgt := 10) hG dX7_bringTravellers_65 rfl ?_
            exact ih10 _ _ (x2_2 + 1) h9 (pm_sd1 c3 s10) (Nat.lt_of_lt_of_le (pm_mu1 c3) (Nat.le_of_lt_succ hm10))
  exact loop10 _ _ _ 0 h1 (by decide) (Nat.lt_succ_self _)

set_option maxRecDepth 100000 in
set_option maxHeartbeats 4000000 in
theorem g_X7_collectRents {ε : Nat → Int32} {d B cnt : Nat} {kp : pm_KP} {ρ : pm_S} {I : Nat → Int32} {A : Nat → Nat → Int32} (hdd : 2 ≤ d) (h : gq ε I) : pm_met mX7_collectRents d 0 0 B [.ref (B + 1)] cnt (pm_two (cl_L B kp I A) ρ) (pm_Qv (fun σ' cnt' => hvq ε B kp ρ cnt σ' cnt')) := by
  refine pm_enter 4 (by decide) (Nat.le_of_ble_eq_true rfl) rfl (fun G hG hR hF => ?_)
  refine pm_aloadn hG dX7_collectRents_0 rfl ?_
  refine pm_getf hG dX7_collectRents_1 (flX7_14 _ rfl) rfl rfl ?_
  refine pm_callV (As := []) (rest := []) hG hR dX7_collectRents_4 (lkX7_79 _ rfl) okV_X9_used rfl rfl (tb_used (d := 1) rfl) rfl rfl hdd (Nat.le_refl _) (Nat.le_refl _) (by decide) (pm_ki (fun v1 σ' cnt' hq => ?_))
  obtain ⟨I1, A1, rfl, rfl, h1⟩ := hv_id (kp := kp) (I := I) (A := A) h hq.2
  refine pm_istoreXn (loc' := [some (.ref (B + 1)), some (.int v1), none, none, none]) hG dX7_collectRents_7 (by decide) (pm_c1b rfl) rfl ?_
  refine pm_iconst (v := 0) hG dX7_collectRents_8 (by decide) ?_
  refine pm_istoreXn (loc' := [some (.ref (B + 1)), some (.int v1), some (.int 0), none, none]) hG dX7_collectRents_9 (by decide) (pm_c1b rfl) rfl ?_
  have loop10 : ∀ (m10 : Nat) (I2 : Nat → Int32) (A2 : Nat → Nat → Int32) (x2_2 : Int32), gq ε I2 → (¬ x2_2 < 0) → ((v1 : Int32).toInt - x2_2.toInt).toNat < m10 → pm_wp mX7_collectRents G B 10 [some (.ref (B + 1)), some (.int v1), some (.int x2_2), none, none] [] 0 0 cnt (pm_two (cl_L B kp I2 A2) ρ) := by
    intro m10
    induction m10 with
    | zero => intro I2 A2 x2_2 _  _ hm; exact absurd hm (Nat.not_lt_zero _)
    | succ m10 ih10 =>
      intro I2 A2 x2_2 h2 s10 hm10
      refine pm_iloadn hG dX7_collectRents_10 rfl ?_
      refine pm_iloadn hG dX7_collectRents_11 rfl ?_
      refine pm_icmp_ge (tgt := 91) hG dX7_collectRents_12 rfl (fun c3 => ?_) (fun c3 => ?_)
      · exact pm_vret hG hF dX7_collectRents_91 rfl (Nat.le_refl _) (Nat.le_refl _) ⟨rfl, _, _, rfl, rfl, h2⟩
      · refine pm_aloadn hG dX7_collectRents_15 rfl ?_
        refine pm_getf hG dX7_collectRents_16 (flX7_14 _ rfl) rfl rfl ?_
        refine pm_iloadn hG dX7_collectRents_19 rfl ?_
        refine pm_iconst (v := 0) hG dX7_collectRents_20 (by decide) ?_
        refine pm_callV (As := [.int x2_2, .int 0]) (rest := []) hG hR dX7_collectRents_21 (lkX7_83 _ rfl) okV_X9_get rfl rfl (tb_get (d := 1) rfl rfl (pm_tw_of 10 3 (by decide) (by decide) (by decide))) rfl rfl hdd (Nat.le_refl _) (Nat.le_refl _) (by decide) (pm_ki (fun v4 σ' cnt' hq => ?_))
        obtain ⟨I4, A4, rfl, rfl, h4⟩ := hv_id (kp := kp) (I := I2) (A := A2) h2 hq.2
        refine pm_istoreXn (loc' := [some (.ref (B + 1)), some (.int v1), some (.int x2_2), some (.int v4), none]) hG dX7_collectRents_24 (by decide) (pm_c1b rfl) rfl ?_
        refine pm_aloadn hG dX7_collectRents_25 rfl ?_
        refine pm_getf hG dX7_collectRents_26 (flX7_14 _ rfl) rfl rfl ?_
        refine pm_iloadn hG dX7_collectRents_29 rfl ?_
        refine pm_iconst (v := 1) hG dX7_collectRents_30 (by decide) ?_
        refine pm_callV (As := [.int x2_2, .int 1]) (rest := []) hG hR dX7_collectRents_31 (lkX7_83 _ rfl) okV_X9_get rfl rfl (tb_get (d := 1) rfl rfl (pm_tw_of 10 3 (by decide) (by decide) (by decide))) rfl rfl hdd (Nat.le_refl _) (Nat.le_refl _) (by decide) (pm_ki (fun v5 σ' cnt' hq => ?_))
        obtain ⟨I5, A5, rfl, rfl, h5⟩ := hv_id (kp := kp) (I := I4) (A := A4) h4 hq.2
        refine pm_istoreXi (loc' := [some (.ref (B + 1)), some (.int v1), some (.int x2_2), some (.int v4), some (.int v5)]) hG dX7_collectRents_34 (by decide) (pm_c1b rfl) rfl ?_
        refine pm_aloadn hG dX7_collectRents_36 rfl ?_
        refine pm_getf hG dX7_collectRents_37 (flX7_14 _ rfl) rfl rfl ?_
        refine pm_iloadn hG dX7_collectRents_40 rfl ?_
        refine pm_iconst (v := 2) hG dX7_collectRents_41 (by decide) ?_
        refine pm_callV (As := [.int x2_2, .int 2]) (rest := []) hG hR dX7_collectRents_42 (lkX7_83 _ rfl) okV_X9_get rfl rfl (tb_get (d := 1) rfl rfl (pm_tw_of 10 3 (by decide) (by decide) (by decide))) rfl rfl hdd (Nat.le_refl _) (Nat.le_refl _) (by decide) (pm_ki (fun v6 σ' cnt' hq => ?_))
        obtain ⟨I6, A6, rfl, rfl, h6⟩ := hv_id (kp := kp) (I := I5) (A := A5) h5 hq.2
        refine pm_if_eq (tgt := 51) hG dX7_collectRents_45 rfl (fun c7 => ?_) (fun c7 => ?_)
        · refine pm_aloadn hG dX7_collectRents_51 rfl ?_
          refine pm_iloadi hG dX7_collectRents_52 rfl ?_
          refine pm_callV (As := [.int v5]) (rest := []) hG hR dX7_collectRents_54 (lkX7_103 _ rfl) okV_X7_isLiving rfl rfl (g_X7_isLiving (d := 1) (by decide) h6) rfl rfl hdd (Nat.le_refl _) (Nat.le_refl _) (by decide) (pm_ki (fun v8 σ' cnt' hq => ?_))
          obtain ⟨b8, I8, A8, rfl, rfl, h8⟩ := hq
          refine pm_if_eq (tgt := 75) hG dX7_collectRents_57 rfl (fun c9 => ?_) (fun c9 => ?_)
          · refine pm_aloadn hG dX7_collectRents_75 rfl ?_
            refine pm_dup hG dX7_collectRents_76 rfl ?_
            refine pm_getf hG dX7_collectRents_77 (flX7_53 _ rfl) rfl rfl ?_
            refine pm_iloadn hG dX7_collectRents_80 rfl ?_
            refine pm_iadd hG dX7_collectRents_81 ?_
            refine pm_putf hG dX7_collectRents_82 (fwX7_53 _ rfl) rfl rfl rfl ?_
            refine pm_nrm (L' := cl_L B kp (ui I8 103 ((I8 103) + v4)) A8) (by decide) (Nat.le_of_ble_eq_true rfl) rfl ?_
            refine pm_iincX (v := x2_2 + 1) (loc' := [some (.ref (B + 1)), some (.int v1), some (.int (x2_2 + 1)), some (.int v4), some (.int v5)]) hG dX7_collectRents_85 rfl (by rfl) (by decide) (pm_c1b rfl) rfl ?_
            refine pm_goto (tgt := 10) hG dX7_collectRents_88 rfl ?_
            refine pm_fg 3 (loc' := [some (.ref (B + 1)), some (.int v1), some (.int (x2_2 + 1)), none, some (.int v5)]) rfl ?_
            refine pm_fg 4 (loc' := [some (.ref (B + 1)), some (.int v1), some (.int (x2_2 + 1)), none, none]) rfl ?_
            exact ih10 _ _ (x2_2 + 1) (gq.wi (k := 103) rfl h8) (pm_sd1 c3 s10) (Nat.lt_of_lt_of_le (pm_mu1 c3) (Nat.le_of_lt_succ hm10))
          · refine pm_aloadn hG dX7_collectRents_60 rfl ?_
            refine pm_getf hG dX7_collectRents_61 (flX7_23 _ rfl) rfl rfl ?_
            refine pm_iloadi hG dX7_collectRents_64 rfl ?_
            refine pm_bipush (v := 7) hG dX7_collectRents_66 (by decide) ?_
            refine pm_iloadn hG dX7_collectRents_68 rfl ?_
            refine pm_callV (As := [.int v5, .int 7, .int v4]) (rest := []) hG hR dX7_collectRents_69 (lkX7_125 _ rfl) okV_X9_add rfl rfl (tb_add (d := 1) (rows := nI 20) (width := nI 14) (f := cmx kp.2 (A8 7)) (by decide) rfl rfl (pm_tw_of 20 14 (by decide) (by decide) (by decide)) (by decide)) rfl rfl hdd (Nat.le_refl _) (Nat.le_refl _) (by decide) (pm_kv (fun σ' cnt' hq => ?_))
            obtain ⟨I11, A11, rfl, rfl, h11⟩ := hv_s7 (kp := kp) (I := I8) (A := A8) (ts7 7 (by decide) (by decide)) h8 hq
            refine pm_goto (tgt := 85) hG dX7_collectRents_72 rfl ?_
            refine pm_iincX (v := x2_2 + 1) (loc' := [some (.ref (B + 1)), some (.int v1), some (.int (x2_2 + 1)), some (.int v4), some (.int v5)]) hG dX7_collectRents_85 rfl (by rfl) (by decide) (pm_c1b rfl) rfl ?_
            refine pm_goto (tgt := 10) hG dX7_collectRents_88 rfl ?_
            refine pm_fg 3 (loc' := [some (.ref (B + 1)), some (.int v1), some (.int (x2_2 + 1)), none, some (.int v5)]) rfl ?_
            refine pm_fg 4 (loc' := [some (.ref (B + 1)), some (.int v1), some (.int (x2_2 + 1)), none, none]) rfl ?_
            exact ih10 _ _ (x2_2 + 1) h11 (pm_sd1 c3 s10) (Nat.lt_of_lt_of_le (pm_mu1 c3) (Nat.le_of_lt_succ hm10))
        · refine pm_goto (tgt := 85) hG dX7_collectRents_48 rfl ?_
          refine pm_iincX (v := x2_2 + 1) (loc' := [some (.ref (B + 1)), some (.int v1), some (.int (x2_2 + 1)), some (.int v4), some (.int v5)]) hG dX7_collectRents_85 rfl (by rfl) (by decide) (pm_c1b rfl) rfl ?_
          refine pm_goto (tgt := 10) hG dX7_collectRents_88 rfl ?_
          refine pm_fg 3 (loc' := [some (.ref (B + 1)), some (.int v1), some (.int (x2_2 + 1)), none, some (.int v5)]) rfl ?_
          refine pm_fg 4 (loc' := [some (.ref (B + 1)), some (.int v1), some (.int (x2_2 + 1)), none, none]) rfl ?_
          exact ih10 _ _ (x2_2 + 1) h6 (pm_sd1 c3 s10) (Nat.lt_of_lt_of_le (pm_mu1 c3) (Nat.le_of_lt_succ hm10))
  exact loop10 _ _ _ 0 h1 (by decide) (Nat.lt_succ_self _)

set_option maxRecDepth 100000 in
set_option maxHeartbeats 4000000 in
theorem g_X7_findSteps {ε : Nat → Int32} {d B cnt : Nat} {kp : pm_KP} {ρ : pm_S} {I : Nat → Int32} {A : Nat → Nat → Int32} (hdd : 2 ≤ d) (h : gq ε I) : pm_met mX7_findSteps d 0 0 B [.ref (B + 1)] cnt (pm_two (cl_L B kp I A) ρ) (pm_Qv (fun σ' cnt' => hvq ε B kp ρ cnt σ' cnt')) := by
  refine pm_enter 3 (by decide) (Nat.le_of_ble_eq_true rfl) rfl (fun G hG hR hF => ?_)
  refine pm_aloadn hG dX7_findSteps_0 rfl ?_
  refine pm_getf hG dX7_findSteps_1 (flX7_23 _ rfl) rfl rfl ?_
  refine pm_callV (As := []) (rest := []) hG hR dX7_findSteps_4 (lkX7_79 _ rfl) okV_X9_used rfl rfl (tb_used (d := 1) rfl) rfl rfl hdd (Nat.le_refl _) (Nat.le_refl _) (by decide) (pm_ki (fun v1 σ' cnt' hq => ?_))
  obtain ⟨I1, A1, rfl, rfl, h1⟩ := hv_id (kp := kp) (I := I) (A := A) h hq.2
  refine pm_istoreXn (loc' := [some (.ref (B + 1)), some (.int v1), none, none]) hG dX7_findSteps_7 (by decide) (pm_c1b rfl) rfl ?_
  refine pm_iconst (v := 0) hG dX7_findSteps_8 (by decide) ?_
  refine pm_istoreXn (loc' := [some (.ref (B + 1)), some (.int v1), some (.int 0), none]) hG dX7_findSteps_9 (by decide) (pm_c1b rfl) rfl ?_
  have loop10 : ∀ (m10 : Nat) (I2 : Nat → Int32) (A2 : Nat → Nat → Int32) (x2_2 : Int32), gq ε I2 → (¬ x2_2 < 0) → ((v1 : Int32).toInt - x2_2.toInt).toNat < m10 → pm_wp mX7_findSteps G B 10 [some (.ref (B + 1)), some (.int v1), some (.int x2_2), none] [] 0 0 cnt (pm_two (cl_L B kp I2 A2) ρ) := by
    intro m10
    induction m10 with
    | zero => intro I2 A2 x2_2 _  _ hm; exact absurd hm (Nat.not_lt_zero _)
    | succ m10 ih10 =>
      intro I2 A2 x2_2 h2 s10 hm10
      refine pm_iloadn hG dX7_findSteps_10 rfl ?_
      refine pm_iloadn hG dX7_findSteps_11 rfl ?_
      refine pm_icmp_ge (tgt := 62) hG dX7_findSteps_12 rfl (fun c3 => ?_) (fun c3 => ?_)
      · exact pm_vret hG hF dX7_findSteps_62 rfl (Nat.le_refl _) (Nat.le_refl _) ⟨rfl, _, _, rfl, rfl, h2⟩
      · refine pm_iconst (v := 0) hG dX7_findSteps_15 (by decide) ?_
        refine pm_istoreXn (loc' := [some (.ref (B + 1)), some (.int v1), some (.int x2_2), some (.int 0)]) hG dX7_findSteps_16 (by decide) (pm_c1b rfl) rfl ?_
        have loop17 : ∀ (m17 : Nat) (I4 : Nat → Int32) (A4 : Nat → Nat → Int32) (x4_3 : Int32), gq ε I4 → (¬ x4_3 < 0) → ((v1 : Int32).toInt - x4_3.toInt).toNat < m17 → pm_wp mX7_findSteps G B 17 [some (.ref (B + 1)), some (.int v1), some (.int x2_2), some (.int x4_3)] [] 0 0 cnt (pm_two (cl_L B kp I4 A4) ρ) := by
          intro m17
          induction m17 with
          | zero => intro I4 A4 x4_3 _  _ hm; exact absurd hm (Nat.not_lt_zero _)
          | succ m17 ih17 =>
            intro I4 A4 x4_3 h4 s17 hm17
            refine pm_iloadn hG dX7_findSteps_17 rfl ?_
            refine pm_iloadn hG dX7_findSteps_18 rfl ?_
            refine pm_icmp_ge (tgt := 56) hG dX7_findSteps_19 rfl (fun c5 => ?_) (fun c5 => ?_)
            · refine pm_iincX (v := x2_2 + 1) (loc' := [some (.ref (B + 1)), some (.int v1), some (.int (x2_2 + 1)), some (.int x4_3)]) hG dX7_findSteps_56 rfl (by rfl) (by decide) (pm_c1b rfl) rfl ?_
              refine pm_goto (tgt := 10) hG dX7_findSteps_59 rfl ?_
              refine pm_fg 3 (loc' := [some (.ref (B + 1)), some (.int v1), some (.int (x2_2 + 1)), none]) rfl ?_
              exact ih10 _ _ (x2_2 + 1) h4 (pm_sd1 c3 s10) (Nat.lt_of_lt_of_le (pm_mu1 c3) (Nat.le_of_lt_succ hm10))
            · refine pm_aloadn hG dX7_findSteps_22 rfl ?_
              refine pm_iloadn hG dX7_findSteps_23 rfl ?_
              refine pm_aloadn hG dX7_findSteps_24 rfl ?_
              refine pm_getf hG dX7_findSteps_25 (flX7_23 _ rfl) rfl rfl ?_
              refine pm_iloadn hG dX7_findSteps_28 rfl ?_
              refine pm_iconst (v := 2) hG dX7_findSteps_29 (by decide) ?_
              refine pm_callV (As := [.int x4_3, .int 2]) (rest := [.int x4_3, .ref (B + 1)]) hG hR dX7_findSteps_30 (lkX7_83 _ rfl) okV_X9_get rfl rfl (tb_get (d := 1) rfl rfl (pm_tw_of 20 14 (by decide) (by decide) (by decide))) rfl rfl hdd (Nat.le_refl _) (Nat.le_refl _) (by first | decide | exact Nat.le_of_ble_eq_true rfl) (pm_ki (fun v6 σ' cnt' hq => ?_))
              obtain ⟨I6, A6, rfl, rfl, h6⟩ := hv_id (kp := kp) (I := I4) (A := A4) h4 hq.2
              refine pm_callV (As := [.int x4_3, .int v6]) (rest := []) hG hR dX7_findSteps_33 (lkX7_100 _ rfl) okV_X7_bringNearer rfl rfl (g_X7_bringNearer (d := 1) (by decide) h6) rfl rfl hdd (Nat.le_refl _) (Nat.le_refl _) (by decide) (pm_kv (fun σ' cnt' hq => ?_))
              obtain ⟨I7, A7, rfl, rfl, h7⟩ := hq
              refine pm_aloadn hG dX7_findSteps_36 rfl ?_
              refine pm_iloadn hG dX7_findSteps_37 rfl ?_
              refine pm_aloadn hG dX7_findSteps_38 rfl ?_
              refine pm_getf hG dX7_findSteps_39 (flX7_23 _ rfl) rfl rfl ?_
              refine pm_iloadn hG dX7_findSteps_42 rfl ?_
              refine pm_iconst (v := 3) hG dX7_findSteps_43 (by decide) ?_
              refine pm_callV (As := [.int x4_3, .int 3]) (rest := [.int x4_3, .ref (B + 1)]) hG hR dX7_findSteps_44 (lkX7_83 _ rfl) okV_X9_get rfl rfl (tb_get (d := 1) rfl rfl (pm_tw_of 20 14 (by decide) (by decide) (by decide))) rfl rfl hdd (Nat.le_refl _) (Nat.le_refl _) (by first | decide | exact Nat.le_of_ble_eq_true rfl) (pm_ki (fun v8 σ' cnt' hq => ?_))
              obtain ⟨I8, A8, rfl, rfl, h8⟩ := hv_id (kp := kp) (I := I7) (A := A7) h7 hq.2
              refine pm_callV (As := [.int x4_3, .int v8]) (rest := []) hG hR dX7_findSteps_47 (lkX7_100 _ rfl) okV_X7_bringNearer rfl rfl (g_X7_bringNearer (d := 1) (by decide) h8) rfl rfl hdd (Nat.le_refl _) (Nat.le_refl _) (by decide) (pm_kv (fun σ' cnt' hq => ?_))
              obtain ⟨I9, A9, rfl, rfl, h9⟩ := hq
              refine pm_iincX (v := x4_3 + 1) (loc' := [some (.ref (B + 1)), some (.int v1), some (.int x2_2), some (.int (x4_3 + 1))]) hG dX7_findSteps_50 rfl (by rfl) (by decide) (pm_c1b rfl) rfl ?_
              refine pm_goto (tgt := 17) hG dX7_findSteps_53 rfl ?_
              exact ih17 _ _ (x4_3 + 1) h9 (pm_sd1 c5 s17) (Nat.lt_of_lt_of_le (pm_mu1 c5) (Nat.le_of_lt_succ hm17))
        exact loop17 _ _ _ 0 h2 (by decide) (Nat.lt_succ_self _)
  exact loop10 _ _ _ 0 h1 (by decide) (Nat.lt_succ_self _)

set_option maxRecDepth 100000 in
set_option maxHeartbeats 4000000 in
theorem g_X7_missOnce {ε : Nat → Int32} {d B cnt : Nat} {kp : pm_KP} {ρ : pm_S} {I : Nat → Int32} {A : Nat → Nat → Int32} {za : Int32} (hdd : 2 ≤ d) (h : gq ε I) : pm_met mX7_missOnce d 0 0 B [.ref (B + 1), .int za] cnt (pm_two (cl_L B kp I A) ρ) (pm_Qv (fun σ' cnt' => hvq ε B kp ρ cnt σ' cnt')) := by
  refine pm_enter 0 (by decide) (Nat.le_of_ble_eq_true rfl) rfl (fun G hG hR hF => ?_)
  refine pm_aloadn hG dX7_missOnce_0 rfl ?_
  refine pm_getf hG dX7_missOnce_1 (flX7_38 _ rfl) rfl rfl ?_
  refine pm_iloadn hG dX7_missOnce_4 rfl ?_
  refine pm_iconst (v := 4) hG dX7_missOnce_5 (by decide) ?_
  refine pm_iconst (v := 1) hG dX7_missOnce_6 (by decide) ?_
  refine pm_callV (As := [.int za, .int 4, .int 1]) (rest := []) hG hR dX7_missOnce_7 (lkX7_125 _ rfl) okV_X9_add rfl rfl (tb_add (d := 1) (by decide) rfl rfl (pm_tw_of 6 5 (by decide) (by decide) (by decide)) (by decide)) rfl rfl hdd (Nat.le_refl _) (Nat.le_refl _) (by decide) (pm_kv (fun σ' cnt' hq => ?_))
  obtain ⟨I1, A1, rfl, rfl, h1⟩ := hv_a17 (kp := kp) (I := I) (A := A) h hq
  refine pm_aloadn hG dX7_missOnce_10 rfl ?_
  refine pm_getf hG dX7_missOnce_11 (flX7_38 _ rfl) rfl rfl ?_
  refine pm_iloadn hG dX7_missOnce_14 rfl ?_
  refine pm_iconst (v := 4) hG dX7_missOnce_15 (by decide) ?_
  refine pm_callV (As := [.int za, .int 4]) (rest := []) hG hR dX7_missOnce_16 (lkX7_83 _ rfl) okV_X9_get rfl rfl (tb_get (d := 1) rfl rfl (pm_tw_of 6 5 (by decide) (by decide) (by decide))) rfl rfl hdd (Nat.le_refl _) (Nat.le_refl _) (by decide) (pm_ki (fun v2 σ' cnt' hq => ?_))
  obtain ⟨I2, A2, rfl, rfl, h2⟩ := hv_id (kp := kp) (I := I1) (A := A1) h1 hq.2
  refine pm_iconst (v := 2) hG dX7_missOnce_19 (by decide) ?_
  refine pm_icmp_lt (tgt := 41) hG dX7_missOnce_20 rfl (fun c3 => ?_) (fun c3 => ?_)
  · exact pm_vret hG hF dX7_missOnce_41 rfl (Nat.le_refl _) (Nat.le_refl _) ⟨rfl, _, _, rfl, rfl, h2⟩
  · refine pm_aloadn hG dX7_missOnce_23 rfl ?_
    refine pm_getf hG dX7_missOnce_24 (flX7_14 _ rfl) rfl rfl ?_
    refine pm_aloadn hG dX7_missOnce_27 rfl ?_
    refine pm_getf hG dX7_missOnce_28 (flX7_38 _ rfl) rfl rfl ?_
    refine pm_iloadn hG dX7_missOnce_31 rfl ?_
    refine pm_iconst (v := 3) hG dX7_missOnce_32 (by decide) ?_
    refine pm_callV (As := [.int za, .int 3]) (rest := [.ref (B + 2)]) hG hR dX7_missOnce_33 (lkX7_83 _ rfl) okV_X9_get rfl rfl (tb_get (d := 1) rfl rfl (pm_tw_of 6 5 (by decide) (by decide) (by decide))) rfl rfl hdd (Nat.le_refl _) (Nat.le_refl _) (by first | decide | exact Nat.le_of_ble_eq_true rfl) (pm_ki (fun v4 σ' cnt' hq => ?_))
    obtain ⟨I4, A4, rfl, rfl, h4⟩ := hv_id (kp := kp) (I := I2) (A := A2) h2 hq.2
    refine pm_iconst (v := 2) hG dX7_missOnce_36 (by decide) ?_
    refine pm_iconst (v := 1) hG dX7_missOnce_37 (by decide) ?_
    refine pm_callV (As := [.int v4, .int 2, .int 1]) (rest := []) hG hR dX7_missOnce_38 (lkX7_61 _ rfl) okV_X9_set rfl rfl (tb_set (d := 1) rfl rfl (pm_tw_of 10 3 (by decide) (by decide) (by decide)) (by decide)) rfl rfl hdd (Nat.le_refl _) (Nat.le_refl _) (by decide) (pm_kv (fun σ' cnt' hq => ?_))
    obtain ⟨I5, A5, rfl, rfl, h5⟩ := hv_a3 (kp := kp) (I := I4) (A := A4) h4 hq
    exact pm_vret hG hF dX7_missOnce_41 rfl (Nat.le_refl _) (Nat.le_refl _) ⟨rfl, _, _, rfl, rfl, h5⟩

set_option maxRecDepth 100000 in
set_option maxHeartbeats 4000000 in
theorem g_X7_payMen {ε : Nat → Int32} {d B cnt : Nat} {kp : pm_KP} {ρ : pm_S} {I : Nat → Int32} {A : Nat → Nat → Int32} (hdd : 2 ≤ d) (h : gq ε I) : pm_met mX7_payMen d 0 0 B [.ref (B + 1)] cnt (pm_two (cl_L B kp I A) ρ) (pm_Qv (fun σ' cnt' => hvq ε B kp ρ cnt σ' cnt')) := by
  refine pm_enter 3 (by decide) (Nat.le_of_ble_eq_true rfl) rfl (fun G hG hR hF => ?_)
  refine pm_aloadn hG dX7_payMen_0 rfl ?_
  refine pm_getf hG dX7_payMen_1 (flX7_23 _ rfl) rfl rfl ?_
  refine pm_callV (As := []) (rest := []) hG hR dX7_payMen_4 (lkX7_79 _ rfl) okV_X9_used rfl rfl (tb_used (d := 1) rfl) rfl rfl hdd (Nat.le_refl _) (Nat.le_refl _) (by decide) (pm_ki (fun v1 σ' cnt' hq => ?_))
  obtain ⟨I1, A1, rfl, rfl, h1⟩ := hv_id (kp := kp) (I := I) (A := A) h hq.2
  refine pm_istoreXn (loc' := [some (.ref (B + 1)), some (.int v1), none, none]) hG dX7_payMen_7 (by decide) (pm_c1b rfl) rfl ?_
  refine pm_iconst (v := 0) hG dX7_payMen_8 (by decide) ?_
  refine pm_istoreXn (loc' := [some (.ref (B + 1)), some (.int v1), some (.int 0), none]) hG dX7_payMen_9 (by decide) (pm_c1b rfl) rfl ?_
  have loop10 : ∀ (m10 : Nat) (I2 : Nat → Int32) (A2 : Nat → Nat → Int32) (x2_2 : Int32), gq ε I2 → (¬ x2_2 < 0) → ((v1 : Int32).toInt - x2_2.toInt).toNat < m10 → pm_wp mX7_payMen G B 10 [some (.ref (B + 1)), some (.int v1), some (.int x2_2), none] [] 0 0 cnt (pm_two (cl_L B kp I2 A2) ρ) := by
    intro m10
    induction m10 with
    | zero => intro I2 A2 x2_2 _  _ hm; exact absurd hm (Nat.not_lt_zero _)
    | succ m10 ih10 =>
      intro I2 A2 x2_2 h2 s10 hm10
      refine pm_iloadn hG dX7_payMen_10 rfl ?_
      refine pm_iloadn hG dX7_payMen_11 rfl ?_
      refine pm_icmp_ge (tgt := 68) hG dX7_payMen_12 rfl (fun c3 => ?_) (fun c3 => ?_)
      · exact pm_vret hG hF dX7_payMen_68 rfl (Nat.le_refl _) (Nat.le_refl _) ⟨rfl, _, _, rfl, rfl, h2⟩
      · refine pm_aloadn hG dX7_payMen_15 rfl ?_
        refine pm_getf hG dX7_payMen_16 (flX7_23 _ rfl) rfl rfl ?_
        refine pm_iloadn hG dX7_payMen_19 rfl ?_
        refine pm_bipush (v := 8) hG dX7_payMen_20 (by decide) ?_
        refine pm_callV (As := [.int x2_2, .int 8]) (rest := []) hG hR dX7_payMen_22 (lkX7_83 _ rfl) okV_X9_get rfl rfl (tb_get (d := 1) rfl rfl (pm_tw_of 20 14 (by decide) (by decide) (by decide))) rfl rfl hdd (Nat.le_refl _) (Nat.le_refl _) (by decide) (pm_ki (fun v4 σ' cnt' hq => ?_))
        obtain ⟨I4, A4, rfl, rfl, h4⟩ := hv_id (kp := kp) (I := I2) (A := A2) h2 hq.2
        refine pm_aloadn hG dX7_payMen_25 rfl ?_
        refine pm_getf hG dX7_payMen_26 (flX7_23 _ rfl) rfl rfl ?_
        refine pm_iloadn hG dX7_payMen_29 rfl ?_
        refine pm_bipush (v := 7) hG dX7_payMen_30 (by decide) ?_
        refine pm_callV (As := [.int x2_2, .int 7]) (rest := [.int v4]) hG hR dX7_payMen_32 (lkX7_83 _ rfl) okV_X9_get rfl rfl (tb_get (d := 1) rfl rfl (pm_tw_of 20 14 (by decide) (by decide) (by decide))) rfl rfl hdd (Nat.le_refl _) (Nat.le_refl _) (by first | decide | exact Nat.le_of_ble_eq_true rfl) (pm_ki (fun v5 σ' cnt' hq => ?_))
        obtain ⟨I5, A5, rfl, rfl, h5⟩ := hv_id (kp := kp) (I := I4) (A := A4) h4 hq.2
        refine pm_mmin hG hR dX7_payMen_35 (mmX7_87 _ rfl) pm_mwmin (by omega) (by first | decide | exact Nat.le_of_ble_eq_true rfl) (Nat.le_refl _) (Nat.le_refl _) ?_
        refine pm_istoreXn (loc' := [some (.ref (B + 1)), some (.int v1), some (.int x2_2), some (.int (if v5 < v4 then v5 else v4))]) hG dX7_payMen_38 (by decide) (pm_c1b rfl) rfl ?_
        refine pm_aloadn hG dX7_payMen_39 rfl ?_
        refine pm_getf hG dX7_payMen_40 (flX7_23 _ rfl) rfl rfl ?_
        refine pm_iloadn hG dX7_payMen_43 rfl ?_
        refine pm_bipush (v := 7) hG dX7_payMen_44 (by decide) ?_
        refine pm_iloadn hG dX7_payMen_46 rfl ?_
        refine pm_ineg hG dX7_payMen_47 ?_
        refine pm_callV (As := [.int x2_2, .int 7, .int (-(if v5 < v4 then v5 else v4))]) (rest := []) hG hR dX7_payMen_48 (lkX7_125 _ rfl) okV_X9_add rfl rfl (tb_add (d := 1) (rows := nI 20) (width := nI 14) (f := cmx kp.2 (A5 7)) (by decide) rfl rfl (pm_tw_of 20 14 (by decide) (by decide) (by decide)) (by decide)) rfl rfl hdd (Nat.le_refl _) (Nat.le_refl _) (by decide) (pm_kv (fun σ' cnt' hq => ?_))
        obtain ⟨I6, A6, rfl, rfl, h6⟩ := hv_s7 (kp := kp) (I := I5) (A := A5) (ts7 7 (by decide) (by decide)) h5 hq
        refine pm_aloadn hG dX7_payMen_51 rfl ?_
        refine pm_getf hG dX7_payMen_52 (flX7_23 _ rfl) rfl rfl ?_
        refine pm_iloadn hG dX7_payMen_55 rfl ?_
        refine pm_bipush (v := 8) hG dX7_payMen_56 (by decide) ?_
        refine pm_iloadn hG dX7_payMen_58 rfl ?_
        refine pm_callV (As := [.int x2_2, .int 8, .int (if v5 < v4 then v5 else v4)]) (rest := []) hG hR dX7_payMen_59 (lkX7_61 _ rfl) okV_X9_set rfl rfl (tb_set (d := 1) (rows := nI 20) (width := nI 14) (f := cmx kp.2 (A6 7)) rfl rfl (pm_tw_of 20 14 (by decide) (by decide) (by decide)) (by decide)) rfl rfl hdd (Nat.le_refl _) (Nat.le_refl _) (by decide) (pm_kv (fun σ' cnt' hq => ?_))
        obtain ⟨I7, A7, rfl, rfl, h7⟩ := hv_s7 (kp := kp) (I := I6) (A := A6) (ts7 8 (by decide) (by decide)) h6 hq
        refine pm_iincX (v := x2_2 + 1) (loc' := [some (.ref (B + 1)), some (.int v1), some (.int (x2_2 + 1)), some (.int (if v5 < v4 then v5 else v4))]) hG dX7_payMen_62 rfl (by rfl) (by decide) (pm_c1b rfl) rfl ?_
        refine pm_goto (tgt := 10) hG dX7_payMen_65 rfl ?_
        refine pm_fg 3 (loc' := [some (.ref (B + 1)), some (.int v1), some (.int (x2_2 + 1)), none]) rfl ?_
        exact ih10 _ _ (x2_2 + 1) h7 (pm_sd1 c3 s10) (Nat.lt_of_lt_of_le (pm_mu1 c3) (Nat.le_of_lt_succ hm10))
  exact loop10 _ _ _ 0 h1 (by decide) (Nat.lt_succ_self _)

set_option maxRecDepth 100000 in
set_option maxHeartbeats 4000000 in
theorem g_X7_serveDebts {ε : Nat → Int32} {d B cnt : Nat} {kp : pm_KP} {ρ : pm_S} {I : Nat → Int32} {A : Nat → Nat → Int32} (hdd : 3 ≤ d) (h : gq ε I) : pm_met mX7_serveDebts d 0 0 B [.ref (B + 1)] cnt (pm_two (cl_L B kp I A) ρ) (pm_Qv (fun σ' cnt' => hvq ε B kp ρ cnt σ' cnt')) := by
  refine pm_enter 5 (by decide) (Nat.le_of_ble_eq_true rfl) rfl (fun G hG hR hF => ?_)
  refine pm_aloadn hG dX7_serveDebts_0 rfl ?_
  refine pm_getf hG dX7_serveDebts_1 (flX7_38 _ rfl) rfl rfl ?_
  refine pm_callV (As := []) (rest := []) hG hR dX7_serveDebts_4 (lkX7_79 _ rfl) okV_X9_used rfl rfl (tb_used (d := 2) rfl) rfl rfl hdd (Nat.le_refl _) (Nat.le_refl _) (by decide) (pm_ki (fun v1 σ' cnt' hq => ?_))
  obtain ⟨I1, A1, rfl, rfl, h1⟩ := hv_id (kp := kp) (I := I) (A := A) h hq.2
  refine pm_istoreXn (loc' := [some (.ref (B + 1)), some (.int v1), none, none, none, none]) hG dX7_serveDebts_7 (by decide) (pm_c1b rfl) rfl ?_
  refine pm_iconst (v := 0) hG dX7_serveDebts_8 (by decide) ?_
  refine pm_istoreXn (loc' := [some (.ref (B + 1)), some (.int v1), some (.int 0), none, none, none]) hG dX7_serveDebts_9 (by decide) (pm_c1b rfl) rfl ?_
  have loop10 : ∀ (m10 : Nat) (I2 : Nat → Int32) (A2 : Nat → Nat → Int32) (x2_2 : Int32), gq ε I2 → (¬ x2_2 < 0) → ((v1 : Int32).toInt - x2_2.toInt).toNat < m10 → pm_wp mX7_serveDebts G B 10 [some (.ref (B + 1)), some (.int v1), some (.int x2_2), none, none, none] [] 0 0 cnt (pm_two (cl_L B kp I2 A2) ρ) := by
    intro m10
    induction m10 with
    | zero => intro I2 A2 x2_2 _  _ hm; exact absurd hm (Nat.not_lt_zero _)
    | succ m10 ih10 =>
      intro I2 A2 x2_2 h2 s10 hm10
      refine pm_iloadn hG dX7_serveDebts_10 rfl ?_
      refine pm_iloadn hG dX7_serveDebts_11 rfl ?_
      refine pm_icmp_ge (tgt := 123) hG dX7_serveDebts_12 rfl (fun c3 => ?_) (fun c3 => ?_)
      · exact pm_vret hG hF dX7_serveDebts_123 rfl (Nat.le_refl _) (Nat.le_refl _) ⟨rfl, _, _, rfl, rfl, h2⟩
      · refine pm_aloadn hG dX7_serveDebts_15 rfl ?_
        refine pm_getf hG dX7_serveDebts_16 (flX7_38 _ rfl) rfl rfl ?_
        refine pm_iloadn hG dX7_serveDebts_19 rfl ?_
        refine pm_iconst (v := 0) hG dX7_serveDebts_20 (by decide) ?_
        refine pm_callV (As := [.int x2_2, .int 0]) (rest := []) hG hR dX7_serveDebts_21 (lkX7_83 _ rfl) okV_X9_get rfl rfl (tb_get (d := 2) rfl rfl (pm_tw_of 6 5 (by decide) (by decide) (by decide))) rfl rfl hdd (Nat.le_refl _) (Nat.le_refl _) (by decide) (pm_ki (fun v4 σ' cnt' hq => ?_))
        obtain ⟨I4, A4, rfl, rfl, h4⟩ := hv_id (kp := kp) (I := I2) (A := A2) h2 hq.2
        refine pm_istoreXn (loc' := [some (.ref (B + 1)), some (.int v1), some (.int x2_2), some (.int v4), none, none]) hG dX7_serveDebts_24 (by decide) (pm_c1b rfl) rfl ?_
        refine pm_ldc hG dX7_serveDebts_25 (ctX7_156 _ rfl) ?_
        refine pm_iloadn hG dX7_serveDebts_27 rfl ?_
        refine pm_iloadn hG dX7_serveDebts_28 rfl ?_
        refine pm_aloadn hG dX7_serveDebts_29 rfl ?_
        refine pm_getf hG dX7_serveDebts_30 (flX7_38 _ rfl) rfl rfl ?_
        refine pm_iloadn hG dX7_serveDebts_33 rfl ?_
        refine pm_iconst (v := 1) hG dX7_serveDebts_34 (by decide) ?_
        refine pm_callV (As := [.int x2_2, .int 1]) (rest := [.int v4, .int v4, .int 999999]) hG hR dX7_serveDebts_35 (lkX7_83 _ rfl) okV_X9_get rfl rfl (tb_get (d := 2) rfl rfl (pm_tw_of 6 5 (by decide) (by decide) (by decide))) rfl rfl hdd (Nat.le_refl _) (Nat.le_refl _) (by first | decide | exact Nat.le_of_ble_eq_true rfl) (pm_ki (fun v5 σ' cnt' hq => ?_))
        obtain ⟨I5, A5, rfl, rfl, h5⟩ := hv_id (kp := kp) (I := I4) (A := A4) h4 hq.2
        refine pm_imul hG dX7_serveDebts_38 ?_
        refine pm_bipush (v := 100) hG dX7_serveDebts_39 (by decide) ?_
        refine pm_idiv hG dX7_serveDebts_41 (by decide) ?_
        refine pm_iadd hG dX7_serveDebts_42 ?_
        refine pm_mmin hG hR dX7_serveDebts_43 (mmX7_87 _ rfl) pm_mwmin (by omega) (by first | decide | exact Nat.le_of_ble_eq_true rfl) (Nat.le_refl _) (Nat.le_refl _) ?_
        refine pm_istoreXi (loc' := [some (.ref (B + 1)), some (.int v1), some (.int x2_2), some (.int v4), some (.int (if (v4 + ((v4 * v5) / 100)) < 999999 then v4 + ((v4 * v5) / 100) else 999999)), none]) hG dX7_serveDebts_46 (by decide) (pm_c1b rfl) rfl ?_
        refine pm_iloadi hG dX7_serveDebts_48 rfl ?_
        refine pm_aloadn hG dX7_serveDebts_50 rfl ?_
        refine pm_getf hG dX7_serveDebts_51 (flX7_38 _ rfl) rfl rfl ?_
        refine pm_iloadn hG dX7_serveDebts_54 rfl ?_
        refine pm_iconst (v := 2) hG dX7_serveDebts_55 (by decide) ?_
        refine pm_callV (As := [.int x2_2, .int 2]) (rest := [.int (if (v4 + ((v4 * v5) / 100)) < 999999 then v4 + ((v4 * v5) / 100) else 999999)]) hG hR dX7_serveDebts_56 (lkX7_83 _ rfl) okV_X9_get rfl rfl (tb_get (d := 2) rfl rfl (pm_tw_of 6 5 (by decide) (by decide) (by decide))) rfl rfl hdd (Nat.le_refl _) (Nat.le_refl _) (by first | decide | exact Nat.le_of_ble_eq_true rfl) (pm_ki (fun v6 σ' cnt' hq => ?_))
        obtain ⟨I6, A6, rfl, rfl, h6⟩ := hv_id (kp := kp) (I := I5) (A := A5) h5 hq.2
        refine pm_mmin hG hR dX7_serveDebts_59 (mmX7_87 _ rfl) pm_mwmin (by omega) (by first | decide | exact Nat.le_of_ble_eq_true rfl) (Nat.le_refl _) (Nat.le_refl _) ?_
        refine pm_istoreXi (loc' := [some (.ref (B + 1)), some (.int v1), some (.int x2_2), some (.int v4), some (.int (if (v4 + ((v4 * v5) / 100)) < 999999 then v4 + ((v4 * v5) / 100) else 999999)), some (.int (if v6 < (if (v4 + ((v4 * v5) / 100)) < 999999 then v4 + ((v4 * v5) / 100) else 999999) then v6 else if (v4 + ((v4 * v5) / 100)) < 999999 then v4 + ((v4 * v5) / 100) else 999999))]) hG dX7_serveDebts_62 (by decide) (pm_c1b rfl) rfl ?_
        refine pm_aloadn hG dX7_serveDebts_64 rfl ?_
        refine pm_getf hG dX7_serveDebts_65 (flX7_53 _ rfl) rfl rfl ?_
        refine pm_iloadi hG dX7_serveDebts_68 rfl ?_
        refine pm_icmp_lt (tgt := 101) hG dX7_serveDebts_70 rfl (fun c7 => ?_) (fun c7 => ?_)
        · refine pm_aloadn hG dX7_serveDebts_101 rfl ?_
          refine pm_getf hG dX7_serveDebts_102 (flX7_38 _ rfl) rfl rfl ?_
          refine pm_iloadn hG dX7_serveDebts_105 rfl ?_
          refine pm_iconst (v := 0) hG dX7_serveDebts_106 (by decide) ?_
          refine pm_iloadi hG dX7_serveDebts_107 rfl ?_
          refine pm_callV (As := [.int x2_2, .int 0, .int (if (v4 + ((v4 * v5) / 100)) < 999999 then v4 + ((v4 * v5) / 100) else 999999)]) (rest := []) hG hR dX7_serveDebts_109 (lkX7_61 _ rfl) okV_X9_set rfl rfl (tb_set (d := 2) rfl rfl (pm_tw_of 6 5 (by decide) (by decide) (by decide)) (by decide)) rfl rfl hdd (Nat.le_refl _) (Nat.le_refl _) (by decide) (pm_kv (fun σ' cnt' hq => ?_))
          obtain ⟨I8, A8, rfl, rfl, h8⟩ := hv_a17 (kp := kp) (I := I6) (A := A6) h6 hq
          refine pm_aloadn hG dX7_serveDebts_112 rfl ?_
          refine pm_iloadn hG dX7_serveDebts_113 rfl ?_
          refine pm_callV (As := [.int x2_2]) (rest := []) hG hR dX7_serveDebts_114 (lkX7_157 _ rfl) okV_X7_missOnce rfl rfl (g_X7_missOnce (d := 2) (by decide) h8) rfl rfl hdd (Nat.le_refl _) (Nat.le_refl _) (by decide) (pm_kv (fun σ' cnt' hq => ?_))
          obtain ⟨I9, A9, rfl, rfl, h9⟩ := hq
          refine pm_iincX (v := x2_2 + 1) (loc' := [some (.ref (B + 1)), some (.int v1), some (.int (x2_2 + 1)), some (.int v4), some (.int (if (v4 + ((v4 * v5) / 100)) < 999999 then v4 + ((v4 * v5) / 100) else 999999)), some (.int (if v6 < (if (v4 + ((v4 * v5) / 100)) < 999999 then v4 + ((v4 * v5) / 100) else 999999) then v6 else if (v4 + ((v4 * v5) / 100)) < 999999 then v4 + ((v4 * v5) / 100) else 999999))]) hG dX7_serveDebts_117 rfl (by rfl) (by decide) (pm_c1b rfl) rfl ?_
          refine pm_goto (tgt := 10) hG dX7_serveDebts_120 rfl ?_
          refine pm_fg 3 (loc' := [some (.ref (B + 1)), some (.int v1), some (.int (x2_2 + 1)), none, some (.int (if (v4 + ((v4 * v5) / 100)) < 999999 then v4 + ((v4 * v5) / 100) else 999999)), some (.int (if v6 < (if (v4 + ((v4 * v5) / 100)) < 999999 then v4 + ((v4 * v5) / 100) else 999999) then v6 else if (v4 + ((v4 * v5) / 100)) < 999999 then v4 + ((v4 * v5) / 100) else 999999))]) rfl ?_
          refine pm_fg 4 (loc' := [some (.ref (B + 1)), some (.int v1), some (.int (x2_2 + 1)), none, none, some (.int (if v6 < (if (v4 + ((v4 * v5) / 100)) < 999999 then v4 + ((v4 * v5) / 100) else 999999) then v6 else if (v4 + ((v4 * v5) / 100)) < 999999 then v4 + ((v4 * v5) / 100) else 999999))]) rfl ?_
          refine pm_fg 5 (loc' := [some (.ref (B + 1)), some (.int v1), some (.int (x2_2 + 1)), none, none, none]) rfl ?_
          exact ih10 _ _ (x2_2 + 1) h9 (pm_sd1 c3 s10) (Nat.lt_of_lt_of_le (pm_mu1 c3) (Nat.le_of_lt_succ hm10))
        · refine pm_aloadn hG dX7_serveDebts_73 rfl ?_
          refine pm_dup hG dX7_serveDebts_74 rfl ?_
          refine pm_getf hG dX7_serveDebts_75 (flX7_53 _ rfl) rfl rfl ?_
          refine pm_iloadi hG dX7_serveDebts_78 rfl ?_
          refine pm_isub hG dX7_serveDebts_80 ?_
          refine pm_putf hG dX7_serveDebts_81 (fwX7_53 _ rfl) rfl rfl rfl ?_
          refine pm_nrm (L' := cl_L B kp (ui I6 103 ((I6 103) - (if v6 < (if (v4 + ((v4 * v5) / 100)) < 999999 then v4 + ((v4 * v5) / 100) else 999999) then v6 else if (v4 + ((v4 * v5) / 100)) < 999999 then v4 + ((v4 * v5) / 100) else 999999))) A6) (by decide) (Nat.le_of_ble_eq_true rfl) rfl ?_
          refine pm_aloadn hG dX7_serveDebts_84 rfl ?_
          refine pm_getf hG dX7_serveDebts_85 (flX7_38 _ rfl) rfl rfl ?_
          refine pm_iloadn hG dX7_serveDebts_88 rfl ?_
          refine pm_iconst (v := 0) hG dX7_serveDebts_89 (by decide) ?_
          refine pm_iloadi hG dX7_serveDebts_90 rfl ?_
          refine pm_iloadi hG dX7_serveDebts_92 rfl ?_
          refine pm_isub hG dX7_serveDebts_94 ?_
          refine pm_callV (As := [.int x2_2, .int 0, .int ((if (v4 + ((v4 * v5) / 100)) < 999999 then v4 + ((v4 * v5) / 100) else 999999) - (if v6 < (if (v4 + ((v4 * v5) / 100)) < 999999 then v4 + ((v4 * v5) / 100) else 999999) then v6 else if (v4 + ((v4 * v5) / 100)) < 999999 then v4 + ((v4 * v5) / 100) else 999999))]) (rest := []) hG hR dX7_serveDebts_95 (lkX7_61 _ rfl) okV_X9_set rfl rfl (tb_set (d := 2) rfl rfl (pm_tw_of 6 5 (by decide) (by decide) (by decide)) (by decide)) rfl rfl hdd (Nat.le_refl _) (Nat.le_refl _) (by decide) (pm_kv (fun σ' cnt' hq => ?_))
          obtain ⟨I11, A11, rfl, rfl, h11⟩ := hv_a17 (kp := kp) (I := (ui I6 103 ((I6 103) - (if v6 < (if (v4 + ((v4 * v5) / 100)) < 999999 then v4 + ((v4 * v5) / 100) else 999999) then v6 else if (v4 + ((v4 * v5) / 100)) < 999999 then v4 + ((v4 * v5) / 100) else 999999)))) (A := A6) (gq.wi (k := 103) rfl h6) hq
          refine pm_goto (tgt := 117) hG dX7_serveDebts_98 rfl ?_
          refine pm_iincX (v := x2_2 + 1) (loc' := [some (.ref (B + 1)), some (.int v1), some (.int (x2_2 + 1)), some (.int v4), some (.int (if (v4 + ((v4 * v5) / 100)) < 999999 then v4 + ((v4 * v5) / 100) else 999999)), some (.int (if v6 < (if (v4 + ((v4 * v5) / 100)) < 999999 then v4 + ((v4 * v5) / 100) else 999999) then v6 else if (v4 + ((v4 * v5) / 100)) < 999999 then v4 + ((v4 * v5) / 100) else 999999))]) hG dX7_serveDebts_117 rfl (by rfl) (by decide) (pm_c1b rfl) rfl ?_
          refine pm_goto (tgt := 10) hG dX7_serveDebts_120 rfl ?_
          refine pm_fg 3 (loc' := [some (.ref (B + 1)), some (.int v1), some (.int (x2_2 + 1)), none, some (.int (if (v4 + ((v4 * v5) / 100)) < 999999 then v4 + ((v4 * v5) / 100) else 999999)), some (.int (if v6 < (if (v4 + ((v4 * v5) / 100)) < 999999 then v4 + ((v4 * v5) / 100) else 999999) then v6 else if (v4 + ((v4 * v5) / 100)) < 999999 then v4 + ((v4 * v5) / 100) else 999999))]) rfl ?_
          refine pm_fg 4 (loc' := [some (.ref (B + 1)), some (.int v1), some (.int (x2_2 + 1)), none, none, some (.int (if v6 < (if (v4 + ((v4 * v5) / 100)) < 999999 then v4 + ((v4 * v5) / 100) else 999999) then v6 else if (v4 + ((v4 * v5) / 100)) < 999999 then v4 + ((v4 * v5) / 100) else 999999))]) rfl ?_
          refine pm_fg 5 (loc' := [some (.ref (B + 1)), some (.int v1), some (.int (x2_2 + 1)), none, none, none]) rfl ?_
          exact ih10 _ _ (x2_2 + 1) h11 (pm_sd1 c3 s10) (Nat.lt_of_lt_of_le (pm_mu1 c3) (Nat.le_of_lt_succ hm10))
  exact loop10 _ _ _ 0 h1 (by decide) (Nat.lt_succ_self _)

set_option maxRecDepth 100000 in
set_option maxHeartbeats 4000000 in
theorem g_X7_takeBackLent {ε : Nat → Int32} {d B cnt : Nat} {kp : pm_KP} {ρ : pm_S} {I : Nat → Int32} {A : Nat → Nat → Int32} (hdd : 2 ≤ d) (h : gq ε I) : pm_met mX7_takeBackLent d 0 0 B [.ref (B + 1)] cnt (pm_two (cl_L B kp I A) ρ) (pm_Qv (fun σ' cnt' => hvq ε B kp ρ cnt σ' cnt')) := by
  refine pm_enter 2 (by decide) (Nat.le_of_ble_eq_true rfl) rfl (fun G hG hR hF => ?_)
  refine pm_aloadn hG dX7_takeBackLent_0 rfl ?_
  refine pm_getf hG dX7_takeBackLent_1 (flX7_26 _ rfl) rfl rfl ?_
  refine pm_callV (As := []) (rest := []) hG hR dX7_takeBackLent_4 (lkX7_79 _ rfl) okV_X9_used rfl rfl (tb_used (d := 1) rfl) rfl rfl hdd (Nat.le_refl _) (Nat.le_refl _) (by decide) (pm_ki (fun v1 σ' cnt' hq => ?_))
  obtain ⟨I1, A1, rfl, rfl, h1⟩ := hv_id (kp := kp) (I := I) (A := A) h hq.2
  refine pm_istoreXn (loc' := [some (.ref (B + 1)), some (.int v1), none]) hG dX7_takeBackLent_7 (by decide) (pm_c1b rfl) rfl ?_
  refine pm_iconst (v := 0) hG dX7_takeBackLent_8 (by decide) ?_
  refine pm_istoreXn (loc' := [some (.ref (B + 1)), some (.int v1), some (.int 0)]) hG dX7_takeBackLent_9 (by decide) (pm_c1b rfl) rfl ?_
  have loop10 : ∀ (m10 : Nat) (I2 : Nat → Int32) (A2 : Nat → Nat → Int32) (x2_2 : Int32), gq ε I2 → (¬ x2_2 < 0) → ((v1 : Int32).toInt - x2_2.toInt).toNat < m10 → pm_wp mX7_takeBackLent G B 10 [some (.ref (B + 1)), some (.int v1), some (.int x2_2)] [] 0 0 cnt (pm_two (cl_L B kp I2 A2) ρ) := by
    intro m10
    induction m10 with
    | zero => intro I2 A2 x2_2 _  _ hm; exact absurd hm (Nat.not_lt_zero _)
    | succ m10 ih10 =>
      intro I2 A2 x2_2 h2 s10 hm10
      refine pm_iloadn hG dX7_takeBackLent_10 rfl ?_
      refine pm_iloadn hG dX7_takeBackLent_11 rfl ?_
      refine pm_icmp_ge (tgt := 52) hG dX7_takeBackLent_12 rfl (fun c3 => ?_) (fun c3 => ?_)
      · exact pm_vret hG hF dX7_takeBackLent_52 rfl (Nat.le_refl _) (Nat.le_refl _) ⟨rfl, _, _, rfl, rfl, h2⟩
      · refine pm_aloadn hG dX7_takeBackLent_15 rfl ?_
        refine pm_iloadn hG dX7_takeBackLent_16 rfl ?_
        refine pm_callV (As := [.int x2_2]) (rest := []) hG hR dX7_takeBackLent_17 (lkX7_138 _ rfl) okV_X7_isLent rfl rfl (g_X7_isLent (d := 1) (by decide) h2) rfl rfl hdd (Nat.le_refl _) (Nat.le_refl _) (by decide) (pm_ki (fun v4 σ' cnt' hq => ?_))
        obtain ⟨b4, I4, A4, rfl, rfl, h4⟩ := hq
        refine pm_if_eq (tgt := 46) hG dX7_takeBackLent_20 rfl (fun c5 => ?_) (fun c5 => ?_)
        · refine pm_iincX (v := x2_2 + 1) (loc' := [some (.ref (B + 1)), some (.int v1), some (.int (x2_2 + 1))]) hG dX7_takeBackLent_46 rfl (by rfl) (by decide) (pm_c1b rfl) rfl ?_
          refine pm_goto (tgt := 10) hG dX7_takeBackLent_49 rfl ?_
          exact ih10 _ _ (x2_2 + 1) h4 (pm_sd1 c3 s10) (Nat.lt_of_lt_of_le (pm_mu1 c3) (Nat.le_of_lt_succ hm10))
        · refine pm_aloadn hG dX7_takeBackLent_23 rfl ?_
          refine pm_getf hG dX7_takeBackLent_24 (flX7_26 _ rfl) rfl rfl ?_
          refine pm_iloadn hG dX7_takeBackLent_27 rfl ?_
          refine pm_iconst (v := 4) hG dX7_takeBackLent_28 (by decide) ?_
          refine pm_callV (As := [.int x2_2, .int 4]) (rest := []) hG hR dX7_takeBackLent_29 (lkX7_83 _ rfl) okV_X9_get rfl rfl (tb_get (d := 1) rfl rfl (pm_tw_of 20 6 (by decide) (by decide) (by decide))) rfl rfl hdd (Nat.le_refl _) (Nat.le_refl _) (by decide) (pm_ki (fun v6 σ' cnt' hq => ?_))
          obtain ⟨I6, A6, rfl, rfl, h6⟩ := hv_id (kp := kp) (I := I4) (A := A4) h4 hq.2
          refine pm_aloadn hG dX7_takeBackLent_32 rfl ?_
          refine pm_getf hG dX7_takeBackLent_33 (flX7_72 _ rfl) rfl rfl ?_
          refine pm_icmp_ge (tgt := 46) hG dX7_takeBackLent_36 rfl (fun c7 => ?_) (fun c7 => ?_)
          · refine pm_iincX (v := x2_2 + 1) (loc' := [some (.ref (B + 1)), some (.int v1), some (.int (x2_2 + 1))]) hG dX7_takeBackLent_46 rfl (by rfl) (by decide) (pm_c1b rfl) rfl ?_
            refine pm_goto (tgt := 10) hG dX7_takeBackLent_49 rfl ?_
            exact ih10 _ _ (x2_2 + 1) h6 (pm_sd1 c3 s10) (Nat.lt_of_lt_of_le (pm_mu1 c3) (Nat.le_of_lt_succ hm10))
          · refine pm_aloadn hG dX7_takeBackLent_39 rfl ?_
            refine pm_iloadn hG dX7_takeBackLent_40 rfl ?_
            refine pm_iconst (v := (-1)) hG dX7_takeBackLent_41 (by decide) ?_
            refine pm_iconst (v := (-1)) hG dX7_takeBackLent_42 (by decide) ?_
            refine pm_callV (As := [.int x2_2, .int (-1), .int (-1)]) (rest := []) hG hR dX7_takeBackLent_43 (lkX7_122 _ rfl) okV_X7_setLent rfl rfl (g_X7_setLent (d := 1) (by decide) h6) rfl rfl hdd (Nat.le_refl _) (Nat.le_refl _) (by decide) (pm_kv (fun σ' cnt' hq => ?_))
            obtain ⟨I8, A8, rfl, rfl, h8⟩ := hq
            refine pm_iincX (v := x2_2 + 1) (loc' := [some (.ref (B + 1)), some (.int v1), some (.int (x2_2 + 1))]) hG dX7_takeBackLent_46 rfl (by rfl) (by decide) (pm_c1b rfl) rfl ?_
            refine pm_goto (tgt := 10) hG dX7_takeBackLent_49 rfl ?_
            exact ih10 _ _ (x2_2 + 1) h8 (pm_sd1 c3 s10) (Nat.lt_of_lt_of_le (pm_mu1 c3) (Nat.le_of_lt_succ hm10))
  exact loop10 _ _ _ 0 h1 (by decide) (Nat.lt_succ_self _)
