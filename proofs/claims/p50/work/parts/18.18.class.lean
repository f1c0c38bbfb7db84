set_option maxRecDepth 100000 in
set_option maxHeartbeats 4000000 in
theorem g_X7_addTown {ε : Nat → Int32} {d B cnt : Nat} {kp : Value} {ρ : pm_S} {I : Nat → Int32} {A : Nat → Nat → Int32} (hdd : 2 ≤ d) (h : gq ε I) : pm_met mX7_addTown d 0 0 B [.ref (B + 1)] cnt (pm_two (cl_L B kp I A) ρ) (pm_Qi (fun _ σ' cnt' => hvq ε B kp ρ cnt σ' cnt')) := by
  refine pm_enter 1 (by decide) (Nat.le_of_ble_eq_true rfl) rfl (fun G hG hR hF => ?_)
  refine pm_aloadn hG dX7_addTown_0 rfl ?_
  refine pm_getf hG dX7_addTown_1 (flX7_14 _ rfl) rfl rfl ?_
  refine pm_iconst (v := 0) hG dX7_addTown_4 (by decide) ?_
  obtain ⟨k1, hk1, hu1⟩ := gq.used h 2 10 (by decide)
  have ht1 : pm_two (cl_L B kp I A) ρ 2 = some (.inr (9, [.int (nI 10), .int (nI 3), .ref (B + 3), .int (nI k1)])) := by rw [← hu1]; rfl
  refine pm_callV (As := [.int 0]) (rest := []) hG hR dX7_addTown_5 (lkX7_75 _ rfl) okV_X9_append rfl rfl (tb_append (d := 1) (by decide) ht1 rfl (by decide) (by decide) (by decide) (by decide) (by decide) (by decide) hk1) rfl rfl hdd (Nat.le_refl _) (Nat.le_refl _) (by decide) (pm_ki (fun v1 σ' cnt' hq => ?_))
  obtain ⟨I1, A1, rfl, rfl, h1⟩ := hv_p2 (kp := kp) (I := I) (A := A) hk1 h hq
  refine pm_istoreXn (loc' := [some (.ref (B + 1)), some (.int v1)]) hG dX7_addTown_8 (by decide) (pm_c1b rfl) rfl ?_
  refine pm_aloadn hG dX7_addTown_9 rfl ?_
  refine pm_getf hG dX7_addTown_10 (flX7_14 _ rfl) rfl rfl ?_
  refine pm_iloadn hG dX7_addTown_13 rfl ?_
  refine pm_iconst (v := 1) hG dX7_addTown_14 (by decide) ?_
  refine pm_iconst (v := (-1)) hG dX7_addTown_15 (by decide) ?_
  refine pm_callV (As := [.int v1, .int 1, .int (-1)]) (rest := []) hG hR dX7_addTown_16 (lkX7_61 _ rfl) okV_X9_set rfl rfl (tb_set (d := 1) rfl rfl (pm_tw_of 10 3 (by decide) (by decide) (by decide)) (by decide)) rfl rfl hdd (Nat.le_refl _) (Nat.le_refl _) (by decide) (pm_kv (fun σ' cnt' hq => ?_))
  obtain ⟨I2, A2, rfl, rfl, h2⟩ := hv_a3 (kp := kp) (I := I1) (A := A1) h1 hq
  refine pm_iloadn hG dX7_addTown_19 rfl ?_
  exact pm_iret hG hF dX7_addTown_20 rfl (Nat.le_refl _) (Nat.le_refl _) ⟨_, rfl, _, _, rfl, rfl, h2⟩

set_option maxRecDepth 100000 in
set_option maxHeartbeats 4000000 in
theorem g_X11_town {ε : Nat → Int32} {d B cnt : Nat} {kp : Value} {ρ : pm_S} {I : Nat → Int32} {A : Nat → Nat → Int32} (hdd : 3 ≤ d) (h : gq ε I) : pm_met mX11_town d 0 0 B [.ref (B + 0)] cnt (pm_two (cl_L B kp I A) ρ) (pm_Qi (fun _ σ' cnt' => hvq ε B kp ρ cnt σ' cnt')) := by
  refine pm_enter 0 (by decide) (Nat.le_of_ble_eq_true rfl) rfl (fun G hG hR hF => ?_)
  refine pm_aloadn hG dX11_town_0 rfl ?_
  refine pm_aloadn hG dX11_town_1 rfl ?_
  refine pm_getf hG dX11_town_2 (flX11_12 _ rfl) rfl rfl ?_
  refine pm_getf hG dX11_town_5 (flX11_82 _ rfl) rfl rfl ?_
  refine pm_callV (As := []) (rest := [.ref (B + 0)]) hG hR dX11_town_8 (lkX11_86 _ rfl) okV_X9_isFull rfl rfl (tb_isFull (d := 2) rfl) rfl rfl hdd (Nat.le_refl _) (Nat.le_refl _) (by first | decide | exact Nat.le_of_ble_eq_true rfl) (pm_ki (fun v1 σ' cnt' hq => ?_))
  have b1 := pm_b01 hq.1
  obtain ⟨I1, A1, rfl, rfl, h1⟩ := hv_id (kp := kp) (I := I) (A := A) h hq.2
  refine pm_if_eq (tgt := 19) hG dX11_town_11 rfl (fun c2 => ?_) (fun c2 => ?_)
  · refine pm_aloadn hG dX11_town_19 rfl ?_
    refine pm_getf hG dX11_town_20 (flX11_12 _ rfl) rfl rfl ?_
    refine pm_callV (As := []) (rest := [.ref (B + 0)]) hG hR dX11_town_23 (lkX11_93 _ rfl) okV_X7_addTown rfl rfl (g_X7_addTown (d := 2) (by decide) h1) rfl rfl hdd (Nat.le_refl _) (Nat.le_refl _) (by first | decide | exact Nat.le_of_ble_eq_true rfl) (pm_ki (fun v3 σ' cnt' hq => ?_))
    obtain ⟨I3, A3, rfl, rfl, h3⟩ := hq
    refine pm_callV (As := [.int v3]) (rest := []) hG hR dX11_town_26 (lkX11_97 _ rfl) okV_X11_told rfl rfl (sx_told (d := 2) (by decide) rfl rfl) rfl rfl hdd (Nat.le_refl _) (Nat.le_refl _) (by decide) (pm_ki (fun v4 σ' cnt' hq => ?_))
    obtain ⟨-, ⟨g4, hg4⟩, hc4⟩ := hq
    obtain ⟨I4, A4, rfl, rfl, h4⟩ := hv_a53 (kp := kp) (I := I3) (A := A3) h3 ⟨hg4, hc4⟩
    exact pm_iret hG hF dX11_town_29 rfl (Nat.le_refl _) (Nat.le_refl _) ⟨_, rfl, _, _, rfl, rfl, h4⟩
  · refine pm_ldc hG dX11_town_14 (ctX11_92 _ rfl) ?_
    refine pm_goto (tgt := 26) hG dX11_town_16 rfl ?_
    refine pm_callV (As := [.int (-1000004)]) (rest := []) hG hR dX11_town_26 (lkX11_97 _ rfl) okV_X11_told rfl rfl (sx_told (d := 2) (by decide) rfl rfl) rfl rfl hdd (Nat.le_refl _) (Nat.le_refl _) (by decide) (pm_ki (fun v5 σ' cnt' hq => ?_))
    obtain ⟨-, ⟨g5, hg5⟩, hc5⟩ := hq
    obtain ⟨I5, A5, rfl, rfl, h5⟩ := hv_a53 (kp := kp) (I := I1) (A := A1) h1 ⟨hg5, hc5⟩
    exact pm_iret hG hF dX11_town_29 rfl (Nat.le_refl _) (Nat.le_refl _) ⟨_, rfl, _, _, rfl, rfl, h5⟩

set_option maxRecDepth 100000 in
set_option maxHeartbeats 4000000 in
theorem g_X11_trace {ε : Nat → Int32} {d B cnt : Nat} {kp : Value} {ρ : pm_S} {I : Nat → Int32} {A : Nat → Nat → Int32} {za : Int32} (hdd : 2 ≤ d) (h : gq ε I) : pm_met mX11_trace d 0 0 B [.ref (B + 0), .int za] cnt (pm_two (cl_L B kp I A) ρ) (pm_Qi (fun _ σ' cnt' => hvq ε B kp ρ cnt σ' cnt')) := by
  refine pm_enter 0 (by decide) (Nat.le_of_ble_eq_true rfl) rfl (fun G hG hR hF => ?_)
  refine pm_aloadn hG dX11_trace_0 rfl ?_
  refine pm_iloadn hG dX11_trace_1 rfl ?_
  refine pm_if_lt (tgt := 27) hG dX11_trace_2 rfl (fun c1 => ?_) (fun c1 => ?_)
  · refine pm_ldc hG dX11_trace_27 (ctX11_223 _ rfl) ?_
    refine pm_callV (As := [.int (-1000002)]) (rest := []) hG hR dX11_trace_29 (lkX11_97 _ rfl) okV_X11_told rfl rfl (sx_told (d := 1) (by decide) rfl rfl) rfl rfl hdd (Nat.le_refl _) (Nat.le_refl _) (by decide) (pm_ki (fun v2 σ' cnt' hq => ?_))
    obtain ⟨-, ⟨g2, hg2⟩, hc2⟩ := hq
    obtain ⟨I2, A2, rfl, rfl, h2⟩ := hv_a53 (kp := kp) (I := I) (A := A) h ⟨hg2, hc2⟩
    exact pm_iret hG hF dX11_trace_32 rfl (Nat.le_refl _) (Nat.le_refl _) ⟨_, rfl, _, _, rfl, rfl, h2⟩
  · refine pm_iloadn hG dX11_trace_5 rfl ?_
    refine pm_aloadn hG dX11_trace_6 rfl ?_
    refine pm_getf hG dX11_trace_7 (flX11_67 _ rfl) rfl rfl ?_
    refine pm_getf hG dX11_trace_10 (flX11_358 _ rfl) rfl rfl ?_
    refine pm_icmp_ge (tgt := 27) hG dX11_trace_13 rfl (fun c3 => ?_) (fun c3 => ?_)
    · refine pm_ldc hG dX11_trace_27 (ctX11_223 _ rfl) ?_
      refine pm_callV (As := [.int (-1000002)]) (rest := []) hG hR dX11_trace_29 (lkX11_97 _ rfl) okV_X11_told rfl rfl (sx_told (d := 1) (by decide) rfl rfl) rfl rfl hdd (Nat.le_refl _) (Nat.le_refl _) (by decide) (pm_ki (fun v4 σ' cnt' hq => ?_))
      obtain ⟨-, ⟨g4, hg4⟩, hc4⟩ := hq
      obtain ⟨I4, A4, rfl, rfl, h4⟩ := hv_a53 (kp := kp) (I := I) (A := A) h ⟨hg4, hc4⟩
      exact pm_iret hG hF dX11_trace_32 rfl (Nat.le_refl _) (Nat.le_refl _) ⟨_, rfl, _, _, rfl, rfl, h4⟩
    · refine pm_aloadn hG dX11_trace_16 rfl ?_
      refine pm_getf hG dX11_trace_17 (flX11_67 _ rfl) rfl rfl ?_
      refine pm_iloadn hG dX11_trace_20 rfl ?_
      refine pm_callV (As := [.int za]) (rest := [.ref (B + 0)]) hG hR dX11_trace_21 (lkX11_361 _ rfl) okV_X10_bodyAt rfl rfl (g_X10_bodyAt (d := 1) (by decide) h) rfl rfl hdd (Nat.le_refl _) (Nat.le_refl _) (by first | decide | exact Nat.le_of_ble_eq_true rfl) (pm_ki (fun v5 σ' cnt' hq => ?_))
      obtain ⟨I5, A5, rfl, rfl, h5⟩ := hq
      refine pm_goto (tgt := 29) hG dX11_trace_24 rfl ?_
      refine pm_callV (As := [.int v5]) (rest := []) hG hR dX11_trace_29 (lkX11_97 _ rfl) okV_X11_told rfl rfl (sx_told (d := 1) (by decide) rfl rfl) rfl rfl hdd (Nat.le_refl _) (Nat.le_refl _) (by decide) (pm_ki (fun v6 σ' cnt' hq => ?_))
      obtain ⟨-, ⟨g6, hg6⟩, hc6⟩ := hq
      obtain ⟨I6, A6, rfl, rfl, h6⟩ := hv_a53 (kp := kp) (I := I5) (A := A5) h5 ⟨hg6, hc6⟩
      exact pm_iret hG hF dX11_trace_32 rfl (Nat.le_refl _) (Nat.le_refl _) ⟨_, rfl, _, _, rfl, rfl, h6⟩

set_option maxRecDepth 100000 in
set_option maxHeartbeats 4000000 in
theorem g_X11_voice {ε : Nat → Int32} {d B cnt : Nat} {kp : Value} {ρ : pm_S} {I : Nat → Int32} {A : Nat → Nat → Int32} {za zb zc : Int32} (hdd : 11 ≤ d) (h : gq ε I) : pm_met mX11_voice d 0 0 B [.ref (B + 0), .int za, .int zb, .int zc] cnt (pm_two (cl_L B kp I A) ρ) (pm_Qi (fun _ σ' cnt' => hvq ε B kp ρ cnt σ' cnt')) := by
  refine pm_enter 0 (by decide) (Nat.le_of_ble_eq_true rfl) rfl (fun G hG hR hF => ?_)
  refine pm_aloadn hG dX11_voice_0 rfl ?_
  refine pm_getf hG dX11_voice_1 (flX11_12 _ rfl) rfl rfl ?_
  refine pm_getf hG dX11_voice_4 (flX11_161 _ rfl) rfl rfl ?_
  refine pm_iloadn hG dX11_voice_7 rfl ?_
  refine pm_callV (As := [.int za]) (rest := []) hG hR dX11_voice_8 (lkX11_101 _ rfl) okV_X9_has rfl rfl (tb_has (d := 10) rfl) rfl rfl hdd (Nat.le_refl _) (Nat.le_refl _) (by decide) (pm_ki (fun v1 σ' cnt' hq => ?_))
  have b1 := pm_b01 hq.1
  obtain ⟨I1, A1, rfl, rfl, h1⟩ := hv_id (kp := kp) (I := I) (A := A) h hq.2
  refine pm_if_eq (tgt := 23) hG dX11_voice_11 rfl (fun c2 => ?_) (fun c2 => ?_)
  · refine pm_aloadn hG dX11_voice_23 rfl ?_
    refine pm_ldc hG dX11_voice_24 (ctX11_109 _ rfl) ?_
    refine pm_callV (As := [.int (-1000001)]) (rest := []) hG hR dX11_voice_26 (lkX11_97 _ rfl) okV_X11_told rfl rfl (sx_told (d := 10) (by decide) rfl rfl) rfl rfl hdd (Nat.le_refl _) (Nat.le_refl _) (by decide) (pm_ki (fun v3 σ' cnt' hq => ?_))
    obtain ⟨-, ⟨g3, hg3⟩, hc3⟩ := hq
    obtain ⟨I3, A3, rfl, rfl, h3⟩ := hv_a53 (kp := kp) (I := I1) (A := A1) h1 ⟨hg3, hc3⟩
    exact pm_iret hG hF dX11_voice_29 rfl (Nat.le_refl _) (Nat.le_refl _) ⟨_, rfl, _, _, rfl, rfl, h3⟩
  · refine pm_iloadn hG dX11_voice_14 rfl ?_
    refine pm_iconst (v := 0) hG dX11_voice_15 (by decide) ?_
    refine pm_iconst (v := 3) hG dX11_voice_16 (by decide) ?_
    refine pm_callS (As := [.int zb, .int 0, .int 3]) (rest := []) hG hR dX11_voice_17 (lkX11_105 _ rfl) okS_X11_isOutside (sx_isOutside (d := 10)) rfl rfl hdd (Nat.le_refl _) (Nat.le_refl _) (by decide) (pm_ki (fun v4 σ' cnt' hq => ?_))
    have o4 := hq.1
    have b4 := pm_b10 hq.1
    obtain ⟨I4, A4, rfl, rfl, h4⟩ := hv_id (kp := kp) (I := I1) (A := A1) h1 hq.2
    refine pm_if_eq (tgt := 30) hG dX11_voice_20 rfl (fun c5 => ?_) (fun c5 => ?_)
    · refine pm_aloadn hG dX11_voice_30 rfl ?_
      refine pm_getf hG dX11_voice_31 (flX11_67 _ rfl) rfl rfl ?_
      refine pm_aloadn hG dX11_voice_34 rfl ?_
      refine pm_getf hG dX11_voice_35 (flX11_12 _ rfl) rfl rfl ?_
      refine pm_getf hG dX11_voice_38 (flX11_161 _ rfl) rfl rfl ?_
      refine pm_iloadn hG dX11_voice_41 rfl ?_
      refine pm_iconst (v := 0) hG dX11_voice_42 (by decide) ?_
      refine pm_callV (As := [.int za, .int 0]) (rest := [.ref (B + 46)]) hG hR dX11_voice_43 (lkX11_152 _ rfl) okV_X9_get rfl rfl (tb_get (d := 10) rfl rfl (pm_tw_of 20 6 (by decide) (by decide) (by decide))) rfl rfl hdd (Nat.le_refl _) (Nat.le_refl _) (by first | decide | exact Nat.le_of_ble_eq_true rfl) (pm_ki (fun v6 σ' cnt' hq => ?_))
      obtain ⟨I6, A6, rfl, rfl, h6⟩ := hv_id (kp := kp) (I := I4) (A := A4) h4 hq.2
      refine pm_iloadn hG dX11_voice_46 rfl ?_
      refine pm_aloadn hG dX11_voice_47 rfl ?_
      refine pm_getf hG dX11_voice_48 (flX11_12 _ rfl) rfl rfl ?_
      refine pm_getf hG dX11_voice_51 (flX11_161 _ rfl) rfl rfl ?_
      refine pm_iloadn hG dX11_voice_54 rfl ?_
      refine pm_iconst (v := 1) hG dX11_voice_55 (by decide) ?_
      refine pm_callV (As := [.int za, .int 1]) (rest := [.int za, .int v6, .ref (B + 46)]) hG hR dX11_voice_56 (lkX11_152 _ rfl) okV_X9_get rfl rfl (tb_get (d := 10) rfl rfl (pm_tw_of 20 6 (by decide) (by decide) (by decide))) rfl rfl hdd (Nat.le_refl _) (Nat.le_refl _) (by first | decide | exact Nat.le_of_ble_eq_true rfl) (pm_ki (fun v7 σ' cnt' hq => ?_))
      obtain ⟨I7, A7, rfl, rfl, h7⟩ := hv_id (kp := kp) (I := I6) (A := A6) h6 hq.2
      refine pm_callV (As := [.int v6, .int za, .int v7]) (rest := []) hG hR dX11_voice_59 (lkX11_353 _ rfl) okV_X10_begin rfl rfl (g_X10_begin (d := 10) (by decide) h7) rfl rfl hdd (Nat.le_refl _) (Nat.le_refl _) (by decide) (pm_kv (fun σ' cnt' hq => ?_))
      obtain ⟨I8, A8, rfl, rfl, h8⟩ := hq
      refine pm_aloadn hG dX11_voice_62 rfl ?_
      refine pm_getf hG dX11_voice_63 (flX11_67 _ rfl) rfl rfl ?_
      refine pm_iloadn hG dX11_voice_66 rfl ?_
      refine pm_iloadn hG dX11_voice_67 rfl ?_
      refine pm_callV (As := [.int zb, .int zc]) (rest := []) hG hR dX11_voice_68 (lkX11_355 _ rfl) okV_X10_speak rfl rfl (g_X10_speak (d := 10) (by decide) h8) rfl rfl hdd (Nat.le_refl _) (Nat.le_refl _) (by decide) (pm_ki (fun v9 σ' cnt' hq => ?_))
      obtain ⟨I9, A9, rfl, rfl, h9⟩ := hq
      exact pm_iret hG hF dX11_voice_71 rfl (Nat.le_refl _) (Nat.le_refl _) ⟨_, rfl, _, _, rfl, rfl, h9⟩
    · refine pm_aloadn hG dX11_voice_23 rfl ?_
      refine pm_ldc hG dX11_voice_24 (ctX11_109 _ rfl) ?_
      refine pm_callV (As := [.int (-1000001)]) (rest := []) hG hR dX11_voice_26 (lkX11_97 _ rfl) okV_X11_told rfl rfl (sx_told (d := 10) (by decide) rfl rfl) rfl rfl hdd (Nat.le_refl _) (Nat.le_refl _) (by decide) (pm_ki (fun v10 σ' cnt' hq => ?_))
      obtain ⟨-, ⟨g10, hg10⟩, hc10⟩ := hq
      obtain ⟨I10, A10, rfl, rfl, h10⟩ := hv_a53 (kp := kp) (I := I4) (A := A4) h4 ⟨hg10, hc10⟩
      exact pm_iret hG hF dX11_voice_29 rfl (Nat.le_refl _) (Nat.le_refl _) ⟨_, rfl, _, _, rfl, rfl, h10⟩

set_option maxRecDepth 100000 in
set_option maxHeartbeats 4000000 in
theorem g_X5_before {ε : Nat → Int32} {d B cnt : Nat} {kp : Value} {ρ : pm_S} {I : Nat → Int32} {A : Nat → Nat → Int32} {za zb : Int32} (hdd : 1 ≤ d) (h : gq ε I) : pm_met mX5_before d 0 0 B [.int za, .int zb] cnt (pm_two (cl_L B kp I A) ρ) (pm_Qi (fun _ σ' cnt' => hvq ε B kp ρ cnt σ' cnt')) := by
  refine pm_enter 1 (by decide) (Nat.le_of_ble_eq_true rfl) rfl (fun G hG hR hF => ?_)
  refine pm_iloadn hG dX5_before_0 rfl ?_
  refine pm_if_ne (tgt := 8) hG dX5_before_1 rfl (fun c1 => ?_) (fun c1 => ?_)
  · refine pm_iloadn hG dX5_before_8 rfl ?_
    refine pm_iconst (v := 1) hG dX5_before_9 (by decide) ?_
    refine pm_iloadn hG dX5_before_10 rfl ?_
    refine pm_iconst (v := 1) hG dX5_before_11 (by decide) ?_
    refine pm_isub hG dX5_before_12 ?_
    refine pm_ishl hG dX5_before_13 ?_
    refine pm_iconst (v := (-1)) hG dX5_before_14 (by decide) ?_
    refine pm_ixor hG dX5_before_15 ?_
    refine pm_iand hG dX5_before_16 ?_
    refine pm_istoreXn (loc' := [some (.int za), some (.int zb), some (.int (za &&& ((1 <<< ((zb - 1) &&& 31)) ^^^ (-1))))]) hG dX5_before_17 (by decide) (pm_c1b rfl) rfl ?_
    refine pm_iloadn hG dX5_before_18 rfl ?_
    refine pm_bipush (v := 63) hG dX5_before_19 (by decide) ?_
    refine pm_iand hG dX5_before_21 ?_
    exact pm_iret hG hF dX5_before_22 rfl (Nat.le_refl _) (Nat.le_refl _) ⟨_, rfl, _, _, rfl, rfl, h⟩
  · refine pm_iloadn hG dX5_before_4 rfl ?_
    refine pm_goto (tgt := 17) hG dX5_before_5 rfl ?_
    refine pm_istoreXn (loc' := [some (.int za), some (.int zb), some (.int za)]) hG dX5_before_17 (by decide) (pm_c1b rfl) rfl ?_
    refine pm_iloadn hG dX5_before_18 rfl ?_
    refine pm_bipush (v := 63) hG dX5_before_19 (by decide) ?_
    refine pm_iand hG dX5_before_21 ?_
    exact pm_iret hG hF dX5_before_22 rfl (Nat.le_refl _) (Nat.le_refl _) ⟨_, rfl, _, _, rfl, rfl, h⟩
