set_option maxRecDepth 100000 in
set_option maxHeartbeats 4000000 in
theorem g_X7_setOut {ε : Nat → Int32} {d B cnt : Nat} {kp : Value} {ρ : pm_S} {I : Nat → Int32} {A : Nat → Nat → Int32} {za zb : Int32} (hdd : 2 ≤ d) (h : gq ε I) : pm_met mX7_setOut d 0 0 B [.ref (B + 1), .int za, .int zb] cnt (pm_two (cl_L B kp I A) ρ) (pm_Qi (fun _ σ' cnt' => hvq ε B kp ρ cnt σ' cnt')) := by
  refine pm_enter 1 (by decide) (Nat.le_of_ble_eq_true rfl) rfl (fun G hG hR hF => ?_)
  refine pm_aloadn hG dX7_setOut_0 rfl ?_
  refine pm_aloadn hG dX7_setOut_1 rfl ?_
  refine pm_getf hG dX7_setOut_2 (flX7_23 _ rfl) rfl rfl ?_
  refine pm_iloadn hG dX7_setOut_5 rfl ?_
  refine pm_iconst (v := 4) hG dX7_setOut_6 (by decide) ?_
  refine pm_callV (As := [.int za, .int 4]) (rest := [.ref (B + 1)]) hG hR dX7_setOut_7 (lkX7_83 _ rfl) okV_X9_get rfl rfl (tb_get (d := 1) rfl rfl (pm_tw_of 20 14 (by decide) (by decide) (by decide))) rfl rfl hdd (Nat.le_refl _) (Nat.le_refl _) (by first | decide | exact Nat.le_of_ble_eq_true rfl) (pm_ki (fun v1 σ' cnt' hq => ?_))
  obtain ⟨I1, A1, rfl, rfl, h1⟩ := hv_id (kp := kp) (I := I) (A := A) h hq.2
  refine pm_iloadn hG dX7_setOut_10 rfl ?_
  refine pm_callV (As := [.int v1, .int zb]) (rest := []) hG hR dX7_setOut_11 (lkX7_109 _ rfl) okV_X7_wayBetween rfl rfl (g_X7_wayBetween (d := 1) (by decide) h1) rfl rfl hdd (Nat.le_refl _) (Nat.le_refl _) (by decide) (pm_ki (fun v2 σ' cnt' hq => ?_))
  obtain ⟨I2, A2, rfl, rfl, h2⟩ := hq
  refine pm_istoreXn (loc' := [some (.ref (B + 1)), some (.int za), some (.int zb), some (.int v2)]) hG dX7_setOut_14 (by decide) (pm_c1b rfl) rfl ?_
  refine pm_iloadn hG dX7_setOut_15 rfl ?_
  refine pm_if_ge (tgt := 22) hG dX7_setOut_16 rfl (fun c3 => ?_) (fun c3 => ?_)
  · refine pm_iloadn hG dX7_setOut_22 rfl ?_
    refine pm_if_le (tgt := 77) hG dX7_setOut_23 rfl (fun c4 => ?_) (fun c4 => ?_)
    · refine pm_aloadn hG dX7_setOut_77 rfl ?_
      refine pm_getf hG dX7_setOut_78 (flX7_72 _ rfl) rfl rfl ?_
      refine pm_iloadn hG dX7_setOut_81 rfl ?_
      refine pm_iadd hG dX7_setOut_82 ?_
      exact pm_iret hG hF dX7_setOut_83 rfl (Nat.le_refl _) (Nat.le_refl _) ⟨_, rfl, _, _, rfl, rfl, h2⟩
    · refine pm_aloadn hG dX7_setOut_26 rfl ?_
      refine pm_getf hG dX7_setOut_27 (flX7_23 _ rfl) rfl rfl ?_
      refine pm_iloadn hG dX7_setOut_30 rfl ?_
      refine pm_bipush (v := 10) hG dX7_setOut_31 (by decide) ?_
      refine pm_aloadn hG dX7_setOut_33 rfl ?_
      refine pm_iloadn hG dX7_setOut_34 rfl ?_
      refine pm_callV (As := [.int za]) (rest := [.int 10, .int za, .ref (B + 6)]) hG hR dX7_setOut_35 (lkX7_112 _ rfl) okV_X7_knownTo rfl rfl (g_X7_knownTo (d := 1) (by decide) h2) rfl rfl hdd (Nat.le_refl _) (Nat.le_refl _) (by first | decide | exact Nat.le_of_ble_eq_true rfl) (pm_ki (fun v5 σ' cnt' hq => ?_))
      obtain ⟨I5, A5, rfl, rfl, h5⟩ := hq
      refine pm_callV (As := [.int za, .int 10, .int v5]) (rest := []) hG hR dX7_setOut_38 (lkX7_61 _ rfl) okV_X9_set rfl rfl (tb_set (d := 1) rfl rfl (pm_tw_of 20 14 (by decide) (by decide) (by decide)) (by decide)) rfl rfl hdd (Nat.le_refl _) (Nat.le_refl _) (by decide) (pm_kv (fun σ' cnt' hq => ?_))
      obtain ⟨I6, A6, rfl, rfl, h6⟩ := hv_a7 (kp := kp) (I := I5) (A := A5) h5 hq
      refine pm_aloadn hG dX7_setOut_41 rfl ?_
      refine pm_getf hG dX7_setOut_42 (flX7_23 _ rfl) rfl rfl ?_
      refine pm_iloadn hG dX7_setOut_45 rfl ?_
      refine pm_iconst (v := 4) hG dX7_setOut_46 (by decide) ?_
      refine pm_iconst (v := (-1)) hG dX7_setOut_47 (by decide) ?_
      refine pm_callV (As := [.int za, .int 4, .int (-1)]) (rest := []) hG hR dX7_setOut_48 (lkX7_61 _ rfl) okV_X9_set rfl rfl (tb_set (d := 1) rfl rfl (pm_tw_of 20 14 (by decide) (by decide) (by decide)) (by decide)) rfl rfl hdd (Nat.le_refl _) (Nat.le_refl _) (by decide) (pm_kv (fun σ' cnt' hq => ?_))
      obtain ⟨I7, A7, rfl, rfl, h7⟩ := hv_a7 (kp := kp) (I := I6) (A := A6) h6 hq
      refine pm_aloadn hG dX7_setOut_51 rfl ?_
      refine pm_getf hG dX7_setOut_52 (flX7_23 _ rfl) rfl rfl ?_
      refine pm_iloadn hG dX7_setOut_55 rfl ?_
      refine pm_iconst (v := 5) hG dX7_setOut_56 (by decide) ?_
      refine pm_iloadn hG dX7_setOut_57 rfl ?_
      refine pm_callV (As := [.int za, .int 5, .int zb]) (rest := []) hG hR dX7_setOut_58 (lkX7_61 _ rfl) okV_X9_set rfl rfl (tb_set (d := 1) rfl rfl (pm_tw_of 20 14 (by decide) (by decide) (by decide)) (by decide)) rfl rfl hdd (Nat.le_refl _) (Nat.le_refl _) (by decide) (pm_kv (fun σ' cnt' hq => ?_))
      obtain ⟨I8, A8, rfl, rfl, h8⟩ := hv_a7 (kp := kp) (I := I7) (A := A7) h7 hq
      refine pm_aloadn hG dX7_setOut_61 rfl ?_
      refine pm_getf hG dX7_setOut_62 (flX7_23 _ rfl) rfl rfl ?_
      refine pm_iloadn hG dX7_setOut_65 rfl ?_
      refine pm_bipush (v := 6) hG dX7_setOut_66 (by decide) ?_
      refine pm_aloadn hG dX7_setOut_68 rfl ?_
      refine pm_getf hG dX7_setOut_69 (flX7_72 _ rfl) rfl rfl ?_
      refine pm_iloadn hG dX7_setOut_72 rfl ?_
      refine pm_iadd hG dX7_setOut_73 ?_
      refine pm_callV (As := [.int za, .int 6, .int ((I8 102) + v2)]) (rest := []) hG hR dX7_setOut_74 (lkX7_61 _ rfl) okV_X9_set rfl rfl (tb_set (d := 1) rfl rfl (pm_tw_of 20 14 (by decide) (by decide) (by decide)) (by decide)) rfl rfl hdd (Nat.le_refl _) (Nat.le_refl _) (by decide) (pm_kv (fun σ' cnt' hq => ?_))
      obtain ⟨I9, A9, rfl, rfl, h9⟩ := hv_a7 (kp := kp) (I := I8) (A := A8) h8 hq
      refine pm_aloadn hG dX7_setOut_77 rfl ?_
      refine pm_getf hG dX7_setOut_78 (flX7_72 _ rfl) rfl rfl ?_
      refine pm_iloadn hG dX7_setOut_81 rfl ?_
      refine pm_iadd hG dX7_setOut_82 ?_
      exact pm_iret hG hF dX7_setOut_83 rfl (Nat.le_refl _) (Nat.le_refl _) ⟨_, rfl, _, _, rfl, rfl, h9⟩
  · refine pm_ldc hG dX7_setOut_19 (ctX7_92 _ rfl) ?_
    exact pm_iret hG hF dX7_setOut_21 rfl (Nat.le_refl _) (Nat.le_refl _) ⟨_, rfl, _, _, rfl, rfl, h2⟩

set_option maxRecDepth 100000 in
set_option maxHeartbeats 4000000 in
theorem g_X11_go {ε : Nat → Int32} {d B cnt : Nat} {kp : Value} {ρ : pm_S} {I : Nat → Int32} {A : Nat → Nat → Int32} {za zb : Int32} (hdd : 3 ≤ d) (h : gq ε I) : pm_met mX11_go d 0 0 B [.ref (B + 0), .int za, .int zb] cnt (pm_two (cl_L B kp I A) ρ) (pm_Qi (fun _ σ' cnt' => hvq ε B kp ρ cnt σ' cnt')) := by
  refine pm_enter 0 (by decide) (Nat.le_of_ble_eq_true rfl) rfl (fun G hG hR hF => ?_)
  refine pm_aloadn hG dX11_go_0 rfl ?_
  refine pm_getf hG dX11_go_1 (flX11_12 _ rfl) rfl rfl ?_
  refine pm_getf hG dX11_go_4 (flX11_128 _ rfl) rfl rfl ?_
  refine pm_iloadn hG dX11_go_7 rfl ?_
  refine pm_callV (As := [.int za]) (rest := []) hG hR dX11_go_8 (lkX11_101 _ rfl) okV_X9_has rfl rfl (tb_has (d := 2) rfl) rfl rfl hdd (Nat.le_refl _) (Nat.le_refl _) (by decide) (pm_ki (fun v1 σ' cnt' hq => ?_))
  have b1 := pm_b01 hq.1
  obtain ⟨I1, A1, rfl, rfl, h1⟩ := hv_id (kp := kp) (I := I) (A := A) h hq.2
  refine pm_if_eq (tgt := 28) hG dX11_go_11 rfl (fun c2 => ?_) (fun c2 => ?_)
  · refine pm_aloadn hG dX11_go_28 rfl ?_
    refine pm_ldc hG dX11_go_29 (ctX11_109 _ rfl) ?_
    refine pm_callV (As := [.int (-1000001)]) (rest := []) hG hR dX11_go_31 (lkX11_97 _ rfl) okV_X11_told rfl rfl (sx_told (d := 2) (by decide) rfl rfl) rfl rfl hdd (Nat.le_refl _) (Nat.le_refl _) (by decide) (pm_ki (fun v3 σ' cnt' hq => ?_))
    obtain ⟨-, ⟨g3, hg3⟩, hc3⟩ := hq
    obtain ⟨I3, A3, rfl, rfl, h3⟩ := hv_a53 (kp := kp) (I := I1) (A := A1) h1 ⟨hg3, hc3⟩
    exact pm_iret hG hF dX11_go_34 rfl (Nat.le_refl _) (Nat.le_refl _) ⟨_, rfl, _, _, rfl, rfl, h3⟩
  · refine pm_aloadn hG dX11_go_14 rfl ?_
    refine pm_getf hG dX11_go_15 (flX11_12 _ rfl) rfl rfl ?_
    refine pm_getf hG dX11_go_18 (flX11_82 _ rfl) rfl rfl ?_
    refine pm_iloadn hG dX11_go_21 rfl ?_
    refine pm_callV (As := [.int zb]) (rest := []) hG hR dX11_go_22 (lkX11_101 _ rfl) okV_X9_has rfl rfl (tb_has (d := 2) rfl) rfl rfl hdd (Nat.le_refl _) (Nat.le_refl _) (by decide) (pm_ki (fun v4 σ' cnt' hq => ?_))
    have b4 := pm_b01 hq.1
    obtain ⟨I4, A4, rfl, rfl, h4⟩ := hv_id (kp := kp) (I := I1) (A := A1) h1 hq.2
    refine pm_if_ne (tgt := 35) hG dX11_go_25 rfl (fun c5 => ?_) (fun c5 => ?_)
    · refine pm_aloadn hG dX11_go_35 rfl ?_
      refine pm_aloadn hG dX11_go_36 rfl ?_
      refine pm_getf hG dX11_go_37 (flX11_12 _ rfl) rfl rfl ?_
      refine pm_iloadn hG dX11_go_40 rfl ?_
      refine pm_callV (As := [.int za]) (rest := [.ref (B + 0)]) hG hR dX11_go_41 (lkX11_146 _ rfl) okV_X7_isInTown rfl rfl (g_X7_isInTown (d := 2) (by decide) h4) rfl rfl hdd (Nat.le_refl _) (Nat.le_refl _) (by first | decide | exact Nat.le_of_ble_eq_true rfl) (pm_ki (fun v6 σ' cnt' hq => ?_))
      obtain ⟨b6, I6, A6, rfl, rfl, h6⟩ := hq
      refine pm_if_eq (tgt := 59) hG dX11_go_44 rfl (fun c7 => ?_) (fun c7 => ?_)
      · refine pm_ldc hG dX11_go_59 (ctX11_138 _ rfl) ?_
        refine pm_callV (As := [.int (-1000003)]) (rest := []) hG hR dX11_go_61 (lkX11_97 _ rfl) okV_X11_told rfl rfl (sx_told (d := 2) (by decide) rfl rfl) rfl rfl hdd (Nat.le_refl _) (Nat.le_refl _) (by decide) (pm_ki (fun v8 σ' cnt' hq => ?_))
        obtain ⟨-, ⟨g8, hg8⟩, hc8⟩ := hq
        obtain ⟨I8, A8, rfl, rfl, h8⟩ := hv_a53 (kp := kp) (I := I6) (A := A6) h6 ⟨hg8, hc8⟩
        exact pm_iret hG hF dX11_go_64 rfl (Nat.le_refl _) (Nat.le_refl _) ⟨_, rfl, _, _, rfl, rfl, h8⟩
      · refine pm_aloadn hG dX11_go_47 rfl ?_
        refine pm_getf hG dX11_go_48 (flX11_12 _ rfl) rfl rfl ?_
        refine pm_iloadn hG dX11_go_51 rfl ?_
        refine pm_iloadn hG dX11_go_52 rfl ?_
        refine pm_callV (As := [.int za, .int zb]) (rest := [.ref (B + 0)]) hG hR dX11_go_53 (lkX11_149 _ rfl) okV_X7_setOut rfl rfl (g_X7_setOut (d := 2) (by decide) h6) rfl rfl hdd (Nat.le_refl _) (Nat.le_refl _) (by first | decide | exact Nat.le_of_ble_eq_true rfl) (pm_ki (fun v9 σ' cnt' hq => ?_))
        obtain ⟨I9, A9, rfl, rfl, h9⟩ := hq
        refine pm_goto (tgt := 61) hG dX11_go_56 rfl ?_
        refine pm_callV (As := [.int v9]) (rest := []) hG hR dX11_go_61 (lkX11_97 _ rfl) okV_X11_told rfl rfl (sx_told (d := 2) (by decide) rfl rfl) rfl rfl hdd (Nat.le_refl _) (Nat.le_refl _) (by decide) (pm_ki (fun v10 σ' cnt' hq => ?_))
        obtain ⟨-, ⟨g10, hg10⟩, hc10⟩ := hq
        obtain ⟨I10, A10, rfl, rfl, h10⟩ := hv_a53 (kp := kp) (I := I9) (A := A9) h9 ⟨hg10, hc10⟩
        exact pm_iret hG hF dX11_go_64 rfl (Nat.le_refl _) (Nat.le_refl _) ⟨_, rfl, _, _, rfl, rfl, h10⟩
    · refine pm_aloadn hG dX11_go_28 rfl ?_
      refine pm_ldc hG dX11_go_29 (ctX11_109 _ rfl) ?_
      refine pm_callV (As := [.int (-1000001)]) (rest := []) hG hR dX11_go_31 (lkX11_97 _ rfl) okV_X11_told rfl rfl (sx_told (d := 2) (by decide) rfl rfl) rfl rfl hdd (Nat.le_refl _) (Nat.le_refl _) (by decide) (pm_ki (fun v11 σ' cnt' hq => ?_))
      obtain ⟨-, ⟨g11, hg11⟩, hc11⟩ := hq
      obtain ⟨I11, A11, rfl, rfl, h11⟩ := hv_a53 (kp := kp) (I := I4) (A := A4) h4 ⟨hg11, hc11⟩
      exact pm_iret hG hF dX11_go_34 rfl (Nat.le_refl _) (Nat.le_refl _) ⟨_, rfl, _, _, rfl, rfl, h11⟩

set_option maxRecDepth 100000 in
set_option maxHeartbeats 4000000 in
theorem g_X4_isFollower {ε : Nat → Int32} {d B cnt : Nat} {kp : Value} {ρ : pm_S} {I : Nat → Int32} {A : Nat → Nat → Int32} {za : Int32} (hdd : 5 ≤ d) (h : gq ε I) : pm_met mX4_isFollower d 0 0 B [.ref (B + 37), .int za] cnt (pm_two (cl_L B kp I A) ρ) (pm_Qi (fun v σ' cnt' => (v = 0 ∨ v = 1) ∧ hvq ε B kp ρ cnt σ' cnt')) := by
  refine pm_enter 0 (by decide) (Nat.le_of_ble_eq_true rfl) rfl (fun G hG hR hF => ?_)
  refine pm_aloadn hG dX4_isFollower_0 rfl ?_
  refine pm_getf hG dX4_isFollower_1 (flX4_9 _ rfl) rfl rfl ?_
  refine pm_iloadn hG dX4_isFollower_4 rfl ?_
  refine pm_callV (As := [.int za]) (rest := []) hG hR dX4_isFollower_5 (lkX4_56 _ rfl) okV_X7_isLiving rfl rfl (g_X7_isLiving (d := 4) (by decide) h) rfl rfl hdd (Nat.le_refl _) (Nat.le_refl _) (by decide) (pm_ki (fun v1 σ' cnt' hq => ?_))
  obtain ⟨b1, I1, A1, rfl, rfl, h1⟩ := hq
  refine pm_if_eq (tgt := 60) hG dX4_isFollower_8 rfl (fun c2 => ?_) (fun c2 => ?_)
  · refine pm_iconst (v := 0) hG dX4_isFollower_60 (by decide) ?_
    exact pm_zret hG hF dX4_isFollower_61 rfl (pm_nz (Or.inl rfl)) (Nat.le_refl _) (Nat.le_refl _) ⟨_, rfl, (Or.inl rfl), _, _, rfl, rfl, h1⟩
  · refine pm_aloadn hG dX4_isFollower_11 rfl ?_
    refine pm_getf hG dX4_isFollower_12 (flX4_9 _ rfl) rfl rfl ?_
    refine pm_getf hG dX4_isFollower_15 (flX4_31 _ rfl) rfl rfl ?_
    refine pm_iloadn hG dX4_isFollower_18 rfl ?_
    refine pm_bipush (v := 11) hG dX4_isFollower_19 (by decide) ?_
    refine pm_callV (As := [.int za, .int 11]) (rest := []) hG hR dX4_isFollower_21 (lkX4_51 _ rfl) okV_X9_get rfl rfl (tb_get (d := 4) rfl rfl (pm_tw_of 20 14 (by decide) (by decide) (by decide))) rfl rfl hdd (Nat.le_refl _) (Nat.le_refl _) (by decide) (pm_ki (fun v3 σ' cnt' hq => ?_))
    obtain ⟨I3, A3, rfl, rfl, h3⟩ := hv_id (kp := kp) (I := I1) (A := A1) h1 hq.2
    refine pm_bipush (v := 99) hG dX4_isFollower_24 (by decide) ?_
    refine pm_icmp_eq (tgt := 60) hG dX4_isFollower_26 rfl (fun c4 => ?_) (fun c4 => ?_)
    · refine pm_iconst (v := 0) hG dX4_isFollower_60 (by decide) ?_
      exact pm_zret hG hF dX4_isFollower_61 rfl (pm_nz (Or.inl rfl)) (Nat.le_refl _) (Nat.le_refl _) ⟨_, rfl, (Or.inl rfl), _, _, rfl, rfl, h3⟩
    · refine pm_aloadn hG dX4_isFollower_29 rfl ?_
      refine pm_getf hG dX4_isFollower_30 (flX4_15 _ rfl) rfl rfl ?_
      refine pm_iconst (v := 2) hG dX4_isFollower_33 (by decide) ?_
      refine pm_aloadn hG dX4_isFollower_34 rfl ?_
      refine pm_getf hG dX4_isFollower_35 (flX4_9 _ rfl) rfl rfl ?_
      refine pm_getf hG dX4_isFollower_38 (flX4_59 _ rfl) rfl rfl ?_
      refine pm_aloadn hG dX4_isFollower_41 rfl ?_
      refine pm_getf hG dX4_isFollower_42 (flX4_9 _ rfl) rfl rfl ?_
      refine pm_getf hG dX4_isFollower_45 (flX4_59 _ rfl) rfl rfl ?_
      refine pm_iloadn hG dX4_isFollower_48 rfl ?_
      refine pm_iconst (v := (-1)) hG dX4_isFollower_49 (by decide) ?_
      refine pm_callV (As := [.int 2, .int (I3 102), .int (I3 102), .int za, .int (-1)]) (rest := []) hG hR dX4_isFollower_50 (lkX4_63 _ rfl) okV_X2_ruling rfl rfl (g_X2_ruling (d := 4) (by decide) h3) rfl rfl hdd (Nat.le_refl _) (Nat.le_refl _) (by decide) (pm_ki (fun v5 σ' cnt' hq => ?_))
      obtain ⟨I5, A5, rfl, rfl, h5⟩ := hq
      refine pm_if_eq (tgt := 60) hG dX4_isFollower_53 rfl (fun c6 => ?_) (fun c6 => ?_)
      · refine pm_iconst (v := 0) hG dX4_isFollower_60 (by decide) ?_
        exact pm_zret hG hF dX4_isFollower_61 rfl (pm_nz (Or.inl rfl)) (Nat.le_refl _) (Nat.le_refl _) ⟨_, rfl, (Or.inl rfl), _, _, rfl, rfl, h5⟩
      · refine pm_iconst (v := 1) hG dX4_isFollower_56 (by decide) ?_
        refine pm_goto (tgt := 61) hG dX4_isFollower_57 rfl ?_
        exact pm_zret hG hF dX4_isFollower_61 rfl (pm_nz (Or.inr rfl)) (Nat.le_refl _) (Nat.le_refl _) ⟨_, rfl, (Or.inr rfl), _, _, rfl, rfl, h5⟩

set_option maxRecDepth 100000 in
set_option maxHeartbeats 4000000 in
theorem g_X4_isAhead {ε : Nat → Int32} {d B cnt : Nat} {kp : Value} {ρ : pm_S} {I : Nat → Int32} {A : Nat → Nat → Int32} {za zb : Int32} (hdd : 1 ≤ d) (h : gq ε I) : pm_met mX4_isAhead d 0 0 B [.ref (B + 37), .int za, .int zb] cnt (pm_two (cl_L B kp I A) ρ) (pm_Qi (fun v σ' cnt' => (v = 0 ∨ v = 1) ∧ hvq ε B kp ρ cnt σ' cnt')) := by
  refine pm_enter 2 (by decide) (Nat.le_of_ble_eq_true rfl) rfl (fun G hG hR hF => ?_)
  refine pm_aloadn hG dX4_isAhead_0 rfl ?_
  refine pm_getf hG dX4_isAhead_1 (flX4_9 _ rfl) rfl rfl ?_
  refine pm_getf hG dX4_isAhead_4 (flX4_31 _ rfl) rfl rfl ?_
  refine pm_iloadn hG dX4_isAhead_7 rfl ?_
  refine pm_bipush (v := 11) hG dX4_isAhead_8 (by decide) ?_
  refine pm_callV (As := [.int za, .int 11]) (rest := []) hG hR dX4_isAhead_10 (lkX4_51 _ rfl) okV_X9_get rfl rfl (tb_get (d := 0) rfl rfl (pm_tw_of 20 14 (by decide) (by decide) (by decide))) rfl rfl hdd (Nat.le_refl _) (Nat.le_refl _) (by decide) (pm_ki (fun v1 σ' cnt' hq => ?_))
  obtain ⟨I1, A1, rfl, rfl, h1⟩ := hv_id (kp := kp) (I := I) (A := A) h hq.2
  refine pm_aloadn hG dX4_isAhead_13 rfl ?_
  refine pm_getf hG dX4_isAhead_14 (flX4_9 _ rfl) rfl rfl ?_
  refine pm_getf hG dX4_isAhead_17 (flX4_31 _ rfl) rfl rfl ?_
  refine pm_iloadn hG dX4_isAhead_20 rfl ?_
  refine pm_bipush (v := 11) hG dX4_isAhead_21 (by decide) ?_
  refine pm_callV (As := [.int zb, .int 11]) (rest := [.int v1]) hG hR dX4_isAhead_23 (lkX4_51 _ rfl) okV_X9_get rfl rfl (tb_get (d := 0) rfl rfl (pm_tw_of 20 14 (by decide) (by decide) (by decide))) rfl rfl hdd (Nat.le_refl _) (Nat.le_refl _) (by first | decide | exact Nat.le_of_ble_eq_true rfl) (pm_ki (fun v2 σ' cnt' hq => ?_))
  obtain ⟨I2, A2, rfl, rfl, h2⟩ := hv_id (kp := kp) (I := I1) (A := A1) h1 hq.2
  refine pm_isub hG dX4_isAhead_26 ?_
  refine pm_istoreXn (loc' := [some (.ref (B + 37)), some (.int za), some (.int zb), some (.int (v1 - v2)), none]) hG dX4_isAhead_27 (by decide) (pm_c1b rfl) rfl ?_
  refine pm_aloadn hG dX4_isAhead_28 rfl ?_
  refine pm_getf hG dX4_isAhead_29 (flX4_9 _ rfl) rfl rfl ?_
  refine pm_getf hG dX4_isAhead_32 (flX4_31 _ rfl) rfl rfl ?_
  refine pm_iloadn hG dX4_isAhead_35 rfl ?_
  refine pm_iconst (v := 1) hG dX4_isAhead_36 (by decide) ?_
  refine pm_callV (As := [.int za, .int 1]) (rest := []) hG hR dX4_isAhead_37 (lkX4_51 _ rfl) okV_X9_get rfl rfl (tb_get (d := 0) rfl rfl (pm_tw_of 20 14 (by decide) (by decide) (by decide))) rfl rfl hdd (Nat.le_refl _) (Nat.le_refl _) (by decide) (pm_ki (fun v3 σ' cnt' hq => ?_))
  obtain ⟨I3, A3, rfl, rfl, h3⟩ := hv_id (kp := kp) (I := I2) (A := A2) h2 hq.2
  refine pm_aloadn hG dX4_isAhead_40 rfl ?_
  refine pm_getf hG dX4_isAhead_41 (flX4_9 _ rfl) rfl rfl ?_
  refine pm_getf hG dX4_isAhead_44 (flX4_31 _ rfl) rfl rfl ?_
  refine pm_iloadn hG dX4_isAhead_47 rfl ?_
  refine pm_iconst (v := 1) hG dX4_isAhead_48 (by decide) ?_
  refine pm_callV (As := [.int zb, .int 1]) (rest := [.int v3]) hG hR dX4_isAhead_49 (lkX4_51 _ rfl) okV_X9_get rfl rfl (tb_get (d := 0) rfl rfl (pm_tw_of 20 14 (by decide) (by decide) (by decide))) rfl rfl hdd (Nat.le_refl _) (Nat.le_refl _) (by first | decide | exact Nat.le_of_ble_eq_true rfl) (pm_ki (fun v4 σ' cnt' hq => ?_))
  obtain ⟨I4, A4, rfl, rfl, h4⟩ := hv_id (kp := kp) (I := I3) (A := A3) h3 hq.2
  refine pm_isub hG dX4_isAhead_52 ?_
  refine pm_istoreXi (loc' := [some (.ref (B + 37)), some (.int za), some (.int zb), some (.int (v1 - v2)), some (.int (v3 - v4))]) hG dX4_isAhead_53 (by decide) (pm_c1b rfl) rfl ?_
  refine pm_iloadn hG dX4_isAhead_55 rfl ?_
  refine pm_if_lt (tgt := 68) hG dX4_isAhead_56 rfl (fun c5 => ?_) (fun c5 => ?_)
  · refine pm_iconst (v := 1) hG dX4_isAhead_68 (by decide) ?_
    refine pm_goto (tgt := 73) hG dX4_isAhead_69 rfl ?_
    exact pm_zret hG hF dX4_isAhead_73 rfl (pm_nz (Or.inr rfl)) (Nat.le_refl _) (Nat.le_refl _) ⟨_, rfl, (Or.inr rfl), _, _, rfl, rfl, h4⟩
  · refine pm_iloadn hG dX4_isAhead_59 rfl ?_
    refine pm_if_ne (tgt := 72) hG dX4_isAhead_60 rfl (fun c6 => ?_) (fun c6 => ?_)
    · refine pm_iconst (v := 0) hG dX4_isAhead_72 (by decide) ?_
      exact pm_zret hG hF dX4_isAhead_73 rfl (pm_nz (Or.inl rfl)) (Nat.le_refl _) (Nat.le_refl _) ⟨_, rfl, (Or.inl rfl), _, _, rfl, rfl, h4⟩
    · refine pm_iloadi hG dX4_isAhead_63 rfl ?_
      refine pm_if_ge (tgt := 72) hG dX4_isAhead_65 rfl (fun c7 => ?_) (fun c7 => ?_)
      · refine pm_iconst (v := 0) hG dX4_isAhead_72 (by decide) ?_
        exact pm_zret hG hF dX4_isAhead_73 rfl (pm_nz (Or.inl rfl)) (Nat.le_refl _) (Nat.le_refl _) ⟨_, rfl, (Or.inl rfl), _, _, rfl, rfl, h4⟩
      · refine pm_iconst (v := 1) hG dX4_isAhead_68 (by decide) ?_
        refine pm_goto (tgt := 73) hG dX4_isAhead_69 rfl ?_
        exact pm_zret hG hF dX4_isAhead_73 rfl (pm_nz (Or.inr rfl)) (Nat.le_refl _) (Nat.le_refl _) ⟨_, rfl, (Or.inr rfl), _, _, rfl, rfl, h4⟩

set_option maxRecDepth 100000 in
set_option maxHeartbeats 4000000 in
theorem g_X4_enqueue {ε : Nat → Int32} {d B cnt : Nat} {kp : Value} {ρ : pm_S} {I : Nat → Int32} {A : Nat → Nat → Int32} {za : Int32} (hdd : 2 ≤ d) (h : gq ε I) : pm_met mX4_enqueue d 0 0 B [.ref (B + 37), .int za] cnt (pm_two (cl_L B kp I A) ρ) (pm_Qv (fun σ' cnt' => hvq ε B kp ρ cnt σ' cnt')) := by
  refine pm_enter 2 (by decide) (Nat.le_of_ble_eq_true rfl) rfl (fun G hG hR hF => ?_)
  refine pm_aloadn hG dX4_enqueue_0 rfl ?_
  refine pm_getf hG dX4_enqueue_1 (flX4_24 _ rfl) rfl rfl ?_
  refine pm_iloadn hG dX4_enqueue_4 rfl ?_
  obtain ⟨k1, hk1, hu1⟩ := gq.used h 38 20 (by decide)
  have ht1 : pm_two (cl_L B kp I A) ρ 38 = some (.inr (9, [.int (nI 20), .int (nI 1), .ref (B + 39), .int (nI k1)])) := by rw [← hu1]; rfl
  refine pm_callV (As := [.int za]) (rest := []) hG hR dX4_enqueue_5 (lkX4_69 _ rfl) okV_X9_append rfl rfl (tb_append (d := 1) (by decide) ht1 rfl (by decide) (by decide) (by decide) (by decide) (by decide) (by decide) hk1) rfl rfl hdd (Nat.le_refl _) (Nat.le_refl _) (by decide) (pm_ki (fun v1 σ' cnt' hq => ?_))
  obtain ⟨I1, A1, rfl, rfl, h1⟩ := hv_p38 (kp := kp) (I := I) (A := A) hk1 h hq
  refine pm_istoreXn (loc' := [some (.ref (B + 37)), some (.int za), some (.int v1), none]) hG dX4_enqueue_8 (by decide) (pm_c1b rfl) rfl ?_
  refine pm_iloadn hG dX4_enqueue_9 rfl ?_
  refine pm_istoreXn (loc' := [some (.ref (B + 37)), some (.int za), some (.int v1), some (.int v1)]) hG dX4_enqueue_10 (by decide) (pm_c1b rfl) rfl ?_
  have loop11 : ∀ (m11 : Nat) (I2 : Nat → Int32) (A2 : Nat → Nat → Int32) (x2_3 : Int32), gq ε I2 → (x2_3.toInt - (0 : Int32).toInt).toNat < m11 → pm_wp mX4_enqueue G B 11 [some (.ref (B + 37)), some (.int za), some (.int v1), some (.int x2_3)] [] 0 0 cnt (pm_two (cl_L B kp I2 A2) ρ) := by
    intro m11
    induction m11 with
    | zero => intro I2 A2 x2_3 _  hm; exact absurd hm (Nat.not_lt_zero _)
    | succ m11 ih11 =>
      intro I2 A2 x2_3 h2  hm11
      refine pm_iloadn hG dX4_enqueue_11 rfl ?_
      refine pm_if_le (tgt := 72) hG dX4_enqueue_12 rfl (fun c3 => ?_) (fun c3 => ?_)
      · exact pm_vret hG hF dX4_enqueue_72 rfl (Nat.le_refl _) (Nat.le_refl _) ⟨rfl, _, _, rfl, rfl, h2⟩
      · refine pm_aloadn hG dX4_enqueue_15 rfl ?_
        refine pm_iloadn hG dX4_enqueue_16 rfl ?_
        refine pm_aloadn hG dX4_enqueue_17 rfl ?_
        refine pm_getf hG dX4_enqueue_18 (flX4_24 _ rfl) rfl rfl ?_
        refine pm_iloadn hG dX4_enqueue_21 rfl ?_
        refine pm_iconst (v := 1) hG dX4_enqueue_22 (by decide) ?_
        refine pm_isub hG dX4_enqueue_23 ?_
        refine pm_iconst (v := 0) hG dX4_enqueue_24 (by decide) ?_
        refine pm_callV (As := [.int (x2_3 - 1), .int 0]) (rest := [.int za, .ref (B + 37)]) hG hR dX4_enqueue_25 (lkX4_51 _ rfl) okV_X9_get rfl rfl (tb_get (d := 1) rfl rfl (pm_tw_of 20 1 (by decide) (by decide) (by decide))) rfl rfl hdd (Nat.le_refl _) (Nat.le_refl _) (by first | decide | exact Nat.le_of_ble_eq_true rfl) (pm_ki (fun v4 σ' cnt' hq => ?_))
        obtain ⟨I4, A4, rfl, rfl, h4⟩ := hv_id (kp := kp) (I := I2) (A := A2) h2 hq.2
        refine pm_callV (As := [.int za, .int v4]) (rest := []) hG hR dX4_enqueue_28 (lkX4_73 _ rfl) okV_X4_isAhead rfl rfl (g_X4_isAhead (d := 1) (by decide) h4) rfl rfl hdd (Nat.le_refl _) (Nat.le_refl _) (by decide) (pm_ki (fun v5 σ' cnt' hq => ?_))
        obtain ⟨b5, I5, A5, rfl, rfl, h5⟩ := hq
        refine pm_if_eq (tgt := 72) hG dX4_enqueue_31 rfl (fun c6 => ?_) (fun c6 => ?_)
        · exact pm_vret hG hF dX4_enqueue_72 rfl (Nat.le_refl _) (Nat.le_refl _) ⟨rfl, _, _, rfl, rfl, h5⟩
        · refine pm_aloadn hG dX4_enqueue_34 rfl ?_
          refine pm_getf hG dX4_enqueue_35 (flX4_24 _ rfl) rfl rfl ?_
          refine pm_iloadn hG dX4_enqueue_38 rfl ?_
          refine pm_iconst (v := 0) hG dX4_enqueue_39 (by decide) ?_
          refine pm_aloadn hG dX4_enqueue_40 rfl ?_
          refine pm_getf hG dX4_enqueue_41 (flX4_24 _ rfl) rfl rfl ?_
          refine pm_iloadn hG dX4_enqueue_44 rfl ?_
          refine pm_iconst (v := 1) hG dX4_enqueue_45 (by decide) ?_
          refine pm_isub hG dX4_enqueue_46 ?_
          refine pm_iconst (v := 0) hG dX4_enqueue_47 (by decide) ?_
          refine pm_callV (As := [.int (x2_3 - 1), .int 0]) (rest := [.int 0, .int x2_3, .ref (B + 38)]) hG hR dX4_enqueue_48 (lkX4_51 _ rfl) okV_X9_get rfl rfl (tb_get (d := 1) rfl rfl (pm_tw_of 20 1 (by decide) (by decide) (by decide))) rfl rfl hdd (Nat.le_refl _) (Nat.le_refl _) (by first | decide | exact Nat.le_of_ble_eq_true rfl) (pm_ki (fun v7 σ' cnt' hq => ?_))
          obtain ⟨I7, A7, rfl, rfl, h7⟩ := hv_id (kp := kp) (I := I5) (A := A5) h5 hq.2
          refine pm_callV (As := [.int x2_3, .int 0, .int v7]) (rest := []) hG hR dX4_enqueue_51 (lkX4_77 _ rfl) okV_X9_set rfl rfl (tb_set (d := 1) rfl rfl (pm_tw_of 20 1 (by decide) (by decide) (by decide)) (by decide)) rfl rfl hdd (Nat.le_refl _) (Nat.le_refl _) (by decide) (pm_kv (fun σ' cnt' hq => ?_))
          obtain ⟨I8, A8, rfl, rfl, h8⟩ := hv_a39 (kp := kp) (I := I7) (A := A7) h7 hq
          refine pm_aloadn hG dX4_enqueue_54 rfl ?_
          refine pm_getf hG dX4_enqueue_55 (flX4_24 _ rfl) rfl rfl ?_
          refine pm_iloadn hG dX4_enqueue_58 rfl ?_
          refine pm_iconst (v := 1) hG dX4_enqueue_59 (by decide) ?_
          refine pm_isub hG dX4_enqueue_60 ?_
          refine pm_iconst (v := 0) hG dX4_enqueue_61 (by decide) ?_
          refine pm_iloadn hG dX4_enqueue_62 rfl ?_
          refine pm_callV (As := [.int (x2_3 - 1), .int 0, .int za]) (rest := []) hG hR dX4_enqueue_63 (lkX4_77 _ rfl) okV_X9_set rfl rfl (tb_set (d := 1) rfl rfl (pm_tw_of 20 1 (by decide) (by decide) (by decide)) (by decide)) rfl rfl hdd (Nat.le_refl _) (Nat.le_refl _) (by decide) (pm_kv (fun σ' cnt' hq => ?_))
          obtain ⟨I9, A9, rfl, rfl, h9⟩ := hv_a39 (kp := kp) (I := I8) (A := A8) h8 hq
          refine pm_iincX (v := x2_3 + (-1)) (loc' := [some (.ref (B + 37)), some (.int za), some (.int v1), some (.int (x2_3 + (-1)))]) hG dX4_enqueue_66 rfl (by rfl) (by decide) (pm_c1b rfl) rfl ?_
          refine pm_goto (tgt := 11) hG dX4_enqueue_69 rfl ?_
          exact ih11 _ _ (x2_3 + (-1)) h9 (Nat.lt_of_lt_of_le (pm_md2 c3) (Nat.le_of_lt_succ hm11))
  exact loop11 _ _ _ v1 h1 (Nat.lt_succ_self _)

set_option maxRecDepth 100000 in
set_option maxHeartbeats 4000000 in
theorem g_X4_follower {ε : Nat → Int32} {d B cnt : Nat} {kp : Value} {ρ : pm_S} {I : Nat → Int32} {A : Nat → Nat → Int32} {za : Int32} (hdd : 6 ≤ d) (h : gq ε I) : pm_met mX4_follower d 0 0 B [.ref (B + 37), .int za] cnt (pm_two (cl_L B kp I A) ρ) (pm_Qi (fun _ σ' cnt' => hvq ε B kp ρ cnt σ' cnt')) := by
  refine pm_enter 2 (by decide) (Nat.le_of_ble_eq_true rfl) rfl (fun G hG hR hF => ?_)
  refine pm_aloadn hG dX4_follower_0 rfl ?_
  refine pm_getf hG dX4_follower_1 (flX4_24 _ rfl) rfl rfl ?_
  refine pm_callV (As := []) (rest := []) hG hR dX4_follower_4 (lkX4_28 _ rfl) okV_X9_clear rfl rfl (tb_clear (d := 5) rfl) rfl rfl hdd (Nat.le_refl _) (Nat.le_refl _) (by decide) (pm_kv (fun σ' cnt' hq => ?_))
  obtain ⟨I1, A1, rfl, rfl, h1⟩ := hv_c38 (kp := kp) (I := I) (A := A) h hq
  refine pm_aloadn hG dX4_follower_7 rfl ?_
  refine pm_getf hG dX4_follower_8 (flX4_9 _ rfl) rfl rfl ?_
  refine pm_getf hG dX4_follower_11 (flX4_31 _ rfl) rfl rfl ?_
  refine pm_callV (As := []) (rest := []) hG hR dX4_follower_14 (lkX4_36 _ rfl) okV_X9_used rfl rfl (tb_used (d := 5) rfl) rfl rfl hdd (Nat.le_refl _) (Nat.le_refl _) (by decide) (pm_ki (fun v2 σ' cnt' hq => ?_))
  obtain ⟨I2, A2, rfl, rfl, h2⟩ := hv_id (kp := kp) (I := I1) (A := A1) h1 hq.2
  refine pm_istoreXn (loc' := [some (.ref (B + 37)), some (.int za), some (.int v2), none]) hG dX4_follower_17 (by decide) (pm_c1b rfl) rfl ?_
  refine pm_iconst (v := 0) hG dX4_follower_18 (by decide) ?_
  refine pm_istoreXn (loc' := [some (.ref (B + 37)), some (.int za), some (.int v2), some (.int 0)]) hG dX4_follower_19 (by decide) (pm_c1b rfl) rfl ?_
  have loop20 : ∀ (m20 : Nat) (I3 : Nat → Int32) (A3 : Nat → Nat → Int32) (x3_3 : Int32), gq ε I3 → (¬ x3_3 < 0) → ((v2 : Int32).toInt - x3_3.toInt).toNat < m20 → pm_wp mX4_follower G B 20 [some (.ref (B + 37)), some (.int za), some (.int v2), some (.int x3_3)] [] 0 0 cnt (pm_two (cl_L B kp I3 A3) ρ) := by
    intro m20
    induction m20 with
    | zero => intro I3 A3 x3_3 _  _ hm; exact absurd hm (Nat.not_lt_zero _)
    | succ m20 ih20 =>
      intro I3 A3 x3_3 h3 s20 hm20
      refine pm_iloadn hG dX4_follower_20 rfl ?_
      refine pm_iloadn hG dX4_follower_21 rfl ?_
      refine pm_icmp_ge (tgt := 48) hG dX4_follower_22 rfl (fun c4 => ?_) (fun c4 => ?_)
      · refine pm_aloadn hG dX4_follower_48 rfl ?_
        refine pm_getf hG dX4_follower_49 (flX4_24 _ rfl) rfl rfl ?_
        refine pm_iloadn hG dX4_follower_52 rfl ?_
        refine pm_callV (As := [.int za]) (rest := []) hG hR dX4_follower_53 (lkX4_48 _ rfl) okV_X9_has rfl rfl (tb_has (d := 5) rfl) rfl rfl hdd (Nat.le_refl _) (Nat.le_refl _) (by decide) (pm_ki (fun v5 σ' cnt' hq => ?_))
        have b5 := pm_b01 hq.1
        obtain ⟨I5, A5, rfl, rfl, h5⟩ := hv_id (kp := kp) (I := I3) (A := A3) h3 hq.2
        refine pm_if_eq (tgt := 71) hG dX4_follower_56 rfl (fun c6 => ?_) (fun c6 => ?_)
        · refine pm_ldc hG dX4_follower_71 (ctX4_55 _ rfl) ?_
          exact pm_iret hG hF dX4_follower_73 rfl (Nat.le_refl _) (Nat.le_refl _) ⟨_, rfl, _, _, rfl, rfl, h5⟩
        · refine pm_aloadn hG dX4_follower_59 rfl ?_
          refine pm_getf hG dX4_follower_60 (flX4_24 _ rfl) rfl rfl ?_
          refine pm_iloadn hG dX4_follower_63 rfl ?_
          refine pm_iconst (v := 0) hG dX4_follower_64 (by decide) ?_
          refine pm_callV (As := [.int za, .int 0]) (rest := []) hG hR dX4_follower_65 (lkX4_51 _ rfl) okV_X9_get rfl rfl (tb_get (d := 5) rfl rfl (pm_tw_of 20 1 (by decide) (by decide) (by decide))) rfl rfl hdd (Nat.le_refl _) (Nat.le_refl _) (by decide) (pm_ki (fun v7 σ' cnt' hq => ?_))
          obtain ⟨I7, A7, rfl, rfl, h7⟩ := hv_id (kp := kp) (I := I5) (A := A5) h5 hq.2
          refine pm_goto (tgt := 73) hG dX4_follower_68 rfl ?_
          exact pm_iret hG hF dX4_follower_73 rfl (Nat.le_refl _) (Nat.le_refl _) ⟨_, rfl, _, _, rfl, rfl, h7⟩
      · refine pm_iloadn hG dX4_follower_25 rfl ?_
        refine pm_if_eq (tgt := 42) hG dX4_follower_26 rfl (fun c8 => ?_) (fun c8 => ?_)
        · refine pm_iincX (v := x3_3 + 1) (loc' := [some (.ref (B + 37)), some (.int za), some (.int v2), some (.int (x3_3 + 1))]) hG dX4_follower_42 rfl (by rfl) (by decide) (pm_c1b rfl) rfl ?_
          refine pm_goto (tgt := 20) hG dX4_follower_45 rfl ?_
          exact ih20 _ _ (x3_3 + 1) h3 (pm_sd1 c4 s20) (Nat.lt_of_lt_of_le (pm_mu1 c4) (Nat.le_of_lt_succ hm20))
        · refine pm_aloadn hG dX4_follower_29 rfl ?_
          refine pm_iloadn hG dX4_follower_30 rfl ?_
          refine pm_callV (As := [.int x3_3]) (rest := []) hG hR dX4_follower_31 (lkX4_40 _ rfl) okV_X4_isFollower rfl rfl (g_X4_isFollower (d := 5) (by decide) h3) rfl rfl hdd (Nat.le_refl _) (Nat.le_refl _) (by decide) (pm_ki (fun v9 σ' cnt' hq => ?_))
          obtain ⟨b9, I9, A9, rfl, rfl, h9⟩ := hq
          refine pm_if_eq (tgt := 42) hG dX4_follower_34 rfl (fun c10 => ?_) (fun c10 => ?_)
          · refine pm_iincX (v := x3_3 + 1) (loc' := [some (.ref (B + 37)), some (.int za), some (.int v2), some (.int (x3_3 + 1))]) hG dX4_follower_42 rfl (by rfl) (by decide) (pm_c1b rfl) rfl ?_
            refine pm_goto (tgt := 20) hG dX4_follower_45 rfl ?_
            exact ih20 _ _ (x3_3 + 1) h9 (pm_sd1 c4 s20) (Nat.lt_of_lt_of_le (pm_mu1 c4) (Nat.le_of_lt_succ hm20))
          · refine pm_aloadn hG dX4_follower_37 rfl ?_
            refine pm_iloadn hG dX4_follower_38 rfl ?_
            refine pm_callV (As := [.int x3_3]) (rest := []) hG hR dX4_follower_39 (lkX4_44 _ rfl) okV_X4_enqueue rfl rfl (g_X4_enqueue (d := 5) (by decide) h9) rfl rfl hdd (Nat.le_refl _) (Nat.le_refl _) (by decide) (pm_kv (fun σ' cnt' hq => ?_))
            obtain ⟨I11, A11, rfl, rfl, h11⟩ := hq
            refine pm_iincX (v := x3_3 + 1) (loc' := [some (.ref (B + 37)), some (.int za), some (.int v2), some (.int (x3_3 + 1))]) hG dX4_follower_42 rfl (by rfl) (by decide) (pm_c1b rfl) rfl ?_
            refine pm_goto (tgt := 20) hG dX4_follower_45 rfl ?_
            exact ih20 _ _ (x3_3 + 1) h11 (pm_sd1 c4 s20) (Nat.lt_of_lt_of_le (pm_mu1 c4) (Nat.le_of_lt_succ hm20))
  exact loop20 _ _ _ 0 h2 (by decide) (Nat.lt_succ_self _)

set_option maxRecDepth 100000 in
set_option maxHeartbeats 4000000 in
theorem g_X11_heir {ε : Nat → Int32} {d B cnt : Nat} {kp : Value} {ρ : pm_S} {I : Nat → Int32} {A : Nat → Nat → Int32} {za : Int32} (hdd : 7 ≤ d) (h : gq ε I) : pm_met mX11_heir d 0 0 B [.ref (B + 0), .int za] cnt (pm_two (cl_L B kp I A) ρ) (pm_Qi (fun _ σ' cnt' => hvq ε B kp ρ cnt σ' cnt')) := by
  refine pm_enter 0 (by decide) (Nat.le_of_ble_eq_true rfl) rfl (fun G hG hR hF => ?_)
  refine pm_aloadn hG dX11_heir_0 rfl ?_
  refine pm_iloadn hG dX11_heir_1 rfl ?_
  refine pm_if_ge (tgt := 10) hG dX11_heir_2 rfl (fun c1 => ?_) (fun c1 => ?_)
  · refine pm_aloadn hG dX11_heir_10 rfl ?_
    refine pm_getf hG dX11_heir_11 (flX11_46 _ rfl) rfl rfl ?_
    refine pm_iloadn hG dX11_heir_14 rfl ?_
    refine pm_callV (As := [.int za]) (rest := [.ref (B + 0)]) hG hR dX11_heir_15 (lkX11_326 _ rfl) okV_X4_follower rfl rfl (g_X4_follower (d := 6) (by decide) h) rfl rfl hdd (Nat.le_refl _) (Nat.le_refl _) (by first | decide | exact Nat.le_of_ble_eq_true rfl) (pm_ki (fun v2 σ' cnt' hq => ?_))
    obtain ⟨I2, A2, rfl, rfl, h2⟩ := hq
    refine pm_callV (As := [.int v2]) (rest := []) hG hR dX11_heir_18 (lkX11_97 _ rfl) okV_X11_told rfl rfl (sx_told (d := 6) (by decide) rfl rfl) rfl rfl hdd (Nat.le_refl _) (Nat.le_refl _) (by decide) (pm_ki (fun v3 σ' cnt' hq => ?_))
    obtain ⟨-, ⟨g3, hg3⟩, hc3⟩ := hq
    obtain ⟨I3, A3, rfl, rfl, h3⟩ := hv_a53 (kp := kp) (I := I2) (A := A2) h2 ⟨hg3, hc3⟩
    exact pm_iret hG hF dX11_heir_21 rfl (Nat.le_refl _) (Nat.le_refl _) ⟨_, rfl, _, _, rfl, rfl, h3⟩
  · refine pm_ldc hG dX11_heir_5 (ctX11_109 _ rfl) ?_
    refine pm_goto (tgt := 18) hG dX11_heir_7 rfl ?_
    refine pm_callV (As := [.int (-1000001)]) (rest := []) hG hR dX11_heir_18 (lkX11_97 _ rfl) okV_X11_told rfl rfl (sx_told (d := 6) (by decide) rfl rfl) rfl rfl hdd (Nat.le_refl _) (Nat.le_refl _) (by decide) (pm_ki (fun v4 σ' cnt' hq => ?_))
    obtain ⟨-, ⟨g4, hg4⟩, hc4⟩ := hq
    obtain ⟨I4, A4, rfl, rfl, h4⟩ := hv_a53 (kp := kp) (I := I) (A := A) h ⟨hg4, hc4⟩
    exact pm_iret hG hF dX11_heir_21 rfl (Nat.le_refl _) (Nat.le_refl _) ⟨_, rfl, _, _, rfl, rfl, h4⟩

set_option maxRecDepth 100000 in
set_option maxHeartbeats 4000000 in
theorem g_X11_held {ε : Nat → Int32} {d B cnt : Nat} {kp : Value} {ρ : pm_S} {I : Nat → Int32} {A : Nat → Nat → Int32} {za zb : Int32} (hdd : 3 ≤ d) (h : gq ε I) : pm_met mX11_held d 0 0 B [.ref (B + 0), .int za, .int zb] cnt (pm_two (cl_L B kp I A) ρ) (pm_Qi (fun _ σ' cnt' => hvq ε B kp ρ cnt σ' cnt')) := by
  refine pm_enter 0 (by decide) (Nat.le_of_ble_eq_true rfl) rfl (fun G hG hR hF => ?_)
  refine pm_aloadn hG dX11_held_0 rfl ?_
  refine pm_getf hG dX11_held_1 (flX11_12 _ rfl) rfl rfl ?_
  refine pm_getf hG dX11_held_4 (flX11_161 _ rfl) rfl rfl ?_
  refine pm_iloadn hG dX11_held_7 rfl ?_
  refine pm_callV (As := [.int za]) (rest := []) hG hR dX11_held_8 (lkX11_101 _ rfl) okV_X9_has rfl rfl (tb_has (d := 2) rfl) rfl rfl hdd (Nat.le_refl _) (Nat.le_refl _) (by decide) (pm_ki (fun v1 σ' cnt' hq => ?_))
  have b1 := pm_b01 hq.1
  obtain ⟨I1, A1, rfl, rfl, h1⟩ := hv_id (kp := kp) (I := I) (A := A) h hq.2
  refine pm_if_ne (tgt := 21) hG dX11_held_11 rfl (fun c2 => ?_) (fun c2 => ?_)
  · refine pm_iloadn hG dX11_held_21 rfl ?_
    by_cases c3 : zb = 0
    · refine pm_top (v := 0) c3 ?_
      refine pm_tswIn (tgt := 56) hG dX11_held_22 (by decide) (by decide) rfl rfl ?_
      refine pm_aloadn hG dX11_held_56 rfl ?_
      refine pm_getf hG dX11_held_57 (flX11_12 _ rfl) rfl rfl ?_
      refine pm_getf hG dX11_held_60 (flX11_161 _ rfl) rfl rfl ?_
      refine pm_iloadn hG dX11_held_63 rfl ?_
      refine pm_iconst (v := 0) hG dX11_held_64 (by decide) ?_
      refine pm_callV (As := [.int za, .int 0]) (rest := []) hG hR dX11_held_65 (lkX11_152 _ rfl) okV_X9_get rfl rfl (tb_get (d := 2) rfl rfl (pm_tw_of 20 6 (by decide) (by decide) (by decide))) rfl rfl hdd (Nat.le_refl _) (Nat.le_refl _) (by decide) (pm_ki (fun v4 σ' cnt' hq => ?_))
      obtain ⟨I4, A4, rfl, rfl, h4⟩ := hv_id (kp := kp) (I := I1) (A := A1) h1 hq.2
      exact pm_iret hG hF dX11_held_68 rfl (Nat.le_refl _) (Nat.le_refl _) ⟨_, rfl, _, _, rfl, rfl, h4⟩
    by_cases c5 : zb = 1
    · refine pm_top (v := 1) c5 ?_
      refine pm_tswIn (tgt := 69) hG dX11_held_22 (by decide) (by decide) rfl rfl ?_
      refine pm_aloadn hG dX11_held_69 rfl ?_
      refine pm_getf hG dX11_held_70 (flX11_12 _ rfl) rfl rfl ?_
      refine pm_getf hG dX11_held_73 (flX11_161 _ rfl) rfl rfl ?_
      refine pm_iloadn hG dX11_held_76 rfl ?_
      refine pm_iconst (v := 2) hG dX11_held_77 (by decide) ?_
      refine pm_callV (As := [.int za, .int 2]) (rest := []) hG hR dX11_held_78 (lkX11_152 _ rfl) okV_X9_get rfl rfl (tb_get (d := 2) rfl rfl (pm_tw_of 20 6 (by decide) (by decide) (by decide))) rfl rfl hdd (Nat.le_refl _) (Nat.le_refl _) (by decide) (pm_ki (fun v6 σ' cnt' hq => ?_))
      obtain ⟨I6, A6, rfl, rfl, h6⟩ := hv_id (kp := kp) (I := I1) (A := A1) h1 hq.2
      exact pm_iret hG hF dX11_held_81 rfl (Nat.le_refl _) (Nat.le_refl _) ⟨_, rfl, _, _, rfl, rfl, h6⟩
    by_cases c7 : zb = 2
    · refine pm_top (v := 2) c7 ?_
      refine pm_tswIn (tgt := 82) hG dX11_held_22 (by decide) (by decide) rfl rfl ?_
      refine pm_aloadn hG dX11_held_82 rfl ?_
      refine pm_getf hG dX11_held_83 (flX11_12 _ rfl) rfl rfl ?_
      refine pm_iloadn hG dX11_held_86 rfl ?_
      refine pm_callV (As := [.int za]) (rest := []) hG hR dX11_held_87 (lkX11_185 _ rfl) okV_X7_whoHas rfl rfl (g_X7_whoHas (d := 2) (by decide) h1) rfl rfl hdd (Nat.le_refl _) (Nat.le_refl _) (by decide) (pm_ki (fun v8 σ' cnt' hq => ?_))
      obtain ⟨I8, A8, rfl, rfl, h8⟩ := hq
      exact pm_iret hG hF dX11_held_90 rfl (Nat.le_refl _) (Nat.le_refl _) ⟨_, rfl, _, _, rfl, rfl, h8⟩
    by_cases c9 : zb = 3
    · refine pm_top (v := 3) c9 ?_
      refine pm_tswIn (tgt := 91) hG dX11_held_22 (by decide) (by decide) rfl rfl ?_
      refine pm_aloadn hG dX11_held_91 rfl ?_
      refine pm_getf hG dX11_held_92 (flX11_12 _ rfl) rfl rfl ?_
      refine pm_getf hG dX11_held_95 (flX11_161 _ rfl) rfl rfl ?_
      refine pm_iloadn hG dX11_held_98 rfl ?_
      refine pm_iconst (v := 5) hG dX11_held_99 (by decide) ?_
      refine pm_callV (As := [.int za, .int 5]) (rest := []) hG hR dX11_held_100 (lkX11_152 _ rfl) okV_X9_get rfl rfl (tb_get (d := 2) rfl rfl (pm_tw_of 20 6 (by decide) (by decide) (by decide))) rfl rfl hdd (Nat.le_refl _) (Nat.le_refl _) (by decide) (pm_ki (fun v10 σ' cnt' hq => ?_))
      obtain ⟨I10, A10, rfl, rfl, h10⟩ := hv_id (kp := kp) (I := I1) (A := A1) h1 hq.2
      exact pm_iret hG hF dX11_held_103 rfl (Nat.le_refl _) (Nat.le_refl _) ⟨_, rfl, _, _, rfl, rfl, h10⟩
    by_cases c11 : zb = 4
    · refine pm_top (v := 4) c11 ?_
      refine pm_tswIn (tgt := 104) hG dX11_held_22 (by decide) (by decide) rfl rfl ?_
      refine pm_aloadn hG dX11_held_104 rfl ?_
      refine pm_getf hG dX11_held_105 (flX11_12 _ rfl) rfl rfl ?_
      refine pm_getf hG dX11_held_108 (flX11_161 _ rfl) rfl rfl ?_
      refine pm_iloadn hG dX11_held_111 rfl ?_
      refine pm_iconst (v := 4) hG dX11_held_112 (by decide) ?_
      refine pm_callV (As := [.int za, .int 4]) (rest := []) hG hR dX11_held_113 (lkX11_152 _ rfl) okV_X9_get rfl rfl (tb_get (d := 2) rfl rfl (pm_tw_of 20 6 (by decide) (by decide) (by decide))) rfl rfl hdd (Nat.le_refl _) (Nat.le_refl _) (by decide) (pm_ki (fun v12 σ' cnt' hq => ?_))
      obtain ⟨I12, A12, rfl, rfl, h12⟩ := hv_id (kp := kp) (I := I1) (A := A1) h1 hq.2
      exact pm_iret hG hF dX11_held_116 rfl (Nat.le_refl _) (Nat.le_refl _) ⟨_, rfl, _, _, rfl, rfl, h12⟩
    have tc3 : ¬ zb.toInt = 0 := fun q => c3 (Int32.toInt_inj.mp q)
    have tc5 : ¬ zb.toInt = 1 := fun q => c5 (Int32.toInt_inj.mp q)
    have tc7 : ¬ zb.toInt = 2 := fun q => c7 (Int32.toInt_inj.mp q)
    have tc9 : ¬ zb.toInt = 3 := fun q => c9 (Int32.toInt_inj.mp q)
    have tc11 : ¬ zb.toInt = 4 := fun q => c11 (Int32.toInt_inj.mp q)
    refine pm_tswOut (tgt := 117) hG dX11_held_22 (by omega) rfl ?_
    refine pm_aloadn hG dX11_held_117 rfl ?_
    refine pm_ldc hG dX11_held_118 (ctX11_109 _ rfl) ?_
    refine pm_callV (As := [.int (-1000001)]) (rest := []) hG hR dX11_held_120 (lkX11_97 _ rfl) okV_X11_told rfl rfl (sx_told (d := 2) (by decide) rfl rfl) rfl rfl hdd (Nat.le_refl _) (Nat.le_refl _) (by decide) (pm_ki (fun v13 σ' cnt' hq => ?_))
    obtain ⟨-, ⟨g13, hg13⟩, hc13⟩ := hq
    obtain ⟨I13, A13, rfl, rfl, h13⟩ := hv_a53 (kp := kp) (I := I1) (A := A1) h1 ⟨hg13, hc13⟩
    exact pm_iret hG hF dX11_held_123 rfl (Nat.le_refl _) (Nat.le_refl _) ⟨_, rfl, _, _, rfl, rfl, h13⟩
  · refine pm_aloadn hG dX11_held_14 rfl ?_
    refine pm_ldc hG dX11_held_15 (ctX11_109 _ rfl) ?_
    refine pm_callV (As := [.int (-1000001)]) (rest := []) hG hR dX11_held_17 (lkX11_97 _ rfl) okV_X11_told rfl rfl (sx_told (d := 2) (by decide) rfl rfl) rfl rfl hdd (Nat.le_refl _) (Nat.le_refl _) (by decide) (pm_ki (fun v14 σ' cnt' hq => ?_))
    obtain ⟨-, ⟨g14, hg14⟩, hc14⟩ := hq
    obtain ⟨I14, A14, rfl, rfl, h14⟩ := hv_a53 (kp := kp) (I := I1) (A := A1) h1 ⟨hg14, hc14⟩
    exact pm_iret hG hF dX11_held_20 rfl (Nat.le_refl _) (Nat.le_refl _) ⟨_, rfl, _, _, rfl, rfl, h14⟩

set_option maxRecDepth 100000 in
set_option maxHeartbeats 4000000 in
theorem g_X6_next {ε : Nat → Int32} {d B cnt : Nat} {kp : Value} {ρ : pm_S} {I : Nat → Int32} {A : Nat → Nat → Int32} (hdd : 1 ≤ d) (h : gq ε I) : pm_met mX6_next d 0 0 B [.ref (B + 27)] cnt (pm_two (cl_L B kp I A) ρ) (pm_Qi (fun _ σ' cnt' => hvq ε B kp ρ cnt σ' cnt')) := by
  refine pm_enter 0 (by decide) (Nat.le_of_ble_eq_true rfl) rfl (fun G hG hR hF => ?_)
  refine pm_aloadn hG dX6_next_0 rfl ?_
  refine pm_getf hG dX6_next_1 (flX6_30 _ rfl) rfl rfl ?_
  refine pm_if_ge (tgt := 36) hG dX6_next_4 rfl (fun c1 => ?_) (fun c1 => ?_)
  · refine pm_iconst (v := (-1)) hG dX6_next_36 (by decide) ?_
    exact pm_iret hG hF dX6_next_37 rfl (Nat.le_refl _) (Nat.le_refl _) ⟨_, rfl, _, _, rfl, rfl, h⟩
  · refine pm_aloadn hG dX6_next_7 rfl ?_
    refine pm_getf hG dX6_next_8 (flX6_26 _ rfl) rfl rfl ?_
    refine pm_aloadn hG dX6_next_11 rfl ?_
    refine pm_getf hG dX6_next_12 (flX6_9 _ rfl) rfl rfl ?_
    refine pm_callV (As := []) (rest := [.int (I 105)]) hG hR dX6_next_15 (lkX6_37 _ rfl) okV_X9_used rfl rfl (tb_used (d := 0) rfl) rfl rfl hdd (Nat.le_refl _) (Nat.le_refl _) (by first | decide | exact Nat.le_of_ble_eq_true rfl) (pm_ki (fun v2 σ' cnt' hq => ?_))
    obtain ⟨I2, A2, rfl, rfl, h2⟩ := hv_id (kp := kp) (I := I) (A := A) h hq.2
    refine pm_icmp_ge (tgt := 36) hG dX6_next_18 rfl (fun c3 => ?_) (fun c3 => ?_)
    · refine pm_iconst (v := (-1)) hG dX6_next_36 (by decide) ?_
      exact pm_iret hG hF dX6_next_37 rfl (Nat.le_refl _) (Nat.le_refl _) ⟨_, rfl, _, _, rfl, rfl, h2⟩
    · refine pm_aloadn hG dX6_next_21 rfl ?_
      refine pm_getf hG dX6_next_22 (flX6_9 _ rfl) rfl rfl ?_
      refine pm_aloadn hG dX6_next_25 rfl ?_
      refine pm_getf hG dX6_next_26 (flX6_26 _ rfl) rfl rfl ?_
      refine pm_iconst (v := 0) hG dX6_next_29 (by decide) ?_
      refine pm_callV (As := [.int (I2 105), .int 0]) (rest := []) hG hR dX6_next_30 (lkX6_80 _ rfl) okV_X9_get rfl rfl (tb_get (d := 0) rfl rfl (pm_tw_of 60 1 (by decide) (by decide) (by decide))) rfl rfl hdd (Nat.le_refl _) (Nat.le_refl _) (by decide) (pm_ki (fun v4 σ' cnt' hq => ?_))
      obtain ⟨I4, A4, rfl, rfl, h4⟩ := hv_id (kp := kp) (I := I2) (A := A2) h2 hq.2
      refine pm_goto (tgt := 37) hG dX6_next_33 rfl ?_
      exact pm_iret hG hF dX6_next_37 rfl (Nat.le_refl _) (Nat.le_refl _) ⟨_, rfl, _, _, rfl, rfl, h4⟩

set_option maxRecDepth 100000 in
set_option maxHeartbeats 4000000 in
theorem g_X6_isDigit {ε : Nat → Int32} {d B cnt : Nat} {kp : Value} {ρ : pm_S} {I : Nat → Int32} {A : Nat → Nat → Int32} {za : Int32} (hdd : 1 ≤ d) (h : gq ε I) : pm_met mX6_isDigit d 0 0 B [.int za] cnt (pm_two (cl_L B kp I A) ρ) (pm_Qi (fun v σ' cnt' => (v = 0 ∨ v = 1) ∧ hvq ε B kp ρ cnt σ' cnt')) := by
  refine pm_enter 0 (by decide) (Nat.le_of_ble_eq_true rfl) rfl (fun G hG hR hF => ?_)
  refine pm_iloadn hG dX6_isDigit_0 rfl ?_
  refine pm_bipush (v := 48) hG dX6_isDigit_1 (by decide) ?_
  refine pm_icmp_lt (tgt := 16) hG dX6_isDigit_3 rfl (fun c1 => ?_) (fun c1 => ?_)
  · refine pm_iconst (v := 0) hG dX6_isDigit_16 (by decide) ?_
    exact pm_zret hG hF dX6_isDigit_17 rfl (pm_nz (Or.inl rfl)) (Nat.le_refl _) (Nat.le_refl _) ⟨_, rfl, (Or.inl rfl), _, _, rfl, rfl, h⟩
  · refine pm_iloadn hG dX6_isDigit_6 rfl ?_
    refine pm_bipush (v := 57) hG dX6_isDigit_7 (by decide) ?_
    refine pm_icmp_gt (tgt := 16) hG dX6_isDigit_9 rfl (fun c2 => ?_) (fun c2 => ?_)
    · refine pm_iconst (v := 0) hG dX6_isDigit_16 (by decide) ?_
      exact pm_zret hG hF dX6_isDigit_17 rfl (pm_nz (Or.inl rfl)) (Nat.le_refl _) (Nat.le_refl _) ⟨_, rfl, (Or.inl rfl), _, _, rfl, rfl, h⟩
    · refine pm_iconst (v := 1) hG dX6_isDigit_12 (by decide) ?_
      refine pm_goto (tgt := 17) hG dX6_isDigit_13 rfl ?_
      exact pm_zret hG hF dX6_isDigit_17 rfl (pm_nz (Or.inr rfl)) (Nat.le_refl _) (Nat.le_refl _) ⟨_, rfl, (Or.inr rfl), _, _, rfl, rfl, h⟩

set_option maxRecDepth 100000 in
set_option maxHeartbeats 4000000 in
theorem g_X6_fail {ε : Nat → Int32} {d B cnt : Nat} {kp : Value} {ρ : pm_S} {I : Nat → Int32} {A : Nat → Nat → Int32} (hdd : 1 ≤ d) (h : gq ε I) : pm_met mX6_fail d 0 0 B [.ref (B + 27)] cnt (pm_two (cl_L B kp I A) ρ) (pm_Qv (fun σ' cnt' => hvq ε B kp ρ cnt σ' cnt')) := by
  refine pm_enter 0 (by decide) (Nat.le_of_ble_eq_true rfl) rfl (fun G hG hR hF => ?_)
  refine pm_aloadn hG dX6_fail_0 rfl ?_
  refine pm_getf hG dX6_fail_1 (flX6_30 _ rfl) rfl rfl ?_
  refine pm_if_ge (tgt := 15) hG dX6_fail_4 rfl (fun c1 => ?_) (fun c1 => ?_)
  · exact pm_vret hG hF dX6_fail_15 rfl (Nat.le_refl _) (Nat.le_refl _) ⟨rfl, _, _, rfl, rfl, h⟩
  · refine pm_aloadn hG dX6_fail_7 rfl ?_
    refine pm_aloadn hG dX6_fail_8 rfl ?_
    refine pm_getf hG dX6_fail_9 (flX6_26 _ rfl) rfl rfl ?_
    refine pm_putf hG dX6_fail_12 (fwX6_30 _ rfl) rfl rfl rfl ?_
    refine pm_nrm (L' := cl_L B kp (ui I 106 (I 105)) A) (by decide) (Nat.le_of_ble_eq_true rfl) rfl ?_
    exact pm_vret hG hF dX6_fail_15 rfl (Nat.le_refl _) (Nat.le_refl _) ⟨rfl, _, _, rfl, rfl, (gq.wi (k := 106) rfl h)⟩

set_option maxRecDepth 100000 in
set_option maxHeartbeats 4000000 in
theorem g_X6_readNumber {ε : Nat → Int32} {d B cnt : Nat} {kp : Value} {ρ : pm_S} {I : Nat → Int32} {A : Nat → Nat → Int32} (hdd : 2 ≤ d) (h : gq ε I) : pm_met mX6_readNumber d 0 0 B [.ref (B + 27)] cnt (pm_two (cl_L B kp I A) ρ) (pm_Qv (fun σ' cnt' => hvq ε B kp ρ cnt σ' cnt')) := by
  refine pm_enter 2 (by decide) (Nat.le_of_ble_eq_true rfl) rfl (fun G hG hR hF => ?_)
  refine pm_iconst (v := 0) hG dX6_readNumber_0 (by decide) ?_
  refine pm_istoreXn (loc' := [some (.ref (B + 27)), some (.int 0), none]) hG dX6_readNumber_1 (by decide) (pm_c1b rfl) rfl ?_
  refine pm_iconst (v := 0) hG dX6_readNumber_2 (by decide) ?_
  refine pm_istoreXn (loc' := [some (.ref (B + 27)), some (.int 0), some (.int 0)]) hG dX6_readNumber_3 (by decide) (pm_c1b rfl) rfl ?_
  have loop4 : ∀ (m4 : Nat) (I1 : Nat → Int32) (A1 : Nat → Nat → Int32) (x1_1 x1_2 : Int32), gq ε I1 → (¬ x1_2 < 0) → ((4 : Int32).toInt - x1_2.toInt).toNat < m4 → pm_wp mX6_readNumber G B 4 [some (.ref (B + 27)), some (.int x1_1), some (.int x1_2)] [] 0 0 cnt (pm_two (cl_L B kp I1 A1) ρ) := by
    intro m4
    induction m4 with
    | zero => intro I1 A1 x1_1 x1_2 _  _ hm; exact absurd hm (Nat.not_lt_zero _)
    | succ m4 ih4 =>
      intro I1 A1 x1_1 x1_2 h1 s4 hm4
      refine pm_iloadn hG dX6_readNumber_4 rfl ?_
      refine pm_iconst (v := 4) hG dX6_readNumber_5 (by decide) ?_
      refine pm_icmp_ge (tgt := 48) hG dX6_readNumber_6 rfl (fun c2 => ?_) (fun c2 => ?_)
      · refine pm_aloadn hG dX6_readNumber_48 rfl ?_
        refine pm_getf hG dX6_readNumber_49 (flX6_20 _ rfl) rfl rfl ?_
        refine pm_iloadn hG dX6_readNumber_52 rfl ?_
        obtain ⟨k3, hk3, hu3⟩ := gq.used h1 28 60 (by decide)
        have ht3 : pm_two (cl_L B kp I1 A1) ρ 28 = some (.inr (9, [.int (nI 60), .int (nI 1), .ref (B + 29), .int (nI k3)])) := by rw [← hu3]; rfl
        refine pm_callV (As := [.int x1_1]) (rest := []) hG hR dX6_readNumber_53 (lkX6_50 _ rfl) okV_X9_append rfl rfl (tb_append (d := 1) (by decide) ht3 rfl (by decide) (by decide) (by decide) (by decide) (by decide) (by decide) hk3) rfl rfl hdd (Nat.le_refl _) (Nat.le_refl _) (by decide) (pm_ki (fun v3 σ' cnt' hq => ?_))
        obtain ⟨I3, A3, rfl, rfl, h3⟩ := hv_p28 (kp := kp) (I := I1) (A := A1) hk3 h1 hq
        refine pm_pop hG dX6_readNumber_56 rfl ?_
        exact pm_vret hG hF dX6_readNumber_57 rfl (Nat.le_refl _) (Nat.le_refl _) ⟨rfl, _, _, rfl, rfl, h3⟩
      · refine pm_aloadn hG dX6_readNumber_9 rfl ?_
        refine pm_callV (As := []) (rest := []) hG hR dX6_readNumber_10 (lkX6_47 _ rfl) okV_X6_next rfl rfl (g_X6_next (d := 1) (by decide) h1) rfl rfl hdd (Nat.le_refl _) (Nat.le_refl _) (by decide) (pm_ki (fun v4 σ' cnt' hq => ?_))
        obtain ⟨I4, A4, rfl, rfl, h4⟩ := hq
        refine pm_callS (As := [.int v4]) (rest := []) hG hR dX6_readNumber_13 (lkX6_70 _ rfl) okS_X6_isDigit (g_X6_isDigit (d := 1) (by decide) h4) rfl rfl hdd (Nat.le_refl _) (Nat.le_refl _) (by decide) (pm_ki (fun v5 σ' cnt' hq => ?_))
        obtain ⟨b5, I5, A5, rfl, rfl, h5⟩ := hq
        refine pm_if_eq (tgt := 48) hG dX6_readNumber_16 rfl (fun c6 => ?_) (fun c6 => ?_)
        · refine pm_aloadn hG dX6_readNumber_48 rfl ?_
          refine pm_getf hG dX6_readNumber_49 (flX6_20 _ rfl) rfl rfl ?_
          refine pm_iloadn hG dX6_readNumber_52 rfl ?_
          obtain ⟨k7, hk7, hu7⟩ := gq.used h5 28 60 (by decide)
          have ht7 : pm_two (cl_L B kp I5 A5) ρ 28 = some (.inr (9, [.int (nI 60), .int (nI 1), .ref (B + 29), .int (nI k7)])) := by rw [← hu7]; rfl
          refine pm_callV (As := [.int x1_1]) (rest := []) hG hR dX6_readNumber_53 (lkX6_50 _ rfl) okV_X9_append rfl rfl (tb_append (d := 1) (by decide) ht7 rfl (by decide) (by decide) (by decide) (by decide) (by decide) (by decide) hk7) rfl rfl hdd (Nat.le_refl _) (Nat.le_refl _) (by decide) (pm_ki (fun v7 σ' cnt' hq => ?_))
          obtain ⟨I7, A7, rfl, rfl, h7⟩ := hv_p28 (kp := kp) (I := I5) (A := A5) hk7 h5 hq
          refine pm_pop hG dX6_readNumber_56 rfl ?_
          exact pm_vret hG hF dX6_readNumber_57 rfl (Nat.le_refl _) (Nat.le_refl _) ⟨rfl, _, _, rfl, rfl, h7⟩
        · refine pm_iloadn hG dX6_readNumber_19 rfl ?_
          refine pm_bipush (v := 10) hG dX6_readNumber_20 (by decide) ?_
          refine pm_imul hG dX6_readNumber_22 ?_
          refine pm_aloadn hG dX6_readNumber_23 rfl ?_
          refine pm_callV (As := []) (rest := [.int (x1_1 * 10)]) hG hR dX6_readNumber_24 (lkX6_47 _ rfl) okV_X6_next rfl rfl (g_X6_next (d := 1) (by decide) h5) rfl rfl hdd (Nat.le_refl _) (Nat.le_refl _) (by first | decide | exact Nat.le_of_ble_eq_true rfl) (pm_ki (fun v8 σ' cnt' hq => ?_))
          obtain ⟨I8, A8, rfl, rfl, h8⟩ := hq
          refine pm_iadd hG dX6_readNumber_27 ?_
          refine pm_bipush (v := 48) hG dX6_readNumber_28 (by decide) ?_
          refine pm_isub hG dX6_readNumber_30 ?_
          refine pm_istoreXn (loc' := [some (.ref (B + 27)), some (.int (((x1_1 * 10) + v8) - 48)), some (.int x1_2)]) hG dX6_readNumber_31 (by decide) (pm_c1b rfl) rfl ?_
          refine pm_aloadn hG dX6_readNumber_32 rfl ?_
          refine pm_dup hG dX6_readNumber_33 rfl ?_
          refine pm_getf hG dX6_readNumber_34 (flX6_26 _ rfl) rfl rfl ?_
          refine pm_iconst (v := 1) hG dX6_readNumber_37 (by decide) ?_
          refine pm_iadd hG dX6_readNumber_38 ?_
          refine pm_putf hG dX6_readNumber_39 (fwX6_26 _ rfl) rfl rfl rfl ?_
          refine pm_nrm (L' := cl_L B kp (ui I8 105 ((I8 105) + 1)) A8) (by decide) (Nat.le_of_ble_eq_true rfl) rfl ?_
          refine pm_iincX (v := x1_2 + 1) (loc' := [some (.ref (B + 27)), some (.int (((x1_1 * 10) + v8) - 48)), some (.int (x1_2 + 1))]) hG dX6_readNumber_42 rfl (by rfl) (by decide) (pm_c1b rfl) rfl ?_
          refine pm_goto (tgt := 4) hG dX6_readNumber_45 rfl ?_
          exact ih4 _ _ (((x1_1 * 10) + v8) - 48) (x1_2 + 1) (gq.wi (k := 105) rfl h8) (pm_sd1 c2 s4) (Nat.lt_of_lt_of_le (pm_mu1 c2) (Nat.le_of_lt_succ hm4))
  exact loop4 _ _ _ 0 0 h (by decide) (Nat.lt_succ_self _)

set_option maxRecDepth 100000 in
set_option maxHeartbeats 4000000 in
theorem g_X6_readPart_k5 {ε : Nat → Int32} {d B cnt : Nat} {kp : Value} {ρ : pm_S} {I : Nat → Int32} {A : Nat → Nat → Int32} (hdd : 4 ≤ d) (h : gq ε I) : pm_met mX6_readPart d 0 0 B [.ref (B + 27), .int 5] cnt (pm_two (cl_L B kp I A) ρ) (pm_Qv (fun σ' cnt' => hvq ε B kp ρ cnt σ' cnt')) := by
  refine pm_enter 2 (by decide) (Nat.le_of_ble_eq_true rfl) rfl (fun G hG hR hF => ?_)
  refine pm_aloadn hG dX6_readPart_0 rfl ?_
  refine pm_callV (As := []) (rest := []) hG hR dX6_readPart_1 (lkX6_47 _ rfl) okV_X6_next rfl rfl (g_X6_next (d := 3) (by decide) h) rfl rfl hdd (Nat.le_refl _) (Nat.le_refl _) (by decide) (pm_ki (fun v1 σ' cnt' hq => ?_))
  obtain ⟨I1, A1, rfl, rfl, h1⟩ := hq
  refine pm_istoreXn (loc' := [some (.ref (B + 27)), some (.int 5), some (.int v1), none]) hG dX6_readPart_4 (by decide) (pm_c1b rfl) rfl ?_
  refine pm_iloadn hG dX6_readPart_5 rfl ?_
  refine pm_if_ge (tgt := 13) hG dX6_readPart_6 rfl (fun c2 => ?_) (fun c2 => ?_)
  · refine pm_ldcN hG rfl dX6_readPart_13 (fun q3 z3 hN3 => ?_)
    refine pm_iloadn hG dX6_readPart_15 rfl ?_
    refine pm_i2c hG dX6_readPart_16 (fun v4 => ?_)
    refine pm_callVN (As := [.int v4]) (rest := []) hN3 hG hR dX6_readPart_17 (lpX6_65 _ rfl) okV_J0_indexOf_0f7a4 rfl (gj_iof (d := 3) (by decide)) rfl rfl hdd (Nat.le_refl _) (Nat.le_refl _) (by decide) (pm_ki (fun v5 σ' cnt' hq => ?_))
    obtain ⟨I5, A5, rfl, rfl, h5⟩ := hv_id (kp := kp) (I := I1) (A := A1) h1 hq
    refine pm_istoreXn (loc' := [some (.ref (B + 27)), some (.int 5), some (.int v1), some (.int v5)]) hG dX6_readPart_20 (by decide) (pm_c1b rfl) rfl ?_
    refine pm_iloadn hG dX6_readPart_21 rfl ?_
    refine pm_callS (As := [.int v1]) (rest := []) hG hR dX6_readPart_22 (lkX6_70 _ rfl) okS_X6_isDigit (g_X6_isDigit (d := 3) (by decide) h5) rfl rfl hdd (Nat.le_refl _) (Nat.le_refl _) (by decide) (pm_ki (fun v6 σ' cnt' hq => ?_))
    obtain ⟨b6, I6, A6, rfl, rfl, h6⟩ := hq
    refine pm_if_eq (tgt := 35) hG dX6_readPart_25 rfl (fun c7 => ?_) (fun c7 => ?_)
    · refine pm_iloadn hG dX6_readPart_35 rfl ?_
      refine pm_if_lt (tgt := 64) hG dX6_readPart_36 rfl (fun c8 => ?_) (fun c8 => ?_)
      · refine pm_iloadn hG dX6_readPart_64 rfl ?_
        refine pm_bipush (v := 33) hG dX6_readPart_65 (by decide) ?_
        refine pm_icmp_ne (tgt := 104) hG dX6_readPart_67 rfl (fun c9 => ?_) (fun c9 => ?_)
        · refine pm_iloadn hG dX6_readPart_104 rfl ?_
          refine pm_bipush (v := 40) hG dX6_readPart_105 (by decide) ?_
          refine pm_icmp_ne (tgt := 139) hG dX6_readPart_107 rfl (fun c10 => ?_) (fun c10 => ?_)
          · refine pm_aloadn hG dX6_readPart_139 rfl ?_
            refine pm_callV (As := []) (rest := []) hG hR dX6_readPart_140 (lkX6_41 _ rfl) okV_X6_fail rfl rfl (g_X6_fail (d := 3) (by decide) h6) rfl rfl hdd (Nat.le_refl _) (Nat.le_refl _) (by decide) (pm_kv (fun σ' cnt' hq => ?_))
            obtain ⟨I11, A11, rfl, rfl, h11⟩ := hq
            exact pm_vret hG hF dX6_readPart_143 rfl (Nat.le_refl _) (Nat.le_refl _) ⟨rfl, _, _, rfl, rfl, h11⟩
          · refine pm_iloadn hG dX6_readPart_110 rfl ?_
            refine pm_iconst (v := 5) hG dX6_readPart_111 (by decide) ?_
            refine pm_icmp_ge (tgt := 139) hG dX6_readPart_112 rfl (fun _ => ?_) (fun q => absurd q (by decide))
            refine pm_aloadn hG dX6_readPart_139 rfl ?_
            refine pm_callV (As := []) (rest := []) hG hR dX6_readPart_140 (lkX6_41 _ rfl) okV_X6_fail rfl rfl (g_X6_fail (d := 3) (by decide) h6) rfl rfl hdd (Nat.le_refl _) (Nat.le_refl _) (by decide) (pm_kv (fun σ' cnt' hq => ?_))
            obtain ⟨I12, A12, rfl, rfl, h12⟩ := hq
            exact pm_vret hG hF dX6_readPart_143 rfl (Nat.le_refl _) (Nat.le_refl _) ⟨rfl, _, _, rfl, rfl, h12⟩
        · refine pm_iloadn hG dX6_readPart_70 rfl ?_
          refine pm_iconst (v := 5) hG dX6_readPart_71 (by decide) ?_
          refine pm_icmp_ge (tgt := 104) hG dX6_readPart_72 rfl (fun _ => ?_) (fun q => absurd q (by decide))
          refine pm_iloadn hG dX6_readPart_104 rfl ?_
          refine pm_bipush (v := 40) hG dX6_readPart_105 (by decide) ?_
          refine pm_icmp_ne (tgt := 139) hG dX6_readPart_107 rfl (fun c13 => ?_) (fun c13 => ?_)
          · refine pm_aloadn hG dX6_readPart_139 rfl ?_
            refine pm_callV (As := []) (rest := []) hG hR dX6_readPart_140 (lkX6_41 _ rfl) okV_X6_fail rfl rfl (g_X6_fail (d := 3) (by decide) h6) rfl rfl hdd (Nat.le_refl _) (Nat.le_refl _) (by decide) (pm_kv (fun σ' cnt' hq => ?_))
            obtain ⟨I14, A14, rfl, rfl, h14⟩ := hq
            exact pm_vret hG hF dX6_readPart_143 rfl (Nat.le_refl _) (Nat.le_refl _) ⟨rfl, _, _, rfl, rfl, h14⟩
          · refine pm_iloadn hG dX6_readPart_110 rfl ?_
            refine pm_iconst (v := 5) hG dX6_readPart_111 (by decide) ?_
            refine pm_icmp_ge (tgt := 139) hG dX6_readPart_112 rfl (fun _ => ?_) (fun q => absurd q (by decide))
            refine pm_aloadn hG dX6_readPart_139 rfl ?_
            refine pm_callV (As := []) (rest := []) hG hR dX6_readPart_140 (lkX6_41 _ rfl) okV_X6_fail rfl rfl (g_X6_fail (d := 3) (by decide) h6) rfl rfl hdd (Nat.le_refl _) (Nat.le_refl _) (by decide) (pm_kv (fun σ' cnt' hq => ?_))
            obtain ⟨I15, A15, rfl, rfl, h15⟩ := hq
            exact pm_vret hG hF dX6_readPart_143 rfl (Nat.le_refl _) (Nat.le_refl _) ⟨rfl, _, _, rfl, rfl, h15⟩
      · refine pm_aloadn hG dX6_readPart_39 rfl ?_
        refine pm_dup hG dX6_readPart_40 rfl ?_
        refine pm_getf hG dX6_readPart_41 (flX6_26 _ rfl) rfl rfl ?_
        refine pm_iconst (v := 1) hG dX6_readPart_44 (by decide) ?_
        refine pm_iadd hG dX6_readPart_45 ?_
        refine pm_putf hG dX6_readPart_46 (fwX6_26 _ rfl) rfl rfl rfl ?_
        refine pm_nrm (L' := cl_L B kp (ui I6 105 ((I6 105) + 1)) A6) (by decide) (Nat.le_of_ble_eq_true rfl) rfl ?_
        refine pm_aloadn hG dX6_readPart_49 rfl ?_
        refine pm_getf hG dX6_readPart_50 (flX6_20 _ rfl) rfl rfl ?_
        refine pm_bipush (v := (-20)) hG dX6_readPart_53 (by decide) ?_
        refine pm_iloadn hG dX6_readPart_55 rfl ?_
        refine pm_isub hG dX6_readPart_56 ?_
        obtain ⟨k17, hk17, hu17⟩ := gq.used (gq.wi (k := 105) rfl h6) 28 60 (by decide)
        have ht17 : pm_two (cl_L B kp (ui I6 105 ((I6 105) + 1)) A6) ρ 28 = some (.inr (9, [.int (nI 60), .int (nI 1), .ref (B + 29), .int (nI k17)])) := by rw [← hu17]; rfl
        refine pm_callV (As := [.int ((-20) - v5)]) (rest := []) hG hR dX6_readPart_57 (lkX6_50 _ rfl) okV_X9_append rfl rfl (tb_append (d := 3) (by decide) ht17 rfl (by decide) (by decide) (by decide) (by decide) (by decide) (by decide) hk17) rfl rfl hdd (Nat.le_refl _) (Nat.le_refl _) (by decide) (pm_ki (fun v17 σ' cnt' hq => ?_))
        obtain ⟨I17, A17, rfl, rfl, h17⟩ := hv_p28 (kp := kp) (I := (ui I6 105 ((I6 105) + 1))) (A := A6) hk17 (gq.wi (k := 105) rfl h6) hq
        refine pm_pop hG dX6_readPart_60 rfl ?_
        refine pm_goto (tgt := 143) hG dX6_readPart_61 rfl ?_
        exact pm_vret hG hF dX6_readPart_143 rfl (Nat.le_refl _) (Nat.le_refl _) ⟨rfl, _, _, rfl, rfl, h17⟩
    · refine pm_aloadn hG dX6_readPart_28 rfl ?_
      refine pm_callV (As := []) (rest := []) hG hR dX6_readPart_29 (lkX6_74 _ rfl) okV_X6_readNumber rfl rfl (g_X6_readNumber (d := 3) (by decide) h6) rfl rfl hdd (Nat.le_refl _) (Nat.le_refl _) (by decide) (pm_kv (fun σ' cnt' hq => ?_))
      obtain ⟨I18, A18, rfl, rfl, h18⟩ := hq
      refine pm_goto (tgt := 143) hG dX6_readPart_32 rfl ?_
      exact pm_vret hG hF dX6_readPart_143 rfl (Nat.le_refl _) (Nat.le_refl _) ⟨rfl, _, _, rfl, rfl, h18⟩
  · refine pm_iconst (v := (-1)) hG dX6_readPart_9 (by decide) ?_
    refine pm_goto (tgt := 20) hG dX6_readPart_10 rfl ?_
    refine pm_istoreXn (loc' := [some (.ref (B + 27)), some (.int 5), some (.int v1), some (.int (-1))]) hG dX6_readPart_20 (by decide) (pm_c1b rfl) rfl ?_
    refine pm_iloadn hG dX6_readPart_21 rfl ?_
    refine pm_callS (As := [.int v1]) (rest := []) hG hR dX6_readPart_22 (lkX6_70 _ rfl) okS_X6_isDigit (g_X6_isDigit (d := 3) (by decide) h1) rfl rfl hdd (Nat.le_refl _) (Nat.le_refl _) (by decide) (pm_ki (fun v19 σ' cnt' hq => ?_))
    obtain ⟨b19, I19, A19, rfl, rfl, h19⟩ := hq
    refine pm_if_eq (tgt := 35) hG dX6_readPart_25 rfl (fun c20 => ?_) (fun c20 => ?_)
    · refine pm_iloadn hG dX6_readPart_35 rfl ?_
      refine pm_if_lt (tgt := 64) hG dX6_readPart_36 rfl (fun _ => ?_) (fun q => absurd q (by decide))
      refine pm_iloadn hG dX6_readPart_64 rfl ?_
      refine pm_bipush (v := 33) hG dX6_readPart_65 (by decide) ?_
      refine pm_icmp_ne (tgt := 104) hG dX6_readPart_67 rfl (fun c21 => ?_) (fun c21 => ?_)
      · refine pm_iloadn hG dX6_readPart_104 rfl ?_
        refine pm_bipush (v := 40) hG dX6_readPart_105 (by decide) ?_
        refine pm_icmp_ne (tgt := 139) hG dX6_readPart_107 rfl (fun c22 => ?_) (fun c22 => ?_)
        · refine pm_aloadn hG dX6_readPart_139 rfl ?_
          refine pm_callV (As := []) (rest := []) hG hR dX6_readPart_140 (lkX6_41 _ rfl) okV_X6_fail rfl rfl (g_X6_fail (d := 3) (by decide) h19) rfl rfl hdd (Nat.le_refl _) (Nat.le_refl _) (by decide) (pm_kv (fun σ' cnt' hq => ?_))
          obtain ⟨I23, A23, rfl, rfl, h23⟩ := hq
          exact pm_vret hG hF dX6_readPart_143 rfl (Nat.le_refl _) (Nat.le_refl _) ⟨rfl, _, _, rfl, rfl, h23⟩
        · refine pm_iloadn hG dX6_readPart_110 rfl ?_
          refine pm_iconst (v := 5) hG dX6_readPart_111 (by decide) ?_
          refine pm_icmp_ge (tgt := 139) hG dX6_readPart_112 rfl (fun _ => ?_) (fun q => absurd q (by decide))
          refine pm_aloadn hG dX6_readPart_139 rfl ?_
          refine pm_callV (As := []) (rest := []) hG hR dX6_readPart_140 (lkX6_41 _ rfl) okV_X6_fail rfl rfl (g_X6_fail (d := 3) (by decide) h19) rfl rfl hdd (Nat.le_refl _) (Nat.le_refl _) (by decide) (pm_kv (fun σ' cnt' hq => ?_))
          obtain ⟨I24, A24, rfl, rfl, h24⟩ := hq
          exact pm_vret hG hF dX6_readPart_143 rfl (Nat.le_refl _) (Nat.le_refl _) ⟨rfl, _, _, rfl, rfl, h24⟩
      · refine pm_iloadn hG dX6_readPart_70 rfl ?_
        refine pm_iconst (v := 5) hG dX6_readPart_71 (by decide) ?_
        refine pm_icmp_ge (tgt := 104) hG dX6_readPart_72 rfl (fun _ => ?_) (fun q => absurd q (by decide))
        refine pm_iloadn hG dX6_readPart_104 rfl ?_
        refine pm_bipush (v := 40) hG dX6_readPart_105 (by decide) ?_
        refine pm_icmp_ne (tgt := 139) hG dX6_readPart_107 rfl (fun c25 => ?_) (fun c25 => ?_)
        · refine pm_aloadn hG dX6_readPart_139 rfl ?_
          refine pm_callV (As := []) (rest := []) hG hR dX6_readPart_140 (lkX6_41 _ rfl) okV_X6_fail rfl rfl (g_X6_fail (d := 3) (by decide) h19) rfl rfl hdd (Nat.le_refl _) (Nat.le_refl _) (by decide) (pm_kv (fun σ' cnt' hq => ?_))
          obtain ⟨I26, A26, rfl, rfl, h26⟩ := hq
          exact pm_vret hG hF dX6_readPart_143 rfl (Nat.le_refl _) (Nat.le_refl _) ⟨rfl, _, _, rfl, rfl, h26⟩
        · refine pm_iloadn hG dX6_readPart_110 rfl ?_
          refine pm_iconst (v := 5) hG dX6_readPart_111 (by decide) ?_
          refine pm_icmp_ge (tgt := 139) hG dX6_readPart_112 rfl (fun _ => ?_) (fun q => absurd q (by decide))
          refine pm_aloadn hG dX6_readPart_139 rfl ?_
          refine pm_callV (As := []) (rest := []) hG hR dX6_readPart_140 (lkX6_41 _ rfl) okV_X6_fail rfl rfl (g_X6_fail (d := 3) (by decide) h19) rfl rfl hdd (Nat.le_refl _) (Nat.le_refl _) (by decide) (pm_kv (fun σ' cnt' hq => ?_))
          obtain ⟨I27, A27, rfl, rfl, h27⟩ := hq
          exact pm_vret hG hF dX6_readPart_143 rfl (Nat.le_refl _) (Nat.le_refl _) ⟨rfl, _, _, rfl, rfl, h27⟩
    · refine pm_aloadn hG dX6_readPart_28 rfl ?_
      refine pm_callV (As := []) (rest := []) hG hR dX6_readPart_29 (lkX6_74 _ rfl) okV_X6_readNumber rfl rfl (g_X6_readNumber (d := 3) (by decide) h19) rfl rfl hdd (Nat.le_refl _) (Nat.le_refl _) (by decide) (pm_kv (fun σ' cnt' hq => ?_))
      obtain ⟨I28, A28, rfl, rfl, h28⟩ := hq
      refine pm_goto (tgt := 143) hG dX6_readPart_32 rfl ?_
      exact pm_vret hG hF dX6_readPart_143 rfl (Nat.le_refl _) (Nat.le_refl _) ⟨rfl, _, _, rfl, rfl, h28⟩

set_option maxRecDepth 100000 in
set_option maxHeartbeats 4000000 in
theorem g_X6_readSum_k5 {ε : Nat → Int32} {d B cnt : Nat} {kp : Value} {ρ : pm_S} {I : Nat → Int32} {A : Nat → Nat → Int32} (hdd : 5 ≤ d) (h : gq ε I) : pm_met mX6_readSum d 0 0 B [.ref (B + 27), .int 5] cnt (pm_two (cl_L B kp I A) ρ) (pm_Qv (fun σ' cnt' => hvq ε B kp ρ cnt σ' cnt')) := by
  refine pm_enter 2 (by decide) (Nat.le_of_ble_eq_true rfl) rfl (fun G hG hR hF => ?_)
  refine pm_aloadn hG dX6_readSum_0 rfl ?_
  refine pm_iloadn hG dX6_readSum_1 rfl ?_
  refine pm_callV (As := [.int 5]) (rest := []) hG hR dX6_readSum_2 (lkX6_60 _ rfl) okV_X6_readPart rfl rfl (g_X6_readPart_k5 (d := 4) (by decide) h) rfl rfl hdd (Nat.le_refl _) (Nat.le_refl _) (by decide) (pm_kv (fun σ' cnt' hq => ?_))
  obtain ⟨I1, A1, rfl, rfl, h1⟩ := hq
  refine pm_iconst (v := 0) hG dX6_readSum_5 (by decide) ?_
  refine pm_istoreXn (loc' := [some (.ref (B + 27)), some (.int 5), some (.int 0), none]) hG dX6_readSum_6 (by decide) (pm_c1b rfl) rfl ?_
  have loop7 : ∀ (m7 : Nat) (I2 : Nat → Int32) (A2 : Nat → Nat → Int32) (x2_2 : Int32), gq ε I2 → (¬ x2_2 < 0) → ((60 : Int32).toInt - x2_2.toInt).toNat < m7 → pm_wp mX6_readSum G B 7 [some (.ref (B + 27)), some (.int 5), some (.int x2_2), none] [] 0 0 cnt (pm_two (cl_L B kp I2 A2) ρ) := by
    intro m7
    induction m7 with
    | zero => intro I2 A2 x2_2 _  _ hm; exact absurd hm (Nat.not_lt_zero _)
    | succ m7 ih7 =>
      intro I2 A2 x2_2 h2 s7 hm7
      refine pm_iloadn hG dX6_readSum_7 rfl ?_
      refine pm_bipush (v := 60) hG dX6_readSum_8 (by decide) ?_
      refine pm_icmp_ge (tgt := 78) hG dX6_readSum_10 rfl (fun c3 => ?_) (fun c3 => ?_)
      · exact pm_vret hG hF dX6_readSum_78 rfl (Nat.le_refl _) (Nat.le_refl _) ⟨rfl, _, _, rfl, rfl, h2⟩
      · refine pm_aloadn hG dX6_readSum_13 rfl ?_
        refine pm_callV (As := []) (rest := []) hG hR dX6_readSum_14 (lkX6_47 _ rfl) okV_X6_next rfl rfl (g_X6_next (d := 4) (by decide) h2) rfl rfl hdd (Nat.le_refl _) (Nat.le_refl _) (by decide) (pm_ki (fun v4 σ' cnt' hq => ?_))
        obtain ⟨I4, A4, rfl, rfl, h4⟩ := hq
        refine pm_bipush (v := 43) hG dX6_readSum_17 (by decide) ?_
        refine pm_icmp_eq (tgt := 31) hG dX6_readSum_19 rfl (fun c5 => ?_) (fun c5 => ?_)
        · refine pm_aloadn hG dX6_readSum_31 rfl ?_
          refine pm_callV (As := []) (rest := []) hG hR dX6_readSum_32 (lkX6_47 _ rfl) okV_X6_next rfl rfl (g_X6_next (d := 4) (by decide) h4) rfl rfl hdd (Nat.le_refl _) (Nat.le_refl _) (by decide) (pm_ki (fun v6 σ' cnt' hq => ?_))
          obtain ⟨I6, A6, rfl, rfl, h6⟩ := hq
          refine pm_bipush (v := 43) hG dX6_readSum_35 (by decide) ?_
          refine pm_icmp_ne (tgt := 45) hG dX6_readSum_37 rfl (fun c7 => ?_) (fun c7 => ?_)
          · refine pm_bipush (v := (-8)) hG dX6_readSum_45 (by decide) ?_
            refine pm_istoreXn (loc' := [some (.ref (B + 27)), some (.int 5), some (.int x2_2), some (.int (-8))]) hG dX6_readSum_47 (by decide) (pm_c1b rfl) rfl ?_
            refine pm_aloadn hG dX6_readSum_48 rfl ?_
            refine pm_dup hG dX6_readSum_49 rfl ?_
            refine pm_getf hG dX6_readSum_50 (flX6_26 _ rfl) rfl rfl ?_
            refine pm_iconst (v := 1) hG dX6_readSum_53 (by decide) ?_
            refine pm_iadd hG dX6_readSum_54 ?_
            refine pm_putf hG dX6_readSum_55 (fwX6_26 _ rfl) rfl rfl rfl ?_
            refine pm_nrm (L' := cl_L B kp (ui I6 105 ((I6 105) + 1)) A6) (by decide) (Nat.le_of_ble_eq_true rfl) rfl ?_
            refine pm_aloadn hG dX6_readSum_58 rfl ?_
            refine pm_iloadn hG dX6_readSum_59 rfl ?_
            refine pm_callV (As := [.int 5]) (rest := []) hG hR dX6_readSum_60 (lkX6_60 _ rfl) okV_X6_readPart rfl rfl (g_X6_readPart_k5 (d := 4) (by decide) (gq.wi (k := 105) rfl h6)) rfl rfl hdd (Nat.le_refl _) (Nat.le_refl _) (by decide) (pm_kv (fun σ' cnt' hq => ?_))
            obtain ⟨I9, A9, rfl, rfl, h9⟩ := hq
            refine pm_aloadn hG dX6_readSum_63 rfl ?_
            refine pm_getf hG dX6_readSum_64 (flX6_20 _ rfl) rfl rfl ?_
            refine pm_iloadn hG dX6_readSum_67 rfl ?_
            obtain ⟨k10, hk10, hu10⟩ := gq.used h9 28 60 (by decide)
            have ht10 : pm_two (cl_L B kp I9 A9) ρ 28 = some (.inr (9, [.int (nI 60), .int (nI 1), .ref (B + 29), .int (nI k10)])) := by rw [← hu10]; rfl
            refine pm_callV (As := [.int (-8)]) (rest := []) hG hR dX6_readSum_68 (lkX6_50 _ rfl) okV_X9_append rfl rfl (tb_append (d := 4) (by decide) ht10 rfl (by decide) (by decide) (by decide) (by decide) (by decide) (by decide) hk10) rfl rfl hdd (Nat.le_refl _) (Nat.le_refl _) (by decide) (pm_ki (fun v10 σ' cnt' hq => ?_))
            obtain ⟨I10, A10, rfl, rfl, h10⟩ := hv_p28 (kp := kp) (I := I9) (A := A9) hk10 h9 hq
            refine pm_pop hG dX6_readSum_71 rfl ?_
            refine pm_iincX (v := x2_2 + 1) (loc' := [some (.ref (B + 27)), some (.int 5), some (.int (x2_2 + 1)), some (.int (-8))]) hG dX6_readSum_72 rfl (by rfl) (by decide) (pm_c1b rfl) rfl ?_
            refine pm_goto (tgt := 7) hG dX6_readSum_75 rfl ?_
            refine pm_fg 3 (loc' := [some (.ref (B + 27)), some (.int 5), some (.int (x2_2 + 1)), none]) rfl ?_
            exact ih7 _ _ (x2_2 + 1) h10 (pm_sd1 c3 s7) (Nat.lt_of_lt_of_le (pm_mu1 c3) (Nat.le_of_lt_succ hm7))
          · refine pm_bipush (v := (-7)) hG dX6_readSum_40 (by decide) ?_
            refine pm_goto (tgt := 47) hG dX6_readSum_42 rfl ?_
            refine pm_istoreXn (loc' := [some (.ref (B + 27)), some (.int 5), some (.int x2_2), some (.int (-7))]) hG dX6_readSum_47 (by decide) (pm_c1b rfl) rfl ?_
            refine pm_aloadn hG dX6_readSum_48 rfl ?_
            refine pm_dup hG dX6_readSum_49 rfl ?_
            refine pm_getf hG dX6_readSum_50 (flX6_26 _ rfl) rfl rfl ?_
            refine pm_iconst (v := 1) hG dX6_readSum_53 (by decide) ?_
            refine pm_iadd hG dX6_readSum_54 ?_
            refine pm_putf hG dX6_readSum_55 (fwX6_26 _ rfl) rfl rfl rfl ?_
            refine pm_nrm (L' := cl_L B kp (ui I6 105 ((I6 105) + 1)) A6) (by decide) (Nat.le_of_ble_eq_true rfl) rfl ?_
            refine pm_aloadn hG dX6_readSum_58 rfl ?_
            refine pm_iloadn hG dX6_readSum_59 rfl ?_
            refine pm_callV (As := [.int 5]) (rest := []) hG hR dX6_readSum_60 (lkX6_60 _ rfl) okV_X6_readPart rfl rfl (g_X6_readPart_k5 (d := 4) (by decide) (gq.wi (k := 105) rfl h6)) rfl rfl hdd (Nat.le_refl _) (Nat.le_refl _) (by decide) (pm_kv (fun σ' cnt' hq => ?_))
            obtain ⟨I12, A12, rfl, rfl, h12⟩ := hq
            refine pm_aloadn hG dX6_readSum_63 rfl ?_
            refine pm_getf hG dX6_readSum_64 (flX6_20 _ rfl) rfl rfl ?_
            refine pm_iloadn hG dX6_readSum_67 rfl ?_
            obtain ⟨k13, hk13, hu13⟩ := gq.used h12 28 60 (by decide)
            have ht13 : pm_two (cl_L B kp I12 A12) ρ 28 = some (.inr (9, [.int (nI 60), .int (nI 1), .ref (B + 29), .int (nI k13)])) := by rw [← hu13]; rfl
            refine pm_callV (As := [.int (-7)]) (rest := []) hG hR dX6_readSum_68 (lkX6_50 _ rfl) okV_X9_append rfl rfl (tb_append (d := 4) (by decide) ht13 rfl (by decide) (by decide) (by decide) (by decide) (by decide) (by decide) hk13) rfl rfl hdd (Nat.le_refl _) (Nat.le_refl _) (by decide) (pm_ki (fun v13 σ' cnt' hq => ?_))
            obtain ⟨I13, A13, rfl, rfl, h13⟩ := hv_p28 (kp := kp) (I := I12) (A := A12) hk13 h12 hq
            refine pm_pop hG dX6_readSum_71 rfl ?_
            refine pm_iincX (v := x2_2 + 1) (loc' := [some (.ref (B + 27)), some (.int 5), some (.int (x2_2 + 1)), some (.int (-7))]) hG dX6_readSum_72 rfl (by rfl) (by decide) (pm_c1b rfl) rfl ?_
            refine pm_goto (tgt := 7) hG dX6_readSum_75 rfl ?_
            refine pm_fg 3 (loc' := [some (.ref (B + 27)), some (.int 5), some (.int (x2_2 + 1)), none]) rfl ?_
            exact ih7 _ _ (x2_2 + 1) h13 (pm_sd1 c3 s7) (Nat.lt_of_lt_of_le (pm_mu1 c3) (Nat.le_of_lt_succ hm7))
        · refine pm_aloadn hG dX6_readSum_22 rfl ?_
          refine pm_callV (As := []) (rest := []) hG hR dX6_readSum_23 (lkX6_47 _ rfl) okV_X6_next rfl rfl (g_X6_next (d := 4) (by decide) h4) rfl rfl hdd (Nat.le_refl _) (Nat.le_refl _) (by decide) (pm_ki (fun v14 σ' cnt' hq => ?_))
          obtain ⟨I14, A14, rfl, rfl, h14⟩ := hq
          refine pm_bipush (v := 45) hG dX6_readSum_26 (by decide) ?_
          refine pm_icmp_ne (tgt := 78) hG dX6_readSum_28 rfl (fun c15 => ?_) (fun c15 => ?_)
          · exact pm_vret hG hF dX6_readSum_78 rfl (Nat.le_refl _) (Nat.le_refl _) ⟨rfl, _, _, rfl, rfl, h14⟩
          · refine pm_aloadn hG dX6_readSum_31 rfl ?_
            refine pm_callV (As := []) (rest := []) hG hR dX6_readSum_32 (lkX6_47 _ rfl) okV_X6_next rfl rfl (g_X6_next (d := 4) (by decide) h14) rfl rfl hdd (Nat.le_refl _) (Nat.le_refl _) (by decide) (pm_ki (fun v16 σ' cnt' hq => ?_))
            obtain ⟨I16, A16, rfl, rfl, h16⟩ := hq
            refine pm_bipush (v := 43) hG dX6_readSum_35 (by decide) ?_
            refine pm_icmp_ne (tgt := 45) hG dX6_readSum_37 rfl (fun c17 => ?_) (fun c17 => ?_)
            · refine pm_bipush (v := (-8)) hG dX6_readSum_45 (by decide) ?_
              refine pm_istoreXn (loc' := [some (.ref (B + 27)), some (.int 5), some (.int x2_2), some (.int (-8))]) hG dX6_readSum_47 (by decide) (pm_c1b rfl) rfl ?_
              refine pm_aloadn hG dX6_readSum_48 rfl ?_
              refine pm_dup hG dX6_readSum_49 rfl ?_
              refine pm_getf hG dX6_readSum_50 (flX6_26 _ rfl) rfl rfl ?_
              refine pm_iconst (v := 1) hG dX6_readSum_53 (by decide) ?_
              refine pm_iadd hG dX6_readSum_54 ?_
              refine pm_putf hG dX6_readSum_55 (fwX6_26 _ rfl) rfl rfl rfl ?_
              refine pm_nrm (L' := cl_L B kp (ui I16 105 ((I16 105) + 1)) A16) (by decide) (Nat.le_of_ble_eq_true rfl) rfl ?_
              refine pm_aloadn hG dX6_readSum_58 rfl ?_
              refine pm_iloadn hG dX6_readSum_59 rfl ?_
              refine pm_callV (As := [.int 5]) (rest := []) hG hR dX6_readSum_60 (lkX6_60 _ rfl) okV_X6_readPart rfl rfl (g_X6_readPart_k5 (d := 4) (by decide) (gq.wi (k := 105) rfl h16)) rfl rfl hdd (Nat.le_refl _) (Nat.le_refl _) (by decide) (pm_kv (fun σ' cnt' hq => ?_))
              obtain ⟨I19, A19, rfl, rfl, h19⟩ := hq
              refine pm_aloadn hG dX6_readSum_63 rfl ?_
              refine pm_getf hG dX6_readSum_64 (flX6_20 _ rfl) rfl rfl ?_
              refine pm_iloadn hG dX6_readSum_67 rfl ?_
              obtain ⟨k20, hk20, hu20⟩ := gq.used h19 28 60 (by decide)
              have ht20 : pm_two (cl_L B kp I19 A19) ρ 28 = some (.inr (9, [.int (nI 60), .int (nI 1), .ref (B + 29), .int (nI k20)])) := by rw [← hu20]; rfl
              refine pm_callV (As := [.int (-8)]) (rest := []) hG hR dX6_readSum_68 (lkX6_50 _ rfl) okV_X9_append rfl rfl (tb_append (d := 4) (by decide) ht20 rfl (by decide) (by decide) (by decide) (by decide) (by decide) (by decide) hk20) rfl rfl hdd (Nat.le_refl _) (Nat.le_refl _) (by decide) (pm_ki (fun v20 σ' cnt' hq => ?_))
              obtain ⟨I20, A20, rfl, rfl, h20⟩ := hv_p28 (kp := kp) (I := I19) (A := A19) hk20 h19 hq
              refine pm_pop hG dX6_readSum_71 rfl ?_
              refine pm_iincX (v := x2_2 + 1) (loc' := [some (.ref (B + 27)), some (.int 5), some (.int (x2_2 + 1)), some (.int (-8))]) hG dX6_readSum_72 rfl (by rfl) (by decide) (pm_c1b rfl) rfl ?_
              refine pm_goto (tgt := 7) hG dX6_readSum_75 rfl ?_
              refine pm_fg 3 (loc' := [some (.ref (B + 27)), some (.int 5), some (.int (x2_2 + 1)), none]) rfl ?_
              exact ih7 _ _ (x2_2 + 1) h20 (pm_sd1 c3 s7) (Nat.lt_of_lt_of_le (pm_mu1 c3) (Nat.le_of_lt_succ hm7))
            · refine pm_bipush (v := (-7)) hG dX6_readSum_40 (by decide) ?_
              refine pm_goto (tgt := 47) hG dX6_readSum_42 rfl ?_
              refine pm_istoreXn (loc' := [some (.ref (B + 27)), some (.int 5), some (.int x2_2), some (.int (-7))]) hG dX6_readSum_47 (by decide) (pm_c1b rfl) rfl ?_
              refine pm_aloadn hG dX6_readSum_48 rfl ?_
              refine pm_dup hG dX6_readSum_49 rfl ?_
              refine pm_getf hG dX6_readSum_50 (flX6_26 _ rfl) rfl rfl ?_
              refine pm_iconst (v := 1) hG dX6_readSum_53 (by decide) ?_
              refine pm_iadd hG dX6_readSum_54 ?_
              refine pm_putf hG dX6_readSum_55 (fwX6_26 _ rfl) rfl rfl rfl ?_
              refine pm_nrm (L' := cl_L B kp (ui I16 105 ((I16 105) + 1)) A16) (by decide) (Nat.le_of_ble_eq_true rfl) rfl ?_
              refine pm_aloadn hG dX6_readSum_58 rfl ?_
              refine pm_iloadn hG dX6_readSum_59 rfl ?_
              refine pm_callV (As := [.int 5]) (rest := []) hG hR dX6_readSum_60 (lkX6_60 _ rfl) okV_X6_readPart rfl rfl (g_X6_readPart_k5 (d := 4) (by decide) (gq.wi (k := 105) rfl h16)) rfl rfl hdd (Nat.le_refl _) (Nat.le_refl _) (by decide) (pm_kv (fun σ' cnt' hq => ?_))
              obtain ⟨I22, A22, rfl, rfl, h22⟩ := hq
              refine pm_aloadn hG dX6_readSum_63 rfl ?_
              refine pm_getf hG dX6_readSum_64 (flX6_20 _ rfl) rfl rfl ?_
              refine pm_iloadn hG dX6_readSum_67 rfl ?_
              obtain ⟨k23, hk23, hu23⟩ := gq.used h22 28 60 (by decide)
              have ht23 : pm_two (cl_L B kp I22 A22) ρ 28 = some (.inr (9, [.int (nI 60), .int (nI 1), .ref (B + 29), .int (nI k23)])) := by rw [← hu23]; rfl
              refine pm_callV (As := [.int (-7)]) (rest := []) hG hR dX6_readSum_68 (lkX6_50 _ rfl) okV_X9_append rfl rfl (tb_append (d := 4) (by decide) ht23 rfl (by decide) (by decide) (by decide) (by decide) (by decide) (by decide) hk23) rfl rfl hdd (Nat.le_refl _) (Nat.le_refl _) (by decide) (pm_ki (fun v23 σ' cnt' hq => ?_))
              obtain ⟨I23, A23, rfl, rfl, h23⟩ := hv_p28 (kp := kp) (I := I22) (A := A22) hk23 h22 hq
              refine pm_pop hG dX6_readSum_71 rfl ?_
              refine pm_iincX (v := x2_2 + 1) (loc' := [some (.ref (B + 27)), some (.int 5), some (.int (x2_2 + 1)), some (.int (-7))]) hG dX6_readSum_72 rfl (by rfl) (by decide) (pm_c1b rfl) rfl ?_
              refine pm_goto (tgt := 7) hG dX6_readSum_75 rfl ?_
              refine pm_fg 3 (loc' := [some (.ref (B + 27)), some (.int 5), some (.int (x2_2 + 1)), none]) rfl ?_
              exact ih7 _ _ (x2_2 + 1) h23 (pm_sd1 c3 s7) (Nat.lt_of_lt_of_le (pm_mu1 c3) (Nat.le_of_lt_succ hm7))
  exact loop7 _ _ _ 0 h1 (by decide) (Nat.lt_succ_self _)
