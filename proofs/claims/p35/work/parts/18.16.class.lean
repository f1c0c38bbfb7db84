set_option maxRecDepth 100000 in
set_option maxHeartbeats 4000000 in
theorem g_X11_road {ε : Nat → Int32} {d B cnt : Nat} {kp : pm_KP} {ρ : pm_S} {I : Nat → Int32} {A : Nat → Nat → Int32} {za zb zc : Int32} (hdd : 2 ≤ d) (h : gq ε I) : pm_met mX11_road d 0 0 B [.ref (B + 0), .int za, .int zb, .int zc] cnt (pm_two (cl_L B kp I A) ρ) (pm_Qi (fun _ σ' cnt' => hvq ε B kp ρ cnt σ' cnt')) := by
  refine pm_enter 0 (by decide) (Nat.le_of_ble_eq_true rfl) rfl (fun G hG hR hF => ?_)
  refine pm_aloadn hG dX11_road_0 rfl ?_
  refine pm_getf hG dX11_road_1 (flX11_12 _ rfl) rfl rfl ?_
  refine pm_getf hG dX11_road_4 (flX11_82 _ rfl) rfl rfl ?_
  refine pm_iloadn hG dX11_road_7 rfl ?_
  refine pm_callV (As := [.int za]) (rest := []) hG hR dX11_road_8 (lkX11_101 _ rfl) okV_X9_has rfl rfl (tb_has (d := 1) rfl) rfl rfl hdd (Nat.le_refl _) (Nat.le_refl _) (by decide) (pm_ki (fun v1 σ' cnt' hq => ?_))
  have b1 := pm_b01 hq.1
  obtain ⟨I1, A1, rfl, rfl, h1⟩ := hv_id (kp := kp) (I := I) (A := A) h hq.2
  refine pm_if_eq (tgt := 43) hG dX11_road_11 rfl (fun c2 => ?_) (fun c2 => ?_)
  · refine pm_aloadn hG dX11_road_43 rfl ?_
    refine pm_ldc hG dX11_road_44 (ctX11_109 _ rfl) ?_
    refine pm_callV (As := [.int (-1000001)]) (rest := []) hG hR dX11_road_46 (lkX11_97 _ rfl) okV_X11_told rfl rfl (sx_told (d := 1) (by decide) rfl rfl) rfl rfl hdd (Nat.le_refl _) (Nat.le_refl _) (by decide) (pm_ki (fun v3 σ' cnt' hq => ?_))
    obtain ⟨-, ⟨g3, hg3⟩, hc3⟩ := hq
    obtain ⟨I3, A3, rfl, rfl, h3⟩ := hv_a53 (kp := kp) (I := I1) (A := A1) h1 ⟨hg3, hc3⟩
    exact pm_iret hG hF dX11_road_49 rfl (Nat.le_refl _) (Nat.le_refl _) ⟨_, rfl, _, _, rfl, rfl, h3⟩
  · refine pm_aloadn hG dX11_road_14 rfl ?_
    refine pm_getf hG dX11_road_15 (flX11_12 _ rfl) rfl rfl ?_
    refine pm_getf hG dX11_road_18 (flX11_82 _ rfl) rfl rfl ?_
    refine pm_iloadn hG dX11_road_21 rfl ?_
    refine pm_callV (As := [.int zb]) (rest := []) hG hR dX11_road_22 (lkX11_101 _ rfl) okV_X9_has rfl rfl (tb_has (d := 1) rfl) rfl rfl hdd (Nat.le_refl _) (Nat.le_refl _) (by decide) (pm_ki (fun v4 σ' cnt' hq => ?_))
    have b4 := pm_b01 hq.1
    obtain ⟨I4, A4, rfl, rfl, h4⟩ := hv_id (kp := kp) (I := I1) (A := A1) h1 hq.2
    refine pm_if_eq (tgt := 43) hG dX11_road_25 rfl (fun c5 => ?_) (fun c5 => ?_)
    · refine pm_aloadn hG dX11_road_43 rfl ?_
      refine pm_ldc hG dX11_road_44 (ctX11_109 _ rfl) ?_
      refine pm_callV (As := [.int (-1000001)]) (rest := []) hG hR dX11_road_46 (lkX11_97 _ rfl) okV_X11_told rfl rfl (sx_told (d := 1) (by decide) rfl rfl) rfl rfl hdd (Nat.le_refl _) (Nat.le_refl _) (by decide) (pm_ki (fun v6 σ' cnt' hq => ?_))
      obtain ⟨-, ⟨g6, hg6⟩, hc6⟩ := hq
      obtain ⟨I6, A6, rfl, rfl, h6⟩ := hv_a53 (kp := kp) (I := I4) (A := A4) h4 ⟨hg6, hc6⟩
      exact pm_iret hG hF dX11_road_49 rfl (Nat.le_refl _) (Nat.le_refl _) ⟨_, rfl, _, _, rfl, rfl, h6⟩
    · refine pm_iloadn hG dX11_road_28 rfl ?_
      refine pm_iloadn hG dX11_road_29 rfl ?_
      refine pm_icmp_eq (tgt := 43) hG dX11_road_30 rfl (fun c7 => ?_) (fun c7 => ?_)
      · refine pm_aloadn hG dX11_road_43 rfl ?_
        refine pm_ldc hG dX11_road_44 (ctX11_109 _ rfl) ?_
        refine pm_callV (As := [.int (-1000001)]) (rest := []) hG hR dX11_road_46 (lkX11_97 _ rfl) okV_X11_told rfl rfl (sx_told (d := 1) (by decide) rfl rfl) rfl rfl hdd (Nat.le_refl _) (Nat.le_refl _) (by decide) (pm_ki (fun v8 σ' cnt' hq => ?_))
        obtain ⟨-, ⟨g8, hg8⟩, hc8⟩ := hq
        obtain ⟨I8, A8, rfl, rfl, h8⟩ := hv_a53 (kp := kp) (I := I4) (A := A4) h4 ⟨hg8, hc8⟩
        exact pm_iret hG hF dX11_road_49 rfl (Nat.le_refl _) (Nat.le_refl _) ⟨_, rfl, _, _, rfl, rfl, h8⟩
      · refine pm_iloadn hG dX11_road_33 rfl ?_
        refine pm_iconst (v := 1) hG dX11_road_34 (by decide) ?_
        refine pm_bipush (v := 9) hG dX11_road_35 (by decide) ?_
        refine pm_callS (As := [.int zc, .int 1, .int 9]) (rest := []) hG hR dX11_road_37 (lkX11_105 _ rfl) okS_X11_isOutside (sx_isOutside (d := 1)) rfl rfl hdd (Nat.le_refl _) (Nat.le_refl _) (by decide) (pm_ki (fun v9 σ' cnt' hq => ?_))
        have o9 := hq.1
        have b9 := pm_b10 hq.1
        obtain ⟨I9, A9, rfl, rfl, h9⟩ := hv_id (kp := kp) (I := I4) (A := A4) h4 hq.2
        refine pm_if_eq (tgt := 50) hG dX11_road_40 rfl (fun c10 => ?_) (fun c10 => ?_)
        · refine pm_aloadn hG dX11_road_50 rfl ?_
          refine pm_aloadn hG dX11_road_51 rfl ?_
          refine pm_getf hG dX11_road_52 (flX11_12 _ rfl) rfl rfl ?_
          refine pm_getf hG dX11_road_55 (flX11_110 _ rfl) rfl rfl ?_
          refine pm_bipush (v := 20) hG dX11_road_58 (by decide) ?_
          refine pm_icmp_lt (tgt := 68) hG dX11_road_60 rfl (fun c11 => ?_) (fun c11 => ?_)
          · refine pm_aloadn hG dX11_road_68 rfl ?_
            refine pm_getf hG dX11_road_69 (flX11_12 _ rfl) rfl rfl ?_
            refine pm_iloadn hG dX11_road_72 rfl ?_
            refine pm_iloadn hG dX11_road_73 rfl ?_
            refine pm_iloadn hG dX11_road_74 rfl ?_
            refine pm_callV (As := [.int za, .int zb, .int zc]) (rest := [.ref (B + 0)]) hG hR dX11_road_75 (lkX11_114 _ rfl) okV_X7_join rfl rfl (g_X7_join (d := 1) (by decide) h9) rfl rfl hdd (Nat.le_refl _) (Nat.le_refl _) (by first | decide | exact Nat.le_of_ble_eq_true rfl) (pm_ki (fun v12 σ' cnt' hq => ?_))
            obtain ⟨I12, A12, rfl, rfl, h12⟩ := hq
            refine pm_callV (As := [.int v12]) (rest := []) hG hR dX11_road_78 (lkX11_97 _ rfl) okV_X11_told rfl rfl (sx_told (d := 1) (by decide) rfl rfl) rfl rfl hdd (Nat.le_refl _) (Nat.le_refl _) (by decide) (pm_ki (fun v13 σ' cnt' hq => ?_))
            obtain ⟨-, ⟨g13, hg13⟩, hc13⟩ := hq
            obtain ⟨I13, A13, rfl, rfl, h13⟩ := hv_a53 (kp := kp) (I := I12) (A := A12) h12 ⟨hg13, hc13⟩
            exact pm_iret hG hF dX11_road_81 rfl (Nat.le_refl _) (Nat.le_refl _) ⟨_, rfl, _, _, rfl, rfl, h13⟩
          · refine pm_ldc hG dX11_road_63 (ctX11_92 _ rfl) ?_
            refine pm_goto (tgt := 78) hG dX11_road_65 rfl ?_
            refine pm_callV (As := [.int (-1000004)]) (rest := []) hG hR dX11_road_78 (lkX11_97 _ rfl) okV_X11_told rfl rfl (sx_told (d := 1) (by decide) rfl rfl) rfl rfl hdd (Nat.le_refl _) (Nat.le_refl _) (by decide) (pm_ki (fun v14 σ' cnt' hq => ?_))
            obtain ⟨-, ⟨g14, hg14⟩, hc14⟩ := hq
            obtain ⟨I14, A14, rfl, rfl, h14⟩ := hv_a53 (kp := kp) (I := I9) (A := A9) h9 ⟨hg14, hc14⟩
            exact pm_iret hG hF dX11_road_81 rfl (Nat.le_refl _) (Nat.le_refl _) ⟨_, rfl, _, _, rfl, rfl, h14⟩
        · refine pm_aloadn hG dX11_road_43 rfl ?_
          refine pm_ldc hG dX11_road_44 (ctX11_109 _ rfl) ?_
          refine pm_callV (As := [.int (-1000001)]) (rest := []) hG hR dX11_road_46 (lkX11_97 _ rfl) okV_X11_told rfl rfl (sx_told (d := 1) (by decide) rfl rfl) rfl rfl hdd (Nat.le_refl _) (Nat.le_refl _) (by decide) (pm_ki (fun v15 σ' cnt' hq => ?_))
          obtain ⟨-, ⟨g15, hg15⟩, hc15⟩ := hq
          obtain ⟨I15, A15, rfl, rfl, h15⟩ := hv_a53 (kp := kp) (I := I9) (A := A9) h9 ⟨hg15, hc15⟩
          exact pm_iret hG hF dX11_road_49 rfl (Nat.le_refl _) (Nat.le_refl _) ⟨_, rfl, _, _, rfl, rfl, h15⟩

set_option maxRecDepth 100000 in
set_option maxHeartbeats 4000000 in
theorem g_X11_says {ε : Nat → Int32} {d B cnt : Nat} {kp : pm_KP} {ρ : pm_S} {I : Nat → Int32} {A : Nat → Nat → Int32} {za zb zc : Int32} (hdd : 4 ≤ d) (h : gq ε I) : pm_met mX11_says d 0 0 B [.ref (B + 0), .int za, .int zb, .int zc] cnt (pm_two (cl_L B kp I A) ρ) (pm_Qi (fun _ σ' cnt' => hvq ε B kp ρ cnt σ' cnt')) := by
  refine pm_enter 2 (by decide) (Nat.le_of_ble_eq_true rfl) rfl (fun G hG hR hF => ?_)
  refine pm_iloadn hG dX11_says_0 rfl ?_
  refine pm_iconst (v := (-1)) hG dX11_says_1 (by decide) ?_
  refine pm_icmp_eq (tgt := 19) hG dX11_says_2 rfl (fun c1 => ?_) (fun c1 => ?_)
  · refine pm_iconst (v := 1) hG dX11_says_19 (by decide) ?_
    refine pm_goto (tgt := 24) hG dX11_says_20 rfl ?_
    refine pm_istoreXi (loc' := [some (.ref (B + 0)), some (.int za), some (.int zb), some (.int zc), some (.int 1), none]) hG dX11_says_24 (by decide) (pm_c1b rfl) rfl ?_
    refine pm_iloadn hG dX11_says_26 rfl ?_
    refine pm_iconst (v := (-1)) hG dX11_says_27 (by decide) ?_
    refine pm_icmp_eq (tgt := 45) hG dX11_says_28 rfl (fun c2 => ?_) (fun c2 => ?_)
    · refine pm_iconst (v := 1) hG dX11_says_45 (by decide) ?_
      refine pm_goto (tgt := 50) hG dX11_says_46 rfl ?_
      refine pm_istoreXi (loc' := [some (.ref (B + 0)), some (.int za), some (.int zb), some (.int zc), some (.int 1), some (.int 1)]) hG dX11_says_50 (by decide) (pm_c1b rfl) rfl ?_
      refine pm_aloadn hG dX11_says_52 rfl ?_
      refine pm_getf hG dX11_says_53 (flX11_12 _ rfl) rfl rfl ?_
      refine pm_getf hG dX11_says_56 (flX11_209 _ rfl) rfl rfl ?_
      refine pm_iloadn hG dX11_says_59 rfl ?_
      refine pm_callV (As := [.int za]) (rest := []) hG hR dX11_says_60 (lkX11_101 _ rfl) okV_X9_has rfl rfl (tb_has (d := 3) rfl) rfl rfl hdd (Nat.le_refl _) (Nat.le_refl _) (by decide) (pm_ki (fun v3 σ' cnt' hq => ?_))
      have b3 := pm_b01 hq.1
      obtain ⟨I3, A3, rfl, rfl, h3⟩ := hv_id (kp := kp) (I := I) (A := A) h hq.2
      refine pm_if_eq (tgt := 76) hG dX11_says_63 rfl (fun c4 => ?_) (fun c4 => ?_)
      · refine pm_aloadn hG dX11_says_76 rfl ?_
        refine pm_ldc hG dX11_says_77 (ctX11_109 _ rfl) ?_
        refine pm_callV (As := [.int (-1000001)]) (rest := []) hG hR dX11_says_79 (lkX11_97 _ rfl) okV_X11_told rfl rfl (sx_told (d := 3) (by decide) rfl rfl) rfl rfl hdd (Nat.le_refl _) (Nat.le_refl _) (by decide) (pm_ki (fun v5 σ' cnt' hq => ?_))
        obtain ⟨-, ⟨g5, hg5⟩, hc5⟩ := hq
        obtain ⟨I5, A5, rfl, rfl, h5⟩ := hv_a53 (kp := kp) (I := I3) (A := A3) h3 ⟨hg5, hc5⟩
        exact pm_iret hG hF dX11_says_82 rfl (Nat.le_refl _) (Nat.le_refl _) ⟨_, rfl, _, _, rfl, rfl, h5⟩
      · refine pm_iloadi hG dX11_says_66 rfl ?_
        refine pm_if_eq (tgt := 76) hG dX11_says_68 rfl (fun q => absurd q (by decide)) (fun _ => ?_)
        refine pm_iloadi hG dX11_says_71 rfl ?_
        refine pm_if_ne (tgt := 83) hG dX11_says_73 rfl (fun _ => ?_) (fun q => absurd q (by decide))
        refine pm_aloadn hG dX11_says_83 rfl ?_
        refine pm_getf hG dX11_says_84 (flX11_21 _ rfl) rfl rfl ?_
        refine pm_iloadn hG dX11_says_87 rfl ?_
        refine pm_iloadn hG dX11_says_88 rfl ?_
        refine pm_iloadn hG dX11_says_89 rfl ?_
        refine pm_aloadn hG dX11_says_90 rfl ?_
        refine pm_getf hG dX11_says_91 (flX11_12 _ rfl) rfl rfl ?_
        refine pm_getf hG dX11_says_94 (flX11_122 _ rfl) rfl rfl ?_
        refine pm_callV (As := [.int za, .int zb, .int zc, .int (I3 102)]) (rest := []) hG hR dX11_says_97 (lkX11_226 _ rfl) okV_X2_comesTo rfl rfl (g_X2_comesTo (d := 3) (by decide) h3) rfl rfl hdd (Nat.le_refl _) (Nat.le_refl _) (by decide) (pm_ki (fun v6 σ' cnt' hq => ?_))
        obtain ⟨I6, A6, rfl, rfl, h6⟩ := hq
        exact pm_iret hG hF dX11_says_100 rfl (Nat.le_refl _) (Nat.le_refl _) ⟨_, rfl, _, _, rfl, rfl, h6⟩
    · refine pm_aloadn hG dX11_says_31 rfl ?_
      refine pm_getf hG dX11_says_32 (flX11_12 _ rfl) rfl rfl ?_
      refine pm_getf hG dX11_says_35 (flX11_224 _ rfl) rfl rfl ?_
      refine pm_iloadn hG dX11_says_38 rfl ?_
      refine pm_callV (As := [.int zc]) (rest := []) hG hR dX11_says_39 (lkX11_101 _ rfl) okV_X9_has rfl rfl (tb_has (d := 3) rfl) rfl rfl hdd (Nat.le_refl _) (Nat.le_refl _) (by decide) (pm_ki (fun v7 σ' cnt' hq => ?_))
      have b7 := pm_b01 hq.1
      obtain ⟨I7, A7, rfl, rfl, h7⟩ := hv_id (kp := kp) (I := I) (A := A) h hq.2
      refine pm_if_eq (tgt := 49) hG dX11_says_42 rfl (fun c8 => ?_) (fun c8 => ?_)
      · refine pm_iconst (v := 0) hG dX11_says_49 (by decide) ?_
        refine pm_istoreXi (loc' := [some (.ref (B + 0)), some (.int za), some (.int zb), some (.int zc), some (.int 1), some (.int 0)]) hG dX11_says_50 (by decide) (pm_c1b rfl) rfl ?_
        refine pm_aloadn hG dX11_says_52 rfl ?_
        refine pm_getf hG dX11_says_53 (flX11_12 _ rfl) rfl rfl ?_
        refine pm_getf hG dX11_says_56 (flX11_209 _ rfl) rfl rfl ?_
        refine pm_iloadn hG dX11_says_59 rfl ?_
        refine pm_callV (As := [.int za]) (rest := []) hG hR dX11_says_60 (lkX11_101 _ rfl) okV_X9_has rfl rfl (tb_has (d := 3) rfl) rfl rfl hdd (Nat.le_refl _) (Nat.le_refl _) (by decide) (pm_ki (fun v9 σ' cnt' hq => ?_))
        have b9 := pm_b01 hq.1
        obtain ⟨I9, A9, rfl, rfl, h9⟩ := hv_id (kp := kp) (I := I7) (A := A7) h7 hq.2
        refine pm_if_eq (tgt := 76) hG dX11_says_63 rfl (fun c10 => ?_) (fun c10 => ?_)
        · refine pm_aloadn hG dX11_says_76 rfl ?_
          refine pm_ldc hG dX11_says_77 (ctX11_109 _ rfl) ?_
          refine pm_callV (As := [.int (-1000001)]) (rest := []) hG hR dX11_says_79 (lkX11_97 _ rfl) okV_X11_told rfl rfl (sx_told (d := 3) (by decide) rfl rfl) rfl rfl hdd (Nat.le_refl _) (Nat.le_refl _) (by decide) (pm_ki (fun v11 σ' cnt' hq => ?_))
          obtain ⟨-, ⟨g11, hg11⟩, hc11⟩ := hq
          obtain ⟨I11, A11, rfl, rfl, h11⟩ := hv_a53 (kp := kp) (I := I9) (A := A9) h9 ⟨hg11, hc11⟩
          exact pm_iret hG hF dX11_says_82 rfl (Nat.le_refl _) (Nat.le_refl _) ⟨_, rfl, _, _, rfl, rfl, h11⟩
        · refine pm_iloadi hG dX11_says_66 rfl ?_
          refine pm_if_eq (tgt := 76) hG dX11_says_68 rfl (fun q => absurd q (by decide)) (fun _ => ?_)
          refine pm_iloadi hG dX11_says_71 rfl ?_
          refine pm_if_ne (tgt := 83) hG dX11_says_73 rfl (fun q => absurd q (by decide)) (fun _ => ?_)
          refine pm_aloadn hG dX11_says_76 rfl ?_
          refine pm_ldc hG dX11_says_77 (ctX11_109 _ rfl) ?_
          refine pm_callV (As := [.int (-1000001)]) (rest := []) hG hR dX11_says_79 (lkX11_97 _ rfl) okV_X11_told rfl rfl (sx_told (d := 3) (by decide) rfl rfl) rfl rfl hdd (Nat.le_refl _) (Nat.le_refl _) (by decide) (pm_ki (fun v12 σ' cnt' hq => ?_))
          obtain ⟨-, ⟨g12, hg12⟩, hc12⟩ := hq
          obtain ⟨I12, A12, rfl, rfl, h12⟩ := hv_a53 (kp := kp) (I := I9) (A := A9) h9 ⟨hg12, hc12⟩
          exact pm_iret hG hF dX11_says_82 rfl (Nat.le_refl _) (Nat.le_refl _) ⟨_, rfl, _, _, rfl, rfl, h12⟩
      · refine pm_iconst (v := 1) hG dX11_says_45 (by decide) ?_
        refine pm_goto (tgt := 50) hG dX11_says_46 rfl ?_
        refine pm_istoreXi (loc' := [some (.ref (B + 0)), some (.int za), some (.int zb), some (.int zc), some (.int 1), some (.int 1)]) hG dX11_says_50 (by decide) (pm_c1b rfl) rfl ?_
        refine pm_aloadn hG dX11_says_52 rfl ?_
        refine pm_getf hG dX11_says_53 (flX11_12 _ rfl) rfl rfl ?_
        refine pm_getf hG dX11_says_56 (flX11_209 _ rfl) rfl rfl ?_
        refine pm_iloadn hG dX11_says_59 rfl ?_
        refine pm_callV (As := [.int za]) (rest := []) hG hR dX11_says_60 (lkX11_101 _ rfl) okV_X9_has rfl rfl (tb_has (d := 3) rfl) rfl rfl hdd (Nat.le_refl _) (Nat.le_refl _) (by decide) (pm_ki (fun v13 σ' cnt' hq => ?_))
        have b13 := pm_b01 hq.1
        obtain ⟨I13, A13, rfl, rfl, h13⟩ := hv_id (kp := kp) (I := I7) (A := A7) h7 hq.2
        refine pm_if_eq (tgt := 76) hG dX11_says_63 rfl (fun c14 => ?_) (fun c14 => ?_)
        · refine pm_aloadn hG dX11_says_76 rfl ?_
          refine pm_ldc hG dX11_says_77 (ctX11_109 _ rfl) ?_
          refine pm_callV (As := [.int (-1000001)]) (rest := []) hG hR dX11_says_79 (lkX11_97 _ rfl) okV_X11_told rfl rfl (sx_told (d := 3) (by decide) rfl rfl) rfl rfl hdd (Nat.le_refl _) (Nat.le_refl _) (by decide) (pm_ki (fun v15 σ' cnt' hq => ?_))
          obtain ⟨-, ⟨g15, hg15⟩, hc15⟩ := hq
          obtain ⟨I15, A15, rfl, rfl, h15⟩ := hv_a53 (kp := kp) (I := I13) (A := A13) h13 ⟨hg15, hc15⟩
          exact pm_iret hG hF dX11_says_82 rfl (Nat.le_refl _) (Nat.le_refl _) ⟨_, rfl, _, _, rfl, rfl, h15⟩
        · refine pm_iloadi hG dX11_says_66 rfl ?_
          refine pm_if_eq (tgt := 76) hG dX11_says_68 rfl (fun q => absurd q (by decide)) (fun _ => ?_)
          refine pm_iloadi hG dX11_says_71 rfl ?_
          refine pm_if_ne (tgt := 83) hG dX11_says_73 rfl (fun _ => ?_) (fun q => absurd q (by decide))
          refine pm_aloadn hG dX11_says_83 rfl ?_
          refine pm_getf hG dX11_says_84 (flX11_21 _ rfl) rfl rfl ?_
          refine pm_iloadn hG dX11_says_87 rfl ?_
          refine pm_iloadn hG dX11_says_88 rfl ?_
          refine pm_iloadn hG dX11_says_89 rfl ?_
          refine pm_aloadn hG dX11_says_90 rfl ?_
          refine pm_getf hG dX11_says_91 (flX11_12 _ rfl) rfl rfl ?_
          refine pm_getf hG dX11_says_94 (flX11_122 _ rfl) rfl rfl ?_
          refine pm_callV (As := [.int za, .int zb, .int zc, .int (I13 102)]) (rest := []) hG hR dX11_says_97 (lkX11_226 _ rfl) okV_X2_comesTo rfl rfl (g_X2_comesTo (d := 3) (by decide) h13) rfl rfl hdd (Nat.le_refl _) (Nat.le_refl _) (by decide) (pm_ki (fun v16 σ' cnt' hq => ?_))
          obtain ⟨I16, A16, rfl, rfl, h16⟩ := hq
          exact pm_iret hG hF dX11_says_100 rfl (Nat.le_refl _) (Nat.le_refl _) ⟨_, rfl, _, _, rfl, rfl, h16⟩
  · refine pm_aloadn hG dX11_says_5 rfl ?_
    refine pm_getf hG dX11_says_6 (flX11_12 _ rfl) rfl rfl ?_
    refine pm_getf hG dX11_says_9 (flX11_128 _ rfl) rfl rfl ?_
    refine pm_iloadn hG dX11_says_12 rfl ?_
    refine pm_callV (As := [.int zb]) (rest := []) hG hR dX11_says_13 (lkX11_101 _ rfl) okV_X9_has rfl rfl (tb_has (d := 3) rfl) rfl rfl hdd (Nat.le_refl _) (Nat.le_refl _) (by decide) (pm_ki (fun v17 σ' cnt' hq => ?_))
    have b17 := pm_b01 hq.1
    obtain ⟨I17, A17, rfl, rfl, h17⟩ := hv_id (kp := kp) (I := I) (A := A) h hq.2
    refine pm_if_eq (tgt := 23) hG dX11_says_16 rfl (fun c18 => ?_) (fun c18 => ?_)
    · refine pm_iconst (v := 0) hG dX11_says_23 (by decide) ?_
      refine pm_istoreXi (loc' := [some (.ref (B + 0)), some (.int za), some (.int zb), some (.int zc), some (.int 0), none]) hG dX11_says_24 (by decide) (pm_c1b rfl) rfl ?_
      refine pm_iloadn hG dX11_says_26 rfl ?_
      refine pm_iconst (v := (-1)) hG dX11_says_27 (by decide) ?_
      refine pm_icmp_eq (tgt := 45) hG dX11_says_28 rfl (fun c19 => ?_) (fun c19 => ?_)
      · refine pm_iconst (v := 1) hG dX11_says_45 (by decide) ?_
        refine pm_goto (tgt := 50) hG dX11_says_46 rfl ?_
        refine pm_istoreXi (loc' := [some (.ref (B + 0)), some (.int za), some (.int zb), some (.int zc), some (.int 0), some (.int 1)]) hG dX11_says_50 (by decide) (pm_c1b rfl) rfl ?_
        refine pm_aloadn hG dX11_says_52 rfl ?_
        refine pm_getf hG dX11_says_53 (flX11_12 _ rfl) rfl rfl ?_
        refine pm_getf hG dX11_says_56 (flX11_209 _ rfl) rfl rfl ?_
        refine pm_iloadn hG dX11_says_59 rfl ?_
        refine pm_callV (As := [.int za]) (rest := []) hG hR dX11_says_60 (lkX11_101 _ rfl) okV_X9_has rfl rfl (tb_has (d := 3) rfl) rfl rfl hdd (Nat.le_refl _) (Nat.le_refl _) (by decide) (pm_ki (fun v20 σ' cnt' hq => ?_))
        have b20 := pm_b01 hq.1
        obtain ⟨I20, A20, rfl, rfl, h20⟩ := hv_id (kp := kp) (I := I17) (A := A17) h17 hq.2
        refine pm_if_eq (tgt := 76) hG dX11_says_63 rfl (fun c21 => ?_) (fun c21 => ?_)
        · refine pm_aloadn hG dX11_says_76 rfl ?_
          refine pm_ldc hG dX11_says_77 (ctX11_109 _ rfl) ?_
          refine pm_callV (As := [.int (-1000001)]) (rest := []) hG hR dX11_says_79 (lkX11_97 _ rfl) okV_X11_told rfl rfl (sx_told (d := 3) (by decide) rfl rfl) rfl rfl hdd (Nat.le_refl _) (Nat.le_refl _) (by decide) (pm_ki (fun v22 σ' cnt' hq => ?_))
          obtain ⟨-, ⟨g22, hg22⟩, hc22⟩ := hq
          obtain ⟨I22, A22, rfl, rfl, h22⟩ := hv_a53 (kp := kp) (I := I20) (A := A20) h20 ⟨hg22, hc22⟩
          exact pm_iret hG hF dX11_says_82 rfl (Nat.le_refl _) (Nat.le_refl _) ⟨_, rfl, _, _, rfl, rfl, h22⟩
        · refine pm_iloadi hG dX11_says_66 rfl ?_
          refine pm_if_eq (tgt := 76) hG dX11_says_68 rfl (fun _ => ?_) (fun q => absurd q (by decide))
          refine pm_aloadn hG dX11_says_76 rfl ?_
          refine pm_ldc hG dX11_says_77 (ctX11_109 _ rfl) ?_
          refine pm_callV (As := [.int (-1000001)]) (rest := []) hG hR dX11_says_79 (lkX11_97 _ rfl) okV_X11_told rfl rfl (sx_told (d := 3) (by decide) rfl rfl) rfl rfl hdd (Nat.le_refl _) (Nat.le_refl _) (by decide) (pm_ki (fun v23 σ' cnt' hq => ?_))
          obtain ⟨-, ⟨g23, hg23⟩, hc23⟩ := hq
          obtain ⟨I23, A23, rfl, rfl, h23⟩ := hv_a53 (kp := kp) (I := I20) (A := A20) h20 ⟨hg23, hc23⟩
          exact pm_iret hG hF dX11_says_82 rfl (Nat.le_refl _) (Nat.le_refl _) ⟨_, rfl, _, _, rfl, rfl, h23⟩
      · refine pm_aloadn hG dX11_says_31 rfl ?_
        refine pm_getf hG dX11_says_32 (flX11_12 _ rfl) rfl rfl ?_
        refine pm_getf hG dX11_says_35 (flX11_224 _ rfl) rfl rfl ?_
        refine pm_iloadn hG dX11_says_38 rfl ?_
        refine pm_callV (As := [.int zc]) (rest := []) hG hR dX11_says_39 (lkX11_101 _ rfl) okV_X9_has rfl rfl (tb_has (d := 3) rfl) rfl rfl hdd (Nat.le_refl _) (Nat.le_refl _) (by decide) (pm_ki (fun v24 σ' cnt' hq => ?_))
        have b24 := pm_b01 hq.1
        obtain ⟨I24, A24, rfl, rfl, h24⟩ := hv_id (kp := kp) (I := I17) (A := A17) h17 hq.2
        refine pm_if_eq (tgt := 49) hG dX11_says_42 rfl (fun c25 => ?_) (fun c25 => ?_)
        · refine pm_iconst (v := 0) hG dX11_says_49 (by decide) ?_
          refine pm_istoreXi (loc' := [some (.ref (B + 0)), some (.int za), some (.int zb), some (.int zc), some (.int 0), some (.int 0)]) hG dX11_says_50 (by decide) (pm_c1b rfl) rfl ?_
          refine pm_aloadn hG dX11_says_52 rfl ?_
          refine pm_getf hG dX11_says_53 (flX11_12 _ rfl) rfl rfl ?_
          refine pm_getf hG dX11_says_56 (flX11_209 _ rfl) rfl rfl ?_
          refine pm_iloadn hG dX11_says_59 rfl ?_
          refine pm_callV (As := [.int za]) (rest := []) hG hR dX11_says_60 (lkX11_101 _ rfl) okV_X9_has rfl rfl (tb_has (d := 3) rfl) rfl rfl hdd (Nat.le_refl _) (Nat.le_refl _) (by decide) (pm_ki (fun v26 σ' cnt' hq => ?_))
          have b26 := pm_b01 hq.1
          obtain ⟨I26, A26, rfl, rfl, h26⟩ := hv_id (kp := kp) (I := I24) (A := A24) h24 hq.2
          refine pm_if_eq (tgt := 76) hG dX11_says_63 rfl (fun c27 => ?_) (fun c27 => ?_)
          · refine pm_aloadn hG dX11_says_76 rfl ?_
            refine pm_ldc hG dX11_says_77 (ctX11_109 _ rfl) ?_
            refine pm_callV (As := [.int (-1000001)]) (rest := []) hG hR dX11_says_79 (lkX11_97 _ rfl) okV_X11_told rfl rfl (sx_told (d := 3) (by decide) rfl rfl) rfl rfl hdd (Nat.le_refl _) (Nat.le_refl _) (by decide) (pm_ki (fun v28 σ' cnt' hq => ?_))
            obtain ⟨-, ⟨g28, hg28⟩, hc28⟩ := hq
            obtain ⟨I28, A28, rfl, rfl, h28⟩ := hv_a53 (kp := kp) (I := I26) (A := A26) h26 ⟨hg28, hc28⟩
            exact pm_iret hG hF dX11_says_82 rfl (Nat.le_refl _) (Nat.le_refl _) ⟨_, rfl, _, _, rfl, rfl, h28⟩
          · refine pm_iloadi hG dX11_says_66 rfl ?_
            refine pm_if_eq (tgt := 76) hG dX11_says_68 rfl (fun _ => ?_) (fun q => absurd q (by decide))
            refine pm_aloadn hG dX11_says_76 rfl ?_
            refine pm_ldc hG dX11_says_77 (ctX11_109 _ rfl) ?_
            refine pm_callV (As := [.int (-1000001)]) (rest := []) hG hR dX11_says_79 (lkX11_97 _ rfl) okV_X11_told rfl rfl (sx_told (d := 3) (by decide) rfl rfl) rfl rfl hdd (Nat.le_refl _) (Nat.le_refl _) (by decide) (pm_ki (fun v29 σ' cnt' hq => ?_))
            obtain ⟨-, ⟨g29, hg29⟩, hc29⟩ := hq
            obtain ⟨I29, A29, rfl, rfl, h29⟩ := hv_a53 (kp := kp) (I := I26) (A := A26) h26 ⟨hg29, hc29⟩
            exact pm_iret hG hF dX11_says_82 rfl (Nat.le_refl _) (Nat.le_refl _) ⟨_, rfl, _, _, rfl, rfl, h29⟩
        · refine pm_iconst (v := 1) hG dX11_says_45 (by decide) ?_
          refine pm_goto (tgt := 50) hG dX11_says_46 rfl ?_
          refine pm_istoreXi (loc' := [some (.ref (B + 0)), some (.int za), some (.int zb), some (.int zc), some (.int 0), some (.int 1)]) hG dX11_says_50 (by decide) (pm_c1b rfl) rfl ?_
          refine pm_aloadn hG dX11_says_52 rfl ?_
          refine pm_getf hG dX11_says_53 (flX11_12 _ rfl) rfl rfl ?_
          refine pm_getf hG dX11_says_56 (flX11_209 _ rfl) rfl rfl ?_
          refine pm_iloadn hG dX11_says_59 rfl ?_
          refine pm_callV (As := [.int za]) (rest := []) hG hR dX11_says_60 (lkX11_101 _ rfl) okV_X9_has rfl rfl (tb_has (d := 3) rfl) rfl rfl hdd (Nat.le_refl _) (Nat.le_refl _) (by decide) (pm_ki (fun v30 σ' cnt' hq => ?_))
          have b30 := pm_b01 hq.1
          obtain ⟨I30, A30, rfl, rfl, h30⟩ := hv_id (kp := kp) (I := I24) (A := A24) h24 hq.2
          refine pm_if_eq (tgt := 76) hG dX11_says_63 rfl (fun c31 => ?_) (fun c31 => ?_)
          · refine pm_aloadn hG dX11_says_76 rfl ?_
            refine pm_ldc hG dX11_says_77 (ctX11_109 _ rfl) ?_
            refine pm_callV (As := [.int (-1000001)]) (rest := []) hG hR dX11_says_79 (lkX11_97 _ rfl) okV_X11_told rfl rfl (sx_told (d := 3) (by decide) rfl rfl) rfl rfl hdd (Nat.le_refl _) (Nat.le_refl _) (by decide) (pm_ki (fun v32 σ' cnt' hq => ?_))
            obtain ⟨-, ⟨g32, hg32⟩, hc32⟩ := hq
            obtain ⟨I32, A32, rfl, rfl, h32⟩ := hv_a53 (kp := kp) (I := I30) (A := A30) h30 ⟨hg32, hc32⟩
            exact pm_iret hG hF dX11_says_82 rfl (Nat.le_refl _) (Nat.le_refl _) ⟨_, rfl, _, _, rfl, rfl, h32⟩
          · refine pm_iloadi hG dX11_says_66 rfl ?_
            refine pm_if_eq (tgt := 76) hG dX11_says_68 rfl (fun _ => ?_) (fun q => absurd q (by decide))
            refine pm_aloadn hG dX11_says_76 rfl ?_
            refine pm_ldc hG dX11_says_77 (ctX11_109 _ rfl) ?_
            refine pm_callV (As := [.int (-1000001)]) (rest := []) hG hR dX11_says_79 (lkX11_97 _ rfl) okV_X11_told rfl rfl (sx_told (d := 3) (by decide) rfl rfl) rfl rfl hdd (Nat.le_refl _) (Nat.le_refl _) (by decide) (pm_ki (fun v33 σ' cnt' hq => ?_))
            obtain ⟨-, ⟨g33, hg33⟩, hc33⟩ := hq
            obtain ⟨I33, A33, rfl, rfl, h33⟩ := hv_a53 (kp := kp) (I := I30) (A := A30) h30 ⟨hg33, hc33⟩
            exact pm_iret hG hF dX11_says_82 rfl (Nat.le_refl _) (Nat.le_refl _) ⟨_, rfl, _, _, rfl, rfl, h33⟩
    · refine pm_iconst (v := 1) hG dX11_says_19 (by decide) ?_
      refine pm_goto (tgt := 24) hG dX11_says_20 rfl ?_
      refine pm_istoreXi (loc' := [some (.ref (B + 0)), some (.int za), some (.int zb), some (.int zc), some (.int 1), none]) hG dX11_says_24 (by decide) (pm_c1b rfl) rfl ?_
      refine pm_iloadn hG dX11_says_26 rfl ?_
      refine pm_iconst (v := (-1)) hG dX11_says_27 (by decide) ?_
      refine pm_icmp_eq (tgt := 45) hG dX11_says_28 rfl (fun c34 => ?_) (fun c34 => ?_)
      · refine pm_iconst (v := 1) hG dX11_says_45 (by decide) ?_
        refine pm_goto (tgt := 50) hG dX11_says_46 rfl ?_
        refine pm_istoreXi (loc' := [some (.ref (B + 0)), some (.int za), some (.int zb), some (.int zc), some (.int 1), some (.int 1)]) hG dX11_says_50 (by decide) (pm_c1b rfl) rfl ?_
        refine pm_aloadn hG dX11_says_52 rfl ?_
        refine pm_getf hG dX11_says_53 (flX11_12 _ rfl) rfl rfl ?_
        refine pm_getf hG dX11_says_56 (flX11_209 _ rfl) rfl rfl ?_
        refine pm_iloadn hG dX11_says_59 rfl ?_
        refine pm_callV (As := [.int za]) (rest := []) hG hR dX11_says_60 (lkX11_101 _ rfl) okV_X9_has rfl rfl (tb_has (d := 3) rfl) rfl rfl hdd (Nat.le_refl _) (Nat.le_refl _) (by decide) (pm_ki (fun v35 σ' cnt' hq => ?_))
        have b35 := pm_b01 hq.1
        obtain ⟨I35, A35, rfl, rfl, h35⟩ := hv_id (kp := kp) (I := I17) (A := A17) h17 hq.2
        refine pm_if_eq (tgt := 76) hG dX11_says_63 rfl (fun c36 => ?_) (fun c36 => ?_)
        · refine pm_aloadn hG dX11_says_76 rfl ?_
          refine pm_ldc hG dX11_says_77 (ctX11_109 _ rfl) ?_
          refine pm_callV (As := [.int (-1000001)]) (rest := []) hG hR dX11_says_79 (lkX11_97 _ rfl) okV_X11_told rfl rfl (sx_told (d := 3) (by decide) rfl rfl) rfl rfl hdd (Nat.le_refl _) (Nat.le_refl _) (by decide) (pm_ki (fun v37 σ' cnt' hq => ?_))
          obtain ⟨-, ⟨g37, hg37⟩, hc37⟩ := hq
          obtain ⟨I37, A37, rfl, rfl, h37⟩ := hv_a53 (kp := kp) (I := I35) (A := A35) h35 ⟨hg37, hc37⟩
          exact pm_iret hG hF dX11_says_82 rfl (Nat.le_refl _) (Nat.le_refl _) ⟨_, rfl, _, _, rfl, rfl, h37⟩
        · refine pm_iloadi hG dX11_says_66 rfl ?_
          refine pm_if_eq (tgt := 76) hG dX11_says_68 rfl (fun q => absurd q (by decide)) (fun _ => ?_)
          refine pm_iloadi hG dX11_says_71 rfl ?_
          refine pm_if_ne (tgt := 83) hG dX11_says_73 rfl (fun _ => ?_) (fun q => absurd q (by decide))
          refine pm_aloadn hG dX11_says_83 rfl ?_
          refine pm_getf hG dX11_says_84 (flX11_21 _ rfl) rfl rfl ?_
          refine pm_iloadn hG dX11_says_87 rfl ?_
          refine pm_iloadn hG dX11_says_88 rfl ?_
          refine pm_iloadn hG dX11_says_89 rfl ?_
          refine pm_aloadn hG dX11_says_90 rfl ?_
          refine pm_getf hG dX11_says_91 (flX11_12 _ rfl) rfl rfl ?_
          refine pm_getf hG dX11_says_94 (flX11_122 _ rfl) rfl rfl ?_
          refine pm_callV (As := [.int za, .int zb, .int zc, .int (I35 102)]) (rest := []) hG hR dX11_says_97 (lkX11_226 _ rfl) okV_X2_comesTo rfl rfl (g_X2_comesTo (d := 3) (by decide) h35) rfl rfl hdd (Nat.le_refl _) (Nat.le_refl _) (by decide) (pm_ki (fun v38 σ' cnt' hq => ?_))
          obtain ⟨I38, A38, rfl, rfl, h38⟩ := hq
          exact pm_iret hG hF dX11_says_100 rfl (Nat.le_refl _) (Nat.le_refl _) ⟨_, rfl, _, _, rfl, rfl, h38⟩
      · refine pm_aloadn hG dX11_says_31 rfl ?_
        refine pm_getf hG dX11_says_32 (flX11_12 _ rfl) rfl rfl ?_
        refine pm_getf hG dX11_says_35 (flX11_224 _ rfl) rfl rfl ?_
        refine pm_iloadn hG dX11_says_38 rfl ?_
        refine pm_callV (As := [.int zc]) (rest := []) hG hR dX11_says_39 (lkX11_101 _ rfl) okV_X9_has rfl rfl (tb_has (d := 3) rfl) rfl rfl hdd (Nat.le_refl _) (Nat.le_refl _) (by decide) (pm_ki (fun v39 σ' cnt' hq => ?_))
        have b39 := pm_b01 hq.1
        obtain ⟨I39, A39, rfl, rfl, h39⟩ := hv_id (kp := kp) (I := I17) (A := A17) h17 hq.2
        refine pm_if_eq (tgt := 49) hG dX11_says_42 rfl (fun c40 => ?_) (fun c40 => ?_)
        · refine pm_iconst (v := 0) hG dX11_says_49 (by decide) ?_
          refine pm_istoreXi (loc' := [some (.ref (B + 0)), some (.int za), some (.int zb), some (.int zc), some (.int 1), some (.int 0)]) hG dX11_says_50 (by decide) (pm_c1b rfl) rfl ?_
          refine pm_aloadn hG dX11_says_52 rfl ?_
          refine pm_getf hG dX11_says_53 (flX11_12 _ rfl) rfl rfl ?_
          refine pm_getf hG dX11_says_56 (flX11_209 _ rfl) rfl rfl ?_
          refine pm_iloadn hG dX11_says_59 rfl ?_
          refine pm_callV (As := [.int za]) (rest := []) hG hR dX11_says_60 (lkX11_101 _ rfl) okV_X9_has rfl rfl (tb_has (d := 3) rfl) rfl rfl hdd (Nat.le_refl _) (Nat.le_refl _) (by decide) (pm_ki (fun v41 σ' cnt' hq => ?_))
          have b41 := pm_b01 hq.1
          obtain ⟨I41, A41, rfl, rfl, h41⟩ := hv_id (kp := kp) (I := I39) (A := A39) h39 hq.2
          refine pm_if_eq (tgt := 76) hG dX11_says_63 rfl (fun c42 => ?_) (fun c42 => ?_)
          · refine pm_aloadn hG dX11_says_76 rfl ?_
            refine pm_ldc hG dX11_says_77 (ctX11_109 _ rfl) ?_
            refine pm_callV (As := [.int (-1000001)]) (rest := []) hG hR dX11_says_79 (lkX11_97 _ rfl) okV_X11_told rfl rfl (sx_told (d := 3) (by decide) rfl rfl) rfl rfl hdd (Nat.le_refl _) (Nat.le_refl _) (by decide) (pm_ki (fun v43 σ' cnt' hq => ?_))
            obtain ⟨-, ⟨g43, hg43⟩, hc43⟩ := hq
            obtain ⟨I43, A43, rfl, rfl, h43⟩ := hv_a53 (kp := kp) (I := I41) (A := A41) h41 ⟨hg43, hc43⟩
            exact pm_iret hG hF dX11_says_82 rfl (Nat.le_refl _) (Nat.le_refl _) ⟨_, rfl, _, _, rfl, rfl, h43⟩
          · refine pm_iloadi hG dX11_says_66 rfl ?_
            refine pm_if_eq (tgt := 76) hG dX11_says_68 rfl (fun q => absurd q (by decide)) (fun _ => ?_)
            refine pm_iloadi hG dX11_says_71 rfl ?_
            refine pm_if_ne (tgt := 83) hG dX11_says_73 rfl (fun q => absurd q (by decide)) (fun _ => ?_)
            refine pm_aloadn hG dX11_says_76 rfl ?_
            refine pm_ldc hG dX11_says_77 (ctX11_109 _ rfl) ?_
            refine pm_callV (As := [.int (-1000001)]) (rest := []) hG hR dX11_says_79 (lkX11_97 _ rfl) okV_X11_told rfl rfl (sx_told (d := 3) (by decide) rfl rfl) rfl rfl hdd (Nat.le_refl _) (Nat.le_refl _) (by decide) (pm_ki (fun v44 σ' cnt' hq => ?_))
            obtain ⟨-, ⟨g44, hg44⟩, hc44⟩ := hq
            obtain ⟨I44, A44, rfl, rfl, h44⟩ := hv_a53 (kp := kp) (I := I41) (A := A41) h41 ⟨hg44, hc44⟩
            exact pm_iret hG hF dX11_says_82 rfl (Nat.le_refl _) (Nat.le_refl _) ⟨_, rfl, _, _, rfl, rfl, h44⟩
        · refine pm_iconst (v := 1) hG dX11_says_45 (by decide) ?_
          refine pm_goto (tgt := 50) hG dX11_says_46 rfl ?_
          refine pm_istoreXi (loc' := [some (.ref (B + 0)), some (.int za), some (.int zb), some (.int zc), some (.int 1), some (.int 1)]) hG dX11_says_50 (by decide) (pm_c1b rfl) rfl ?_
          refine pm_aloadn hG dX11_says_52 rfl ?_
          refine pm_getf hG dX11_says_53 (flX11_12 _ rfl) rfl rfl ?_
          refine pm_getf hG dX11_says_56 (flX11_209 _ rfl) rfl rfl ?_
          refine pm_iloadn hG dX11_says_59 rfl ?_
          refine pm_callV (As := [.int za]) (rest := []) hG hR dX11_says_60 (lkX11_101 _ rfl) okV_X9_has rfl rfl (tb_has (d := 3) rfl) rfl rfl hdd (Nat.le_refl _) (Nat.le_refl _) (by decide) (pm_ki (fun v45 σ' cnt' hq => ?_))
          have b45 := pm_b01 hq.1
          obtain ⟨I45, A45, rfl, rfl, h45⟩ := hv_id (kp := kp) (I := I39) (A := A39) h39 hq.2
          refine pm_if_eq (tgt := 76) hG dX11_says_63 rfl (fun c46 => ?_) (fun c46 => ?_)
          · refine pm_aloadn hG dX11_says_76 rfl ?_
            refine pm_ldc hG dX11_says_77 (ctX11_109 _ rfl) ?_
            refine pm_callV (As := [.int (-1000001)]) (rest := []) hG hR dX11_says_79 (lkX11_97 _ rfl) okV_X11_told rfl rfl (sx_told (d := 3) (by decide) rfl rfl) rfl rfl hdd (Nat.le_refl _) (Nat.le_refl _) (by decide) (pm_ki (fun v47 σ' cnt' hq => ?_))
            obtain ⟨-, ⟨g47, hg47⟩, hc47⟩ := hq
            obtain ⟨I47, A47, rfl, rfl, h47⟩ := hv_a53 (kp := kp) (I := I45) (A := A45) h45 ⟨hg47, hc47⟩
            exact pm_iret hG hF dX11_says_82 rfl (Nat.le_refl _) (Nat.le_refl _) ⟨_, rfl, _, _, rfl, rfl, h47⟩
          · refine pm_iloadi hG dX11_says_66 rfl ?_
            refine pm_if_eq (tgt := 76) hG dX11_says_68 rfl (fun q => absurd q (by decide)) (fun _ => ?_)
            refine pm_iloadi hG dX11_says_71 rfl ?_
            refine pm_if_ne (tgt := 83) hG dX11_says_73 rfl (fun _ => ?_) (fun q => absurd q (by decide))
            refine pm_aloadn hG dX11_says_83 rfl ?_
            refine pm_getf hG dX11_says_84 (flX11_21 _ rfl) rfl rfl ?_
            refine pm_iloadn hG dX11_says_87 rfl ?_
            refine pm_iloadn hG dX11_says_88 rfl ?_
            refine pm_iloadn hG dX11_says_89 rfl ?_
            refine pm_aloadn hG dX11_says_90 rfl ?_
            refine pm_getf hG dX11_says_91 (flX11_12 _ rfl) rfl rfl ?_
            refine pm_getf hG dX11_says_94 (flX11_122 _ rfl) rfl rfl ?_
            refine pm_callV (As := [.int za, .int zb, .int zc, .int (I45 102)]) (rest := []) hG hR dX11_says_97 (lkX11_226 _ rfl) okV_X2_comesTo rfl rfl (g_X2_comesTo (d := 3) (by decide) h45) rfl rfl hdd (Nat.le_refl _) (Nat.le_refl _) (by decide) (pm_ki (fun v48 σ' cnt' hq => ?_))
            obtain ⟨I48, A48, rfl, rfl, h48⟩ := hq
            exact pm_iret hG hF dX11_says_100 rfl (Nat.le_refl _) (Nat.le_refl _) ⟨_, rfl, _, _, rfl, rfl, h48⟩

set_option maxRecDepth 100000 in
set_option maxHeartbeats 4000000 in
theorem g_X3_dispatch {ε : Nat → Int32} {d B cnt : Nat} {kp : pm_KP} {ρ : pm_S} {I : Nat → Int32} {A : Nat → Nat → Int32} {za zb : Int32} (hdd : 3 ≤ d) (h : gq ε I) : pm_met mX3_dispatch d 0 0 B [.ref (B + 36), .int za, .int zb] cnt (pm_two (cl_L B kp I A) ρ) (pm_Qi (fun _ σ' cnt' => hvq ε B kp ρ cnt σ' cnt')) := by
  refine pm_enter 2 (by decide) (Nat.le_of_ble_eq_true rfl) rfl (fun G hG hR hF => ?_)
  refine pm_aloadn hG dX3_dispatch_0 rfl ?_
  refine pm_iloadn hG dX3_dispatch_1 rfl ?_
  refine pm_callV (As := [.int za]) (rest := []) hG hR dX3_dispatch_2 (lkX3_55 _ rfl) okV_X3_isSent rfl rfl (g_X3_isSent (d := 2) (by decide) h) rfl rfl hdd (Nat.le_refl _) (Nat.le_refl _) (by decide) (pm_ki (fun v1 σ' cnt' hq => ?_))
  obtain ⟨b1, I1, A1, rfl, rfl, h1⟩ := hq
  refine pm_if_ne (tgt := 19) hG dX3_dispatch_5 rfl (fun c2 => ?_) (fun c2 => ?_)
  · refine pm_ldc hG dX3_dispatch_19 (ctX3_62 _ rfl) ?_
    exact pm_iret hG hF dX3_dispatch_21 rfl (Nat.le_refl _) (Nat.le_refl _) ⟨_, rfl, _, _, rfl, rfl, h1⟩
  · refine pm_aloadn hG dX3_dispatch_8 rfl ?_
    refine pm_getf hG dX3_dispatch_9 (flX3_9 _ rfl) rfl rfl ?_
    refine pm_iloadn hG dX3_dispatch_12 rfl ?_
    refine pm_callV (As := [.int zb]) (rest := []) hG hR dX3_dispatch_13 (lkX3_59 _ rfl) okV_X7_isInTown rfl rfl (g_X7_isInTown (d := 2) (by decide) h1) rfl rfl hdd (Nat.le_refl _) (Nat.le_refl _) (by decide) (pm_ki (fun v3 σ' cnt' hq => ?_))
    obtain ⟨b3, I3, A3, rfl, rfl, h3⟩ := hq
    refine pm_if_ne (tgt := 22) hG dX3_dispatch_16 rfl (fun c4 => ?_) (fun c4 => ?_)
    · refine pm_aloadn hG dX3_dispatch_22 rfl ?_
      refine pm_getf hG dX3_dispatch_23 (flX3_9 _ rfl) rfl rfl ?_
      refine pm_getf hG dX3_dispatch_26 (flX3_32 _ rfl) rfl rfl ?_
      refine pm_iloadn hG dX3_dispatch_29 rfl ?_
      refine pm_iconst (v := 4) hG dX3_dispatch_30 (by decide) ?_
      refine pm_callV (As := [.int zb, .int 4]) (rest := []) hG hR dX3_dispatch_31 (lkX3_35 _ rfl) okV_X9_get rfl rfl (tb_get (d := 2) rfl rfl (pm_tw_of 20 14 (by decide) (by decide) (by decide))) rfl rfl hdd (Nat.le_refl _) (Nat.le_refl _) (by decide) (pm_ki (fun v5 σ' cnt' hq => ?_))
      obtain ⟨I5, A5, rfl, rfl, h5⟩ := hv_id (kp := kp) (I := I3) (A := A3) h3 hq.2
      refine pm_istoreXn (loc' := [some (.ref (B + 36)), some (.int za), some (.int zb), some (.int v5), none]) hG dX3_dispatch_34 (by decide) (pm_c1b rfl) rfl ?_
      refine pm_aloadn hG dX3_dispatch_35 rfl ?_
      refine pm_getf hG dX3_dispatch_36 (flX3_9 _ rfl) rfl rfl ?_
      refine pm_aloadn hG dX3_dispatch_39 rfl ?_
      refine pm_getf hG dX3_dispatch_40 (flX3_29 _ rfl) rfl rfl ?_
      refine pm_iloadn hG dX3_dispatch_43 rfl ?_
      refine pm_iconst (v := 3) hG dX3_dispatch_44 (by decide) ?_
      refine pm_callV (As := [.int za, .int 3]) (rest := [.ref (B + 1)]) hG hR dX3_dispatch_45 (lkX3_35 _ rfl) okV_X9_get rfl rfl (tb_get (d := 2) rfl rfl (pm_tw_of 40 12 (by decide) (by decide) (by decide))) rfl rfl hdd (Nat.le_refl _) (Nat.le_refl _) (by first | decide | exact Nat.le_of_ble_eq_true rfl) (pm_ki (fun v6 σ' cnt' hq => ?_))
      obtain ⟨I6, A6, rfl, rfl, h6⟩ := hv_id (kp := kp) (I := I5) (A := A5) h5 hq.2
      refine pm_iloadn hG dX3_dispatch_48 rfl ?_
      refine pm_callV (As := [.int v6, .int v5]) (rest := []) hG hR dX3_dispatch_49 (lkX3_78 _ rfl) okV_X7_wayBetween rfl rfl (g_X7_wayBetween (d := 2) (by decide) h6) rfl rfl hdd (Nat.le_refl _) (Nat.le_refl _) (by decide) (pm_ki (fun v7 σ' cnt' hq => ?_))
      obtain ⟨I7, A7, rfl, rfl, h7⟩ := hq
      refine pm_istoreXi (loc' := [some (.ref (B + 36)), some (.int za), some (.int zb), some (.int v5), some (.int v7)]) hG dX3_dispatch_52 (by decide) (pm_c1b rfl) rfl ?_
      refine pm_iloadi hG dX3_dispatch_54 rfl ?_
      refine pm_if_ge (tgt := 62) hG dX3_dispatch_56 rfl (fun c8 => ?_) (fun c8 => ?_)
      · refine pm_aloadn hG dX3_dispatch_62 rfl ?_
        refine pm_getf hG dX3_dispatch_63 (flX3_29 _ rfl) rfl rfl ?_
        refine pm_iloadn hG dX3_dispatch_66 rfl ?_
        refine pm_bipush (v := 6) hG dX3_dispatch_67 (by decide) ?_
        refine pm_iloadn hG dX3_dispatch_69 rfl ?_
        refine pm_callV (As := [.int za, .int 6, .int zb]) (rest := []) hG hR dX3_dispatch_70 (lkX3_45 _ rfl) okV_X9_set rfl rfl (tb_set (d := 2) rfl rfl (pm_tw_of 40 12 (by decide) (by decide) (by decide)) (by decide)) rfl rfl hdd (Nat.le_refl _) (Nat.le_refl _) (by decide) (pm_kv (fun σ' cnt' hq => ?_))
        obtain ⟨I9, A9, rfl, rfl, h9⟩ := hv_a15 (kp := kp) (I := I7) (A := A7) h7 hq
        refine pm_aloadn hG dX3_dispatch_73 rfl ?_
        refine pm_getf hG dX3_dispatch_74 (flX3_29 _ rfl) rfl rfl ?_
        refine pm_iloadn hG dX3_dispatch_77 rfl ?_
        refine pm_bipush (v := 7) hG dX3_dispatch_78 (by decide) ?_
        refine pm_iloadn hG dX3_dispatch_80 rfl ?_
        refine pm_callV (As := [.int za, .int 7, .int v5]) (rest := []) hG hR dX3_dispatch_81 (lkX3_45 _ rfl) okV_X9_set rfl rfl (tb_set (d := 2) rfl rfl (pm_tw_of 40 12 (by decide) (by decide) (by decide)) (by decide)) rfl rfl hdd (Nat.le_refl _) (Nat.le_refl _) (by decide) (pm_kv (fun σ' cnt' hq => ?_))
        obtain ⟨I10, A10, rfl, rfl, h10⟩ := hv_a15 (kp := kp) (I := I9) (A := A9) h9 hq
        refine pm_aloadn hG dX3_dispatch_84 rfl ?_
        refine pm_getf hG dX3_dispatch_85 (flX3_29 _ rfl) rfl rfl ?_
        refine pm_iloadn hG dX3_dispatch_88 rfl ?_
        refine pm_bipush (v := 8) hG dX3_dispatch_89 (by decide) ?_
        refine pm_aloadn hG dX3_dispatch_91 rfl ?_
        refine pm_getf hG dX3_dispatch_92 (flX3_9 _ rfl) rfl rfl ?_
        refine pm_getf hG dX3_dispatch_95 (flX3_82 _ rfl) rfl rfl ?_
        refine pm_iloadi hG dX3_dispatch_98 rfl ?_
        refine pm_iadd hG dX3_dispatch_100 ?_
        refine pm_callV (As := [.int za, .int 8, .int ((I10 102) + v7)]) (rest := []) hG hR dX3_dispatch_101 (lkX3_45 _ rfl) okV_X9_set rfl rfl (tb_set (d := 2) rfl rfl (pm_tw_of 40 12 (by decide) (by decide) (by decide)) (by decide)) rfl rfl hdd (Nat.le_refl _) (Nat.le_refl _) (by decide) (pm_kv (fun σ' cnt' hq => ?_))
        obtain ⟨I11, A11, rfl, rfl, h11⟩ := hv_a15 (kp := kp) (I := I10) (A := A10) h10 hq
        refine pm_aloadn hG dX3_dispatch_104 rfl ?_
        refine pm_getf hG dX3_dispatch_105 (flX3_9 _ rfl) rfl rfl ?_
        refine pm_getf hG dX3_dispatch_108 (flX3_82 _ rfl) rfl rfl ?_
        refine pm_iloadi hG dX3_dispatch_111 rfl ?_
        refine pm_iadd hG dX3_dispatch_113 ?_
        exact pm_iret hG hF dX3_dispatch_114 rfl (Nat.le_refl _) (Nat.le_refl _) ⟨_, rfl, _, _, rfl, rfl, h11⟩
      · refine pm_ldc hG dX3_dispatch_59 (ctX3_81 _ rfl) ?_
        exact pm_iret hG hF dX3_dispatch_61 rfl (Nat.le_refl _) (Nat.le_refl _) ⟨_, rfl, _, _, rfl, rfl, h7⟩
    · refine pm_ldc hG dX3_dispatch_19 (ctX3_62 _ rfl) ?_
      exact pm_iret hG hF dX3_dispatch_21 rfl (Nat.le_refl _) (Nat.le_refl _) ⟨_, rfl, _, _, rfl, rfl, h3⟩

set_option maxRecDepth 100000 in
set_option maxHeartbeats 4000000 in
theorem g_X11_send {ε : Nat → Int32} {d B cnt : Nat} {kp : pm_KP} {ρ : pm_S} {I : Nat → Int32} {A : Nat → Nat → Int32} {za zb : Int32} (hdd : 4 ≤ d) (h : gq ε I) : pm_met mX11_send d 0 0 B [.ref (B + 0), .int za, .int zb] cnt (pm_two (cl_L B kp I A) ρ) (pm_Qi (fun _ σ' cnt' => hvq ε B kp ρ cnt σ' cnt')) := by
  refine pm_enter 0 (by decide) (Nat.le_of_ble_eq_true rfl) rfl (fun G hG hR hF => ?_)
  refine pm_aloadn hG dX11_send_0 rfl ?_
  refine pm_getf hG dX11_send_1 (flX11_12 _ rfl) rfl rfl ?_
  refine pm_getf hG dX11_send_4 (flX11_224 _ rfl) rfl rfl ?_
  refine pm_iloadn hG dX11_send_7 rfl ?_
  refine pm_callV (As := [.int za]) (rest := []) hG hR dX11_send_8 (lkX11_101 _ rfl) okV_X9_has rfl rfl (tb_has (d := 3) rfl) rfl rfl hdd (Nat.le_refl _) (Nat.le_refl _) (by decide) (pm_ki (fun v1 σ' cnt' hq => ?_))
  have b1 := pm_b01 hq.1
  obtain ⟨I1, A1, rfl, rfl, h1⟩ := hv_id (kp := kp) (I := I) (A := A) h hq.2
  refine pm_if_eq (tgt := 28) hG dX11_send_11 rfl (fun c2 => ?_) (fun c2 => ?_)
  · refine pm_aloadn hG dX11_send_28 rfl ?_
    refine pm_ldc hG dX11_send_29 (ctX11_109 _ rfl) ?_
    refine pm_callV (As := [.int (-1000001)]) (rest := []) hG hR dX11_send_31 (lkX11_97 _ rfl) okV_X11_told rfl rfl (sx_told (d := 3) (by decide) rfl rfl) rfl rfl hdd (Nat.le_refl _) (Nat.le_refl _) (by decide) (pm_ki (fun v3 σ' cnt' hq => ?_))
    obtain ⟨-, ⟨g3, hg3⟩, hc3⟩ := hq
    obtain ⟨I3, A3, rfl, rfl, h3⟩ := hv_a53 (kp := kp) (I := I1) (A := A1) h1 ⟨hg3, hc3⟩
    exact pm_iret hG hF dX11_send_34 rfl (Nat.le_refl _) (Nat.le_refl _) ⟨_, rfl, _, _, rfl, rfl, h3⟩
  · refine pm_aloadn hG dX11_send_14 rfl ?_
    refine pm_getf hG dX11_send_15 (flX11_12 _ rfl) rfl rfl ?_
    refine pm_getf hG dX11_send_18 (flX11_128 _ rfl) rfl rfl ?_
    refine pm_iloadn hG dX11_send_21 rfl ?_
    refine pm_callV (As := [.int zb]) (rest := []) hG hR dX11_send_22 (lkX11_101 _ rfl) okV_X9_has rfl rfl (tb_has (d := 3) rfl) rfl rfl hdd (Nat.le_refl _) (Nat.le_refl _) (by decide) (pm_ki (fun v4 σ' cnt' hq => ?_))
    have b4 := pm_b01 hq.1
    obtain ⟨I4, A4, rfl, rfl, h4⟩ := hv_id (kp := kp) (I := I1) (A := A1) h1 hq.2
    refine pm_if_ne (tgt := 35) hG dX11_send_25 rfl (fun c5 => ?_) (fun c5 => ?_)
    · refine pm_aloadn hG dX11_send_35 rfl ?_
      refine pm_aloadn hG dX11_send_36 rfl ?_
      refine pm_getf hG dX11_send_37 (flX11_39 _ rfl) rfl rfl ?_
      refine pm_iloadn hG dX11_send_40 rfl ?_
      refine pm_iloadn hG dX11_send_41 rfl ?_
      refine pm_callV (As := [.int za, .int zb]) (rest := [.ref (B + 0)]) hG hR dX11_send_42 (lkX11_236 _ rfl) okV_X3_dispatch rfl rfl (g_X3_dispatch (d := 3) (by decide) h4) rfl rfl hdd (Nat.le_refl _) (Nat.le_refl _) (by first | decide | exact Nat.le_of_ble_eq_true rfl) (pm_ki (fun v6 σ' cnt' hq => ?_))
      obtain ⟨I6, A6, rfl, rfl, h6⟩ := hq
      refine pm_callV (As := [.int v6]) (rest := []) hG hR dX11_send_45 (lkX11_97 _ rfl) okV_X11_told rfl rfl (sx_told (d := 3) (by decide) rfl rfl) rfl rfl hdd (Nat.le_refl _) (Nat.le_refl _) (by decide) (pm_ki (fun v7 σ' cnt' hq => ?_))
      obtain ⟨-, ⟨g7, hg7⟩, hc7⟩ := hq
      obtain ⟨I7, A7, rfl, rfl, h7⟩ := hv_a53 (kp := kp) (I := I6) (A := A6) h6 ⟨hg7, hc7⟩
      exact pm_iret hG hF dX11_send_48 rfl (Nat.le_refl _) (Nat.le_refl _) ⟨_, rfl, _, _, rfl, rfl, h7⟩
    · refine pm_aloadn hG dX11_send_28 rfl ?_
      refine pm_ldc hG dX11_send_29 (ctX11_109 _ rfl) ?_
      refine pm_callV (As := [.int (-1000001)]) (rest := []) hG hR dX11_send_31 (lkX11_97 _ rfl) okV_X11_told rfl rfl (sx_told (d := 3) (by decide) rfl rfl) rfl rfl hdd (Nat.le_refl _) (Nat.le_refl _) (by decide) (pm_ki (fun v8 σ' cnt' hq => ?_))
      obtain ⟨-, ⟨g8, hg8⟩, hc8⟩ := hq
      obtain ⟨I8, A8, rfl, rfl, h8⟩ := hv_a53 (kp := kp) (I := I4) (A := A4) h4 ⟨hg8, hc8⟩
      exact pm_iret hG hF dX11_send_34 rfl (Nat.le_refl _) (Nat.le_refl _) ⟨_, rfl, _, _, rfl, rfl, h8⟩

set_option maxRecDepth 100000 in
set_option maxHeartbeats 4000000 in
theorem g_X8_layOut {ε : Nat → Int32} {d B cnt : Nat} {kp : pm_KP} {ρ : pm_S} {I : Nat → Int32} {A : Nat → Nat → Int32} {za zb zc : Int32} (hdd : 1 ≤ d) (h : gq ε I) : pm_met mX8_layOut d 0 0 B [.ref (B + 48), .int za, .int zb, .int zc] cnt (pm_two (cl_L B kp I A) ρ) (pm_Qv (fun σ' cnt' => hvq ε B kp ρ cnt σ' cnt')) := by
  refine pm_enter 1 (by decide) (Nat.le_of_ble_eq_true rfl) rfl (fun G hG hR hF => ?_)
  refine pm_iloadn hG dX8_layOut_0 rfl ?_
  refine pm_if_lt (tgt := 36) hG dX8_layOut_1 rfl (fun c1 => ?_) (fun c1 => ?_)
  · refine pm_iconst (v := 0) hG dX8_layOut_36 (by decide) ?_
    refine pm_istoreXi (loc' := [some (.ref (B + 48)), some (.int za), some (.int zb), some (.int zc), some (.int 0)]) hG dX8_layOut_37 (by decide) (pm_c1b rfl) rfl ?_
    have loop39 : ∀ (m39 : Nat) (I2 : Nat → Int32) (A2 : Nat → Nat → Int32) (x2_4 : Int32), gq ε I2 → (¬ x2_4 < 0) → ((24 : Int32).toInt - x2_4.toInt).toNat < m39 → pm_wp mX8_layOut G B 39 [some (.ref (B + 48)), some (.int za), some (.int zb), some (.int zc), some (.int x2_4)] [] 0 0 cnt (pm_two (cl_L B kp I2 A2) ρ) := by
      intro m39
      induction m39 with
      | zero => intro I2 A2 x2_4 _  _ hm; exact absurd hm (Nat.not_lt_zero _)
      | succ m39 ih39 =>
        intro I2 A2 x2_4 h2 s39 hm39
        refine pm_iloadi hG dX8_layOut_39 rfl ?_
        refine pm_bipush (v := 24) hG dX8_layOut_41 (by decide) ?_
        refine pm_icmp_ge (tgt := 63) hG dX8_layOut_43 rfl (fun c3 => ?_) (fun c3 => ?_)
        · exact pm_vret hG hF dX8_layOut_63 rfl (Nat.le_refl _) (Nat.le_refl _) ⟨rfl, _, _, rfl, rfl, h2⟩
        · refine pm_aloadn hG dX8_layOut_46 rfl ?_
          refine pm_getf hG dX8_layOut_47 (flX8_23 _ rfl) rfl rfl ?_
          refine pm_iloadn hG dX8_layOut_50 rfl ?_
          refine pm_iloadi hG dX8_layOut_51 rfl ?_
          refine pm_iconst (v := 0) hG dX8_layOut_53 (by decide) ?_
          refine pm_callV (As := [.int za, .int x2_4, .int 0]) (rest := []) hG hR dX8_layOut_54 (lkX8_31 _ rfl) okV_X9_set rfl rfl (tb_set (d := 0) rfl rfl (pm_tw_of 4 24 (by decide) (by decide) (by decide)) (by decide)) rfl rfl hdd (Nat.le_refl _) (Nat.le_refl _) (by decide) (pm_kv (fun σ' cnt' hq => ?_))
          obtain ⟨I4, A4, rfl, rfl, h4⟩ := hv_a52 (kp := kp) (I := I2) (A := A2) h2 hq
          refine pm_iincX (v := x2_4 + 1) (loc' := [some (.ref (B + 48)), some (.int za), some (.int zb), some (.int zc), some (.int (x2_4 + 1))]) hG dX8_layOut_57 rfl (by rfl) (by decide) (pm_c1b rfl) rfl ?_
          refine pm_goto (tgt := 39) hG dX8_layOut_60 rfl ?_
          exact ih39 _ _ (x2_4 + 1) h4 (pm_sd1 c3 s39) (Nat.lt_of_lt_of_le (pm_mu1 c3) (Nat.le_of_lt_succ hm39))
    exact loop39 _ _ _ 0 h (by decide) (Nat.lt_succ_self _)
  · refine pm_iloadn hG dX8_layOut_4 rfl ?_
    refine pm_aloadn hG dX8_layOut_5 rfl ?_
    refine pm_getf hG dX8_layOut_6 (flX8_9 _ rfl) rfl rfl ?_
    refine pm_alen (v := 4) hG dX8_layOut_9 rfl (by decide) ?_
    refine pm_icmp_ge (tgt := 36) hG dX8_layOut_10 rfl (fun c5 => ?_) (fun c5 => ?_)
    · refine pm_iconst (v := 0) hG dX8_layOut_36 (by decide) ?_
      refine pm_istoreXi (loc' := [some (.ref (B + 48)), some (.int za), some (.int zb), some (.int zc), some (.int 0)]) hG dX8_layOut_37 (by decide) (pm_c1b rfl) rfl ?_
      have loop39 : ∀ (m39 : Nat) (I6 : Nat → Int32) (A6 : Nat → Nat → Int32) (x6_4 : Int32), gq ε I6 → (¬ x6_4 < 0) → ((24 : Int32).toInt - x6_4.toInt).toNat < m39 → pm_wp mX8_layOut G B 39 [some (.ref (B + 48)), some (.int za), some (.int zb), some (.int zc), some (.int x6_4)] [] 0 0 cnt (pm_two (cl_L B kp I6 A6) ρ) := by
        intro m39
        induction m39 with
        | zero => intro I6 A6 x6_4 _  _ hm; exact absurd hm (Nat.not_lt_zero _)
        | succ m39 ih39 =>
          intro I6 A6 x6_4 h6 s39 hm39
          refine pm_iloadi hG dX8_layOut_39 rfl ?_
          refine pm_bipush (v := 24) hG dX8_layOut_41 (by decide) ?_
          refine pm_icmp_ge (tgt := 63) hG dX8_layOut_43 rfl (fun c7 => ?_) (fun c7 => ?_)
          · exact pm_vret hG hF dX8_layOut_63 rfl (Nat.le_refl _) (Nat.le_refl _) ⟨rfl, _, _, rfl, rfl, h6⟩
          · refine pm_aloadn hG dX8_layOut_46 rfl ?_
            refine pm_getf hG dX8_layOut_47 (flX8_23 _ rfl) rfl rfl ?_
            refine pm_iloadn hG dX8_layOut_50 rfl ?_
            refine pm_iloadi hG dX8_layOut_51 rfl ?_
            refine pm_iconst (v := 0) hG dX8_layOut_53 (by decide) ?_
            refine pm_callV (As := [.int za, .int x6_4, .int 0]) (rest := []) hG hR dX8_layOut_54 (lkX8_31 _ rfl) okV_X9_set rfl rfl (tb_set (d := 0) rfl rfl (pm_tw_of 4 24 (by decide) (by decide) (by decide)) (by decide)) rfl rfl hdd (Nat.le_refl _) (Nat.le_refl _) (by decide) (pm_kv (fun σ' cnt' hq => ?_))
            obtain ⟨I8, A8, rfl, rfl, h8⟩ := hv_a52 (kp := kp) (I := I6) (A := A6) h6 hq
            refine pm_iincX (v := x6_4 + 1) (loc' := [some (.ref (B + 48)), some (.int za), some (.int zb), some (.int zc), some (.int (x6_4 + 1))]) hG dX8_layOut_57 rfl (by rfl) (by decide) (pm_c1b rfl) rfl ?_
            refine pm_goto (tgt := 39) hG dX8_layOut_60 rfl ?_
            exact ih39 _ _ (x6_4 + 1) h8 (pm_sd1 c7 s39) (Nat.lt_of_lt_of_le (pm_mu1 c7) (Nat.le_of_lt_succ hm39))
      exact loop39 _ _ _ 0 h (by decide) (Nat.lt_succ_self _)
    · refine pm_iloadn hG dX8_layOut_13 rfl ?_
      refine pm_aloadn hG dX8_layOut_14 rfl ?_
      refine pm_getf hG dX8_layOut_15 (flX8_15 _ rfl) rfl rfl ?_
      refine pm_alen (v := 4) hG dX8_layOut_18 rfl (by decide) ?_
      refine pm_icmp_ge (tgt := 36) hG dX8_layOut_19 rfl (fun c9 => ?_) (fun c9 => ?_)
      · refine pm_iconst (v := 0) hG dX8_layOut_36 (by decide) ?_
        refine pm_istoreXi (loc' := [some (.ref (B + 48)), some (.int za), some (.int zb), some (.int zc), some (.int 0)]) hG dX8_layOut_37 (by decide) (pm_c1b rfl) rfl ?_
        have loop39 : ∀ (m39 : Nat) (I10 : Nat → Int32) (A10 : Nat → Nat → Int32) (x10_4 : Int32), gq ε I10 → (¬ x10_4 < 0) → ((24 : Int32).toInt - x10_4.toInt).toNat < m39 → pm_wp mX8_layOut G B 39 [some (.ref (B + 48)), some (.int za), some (.int zb), some (.int zc), some (.int x10_4)] [] 0 0 cnt (pm_two (cl_L B kp I10 A10) ρ) := by
          intro m39
          induction m39 with
          | zero => intro I10 A10 x10_4 _  _ hm; exact absurd hm (Nat.not_lt_zero _)
          | succ m39 ih39 =>
            intro I10 A10 x10_4 h10 s39 hm39
            refine pm_iloadi hG dX8_layOut_39 rfl ?_
            refine pm_bipush (v := 24) hG dX8_layOut_41 (by decide) ?_
            refine pm_icmp_ge (tgt := 63) hG dX8_layOut_43 rfl (fun c11 => ?_) (fun c11 => ?_)
            · exact pm_vret hG hF dX8_layOut_63 rfl (Nat.le_refl _) (Nat.le_refl _) ⟨rfl, _, _, rfl, rfl, h10⟩
            · refine pm_aloadn hG dX8_layOut_46 rfl ?_
              refine pm_getf hG dX8_layOut_47 (flX8_23 _ rfl) rfl rfl ?_
              refine pm_iloadn hG dX8_layOut_50 rfl ?_
              refine pm_iloadi hG dX8_layOut_51 rfl ?_
              refine pm_iconst (v := 0) hG dX8_layOut_53 (by decide) ?_
              refine pm_callV (As := [.int za, .int x10_4, .int 0]) (rest := []) hG hR dX8_layOut_54 (lkX8_31 _ rfl) okV_X9_set rfl rfl (tb_set (d := 0) rfl rfl (pm_tw_of 4 24 (by decide) (by decide) (by decide)) (by decide)) rfl rfl hdd (Nat.le_refl _) (Nat.le_refl _) (by decide) (pm_kv (fun σ' cnt' hq => ?_))
              obtain ⟨I12, A12, rfl, rfl, h12⟩ := hv_a52 (kp := kp) (I := I10) (A := A10) h10 hq
              refine pm_iincX (v := x10_4 + 1) (loc' := [some (.ref (B + 48)), some (.int za), some (.int zb), some (.int zc), some (.int (x10_4 + 1))]) hG dX8_layOut_57 rfl (by rfl) (by decide) (pm_c1b rfl) rfl ?_
              refine pm_goto (tgt := 39) hG dX8_layOut_60 rfl ?_
              exact ih39 _ _ (x10_4 + 1) h12 (pm_sd1 c11 s39) (Nat.lt_of_lt_of_le (pm_mu1 c11) (Nat.le_of_lt_succ hm39))
        exact loop39 _ _ _ 0 h (by decide) (Nat.lt_succ_self _)
      · refine pm_aloadn hG dX8_layOut_22 rfl ?_
        refine pm_getf hG dX8_layOut_23 (flX8_9 _ rfl) rfl rfl ?_
        refine pm_iloadn hG dX8_layOut_26 rfl ?_
        refine pm_iloadn hG dX8_layOut_27 rfl ?_
        refine pm_iast hG dX8_layOut_28 rfl (pm_ib2 rfl c1 c5) ?_
        refine nm_a49 (fun A13 => ?_)
        refine pm_aloadn hG dX8_layOut_29 rfl ?_
        refine pm_getf hG dX8_layOut_30 (flX8_15 _ rfl) rfl rfl ?_
        refine pm_iloadn hG dX8_layOut_33 rfl ?_
        refine pm_iloadn hG dX8_layOut_34 rfl ?_
        refine pm_iast hG dX8_layOut_35 rfl (pm_ib2 rfl c1 c5) ?_
        refine nm_a50 (fun A14 => ?_)
        refine pm_iconst (v := 0) hG dX8_layOut_36 (by decide) ?_
        refine pm_istoreXi (loc' := [some (.ref (B + 48)), some (.int za), some (.int zb), some (.int zc), some (.int 0)]) hG dX8_layOut_37 (by decide) (pm_c1b rfl) rfl ?_
        have loop39 : ∀ (m39 : Nat) (I15 : Nat → Int32) (A15 : Nat → Nat → Int32) (x15_4 : Int32), gq ε I15 → (¬ x15_4 < 0) → ((24 : Int32).toInt - x15_4.toInt).toNat < m39 → pm_wp mX8_layOut G B 39 [some (.ref (B + 48)), some (.int za), some (.int zb), some (.int zc), some (.int x15_4)] [] 0 0 cnt (pm_two (cl_L B kp I15 A15) ρ) := by
          intro m39
          induction m39 with
          | zero => intro I15 A15 x15_4 _  _ hm; exact absurd hm (Nat.not_lt_zero _)
          | succ m39 ih39 =>
            intro I15 A15 x15_4 h15 s39 hm39
            refine pm_iloadi hG dX8_layOut_39 rfl ?_
            refine pm_bipush (v := 24) hG dX8_layOut_41 (by decide) ?_
            refine pm_icmp_ge (tgt := 63) hG dX8_layOut_43 rfl (fun c16 => ?_) (fun c16 => ?_)
            · exact pm_vret hG hF dX8_layOut_63 rfl (Nat.le_refl _) (Nat.le_refl _) ⟨rfl, _, _, rfl, rfl, h15⟩
            · refine pm_aloadn hG dX8_layOut_46 rfl ?_
              refine pm_getf hG dX8_layOut_47 (flX8_23 _ rfl) rfl rfl ?_
              refine pm_iloadn hG dX8_layOut_50 rfl ?_
              refine pm_iloadi hG dX8_layOut_51 rfl ?_
              refine pm_iconst (v := 0) hG dX8_layOut_53 (by decide) ?_
              refine pm_callV (As := [.int za, .int x15_4, .int 0]) (rest := []) hG hR dX8_layOut_54 (lkX8_31 _ rfl) okV_X9_set rfl rfl (tb_set (d := 0) rfl rfl (pm_tw_of 4 24 (by decide) (by decide) (by decide)) (by decide)) rfl rfl hdd (Nat.le_refl _) (Nat.le_refl _) (by decide) (pm_kv (fun σ' cnt' hq => ?_))
              obtain ⟨I17, A17, rfl, rfl, h17⟩ := hv_a52 (kp := kp) (I := I15) (A := A15) h15 hq
              refine pm_iincX (v := x15_4 + 1) (loc' := [some (.ref (B + 48)), some (.int za), some (.int zb), some (.int zc), some (.int (x15_4 + 1))]) hG dX8_layOut_57 rfl (by rfl) (by decide) (pm_c1b rfl) rfl ?_
              refine pm_goto (tgt := 39) hG dX8_layOut_60 rfl ?_
              exact ih39 _ _ (x15_4 + 1) h17 (pm_sd1 c16 s39) (Nat.lt_of_lt_of_le (pm_mu1 c16) (Nat.le_of_lt_succ hm39))
        exact loop39 _ _ _ 0 h (by decide) (Nat.lt_succ_self _)

set_option maxRecDepth 100000 in
set_option maxHeartbeats 4000000 in
theorem g_X11_sheet {ε : Nat → Int32} {d B cnt : Nat} {kp : pm_KP} {ρ : pm_S} {I : Nat → Int32} {A : Nat → Nat → Int32} {za zb zc : Int32} (hdd : 2 ≤ d) (h : gq ε I) : pm_met mX11_sheet d 0 0 B [.ref (B + 0), .int za, .int zb, .int zc] cnt (pm_two (cl_L B kp I A) ρ) (pm_Qi (fun _ σ' cnt' => hvq ε B kp ρ cnt σ' cnt')) := by
  refine pm_enter 0 (by decide) (Nat.le_of_ble_eq_true rfl) rfl (fun G hG hR hF => ?_)
  refine pm_aloadn hG dX11_sheet_0 rfl ?_
  refine pm_getf hG dX11_sheet_1 (flX11_74 _ rfl) rfl rfl ?_
  refine pm_iloadn hG dX11_sheet_4 rfl ?_
  refine pm_callV (As := [.int za]) (rest := []) hG hR dX11_sheet_5 (lkX11_251 _ rfl) okV_X8_has rfl rfl (g_X8_has (d := 1) (by decide) h) rfl rfl hdd (Nat.le_refl _) (Nat.le_refl _) (by decide) (pm_ki (fun v1 σ' cnt' hq => ?_))
  obtain ⟨b1, I1, A1, rfl, rfl, h1⟩ := hq
  refine pm_if_eq (tgt := 26) hG dX11_sheet_8 rfl (fun c2 => ?_) (fun c2 => ?_)
  · refine pm_aloadn hG dX11_sheet_26 rfl ?_
    refine pm_ldc hG dX11_sheet_27 (ctX11_109 _ rfl) ?_
    refine pm_callV (As := [.int (-1000001)]) (rest := []) hG hR dX11_sheet_29 (lkX11_97 _ rfl) okV_X11_told rfl rfl (sx_told (d := 1) (by decide) rfl rfl) rfl rfl hdd (Nat.le_refl _) (Nat.le_refl _) (by decide) (pm_ki (fun v3 σ' cnt' hq => ?_))
    obtain ⟨-, ⟨g3, hg3⟩, hc3⟩ := hq
    obtain ⟨I3, A3, rfl, rfl, h3⟩ := hv_a53 (kp := kp) (I := I1) (A := A1) h1 ⟨hg3, hc3⟩
    exact pm_iret hG hF dX11_sheet_32 rfl (Nat.le_refl _) (Nat.le_refl _) ⟨_, rfl, _, _, rfl, rfl, h3⟩
  · refine pm_iloadn hG dX11_sheet_11 rfl ?_
    refine pm_if_eq (tgt := 33) hG dX11_sheet_12 rfl (fun c4 => ?_) (fun c4 => ?_)
    · refine pm_iloadn hG dX11_sheet_33 rfl ?_
      refine pm_if_eq (tgt := 48) hG dX11_sheet_34 rfl (fun c5 => ?_) (fun c5 => ?_)
      · refine pm_iloadn hG dX11_sheet_48 rfl ?_
        refine pm_if_eq (tgt := 65) hG dX11_sheet_49 rfl (fun c6 => ?_) (fun c6 => ?_)
        · refine pm_aloadn hG dX11_sheet_65 rfl ?_
          refine pm_getf hG dX11_sheet_66 (flX11_74 _ rfl) rfl rfl ?_
          refine pm_iloadn hG dX11_sheet_69 rfl ?_
          refine pm_iloadn hG dX11_sheet_70 rfl ?_
          refine pm_iloadn hG dX11_sheet_71 rfl ?_
          refine pm_if_ne (tgt := 79) hG dX11_sheet_72 rfl (fun c7 => ?_) (fun c7 => ?_)
          · refine pm_iloadn hG dX11_sheet_79 rfl ?_
            refine pm_callV (As := [.int za, .int zb, .int zc]) (rest := []) hG hR dX11_sheet_80 (lkX11_364 _ rfl) okV_X8_layOut rfl rfl (g_X8_layOut (d := 1) (by decide) h1) rfl rfl hdd (Nat.le_refl _) (Nat.le_refl _) (by decide) (pm_kv (fun σ' cnt' hq => ?_))
            obtain ⟨I8, A8, rfl, rfl, h8⟩ := hq
            refine pm_iconst (v := 1) hG dX11_sheet_83 (by decide) ?_
            exact pm_iret hG hF dX11_sheet_84 rfl (Nat.le_refl _) (Nat.le_refl _) ⟨_, rfl, _, _, rfl, rfl, h8⟩
          · refine pm_iconst (v := 0) hG dX11_sheet_75 (by decide) ?_
            refine pm_goto (tgt := 80) hG dX11_sheet_76 rfl ?_
            refine pm_callV (As := [.int za, .int zb, .int 0]) (rest := []) hG hR dX11_sheet_80 (lkX11_364 _ rfl) okV_X8_layOut rfl rfl (g_X8_layOut (d := 1) (by decide) h1) rfl rfl hdd (Nat.le_refl _) (Nat.le_refl _) (by decide) (pm_kv (fun σ' cnt' hq => ?_))
            obtain ⟨I9, A9, rfl, rfl, h9⟩ := hq
            refine pm_iconst (v := 1) hG dX11_sheet_83 (by decide) ?_
            exact pm_iret hG hF dX11_sheet_84 rfl (Nat.le_refl _) (Nat.le_refl _) ⟨_, rfl, _, _, rfl, rfl, h9⟩
        · refine pm_iloadn hG dX11_sheet_52 rfl ?_
          refine pm_bipush (v := 24) hG dX11_sheet_53 (by decide) ?_
          refine pm_icmp_le (tgt := 65) hG dX11_sheet_55 rfl (fun c10 => ?_) (fun c10 => ?_)
          · refine pm_aloadn hG dX11_sheet_65 rfl ?_
            refine pm_getf hG dX11_sheet_66 (flX11_74 _ rfl) rfl rfl ?_
            refine pm_iloadn hG dX11_sheet_69 rfl ?_
            refine pm_iloadn hG dX11_sheet_70 rfl ?_
            refine pm_iloadn hG dX11_sheet_71 rfl ?_
            refine pm_if_ne (tgt := 79) hG dX11_sheet_72 rfl (fun c11 => ?_) (fun c11 => ?_)
            · refine pm_iloadn hG dX11_sheet_79 rfl ?_
              refine pm_callV (As := [.int za, .int zb, .int zc]) (rest := []) hG hR dX11_sheet_80 (lkX11_364 _ rfl) okV_X8_layOut rfl rfl (g_X8_layOut (d := 1) (by decide) h1) rfl rfl hdd (Nat.le_refl _) (Nat.le_refl _) (by decide) (pm_kv (fun σ' cnt' hq => ?_))
              obtain ⟨I12, A12, rfl, rfl, h12⟩ := hq
              refine pm_iconst (v := 1) hG dX11_sheet_83 (by decide) ?_
              exact pm_iret hG hF dX11_sheet_84 rfl (Nat.le_refl _) (Nat.le_refl _) ⟨_, rfl, _, _, rfl, rfl, h12⟩
            · refine pm_iconst (v := 0) hG dX11_sheet_75 (by decide) ?_
              refine pm_goto (tgt := 80) hG dX11_sheet_76 rfl ?_
              refine pm_callV (As := [.int za, .int zb, .int 0]) (rest := []) hG hR dX11_sheet_80 (lkX11_364 _ rfl) okV_X8_layOut rfl rfl (g_X8_layOut (d := 1) (by decide) h1) rfl rfl hdd (Nat.le_refl _) (Nat.le_refl _) (by decide) (pm_kv (fun σ' cnt' hq => ?_))
              obtain ⟨I13, A13, rfl, rfl, h13⟩ := hq
              refine pm_iconst (v := 1) hG dX11_sheet_83 (by decide) ?_
              exact pm_iret hG hF dX11_sheet_84 rfl (Nat.le_refl _) (Nat.le_refl _) ⟨_, rfl, _, _, rfl, rfl, h13⟩
          · refine pm_aloadn hG dX11_sheet_58 rfl ?_
            refine pm_ldc hG dX11_sheet_59 (ctX11_109 _ rfl) ?_
            refine pm_callV (As := [.int (-1000001)]) (rest := []) hG hR dX11_sheet_61 (lkX11_97 _ rfl) okV_X11_told rfl rfl (sx_told (d := 1) (by decide) rfl rfl) rfl rfl hdd (Nat.le_refl _) (Nat.le_refl _) (by decide) (pm_ki (fun v14 σ' cnt' hq => ?_))
            obtain ⟨-, ⟨g14, hg14⟩, hc14⟩ := hq
            obtain ⟨I14, A14, rfl, rfl, h14⟩ := hv_a53 (kp := kp) (I := I1) (A := A1) h1 ⟨hg14, hc14⟩
            exact pm_iret hG hF dX11_sheet_64 rfl (Nat.le_refl _) (Nat.le_refl _) ⟨_, rfl, _, _, rfl, rfl, h14⟩
      · refine pm_iloadn hG dX11_sheet_37 rfl ?_
        refine pm_if_ge (tgt := 48) hG dX11_sheet_38 rfl (fun c15 => ?_) (fun c15 => ?_)
        · refine pm_iloadn hG dX11_sheet_48 rfl ?_
          refine pm_if_eq (tgt := 65) hG dX11_sheet_49 rfl (fun c16 => ?_) (fun c16 => ?_)
          · refine pm_aloadn hG dX11_sheet_65 rfl ?_
            refine pm_getf hG dX11_sheet_66 (flX11_74 _ rfl) rfl rfl ?_
            refine pm_iloadn hG dX11_sheet_69 rfl ?_
            refine pm_iloadn hG dX11_sheet_70 rfl ?_
            refine pm_iloadn hG dX11_sheet_71 rfl ?_
            refine pm_if_ne (tgt := 79) hG dX11_sheet_72 rfl (fun c17 => ?_) (fun c17 => ?_)
            · refine pm_iloadn hG dX11_sheet_79 rfl ?_
              refine pm_callV (As := [.int za, .int zb, .int zc]) (rest := []) hG hR dX11_sheet_80 (lkX11_364 _ rfl) okV_X8_layOut rfl rfl (g_X8_layOut (d := 1) (by decide) h1) rfl rfl hdd (Nat.le_refl _) (Nat.le_refl _) (by decide) (pm_kv (fun σ' cnt' hq => ?_))
              obtain ⟨I18, A18, rfl, rfl, h18⟩ := hq
              refine pm_iconst (v := 1) hG dX11_sheet_83 (by decide) ?_
              exact pm_iret hG hF dX11_sheet_84 rfl (Nat.le_refl _) (Nat.le_refl _) ⟨_, rfl, _, _, rfl, rfl, h18⟩
            · refine pm_iconst (v := 0) hG dX11_sheet_75 (by decide) ?_
              refine pm_goto (tgt := 80) hG dX11_sheet_76 rfl ?_
              refine pm_callV (As := [.int za, .int zb, .int 0]) (rest := []) hG hR dX11_sheet_80 (lkX11_364 _ rfl) okV_X8_layOut rfl rfl (g_X8_layOut (d := 1) (by decide) h1) rfl rfl hdd (Nat.le_refl _) (Nat.le_refl _) (by decide) (pm_kv (fun σ' cnt' hq => ?_))
              obtain ⟨I19, A19, rfl, rfl, h19⟩ := hq
              refine pm_iconst (v := 1) hG dX11_sheet_83 (by decide) ?_
              exact pm_iret hG hF dX11_sheet_84 rfl (Nat.le_refl _) (Nat.le_refl _) ⟨_, rfl, _, _, rfl, rfl, h19⟩
          · refine pm_iloadn hG dX11_sheet_52 rfl ?_
            refine pm_bipush (v := 24) hG dX11_sheet_53 (by decide) ?_
            refine pm_icmp_le (tgt := 65) hG dX11_sheet_55 rfl (fun c20 => ?_) (fun c20 => ?_)
            · refine pm_aloadn hG dX11_sheet_65 rfl ?_
              refine pm_getf hG dX11_sheet_66 (flX11_74 _ rfl) rfl rfl ?_
              refine pm_iloadn hG dX11_sheet_69 rfl ?_
              refine pm_iloadn hG dX11_sheet_70 rfl ?_
              refine pm_iloadn hG dX11_sheet_71 rfl ?_
              refine pm_if_ne (tgt := 79) hG dX11_sheet_72 rfl (fun c21 => ?_) (fun c21 => ?_)
              · refine pm_iloadn hG dX11_sheet_79 rfl ?_
                refine pm_callV (As := [.int za, .int zb, .int zc]) (rest := []) hG hR dX11_sheet_80 (lkX11_364 _ rfl) okV_X8_layOut rfl rfl (g_X8_layOut (d := 1) (by decide) h1) rfl rfl hdd (Nat.le_refl _) (Nat.le_refl _) (by decide) (pm_kv (fun σ' cnt' hq => ?_))
                obtain ⟨I22, A22, rfl, rfl, h22⟩ := hq
                refine pm_iconst (v := 1) hG dX11_sheet_83 (by decide) ?_
                exact pm_iret hG hF dX11_sheet_84 rfl (Nat.le_refl _) (Nat.le_refl _) ⟨_, rfl, _, _, rfl, rfl, h22⟩
              · refine pm_iconst (v := 0) hG dX11_sheet_75 (by decide) ?_
                refine pm_goto (tgt := 80) hG dX11_sheet_76 rfl ?_
                refine pm_callV (As := [.int za, .int zb, .int 0]) (rest := []) hG hR dX11_sheet_80 (lkX11_364 _ rfl) okV_X8_layOut rfl rfl (g_X8_layOut (d := 1) (by decide) h1) rfl rfl hdd (Nat.le_refl _) (Nat.le_refl _) (by decide) (pm_kv (fun σ' cnt' hq => ?_))
                obtain ⟨I23, A23, rfl, rfl, h23⟩ := hq
                refine pm_iconst (v := 1) hG dX11_sheet_83 (by decide) ?_
                exact pm_iret hG hF dX11_sheet_84 rfl (Nat.le_refl _) (Nat.le_refl _) ⟨_, rfl, _, _, rfl, rfl, h23⟩
            · refine pm_aloadn hG dX11_sheet_58 rfl ?_
              refine pm_ldc hG dX11_sheet_59 (ctX11_109 _ rfl) ?_
              refine pm_callV (As := [.int (-1000001)]) (rest := []) hG hR dX11_sheet_61 (lkX11_97 _ rfl) okV_X11_told rfl rfl (sx_told (d := 1) (by decide) rfl rfl) rfl rfl hdd (Nat.le_refl _) (Nat.le_refl _) (by decide) (pm_ki (fun v24 σ' cnt' hq => ?_))
              obtain ⟨-, ⟨g24, hg24⟩, hc24⟩ := hq
              obtain ⟨I24, A24, rfl, rfl, h24⟩ := hv_a53 (kp := kp) (I := I1) (A := A1) h1 ⟨hg24, hc24⟩
              exact pm_iret hG hF dX11_sheet_64 rfl (Nat.le_refl _) (Nat.le_refl _) ⟨_, rfl, _, _, rfl, rfl, h24⟩
        · refine pm_aloadn hG dX11_sheet_41 rfl ?_
          refine pm_ldc hG dX11_sheet_42 (ctX11_138 _ rfl) ?_
          refine pm_callV (As := [.int (-1000003)]) (rest := []) hG hR dX11_sheet_44 (lkX11_97 _ rfl) okV_X11_told rfl rfl (sx_told (d := 1) (by decide) rfl rfl) rfl rfl hdd (Nat.le_refl _) (Nat.le_refl _) (by decide) (pm_ki (fun v25 σ' cnt' hq => ?_))
          obtain ⟨-, ⟨g25, hg25⟩, hc25⟩ := hq
          obtain ⟨I25, A25, rfl, rfl, h25⟩ := hv_a53 (kp := kp) (I := I1) (A := A1) h1 ⟨hg25, hc25⟩
          exact pm_iret hG hF dX11_sheet_47 rfl (Nat.le_refl _) (Nat.le_refl _) ⟨_, rfl, _, _, rfl, rfl, h25⟩
    · refine pm_aloadn hG dX11_sheet_15 rfl ?_
      refine pm_getf hG dX11_sheet_16 (flX11_74 _ rfl) rfl rfl ?_
      refine pm_iloadn hG dX11_sheet_19 rfl ?_
      refine pm_callV (As := [.int zb]) (rest := []) hG hR dX11_sheet_20 (lkX11_252 _ rfl) okV_X8_isWidth rfl rfl (g_X8_isWidth (d := 1) (by decide) h1) rfl rfl hdd (Nat.le_refl _) (Nat.le_refl _) (by decide) (pm_ki (fun v26 σ' cnt' hq => ?_))
      obtain ⟨b26, I26, A26, rfl, rfl, h26⟩ := hq
      refine pm_if_ne (tgt := 33) hG dX11_sheet_23 rfl (fun c27 => ?_) (fun c27 => ?_)
      · refine pm_iloadn hG dX11_sheet_33 rfl ?_
        refine pm_if_eq (tgt := 48) hG dX11_sheet_34 rfl (fun c28 => ?_) (fun c28 => ?_)
        · refine pm_iloadn hG dX11_sheet_48 rfl ?_
          refine pm_if_eq (tgt := 65) hG dX11_sheet_49 rfl (fun c29 => ?_) (fun c29 => ?_)
          · refine pm_aloadn hG dX11_sheet_65 rfl ?_
            refine pm_getf hG dX11_sheet_66 (flX11_74 _ rfl) rfl rfl ?_
            refine pm_iloadn hG dX11_sheet_69 rfl ?_
            refine pm_iloadn hG dX11_sheet_70 rfl ?_
            refine pm_iloadn hG dX11_sheet_71 rfl ?_
            refine pm_if_ne (tgt := 79) hG dX11_sheet_72 rfl (fun c30 => ?_) (fun c30 => ?_)
            · refine pm_iloadn hG dX11_sheet_79 rfl ?_
              refine pm_callV (As := [.int za, .int zb, .int zc]) (rest := []) hG hR dX11_sheet_80 (lkX11_364 _ rfl) okV_X8_layOut rfl rfl (g_X8_layOut (d := 1) (by decide) h26) rfl rfl hdd (Nat.le_refl _) (Nat.le_refl _) (by decide) (pm_kv (fun σ' cnt' hq => ?_))
              obtain ⟨I31, A31, rfl, rfl, h31⟩ := hq
              refine pm_iconst (v := 1) hG dX11_sheet_83 (by decide) ?_
              exact pm_iret hG hF dX11_sheet_84 rfl (Nat.le_refl _) (Nat.le_refl _) ⟨_, rfl, _, _, rfl, rfl, h31⟩
            · refine pm_iconst (v := 0) hG dX11_sheet_75 (by decide) ?_
              refine pm_goto (tgt := 80) hG dX11_sheet_76 rfl ?_
              refine pm_callV (As := [.int za, .int zb, .int 0]) (rest := []) hG hR dX11_sheet_80 (lkX11_364 _ rfl) okV_X8_layOut rfl rfl (g_X8_layOut (d := 1) (by decide) h26) rfl rfl hdd (Nat.le_refl _) (Nat.le_refl _) (by decide) (pm_kv (fun σ' cnt' hq => ?_))
              obtain ⟨I32, A32, rfl, rfl, h32⟩ := hq
              refine pm_iconst (v := 1) hG dX11_sheet_83 (by decide) ?_
              exact pm_iret hG hF dX11_sheet_84 rfl (Nat.le_refl _) (Nat.le_refl _) ⟨_, rfl, _, _, rfl, rfl, h32⟩
          · refine pm_iloadn hG dX11_sheet_52 rfl ?_
            refine pm_bipush (v := 24) hG dX11_sheet_53 (by decide) ?_
            refine pm_icmp_le (tgt := 65) hG dX11_sheet_55 rfl (fun c33 => ?_) (fun c33 => ?_)
            · refine pm_aloadn hG dX11_sheet_65 rfl ?_
              refine pm_getf hG dX11_sheet_66 (flX11_74 _ rfl) rfl rfl ?_
              refine pm_iloadn hG dX11_sheet_69 rfl ?_
              refine pm_iloadn hG dX11_sheet_70 rfl ?_
              refine pm_iloadn hG dX11_sheet_71 rfl ?_
              refine pm_if_ne (tgt := 79) hG dX11_sheet_72 rfl (fun c34 => ?_) (fun c34 => ?_)
              · refine pm_iloadn hG dX11_sheet_79 rfl ?_
                refine pm_callV (As := [.int za, .int zb, .int zc]) (rest := []) hG hR dX11_sheet_80 (lkX11_364 _ rfl) okV_X8_layOut rfl rfl (g_X8_layOut (d := 1) (by decide) h26) rfl rfl hdd (Nat.le_refl _) (Nat.le_refl _) (by decide) (pm_kv (fun σ' cnt' hq => ?_))
                obtain ⟨I35, A35, rfl, rfl, h35⟩ := hq
                refine pm_iconst (v := 1) hG dX11_sheet_83 (by decide) ?_
                exact pm_iret hG hF dX11_sheet_84 rfl (Nat.le_refl _) (Nat.le_refl _) ⟨_, rfl, _, _, rfl, rfl, h35⟩
              · refine pm_iconst (v := 0) hG dX11_sheet_75 (by decide) ?_
                refine pm_goto (tgt := 80) hG dX11_sheet_76 rfl ?_
                refine pm_callV (As := [.int za, .int zb, .int 0]) (rest := []) hG hR dX11_sheet_80 (lkX11_364 _ rfl) okV_X8_layOut rfl rfl (g_X8_layOut (d := 1) (by decide) h26) rfl rfl hdd (Nat.le_refl _) (Nat.le_refl _) (by decide) (pm_kv (fun σ' cnt' hq => ?_))
                obtain ⟨I36, A36, rfl, rfl, h36⟩ := hq
                refine pm_iconst (v := 1) hG dX11_sheet_83 (by decide) ?_
                exact pm_iret hG hF dX11_sheet_84 rfl (Nat.le_refl _) (Nat.le_refl _) ⟨_, rfl, _, _, rfl, rfl, h36⟩
            · refine pm_aloadn hG dX11_sheet_58 rfl ?_
              refine pm_ldc hG dX11_sheet_59 (ctX11_109 _ rfl) ?_
              refine pm_callV (As := [.int (-1000001)]) (rest := []) hG hR dX11_sheet_61 (lkX11_97 _ rfl) okV_X11_told rfl rfl (sx_told (d := 1) (by decide) rfl rfl) rfl rfl hdd (Nat.le_refl _) (Nat.le_refl _) (by decide) (pm_ki (fun v37 σ' cnt' hq => ?_))
              obtain ⟨-, ⟨g37, hg37⟩, hc37⟩ := hq
              obtain ⟨I37, A37, rfl, rfl, h37⟩ := hv_a53 (kp := kp) (I := I26) (A := A26) h26 ⟨hg37, hc37⟩
              exact pm_iret hG hF dX11_sheet_64 rfl (Nat.le_refl _) (Nat.le_refl _) ⟨_, rfl, _, _, rfl, rfl, h37⟩
        · refine pm_iloadn hG dX11_sheet_37 rfl ?_
          refine pm_if_ge (tgt := 48) hG dX11_sheet_38 rfl (fun c38 => ?_) (fun c38 => ?_)
          · refine pm_iloadn hG dX11_sheet_48 rfl ?_
            refine pm_if_eq (tgt := 65) hG dX11_sheet_49 rfl (fun c39 => ?_) (fun c39 => ?_)
            · refine pm_aloadn hG dX11_sheet_65 rfl ?_
              refine pm_getf hG dX11_sheet_66 (flX11_74 _ rfl) rfl rfl ?_
              refine pm_iloadn hG dX11_sheet_69 rfl ?_
              refine pm_iloadn hG dX11_sheet_70 rfl ?_
              refine pm_iloadn hG dX11_sheet_71 rfl ?_
              refine pm_if_ne (tgt := 79) hG dX11_sheet_72 rfl (fun c40 => ?_) (fun c40 => ?_)
              · refine pm_iloadn hG dX11_sheet_79 rfl ?_
                refine pm_callV (As := [.int za, .int zb, .int zc]) (rest := []) hG hR dX11_sheet_80 (lkX11_364 _ rfl) okV_X8_layOut rfl rfl (g_X8_layOut (d := 1) (by decide) h26) rfl rfl hdd (Nat.le_refl _) (Nat.le_refl _) (by decide) (pm_kv (fun σ' cnt' hq => ?_))
                obtain ⟨I41, A41, rfl, rfl, h41⟩ := hq
                refine pm_iconst (v := 1) hG dX11_sheet_83 (by decide) ?_
                exact pm_iret hG hF dX11_sheet_84 rfl (Nat.le_refl _) (Nat.le_refl _) ⟨_, rfl, _, _, rfl, rfl, h41⟩
              · refine pm_iconst (v := 0) hG dX11_sheet_75 (by decide) ?_
                refine pm_goto (tgt := 80) hG dX11_sheet_76 rfl ?_
                refine pm_callV (As := [.int za, .int zb, .int 0]) (rest := []) hG hR dX11_sheet_80 (lkX11_364 _ rfl) okV_X8_layOut rfl rfl (g_X8_layOut (d := 1) (by decide) h26) rfl rfl hdd (Nat.le_refl _) (Nat.le_refl _) (by decide) (pm_kv (fun σ' cnt' hq => ?_))
                obtain ⟨I42, A42, rfl, rfl, h42⟩ := hq
                refine pm_iconst (v := 1) hG dX11_sheet_83 (by decide) ?_
                exact pm_iret hG hF dX11_sheet_84 rfl (Nat.le_refl _) (Nat.le_refl _) ⟨_, rfl, _, _, rfl, rfl, h42⟩
            · refine pm_iloadn hG dX11_sheet_52 rfl ?_
              refine pm_bipush (v := 24) hG dX11_sheet_53 (by decide) ?_
              refine pm_icmp_le (tgt := 65) hG dX11_sheet_55 rfl (fun c43 => ?_) (fun c43 => ?_)
              · refine pm_aloadn hG dX11_sheet_65 rfl ?_
                refine pm_getf hG dX11_sheet_66 (flX11_74 _ rfl) rfl rfl ?_
                refine pm_iloadn hG dX11_sheet_69 rfl ?_
                refine pm_iloadn hG dX11_sheet_70 rfl ?_
                refine pm_iloadn hG dX11_sheet_71 rfl ?_
                refine pm_if_ne (tgt := 79) hG dX11_sheet_72 rfl (fun c44 => ?_) (fun c44 => ?_)
                · refine pm_iloadn hG dX11_sheet_79 rfl ?_
                  refine pm_callV (As := [.int za, .int zb, .int zc]) (rest := []) hG hR dX11_sheet_80 (lkX11_364 _ rfl) okV_X8_layOut rfl rfl (g_X8_layOut (d := 1) (by decide) h26) rfl rfl hdd (Nat.le_refl _) (Nat.le_refl _) (by decide) (pm_kv (fun σ' cnt' hq => ?_))
                  obtain ⟨I45, A45, rfl, rfl, h45⟩ := hq
                  refine pm_iconst (v := 1) hG dX11_sheet_83 (by decide) ?_
                  exact pm_iret hG hF dX11_sheet_84 rfl (Nat.le_refl _) (Nat.le_refl _) ⟨_, rfl, _, _, rfl, rfl, h45⟩
                · refine pm_iconst (v := 0) hG dX11_sheet_75 (by decide) ?_
                  refine pm_goto (tgt := 80) hG dX11_sheet_76 rfl ?_
                  refine pm_callV (As := [.int za, .int zb, .int 0]) (rest := []) hG hR dX11_sheet_80 (lkX11_364 _ rfl) okV_X8_layOut rfl rfl (g_X8_layOut (d := 1) (by decide) h26) rfl rfl hdd (Nat.le_refl _) (Nat.le_refl _) (by decide) (pm_kv (fun σ' cnt' hq => ?_))
                  obtain ⟨I46, A46, rfl, rfl, h46⟩ := hq
                  refine pm_iconst (v := 1) hG dX11_sheet_83 (by decide) ?_
                  exact pm_iret hG hF dX11_sheet_84 rfl (Nat.le_refl _) (Nat.le_refl _) ⟨_, rfl, _, _, rfl, rfl, h46⟩
              · refine pm_aloadn hG dX11_sheet_58 rfl ?_
                refine pm_ldc hG dX11_sheet_59 (ctX11_109 _ rfl) ?_
                refine pm_callV (As := [.int (-1000001)]) (rest := []) hG hR dX11_sheet_61 (lkX11_97 _ rfl) okV_X11_told rfl rfl (sx_told (d := 1) (by decide) rfl rfl) rfl rfl hdd (Nat.le_refl _) (Nat.le_refl _) (by decide) (pm_ki (fun v47 σ' cnt' hq => ?_))
                obtain ⟨-, ⟨g47, hg47⟩, hc47⟩ := hq
                obtain ⟨I47, A47, rfl, rfl, h47⟩ := hv_a53 (kp := kp) (I := I26) (A := A26) h26 ⟨hg47, hc47⟩
                exact pm_iret hG hF dX11_sheet_64 rfl (Nat.le_refl _) (Nat.le_refl _) ⟨_, rfl, _, _, rfl, rfl, h47⟩
          · refine pm_aloadn hG dX11_sheet_41 rfl ?_
            refine pm_ldc hG dX11_sheet_42 (ctX11_138 _ rfl) ?_
            refine pm_callV (As := [.int (-1000003)]) (rest := []) hG hR dX11_sheet_44 (lkX11_97 _ rfl) okV_X11_told rfl rfl (sx_told (d := 1) (by decide) rfl rfl) rfl rfl hdd (Nat.le_refl _) (Nat.le_refl _) (by decide) (pm_ki (fun v48 σ' cnt' hq => ?_))
            obtain ⟨-, ⟨g48, hg48⟩, hc48⟩ := hq
            obtain ⟨I48, A48, rfl, rfl, h48⟩ := hv_a53 (kp := kp) (I := I26) (A := A26) h26 ⟨hg48, hc48⟩
            exact pm_iret hG hF dX11_sheet_47 rfl (Nat.le_refl _) (Nat.le_refl _) ⟨_, rfl, _, _, rfl, rfl, h48⟩
      · refine pm_aloadn hG dX11_sheet_26 rfl ?_
        refine pm_ldc hG dX11_sheet_27 (ctX11_109 _ rfl) ?_
        refine pm_callV (As := [.int (-1000001)]) (rest := []) hG hR dX11_sheet_29 (lkX11_97 _ rfl) okV_X11_told rfl rfl (sx_told (d := 1) (by decide) rfl rfl) rfl rfl hdd (Nat.le_refl _) (Nat.le_refl _) (by decide) (pm_ki (fun v49 σ' cnt' hq => ?_))
        obtain ⟨-, ⟨g49, hg49⟩, hc49⟩ := hq
        obtain ⟨I49, A49, rfl, rfl, h49⟩ := hv_a53 (kp := kp) (I := I26) (A := A26) h26 ⟨hg49, hc49⟩
        exact pm_iret hG hF dX11_sheet_32 rfl (Nat.le_refl _) (Nat.le_refl _) ⟨_, rfl, _, _, rfl, rfl, h49⟩
