set_option maxRecDepth 100000 in
set_option maxHeartbeats 4000000 in
theorem g_X3_carryOut {ε : Nat → Int32} {d B cnt : Nat} {kp : Value} {ρ : pm_S} {I : Nat → Int32} {A : Nat → Nat → Int32} {za : Int32} (hdd : 5 ≤ d) (h : gq ε I) : pm_met mX3_carryOut d 0 0 B [.ref (B + 36), .int za] cnt (pm_two (cl_L B kp I A) ρ) (pm_Qi (fun _ σ' cnt' => hvq ε B kp ρ cnt σ' cnt')) := by
  refine pm_enter 2 (by decide) (Nat.le_of_ble_eq_true rfl) rfl (fun G hG hR hF => ?_)
  refine pm_aloadn hG dX3_carryOut_0 rfl ?_
  refine pm_getf hG dX3_carryOut_1 (flX3_29 _ rfl) rfl rfl ?_
  refine pm_iloadn hG dX3_carryOut_4 rfl ?_
  refine pm_bipush (v := 6) hG dX3_carryOut_5 (by decide) ?_
  refine pm_callV (As := [.int za, .int 6]) (rest := []) hG hR dX3_carryOut_7 (lkX3_35 _ rfl) okV_X9_get rfl rfl (tb_get (d := 4) rfl rfl (pm_tw_of 40 12 (by decide) (by decide) (by decide))) rfl rfl hdd (Nat.le_refl _) (Nat.le_refl _) (by decide) (pm_ki (fun v1 σ' cnt' hq => ?_))
  obtain ⟨I1, A1, rfl, rfl, h1⟩ := hv_id (kp := kp) (I := I) (A := A) h hq.2
  refine pm_istoreXn (loc' := [some (.ref (B + 36)), some (.int za), some (.int v1), none]) hG dX3_carryOut_10 (by decide) (pm_c1b rfl) rfl ?_
  refine pm_aloadn hG dX3_carryOut_11 rfl ?_
  refine pm_getf hG dX3_carryOut_12 (flX3_29 _ rfl) rfl rfl ?_
  refine pm_iloadn hG dX3_carryOut_15 rfl ?_
  refine pm_bipush (v := 9) hG dX3_carryOut_16 (by decide) ?_
  refine pm_callV (As := [.int za, .int 9]) (rest := []) hG hR dX3_carryOut_18 (lkX3_35 _ rfl) okV_X9_get rfl rfl (tb_get (d := 4) rfl rfl (pm_tw_of 40 12 (by decide) (by decide) (by decide))) rfl rfl hdd (Nat.le_refl _) (Nat.le_refl _) (by decide) (pm_ki (fun v2 σ' cnt' hq => ?_))
  obtain ⟨I2, A2, rfl, rfl, h2⟩ := hv_id (kp := kp) (I := I1) (A := A1) h1 hq.2
  refine pm_if_lt (tgt := 48) hG dX3_carryOut_21 rfl (fun c3 => ?_) (fun c3 => ?_)
  · refine pm_ldc hG dX3_carryOut_48 (ctX3_62 _ rfl) ?_
    exact pm_iret hG hF dX3_carryOut_50 rfl (Nat.le_refl _) (Nat.le_refl _) ⟨_, rfl, _, _, rfl, rfl, h2⟩
  · refine pm_aloadn hG dX3_carryOut_24 rfl ?_
    refine pm_getf hG dX3_carryOut_25 (flX3_29 _ rfl) rfl rfl ?_
    refine pm_iloadn hG dX3_carryOut_28 rfl ?_
    refine pm_bipush (v := 11) hG dX3_carryOut_29 (by decide) ?_
    refine pm_callV (As := [.int za, .int 11]) (rest := []) hG hR dX3_carryOut_31 (lkX3_35 _ rfl) okV_X9_get rfl rfl (tb_get (d := 4) rfl rfl (pm_tw_of 40 12 (by decide) (by decide) (by decide))) rfl rfl hdd (Nat.le_refl _) (Nat.le_refl _) (by decide) (pm_ki (fun v4 σ' cnt' hq => ?_))
    obtain ⟨I4, A4, rfl, rfl, h4⟩ := hv_id (kp := kp) (I := I2) (A := A2) h2 hq.2
    refine pm_if_ne (tgt := 48) hG dX3_carryOut_34 rfl (fun c5 => ?_) (fun c5 => ?_)
    · refine pm_ldc hG dX3_carryOut_48 (ctX3_62 _ rfl) ?_
      exact pm_iret hG hF dX3_carryOut_50 rfl (Nat.le_refl _) (Nat.le_refl _) ⟨_, rfl, _, _, rfl, rfl, h4⟩
    · refine pm_aloadn hG dX3_carryOut_37 rfl ?_
      refine pm_getf hG dX3_carryOut_38 (flX3_9 _ rfl) rfl rfl ?_
      refine pm_iloadn hG dX3_carryOut_41 rfl ?_
      refine pm_callV (As := [.int v1]) (rest := []) hG hR dX3_carryOut_42 (lkX3_95 _ rfl) okV_X7_isLiving rfl rfl (g_X7_isLiving (d := 4) (by decide) h4) rfl rfl hdd (Nat.le_refl _) (Nat.le_refl _) (by decide) (pm_ki (fun v6 σ' cnt' hq => ?_))
      obtain ⟨b6, I6, A6, rfl, rfl, h6⟩ := hq
      refine pm_if_ne (tgt := 51) hG dX3_carryOut_45 rfl (fun c7 => ?_) (fun c7 => ?_)
      · refine pm_aloadn hG dX3_carryOut_51 rfl ?_
        refine pm_getf hG dX3_carryOut_52 (flX3_29 _ rfl) rfl rfl ?_
        refine pm_iloadn hG dX3_carryOut_55 rfl ?_
        refine pm_bipush (v := 10) hG dX3_carryOut_56 (by decide) ?_
        refine pm_callV (As := [.int za, .int 10]) (rest := []) hG hR dX3_carryOut_58 (lkX3_35 _ rfl) okV_X9_get rfl rfl (tb_get (d := 4) rfl rfl (pm_tw_of 40 12 (by decide) (by decide) (by decide))) rfl rfl hdd (Nat.le_refl _) (Nat.le_refl _) (by decide) (pm_ki (fun v8 σ' cnt' hq => ?_))
        obtain ⟨I8, A8, rfl, rfl, h8⟩ := hv_id (kp := kp) (I := I6) (A := A6) h6 hq.2
        refine pm_iconst (v := 1) hG dX3_carryOut_61 (by decide) ?_
        refine pm_icmp_eq (tgt := 68) hG dX3_carryOut_62 rfl (fun c9 => ?_) (fun c9 => ?_)
        · refine pm_aloadn hG dX3_carryOut_68 rfl ?_
          refine pm_aloadn hG dX3_carryOut_69 rfl ?_
          refine pm_getf hG dX3_carryOut_70 (flX3_29 _ rfl) rfl rfl ?_
          refine pm_iloadn hG dX3_carryOut_73 rfl ?_
          refine pm_iconst (v := 1) hG dX3_carryOut_74 (by decide) ?_
          refine pm_callV (As := [.int za, .int 1]) (rest := [.ref (B + 36)]) hG hR dX3_carryOut_75 (lkX3_35 _ rfl) okV_X9_get rfl rfl (tb_get (d := 4) rfl rfl (pm_tw_of 40 12 (by decide) (by decide) (by decide))) rfl rfl hdd (Nat.le_refl _) (Nat.le_refl _) (by first | decide | exact Nat.le_of_ble_eq_true rfl) (pm_ki (fun v10 σ' cnt' hq => ?_))
          obtain ⟨I10, A10, rfl, rfl, h10⟩ := hv_id (kp := kp) (I := I8) (A := A8) h8 hq.2
          refine pm_aloadn hG dX3_carryOut_78 rfl ?_
          refine pm_getf hG dX3_carryOut_79 (flX3_29 _ rfl) rfl rfl ?_
          refine pm_iloadn hG dX3_carryOut_82 rfl ?_
          refine pm_iconst (v := 2) hG dX3_carryOut_83 (by decide) ?_
          refine pm_callV (As := [.int za, .int 2]) (rest := [.int v10, .ref (B + 36)]) hG hR dX3_carryOut_84 (lkX3_35 _ rfl) okV_X9_get rfl rfl (tb_get (d := 4) rfl rfl (pm_tw_of 40 12 (by decide) (by decide) (by decide))) rfl rfl hdd (Nat.le_refl _) (Nat.le_refl _) (by first | decide | exact Nat.le_of_ble_eq_true rfl) (pm_ki (fun v11 σ' cnt' hq => ?_))
          obtain ⟨I11, A11, rfl, rfl, h11⟩ := hv_id (kp := kp) (I := I10) (A := A10) h10 hq.2
          refine pm_iloadn hG dX3_carryOut_87 rfl ?_
          refine pm_callV (As := [.int v10, .int v11, .int v1]) (rest := []) hG hR dX3_carryOut_88 (lkX3_99 _ rfl) okV_X3_carryOutSort rfl rfl (g_X3_carryOutSort (d := 4) (by decide) h11) rfl rfl hdd (Nat.le_refl _) (Nat.le_refl _) (by decide) (pm_ki (fun v12 σ' cnt' hq => ?_))
          obtain ⟨I12, A12, rfl, rfl, h12⟩ := hq
          refine pm_istoreXn (loc' := [some (.ref (B + 36)), some (.int za), some (.int v1), some (.int v12)]) hG dX3_carryOut_91 (by decide) (pm_c1b rfl) rfl ?_
          refine pm_iloadn hG dX3_carryOut_92 rfl ?_
          refine pm_ldc hG dX3_carryOut_93 (ctX3_81 _ rfl) ?_
          refine pm_icmp_eq (tgt := 109) hG dX3_carryOut_95 rfl (fun c13 => ?_) (fun c13 => ?_)
          · refine pm_iloadn hG dX3_carryOut_109 rfl ?_
            exact pm_iret hG hF dX3_carryOut_110 rfl (Nat.le_refl _) (Nat.le_refl _) ⟨_, rfl, _, _, rfl, rfl, h12⟩
          · refine pm_aloadn hG dX3_carryOut_98 rfl ?_
            refine pm_getf hG dX3_carryOut_99 (flX3_29 _ rfl) rfl rfl ?_
            refine pm_iloadn hG dX3_carryOut_102 rfl ?_
            refine pm_bipush (v := 11) hG dX3_carryOut_103 (by decide) ?_
            refine pm_iconst (v := 1) hG dX3_carryOut_105 (by decide) ?_
            refine pm_callV (As := [.int za, .int 11, .int 1]) (rest := []) hG hR dX3_carryOut_106 (lkX3_45 _ rfl) okV_X9_set rfl rfl (tb_set (d := 4) rfl rfl (pm_tw_of 40 12 (by decide) (by decide) (by decide)) (by decide)) rfl rfl hdd (Nat.le_refl _) (Nat.le_refl _) (by decide) (pm_kv (fun σ' cnt' hq => ?_))
            obtain ⟨I14, A14, rfl, rfl, h14⟩ := hv_a15 (kp := kp) (I := I12) (A := A12) h12 hq
            refine pm_iloadn hG dX3_carryOut_109 rfl ?_
            exact pm_iret hG hF dX3_carryOut_110 rfl (Nat.le_refl _) (Nat.le_refl _) ⟨_, rfl, _, _, rfl, rfl, h14⟩
        · refine pm_ldc hG dX3_carryOut_65 (ctX3_98 _ rfl) ?_
          exact pm_iret hG hF dX3_carryOut_67 rfl (Nat.le_refl _) (Nat.le_refl _) ⟨_, rfl, _, _, rfl, rfl, h8⟩
      · refine pm_ldc hG dX3_carryOut_48 (ctX3_62 _ rfl) ?_
        exact pm_iret hG hF dX3_carryOut_50 rfl (Nat.le_refl _) (Nat.le_refl _) ⟨_, rfl, _, _, rfl, rfl, h6⟩

set_option maxRecDepth 100000 in
set_option maxHeartbeats 4000000 in
theorem g_X11_obey {ε : Nat → Int32} {d B cnt : Nat} {kp : Value} {ρ : pm_S} {I : Nat → Int32} {A : Nat → Nat → Int32} {za : Int32} (hdd : 6 ≤ d) (h : gq ε I) : pm_met mX11_obey d 0 0 B [.ref (B + 0), .int za] cnt (pm_two (cl_L B kp I A) ρ) (pm_Qi (fun _ σ' cnt' => hvq ε B kp ρ cnt σ' cnt')) := by
  refine pm_enter 0 (by decide) (Nat.le_of_ble_eq_true rfl) rfl (fun G hG hR hF => ?_)
  refine pm_aloadn hG dX11_obey_0 rfl ?_
  refine pm_aloadn hG dX11_obey_1 rfl ?_
  refine pm_getf hG dX11_obey_2 (flX11_12 _ rfl) rfl rfl ?_
  refine pm_getf hG dX11_obey_5 (flX11_224 _ rfl) rfl rfl ?_
  refine pm_iloadn hG dX11_obey_8 rfl ?_
  refine pm_callV (As := [.int za]) (rest := [.ref (B + 0)]) hG hR dX11_obey_9 (lkX11_101 _ rfl) okV_X9_has rfl rfl (tb_has (d := 5) rfl) rfl rfl hdd (Nat.le_refl _) (Nat.le_refl _) (by first | decide | exact Nat.le_of_ble_eq_true rfl) (pm_ki (fun v1 σ' cnt' hq => ?_))
  have b1 := pm_b01 hq.1
  obtain ⟨I1, A1, rfl, rfl, h1⟩ := hv_id (kp := kp) (I := I) (A := A) h hq.2
  refine pm_if_eq (tgt := 26) hG dX11_obey_12 rfl (fun c2 => ?_) (fun c2 => ?_)
  · refine pm_ldc hG dX11_obey_26 (ctX11_109 _ rfl) ?_
    refine pm_callV (As := [.int (-1000001)]) (rest := []) hG hR dX11_obey_28 (lkX11_97 _ rfl) okV_X11_told rfl rfl (sx_told (d := 5) (by decide) rfl rfl) rfl rfl hdd (Nat.le_refl _) (Nat.le_refl _) (by decide) (pm_ki (fun v3 σ' cnt' hq => ?_))
    obtain ⟨-, ⟨g3, hg3⟩, hc3⟩ := hq
    obtain ⟨I3, A3, rfl, rfl, h3⟩ := hv_a53 (kp := kp) (I := I1) (A := A1) h1 ⟨hg3, hc3⟩
    exact pm_iret hG hF dX11_obey_31 rfl (Nat.le_refl _) (Nat.le_refl _) ⟨_, rfl, _, _, rfl, rfl, h3⟩
  · refine pm_aloadn hG dX11_obey_15 rfl ?_
    refine pm_getf hG dX11_obey_16 (flX11_39 _ rfl) rfl rfl ?_
    refine pm_iloadn hG dX11_obey_19 rfl ?_
    refine pm_callV (As := [.int za]) (rest := [.ref (B + 0)]) hG hR dX11_obey_20 (lkX11_242 _ rfl) okV_X3_carryOut rfl rfl (g_X3_carryOut (d := 5) (by decide) h1) rfl rfl hdd (Nat.le_refl _) (Nat.le_refl _) (by first | decide | exact Nat.le_of_ble_eq_true rfl) (pm_ki (fun v4 σ' cnt' hq => ?_))
    obtain ⟨I4, A4, rfl, rfl, h4⟩ := hq
    refine pm_goto (tgt := 28) hG dX11_obey_23 rfl ?_
    refine pm_callV (As := [.int v4]) (rest := []) hG hR dX11_obey_28 (lkX11_97 _ rfl) okV_X11_told rfl rfl (sx_told (d := 5) (by decide) rfl rfl) rfl rfl hdd (Nat.le_refl _) (Nat.le_refl _) (by decide) (pm_ki (fun v5 σ' cnt' hq => ?_))
    obtain ⟨-, ⟨g5, hg5⟩, hc5⟩ := hq
    obtain ⟨I5, A5, rfl, rfl, h5⟩ := hv_a53 (kp := kp) (I := I4) (A := A4) h4 ⟨hg5, hc5⟩
    exact pm_iret hG hF dX11_obey_31 rfl (Nat.le_refl _) (Nat.le_refl _) ⟨_, rfl, _, _, rfl, rfl, h5⟩

set_option maxRecDepth 100000 in
set_option maxHeartbeats 4000000 in
theorem g_X3_unfold {ε : Nat → Int32} {d B cnt : Nat} {kp : Value} {ρ : pm_S} {I : Nat → Int32} {A : Nat → Nat → Int32} {za : Int32} (hdd : 5 ≤ d) (h : gq ε I) : pm_met mX3_unfold d 0 0 B [.ref (B + 36), .int za] cnt (pm_two (cl_L B kp I A) ρ) (pm_Qi (fun _ σ' cnt' => hvq ε B kp ρ cnt σ' cnt')) := by
  refine pm_enter 3 (by decide) (Nat.le_of_ble_eq_true rfl) rfl (fun G hG hR hF => ?_)
  refine pm_aloadn hG dX3_unfold_0 rfl ?_
  refine pm_getf hG dX3_unfold_1 (flX3_29 _ rfl) rfl rfl ?_
  refine pm_iloadn hG dX3_unfold_4 rfl ?_
  refine pm_bipush (v := 6) hG dX3_unfold_5 (by decide) ?_
  refine pm_callV (As := [.int za, .int 6]) (rest := []) hG hR dX3_unfold_7 (lkX3_35 _ rfl) okV_X9_get rfl rfl (tb_get (d := 4) rfl rfl (pm_tw_of 40 12 (by decide) (by decide) (by decide))) rfl rfl hdd (Nat.le_refl _) (Nat.le_refl _) (by decide) (pm_ki (fun v1 σ' cnt' hq => ?_))
  obtain ⟨I1, A1, rfl, rfl, h1⟩ := hv_id (kp := kp) (I := I) (A := A) h hq.2
  refine pm_istoreXn (loc' := [some (.ref (B + 36)), some (.int za), some (.int v1), none, none]) hG dX3_unfold_10 (by decide) (pm_c1b rfl) rfl ?_
  refine pm_aloadn hG dX3_unfold_11 rfl ?_
  refine pm_iloadn hG dX3_unfold_12 rfl ?_
  refine pm_callV (As := [.int za]) (rest := []) hG hR dX3_unfold_13 (lkX3_55 _ rfl) okV_X3_isSent rfl rfl (g_X3_isSent (d := 4) (by decide) h1) rfl rfl hdd (Nat.le_refl _) (Nat.le_refl _) (by decide) (pm_ki (fun v2 σ' cnt' hq => ?_))
  obtain ⟨b2, I2, A2, rfl, rfl, h2⟩ := hq
  refine pm_if_eq (tgt := 43) hG dX3_unfold_16 rfl (fun c3 => ?_) (fun c3 => ?_)
  · refine pm_iconst (v := 0) hG dX3_unfold_43 (by decide) ?_
    refine pm_istoreXn (loc' := [some (.ref (B + 36)), some (.int za), some (.int v1), some (.int 0), none]) hG dX3_unfold_44 (by decide) (pm_c1b rfl) rfl ?_
    refine pm_iloadn hG dX3_unfold_45 rfl ?_
    refine pm_if_eq (tgt := 98) hG dX3_unfold_46 rfl (fun _ => ?_) (fun q => absurd q (by decide))
    refine pm_ldc hG dX3_unfold_98 (ctX3_62 _ rfl) ?_
    exact pm_iret hG hF dX3_unfold_100 rfl (Nat.le_refl _) (Nat.le_refl _) ⟨_, rfl, _, _, rfl, rfl, h2⟩
  · refine pm_aloadn hG dX3_unfold_19 rfl ?_
    refine pm_getf hG dX3_unfold_20 (flX3_29 _ rfl) rfl rfl ?_
    refine pm_iloadn hG dX3_unfold_23 rfl ?_
    refine pm_bipush (v := 8) hG dX3_unfold_24 (by decide) ?_
    refine pm_callV (As := [.int za, .int 8]) (rest := []) hG hR dX3_unfold_26 (lkX3_35 _ rfl) okV_X9_get rfl rfl (tb_get (d := 4) rfl rfl (pm_tw_of 40 12 (by decide) (by decide) (by decide))) rfl rfl hdd (Nat.le_refl _) (Nat.le_refl _) (by decide) (pm_ki (fun v4 σ' cnt' hq => ?_))
    obtain ⟨I4, A4, rfl, rfl, h4⟩ := hv_id (kp := kp) (I := I2) (A := A2) h2 hq.2
    refine pm_aloadn hG dX3_unfold_29 rfl ?_
    refine pm_getf hG dX3_unfold_30 (flX3_9 _ rfl) rfl rfl ?_
    refine pm_getf hG dX3_unfold_33 (flX3_82 _ rfl) rfl rfl ?_
    refine pm_icmp_gt (tgt := 43) hG dX3_unfold_36 rfl (fun c5 => ?_) (fun c5 => ?_)
    · refine pm_iconst (v := 0) hG dX3_unfold_43 (by decide) ?_
      refine pm_istoreXn (loc' := [some (.ref (B + 36)), some (.int za), some (.int v1), some (.int 0), none]) hG dX3_unfold_44 (by decide) (pm_c1b rfl) rfl ?_
      refine pm_iloadn hG dX3_unfold_45 rfl ?_
      refine pm_if_eq (tgt := 98) hG dX3_unfold_46 rfl (fun _ => ?_) (fun q => absurd q (by decide))
      refine pm_ldc hG dX3_unfold_98 (ctX3_62 _ rfl) ?_
      exact pm_iret hG hF dX3_unfold_100 rfl (Nat.le_refl _) (Nat.le_refl _) ⟨_, rfl, _, _, rfl, rfl, h4⟩
    · refine pm_iconst (v := 1) hG dX3_unfold_39 (by decide) ?_
      refine pm_goto (tgt := 44) hG dX3_unfold_40 rfl ?_
      refine pm_istoreXn (loc' := [some (.ref (B + 36)), some (.int za), some (.int v1), some (.int 1), none]) hG dX3_unfold_44 (by decide) (pm_c1b rfl) rfl ?_
      refine pm_iloadn hG dX3_unfold_45 rfl ?_
      refine pm_if_eq (tgt := 98) hG dX3_unfold_46 rfl (fun q => absurd q (by decide)) (fun _ => ?_)
      refine pm_aloadn hG dX3_unfold_49 rfl ?_
      refine pm_getf hG dX3_unfold_50 (flX3_29 _ rfl) rfl rfl ?_
      refine pm_iloadn hG dX3_unfold_53 rfl ?_
      refine pm_bipush (v := 9) hG dX3_unfold_54 (by decide) ?_
      refine pm_callV (As := [.int za, .int 9]) (rest := []) hG hR dX3_unfold_56 (lkX3_35 _ rfl) okV_X9_get rfl rfl (tb_get (d := 4) rfl rfl (pm_tw_of 40 12 (by decide) (by decide) (by decide))) rfl rfl hdd (Nat.le_refl _) (Nat.le_refl _) (by decide) (pm_ki (fun v6 σ' cnt' hq => ?_))
      obtain ⟨I6, A6, rfl, rfl, h6⟩ := hv_id (kp := kp) (I := I4) (A := A4) h4 hq.2
      refine pm_if_ge (tgt := 98) hG dX3_unfold_59 rfl (fun c7 => ?_) (fun c7 => ?_)
      · refine pm_ldc hG dX3_unfold_98 (ctX3_62 _ rfl) ?_
        exact pm_iret hG hF dX3_unfold_100 rfl (Nat.le_refl _) (Nat.le_refl _) ⟨_, rfl, _, _, rfl, rfl, h6⟩
      · refine pm_aloadn hG dX3_unfold_62 rfl ?_
        refine pm_getf hG dX3_unfold_63 (flX3_9 _ rfl) rfl rfl ?_
        refine pm_iloadn hG dX3_unfold_66 rfl ?_
        refine pm_callV (As := [.int v1]) (rest := []) hG hR dX3_unfold_67 (lkX3_59 _ rfl) okV_X7_isInTown rfl rfl (g_X7_isInTown (d := 4) (by decide) h6) rfl rfl hdd (Nat.le_refl _) (Nat.le_refl _) (by decide) (pm_ki (fun v8 σ' cnt' hq => ?_))
        obtain ⟨b8, I8, A8, rfl, rfl, h8⟩ := hq
        refine pm_if_eq (tgt := 98) hG dX3_unfold_70 rfl (fun c9 => ?_) (fun c9 => ?_)
        · refine pm_ldc hG dX3_unfold_98 (ctX3_62 _ rfl) ?_
          exact pm_iret hG hF dX3_unfold_100 rfl (Nat.le_refl _) (Nat.le_refl _) ⟨_, rfl, _, _, rfl, rfl, h8⟩
        · refine pm_aloadn hG dX3_unfold_73 rfl ?_
          refine pm_getf hG dX3_unfold_74 (flX3_9 _ rfl) rfl rfl ?_
          refine pm_getf hG dX3_unfold_77 (flX3_32 _ rfl) rfl rfl ?_
          refine pm_iloadn hG dX3_unfold_80 rfl ?_
          refine pm_iconst (v := 4) hG dX3_unfold_81 (by decide) ?_
          refine pm_callV (As := [.int v1, .int 4]) (rest := []) hG hR dX3_unfold_82 (lkX3_35 _ rfl) okV_X9_get rfl rfl (tb_get (d := 4) rfl rfl (pm_tw_of 20 14 (by decide) (by decide) (by decide))) rfl rfl hdd (Nat.le_refl _) (Nat.le_refl _) (by decide) (pm_ki (fun v10 σ' cnt' hq => ?_))
          obtain ⟨I10, A10, rfl, rfl, h10⟩ := hv_id (kp := kp) (I := I8) (A := A8) h8 hq.2
          refine pm_aloadn hG dX3_unfold_85 rfl ?_
          refine pm_getf hG dX3_unfold_86 (flX3_29 _ rfl) rfl rfl ?_
          refine pm_iloadn hG dX3_unfold_89 rfl ?_
          refine pm_bipush (v := 7) hG dX3_unfold_90 (by decide) ?_
          refine pm_callV (As := [.int za, .int 7]) (rest := [.int v10]) hG hR dX3_unfold_92 (lkX3_35 _ rfl) okV_X9_get rfl rfl (tb_get (d := 4) rfl rfl (pm_tw_of 40 12 (by decide) (by decide) (by decide))) rfl rfl hdd (Nat.le_refl _) (Nat.le_refl _) (by first | decide | exact Nat.le_of_ble_eq_true rfl) (pm_ki (fun v11 σ' cnt' hq => ?_))
          obtain ⟨I11, A11, rfl, rfl, h11⟩ := hv_id (kp := kp) (I := I10) (A := A10) h10 hq.2
          refine pm_icmp_eq (tgt := 101) hG dX3_unfold_95 rfl (fun c12 => ?_) (fun c12 => ?_)
          · refine pm_aloadn hG dX3_unfold_101 rfl ?_
            refine pm_getf hG dX3_unfold_102 (flX3_15 _ rfl) rfl rfl ?_
            refine pm_iconst (v := 1) hG dX3_unfold_105 (by decide) ?_
            refine pm_aloadn hG dX3_unfold_106 rfl ?_
            refine pm_getf hG dX3_unfold_107 (flX3_9 _ rfl) rfl rfl ?_
            refine pm_getf hG dX3_unfold_110 (flX3_82 _ rfl) rfl rfl ?_
            refine pm_aloadn hG dX3_unfold_113 rfl ?_
            refine pm_getf hG dX3_unfold_114 (flX3_9 _ rfl) rfl rfl ?_
            refine pm_iloadn hG dX3_unfold_117 rfl ?_
            refine pm_callV (As := [.int v1]) (rest := [.int (I11 102), .int 1, .ref (B + 26)]) hG hR dX3_unfold_118 (lkX3_86 _ rfl) okV_X7_knownTo rfl rfl (g_X7_knownTo (d := 4) (by decide) h11) rfl rfl hdd (Nat.le_refl _) (Nat.le_refl _) (by first | decide | exact Nat.le_of_ble_eq_true rfl) (pm_ki (fun v13 σ' cnt' hq => ?_))
            obtain ⟨I13, A13, rfl, rfl, h13⟩ := hq
            refine pm_iloadn hG dX3_unfold_121 rfl ?_
            refine pm_iloadn hG dX3_unfold_122 rfl ?_
            refine pm_callV (As := [.int 1, .int (I11 102), .int v13, .int v1, .int za]) (rest := []) hG hR dX3_unfold_123 (lkX3_89 _ rfl) okV_X2_ruling rfl rfl (g_X2_ruling (d := 4) (by decide) h13) rfl rfl hdd (Nat.le_refl _) (Nat.le_refl _) (by decide) (pm_ki (fun v14 σ' cnt' hq => ?_))
            obtain ⟨I14, A14, rfl, rfl, h14⟩ := hq
            refine pm_if_eq (tgt := 133) hG dX3_unfold_126 rfl (fun c15 => ?_) (fun c15 => ?_)
            · refine pm_iconst (v := 0) hG dX3_unfold_133 (by decide) ?_
              refine pm_istoreXi (loc' := [some (.ref (B + 36)), some (.int za), some (.int v1), some (.int 1), some (.int 0)]) hG dX3_unfold_134 (by decide) (pm_c1b rfl) rfl ?_
              refine pm_aloadn hG dX3_unfold_136 rfl ?_
              refine pm_getf hG dX3_unfold_137 (flX3_29 _ rfl) rfl rfl ?_
              refine pm_iloadn hG dX3_unfold_140 rfl ?_
              refine pm_bipush (v := 9) hG dX3_unfold_141 (by decide) ?_
              refine pm_aloadn hG dX3_unfold_143 rfl ?_
              refine pm_getf hG dX3_unfold_144 (flX3_9 _ rfl) rfl rfl ?_
              refine pm_getf hG dX3_unfold_147 (flX3_82 _ rfl) rfl rfl ?_
              refine pm_callV (As := [.int za, .int 9, .int (I14 102)]) (rest := []) hG hR dX3_unfold_150 (lkX3_45 _ rfl) okV_X9_set rfl rfl (tb_set (d := 4) rfl rfl (pm_tw_of 40 12 (by decide) (by decide) (by decide)) (by decide)) rfl rfl hdd (Nat.le_refl _) (Nat.le_refl _) (by decide) (pm_kv (fun σ' cnt' hq => ?_))
              obtain ⟨I16, A16, rfl, rfl, h16⟩ := hv_a15 (kp := kp) (I := I14) (A := A14) h14 hq
              refine pm_aloadn hG dX3_unfold_153 rfl ?_
              refine pm_getf hG dX3_unfold_154 (flX3_29 _ rfl) rfl rfl ?_
              refine pm_iloadn hG dX3_unfold_157 rfl ?_
              refine pm_bipush (v := 10) hG dX3_unfold_158 (by decide) ?_
              refine pm_iloadi hG dX3_unfold_160 rfl ?_
              refine pm_callV (As := [.int za, .int 10, .int 0]) (rest := []) hG hR dX3_unfold_162 (lkX3_45 _ rfl) okV_X9_set rfl rfl (tb_set (d := 4) rfl rfl (pm_tw_of 40 12 (by decide) (by decide) (by decide)) (by decide)) rfl rfl hdd (Nat.le_refl _) (Nat.le_refl _) (by decide) (pm_kv (fun σ' cnt' hq => ?_))
              obtain ⟨I17, A17, rfl, rfl, h17⟩ := hv_a15 (kp := kp) (I := I16) (A := A16) h16 hq
              refine pm_iloadi hG dX3_unfold_165 rfl ?_
              exact pm_iret hG hF dX3_unfold_167 rfl (Nat.le_refl _) (Nat.le_refl _) ⟨_, rfl, _, _, rfl, rfl, h17⟩
            · refine pm_iconst (v := 1) hG dX3_unfold_129 (by decide) ?_
              refine pm_goto (tgt := 134) hG dX3_unfold_130 rfl ?_
              refine pm_istoreXi (loc' := [some (.ref (B + 36)), some (.int za), some (.int v1), some (.int 1), some (.int 1)]) hG dX3_unfold_134 (by decide) (pm_c1b rfl) rfl ?_
              refine pm_aloadn hG dX3_unfold_136 rfl ?_
              refine pm_getf hG dX3_unfold_137 (flX3_29 _ rfl) rfl rfl ?_
              refine pm_iloadn hG dX3_unfold_140 rfl ?_
              refine pm_bipush (v := 9) hG dX3_unfold_141 (by decide) ?_
              refine pm_aloadn hG dX3_unfold_143 rfl ?_
              refine pm_getf hG dX3_unfold_144 (flX3_9 _ rfl) rfl rfl ?_
              refine pm_getf hG dX3_unfold_147 (flX3_82 _ rfl) rfl rfl ?_
              refine pm_callV (As := [.int za, .int 9, .int (I14 102)]) (rest := []) hG hR dX3_unfold_150 (lkX3_45 _ rfl) okV_X9_set rfl rfl (tb_set (d := 4) rfl rfl (pm_tw_of 40 12 (by decide) (by decide) (by decide)) (by decide)) rfl rfl hdd (Nat.le_refl _) (Nat.le_refl _) (by decide) (pm_kv (fun σ' cnt' hq => ?_))
              obtain ⟨I18, A18, rfl, rfl, h18⟩ := hv_a15 (kp := kp) (I := I14) (A := A14) h14 hq
              refine pm_aloadn hG dX3_unfold_153 rfl ?_
              refine pm_getf hG dX3_unfold_154 (flX3_29 _ rfl) rfl rfl ?_
              refine pm_iloadn hG dX3_unfold_157 rfl ?_
              refine pm_bipush (v := 10) hG dX3_unfold_158 (by decide) ?_
              refine pm_iloadi hG dX3_unfold_160 rfl ?_
              refine pm_callV (As := [.int za, .int 10, .int 1]) (rest := []) hG hR dX3_unfold_162 (lkX3_45 _ rfl) okV_X9_set rfl rfl (tb_set (d := 4) rfl rfl (pm_tw_of 40 12 (by decide) (by decide) (by decide)) (by decide)) rfl rfl hdd (Nat.le_refl _) (Nat.le_refl _) (by decide) (pm_kv (fun σ' cnt' hq => ?_))
              obtain ⟨I19, A19, rfl, rfl, h19⟩ := hv_a15 (kp := kp) (I := I18) (A := A18) h18 hq
              refine pm_iloadi hG dX3_unfold_165 rfl ?_
              exact pm_iret hG hF dX3_unfold_167 rfl (Nat.le_refl _) (Nat.le_refl _) ⟨_, rfl, _, _, rfl, rfl, h19⟩
          · refine pm_ldc hG dX3_unfold_98 (ctX3_62 _ rfl) ?_
            exact pm_iret hG hF dX3_unfold_100 rfl (Nat.le_refl _) (Nat.le_refl _) ⟨_, rfl, _, _, rfl, rfl, h11⟩

set_option maxRecDepth 100000 in
set_option maxHeartbeats 4000000 in
theorem g_X11_open {ε : Nat → Int32} {d B cnt : Nat} {kp : Value} {ρ : pm_S} {I : Nat → Int32} {A : Nat → Nat → Int32} {za : Int32} (hdd : 6 ≤ d) (h : gq ε I) : pm_met mX11_open d 0 0 B [.ref (B + 0), .int za] cnt (pm_two (cl_L B kp I A) ρ) (pm_Qi (fun _ σ' cnt' => hvq ε B kp ρ cnt σ' cnt')) := by
  refine pm_enter 0 (by decide) (Nat.le_of_ble_eq_true rfl) rfl (fun G hG hR hF => ?_)
  refine pm_aloadn hG dX11_open_0 rfl ?_
  refine pm_aloadn hG dX11_open_1 rfl ?_
  refine pm_getf hG dX11_open_2 (flX11_12 _ rfl) rfl rfl ?_
  refine pm_getf hG dX11_open_5 (flX11_224 _ rfl) rfl rfl ?_
  refine pm_iloadn hG dX11_open_8 rfl ?_
  refine pm_callV (As := [.int za]) (rest := [.ref (B + 0)]) hG hR dX11_open_9 (lkX11_101 _ rfl) okV_X9_has rfl rfl (tb_has (d := 5) rfl) rfl rfl hdd (Nat.le_refl _) (Nat.le_refl _) (by first | decide | exact Nat.le_of_ble_eq_true rfl) (pm_ki (fun v1 σ' cnt' hq => ?_))
  have b1 := pm_b01 hq.1
  obtain ⟨I1, A1, rfl, rfl, h1⟩ := hv_id (kp := kp) (I := I) (A := A) h hq.2
  refine pm_if_eq (tgt := 26) hG dX11_open_12 rfl (fun c2 => ?_) (fun c2 => ?_)
  · refine pm_ldc hG dX11_open_26 (ctX11_109 _ rfl) ?_
    refine pm_callV (As := [.int (-1000001)]) (rest := []) hG hR dX11_open_28 (lkX11_97 _ rfl) okV_X11_told rfl rfl (sx_told (d := 5) (by decide) rfl rfl) rfl rfl hdd (Nat.le_refl _) (Nat.le_refl _) (by decide) (pm_ki (fun v3 σ' cnt' hq => ?_))
    obtain ⟨-, ⟨g3, hg3⟩, hc3⟩ := hq
    obtain ⟨I3, A3, rfl, rfl, h3⟩ := hv_a53 (kp := kp) (I := I1) (A := A1) h1 ⟨hg3, hc3⟩
    exact pm_iret hG hF dX11_open_31 rfl (Nat.le_refl _) (Nat.le_refl _) ⟨_, rfl, _, _, rfl, rfl, h3⟩
  · refine pm_aloadn hG dX11_open_15 rfl ?_
    refine pm_getf hG dX11_open_16 (flX11_39 _ rfl) rfl rfl ?_
    refine pm_iloadn hG dX11_open_19 rfl ?_
    refine pm_callV (As := [.int za]) (rest := [.ref (B + 0)]) hG hR dX11_open_20 (lkX11_239 _ rfl) okV_X3_unfold rfl rfl (g_X3_unfold (d := 5) (by decide) h1) rfl rfl hdd (Nat.le_refl _) (Nat.le_refl _) (by first | decide | exact Nat.le_of_ble_eq_true rfl) (pm_ki (fun v4 σ' cnt' hq => ?_))
    obtain ⟨I4, A4, rfl, rfl, h4⟩ := hq
    refine pm_goto (tgt := 28) hG dX11_open_23 rfl ?_
    refine pm_callV (As := [.int v4]) (rest := []) hG hR dX11_open_28 (lkX11_97 _ rfl) okV_X11_told rfl rfl (sx_told (d := 5) (by decide) rfl rfl) rfl rfl hdd (Nat.le_refl _) (Nat.le_refl _) (by decide) (pm_ki (fun v5 σ' cnt' hq => ?_))
    obtain ⟨-, ⟨g5, hg5⟩, hc5⟩ := hq
    obtain ⟨I5, A5, rfl, rfl, h5⟩ := hv_a53 (kp := kp) (I := I4) (A := A4) h4 ⟨hg5, hc5⟩
    exact pm_iret hG hF dX11_open_31 rfl (Nat.le_refl _) (Nat.le_refl _) ⟨_, rfl, _, _, rfl, rfl, h5⟩

set_option maxRecDepth 100000 in
set_option maxHeartbeats 4000000 in
theorem g_X11_owed {ε : Nat → Int32} {d B cnt : Nat} {kp : Value} {ρ : pm_S} {I : Nat → Int32} {A : Nat → Nat → Int32} {za zb : Int32} (hdd : 1 ≤ d) (h : gq ε I) : pm_met mX11_owed d 0 0 B [.ref (B + 0), .int za, .int zb] cnt (pm_two (cl_L B kp I A) ρ) (pm_Qi (fun _ σ' cnt' => hvq ε B kp ρ cnt σ' cnt')) := by
  refine pm_enter 1 (by decide) (Nat.le_of_ble_eq_true rfl) rfl (fun G hG hR hF => ?_)
  refine pm_aloadn hG dX11_owed_0 rfl ?_
  refine pm_getf hG dX11_owed_1 (flX11_12 _ rfl) rfl rfl ?_
  refine pm_getf hG dX11_owed_4 (flX11_271 _ rfl) rfl rfl ?_
  refine pm_iloadn hG dX11_owed_7 rfl ?_
  refine pm_callV (As := [.int za]) (rest := []) hG hR dX11_owed_8 (lkX11_101 _ rfl) okV_X9_has rfl rfl (tb_has (d := 0) rfl) rfl rfl hdd (Nat.le_refl _) (Nat.le_refl _) (by decide) (pm_ki (fun v1 σ' cnt' hq => ?_))
  have b1 := pm_b01 hq.1
  obtain ⟨I1, A1, rfl, rfl, h1⟩ := hv_id (kp := kp) (I := I) (A := A) h hq.2
  refine pm_if_ne (tgt := 21) hG dX11_owed_11 rfl (fun c2 => ?_) (fun c2 => ?_)
  · refine pm_aloadn hG dX11_owed_21 rfl ?_
    refine pm_getf hG dX11_owed_22 (flX11_12 _ rfl) rfl rfl ?_
    refine pm_getf hG dX11_owed_25 (flX11_271 _ rfl) rfl rfl ?_
    refine pm_iloadn hG dX11_owed_28 rfl ?_
    refine pm_iconst (v := 3) hG dX11_owed_29 (by decide) ?_
    refine pm_callV (As := [.int za, .int 3]) (rest := []) hG hR dX11_owed_30 (lkX11_152 _ rfl) okV_X9_get rfl rfl (tb_get (d := 0) rfl rfl (pm_tw_of 6 5 (by decide) (by decide) (by decide))) rfl rfl hdd (Nat.le_refl _) (Nat.le_refl _) (by decide) (pm_ki (fun v3 σ' cnt' hq => ?_))
    obtain ⟨I3, A3, rfl, rfl, h3⟩ := hv_id (kp := kp) (I := I1) (A := A1) h1 hq.2
    refine pm_istoreXn (loc' := [some (.ref (B + 0)), some (.int za), some (.int zb), some (.int v3)]) hG dX11_owed_33 (by decide) (pm_c1b rfl) rfl ?_
    refine pm_iloadn hG dX11_owed_34 rfl ?_
    by_cases c4 : zb = 0
    · refine pm_top (v := 0) c4 ?_
      refine pm_tswIn (tgt := 64) hG dX11_owed_35 (by decide) (by decide) rfl rfl ?_
      refine pm_aloadn hG dX11_owed_64 rfl ?_
      refine pm_getf hG dX11_owed_65 (flX11_12 _ rfl) rfl rfl ?_
      refine pm_getf hG dX11_owed_68 (flX11_271 _ rfl) rfl rfl ?_
      refine pm_iloadn hG dX11_owed_71 rfl ?_
      refine pm_iconst (v := 0) hG dX11_owed_72 (by decide) ?_
      refine pm_callV (As := [.int za, .int 0]) (rest := []) hG hR dX11_owed_73 (lkX11_152 _ rfl) okV_X9_get rfl rfl (tb_get (d := 0) rfl rfl (pm_tw_of 6 5 (by decide) (by decide) (by decide))) rfl rfl hdd (Nat.le_refl _) (Nat.le_refl _) (by decide) (pm_ki (fun v5 σ' cnt' hq => ?_))
      obtain ⟨I5, A5, rfl, rfl, h5⟩ := hv_id (kp := kp) (I := I3) (A := A3) h3 hq.2
      exact pm_iret hG hF dX11_owed_76 rfl (Nat.le_refl _) (Nat.le_refl _) ⟨_, rfl, _, _, rfl, rfl, h5⟩
    by_cases c6 : zb = 1
    · refine pm_top (v := 1) c6 ?_
      refine pm_tswIn (tgt := 77) hG dX11_owed_35 (by decide) (by decide) rfl rfl ?_
      refine pm_aloadn hG dX11_owed_77 rfl ?_
      refine pm_getf hG dX11_owed_78 (flX11_12 _ rfl) rfl rfl ?_
      refine pm_getf hG dX11_owed_81 (flX11_271 _ rfl) rfl rfl ?_
      refine pm_iloadn hG dX11_owed_84 rfl ?_
      refine pm_iconst (v := 4) hG dX11_owed_85 (by decide) ?_
      refine pm_callV (As := [.int za, .int 4]) (rest := []) hG hR dX11_owed_86 (lkX11_152 _ rfl) okV_X9_get rfl rfl (tb_get (d := 0) rfl rfl (pm_tw_of 6 5 (by decide) (by decide) (by decide))) rfl rfl hdd (Nat.le_refl _) (Nat.le_refl _) (by decide) (pm_ki (fun v7 σ' cnt' hq => ?_))
      obtain ⟨I7, A7, rfl, rfl, h7⟩ := hv_id (kp := kp) (I := I3) (A := A3) h3 hq.2
      exact pm_iret hG hF dX11_owed_89 rfl (Nat.le_refl _) (Nat.le_refl _) ⟨_, rfl, _, _, rfl, rfl, h7⟩
    by_cases c8 : zb = 2
    · refine pm_top (v := 2) c8 ?_
      refine pm_tswIn (tgt := 90) hG dX11_owed_35 (by decide) (by decide) rfl rfl ?_
      refine pm_aloadn hG dX11_owed_90 rfl ?_
      refine pm_getf hG dX11_owed_91 (flX11_12 _ rfl) rfl rfl ?_
      refine pm_getf hG dX11_owed_94 (flX11_82 _ rfl) rfl rfl ?_
      refine pm_iloadn hG dX11_owed_97 rfl ?_
      refine pm_iconst (v := 2) hG dX11_owed_98 (by decide) ?_
      refine pm_callV (As := [.int v3, .int 2]) (rest := []) hG hR dX11_owed_99 (lkX11_152 _ rfl) okV_X9_get rfl rfl (tb_get (d := 0) rfl rfl (pm_tw_of 10 3 (by decide) (by decide) (by decide))) rfl rfl hdd (Nat.le_refl _) (Nat.le_refl _) (by decide) (pm_ki (fun v9 σ' cnt' hq => ?_))
      obtain ⟨I9, A9, rfl, rfl, h9⟩ := hv_id (kp := kp) (I := I3) (A := A3) h3 hq.2
      exact pm_iret hG hF dX11_owed_102 rfl (Nat.le_refl _) (Nat.le_refl _) ⟨_, rfl, _, _, rfl, rfl, h9⟩
    by_cases c10 : zb = 3
    · refine pm_top (v := 3) c10 ?_
      refine pm_tswIn (tgt := 103) hG dX11_owed_35 (by decide) (by decide) rfl rfl ?_
      refine pm_aloadn hG dX11_owed_103 rfl ?_
      refine pm_getf hG dX11_owed_104 (flX11_12 _ rfl) rfl rfl ?_
      refine pm_getf hG dX11_owed_107 (flX11_271 _ rfl) rfl rfl ?_
      refine pm_iconst (v := 3) hG dX11_owed_110 (by decide) ?_
      refine pm_iloadn hG dX11_owed_111 rfl ?_
      obtain ⟨k11, hk11, hu11⟩ := gq.used h3 16 6 (by decide)
      have ht11 : pm_two (cl_L B kp I3 A3) ρ 16 = some (.inr (9, [.int (nI 6), .int (nI 5), .ref (B + 17), .int (nI k11)])) := by rw [← hu11]; rfl
      refine pm_callV (As := [.int 3, .int v3]) (rest := []) hG hR dX11_owed_112 (lkX11_164 _ rfl) okV_X9_rowsWith rfl rfl (tb_rowsWith (d := 0) (k := 3) ht11 rfl (by decide) (by decide) (by decide) hk11 (by omega) (by decide)) rfl rfl hdd (Nat.le_refl _) (Nat.le_refl _) (by decide) (pm_ki (fun v11 σ' cnt' hq => ?_))
      obtain ⟨I11, A11, rfl, rfl, h11⟩ := hv_id (kp := kp) (I := I3) (A := A3) h3 hq.2
      exact pm_iret hG hF dX11_owed_115 rfl (Nat.le_refl _) (Nat.le_refl _) ⟨_, rfl, _, _, rfl, rfl, h11⟩
    have tc4 : ¬ zb.toInt = 0 := fun q => c4 (Int32.toInt_inj.mp q)
    have tc6 : ¬ zb.toInt = 1 := fun q => c6 (Int32.toInt_inj.mp q)
    have tc8 : ¬ zb.toInt = 2 := fun q => c8 (Int32.toInt_inj.mp q)
    have tc10 : ¬ zb.toInt = 3 := fun q => c10 (Int32.toInt_inj.mp q)
    refine pm_tswOut (tgt := 116) hG dX11_owed_35 (by omega) rfl ?_
    refine pm_aloadn hG dX11_owed_116 rfl ?_
    refine pm_ldc hG dX11_owed_117 (ctX11_109 _ rfl) ?_
    refine pm_callV (As := [.int (-1000001)]) (rest := []) hG hR dX11_owed_119 (lkX11_97 _ rfl) okV_X11_told rfl rfl (sx_told (d := 0) (by decide) rfl rfl) rfl rfl hdd (Nat.le_refl _) (Nat.le_refl _) (by decide) (pm_ki (fun v12 σ' cnt' hq => ?_))
    obtain ⟨-, ⟨g12, hg12⟩, hc12⟩ := hq
    obtain ⟨I12, A12, rfl, rfl, h12⟩ := hv_a53 (kp := kp) (I := I3) (A := A3) h3 ⟨hg12, hc12⟩
    exact pm_iret hG hF dX11_owed_122 rfl (Nat.le_refl _) (Nat.le_refl _) ⟨_, rfl, _, _, rfl, rfl, h12⟩
  · refine pm_aloadn hG dX11_owed_14 rfl ?_
    refine pm_ldc hG dX11_owed_15 (ctX11_109 _ rfl) ?_
    refine pm_callV (As := [.int (-1000001)]) (rest := []) hG hR dX11_owed_17 (lkX11_97 _ rfl) okV_X11_told rfl rfl (sx_told (d := 0) (by decide) rfl rfl) rfl rfl hdd (Nat.le_refl _) (Nat.le_refl _) (by decide) (pm_ki (fun v13 σ' cnt' hq => ?_))
    obtain ⟨-, ⟨g13, hg13⟩, hc13⟩ := hq
    obtain ⟨I13, A13, rfl, rfl, h13⟩ := hv_a53 (kp := kp) (I := I1) (A := A1) h1 ⟨hg13, hc13⟩
    exact pm_iret hG hF dX11_owed_20 rfl (Nat.le_refl _) (Nat.le_refl _) ⟨_, rfl, _, _, rfl, rfl, h13⟩

set_option maxRecDepth 100000 in
set_option maxHeartbeats 4000000 in
theorem g_X11_own {ε : Nat → Int32} {d B cnt : Nat} {kp : Value} {ρ : pm_S} {I : Nat → Int32} {A : Nat → Nat → Int32} {za zb : Int32} (hdd : 3 ≤ d) (h : gq ε I) : pm_met mX11_own d 0 0 B [.ref (B + 0), .int za, .int zb] cnt (pm_two (cl_L B kp I A) ρ) (pm_Qi (fun _ σ' cnt' => hvq ε B kp ρ cnt σ' cnt')) := by
  refine pm_enter 0 (by decide) (Nat.le_of_ble_eq_true rfl) rfl (fun G hG hR hF => ?_)
  refine pm_aloadn hG dX11_own_0 rfl ?_
  refine pm_getf hG dX11_own_1 (flX11_12 _ rfl) rfl rfl ?_
  refine pm_getf hG dX11_own_4 (flX11_82 _ rfl) rfl rfl ?_
  refine pm_iloadn hG dX11_own_7 rfl ?_
  refine pm_callV (As := [.int za]) (rest := []) hG hR dX11_own_8 (lkX11_101 _ rfl) okV_X9_has rfl rfl (tb_has (d := 2) rfl) rfl rfl hdd (Nat.le_refl _) (Nat.le_refl _) (by decide) (pm_ki (fun v1 σ' cnt' hq => ?_))
  have b1 := pm_b01 hq.1
  obtain ⟨I1, A1, rfl, rfl, h1⟩ := hv_id (kp := kp) (I := I) (A := A) h hq.2
  refine pm_if_eq (tgt := 25) hG dX11_own_11 rfl (fun c2 => ?_) (fun c2 => ?_)
  · refine pm_aloadn hG dX11_own_25 rfl ?_
    refine pm_ldc hG dX11_own_26 (ctX11_109 _ rfl) ?_
    refine pm_callV (As := [.int (-1000001)]) (rest := []) hG hR dX11_own_28 (lkX11_97 _ rfl) okV_X11_told rfl rfl (sx_told (d := 2) (by decide) rfl rfl) rfl rfl hdd (Nat.le_refl _) (Nat.le_refl _) (by decide) (pm_ki (fun v3 σ' cnt' hq => ?_))
    obtain ⟨-, ⟨g3, hg3⟩, hc3⟩ := hq
    obtain ⟨I3, A3, rfl, rfl, h3⟩ := hv_a53 (kp := kp) (I := I1) (A := A1) h1 ⟨hg3, hc3⟩
    exact pm_iret hG hF dX11_own_31 rfl (Nat.le_refl _) (Nat.le_refl _) ⟨_, rfl, _, _, rfl, rfl, h3⟩
  · refine pm_aloadn hG dX11_own_14 rfl ?_
    refine pm_getf hG dX11_own_15 (flX11_12 _ rfl) rfl rfl ?_
    refine pm_iloadn hG dX11_own_18 rfl ?_
    refine pm_callV (As := [.int zb]) (rest := []) hG hR dX11_own_19 (lkX11_174 _ rfl) okV_X7_isLivingOrNobody rfl rfl (g_X7_isLivingOrNobody (d := 2) (by decide) h1) rfl rfl hdd (Nat.le_refl _) (Nat.le_refl _) (by decide) (pm_ki (fun v4 σ' cnt' hq => ?_))
    obtain ⟨b4, I4, A4, rfl, rfl, h4⟩ := hq
    refine pm_if_ne (tgt := 32) hG dX11_own_22 rfl (fun c5 => ?_) (fun c5 => ?_)
    · refine pm_aloadn hG dX11_own_32 rfl ?_
      refine pm_getf hG dX11_own_33 (flX11_12 _ rfl) rfl rfl ?_
      refine pm_getf hG dX11_own_36 (flX11_82 _ rfl) rfl rfl ?_
      refine pm_iloadn hG dX11_own_39 rfl ?_
      refine pm_iconst (v := 2) hG dX11_own_40 (by decide) ?_
      refine pm_callV (As := [.int za, .int 2]) (rest := []) hG hR dX11_own_41 (lkX11_152 _ rfl) okV_X9_get rfl rfl (tb_get (d := 2) rfl rfl (pm_tw_of 10 3 (by decide) (by decide) (by decide))) rfl rfl hdd (Nat.le_refl _) (Nat.le_refl _) (by decide) (pm_ki (fun v6 σ' cnt' hq => ?_))
      obtain ⟨I6, A6, rfl, rfl, h6⟩ := hv_id (kp := kp) (I := I4) (A := A4) h4 hq.2
      refine pm_if_eq (tgt := 54) hG dX11_own_44 rfl (fun c7 => ?_) (fun c7 => ?_)
      · refine pm_aloadn hG dX11_own_54 rfl ?_
        refine pm_getf hG dX11_own_55 (flX11_12 _ rfl) rfl rfl ?_
        refine pm_getf hG dX11_own_58 (flX11_82 _ rfl) rfl rfl ?_
        refine pm_iloadn hG dX11_own_61 rfl ?_
        refine pm_iconst (v := 1) hG dX11_own_62 (by decide) ?_
        refine pm_iloadn hG dX11_own_63 rfl ?_
        refine pm_callV (As := [.int za, .int 1, .int zb]) (rest := []) hG hR dX11_own_64 (lkX11_248 _ rfl) okV_X9_swap rfl rfl (tb_swap (d := 2) (by decide) rfl rfl (pm_tw_of 10 3 (by decide) (by decide) (by decide)) (by decide)) rfl rfl hdd (Nat.le_refl _) (Nat.le_refl _) (by decide) (pm_ki (fun v8 σ' cnt' hq => ?_))
        obtain ⟨I8, A8, rfl, rfl, h8⟩ := hv_a3 (kp := kp) (I := I6) (A := A6) h6 hq.2
        exact pm_iret hG hF dX11_own_67 rfl (Nat.le_refl _) (Nat.le_refl _) ⟨_, rfl, _, _, rfl, rfl, h8⟩
      · refine pm_aloadn hG dX11_own_47 rfl ?_
        refine pm_ldc hG dX11_own_48 (ctX11_138 _ rfl) ?_
        refine pm_callV (As := [.int (-1000003)]) (rest := []) hG hR dX11_own_50 (lkX11_97 _ rfl) okV_X11_told rfl rfl (sx_told (d := 2) (by decide) rfl rfl) rfl rfl hdd (Nat.le_refl _) (Nat.le_refl _) (by decide) (pm_ki (fun v9 σ' cnt' hq => ?_))
        obtain ⟨-, ⟨g9, hg9⟩, hc9⟩ := hq
        obtain ⟨I9, A9, rfl, rfl, h9⟩ := hv_a53 (kp := kp) (I := I6) (A := A6) h6 ⟨hg9, hc9⟩
        exact pm_iret hG hF dX11_own_53 rfl (Nat.le_refl _) (Nat.le_refl _) ⟨_, rfl, _, _, rfl, rfl, h9⟩
    · refine pm_aloadn hG dX11_own_25 rfl ?_
      refine pm_ldc hG dX11_own_26 (ctX11_109 _ rfl) ?_
      refine pm_callV (As := [.int (-1000001)]) (rest := []) hG hR dX11_own_28 (lkX11_97 _ rfl) okV_X11_told rfl rfl (sx_told (d := 2) (by decide) rfl rfl) rfl rfl hdd (Nat.le_refl _) (Nat.le_refl _) (by decide) (pm_ki (fun v10 σ' cnt' hq => ?_))
      obtain ⟨-, ⟨g10, hg10⟩, hc10⟩ := hq
      obtain ⟨I10, A10, rfl, rfl, h10⟩ := hv_a53 (kp := kp) (I := I4) (A := A4) h4 ⟨hg10, hc10⟩
      exact pm_iret hG hF dX11_own_31 rfl (Nat.le_refl _) (Nat.le_refl _) ⟨_, rfl, _, _, rfl, rfl, h10⟩

set_option maxRecDepth 100000 in
set_option maxHeartbeats 4000000 in
theorem g_X11_pay {ε : Nat → Int32} {d B cnt : Nat} {kp : Value} {ρ : pm_S} {I : Nat → Int32} {A : Nat → Nat → Int32} {za zb : Int32} (hdd : 3 ≤ d) (h : gq ε I) : pm_met mX11_pay d 0 0 B [.ref (B + 0), .int za, .int zb] cnt (pm_two (cl_L B kp I A) ρ) (pm_Qi (fun _ σ' cnt' => hvq ε B kp ρ cnt σ' cnt')) := by
  refine pm_enter 0 (by decide) (Nat.le_of_ble_eq_true rfl) rfl (fun G hG hR hF => ?_)
  refine pm_aloadn hG dX11_pay_0 rfl ?_
  refine pm_getf hG dX11_pay_1 (flX11_12 _ rfl) rfl rfl ?_
  refine pm_getf hG dX11_pay_4 (flX11_128 _ rfl) rfl rfl ?_
  refine pm_iloadn hG dX11_pay_7 rfl ?_
  refine pm_callV (As := [.int za]) (rest := []) hG hR dX11_pay_8 (lkX11_101 _ rfl) okV_X9_has rfl rfl (tb_has (d := 2) rfl) rfl rfl hdd (Nat.le_refl _) (Nat.le_refl _) (by decide) (pm_ki (fun v1 σ' cnt' hq => ?_))
  have b1 := pm_b01 hq.1
  obtain ⟨I1, A1, rfl, rfl, h1⟩ := hv_id (kp := kp) (I := I) (A := A) h hq.2
  refine pm_if_eq (tgt := 25) hG dX11_pay_11 rfl (fun c2 => ?_) (fun c2 => ?_)
  · refine pm_aloadn hG dX11_pay_25 rfl ?_
    refine pm_ldc hG dX11_pay_26 (ctX11_109 _ rfl) ?_
    refine pm_callV (As := [.int (-1000001)]) (rest := []) hG hR dX11_pay_28 (lkX11_97 _ rfl) okV_X11_told rfl rfl (sx_told (d := 2) (by decide) rfl rfl) rfl rfl hdd (Nat.le_refl _) (Nat.le_refl _) (by decide) (pm_ki (fun v3 σ' cnt' hq => ?_))
    obtain ⟨-, ⟨g3, hg3⟩, hc3⟩ := hq
    obtain ⟨I3, A3, rfl, rfl, h3⟩ := hv_a53 (kp := kp) (I := I1) (A := A1) h1 ⟨hg3, hc3⟩
    exact pm_iret hG hF dX11_pay_31 rfl (Nat.le_refl _) (Nat.le_refl _) ⟨_, rfl, _, _, rfl, rfl, h3⟩
  · refine pm_iloadn hG dX11_pay_14 rfl ?_
    refine pm_iconst (v := 1) hG dX11_pay_15 (by decide) ?_
    refine pm_sipush (v := 9999) hG dX11_pay_16 (by decide) ?_
    refine pm_callS (As := [.int zb, .int 1, .int 9999]) (rest := []) hG hR dX11_pay_19 (lkX11_105 _ rfl) okS_X11_isOutside (sx_isOutside (d := 2)) rfl rfl hdd (Nat.le_refl _) (Nat.le_refl _) (by decide) (pm_ki (fun v4 σ' cnt' hq => ?_))
    have o4 := hq.1
    have b4 := pm_b10 hq.1
    obtain ⟨I4, A4, rfl, rfl, h4⟩ := hv_id (kp := kp) (I := I1) (A := A1) h1 hq.2
    refine pm_if_eq (tgt := 32) hG dX11_pay_22 rfl (fun c5 => ?_) (fun c5 => ?_)
    · refine pm_aloadn hG dX11_pay_32 rfl ?_
      refine pm_aloadn hG dX11_pay_33 rfl ?_
      refine pm_getf hG dX11_pay_34 (flX11_12 _ rfl) rfl rfl ?_
      refine pm_iloadn hG dX11_pay_37 rfl ?_
      refine pm_callV (As := [.int za]) (rest := [.ref (B + 0)]) hG hR dX11_pay_38 (lkX11_135 _ rfl) okV_X7_isLiving rfl rfl (g_X7_isLiving (d := 2) (by decide) h4) rfl rfl hdd (Nat.le_refl _) (Nat.le_refl _) (by first | decide | exact Nat.le_of_ble_eq_true rfl) (pm_ki (fun v6 σ' cnt' hq => ?_))
      obtain ⟨b6, I6, A6, rfl, rfl, h6⟩ := hq
      refine pm_if_eq (tgt := 56) hG dX11_pay_41 rfl (fun c7 => ?_) (fun c7 => ?_)
      · refine pm_ldc hG dX11_pay_56 (ctX11_138 _ rfl) ?_
        refine pm_callV (As := [.int (-1000003)]) (rest := []) hG hR dX11_pay_58 (lkX11_97 _ rfl) okV_X11_told rfl rfl (sx_told (d := 2) (by decide) rfl rfl) rfl rfl hdd (Nat.le_refl _) (Nat.le_refl _) (by decide) (pm_ki (fun v8 σ' cnt' hq => ?_))
        obtain ⟨-, ⟨g8, hg8⟩, hc8⟩ := hq
        obtain ⟨I8, A8, rfl, rfl, h8⟩ := hv_a53 (kp := kp) (I := I6) (A := A6) h6 ⟨hg8, hc8⟩
        exact pm_iret hG hF dX11_pay_61 rfl (Nat.le_refl _) (Nat.le_refl _) ⟨_, rfl, _, _, rfl, rfl, h8⟩
      · refine pm_aloadn hG dX11_pay_44 rfl ?_
        refine pm_getf hG dX11_pay_45 (flX11_12 _ rfl) rfl rfl ?_
        refine pm_iloadn hG dX11_pay_48 rfl ?_
        refine pm_iloadn hG dX11_pay_49 rfl ?_
        refine pm_callV (As := [.int za, .int zb]) (rest := [.ref (B + 0)]) hG hR dX11_pay_50 (lkX11_167 _ rfl) okV_X7_payFromChest rfl rfl (g_X7_payFromChest (d := 2) (by decide) h6) rfl rfl hdd (Nat.le_refl _) (Nat.le_refl _) (by first | decide | exact Nat.le_of_ble_eq_true rfl) (pm_ki (fun v9 σ' cnt' hq => ?_))
        obtain ⟨I9, A9, rfl, rfl, h9⟩ := hq
        refine pm_goto (tgt := 58) hG dX11_pay_53 rfl ?_
        refine pm_callV (As := [.int v9]) (rest := []) hG hR dX11_pay_58 (lkX11_97 _ rfl) okV_X11_told rfl rfl (sx_told (d := 2) (by decide) rfl rfl) rfl rfl hdd (Nat.le_refl _) (Nat.le_refl _) (by decide) (pm_ki (fun v10 σ' cnt' hq => ?_))
        obtain ⟨-, ⟨g10, hg10⟩, hc10⟩ := hq
        obtain ⟨I10, A10, rfl, rfl, h10⟩ := hv_a53 (kp := kp) (I := I9) (A := A9) h9 ⟨hg10, hc10⟩
        exact pm_iret hG hF dX11_pay_61 rfl (Nat.le_refl _) (Nat.le_refl _) ⟨_, rfl, _, _, rfl, rfl, h10⟩
    · refine pm_aloadn hG dX11_pay_25 rfl ?_
      refine pm_ldc hG dX11_pay_26 (ctX11_109 _ rfl) ?_
      refine pm_callV (As := [.int (-1000001)]) (rest := []) hG hR dX11_pay_28 (lkX11_97 _ rfl) okV_X11_told rfl rfl (sx_told (d := 2) (by decide) rfl rfl) rfl rfl hdd (Nat.le_refl _) (Nat.le_refl _) (by decide) (pm_ki (fun v11 σ' cnt' hq => ?_))
      obtain ⟨-, ⟨g11, hg11⟩, hc11⟩ := hq
      obtain ⟨I11, A11, rfl, rfl, h11⟩ := hv_a53 (kp := kp) (I := I4) (A := A4) h4 ⟨hg11, hc11⟩
      exact pm_iret hG hF dX11_pay_31 rfl (Nat.le_refl _) (Nat.le_refl _) ⟨_, rfl, _, _, rfl, rfl, h11⟩

set_option maxRecDepth 100000 in
set_option maxHeartbeats 4000000 in
theorem g_X7_mayBeParent {ε : Nat → Int32} {d B cnt : Nat} {kp : Value} {ρ : pm_S} {I : Nat → Int32} {A : Nat → Nat → Int32} {za zb zc : Int32} (hdd : 1 ≤ d) (h : gq ε I) : pm_met mX7_mayBeParent d 0 0 B [.ref (B + 1), .int za, .int zb, .int zc] cnt (pm_two (cl_L B kp I A) ρ) (pm_Qi (fun v σ' cnt' => (v = 0 ∨ v = 1) ∧ hvq ε B kp ρ cnt σ' cnt')) := by
  refine pm_enter 0 (by decide) (Nat.le_of_ble_eq_true rfl) rfl (fun G hG hR hF => ?_)
  refine pm_iloadn hG dX7_mayBeParent_0 rfl ?_
  refine pm_iconst (v := (-1)) hG dX7_mayBeParent_1 (by decide) ?_
  refine pm_icmp_eq (tgt := 42) hG dX7_mayBeParent_2 rfl (fun c1 => ?_) (fun c1 => ?_)
  · refine pm_iconst (v := 1) hG dX7_mayBeParent_42 (by decide) ?_
    refine pm_goto (tgt := 47) hG dX7_mayBeParent_43 rfl ?_
    exact pm_zret hG hF dX7_mayBeParent_47 rfl (pm_nz (Or.inr rfl)) (Nat.le_refl _) (Nat.le_refl _) ⟨_, rfl, (Or.inr rfl), _, _, rfl, rfl, h⟩
  · refine pm_aloadn hG dX7_mayBeParent_5 rfl ?_
    refine pm_getf hG dX7_mayBeParent_6 (flX7_23 _ rfl) rfl rfl ?_
    refine pm_iloadn hG dX7_mayBeParent_9 rfl ?_
    refine pm_callV (As := [.int za]) (rest := []) hG hR dX7_mayBeParent_10 (lkX7_93 _ rfl) okV_X9_has rfl rfl (tb_has (d := 0) rfl) rfl rfl hdd (Nat.le_refl _) (Nat.le_refl _) (by decide) (pm_ki (fun v2 σ' cnt' hq => ?_))
    have b2 := pm_b01 hq.1
    obtain ⟨I2, A2, rfl, rfl, h2⟩ := hv_id (kp := kp) (I := I) (A := A) h hq.2
    refine pm_if_eq (tgt := 46) hG dX7_mayBeParent_13 rfl (fun c3 => ?_) (fun c3 => ?_)
    · refine pm_iconst (v := 0) hG dX7_mayBeParent_46 (by decide) ?_
      exact pm_zret hG hF dX7_mayBeParent_47 rfl (pm_nz (Or.inl rfl)) (Nat.le_refl _) (Nat.le_refl _) ⟨_, rfl, (Or.inl rfl), _, _, rfl, rfl, h2⟩
    · refine pm_aloadn hG dX7_mayBeParent_16 rfl ?_
      refine pm_getf hG dX7_mayBeParent_17 (flX7_23 _ rfl) rfl rfl ?_
      refine pm_iloadn hG dX7_mayBeParent_20 rfl ?_
      refine pm_iconst (v := 0) hG dX7_mayBeParent_21 (by decide) ?_
      refine pm_callV (As := [.int za, .int 0]) (rest := []) hG hR dX7_mayBeParent_22 (lkX7_83 _ rfl) okV_X9_get rfl rfl (tb_get (d := 0) rfl rfl (pm_tw_of 20 14 (by decide) (by decide) (by decide))) rfl rfl hdd (Nat.le_refl _) (Nat.le_refl _) (by decide) (pm_ki (fun v4 σ' cnt' hq => ?_))
      obtain ⟨I4, A4, rfl, rfl, h4⟩ := hv_id (kp := kp) (I := I2) (A := A2) h2 hq.2
      refine pm_iloadn hG dX7_mayBeParent_25 rfl ?_
      refine pm_icmp_ne (tgt := 46) hG dX7_mayBeParent_26 rfl (fun c5 => ?_) (fun c5 => ?_)
      · refine pm_iconst (v := 0) hG dX7_mayBeParent_46 (by decide) ?_
        exact pm_zret hG hF dX7_mayBeParent_47 rfl (pm_nz (Or.inl rfl)) (Nat.le_refl _) (Nat.le_refl _) ⟨_, rfl, (Or.inl rfl), _, _, rfl, rfl, h4⟩
      · refine pm_aloadn hG dX7_mayBeParent_29 rfl ?_
        refine pm_getf hG dX7_mayBeParent_30 (flX7_23 _ rfl) rfl rfl ?_
        refine pm_iloadn hG dX7_mayBeParent_33 rfl ?_
        refine pm_iconst (v := 1) hG dX7_mayBeParent_34 (by decide) ?_
        refine pm_callV (As := [.int za, .int 1]) (rest := []) hG hR dX7_mayBeParent_35 (lkX7_83 _ rfl) okV_X9_get rfl rfl (tb_get (d := 0) rfl rfl (pm_tw_of 20 14 (by decide) (by decide) (by decide))) rfl rfl hdd (Nat.le_refl _) (Nat.le_refl _) (by decide) (pm_ki (fun v6 σ' cnt' hq => ?_))
        obtain ⟨I6, A6, rfl, rfl, h6⟩ := hv_id (kp := kp) (I := I4) (A := A4) h4 hq.2
        refine pm_iloadn hG dX7_mayBeParent_38 rfl ?_
        refine pm_icmp_ge (tgt := 46) hG dX7_mayBeParent_39 rfl (fun c7 => ?_) (fun c7 => ?_)
        · refine pm_iconst (v := 0) hG dX7_mayBeParent_46 (by decide) ?_
          exact pm_zret hG hF dX7_mayBeParent_47 rfl (pm_nz (Or.inl rfl)) (Nat.le_refl _) (Nat.le_refl _) ⟨_, rfl, (Or.inl rfl), _, _, rfl, rfl, h6⟩
        · refine pm_iconst (v := 1) hG dX7_mayBeParent_42 (by decide) ?_
          refine pm_goto (tgt := 47) hG dX7_mayBeParent_43 rfl ?_
          exact pm_zret hG hF dX7_mayBeParent_47 rfl (pm_nz (Or.inr rfl)) (Nat.le_refl _) (Nat.le_refl _) ⟨_, rfl, (Or.inr rfl), _, _, rfl, rfl, h6⟩

set_option maxRecDepth 100000 in
set_option maxHeartbeats 4000000 in
theorem g_X7_bringNearer {ε : Nat → Int32} {d B cnt : Nat} {kp : Value} {ρ : pm_S} {I : Nat → Int32} {A : Nat → Nat → Int32} {za zb : Int32} (hdd : 1 ≤ d) (h : gq ε I) : pm_met mX7_bringNearer d 0 0 B [.ref (B + 1), .int za, .int zb] cnt (pm_two (cl_L B kp I A) ρ) (pm_Qv (fun σ' cnt' => hvq ε B kp ρ cnt σ' cnt')) := by
  refine pm_enter 2 (by decide) (Nat.le_of_ble_eq_true rfl) rfl (fun G hG hR hF => ?_)
  refine pm_iloadn hG dX7_bringNearer_0 rfl ?_
  refine pm_iconst (v := (-1)) hG dX7_bringNearer_1 (by decide) ?_
  refine pm_icmp_eq (tgt := 64) hG dX7_bringNearer_2 rfl (fun c1 => ?_) (fun c1 => ?_)
  · exact pm_vret hG hF dX7_bringNearer_64 rfl (Nat.le_refl _) (Nat.le_refl _) ⟨rfl, _, _, rfl, rfl, h⟩
  · refine pm_aloadn hG dX7_bringNearer_5 rfl ?_
    refine pm_getf hG dX7_bringNearer_6 (flX7_23 _ rfl) rfl rfl ?_
    refine pm_iloadn hG dX7_bringNearer_9 rfl ?_
    refine pm_bipush (v := 11) hG dX7_bringNearer_10 (by decide) ?_
    refine pm_callV (As := [.int za, .int 11]) (rest := []) hG hR dX7_bringNearer_12 (lkX7_83 _ rfl) okV_X9_get rfl rfl (tb_get (d := 0) rfl rfl (pm_tw_of 20 14 (by decide) (by decide) (by decide))) rfl rfl hdd (Nat.le_refl _) (Nat.le_refl _) (by decide) (pm_ki (fun v2 σ' cnt' hq => ?_))
    obtain ⟨I2, A2, rfl, rfl, h2⟩ := hv_id (kp := kp) (I := I) (A := A) h hq.2
    refine pm_istoreXn (loc' := [some (.ref (B + 1)), some (.int za), some (.int zb), some (.int v2), none]) hG dX7_bringNearer_15 (by decide) (pm_c1b rfl) rfl ?_
    refine pm_aloadn hG dX7_bringNearer_16 rfl ?_
    refine pm_getf hG dX7_bringNearer_17 (flX7_23 _ rfl) rfl rfl ?_
    refine pm_iloadn hG dX7_bringNearer_20 rfl ?_
    refine pm_bipush (v := 11) hG dX7_bringNearer_21 (by decide) ?_
    refine pm_callV (As := [.int zb, .int 11]) (rest := []) hG hR dX7_bringNearer_23 (lkX7_83 _ rfl) okV_X9_get rfl rfl (tb_get (d := 0) rfl rfl (pm_tw_of 20 14 (by decide) (by decide) (by decide))) rfl rfl hdd (Nat.le_refl _) (Nat.le_refl _) (by decide) (pm_ki (fun v3 σ' cnt' hq => ?_))
    obtain ⟨I3, A3, rfl, rfl, h3⟩ := hv_id (kp := kp) (I := I2) (A := A2) h2 hq.2
    refine pm_istoreXi (loc' := [some (.ref (B + 1)), some (.int za), some (.int zb), some (.int v2), some (.int v3)]) hG dX7_bringNearer_26 (by decide) (pm_c1b rfl) rfl ?_
    refine pm_aloadn hG dX7_bringNearer_28 rfl ?_
    refine pm_getf hG dX7_bringNearer_29 (flX7_23 _ rfl) rfl rfl ?_
    refine pm_iloadn hG dX7_bringNearer_32 rfl ?_
    refine pm_bipush (v := 11) hG dX7_bringNearer_33 (by decide) ?_
    refine pm_iloadn hG dX7_bringNearer_35 rfl ?_
    refine pm_iloadi hG dX7_bringNearer_36 rfl ?_
    refine pm_iconst (v := 1) hG dX7_bringNearer_38 (by decide) ?_
    refine pm_iadd hG dX7_bringNearer_39 ?_
    refine pm_mmin hG hR dX7_bringNearer_40 (mmX7_87 _ rfl) pm_mwmin (by omega) (by first | decide | exact Nat.le_of_ble_eq_true rfl) (Nat.le_refl _) (Nat.le_refl _) ?_
    refine pm_callV (As := [.int za, .int 11, .int (if (v3 + 1) < v2 then v3 + 1 else v2)]) (rest := []) hG hR dX7_bringNearer_43 (lkX7_61 _ rfl) okV_X9_set rfl rfl (tb_set (d := 0) rfl rfl (pm_tw_of 20 14 (by decide) (by decide) (by decide)) (by decide)) rfl rfl hdd (Nat.le_refl _) (Nat.le_refl _) (by decide) (pm_kv (fun σ' cnt' hq => ?_))
    obtain ⟨I4, A4, rfl, rfl, h4⟩ := hv_a7 (kp := kp) (I := I3) (A := A3) h3 hq
    refine pm_aloadn hG dX7_bringNearer_46 rfl ?_
    refine pm_getf hG dX7_bringNearer_47 (flX7_23 _ rfl) rfl rfl ?_
    refine pm_iloadn hG dX7_bringNearer_50 rfl ?_
    refine pm_bipush (v := 11) hG dX7_bringNearer_51 (by decide) ?_
    refine pm_iloadi hG dX7_bringNearer_53 rfl ?_
    refine pm_iloadn hG dX7_bringNearer_55 rfl ?_
    refine pm_iconst (v := 1) hG dX7_bringNearer_56 (by decide) ?_
    refine pm_iadd hG dX7_bringNearer_57 ?_
    refine pm_mmin hG hR dX7_bringNearer_58 (mmX7_87 _ rfl) pm_mwmin (by omega) (by first | decide | exact Nat.le_of_ble_eq_true rfl) (Nat.le_refl _) (Nat.le_refl _) ?_
    refine pm_callV (As := [.int zb, .int 11, .int (if (v2 + 1) < v3 then v2 + 1 else v3)]) (rest := []) hG hR dX7_bringNearer_61 (lkX7_61 _ rfl) okV_X9_set rfl rfl (tb_set (d := 0) rfl rfl (pm_tw_of 20 14 (by decide) (by decide) (by decide)) (by decide)) rfl rfl hdd (Nat.le_refl _) (Nat.le_refl _) (by decide) (pm_kv (fun σ' cnt' hq => ?_))
    obtain ⟨I5, A5, rfl, rfl, h5⟩ := hv_a7 (kp := kp) (I := I4) (A := A4) h4 hq
    exact pm_vret hG hF dX7_bringNearer_64 rfl (Nat.le_refl _) (Nat.le_refl _) ⟨rfl, _, _, rfl, rfl, h5⟩

set_option maxRecDepth 100000 in
set_option maxHeartbeats 4000000 in
theorem g_X7_findSteps {ε : Nat → Int32} {d B cnt : Nat} {kp : Value} {ρ : pm_S} {I : Nat → Int32} {A : Nat → Nat → Int32} (hdd : 2 ≤ d) (h : gq ε I) : pm_met mX7_findSteps d 0 0 B [.ref (B + 1)] cnt (pm_two (cl_L B kp I A) ρ) (pm_Qv (fun σ' cnt' => hvq ε B kp ρ cnt σ' cnt')) := by
  refine pm_enter 3 (by decide) (Nat.le_of_ble_eq_true rfl) rfl (fun G hG hR hF => ?_)
  refine pm_aloadn hG dX7_findSteps_0 rfl ?_
  refine pm_getf hG dX7_findSteps_1 (flX7_23 _ rfl) rfl rfl ?_
  refine pm_callV (As := []) (rest := []) hG hR dX7_findSteps_4 (lkX7_79 _ rfl) okV_X9_used rfl rfl (tb_used (d := 1) rfl) rfl rfl hdd (Nat.le_refl _) (Nat.le_refl _) (by decide) (pm_ki (fun v1 σ' cnt' hq => ?_))
  obtain ⟨I1, A1, rfl, rfl, h1⟩ := hv_id (kp := kp) (I := I) (A := A) h hq.2
  refine pm_istoreXn (loc' := [some (.ref (B + 1)), some (.int v1), none, none]) hG dX7_findSteps_7 (by decide) (pm_c1b rfl) rfl ?_
  refine pm_iconst (v := 0) hG dX7_findSteps_8 (by decide) ?_
  refine pm_istoreXn (loc' := [some (.ref (B + 1)), some (.int v1), some (.int 0), none]) hG dX7_findSteps_9 (by decide) (pm_c1b rfl) rfl ?_
  have loop10 : ∀ (m10 : Nat) (I2 : Nat → Int32) (A2 : Nat → Nat → Int32) (x2_2 : Int32), gq ε I2 → (¬ x2_2 < 0) → ((v1 : Int32).toInt - x2_2.toInt).toNat < m10 → pm_wp mX7_findSteps G B 10 [some (.ref (B + 1)), some (.int v1), some (.int x2_2), none] [] 0 0 cnt (pm_two (cl_L B kp I2 A2) ρ) := by
    intro m10
    induction m10 with
    | zero => intro I2 A2 x2_2 _  _ hm; exact absurd hm (Nat.not_lt_zero _)
    | succ m10 ih10 =>
      intro I2 A2 x2_2 h2 s10 hm10
      refine pm_iloadn hG dX7_findSteps_10 rfl ?_
      refine pm_iloadn hG dX7_findSteps_11 rfl ?_
      refine pm_icmp_ge (tgt := 62) hG dX7_findSteps_12 rfl (fun c3 => ?_) (fun c3 => ?_)
      · exact pm_vret hG hF dX7_findSteps_62 rfl (Nat.le_refl _) (Nat.le_refl _) ⟨rfl, _, _, rfl, rfl, h2⟩
      · refine pm_iconst (v := 0) hG dX7_findSteps_15 (by decide) ?_
        refine pm_istoreXn (loc' := [some (.ref (B + 1)), some (.int v1), some (.int x2_2), some (.int 0)]) hG dX7_findSteps_16 (by decide) (pm_c1b rfl) rfl ?_
        have loop17 : ∀ (m17 : Nat) (I4 : Nat → Int32) (A4 : Nat → Nat → Int32) (x4_3 : Int32), gq ε I4 → (¬ x4_3 < 0) → ((v1 : Int32).toInt - x4_3.toInt).toNat < m17 → pm_wp mX7_findSteps G B 17 [some (.ref (B + 1)), some (.int v1), some (.int x2_2), some (.int x4_3)] [] 0 0 cnt (pm_two (cl_L B kp I4 A4) ρ) := by
          intro m17
          induction m17 with
          | zero => intro I4 A4 x4_3 _  _ hm; exact absurd hm (Nat.not_lt_zero _)
          | succ m17 ih17 =>
            intro I4 A4 x4_3 h4 s17 hm17
            refine pm_iloadn hG dX7_findSteps_17 rfl ?_
            refine pm_iloadn hG dX7_findSteps_18 rfl ?_
            refine pm_icmp_ge (tgt := 56) hG dX7_findSteps_19 rfl (fun c5 => ?_) (fun c5 => ?_)
            · refine pm_iincX (v := x2_2 + 1) (loc' := [some (.ref (B + 1)), some (.int v1), some (.int (x2_2 + 1)), some (.int x4_3)]) hG dX7_findSteps_56 rfl (by rfl) (by decide) (pm_c1b rfl) rfl ?_
              refine pm_goto (tgt := 10) hG dX7_findSteps_59 rfl ?_
              refine pm_fg 3 (loc' := [some (.ref (B + 1)), some (.int v1), some (.int (x2_2 + 1)), none]) rfl ?_
              exact ih10 _ _ (x2_2 + 1) h4 (pm_sd1 c3 s10) (Nat.lt_of_lt_of_le (pm_mu1 c3) (Nat.le_of_lt_succ hm10))
            · refine pm_aloadn hG dX7_findSteps_22 rfl ?_
              refine pm_iloadn hG dX7_findSteps_23 rfl ?_
              refine pm_aloadn hG dX7_findSteps_24 rfl ?_
              refine pm_getf hG dX7_findSteps_25 (flX7_23 _ rfl) rfl rfl ?_
              refine pm_iloadn hG dX7_findSteps_28 rfl ?_
              refine pm_iconst (v := 2) hG dX7_findSteps_29 (by decide) ?_
              refine pm_callV (As := [.int x4_3, .int 2]) (rest := [.int x4_3, .ref (B + 1)]) hG hR dX7_findSteps_30 (lkX7_83 _ rfl) okV_X9_get rfl rfl (tb_get (d := 1) rfl rfl (pm_tw_of 20 14 (by decide) (by decide) (by decide))) rfl rfl hdd (Nat.le_refl _) (Nat.le_refl _) (by first | decide | exact Nat.le_of_ble_eq_true rfl) (pm_ki (fun v6 σ' cnt' hq => ?_))
              obtain ⟨I6, A6, rfl, rfl, h6⟩ := hv_id (kp := kp) (I := I4) (A := A4) h4 hq.2
              refine pm_callV (As := [.int x4_3, .int v6]) (rest := []) hG hR dX7_findSteps_33 (lkX7_100 _ rfl) okV_X7_bringNearer rfl rfl (g_X7_bringNearer (d := 1) (by decide) h6) rfl rfl hdd (Nat.le_refl _) (Nat.le_refl _) (by decide) (pm_kv (fun σ' cnt' hq => ?_))
              obtain ⟨I7, A7, rfl, rfl, h7⟩ := hq
              refine pm_aloadn hG dX7_findSteps_36 rfl ?_
              refine pm_iloadn hG dX7_findSteps_37 rfl ?_
              refine pm_aloadn hG dX7_findSteps_38 rfl ?_
              refine pm_getf hG dX7_findSteps_39 (flX7_23 _ rfl) rfl rfl ?_
              refine pm_iloadn hG dX7_findSteps_42 rfl ?_
              refine pm_iconst (v := 3) hG dX7_findSteps_43 (by decide) ?_
              refine pm_callV (As := [.int x4_3, .int 3]) (rest := [.int x4_3, .ref (B + 1)]) hG hR dX7_findSteps_44 (lkX7_83 _ rfl) okV_X9_get rfl rfl (tb_get (d := 1) rfl rfl (pm_tw_of 20 14 (by decide) (by decide) (by decide))) rfl rfl hdd (Nat.le_refl _) (Nat.le_refl _) (by first | decide | exact Nat.le_of_ble_eq_true rfl) (pm_ki (fun v8 σ' cnt' hq => ?_))
              obtain ⟨I8, A8, rfl, rfl, h8⟩ := hv_id (kp := kp) (I := I7) (A := A7) h7 hq.2
              refine pm_callV (As := [.int x4_3, .int v8]) (rest := []) hG hR dX7_findSteps_47 (lkX7_100 _ rfl) okV_X7_bringNearer rfl rfl (g_X7_bringNearer (d := 1) (by decide) h8) rfl rfl hdd (Nat.le_refl _) (Nat.le_refl _) (by decide) (pm_kv (fun σ' cnt' hq => ?_))
              obtain ⟨I9, A9, rfl, rfl, h9⟩ := hq
              refine pm_iincX (v := x4_3 + 1) (loc' := [some (.ref (B + 1)), some (.int v1), some (.int x2_2), some (.int (x4_3 + 1))]) hG dX7_findSteps_50 rfl (by rfl) (by decide) (pm_c1b rfl) rfl ?_
              refine pm_goto (tgt := 17) hG dX7_findSteps_53 rfl ?_
              exact ih17 _ _ (x4_3 + 1) h9 (pm_sd1 c5 s17) (Nat.lt_of_lt_of_le (pm_mu1 c5) (Nat.le_of_lt_succ hm17))
        exact loop17 _ _ _ 0 h2 (by decide) (Nat.lt_succ_self _)
  exact loop10 _ _ _ 0 h1 (by decide) (Nat.lt_succ_self _)

set_option maxRecDepth 100000 in
set_option maxHeartbeats 4000000 in
theorem g_X7_addPerson {ε : Nat → Int32} {d B cnt : Nat} {kp : Value} {ρ : pm_S} {I : Nat → Int32} {A : Nat → Nat → Int32} {za zb zc zd ze : Int32} (hdd : 3 ≤ d) (h : gq ε I) : pm_met mX7_addPerson d 0 0 B [.ref (B + 1), .int za, .int zb, .int zc, .int zd, .int ze] cnt (pm_two (cl_L B kp I A) ρ) (pm_Qi (fun _ σ' cnt' => hvq ε B kp ρ cnt σ' cnt')) := by
  refine pm_enter 1 (by decide) (Nat.le_of_ble_eq_true rfl) rfl (fun G hG hR hF => ?_)
  refine pm_aloadn hG dX7_addPerson_0 rfl ?_
  refine pm_getf hG dX7_addPerson_1 (flX7_23 _ rfl) rfl rfl ?_
  refine pm_iloadn hG dX7_addPerson_4 rfl ?_
  obtain ⟨k1, hk1, hu1⟩ := gq.used h 6 20 (by decide)
  have ht1 : pm_two (cl_L B kp I A) ρ 6 = some (.inr (9, [.int (nI 20), .int (nI 14), .ref (B + 7), .int (nI k1)])) := by rw [← hu1]; rfl
  refine pm_callV (As := [.int za]) (rest := []) hG hR dX7_addPerson_5 (lkX7_75 _ rfl) okV_X9_append rfl rfl (tb_append (d := 2) (by decide) ht1 rfl (by decide) (by decide) (by decide) (by decide) (by decide) (by decide) hk1) rfl rfl hdd (Nat.le_refl _) (Nat.le_refl _) (by decide) (pm_ki (fun v1 σ' cnt' hq => ?_))
  obtain ⟨I1, A1, rfl, rfl, h1⟩ := hv_p6 (kp := kp) (I := I) (A := A) hk1 h hq
  refine pm_istoreXi (loc' := [some (.ref (B + 1)), some (.int za), some (.int zb), some (.int zc), some (.int zd), some (.int ze), some (.int v1)]) hG dX7_addPerson_8 (by decide) (pm_c1b rfl) rfl ?_
  refine pm_aloadn hG dX7_addPerson_10 rfl ?_
  refine pm_getf hG dX7_addPerson_11 (flX7_23 _ rfl) rfl rfl ?_
  refine pm_iloadi hG dX7_addPerson_14 rfl ?_
  refine pm_iconst (v := 1) hG dX7_addPerson_16 (by decide) ?_
  refine pm_iloadn hG dX7_addPerson_17 rfl ?_
  refine pm_callV (As := [.int v1, .int 1, .int zb]) (rest := []) hG hR dX7_addPerson_18 (lkX7_61 _ rfl) okV_X9_set rfl rfl (tb_set (d := 2) rfl rfl (pm_tw_of 20 14 (by decide) (by decide) (by decide)) (by decide)) rfl rfl hdd (Nat.le_refl _) (Nat.le_refl _) (by decide) (pm_kv (fun σ' cnt' hq => ?_))
  obtain ⟨I2, A2, rfl, rfl, h2⟩ := hv_a7 (kp := kp) (I := I1) (A := A1) h1 hq
  refine pm_aloadn hG dX7_addPerson_21 rfl ?_
  refine pm_getf hG dX7_addPerson_22 (flX7_23 _ rfl) rfl rfl ?_
  refine pm_iloadi hG dX7_addPerson_25 rfl ?_
  refine pm_iconst (v := 2) hG dX7_addPerson_27 (by decide) ?_
  refine pm_iloadn hG dX7_addPerson_28 rfl ?_
  refine pm_callV (As := [.int v1, .int 2, .int zc]) (rest := []) hG hR dX7_addPerson_29 (lkX7_61 _ rfl) okV_X9_set rfl rfl (tb_set (d := 2) rfl rfl (pm_tw_of 20 14 (by decide) (by decide) (by decide)) (by decide)) rfl rfl hdd (Nat.le_refl _) (Nat.le_refl _) (by decide) (pm_kv (fun σ' cnt' hq => ?_))
  obtain ⟨I3, A3, rfl, rfl, h3⟩ := hv_a7 (kp := kp) (I := I2) (A := A2) h2 hq
  refine pm_aloadn hG dX7_addPerson_32 rfl ?_
  refine pm_getf hG dX7_addPerson_33 (flX7_23 _ rfl) rfl rfl ?_
  refine pm_iloadi hG dX7_addPerson_36 rfl ?_
  refine pm_iconst (v := 3) hG dX7_addPerson_38 (by decide) ?_
  refine pm_iloadi hG dX7_addPerson_39 rfl ?_
  refine pm_callV (As := [.int v1, .int 3, .int zd]) (rest := []) hG hR dX7_addPerson_41 (lkX7_61 _ rfl) okV_X9_set rfl rfl (tb_set (d := 2) rfl rfl (pm_tw_of 20 14 (by decide) (by decide) (by decide)) (by decide)) rfl rfl hdd (Nat.le_refl _) (Nat.le_refl _) (by decide) (pm_kv (fun σ' cnt' hq => ?_))
  obtain ⟨I4, A4, rfl, rfl, h4⟩ := hv_a7 (kp := kp) (I := I3) (A := A3) h3 hq
  refine pm_aloadn hG dX7_addPerson_44 rfl ?_
  refine pm_getf hG dX7_addPerson_45 (flX7_23 _ rfl) rfl rfl ?_
  refine pm_iloadi hG dX7_addPerson_48 rfl ?_
  refine pm_iconst (v := 4) hG dX7_addPerson_50 (by decide) ?_
  refine pm_iloadi hG dX7_addPerson_51 rfl ?_
  refine pm_callV (As := [.int v1, .int 4, .int ze]) (rest := []) hG hR dX7_addPerson_53 (lkX7_61 _ rfl) okV_X9_set rfl rfl (tb_set (d := 2) rfl rfl (pm_tw_of 20 14 (by decide) (by decide) (by decide)) (by decide)) rfl rfl hdd (Nat.le_refl _) (Nat.le_refl _) (by decide) (pm_kv (fun σ' cnt' hq => ?_))
  obtain ⟨I5, A5, rfl, rfl, h5⟩ := hv_a7 (kp := kp) (I := I4) (A := A4) h4 hq
  refine pm_aloadn hG dX7_addPerson_56 rfl ?_
  refine pm_getf hG dX7_addPerson_57 (flX7_23 _ rfl) rfl rfl ?_
  refine pm_iloadi hG dX7_addPerson_60 rfl ?_
  refine pm_bipush (v := 10) hG dX7_addPerson_62 (by decide) ?_
  refine pm_iconst (v := (-1)) hG dX7_addPerson_64 (by decide) ?_
  refine pm_callV (As := [.int v1, .int 10, .int (-1)]) (rest := []) hG hR dX7_addPerson_65 (lkX7_61 _ rfl) okV_X9_set rfl rfl (tb_set (d := 2) rfl rfl (pm_tw_of 20 14 (by decide) (by decide) (by decide)) (by decide)) rfl rfl hdd (Nat.le_refl _) (Nat.le_refl _) (by decide) (pm_kv (fun σ' cnt' hq => ?_))
  obtain ⟨I6, A6, rfl, rfl, h6⟩ := hv_a7 (kp := kp) (I := I5) (A := A5) h5 hq
  refine pm_aloadn hG dX7_addPerson_68 rfl ?_
  refine pm_getf hG dX7_addPerson_69 (flX7_23 _ rfl) rfl rfl ?_
  refine pm_iloadi hG dX7_addPerson_72 rfl ?_
  refine pm_bipush (v := 11) hG dX7_addPerson_74 (by decide) ?_
  refine pm_iloadi hG dX7_addPerson_76 rfl ?_
  refine pm_if_ne (tgt := 85) hG dX7_addPerson_78 rfl (fun c7 => ?_) (fun c7 => ?_)
  · refine pm_bipush (v := 99) hG dX7_addPerson_85 (by decide) ?_
    refine pm_callV (As := [.int v1, .int 11, .int 99]) (rest := []) hG hR dX7_addPerson_87 (lkX7_61 _ rfl) okV_X9_set rfl rfl (tb_set (d := 2) rfl rfl (pm_tw_of 20 14 (by decide) (by decide) (by decide)) (by decide)) rfl rfl hdd (Nat.le_refl _) (Nat.le_refl _) (by decide) (pm_kv (fun σ' cnt' hq => ?_))
    obtain ⟨I8, A8, rfl, rfl, h8⟩ := hv_a7 (kp := kp) (I := I6) (A := A6) h6 hq
    refine pm_aloadn hG dX7_addPerson_90 rfl ?_
    refine pm_getf hG dX7_addPerson_91 (flX7_23 _ rfl) rfl rfl ?_
    refine pm_iloadi hG dX7_addPerson_94 rfl ?_
    refine pm_bipush (v := 12) hG dX7_addPerson_96 (by decide) ?_
    refine pm_iconst (v := 1) hG dX7_addPerson_98 (by decide) ?_
    refine pm_callV (As := [.int v1, .int 12, .int 1]) (rest := []) hG hR dX7_addPerson_99 (lkX7_61 _ rfl) okV_X9_set rfl rfl (tb_set (d := 2) rfl rfl (pm_tw_of 20 14 (by decide) (by decide) (by decide)) (by decide)) rfl rfl hdd (Nat.le_refl _) (Nat.le_refl _) (by decide) (pm_kv (fun σ' cnt' hq => ?_))
    obtain ⟨I9, A9, rfl, rfl, h9⟩ := hv_a7 (kp := kp) (I := I8) (A := A8) h8 hq
    refine pm_aloadn hG dX7_addPerson_102 rfl ?_
    refine pm_callV (As := []) (rest := []) hG hR dX7_addPerson_103 (lkX7_97 _ rfl) okV_X7_findSteps rfl rfl (g_X7_findSteps (d := 2) (by decide) h9) rfl rfl hdd (Nat.le_refl _) (Nat.le_refl _) (by decide) (pm_kv (fun σ' cnt' hq => ?_))
    obtain ⟨I10, A10, rfl, rfl, h10⟩ := hq
    refine pm_iloadi hG dX7_addPerson_106 rfl ?_
    exact pm_iret hG hF dX7_addPerson_108 rfl (Nat.le_refl _) (Nat.le_refl _) ⟨_, rfl, _, _, rfl, rfl, h10⟩
  · refine pm_iconst (v := 0) hG dX7_addPerson_81 (by decide) ?_
    refine pm_goto (tgt := 87) hG dX7_addPerson_82 rfl ?_
    refine pm_callV (As := [.int v1, .int 11, .int 0]) (rest := []) hG hR dX7_addPerson_87 (lkX7_61 _ rfl) okV_X9_set rfl rfl (tb_set (d := 2) rfl rfl (pm_tw_of 20 14 (by decide) (by decide) (by decide)) (by decide)) rfl rfl hdd (Nat.le_refl _) (Nat.le_refl _) (by decide) (pm_kv (fun σ' cnt' hq => ?_))
    obtain ⟨I11, A11, rfl, rfl, h11⟩ := hv_a7 (kp := kp) (I := I6) (A := A6) h6 hq
    refine pm_aloadn hG dX7_addPerson_90 rfl ?_
    refine pm_getf hG dX7_addPerson_91 (flX7_23 _ rfl) rfl rfl ?_
    refine pm_iloadi hG dX7_addPerson_94 rfl ?_
    refine pm_bipush (v := 12) hG dX7_addPerson_96 (by decide) ?_
    refine pm_iconst (v := 1) hG dX7_addPerson_98 (by decide) ?_
    refine pm_callV (As := [.int v1, .int 12, .int 1]) (rest := []) hG hR dX7_addPerson_99 (lkX7_61 _ rfl) okV_X9_set rfl rfl (tb_set (d := 2) rfl rfl (pm_tw_of 20 14 (by decide) (by decide) (by decide)) (by decide)) rfl rfl hdd (Nat.le_refl _) (Nat.le_refl _) (by decide) (pm_kv (fun σ' cnt' hq => ?_))
    obtain ⟨I12, A12, rfl, rfl, h12⟩ := hv_a7 (kp := kp) (I := I11) (A := A11) h11 hq
    refine pm_aloadn hG dX7_addPerson_102 rfl ?_
    refine pm_callV (As := []) (rest := []) hG hR dX7_addPerson_103 (lkX7_97 _ rfl) okV_X7_findSteps rfl rfl (g_X7_findSteps (d := 2) (by decide) h12) rfl rfl hdd (Nat.le_refl _) (Nat.le_refl _) (by decide) (pm_kv (fun σ' cnt' hq => ?_))
    obtain ⟨I13, A13, rfl, rfl, h13⟩ := hq
    refine pm_iloadi hG dX7_addPerson_106 rfl ?_
    exact pm_iret hG hF dX7_addPerson_108 rfl (Nat.le_refl _) (Nat.le_refl _) ⟨_, rfl, _, _, rfl, rfl, h13⟩

set_option maxRecDepth 100000 in
set_option maxHeartbeats 4000000 in
theorem g_X11_person {ε : Nat → Int32} {d B cnt : Nat} {kp : Value} {ρ : pm_S} {I : Nat → Int32} {A : Nat → Nat → Int32} {za zb zc zd : Int32} (hdd : 4 ≤ d) (h : gq ε I) : pm_met mX11_person d 0 0 B [.ref (B + 0), .int za, .int zb, .int zc, .int zd] cnt (pm_two (cl_L B kp I A) ρ) (pm_Qi (fun _ σ' cnt' => hvq ε B kp ρ cnt σ' cnt')) := by
  refine pm_enter 2 (by decide) (Nat.le_of_ble_eq_true rfl) rfl (fun G hG hR hF => ?_)
  refine pm_iloadn hG dX11_person_0 rfl ?_
  refine pm_bipush (v := 100) hG dX11_person_1 (by decide) ?_
  refine pm_idiv hG dX11_person_3 (by decide) ?_
  refine pm_iconst (v := 1) hG dX11_person_4 (by decide) ?_
  refine pm_isub hG dX11_person_5 ?_
  refine pm_istoreXi (loc' := [some (.ref (B + 0)), some (.int za), some (.int zb), some (.int zc), some (.int zd), some (.int ((zc / 100) - 1)), none]) hG dX11_person_6 (by decide) (pm_c1b rfl) rfl ?_
  refine pm_iloadn hG dX11_person_8 rfl ?_
  refine pm_bipush (v := 100) hG dX11_person_9 (by decide) ?_
  refine pm_irem hG dX11_person_11 (by decide) ?_
  refine pm_iconst (v := 1) hG dX11_person_12 (by decide) ?_
  refine pm_isub hG dX11_person_13 ?_
  refine pm_istoreXi (loc' := [some (.ref (B + 0)), some (.int za), some (.int zb), some (.int zc), some (.int zd), some (.int ((zc / 100) - 1)), some (.int ((zc - zc / 100 * 100) - 1))]) hG dX11_person_14 (by decide) (pm_c1b rfl) rfl ?_
  refine pm_iloadn hG dX11_person_16 rfl ?_
  refine pm_iconst (v := 0) hG dX11_person_17 (by decide) ?_
  refine pm_iconst (v := 1) hG dX11_person_18 (by decide) ?_
  refine pm_callS (As := [.int za, .int 0, .int 1]) (rest := []) hG hR dX11_person_19 (lkX11_105 _ rfl) okS_X11_isOutside (sx_isOutside (d := 3)) rfl rfl hdd (Nat.le_refl _) (Nat.le_refl _) (by decide) (pm_ki (fun v1 σ' cnt' hq => ?_))
  have o1 := hq.1
  have b1 := pm_b10 hq.1
  obtain ⟨I1, A1, rfl, rfl, h1⟩ := hv_id (kp := kp) (I := I) (A := A) h hq.2
  refine pm_if_ne (tgt := 89) hG dX11_person_22 rfl (fun c2 => ?_) (fun c2 => ?_)
  · refine pm_aloadn hG dX11_person_89 rfl ?_
    refine pm_ldc hG dX11_person_90 (ctX11_109 _ rfl) ?_
    refine pm_callV (As := [.int (-1000001)]) (rest := []) hG hR dX11_person_92 (lkX11_97 _ rfl) okV_X11_told rfl rfl (sx_told (d := 3) (by decide) rfl rfl) rfl rfl hdd (Nat.le_refl _) (Nat.le_refl _) (by decide) (pm_ki (fun v3 σ' cnt' hq => ?_))
    obtain ⟨-, ⟨g3, hg3⟩, hc3⟩ := hq
    obtain ⟨I3, A3, rfl, rfl, h3⟩ := hv_a53 (kp := kp) (I := I1) (A := A1) h1 ⟨hg3, hc3⟩
    exact pm_iret hG hF dX11_person_95 rfl (Nat.le_refl _) (Nat.le_refl _) ⟨_, rfl, _, _, rfl, rfl, h3⟩
  · refine pm_iloadn hG dX11_person_25 rfl ?_
    refine pm_sipush (v := (-20000)) hG dX11_person_26 (by decide) ?_
    refine pm_aloadn hG dX11_person_29 rfl ?_
    refine pm_getf hG dX11_person_30 (flX11_12 _ rfl) rfl rfl ?_
    refine pm_getf hG dX11_person_33 (flX11_122 _ rfl) rfl rfl ?_
    refine pm_callS (As := [.int zb, .int (-20000), .int (I1 102)]) (rest := []) hG hR dX11_person_36 (lkX11_105 _ rfl) okS_X11_isOutside (sx_isOutside (d := 3)) rfl rfl hdd (Nat.le_refl _) (Nat.le_refl _) (by decide) (pm_ki (fun v4 σ' cnt' hq => ?_))
    have o4 := hq.1
    have b4 := pm_b10 hq.1
    obtain ⟨I4, A4, rfl, rfl, h4⟩ := hv_id (kp := kp) (I := I1) (A := A1) h1 hq.2
    refine pm_if_ne (tgt := 89) hG dX11_person_39 rfl (fun c5 => ?_) (fun c5 => ?_)
    · refine pm_aloadn hG dX11_person_89 rfl ?_
      refine pm_ldc hG dX11_person_90 (ctX11_109 _ rfl) ?_
      refine pm_callV (As := [.int (-1000001)]) (rest := []) hG hR dX11_person_92 (lkX11_97 _ rfl) okV_X11_told rfl rfl (sx_told (d := 3) (by decide) rfl rfl) rfl rfl hdd (Nat.le_refl _) (Nat.le_refl _) (by decide) (pm_ki (fun v6 σ' cnt' hq => ?_))
      obtain ⟨-, ⟨g6, hg6⟩, hc6⟩ := hq
      obtain ⟨I6, A6, rfl, rfl, h6⟩ := hv_a53 (kp := kp) (I := I4) (A := A4) h4 ⟨hg6, hc6⟩
      exact pm_iret hG hF dX11_person_95 rfl (Nat.le_refl _) (Nat.le_refl _) ⟨_, rfl, _, _, rfl, rfl, h6⟩
    · refine pm_iloadn hG dX11_person_42 rfl ?_
      refine pm_if_lt (tgt := 89) hG dX11_person_43 rfl (fun c7 => ?_) (fun c7 => ?_)
      · refine pm_aloadn hG dX11_person_89 rfl ?_
        refine pm_ldc hG dX11_person_90 (ctX11_109 _ rfl) ?_
        refine pm_callV (As := [.int (-1000001)]) (rest := []) hG hR dX11_person_92 (lkX11_97 _ rfl) okV_X11_told rfl rfl (sx_told (d := 3) (by decide) rfl rfl) rfl rfl hdd (Nat.le_refl _) (Nat.le_refl _) (by decide) (pm_ki (fun v8 σ' cnt' hq => ?_))
        obtain ⟨-, ⟨g8, hg8⟩, hc8⟩ := hq
        obtain ⟨I8, A8, rfl, rfl, h8⟩ := hv_a53 (kp := kp) (I := I4) (A := A4) h4 ⟨hg8, hc8⟩
        exact pm_iret hG hF dX11_person_95 rfl (Nat.le_refl _) (Nat.le_refl _) ⟨_, rfl, _, _, rfl, rfl, h8⟩
      · refine pm_aloadn hG dX11_person_46 rfl ?_
        refine pm_getf hG dX11_person_47 (flX11_12 _ rfl) rfl rfl ?_
        refine pm_getf hG dX11_person_50 (flX11_82 _ rfl) rfl rfl ?_
        refine pm_iloadi hG dX11_person_53 rfl ?_
        refine pm_callV (As := [.int zd]) (rest := []) hG hR dX11_person_55 (lkX11_101 _ rfl) okV_X9_has rfl rfl (tb_has (d := 3) rfl) rfl rfl hdd (Nat.le_refl _) (Nat.le_refl _) (by decide) (pm_ki (fun v9 σ' cnt' hq => ?_))
        have b9 := pm_b01 hq.1
        obtain ⟨I9, A9, rfl, rfl, h9⟩ := hv_id (kp := kp) (I := I4) (A := A4) h4 hq.2
        refine pm_if_eq (tgt := 89) hG dX11_person_58 rfl (fun c10 => ?_) (fun c10 => ?_)
        · refine pm_aloadn hG dX11_person_89 rfl ?_
          refine pm_ldc hG dX11_person_90 (ctX11_109 _ rfl) ?_
          refine pm_callV (As := [.int (-1000001)]) (rest := []) hG hR dX11_person_92 (lkX11_97 _ rfl) okV_X11_told rfl rfl (sx_told (d := 3) (by decide) rfl rfl) rfl rfl hdd (Nat.le_refl _) (Nat.le_refl _) (by decide) (pm_ki (fun v11 σ' cnt' hq => ?_))
          obtain ⟨-, ⟨g11, hg11⟩, hc11⟩ := hq
          obtain ⟨I11, A11, rfl, rfl, h11⟩ := hv_a53 (kp := kp) (I := I9) (A := A9) h9 ⟨hg11, hc11⟩
          exact pm_iret hG hF dX11_person_95 rfl (Nat.le_refl _) (Nat.le_refl _) ⟨_, rfl, _, _, rfl, rfl, h11⟩
        · refine pm_aloadn hG dX11_person_61 rfl ?_
          refine pm_getf hG dX11_person_62 (flX11_12 _ rfl) rfl rfl ?_
          refine pm_iloadi hG dX11_person_65 rfl ?_
          refine pm_iconst (v := 1) hG dX11_person_67 (by decide) ?_
          refine pm_iloadn hG dX11_person_68 rfl ?_
          refine pm_callV (As := [.int ((zc / 100) - 1), .int 1, .int zb]) (rest := []) hG hR dX11_person_69 (lkX11_125 _ rfl) okV_X7_mayBeParent rfl rfl (g_X7_mayBeParent (d := 3) (by decide) h9) rfl rfl hdd (Nat.le_refl _) (Nat.le_refl _) (by decide) (pm_ki (fun v12 σ' cnt' hq => ?_))
          obtain ⟨b12, I12, A12, rfl, rfl, h12⟩ := hq
          refine pm_if_eq (tgt := 89) hG dX11_person_72 rfl (fun c13 => ?_) (fun c13 => ?_)
          · refine pm_aloadn hG dX11_person_89 rfl ?_
            refine pm_ldc hG dX11_person_90 (ctX11_109 _ rfl) ?_
            refine pm_callV (As := [.int (-1000001)]) (rest := []) hG hR dX11_person_92 (lkX11_97 _ rfl) okV_X11_told rfl rfl (sx_told (d := 3) (by decide) rfl rfl) rfl rfl hdd (Nat.le_refl _) (Nat.le_refl _) (by decide) (pm_ki (fun v14 σ' cnt' hq => ?_))
            obtain ⟨-, ⟨g14, hg14⟩, hc14⟩ := hq
            obtain ⟨I14, A14, rfl, rfl, h14⟩ := hv_a53 (kp := kp) (I := I12) (A := A12) h12 ⟨hg14, hc14⟩
            exact pm_iret hG hF dX11_person_95 rfl (Nat.le_refl _) (Nat.le_refl _) ⟨_, rfl, _, _, rfl, rfl, h14⟩
          · refine pm_aloadn hG dX11_person_75 rfl ?_
            refine pm_getf hG dX11_person_76 (flX11_12 _ rfl) rfl rfl ?_
            refine pm_iloadi hG dX11_person_79 rfl ?_
            refine pm_iconst (v := 0) hG dX11_person_81 (by decide) ?_
            refine pm_iloadn hG dX11_person_82 rfl ?_
            refine pm_callV (As := [.int ((zc - zc / 100 * 100) - 1), .int 0, .int zb]) (rest := []) hG hR dX11_person_83 (lkX11_125 _ rfl) okV_X7_mayBeParent rfl rfl (g_X7_mayBeParent (d := 3) (by decide) h12) rfl rfl hdd (Nat.le_refl _) (Nat.le_refl _) (by decide) (pm_ki (fun v15 σ' cnt' hq => ?_))
            obtain ⟨b15, I15, A15, rfl, rfl, h15⟩ := hq
            refine pm_if_ne (tgt := 96) hG dX11_person_86 rfl (fun c16 => ?_) (fun c16 => ?_)
            · refine pm_aloadn hG dX11_person_96 rfl ?_
              refine pm_aloadn hG dX11_person_97 rfl ?_
              refine pm_getf hG dX11_person_98 (flX11_12 _ rfl) rfl rfl ?_
              refine pm_getf hG dX11_person_101 (flX11_128 _ rfl) rfl rfl ?_
              refine pm_callV (As := []) (rest := [.ref (B + 0)]) hG hR dX11_person_104 (lkX11_86 _ rfl) okV_X9_isFull rfl rfl (tb_isFull (d := 3) rfl) rfl rfl hdd (Nat.le_refl _) (Nat.le_refl _) (by first | decide | exact Nat.le_of_ble_eq_true rfl) (pm_ki (fun v17 σ' cnt' hq => ?_))
              have b17 := pm_b01 hq.1
              obtain ⟨I17, A17, rfl, rfl, h17⟩ := hv_id (kp := kp) (I := I15) (A := A15) h15 hq.2
              refine pm_if_eq (tgt := 115) hG dX11_person_107 rfl (fun c18 => ?_) (fun c18 => ?_)
              · refine pm_aloadn hG dX11_person_115 rfl ?_
                refine pm_getf hG dX11_person_116 (flX11_12 _ rfl) rfl rfl ?_
                refine pm_iloadn hG dX11_person_119 rfl ?_
                refine pm_iloadn hG dX11_person_120 rfl ?_
                refine pm_iloadi hG dX11_person_121 rfl ?_
                refine pm_iloadi hG dX11_person_123 rfl ?_
                refine pm_iloadi hG dX11_person_125 rfl ?_
                refine pm_callV (As := [.int za, .int zb, .int ((zc / 100) - 1), .int ((zc - zc / 100 * 100) - 1), .int zd]) (rest := [.ref (B + 0)]) hG hR dX11_person_127 (lkX11_131 _ rfl) okV_X7_addPerson rfl rfl (g_X7_addPerson (d := 3) (by decide) h17) rfl rfl hdd (Nat.le_refl _) (Nat.le_refl _) (by first | decide | exact Nat.le_of_ble_eq_true rfl) (pm_ki (fun v19 σ' cnt' hq => ?_))
                obtain ⟨I19, A19, rfl, rfl, h19⟩ := hq
                refine pm_callV (As := [.int v19]) (rest := []) hG hR dX11_person_130 (lkX11_97 _ rfl) okV_X11_told rfl rfl (sx_told (d := 3) (by decide) rfl rfl) rfl rfl hdd (Nat.le_refl _) (Nat.le_refl _) (by decide) (pm_ki (fun v20 σ' cnt' hq => ?_))
                obtain ⟨-, ⟨g20, hg20⟩, hc20⟩ := hq
                obtain ⟨I20, A20, rfl, rfl, h20⟩ := hv_a53 (kp := kp) (I := I19) (A := A19) h19 ⟨hg20, hc20⟩
                exact pm_iret hG hF dX11_person_133 rfl (Nat.le_refl _) (Nat.le_refl _) ⟨_, rfl, _, _, rfl, rfl, h20⟩
              · refine pm_ldc hG dX11_person_110 (ctX11_92 _ rfl) ?_
                refine pm_goto (tgt := 130) hG dX11_person_112 rfl ?_
                refine pm_callV (As := [.int (-1000004)]) (rest := []) hG hR dX11_person_130 (lkX11_97 _ rfl) okV_X11_told rfl rfl (sx_told (d := 3) (by decide) rfl rfl) rfl rfl hdd (Nat.le_refl _) (Nat.le_refl _) (by decide) (pm_ki (fun v21 σ' cnt' hq => ?_))
                obtain ⟨-, ⟨g21, hg21⟩, hc21⟩ := hq
                obtain ⟨I21, A21, rfl, rfl, h21⟩ := hv_a53 (kp := kp) (I := I17) (A := A17) h17 ⟨hg21, hc21⟩
                exact pm_iret hG hF dX11_person_133 rfl (Nat.le_refl _) (Nat.le_refl _) ⟨_, rfl, _, _, rfl, rfl, h21⟩
            · refine pm_aloadn hG dX11_person_89 rfl ?_
              refine pm_ldc hG dX11_person_90 (ctX11_109 _ rfl) ?_
              refine pm_callV (As := [.int (-1000001)]) (rest := []) hG hR dX11_person_92 (lkX11_97 _ rfl) okV_X11_told rfl rfl (sx_told (d := 3) (by decide) rfl rfl) rfl rfl hdd (Nat.le_refl _) (Nat.le_refl _) (by decide) (pm_ki (fun v22 σ' cnt' hq => ?_))
              obtain ⟨-, ⟨g22, hg22⟩, hc22⟩ := hq
              obtain ⟨I22, A22, rfl, rfl, h22⟩ := hv_a53 (kp := kp) (I := I15) (A := A15) h15 ⟨hg22, hc22⟩
              exact pm_iret hG hF dX11_person_95 rfl (Nat.le_refl _) (Nat.le_refl _) ⟨_, rfl, _, _, rfl, rfl, h22⟩
