set_option maxRecDepth 100000 in
set_option maxHeartbeats 4000000 in
theorem g_X11_pay {ε : Nat → Int32} {d B cnt : Nat} {kp : Value} {ρ : pm_S} {I : Nat → Int32} {A : Nat → Nat → Int32} {za zb : Int32} (hdd : 3 ≤ d) (h : gq ε I) : pm_met mX11_pay d 0 0 B [.ref (B + 0), .int za, .int zb] cnt (pm_two (cl_L B kp I A) ρ) (pm_Qi (fun _ σ' cnt' => hvq ε B kp ρ cnt σ' cnt')) := by
  refine pm_enter 0 (by decide) (Nat.le_of_ble_eq_true rfl) rfl (fun G hG hR hF => ?_)
  refine pm_aloadn hG dX11_pay_0 rfl ?_
  refine pm_getf hG dX11_pay_1 (flX11_12 _ rfl) rfl rfl ?_
  refine pm_getf hG dX11_pay_4 (flX11_128 _ rfl) rfl rfl ?_
  refine pm_iloadn hG dX11_pay_7 rfl ?_
  refine pm_callV (As := [.int za]) (rest := []) hG hR dX11_pay_8 (lkX11_101 _ rfl) okV_X9_has rfl rfl (tb_has (d := 2) rfl) rfl rfl hdd (Nat.le_refl _) (Nat.le_refl _) (by decide) (pm_ki (fun v1 σ' cnt' hq => ?_))
  have b1 := pm_b01 hq.1
  obtain ⟨I1, A1, rfl, rfl, h1⟩ := hv_id (kp := kp) (I := I) (A := A) h hq.2
  refine pm_if_eq (tgt := 25) hG dX11_pay_11 rfl (fun c2 => ?_) (fun c2 => ?_)
  · refine pm_aloadn hG dX11_pay_25 rfl ?_
    refine pm_ldc hG dX11_pay_26 (ctX11_109 _ rfl) ?_
    refine pm_callV (As := [.int (-1000001)]) (rest := []) hG hR dX11_pay_28 (lkX11_97 _ rfl) okV_X11_told rfl rfl (sx_told (d := 2) (by decide) rfl rfl) rfl rfl hdd (Nat.le_refl _) (Nat.le_refl _) (by decide) (pm_ki (fun v3 σ' cnt' hq => ?_))
    obtain ⟨-, ⟨g3, hg3⟩, hc3⟩ := hq
    obtain ⟨I3, A3, rfl, rfl, h3⟩ := hv_a53 (kp := kp) (I := I1) (A := A1) h1 ⟨hg3, hc3⟩
    exact pm_iret hG hF dX11_pay_31 rfl (Nat.le_refl _) (Nat.le_refl _) ⟨_, rfl, _, _, rfl, rfl, h3⟩
  · refine pm_iloadn hG dX11_pay_14 rfl ?_
    refine pm_iconst (v := 1) hG dX11_pay_15 (by decide) ?_
    refine pm_sipush (v := 9999) hG dX11_pay_16 (by decide) ?_
    refine pm_callS (As := [.int zb, .int 1, .int 9999]) (rest := []) hG hR dX11_pay_19 (lkX11_105 _ rfl) okS_X11_isOutside (sx_isOutside (d := 2)) rfl rfl hdd (Nat.le_refl _) (Nat.le_refl _) (by decide) (pm_ki (fun v4 σ' cnt' hq => ?_))
    have o4 := hq.1
    have b4 := pm_b10 hq.1
    obtain ⟨I4, A4, rfl, rfl, h4⟩ := hv_id (kp := kp) (I := I1) (A := A1) h1 hq.2
    refine pm_if_eq (tgt := 32) hG dX11_pay_22 rfl (fun c5 => ?_) (fun c5 => ?_)
    · refine pm_aloadn hG dX11_pay_32 rfl ?_
      refine pm_aloadn hG dX11_pay_33 rfl ?_
      refine pm_getf hG dX11_pay_34 (flX11_12 _ rfl) rfl rfl ?_
      refine pm_iloadn hG dX11_pay_37 rfl ?_
      refine pm_callV (As := [.int za]) (rest := [.ref (B + 0)]) hG hR dX11_pay_38 (lkX11_135 _ rfl) okV_X7_isLiving rfl rfl (g_X7_isLiving (d := 2) (by decide) h4) rfl rfl hdd (Nat.le_refl _) (Nat.le_refl _) (by first | decide | exact Nat.le_of_ble_eq_true rfl) (pm_ki (fun v6 σ' cnt' hq => ?_))
      obtain ⟨b6, I6, A6, rfl, rfl, h6⟩ := hq
      refine pm_if_eq (tgt := 56) hG dX11_pay_41 rfl (fun c7 => ?_) (fun c7 => ?_)
      · refine pm_ldc hG dX11_pay_56 (ctX11_138 _ rfl) ?_
        refine pm_callV (As := [.int (-1000003)]) (rest := []) hG hR dX11_pay_58 (lkX11_97 _ rfl) okV_X11_told rfl rfl (sx_told (d := 2) (by decide) rfl rfl) rfl rfl hdd (Nat.le_refl _) (Nat.le_refl _) (by decide) (pm_ki (fun v8 σ' cnt' hq => ?_))
        obtain ⟨-, ⟨g8, hg8⟩, hc8⟩ := hq
        obtain ⟨I8, A8, rfl, rfl, h8⟩ := hv_a53 (kp := kp) (I := I6) (A := A6) h6 ⟨hg8, hc8⟩
        exact pm_iret hG hF dX11_pay_61 rfl (Nat.le_refl _) (Nat.le_refl _) ⟨_, rfl, _, _, rfl, rfl, h8⟩
      · refine pm_aloadn hG dX11_pay_44 rfl ?_
        refine pm_getf hG dX11_pay_45 (flX11_12 _ rfl) rfl rfl ?_
        refine pm_iloadn hG dX11_pay_48 rfl ?_
        refine pm_iloadn hG dX11_pay_49 rfl ?_
        refine pm_callV (As := [.int za, .int zb]) (rest := [.ref (B + 0)]) hG hR dX11_pay_50 (lkX11_167 _ rfl) okV_X7_payFromChest rfl rfl (g_X7_payFromChest (d := 2) (by decide) h6) rfl rfl hdd (Nat.le_refl _) (Nat.le_refl _) (by first | decide | exact Nat.le_of_ble_eq_true rfl) (pm_ki (fun v9 σ' cnt' hq => ?_))
        obtain ⟨I9, A9, rfl, rfl, h9⟩ := hq
        refine pm_goto (tgt := 58) hG dX11_pay_53 rfl ?_
        refine pm_callV (As := [.int v9]) (rest := []) hG hR dX11_pay_58 (lkX11_97 _ rfl) okV_X11_told rfl rfl (sx_told (d := 2) (by decide) rfl rfl) rfl rfl hdd (Nat.le_refl _) (Nat.le_refl _) (by decide) (pm_ki (fun v10 σ' cnt' hq => ?_))
        obtain ⟨-, ⟨g10, hg10⟩, hc10⟩ := hq
        obtain ⟨I10, A10, rfl, rfl, h10⟩ := hv_a53 (kp := kp) (I := I9) (A := A9) h9 ⟨hg10, hc10⟩
        exact pm_iret hG hF dX11_pay_61 rfl (Nat.le_refl _) (Nat.le_refl _) ⟨_, rfl, _, _, rfl, rfl, h10⟩
    · refine pm_aloadn hG dX11_pay_25 rfl ?_
      refine pm_ldc hG dX11_pay_26 (ctX11_109 _ rfl) ?_
      refine pm_callV (As := [.int (-1000001)]) (rest := []) hG hR dX11_pay_28 (lkX11_97 _ rfl) okV_X11_told rfl rfl (sx_told (d := 2) (by decide) rfl rfl) rfl rfl hdd (Nat.le_refl _) (Nat.le_refl _) (by decide) (pm_ki (fun v11 σ' cnt' hq => ?_))
      obtain ⟨-, ⟨g11, hg11⟩, hc11⟩ := hq
      obtain ⟨I11, A11, rfl, rfl, h11⟩ := hv_a53 (kp := kp) (I := I4) (A := A4) h4 ⟨hg11, hc11⟩
      exact pm_iret hG hF dX11_pay_31 rfl (Nat.le_refl _) (Nat.le_refl _) ⟨_, rfl, _, _, rfl, rfl, h11⟩

set_option maxRecDepth 100000 in
set_option maxHeartbeats 4000000 in
theorem g_X7_mayBeParent {ε : Nat → Int32} {d B cnt : Nat} {kp : Value} {ρ : pm_S} {I : Nat → Int32} {A : Nat → Nat → Int32} {za zb zc : Int32} (hdd : 1 ≤ d) (h : gq ε I) : pm_met mX7_mayBeParent d 0 0 B [.ref (B + 1), .int za, .int zb, .int zc] cnt (pm_two (cl_L B kp I A) ρ) (pm_Qi (fun v σ' cnt' => (v = 0 ∨ v = 1) ∧ hvq ε B kp ρ cnt σ' cnt')) := by
  refine pm_enter 0 (by decide) (Nat.le_of_ble_eq_true rfl) rfl (fun G hG hR hF => ?_)
  refine pm_iloadn hG dX7_mayBeParent_0 rfl ?_
  refine pm_iconst (v := (-1)) hG dX7_mayBeParent_1 (by decide) ?_
  refine pm_icmp_eq (tgt := 42) hG dX7_mayBeParent_2 rfl (fun c1 => ?_) (fun c1 => ?_)
  · refine pm_iconst (v := 1) hG dX7_mayBeParent_42 (by decide) ?_
    refine pm_goto (tgt := 47) hG dX7_mayBeParent_43 rfl ?_
    exact pm_zret hG hF dX7_mayBeParent_47 rfl (pm_nz (Or.inr rfl)) (Nat.le_refl _) (Nat.le_refl _) ⟨_, rfl, (Or.inr rfl), _, _, rfl, rfl, h⟩
  · refine pm_aloadn hG dX7_mayBeParent_5 rfl ?_
    refine pm_getf hG dX7_mayBeParent_6 (flX7_23 _ rfl) rfl rfl ?_
    refine pm_iloadn hG dX7_mayBeParent_9 rfl ?_
    refine pm_callV (As := [.int za]) (rest := []) hG hR dX7_mayBeParent_10 (lkX7_93 _ rfl) okV_X9_has rfl rfl (tb_has (d := 0) rfl) rfl rfl hdd (Nat.le_refl _) (Nat.le_refl _) (by decide) (pm_ki (fun v2 σ' cnt' hq => ?_))
    have b2 := pm_b01 hq.1
    obtain ⟨I2, A2, rfl, rfl, h2⟩ := hv_id (kp := kp) (I := I) (A := A) h hq.2
    refine pm_if_eq (tgt := 46) hG dX7_mayBeParent_13 rfl (fun c3 => ?_) (fun c3 => ?_)
    · refine pm_iconst (v := 0) hG dX7_mayBeParent_46 (by decide) ?_
      exact pm_zret hG hF dX7_mayBeParent_47 rfl (pm_nz (Or.inl rfl)) (Nat.le_refl _) (Nat.le_refl _) ⟨_, rfl, (Or.inl rfl), _, _, rfl, rfl, h2⟩
    · refine pm_aloadn hG dX7_mayBeParent_16 rfl ?_
      refine pm_getf hG dX7_mayBeParent_17 (flX7_23 _ rfl) rfl rfl ?_
      refine pm_iloadn hG dX7_mayBeParent_20 rfl ?_
      refine pm_iconst (v := 0) hG dX7_mayBeParent_21 (by decide) ?_
      refine pm_callV (As := [.int za, .int 0]) (rest := []) hG hR dX7_mayBeParent_22 (lkX7_83 _ rfl) okV_X9_get rfl rfl (tb_get (d := 0) rfl rfl (pm_tw_of 20 14 (by decide) (by decide) (by decide))) rfl rfl hdd (Nat.le_refl _) (Nat.le_refl _) (by decide) (pm_ki (fun v4 σ' cnt' hq => ?_))
      obtain ⟨I4, A4, rfl, rfl, h4⟩ := hv_id (kp := kp) (I := I2) (A := A2) h2 hq.2
      refine pm_iloadn hG dX7_mayBeParent_25 rfl ?_
      refine pm_icmp_ne (tgt := 46) hG dX7_mayBeParent_26 rfl (fun c5 => ?_) (fun c5 => ?_)
      · refine pm_iconst (v := 0) hG dX7_mayBeParent_46 (by decide) ?_
        exact pm_zret hG hF dX7_mayBeParent_47 rfl (pm_nz (Or.inl rfl)) (Nat.le_refl _) (Nat.le_refl _) ⟨_, rfl, (Or.inl rfl), _, _, rfl, rfl, h4⟩
      · refine pm_aloadn hG dX7_mayBeParent_29 rfl ?_
        refine pm_getf hG dX7_mayBeParent_30 (flX7_23 _ rfl) rfl rfl ?_
        refine pm_iloadn hG dX7_mayBeParent_33 rfl ?_
        refine pm_iconst (v := 1) hG dX7_mayBeParent_34 (by decide) ?_
        refine pm_callV (As := [.int za, .int 1]) (rest := []) hG hR dX7_mayBeParent_35 (lkX7_83 _ rfl) okV_X9_get rfl rfl (tb_get (d := 0) rfl rfl (pm_tw_of 20 14 (by decide) (by decide) (by decide))) rfl rfl hdd (Nat.le_refl _) (Nat.le_refl _) (by decide) (pm_ki (fun v6 σ' cnt' hq => ?_))
        obtain ⟨I6, A6, rfl, rfl, h6⟩ := hv_id (kp := kp) (I := I4) (A := A4) h4 hq.2
        refine pm_iloadn hG dX7_mayBeParent_38 rfl ?_
        refine pm_icmp_ge (tgt := 46) hG dX7_mayBeParent_39 rfl (fun c7 => ?_) (fun c7 => ?_)
        · refine pm_iconst (v := 0) hG dX7_mayBeParent_46 (by decide) ?_
          exact pm_zret hG hF dX7_mayBeParent_47 rfl (pm_nz (Or.inl rfl)) (Nat.le_refl _) (Nat.le_refl _) ⟨_, rfl, (Or.inl rfl), _, _, rfl, rfl, h6⟩
        · refine pm_iconst (v := 1) hG dX7_mayBeParent_42 (by decide) ?_
          refine pm_goto (tgt := 47) hG dX7_mayBeParent_43 rfl ?_
          exact pm_zret hG hF dX7_mayBeParent_47 rfl (pm_nz (Or.inr rfl)) (Nat.le_refl _) (Nat.le_refl _) ⟨_, rfl, (Or.inr rfl), _, _, rfl, rfl, h6⟩

set_option maxRecDepth 100000 in
set_option maxHeartbeats 4000000 in
theorem g_X7_bringNearer {ε : Nat → Int32} {d B cnt : Nat} {kp : Value} {ρ : pm_S} {I : Nat → Int32} {A : Nat → Nat → Int32} {za zb : Int32} (hdd : 1 ≤ d) (h : gq ε I) : pm_met mX7_bringNearer d 0 0 B [.ref (B + 1), .int za, .int zb] cnt (pm_two (cl_L B kp I A) ρ) (pm_Qv (fun σ' cnt' => hvq ε B kp ρ cnt σ' cnt')) := by
  refine pm_enter 2 (by decide) (Nat.le_of_ble_eq_true rfl) rfl (fun G hG hR hF => ?_)
  refine pm_iloadn hG dX7_bringNearer_0 rfl ?_
  refine pm_iconst (v := (-1)) hG dX7_bringNearer_1 (by decide) ?_
  refine pm_icmp_eq (tgt := 64) hG dX7_bringNearer_2 rfl (fun c1 => ?_) (fun c1 => ?_)
  · exact pm_vret hG hF dX7_bringNearer_64 rfl (Nat.le_refl _) (Nat.le_refl _) ⟨rfl, _, _, rfl, rfl, h⟩
  · refine pm_aloadn hG dX7_bringNearer_5 rfl ?_
    refine pm_getf hG dX7_bringNearer_6 (flX7_23 _ rfl) rfl rfl ?_
    refine pm_iloadn hG dX7_bringNearer_9 rfl ?_
    refine pm_bipush (v := 11) hG dX7_bringNearer_10 (by decide) ?_
    refine pm_callV (As := [.int za, .int 11]) (rest := []) hG hR dX7_bringNearer_12 (lkX7_83 _ rfl) okV_X9_get rfl rfl (tb_get (d := 0) rfl rfl (pm_tw_of 20 14 (by decide) (by decide) (by decide))) rfl rfl hdd (Nat.le_refl _) (Nat.le_refl _) (by decide) (pm_ki (fun v2 σ' cnt' hq => ?_))
    obtain ⟨I2, A2, rfl, rfl, h2⟩ := hv_id (kp := kp) (I := I) (A := A) h hq.2
    refine pm_istoreXn (loc' := [some (.ref (B + 1)), some (.int za), some (.int zb), some (.int v2), none]) hG dX7_bringNearer_15 (by decide) (pm_c1b rfl) rfl ?_
    refine pm_aloadn hG dX7_bringNearer_16 rfl ?_
    refine pm_getf hG dX7_bringNearer_17 (flX7_23 _ rfl) rfl rfl ?_
    refine pm_iloadn hG dX7_bringNearer_20 rfl ?_
    refine pm_bipush (v := 11) hG dX7_bringNearer_21 (by decide) ?_
    refine pm_callV (As := [.int zb, .int 11]) (rest := []) hG hR dX7_bringNearer_23 (lkX7_83 _ rfl) okV_X9_get rfl rfl (tb_get (d := 0) rfl rfl (pm_tw_of 20 14 (by decide) (by decide) (by decide))) rfl rfl hdd (Nat.le_refl _) (Nat.le_refl _) (by decide) (pm_ki (fun v3 σ' cnt' hq => ?_))
    obtain ⟨I3, A3, rfl, rfl, h3⟩ := hv_id (kp := kp) (I := I2) (A := A2) h2 hq.2
    refine pm_istoreXi (loc' := [some (.ref (B + 1)), some (.int za), some (.int zb), some (.int v2), some (.int v3)]) hG dX7_bringNearer_26 (by decide) (pm_c1b rfl) rfl ?_
    refine pm_aloadn hG dX7_bringNearer_28 rfl ?_
    refine pm_getf hG dX7_bringNearer_29 (flX7_23 _ rfl) rfl rfl ?_
    refine pm_iloadn hG dX7_bringNearer_32 rfl ?_
    refine pm_bipush (v := 11) hG dX7_bringNearer_33 (by decide) ?_
    refine pm_iloadn hG dX7_bringNearer_35 rfl ?_
    refine pm_iloadi hG dX7_bringNearer_36 rfl ?_
    refine pm_iconst (v := 1) hG dX7_bringNearer_38 (by decide) ?_
    refine pm_iadd hG dX7_bringNearer_39 ?_
    refine pm_mmin hG hR dX7_bringNearer_40 (mmX7_87 _ rfl) pm_mwmin (by omega) (by first | decide | exact Nat.le_of_ble_eq_true rfl) (Nat.le_refl _) (Nat.le_refl _) ?_
    refine pm_callV (As := [.int za, .int 11, .int (if (v3 + 1) < v2 then v3 + 1 else v2)]) (rest := []) hG hR dX7_bringNearer_43 (lkX7_61 _ rfl) okV_X9_set rfl rfl (tb_set (d := 0) rfl rfl (pm_tw_of 20 14 (by decide) (by decide) (by decide)) (by decide)) rfl rfl hdd (Nat.le_refl _) (Nat.le_refl _) (by decide) (pm_kv (fun σ' cnt' hq => ?_))
    obtain ⟨I4, A4, rfl, rfl, h4⟩ := hv_a7 (kp := kp) (I := I3) (A := A3) h3 hq
    refine pm_aloadn hG dX7_bringNearer_46 rfl ?_
    refine pm_getf hG dX7_bringNearer_47 (flX7_23 _ rfl) rfl rfl ?_
    refine pm_iloadn hG dX7_bringNearer_50 rfl ?_
    refine pm_bipush (v := 11) hG dX7_bringNearer_51 (by decide) ?_
    refine pm_iloadi hG dX7_bringNearer_53 rfl ?_
    refine pm_iloadn hG dX7_bringNearer_55 rfl ?_
    refine pm_iconst (v := 1) hG dX7_bringNearer_56 (by decide) ?_
    refine pm_iadd hG dX7_bringNearer_57 ?_
    refine pm_mmin hG hR dX7_bringNearer_58 (mmX7_87 _ rfl) pm_mwmin (by omega) (by first | decide | exact Nat.le_of_ble_eq_true rfl) (Nat.le_refl _) (Nat.le_refl _) ?_
    refine pm_callV (As := [.int zb, .int 11, .int (if (v2 + 1) < v3 then v2 + 1 else v3)]) (rest := []) hG hR dX7_bringNearer_61 (lkX7_61 _ rfl) okV_X9_set rfl rfl (tb_set (d := 0) rfl rfl (pm_tw_of 20 14 (by decide) (by decide) (by decide)) (by decide)) rfl rfl hdd (Nat.le_refl _) (Nat.le_refl _) (by decide) (pm_kv (fun σ' cnt' hq => ?_))
    obtain ⟨I5, A5, rfl, rfl, h5⟩ := hv_a7 (kp := kp) (I := I4) (A := A4) h4 hq
    exact pm_vret hG hF dX7_bringNearer_64 rfl (Nat.le_refl _) (Nat.le_refl _) ⟨rfl, _, _, rfl, rfl, h5⟩

set_option maxRecDepth 100000 in
set_option maxHeartbeats 4000000 in
theorem g_X7_findSteps {ε : Nat → Int32} {d B cnt : Nat} {kp : Value} {ρ : pm_S} {I : Nat → Int32} {A : Nat → Nat → Int32} (hdd : 2 ≤ d) (h : gq ε I) : pm_met mX7_findSteps d 0 0 B [.ref (B + 1)] cnt (pm_two (cl_L B kp I A) ρ) (pm_Qv (fun σ' cnt' => hvq ε B kp ρ cnt σ' cnt')) := by
  refine pm_enter 3 (by decide) (Nat.le_of_ble_eq_true rfl) rfl (fun G hG hR hF => ?_)
  refine pm_aloadn hG dX7_findSteps_0 rfl ?_
  refine pm_getf hG dX7_findSteps_1 (flX7_23 _ rfl) rfl rfl ?_
  refine pm_callV (As := []) (rest := []) hG hR dX7_findSteps_4 (lkX7_79 _ rfl) okV_X9_used rfl rfl (tb_used (d := 1) rfl) rfl rfl hdd (Nat.le_refl _) (Nat.le_refl _) (by decide) (pm_ki (fun v1 σ' cnt' hq => ?_))
  obtain ⟨I1, A1, rfl, rfl, h1⟩ := hv_id (kp := kp) (I := I) (A := A) h hq.2
  refine pm_istoreXn (loc' := [some (.ref (B + 1)), some (.int v1), none, none]) hG dX7_findSteps_7 (by decide) (pm_c1b rfl) rfl ?_
  refine pm_iconst (v := 0) hG dX7_findSteps_8 (by decide) ?_
  refine pm_istoreXn (loc' := [some (.ref (B + 1)), some (.int v1), some (.int 0), none]) hG dX7_findSteps_9 (by decide) (pm_c1b rfl) rfl ?_
  have loop10 : ∀ (m10 : Nat) (I2 : Nat → Int32) (A2 : Nat → Nat → Int32) (x2_2 : Int32), gq ε I2 → (¬ x2_2 < 0) → ((v1 : Int32).toInt - x2_2.toInt).toNat < m10 → pm_wp mX7_findSteps G B 10 [some (.ref (B + 1)), some (.int v1), some (.int x2_2), none] [] 0 0 cnt (pm_two (cl_L B kp I2 A2) ρ) := by
    intro m10
    induction m10 with
    | zero => intro I2 A2 x2_2 _  _ hm; exact absurd hm (Nat.not_lt_zero _)
    | succ m10 ih10 =>
      intro I2 A2 x2_2 h2 s10 hm10
      refine pm_iloadn hG dX7_findSteps_10 rfl ?_
      refine pm_iloadn hG dX7_findSteps_11 rfl ?_
      refine pm_icmp_ge (tgt := 62) hG dX7_findSteps_12 rfl (fun c3 => ?_) (fun c3 => ?_)
      · exact pm_vret hG hF dX7_findSteps_62 rfl (Nat.le_refl _) (Nat.le_refl _) ⟨rfl, _, _, rfl, rfl, h2⟩
      · refine pm_iconst (v := 0) hG dX7_findSteps_15 (by decide) ?_
        refine pm_istoreXn (loc' := [some (.ref (B + 1)), some (.int v1), some (.int x2_2), some (.int 0)]) hG dX7_findSteps_16 (by decide) (pm_c1b rfl) rfl ?_
        have loop17 : ∀ (m17 : Nat) (I4 : Nat → Int32) (A4 : Nat → Nat → Int32) (x4_3 : Int32), gq ε I4 → (¬ x4_3 < 0) → ((v1 : Int32).toInt - x4_3.toInt).toNat < m17 → pm_wp mX7_findSteps G B 17 [some (.ref (B + 1)), some (.int v1), some (.int x2_2), some (.int x4_3)] [] 0 0 cnt (pm_two (cl_L B kp I4 A4) ρ) := by
          intro m17
          induction m17 with
          | zero => intro I4 A4 x4_3 _  _ hm; exact absurd hm (Nat.not_lt_zero _)
          | succ m17 ih17 =>
            intro I4 A4 x4_3 h4 s17 hm17
            refine pm_iloadn hG dX7_findSteps_17 rfl ?_
            refine pm_iloadn hG dX7_findSteps_18 rfl ?_
            refine pm_icmp_ge (tgt := 56) hG dX7_findSteps_19 rfl (fun c5 => ?_) (fun c5 => ?_)
            · refine pm_iincX (v := x2_2 + 1) (loc' := [some (.ref (B + 1)), some (.int v1), some (.int (x2_2 + 1)), some (.int x4_3)]) hG dX7_findSteps_56 rfl (by rfl) (by decide) (pm_c1b rfl) rfl ?_
              refine pm_goto (tgt := 10) hG dX7_findSteps_59 rfl ?_
              refine pm_fg 3 (loc' := [some (.ref (B + 1)), some (.int v1), some (.int (x2_2 + 1)), none]) rfl ?_
              exact ih10 _ _ (x2_2 + 1) h4 (pm_sd1 c3 s10) (Nat.lt_of_lt_of_le (pm_mu1 c3) (Nat.le_of_lt_succ hm10))
            · refine pm_aloadn hG dX7_findSteps_22 rfl ?_
              refine pm_iloadn hG dX7_findSteps_23 rfl ?_
              refine pm_aloadn hG dX7_findSteps_24 rfl ?_
              refine pm_getf hG dX7_findSteps_25 (flX7_23 _ rfl) rfl rfl ?_
              refine pm_iloadn hG dX7_findSteps_28 rfl ?_
              refine pm_iconst (v := 2) hG dX7_findSteps_29 (by decide) ?_
              refine pm_callV (As := [.int x4_3, .int 2]) (rest := [.int x4_3, .ref (B + 1)]) hG hR dX7_findSteps_30 (lkX7_83 _ rfl) okV_X9_get rfl rfl (tb_get (d := 1) rfl rfl (pm_tw_of 20 14 (by decide) (by decide) (by decide))) rfl rfl hdd (Nat.le_refl _) (Nat.le_refl _) (by first | decide | exact Nat.le_of_ble_eq_true rfl) (pm_ki (fun v6 σ' cnt' hq => ?_))
              obtain ⟨I6, A6, rfl, rfl, h6⟩ := hv_id (kp := kp) (I := I4) (A := A4) h4 hq.2
              refine pm_callV (As := [.int x4_3, .int v6]) (rest := []) hG hR dX7_findSteps_33 (lkX7_100 _ rfl) okV_X7_bringNearer rfl rfl (g_X7_bringNearer (d := 1) (by decide) h6) rfl rfl hdd (Nat.le_refl _) (Nat.le_refl _) (by decide) (pm_kv (fun σ' cnt' hq => ?_))
              obtain ⟨I7, A7, rfl, rfl, h7⟩ := hq
              refine pm_aloadn hG dX7_findSteps_36 rfl ?_
              refine pm_iloadn hG dX7_findSteps_37 rfl ?_
              refine pm_aloadn hG dX7_findSteps_38 rfl ?_
              refine pm_getf hG dX7_findSteps_39 (flX7_23 _ rfl) rfl rfl ?_
              refine pm_iloadn hG dX7_findSteps_42 rfl ?_
              refine pm_iconst (v := 3) hG dX7_findSteps_43 (by decide) ?_
              refine pm_callV (As := [.int x4_3, .int 3]) (rest := [.int x4_3, .ref (B + 1)]) hG hR dX7_findSteps_44 (lkX7_83 _ rfl) okV_X9_get rfl rfl (tb_get (d := 1) rfl rfl (pm_tw_of 20 14 (by decide) (by decide) (by decide))) rfl rfl hdd (Nat.le_refl _) (Nat.le_refl _) (by first | decide | exact Nat.le_of_ble_eq_true rfl) (pm_ki (fun v8 σ' cnt' hq => ?_))
              obtain ⟨I8, A8, rfl, rfl, h8⟩ := hv_id (kp := kp) (I := I7) (A := A7) h7 hq.2
              refine pm_callV (As := [.int x4_3, .int v8]) (rest := []) hG hR dX7_findSteps_47 (lkX7_100 _ rfl) okV_X7_bringNearer rfl rfl (g_X7_bringNearer (d := 1) (by decide) h8) rfl rfl hdd (Nat.le_refl _) (Nat.le_refl _) (by decide) (pm_kv (fun σ' cnt' hq => ?_))
              obtain ⟨I9, A9, rfl, rfl, h9⟩ := hq
              refine pm_iincX (v := x4_3 + 1) (loc' := [some (.ref (B + 1)), some (.int v1), some (.int x2_2), some (.int (x4_3 + 1))]) hG dX7_findSteps_50 rfl (by rfl) (by decide) (pm_c1b rfl) rfl ?_
              refine pm_goto (tgt := 17) hG dX7_findSteps_53 rfl ?_
              exact ih17 _ _ (x4_3 + 1) h9 (pm_sd1 c5 s17) (Nat.lt_of_lt_of_le (pm_mu1 c5) (Nat.le_of_lt_succ hm17))
        exact loop17 _ _ _ 0 h2 (by decide) (Nat.lt_succ_self _)
  exact loop10 _ _ _ 0 h1 (by decide) (Nat.lt_succ_self _)

set_option maxRecDepth 100000 in
set_option maxHeartbeats 4000000 in
theorem g_X7_addPerson {ε : Nat → Int32} {d B cnt : Nat} {kp : Value} {ρ : pm_S} {I : Nat → Int32} {A : Nat → Nat → Int32} {za zb zc zd ze : Int32} (hdd : 3 ≤ d) (h : gq ε I) : pm_met mX7_addPerson d 0 0 B [.ref (B + 1), .int za, .int zb, .int zc, .int zd, .int ze] cnt (pm_two (cl_L B kp I A) ρ) (pm_Qi (fun _ σ' cnt' => hvq ε B kp ρ cnt σ' cnt')) := by
  refine pm_enter 1 (by decide) (Nat.le_of_ble_eq_true rfl) rfl (fun G hG hR hF => ?_)
  refine pm_aloadn hG dX7_addPerson_0 rfl ?_
  refine pm_getf hG dX7_addPerson_1 (flX7_23 _ rfl) rfl rfl ?_
  refine pm_iloadn hG dX7_addPerson_4 rfl ?_
  obtain ⟨k1, hk1, hu1⟩ := gq.used h 6 20 (by decide)
  have ht1 : pm_two (cl_L B kp I A) ρ 6 = some (.inr (9, [.int (nI 20), .int (nI 14), .ref (B + 7), .int (nI k1)])) := by rw [← hu1]; rfl
  refine pm_callV (As := [.int za]) (rest := []) hG hR dX7_addPerson_5 (lkX7_75 _ rfl) okV_X9_append rfl rfl (tb_append (d := 2) (by decide) ht1 rfl (by decide) (by decide) (by decide) (by decide) (by decide) (by decide) hk1) rfl rfl hdd (Nat.le_refl _) (Nat.le_refl _) (by decide) (pm_ki (fun v1 σ' cnt' hq => ?_))
  obtain ⟨I1, A1, rfl, rfl, h1⟩ := hv_p6 (kp := kp) (I := I) (A := A) hk1 h hq
  refine pm_istoreXi (loc' := [some (.ref (B + 1)), some (.int za), some (.int zb), some (.int zc), some (.int zd), some (.int ze), some (.int v1)]) hG dX7_addPerson_8 (by decide) (pm_c1b rfl) rfl ?_
  refine pm_aloadn hG dX7_addPerson_10 rfl ?_
  refine pm_getf hG dX7_addPerson_11 (flX7_23 _ rfl) rfl rfl ?_
  refine pm_iloadi hG dX7_addPerson_14 rfl ?_
  refine pm_iconst (v := 1) hG dX7_addPerson_16 (by decide) ?_
  refine pm_iloadn hG dX7_addPerson_17 rfl ?_
  refine pm_callV (As := [.int v1, .int 1, .int zb]) (rest := []) hG hR dX7_addPerson_18 (lkX7_61 _ rfl) okV_X9_set rfl rfl (tb_set (d := 2) rfl rfl (pm_tw_of 20 14 (by decide) (by decide) (by decide)) (by decide)) rfl rfl hdd (Nat.le_refl _) (Nat.le_refl _) (by decide) (pm_kv (fun σ' cnt' hq => ?_))
  obtain ⟨I2, A2, rfl, rfl, h2⟩ := hv_a7 (kp := kp) (I := I1) (A := A1) h1 hq
  refine pm_aloadn hG dX7_addPerson_21 rfl ?_
  refine pm_getf hG dX7_addPerson_22 (flX7_23 _ rfl) rfl rfl ?_
  refine pm_iloadi hG dX7_addPerson_25 rfl ?_
  refine pm_iconst (v := 2) hG dX7_addPerson_27 (by decide) ?_
  refine pm_iloadn hG dX7_addPerson_28 rfl ?_
  refine pm_callV (As := [.int v1, .int 2, .int zc]) (rest := []) hG hR dX7_addPerson_29 (lkX7_61 _ rfl) okV_X9_set rfl rfl (tb_set (d := 2) rfl rfl (pm_tw_of 20 14 (by decide) (by decide) (by decide)) (by decide)) rfl rfl hdd (Nat.le_refl _) (Nat.le_refl _) (by decide) (pm_kv (fun σ' cnt' hq => ?_))
  obtain ⟨I3, A3, rfl, rfl, h3⟩ := hv_a7 (kp := kp) (I := I2) (A := A2) h2 hq
  refine pm_aloadn hG dX7_addPerson_32 rfl ?_
  refine pm_getf hG dX7_addPerson_33 (flX7_23 _ rfl) rfl rfl ?_
  refine pm_iloadi hG dX7_addPerson_36 rfl ?_
  refine pm_iconst (v := 3) hG dX7_addPerson_38 (by decide) ?_
  refine pm_iloadi hG dX7_addPerson_39 rfl ?_
  refine pm_callV (As := [.int v1, .int 3, .int zd]) (rest := []) hG hR dX7_addPerson_41 (lkX7_61 _ rfl) okV_X9_set rfl rfl (tb_set (d := 2) rfl rfl (pm_tw_of 20 14 (by decide) (by decide) (by decide)) (by decide)) rfl rfl hdd (Nat.le_refl _) (Nat.le_refl _) (by decide) (pm_kv (fun σ' cnt' hq => ?_))
  obtain ⟨I4, A4, rfl, rfl, h4⟩ := hv_a7 (kp := kp) (I := I3) (A := A3) h3 hq
  refine pm_aloadn hG dX7_addPerson_44 rfl ?_
  refine pm_getf hG dX7_addPerson_45 (flX7_23 _ rfl) rfl rfl ?_
  refine pm_iloadi hG dX7_addPerson_48 rfl ?_
  refine pm_iconst (v := 4) hG dX7_addPerson_50 (by decide) ?_
  refine pm_iloadi hG dX7_addPerson_51 rfl ?_
  refine pm_callV (As := [.int v1, .int 4, .int ze]) (rest := []) hG hR dX7_addPerson_53 (lkX7_61 _ rfl) okV_X9_set rfl rfl (tb_set (d := 2) rfl rfl (pm_tw_of 20 14 (by decide) (by decide) (by decide)) (by decide)) rfl rfl hdd (Nat.le_refl _) (Nat.le_refl _) (by decide) (pm_kv (fun σ' cnt' hq => ?_))
  obtain ⟨I5, A5, rfl, rfl, h5⟩ := hv_a7 (kp := kp) (I := I4) (A := A4) h4 hq
  refine pm_aloadn hG dX7_addPerson_56 rfl ?_
  refine pm_getf hG dX7_addPerson_57 (flX7_23 _ rfl) rfl rfl ?_
  refine pm_iloadi hG dX7_addPerson_60 rfl ?_
  refine pm_bipush (v := 10) hG dX7_addPerson_62 (by decide) ?_
  refine pm_iconst (v := (-1)) hG dX7_addPerson_64 (by decide) ?_
  refine pm_callV (As := [.int v1, .int 10, .int (-1)]) (rest := []) hG hR dX7_addPerson_65 (lkX7_61 _ rfl) okV_X9_set rfl rfl (tb_set (d := 2) rfl rfl (pm_tw_of 20 14 (by decide) (by decide) (by decide)) (by decide)) rfl rfl hdd (Nat.le_refl _) (Nat.le_refl _) (by decide) (pm_kv (fun σ' cnt' hq => ?_))
  obtain ⟨I6, A6, rfl, rfl, h6⟩ := hv_a7 (kp := kp) (I := I5) (A := A5) h5 hq
  refine pm_aloadn hG dX7_addPerson_68 rfl ?_
  refine pm_getf hG dX7_addPerson_69 (flX7_23 _ rfl) rfl rfl ?_
  refine pm_iloadi hG dX7_addPerson_72 rfl ?_
  refine pm_bipush (v := 11) hG dX7_addPerson_74 (by decide) ?_
  refine pm_iloadi hG dX7_addPerson_76 rfl ?_
  refine pm_if_ne (tgt := 85) hG dX7_addPerson_78 rfl (fun c7 => ?_) (fun c7 => ?_)
  · refine pm_bipush (v := 99) hG dX7_addPerson_85 (by decide) ?_
    refine pm_callV (As := [.int v1, .int 11, .int 99]) (rest := []) hG hR dX7_addPerson_87 (lkX7_61 _ rfl) okV_X9_set rfl rfl (tb_set (d := 2) rfl rfl (pm_tw_of 20 14 (by decide) (by decide) (by decide)) (by decide)) rfl rfl hdd (Nat.le_refl _) (Nat.le_refl _) (by decide) (pm_kv (fun σ' cnt' hq => ?_))
    obtain ⟨I8, A8, rfl, rfl, h8⟩ := hv_a7 (kp := kp) (I := I6) (A := A6) h6 hq
    refine pm_aloadn hG dX7_addPerson_90 rfl ?_
    refine pm_getf hG dX7_addPerson_91 (flX7_23 _ rfl) rfl rfl ?_
    refine pm_iloadi hG dX7_addPerson_94 rfl ?_
    refine pm_bipush (v := 12) hG dX7_addPerson_96 (by decide) ?_
    refine pm_iconst (v := 1) hG dX7_addPerson_98 (by decide) ?_
    refine pm_callV (As := [.int v1, .int 12, .int 1]) (rest := []) hG hR dX7_addPerson_99 (lkX7_61 _ rfl) okV_X9_set rfl rfl (tb_set (d := 2) rfl rfl (pm_tw_of 20 14 (by decide) (by decide) (by decide)) (by decide)) rfl rfl hdd (Nat.le_refl _) (Nat.le_refl _) (by decide) (pm_kv (fun σ' cnt' hq => ?_))
    obtain ⟨I9, A9, rfl, rfl, h9⟩ := hv_a7 (kp := kp) (I := I8) (A := A8) h8 hq
    refine pm_aloadn hG dX7_addPerson_102 rfl ?_
    refine pm_callV (As := []) (rest := []) hG hR dX7_addPerson_103 (lkX7_97 _ rfl) okV_X7_findSteps rfl rfl (g_X7_findSteps (d := 2) (by decide) h9) rfl rfl hdd (Nat.le_refl _) (Nat.le_refl _) (by decide) (pm_kv (fun σ' cnt' hq => ?_))
    obtain ⟨I10, A10, rfl, rfl, h10⟩ := hq
    refine pm_iloadi hG dX7_addPerson_106 rfl ?_
    exact pm_iret hG hF dX7_addPerson_108 rfl (Nat.le_refl _) (Nat.le_refl _) ⟨_, rfl, _, _, rfl, rfl, h10⟩
  · refine pm_iconst (v := 0) hG dX7_addPerson_81 (by decide) ?_
    refine pm_goto (tgt := 87) hG dX7_addPerson_82 rfl ?_
    refine pm_callV (As := [.int v1, .int 11, .int 0]) (rest := []) hG hR dX7_addPerson_87 (lkX7_61 _ rfl) okV_X9_set rfl rfl (tb_set (d := 2) rfl rfl (pm_tw_of 20 14 (by decide) (by decide) (by decide)) (by decide)) rfl rfl hdd (Nat.le_refl _) (Nat.le_refl _) (by decide) (pm_kv (fun σ' cnt' hq => ?_))
    obtain ⟨I11, A11, rfl, rfl, h11⟩ := hv_a7 (kp := kp) (I := I6) (A := A6) h6 hq
    refine pm_aloadn hG dX7_addPerson_90 rfl ?_
    refine pm_getf hG dX7_addPerson_91 (flX7_23 _ rfl) rfl rfl ?_
    refine pm_iloadi hG dX7_addPerson_94 rfl ?_
    refine pm_bipush (v := 12) hG dX7_addPerson_96 (by decide) ?_
    refine pm_iconst (v := 1) hG dX7_addPerson_98 (by decide) ?_
    refine pm_callV (As := [.int v1, .int 12, .int 1]) (rest := []) hG hR dX7_addPerson_99 (lkX7_61 _ rfl) okV_X9_set rfl rfl (tb_set (d := 2) rfl rfl (pm_tw_of 20 14 (by decide) (by decide) (by decide)) (by decide)) rfl rfl hdd (Nat.le_refl _) (Nat.le_refl _) (by decide) (pm_kv (fun σ' cnt' hq => ?_))
    obtain ⟨I12, A12, rfl, rfl, h12⟩ := hv_a7 (kp := kp) (I := I11) (A := A11) h11 hq
    refine pm_aloadn hG dX7_addPerson_102 rfl ?_
    refine pm_callV (As := []) (rest := []) hG hR dX7_addPerson_103 (lkX7_97 _ rfl) okV_X7_findSteps rfl rfl (g_X7_findSteps (d := 2) (by decide) h12) rfl rfl hdd (Nat.le_refl _) (Nat.le_refl _) (by decide) (pm_kv (fun σ' cnt' hq => ?_))
    obtain ⟨I13, A13, rfl, rfl, h13⟩ := hq
    refine pm_iloadi hG dX7_addPerson_106 rfl ?_
    exact pm_iret hG hF dX7_addPerson_108 rfl (Nat.le_refl _) (Nat.le_refl _) ⟨_, rfl, _, _, rfl, rfl, h13⟩

set_option maxRecDepth 100000 in
set_option maxHeartbeats 4000000 in
theorem g_X11_person {ε : Nat → Int32} {d B cnt : Nat} {kp : Value} {ρ : pm_S} {I : Nat → Int32} {A : Nat → Nat → Int32} {za zb zc zd : Int32} (hdd : 4 ≤ d) (h : gq ε I) : pm_met mX11_person d 0 0 B [.ref (B + 0), .int za, .int zb, .int zc, .int zd] cnt (pm_two (cl_L B kp I A) ρ) (pm_Qi (fun _ σ' cnt' => hvq ε B kp ρ cnt σ' cnt')) := by
  refine pm_enter 2 (by decide) (Nat.le_of_ble_eq_true rfl) rfl (fun G hG hR hF => ?_)
  refine pm_iloadn hG dX11_person_0 rfl ?_
  refine pm_bipush (v := 100) hG dX11_person_1 (by decide) ?_
  refine pm_idiv hG dX11_person_3 (by decide) ?_
  refine pm_iconst (v := 1) hG dX11_person_4 (by decide) ?_
  refine pm_isub hG dX11_person_5 ?_
  refine pm_istoreXi (loc' := [some (.ref (B + 0)), some (.int za), some (.int zb), some (.int zc), some (.int zd), some (.int ((zc / 100) - 1)), none]) hG dX11_person_6 (by decide) (pm_c1b rfl) rfl ?_
  refine pm_iloadn hG dX11_person_8 rfl ?_
  refine pm_bipush (v := 100) hG dX11_person_9 (by decide) ?_
  refine pm_irem hG dX11_person_11 (by decide) ?_
  refine pm_iconst (v := 1) hG dX11_person_12 (by decide) ?_
  refine pm_isub hG dX11_person_13 ?_
  refine pm_istoreXi (loc' := [some (.ref (B + 0)), some (.int za), some (.int zb), some (.int zc), some (.int zd), some (.int ((zc / 100) - 1)), some (.int ((zc - zc / 100 * 100) - 1))]) hG dX11_person_14 (by decide) (pm_c1b rfl) rfl ?_
  refine pm_iloadn hG dX11_person_16 rfl ?_
  refine pm_iconst (v := 0) hG dX11_person_17 (by decide) ?_
  refine pm_iconst (v := 1) hG dX11_person_18 (by decide) ?_
  refine pm_callS (As := [.int za, .int 0, .int 1]) (rest := []) hG hR dX11_person_19 (lkX11_105 _ rfl) okS_X11_isOutside (sx_isOutside (d := 3)) rfl rfl hdd (Nat.le_refl _) (Nat.le_refl _) (by decide) (pm_ki (fun v1 σ' cnt' hq => ?_))
  have o1 := hq.1
  have b1 := pm_b10 hq.1
  obtain ⟨I1, A1, rfl, rfl, h1⟩ := hv_id (kp := kp) (I := I) (A := A) h hq.2
  refine pm_if_ne (tgt := 89) hG dX11_person_22 rfl (fun c2 => ?_) (fun c2 => ?_)
  · refine pm_aloadn hG dX11_person_89 rfl ?_
    refine pm_ldc hG dX11_person_90 (ctX11_109 _ rfl) ?_
    refine pm_callV (As := [.int (-1000001)]) (rest := []) hG hR dX11_person_92 (lkX11_97 _ rfl) okV_X11_told rfl rfl (sx_told (d := 3) (by decide) rfl rfl) rfl rfl hdd (Nat.le_refl _) (Nat.le_refl _) (by decide) (pm_ki (fun v3 σ' cnt' hq => ?_))
    obtain ⟨-, ⟨g3, hg3⟩, hc3⟩ := hq
    obtain ⟨I3, A3, rfl, rfl, h3⟩ := hv_a53 (kp := kp) (I := I1) (A := A1) h1 ⟨hg3, hc3⟩
    exact pm_iret hG hF dX11_person_95 rfl (Nat.le_refl _) (Nat.le_refl _) ⟨_, rfl, _, _, rfl, rfl, h3⟩
  · refine pm_iloadn hG dX11_person_25 rfl ?_
    refine pm_sipush (v := (-20000)) hG dX11_person_26 (by decide) ?_
    refine pm_aloadn hG dX11_person_29 rfl ?_
    refine pm_getf hG dX11_person_30 (flX11_12 _ rfl) rfl rfl ?_
    refine pm_getf hG dX11_person_33 (flX11_122 _ rfl) rfl rfl ?_
    refine pm_callS (As := [.int zb, .int (-20000), .int (I1 102)]) (rest := []) hG hR dX11_person_36 (lkX11_105 _ rfl) okS_X11_isOutside (sx_isOutside (d := 3)) rfl rfl hdd (Nat.le_refl _) (Nat.le_refl _) (by decide) (pm_ki (fun v4 σ' cnt' hq => ?_))
    have o4 := hq.1
    have b4 := pm_b10 hq.1
    obtain ⟨I4, A4, rfl, rfl, h4⟩ := hv_id (kp := kp) (I := I1) (A := A1) h1 hq.2
    refine pm_if_ne (tgt := 89) hG dX11_person_39 rfl (fun c5 => ?_) (fun c5 => ?_)
    · refine pm_aloadn hG dX11_person_89 rfl ?_
      refine pm_ldc hG dX11_person_90 (ctX11_109 _ rfl) ?_
      refine pm_callV (As := [.int (-1000001)]) (rest := []) hG hR dX11_person_92 (lkX11_97 _ rfl) okV_X11_told rfl rfl (sx_told (d := 3) (by decide) rfl rfl) rfl rfl hdd (Nat.le_refl _) (Nat.le_refl _) (by decide) (pm_ki (fun v6 σ' cnt' hq => ?_))
      obtain ⟨-, ⟨g6, hg6⟩, hc6⟩ := hq
      obtain ⟨I6, A6, rfl, rfl, h6⟩ := hv_a53 (kp := kp) (I := I4) (A := A4) h4 ⟨hg6, hc6⟩
      exact pm_iret hG hF dX11_person_95 rfl (Nat.le_refl _) (Nat.le_refl _) ⟨_, rfl, _, _, rfl, rfl, h6⟩
    · refine pm_iloadn hG dX11_person_42 rfl ?_
      refine pm_if_lt (tgt := 89) hG dX11_person_43 rfl (fun c7 => ?_) (fun c7 => ?_)
      · refine pm_aloadn hG dX11_person_89 rfl ?_
        refine pm_ldc hG dX11_person_90 (ctX11_109 _ rfl) ?_
        refine pm_callV (As := [.int (-1000001)]) (rest := []) hG hR dX11_person_92 (lkX11_97 _ rfl) okV_X11_told rfl rfl (sx_told (d := 3) (by decide) rfl rfl) rfl rfl hdd (Nat.le_refl _) (Nat.le_refl _) (by decide) (pm_ki (fun v8 σ' cnt' hq => ?_))
        obtain ⟨-, ⟨g8, hg8⟩, hc8⟩ := hq
        obtain ⟨I8, A8, rfl, rfl, h8⟩ := hv_a53 (kp := kp) (I := I4) (A := A4) h4 ⟨hg8, hc8⟩
        exact pm_iret hG hF dX11_person_95 rfl (Nat.le_refl _) (Nat.le_refl _) ⟨_, rfl, _, _, rfl, rfl, h8⟩
      · refine pm_aloadn hG dX11_person_46 rfl ?_
        refine pm_getf hG dX11_person_47 (flX11_12 _ rfl) rfl rfl ?_
        refine pm_getf hG dX11_person_50 (flX11_82 _ rfl) rfl rfl ?_
        refine pm_iloadi hG dX11_person_53 rfl ?_
        refine pm_callV (As := [.int zd]) (rest := []) hG hR dX11_person_55 (lkX11_101 _ rfl) okV_X9_has rfl rfl (tb_has (d := 3) rfl) rfl rfl hdd (Nat.le_refl _) (Nat.le_refl _) (by decide) (pm_ki (fun v9 σ' cnt' hq => ?_))
        have b9 := pm_b01 hq.1
        obtain ⟨I9, A9, rfl, rfl, h9⟩ := hv_id (kp := kp) (I := I4) (A := A4) h4 hq.2
        refine pm_if_eq (tgt := 89) hG dX11_person_58 rfl (fun c10 => ?_) (fun c10 => ?_)
        · refine pm_aloadn hG dX11_person_89 rfl ?_
          refine pm_ldc hG dX11_person_90 (ctX11_109 _ rfl) ?_
          refine pm_callV (As := [.int (-1000001)]) (rest := []) hG hR dX11_person_92 (lkX11_97 _ rfl) okV_X11_told rfl rfl (sx_told (d := 3) (by decide) rfl rfl) rfl rfl hdd (Nat.le_refl _) (Nat.le_refl _) (by decide) (pm_ki (fun v11 σ' cnt' hq => ?_))
          obtain ⟨-, ⟨g11, hg11⟩, hc11⟩ := hq
          obtain ⟨I11, A11, rfl, rfl, h11⟩ := hv_a53 (kp := kp) (I := I9) (A := A9) h9 ⟨hg11, hc11⟩
          exact pm_iret hG hF dX11_person_95 rfl (Nat.le_refl _) (Nat.le_refl _) ⟨_, rfl, _, _, rfl, rfl, h11⟩
        · refine pm_aloadn hG dX11_person_61 rfl ?_
          refine pm_getf hG dX11_person_62 (flX11_12 _ rfl) rfl rfl ?_
          refine pm_iloadi hG dX11_person_65 rfl ?_
          refine pm_iconst (v := 1) hG dX11_person_67 (by decide) ?_
          refine pm_iloadn hG dX11_person_68 rfl ?_
          refine pm_callV (As := [.int ((zc / 100) - 1), .int 1, .int zb]) (rest := []) hG hR dX11_person_69 (lkX11_125 _ rfl) okV_X7_mayBeParent rfl rfl (g_X7_mayBeParent (d := 3) (by decide) h9) rfl rfl hdd (Nat.le_refl _) (Nat.le_refl _) (by decide) (pm_ki (fun v12 σ' cnt' hq => ?_))
          obtain ⟨b12, I12, A12, rfl, rfl, h12⟩ := hq
          refine pm_if_eq (tgt := 89) hG dX11_person_72 rfl (fun c13 => ?_) (fun c13 => ?_)
          · refine pm_aloadn hG dX11_person_89 rfl ?_
            refine pm_ldc hG dX11_person_90 (ctX11_109 _ rfl) ?_
            refine pm_callV (As := [.int (-1000001)]) (rest := []) hG hR dX11_person_92 (lkX11_97 _ rfl) okV_X11_told rfl rfl (sx_told (d := 3) (by decide) rfl rfl) rfl rfl hdd (Nat.le_refl _) (Nat.le_refl _) (by decide) (pm_ki (fun v14 σ' cnt' hq => ?_))
            obtain ⟨-, ⟨g14, hg14⟩, hc14⟩ := hq
            obtain ⟨I14, A14, rfl, rfl, h14⟩ := hv_a53 (kp := kp) (I := I12) (A := A12) h12 ⟨hg14, hc14⟩
            exact pm_iret hG hF dX11_person_95 rfl (Nat.le_refl _) (Nat.le_refl _) ⟨_, rfl, _, _, rfl, rfl, h14⟩
          · refine pm_aloadn hG dX11_person_75 rfl ?_
            refine pm_getf hG dX11_person_76 (flX11_12 _ rfl) rfl rfl ?_
            refine pm_iloadi hG dX11_person_79 rfl ?_
            refine pm_iconst (v := 0) hG dX11_person_81 (by decide) ?_
            refine pm_iloadn hG dX11_person_82 rfl ?_
            refine pm_callV (As := [.int ((zc - zc / 100 * 100) - 1), .int 0, .int zb]) (rest := []) hG hR dX11_person_83 (lkX11_125 _ rfl) okV_X7_mayBeParent rfl rfl (g_X7_mayBeParent (d := 3) (by decide) h12) rfl rfl hdd (Nat.le_refl _) (Nat.le_refl _) (by decide) (pm_ki (fun v15 σ' cnt' hq => ?_))
            obtain ⟨b15, I15, A15, rfl, rfl, h15⟩ := hq
            refine pm_if_ne (tgt := 96) hG dX11_person_86 rfl (fun c16 => ?_) (fun c16 => ?_)
            · refine pm_aloadn hG dX11_person_96 rfl ?_
              refine pm_aloadn hG dX11_person_97 rfl ?_
              refine pm_getf hG dX11_person_98 (flX11_12 _ rfl) rfl rfl ?_
              refine pm_getf hG dX11_person_101 (flX11_128 _ rfl) rfl rfl ?_
              refine pm_callV (As := []) (rest := [.ref (B + 0)]) hG hR dX11_person_104 (lkX11_86 _ rfl) okV_X9_isFull rfl rfl (tb_isFull (d := 3) rfl) rfl rfl hdd (Nat.le_refl _) (Nat.le_refl _) (by first | decide | exact Nat.le_of_ble_eq_true rfl) (pm_ki (fun v17 σ' cnt' hq => ?_))
              have b17 := pm_b01 hq.1
              obtain ⟨I17, A17, rfl, rfl, h17⟩ := hv_id (kp := kp) (I := I15) (A := A15) h15 hq.2
              refine pm_if_eq (tgt := 115) hG dX11_person_107 rfl (fun c18 => ?_) (fun c18 => ?_)
              · refine pm_aloadn hG dX11_person_115 rfl ?_
                refine pm_getf hG dX11_person_116 (flX11_12 _ rfl) rfl rfl ?_
                refine pm_iloadn hG dX11_person_119 rfl ?_
                refine pm_iloadn hG dX11_person_120 rfl ?_
                refine pm_iloadi hG dX11_person_121 rfl ?_
                refine pm_iloadi hG dX11_person_123 rfl ?_
                refine pm_iloadi hG dX11_person_125 rfl ?_
                refine pm_callV (As := [.int za, .int zb, .int ((zc / 100) - 1), .int ((zc - zc / 100 * 100) - 1), .int zd]) (rest := [.ref (B + 0)]) hG hR dX11_person_127 (lkX11_131 _ rfl) okV_X7_addPerson rfl rfl (g_X7_addPerson (d := 3) (by decide) h17) rfl rfl hdd (Nat.le_refl _) (Nat.le_refl _) (by first | decide | exact Nat.le_of_ble_eq_true rfl) (pm_ki (fun v19 σ' cnt' hq => ?_))
                obtain ⟨I19, A19, rfl, rfl, h19⟩ := hq
                refine pm_callV (As := [.int v19]) (rest := []) hG hR dX11_person_130 (lkX11_97 _ rfl) okV_X11_told rfl rfl (sx_told (d := 3) (by decide) rfl rfl) rfl rfl hdd (Nat.le_refl _) (Nat.le_refl _) (by decide) (pm_ki (fun v20 σ' cnt' hq => ?_))
                obtain ⟨-, ⟨g20, hg20⟩, hc20⟩ := hq
                obtain ⟨I20, A20, rfl, rfl, h20⟩ := hv_a53 (kp := kp) (I := I19) (A := A19) h19 ⟨hg20, hc20⟩
                exact pm_iret hG hF dX11_person_133 rfl (Nat.le_refl _) (Nat.le_refl _) ⟨_, rfl, _, _, rfl, rfl, h20⟩
              · refine pm_ldc hG dX11_person_110 (ctX11_92 _ rfl) ?_
                refine pm_goto (tgt := 130) hG dX11_person_112 rfl ?_
                refine pm_callV (As := [.int (-1000004)]) (rest := []) hG hR dX11_person_130 (lkX11_97 _ rfl) okV_X11_told rfl rfl (sx_told (d := 3) (by decide) rfl rfl) rfl rfl hdd (Nat.le_refl _) (Nat.le_refl _) (by decide) (pm_ki (fun v21 σ' cnt' hq => ?_))
                obtain ⟨-, ⟨g21, hg21⟩, hc21⟩ := hq
                obtain ⟨I21, A21, rfl, rfl, h21⟩ := hv_a53 (kp := kp) (I := I17) (A := A17) h17 ⟨hg21, hc21⟩
                exact pm_iret hG hF dX11_person_133 rfl (Nat.le_refl _) (Nat.le_refl _) ⟨_, rfl, _, _, rfl, rfl, h21⟩
            · refine pm_aloadn hG dX11_person_89 rfl ?_
              refine pm_ldc hG dX11_person_90 (ctX11_109 _ rfl) ?_
              refine pm_callV (As := [.int (-1000001)]) (rest := []) hG hR dX11_person_92 (lkX11_97 _ rfl) okV_X11_told rfl rfl (sx_told (d := 3) (by decide) rfl rfl) rfl rfl hdd (Nat.le_refl _) (Nat.le_refl _) (by decide) (pm_ki (fun v22 σ' cnt' hq => ?_))
              obtain ⟨-, ⟨g22, hg22⟩, hc22⟩ := hq
              obtain ⟨I22, A22, rfl, rfl, h22⟩ := hv_a53 (kp := kp) (I := I15) (A := A15) h15 ⟨hg22, hc22⟩
              exact pm_iret hG hF dX11_person_95 rfl (Nat.le_refl _) (Nat.le_refl _) ⟨_, rfl, _, _, rfl, rfl, h22⟩

set_option maxRecDepth 100000 in
set_option maxHeartbeats 4000000 in
theorem g_X8_numberAt {ε : Nat → Int32} {d B cnt : Nat} {kp : Value} {ρ : pm_S} {I : Nat → Int32} {A : Nat → Nat → Int32} {za zb : Int32} (hdd : 1 ≤ d) (h : gq ε I) : pm_met mX8_numberAt d 0 0 B [.ref (B + 48), .int za, .int zb] cnt (pm_two (cl_L B kp I A) ρ) (pm_Qi (fun _ σ' cnt' => hvq ε B kp ρ cnt σ' cnt')) := by
  refine pm_enter 0 (by decide) (Nat.le_of_ble_eq_true rfl) rfl (fun G hG hR hF => ?_)
  refine pm_aloadn hG dX8_numberAt_0 rfl ?_
  refine pm_getf hG dX8_numberAt_1 (flX8_23 _ rfl) rfl rfl ?_
  refine pm_iloadn hG dX8_numberAt_4 rfl ?_
  refine pm_iloadn hG dX8_numberAt_5 rfl ?_
  refine pm_callV (As := [.int za, .int zb]) (rest := []) hG hR dX8_numberAt_6 (lkX8_35 _ rfl) okV_X9_get rfl rfl (tb_get (d := 0) rfl rfl (pm_tw_of 4 24 (by decide) (by decide) (by decide))) rfl rfl hdd (Nat.le_refl _) (Nat.le_refl _) (by decide) (pm_ki (fun v1 σ' cnt' hq => ?_))
  obtain ⟨I1, A1, rfl, rfl, h1⟩ := hv_id (kp := kp) (I := I) (A := A) h hq.2
  exact pm_iret hG hF dX8_numberAt_9 rfl (Nat.le_refl _) (Nat.le_refl _) ⟨_, rfl, _, _, rfl, rfl, h1⟩

set_option maxRecDepth 100000 in
set_option maxHeartbeats 4000000 in
theorem g_X8_areAllWithin {ε : Nat → Int32} {d B cnt : Nat} {kp : Value} {ρ : pm_S} {I : Nat → Int32} {A : Nat → Nat → Int32} {za zb zc : Int32} (hdd : 2 ≤ d) (h : gq ε I) : pm_met mX8_areAllWithin d 0 0 B [.ref (B + 48), .int za, .int zb, .int zc] cnt (pm_two (cl_L B kp I A) ρ) (pm_Qi (fun v σ' cnt' => (v = 0 ∨ v = 1) ∧ hvq ε B kp ρ cnt σ' cnt')) := by
  refine pm_enter 2 (by decide) (Nat.le_of_ble_eq_true rfl) rfl (fun G hG hR hF => ?_)
  refine pm_aloadn hG dX8_areAllWithin_0 rfl ?_
  refine pm_iloadn hG dX8_areAllWithin_1 rfl ?_
  refine pm_callV (As := [.int za]) (rest := []) hG hR dX8_areAllWithin_2 (lkX8_39 _ rfl) okV_X8_sizeOf rfl rfl (g_X8_sizeOf (d := 1) (by decide) h) rfl rfl hdd (Nat.le_refl _) (Nat.le_refl _) (by decide) (pm_ki (fun v1 σ' cnt' hq => ?_))
  obtain ⟨I1, A1, rfl, rfl, h1⟩ := hq
  refine pm_istoreXi (loc' := [some (.ref (B + 48)), some (.int za), some (.int zb), some (.int zc), some (.int v1), none]) hG dX8_areAllWithin_5 (by decide) (pm_c1b rfl) rfl ?_
  refine pm_iconst (v := 0) hG dX8_areAllWithin_7 (by decide) ?_
  refine pm_istoreXi (loc' := [some (.ref (B + 48)), some (.int za), some (.int zb), some (.int zc), some (.int v1), some (.int 0)]) hG dX8_areAllWithin_8 (by decide) (pm_c1b rfl) rfl ?_
  have loop10 : ∀ (m10 : Nat) (I2 : Nat → Int32) (A2 : Nat → Nat → Int32) (x2_5 : Int32), gq ε I2 → (¬ x2_5 < 0) → ((v1 : Int32).toInt - x2_5.toInt).toNat < m10 → pm_wp mX8_areAllWithin G B 10 [some (.ref (B + 48)), some (.int za), some (.int zb), some (.int zc), some (.int v1), some (.int x2_5)] [] 0 0 cnt (pm_two (cl_L B kp I2 A2) ρ) := by
    intro m10
    induction m10 with
    | zero => intro I2 A2 x2_5 _  _ hm; exact absurd hm (Nat.not_lt_zero _)
    | succ m10 ih10 =>
      intro I2 A2 x2_5 h2 s10 hm10
      refine pm_iloadi hG dX8_areAllWithin_10 rfl ?_
      refine pm_iloadi hG dX8_areAllWithin_12 rfl ?_
      refine pm_icmp_ge (tgt := 40) hG dX8_areAllWithin_14 rfl (fun c3 => ?_) (fun c3 => ?_)
      · refine pm_iconst (v := 1) hG dX8_areAllWithin_40 (by decide) ?_
        exact pm_zret hG hF dX8_areAllWithin_41 rfl (pm_nz (Or.inr rfl)) (Nat.le_refl _) (Nat.le_refl _) ⟨_, rfl, (Or.inr rfl), _, _, rfl, rfl, h2⟩
      · refine pm_aloadn hG dX8_areAllWithin_17 rfl ?_
        refine pm_iloadn hG dX8_areAllWithin_18 rfl ?_
        refine pm_iloadi hG dX8_areAllWithin_19 rfl ?_
        refine pm_callV (As := [.int za, .int x2_5]) (rest := []) hG hR dX8_areAllWithin_21 (lkX8_42 _ rfl) okV_X8_numberAt rfl rfl (g_X8_numberAt (d := 1) (by decide) h2) rfl rfl hdd (Nat.le_refl _) (Nat.le_refl _) (by decide) (pm_ki (fun v4 σ' cnt' hq => ?_))
        obtain ⟨I4, A4, rfl, rfl, h4⟩ := hq
        refine pm_iloadn hG dX8_areAllWithin_24 rfl ?_
        refine pm_iloadn hG dX8_areAllWithin_25 rfl ?_
        refine pm_callS (As := [.int v4, .int zb, .int zc]) (rest := []) hG hR dX8_areAllWithin_26 (lkX8_45 _ rfl) okS_X11_isOutside (sx_isOutside (d := 1)) rfl rfl hdd (Nat.le_refl _) (Nat.le_refl _) (by decide) (pm_ki (fun v5 σ' cnt' hq => ?_))
        have o5 := hq.1
        have b5 := pm_b10 hq.1
        obtain ⟨I5, A5, rfl, rfl, h5⟩ := hv_id (kp := kp) (I := I4) (A := A4) h4 hq.2
        refine pm_if_eq (tgt := 34) hG dX8_areAllWithin_29 rfl (fun c6 => ?_) (fun c6 => ?_)
        · refine pm_iincX (v := x2_5 + 1) (loc' := [some (.ref (B + 48)), some (.int za), some (.int zb), some (.int zc), some (.int v1), some (.int (x2_5 + 1))]) hG dX8_areAllWithin_34 rfl (by rfl) (by decide) (pm_c1b rfl) rfl ?_
          refine pm_goto (tgt := 10) hG dX8_areAllWithin_37 rfl ?_
          exact ih10 _ _ (x2_5 + 1) h5 (pm_sd1 c3 s10) (Nat.lt_of_lt_of_le (pm_mu1 c3) (Nat.le_of_lt_succ hm10))
        · refine pm_iconst (v := 0) hG dX8_areAllWithin_32 (by decide) ?_
          exact pm_zret hG hF dX8_areAllWithin_33 rfl (pm_nz (Or.inl rfl)) (Nat.le_refl _) (Nat.le_refl _) ⟨_, rfl, (Or.inl rfl), _, _, rfl, rfl, h5⟩
  exact loop10 _ _ _ 0 h1 (by decide) (Nat.lt_succ_self _)

set_option maxRecDepth 100000 in
set_option maxHeartbeats 4000000 in
theorem g_X5_rentsBut {ε : Nat → Int32} {d B cnt : Nat} {kp : Value} {ρ : pm_S} {I : Nat → Int32} {A : Nat → Nat → Int32} {za : Int32} (hdd : 1 ≤ d) (h : gq ε I) : pm_met mX5_rentsBut d 0 0 B [.ref (B + 42), .int za] cnt (pm_two (cl_L B kp I A) ρ) (pm_Qi (fun _ σ' cnt' => hvq ε B kp ρ cnt σ' cnt')) := by
  refine pm_enter 2 (by decide) (Nat.le_of_ble_eq_true rfl) rfl (fun G hG hR hF => ?_)
  refine pm_iconst (v := 0) hG dX5_rentsBut_0 (by decide) ?_
  refine pm_istoreXn (loc' := [some (.ref (B + 42)), some (.int za), some (.int 0), none]) hG dX5_rentsBut_1 (by decide) (pm_c1b rfl) rfl ?_
  refine pm_iconst (v := 0) hG dX5_rentsBut_2 (by decide) ?_
  refine pm_istoreXn (loc' := [some (.ref (B + 42)), some (.int za), some (.int 0), some (.int 0)]) hG dX5_rentsBut_3 (by decide) (pm_c1b rfl) rfl ?_
  have loop4 : ∀ (m4 : Nat) (I1 : Nat → Int32) (A1 : Nat → Nat → Int32) (x1_2 x1_3 : Int32), gq ε I1 → (¬ x1_3 < 0) → ((6 : Int32).toInt - x1_3.toInt).toNat < m4 → pm_wp mX5_rentsBut G B 4 [some (.ref (B + 42)), some (.int za), some (.int x1_2), some (.int x1_3)] [] 0 0 cnt (pm_two (cl_L B kp I1 A1) ρ) := by
    intro m4
    induction m4 with
    | zero => intro I1 A1 x1_2 x1_3 _  _ hm; exact absurd hm (Nat.not_lt_zero _)
    | succ m4 ih4 =>
      intro I1 A1 x1_2 x1_3 h1 s4 hm4
      refine pm_iloadn hG dX5_rentsBut_4 rfl ?_
      refine pm_bipush (v := 6) hG dX5_rentsBut_5 (by decide) ?_
      refine pm_icmp_ge (tgt := 46) hG dX5_rentsBut_7 rfl (fun c2 => ?_) (fun c2 => ?_)
      · refine pm_iloadn hG dX5_rentsBut_46 rfl ?_
        exact pm_iret hG hF dX5_rentsBut_47 rfl (Nat.le_refl _) (Nat.le_refl _) ⟨_, rfl, _, _, rfl, rfl, h1⟩
      · refine pm_aloadn hG dX5_rentsBut_10 rfl ?_
        refine pm_getf hG dX5_rentsBut_11 (flX5_37 _ rfl) rfl rfl ?_
        refine pm_iloadn hG dX5_rentsBut_14 rfl ?_
        refine pm_iconst (v := (-1)) hG dX5_rentsBut_15 (by decide) ?_
        refine pm_ixor hG dX5_rentsBut_16 ?_
        refine pm_iand hG dX5_rentsBut_17 ?_
        refine pm_iconst (v := 1) hG dX5_rentsBut_18 (by decide) ?_
        refine pm_iloadn hG dX5_rentsBut_19 rfl ?_
        refine pm_ishl hG dX5_rentsBut_20 ?_
        refine pm_iand hG dX5_rentsBut_21 ?_
        refine pm_if_eq (tgt := 40) hG dX5_rentsBut_22 rfl (fun c3 => ?_) (fun c3 => ?_)
        · refine pm_iincX (v := x1_3 + 1) (loc' := [some (.ref (B + 42)), some (.int za), some (.int x1_2), some (.int (x1_3 + 1))]) hG dX5_rentsBut_40 rfl (by rfl) (by decide) (pm_c1b rfl) rfl ?_
          refine pm_goto (tgt := 4) hG dX5_rentsBut_43 rfl ?_
          exact ih4 _ _ x1_2 (x1_3 + 1) h1 (pm_sd1 c2 s4) (Nat.lt_of_lt_of_le (pm_mu1 c2) (Nat.le_of_lt_succ hm4))
        · refine pm_iloadn hG dX5_rentsBut_25 rfl ?_
          refine pm_aloadn hG dX5_rentsBut_26 rfl ?_
          refine pm_getf hG dX5_rentsBut_27 (flX5_21 _ rfl) rfl rfl ?_
          refine pm_getf hG dX5_rentsBut_30 (flX5_40 _ rfl) rfl rfl ?_
          refine pm_iloadn hG dX5_rentsBut_33 rfl ?_
          refine pm_iconst (v := 0) hG dX5_rentsBut_34 (by decide) ?_
          refine pm_callV (As := [.int x1_3, .int 0]) (rest := [.int x1_2]) hG hR dX5_rentsBut_35 (lkX5_50 _ rfl) okV_X9_get rfl rfl (tb_get (d := 0) rfl rfl (pm_tw_of 10 3 (by decide) (by decide) (by decide))) rfl rfl hdd (Nat.le_refl _) (Nat.le_refl _) (by first | decide | exact Nat.le_of_ble_eq_true rfl) (pm_ki (fun v4 σ' cnt' hq => ?_))
          obtain ⟨I4, A4, rfl, rfl, h4⟩ := hv_id (kp := kp) (I := I1) (A := A1) h1 hq.2
          refine pm_iadd hG dX5_rentsBut_38 ?_
          refine pm_istoreXn (loc' := [some (.ref (B + 42)), some (.int za), some (.int (x1_2 + v4)), some (.int x1_3)]) hG dX5_rentsBut_39 (by decide) (pm_c1b rfl) rfl ?_
          refine pm_iincX (v := x1_3 + 1) (loc' := [some (.ref (B + 42)), some (.int za), some (.int (x1_2 + v4)), some (.int (x1_3 + 1))]) hG dX5_rentsBut_40 rfl (by rfl) (by decide) (pm_c1b rfl) rfl ?_
          refine pm_goto (tgt := 4) hG dX5_rentsBut_43 rfl ?_
          exact ih4 _ _ (x1_2 + v4) (x1_3 + 1) h4 (pm_sd1 c2 s4) (Nat.lt_of_lt_of_le (pm_mu1 c2) (Nat.le_of_lt_succ hm4))
  exact loop4 _ _ _ 0 0 h (by decide) (Nat.lt_succ_self _)

set_option maxRecDepth 100000 in
set_option maxHeartbeats 4000000 in
theorem g_X5_begin {ε : Nat → Int32} {d B cnt : Nat} {kp : Value} {ρ : pm_S} {I : Nat → Int32} {A : Nat → Nat → Int32} (hdd : 2 ≤ d) (h : gq ε I) : pm_met mX5_begin d 0 0 B [.ref (B + 42)] cnt (pm_two (cl_L B kp I A) ρ) (pm_Qv (fun σ' cnt' => hvq ε B kp ρ cnt σ' cnt')) := by
  refine pm_enter 2 (by decide) (Nat.le_of_ble_eq_true rfl) rfl (fun G hG hR hF => ?_)
  refine pm_aloadn hG dX5_begin_0 rfl ?_
  refine pm_getf hG dX5_begin_1 (flX5_11 _ rfl) rfl rfl ?_
  refine pm_iconst (v := (-1)) hG dX5_begin_4 (by decide) ?_
  refine pm_callS (As := [.ref (B + 43), .int (-1)]) (rest := []) hG hR dX5_begin_5 (lkX5_25 _ rfl) okS_J7_fill_53178 (sx_fill (d := 1) (c := 43) rfl (by decide)) rfl rfl hdd (Nat.le_refl _) (Nat.le_refl _) (by decide) (pm_kv (fun σ' cnt' hq => ?_))
  obtain ⟨⟨g1, hg1⟩, hc1⟩ := hq
  obtain ⟨I1, A1, rfl, rfl, h1⟩ := hv_a43 (kp := kp) (I := I) (A := A) h ⟨hg1, hc1⟩
  refine pm_aloadn hG dX5_begin_8 rfl ?_
  refine pm_getf hG dX5_begin_9 (flX5_11 _ rfl) rfl rfl ?_
  refine pm_iconst (v := 0) hG dX5_begin_12 (by decide) ?_
  refine pm_aloadn hG dX5_begin_13 rfl ?_
  refine pm_getf hG dX5_begin_14 (flX5_21 _ rfl) rfl rfl ?_
  refine pm_getf hG dX5_begin_17 (flX5_31 _ rfl) rfl rfl ?_
  refine pm_iast hG dX5_begin_20 rfl (pm_inb (by decide)) ?_
  refine nm_a43 (fun A2 => ?_)
  refine pm_aloadn hG dX5_begin_21 rfl ?_
  refine pm_getf hG dX5_begin_22 (flX5_15 _ rfl) rfl rfl ?_
  refine pm_iconst (v := 0) hG dX5_begin_25 (by decide) ?_
  refine pm_iconst (v := 0) hG dX5_begin_26 (by decide) ?_
  refine pm_iast hG dX5_begin_27 rfl (pm_inb (by decide)) ?_
  refine nm_a44 (fun A3 => ?_)
  refine pm_aloadn hG dX5_begin_28 rfl ?_
  refine pm_iconst (v := 0) hG dX5_begin_29 (by decide) ?_
  refine pm_putf hG dX5_begin_30 (fwX5_37 _ rfl) rfl rfl rfl ?_
  refine pm_nrm (L' := cl_L B kp (ui I1 112 0) A3) (by decide) (Nat.le_of_ble_eq_true rfl) rfl ?_
  refine pm_iconst (v := 0) hG dX5_begin_33 (by decide) ?_
  refine pm_istoreXn (loc' := [some (.ref (B + 42)), some (.int 0), none]) hG dX5_begin_34 (by decide) (pm_c1b rfl) rfl ?_
  have loop35 : ∀ (m35 : Nat) (I5 : Nat → Int32) (A5 : Nat → Nat → Int32) (x5_1 : Int32), gq ε I5 → (¬ x5_1 < 0) → ((6 : Int32).toInt - x5_1.toInt).toNat < m35 → pm_wp mX5_begin G B 35 [some (.ref (B + 42)), some (.int x5_1), none] [] 0 0 cnt (pm_two (cl_L B kp I5 A5) ρ) := by
    intro m35
    induction m35 with
    | zero => intro I5 A5 x5_1 _  _ hm; exact absurd hm (Nat.not_lt_zero _)
    | succ m35 ih35 =>
      intro I5 A5 x5_1 h5 s35 hm35
      refine pm_iloadn hG dX5_begin_35 rfl ?_
      refine pm_bipush (v := 6) hG dX5_begin_36 (by decide) ?_
      refine pm_icmp_ge (tgt := 118) hG dX5_begin_38 rfl (fun c6 => ?_) (fun c6 => ?_)
      · refine pm_iconst (v := 0) hG dX5_begin_118 (by decide) ?_
        refine pm_istoreXn (loc' := [some (.ref (B + 42)), some (.int 0), none]) hG dX5_begin_119 (by decide) (pm_c1b rfl) rfl ?_
        have loop120 : ∀ (m120 : Nat) (I7 : Nat → Int32) (A7 : Nat → Nat → Int32) (x7_1 : Int32), gq ε I7 → (¬ x7_1 < 0) → ((64 : Int32).toInt - x7_1.toInt).toNat < m120 → pm_wp mX5_begin G B 120 [some (.ref (B + 42)), some (.int x7_1), none] [] 0 0 cnt (pm_two (cl_L B kp I7 A7) ρ) := by
          intro m120
          induction m120 with
          | zero => intro I7 A7 x7_1 _  _ hm; exact absurd hm (Nat.not_lt_zero _)
          | succ m120 ih120 =>
            intro I7 A7 x7_1 h7 s120 hm120
            refine pm_iloadn hG dX5_begin_120 rfl ?_
            refine pm_bipush (v := 64) hG dX5_begin_121 (by decide) ?_
            refine pm_icmp_ge (tgt := 143) hG dX5_begin_123 rfl (fun c8 => ?_) (fun c8 => ?_)
            · exact pm_vret hG hF dX5_begin_143 rfl (Nat.le_refl _) (Nat.le_refl _) ⟨rfl, _, _, rfl, rfl, h7⟩
            · refine pm_aloadn hG dX5_begin_126 rfl ?_
              refine pm_getf hG dX5_begin_127 (flX5_18 _ rfl) rfl rfl ?_
              refine pm_iloadn hG dX5_begin_130 rfl ?_
              refine pm_aloadn hG dX5_begin_131 rfl ?_
              refine pm_iloadn hG dX5_begin_132 rfl ?_
              refine pm_callV (As := [.int x7_1]) (rest := [.int x7_1, .ref (B + 45)]) hG hR dX5_begin_133 (lkX5_54 _ rfl) okV_X5_rentsBut rfl rfl (g_X5_rentsBut (d := 1) (by decide) h7) rfl rfl hdd (Nat.le_refl _) (Nat.le_refl _) (by first | decide | exact Nat.le_of_ble_eq_true rfl) (pm_ki (fun v9 σ' cnt' hq => ?_))
              obtain ⟨I9, A9, rfl, rfl, h9⟩ := hq
              refine pm_iast hG dX5_begin_136 rfl (pm_ib2 rfl s120 c8) ?_
              refine nm_a45 (fun A10 => ?_)
              refine pm_iincX (v := x7_1 + 1) (loc' := [some (.ref (B + 42)), some (.int (x7_1 + 1)), none]) hG dX5_begin_137 rfl (by rfl) (by decide) (pm_c1b rfl) rfl ?_
              refine pm_goto (tgt := 120) hG dX5_begin_140 rfl ?_
              exact ih120 _ _ (x7_1 + 1) h9 (pm_sd1 c8 s120) (Nat.lt_of_lt_of_le (pm_mu1 c8) (Nat.le_of_lt_succ hm120))
        exact loop120 _ _ _ 0 h5 (by decide) (Nat.lt_succ_self _)
      · refine pm_aloadn hG dX5_begin_41 rfl ?_
        refine pm_getf hG dX5_begin_42 (flX5_21 _ rfl) rfl rfl ?_
        refine pm_getf hG dX5_begin_45 (flX5_40 _ rfl) rfl rfl ?_
        refine pm_iloadn hG dX5_begin_48 rfl ?_
        refine pm_callV (As := [.int x5_1]) (rest := []) hG hR dX5_begin_49 (lkX5_44 _ rfl) okV_X9_has rfl rfl (tb_has (d := 1) rfl) rfl rfl hdd (Nat.le_refl _) (Nat.le_refl _) (by decide) (pm_ki (fun v11 σ' cnt' hq => ?_))
        have b11 := pm_b01 hq.1
        obtain ⟨I11, A11, rfl, rfl, h11⟩ := hv_id (kp := kp) (I := I5) (A := A5) h5 hq.2
        refine pm_if_eq (tgt := 90) hG dX5_begin_52 rfl (fun c12 => ?_) (fun c12 => ?_)
        · refine pm_iconst (v := 0) hG dX5_begin_90 (by decide) ?_
          refine pm_istoreXn (loc' := [some (.ref (B + 42)), some (.int x5_1), some (.int 0)]) hG dX5_begin_91 (by decide) (pm_c1b rfl) rfl ?_
          refine pm_aloadn hG dX5_begin_92 rfl ?_
          refine pm_dup hG dX5_begin_93 rfl ?_
          refine pm_getf hG dX5_begin_94 (flX5_37 _ rfl) rfl rfl ?_
          refine pm_iloadn hG dX5_begin_97 rfl ?_
          refine pm_if_eq (tgt := 107) hG dX5_begin_98 rfl (fun _ => ?_) (fun q => absurd q (by decide))
          refine pm_iconst (v := 0) hG dX5_begin_107 (by decide) ?_
          refine pm_ior hG dX5_begin_108 ?_
          refine pm_putf hG dX5_begin_109 (fwX5_37 _ rfl) rfl rfl rfl ?_
          refine pm_nrm (L' := cl_L B kp (ui I11 112 ((I11 112) ||| 0)) A11) (by decide) (Nat.le_of_ble_eq_true rfl) rfl ?_
          refine pm_iincX (v := x5_1 + 1) (loc' := [some (.ref (B + 42)), some (.int (x5_1 + 1)), some (.int 0)]) hG dX5_begin_112 rfl (by rfl) (by decide) (pm_c1b rfl) rfl ?_
          refine pm_goto (tgt := 35) hG dX5_begin_115 rfl ?_
          refine pm_fg 2 (loc' := [some (.ref (B + 42)), some (.int (x5_1 + 1)), none]) rfl ?_
          exact ih35 _ _ (x5_1 + 1) (gq.wi (k := 112) rfl h11) (pm_sd1 c6 s35) (Nat.lt_of_lt_of_le (pm_mu1 c6) (Nat.le_of_lt_succ hm35))
        · refine pm_aloadn hG dX5_begin_55 rfl ?_
          refine pm_getf hG dX5_begin_56 (flX5_21 _ rfl) rfl rfl ?_
          refine pm_getf hG dX5_begin_59 (flX5_40 _ rfl) rfl rfl ?_
          refine pm_iloadn hG dX5_begin_62 rfl ?_
          refine pm_iconst (v := 1) hG dX5_begin_63 (by decide) ?_
          refine pm_callV (As := [.int x5_1, .int 1]) (rest := []) hG hR dX5_begin_64 (lkX5_50 _ rfl) okV_X9_get rfl rfl (tb_get (d := 1) rfl rfl (pm_tw_of 10 3 (by decide) (by decide) (by decide))) rfl rfl hdd (Nat.le_refl _) (Nat.le_refl _) (by decide) (pm_ki (fun v14 σ' cnt' hq => ?_))
          obtain ⟨I14, A14, rfl, rfl, h14⟩ := hv_id (kp := kp) (I := I11) (A := A11) h11 hq.2
          refine pm_iconst (v := (-1)) hG dX5_begin_67 (by decide) ?_
          refine pm_icmp_ne (tgt := 90) hG dX5_begin_68 rfl (fun c15 => ?_) (fun c15 => ?_)
          · refine pm_iconst (v := 0) hG dX5_begin_90 (by decide) ?_
            refine pm_istoreXn (loc' := [some (.ref (B + 42)), some (.int x5_1), some (.int 0)]) hG dX5_begin_91 (by decide) (pm_c1b rfl) rfl ?_
            refine pm_aloadn hG dX5_begin_92 rfl ?_
            refine pm_dup hG dX5_begin_93 rfl ?_
            refine pm_getf hG dX5_begin_94 (flX5_37 _ rfl) rfl rfl ?_
            refine pm_iloadn hG dX5_begin_97 rfl ?_
            refine pm_if_eq (tgt := 107) hG dX5_begin_98 rfl (fun _ => ?_) (fun q => absurd q (by decide))
            refine pm_iconst (v := 0) hG dX5_begin_107 (by decide) ?_
            refine pm_ior hG dX5_begin_108 ?_
            refine pm_putf hG dX5_begin_109 (fwX5_37 _ rfl) rfl rfl rfl ?_
            refine pm_nrm (L' := cl_L B kp (ui I14 112 ((I14 112) ||| 0)) A14) (by decide) (Nat.le_of_ble_eq_true rfl) rfl ?_
            refine pm_iincX (v := x5_1 + 1) (loc' := [some (.ref (B + 42)), some (.int (x5_1 + 1)), some (.int 0)]) hG dX5_begin_112 rfl (by rfl) (by decide) (pm_c1b rfl) rfl ?_
            refine pm_goto (tgt := 35) hG dX5_begin_115 rfl ?_
            refine pm_fg 2 (loc' := [some (.ref (B + 42)), some (.int (x5_1 + 1)), none]) rfl ?_
            exact ih35 _ _ (x5_1 + 1) (gq.wi (k := 112) rfl h14) (pm_sd1 c6 s35) (Nat.lt_of_lt_of_le (pm_mu1 c6) (Nat.le_of_lt_succ hm35))
          · refine pm_aloadn hG dX5_begin_71 rfl ?_
            refine pm_getf hG dX5_begin_72 (flX5_21 _ rfl) rfl rfl ?_
            refine pm_getf hG dX5_begin_75 (flX5_40 _ rfl) rfl rfl ?_
            refine pm_iloadn hG dX5_begin_78 rfl ?_
            refine pm_iconst (v := 2) hG dX5_begin_79 (by decide) ?_
            refine pm_callV (As := [.int x5_1, .int 2]) (rest := []) hG hR dX5_begin_80 (lkX5_50 _ rfl) okV_X9_get rfl rfl (tb_get (d := 1) rfl rfl (pm_tw_of 10 3 (by decide) (by decide) (by decide))) rfl rfl hdd (Nat.le_refl _) (Nat.le_refl _) (by decide) (pm_ki (fun v17 σ' cnt' hq => ?_))
            obtain ⟨I17, A17, rfl, rfl, h17⟩ := hv_id (kp := kp) (I := I14) (A := A14) h14 hq.2
            refine pm_if_ne (tgt := 90) hG dX5_begin_83 rfl (fun c18 => ?_) (fun c18 => ?_)
            · refine pm_iconst (v := 0) hG dX5_begin_90 (by decide) ?_
              refine pm_istoreXn (loc' := [some (.ref (B + 42)), some (.int x5_1), some (.int 0)]) hG dX5_begin_91 (by decide) (pm_c1b rfl) rfl ?_
              refine pm_aloadn hG dX5_begin_92 rfl ?_
              refine pm_dup hG dX5_begin_93 rfl ?_
              refine pm_getf hG dX5_begin_94 (flX5_37 _ rfl) rfl rfl ?_
              refine pm_iloadn hG dX5_begin_97 rfl ?_
              refine pm_if_eq (tgt := 107) hG dX5_begin_98 rfl (fun _ => ?_) (fun q => absurd q (by decide))
              refine pm_iconst (v := 0) hG dX5_begin_107 (by decide) ?_
              refine pm_ior hG dX5_begin_108 ?_
              refine pm_putf hG dX5_begin_109 (fwX5_37 _ rfl) rfl rfl rfl ?_
              refine pm_nrm (L' := cl_L B kp (ui I17 112 ((I17 112) ||| 0)) A17) (by decide) (Nat.le_of_ble_eq_true rfl) rfl ?_
              refine pm_iincX (v := x5_1 + 1) (loc' := [some (.ref (B + 42)), some (.int (x5_1 + 1)), some (.int 0)]) hG dX5_begin_112 rfl (by rfl) (by decide) (pm_c1b rfl) rfl ?_
              refine pm_goto (tgt := 35) hG dX5_begin_115 rfl ?_
              refine pm_fg 2 (loc' := [some (.ref (B + 42)), some (.int (x5_1 + 1)), none]) rfl ?_
              exact ih35 _ _ (x5_1 + 1) (gq.wi (k := 112) rfl h17) (pm_sd1 c6 s35) (Nat.lt_of_lt_of_le (pm_mu1 c6) (Nat.le_of_lt_succ hm35))
            · refine pm_iconst (v := 1) hG dX5_begin_86 (by decide) ?_
              refine pm_goto (tgt := 91) hG dX5_begin_87 rfl ?_
              refine pm_istoreXn (loc' := [some (.ref (B + 42)), some (.int x5_1), some (.int 1)]) hG dX5_begin_91 (by decide) (pm_c1b rfl) rfl ?_
              refine pm_aloadn hG dX5_begin_92 rfl ?_
              refine pm_dup hG dX5_begin_93 rfl ?_
              refine pm_getf hG dX5_begin_94 (flX5_37 _ rfl) rfl rfl ?_
              refine pm_iloadn hG dX5_begin_97 rfl ?_
              refine pm_if_eq (tgt := 107) hG dX5_begin_98 rfl (fun q => absurd q (by decide)) (fun _ => ?_)
              refine pm_iconst (v := 1) hG dX5_begin_101 (by decide) ?_
              refine pm_iloadn hG dX5_begin_102 rfl ?_
              refine pm_ishl hG dX5_begin_103 ?_
              refine pm_goto (tgt := 108) hG dX5_begin_104 rfl ?_
              refine pm_ior hG dX5_begin_108 ?_
              refine pm_putf hG dX5_begin_109 (fwX5_37 _ rfl) rfl rfl rfl ?_
              refine pm_nrm (L' := cl_L B kp (ui I17 112 ((I17 112) ||| (1 <<< (x5_1 &&& 31)))) A17) (by decide) (Nat.le_of_ble_eq_true rfl) rfl ?_
              refine pm_iincX (v := x5_1 + 1) (loc' := [some (.ref (B + 42)), some (.int (x5_1 + 1)), some (.int 1)]) hG dX5_begin_112 rfl (by rfl) (by decide) (pm_c1b rfl) rfl ?_
              refine pm_goto (tgt := 35) hG dX5_begin_115 rfl ?_
              refine pm_fg 2 (loc' := [some (.ref (B + 42)), some (.int (x5_1 + 1)), none]) rfl ?_
              exact ih35 _ _ (x5_1 + 1) (gq.wi (k := 112) rfl h17) (pm_sd1 c6 s35) (Nat.lt_of_lt_of_le (pm_mu1 c6) (Nat.le_of_lt_succ hm35))
  exact loop35 _ _ _ 0 (gq.wi (k := 112) rfl h1) (by decide) (Nat.lt_succ_self _)

set_option maxRecDepth 100000 in
set_option maxHeartbeats 4000000 in
theorem g_X5_findBest {ε : Nat → Int32} {d B cnt : Nat} {kp : Value} {ρ : pm_S} {I : Nat → Int32} {A : Nat → Nat → Int32} (hdd : 1 ≤ d) (h : gq ε I) : pm_met mX5_findBest d 0 0 B [.ref (B + 42)] cnt (pm_two (cl_L B kp I A) ρ) (pm_Qi (fun v σ' cnt' => (v = 0 ∨ v = 1) ∧ hvq ε B kp ρ cnt σ' cnt')) := by
  refine pm_enter 4 (by decide) (Nat.le_of_ble_eq_true rfl) rfl (fun G hG hR hF => ?_)
  refine pm_iconst (v := 0) hG dX5_findBest_0 (by decide) ?_
  refine pm_istoreXn (loc' := [some (.ref (B + 42)), some (.int 0), none, none, none]) hG dX5_findBest_1 (by decide) (pm_c1b rfl) rfl ?_
  refine pm_iconst (v := 0) hG dX5_findBest_2 (by decide) ?_
  refine pm_istoreXn (loc' := [some (.ref (B + 42)), some (.int 0), some (.int 0), none, none]) hG dX5_findBest_3 (by decide) (pm_c1b rfl) rfl ?_
  have loop4 : ∀ (m4 : Nat) (I1 : Nat → Int32) (A1 : Nat → Nat → Int32) (x1_1 x1_2 : Int32), gq ε I1 → (x1_1 = 0 ∨ x1_1 = 1) → (¬ x1_2 < 0) → ((64 : Int32).toInt - x1_2.toInt).toNat < m4 → pm_wp mX5_findBest G B 4 [some (.ref (B + 42)), some (.int x1_1), some (.int x1_2), none, none] [] 0 0 cnt (pm_two (cl_L B kp I1 A1) ρ) := by
    intro m4
    induction m4 with
    | zero => intro I1 A1 x1_1 x1_2 _ _ _ hm; exact absurd hm (Nat.not_lt_zero _)
    | succ m4 ih4 =>
      intro I1 A1 x1_1 x1_2 h1 b1_1 s4 hm4
      refine pm_iloadn hG dX5_findBest_4 rfl ?_
      refine pm_bipush (v := 64) hG dX5_findBest_5 (by decide) ?_
      refine pm_icmp_ge (tgt := 104) hG dX5_findBest_7 rfl (fun c2 => ?_) (fun c2 => ?_)
      · refine pm_iloadn hG dX5_findBest_104 rfl ?_
        exact pm_zret hG hF dX5_findBest_105 rfl (pm_nz b1_1) (Nat.le_refl _) (Nat.le_refl _) ⟨_, rfl, b1_1, _, _, rfl, rfl, h1⟩
      · refine pm_aloadn hG dX5_findBest_10 rfl ?_
        refine pm_getf hG dX5_findBest_11 (flX5_11 _ rfl) rfl rfl ?_
        refine pm_iloadn hG dX5_findBest_14 rfl ?_
        refine pm_iald hG dX5_findBest_15 rfl (pm_ib2 rfl s4 c2) ?_
        refine pm_bipush (v := 8) hG dX5_findBest_16 (by decide) ?_
        refine pm_aloadn hG dX5_findBest_18 rfl ?_
        refine pm_getf hG dX5_findBest_19 (flX5_18 _ rfl) rfl rfl ?_
        refine pm_iloadn hG dX5_findBest_22 rfl ?_
        refine pm_iald hG dX5_findBest_23 rfl (pm_ib2 rfl s4 c2) ?_
        refine pm_imul hG dX5_findBest_24 ?_
        refine pm_iadd hG dX5_findBest_25 ?_
        refine pm_istoreXn (loc' := [some (.ref (B + 42)), some (.int x1_1), some (.int x1_2), some (.int (((A1 43) x1_2.toNatClampNeg) + (8 * ((A1 45) x1_2.toNatClampNeg)))), none]) hG dX5_findBest_26 (by decide) (pm_c1b rfl) rfl ?_
        refine pm_iloadn hG dX5_findBest_27 rfl ?_
        refine pm_if_eq (tgt := 60) hG dX5_findBest_28 rfl (fun c3 => ?_) (fun c3 => ?_)
        · refine pm_iconst (v := 1) hG dX5_findBest_60 (by decide) ?_
          refine pm_goto (tgt := 65) hG dX5_findBest_61 rfl ?_
          refine pm_istoreXi (loc' := [some (.ref (B + 42)), some (.int x1_1), some (.int x1_2), some (.int (((A1 43) x1_2.toNatClampNeg) + (8 * ((A1 45) x1_2.toNatClampNeg)))), some (.int 1)]) hG dX5_findBest_65 (by decide) (pm_c1b rfl) rfl ?_
          refine pm_aloadn hG dX5_findBest_67 rfl ?_
          refine pm_getf hG dX5_findBest_68 (flX5_11 _ rfl) rfl rfl ?_
          refine pm_iloadn hG dX5_findBest_71 rfl ?_
          refine pm_iald hG dX5_findBest_72 rfl (pm_ib2 rfl s4 c2) ?_
          refine pm_if_lt (tgt := 98) hG dX5_findBest_73 rfl (fun c4 => ?_) (fun c4 => ?_)
          · refine pm_iincX (v := x1_2 + 1) (loc' := [some (.ref (B + 42)), some (.int x1_1), some (.int (x1_2 + 1)), some (.int (((A1 43) x1_2.toNatClampNeg) + (8 * ((A1 45) x1_2.toNatClampNeg)))), some (.int 1)]) hG dX5_findBest_98 rfl (by rfl) (by decide) (pm_c1b rfl) rfl ?_
            refine pm_goto (tgt := 4) hG dX5_findBest_101 rfl ?_
            refine pm_fg 3 (loc' := [some (.ref (B + 42)), some (.int x1_1), some (.int (x1_2 + 1)), none, some (.int 1)]) rfl ?_
            refine pm_fg 4 (loc' := [some (.ref (B + 42)), some (.int x1_1), some (.int (x1_2 + 1)), none, none]) rfl ?_
            exact ih4 _ _ x1_1 (x1_2 + 1) h1 b1_1 (pm_sd1 c2 s4) (Nat.lt_of_lt_of_le (pm_mu1 c2) (Nat.le_of_lt_succ hm4))
          · refine pm_iloadi hG dX5_findBest_76 rfl ?_
            refine pm_if_eq (tgt := 98) hG dX5_findBest_78 rfl (fun q => absurd q (by decide)) (fun _ => ?_)
            refine pm_iconst (v := 1) hG dX5_findBest_81 (by decide) ?_
            refine pm_istoreXn (loc' := [some (.ref (B + 42)), some (.int 1), some (.int x1_2), some (.int (((A1 43) x1_2.toNatClampNeg) + (8 * ((A1 45) x1_2.toNatClampNeg)))), some (.int 1)]) hG dX5_findBest_82 (by decide) (pm_c1b rfl) rfl ?_
            refine pm_aloadn hG dX5_findBest_83 rfl ?_
            refine pm_iloadn hG dX5_findBest_84 rfl ?_
            refine pm_putf hG dX5_findBest_85 (fwX5_70 _ rfl) rfl rfl rfl ?_
            refine pm_nrm (L' := cl_L B kp (ui I1 113 (((A1 43) x1_2.toNatClampNeg) + (8 * ((A1 45) x1_2.toNatClampNeg)))) A1) (by decide) (Nat.le_of_ble_eq_true rfl) rfl ?_
            refine pm_aloadn hG dX5_findBest_88 rfl ?_
            refine pm_aloadn hG dX5_findBest_89 rfl ?_
            refine pm_getf hG dX5_findBest_90 (flX5_15 _ rfl) rfl rfl ?_
            refine pm_iloadn hG dX5_findBest_93 rfl ?_
            refine pm_iald hG dX5_findBest_94 rfl (pm_ib2 rfl s4 c2) ?_
            refine pm_putf hG dX5_findBest_95 (fwX5_73 _ rfl) rfl rfl rfl ?_
            refine pm_nrm (L' := cl_L B kp (ui (ui I1 113 (((A1 43) x1_2.toNatClampNeg) + (8 * ((A1 45) x1_2.toNatClampNeg)))) 114 ((A1 44) x1_2.toNatClampNeg)) A1) (by decide) (Nat.le_of_ble_eq_true rfl) rfl ?_
            refine pm_iincX (v := x1_2 + 1) (loc' := [some (.ref (B + 42)), some (.int 1), some (.int (x1_2 + 1)), some (.int (((A1 43) x1_2.toNatClampNeg) + (8 * ((A1 45) x1_2.toNatClampNeg)))), some (.int 1)]) hG dX5_findBest_98 rfl (by rfl) (by decide) (pm_c1b rfl) rfl ?_
            refine pm_goto (tgt := 4) hG dX5_findBest_101 rfl ?_
            refine pm_fg 3 (loc' := [some (.ref (B + 42)), some (.int 1), some (.int (x1_2 + 1)), none, some (.int 1)]) rfl ?_
            refine pm_fg 4 (loc' := [some (.ref (B + 42)), some (.int 1), some (.int (x1_2 + 1)), none, none]) rfl ?_
            exact ih4 _ _ 1 (x1_2 + 1) (gq.wi (k := 114) rfl (gq.wi (k := 113) rfl h1)) (Or.inr rfl) (pm_sd1 c2 s4) (Nat.lt_of_lt_of_le (pm_mu1 c2) (Nat.le_of_lt_succ hm4))
        · refine pm_iloadn hG dX5_findBest_31 rfl ?_
          refine pm_aloadn hG dX5_findBest_32 rfl ?_
          refine pm_getf hG dX5_findBest_33 (flX5_70 _ rfl) rfl rfl ?_
          refine pm_icmp_gt (tgt := 60) hG dX5_findBest_36 rfl (fun c7 => ?_) (fun c7 => ?_)
          · refine pm_iconst (v := 1) hG dX5_findBest_60 (by decide) ?_
            refine pm_goto (tgt := 65) hG dX5_findBest_61 rfl ?_
            refine pm_istoreXi (loc' := [some (.ref (B + 42)), some (.int x1_1), some (.int x1_2), some (.int (((A1 43) x1_2.toNatClampNeg) + (8 * ((A1 45) x1_2.toNatClampNeg)))), some (.int 1)]) hG dX5_findBest_65 (by decide) (pm_c1b rfl) rfl ?_
            refine pm_aloadn hG dX5_findBest_67 rfl ?_
            refine pm_getf hG dX5_findBest_68 (flX5_11 _ rfl) rfl rfl ?_
            refine pm_iloadn hG dX5_findBest_71 rfl ?_
            refine pm_iald hG dX5_findBest_72 rfl (pm_ib2 rfl s4 c2) ?_
            refine pm_if_lt (tgt := 98) hG dX5_findBest_73 rfl (fun c8 => ?_) (fun c8 => ?_)
            · refine pm_iincX (v := x1_2 + 1) (loc' := [some (.ref (B + 42)), some (.int x1_1), some (.int (x1_2 + 1)), some (.int (((A1 43) x1_2.toNatClampNeg) + (8 * ((A1 45) x1_2.toNatClampNeg)))), some (.int 1)]) hG dX5_findBest_98 rfl (by rfl) (by decide) (pm_c1b rfl) rfl ?_
              refine pm_goto (tgt := 4) hG dX5_findBest_101 rfl ?_
              refine pm_fg 3 (loc' := [some (.ref (B + 42)), some (.int x1_1), some (.int (x1_2 + 1)), none, some (.int 1)]) rfl ?_
              refine pm_fg 4 (loc' := [some (.ref (B + 42)), some (.int x1_1), some (.int (x1_2 + 1)), none, none]) rfl ?_
              exact ih4 _ _ x1_1 (x1_2 + 1) h1 b1_1 (pm_sd1 c2 s4) (Nat.lt_of_lt_of_le (pm_mu1 c2) (Nat.le_of_lt_succ hm4))
            · refine pm_iloadi hG dX5_findBest_76 rfl ?_
              refine pm_if_eq (tgt := 98) hG dX5_findBest_78 rfl (fun q => absurd q (by decide)) (fun _ => ?_)
              refine pm_iconst (v := 1) hG dX5_findBest_81 (by decide) ?_
              refine pm_istoreXn (loc' := [some (.ref (B + 42)), some (.int 1), some (.int x1_2), some (.int (((A1 43) x1_2.toNatClampNeg) + (8 * ((A1 45) x1_2.toNatClampNeg)))), some (.int 1)]) hG dX5_findBest_82 (by decide) (pm_c1b rfl) rfl ?_
              refine pm_aloadn hG dX5_findBest_83 rfl ?_
              refine pm_iloadn hG dX5_findBest_84 rfl ?_
              refine pm_putf hG dX5_findBest_85 (fwX5_70 _ rfl) rfl rfl rfl ?_
              refine pm_nrm (L' := cl_L B kp (ui I1 113 (((A1 43) x1_2.toNatClampNeg) + (8 * ((A1 45) x1_2.toNatClampNeg)))) A1) (by decide) (Nat.le_of_ble_eq_true rfl) rfl ?_
              refine pm_aloadn hG dX5_findBest_88 rfl ?_
              refine pm_aloadn hG dX5_findBest_89 rfl ?_
              refine pm_getf hG dX5_findBest_90 (flX5_15 _ rfl) rfl rfl ?_
              refine pm_iloadn hG dX5_findBest_93 rfl ?_
              refine pm_iald hG dX5_findBest_94 rfl (pm_ib2 rfl s4 c2) ?_
              refine pm_putf hG dX5_findBest_95 (fwX5_73 _ rfl) rfl rfl rfl ?_
              refine pm_nrm (L' := cl_L B kp (ui (ui I1 113 (((A1 43) x1_2.toNatClampNeg) + (8 * ((A1 45) x1_2.toNatClampNeg)))) 114 ((A1 44) x1_2.toNatClampNeg)) A1) (by decide) (Nat.le_of_ble_eq_true rfl) rfl ?_
              refine pm_iincX (v := x1_2 + 1) (loc' := [some (.ref (B + 42)), some (.int 1), some (.int (x1_2 + 1)), some (.int (((A1 43) x1_2.toNatClampNeg) + (8 * ((A1 45) x1_2.toNatClampNeg)))), some (.int 1)]) hG dX5_findBest_98 rfl (by rfl) (by decide) (pm_c1b rfl) rfl ?_
              refine pm_goto (tgt := 4) hG dX5_findBest_101 rfl ?_
              refine pm_fg 3 (loc' := [some (.ref (B + 42)), some (.int 1), some (.int (x1_2 + 1)), none, some (.int 1)]) rfl ?_
              refine pm_fg 4 (loc' := [some (.ref (B + 42)), some (.int 1), some (.int (x1_2 + 1)), none, none]) rfl ?_
              exact ih4 _ _ 1 (x1_2 + 1) (gq.wi (k := 114) rfl (gq.wi (k := 113) rfl h1)) (Or.inr rfl) (pm_sd1 c2 s4) (Nat.lt_of_lt_of_le (pm_mu1 c2) (Nat.le_of_lt_succ hm4))
          · refine pm_iloadn hG dX5_findBest_39 rfl ?_
            refine pm_aloadn hG dX5_findBest_40 rfl ?_
            refine pm_getf hG dX5_findBest_41 (flX5_70 _ rfl) rfl rfl ?_
            refine pm_icmp_ne (tgt := 64) hG dX5_findBest_44 rfl (fun c11 => ?_) (fun c11 => ?_)
            · refine pm_iconst (v := 0) hG dX5_findBest_64 (by decide) ?_
              refine pm_istoreXi (loc' := [some (.ref (B + 42)), some (.int x1_1), some (.int x1_2), some (.int (((A1 43) x1_2.toNatClampNeg) + (8 * ((A1 45) x1_2.toNatClampNeg)))), some (.int 0)]) hG dX5_findBest_65 (by decide) (pm_c1b rfl) rfl ?_
              refine pm_aloadn hG dX5_findBest_67 rfl ?_
              refine pm_getf hG dX5_findBest_68 (flX5_11 _ rfl) rfl rfl ?_
              refine pm_iloadn hG dX5_findBest_71 rfl ?_
              refine pm_iald hG dX5_findBest_72 rfl (pm_ib2 rfl s4 c2) ?_
              refine pm_if_lt (tgt := 98) hG dX5_findBest_73 rfl (fun c12 => ?_) (fun c12 => ?_)
              · refine pm_iincX (v := x1_2 + 1) (loc' := [some (.ref (B + 42)), some (.int x1_1), some (.int (x1_2 + 1)), some (.int (((A1 43) x1_2.toNatClampNeg) + (8 * ((A1 45) x1_2.toNatClampNeg)))), some (.int 0)]) hG dX5_findBest_98 rfl (by rfl) (by decide) (pm_c1b rfl) rfl ?_
                refine pm_goto (tgt := 4) hG dX5_findBest_101 rfl ?_
                refine pm_fg 3 (loc' := [some (.ref (B + 42)), some (.int x1_1), some (.int (x1_2 + 1)), none, some (.int 0)]) rfl ?_
                refine pm_fg 4 (loc' := [some (.ref (B + 42)), some (.int x1_1), some (.int (x1_2 + 1)), none, none]) rfl ?_
                exact ih4 _ _ x1_1 (x1_2 + 1) h1 b1_1 (pm_sd1 c2 s4) (Nat.lt_of_lt_of_le (pm_mu1 c2) (Nat.le_of_lt_succ hm4))
              · refine pm_iloadi hG dX5_findBest_76 rfl ?_
                refine pm_if_eq (tgt := 98) hG dX5_findBest_78 rfl (fun _ => ?_) (fun q => absurd q (by decide))
                refine pm_iincX (v := x1_2 + 1) (loc' := [some (.ref (B + 42)), some (.int x1_1), some (.int (x1_2 + 1)), some (.int (((A1 43) x1_2.toNatClampNeg) + (8 * ((A1 45) x1_2.toNatClampNeg)))), some (.int 0)]) hG dX5_findBest_98 rfl (by rfl) (by decide) (pm_c1b rfl) rfl ?_
                refine pm_goto (tgt := 4) hG dX5_findBest_101 rfl ?_
                refine pm_fg 3 (loc' := [some (.ref (B + 42)), some (.int x1_1), some (.int (x1_2 + 1)), none, some (.int 0)]) rfl ?_
                refine pm_fg 4 (loc' := [some (.ref (B + 42)), some (.int x1_1), some (.int (x1_2 + 1)), none, none]) rfl ?_
                exact ih4 _ _ x1_1 (x1_2 + 1) h1 b1_1 (pm_sd1 c2 s4) (Nat.lt_of_lt_of_le (pm_mu1 c2) (Nat.le_of_lt_succ hm4))
            · refine pm_aloadn hG dX5_findBest_47 rfl ?_
              refine pm_getf hG dX5_findBest_48 (flX5_15 _ rfl) rfl rfl ?_
              refine pm_iloadn hG dX5_findBest_51 rfl ?_
              refine pm_iald hG dX5_findBest_52 rfl (pm_ib2 rfl s4 c2) ?_
              refine pm_aloadn hG dX5_findBest_53 rfl ?_
              refine pm_getf hG dX5_findBest_54 (flX5_73 _ rfl) rfl rfl ?_
              refine pm_icmp_ge (tgt := 64) hG dX5_findBest_57 rfl (fun c13 => ?_) (fun c13 => ?_)
              · refine pm_iconst (v := 0) hG dX5_findBest_64 (by decide) ?_
                refine pm_istoreXi (loc' := [some (.ref (B + 42)), some (.int x1_1), some (.int x1_2), some (.int (((A1 43) x1_2.toNatClampNeg) + (8 * ((A1 45) x1_2.toNatClampNeg)))), some (.int 0)]) hG dX5_findBest_65 (by decide) (pm_c1b rfl) rfl ?_
                refine pm_aloadn hG dX5_findBest_67 rfl ?_
                refine pm_getf hG dX5_findBest_68 (flX5_11 _ rfl) rfl rfl ?_
                refine pm_iloadn hG dX5_findBest_71 rfl ?_
                refine pm_iald hG dX5_findBest_72 rfl (pm_ib2 rfl s4 c2) ?_
                refine pm_if_lt (tgt := 98) hG dX5_findBest_73 rfl (fun c14 => ?_) (fun c14 => ?_)
                · refine pm_iincX (v := x1_2 + 1) (loc' := [some (.ref (B + 42)), some (.int x1_1), some (.int (x1_2 + 1)), some (.int (((A1 43) x1_2.toNatClampNeg) + (8 * ((A1 45) x1_2.toNatClampNeg)))), some (.int 0)]) hG dX5_findBest_98 rfl (by rfl) (by decide) (pm_c1b rfl) rfl ?_
                  refine pm_goto (tgt := 4) hG dX5_findBest_101 rfl ?_
                  refine pm_fg 3 (loc' := [some (.ref (B + 42)), some (.int x1_1), some (.int (x1_2 + 1)), none, some (.int 0)]) rfl ?_
                  refine pm_fg 4 (loc' := [some (.ref (B + 42)), some (.int x1_1), some (.int (x1_2 + 1)), none, none]) rfl ?_
                  exact ih4 _ _ x1_1 (x1_2 + 1) h1 b1_1 (pm_sd1 c2 s4) (Nat.lt_of_lt_of_le (pm_mu1 c2) (Nat.le_of_lt_succ hm4))
                · refine pm_iloadi hG dX5_findBest_76 rfl ?_
                  refine pm_if_eq (tgt := 98) hG dX5_findBest_78 rfl (fun _ => ?_) (fun q => absurd q (by decide))
                  refine pm_iincX (v := x1_2 + 1) (loc' := [some (.ref (B + 42)), some (.int x1_1), some (.int (x1_2 + 1)), some (.int (((A1 43) x1_2.toNatClampNeg) + (8 * ((A1 45) x1_2.toNatClampNeg)))), some (.int 0)]) hG dX5_findBest_98 rfl (by rfl) (by decide) (pm_c1b rfl) rfl ?_
                  refine pm_goto (tgt := 4) hG dX5_findBest_101 rfl ?_
                  refine pm_fg 3 (loc' := [some (.ref (B + 42)), some (.int x1_1), some (.int (x1_2 + 1)), none, some (.int 0)]) rfl ?_
                  refine pm_fg 4 (loc' := [some (.ref (B + 42)), some (.int x1_1), some (.int (x1_2 + 1)), none, none]) rfl ?_
                  exact ih4 _ _ x1_1 (x1_2 + 1) h1 b1_1 (pm_sd1 c2 s4) (Nat.lt_of_lt_of_le (pm_mu1 c2) (Nat.le_of_lt_succ hm4))
              · refine pm_iconst (v := 1) hG dX5_findBest_60 (by decide) ?_
                refine pm_goto (tgt := 65) hG dX5_findBest_61 rfl ?_
                refine pm_istoreXi (loc' := [some (.ref (B + 42)), some (.int x1_1), some (.int x1_2), some (.int (((A1 43) x1_2.toNatClampNeg) + (8 * ((A1 45) x1_2.toNatClampNeg)))), some (.int 1)]) hG dX5_findBest_65 (by decide) (pm_c1b rfl) rfl ?_
                refine pm_aloadn hG dX5_findBest_67 rfl ?_
                refine pm_getf hG dX5_findBest_68 (flX5_11 _ rfl) rfl rfl ?_
                refine pm_iloadn hG dX5_findBest_71 rfl ?_
                refine pm_iald hG dX5_findBest_72 rfl (pm_ib2 rfl s4 c2) ?_
                refine pm_if_lt (tgt := 98) hG dX5_findBest_73 rfl (fun c15 => ?_) (fun c15 => ?_)
                · refine pm_iincX (v := x1_2 + 1) (loc' := [some (.ref (B + 42)), some (.int x1_1), some (.int (x1_2 + 1)), some (.int (((A1 43) x1_2.toNatClampNeg) + (8 * ((A1 45) x1_2.toNatClampNeg)))), some (.int 1)]) hG dX5_findBest_98 rfl (by rfl) (by decide) (pm_c1b rfl) rfl ?_
                  refine pm_goto (tgt := 4) hG dX5_findBest_101 rfl ?_
                  refine pm_fg 3 (loc' := [some (.ref (B + 42)), some (.int x1_1), some (.int (x1_2 + 1)), none, some (.int 1)]) rfl ?_
                  refine pm_fg 4 (loc' := [some (.ref (B + 42)), some (.int x1_1), some (.int (x1_2 + 1)), none, none]) rfl ?_
                  exact ih4 _ _ x1_1 (x1_2 + 1) h1 b1_1 (pm_sd1 c2 s4) (Nat.lt_of_lt_of_le (pm_mu1 c2) (Nat.le_of_lt_succ hm4))
                · refine pm_iloadi hG dX5_findBest_76 rfl ?_
                  refine pm_if_eq (tgt := 98) hG dX5_findBest_78 rfl (fun q => absurd q (by decide)) (fun _ => ?_)
                  refine pm_iconst (v := 1) hG dX5_findBest_81 (by decide) ?_
                  refine pm_istoreXn (loc' := [some (.ref (B + 42)), some (.int 1), some (.int x1_2), some (.int (((A1 43) x1_2.toNatClampNeg) + (8 * ((A1 45) x1_2.toNatClampNeg)))), some (.int 1)]) hG dX5_findBest_82 (by decide) (pm_c1b rfl) rfl ?_
                  refine pm_aloadn hG dX5_findBest_83 rfl ?_
                  refine pm_iloadn hG dX5_findBest_84 rfl ?_
                  refine pm_putf hG dX5_findBest_85 (fwX5_70 _ rfl) rfl rfl rfl ?_
                  refine pm_nrm (L' := cl_L B kp (ui I1 113 (((A1 43) x1_2.toNatClampNeg) + (8 * ((A1 45) x1_2.toNatClampNeg)))) A1) (by decide) (Nat.le_of_ble_eq_true rfl) rfl ?_
                  refine pm_aloadn hG dX5_findBest_88 rfl ?_
                  refine pm_aloadn hG dX5_findBest_89 rfl ?_
                  refine pm_getf hG dX5_findBest_90 (flX5_15 _ rfl) rfl rfl ?_
                  refine pm_iloadn hG dX5_findBest_93 rfl ?_
                  refine pm_iald hG dX5_findBest_94 rfl (pm_ib2 rfl s4 c2) ?_
                  refine pm_putf hG dX5_findBest_95 (fwX5_73 _ rfl) rfl rfl rfl ?_
                  refine pm_nrm (L' := cl_L B kp (ui (ui I1 113 (((A1 43) x1_2.toNatClampNeg) + (8 * ((A1 45) x1_2.toNatClampNeg)))) 114 ((A1 44) x1_2.toNatClampNeg)) A1) (by decide) (Nat.le_of_ble_eq_true rfl) rfl ?_
                  refine pm_iincX (v := x1_2 + 1) (loc' := [some (.ref (B + 42)), some (.int 1), some (.int (x1_2 + 1)), some (.int (((A1 43) x1_2.toNatClampNeg) + (8 * ((A1 45) x1_2.toNatClampNeg)))), some (.int 1)]) hG dX5_findBest_98 rfl (by rfl) (by decide) (pm_c1b rfl) rfl ?_
                  refine pm_goto (tgt := 4) hG dX5_findBest_101 rfl ?_
                  refine pm_fg 3 (loc' := [some (.ref (B + 42)), some (.int 1), some (.int (x1_2 + 1)), none, some (.int 1)]) rfl ?_
                  refine pm_fg 4 (loc' := [some (.ref (B + 42)), some (.int 1), some (.int (x1_2 + 1)), none, none]) rfl ?_
                  exact ih4 _ _ 1 (x1_2 + 1) (gq.wi (k := 114) rfl (gq.wi (k := 113) rfl h1)) (Or.inr rfl) (pm_sd1 c2 s4) (Nat.lt_of_lt_of_le (pm_mu1 c2) (Nat.le_of_lt_succ hm4))
  exact loop4 _ _ _ 0 0 h (Or.inl rfl) (by decide) (Nat.lt_succ_self _)
