set_option maxRecDepth 100000 in
set_option maxHeartbeats 4000000 in
theorem g_X11_pay {ε : Nat → Int32} {d B cnt : Nat} {kp : pm_KP} {ρ : pm_S} {I : Nat → Int32} {A : Nat → Nat → Int32} {za zb : Int32} (hdd : 3 ≤ d) (h : gq ε I) : pm_met mX11_pay d 0 0 B [.ref (B + 0), .int za, .int zb] cnt (pm_two (cl_L B kp I A) ρ) (pm_Qi (fun _ σ' cnt' => hvq ε B kp ρ cnt σ' cnt')) := by
  refine pm_enter 0 (by decide) (Nat.le_of_ble_eq_true rfl) rfl (fun G hG hR hF => ?_)
  refine pm_aloadn hG dX11_pay_0 rfl ?_
  refine pm_getf hG dX11_pay_1 (flX11_12 _ rfl) rfl rfl ?_
  refine pm_getf hG dX11_pay_4 (flX11_128 _ rfl) rfl rfl ?_
  refine pm_iloadn hG dX11_pay_7 rfl ?_
  refine pm_callV (As := [.int za]) (rest := []) hG hR dX11_pay_8 (lkX11_101 _ rfl) okV_X9_has rfl rfl (tb_has (d := 2) rfl) rfl rfl hdd (Nat.le_refl _) (Nat.le_refl _) (by decide) (pm_ki (fun v1 σ' cnt' hq => ?_))
  have b1 := pm_b01 hq.1
  obtain ⟨I1, A1, rfl, rfl, h1⟩ := hv_id (kp := kp) (I := I) (A := A) h hq.2
  refine pm_if_eq (tgt := 25) hG dX11_pay_11 rfl (fun c2 => ?_) (fun c2 => ?_)
  · refine pm_aloadn hG dX11_pay_25 rfl ?_
    refine pm_ldc hG dX11_pay_26 (ctX11_109 _ rfl) ?_
    refine pm_callV (As := [.int (-1000001)]) (rest := []) hG hR dX11_pay_28 (lkX11_97 _ rfl) okV_X11_told rfl rfl (sx_told (d := 2) (by decide) rfl rfl) rfl rfl hdd (Nat.le_refl _) (Nat.le_refl _) (by decide) (pm_ki (fun v3 σ' cnt' hq => ?_))
    obtain ⟨-, ⟨g3, hg3⟩, hc3⟩ := hq
    obtain ⟨I3, A3, rfl, rfl, h3⟩ := hv_a53 (kp := kp) (I := I1) (A := A1) h1 ⟨hg3, hc3⟩
    exact pm_iret hG hF dX11_pay_31 rfl (Nat.le_refl _) (Nat.le_refl _) ⟨_, rfl, _, _, rfl, rfl, h3⟩
  · refine pm_iloadn hG dX11_pay_14 rfl ?_
    refine pm_iconst (v := 1) hG dX11_pay_15 (by decide) ?_
    refine pm_sipush (v := 9999) hG dX11_pay_16 (by decide) ?_
    refine pm_callS (As := [.int zb, .int 1, .int 9999]) (rest := []) hG hR dX11_pay_19 (lkX11_105 _ rfl) okS_X11_isOutside (sx_isOutside (d := 2)) rfl rfl hdd (Nat.le_refl _) (Nat.le_refl _) (by decide) (pm_ki (fun v4 σ' cnt' hq => ?_))
    have o4 := hq.1
    have b4 := pm_b10 hq.1
    obtain ⟨I4, A4, rfl, rfl, h4⟩ := hv_id (kp := kp) (I := I1) (A := A1) h1 hq.2
    refine pm_if_eq (tgt := 32) hG dX11_pay_22 rfl (fun c5 => ?_) (fun c5 => ?_)
    · refine pm_aloadn hG dX11_pay_32 rfl ?_
      refine pm_aloadn hG dX11_pay_33 rfl ?_
      refine pm_getf hG dX11_pay_34 (flX11_12 _ rfl) rfl rfl ?_
      refine pm_iloadn hG dX11_pay_37 rfl ?_
      refine pm_callV (As := [.int za]) (rest := [.ref (B + 0)]) hG hR dX11_pay_38 (lkX11_135 _ rfl) okV_X7_isLiving rfl rfl (g_X7_isLiving (d := 2) (by decide) h4) rfl rfl hdd (Nat.le_refl _) (Nat.le_refl _) (by first | decide | exact Nat.le_of_ble_eq_true rfl) (pm_ki (fun v6 σ' cnt' hq => ?_))
      obtain ⟨b6, I6, A6, rfl, rfl, h6⟩ := hq
      refine pm_if_eq (tgt := 56) hG dX11_pay_41 rfl (fun c7 => ?_) (fun c7 => ?_)
      · refine pm_ldc hG dX11_pay_56 (ctX11_138 _ rfl) ?_
        refine pm_callV (As := [.int (-1000003)]) (rest := []) hG hR dX11_pay_58 (lkX11_97 _ rfl) okV_X11_told rfl rfl (sx_told (d := 2) (by decide) rfl rfl) rfl rfl hdd (Nat.le_refl _) (Nat.le_refl _) (by decide) (pm_ki (fun v8 σ' cnt' hq => ?_))
        obtain ⟨-, ⟨g8, hg8⟩, hc8⟩ := hq
        obtain ⟨I8, A8, rfl, rfl, h8⟩ := hv_a53 (kp := kp) (I := I6) (A := A6) h6 ⟨hg8, hc8⟩
        exact pm_iret hG hF dX11_pay_61 rfl (Nat.le_refl _) (Nat.le_refl _) ⟨_, rfl, _, _, rfl, rfl, h8⟩
      · refine pm_aloadn hG dX11_pay_44 rfl ?_
        refine pm_getf hG dX11_pay_45 (flX11_12 _ rfl) rfl rfl ?_
        refine pm_iloadn hG dX11_pay_48 rfl ?_
        refine pm_iloadn hG dX11_pay_49 rfl ?_
        refine pm_callV (As := [.int za, .int zb]) (rest := [.ref (B + 0)]) hG hR dX11_pay_50 (lkX11_167 _ rfl) okV_X7_payFromChest rfl rfl (g_X7_payFromChest (d := 2) (by decide) h6) rfl rfl hdd (Nat.le_refl _) (Nat.le_refl _) (by first | decide | exact Nat.le_of_ble_eq_true rfl) (pm_ki (fun v9 σ' cnt' hq => ?_))
        obtain ⟨I9, A9, rfl, rfl, h9⟩ := hq
        refine pm_goto (tgt := 58) hG dX11_pay_53 rfl ?_
        refine pm_callV (As := [.int v9]) (rest := []) hG hR dX11_pay_58 (lkX11_97 _ rfl) okV_X11_told rfl rfl (sx_told (d := 2) (by decide) rfl rfl) rfl rfl hdd (Nat.le_refl _) (Nat.le_refl _) (by decide) (pm_ki (fun v10 σ' cnt' hq => ?_))
        obtain ⟨-, ⟨g10, hg10⟩, hc10⟩ := hq
        obtain ⟨I10, A10, rfl, rfl, h10⟩ := hv_a53 (kp := kp) (I := I9) (A := A9) h9 ⟨hg10, hc10⟩
        exact pm_iret hG hF dX11_pay_61 rfl (Nat.le_refl _) (Nat.le_refl _) ⟨_, rfl, _, _, rfl, rfl, h10⟩
    · refine pm_aloadn hG dX11_pay_25 rfl ?_
      refine pm_ldc hG dX11_pay_26 (ctX11_109 _ rfl) ?_
      refine pm_callV (As := [.int (-1000001)]) (rest := []) hG hR dX11_pay_28 (lkX11_97 _ rfl) okV_X11_told rfl rfl (sx_told (d := 2) (by decide) rfl rfl) rfl rfl hdd (Nat.le_refl _) (Nat.le_refl _) (by decide) (pm_ki (fun v11 σ' cnt' hq => ?_))
      obtain ⟨-, ⟨g11, hg11⟩, hc11⟩ := hq
      obtain ⟨I11, A11, rfl, rfl, h11⟩ := hv_a53 (kp := kp) (I := I4) (A := A4) h4 ⟨hg11, hc11⟩
      exact pm_iret hG hF dX11_pay_31 rfl (Nat.le_refl _) (Nat.le_refl _) ⟨_, rfl, _, _, rfl, rfl, h11⟩

set_option maxRecDepth 100000 in
set_option maxHeartbeats 4000000 in
theorem g_X7_mayBeParent {ε : Nat → Int32} {d B cnt : Nat} {kp : pm_KP} {ρ : pm_S} {I : Nat → Int32} {A : Nat → Nat → Int32} {za zb zc : Int32} (hdd : 1 ≤ d) (h : gq ε I) : pm_met mX7_mayBeParent d 0 0 B [.ref (B + 1), .int za, .int zb, .int zc] cnt (pm_two (cl_L B kp I A) ρ) (pm_Qi (fun v σ' cnt' => (v = 0 ∨ v = 1) ∧ hvq ε B kp ρ cnt σ' cnt')) := by
  refine pm_enter 0 (by decide) (Nat.le_of_ble_eq_true rfl) rfl (fun G hG hR hF => ?_)
  refine pm_iloadn hG dX7_mayBeParent_0 rfl ?_
  refine pm_iconst (v := (-1)) hG dX7_mayBeParent_1 (by decide) ?_
  refine pm_icmp_eq (tgt := 42) hG dX7_mayBeParent_2 rfl (fun c1 => ?_) (fun c1 => ?_)
  · refine pm_iconst (v := 1) hG dX7_mayBeParent_42 (by decide) ?_
    refine pm_goto (tgt := 47) hG dX7_mayBeParent_43 rfl ?_
    exact pm_zret hG hF dX7_mayBeParent_47 rfl (pm_nz (Or.inr rfl)) (Nat.le_refl _) (Nat.le_refl _) ⟨_, rfl, (Or.inr rfl), _, _, rfl, rfl, h⟩
  · refine pm_aloadn hG dX7_mayBeParent_5 rfl ?_
    refine pm_getf hG dX7_mayBeParent_6 (flX7_23 _ rfl) rfl rfl ?_
    refine pm_iloadn hG dX7_mayBeParent_9 rfl ?_
    refine pm_callV (As := [.int za]) (rest := []) hG hR dX7_mayBeParent_10 (lkX7_93 _ rfl) okV_X9_has rfl rfl (tb_has (d := 0) rfl) rfl rfl hdd (Nat.le_refl _) (Nat.le_refl _) (by decide) (pm_ki (fun v2 σ' cnt' hq => ?_))
    have b2 := pm_b01 hq.1
    obtain ⟨I2, A2, rfl, rfl, h2⟩ := hv_id (kp := kp) (I := I) (A := A) h hq.2
    refine pm_if_eq (tgt := 46) hG dX7_mayBeParent_13 rfl (fun c3 => ?_) (fun c3 => ?_)
    · refine pm_iconst (v := 0) hG dX7_mayBeParent_46 (by decide) ?_
      exact pm_zret hG hF dX7_mayBeParent_47 rfl (pm_nz (Or.inl rfl)) (Nat.le_refl _) (Nat.le_refl _) ⟨_, rfl, (Or.inl rfl), _, _, rfl, rfl, h2⟩
    · refine pm_aloadn hG dX7_mayBeParent_16 rfl ?_
      refine pm_getf hG dX7_mayBeParent_17 (flX7_23 _ rfl) rfl rfl ?_
      refine pm_iloadn hG dX7_mayBeParent_20 rfl ?_
      refine pm_iconst (v := 0) hG dX7_mayBeParent_21 (by decide) ?_
      refine pm_callV (As := [.int za, .int 0]) (rest := []) hG hR dX7_mayBeParent_22 (lkX7_83 _ rfl) okV_X9_get rfl rfl (tb_get (d := 0) rfl rfl (pm_tw_of 20 14 (by decide) (by decide) (by decide))) rfl rfl hdd (Nat.le_refl _) (Nat.le_refl _) (by decide) (pm_ki (fun v4 σ' cnt' hq => ?_))
      obtain ⟨I4, A4, rfl, rfl, h4⟩ := hv_id (kp := kp) (I := I2) (A := A2) h2 hq.2
      refine pm_iloadn hG dX7_mayBeParent_25 rfl ?_
      refine pm_icmp_ne (tgt := 46) hG dX7_mayBeParent_26 rfl (fun c5 => ?_) (fun c5 => ?_)
      · refine pm_iconst (v := 0) hG dX7_mayBeParent_46 (by decide) ?_
        exact pm_zret hG hF dX7_mayBeParent_47 rfl (pm_nz (Or.inl rfl)) (Nat.le_refl _) (Nat.le_refl _) ⟨_, rfl, (Or.inl rfl), _, _, rfl, rfl, h4⟩
      · refine pm_aloadn hG dX7_mayBeParent_29 rfl ?_
        refine pm_getf hG dX7_mayBeParent_30 (flX7_23 _ rfl) rfl rfl ?_
        refine pm_iloadn hG dX7_mayBeParent_33 rfl ?_
        refine pm_iconst (v := 1) hG dX7_mayBeParent_34 (by decide) ?_
        refine pm_callV (As := [.int za, .int 1]) (rest := []) hG hR dX7_mayBeParent_35 (lkX7_83 _ rfl) okV_X9_get rfl rfl (tb_get (d := 0) rfl rfl (pm_tw_of 20 14 (by decide) (by decide) (by decide))) rfl rfl hdd (Nat.le_refl _) (Nat.le_refl _) (by decide) (pm_ki (fun v6 σ' cnt' hq => ?_))
        obtain ⟨I6, A6, rfl, rfl, h6⟩ := hv_id (kp := kp) (I := I4) (A := A4) h4 hq.2
        refine pm_iloadn hG dX7_mayBeParent_38 rfl ?_
        refine pm_icmp_ge (tgt := 46) hG dX7_mayBeParent_39 rfl (fun c7 => ?_) (fun c7 => ?_)
        · refine pm_iconst (v := 0) hG dX7_mayBeParent_46 (by decide) ?_
          exact pm_zret hG hF dX7_mayBeParent_47 rfl (pm_nz (Or.inl rfl)) (Nat.le_refl _) (Nat.le_refl _) ⟨_, rfl, (Or.inl rfl), _, _, rfl, rfl, h6⟩
        · refine pm_iconst (v := 1) hG dX7_mayBeParent_42 (by decide) ?_
          refine pm_goto (tgt := 47) hG dX7_mayBeParent_43 rfl ?_
          exact pm_zret hG hF dX7_mayBeParent_47 rfl (pm_nz (Or.inr rfl)) (Nat.le_refl _) (Nat.le_refl _) ⟨_, rfl, (Or.inr rfl), _, _, rfl, rfl, h6⟩

set_option maxRecDepth 100000 in
set_option maxHeartbeats 4000000 in
theorem g_X8_numberAt {ε : Nat → Int32} {d B cnt : Nat} {kp : pm_KP} {ρ : pm_S} {I : Nat → Int32} {A : Nat → Nat → Int32} {za zb : Int32} (hdd : 1 ≤ d) (h : gq ε I) : pm_met mX8_numberAt d 0 0 B [.ref (B + 48), .int za, .int zb] cnt (pm_two (cl_L B kp I A) ρ) (pm_Qi (fun _ σ' cnt' => hvq ε B kp ρ cnt σ' cnt')) := by
  refine pm_enter 0 (by decide) (Nat.le_of_ble_eq_true rfl) rfl (fun G hG hR hF => ?_)
  refine pm_aloadn hG dX8_numberAt_0 rfl ?_
  refine pm_getf hG dX8_numberAt_1 (flX8_23 _ rfl) rfl rfl ?_
  refine pm_iloadn hG dX8_numberAt_4 rfl ?_
  refine pm_iloadn hG dX8_numberAt_5 rfl ?_
  refine pm_callV (As := [.int za, .int zb]) (rest := []) hG hR dX8_numberAt_6 (lkX8_35 _ rfl) okV_X9_get rfl rfl (tb_get (d := 0) rfl rfl (pm_tw_of 4 24 (by decide) (by decide) (by decide))) rfl rfl hdd (Nat.le_refl _) (Nat.le_refl _) (by decide) (pm_ki (fun v1 σ' cnt' hq => ?_))
  obtain ⟨I1, A1, rfl, rfl, h1⟩ := hv_id (kp := kp) (I := I) (A := A) h hq.2
  exact pm_iret hG hF dX8_numberAt_9 rfl (Nat.le_refl _) (Nat.le_refl _) ⟨_, rfl, _, _, rfl, rfl, h1⟩

set_option maxRecDepth 100000 in
set_option maxHeartbeats 4000000 in
theorem g_X8_areAllWithin {ε : Nat → Int32} {d B cnt : Nat} {kp : pm_KP} {ρ : pm_S} {I : Nat → Int32} {A : Nat → Nat → Int32} {za zb zc : Int32} (hdd : 2 ≤ d) (h : gq ε I) : pm_met mX8_areAllWithin d 0 0 B [.ref (B + 48), .int za, .int zb, .int zc] cnt (pm_two (cl_L B kp I A) ρ) (pm_Qi (fun v σ' cnt' => (v = 0 ∨ v = 1) ∧ hvq ε B kp ρ cnt σ' cnt')) := by
  refine pm_enter 2 (by decide) (Nat.le_of_ble_eq_true rfl) rfl (fun G hG hR hF => ?_)
  refine pm_aloadn hG dX8_areAllWithin_0 rfl ?_
  refine pm_iloadn hG dX8_areAllWithin_1 rfl ?_
  refine pm_callV (As := [.int za]) (rest := []) hG hR dX8_areAllWithin_2 (lkX8_39 _ rfl) okV_X8_sizeOf rfl rfl (g_X8_sizeOf (d := 1) (by decide) h) rfl rfl hdd (Nat.le_refl _) (Nat.le_refl _) (by decide) (pm_ki (fun v1 σ' cnt' hq => ?_))
  obtain ⟨I1, A1, rfl, rfl, h1⟩ := hq
  refine pm_istoreXi (loc' := [some (.ref (B + 48)), some (.int za), some (.int zb), some (.int zc), some (.int v1), none]) hG dX8_areAllWithin_5 (by decide) (pm_c1b rfl) rfl ?_
  refine pm_iconst (v := 0) hG dX8_areAllWithin_7 (by decide) ?_
  refine pm_istoreXi (loc' := [some (.ref (B + 48)), some (.int za), some (.int zb), some (.int zc), some (.int v1), some (.int 0)]) hG dX8_areAllWithin_8 (by decide) (pm_c1b rfl) rfl ?_
  have loop10 : ∀ (m10 : Nat) (I2 : Nat → Int32) (A2 : Nat → Nat → Int32) (x2_5 : Int32), gq ε I2 → (¬ x2_5 < 0) → ((v1 : Int32).toInt - x2_5.toInt).toNat < m10 → pm_wp mX8_areAllWithin G B 10 [some (.ref (B + 48)), some (.int za), some (.int zb), some (.int zc), some (.int v1), some (.int x2_5)] [] 0 0 cnt (pm_two (cl_L B kp I2 A2) ρ) := by
    intro m10
    induction m10 with
    | zero => intro I2 A2 x2_5 _  _ hm; exact absurd hm (Nat.not_lt_zero _)
    | succ m10 ih10 =>
      intro I2 A2 x2_5 h2 s10 hm10
      refine pm_iloadi hG dX8_areAllWithin_10 rfl ?_
      refine pm_iloadi hG dX8_areAllWithin_12 rfl ?_
      refine pm_icmp_ge (tgt := 40) hG dX8_areAllWithin_14 rfl (fun c3 => ?_) (fun c3 => ?_)
      · refine pm_iconst (v := 1) hG dX8_areAllWithin_40 (by decide) ?_
        exact pm_zret hG hF dX8_areAllWithin_41 rfl (pm_nz (Or.inr rfl)) (Nat.le_refl _) (Nat.le_refl _) ⟨_, rfl, (Or.inr rfl), _, _, rfl, rfl, h2⟩
      · refine pm_aloadn hG dX8_areAllWithin_17 rfl ?_
        refine pm_iloadn hG dX8_areAllWithin_18 rfl ?_
        refine pm_iloadi hG dX8_areAllWithin_19 rfl ?_
        refine pm_callV (As := [.int za, .int x2_5]) (rest := []) hG hR dX8_areAllWithin_21 (lkX8_42 _ rfl) okV_X8_numberAt rfl rfl (g_X8_numberAt (d := 1) (by decide) h2) rfl rfl hdd (Nat.le_refl _) (Nat.le_refl _) (by decide) (pm_ki (fun v4 σ' cnt' hq => ?_))
        obtain ⟨I4, A4, rfl, rfl, h4⟩ := hq
        refine pm_iloadn hG dX8_areAllWithin_24 rfl ?_
        refine pm_iloadn hG dX8_areAllWithin_25 rfl ?_
        refine pm_callS (As := [.int v4, .int zb, .int zc]) (rest := []) hG hR dX8_areAllWithin_26 (lkX8_45 _ rfl) okS_X11_isOutside (sx_isOutside (d := 1)) rfl rfl hdd (Nat.le_refl _) (Nat.le_refl _) (by decide) (pm_ki (fun v5 σ' cnt' hq => ?_))
        have o5 := hq.1
        have b5 := pm_b10 hq.1
        obtain ⟨I5, A5, rfl, rfl, h5⟩ := hv_id (kp := kp) (I := I4) (A := A4) h4 hq.2
        refine pm_if_eq (tgt := 34) hG dX8_areAllWithin_29 rfl (fun c6 => ?_) (fun c6 => ?_)
        · refine pm_iincX (v := x2_5 + 1) (loc' := [some (.ref (B + 48)), some (.int za), some (.int zb), some (.int zc), some (.int v1), some (.int (x2_5 + 1))]) hG dX8_areAllWithin_34 rfl (by rfl) (by decide) (pm_c1b rfl) rfl ?_
          refine pm_goto (tgt := 10) hG dX8_areAllWithin_37 rfl ?_
          exact ih10 _ _ (x2_5 + 1) h5 (pm_sd1 c3 s10) (Nat.lt_of_lt_of_le (pm_mu1 c3) (Nat.le_of_lt_succ hm10))
        · refine pm_iconst (v := 0) hG dX8_areAllWithin_32 (by decide) ?_
          exact pm_zret hG hF dX8_areAllWithin_33 rfl (pm_nz (Or.inl rfl)) (Nat.le_refl _) (Nat.le_refl _) ⟨_, rfl, (Or.inl rfl), _, _, rfl, rfl, h5⟩
  exact loop10 _ _ _ 0 h1 (by decide) (Nat.lt_succ_self _)

set_option maxRecDepth 100000 in
set_option maxHeartbeats 4000000 in
theorem g_X5_rentsBut {ε : Nat → Int32} {d B cnt : Nat} {kp : pm_KP} {ρ : pm_S} {I : Nat → Int32} {A : Nat → Nat → Int32} {za : Int32} (hdd : 1 ≤ d) (h : gq ε I) : pm_met mX5_rentsBut d 0 0 B [.ref (B + 42), .int za] cnt (pm_two (cl_L B kp I A) ρ) (pm_Qi (fun _ σ' cnt' => hvq ε B kp ρ cnt σ' cnt')) := by
  refine pm_enter 2 (by decide) (Nat.le_of_ble_eq_true rfl) rfl (fun G hG hR hF => ?_)
  refine pm_iconst (v := 0) hG dX5_rentsBut_0 (by decide) ?_
  refine pm_istoreXn (loc' := [some (.ref (B + 42)), some (.int za), some (.int 0), none]) hG dX5_rentsBut_1 (by decide) (pm_c1b rfl) rfl ?_
  refine pm_iconst (v := 0) hG dX5_rentsBut_2 (by decide) ?_
  refine pm_istoreXn (loc' := [some (.ref (B + 42)), some (.int za), some (.int 0), some (.int 0)]) hG dX5_rentsBut_3 (by decide) (pm_c1b rfl) rfl ?_
  have loop4 : ∀ (m4 : Nat) (I1 : Nat → Int32) (A1 : Nat → Nat → Int32) (x1_2 x1_3 : Int32), gq ε I1 → (¬ x1_3 < 0) → ((6 : Int32).toInt - x1_3.toInt).toNat < m4 → pm_wp mX5_rentsBut G B 4 [some (.ref (B + 42)), some (.int za), some (.int x1_2), some (.int x1_3)] [] 0 0 cnt (pm_two (cl_L B kp I1 A1) ρ) := by
    intro m4
    induction m4 with
    | zero => intro I1 A1 x1_2 x1_3 _  _ hm; exact absurd hm (Nat.not_lt_zero _)
    | succ m4 ih4 =>
      intro I1 A1 x1_2 x1_3 h1 s4 hm4
      refine pm_iloadn hG dX5_rentsBut_4 rfl ?_
      refine pm_bipush (v := 6) hG dX5_rentsBut_5 (by decide) ?_
      refine pm_icmp_ge (tgt := 46) hG dX5_rentsBut_7 rfl (fun c2 => ?_) (fun c2 => ?_)
      · refine pm_iloadn hG dX5_rentsBut_46 rfl ?_
        exact pm_iret hG hF dX5_rentsBut_47 rfl (Nat.le_refl _) (Nat.le_refl _) ⟨_, rfl, _, _, rfl, rfl, h1⟩
      · refine pm_aloadn hG dX5_rentsBut_10 rfl ?_
        refine pm_getf hG dX5_rentsBut_11 (flX5_37 _ rfl) rfl rfl ?_
        refine pm_iloadn hG dX5_rentsBut_14 rfl ?_
        refine pm_iconst (v := (-1)) hG dX5_rentsBut_15 (by decide) ?_
        refine pm_ixor hG dX5_rentsBut_16 ?_
        refine pm_iand hG dX5_rentsBut_17 ?_
        refine pm_iconst (v := 1) hG dX5_rentsBut_18 (by decide) ?_
        refine pm_iloadn hG dX5_rentsBut_19 rfl ?_
        refine pm_ishl hG dX5_rentsBut_20 ?_
        refine pm_iand hG dX5_rentsBut_21 ?_
        refine pm_if_eq (tgt := 40) hG dX5_rentsBut_22 rfl (fun c3 => ?_) (fun c3 => ?_)
        · refine pm_iincX (v := x1_3 + 1) (loc' := [some (.ref (B + 42)), some (.int za), some (.int x1_2), some (.int (x1_3 + 1))]) hG dX5_rentsBut_40 rfl (by rfl) (by decide) (pm_c1b rfl) rfl ?_
          refine pm_goto (tgt := 4) hG dX5_rentsBut_43 rfl ?_
          exact ih4 _ _ x1_2 (x1_3 + 1) h1 (pm_sd1 c2 s4) (Nat.lt_of_lt_of_le (pm_mu1 c2) (Nat.le_of_lt_succ hm4))
        · refine pm_iloadn hG dX5_rentsBut_25 rfl ?_
          refine pm_aloadn hG dX5_rentsBut_26 rfl ?_
          refine pm_getf hG dX5_rentsBut_27 (flX5_21 _ rfl) rfl rfl ?_
          refine pm_getf hG dX5_rentsBut_30 (flX5_40 _ rfl) rfl rfl ?_
          refine pm_iloadn hG dX5_rentsBut_33 rfl ?_
          refine pm_iconst (v := 0) hG dX5_rentsBut_34 (by decide) ?_
          refine pm_callV (As := [.int x1_3, .int 0]) (rest := [.int x1_2]) hG hR dX5_rentsBut_35 (lkX5_50 _ rfl) okV_X9_get rfl rfl (tb_get (d := 0) rfl rfl (pm_tw_of 10 3 (by decide) (by decide) (by decide))) rfl rfl hdd (Nat.le_refl _) (Nat.le_refl _) (by first | decide | exact Nat.le_of_ble_eq_true rfl) (pm_ki (fun v4 σ' cnt' hq => ?_))
          obtain ⟨I4, A4, rfl, rfl, h4⟩ := hv_id (kp := kp) (I := I1) (A := A1) h1 hq.2
          refine pm_iadd hG dX5_rentsBut_38 ?_
          refine pm_istoreXn (loc' := [some (.ref (B + 42)), some (.int za), some (.int (x1_2 + v4)), some (.int x1_3)]) hG dX5_rentsBut_39 (by decide) (pm_c1b rfl) rfl ?_
          refine pm_iincX (v := x1_3 + 1) (loc' := [some (.ref (B + 42)), some (.int za), some (.int (x1_2 + v4)), some (.int (x1_3 + 1))]) hG dX5_rentsBut_40 rfl (by rfl) (by decide) (pm_c1b rfl) rfl ?_
          refine pm_goto (tgt := 4) hG dX5_rentsBut_43 rfl ?_
          exact ih4 _ _ (x1_2 + v4) (x1_3 + 1) h4 (pm_sd1 c2 s4) (Nat.lt_of_lt_of_le (pm_mu1 c2) (Nat.le_of_lt_succ hm4))
  exact loop4 _ _ _ 0 0 h (by decide) (Nat.lt_succ_self _)

set_option maxRecDepth 100000 in
set_option maxHeartbeats 4000000 in
theorem g_X5_begin {ε : Nat → Int32} {d B cnt : Nat} {kp : pm_KP} {ρ : pm_S} {I : Nat → Int32} {A : Nat → Nat → Int32} (hdd : 2 ≤ d) (h : gq ε I) : pm_met mX5_begin d 0 0 B [.ref (B + 42)] cnt (pm_two (cl_L B kp I A) ρ) (pm_Qv (fun σ' cnt' => hvq ε B kp ρ cnt σ' cnt')) := by
  refine pm_enter 2 (by decide) (Nat.le_of_ble_eq_true rfl) rfl (fun G hG hR hF => ?_)
  refine pm_aloadn hG dX5_begin_0 rfl ?_
  refine pm_getf hG dX5_begin_1 (flX5_11 _ rfl) rfl rfl ?_
  refine pm_iconst (v := (-1)) hG dX5_begin_4 (by decide) ?_
  refine pm_callS (As := [.ref (B + 43), .int (-1)]) (rest := []) hG hR dX5_begin_5 (lkX5_25 _ rfl) okS_J7_fill_53178 (sx_fill (d := 1) (c := 43) rfl (by decide)) rfl rfl hdd (Nat.le_refl _) (Nat.le_refl _) (by decide) (pm_kv (fun σ' cnt' hq => ?_))
  obtain ⟨⟨g1, hg1⟩, hc1⟩ := hq
  obtain ⟨I1, A1, rfl, rfl, h1⟩ := hv_a43 (kp := kp) (I := I) (A := A) h ⟨hg1, hc1⟩
  refine pm_aloadn hG dX5_begin_8 rfl ?_
  refine pm_getf hG dX5_begin_9 (flX5_11 _ rfl) rfl rfl ?_
  refine pm_iconst (v := 0) hG dX5_begin_12 (by decide) ?_
  refine pm_aloadn hG dX5_begin_13 rfl ?_
  refine pm_getf hG dX5_begin_14 (flX5_21 _ rfl) rfl rfl ?_
  refine pm_getf hG dX5_begin_17 (flX5_31 _ rfl) rfl rfl ?_
  refine pm_iast hG dX5_begin_20 rfl (pm_inb (by decide)) ?_
  refine nm_a43 (fun A2 => ?_)
  refine pm_aloadn hG dX5_begin_21 rfl ?_
  refine pm_getf hG dX5_begin_22 (flX5_15 _ rfl) rfl rfl ?_
  refine pm_iconst (v := 0) hG dX5_begin_25 (by decide) ?_
  refine pm_iconst (v := 0) hG dX5_begin_26 (by decide) ?_
  refine pm_iast hG dX5_begin_27 rfl (pm_inb (by decide)) ?_
  refine nm_a44 (fun A3 => ?_)
  refine pm_aloadn hG dX5_begin_28 rfl ?_
  refine pm_iconst (v := 0) hG dX5_begin_29 (by decide) ?_
  refine pm_putf hG dX5_begin_30 (fwX5_37 _ rfl) rfl rfl rfl ?_
  refine pm_nrm (L' := cl_L B kp (ui I1 112 0) A3) (by decide) (Nat.le_of_ble_eq_true rfl) rfl ?_
  refine pm_iconst (v := 0) hG dX5_begin_33 (by decide) ?_
  refine pm_istoreXn (loc' := [some (.ref (B + 42)), some (.int 0), none]) hG dX5_begin_34 (by decide) (pm_c1b rfl) rfl ?_
  have loop35 : ∀ (m35 : Nat) (I5 : Nat → Int32) (A5 : Nat → Nat → Int32) (x5_1 : Int32), gq ε I5 → (¬ x5_1 < 0) → ((6 : Int32).toInt - x5_1.toInt).toNat < m35 → pm_wp mX5_begin G B 35 [some (.ref (B + 42)), some (.int x5_1), none] [] 0 0 cnt (pm_two (cl_L B kp I5 A5) ρ) := by
    intro m35
    induction m35 with
    | zero => intro I5 A5 x5_1 _  _ hm; exact absurd hm (Nat.not_lt_zero _)
    | succ m35 ih35 =>
      intro I5 A5 x5_1 h5 s35 hm35
      refine pm_iloadn hG dX5_begin_35 rfl ?_
      refine pm_bipush (v := 6) hG dX5_begin_36 (by decide) ?_
      refine pm_icmp_ge (tgt := 118) hG dX5_begin_38 rfl (fun c6 => ?_) (fun c6 => ?_)
      · refine pm_iconst (v := 0) hG dX5_begin_118 (by decide) ?_
        refine pm_istoreXn (loc' := [some (.ref (B + 42)), some (.int 0), none]) hG dX5_begin_119 (by decide) (pm_c1b rfl) rfl ?_
        have loop120 : ∀ (m120 : Nat) (I7 : Nat → Int32) (A7 : Nat → Nat → Int32) (x7_1 : Int32), gq ε I7 → (¬ x7_1 < 0) → ((64 : Int32).toInt - x7_1.toInt).toNat < m120 → pm_wp mX5_begin G B 120 [some (.ref (B + 42)), some (.int x7_1), none] [] 0 0 cnt (pm_two (cl_L B kp I7 A7) ρ) := by
          intro m120
          induction m120 with
          | zero => intro I7 A7 x7_1 _  _ hm; exact absurd hm (Nat.not_lt_zero _)
          | succ m120 ih120 =>
            intro I7 A7 x7_1 h7 s120 hm120
            refine pm_iloadn hG dX5_begin_120 rfl ?_
            refine pm_bipush (v := 64) hG dX5_begin_121 (by decide) ?_
            refine pm_icmp_ge (tgt := 143) hG dX5_begin_123 rfl (fun c8 => ?_) (fun c8 => ?_)
            · exact pm_vret hG hF dX5_begin_143 rfl (Nat.le_refl _) (Nat.le_refl _) ⟨rfl, _, _, rfl, rfl, h7⟩
            · refine pm_aloadn hG dX5_begin_126 rfl ?_
              refine pm_getf hG dX5_begin_127 (flX5_18 _ rfl) rfl rfl ?_
              refine pm_iloadn hG dX5_begin_130 rfl ?_
              refine pm_aloadn hG dX5_begin_131 rfl ?_
              refine pm_iloadn hG dX5_begin_132 rfl ?_
              refine pm_callV (As := [.int x7_1]) (rest := [.int x7_1, .ref (B + 45)]) hG hR dX5_begin_133 (lkX5_54 _ rfl) okV_X5_rentsBut rfl rfl (g_X5_rentsBut (d := 1) (by decide) h7) rfl rfl hdd (Nat.le_refl _) (Nat.le_refl _) (by first | decide | exact Nat.le_of_ble_eq_true rfl) (pm_ki (fun v9 σ' cnt' hq => ?_))
              obtain ⟨I9, A9, rfl, rfl, h9⟩ := hq
              refine pm_iast hG dX5_begin_136 rfl (pm_ib2 rfl s120 c8) ?_
              refine nm_a45 (fun A10 => ?_)
              refine pm_iincX (v := x7_1 + 1) (loc' := [some (.ref (B + 42)), some (.int (x7_1 + 1)), none]) hG dX5_begin_137 rfl (by rfl) (by decide) (pm_c1b rfl) rfl ?_
              refine pm_goto (tgt := 120) hG dX5_begin_140 rfl ?_
              exact ih120 _ _ (x7_1 + 1) h9 (pm_sd1 c8 s120) (Nat.lt_of_lt_of_le (pm_mu1 c8) (Nat.le_of_lt_succ hm120))
        exact loop120 _ _ _ 0 h5 (by decide) (Nat.lt_succ_self _)
      · refine pm_aloadn hG dX5_begin_41 rfl ?_
        refine pm_getf hG dX5_begin_42 (flX5_21 _ rfl) rfl rfl ?_
        refine pm_getf hG dX5_begin_45 (flX5_40 _ rfl) rfl rfl ?_
        refine pm_iloadn hG dX5_begin_48 rfl ?_
        refine pm_callV (As := [.int x5_1]) (rest := []) hG hR dX5_begin_49 (lkX5_44 _ rfl) okV_X9_has rfl rfl (tb_has (d := 1) rfl) rfl rfl hdd (Nat.le_refl _) (Nat.le_refl _) (by decide) (pm_ki (fun v11 σ' cnt' hq => ?_))
        have b11 := pm_b01 hq.1
        obtain ⟨I11, A11, rfl, rfl, h11⟩ := hv_id (kp := kp) (I := I5) (A := A5) h5 hq.2
        refine pm_if_eq (tgt := 90) hG dX5_begin_52 rfl (fun c12 => ?_) (fun c12 => ?_)
        · refine pm_iconst (v := 0) hG dX5_begin_90 (by decide) ?_
          refine pm_istoreXn (loc' := [some (.ref (B + 42)), some (.int x5_1), some (.int 0)]) hG dX5_begin_91 (by decide) (pm_c1b rfl) rfl ?_
          refine pm_aloadn hG dX5_begin_92 rfl ?_
          refine pm_dup hG dX5_begin_93 rfl ?_
          refine pm_getf hG dX5_begin_94 (flX5_37 _ rfl) rfl rfl ?_
          refine pm_iloadn hG dX5_begin_97 rfl ?_
          refine pm_if_eq (tgt := 107) hG dX5_begin_98 rfl (fun _ => ?_) (fun q => absurd q (by decide))
          refine pm_iconst (v := 0) hG dX5_begin_107 (by decide) ?_
          refine pm_ior hG dX5_begin_108 ?_
          refine pm_putf hG dX5_begin_109 (fwX5_37 _ rfl) rfl rfl rfl ?_
          refine pm_nrm (L' := cl_L B kp (ui I11 112 ((I11 112) ||| 0)) A11) (by decide) (Nat.le_of_ble_eq_true rfl) rfl ?_
          refine pm_iincX (v := x5_1 + 1) (loc' := [some (.ref (B + 42)), some (.int (x5_1 + 1)), some (.int 0)]) hG dX5_begin_112 rfl (by rfl) (by decide) (pm_c1b rfl) rfl ?_
          refine pm_goto (tgt := 35) hG dX5_begin_115 rfl ?_
          refine pm_fg 2 (loc' := [some (.ref (B + 42)), some (.int (x5_1 + 1)), none]) rfl ?_
          exact ih35 _ _ (x5_1 + 1) (gq.wi (k := 112) rfl h11) (pm_sd1 c6 s35) (Nat.lt_of_lt_of_le (pm_mu1 c6) (Nat.le_of_lt_succ hm35))
        · refine pm_aloadn hG dX5_begin_55 rfl ?_
          refine pm_getf hG dX5_begin_56 (flX5_21 _ rfl) rfl rfl ?_
          refine pm_getf hG dX5_begin_59 (flX5_40 _ rfl) rfl rfl ?_
          refine pm_iloadn hG dX5_begin_62 rfl ?_
          refine pm_iconst (v := 1) hG dX5_begin_63 (by decide) ?_
          refine pm_callV (As := [.int x5_1, .int 1]) (rest := []) hG hR dX5_begin_64 (lkX5_50 _ rfl) okV_X9_get rfl rfl (tb_get (d := 1) rfl rfl (pm_tw_of 10 3 (by decide) (by decide) (by decide))) rfl rfl hdd (Nat.le_refl _) (Nat.le_refl _) (by decide) (pm_ki (fun v14 σ' cnt' hq => ?_))
          obtain ⟨I14, A14, rfl, rfl, h14⟩ := hv_id (kp := kp) (I := I11) (A := A11) h11 hq.2
          refine pm_iconst (v := (-1)) hG dX5_begin_67 (by decide) ?_
          refine pm_icmp_ne (tgt := 90) hG dX5_begin_68 rfl (fun c15 => ?_) (fun c15 => ?_)
          · refine pm_iconst (v := 0) hG dX5_begin_90 (by decide) ?_
            refine pm_istoreXn (loc' := [some (.ref (B + 42)), some (.int x5_1), some (.int 0)]) hG dX5_begin_91 (by decide) (pm_c1b rfl) rfl ?_
            refine pm_aloadn hG dX5_begin_92 rfl ?_
            refine pm_dup hG dX5_begin_93 rfl ?_
            refine pm_getf hG dX5_begin_94 (flX5_37 _ rfl) rfl rfl ?_
            refine pm_iloadn hG dX5_begin_97 rfl ?_
            refine pm_if_eq (tgt := 107) hG dX5_begin_98 rfl (fun _ => ?_) (fun q => absurd q (by decide))
            refine pm_iconst (v := 0) hG dX5_begin_107 (by decide) ?_
            refine pm_ior hG dX5_begin_108 ?_
            refine pm_putf hG dX5_begin_109 (fwX5_37 _ rfl) rfl rfl rfl ?_
            refine pm_nrm (L' := cl_L B kp (ui I14 112 ((I14 112) ||| 0)) A14) (by decide) (Nat.le_of_ble_eq_true rfl) rfl ?_
            refine pm_iincX (v := x5_1 + 1) (loc' := [some (.ref (B + 42)), some (.int (x5_1 + 1)), some (.int 0)]) hG dX5_begin_112 rfl (by rfl) (by decide) (pm_c1b rfl) rfl ?_
            refine pm_goto (tgt := 35) hG dX5_begin_115 rfl ?_
            refine pm_fg 2 (loc' := [some (.ref (B + 42)), some (.int (x5_1 + 1)), none]) rfl ?_
            exact ih35 _ _ (x5_1 + 1) (gq.wi (k := 112) rfl h14) (pm_sd1 c6 s35) (Nat.lt_of_lt_of_le (pm_mu1 c6) (Nat.le_of_lt_succ hm35))
          · refine pm_aloadn hG dX5_begin_71 rfl ?_
            refine pm_getf hG dX5_begin_72 (flX5_21 _ rfl) rfl rfl ?_
            refine pm_getf hG dX5_begin_75 (flX5_40 _ rfl) rfl rfl ?_
            refine pm_iloadn hG dX5_begin_78 rfl ?_
            refine pm_iconst (v := 2) hG dX5_begin_79 (by decide) ?_
            refine pm_callV (As := [.int x5_1, .int 2]) (rest := []) hG hR dX5_begin_80 (lkX5_50 _ rfl) okV_X9_get rfl rfl (tb_get (d := 1) rfl rfl (pm_tw_of 10 3 (by decide) (by decide) (by decide))) rfl rfl hdd (Nat.le_refl _) (Nat.le_refl _) (by decide) (pm_ki (fun v17 σ' cnt' hq => ?_))
            obtain ⟨I17, A17, rfl, rfl, h17⟩ := hv_id (kp := kp) (I := I14) (A := A14) h14 hq.2
            refine pm_if_ne (tgt := 90) hG dX5_begin_83 rfl (fun c18 => ?_) (fun c18 => ?_)
            · refine pm_iconst (v := 0) hG dX5_begin_90 (by decide) ?_
              refine pm_istoreXn (loc' := [some (.ref (B + 42)), some (.int x5_1), some (.int 0)]) hG dX5_begin_91 (by decide) (pm_c1b rfl) rfl ?_
              refine pm_aloadn hG dX5_begin_92 rfl ?_
              refine pm_dup hG dX5_begin_93 rfl ?_
              refine pm_getf hG dX5_begin_94 (flX5_37 _ rfl) rfl rfl ?_
              refine pm_iloadn hG dX5_begin_97 rfl ?_
              refine pm_if_eq (tgt := 107) hG dX5_begin_98 rfl (fun _ => ?_) (fun q => absurd q (by decide))
              refine pm_iconst (v := 0) hG dX5_begin_107 (by decide) ?_
              refine pm_ior hG dX5_begin_108 ?_
              refine pm_putf hG dX5_begin_109 (fwX5_37 _ rfl) rfl rfl rfl ?_
              refine pm_nrm (L' := cl_L B kp (ui I17 112 ((I17 112) ||| 0)) A17) (by decide) (Nat.le_of_ble_eq_true rfl) rfl ?_
              refine pm_iincX (v := x5_1 + 1) (loc' := [some (.ref (B + 42)), some (.int (x5_1 + 1)), some (.int 0)]) hG dX5_begin_112 rfl (by rfl) (by decide) (pm_c1b rfl) rfl ?_
              refine pm_goto (tgt := 35) hG dX5_begin_115 rfl ?_
              refine pm_fg 2 (loc' := [some (.ref (B + 42)), some (.int (x5_1 + 1)), none]) rfl ?_
              exact ih35 _ _ (x5_1 + 1) (gq.wi (k := 112) rfl h17) (pm_sd1 c6 s35) (Nat.lt_of_lt_of_le (pm_mu1 c6) (Nat.le_of_lt_succ hm35))
            · refine pm_iconst (v := 1) hG dX5_begin_86 (by decide) ?_
              refine pm_goto (tgt := 91) hG dX5_begin_87 rfl ?_
              refine pm_istoreXn (loc' := [some (.ref (B + 42)), some (.int x5_1), some (.int 1)]) hG dX5_begin_91 (by decide) (pm_c1b rfl) rfl ?_
              refine pm_aloadn hG dX5_begin_92 rfl ?_
              refine pm_dup hG dX5_begin_93 rfl ?_
              refine pm_getf hG dX5_begin_94 (flX5_37 _ rfl) rfl rfl ?_
              refine pm_iloadn hG dX5_begin_97 rfl ?_
              refine pm_if_eq (tgt := 107) hG dX5_begin_98 rfl (fun q => absurd q (by decide)) (fun _ => ?_)
              refine pm_iconst (v := 1) hG dX5_begin_101 (by decide) ?_
              refine pm_iloadn hG dX5_begin_102 rfl ?_
              refine pm_ishl hG dX5_begin_103 ?_
              refine pm_goto (tgt := 108) hG dX5_begin_104 rfl ?_
              refine pm_ior hG dX5_begin_108 ?_
              refine pm_putf hG dX5_begin_109 (fwX5_37 _ rfl) rfl rfl rfl ?_
              refine pm_nrm (L' := cl_L B kp (ui I17 112 ((I17 112) ||| (1 <<< (x5_1 &&& 31)))) A17) (by decide) (Nat.le_of_ble_eq_true rfl) rfl ?_
              refine pm_iincX (v := x5_1 + 1) (loc' := [some (.ref (B + 42)), some (.int (x5_1 + 1)), some (.int 1)]) hG dX5_begin_112 rfl (by rfl) (by decide) (pm_c1b rfl) rfl ?_
              refine pm_goto (tgt := 35) hG dX5_begin_115 rfl ?_
              refine pm_fg 2 (loc' := [some (.ref (B + 42)), some (.int (x5_1 + 1)), none]) rfl ?_
              exact ih35 _ _ (x5_1 + 1) (gq.wi (k := 112) rfl h17) (pm_sd1 c6 s35) (Nat.lt_of_lt_of_le (pm_mu1 c6) (Nat.le_of_lt_succ hm35))
  exact loop35 _ _ _ 0 (gq.wi (k := 112) rfl h1) (by decide) (Nat.lt_succ_self _)

set_option maxRecDepth 100000 in
set_option maxHeartbeats 4000000 in
theorem g_X5_findBest {ε : Nat → Int32} {d B cnt : Nat} {kp : pm_KP} {ρ : pm_S} {I : Nat → Int32} {A : Nat → Nat → Int32} (hdd : 1 ≤ d) (h : gq ε I) : pm_met mX5_findBest d 0 0 B [.ref (B + 42)] cnt (pm_two (cl_L B kp I A) ρ) (pm_Qi (fun v σ' cnt' => (v = 0 ∨ v = 1) ∧ hvq ε B kp ρ cnt σ' cnt')) := by
  refine pm_enter 4 (by decide) (Nat.le_of_ble_eq_true rfl) rfl (fun G hG hR hF => ?_)
  refine pm_iconst (v := 0) hG dX5_findBest_0 (by decide) ?_
  refine pm_istoreXn (loc' := [some (.ref (B + 42)), some (.int 0), none, none, none]) hG dX5_findBest_1 (by decide) (pm_c1b rfl) rfl ?_
  refine pm_iconst (v := 0) hG dX5_findBest_2 (by decide) ?_
  refine pm_istoreXn (loc' := [some (.ref (B + 42)), some (.int 0), some (.int 0), none, none]) hG dX5_findBest_3 (by decide) (pm_c1b rfl) rfl ?_
  have loop4 : ∀ (m4 : Nat) (I1 : Nat → Int32) (A1 : Nat → Nat → Int32) (x1_1 x1_2 : Int32), gq ε I1 → (x1_1 = 0 ∨ x1_1 = 1) → (¬ x1_2 < 0) → ((64 : Int32).toInt - x1_2.toInt).toNat < m4 → pm_wp mX5_findBest G B 4 [some (.ref (B + 42)), some (.int x1_1), some (.int x1_2), none, none] [] 0 0 cnt (pm_two (cl_L B kp I1 A1) ρ) := by
    intro m4
    induction m4 with
    | zero => intro I1 A1 x1_1 x1_2 _ _ _ hm; exact absurd hm (Nat.not_lt_zero _)
    | succ m4 ih4 =>
      intro I1 A1 x1_1 x1_2 h1 b1_1 s4 hm4
      refine pm_iloadn hG dX5_findBest_4 rfl ?_
      refine pm_bipush (v := 64) hG dX5_findBest_5 (by decide) ?_
      refine pm_icmp_ge (tgt := 104) hG dX5_findBest_7 rfl (fun c2 => ?_) (fun c2 => ?_)
      · refine pm_iloadn hG dX5_findBest_104 rfl ?_
        exact pm_zret hG hF dX5_findBest_105 rfl (pm_nz b1_1) (Nat.le_refl _) (Nat.le_refl _) ⟨_, rfl, b1_1, _, _, rfl, rfl, h1⟩
      · refine pm_aloadn hG dX5_findBest_10 rfl ?_
        refine pm_getf hG dX5_findBest_11 (flX5_11 _ rfl) rfl rfl ?_
        refine pm_iloadn hG dX5_findBest_14 rfl ?_
        refine pm_iald hG dX5_findBest_15 rfl (pm_ib2 rfl s4 c2) ?_
        refine pm_bipush (v := 8) hG dX5_findBest_16 (by decide) ?_
        refine pm_aloadn hG dX5_findBest_18 rfl ?_
        refine pm_getf hG dX5_findBest_19 (flX5_18 _ rfl) rfl rfl ?_
        refine pm_iloadn hG dX5_findBest_22 rfl ?_
        refine pm_iald hG dX5_findBest_23 rfl (pm_ib2 rfl s4 c2) ?_
        refine pm_imul hG dX5_findBest_24 ?_
        refine pm_iadd hG dX5_findBest_25 ?_
        refine pm_istoreXn (loc' := [some (.ref (B + 42)), some (.int x1_1), some (.int x1_2), some (.int (((A1 43) x1_2.toNatClampNeg) + (8 * ((A1 45) x1_2.toNatClampNeg)))), none]) hG dX5_findBest_26 (by decide) (pm_c1b rfl) rfl ?_
        refine pm_iloadn hG dX5_findBest_27 rfl ?_
        refine pm_if_eq (tgt := 60) hG dX5_findBest_28 rfl (fun c3 => ?_) (fun c3 => ?_)
        · refine pm_iconst (v := 1) hG dX5_findBest_60 (by decide) ?_
          refine pm_goto (tgt := 65) hG dX5_findBest_61 rfl ?_
          refine pm_istoreXi (loc' := [some (.ref (B + 42)), some (.int x1_1), some (.int x1_2), some (.int (((A1 43) x1_2.toNatClampNeg) + (8 * ((A1 45) x1_2.toNatClampNeg)))), some (.int 1)]) hG dX5_findBest_65 (by decide) (pm_c1b rfl) rfl ?_
          refine pm_aloadn hG dX5_findBest_67 rfl ?_
          refine pm_getf hG dX5_findBest_68 (flX5_11 _ rfl) rfl rfl ?_
          refine pm_iloadn hG dX5_findBest_71 rfl ?_
          refine pm_iald hG dX5_findBest_72 rfl (pm_ib2 rfl s4 c2) ?_
          refine pm_if_lt (tgt := 98) hG dX5_findBest_73 rfl (fun c4 => ?_) (fun c4 => ?_)
          · refine pm_iincX (v := x1_2 + 1) (loc' := [some (.ref (B + 42)), some (.int x1_1), some (.int (x1_2 + 1)), some (.int (((A1 43) x1_2.toNatClampNeg) + (8 * ((A1 45) x1_2.toNatClampNeg)))), some (.int 1)]) hG dX5_findBest_98 rfl (by rfl) (by decide) (pm_c1b rfl) rfl ?_
            refine pm_goto (tgt := 4) hG dX5_findBest_101 rfl ?_
            refine pm_fg 3 (loc' := [some (.ref (B + 42)), some (.int x1_1), some (.int (x1_2 + 1)), none, some (.int 1)]) rfl ?_
            refine pm_fg 4 (loc' := [some (.ref (B + 42)), some (.int x1_1), some (.int (x1_2 + 1)), none, none]) rfl ?_
            exact ih4 _ _ x1_1 (x1_2 + 1) h1 b1_1 (pm_sd1 c2 s4) (Nat.lt_of_lt_of_le (pm_mu1 c2) (Nat.le_of_lt_succ hm4))
          · refine pm_iloadi hG dX5_findBest_76 rfl ?_
            refine pm_if_eq (tgt := 98) hG dX5_findBest_78 rfl (fun q => absurd q (by decide)) (fun _ => ?_)
            refine pm_iconst (v := 1) hG dX5_findBest_81 (by decide) ?_
            refine pm_istoreXn (loc' := [some (.ref (B + 42)), some (.int 1), some (.int x1_2), some (.int (((A1 43) x1_2.toNatClampNeg) + (8 * ((A1 45) x1_2.toNatClampNeg)))), some (.int 1)]) hG dX5_findBest_82 (by decide) (pm_c1b rfl) rfl ?_
            refine pm_aloadn hG dX5_findBest_83 rfl ?_
            refine pm_iloadn hG dX5_findBest_84 rfl ?_
            refine pm_putf hG dX5_findBest_85 (fwX5_70 _ rfl) rfl rfl rfl ?_
            refine pm_nrm (L' := cl_L B kp (ui I1 113 (((A1 43) x1_2.toNatClampNeg) + (8 * ((A1 45) x1_2.toNatClampNeg)))) A1) (by decide) (Nat.le_of_ble_eq_true rfl) rfl ?_
            refine pm_aloadn hG dX5_findBest_88 rfl ?_
            refine pm_aloadn hG dX5_findBest_89 rfl ?_
            refine pm_getf hG dX5_findBest_90 (flX5_15 _ rfl) rfl rfl ?_
            refine pm_iloadn hG dX5_findBest_93 rfl ?_
            refine pm_iald hG dX5_findBest_94 rfl (pm_ib2 rfl s4 c2) ?_
            refine pm_putf hG dX5_findBest_95 (fwX5_73 _ rfl) rfl rfl rfl ?_
            refine pm_nrm (L' := cl_L B kp (ui (ui I1 113 (((A1 43) x1_2.toNatClampNeg) + (8 * ((A1 45) x1_2.toNatClampNeg)))) 114 ((A1 44) x1_2.toNatClampNeg)) A1) (by decide) (Nat.le_of_ble_eq_true rfl) rfl ?_
            refine pm_iincX (v := x1_2 + 1) (loc' := [some (.ref (B + 42)), some (.int 1), some (.int (x1_2 + 1)), some (.int (((A1 43) x1_2.toNatClampNeg) + (8 * ((A1 45) x1_2.toNatClampNeg)))), some (.int 1)]) hG dX5_findBest_98 rfl (by rfl) (by decide) (pm_c1b rfl) rfl ?_
            refine pm_goto (tgt := 4) hG dX5_findBest_101 rfl ?_
            refine pm_fg 3 (loc' := [some (.ref (B + 42)), some (.int 1), some (.int (x1_2 + 1)), none, some (.int 1)]) rfl ?_
            refine pm_fg 4 (loc' := [some (.ref (B + 42)), some (.int 1), some (.int (x1_2 + 1)), none, none]) rfl ?_
            exact ih4 _ _ 1 (x1_2 + 1) (gq.wi (k := 114) rfl (gq.wi (k := 113) rfl h1)) (Or.inr rfl) (pm_sd1 c2 s4) (Nat.lt_of_lt_of_le (pm_mu1 c2) (Nat.le_of_lt_succ hm4))
        · refine pm_iloadn hG dX5_findBest_31 rfl ?_
          refine pm_aloadn hG dX5_findBest_32 rfl ?_
          refine pm_getf hG dX5_findBest_33 (flX5_70 _ rfl) rfl rfl ?_
          refine pm_icmp_gt (tgt := 60) hG dX5_findBest_36 rfl (fun c7 => ?_) (fun c7 => ?_)
          · refine pm_iconst (v := 1) hG dX5_findBest_60 (by decide) ?_
            refine pm_goto (tgt := 65) hG dX5_findBest_61 rfl ?_
            refine pm_istoreXi (loc' := [some (.ref (B + 42)), some (.int x1_1), some (.int x1_2), some (.int (((A1 43) x1_2.toNatClampNeg) + (8 * ((A1 45) x1_2.toNatClampNeg)))), some (.int 1)]) hG dX5_findBest_65 (by decide) (pm_c1b rfl) rfl ?_
            refine pm_aloadn hG dX5_findBest_67 rfl ?_
            refine pm_getf hG dX5_findBest_68 (flX5_11 _ rfl) rfl rfl ?_
            refine pm_iloadn hG dX5_findBest_71 rfl ?_
            refine pm_iald hG dX5_findBest_72 rfl (pm_ib2 rfl s4 c2) ?_
            refine pm_if_lt (tgt := 98) hG dX5_findBest_73 rfl (fun c8 => ?_) (fun c8 => ?_)
            · refine pm_iincX (v := x1_2 + 1) (loc' := [some (.ref (B + 42)), some (.int x1_1), some (.int (x1_2 + 1)), some (.int (((A1 43) x1_2.toNatClampNeg) + (8 * ((A1 45) x1_2.toNatClampNeg)))), some (.int 1)]) hG dX5_findBest_98 rfl (by rfl) (by decide) (pm_c1b rfl) rfl ?_
              refine pm_goto (tgt := 4) hG dX5_findBest_101 rfl ?_
              refine pm_fg 3 (loc' := [some (.ref (B + 42)), some (.int x1_1), some (.int (x1_2 + 1)), none, some (.int 1)]) rfl ?_
              refine pm_fg 4 (loc' := [some (.ref (B + 42)), some (.int x1_1), some (.int (x1_2 + 1)), none, none]) rfl ?_
              exact ih4 _ _ x1_1 (x1_2 + 1) h1 b1_1 (pm_sd1 c2 s4) (Nat.lt_of_lt_of_le (pm_mu1 c2) (Nat.le_of_lt_succ hm4))
            · refine pm_iloadi hG dX5_findBest_76 rfl ?_
              refine pm_if_eq (tgt := 98) hG dX5_findBest_78 rfl (fun q => absurd q (by decide)) (fun _ => ?_)
              refine pm_iconst (v := 1) hG dX5_findBest_81 (by decide) ?_
              refine pm_istoreXn (loc' := [some (.ref (B + 42)), some (.int 1), some (.int x1_2), some (.int (((A1 43) x1_2.toNatClampNeg) + (8 * ((A1 45) x1_2.toNatClampNeg)))), some (.int 1)]) hG dX5_findBest_82 (by decide) (pm_c1b rfl) rfl ?_
              refine pm_aloadn hG dX5_findBest_83 rfl ?_
              refine pm_iloadn hG dX5_findBest_84 rfl ?_
              refine pm_putf hG dX5_findBest_85 (fwX5_70 _ rfl) rfl rfl rfl ?_
              refine pm_nrm (L' := cl_L B kp (ui I1 113 (((A1 43) x1_2.toNatClampNeg) + (8 * ((A1 45) x1_2.toNatClampNeg)))) A1) (by decide) (Nat.le_of_ble_eq_true rfl) rfl ?_
              refine pm_aloadn hG dX5_findBest_88 rfl ?_
              refine pm_aloadn hG dX5_findBest_89 rfl ?_
              refine pm_getf hG dX5_findBest_90 (flX5_15 _ rfl) rfl rfl ?_
              refine pm_iloadn hG dX5_findBest_93 rfl ?_
              refine pm_iald hG dX5_findBest_94 rfl (pm_ib2 rfl s4 c2) ?_
              refine pm_putf hG dX5_findBest_95 (fwX5_73 _ rfl) rfl rfl rfl ?_
              refine pm_nrm (L' := cl_L B kp (ui (ui I1 113 (((A1 43) x1_2.toNatClampNeg) + (8 * ((A1 45) x1_2.toNatClampNeg)))) 114 ((A1 44) x1_2.toNatClampNeg)) A1) (by decide) (Nat.le_of_ble_eq_true rfl) rfl ?_
              refine pm_iincX (v := x1_2 + 1) (loc' := [some (.ref (B + 42)), some (.int 1), some (.int (x1_2 + 1)), some (.int (((A1 43) x1_2.toNatClampNeg) + (8 * ((A1 45) x1_2.toNatClampNeg)))), some (.int 1)]) hG dX5_findBest_98 rfl (by rfl) (by decide) (pm_c1b rfl) rfl ?_
              refine pm_goto (tgt := 4) hG dX5_findBest_101 rfl ?_
              refine pm_fg 3 (loc' := [some (.ref (B + 42)), some (.int 1), some (.int (x1_2 + 1)), none, some (.int 1)]) rfl ?_
              refine pm_fg 4 (loc' := [some (.ref (B + 42)), some (.int 1), some (.int (x1_2 + 1)), none, none]) rfl ?_
              exact ih4 _ _ 1 (x1_2 + 1) (gq.wi (k := 114) rfl (gq.wi (k := 113) rfl h1)) (Or.inr rfl) (pm_sd1 c2 s4) (Nat.lt_of_lt_of_le (pm_mu1 c2) (Nat.le_of_lt_succ hm4))
          · refine pm_iloadn hG dX5_findBest_39 rfl ?_
            refine pm_aloadn hG dX5_findBest_40 rfl ?_
            refine pm_getf hG dX5_findBest_41 (flX5_70 _ rfl) rfl rfl ?_
            refine pm_icmp_ne (tgt := 64) hG dX5_findBest_44 rfl (fun c11 => ?_) (fun c11 => ?_)
            · refine pm_iconst (v := 0) hG dX5_findBest_64 (by decide) ?_
              refine pm_istoreXi (loc' := [some (.ref (B + 42)), some (.int x1_1), some (.int x1_2), some (.int (((A1 43) x1_2.toNatClampNeg) + (8 * ((A1 45) x1_2.toNatClampNeg)))), some (.int 0)]) hG dX5_findBest_65 (by decide) (pm_c1b rfl) rfl ?_
              refine pm_aloadn hG dX5_findBest_67 rfl ?_
              refine pm_getf hG dX5_findBest_68 (flX5_11 _ rfl) rfl rfl ?_
              refine pm_iloadn hG dX5_findBest_71 rfl ?_
              refine pm_iald hG dX5_findBest_72 rfl (pm_ib2 rfl s4 c2) ?_
              refine pm_if_lt (tgt := 98) hG dX5_findBest_73 rfl (fun c12 => ?_) (fun c12 => ?_)
              · refine pm_iincX (v := x1_2 + 1) (loc' := [some (.ref (B + 42)), some (.int x1_1), some (.int (x1_2 + 1)), some (.int (((A1 43) x1_2.toNatClampNeg) + (8 * ((A1 45) x1_2.toNatClampNeg)))), some (.int 0)]) hG dX5_findBest_98 rfl (by rfl) (by decide) (pm_c1b rfl) rfl ?_
                refine pm_goto (tgt := 4) hG dX5_findBest_101 rfl ?_
                refine pm_fg 3 (loc' := [some (.ref (B + 42)), some (.int x1_1), some (.int (x1_2 + 1)), none, some (.int 0)]) rfl ?_
                refine pm_fg 4 (loc' := [some (.ref (B + 42)), some (.int x1_1), some (.int (x1_2 + 1)), none, none]) rfl ?_
                exact ih4 _ _ x1_1 (x1_2 + 1) h1 b1_1 (pm_sd1 c2 s4) (Nat.lt_of_lt_of_le (pm_mu1 c2) (Nat.le_of_lt_succ hm4))
              · refine pm_iloadi hG dX5_findBest_76 rfl ?_
                refine pm_if_eq (tgt := 98) hG dX5_findBest_78 rfl (fun _ => ?_) (fun q => absurd q (by decide))
                refine pm_iincX (v := x1_2 + 1) (loc' := [some (.ref (B + 42)), some (.int x1_1), some (.int (x1_2 + 1)), some (.int (((A1 43) x1_2.toNatClampNeg) + (8 * ((A1 45) x1_2.toNatClampNeg)))), some (.int 0)]) hG dX5_findBest_98 rfl (by rfl) (by decide) (pm_c1b rfl) rfl ?_
                refine pm_goto (tgt := 4) hG dX5_findBest_101 rfl ?_
                refine pm_fg 3 (loc' := [some (.ref (B + 42)), some (.int x1_1), some (.int (x1_2 + 1)), none, some (.int 0)]) rfl ?_
                refine pm_fg 4 (loc' := [some (.ref (B + 42)), some (.int x1_1), some (.int (x1_2 + 1)), none, none]) rfl ?_
                exact ih4 _ _ x1_1 (x1_2 + 1) h1 b1_1 (pm_sd1 c2 s4) (Nat.lt_of_lt_of_le (pm_mu1 c2) (Nat.le_of_lt_succ hm4))
            · refine pm_aloadn hG dX5_findBest_47 rfl ?_
              refine pm_getf hG dX5_findBest_48 (flX5_15 _ rfl) rfl rfl ?_
              refine pm_iloadn hG dX5_findBest_51 rfl ?_
              refine pm_iald hG dX5_findBest_52 rfl (pm_ib2 rfl s4 c2) ?_
              refine pm_aloadn hG dX5_findBest_53 rfl ?_
              refine pm_getf hG dX5_findBest_54 (flX5_73 _ rfl) rfl rfl ?_
              refine pm_icmp_ge (tgt := 64) hG dX5_findBest_57 rfl (fun c13 => ?_) (fun c13 => ?_)
              · refine pm_iconst (v := 0) hG dX5_findBest_64 (by decide) ?_
                refine pm_istoreXi (loc' := [some (.ref (B + 42)), some (.int x1_1), some (.int x1_2), some (.int (((A1 43) x1_2.toNatClampNeg) + (8 * ((A1 45) x1_2.toNatClampNeg)))), some (.int 0)]) hG dX5_findBest_65 (by decide) (pm_c1b rfl) rfl ?_
                refine pm_aloadn hG dX5_findBest_67 rfl ?_
                refine pm_getf hG dX5_findBest_68 (flX5_11 _ rfl) rfl rfl ?_
                refine pm_iloadn hG dX5_findBest_71 rfl ?_
                refine pm_iald hG dX5_findBest_72 rfl (pm_ib2 rfl s4 c2) ?_
                refine pm_if_lt (tgt := 98) hG dX5_findBest_73 rfl (fun c14 => ?_) (fun c14 => ?_)
                · refine pm_iincX (v := x1_2 + 1) (loc' := [some (.ref (B + 42)), some (.int x1_1), some (.int (x1_2 + 1)), some (.int (((A1 43) x1_2.toNatClampNeg) + (8 * ((A1 45) x1_2.toNatClampNeg)))), some (.int 0)]) hG dX5_findBest_98 rfl (by rfl) (by decide) (pm_c1b rfl) rfl ?_
                  refine pm_goto (tgt := 4) hG dX5_findBest_101 rfl ?_
                  refine pm_fg 3 (loc' := [some (.ref (B + 42)), some (.int x1_1), some (.int (x1_2 + 1)), none, some (.int 0)]) rfl ?_
                  refine pm_fg 4 (loc' := [some (.ref (B + 42)), some (.int x1_1), some (.int (x1_2 + 1)), none, none]) rfl ?_
                  exact ih4 _ _ x1_1 (x1_2 + 1) h1 b1_1 (pm_sd1 c2 s4) (Nat.lt_of_lt_of_le (pm_mu1 c2) (Nat.le_of_lt_succ hm4))
                · refine pm_iloadi hG dX5_findBest_76 rfl ?_
                  refine pm_if_eq (tgt := 98) hG dX5_findBest_78 rfl (fun _ => ?_) (fun q => absurd q (by decide))
                  refine pm_iincX (v := x1_2 + 1) (loc' := [some (.ref (B + 42)), some (.int x1_1), some (.int (x1_2 + 1)), some (.int (((A1 43) x1_2.toNatClampNeg) + (8 * ((A1 45) x1_2.toNatClampNeg)))), some (.int 0)]) hG dX5_findBest_98 rfl (by rfl) (by decide) (pm_c1b rfl) rfl ?_
                  refine pm_goto (tgt := 4) hG dX5_findBest_101 rfl ?_
                  refine pm_fg 3 (loc' := [some (.ref (B + 42)), some (.int x1_1), some (.int (x1_2 + 1)), none, some (.int 0)]) rfl ?_
                  refine pm_fg 4 (loc' := [some (.ref (B + 42)), some (.int x1_1), some (.int (x1_2 + 1)), none, none]) rfl ?_
                  exact ih4 _ _ x1_1 (x1_2 + 1) h1 b1_1 (pm_sd1 c2 s4) (Nat.lt_of_lt_of_le (pm_mu1 c2) (Nat.le_of_lt_succ hm4))
              · refine pm_iconst (v := 1) hG dX5_findBest_60 (by decide) ?_
                refine pm_goto (tgt := 65) hG dX5_findBest_61 rfl ?_
                refine pm_istoreXi (loc' := [some (.ref (B + 42)), some (.int x1_1), some (.int x1_2), some (.int (((A1 43) x1_2.toNatClampNeg) + (8 * ((A1 45) x1_2.toNatClampNeg)))), some (.int 1)]) hG dX5_findBest_65 (by decide) (pm_c1b rfl) rfl ?_
                refine pm_aloadn hG dX5_findBest_67 rfl ?_
                refine pm_getf hG dX5_findBest_68 (flX5_11 _ rfl) rfl rfl ?_
                refine pm_iloadn hG dX5_findBest_71 rfl ?_
                refine pm_iald hG dX5_findBest_72 rfl (pm_ib2 rfl s4 c2) ?_
                refine pm_if_lt (tgt := 98) hG dX5_findBest_73 rfl (fun c15 => ?_) (fun c15 => ?_)
                · refine pm_iincX (v := x1_2 + 1) (loc' := [some (.ref (B + 42)), some (.int x1_1), some (.int (x1_2 + 1)), some (.int (((A1 43) x1_2.toNatClampNeg) + (8 * ((A1 45) x1_2.toNatClampNeg)))), some (.int 1)]) hG dX5_findBest_98 rfl (by rfl) (by decide) (pm_c1b rfl) rfl ?_
                  refine pm_goto (tgt := 4) hG dX5_findBest_101 rfl ?_
                  refine pm_fg 3 (loc' := [some (.ref (B + 42)), some (.int x1_1), some (.int (x1_2 + 1)), none, some (.int 1)]) rfl ?_
                  refine pm_fg 4 (loc' := [some (.ref (B + 42)), some (.int x1_1), some (.int (x1_2 + 1)), none, none]) rfl ?_
                  exact ih4 _ _ x1_1 (x1_2 + 1) h1 b1_1 (pm_sd1 c2 s4) (Nat.lt_of_lt_of_le (pm_mu1 c2) (Nat.le_of_lt_succ hm4))
                · refine pm_iloadi hG dX5_findBest_76 rfl ?_
                  refine pm_if_eq (tgt := 98) hG dX5_findBest_78 rfl (fun q => absurd q (by decide)) (fun _ => ?_)
                  refine pm_iconst (v := 1) hG dX5_findBest_81 (by decide) ?_
                  refine pm_istoreXn (loc' := [some (.ref (B + 42)), some (.int 1), some (.int x1_2), some (.int (((A1 43) x1_2.toNatClampNeg) + (8 * ((A1 45) x1_2.toNatClampNeg)))), some (.int 1)]) hG dX5_findBest_82 (by decide) (pm_c1b rfl) rfl ?_
                  refine pm_aloadn hG dX5_findBest_83 rfl ?_
                  refine pm_iloadn hG dX5_findBest_84 rfl ?_
                  refine pm_putf hG dX5_findBest_85 (fwX5_70 _ rfl) rfl rfl rfl ?_
                  refine pm_nrm (L' := cl_L B kp (ui I1 113 (((A1 43) x1_2.toNatClampNeg) + (8 * ((A1 45) x1_2.toNatClampNeg)))) A1) (by decide) (Nat.le_of_ble_eq_true rfl) rfl ?_
                  refine pm_aloadn hG dX5_findBest_88 rfl ?_
                  refine pm_aloadn hG dX5_findBest_89 rfl ?_
                  refine pm_getf hG dX5_findBest_90 (flX5_15 _ rfl) rfl rfl ?_
                  refine pm_iloadn hG dX5_findBest_93 rfl ?_
                  refine pm_iald hG dX5_findBest_94 rfl (pm_ib2 rfl s4 c2) ?_
                  refine pm_putf hG dX5_findBest_95 (fwX5_73 _ rfl) rfl rfl rfl ?_
                  refine pm_nrm (L' := cl_L B kp (ui (ui I1 113 (((A1 43) x1_2.toNatClampNeg) + (8 * ((A1 45) x1_2.toNatClampNeg)))) 114 ((A1 44) x1_2.toNatClampNeg)) A1) (by decide) (Nat.le_of_ble_eq_true rfl) rfl ?_
                  refine pm_iincX (v := x1_2 + 1) (loc' := [some (.ref (B + 42)), some (.int 1), some (.int (x1_2 + 1)), some (.int (((A1 43) x1_2.toNatClampNeg) + (8 * ((A1 45) x1_2.toNatClampNeg)))), some (.int 1)]) hG dX5_findBest_98 rfl (by rfl) (by decide) (pm_c1b rfl) rfl ?_
                  refine pm_goto (tgt := 4) hG dX5_findBest_101 rfl ?_
                  refine pm_fg 3 (loc' := [some (.ref (B + 42)), some (.int 1), some (.int (x1_2 + 1)), none, some (.int 1)]) rfl ?_
                  refine pm_fg 4 (loc' := [some (.ref (B + 42)), some (.int 1), some (.int (x1_2 + 1)), none, none]) rfl ?_
                  exact ih4 _ _ 1 (x1_2 + 1) (gq.wi (k := 114) rfl (gq.wi (k := 113) rfl h1)) (Or.inr rfl) (pm_sd1 c2 s4) (Nat.lt_of_lt_of_le (pm_mu1 c2) (Nat.le_of_lt_succ hm4))
  exact loop4 _ _ _ 0 0 h (Or.inl rfl) (by decide) (Nat.lt_succ_self _)

set_option maxRecDepth 100000 in
set_option maxHeartbeats 4000000 in
theorem g_X5_pledgedIn {ε : Nat → Int32} {d B cnt : Nat} {kp : pm_KP} {ρ : pm_S} {I : Nat → Int32} {A : Nat → Nat → Int32} {za zb : Int32} (hdd : 1 ≤ d) (h : gq ε I) : pm_met mX5_pledgedIn d 0 0 B [.ref (B + 42), .int za, .int zb] cnt (pm_two (cl_L B kp I A) ρ) (pm_Qi (fun _ σ' cnt' => hvq ε B kp ρ cnt σ' cnt')) := by
  refine pm_enter 2 (by decide) (Nat.le_of_ble_eq_true rfl) rfl (fun G hG hR hF => ?_)
  refine pm_aloadn hG dX5_pledgedIn_0 rfl ?_
  refine pm_getf hG dX5_pledgedIn_1 (flX5_73 _ rfl) rfl rfl ?_
  refine pm_istoreXn (loc' := [some (.ref (B + 42)), some (.int za), some (.int zb), some (.int (I 114)), none]) hG dX5_pledgedIn_4 (by decide) (pm_c1b rfl) rfl ?_
  refine pm_iloadn hG dX5_pledgedIn_5 rfl ?_
  refine pm_iconst (v := 1) hG dX5_pledgedIn_6 (by decide) ?_
  refine pm_isub hG dX5_pledgedIn_7 ?_
  refine pm_istoreXi (loc' := [some (.ref (B + 42)), some (.int za), some (.int zb), some (.int (I 114)), some (.int (zb - 1))]) hG dX5_pledgedIn_8 (by decide) (pm_c1b rfl) rfl ?_
  have loop10 : ∀ (m10 : Nat) (I1 : Nat → Int32) (A1 : Nat → Nat → Int32) (x1_3 x1_4 : Int32), gq ε I1 → (x1_4.toInt - (za : Int32).toInt).toNat < m10 → pm_wp mX5_pledgedIn G B 10 [some (.ref (B + 42)), some (.int za), some (.int zb), some (.int x1_3), some (.int x1_4)] [] 0 0 cnt (pm_two (cl_L B kp I1 A1) ρ) := by
    intro m10
    induction m10 with
    | zero => intro I1 A1 x1_3 x1_4 _  hm; exact absurd hm (Nat.not_lt_zero _)
    | succ m10 ih10 =>
      intro I1 A1 x1_3 x1_4 h1  hm10
      refine pm_iloadi hG dX5_pledgedIn_10 rfl ?_
      refine pm_iloadn hG dX5_pledgedIn_12 rfl ?_
      refine pm_icmp_le (tgt := 27) hG dX5_pledgedIn_13 rfl (fun c2 => ?_) (fun c2 => ?_)
      · refine pm_iloadn hG dX5_pledgedIn_27 rfl ?_
        refine pm_bipush (v := 7) hG dX5_pledgedIn_28 (by decide) ?_
        refine pm_irem hG dX5_pledgedIn_30 (by decide) ?_
        refine pm_iconst (v := 1) hG dX5_pledgedIn_31 (by decide) ?_
        refine pm_isub hG dX5_pledgedIn_32 ?_
        exact pm_iret hG hF dX5_pledgedIn_33 rfl (Nat.le_refl _) (Nat.le_refl _) ⟨_, rfl, _, _, rfl, rfl, h1⟩
      · refine pm_iloadn hG dX5_pledgedIn_16 rfl ?_
        refine pm_bipush (v := 7) hG dX5_pledgedIn_17 (by decide) ?_
        refine pm_idiv hG dX5_pledgedIn_19 (by decide) ?_
        refine pm_istoreXn (loc' := [some (.ref (B + 42)), some (.int za), some (.int zb), some (.int (x1_3 / 7)), some (.int x1_4)]) hG dX5_pledgedIn_20 (by decide) (pm_c1b rfl) rfl ?_
        refine pm_iincX (v := x1_4 + (-1)) (loc' := [some (.ref (B + 42)), some (.int za), some (.int zb), some (.int (x1_3 / 7)), some (.int (x1_4 + (-1)))]) hG dX5_pledgedIn_21 rfl (by rfl) (by decide) (pm_c1b rfl) rfl ?_
        refine pm_goto (tgt := 10) hG dX5_pledgedIn_24 rfl ?_
        exact ih10 _ _ (x1_3 / 7) (x1_4 + (-1)) h1 (Nat.lt_of_lt_of_le (pm_md2 c2) (Nat.le_of_lt_succ hm10))
  exact loop10 _ _ _ (I 114) (zb - 1) h (Nat.lt_succ_self _)

set_option maxRecDepth 100000 in
set_option maxHeartbeats 4000000 in
theorem g_X5_leftBy {ε : Nat → Int32} {d B cnt : Nat} {kp : pm_KP} {ρ : pm_S} {I : Nat → Int32} {A : Nat → Nat → Int32} {za zb zc : Int32} (hdd : 1 ≤ d) (h : gq ε I) : pm_met mX5_leftBy d 0 0 B [.ref (B + 42), .int za, .int zb, .int zc] cnt (pm_two (cl_L B kp I A) ρ) (pm_Qi (fun _ σ' cnt' => hvq ε B kp ρ cnt σ' cnt')) := by
  refine pm_enter 3 (by decide) (Nat.le_of_ble_eq_true rfl) rfl (fun G hG hR hF => ?_)
  refine pm_iloadn hG dX5_leftBy_0 rfl ?_
  refine pm_iloadn hG dX5_leftBy_1 rfl ?_
  refine pm_callS (As := [.int za, .int zb]) (rest := []) hG hR dX5_leftBy_2 (lkX5_62 _ rfl) okS_X5_before (gj_before (d := 0)) rfl rfl hdd (Nat.le_refl _) (Nat.le_refl _) (by decide) (pm_ki (fun v1 σ' cnt' hq => ?_))
  obtain ⟨l1, u1, hq⟩ := hq
  obtain ⟨I1, A1, rfl, rfl, h1⟩ := hv_id (kp := kp) (I := I) (A := A) h hq
  refine pm_istoreXi (loc' := [some (.ref (B + 42)), some (.int za), some (.int zb), some (.int zc), some (.int v1), none, none]) hG dX5_leftBy_5 (by decide) (pm_c1b rfl) rfl ?_
  refine pm_iloadn hG dX5_leftBy_7 rfl ?_
  refine pm_if_eq (tgt := 30) hG dX5_leftBy_8 rfl (fun c2 => ?_) (fun c2 => ?_)
  · refine pm_iconst (v := 1) hG dX5_leftBy_30 (by decide) ?_
    refine pm_goto (tgt := 35) hG dX5_leftBy_31 rfl ?_
    refine pm_istoreXi (loc' := [some (.ref (B + 42)), some (.int za), some (.int zb), some (.int zc), some (.int v1), some (.int 1), none]) hG dX5_leftBy_35 (by decide) (pm_c1b rfl) rfl ?_
    refine pm_iloadi hG dX5_leftBy_37 rfl ?_
    refine pm_if_eq (tgt := 52) hG dX5_leftBy_39 rfl (fun q => absurd q (by decide)) (fun _ => ?_)
    refine pm_aloadn hG dX5_leftBy_42 rfl ?_
    refine pm_getf hG dX5_leftBy_43 (flX5_11 _ rfl) rfl rfl ?_
    refine pm_iloadi hG dX5_leftBy_46 rfl ?_
    refine pm_iald hG dX5_leftBy_48 rfl (pm_ib2 rfl l1 u1) ?_
    refine pm_if_ge (tgt := 54) hG dX5_leftBy_49 rfl (fun c3 => ?_) (fun c3 => ?_)
    · refine pm_iloadn hG dX5_leftBy_54 rfl ?_
      refine pm_if_ne (tgt := 62) hG dX5_leftBy_55 rfl (fun c4 => ?_) (fun c4 => ?_)
      · refine pm_iconst (v := 4) hG dX5_leftBy_62 (by decide) ?_
        refine pm_aloadn hG dX5_leftBy_63 rfl ?_
        refine pm_getf hG dX5_leftBy_64 (flX5_21 _ rfl) rfl rfl ?_
        refine pm_getf hG dX5_leftBy_67 (flX5_40 _ rfl) rfl rfl ?_
        refine pm_iloadn hG dX5_leftBy_70 rfl ?_
        refine pm_iconst (v := 1) hG dX5_leftBy_71 (by decide) ?_
        refine pm_isub hG dX5_leftBy_72 ?_
        refine pm_iconst (v := 0) hG dX5_leftBy_73 (by decide) ?_
        refine pm_callV (As := [.int (zb - 1), .int 0]) (rest := [.int 4]) hG hR dX5_leftBy_74 (lkX5_50 _ rfl) okV_X9_get rfl rfl (tb_get (d := 0) rfl rfl (pm_tw_of 10 3 (by decide) (by decide) (by decide))) rfl rfl hdd (Nat.le_refl _) (Nat.le_refl _) (by first | decide | exact Nat.le_of_ble_eq_true rfl) (pm_ki (fun v5 σ' cnt' hq => ?_))
        obtain ⟨I5, A5, rfl, rfl, h5⟩ := hv_id (kp := kp) (I := I1) (A := A1) h1 hq.2
        refine pm_imul hG dX5_leftBy_77 ?_
        refine pm_istoreXi (loc' := [some (.ref (B + 42)), some (.int za), some (.int zb), some (.int zc), some (.int v1), some (.int 1), some (.int (4 * v5))]) hG dX5_leftBy_78 (by decide) (pm_c1b rfl) rfl ?_
        refine pm_iconst (v := (-1)) hG dX5_leftBy_80 (by decide) ?_
        refine pm_aloadn hG dX5_leftBy_81 rfl ?_
        refine pm_getf hG dX5_leftBy_82 (flX5_11 _ rfl) rfl rfl ?_
        refine pm_iloadi hG dX5_leftBy_85 rfl ?_
        refine pm_iald hG dX5_leftBy_87 rfl (pm_ib2 rfl l1 u1) ?_
        refine pm_aloadn hG dX5_leftBy_88 rfl ?_
        refine pm_getf hG dX5_leftBy_89 (flX5_18 _ rfl) rfl rfl ?_
        refine pm_iloadi hG dX5_leftBy_92 rfl ?_
        refine pm_iald hG dX5_leftBy_94 rfl (pm_ib2 rfl l1 u1) ?_
        refine pm_iadd hG dX5_leftBy_95 ?_
        refine pm_iloadi hG dX5_leftBy_96 rfl ?_
        refine pm_iadd hG dX5_leftBy_98 ?_
        refine pm_iloadn hG dX5_leftBy_99 rfl ?_
        refine pm_isub hG dX5_leftBy_100 ?_
        refine pm_mmax hG hR dX5_leftBy_101 (mmX5_65 _ rfl) pm_mwmax (by omega) (by first | decide | exact Nat.le_of_ble_eq_true rfl) (Nat.le_refl _) (Nat.le_refl _) ?_
        exact pm_iret hG hF dX5_leftBy_104 rfl (Nat.le_refl _) (Nat.le_refl _) ⟨_, rfl, _, _, rfl, rfl, h5⟩
      · refine pm_iconst (v := 0) hG dX5_leftBy_58 (by decide) ?_
        refine pm_goto (tgt := 78) hG dX5_leftBy_59 rfl ?_
        refine pm_istoreXi (loc' := [some (.ref (B + 42)), some (.int za), some (.int zb), some (.int zc), some (.int v1), some (.int 1), some (.int 0)]) hG dX5_leftBy_78 (by decide) (pm_c1b rfl) rfl ?_
        refine pm_iconst (v := (-1)) hG dX5_leftBy_80 (by decide) ?_
        refine pm_aloadn hG dX5_leftBy_81 rfl ?_
        refine pm_getf hG dX5_leftBy_82 (flX5_11 _ rfl) rfl rfl ?_
        refine pm_iloadi hG dX5_leftBy_85 rfl ?_
        refine pm_iald hG dX5_leftBy_87 rfl (pm_ib2 rfl l1 u1) ?_
        refine pm_aloadn hG dX5_leftBy_88 rfl ?_
        refine pm_getf hG dX5_leftBy_89 (flX5_18 _ rfl) rfl rfl ?_
        refine pm_iloadi hG dX5_leftBy_92 rfl ?_
        refine pm_iald hG dX5_leftBy_94 rfl (pm_ib2 rfl l1 u1) ?_
        refine pm_iadd hG dX5_leftBy_95 ?_
        refine pm_iloadi hG dX5_leftBy_96 rfl ?_
        refine pm_iadd hG dX5_leftBy_98 ?_
        refine pm_top (v := ((A1 43) v1.toNatClampNeg) + ((A1 45) v1.toNatClampNeg)) (Int32.add_zero _) ?_
        refine pm_iloadn hG dX5_leftBy_99 rfl ?_
        refine pm_isub hG dX5_leftBy_100 ?_
        refine pm_mmax hG hR dX5_leftBy_101 (mmX5_65 _ rfl) pm_mwmax (by omega) (by first | decide | exact Nat.le_of_ble_eq_true rfl) (Nat.le_refl _) (Nat.le_refl _) ?_
        exact pm_iret hG hF dX5_leftBy_104 rfl (Nat.le_refl _) (Nat.le_refl _) ⟨_, rfl, _, _, rfl, rfl, h1⟩
    · refine pm_iconst (v := (-1)) hG dX5_leftBy_52 (by decide) ?_
      exact pm_iret hG hF dX5_leftBy_53 rfl (Nat.le_refl _) (Nat.le_refl _) ⟨_, rfl, _, _, rfl, rfl, h1⟩
  · refine pm_iloadi hG dX5_leftBy_11 rfl ?_
    refine pm_iloadn hG dX5_leftBy_13 rfl ?_
    refine pm_icmp_eq (tgt := 34) hG dX5_leftBy_14 rfl (fun c6 => ?_) (fun c6 => ?_)
    · refine pm_iconst (v := 0) hG dX5_leftBy_34 (by decide) ?_
      refine pm_istoreXi (loc' := [some (.ref (B + 42)), some (.int za), some (.int zb), some (.int zc), some (.int v1), some (.int 0), none]) hG dX5_leftBy_35 (by decide) (pm_c1b rfl) rfl ?_
      refine pm_iloadi hG dX5_leftBy_37 rfl ?_
      refine pm_if_eq (tgt := 52) hG dX5_leftBy_39 rfl (fun _ => ?_) (fun q => absurd q (by decide))
      refine pm_iconst (v := (-1)) hG dX5_leftBy_52 (by decide) ?_
      exact pm_iret hG hF dX5_leftBy_53 rfl (Nat.le_refl _) (Nat.le_refl _) ⟨_, rfl, _, _, rfl, rfl, h1⟩
    · refine pm_aloadn hG dX5_leftBy_17 rfl ?_
      refine pm_getf hG dX5_leftBy_18 (flX5_37 _ rfl) rfl rfl ?_
      refine pm_iloadn hG dX5_leftBy_21 rfl ?_
      refine pm_iconst (v := 1) hG dX5_leftBy_22 (by decide) ?_
      refine pm_isub hG dX5_leftBy_23 ?_
      refine pm_ishr hG dX5_leftBy_24 ?_
      refine pm_iconst (v := 1) hG dX5_leftBy_25 (by decide) ?_
      refine pm_iand hG dX5_leftBy_26 ?_
      refine pm_if_eq (tgt := 34) hG dX5_leftBy_27 rfl (fun c7 => ?_) (fun c7 => ?_)
      · refine pm_iconst (v := 0) hG dX5_leftBy_34 (by decide) ?_
        refine pm_istoreXi (loc' := [some (.ref (B + 42)), some (.int za), some (.int zb), some (.int zc), some (.int v1), some (.int 0), none]) hG dX5_leftBy_35 (by decide) (pm_c1b rfl) rfl ?_
        refine pm_iloadi hG dX5_leftBy_37 rfl ?_
        refine pm_if_eq (tgt := 52) hG dX5_leftBy_39 rfl (fun _ => ?_) (fun q => absurd q (by decide))
        refine pm_iconst (v := (-1)) hG dX5_leftBy_52 (by decide) ?_
        exact pm_iret hG hF dX5_leftBy_53 rfl (Nat.le_refl _) (Nat.le_refl _) ⟨_, rfl, _, _, rfl, rfl, h1⟩
      · refine pm_iconst (v := 1) hG dX5_leftBy_30 (by decide) ?_
        refine pm_goto (tgt := 35) hG dX5_leftBy_31 rfl ?_
        refine pm_istoreXi (loc' := [some (.ref (B + 42)), some (.int za), some (.int zb), some (.int zc), some (.int v1), some (.int 1), none]) hG dX5_leftBy_35 (by decide) (pm_c1b rfl) rfl ?_
        refine pm_iloadi hG dX5_leftBy_37 rfl ?_
        refine pm_if_eq (tgt := 52) hG dX5_leftBy_39 rfl (fun q => absurd q (by decide)) (fun _ => ?_)
        refine pm_aloadn hG dX5_leftBy_42 rfl ?_
        refine pm_getf hG dX5_leftBy_43 (flX5_11 _ rfl) rfl rfl ?_
        refine pm_iloadi hG dX5_leftBy_46 rfl ?_
        refine pm_iald hG dX5_leftBy_48 rfl (pm_ib2 rfl l1 u1) ?_
        refine pm_if_ge (tgt := 54) hG dX5_leftBy_49 rfl (fun c8 => ?_) (fun c8 => ?_)
        · refine pm_iloadn hG dX5_leftBy_54 rfl ?_
          refine pm_if_ne (tgt := 62) hG dX5_leftBy_55 rfl (fun c9 => ?_) (fun c9 => ?_)
          · refine pm_iconst (v := 4) hG dX5_leftBy_62 (by decide) ?_
            refine pm_aloadn hG dX5_leftBy_63 rfl ?_
            refine pm_getf hG dX5_leftBy_64 (flX5_21 _ rfl) rfl rfl ?_
            refine pm_getf hG dX5_leftBy_67 (flX5_40 _ rfl) rfl rfl ?_
            refine pm_iloadn hG dX5_leftBy_70 rfl ?_
            refine pm_iconst (v := 1) hG dX5_leftBy_71 (by decide) ?_
            refine pm_isub hG dX5_leftBy_72 ?_
            refine pm_iconst (v := 0) hG dX5_leftBy_73 (by decide) ?_
            refine pm_callV (As := [.int (zb - 1), .int 0]) (rest := [.int 4]) hG hR dX5_leftBy_74 (lkX5_50 _ rfl) okV_X9_get rfl rfl (tb_get (d := 0) rfl rfl (pm_tw_of 10 3 (by decide) (by decide) (by decide))) rfl rfl hdd (Nat.le_refl _) (Nat.le_refl _) (by first | decide | exact Nat.le_of_ble_eq_true rfl) (pm_ki (fun v10 σ' cnt' hq => ?_))
            obtain ⟨I10, A10, rfl, rfl, h10⟩ := hv_id (kp := kp) (I := I1) (A := A1) h1 hq.2
            refine pm_imul hG dX5_leftBy_77 ?_
            refine pm_istoreXi (loc' := [some (.ref (B + 42)), some (.int za), some (.int zb), some (.int zc), some (.int v1), some (.int 1), some (.int (4 * v10))]) hG dX5_leftBy_78 (by decide) (pm_c1b rfl) rfl ?_
            refine pm_iconst (v := (-1)) hG dX5_leftBy_80 (by decide) ?_
            refine pm_aloadn hG dX5_leftBy_81 rfl ?_
            refine pm_getf hG dX5_leftBy_82 (flX5_11 _ rfl) rfl rfl ?_
            refine pm_iloadi hG dX5_leftBy_85 rfl ?_
            refine pm_iald hG dX5_leftBy_87 rfl (pm_ib2 rfl l1 u1) ?_
            refine pm_aloadn hG dX5_leftBy_88 rfl ?_
            refine pm_getf hG dX5_leftBy_89 (flX5_18 _ rfl) rfl rfl ?_
            refine pm_iloadi hG dX5_leftBy_92 rfl ?_
            refine pm_iald hG dX5_leftBy_94 rfl (pm_ib2 rfl l1 u1) ?_
            refine pm_iadd hG dX5_leftBy_95 ?_
            refine pm_iloadi hG dX5_leftBy_96 rfl ?_
            refine pm_iadd hG dX5_leftBy_98 ?_
            refine pm_iloadn hG dX5_leftBy_99 rfl ?_
            refine pm_isub hG dX5_leftBy_100 ?_
            refine pm_mmax hG hR dX5_leftBy_101 (mmX5_65 _ rfl) pm_mwmax (by omega) (by first | decide | exact Nat.le_of_ble_eq_true rfl) (Nat.le_refl _) (Nat.le_refl _) ?_
            exact pm_iret hG hF dX5_leftBy_104 rfl (Nat.le_refl _) (Nat.le_refl _) ⟨_, rfl, _, _, rfl, rfl, h10⟩
          · refine pm_iconst (v := 0) hG dX5_leftBy_58 (by decide) ?_
            refine pm_goto (tgt := 78) hG dX5_leftBy_59 rfl ?_
            refine pm_istoreXi (loc' := [some (.ref (B + 42)), some (.int za), some (.int zb), some (.int zc), some (.int v1), some (.int 1), some (.int 0)]) hG dX5_leftBy_78 (by decide) (pm_c1b rfl) rfl ?_
            refine pm_iconst (v := (-1)) hG dX5_leftBy_80 (by decide) ?_
            refine pm_aloadn hG dX5_leftBy_81 rfl ?_
            refine pm_getf hG dX5_leftBy_82 (flX5_11 _ rfl) rfl rfl ?_
            refine pm_iloadi hG dX5_leftBy_85 rfl ?_
            refine pm_iald hG dX5_leftBy_87 rfl (pm_ib2 rfl l1 u1) ?_
            refine pm_aloadn hG dX5_leftBy_88 rfl ?_
            refine pm_getf hG dX5_leftBy_89 (flX5_18 _ rfl) rfl rfl ?_
            refine pm_iloadi hG dX5_leftBy_92 rfl ?_
            refine pm_iald hG dX5_leftBy_94 rfl (pm_ib2 rfl l1 u1) ?_
            refine pm_iadd hG dX5_leftBy_95 ?_
            refine pm_iloadi hG dX5_leftBy_96 rfl ?_
            refine pm_iadd hG dX5_leftBy_98 ?_
            refine pm_top (v := ((A1 43) v1.toNatClampNeg) + ((A1 45) v1.toNatClampNeg)) (Int32.add_zero _) ?_
            refine pm_iloadn hG dX5_leftBy_99 rfl ?_
            refine pm_isub hG dX5_leftBy_100 ?_
            refine pm_mmax hG hR dX5_leftBy_101 (mmX5_65 _ rfl) pm_mwmax (by omega) (by first | decide | exact Nat.le_of_ble_eq_true rfl) (Nat.le_refl _) (Nat.le_refl _) ?_
            exact pm_iret hG hF dX5_leftBy_104 rfl (Nat.le_refl _) (Nat.le_refl _) ⟨_, rfl, _, _, rfl, rfl, h1⟩
        · refine pm_iconst (v := (-1)) hG dX5_leftBy_52 (by decide) ?_
          exact pm_iret hG hF dX5_leftBy_53 rfl (Nat.le_refl _) (Nat.le_refl _) ⟨_, rfl, _, _, rfl, rfl, h1⟩

set_option maxRecDepth 100000 in
set_option maxHeartbeats 4000000 in
theorem g_X5_passQuarter {ε : Nat → Int32} {d B cnt : Nat} {kp : pm_KP} {ρ : pm_S} {I : Nat → Int32} {A : Nat → Nat → Int32} {za : Int32} (hdd : 2 ≤ d) (h : gq ε I) : pm_met mX5_passQuarter d 0 0 B [.ref (B + 42), .int za] cnt (pm_two (cl_L B kp I A) ρ) (pm_Qv (fun σ' cnt' => hvq ε B kp ρ cnt σ' cnt')) := by
  refine pm_enter 6 (by decide) (Nat.le_of_ble_eq_true rfl) rfl (fun G hG hR hF => ?_)
  refine pm_bipush (v := 63) hG dX5_passQuarter_0 (by decide) ?_
  refine pm_istoreXn (loc' := [some (.ref (B + 42)), some (.int za), some (.int 63), none, none, none, none, none]) hG dX5_passQuarter_2 (by decide) (pm_c1b rfl) rfl ?_
  have loop3 : ∀ (m3 : Nat) (I1 : Nat → Int32) (A1 : Nat → Nat → Int32) (x1_2 : Int32), gq ε I1 → (¬ 63 < x1_2) → (x1_2.toInt + 1 - (0 : Int32).toInt).toNat < m3 → pm_wp mX5_passQuarter G B 3 [some (.ref (B + 42)), some (.int za), some (.int x1_2), none, none, none, none, none] [] 0 0 cnt (pm_two (cl_L B kp I1 A1) ρ) := by
    intro m3
    induction m3 with
    | zero => intro I1 A1 x1_2 _  _ hm; exact absurd hm (Nat.not_lt_zero _)
    | succ m3 ih3 =>
      intro I1 A1 x1_2 h1 s3 hm3
      refine pm_iloadn hG dX5_passQuarter_3 rfl ?_
      refine pm_if_lt (tgt := 118) hG dX5_passQuarter_4 rfl (fun c2 => ?_) (fun c2 => ?_)
      · exact pm_vret hG hF dX5_passQuarter_118 rfl (Nat.le_refl _) (Nat.le_refl _) ⟨rfl, _, _, rfl, rfl, h1⟩
      · refine pm_iconst (v := (-1)) hG dX5_passQuarter_7 (by decide) ?_
        refine pm_istoreXn (loc' := [some (.ref (B + 42)), some (.int za), some (.int x1_2), some (.int (-1)), none, none, none, none]) hG dX5_passQuarter_8 (by decide) (pm_c1b rfl) rfl ?_
        refine pm_iconst (v := 0) hG dX5_passQuarter_9 (by decide) ?_
        refine pm_istoreXi (loc' := [some (.ref (B + 42)), some (.int za), some (.int x1_2), some (.int (-1)), some (.int 0), none, none, none]) hG dX5_passQuarter_10 (by decide) (pm_c1b rfl) rfl ?_
        refine pm_iconst (v := 0) hG dX5_passQuarter_12 (by decide) ?_
        refine pm_istoreXi (loc' := [some (.ref (B + 42)), some (.int za), some (.int x1_2), some (.int (-1)), some (.int 0), some (.int 0), none, none]) hG dX5_passQuarter_13 (by decide) (pm_c1b rfl) rfl ?_
        have loop15 : ∀ (m15 : Nat) (I3 : Nat → Int32) (A3 : Nat → Nat → Int32) (x3_3 x3_4 x3_5 : Int32), gq ε I3 → (¬ x3_5 < 0) → ((7 : Int32).toInt - x3_5.toInt).toNat < m15 → pm_wp mX5_passQuarter G B 15 [some (.ref (B + 42)), some (.int za), some (.int x1_2), some (.int x3_3), some (.int x3_4), some (.int x3_5), none, none] [] 0 0 cnt (pm_two (cl_L B kp I3 A3) ρ) := by
          intro m15
          induction m15 with
          | zero => intro I3 A3 x3_3 x3_4 x3_5 _  _ hm; exact absurd hm (Nat.not_lt_zero _)
          | succ m15 ih15 =>
            intro I3 A3 x3_3 x3_4 x3_5 h3 s15 hm15
            refine pm_iloadi hG dX5_passQuarter_15 rfl ?_
            refine pm_bipush (v := 7) hG dX5_passQuarter_17 (by decide) ?_
            refine pm_icmp_ge (tgt := 97) hG dX5_passQuarter_19 rfl (fun c4 => ?_) (fun c4 => ?_)
            · refine pm_aloadn hG dX5_passQuarter_97 rfl ?_
              refine pm_getf hG dX5_passQuarter_98 (flX5_11 _ rfl) rfl rfl ?_
              refine pm_iloadn hG dX5_passQuarter_101 rfl ?_
              refine pm_iloadn hG dX5_passQuarter_102 rfl ?_
              refine pm_iast hG dX5_passQuarter_103 rfl (pm_ibt (by have q := And.intro True.intro True.intro;  simp only [Int32.lt_iff_toInt_lt, Int32.le_iff_toInt_le, ← Int32.toInt_inj, (show (0 : Int32).toInt = 0 from rfl), (show (7 : Int32).toInt = 7 from rfl), (show (63 : Int32).toInt = 63 from rfl)] at *; omega)) ?_
              refine nm_a43 (fun A5 => ?_)
              refine pm_aloadn hG dX5_passQuarter_104 rfl ?_
              refine pm_getf hG dX5_passQuarter_105 (flX5_15 _ rfl) rfl rfl ?_
              refine pm_iloadn hG dX5_passQuarter_108 rfl ?_
              refine pm_iloadi hG dX5_passQuarter_109 rfl ?_
              refine pm_iast hG dX5_passQuarter_111 rfl (pm_ibt (by have q := And.intro True.intro True.intro;  simp only [Int32.lt_iff_toInt_lt, Int32.le_iff_toInt_le, ← Int32.toInt_inj, (show (0 : Int32).toInt = 0 from rfl), (show (7 : Int32).toInt = 7 from rfl), (show (63 : Int32).toInt = 63 from rfl)] at *; omega)) ?_
              refine nm_a44 (fun A6 => ?_)
              refine pm_iincX (v := x1_2 + (-1)) (loc' := [some (.ref (B + 42)), some (.int za), some (.int (x1_2 + (-1))), some (.int x3_3), some (.int x3_4), some (.int x3_5), none, none]) hG dX5_passQuarter_112 rfl (by rfl) (by decide) (pm_c1b rfl) rfl ?_
              refine pm_goto (tgt := 3) hG dX5_passQuarter_115 rfl ?_
              refine pm_fg 3 (loc' := [some (.ref (B + 42)), some (.int za), some (.int (x1_2 + (-1))), none, some (.int x3_4), some (.int x3_5), none, none]) rfl ?_
              refine pm_fg 4 (loc' := [some (.ref (B + 42)), some (.int za), some (.int (x1_2 + (-1))), none, none, some (.int x3_5), none, none]) rfl ?_
              refine pm_fg 5 (loc' := [some (.ref (B + 42)), some (.int za), some (.int (x1_2 + (-1))), none, none, none, none, none]) rfl ?_
              exact ih3 _ _ (x1_2 + (-1)) h3 (pm_sd2 c2 s3) (Nat.lt_of_lt_of_le (pm_md1 c2 (by decide)) (Nat.le_of_lt_succ hm3))
            · refine pm_aloadn hG dX5_passQuarter_22 rfl ?_
              refine pm_iloadn hG dX5_passQuarter_23 rfl ?_
              refine pm_iloadi hG dX5_passQuarter_24 rfl ?_
              refine pm_iloadn hG dX5_passQuarter_26 rfl ?_
              refine pm_callV (As := [.int x1_2, .int x3_5, .int za]) (rest := []) hG hR dX5_passQuarter_27 (lkX5_58 _ rfl) okV_X5_leftBy rfl rfl (g_X5_leftBy (d := 1) (by decide) h3) rfl rfl hdd (Nat.le_refl _) (Nat.le_refl _) (by decide) (pm_ki (fun v7 σ' cnt' hq => ?_))
              obtain ⟨I7, A7, rfl, rfl, h7⟩ := hq
              refine pm_istoreXi (loc' := [some (.ref (B + 42)), some (.int za), some (.int x1_2), some (.int x3_3), some (.int x3_4), some (.int x3_5), some (.int v7), none]) hG dX5_passQuarter_30 (by decide) (pm_c1b rfl) rfl ?_
              refine pm_iloadi hG dX5_passQuarter_32 rfl ?_
              refine pm_if_ge (tgt := 41) hG dX5_passQuarter_34 rfl (fun c8 => ?_) (fun c8 => ?_)
              · refine pm_aloadn hG dX5_passQuarter_41 rfl ?_
                refine pm_getf hG dX5_passQuarter_42 (flX5_15 _ rfl) rfl rfl ?_
                refine pm_iloadn hG dX5_passQuarter_45 rfl ?_
                refine pm_iloadi hG dX5_passQuarter_46 rfl ?_
                refine pm_callS (As := [.int x1_2, .int x3_5]) (rest := [.ref (B + 44)]) hG hR dX5_passQuarter_48 (lkX5_62 _ rfl) okS_X5_before (gj_before (d := 1)) rfl rfl hdd (Nat.le_refl _) (Nat.le_refl _) (by first | decide | exact Nat.le_of_ble_eq_true rfl) (pm_ki (fun v9 σ' cnt' hq => ?_))
                obtain ⟨l9, u9, hq⟩ := hq
                obtain ⟨I9, A9, rfl, rfl, h9⟩ := hv_id (kp := kp) (I := I7) (A := A7) h7 hq
                refine pm_iald hG dX5_passQuarter_51 rfl (pm_ib2 rfl l9 u9) ?_
                refine pm_bipush (v := 7) hG dX5_passQuarter_52 (by decide) ?_
                refine pm_imul hG dX5_passQuarter_54 ?_
                refine pm_iloadi hG dX5_passQuarter_55 rfl ?_
                refine pm_iadd hG dX5_passQuarter_57 ?_
                refine pm_istoreXi (loc' := [some (.ref (B + 42)), some (.int za), some (.int x1_2), some (.int x3_3), some (.int x3_4), some (.int x3_5), some (.int v7), some (.int ((((A9 44) v9.toNatClampNeg) * 7) + x3_5))]) hG dX5_passQuarter_58 (by decide) (pm_c1b rfl) rfl ?_
                refine pm_iloadi hG dX5_passQuarter_60 rfl ?_
                refine pm_iloadn hG dX5_passQuarter_62 rfl ?_
                refine pm_icmp_gt (tgt := 84) hG dX5_passQuarter_63 rfl (fun c10 => ?_) (fun c10 => ?_)
                · refine pm_iloadi hG dX5_passQuarter_84 rfl ?_
                  refine pm_istoreXn (loc' := [some (.ref (B + 42)), some (.int za), some (.int x1_2), some (.int v7), some (.int x3_4), some (.int x3_5), some (.int v7), some (.int ((((A9 44) v9.toNatClampNeg) * 7) + x3_5))]) hG dX5_passQuarter_86 (by decide) (pm_c1b rfl) rfl ?_
                  refine pm_iloadi hG dX5_passQuarter_87 rfl ?_
                  refine pm_istoreXi (loc' := [some (.ref (B + 42)), some (.int za), some (.int x1_2), some (.int v7), some (.int ((((A9 44) v9.toNatClampNeg) * 7) + x3_5)), some (.int x3_5), some (.int v7), some (.int ((((A9 44) v9.toNatClampNeg) * 7) + x3_5))]) hG dX5_passQuarter_89 (by decide) (pm_c1b rfl) rfl ?_
                  refine pm_iincX (v := x3_5 + 1) (loc' := [some (.ref (B + 42)), some (.int za), some (.int x1_2), some (.int v7), some (.int ((((A9 44) v9.toNatClampNeg) * 7) + x3_5)), some (.int (x3_5 + 1)), some (.int v7), some (.int ((((A9 44) v9.toNatClampNeg) * 7) + x3_5))]) hG dX5_passQuarter_91 rfl (by rfl) (by decide) (pm_c1b rfl) rfl ?_
                  refine pm_goto (tgt := 15) hG dX5_passQuarter_94 rfl ?_
                  refine pm_fg 6 (loc' := [some (.ref (B + 42)), some (.int za), some (.int x1_2), some (.int v7), some (.int ((((A9 44) v9.toNatClampNeg) * 7) + x3_5)), some (.int (x3_5 + 1)), none, some (.int ((((A9 44) v9.toNatClampNeg) * 7) + x3_5))]) rfl ?_
                  refine pm_fg 7 (loc' := [some (.ref (B + 42)), some (.int za), some (.int x1_2), some (.int v7), some (.int ((((A9 44) v9.toNatClampNeg) * 7) + x3_5)), some (.int (x3_5 + 1)), none, none]) rfl ?_
                  exact ih15 _ _ v7 ((((A9 44) v9.toNatClampNeg) * 7) + x3_5) (x3_5 + 1) h9 (pm_sd1 c4 s15) (Nat.lt_of_lt_of_le (pm_mu1 c4) (Nat.le_of_lt_succ hm15))
                · refine pm_iloadi hG dX5_passQuarter_66 rfl ?_
                  refine pm_if_lt (tgt := 91) hG dX5_passQuarter_68 rfl (fun c11 => ?_) (fun c11 => ?_)
                  · refine pm_iincX (v := x3_5 + 1) (loc' := [some (.ref (B + 42)), some (.int za), some (.int x1_2), some (.int x3_3), some (.int x3_4), some (.int (x3_5 + 1)), some (.int v7), some (.int ((((A9 44) v9.toNatClampNeg) * 7) + x3_5))]) hG dX5_passQuarter_91 rfl (by rfl) (by decide) (pm_c1b rfl) rfl ?_
                    refine pm_goto (tgt := 15) hG dX5_passQuarter_94 rfl ?_
                    refine pm_fg 6 (loc' := [some (.ref (B + 42)), some (.int za), some (.int x1_2), some (.int x3_3), some (.int x3_4), some (.int (x3_5 + 1)), none, some (.int ((((A9 44) v9.toNatClampNeg) * 7) + x3_5))]) rfl ?_
                    refine pm_fg 7 (loc' := [some (.ref (B + 42)), some (.int za), some (.int x1_2), some (.int x3_3), some (.int x3_4), some (.int (x3_5 + 1)), none, none]) rfl ?_
                    exact ih15 _ _ x3_3 x3_4 (x3_5 + 1) h9 (pm_sd1 c4 s15) (Nat.lt_of_lt_of_le (pm_mu1 c4) (Nat.le_of_lt_succ hm15))
                  · refine pm_iloadi hG dX5_passQuarter_71 rfl ?_
                    refine pm_iloadn hG dX5_passQuarter_73 rfl ?_
                    refine pm_icmp_ne (tgt := 91) hG dX5_passQuarter_74 rfl (fun c12 => ?_) (fun c12 => ?_)
                    · refine pm_iincX (v := x3_5 + 1) (loc' := [some (.ref (B + 42)), some (.int za), some (.int x1_2), some (.int x3_3), some (.int x3_4), some (.int (x3_5 + 1)), some (.int v7), some (.int ((((A9 44) v9.toNatClampNeg) * 7) + x3_5))]) hG dX5_passQuarter_91 rfl (by rfl) (by decide) (pm_c1b rfl) rfl ?_
                      refine pm_goto (tgt := 15) hG dX5_passQuarter_94 rfl ?_
                      refine pm_fg 6 (loc' := [some (.ref (B + 42)), some (.int za), some (.int x1_2), some (.int x3_3), some (.int x3_4), some (.int (x3_5 + 1)), none, some (.int ((((A9 44) v9.toNatClampNeg) * 7) + x3_5))]) rfl ?_
                      refine pm_fg 7 (loc' := [some (.ref (B + 42)), some (.int za), some (.int x1_2), some (.int x3_3), some (.int x3_4), some (.int (x3_5 + 1)), none, none]) rfl ?_
                      exact ih15 _ _ x3_3 x3_4 (x3_5 + 1) h9 (pm_sd1 c4 s15) (Nat.lt_of_lt_of_le (pm_mu1 c4) (Nat.le_of_lt_succ hm15))
                    · refine pm_iloadi hG dX5_passQuarter_77 rfl ?_
                      refine pm_iloadi hG dX5_passQuarter_79 rfl ?_
                      refine pm_icmp_ge (tgt := 91) hG dX5_passQuarter_81 rfl (fun c13 => ?_) (fun c13 => ?_)
                      · refine pm_iincX (v := x3_5 + 1) (loc' := [some (.ref (B + 42)), some (.int za), some (.int x1_2), some (.int x3_3), some (.int x3_4), some (.int (x3_5 + 1)), some (.int v7), some (.int ((((A9 44) v9.toNatClampNeg) * 7) + x3_5))]) hG dX5_passQuarter_91 rfl (by rfl) (by decide) (pm_c1b rfl) rfl ?_
                        refine pm_goto (tgt := 15) hG dX5_passQuarter_94 rfl ?_
                        refine pm_fg 6 (loc' := [some (.ref (B + 42)), some (.int za), some (.int x1_2), some (.int x3_3), some (.int x3_4), some (.int (x3_5 + 1)), none, some (.int ((((A9 44) v9.toNatClampNeg) * 7) + x3_5))]) rfl ?_
                        refine pm_fg 7 (loc' := [some (.ref (B + 42)), some (.int za), some (.int x1_2), some (.int x3_3), some (.int x3_4), some (.int (x3_5 + 1)), none, none]) rfl ?_
                        exact ih15 _ _ x3_3 x3_4 (x3_5 + 1) h9 (pm_sd1 c4 s15) (Nat.lt_of_lt_of_le (pm_mu1 c4) (Nat.le_of_lt_succ hm15))
                      · refine pm_iloadi hG dX5_passQuarter_84 rfl ?_
                        refine pm_istoreXn (loc' := [some (.ref (B + 42)), some (.int za), some (.int x1_2), some (.int v7), some (.int x3_4), some (.int x3_5), some (.int v7), some (.int ((((A9 44) v9.toNatClampNeg) * 7) + x3_5))]) hG dX5_passQuarter_86 (by decide) (pm_c1b rfl) rfl ?_
                        refine pm_iloadi hG dX5_passQuarter_87 rfl ?_
                        refine pm_istoreXi (loc' := [some (.ref (B + 42)), some (.int za), some (.int x1_2), some (.int v7), some (.int ((((A9 44) v9.toNatClampNeg) * 7) + x3_5)), some (.int x3_5), some (.int v7), some (.int ((((A9 44) v9.toNatClampNeg) * 7) + x3_5))]) hG dX5_passQuarter_89 (by decide) (pm_c1b rfl) rfl ?_
                        refine pm_iincX (v := x3_5 + 1) (loc' := [some (.ref (B + 42)), some (.int za), some (.int x1_2), some (.int v7), some (.int ((((A9 44) v9.toNatClampNeg) * 7) + x3_5)), some (.int (x3_5 + 1)), some (.int v7), some (.int ((((A9 44) v9.toNatClampNeg) * 7) + x3_5))]) hG dX5_passQuarter_91 rfl (by rfl) (by decide) (pm_c1b rfl) rfl ?_
                        refine pm_goto (tgt := 15) hG dX5_passQuarter_94 rfl ?_
                        refine pm_fg 6 (loc' := [some (.ref (B + 42)), some (.int za), some (.int x1_2), some (.int v7), some (.int ((((A9 44) v9.toNatClampNeg) * 7) + x3_5)), some (.int (x3_5 + 1)), none, some (.int ((((A9 44) v9.toNatClampNeg) * 7) + x3_5))]) rfl ?_
                        refine pm_fg 7 (loc' := [some (.ref (B + 42)), some (.int za), some (.int x1_2), some (.int v7), some (.int ((((A9 44) v9.toNatClampNeg) * 7) + x3_5)), some (.int (x3_5 + 1)), none, none]) rfl ?_
                        exact ih15 _ _ v7 ((((A9 44) v9.toNatClampNeg) * 7) + x3_5) (x3_5 + 1) h9 (pm_sd1 c4 s15) (Nat.lt_of_lt_of_le (pm_mu1 c4) (Nat.le_of_lt_succ hm15))
              · refine pm_iconst (v := 0) hG dX5_passQuarter_37 (by decide) ?_
                refine pm_goto (tgt := 58) hG dX5_passQuarter_38 rfl ?_
                refine pm_istoreXi (loc' := [some (.ref (B + 42)), some (.int za), some (.int x1_2), some (.int x3_3), some (.int x3_4), some (.int x3_5), some (.int v7), some (.int 0)]) hG dX5_passQuarter_58 (by decide) (pm_c1b rfl) rfl ?_
                refine pm_iloadi hG dX5_passQuarter_60 rfl ?_
                refine pm_iloadn hG dX5_passQuarter_62 rfl ?_
                refine pm_icmp_gt (tgt := 84) hG dX5_passQuarter_63 rfl (fun c14 => ?_) (fun c14 => ?_)
                · refine pm_iloadi hG dX5_passQuarter_84 rfl ?_
                  refine pm_istoreXn (loc' := [some (.ref (B + 42)), some (.int za), some (.int x1_2), some (.int v7), some (.int x3_4), some (.int x3_5), some (.int v7), some (.int 0)]) hG dX5_passQuarter_86 (by decide) (pm_c1b rfl) rfl ?_
                  refine pm_iloadi hG dX5_passQuarter_87 rfl ?_
                  refine pm_istoreXi (loc' := [some (.ref (B + 42)), some (.int za), some (.int x1_2), some (.int v7), some (.int 0), some (.int x3_5), some (.int v7), some (.int 0)]) hG dX5_passQuarter_89 (by decide) (pm_c1b rfl) rfl ?_
                  refine pm_iincX (v := x3_5 + 1) (loc' := [some (.ref (B + 42)), some (.int za), some (.int x1_2), some (.int v7), some (.int 0), some (.int (x3_5 + 1)), some (.int v7), some (.int 0)]) hG dX5_passQuarter_91 rfl (by rfl) (by decide) (pm_c1b rfl) rfl ?_
                  refine pm_goto (tgt := 15) hG dX5_passQuarter_94 rfl ?_
                  refine pm_fg 6 (loc' := [some (.ref (B + 42)), some (.int za), some (.int x1_2), some (.int v7), some (.int 0), some (.int (x3_5 + 1)), none, some (.int 0)]) rfl ?_
                  refine pm_fg 7 (loc' := [some (.ref (B + 42)), some (.int za), some (.int x1_2), some (.int v7), some (.int 0), some (.int (x3_5 + 1)), none, none]) rfl ?_
                  exact ih15 _ _ v7 0 (x3_5 + 1) h7 (pm_sd1 c4 s15) (Nat.lt_of_lt_of_le (pm_mu1 c4) (Nat.le_of_lt_succ hm15))
                · refine pm_iloadi hG dX5_passQuarter_66 rfl ?_
                  refine pm_if_lt (tgt := 91) hG dX5_passQuarter_68 rfl (fun c15 => ?_) (fun c15 => ?_)
                  · refine pm_iincX (v := x3_5 + 1) (loc' := [some (.ref (B + 42)), some (.int za), some (.int x1_2), some (.int x3_3), some (.int x3_4), some (.int (x3_5 + 1)), some (.int v7), some (.int 0)]) hG dX5_passQuarter_91 rfl (by rfl) (by decide) (pm_c1b rfl) rfl ?_
                    refine pm_goto (tgt := 15) hG dX5_passQuarter_94 rfl ?_
                    refine pm_fg 6 (loc' := [some (.ref (B + 42)), some (.int za), some (.int x1_2), some (.int x3_3), some (.int x3_4), some (.int (x3_5 + 1)), none, some (.int 0)]) rfl ?_
                    refine pm_fg 7 (loc' := [some (.ref (B + 42)), some (.int za), some (.int x1_2), some (.int x3_3), some (.int x3_4), some (.int (x3_5 + 1)), none, none]) rfl ?_
                    exact ih15 _ _ x3_3 x3_4 (x3_5 + 1) h7 (pm_sd1 c4 s15) (Nat.lt_of_lt_of_le (pm_mu1 c4) (Nat.le_of_lt_succ hm15))
                  · refine pm_iloadi hG dX5_passQuarter_71 rfl ?_
                    refine pm_iloadn hG dX5_passQuarter_73 rfl ?_
                    refine pm_icmp_ne (tgt := 91) hG dX5_passQuarter_74 rfl (fun c16 => ?_) (fun c16 => ?_)
                    · refine pm_iincX (v := x3_5 + 1) (loc' := [some (.ref (B + 42)), some (.int za), some (.int x1_2), some (.int x3_3), some (.int x3_4), some (.int (x3_5 + 1)), some (.int v7), some (.int 0)]) hG dX5_passQuarter_91 rfl (by rfl) (by decide) (pm_c1b rfl) rfl ?_
                      refine pm_goto (tgt := 15) hG dX5_passQuarter_94 rfl ?_
                      refine pm_fg 6 (loc' := [some (.ref (B + 42)), some (.int za), some (.int x1_2), some (.int x3_3), some (.int x3_4), some (.int (x3_5 + 1)), none, some (.int 0)]) rfl ?_
                      refine pm_fg 7 (loc' := [some (.ref (B + 42)), some (.int za), some (.int x1_2), some (.int x3_3), some (.int x3_4), some (.int (x3_5 + 1)), none, none]) rfl ?_
                      exact ih15 _ _ x3_3 x3_4 (x3_5 + 1) h7 (pm_sd1 c4 s15) (Nat.lt_of_lt_of_le (pm_mu1 c4) (Nat.le_of_lt_succ hm15))
                    · refine pm_iloadi hG dX5_passQuarter_77 rfl ?_
                      refine pm_iloadi hG dX5_passQuarter_79 rfl ?_
                      refine pm_icmp_ge (tgt := 91) hG dX5_passQuarter_81 rfl (fun c17 => ?_) (fun c17 => ?_)
                      · refine pm_iincX (v := x3_5 + 1) (loc' := [some (.ref (B + 42)), some (.int za), some (.int x1_2), some (.int x3_3), some (.int x3_4), some (.int (x3_5 + 1)), some (.int v7), some (.int 0)]) hG dX5_passQuarter_91 rfl (by rfl) (by decide) (pm_c1b rfl) rfl ?_
                        refine pm_goto (tgt := 15) hG dX5_passQuarter_94 rfl ?_
                        refine pm_fg 6 (loc' := [some (.ref (B + 42)), some (.int za), some (.int x1_2), some (.int x3_3), some (.int x3_4), some (.int (x3_5 + 1)), none, some (.int 0)]) rfl ?_
                        refine pm_fg 7 (loc' := [some (.ref (B + 42)), some (.int za), some (.int x1_2), some (.int x3_3), some (.int x3_4), some (.int (x3_5 + 1)), none, none]) rfl ?_
                        exact ih15 _ _ x3_3 x3_4 (x3_5 + 1) h7 (pm_sd1 c4 s15) (Nat.lt_of_lt_of_le (pm_mu1 c4) (Nat.le_of_lt_succ hm15))
                      · refine pm_iloadi hG dX5_passQuarter_84 rfl ?_
                        refine pm_istoreXn (loc' := [some (.ref (B + 42)), some (.int za), some (.int x1_2), some (.int v7), some (.int x3_4), some (.int x3_5), some (.int v7), some (.int 0)]) hG dX5_passQuarter_86 (by decide) (pm_c1b rfl) rfl ?_
                        refine pm_iloadi hG dX5_passQuarter_87 rfl ?_
                        refine pm_istoreXi (loc' := [some (.ref (B + 42)), some (.int za), some (.int x1_2), some (.int v7), some (.int 0), some (.int x3_5), some (.int v7), some (.int 0)]) hG dX5_passQuarter_89 (by decide) (pm_c1b rfl) rfl ?_
                        refine pm_iincX (v := x3_5 + 1) (loc' := [some (.ref (B + 42)), some (.int za), some (.int x1_2), some (.int v7), some (.int 0), some (.int (x3_5 + 1)), some (.int v7), some (.int 0)]) hG dX5_passQuarter_91 rfl (by rfl) (by decide) (pm_c1b rfl) rfl ?_
                        refine pm_goto (tgt := 15) hG dX5_passQuarter_94 rfl ?_
                        refine pm_fg 6 (loc' := [some (.ref (B + 42)), some (.int za), some (.int x1_2), some (.int v7), some (.int 0), some (.int (x3_5 + 1)), none, some (.int 0)]) rfl ?_
                        refine pm_fg 7 (loc' := [some (.ref (B + 42)), some (.int za), some (.int x1_2), some (.int v7), some (.int 0), some (.int (x3_5 + 1)), none, none]) rfl ?_
                        exact ih15 _ _ v7 0 (x3_5 + 1) h7 (pm_sd1 c4 s15) (Nat.lt_of_lt_of_le (pm_mu1 c4) (Nat.le_of_lt_succ hm15))
        exact loop15 _ _ _ (-1) 0 0 h1 (by decide) (Nat.lt_succ_self _)
  exact loop3 _ _ _ 63 h (by decide) (Nat.lt_succ_self _)
