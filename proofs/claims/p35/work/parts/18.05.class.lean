set_option maxRecDepth 100000 in
set_option maxHeartbeats 4000000 in
theorem g_X7_addCopy {ε : Nat → Int32} {d B cnt : Nat} {kp : pm_KP} {ρ : pm_S} {I : Nat → Int32} {A : Nat → Nat → Int32} {za : Int32} (hdd : 3 ≤ d) (h : gq ε I) : pm_met mX7_addCopy d 0 0 B [.ref (B + 1), .int za] cnt (pm_two (cl_L B kp I A) ρ) (pm_Qi (fun _ σ' cnt' => hvq ε B kp ρ cnt σ' cnt')) := by
  refine pm_enter 1 (by decide) (Nat.le_of_ble_eq_true rfl) rfl (fun G hG hR hF => ?_)
  refine pm_aloadn hG dX7_addCopy_0 rfl ?_
  refine pm_iconst (v := 2) hG dX7_addCopy_1 (by decide) ?_
  refine pm_aloadn hG dX7_addCopy_2 rfl ?_
  refine pm_iloadn hG dX7_addCopy_3 rfl ?_
  refine pm_callV (As := [.int za]) (rest := [.int 2, .ref (B + 1)]) hG hR dX7_addCopy_4 (lkX7_128 _ rfl) okV_X7_whoHas rfl rfl (g_X7_whoHas (d := 2) (by decide) h) rfl rfl hdd (Nat.le_refl _) (Nat.le_refl _) (by first | decide | exact Nat.le_of_ble_eq_true rfl) (pm_ki (fun v1 σ' cnt' hq => ?_))
  obtain ⟨I1, A1, rfl, rfl, h1⟩ := hq
  refine pm_iconst (v := 0) hG dX7_addCopy_7 (by decide) ?_
  refine pm_callV (As := [.int 2, .int v1, .int 0]) (rest := []) hG hR dX7_addCopy_8 (lkX7_131 _ rfl) okV_X7_addPower rfl rfl (g_X7_addPower (d := 2) (by decide) h1) rfl rfl hdd (Nat.le_refl _) (Nat.le_refl _) (by decide) (pm_ki (fun v2 σ' cnt' hq => ?_))
  obtain ⟨I2, A2, rfl, rfl, h2⟩ := hq
  refine pm_istoreXn (loc' := [some (.ref (B + 1)), some (.int za), some (.int v2)]) hG dX7_addCopy_11 (by decide) (pm_c1b rfl) rfl ?_
  refine pm_aloadn hG dX7_addCopy_12 rfl ?_
  refine pm_getf hG dX7_addCopy_13 (flX7_26 _ rfl) rfl rfl ?_
  refine pm_iloadn hG dX7_addCopy_16 rfl ?_
  refine pm_iconst (v := 5) hG dX7_addCopy_17 (by decide) ?_
  refine pm_aloadn hG dX7_addCopy_18 rfl ?_
  refine pm_getf hG dX7_addCopy_19 (flX7_26 _ rfl) rfl rfl ?_
  refine pm_iloadn hG dX7_addCopy_22 rfl ?_
  refine pm_iconst (v := 5) hG dX7_addCopy_23 (by decide) ?_
  refine pm_callV (As := [.int za, .int 5]) (rest := [.int 5, .int v2, .ref (B + 8)]) hG hR dX7_addCopy_24 (lkX7_83 _ rfl) okV_X9_get rfl rfl (tb_get (d := 2) rfl rfl (pm_tw_of 20 6 (by decide) (by decide) (by decide))) rfl rfl hdd (Nat.le_refl _) (Nat.le_refl _) (by first | decide | exact Nat.le_of_ble_eq_true rfl) (pm_ki (fun v3 σ' cnt' hq => ?_))
  obtain ⟨I3, A3, rfl, rfl, h3⟩ := hv_id (kp := kp) (I := I2) (A := A2) h2 hq.2
  refine pm_callV (As := [.int v2, .int 5, .int v3]) (rest := []) hG hR dX7_addCopy_27 (lkX7_61 _ rfl) okV_X9_set rfl rfl (tb_set (d := 2) rfl rfl (pm_tw_of 20 6 (by decide) (by decide) (by decide)) (by decide)) rfl rfl hdd (Nat.le_refl _) (Nat.le_refl _) (by decide) (pm_kv (fun σ' cnt' hq => ?_))
  obtain ⟨I4, A4, rfl, rfl, h4⟩ := hv_a9 (kp := kp) (I := I3) (A := A3) h3 hq
  refine pm_iloadn hG dX7_addCopy_30 rfl ?_
  exact pm_iret hG hF dX7_addCopy_31 rfl (Nat.le_refl _) (Nat.le_refl _) ⟨_, rfl, _, _, rfl, rfl, h4⟩

set_option maxRecDepth 100000 in
set_option maxHeartbeats 4000000 in
theorem g_X11_copy {ε : Nat → Int32} {d B cnt : Nat} {kp : pm_KP} {ρ : pm_S} {I : Nat → Int32} {A : Nat → Nat → Int32} {za : Int32} (hdd : 4 ≤ d) (h : gq ε I) : pm_met mX11_copy d 0 0 B [.ref (B + 0), .int za] cnt (pm_two (cl_L B kp I A) ρ) (pm_Qi (fun _ σ' cnt' => hvq ε B kp ρ cnt σ' cnt')) := by
  refine pm_enter 0 (by decide) (Nat.le_of_ble_eq_true rfl) rfl (fun G hG hR hF => ?_)
  refine pm_aloadn hG dX11_copy_0 rfl ?_
  refine pm_getf hG dX11_copy_1 (flX11_12 _ rfl) rfl rfl ?_
  refine pm_getf hG dX11_copy_4 (flX11_161 _ rfl) rfl rfl ?_
  refine pm_iloadn hG dX11_copy_7 rfl ?_
  refine pm_callV (As := [.int za]) (rest := []) hG hR dX11_copy_8 (lkX11_101 _ rfl) okV_X9_has rfl rfl (tb_has (d := 3) rfl) rfl rfl hdd (Nat.le_refl _) (Nat.le_refl _) (by decide) (pm_ki (fun v1 σ' cnt' hq => ?_))
  have b1 := pm_b01 hq.1
  obtain ⟨I1, A1, rfl, rfl, h1⟩ := hv_id (kp := kp) (I := I) (A := A) h hq.2
  refine pm_if_ne (tgt := 21) hG dX11_copy_11 rfl (fun c2 => ?_) (fun c2 => ?_)
  · refine pm_aloadn hG dX11_copy_21 rfl ?_
    refine pm_getf hG dX11_copy_22 (flX11_12 _ rfl) rfl rfl ?_
    refine pm_iloadn hG dX11_copy_25 rfl ?_
    refine pm_iconst (v := 2) hG dX11_copy_26 (by decide) ?_
    refine pm_callV (As := [.int za, .int 2]) (rest := []) hG hR dX11_copy_27 (lkX11_180 _ rfl) okV_X7_isOfKind rfl rfl (g_X7_isOfKind (d := 3) (by decide) h1) rfl rfl hdd (Nat.le_refl _) (Nat.le_refl _) (by decide) (pm_ki (fun v3 σ' cnt' hq => ?_))
    obtain ⟨b3, I3, A3, rfl, rfl, h3⟩ := hq
    refine pm_if_ne (tgt := 40) hG dX11_copy_30 rfl (fun c4 => ?_) (fun c4 => ?_)
    · refine pm_aloadn hG dX11_copy_40 rfl ?_
      refine pm_getf hG dX11_copy_41 (flX11_12 _ rfl) rfl rfl ?_
      refine pm_iloadn hG dX11_copy_44 rfl ?_
      refine pm_callV (As := [.int za]) (rest := []) hG hR dX11_copy_45 (lkX11_185 _ rfl) okV_X7_whoHas rfl rfl (g_X7_whoHas (d := 3) (by decide) h3) rfl rfl hdd (Nat.le_refl _) (Nat.le_refl _) (by decide) (pm_ki (fun v5 σ' cnt' hq => ?_))
      obtain ⟨I5, A5, rfl, rfl, h5⟩ := hq
      refine pm_iconst (v := (-1)) hG dX11_copy_48 (by decide) ?_
      refine pm_icmp_ne (tgt := 59) hG dX11_copy_49 rfl (fun c6 => ?_) (fun c6 => ?_)
      · refine pm_aloadn hG dX11_copy_59 rfl ?_
        refine pm_aloadn hG dX11_copy_60 rfl ?_
        refine pm_getf hG dX11_copy_61 (flX11_12 _ rfl) rfl rfl ?_
        refine pm_getf hG dX11_copy_64 (flX11_161 _ rfl) rfl rfl ?_
        refine pm_callV (As := []) (rest := [.ref (B + 0)]) hG hR dX11_copy_67 (lkX11_86 _ rfl) okV_X9_isFull rfl rfl (tb_isFull (d := 3) rfl) rfl rfl hdd (Nat.le_refl _) (Nat.le_refl _) (by first | decide | exact Nat.le_of_ble_eq_true rfl) (pm_ki (fun v7 σ' cnt' hq => ?_))
        have b7 := pm_b01 hq.1
        obtain ⟨I7, A7, rfl, rfl, h7⟩ := hv_id (kp := kp) (I := I5) (A := A5) h5 hq.2
        refine pm_if_eq (tgt := 78) hG dX11_copy_70 rfl (fun c8 => ?_) (fun c8 => ?_)
        · refine pm_aloadn hG dX11_copy_78 rfl ?_
          refine pm_getf hG dX11_copy_79 (flX11_12 _ rfl) rfl rfl ?_
          refine pm_iloadn hG dX11_copy_82 rfl ?_
          refine pm_callV (As := [.int za]) (rest := [.ref (B + 0)]) hG hR dX11_copy_83 (lkX11_197 _ rfl) okV_X7_addCopy rfl rfl (g_X7_addCopy (d := 3) (by decide) h7) rfl rfl hdd (Nat.le_refl _) (Nat.le_refl _) (by first | decide | exact Nat.le_of_ble_eq_true rfl) (pm_ki (fun v9 σ' cnt' hq => ?_))
          obtain ⟨I9, A9, rfl, rfl, h9⟩ := hq
          refine pm_callV (As := [.int v9]) (rest := []) hG hR dX11_copy_86 (lkX11_97 _ rfl) okV_X11_told rfl rfl (sx_told (d := 3) (by decide) rfl rfl) rfl rfl hdd (Nat.le_refl _) (Nat.le_refl _) (by decide) (pm_ki (fun v10 σ' cnt' hq => ?_))
          obtain ⟨-, ⟨g10, hg10⟩, hc10⟩ := hq
          obtain ⟨I10, A10, rfl, rfl, h10⟩ := hv_a53 (kp := kp) (I := I9) (A := A9) h9 ⟨hg10, hc10⟩
          exact pm_iret hG hF dX11_copy_89 rfl (Nat.le_refl _) (Nat.le_refl _) ⟨_, rfl, _, _, rfl, rfl, h10⟩
        · refine pm_ldc hG dX11_copy_73 (ctX11_92 _ rfl) ?_
          refine pm_goto (tgt := 86) hG dX11_copy_75 rfl ?_
          refine pm_callV (As := [.int (-1000004)]) (rest := []) hG hR dX11_copy_86 (lkX11_97 _ rfl) okV_X11_told rfl rfl (sx_told (d := 3) (by decide) rfl rfl) rfl rfl hdd (Nat.le_refl _) (Nat.le_refl _) (by decide) (pm_ki (fun v11 σ' cnt' hq => ?_))
          obtain ⟨-, ⟨g11, hg11⟩, hc11⟩ := hq
          obtain ⟨I11, A11, rfl, rfl, h11⟩ := hv_a53 (kp := kp) (I := I7) (A := A7) h7 ⟨hg11, hc11⟩
          exact pm_iret hG hF dX11_copy_89 rfl (Nat.le_refl _) (Nat.le_refl _) ⟨_, rfl, _, _, rfl, rfl, h11⟩
      · refine pm_aloadn hG dX11_copy_52 rfl ?_
        refine pm_ldc hG dX11_copy_53 (ctX11_138 _ rfl) ?_
        refine pm_callV (As := [.int (-1000003)]) (rest := []) hG hR dX11_copy_55 (lkX11_97 _ rfl) okV_X11_told rfl rfl (sx_told (d := 3) (by decide) rfl rfl) rfl rfl hdd (Nat.le_refl _) (Nat.le_refl _) (by decide) (pm_ki (fun v12 σ' cnt' hq => ?_))
        obtain ⟨-, ⟨g12, hg12⟩, hc12⟩ := hq
        obtain ⟨I12, A12, rfl, rfl, h12⟩ := hv_a53 (kp := kp) (I := I5) (A := A5) h5 ⟨hg12, hc12⟩
        exact pm_iret hG hF dX11_copy_58 rfl (Nat.le_refl _) (Nat.le_refl _) ⟨_, rfl, _, _, rfl, rfl, h12⟩
    · refine pm_aloadn hG dX11_copy_33 rfl ?_
      refine pm_ldc hG dX11_copy_34 (ctX11_184 _ rfl) ?_
      refine pm_callV (As := [.int (-1000005)]) (rest := []) hG hR dX11_copy_36 (lkX11_97 _ rfl) okV_X11_told rfl rfl (sx_told (d := 3) (by decide) rfl rfl) rfl rfl hdd (Nat.le_refl _) (Nat.le_refl _) (by decide) (pm_ki (fun v13 σ' cnt' hq => ?_))
      obtain ⟨-, ⟨g13, hg13⟩, hc13⟩ := hq
      obtain ⟨I13, A13, rfl, rfl, h13⟩ := hv_a53 (kp := kp) (I := I3) (A := A3) h3 ⟨hg13, hc13⟩
      exact pm_iret hG hF dX11_copy_39 rfl (Nat.le_refl _) (Nat.le_refl _) ⟨_, rfl, _, _, rfl, rfl, h13⟩
  · refine pm_aloadn hG dX11_copy_14 rfl ?_
    refine pm_ldc hG dX11_copy_15 (ctX11_109 _ rfl) ?_
    refine pm_callV (As := [.int (-1000001)]) (rest := []) hG hR dX11_copy_17 (lkX11_97 _ rfl) okV_X11_told rfl rfl (sx_told (d := 3) (by decide) rfl rfl) rfl rfl hdd (Nat.le_refl _) (Nat.le_refl _) (by decide) (pm_ki (fun v14 σ' cnt' hq => ?_))
    obtain ⟨-, ⟨g14, hg14⟩, hc14⟩ := hq
    obtain ⟨I14, A14, rfl, rfl, h14⟩ := hv_a53 (kp := kp) (I := I1) (A := A1) h1 ⟨hg14, hc14⟩
    exact pm_iret hG hF dX11_copy_20 rfl (Nat.le_refl _) (Nat.le_refl _) ⟨_, rfl, _, _, rfl, rfl, h14⟩

set_option maxRecDepth 100000 in
set_option maxHeartbeats 4000000 in
theorem g_X3_isSent {ε : Nat → Int32} {d B cnt : Nat} {kp : pm_KP} {ρ : pm_S} {I : Nat → Int32} {A : Nat → Nat → Int32} {za : Int32} (hdd : 1 ≤ d) (h : gq ε I) : pm_met mX3_isSent d 0 0 B [.ref (B + 36), .int za] cnt (pm_two (cl_L B kp I A) ρ) (pm_Qi (fun v σ' cnt' => (v = 0 ∨ v = 1) ∧ hvq ε B kp ρ cnt σ' cnt')) := by
  refine pm_enter 0 (by decide) (Nat.le_of_ble_eq_true rfl) rfl (fun G hG hR hF => ?_)
  refine pm_aloadn hG dX3_isSent_0 rfl ?_
  refine pm_getf hG dX3_isSent_1 (flX3_29 _ rfl) rfl rfl ?_
  refine pm_iloadn hG dX3_isSent_4 rfl ?_
  refine pm_bipush (v := 6) hG dX3_isSent_5 (by decide) ?_
  refine pm_callV (As := [.int za, .int 6]) (rest := []) hG hR dX3_isSent_7 (lkX3_35 _ rfl) okV_X9_get rfl rfl (tb_get (d := 0) rfl rfl (pm_tw_of 40 12 (by decide) (by decide) (by decide))) rfl rfl hdd (Nat.le_refl _) (Nat.le_refl _) (by decide) (pm_ki (fun v1 σ' cnt' hq => ?_))
  obtain ⟨I1, A1, rfl, rfl, h1⟩ := hv_id (kp := kp) (I := I) (A := A) h hq.2
  refine pm_iconst (v := (-1)) hG dX3_isSent_10 (by decide) ?_
  refine pm_icmp_eq (tgt := 18) hG dX3_isSent_11 rfl (fun c2 => ?_) (fun c2 => ?_)
  · refine pm_iconst (v := 0) hG dX3_isSent_18 (by decide) ?_
    exact pm_zret hG hF dX3_isSent_19 rfl (pm_nz (Or.inl rfl)) (Nat.le_refl _) (Nat.le_refl _) ⟨_, rfl, (Or.inl rfl), _, _, rfl, rfl, h1⟩
  · refine pm_iconst (v := 1) hG dX3_isSent_14 (by decide) ?_
    refine pm_goto (tgt := 19) hG dX3_isSent_15 rfl ?_
    exact pm_zret hG hF dX3_isSent_19 rfl (pm_nz (Or.inr rfl)) (Nat.le_refl _) (Nat.le_refl _) ⟨_, rfl, (Or.inr rfl), _, _, rfl, rfl, h1⟩

set_option maxRecDepth 100000 in
set_option maxHeartbeats 4000000 in
theorem g_X3_onTheirWay {ε : Nat → Int32} {d B cnt : Nat} {kp : pm_KP} {ρ : pm_S} {I : Nat → Int32} {A : Nat → Nat → Int32} (hdd : 2 ≤ d) (h : gq ε I) : pm_met mX3_onTheirWay d 0 0 B [.ref (B + 36)] cnt (pm_two (cl_L B kp I A) ρ) (pm_Qi (fun _ σ' cnt' => hvq ε B kp ρ cnt σ' cnt')) := by
  refine pm_enter 3 (by decide) (Nat.le_of_ble_eq_true rfl) rfl (fun G hG hR hF => ?_)
  refine pm_iconst (v := 0) hG dX3_onTheirWay_0 (by decide) ?_
  refine pm_istoreXn (loc' := [some (.ref (B + 36)), some (.int 0), none, none]) hG dX3_onTheirWay_1 (by decide) (pm_c1b rfl) rfl ?_
  refine pm_aloadn hG dX3_onTheirWay_2 rfl ?_
  refine pm_getf hG dX3_onTheirWay_3 (flX3_29 _ rfl) rfl rfl ?_
  refine pm_callV (As := []) (rest := []) hG hR dX3_onTheirWay_6 (lkX3_74 _ rfl) okV_X9_used rfl rfl (tb_used (d := 1) rfl) rfl rfl hdd (Nat.le_refl _) (Nat.le_refl _) (by decide) (pm_ki (fun v1 σ' cnt' hq => ?_))
  obtain ⟨I1, A1, rfl, rfl, h1⟩ := hv_id (kp := kp) (I := I) (A := A) h hq.2
  refine pm_istoreXn (loc' := [some (.ref (B + 36)), some (.int 0), some (.int v1), none]) hG dX3_onTheirWay_9 (by decide) (pm_c1b rfl) rfl ?_
  refine pm_iconst (v := 0) hG dX3_onTheirWay_10 (by decide) ?_
  refine pm_istoreXn (loc' := [some (.ref (B + 36)), some (.int 0), some (.int v1), some (.int 0)]) hG dX3_onTheirWay_11 (by decide) (pm_c1b rfl) rfl ?_
  have loop12 : ∀ (m12 : Nat) (I2 : Nat → Int32) (A2 : Nat → Nat → Int32) (x2_1 x2_3 : Int32), gq ε I2 → (¬ x2_3 < 0) → ((v1 : Int32).toInt - x2_3.toInt).toNat < m12 → pm_wp mX3_onTheirWay G B 12 [some (.ref (B + 36)), some (.int x2_1), some (.int v1), some (.int x2_3)] [] 0 0 cnt (pm_two (cl_L B kp I2 A2) ρ) := by
    intro m12
    induction m12 with
    | zero => intro I2 A2 x2_1 x2_3 _  _ hm; exact absurd hm (Nat.not_lt_zero _)
    | succ m12 ih12 =>
      intro I2 A2 x2_1 x2_3 h2 s12 hm12
      refine pm_iloadn hG dX3_onTheirWay_12 rfl ?_
      refine pm_iloadn hG dX3_onTheirWay_13 rfl ?_
      refine pm_icmp_ge (tgt := 54) hG dX3_onTheirWay_14 rfl (fun c3 => ?_) (fun c3 => ?_)
      · refine pm_iloadn hG dX3_onTheirWay_54 rfl ?_
        exact pm_iret hG hF dX3_onTheirWay_55 rfl (Nat.le_refl _) (Nat.le_refl _) ⟨_, rfl, _, _, rfl, rfl, h2⟩
      · refine pm_aloadn hG dX3_onTheirWay_17 rfl ?_
        refine pm_iloadn hG dX3_onTheirWay_18 rfl ?_
        refine pm_callV (As := [.int x2_3]) (rest := []) hG hR dX3_onTheirWay_19 (lkX3_55 _ rfl) okV_X3_isSent rfl rfl (g_X3_isSent (d := 1) (by decide) h2) rfl rfl hdd (Nat.le_refl _) (Nat.le_refl _) (by decide) (pm_ki (fun v4 σ' cnt' hq => ?_))
        obtain ⟨b4, I4, A4, rfl, rfl, h4⟩ := hq
        refine pm_if_eq (tgt := 48) hG dX3_onTheirWay_22 rfl (fun c5 => ?_) (fun c5 => ?_)
        · refine pm_iincX (v := x2_3 + 1) (loc' := [some (.ref (B + 36)), some (.int x2_1), some (.int v1), some (.int (x2_3 + 1))]) hG dX3_onTheirWay_48 rfl (by rfl) (by decide) (pm_c1b rfl) rfl ?_
          refine pm_goto (tgt := 12) hG dX3_onTheirWay_51 rfl ?_
          exact ih12 _ _ x2_1 (x2_3 + 1) h4 (pm_sd1 c3 s12) (Nat.lt_of_lt_of_le (pm_mu1 c3) (Nat.le_of_lt_succ hm12))
        · refine pm_aloadn hG dX3_onTheirWay_25 rfl ?_
          refine pm_getf hG dX3_onTheirWay_26 (flX3_29 _ rfl) rfl rfl ?_
          refine pm_iloadn hG dX3_onTheirWay_29 rfl ?_
          refine pm_bipush (v := 8) hG dX3_onTheirWay_30 (by decide) ?_
          refine pm_callV (As := [.int x2_3, .int 8]) (rest := []) hG hR dX3_onTheirWay_32 (lkX3_35 _ rfl) okV_X9_get rfl rfl (tb_get (d := 1) rfl rfl (pm_tw_of 40 12 (by decide) (by decide) (by decide))) rfl rfl hdd (Nat.le_refl _) (Nat.le_refl _) (by decide) (pm_ki (fun v6 σ' cnt' hq => ?_))
          obtain ⟨I6, A6, rfl, rfl, h6⟩ := hv_id (kp := kp) (I := I4) (A := A4) h4 hq.2
          refine pm_aloadn hG dX3_onTheirWay_35 rfl ?_
          refine pm_getf hG dX3_onTheirWay_36 (flX3_9 _ rfl) rfl rfl ?_
          refine pm_getf hG dX3_onTheirWay_39 (flX3_82 _ rfl) rfl rfl ?_
          refine pm_icmp_le (tgt := 48) hG dX3_onTheirWay_42 rfl (fun c7 => ?_) (fun c7 => ?_)
          · refine pm_iincX (v := x2_3 + 1) (loc' := [some (.ref (B + 36)), some (.int x2_1), some (.int v1), some (.int (x2_3 + 1))]) hG dX3_onTheirWay_48 rfl (by rfl) (by decide) (pm_c1b rfl) rfl ?_
            refine pm_goto (tgt := 12) hG dX3_onTheirWay_51 rfl ?_
            exact ih12 _ _ x2_1 (x2_3 + 1) h6 (pm_sd1 c3 s12) (Nat.lt_of_lt_of_le (pm_mu1 c3) (Nat.le_of_lt_succ hm12))
          · refine pm_iincX (v := x2_1 + 1) (loc' := [some (.ref (B + 36)), some (.int (x2_1 + 1)), some (.int v1), some (.int x2_3)]) hG dX3_onTheirWay_45 rfl (by rfl) (by decide) (pm_c1b rfl) rfl ?_
            refine pm_iincX (v := x2_3 + 1) (loc' := [some (.ref (B + 36)), some (.int (x2_1 + 1)), some (.int v1), some (.int (x2_3 + 1))]) hG dX3_onTheirWay_48 rfl (by rfl) (by decide) (pm_c1b rfl) rfl ?_
            refine pm_goto (tgt := 12) hG dX3_onTheirWay_51 rfl ?_
            exact ih12 _ _ (x2_1 + 1) (x2_3 + 1) h6 (pm_sd1 c3 s12) (Nat.lt_of_lt_of_le (pm_mu1 c3) (Nat.le_of_lt_succ hm12))
  exact loop12 _ _ _ 0 0 h1 (by decide) (Nat.lt_succ_self _)

set_option maxRecDepth 100000 in
set_option maxHeartbeats 4000000 in
theorem g_X11_count {ε : Nat → Int32} {d B cnt : Nat} {kp : pm_KP} {ρ : pm_S} {I : Nat → Int32} {A : Nat → Nat → Int32} {za : Int32} (hdd : 3 ≤ d) (h : gq ε I) : pm_met mX11_count d 0 0 B [.ref (B + 0), .int za] cnt (pm_two (cl_L B kp I A) ρ) (pm_Qi (fun _ σ' cnt' => hvq ε B kp ρ cnt σ' cnt')) := by
  refine pm_enter 0 (by decide) (Nat.le_of_ble_eq_true rfl) rfl (fun G hG hR hF => ?_)
  refine pm_iloadn hG dX11_count_0 rfl ?_
  by_cases c1 : za = 0
  · refine pm_top (v := 0) c1 ?_
    refine pm_tswIn (tgt := 80) hG dX11_count_1 (by decide) (by decide) rfl rfl ?_
    refine pm_aloadn hG dX11_count_80 rfl ?_
    refine pm_getf hG dX11_count_81 (flX11_12 _ rfl) rfl rfl ?_
    refine pm_getf hG dX11_count_84 (flX11_82 _ rfl) rfl rfl ?_
    refine pm_callV (As := []) (rest := []) hG hR dX11_count_87 (lkX11_203 _ rfl) okV_X9_used rfl rfl (tb_used (d := 2) rfl) rfl rfl hdd (Nat.le_refl _) (Nat.le_refl _) (by decide) (pm_ki (fun v2 σ' cnt' hq => ?_))
    obtain ⟨I2, A2, rfl, rfl, h2⟩ := hv_id (kp := kp) (I := I) (A := A) h hq.2
    exact pm_iret hG hF dX11_count_90 rfl (Nat.le_refl _) (Nat.le_refl _) ⟨_, rfl, _, _, rfl, rfl, h2⟩
  by_cases c3 : za = 1
  · refine pm_top (v := 1) c3 ?_
    refine pm_tswIn (tgt := 91) hG dX11_count_1 (by decide) (by decide) rfl rfl ?_
    refine pm_aloadn hG dX11_count_91 rfl ?_
    refine pm_getf hG dX11_count_92 (flX11_12 _ rfl) rfl rfl ?_
    refine pm_getf hG dX11_count_95 (flX11_110 _ rfl) rfl rfl ?_
    exact pm_iret hG hF dX11_count_98 rfl (Nat.le_refl _) (Nat.le_refl _) ⟨_, rfl, _, _, rfl, rfl, h⟩
  by_cases c4 : za = 2
  · refine pm_top (v := 2) c4 ?_
    refine pm_tswIn (tgt := 99) hG dX11_count_1 (by decide) (by decide) rfl rfl ?_
    refine pm_aloadn hG dX11_count_99 rfl ?_
    refine pm_getf hG dX11_count_100 (flX11_12 _ rfl) rfl rfl ?_
    refine pm_getf hG dX11_count_103 (flX11_128 _ rfl) rfl rfl ?_
    refine pm_callV (As := []) (rest := []) hG hR dX11_count_106 (lkX11_203 _ rfl) okV_X9_used rfl rfl (tb_used (d := 2) rfl) rfl rfl hdd (Nat.le_refl _) (Nat.le_refl _) (by decide) (pm_ki (fun v5 σ' cnt' hq => ?_))
    obtain ⟨I5, A5, rfl, rfl, h5⟩ := hv_id (kp := kp) (I := I) (A := A) h hq.2
    exact pm_iret hG hF dX11_count_109 rfl (Nat.le_refl _) (Nat.le_refl _) ⟨_, rfl, _, _, rfl, rfl, h5⟩
  by_cases c6 : za = 3
  · refine pm_top (v := 3) c6 ?_
    refine pm_tswIn (tgt := 110) hG dX11_count_1 (by decide) (by decide) rfl rfl ?_
    refine pm_aloadn hG dX11_count_110 rfl ?_
    refine pm_getf hG dX11_count_111 (flX11_12 _ rfl) rfl rfl ?_
    refine pm_getf hG dX11_count_114 (flX11_161 _ rfl) rfl rfl ?_
    refine pm_callV (As := []) (rest := []) hG hR dX11_count_117 (lkX11_203 _ rfl) okV_X9_used rfl rfl (tb_used (d := 2) rfl) rfl rfl hdd (Nat.le_refl _) (Nat.le_refl _) (by decide) (pm_ki (fun v7 σ' cnt' hq => ?_))
    obtain ⟨I7, A7, rfl, rfl, h7⟩ := hv_id (kp := kp) (I := I) (A := A) h hq.2
    exact pm_iret hG hF dX11_count_120 rfl (Nat.le_refl _) (Nat.le_refl _) ⟨_, rfl, _, _, rfl, rfl, h7⟩
  by_cases c8 : za = 4
  · refine pm_top (v := 4) c8 ?_
    refine pm_tswIn (tgt := 121) hG dX11_count_1 (by decide) (by decide) rfl rfl ?_
    refine pm_aloadn hG dX11_count_121 rfl ?_
    refine pm_getf hG dX11_count_122 (flX11_12 _ rfl) rfl rfl ?_
    refine pm_getf hG dX11_count_125 (flX11_209 _ rfl) rfl rfl ?_
    refine pm_callV (As := []) (rest := []) hG hR dX11_count_128 (lkX11_203 _ rfl) okV_X9_used rfl rfl (tb_used (d := 2) rfl) rfl rfl hdd (Nat.le_refl _) (Nat.le_refl _) (by decide) (pm_ki (fun v9 σ' cnt' hq => ?_))
    obtain ⟨I9, A9, rfl, rfl, h9⟩ := hv_id (kp := kp) (I := I) (A := A) h hq.2
    exact pm_iret hG hF dX11_count_131 rfl (Nat.le_refl _) (Nat.le_refl _) ⟨_, rfl, _, _, rfl, rfl, h9⟩
  by_cases c10 : za = 5
  · refine pm_top (v := 5) c10 ?_
    refine pm_tswIn (tgt := 132) hG dX11_count_1 (by decide) (by decide) rfl rfl ?_
    refine pm_aloadn hG dX11_count_132 rfl ?_
    refine pm_getf hG dX11_count_133 (flX11_12 _ rfl) rfl rfl ?_
    refine pm_getf hG dX11_count_136 (flX11_224 _ rfl) rfl rfl ?_
    refine pm_callV (As := []) (rest := []) hG hR dX11_count_139 (lkX11_203 _ rfl) okV_X9_used rfl rfl (tb_used (d := 2) rfl) rfl rfl hdd (Nat.le_refl _) (Nat.le_refl _) (by decide) (pm_ki (fun v11 σ' cnt' hq => ?_))
    obtain ⟨I11, A11, rfl, rfl, h11⟩ := hv_id (kp := kp) (I := I) (A := A) h hq.2
    exact pm_iret hG hF dX11_count_142 rfl (Nat.le_refl _) (Nat.le_refl _) ⟨_, rfl, _, _, rfl, rfl, h11⟩
  by_cases c12 : za = 6
  · refine pm_top (v := 6) c12 ?_
    refine pm_tswIn (tgt := 143) hG dX11_count_1 (by decide) (by decide) rfl rfl ?_
    refine pm_aloadn hG dX11_count_143 rfl ?_
    refine pm_getf hG dX11_count_144 (flX11_12 _ rfl) rfl rfl ?_
    refine pm_getf hG dX11_count_147 (flX11_271 _ rfl) rfl rfl ?_
    refine pm_callV (As := []) (rest := []) hG hR dX11_count_150 (lkX11_203 _ rfl) okV_X9_used rfl rfl (tb_used (d := 2) rfl) rfl rfl hdd (Nat.le_refl _) (Nat.le_refl _) (by decide) (pm_ki (fun v13 σ' cnt' hq => ?_))
    obtain ⟨I13, A13, rfl, rfl, h13⟩ := hv_id (kp := kp) (I := I) (A := A) h hq.2
    exact pm_iret hG hF dX11_count_153 rfl (Nat.le_refl _) (Nat.le_refl _) ⟨_, rfl, _, _, rfl, rfl, h13⟩
  by_cases c14 : za = 7
  · refine pm_top (v := 7) c14 ?_
    refine pm_tswIn (tgt := 154) hG dX11_count_1 (by decide) (by decide) rfl rfl ?_
    refine pm_aloadn hG dX11_count_154 rfl ?_
    refine pm_getf hG dX11_count_155 (flX11_12 _ rfl) rfl rfl ?_
    refine pm_getf hG dX11_count_158 (flX11_277 _ rfl) rfl rfl ?_
    refine pm_callV (As := []) (rest := []) hG hR dX11_count_161 (lkX11_203 _ rfl) okV_X9_used rfl rfl (tb_used (d := 2) rfl) rfl rfl hdd (Nat.le_refl _) (Nat.le_refl _) (by decide) (pm_ki (fun v15 σ' cnt' hq => ?_))
    obtain ⟨I15, A15, rfl, rfl, h15⟩ := hv_id (kp := kp) (I := I) (A := A) h hq.2
    exact pm_iret hG hF dX11_count_164 rfl (Nat.le_refl _) (Nat.le_refl _) ⟨_, rfl, _, _, rfl, rfl, h15⟩
  by_cases c16 : za = 8
  · refine pm_top (v := 8) c16 ?_
    refine pm_tswIn (tgt := 165) hG dX11_count_1 (by decide) (by decide) rfl rfl ?_
    refine pm_aloadn hG dX11_count_165 rfl ?_
    refine pm_getf hG dX11_count_166 (flX11_12 _ rfl) rfl rfl ?_
    refine pm_getf hG dX11_count_169 (flX11_122 _ rfl) rfl rfl ?_
    exact pm_iret hG hF dX11_count_172 rfl (Nat.le_refl _) (Nat.le_refl _) ⟨_, rfl, _, _, rfl, rfl, h⟩
  by_cases c17 : za = 9
  · refine pm_top (v := 9) c17 ?_
    refine pm_tswIn (tgt := 173) hG dX11_count_1 (by decide) (by decide) rfl rfl ?_
    refine pm_aloadn hG dX11_count_173 rfl ?_
    refine pm_getf hG dX11_count_174 (flX11_12 _ rfl) rfl rfl ?_
    refine pm_getf hG dX11_count_177 (flX11_395 _ rfl) rfl rfl ?_
    exact pm_iret hG hF dX11_count_180 rfl (Nat.le_refl _) (Nat.le_refl _) ⟨_, rfl, _, _, rfl, rfl, h⟩
  by_cases c18 : za = 10
  · refine pm_top (v := 10) c18 ?_
    refine pm_tswIn (tgt := 181) hG dX11_count_1 (by decide) (by decide) rfl rfl ?_
    refine pm_aloadn hG dX11_count_181 rfl ?_
    refine pm_getf hG dX11_count_182 (flX11_12 _ rfl) rfl rfl ?_
    refine pm_getf hG dX11_count_185 (flX11_200 _ rfl) rfl rfl ?_
    refine pm_callV (As := []) (rest := []) hG hR dX11_count_188 (lkX11_203 _ rfl) okV_X9_used rfl rfl (tb_used (d := 2) rfl) rfl rfl hdd (Nat.le_refl _) (Nat.le_refl _) (by decide) (pm_ki (fun v19 σ' cnt' hq => ?_))
    obtain ⟨I19, A19, rfl, rfl, h19⟩ := hv_id (kp := kp) (I := I) (A := A) h hq.2
    exact pm_iret hG hF dX11_count_191 rfl (Nat.le_refl _) (Nat.le_refl _) ⟨_, rfl, _, _, rfl, rfl, h19⟩
  by_cases c20 : za = 11
  · refine pm_top (v := 11) c20 ?_
    refine pm_tswIn (tgt := 192) hG dX11_count_1 (by decide) (by decide) rfl rfl ?_
    refine pm_aloadn hG dX11_count_192 rfl ?_
    refine pm_getf hG dX11_count_193 (flX11_12 _ rfl) rfl rfl ?_
    refine pm_getf hG dX11_count_196 (flX11_128 _ rfl) rfl rfl ?_
    refine pm_bipush (v := 13) hG dX11_count_199 (by decide) ?_
    refine pm_iconst (v := 1) hG dX11_count_201 (by decide) ?_
    obtain ⟨k21, hk21, hu21⟩ := gq.used h 6 20 (by decide)
    have ht21 : pm_two (cl_L B kp I A) ρ 6 = some (.inr (9, [.int (nI 20), .int (nI 14), .ref (B + 7), .int (nI k21)])) := by rw [← hu21]; rfl
    refine pm_callV (As := [.int 13, .int 1]) (rest := []) hG hR dX11_count_202 (lkX11_164 _ rfl) okV_X9_rowsWith rfl rfl (tb_rowsWith (d := 2) (k := 13) ht21 rfl (by decide) (by decide) (by decide) hk21 (by omega) (by decide)) rfl rfl hdd (Nat.le_refl _) (Nat.le_refl _) (by decide) (pm_ki (fun v21 σ' cnt' hq => ?_))
    obtain ⟨I21, A21, rfl, rfl, h21⟩ := hv_id (kp := kp) (I := I) (A := A) h hq.2
    exact pm_iret hG hF dX11_count_205 rfl (Nat.le_refl _) (Nat.le_refl _) ⟨_, rfl, _, _, rfl, rfl, h21⟩
  by_cases c22 : za = 12
  · refine pm_top (v := 12) c22 ?_
    refine pm_tswIn (tgt := 206) hG dX11_count_1 (by decide) (by decide) rfl rfl ?_
    refine pm_aloadn hG dX11_count_206 rfl ?_
    refine pm_getf hG dX11_count_207 (flX11_67 _ rfl) rfl rfl ?_
    refine pm_getf hG dX11_count_210 (flX11_358 _ rfl) rfl rfl ?_
    exact pm_iret hG hF dX11_count_213 rfl (Nat.le_refl _) (Nat.le_refl _) ⟨_, rfl, _, _, rfl, rfl, h⟩
  by_cases c23 : za = 13
  · refine pm_top (v := 13) c23 ?_
    refine pm_tswIn (tgt := 214) hG dX11_count_1 (by decide) (by decide) rfl rfl ?_
    refine pm_aloadn hG dX11_count_214 rfl ?_
    refine pm_getf hG dX11_count_215 (flX11_12 _ rfl) rfl rfl ?_
    refine pm_getf hG dX11_count_218 (flX11_386 _ rfl) rfl rfl ?_
    refine pm_callV (As := []) (rest := []) hG hR dX11_count_221 (lkX11_203 _ rfl) okV_X9_used rfl rfl (tb_used (d := 2) rfl) rfl rfl hdd (Nat.le_refl _) (Nat.le_refl _) (by decide) (pm_ki (fun v24 σ' cnt' hq => ?_))
    obtain ⟨I24, A24, rfl, rfl, h24⟩ := hv_id (kp := kp) (I := I) (A := A) h hq.2
    exact pm_iret hG hF dX11_count_224 rfl (Nat.le_refl _) (Nat.le_refl _) ⟨_, rfl, _, _, rfl, rfl, h24⟩
  by_cases c25 : za = 14
  · refine pm_top (v := 14) c25 ?_
    refine pm_tswIn (tgt := 225) hG dX11_count_1 (by decide) (by decide) rfl rfl ?_
    refine pm_aloadn hG dX11_count_225 rfl ?_
    refine pm_getf hG dX11_count_226 (flX11_12 _ rfl) rfl rfl ?_
    refine pm_getf hG dX11_count_229 (flX11_128 _ rfl) rfl rfl ?_
    refine pm_bipush (v := 7) hG dX11_count_232 (by decide) ?_
    obtain ⟨k26, hk26, hu26⟩ := gq.used h 6 20 (by decide)
    have ht26 : pm_two (cl_L B kp I A) ρ 6 = some (.inr (9, [.int (nI 20), .int (nI 14), .ref (B + 7), .int (nI k26)])) := by rw [← hu26]; rfl
    refine pm_callV (As := [.int 7]) (rest := []) hG hR dX11_count_234 (lkX11_398 _ rfl) okV_X9_sumOf rfl rfl (tb_sumOf (d := 2) (by decide) ht26 rfl (pm_tw_of 20 14 (by decide) (by decide) (by decide)) (by omega)) rfl rfl hdd (Nat.le_refl _) (Nat.le_refl _) (by decide) (pm_ki (fun v26 σ' cnt' hq => ?_))
    obtain ⟨I26, A26, rfl, rfl, h26⟩ := hv_id (kp := kp) (I := I) (A := A) h hq
    exact pm_iret hG hF dX11_count_237 rfl (Nat.le_refl _) (Nat.le_refl _) ⟨_, rfl, _, _, rfl, rfl, h26⟩
  by_cases c27 : za = 15
  · refine pm_top (v := 15) c27 ?_
    refine pm_tswIn (tgt := 238) hG dX11_count_1 (by decide) (by decide) rfl rfl ?_
    refine pm_aloadn hG dX11_count_238 rfl ?_
    refine pm_getf hG dX11_count_239 (flX11_39 _ rfl) rfl rfl ?_
    refine pm_callV (As := []) (rest := []) hG hR dX11_count_242 (lkX11_401 _ rfl) okV_X3_onTheirWay rfl rfl (g_X3_onTheirWay (d := 2) (by decide) h) rfl rfl hdd (Nat.le_refl _) (Nat.le_refl _) (by decide) (pm_ki (fun v28 σ' cnt' hq => ?_))
    obtain ⟨I28, A28, rfl, rfl, h28⟩ := hq
    exact pm_iret hG hF dX11_count_245 rfl (Nat.le_refl _) (Nat.le_refl _) ⟨_, rfl, _, _, rfl, rfl, h28⟩
  have tc1 : ¬ za.toInt = 0 := fun q => c1 (Int32.toInt_inj.mp q)
  have tc3 : ¬ za.toInt = 1 := fun q => c3 (Int32.toInt_inj.mp q)
  have tc4 : ¬ za.toInt = 2 := fun q => c4 (Int32.toInt_inj.mp q)
  have tc6 : ¬ za.toInt = 3 := fun q => c6 (Int32.toInt_inj.mp q)
  have tc8 : ¬ za.toInt = 4 := fun q => c8 (Int32.toInt_inj.mp q)
  have tc10 : ¬ za.toInt = 5 := fun q => c10 (Int32.toInt_inj.mp q)
  have tc12 : ¬ za.toInt = 6 := fun q => c12 (Int32.toInt_inj.mp q)
  have tc14 : ¬ za.toInt = 7 := fun q => c14 (Int32.toInt_inj.mp q)
  have tc16 : ¬ za.toInt = 8 := fun q => c16 (Int32.toInt_inj.mp q)
  have tc17 : ¬ za.toInt = 9 := fun q => c17 (Int32.toInt_inj.mp q)
  have tc18 : ¬ za.toInt = 10 := fun q => c18 (Int32.toInt_inj.mp q)
  have tc20 : ¬ za.toInt = 11 := fun q => c20 (Int32.toInt_inj.mp q)
  have tc22 : ¬ za.toInt = 12 := fun q => c22 (Int32.toInt_inj.mp q)
  have tc23 : ¬ za.toInt = 13 := fun q => c23 (Int32.toInt_inj.mp q)
  have tc25 : ¬ za.toInt = 14 := fun q => c25 (Int32.toInt_inj.mp q)
  have tc27 : ¬ za.toInt = 15 := fun q => c27 (Int32.toInt_inj.mp q)
  refine pm_tswOut (tgt := 246) hG dX11_count_1 (by omega) rfl ?_
  refine pm_aloadn hG dX11_count_246 rfl ?_
  refine pm_ldc hG dX11_count_247 (ctX11_109 _ rfl) ?_
  refine pm_callV (As := [.int (-1000001)]) (rest := []) hG hR dX11_count_249 (lkX11_97 _ rfl) okV_X11_told rfl rfl (sx_told (d := 2) (by decide) rfl rfl) rfl rfl hdd (Nat.le_refl _) (Nat.le_refl _) (by decide) (pm_ki (fun v29 σ' cnt' hq => ?_))
  obtain ⟨-, ⟨g29, hg29⟩, hc29⟩ := hq
  obtain ⟨I29, A29, rfl, rfl, h29⟩ := hv_a53 (kp := kp) (I := I) (A := A) h ⟨hg29, hc29⟩
  exact pm_iret hG hF dX11_count_252 rfl (Nat.le_refl _) (Nat.le_refl _) ⟨_, rfl, _, _, rfl, rfl, h29⟩

set_option maxRecDepth 100000 in
set_option maxHeartbeats 4000000 in
theorem g_X7_addDebt {ε : Nat → Int32} {d B cnt : Nat} {kp : pm_KP} {ρ : pm_S} {I : Nat → Int32} {A : Nat → Nat → Int32} {za zb zc zd : Int32} (hdd : 2 ≤ d) (h : gq ε I) : pm_met mX7_addDebt d 0 0 B [.ref (B + 1), .int za, .int zb, .int zc, .int zd] cnt (pm_two (cl_L B kp I A) ρ) (pm_Qi (fun _ σ' cnt' => hvq ε B kp ρ cnt σ' cnt')) := by
  refine pm_enter 1 (by decide) (Nat.le_of_ble_eq_true rfl) rfl (fun G hG hR hF => ?_)
  refine pm_aloadn hG dX7_addDebt_0 rfl ?_
  refine pm_getf hG dX7_addDebt_1 (flX7_38 _ rfl) rfl rfl ?_
  refine pm_iloadn hG dX7_addDebt_4 rfl ?_
  obtain ⟨k1, hk1, hu1⟩ := gq.used h 16 6 (by decide)
  have ht1 : pm_two (cl_L B kp I A) ρ 16 = some (.inr (9, [.int (nI 6), .int (nI 5), .ref (B + 17), .int (nI k1)])) := by rw [← hu1]; rfl
  refine pm_callV (As := [.int za]) (rest := []) hG hR dX7_addDebt_5 (lkX7_75 _ rfl) okV_X9_append rfl rfl (tb_append (d := 1) (by decide) ht1 rfl (by decide) (by decide) (by decide) (by decide) (by decide) (by decide) hk1) rfl rfl hdd (Nat.le_refl _) (Nat.le_refl _) (by decide) (pm_ki (fun v1 σ' cnt' hq => ?_))
  obtain ⟨I1, A1, rfl, rfl, h1⟩ := hv_p16 (kp := kp) (I := I) (A := A) hk1 h hq
  refine pm_istoreXi (loc' := [some (.ref (B + 1)), some (.int za), some (.int zb), some (.int zc), some (.int zd), some (.int v1)]) hG dX7_addDebt_8 (by decide) (pm_c1b rfl) rfl ?_
  refine pm_aloadn hG dX7_addDebt_10 rfl ?_
  refine pm_getf hG dX7_addDebt_11 (flX7_38 _ rfl) rfl rfl ?_
  refine pm_iloadi hG dX7_addDebt_14 rfl ?_
  refine pm_iconst (v := 1) hG dX7_addDebt_16 (by decide) ?_
  refine pm_iloadn hG dX7_addDebt_17 rfl ?_
  refine pm_callV (As := [.int v1, .int 1, .int zb]) (rest := []) hG hR dX7_addDebt_18 (lkX7_61 _ rfl) okV_X9_set rfl rfl (tb_set (d := 1) rfl rfl (pm_tw_of 6 5 (by decide) (by decide) (by decide)) (by decide)) rfl rfl hdd (Nat.le_refl _) (Nat.le_refl _) (by decide) (pm_kv (fun σ' cnt' hq => ?_))
  obtain ⟨I2, A2, rfl, rfl, h2⟩ := hv_a17 (kp := kp) (I := I1) (A := A1) h1 hq
  refine pm_aloadn hG dX7_addDebt_21 rfl ?_
  refine pm_getf hG dX7_addDebt_22 (flX7_38 _ rfl) rfl rfl ?_
  refine pm_iloadi hG dX7_addDebt_25 rfl ?_
  refine pm_iconst (v := 2) hG dX7_addDebt_27 (by decide) ?_
  refine pm_iloadn hG dX7_addDebt_28 rfl ?_
  refine pm_callV (As := [.int v1, .int 2, .int zc]) (rest := []) hG hR dX7_addDebt_29 (lkX7_61 _ rfl) okV_X9_set rfl rfl (tb_set (d := 1) rfl rfl (pm_tw_of 6 5 (by decide) (by decide) (by decide)) (by decide)) rfl rfl hdd (Nat.le_refl _) (Nat.le_refl _) (by decide) (pm_kv (fun σ' cnt' hq => ?_))
  obtain ⟨I3, A3, rfl, rfl, h3⟩ := hv_a17 (kp := kp) (I := I2) (A := A2) h2 hq
  refine pm_aloadn hG dX7_addDebt_32 rfl ?_
  refine pm_getf hG dX7_addDebt_33 (flX7_38 _ rfl) rfl rfl ?_
  refine pm_iloadi hG dX7_addDebt_36 rfl ?_
  refine pm_iconst (v := 3) hG dX7_addDebt_38 (by decide) ?_
  refine pm_iloadi hG dX7_addDebt_39 rfl ?_
  refine pm_callV (As := [.int v1, .int 3, .int zd]) (rest := []) hG hR dX7_addDebt_41 (lkX7_61 _ rfl) okV_X9_set rfl rfl (tb_set (d := 1) rfl rfl (pm_tw_of 6 5 (by decide) (by decide) (by decide)) (by decide)) rfl rfl hdd (Nat.le_refl _) (Nat.le_refl _) (by decide) (pm_kv (fun σ' cnt' hq => ?_))
  obtain ⟨I4, A4, rfl, rfl, h4⟩ := hv_a17 (kp := kp) (I := I3) (A := A3) h3 hq
  refine pm_aloadn hG dX7_addDebt_44 rfl ?_
  refine pm_dup hG dX7_addDebt_45 rfl ?_
  refine pm_getf hG dX7_addDebt_46 (flX7_53 _ rfl) rfl rfl ?_
  refine pm_iloadn hG dX7_addDebt_49 rfl ?_
  refine pm_iadd hG dX7_addDebt_50 ?_
  refine pm_putf hG dX7_addDebt_51 (fwX7_53 _ rfl) rfl rfl rfl ?_
  refine pm_nrm (L' := cl_L B kp (ui I4 103 ((I4 103) + za)) A4) (by decide) (Nat.le_of_ble_eq_true rfl) rfl ?_
  refine pm_iloadi hG dX7_addDebt_54 rfl ?_
  exact pm_iret hG hF dX7_addDebt_56 rfl (Nat.le_refl _) (Nat.le_refl _) ⟨_, rfl, _, _, rfl, rfl, (gq.wi (k := 103) rfl h4)⟩

set_option maxRecDepth 100000 in
set_option maxHeartbeats 4000000 in
theorem g_X11_debt {ε : Nat → Int32} {d B cnt : Nat} {kp : pm_KP} {ρ : pm_S} {I : Nat → Int32} {A : Nat → Nat → Int32} {za zb zc : Int32} (hdd : 3 ≤ d) (h : gq ε I) : pm_met mX11_debt d 0 0 B [.ref (B + 0), .int za, .int zb, .int zc] cnt (pm_two (cl_L B kp I A) ρ) (pm_Qi (fun _ σ' cnt' => hvq ε B kp ρ cnt σ' cnt')) := by
  refine pm_enter 2 (by decide) (Nat.le_of_ble_eq_true rfl) rfl (fun G hG hR hF => ?_)
  refine pm_iloadn hG dX11_debt_0 rfl ?_
  refine pm_sipush (v := 10000) hG dX11_debt_1 (by decide) ?_
  refine pm_idiv hG dX11_debt_4 (by decide) ?_
  refine pm_istoreXi (loc' := [some (.ref (B + 0)), some (.int za), some (.int zb), some (.int zc), some (.int (zb / 10000)), none]) hG dX11_debt_5 (by decide) (pm_c1b rfl) rfl ?_
  refine pm_iloadn hG dX11_debt_7 rfl ?_
  refine pm_sipush (v := 10000) hG dX11_debt_8 (by decide) ?_
  refine pm_irem hG dX11_debt_11 (by decide) ?_
  refine pm_istoreXi (loc' := [some (.ref (B + 0)), some (.int za), some (.int zb), some (.int zc), some (.int (zb / 10000)), some (.int (zb - zb / 10000 * 10000))]) hG dX11_debt_12 (by decide) (pm_c1b rfl) rfl ?_
  refine pm_iloadn hG dX11_debt_14 rfl ?_
  refine pm_iconst (v := 0) hG dX11_debt_15 (by decide) ?_
  refine pm_ldcw hG dX11_debt_16 (ctX11_270 _ rfl) ?_
  refine pm_callS (As := [.int za, .int 0, .int 99999]) (rest := []) hG hR dX11_debt_19 (lkX11_105 _ rfl) okS_X11_isOutside (sx_isOutside (d := 2)) rfl rfl hdd (Nat.le_refl _) (Nat.le_refl _) (by decide) (pm_ki (fun v1 σ' cnt' hq => ?_))
  have o1 := hq.1
  have b1 := pm_b10 hq.1
  obtain ⟨I1, A1, rfl, rfl, h1⟩ := hv_id (kp := kp) (I := I) (A := A) h hq.2
  refine pm_if_ne (tgt := 56) hG dX11_debt_22 rfl (fun c2 => ?_) (fun c2 => ?_)
  · refine pm_aloadn hG dX11_debt_56 rfl ?_
    refine pm_ldc hG dX11_debt_57 (ctX11_109 _ rfl) ?_
    refine pm_callV (As := [.int (-1000001)]) (rest := []) hG hR dX11_debt_59 (lkX11_97 _ rfl) okV_X11_told rfl rfl (sx_told (d := 2) (by decide) rfl rfl) rfl rfl hdd (Nat.le_refl _) (Nat.le_refl _) (by decide) (pm_ki (fun v3 σ' cnt' hq => ?_))
    obtain ⟨-, ⟨g3, hg3⟩, hc3⟩ := hq
    obtain ⟨I3, A3, rfl, rfl, h3⟩ := hv_a53 (kp := kp) (I := I1) (A := A1) h1 ⟨hg3, hc3⟩
    exact pm_iret hG hF dX11_debt_62 rfl (Nat.le_refl _) (Nat.le_refl _) ⟨_, rfl, _, _, rfl, rfl, h3⟩
  · refine pm_iloadi hG dX11_debt_25 rfl ?_
    refine pm_iconst (v := 0) hG dX11_debt_27 (by decide) ?_
    refine pm_bipush (v := 99) hG dX11_debt_28 (by decide) ?_
    refine pm_callS (As := [.int (zb / 10000), .int 0, .int 99]) (rest := []) hG hR dX11_debt_30 (lkX11_105 _ rfl) okS_X11_isOutside (sx_isOutside (d := 2)) rfl rfl hdd (Nat.le_refl _) (Nat.le_refl _) (by decide) (pm_ki (fun v4 σ' cnt' hq => ?_))
    have o4 := hq.1
    have b4 := pm_b10 hq.1
    obtain ⟨I4, A4, rfl, rfl, h4⟩ := hv_id (kp := kp) (I := I1) (A := A1) h1 hq.2
    refine pm_if_ne (tgt := 56) hG dX11_debt_33 rfl (fun c5 => ?_) (fun c5 => ?_)
    · refine pm_aloadn hG dX11_debt_56 rfl ?_
      refine pm_ldc hG dX11_debt_57 (ctX11_109 _ rfl) ?_
      refine pm_callV (As := [.int (-1000001)]) (rest := []) hG hR dX11_debt_59 (lkX11_97 _ rfl) okV_X11_told rfl rfl (sx_told (d := 2) (by decide) rfl rfl) rfl rfl hdd (Nat.le_refl _) (Nat.le_refl _) (by decide) (pm_ki (fun v6 σ' cnt' hq => ?_))
      obtain ⟨-, ⟨g6, hg6⟩, hc6⟩ := hq
      obtain ⟨I6, A6, rfl, rfl, h6⟩ := hv_a53 (kp := kp) (I := I4) (A := A4) h4 ⟨hg6, hc6⟩
      exact pm_iret hG hF dX11_debt_62 rfl (Nat.le_refl _) (Nat.le_refl _) ⟨_, rfl, _, _, rfl, rfl, h6⟩
    · refine pm_iloadi hG dX11_debt_36 rfl ?_
      refine pm_iconst (v := 1) hG dX11_debt_38 (by decide) ?_
      refine pm_icmp_lt (tgt := 56) hG dX11_debt_39 rfl (fun c7 => ?_) (fun c7 => ?_)
      · refine pm_aloadn hG dX11_debt_56 rfl ?_
        refine pm_ldc hG dX11_debt_57 (ctX11_109 _ rfl) ?_
        refine pm_callV (As := [.int (-1000001)]) (rest := []) hG hR dX11_debt_59 (lkX11_97 _ rfl) okV_X11_told rfl rfl (sx_told (d := 2) (by decide) rfl rfl) rfl rfl hdd (Nat.le_refl _) (Nat.le_refl _) (by decide) (pm_ki (fun v8 σ' cnt' hq => ?_))
        obtain ⟨-, ⟨g8, hg8⟩, hc8⟩ := hq
        obtain ⟨I8, A8, rfl, rfl, h8⟩ := hv_a53 (kp := kp) (I := I4) (A := A4) h4 ⟨hg8, hc8⟩
        exact pm_iret hG hF dX11_debt_62 rfl (Nat.le_refl _) (Nat.le_refl _) ⟨_, rfl, _, _, rfl, rfl, h8⟩
      · refine pm_aloadn hG dX11_debt_42 rfl ?_
        refine pm_getf hG dX11_debt_43 (flX11_12 _ rfl) rfl rfl ?_
        refine pm_getf hG dX11_debt_46 (flX11_82 _ rfl) rfl rfl ?_
        refine pm_iloadn hG dX11_debt_49 rfl ?_
        refine pm_callV (As := [.int zc]) (rest := []) hG hR dX11_debt_50 (lkX11_101 _ rfl) okV_X9_has rfl rfl (tb_has (d := 2) rfl) rfl rfl hdd (Nat.le_refl _) (Nat.le_refl _) (by decide) (pm_ki (fun v9 σ' cnt' hq => ?_))
        have b9 := pm_b01 hq.1
        obtain ⟨I9, A9, rfl, rfl, h9⟩ := hv_id (kp := kp) (I := I4) (A := A4) h4 hq.2
        refine pm_if_ne (tgt := 63) hG dX11_debt_53 rfl (fun c10 => ?_) (fun c10 => ?_)
        · refine pm_aloadn hG dX11_debt_63 rfl ?_
          refine pm_aloadn hG dX11_debt_64 rfl ?_
          refine pm_getf hG dX11_debt_65 (flX11_12 _ rfl) rfl rfl ?_
          refine pm_getf hG dX11_debt_68 (flX11_271 _ rfl) rfl rfl ?_
          refine pm_callV (As := []) (rest := [.ref (B + 0)]) hG hR dX11_debt_71 (lkX11_86 _ rfl) okV_X9_isFull rfl rfl (tb_isFull (d := 2) rfl) rfl rfl hdd (Nat.le_refl _) (Nat.le_refl _) (by first | decide | exact Nat.le_of_ble_eq_true rfl) (pm_ki (fun v11 σ' cnt' hq => ?_))
          have b11 := pm_b01 hq.1
          obtain ⟨I11, A11, rfl, rfl, h11⟩ := hv_id (kp := kp) (I := I9) (A := A9) h9 hq.2
          refine pm_if_eq (tgt := 82) hG dX11_debt_74 rfl (fun c12 => ?_) (fun c12 => ?_)
          · refine pm_aloadn hG dX11_debt_82 rfl ?_
            refine pm_getf hG dX11_debt_83 (flX11_12 _ rfl) rfl rfl ?_
            refine pm_iloadn hG dX11_debt_86 rfl ?_
            refine pm_iloadi hG dX11_debt_87 rfl ?_
            refine pm_iloadi hG dX11_debt_89 rfl ?_
            refine pm_iloadn hG dX11_debt_91 rfl ?_
            refine pm_callV (As := [.int za, .int (zb / 10000), .int (zb - zb / 10000 * 10000), .int zc]) (rest := [.ref (B + 0)]) hG hR dX11_debt_92 (lkX11_274 _ rfl) okV_X7_addDebt rfl rfl (g_X7_addDebt (d := 2) (by decide) h11) rfl rfl hdd (Nat.le_refl _) (Nat.le_refl _) (by first | decide | exact Nat.le_of_ble_eq_true rfl) (pm_ki (fun v13 σ' cnt' hq => ?_))
            obtain ⟨I13, A13, rfl, rfl, h13⟩ := hq
            refine pm_callV (As := [.int v13]) (rest := []) hG hR dX11_debt_95 (lkX11_97 _ rfl) okV_X11_told rfl rfl (sx_told (d := 2) (by decide) rfl rfl) rfl rfl hdd (Nat.le_refl _) (Nat.le_refl _) (by decide) (pm_ki (fun v14 σ' cnt' hq => ?_))
            obtain ⟨-, ⟨g14, hg14⟩, hc14⟩ := hq
            obtain ⟨I14, A14, rfl, rfl, h14⟩ := hv_a53 (kp := kp) (I := I13) (A := A13) h13 ⟨hg14, hc14⟩
            exact pm_iret hG hF dX11_debt_98 rfl (Nat.le_refl _) (Nat.le_refl _) ⟨_, rfl, _, _, rfl, rfl, h14⟩
          · refine pm_ldc hG dX11_debt_77 (ctX11_92 _ rfl) ?_
            refine pm_goto (tgt := 95) hG dX11_debt_79 rfl ?_
            refine pm_callV (As := [.int (-1000004)]) (rest := []) hG hR dX11_debt_95 (lkX11_97 _ rfl) okV_X11_told rfl rfl (sx_told (d := 2) (by decide) rfl rfl) rfl rfl hdd (Nat.le_refl _) (Nat.le_refl _) (by decide) (pm_ki (fun v15 σ' cnt' hq => ?_))
            obtain ⟨-, ⟨g15, hg15⟩, hc15⟩ := hq
            obtain ⟨I15, A15, rfl, rfl, h15⟩ := hv_a53 (kp := kp) (I := I11) (A := A11) h11 ⟨hg15, hc15⟩
            exact pm_iret hG hF dX11_debt_98 rfl (Nat.le_refl _) (Nat.le_refl _) ⟨_, rfl, _, _, rfl, rfl, h15⟩
        · refine pm_aloadn hG dX11_debt_56 rfl ?_
          refine pm_ldc hG dX11_debt_57 (ctX11_109 _ rfl) ?_
          refine pm_callV (As := [.int (-1000001)]) (rest := []) hG hR dX11_debt_59 (lkX11_97 _ rfl) okV_X11_told rfl rfl (sx_told (d := 2) (by decide) rfl rfl) rfl rfl hdd (Nat.le_refl _) (Nat.le_refl _) (by decide) (pm_ki (fun v16 σ' cnt' hq => ?_))
          obtain ⟨-, ⟨g16, hg16⟩, hc16⟩ := hq
          obtain ⟨I16, A16, rfl, rfl, h16⟩ := hv_a53 (kp := kp) (I := I9) (A := A9) h9 ⟨hg16, hc16⟩
          exact pm_iret hG hF dX11_debt_62 rfl (Nat.le_refl _) (Nat.le_refl _) ⟨_, rfl, _, _, rfl, rfl, h16⟩

set_option maxRecDepth 100000 in
set_option maxHeartbeats 4000000 in
theorem g_X7_isLiving {ε : Nat → Int32} {d B cnt : Nat} {kp : pm_KP} {ρ : pm_S} {I : Nat → Int32} {A : Nat → Nat → Int32} {za : Int32} (hdd : 1 ≤ d) (h : gq ε I) : pm_met mX7_isLiving d 0 0 B [.ref (B + 1), .int za] cnt (pm_two (cl_L B kp I A) ρ) (pm_Qi (fun v σ' cnt' => (v = 0 ∨ v = 1) ∧ hvq ε B kp ρ cnt σ' cnt')) := by
  refine pm_enter 0 (by decide) (Nat.le_of_ble_eq_true rfl) rfl (fun G hG hR hF => ?_)
  refine pm_aloadn hG dX7_isLiving_0 rfl ?_
  refine pm_getf hG dX7_isLiving_1 (flX7_23 _ rfl) rfl rfl ?_
  refine pm_iloadn hG dX7_isLiving_4 rfl ?_
  refine pm_callV (As := [.int za]) (rest := []) hG hR dX7_isLiving_5 (lkX7_93 _ rfl) okV_X9_has rfl rfl (tb_has (d := 0) rfl) rfl rfl hdd (Nat.le_refl _) (Nat.le_refl _) (by decide) (pm_ki (fun v1 σ' cnt' hq => ?_))
  have b1 := pm_b01 hq.1
  obtain ⟨I1, A1, rfl, rfl, h1⟩ := hv_id (kp := kp) (I := I) (A := A) h hq.2
  refine pm_if_eq (tgt := 28) hG dX7_isLiving_8 rfl (fun c2 => ?_) (fun c2 => ?_)
  · refine pm_iconst (v := 0) hG dX7_isLiving_28 (by decide) ?_
    exact pm_zret hG hF dX7_isLiving_29 rfl (pm_nz (Or.inl rfl)) (Nat.le_refl _) (Nat.le_refl _) ⟨_, rfl, (Or.inl rfl), _, _, rfl, rfl, h1⟩
  · refine pm_aloadn hG dX7_isLiving_11 rfl ?_
    refine pm_getf hG dX7_isLiving_12 (flX7_23 _ rfl) rfl rfl ?_
    refine pm_iloadn hG dX7_isLiving_15 rfl ?_
    refine pm_bipush (v := 9) hG dX7_isLiving_16 (by decide) ?_
    refine pm_callV (As := [.int za, .int 9]) (rest := []) hG hR dX7_isLiving_18 (lkX7_83 _ rfl) okV_X9_get rfl rfl (tb_get (d := 0) rfl rfl (pm_tw_of 20 14 (by decide) (by decide) (by decide))) rfl rfl hdd (Nat.le_refl _) (Nat.le_refl _) (by decide) (pm_ki (fun v3 σ' cnt' hq => ?_))
    obtain ⟨I3, A3, rfl, rfl, h3⟩ := hv_id (kp := kp) (I := I1) (A := A1) h1 hq.2
    refine pm_if_ne (tgt := 28) hG dX7_isLiving_21 rfl (fun c4 => ?_) (fun c4 => ?_)
    · refine pm_iconst (v := 0) hG dX7_isLiving_28 (by decide) ?_
      exact pm_zret hG hF dX7_isLiving_29 rfl (pm_nz (Or.inl rfl)) (Nat.le_refl _) (Nat.le_refl _) ⟨_, rfl, (Or.inl rfl), _, _, rfl, rfl, h3⟩
    · refine pm_iconst (v := 1) hG dX7_isLiving_24 (by decide) ?_
      refine pm_goto (tgt := 29) hG dX7_isLiving_25 rfl ?_
      exact pm_zret hG hF dX7_isLiving_29 rfl (pm_nz (Or.inr rfl)) (Nat.le_refl _) (Nat.le_refl _) ⟨_, rfl, (Or.inr rfl), _, _, rfl, rfl, h3⟩

set_option maxRecDepth 100000 in
set_option maxHeartbeats 4000000 in
theorem g_X7_isInTown {ε : Nat → Int32} {d B cnt : Nat} {kp : pm_KP} {ρ : pm_S} {I : Nat → Int32} {A : Nat → Nat → Int32} {za : Int32} (hdd : 2 ≤ d) (h : gq ε I) : pm_met mX7_isInTown d 0 0 B [.ref (B + 1), .int za] cnt (pm_two (cl_L B kp I A) ρ) (pm_Qi (fun v σ' cnt' => (v = 0 ∨ v = 1) ∧ hvq ε B kp ρ cnt σ' cnt')) := by
  refine pm_enter 0 (by decide) (Nat.le_of_ble_eq_true rfl) rfl (fun G hG hR hF => ?_)
  refine pm_aloadn hG dX7_isInTown_0 rfl ?_
  refine pm_iloadn hG dX7_isInTown_1 rfl ?_
  refine pm_callV (As := [.int za]) (rest := []) hG hR dX7_isInTown_2 (lkX7_103 _ rfl) okV_X7_isLiving rfl rfl (g_X7_isLiving (d := 1) (by decide) h) rfl rfl hdd (Nat.le_refl _) (Nat.le_refl _) (by decide) (pm_ki (fun v1 σ' cnt' hq => ?_))
  obtain ⟨b1, I1, A1, rfl, rfl, h1⟩ := hq
  refine pm_if_eq (tgt := 24) hG dX7_isInTown_5 rfl (fun c2 => ?_) (fun c2 => ?_)
  · refine pm_iconst (v := 0) hG dX7_isInTown_24 (by decide) ?_
    exact pm_zret hG hF dX7_isInTown_25 rfl (pm_nz (Or.inl rfl)) (Nat.le_refl _) (Nat.le_refl _) ⟨_, rfl, (Or.inl rfl), _, _, rfl, rfl, h1⟩
  · refine pm_aloadn hG dX7_isInTown_8 rfl ?_
    refine pm_getf hG dX7_isInTown_9 (flX7_23 _ rfl) rfl rfl ?_
    refine pm_iloadn hG dX7_isInTown_12 rfl ?_
    refine pm_iconst (v := 4) hG dX7_isInTown_13 (by decide) ?_
    refine pm_callV (As := [.int za, .int 4]) (rest := []) hG hR dX7_isInTown_14 (lkX7_83 _ rfl) okV_X9_get rfl rfl (tb_get (d := 1) rfl rfl (pm_tw_of 20 14 (by decide) (by decide) (by decide))) rfl rfl hdd (Nat.le_refl _) (Nat.le_refl _) (by decide) (pm_ki (fun v3 σ' cnt' hq => ?_))
    obtain ⟨I3, A3, rfl, rfl, h3⟩ := hv_id (kp := kp) (I := I1) (A := A1) h1 hq.2
    refine pm_if_lt (tgt := 24) hG dX7_isInTown_17 rfl (fun c4 => ?_) (fun c4 => ?_)
    · refine pm_iconst (v := 0) hG dX7_isInTown_24 (by decide) ?_
      exact pm_zret hG hF dX7_isInTown_25 rfl (pm_nz (Or.inl rfl)) (Nat.le_refl _) (Nat.le_refl _) ⟨_, rfl, (Or.inl rfl), _, _, rfl, rfl, h3⟩
    · refine pm_iconst (v := 1) hG dX7_isInTown_20 (by decide) ?_
      refine pm_goto (tgt := 25) hG dX7_isInTown_21 rfl ?_
      exact pm_zret hG hF dX7_isInTown_25 rfl (pm_nz (Or.inr rfl)) (Nat.le_refl _) (Nat.le_refl _) ⟨_, rfl, (Or.inr rfl), _, _, rfl, rfl, h3⟩

set_option maxRecDepth 100000 in
set_option maxHeartbeats 4000000 in
theorem g_X7_livingIn {ε : Nat → Int32} {d B cnt : Nat} {kp : pm_KP} {ρ : pm_S} {I : Nat → Int32} {A : Nat → Nat → Int32} {za : Int32} (hdd : 2 ≤ d) (h : gq ε I) : pm_met mX7_livingIn d 0 0 B [.ref (B + 1), .int za] cnt (pm_two (cl_L B kp I A) ρ) (pm_Qi (fun _ σ' cnt' => hvq ε B kp ρ cnt σ' cnt')) := by
  refine pm_enter 3 (by decide) (Nat.le_of_ble_eq_true rfl) rfl (fun G hG hR hF => ?_)
  refine pm_iconst (v := 0) hG dX7_livingIn_0 (by decide) ?_
  refine pm_istoreXn (loc' := [some (.ref (B + 1)), some (.int za), some (.int 0), none, none]) hG dX7_livingIn_1 (by decide) (pm_c1b rfl) rfl ?_
  refine pm_aloadn hG dX7_livingIn_2 rfl ?_
  refine pm_getf hG dX7_livingIn_3 (flX7_23 _ rfl) rfl rfl ?_
  refine pm_callV (As := []) (rest := []) hG hR dX7_livingIn_6 (lkX7_79 _ rfl) okV_X9_used rfl rfl (tb_used (d := 1) rfl) rfl rfl hdd (Nat.le_refl _) (Nat.le_refl _) (by decide) (pm_ki (fun v1 σ' cnt' hq => ?_))
  obtain ⟨I1, A1, rfl, rfl, h1⟩ := hv_id (kp := kp) (I := I) (A := A) h hq.2
  refine pm_istoreXn (loc' := [some (.ref (B + 1)), some (.int za), some (.int 0), some (.int v1), none]) hG dX7_livingIn_9 (by decide) (pm_c1b rfl) rfl ?_
  refine pm_iconst (v := 0) hG dX7_livingIn_10 (by decide) ?_
  refine pm_istoreXi (loc' := [some (.ref (B + 1)), some (.int za), some (.int 0), some (.int v1), some (.int 0)]) hG dX7_livingIn_11 (by decide) (pm_c1b rfl) rfl ?_
  have loop13 : ∀ (m13 : Nat) (I2 : Nat → Int32) (A2 : Nat → Nat → Int32) (x2_2 x2_4 : Int32), gq ε I2 → (¬ x2_4 < 0) → ((v1 : Int32).toInt - x2_4.toInt).toNat < m13 → pm_wp mX7_livingIn G B 13 [some (.ref (B + 1)), some (.int za), some (.int x2_2), some (.int v1), some (.int x2_4)] [] 0 0 cnt (pm_two (cl_L B kp I2 A2) ρ) := by
    intro m13
    induction m13 with
    | zero => intro I2 A2 x2_2 x2_4 _  _ hm; exact absurd hm (Nat.not_lt_zero _)
    | succ m13 ih13 =>
      intro I2 A2 x2_2 x2_4 h2 s13 hm13
      refine pm_iloadi hG dX7_livingIn_13 rfl ?_
      refine pm_iloadn hG dX7_livingIn_15 rfl ?_
      refine pm_icmp_ge (tgt := 55) hG dX7_livingIn_16 rfl (fun c3 => ?_) (fun c3 => ?_)
      · refine pm_iloadn hG dX7_livingIn_55 rfl ?_
        exact pm_iret hG hF dX7_livingIn_56 rfl (Nat.le_refl _) (Nat.le_refl _) ⟨_, rfl, _, _, rfl, rfl, h2⟩
      · refine pm_aloadn hG dX7_livingIn_19 rfl ?_
        refine pm_iloadi hG dX7_livingIn_20 rfl ?_
        refine pm_callV (As := [.int x2_4]) (rest := []) hG hR dX7_livingIn_22 (lkX7_103 _ rfl) okV_X7_isLiving rfl rfl (g_X7_isLiving (d := 1) (by decide) h2) rfl rfl hdd (Nat.le_refl _) (Nat.le_refl _) (by decide) (pm_ki (fun v4 σ' cnt' hq => ?_))
        obtain ⟨b4, I4, A4, rfl, rfl, h4⟩ := hq
        refine pm_if_eq (tgt := 49) hG dX7_livingIn_25 rfl (fun c5 => ?_) (fun c5 => ?_)
        · refine pm_iincX (v := x2_4 + 1) (loc' := [some (.ref (B + 1)), some (.int za), some (.int x2_2), some (.int v1), some (.int (x2_4 + 1))]) hG dX7_livingIn_49 rfl (by rfl) (by decide) (pm_c1b rfl) rfl ?_
          refine pm_goto (tgt := 13) hG dX7_livingIn_52 rfl ?_
          exact ih13 _ _ x2_2 (x2_4 + 1) h4 (pm_sd1 c3 s13) (Nat.lt_of_lt_of_le (pm_mu1 c3) (Nat.le_of_lt_succ hm13))
        · refine pm_aloadn hG dX7_livingIn_28 rfl ?_
          refine pm_getf hG dX7_livingIn_29 (flX7_23 _ rfl) rfl rfl ?_
          refine pm_iloadi hG dX7_livingIn_32 rfl ?_
          refine pm_iconst (v := 4) hG dX7_livingIn_34 (by decide) ?_
          refine pm_callV (As := [.int x2_4, .int 4]) (rest := []) hG hR dX7_livingIn_35 (lkX7_83 _ rfl) okV_X9_get rfl rfl (tb_get (d := 1) rfl rfl (pm_tw_of 20 14 (by decide) (by decide) (by decide))) rfl rfl hdd (Nat.le_refl _) (Nat.le_refl _) (by decide) (pm_ki (fun v6 σ' cnt' hq => ?_))
          obtain ⟨I6, A6, rfl, rfl, h6⟩ := hv_id (kp := kp) (I := I4) (A := A4) h4 hq.2
          refine pm_iloadn hG dX7_livingIn_38 rfl ?_
          refine pm_icmp_ne (tgt := 49) hG dX7_livingIn_39 rfl (fun c7 => ?_) (fun c7 => ?_)
          · refine pm_iincX (v := x2_4 + 1) (loc' := [some (.ref (B + 1)), some (.int za), some (.int x2_2), some (.int v1), some (.int (x2_4 + 1))]) hG dX7_livingIn_49 rfl (by rfl) (by decide) (pm_c1b rfl) rfl ?_
            refine pm_goto (tgt := 13) hG dX7_livingIn_52 rfl ?_
            exact ih13 _ _ x2_2 (x2_4 + 1) h6 (pm_sd1 c3 s13) (Nat.lt_of_lt_of_le (pm_mu1 c3) (Nat.le_of_lt_succ hm13))
          · refine pm_iloadn hG dX7_livingIn_42 rfl ?_
            refine pm_iconst (v := 1) hG dX7_livingIn_43 (by decide) ?_
            refine pm_iloadi hG dX7_livingIn_44 rfl ?_
            refine pm_ishl hG dX7_livingIn_46 ?_
            refine pm_ior hG dX7_livingIn_47 ?_
            refine pm_istoreXn (loc' := [some (.ref (B + 1)), some (.int za), some (.int (x2_2 ||| (1 <<< (x2_4 &&& 31)))), some (.int v1), some (.int x2_4)]) hG dX7_livingIn_48 (by decide) (pm_c1b rfl) rfl ?_
            refine pm_iincX (v := x2_4 + 1) (loc' := [some (.ref (B + 1)), some (.int za), some (.int (x2_2 ||| (1 <<< (x2_4 &&& 31)))), some (.int v1), some (.int (x2_4 + 1))]) hG dX7_livingIn_49 rfl (by rfl) (by decide) (pm_c1b rfl) rfl ?_
            refine pm_goto (tgt := 13) hG dX7_livingIn_52 rfl ?_
            exact ih13 _ _ (x2_2 ||| (1 <<< (x2_4 &&& 31))) (x2_4 + 1) h6 (pm_sd1 c3 s13) (Nat.lt_of_lt_of_le (pm_mu1 c3) (Nat.le_of_lt_succ hm13))
  exact loop13 _ _ _ 0 0 h1 (by decide) (Nat.lt_succ_self _)

set_option maxRecDepth 100000 in
set_option maxHeartbeats 4000000 in
theorem g_X3_write {ε : Nat → Int32} {d B cnt : Nat} {kp : pm_KP} {ρ : pm_S} {I : Nat → Int32} {A : Nat → Nat → Int32} {za zb zc : Int32} (hdd : 3 ≤ d) (h : gq ε I) : pm_met mX3_write d 0 0 B [.ref (B + 36), .int za, .int zb, .int zc] cnt (pm_two (cl_L B kp I A) ρ) (pm_Qi (fun _ σ' cnt' => hvq ε B kp ρ cnt σ' cnt')) := by
  refine pm_enter 2 (by decide) (Nat.le_of_ble_eq_true rfl) rfl (fun G hG hR hF => ?_)
  refine pm_aloadn hG dX3_write_0 rfl ?_
  refine pm_getf hG dX3_write_1 (flX3_9 _ rfl) rfl rfl ?_
  refine pm_getf hG dX3_write_4 (flX3_32 _ rfl) rfl rfl ?_
  refine pm_iloadn hG dX3_write_7 rfl ?_
  refine pm_iconst (v := 4) hG dX3_write_8 (by decide) ?_
  refine pm_callV (As := [.int za, .int 4]) (rest := []) hG hR dX3_write_9 (lkX3_35 _ rfl) okV_X9_get rfl rfl (tb_get (d := 2) rfl rfl (pm_tw_of 20 14 (by decide) (by decide) (by decide))) rfl rfl hdd (Nat.le_refl _) (Nat.le_refl _) (by decide) (pm_ki (fun v1 σ' cnt' hq => ?_))
  obtain ⟨I1, A1, rfl, rfl, h1⟩ := hv_id (kp := kp) (I := I) (A := A) h hq.2
  refine pm_istoreXi (loc' := [some (.ref (B + 36)), some (.int za), some (.int zb), some (.int zc), some (.int v1), none]) hG dX3_write_12 (by decide) (pm_c1b rfl) rfl ?_
  refine pm_aloadn hG dX3_write_14 rfl ?_
  refine pm_getf hG dX3_write_15 (flX3_29 _ rfl) rfl rfl ?_
  refine pm_iloadn hG dX3_write_18 rfl ?_
  obtain ⟨k2, hk2, hu2⟩ := gq.used h1 14 40 (by decide)
  have ht2 : pm_two (cl_L B kp I1 A1) ρ 14 = some (.inr (9, [.int (nI 40), .int (nI 12), .ref (B + 15), .int (nI k2)])) := by rw [← hu2]; rfl
  refine pm_callV (As := [.int za]) (rest := []) hG hR dX3_write_19 (lkX3_41 _ rfl) okV_X9_append rfl rfl (tb_append (d := 2) (by decide) ht2 rfl (by decide) (by decide) (by decide) (by decide) (by decide) (by decide) hk2) rfl rfl hdd (Nat.le_refl _) (Nat.le_refl _) (by decide) (pm_ki (fun v2 σ' cnt' hq => ?_))
  obtain ⟨I2, A2, rfl, rfl, h2⟩ := hv_p14 (kp := kp) (I := I1) (A := A1) hk2 h1 hq
  refine pm_istoreXi (loc' := [some (.ref (B + 36)), some (.int za), some (.int zb), some (.int zc), some (.int v1), some (.int v2)]) hG dX3_write_22 (by decide) (pm_c1b rfl) rfl ?_
  refine pm_aloadn hG dX3_write_24 rfl ?_
  refine pm_getf hG dX3_write_25 (flX3_29 _ rfl) rfl rfl ?_
  refine pm_iloadi hG dX3_write_28 rfl ?_
  refine pm_iconst (v := 1) hG dX3_write_30 (by decide) ?_
  refine pm_iloadn hG dX3_write_31 rfl ?_
  refine pm_callV (As := [.int v2, .int 1, .int zb]) (rest := []) hG hR dX3_write_32 (lkX3_45 _ rfl) okV_X9_set rfl rfl (tb_set (d := 2) rfl rfl (pm_tw_of 40 12 (by decide) (by decide) (by decide)) (by decide)) rfl rfl hdd (Nat.le_refl _) (Nat.le_refl _) (by decide) (pm_kv (fun σ' cnt' hq => ?_))
  obtain ⟨I3, A3, rfl, rfl, h3⟩ := hv_a15 (kp := kp) (I := I2) (A := A2) h2 hq
  refine pm_aloadn hG dX3_write_35 rfl ?_
  refine pm_getf hG dX3_write_36 (flX3_29 _ rfl) rfl rfl ?_
  refine pm_iloadi hG dX3_write_39 rfl ?_
  refine pm_iconst (v := 2) hG dX3_write_41 (by decide) ?_
  refine pm_iloadn hG dX3_write_42 rfl ?_
  refine pm_callV (As := [.int v2, .int 2, .int zc]) (rest := []) hG hR dX3_write_43 (lkX3_45 _ rfl) okV_X9_set rfl rfl (tb_set (d := 2) rfl rfl (pm_tw_of 40 12 (by decide) (by decide) (by decide)) (by decide)) rfl rfl hdd (Nat.le_refl _) (Nat.le_refl _) (by decide) (pm_kv (fun σ' cnt' hq => ?_))
  obtain ⟨I4, A4, rfl, rfl, h4⟩ := hv_a15 (kp := kp) (I := I3) (A := A3) h3 hq
  refine pm_aloadn hG dX3_write_46 rfl ?_
  refine pm_getf hG dX3_write_47 (flX3_29 _ rfl) rfl rfl ?_
  refine pm_iloadi hG dX3_write_50 rfl ?_
  refine pm_iconst (v := 3) hG dX3_write_52 (by decide) ?_
  refine pm_iloadi hG dX3_write_53 rfl ?_
  refine pm_callV (As := [.int v2, .int 3, .int v1]) (rest := []) hG hR dX3_write_55 (lkX3_45 _ rfl) okV_X9_set rfl rfl (tb_set (d := 2) rfl rfl (pm_tw_of 40 12 (by decide) (by decide) (by decide)) (by decide)) rfl rfl hdd (Nat.le_refl _) (Nat.le_refl _) (by decide) (pm_kv (fun σ' cnt' hq => ?_))
  obtain ⟨I5, A5, rfl, rfl, h5⟩ := hv_a15 (kp := kp) (I := I4) (A := A4) h4 hq
  refine pm_aloadn hG dX3_write_58 rfl ?_
  refine pm_getf hG dX3_write_59 (flX3_29 _ rfl) rfl rfl ?_
  refine pm_iloadi hG dX3_write_62 rfl ?_
  refine pm_iconst (v := 5) hG dX3_write_64 (by decide) ?_
  refine pm_aloadn hG dX3_write_65 rfl ?_
  refine pm_getf hG dX3_write_66 (flX3_9 _ rfl) rfl rfl ?_
  refine pm_iloadi hG dX3_write_69 rfl ?_
  refine pm_callV (As := [.int v1]) (rest := [.int 5, .int v2, .ref (B + 14)]) hG hR dX3_write_71 (lkX3_49 _ rfl) okV_X7_livingIn rfl rfl (g_X7_livingIn (d := 2) (by decide) h5) rfl rfl hdd (Nat.le_refl _) (Nat.le_refl _) (by first | decide | exact Nat.le_of_ble_eq_true rfl) (pm_ki (fun v6 σ' cnt' hq => ?_))
  obtain ⟨I6, A6, rfl, rfl, h6⟩ := hq
  refine pm_callV (As := [.int v2, .int 5, .int v6]) (rest := []) hG hR dX3_write_74 (lkX3_45 _ rfl) okV_X9_set rfl rfl (tb_set (d := 2) rfl rfl (pm_tw_of 40 12 (by decide) (by decide) (by decide)) (by decide)) rfl rfl hdd (Nat.le_refl _) (Nat.le_refl _) (by decide) (pm_kv (fun σ' cnt' hq => ?_))
  obtain ⟨I7, A7, rfl, rfl, h7⟩ := hv_a15 (kp := kp) (I := I6) (A := A6) h6 hq
  refine pm_aloadn hG dX3_write_77 rfl ?_
  refine pm_getf hG dX3_write_78 (flX3_29 _ rfl) rfl rfl ?_
  refine pm_iloadi hG dX3_write_81 rfl ?_
  refine pm_bipush (v := 6) hG dX3_write_83 (by decide) ?_
  refine pm_iconst (v := (-1)) hG dX3_write_85 (by decide) ?_
  refine pm_callV (As := [.int v2, .int 6, .int (-1)]) (rest := []) hG hR dX3_write_86 (lkX3_45 _ rfl) okV_X9_set rfl rfl (tb_set (d := 2) rfl rfl (pm_tw_of 40 12 (by decide) (by decide) (by decide)) (by decide)) rfl rfl hdd (Nat.le_refl _) (Nat.le_refl _) (by decide) (pm_kv (fun σ' cnt' hq => ?_))
  obtain ⟨I8, A8, rfl, rfl, h8⟩ := hv_a15 (kp := kp) (I := I7) (A := A7) h7 hq
  refine pm_aloadn hG dX3_write_89 rfl ?_
  refine pm_getf hG dX3_write_90 (flX3_29 _ rfl) rfl rfl ?_
  refine pm_iloadi hG dX3_write_93 rfl ?_
  refine pm_bipush (v := 8) hG dX3_write_95 (by decide) ?_
  refine pm_iconst (v := (-1)) hG dX3_write_97 (by decide) ?_
  refine pm_callV (As := [.int v2, .int 8, .int (-1)]) (rest := []) hG hR dX3_write_98 (lkX3_45 _ rfl) okV_X9_set rfl rfl (tb_set (d := 2) rfl rfl (pm_tw_of 40 12 (by decide) (by decide) (by decide)) (by decide)) rfl rfl hdd (Nat.le_refl _) (Nat.le_refl _) (by decide) (pm_kv (fun σ' cnt' hq => ?_))
  obtain ⟨I9, A9, rfl, rfl, h9⟩ := hv_a15 (kp := kp) (I := I8) (A := A8) h8 hq
  refine pm_aloadn hG dX3_write_101 rfl ?_
  refine pm_getf hG dX3_write_102 (flX3_29 _ rfl) rfl rfl ?_
  refine pm_iloadi hG dX3_write_105 rfl ?_
  refine pm_bipush (v := 9) hG dX3_write_107 (by decide) ?_
  refine pm_iconst (v := (-1)) hG dX3_write_109 (by decide) ?_
  refine pm_callV (As := [.int v2, .int 9, .int (-1)]) (rest := []) hG hR dX3_write_110 (lkX3_45 _ rfl) okV_X9_set rfl rfl (tb_set (d := 2) rfl rfl (pm_tw_of 40 12 (by decide) (by decide) (by decide)) (by decide)) rfl rfl hdd (Nat.le_refl _) (Nat.le_refl _) (by decide) (pm_kv (fun σ' cnt' hq => ?_))
  obtain ⟨I10, A10, rfl, rfl, h10⟩ := hv_a15 (kp := kp) (I := I9) (A := A9) h9 hq
  refine pm_aloadn hG dX3_write_113 rfl ?_
  refine pm_getf hG dX3_write_114 (flX3_29 _ rfl) rfl rfl ?_
  refine pm_iloadi hG dX3_write_117 rfl ?_
  refine pm_bipush (v := 10) hG dX3_write_119 (by decide) ?_
  refine pm_iconst (v := (-1)) hG dX3_write_121 (by decide) ?_
  refine pm_callV (As := [.int v2, .int 10, .int (-1)]) (rest := []) hG hR dX3_write_122 (lkX3_45 _ rfl) okV_X9_set rfl rfl (tb_set (d := 2) rfl rfl (pm_tw_of 40 12 (by decide) (by decide) (by decide)) (by decide)) rfl rfl hdd (Nat.le_refl _) (Nat.le_refl _) (by decide) (pm_kv (fun σ' cnt' hq => ?_))
  obtain ⟨I11, A11, rfl, rfl, h11⟩ := hv_a15 (kp := kp) (I := I10) (A := A10) h10 hq
  refine pm_iloadi hG dX3_write_125 rfl ?_
  exact pm_iret hG hF dX3_write_127 rfl (Nat.le_refl _) (Nat.le_refl _) ⟨_, rfl, _, _, rfl, rfl, h11⟩

set_option maxRecDepth 100000 in
set_option maxHeartbeats 4000000 in
theorem g_X11_draw {ε : Nat → Int32} {d B cnt : Nat} {kp : pm_KP} {ρ : pm_S} {I : Nat → Int32} {A : Nat → Nat → Int32} {za zb zc : Int32} (hdd : 4 ≤ d) (h : gq ε I) : pm_met mX11_draw d 0 0 B [.ref (B + 0), .int za, .int zb, .int zc] cnt (pm_two (cl_L B kp I A) ρ) (pm_Qi (fun _ σ' cnt' => hvq ε B kp ρ cnt σ' cnt')) := by
  refine pm_enter 0 (by decide) (Nat.le_of_ble_eq_true rfl) rfl (fun G hG hR hF => ?_)
  refine pm_aloadn hG dX11_draw_0 rfl ?_
  refine pm_getf hG dX11_draw_1 (flX11_12 _ rfl) rfl rfl ?_
  refine pm_getf hG dX11_draw_4 (flX11_128 _ rfl) rfl rfl ?_
  refine pm_iloadn hG dX11_draw_7 rfl ?_
  refine pm_callV (As := [.int za]) (rest := []) hG hR dX11_draw_8 (lkX11_101 _ rfl) okV_X9_has rfl rfl (tb_has (d := 3) rfl) rfl rfl hdd (Nat.le_refl _) (Nat.le_refl _) (by decide) (pm_ki (fun v1 σ' cnt' hq => ?_))
  have b1 := pm_b01 hq.1
  obtain ⟨I1, A1, rfl, rfl, h1⟩ := hv_id (kp := kp) (I := I) (A := A) h hq.2
  refine pm_if_eq (tgt := 34) hG dX11_draw_11 rfl (fun c2 => ?_) (fun c2 => ?_)
  · refine pm_aloadn hG dX11_draw_34 rfl ?_
    refine pm_ldc hG dX11_draw_35 (ctX11_109 _ rfl) ?_
    refine pm_callV (As := [.int (-1000001)]) (rest := []) hG hR dX11_draw_37 (lkX11_97 _ rfl) okV_X11_told rfl rfl (sx_told (d := 3) (by decide) rfl rfl) rfl rfl hdd (Nat.le_refl _) (Nat.le_refl _) (by decide) (pm_ki (fun v3 σ' cnt' hq => ?_))
    obtain ⟨-, ⟨g3, hg3⟩, hc3⟩ := hq
    obtain ⟨I3, A3, rfl, rfl, h3⟩ := hv_a53 (kp := kp) (I := I1) (A := A1) h1 ⟨hg3, hc3⟩
    exact pm_iret hG hF dX11_draw_40 rfl (Nat.le_refl _) (Nat.le_refl _) ⟨_, rfl, _, _, rfl, rfl, h3⟩
  · refine pm_iloadn hG dX11_draw_14 rfl ?_
    refine pm_iconst (v := 0) hG dX11_draw_15 (by decide) ?_
    refine pm_iconst (v := 4) hG dX11_draw_16 (by decide) ?_
    refine pm_callS (As := [.int zb, .int 0, .int 4]) (rest := []) hG hR dX11_draw_17 (lkX11_105 _ rfl) okS_X11_isOutside (sx_isOutside (d := 3)) rfl rfl hdd (Nat.le_refl _) (Nat.le_refl _) (by decide) (pm_ki (fun v4 σ' cnt' hq => ?_))
    have o4 := hq.1
    have b4 := pm_b10 hq.1
    obtain ⟨I4, A4, rfl, rfl, h4⟩ := hv_id (kp := kp) (I := I1) (A := A1) h1 hq.2
    refine pm_if_ne (tgt := 34) hG dX11_draw_20 rfl (fun c5 => ?_) (fun c5 => ?_)
    · refine pm_aloadn hG dX11_draw_34 rfl ?_
      refine pm_ldc hG dX11_draw_35 (ctX11_109 _ rfl) ?_
      refine pm_callV (As := [.int (-1000001)]) (rest := []) hG hR dX11_draw_37 (lkX11_97 _ rfl) okV_X11_told rfl rfl (sx_told (d := 3) (by decide) rfl rfl) rfl rfl hdd (Nat.le_refl _) (Nat.le_refl _) (by decide) (pm_ki (fun v6 σ' cnt' hq => ?_))
      obtain ⟨-, ⟨g6, hg6⟩, hc6⟩ := hq
      obtain ⟨I6, A6, rfl, rfl, h6⟩ := hv_a53 (kp := kp) (I := I4) (A := A4) h4 ⟨hg6, hc6⟩
      exact pm_iret hG hF dX11_draw_40 rfl (Nat.le_refl _) (Nat.le_refl _) ⟨_, rfl, _, _, rfl, rfl, h6⟩
    · refine pm_iloadn hG dX11_draw_23 rfl ?_
      refine pm_iconst (v := 0) hG dX11_draw_24 (by decide) ?_
      refine pm_sipush (v := 999) hG dX11_draw_25 (by decide) ?_
      refine pm_callS (As := [.int zc, .int 0, .int 999]) (rest := []) hG hR dX11_draw_28 (lkX11_105 _ rfl) okS_X11_isOutside (sx_isOutside (d := 3)) rfl rfl hdd (Nat.le_refl _) (Nat.le_refl _) (by decide) (pm_ki (fun v7 σ' cnt' hq => ?_))
      have o7 := hq.1
      have b7 := pm_b10 hq.1
      obtain ⟨I7, A7, rfl, rfl, h7⟩ := hv_id (kp := kp) (I := I4) (A := A4) h4 hq.2
      refine pm_if_eq (tgt := 41) hG dX11_draw_31 rfl (fun c8 => ?_) (fun c8 => ?_)
      · refine pm_aloadn hG dX11_draw_41 rfl ?_
        refine pm_getf hG dX11_draw_42 (flX11_12 _ rfl) rfl rfl ?_
        refine pm_iloadn hG dX11_draw_45 rfl ?_
        refine pm_callV (As := [.int za]) (rest := []) hG hR dX11_draw_46 (lkX11_146 _ rfl) okV_X7_isInTown rfl rfl (g_X7_isInTown (d := 3) (by decide) h7) rfl rfl hdd (Nat.le_refl _) (Nat.le_refl _) (by decide) (pm_ki (fun v9 σ' cnt' hq => ?_))
        obtain ⟨b9, I9, A9, rfl, rfl, h9⟩ := hq
        refine pm_if_ne (tgt := 59) hG dX11_draw_49 rfl (fun c10 => ?_) (fun c10 => ?_)
        · refine pm_aloadn hG dX11_draw_59 rfl ?_
          refine pm_aloadn hG dX11_draw_60 rfl ?_
          refine pm_getf hG dX11_draw_61 (flX11_12 _ rfl) rfl rfl ?_
          refine pm_getf hG dX11_draw_64 (flX11_224 _ rfl) rfl rfl ?_
          refine pm_callV (As := []) (rest := [.ref (B + 0)]) hG hR dX11_draw_67 (lkX11_86 _ rfl) okV_X9_isFull rfl rfl (tb_isFull (d := 3) rfl) rfl rfl hdd (Nat.le_refl _) (Nat.le_refl _) (by first | decide | exact Nat.le_of_ble_eq_true rfl) (pm_ki (fun v11 σ' cnt' hq => ?_))
          have b11 := pm_b01 hq.1
          obtain ⟨I11, A11, rfl, rfl, h11⟩ := hv_id (kp := kp) (I := I9) (A := A9) h9 hq.2
          refine pm_if_eq (tgt := 78) hG dX11_draw_70 rfl (fun c12 => ?_) (fun c12 => ?_)
          · refine pm_aloadn hG dX11_draw_78 rfl ?_
            refine pm_getf hG dX11_draw_79 (flX11_39 _ rfl) rfl rfl ?_
            refine pm_iloadn hG dX11_draw_82 rfl ?_
            refine pm_iloadn hG dX11_draw_83 rfl ?_
            refine pm_iloadn hG dX11_draw_84 rfl ?_
            refine pm_callV (As := [.int za, .int zb, .int zc]) (rest := [.ref (B + 0)]) hG hR dX11_draw_85 (lkX11_230 _ rfl) okV_X3_write rfl rfl (g_X3_write (d := 3) (by decide) h11) rfl rfl hdd (Nat.le_refl _) (Nat.le_refl _) (by first | decide | exact Nat.le_of_ble_eq_true rfl) (pm_ki (fun v13 σ' cnt' hq => ?_))
            obtain ⟨I13, A13, rfl, rfl, h13⟩ := hq
            refine pm_callV (As := [.int v13]) (rest := []) hG hR dX11_draw_88 (lkX11_97 _ rfl) okV_X11_told rfl rfl (sx_told (d := 3) (by decide) rfl rfl) rfl rfl hdd (Nat.le_refl _) (Nat.le_refl _) (by decide) (pm_ki (fun v14 σ' cnt' hq => ?_))
            obtain ⟨-, ⟨g14, hg14⟩, hc14⟩ := hq
            obtain ⟨I14, A14, rfl, rfl, h14⟩ := hv_a53 (kp := kp) (I := I13) (A := A13) h13 ⟨hg14, hc14⟩
            exact pm_iret hG hF dX11_draw_91 rfl (Nat.le_refl _) (Nat.le_refl _) ⟨_, rfl, _, _, rfl, rfl, h14⟩
          · refine pm_ldc hG dX11_draw_73 (ctX11_92 _ rfl) ?_
            refine pm_goto (tgt := 88) hG dX11_draw_75 rfl ?_
            refine pm_callV (As := [.int (-1000004)]) (rest := []) hG hR dX11_draw_88 (lkX11_97 _ rfl) okV_X11_told rfl rfl (sx_told (d := 3) (by decide) rfl rfl) rfl rfl hdd (Nat.le_refl _) (Nat.le_refl _) (by decide) (pm_ki (fun v15 σ' cnt' hq => ?_))
            obtain ⟨-, ⟨g15, hg15⟩, hc15⟩ := hq
            obtain ⟨I15, A15, rfl, rfl, h15⟩ := hv_a53 (kp := kp) (I := I11) (A := A11) h11 ⟨hg15, hc15⟩
            exact pm_iret hG hF dX11_draw_91 rfl (Nat.le_refl _) (Nat.le_refl _) ⟨_, rfl, _, _, rfl, rfl, h15⟩
        · refine pm_aloadn hG dX11_draw_52 rfl ?_
          refine pm_ldc hG dX11_draw_53 (ctX11_138 _ rfl) ?_
          refine pm_callV (As := [.int (-1000003)]) (rest := []) hG hR dX11_draw_55 (lkX11_97 _ rfl) okV_X11_told rfl rfl (sx_told (d := 3) (by decide) rfl rfl) rfl rfl hdd (Nat.le_refl _) (Nat.le_refl _) (by decide) (pm_ki (fun v16 σ' cnt' hq => ?_))
          obtain ⟨-, ⟨g16, hg16⟩, hc16⟩ := hq
          obtain ⟨I16, A16, rfl, rfl, h16⟩ := hv_a53 (kp := kp) (I := I9) (A := A9) h9 ⟨hg16, hc16⟩
          exact pm_iret hG hF dX11_draw_58 rfl (Nat.le_refl _) (Nat.le_refl _) ⟨_, rfl, _, _, rfl, rfl, h16⟩
      · refine pm_aloadn hG dX11_draw_34 rfl ?_
        refine pm_ldc hG dX11_draw_35 (ctX11_109 _ rfl) ?_
        refine pm_callV (As := [.int (-1000001)]) (rest := []) hG hR dX11_draw_37 (lkX11_97 _ rfl) okV_X11_told rfl rfl (sx_told (d := 3) (by decide) rfl rfl) rfl rfl hdd (Nat.le_refl _) (Nat.le_refl _) (by decide) (pm_ki (fun v17 σ' cnt' hq => ?_))
        obtain ⟨-, ⟨g17, hg17⟩, hc17⟩ := hq
        obtain ⟨I17, A17, rfl, rfl, h17⟩ := hv_a53 (kp := kp) (I := I7) (A := A7) h7 ⟨hg17, hc17⟩
        exact pm_iret hG hF dX11_draw_40 rfl (Nat.le_refl _) (Nat.le_refl _) ⟨_, rfl, _, _, rfl, rfl, h17⟩

set_option maxRecDepth 100000 in
set_option maxHeartbeats 4000000 in
theorem g_X7_wayBetween {ε : Nat → Int32} {d B cnt : Nat} {kp : pm_KP} {ρ : pm_S} {I : Nat → Int32} {A : Nat → Nat → Int32} {za zb : Int32} (hdd : 1 ≤ d) (h : gq ε I) : pm_met mX7_wayBetween d 0 0 B [.ref (B + 1), .int za, .int zb] cnt (pm_two (cl_L B kp I A) ρ) (pm_Qi (fun _ σ' cnt' => hvq ε B kp ρ cnt σ' cnt')) := by
  refine pm_enter 1 (by decide) (Nat.le_of_ble_eq_true rfl) rfl (fun G hG hR hF => ?_)
  refine pm_aloadn hG dX7_wayBetween_0 rfl ?_
  refine pm_getf hG dX7_wayBetween_1 (flX7_20 _ rfl) rfl rfl ?_
  refine pm_iloadn hG dX7_wayBetween_4 rfl ?_
  refine pm_iloadn hG dX7_wayBetween_5 rfl ?_
  refine pm_callV (As := [.int za, .int zb]) (rest := []) hG hR dX7_wayBetween_6 (lkX7_83 _ rfl) okV_X9_get rfl rfl (tb_get (d := 0) rfl rfl (pm_tw_of 10 10 (by decide) (by decide) (by decide))) rfl rfl hdd (Nat.le_refl _) (Nat.le_refl _) (by decide) (pm_ki (fun v1 σ' cnt' hq => ?_))
  obtain ⟨I1, A1, rfl, rfl, h1⟩ := hv_id (kp := kp) (I := I) (A := A) h hq.2
  refine pm_istoreXn (loc' := [some (.ref (B + 1)), some (.int za), some (.int zb), some (.int v1)]) hG dX7_wayBetween_9 (by decide) (pm_c1b rfl) rfl ?_
  refine pm_iloadn hG dX7_wayBetween_10 rfl ?_
  refine pm_sipush (v := 1000) hG dX7_wayBetween_11 (by decide) ?_
  refine pm_icmp_lt (tgt := 22) hG dX7_wayBetween_14 rfl (fun c2 => ?_) (fun c2 => ?_)
  · refine pm_iloadn hG dX7_wayBetween_22 rfl ?_
    exact pm_iret hG hF dX7_wayBetween_23 rfl (Nat.le_refl _) (Nat.le_refl _) ⟨_, rfl, _, _, rfl, rfl, h1⟩
  · refine pm_ldc hG dX7_wayBetween_17 (ctX7_92 _ rfl) ?_
    refine pm_goto (tgt := 23) hG dX7_wayBetween_19 rfl ?_
    exact pm_iret hG hF dX7_wayBetween_23 rfl (Nat.le_refl _) (Nat.le_refl _) ⟨_, rfl, _, _, rfl, rfl, h1⟩

set_option maxRecDepth 100000 in
set_option maxHeartbeats 4000000 in
theorem g_X11_far {ε : Nat → Int32} {d B cnt : Nat} {kp : pm_KP} {ρ : pm_S} {I : Nat → Int32} {A : Nat → Nat → Int32} {za zb : Int32} (hdd : 2 ≤ d) (h : gq ε I) : pm_met mX11_far d 0 0 B [.ref (B + 0), .int za, .int zb] cnt (pm_two (cl_L B kp I A) ρ) (pm_Qi (fun _ σ' cnt' => hvq ε B kp ρ cnt σ' cnt')) := by
  refine pm_enter 0 (by decide) (Nat.le_of_ble_eq_true rfl) rfl (fun G hG hR hF => ?_)
  refine pm_aloadn hG dX11_far_0 rfl ?_
  refine pm_getf hG dX11_far_1 (flX11_12 _ rfl) rfl rfl ?_
  refine pm_getf hG dX11_far_4 (flX11_82 _ rfl) rfl rfl ?_
  refine pm_iloadn hG dX11_far_7 rfl ?_
  refine pm_callV (As := [.int za]) (rest := []) hG hR dX11_far_8 (lkX11_101 _ rfl) okV_X9_has rfl rfl (tb_has (d := 1) rfl) rfl rfl hdd (Nat.le_refl _) (Nat.le_refl _) (by decide) (pm_ki (fun v1 σ' cnt' hq => ?_))
  have b1 := pm_b01 hq.1
  obtain ⟨I1, A1, rfl, rfl, h1⟩ := hv_id (kp := kp) (I := I) (A := A) h hq.2
  refine pm_if_eq (tgt := 28) hG dX11_far_11 rfl (fun c2 => ?_) (fun c2 => ?_)
  · refine pm_aloadn hG dX11_far_28 rfl ?_
    refine pm_ldc hG dX11_far_29 (ctX11_109 _ rfl) ?_
    refine pm_callV (As := [.int (-1000001)]) (rest := []) hG hR dX11_far_31 (lkX11_97 _ rfl) okV_X11_told rfl rfl (sx_told (d := 1) (by decide) rfl rfl) rfl rfl hdd (Nat.le_refl _) (Nat.le_refl _) (by decide) (pm_ki (fun v3 σ' cnt' hq => ?_))
    obtain ⟨-, ⟨g3, hg3⟩, hc3⟩ := hq
    obtain ⟨I3, A3, rfl, rfl, h3⟩ := hv_a53 (kp := kp) (I := I1) (A := A1) h1 ⟨hg3, hc3⟩
    exact pm_iret hG hF dX11_far_34 rfl (Nat.le_refl _) (Nat.le_refl _) ⟨_, rfl, _, _, rfl, rfl, h3⟩
  · refine pm_aloadn hG dX11_far_14 rfl ?_
    refine pm_getf hG dX11_far_15 (flX11_12 _ rfl) rfl rfl ?_
    refine pm_getf hG dX11_far_18 (flX11_82 _ rfl) rfl rfl ?_
    refine pm_iloadn hG dX11_far_21 rfl ?_
    refine pm_callV (As := [.int zb]) (rest := []) hG hR dX11_far_22 (lkX11_101 _ rfl) okV_X9_has rfl rfl (tb_has (d := 1) rfl) rfl rfl hdd (Nat.le_refl _) (Nat.le_refl _) (by decide) (pm_ki (fun v4 σ' cnt' hq => ?_))
    have b4 := pm_b01 hq.1
    obtain ⟨I4, A4, rfl, rfl, h4⟩ := hv_id (kp := kp) (I := I1) (A := A1) h1 hq.2
    refine pm_if_ne (tgt := 35) hG dX11_far_25 rfl (fun c5 => ?_) (fun c5 => ?_)
    · refine pm_aloadn hG dX11_far_35 rfl ?_
      refine pm_aloadn hG dX11_far_36 rfl ?_
      refine pm_getf hG dX11_far_37 (flX11_12 _ rfl) rfl rfl ?_
      refine pm_iloadn hG dX11_far_40 rfl ?_
      refine pm_iloadn hG dX11_far_41 rfl ?_
      refine pm_callV (As := [.int za, .int zb]) (rest := [.ref (B + 0)]) hG hR dX11_far_42 (lkX11_118 _ rfl) okV_X7_wayBetween rfl rfl (g_X7_wayBetween (d := 1) (by decide) h4) rfl rfl hdd (Nat.le_refl _) (Nat.le_refl _) (by first | decide | exact Nat.le_of_ble_eq_true rfl) (pm_ki (fun v6 σ' cnt' hq => ?_))
      obtain ⟨I6, A6, rfl, rfl, h6⟩ := hq
      refine pm_callV (As := [.int v6]) (rest := []) hG hR dX11_far_45 (lkX11_97 _ rfl) okV_X11_told rfl rfl (sx_told (d := 1) (by decide) rfl rfl) rfl rfl hdd (Nat.le_refl _) (Nat.le_refl _) (by decide) (pm_ki (fun v7 σ' cnt' hq => ?_))
      obtain ⟨-, ⟨g7, hg7⟩, hc7⟩ := hq
      obtain ⟨I7, A7, rfl, rfl, h7⟩ := hv_a53 (kp := kp) (I := I6) (A := A6) h6 ⟨hg7, hc7⟩
      exact pm_iret hG hF dX11_far_48 rfl (Nat.le_refl _) (Nat.le_refl _) ⟨_, rfl, _, _, rfl, rfl, h7⟩
    · refine pm_aloadn hG dX11_far_28 rfl ?_
      refine pm_ldc hG dX11_far_29 (ctX11_109 _ rfl) ?_
      refine pm_callV (As := [.int (-1000001)]) (rest := []) hG hR dX11_far_31 (lkX11_97 _ rfl) okV_X11_told rfl rfl (sx_told (d := 1) (by decide) rfl rfl) rfl rfl hdd (Nat.le_refl _) (Nat.le_refl _) (by decide) (pm_ki (fun v8 σ' cnt' hq => ?_))
      obtain ⟨-, ⟨g8, hg8⟩, hc8⟩ := hq
      obtain ⟨I8, A8, rfl, rfl, h8⟩ := hv_a53 (kp := kp) (I := I4) (A := A4) h4 ⟨hg8, hc8⟩
      exact pm_iret hG hF dX11_far_34 rfl (Nat.le_refl _) (Nat.le_refl _) ⟨_, rfl, _, _, rfl, rfl, h8⟩

set_option maxRecDepth 100000 in
set_option maxHeartbeats 4000000 in
theorem g_X11_feed {ε : Nat → Int32} {d B cnt : Nat} {kp : pm_KP} {ρ : pm_S} {I : Nat → Int32} {A : Nat → Nat → Int32} {zb : Int32} {za : Int64} (hdd : 2 ≤ d) (h : gq ε I) : pm_met mX11_feed d 0 0 B [.ref (B + 0), .long za, .int zb] cnt (pm_two (cl_L B kp I A) ρ) (pm_Qi (fun _ σ' cnt' => hvq ε B kp ρ cnt σ' cnt')) := by
  refine pm_enter 1 (by decide) (Nat.le_of_ble_eq_true rfl) rfl (fun G hG hR hF => ?_)
  refine pm_iloadn hG dX11_feed_0 rfl ?_
  refine pm_iconst (v := 1) hG dX11_feed_1 (by decide) ?_
  refine pm_bipush (v := 8) hG dX11_feed_2 (by decide) ?_
  refine pm_callS (As := [.int zb, .int 1, .int 8]) (rest := []) hG hR dX11_feed_4 (lkX11_105 _ rfl) okS_X11_isOutside (sx_isOutside (d := 1)) rfl rfl hdd (Nat.le_refl _) (Nat.le_refl _) (by decide) (pm_ki (fun v1 σ' cnt' hq => ?_))
  have o1 := hq.1
  have b1 := pm_b10 hq.1
  obtain ⟨I1, A1, rfl, rfl, h1⟩ := hv_id (kp := kp) (I := I) (A := A) h hq.2
  refine pm_if_eq (tgt := 17) hG dX11_feed_7 rfl (fun c2 => ?_) (fun c2 => ?_)
  · refine pm_aloadn hG dX11_feed_17 rfl ?_
    refine pm_getf hG dX11_feed_18 (flX11_12 _ rfl) rfl rfl ?_
    refine pm_getf hG dX11_feed_21 (flX11_200 _ rfl) rfl rfl ?_
    refine pm_callV (As := []) (rest := []) hG hR dX11_feed_24 (lkX11_203 _ rfl) okV_X9_used rfl rfl (tb_used (d := 1) rfl) rfl rfl hdd (Nat.le_refl _) (Nat.le_refl _) (by decide) (pm_ki (fun v3 σ' cnt' hq => ?_))
    obtain ⟨I3, A3, rfl, rfl, h3⟩ := hv_id (kp := kp) (I := I1) (A := A1) h1 hq.2
    refine pm_iloadn hG dX11_feed_27 rfl ?_
    refine pm_iadd hG dX11_feed_28 ?_
    refine pm_bipush (v := 60) hG dX11_feed_29 (by decide) ?_
    refine pm_icmp_le (tgt := 41) hG dX11_feed_31 rfl (fun c4 => ?_) (fun c4 => ?_)
    · refine pm_iconst (v := 0) hG dX11_feed_41 (by decide) ?_
      refine pm_istoreXi (loc' := [some (.ref (B + 0)), some (.long za), none, some (.int zb), some (.int 0)]) hG dX11_feed_42 (by decide) (pm_c1b rfl) rfl ?_
      have loop44 : ∀ (m44 : Nat) (I5 : Nat → Int32) (A5 : Nat → Nat → Int32) (x5_4 : Int32), gq ε I5 → (¬ x5_4 < 0) → ((zb : Int32).toInt - x5_4.toInt).toNat < m44 → pm_wp mX11_feed G B 44 [some (.ref (B + 0)), some (.long za), none, some (.int zb), some (.int x5_4)] [] 0 0 cnt (pm_two (cl_L B kp I5 A5) ρ) := by
        intro m44
        induction m44 with
        | zero => intro I5 A5 x5_4 _  _ hm; exact absurd hm (Nat.not_lt_zero _)
        | succ m44 ih44 =>
          intro I5 A5 x5_4 h5 s44 hm44
          refine pm_iloadi hG dX11_feed_44 rfl ?_
          refine pm_iloadn hG dX11_feed_46 rfl ?_
          refine pm_icmp_ge (tgt := 79) hG dX11_feed_47 rfl (fun c6 => ?_) (fun c6 => ?_)
          · refine pm_aloadn hG dX11_feed_79 rfl ?_
            refine pm_getf hG dX11_feed_80 (flX11_12 _ rfl) rfl rfl ?_
            refine pm_getf hG dX11_feed_83 (flX11_200 _ rfl) rfl rfl ?_
            refine pm_callV (As := []) (rest := []) hG hR dX11_feed_86 (lkX11_203 _ rfl) okV_X9_used rfl rfl (tb_used (d := 1) rfl) rfl rfl hdd (Nat.le_refl _) (Nat.le_refl _) (by decide) (pm_ki (fun v7 σ' cnt' hq => ?_))
            obtain ⟨I7, A7, rfl, rfl, h7⟩ := hv_id (kp := kp) (I := I5) (A := A5) h5 hq.2
            exact pm_iret hG hF dX11_feed_89 rfl (Nat.le_refl _) (Nat.le_refl _) ⟨_, rfl, _, _, rfl, rfl, h7⟩
          · refine pm_aloadn hG dX11_feed_50 rfl ?_
            refine pm_getf hG dX11_feed_51 (flX11_12 _ rfl) rfl rfl ?_
            refine pm_getf hG dX11_feed_54 (flX11_200 _ rfl) rfl rfl ?_
            refine pm_lloadn hG dX11_feed_57 rfl ?_
            refine pm_bipush (v := 8) hG dX11_feed_58 (by decide) ?_
            refine pm_iloadi hG dX11_feed_60 rfl ?_
            refine pm_imul hG dX11_feed_62 ?_
            refine pm_lushr hG dX11_feed_63 rfl ?_
            refine pm_l2i hG dX11_feed_64 rfl ?_
            refine pm_sipush (v := 255) hG dX11_feed_65 (by decide) ?_
            refine pm_iand hG dX11_feed_68 ?_
            obtain ⟨k8, hk8, hu8⟩ := gq.used h5 24 60 (by decide)
            have ht8 : pm_two (cl_L B kp I5 A5) ρ 24 = some (.inr (9, [.int (nI 60), .int (nI 1), .ref (B + 25), .int (nI k8)])) := by rw [← hu8]; rfl
            refine pm_callV (As := [.int ((((za.toUInt64 >>> ((8 * x5_4 : Int32).toInt64.toUInt64 &&& Int64.toUInt64 63)).toInt64).toInt32) &&& 255)]) (rest := []) hG hR dX11_feed_69 (lkX11_206 _ rfl) okV_X9_append rfl rfl (tb_append (d := 1) (by decide) ht8 rfl (by decide) (by decide) (by decide) (by decide) (by decide) (by decide) hk8) rfl rfl hdd (Nat.le_refl _) (Nat.le_refl _) (by decide) (pm_ki (fun v8 σ' cnt' hq => ?_))
            obtain ⟨I8, A8, rfl, rfl, h8⟩ := hv_p24 (kp := kp) (I := I5) (A := A5) hk8 h5 hq
            refine pm_pop hG dX11_feed_72 rfl ?_
            refine pm_iincX (v := x5_4 + 1) (loc' := [some (.ref (B + 0)), some (.long za), none, some (.int zb), some (.int (x5_4 + 1))]) hG dX11_feed_73 rfl (by rfl) (by decide) (pm_c1b rfl) rfl ?_
            refine pm_goto (tgt := 44) hG dX11_feed_76 rfl ?_
            exact ih44 _ _ (x5_4 + 1) h8 (pm_sd1 c6 s44) (Nat.lt_of_lt_of_le (pm_mu1 c6) (Nat.le_of_lt_succ hm44))
      exact loop44 _ _ _ 0 h3 (by decide) (Nat.lt_succ_self _)
    · refine pm_aloadn hG dX11_feed_34 rfl ?_
      refine pm_ldc hG dX11_feed_35 (ctX11_92 _ rfl) ?_
      refine pm_callV (As := [.int (-1000004)]) (rest := []) hG hR dX11_feed_37 (lkX11_97 _ rfl) okV_X11_told rfl rfl (sx_told (d := 1) (by decide) rfl rfl) rfl rfl hdd (Nat.le_refl _) (Nat.le_refl _) (by decide) (pm_ki (fun v9 σ' cnt' hq => ?_))
      obtain ⟨-, ⟨g9, hg9⟩, hc9⟩ := hq
      obtain ⟨I9, A9, rfl, rfl, h9⟩ := hv_a53 (kp := kp) (I := I3) (A := A3) h3 ⟨hg9, hc9⟩
      exact pm_iret hG hF dX11_feed_40 rfl (Nat.le_refl _) (Nat.le_refl _) ⟨_, rfl, _, _, rfl, rfl, h9⟩
  · refine pm_aloadn hG dX11_feed_10 rfl ?_
    refine pm_ldc hG dX11_feed_11 (ctX11_109 _ rfl) ?_
    refine pm_callV (As := [.int (-1000001)]) (rest := []) hG hR dX11_feed_13 (lkX11_97 _ rfl) okV_X11_told rfl rfl (sx_told (d := 1) (by decide) rfl rfl) rfl rfl hdd (Nat.le_refl _) (Nat.le_refl _) (by decide) (pm_ki (fun v10 σ' cnt' hq => ?_))
    obtain ⟨-, ⟨g10, hg10⟩, hc10⟩ := hq
    obtain ⟨I10, A10, rfl, rfl, h10⟩ := hv_a53 (kp := kp) (I := I1) (A := A1) h1 ⟨hg10, hc10⟩
    exact pm_iret hG hF dX11_feed_16 rfl (Nat.le_refl _) (Nat.le_refl _) ⟨_, rfl, _, _, rfl, rfl, h10⟩
