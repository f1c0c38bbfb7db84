set_option maxRecDepth 100000 in
set_option maxHeartbeats 4000000 in
theorem g_X7_addCopy {ε : Nat → Int32} {d B cnt : Nat} {kp : Value} {ρ : pm_S} {I : Nat → Int32} {A : Nat → Nat → Int32} {za : Int32} (hdd : 3 ≤ d) (h : gq ε I) : pm_met mX7_addCopy d 0 0 B [.ref (B + 1), .int za] cnt (pm_two (cl_L B kp I A) ρ) (pm_Qi (fun _ σ' cnt' => hvq ε B kp ρ cnt σ' cnt')) := by
  refine pm_enter 1 (by decide) (Nat.le_of_ble_eq_true rfl) rfl (fun G hG hR hF => ?_)
  refine pm_aloadn hG dX7_addCopy_0 rfl ?_
  refine pm_iconst (v := 2) hG dX7_addCopy_1 (by decide) ?_
  refine pm_aloadn hG dX7_addCopy_2 rfl ?_
  refine pm_iloadn hG dX7_addCopy_3 rfl ?_
  refine pm_callV (As := [.int za]) (rest := [.int 2, .ref (B + 1)]) hG hR dX7_addCopy_4 (lkX7_128 _ rfl) okV_X7_whoHas rfl rfl (g_X7_whoHas (d := 2) (by decide) h) rfl rfl hdd (Nat.le_refl _) (Nat.le_refl _) (by first | decide | exact Nat.le_of_ble_eq_true rfl) (pm_ki (fun v1 σ' cnt' hq => ?_))
  obtain ⟨I1, A1, rfl, rfl, h1⟩ := hq
  refine pm_iconst (v := 0) hG dX7_addCopy_7 (by decide) ?_
  refine pm_callV (As := [.int 2, .int v1, .int 0]) (rest := []) hG hR dX7_addCopy_8 (lkX7_131 _ rfl) okV_X7_addPower rfl rfl (g_X7_addPower (d := 2) (by decide) h1) rfl rfl hdd (Nat.le_refl _) (Nat.le_refl _) (by decide) (pm_ki (fun v2 σ' cnt' hq => ?_))
  obtain ⟨I2, A2, rfl, rfl, h2⟩ := hq
  refine pm_istoreXn (loc' := [some (.ref (B + 1)), some (.int za), some (.int v2)]) hG dX7_addCopy_11 (by decide) (pm_c1b rfl) rfl ?_
  refine pm_aloadn hG dX7_addCopy_12 rfl ?_
  refine pm_getf hG dX7_addCopy_13 (flX7_26 _ rfl) rfl rfl ?_
  refine pm_iloadn hG dX7_addCopy_16 rfl ?_
  refine pm_iconst (v := 5) hG dX7_addCopy_17 (by decide) ?_
  refine pm_aloadn hG dX7_addCopy_18 rfl ?_
  refine pm_getf hG dX7_addCopy_19 (flX7_26 _ rfl) rfl rfl ?_
  refine pm_iloadn hG dX7_addCopy_22 rfl ?_
  refine pm_iconst (v := 5) hG dX7_addCopy_23 (by decide) ?_
  refine pm_callV (As := [.int za, .int 5]) (rest := [.int 5, .int v2, .ref (B + 8)]) hG hR dX7_addCopy_24 (lkX7_83 _ rfl) okV_X9_get rfl rfl (tb_get (d := 2) rfl rfl (pm_tw_of 20 6 (by decide) (by decide) (by decide))) rfl rfl hdd (Nat.le_refl _) (Nat.le_refl _) (by first | decide | exact Nat.le_of_ble_eq_true rfl) (pm_ki (fun v3 σ' cnt' hq => ?_))
  obtain ⟨I3, A3, rfl, rfl, h3⟩ := hv_id (kp := kp) (I := I2) (A := A2) h2 hq.2
  refine pm_callV (As := [.int v2, .int 5, .int v3]) (rest := []) hG hR dX7_addCopy_27 (lkX7_61 _ rfl) okV_X9_set rfl rfl (tb_set (d := 2) rfl rfl (pm_tw_of 20 6 (by decide) (by decide) (by decide)) (by decide)) rfl rfl hdd (Nat.le_refl _) (Nat.le_refl _) (by decide) (pm_kv (fun σ' cnt' hq => ?_))
  obtain ⟨I4, A4, rfl, rfl, h4⟩ := hv_a9 (kp := kp) (I := I3) (A := A3) h3 hq
  refine pm_iloadn hG dX7_addCopy_30 rfl ?_
  exact pm_iret hG hF dX7_addCopy_31 rfl (Nat.le_refl _) (Nat.le_refl _) ⟨_, rfl, _, _, rfl, rfl, h4⟩

set_option maxRecDepth 100000 in
set_option maxHeartbeats 4000000 in
theorem g_X11_copy {ε : Nat → Int32} {d B cnt : Nat} {kp : Value} {ρ : pm_S} {I : Nat → Int32} {A : Nat → Nat → Int32} {za : Int32} (hdd : 4 ≤ d) (h : gq ε I) : pm_met mX11_copy d 0 0 B [.ref (B + 0), .int za] cnt (pm_two (cl_L B kp I A) ρ) (pm_Qi (fun _ σ' cnt' => hvq ε B kp ρ cnt σ' cnt')) := by
  refine pm_enter 0 (by decide) (Nat.le_of_ble_eq_true rfl) rfl (fun G hG hR hF => ?_)
  refine pm_aloadn hG dX11_copy_0 rfl ?_
  refine pm_getf hG dX11_copy_1 (flX11_12 _ rfl) rfl rfl ?_
  refine pm_getf hG dX11_copy_4 (flX11_161 _ rfl) rfl rfl ?_
  refine pm_iloadn hG dX11_copy_7 rfl ?_
  refine pm_callV (As := [.int za]) (rest := []) hG hR dX11_copy_8 (lkX11_101 _ rfl) okV_X9_has rfl rfl (tb_has (d := 3) rfl) rfl rfl hdd (Nat.le_refl _) (Nat.le_refl _) (by decide) (pm_ki (fun v1 σ' cnt' hq => ?_))
  have b1 := pm_b01 hq.1
  obtain ⟨I1, A1, rfl, rfl, h1⟩ := hv_id (kp := kp) (I := I) (A := A) h hq.2
  refine pm_if_ne (tgt := 21) hG dX11_copy_11 rfl (fun c2 => ?_) (fun c2 => ?_)
  · refine pm_aloadn hG dX11_copy_21 rfl ?_
    refine pm_getf hG dX11_copy_22 (flX11_12 _ rfl) rfl rfl ?_
    refine pm_iloadn hG dX11_copy_25 rfl ?_
    refine pm_iconst (v := 2) hG dX11_copy_26 (by decide) ?_
    refine pm_callV (As := [.int za, .int 2]) (rest := []) hG hR dX11_copy_27 (lkX11_180 _ rfl) okV_X7_isOfKind rfl rfl (g_X7_isOfKind (d := 3) (by decide) h1) rfl rfl hdd (Nat.le_refl _) (Nat.le_refl _) (by decide) (pm_ki (fun v3 σ' cnt' hq => ?_))
    obtain ⟨b3, I3, A3, rfl, rfl, h3⟩ := hq
    refine pm_if_ne (tgt := 40) hG dX11_copy_30 rfl (fun c4 => ?_) (fun c4 => ?_)
    · refine pm_aloadn hG dX11_copy_40 rfl ?_
      refine pm_getf hG dX11_copy_41 (flX11_12 _ rfl) rfl rfl ?_
      refine pm_iloadn hG dX11_copy_44 rfl ?_
      refine pm_callV (As := [.int za]) (rest := []) hG hR dX11_copy_45 (lkX11_185 _ rfl) okV_X7_whoHas rfl rfl (g_X7_whoHas (d := 3) (by decide) h3) rfl rfl hdd (Nat.le_refl _) (Nat.le_refl _) (by decide) (pm_ki (fun v5 σ' cnt' hq => ?_))
      obtain ⟨I5, A5, rfl, rfl, h5⟩ := hq
      refine pm_iconst (v := (-1)) hG dX11_copy_48 (by decide) ?_
      refine pm_icmp_ne (tgt := 59) hG dX11_copy_49 rfl (fun c6 => ?_) (fun c6 => ?_)
      · refine pm_aloadn hG dX11_copy_59 rfl ?_
        refine pm_aloadn hG dX11_copy_60 rfl ?_
        refine pm_getf hG dX11_copy_61 (flX11_12 _ rfl) rfl rfl ?_
        refine pm_getf hG dX11_copy_64 (flX11_161 _ rfl) rfl rfl ?_
        refine pm_callV (As := []) (rest := [.ref (B + 0)]) hG hR dX11_copy_67 (lkX11_86 _ rfl) okV_X9_isFull rfl rfl (tb_isFull (d := 3) rfl) rfl rfl hdd (Nat.le_refl _) (Nat.le_refl _) (by first | decide | exact Nat.le_of_ble_eq_true rfl) (pm_ki (fun v7 σ' cnt' hq => ?_))
        have b7 := pm_b01 hq.1
        obtain ⟨I7, A7, rfl, rfl, h7⟩ := hv_id (kp := kp) (I := I5) (A := A5) h5 hq.2
        refine pm_if_eq (tgt := 78) hG dX11_copy_70 rfl (fun c8 => ?_) (fun c8 => ?_)
        · refine pm_aloadn hG dX11_copy_78 rfl ?_
          refine pm_getf hG dX11_copy_79 (flX11_12 _ rfl) rfl rfl ?_
          refine pm_iloadn hG dX11_copy_82 rfl ?_
          refine pm_callV (As := [.int za]) (rest := [.ref (B + 0)]) hG hR dX11_copy_83 (lkX11_197 _ rfl) okV_X7_addCopy rfl rfl (g_X7_addCopy (d := 3) (by decide) h7) rfl rfl hdd (Nat.le_refl _) (Nat.le_refl _) (by first | decide | exact Nat.le_of_ble_eq_true rfl) (pm_ki (fun v9 σ' cnt' hq => ?_))
          obtain ⟨I9, A9, rfl, rfl, h9⟩ := hq
          refine pm_callV (As := [.int v9]) (rest := []) hG hR dX11_copy_86 (lkX11_97 _ rfl) okV_X11_told rfl rfl (sx_told (d := 3) (by decide) rfl rfl) rfl rfl hdd (Nat.le_refl _) (Nat.le_refl _) (by decide) (pm_ki (fun v10 σ' cnt' hq => ?_))
          obtain ⟨-, ⟨g10, hg10⟩, hc10⟩ := hq
          obtain ⟨I10, A10, rfl, rfl, h10⟩ := hv_a53 (kp := kp) (I := I9) (A := A9) h9 ⟨hg10, hc10⟩
          exact pm_iret hG hF dX11_copy_89 rfl (Nat.le_refl _) (Nat.le_refl _) ⟨_, rfl, _, _, rfl, rfl, h10⟩
        · refine pm_ldc hG dX11_copy_73 (ctX11_92 _ rfl) ?_
          refine pm_goto (tgt := 86) hG dX11_copy_75 rfl ?_
          refine pm_callV (As := [.int (-1000004)]) (rest := []) hG hR dX11_copy_86 (lkX11_97 _ rfl) okV_X11_told rfl rfl (sx_told (d := 3) (by decide) rfl rfl) rfl rfl hdd (Nat.le_refl _) (Nat.le_refl _) (by decide) (pm_ki (fun v11 σ' cnt' hq => ?_))
          obtain ⟨-, ⟨g11, hg11⟩, hc11⟩ := hq
          obtain ⟨I11, A11, rfl, rfl, h11⟩ := hv_a53 (kp := kp) (I := I7) (A := A7) h7 ⟨hg11, hc11⟩
          exact pm_iret hG hF dX11_copy_89 rfl (Nat.le_refl _) (Nat.le_refl _) ⟨_, rfl, _, _, rfl, rfl, h11⟩
      · refine pm_aloadn hG dX11_copy_52 rfl ?_
        refine pm_ldc hG dX11_copy_53 (ctX11_138 _ rfl) ?_
        refine pm_callV (As := [.int (-1000003)]) (rest := []) hG hR dX11_copy_55 (lkX11_97 _ rfl) okV_X11_told rfl rfl (sx_told (d := 3) (by decide) rfl rfl) rfl rfl hdd (Nat.le_refl _) (Nat.le_refl _) (by decide) (pm_ki (fun v12 σ' cnt' hq => ?_))
        obtain ⟨-, ⟨g12, hg12⟩, hc12⟩ := hq
        obtain ⟨I12, A12, rfl, rfl, h12⟩ := hv_a53 (kp := kp) (I := I5) (A := A5) h5 ⟨hg12, hc12⟩
        exact pm_iret hG hF dX11_copy_58 rfl (Nat.le_refl _) (Nat.le_refl _) ⟨_, rfl, _, _, rfl, rfl, h12⟩
    · refine pm_aloadn hG dX11_copy_33 rfl ?_
      refine pm_ldc hG dX11_copy_34 (ctX11_184 _ rfl) ?_
      refine pm_callV (As := [.int (-1000005)]) (rest := []) hG hR dX11_copy_36 (lkX11_97 _ rfl) okV_X11_told rfl rfl (sx_told (d := 3) (by decide) rfl rfl) rfl rfl hdd (Nat.le_refl _) (Nat.le_refl _) (by decide) (pm_ki (fun v13 σ' cnt' hq => ?_))
      obtain ⟨-, ⟨g13, hg13⟩, hc13⟩ := hq
      obtain ⟨I13, A13, rfl, rfl, h13⟩ := hv_a53 (kp := kp) (I := I3) (A := A3) h3 ⟨hg13, hc13⟩
      exact pm_iret hG hF dX11_copy_39 rfl (Nat.le_refl _) (Nat.le_refl _) ⟨_, rfl, _, _, rfl, rfl, h13⟩
  · refine pm_aloadn hG dX11_copy_14 rfl ?_
    refine pm_ldc hG dX11_copy_15 (ctX11_109 _ rfl) ?_
    refine pm_callV (As := [.int (-1000001)]) (rest := []) hG hR dX11_copy_17 (lkX11_97 _ rfl) okV_X11_told rfl rfl (sx_told (d := 3) (by decide) rfl rfl) rfl rfl hdd (Nat.le_refl _) (Nat.le_refl _) (by decide) (pm_ki (fun v14 σ' cnt' hq => ?_))
    obtain ⟨-, ⟨g14, hg14⟩, hc14⟩ := hq
    obtain ⟨I14, A14, rfl, rfl, h14⟩ := hv_a53 (kp := kp) (I := I1) (A := A1) h1 ⟨hg14, hc14⟩
    exact pm_iret hG hF dX11_copy_20 rfl (Nat.le_refl _) (Nat.le_refl _) ⟨_, rfl, _, _, rfl, rfl, h14⟩

set_option maxRecDepth 100000 in
set_option maxHeartbeats 4000000 in
theorem g_X3_isSent {ε : Nat → Int32} {d B cnt : Nat} {kp : Value} {ρ : pm_S} {I : Nat → Int32} {A : Nat → Nat → Int32} {za : Int32} (hdd : 1 ≤ d) (h : gq ε I) : pm_met mX3_isSent d 0 0 B [.ref (B + 36), .int za] cnt (pm_two (cl_L B kp I A) ρ) (pm_Qi (fun v σ' cnt' => (v = 0 ∨ v = 1) ∧ hvq ε B kp ρ cnt σ' cnt')) := by
  refine pm_enter 0 (by decide) (Nat.le_of_ble_eq_true rfl) rfl (fun G hG hR hF => ?_)
  refine pm_aloadn hG dX3_isSent_0 rfl ?_
  refine pm_getf hG dX3_isSent_1 (flX3_29 _ rfl) rfl rfl ?_
  refine pm_iloadn hG dX3_isSent_4 rfl ?_
  refine pm_bipush (v := 6) hG dX3_isSent_5 (by decide) ?_
  refine pm_callV (As := [.int za, .int 6]) (rest := []) hG hR dX3_isSent_7 (lkX3_35 _ rfl) okV_X9_get rfl rfl (tb_get (d := 0) rfl rfl (pm_tw_of 40 12 (by decide) (by decide) (by decide))) rfl rfl hdd (Nat.le_refl _) (Nat.le_refl _) (by decide) (pm_ki (fun v1 σ' cnt' hq => ?_))
  obtain ⟨I1, A1, rfl, rfl, h1⟩ := hv_id (kp := kp) (I := I) (A := A) h hq.2
  refine pm_iconst (v := (-1)) hG dX3_isSent_10 (by decide) ?_
  refine pm_icmp_eq (tgt := 18) hG dX3_isSent_11 rfl (fun c2 => ?_) (fun c2 => ?_)
  · refine pm_iconst (v := 0) hG dX3_isSent_18 (by decide) ?_
    exact pm_zret hG hF dX3_isSent_19 rfl (pm_nz (Or.inl rfl)) (Nat.le_refl _) (Nat.le_refl _) ⟨_, rfl, (Or.inl rfl), _, _, rfl, rfl, h1⟩
  · refine pm_iconst (v := 1) hG dX3_isSent_14 (by decide) ?_
    refine pm_goto (tgt := 19) hG dX3_isSent_15 rfl ?_
    exact pm_zret hG hF dX3_isSent_19 rfl (pm_nz (Or.inr rfl)) (Nat.le_refl _) (Nat.le_refl _) ⟨_, rfl, (Or.inr rfl), _, _, rfl, rfl, h1⟩

set_option maxRecDepth 100000 in
set_option maxHeartbeats 4000000 in
theorem g_X3_onTheirWay {ε : Nat → Int32} {d B cnt : Nat} {kp : Value} {ρ : pm_S} {I : Nat → Int32} {A : Nat → Nat → Int32} (hdd : 2 ≤ d) (h : gq ε I) : pm_met mX3_onTheirWay d 0 0 B [.ref (B + 36)] cnt (pm_two (cl_L B kp I A) ρ) (pm_Qi (fun _ σ' cnt' => hvq ε B kp ρ cnt σ' cnt')) := by
  refine pm_enter 3 (by decide) (Nat.le_of_ble_eq_true rfl) rfl (fun G hG hR hF => ?_)
  refine pm_iconst (v := 0) hG dX3_onTheirWay_0 (by decide) ?_
  refine pm_istoreXn (loc' := [some (.ref (B + 36)), some (.int 0), none, none]) hG dX3_onTheirWay_1 (by decide) (pm_c1b rfl) rfl ?_
  refine pm_aloadn hG dX3_onTheirWay_2 rfl ?_
  refine pm_getf hG dX3_onTheirWay_3 (flX3_29 _ rfl) rfl rfl ?_
  refine pm_callV (As := []) (rest := []) hG hR dX3_onTheirWay_6 (lkX3_74 _ rfl) okV_X9_used rfl rfl (tb_used (d := 1) rfl) rfl rfl hdd (Nat.le_refl _) (Nat.le_refl _) (by decide) (pm_ki (fun v1 σ' cnt' hq => ?_))
  obtain ⟨I1, A1, rfl, rfl, h1⟩ := hv_id (kp := kp) (I := I) (A := A) h hq.2
  refine pm_istoreXn (loc' := [some (.ref (B + 36)), some (.int 0), some (.int v1), none]) hG dX3_onTheirWay_9 (by decide) (pm_c1b rfl) rfl ?_
  refine pm_iconst (v := 0) hG dX3_onTheirWay_10 (by decide) ?_
  refine pm_istoreXn (loc' := [some (.ref (B + 36)), some (.int 0), some (.int v1), some (.int 0)]) hG dX3_onTheirWay_11 (by decide) (pm_c1b rfl) rfl ?_
  have loop12 : ∀ (m12 : Nat) (I2 : Nat → Int32) (A2 : Nat → Nat → Int32) (x2_1 x2_3 : Int32), gq ε I2 → (¬ x2_3 < 0) → ((v1 : Int32).toInt - x2_3.toInt).toNat < m12 → pm_wp mX3_onTheirWay G B 12 [some (.ref (B + 36)), some (.int x2_1), some (.int v1), some (.int x2_3)] [] 0 0 cnt (pm_two (cl_L B kp I2 A2) ρ) := by
    intro m12
    induction m12 with
    | zero => intro I2 A2 x2_1 x2_3 _  _ hm; exact absurd hm (Nat.not_lt_zero _)
    | succ m12 ih12 =>
      intro I2 A2 x2_1 x2_3 h2 s12 hm12
      refine pm_iloadn hG dX3_onTheirWay_12 rfl ?_
      refine pm_iloadn hG dX3_onTheirWay_13 rfl ?_
      refine pm_icmp_ge (tgt := 54) hG dX3_onTheirWay_14 rfl (fun c3 => ?_) (fun c3 => ?_)
      · refine pm_iloadn hG dX3_onTheirWay_54 rfl ?_
        exact pm_iret hG hF dX3_onTheirWay_55 rfl (Nat.le_refl _) (Nat.le_refl _) ⟨_, rfl, _, _, rfl, rfl, h2⟩
      · refine pm_aloadn hG dX3_onTheirWay_17 rfl ?_
        refine pm_iloadn hG dX3_onTheirWay_18 rfl ?_
        refine pm_callV (As := [.int x2_3]) (rest := []) hG hR dX3_onTheirWay_19 (lkX3_55 _ rfl) okV_X3_isSent rfl rfl (g_X3_isSent (d := 1) (by decide) h2) rfl rfl hdd (Nat.le_refl _) (Nat.le_refl _) (by decide) (pm_ki (fun v4 σ' cnt' hq => ?_))
        obtain ⟨b4, I4, A4, rfl, rfl, h4⟩ := hq
        refine pm_if_eq (tgt := 48) hG dX3_onTheirWay_22 rfl (fun c5 => ?_) (fun c5 => ?_)
        · refine pm_iincX (v := x2_3 + 1) (loc' := [some (.ref (B + 36)), some (.int x2_1), some (.int v1), some (.int (x2_3 + 1))]) hG dX3_onTheirWay_48 rfl (by rfl) (by decide) (pm_c1b rfl) rfl ?_
          refine pm_goto (tgt := 12) hG dX3_onTheirWay_51 rfl ?_
          exact ih12 _ _ x2_1 (x2_3 + 1) h4 (pm_sd1 c3 s12) (Nat.lt_of_lt_of_le (pm_mu1 c3) (Nat.le_of_lt_succ hm12))
        · refine pm_aloadn hG dX3_onTheirWay_25 rfl ?_
          refine pm_getf hG dX3_onTheirWay_26 (flX3_29 _ rfl) rfl rfl ?_
          refine pm_iloadn hG dX3_onTheirWay_29 rfl ?_
          refine pm_bipush (v := 8) hG dX3_onTheirWay_30 (by decide) ?_
          refine pm_callV (As := [.int x2_3, .int 8]) (rest := []) hG hR dX3_onTheirWay_32 (lkX3_35 _ rfl) okV_X9_get rfl rfl (tb_get (d := 1) rfl rfl (pm_tw_of 40 12 (by decide) (by decide) (by decide))) rfl rfl hdd (Nat.le_refl _) (Nat.le_refl _) (by decide) (pm_ki (fun v6 σ' cnt' hq => ?_))
          obtain ⟨I6, A6, rfl, rfl, h6⟩ := hv_id (kp := kp) (I := I4) (A := A4) h4 hq.2
          refine pm_aloadn hG dX3_onTheirWay_35 rfl ?_
          refine pm_getf hG dX3_onTheirWay_36 (flX3_9 _ rfl) rfl rfl ?_
          refine pm_getf hG dX3_onTheirWay_39 (flX3_82 _ rfl) rfl rfl ?_
          refine pm_icmp_le (tgt := 48) hG dX3_onTheirWay_42 rfl (fun c7 => ?_) (fun c7 => ?_)
          · refine pm_iincX (v := x2_3 + 1) (loc' := [some (.ref (B + 36)), some (.int x2_1), some (.int v1), some (.int (x2_3 + 1))]) hG dX3_onTheirWay_48 rfl (by rfl) (by decide) (pm_c1b rfl) rfl ?_
            refine pm_goto (tgt := 12) hG dX3_onTheirWay_51 rfl ?_
            exact ih12 _ _ x2_1 (x2_3 + 1) h6 (pm_sd1 c3 s12) (Nat.lt_of_lt_of_le (pm_mu1 c3) (Nat.le_of_lt_succ hm12))
          · refine pm_iincX (v := x2_1 + 1) (loc' := [some (.ref (B + 36)), some (.int (x2_1 + 1)), some (.int v1), some (.int x2_3)]) hG dX3_onTheirWay_45 rfl (by rfl) (by decide) (pm_c1b rfl) rfl ?_
            refine pm_iincX (v := x2_3 + 1) (loc' := [some (.ref (B + 36)), some (.int (x2_1 + 1)), some (.int v1), some (.int (x2_3 + 1))]) hG dX3_onTheirWay_48 rfl (by rfl) (by decide) (pm_c1b rfl) rfl ?_
            refine pm_goto (tgt := 12) hG dX3_onTheirWay_51 rfl ?_
            exact ih12 _ _ (x2_1 + 1) (x2_3 + 1) h6 (pm_sd1 c3 s12) (Nat.lt_of_lt_of_le (pm_mu1 c3) (Nat.le_of_lt_succ hm12))
  exact loop12 _ _ _ 0 0 h1 (by decide) (Nat.lt_succ_self _)

set_option maxRecDepth 100000 in
set_option maxHeartbeats 4000000 in
theorem g_X11_count {ε : Nat → Int32} {d B cnt : Nat} {kp : Value} {ρ : pm_S} {I : Nat → Int32} {A : Nat → Nat → Int32} {za : Int32} (hdd : 3 ≤ d) (h : gq ε I) : pm_met mX11_count d 0 0 B [.ref (B + 0), .int za] cnt (pm_two (cl_L B kp I A) ρ) (pm_Qi (fun _ σ' cnt' => hvq ε B kp ρ cnt σ' cnt')) := by
  refine pm_enter 0 (by decide) (Nat.le_of_ble_eq_true rfl) rfl (fun G hG hR hF => ?_)
  refine pm_iloadn hG dX11_count_0 rfl ?_
  by_cases c1 : za = 0
  · refine pm_top (v := 0) c1 ?_
    refine pm_tswIn (tgt := 80) hG dX11_count_1 (by decide) (by decide) rfl rfl ?_
    refine pm_aloadn hG dX11_count_80 rfl ?_
    refine pm_getf hG dX11_count_81 (flX11_12 _ rfl) rfl rfl ?_
    refine pm_getf hG dX11_count_84 (flX11_82 _ rfl) rfl rfl ?_
    refine pm_callV (As := []) (rest := []) hG hR dX11_count_87 (lkX11_203 _ rfl) okV_X9_used rfl rfl (tb_used (d := 2) rfl) rfl rfl hdd (Nat.le_refl _) (Nat.le_refl _) (by decide) (pm_ki (fun v2 σ' cnt' hq => ?_))
    obtain ⟨I2, A2, rfl, rfl, h2⟩ := hv_id (kp := kp) (I := I) (A := A) h hq.2
    exact pm_iret hG hF dX11_count_90 rfl (Nat.le_refl _) (Nat.le_refl _) ⟨_, rfl, _, _, rfl, rfl, h2⟩
  by_cases c3 : za = 1
  · refine pm_top (v := 1) c3 ?_
    refine pm_tswIn (tgt := 91) hG dX11_count_1 (by decide) (by decide) rfl rfl ?_
    refine pm_aloadn hG dX11_count_91 rfl ?_
    refine pm_getf hG dX11_count_92 (flX11_12 _ rfl) rfl rfl ?_
    refine pm_getf hG dX11_count_95 (flX11_110 _ rfl) rfl rfl ?_
    exact pm_iret hG hF dX11_count_98 rfl (Nat.le_refl _) (Nat.le_refl _) ⟨_, rfl, _, _, rfl, rfl, h⟩
  by_cases c4 : za = 2
  · refine pm_top (v := 2) c4 ?_
    refine pm_tswIn (tgt := 99) hG dX11_count_1 (by decide) (by decide) rfl rfl ?_
    refine pm_aloadn hG dX11_count_99 rfl ?_
    refine pm_getf hG dX11_count_100 (flX11_12 _ rfl) rfl rfl ?_
    refine pm_getf hG dX11_count_103 (flX11_128 _ rfl) rfl rfl ?_
    refine pm_callV (As := []) (rest := []) hG hR dX11_count_106 (lkX11_203 _ rfl) okV_X9_used rfl rfl (tb_used (d := 2) rfl) rfl rfl hdd (Nat.le_refl _) (Nat.le_refl _) (by decide) (pm_ki (fun v5 σ' cnt' hq => ?_))
    obtain ⟨I5, A5, rfl, rfl, h5⟩ := hv_id (kp := kp) (I := I) (A := A) h hq.2
    exact pm_iret hG hF dX11_count_109 rfl (Nat.le_refl _) (Nat.le_refl _) ⟨_, rfl, _, _, rfl, rfl, h5⟩
  by_cases c6 : za = 3
  · refine pm_top (v := 3) c6 ?_
    refine pm_tswIn (tgt := 110) hG dX11_count_1 (by decide) (by decide) rfl rfl ?_
    refine pm_aloadn hG dX11_count_110 rfl ?_
    refine pm_getf hG dX11_count_111 (flX11_12 _ rfl) rfl rfl ?_
    refine pm_getf hG dX11_count_114 (flX11_161 _ rfl) rfl rfl ?_
    refine pm_callV (As := []) (rest := []) hG hR dX11_count_117 (lkX11_203 _ rfl) okV_X9_used rfl rfl (tb_used (d := 2) rfl) rfl rfl hdd (Nat.le_refl _) (Nat.le_refl _) (by decide) (pm_ki (fun v7 σ' cnt' hq => ?_))
    obtain ⟨I7, A7, rfl, rfl, h7⟩ := hv_id (kp := kp) (I := I) (A := A) h hq.2
    exact pm_iret hG hF dX11_count_120 rfl (Nat.le_refl _) (Nat.le_refl _) ⟨_, rfl, _, _, rfl, rfl, h7⟩
  by_cases c8 : za = 4
  · refine pm_top (v := 4) c8 ?_
    refine pm_tswIn (tgt := 121) hG dX11_count_1 (by decide) (by decide) rfl rfl ?_
    refine pm_aloadn hG dX11_count_121 rfl ?_
    refine pm_getf hG dX11_count_122 (flX11_12 _ rfl) rfl rfl ?_
    refine pm_getf hG dX11_count_125 (flX11_209 _ rfl) rfl rfl ?_
    refine pm_callV (As := []) (rest := []) hG hR dX11_count_128 (lkX11_203 _ rfl) okV_X9_used rfl rfl (tb_used (d := 2) rfl) rfl rfl hdd (Nat.le_refl _) (Nat.le_refl _) (by decide) (pm_ki (fun v9 σ' cnt' hq => ?_))
    obtain ⟨I9, A9, rfl, rfl, h9⟩ := hv_id (kp := kp) (I := I) (A := A) h hq.2
    exact pm_iret hG hF dX11_count_131 rfl (Nat.le_refl _) (Nat.le_refl _) ⟨_, rfl, _, _, rfl, rfl, h9⟩
  by_cases c10 : za = 5
  · refine pm_top (v := 5) c10 ?_
    refine pm_tswIn (tgt := 132) hG dX11_count_1 (by decide) (by decide) rfl rfl ?_
    refine pm_aloadn hG dX11_count_132 rfl ?_
    refine pm_getf hG dX11_count_133 (flX11_12 _ rfl) rfl rfl ?_
    refine pm_getf hG dX11_count_136 (flX11_224 _ rfl) rfl rfl ?_
    refine pm_callV (As := []) (rest := []) hG hR dX11_count_139 (lkX11_203 _ rfl) okV_X9_used rfl rfl (tb_used (d := 2) rfl) rfl rfl hdd (Nat.le_refl _) (Nat.le_refl _) (by decide) (pm_ki (fun v11 σ' cnt' hq => ?_))
    obtain ⟨I11, A11, rfl, rfl, h11⟩ := hv_id (kp := kp) (I := I) (A := A) h hq.2
    exact pm_iret hG hF dX11_count_142 rfl (Nat.le_refl _) (Nat.le_refl _) ⟨_, rfl, _, _, rfl, rfl, h11⟩
  by_cases c12 : za = 6
  · refine pm_top (v := 6) c12 ?_
    refine pm_tswIn (tgt := 143) hG dX11_count_1 (by decide) (by decide) rfl rfl ?_
    refine pm_aloadn hG dX11_count_143 rfl ?_
    refine pm_getf hG dX11_count_144 (flX11_12 _ rfl) rfl rfl ?_
    refine pm_getf hG dX11_count_147 (flX11_271 _ rfl) rfl rfl ?_
    refine pm_callV (As := []) (rest := []) hG hR dX11_count_150 (lkX11_203 _ rfl) okV_X9_used rfl rfl (tb_used (d := 2) rfl) rfl rfl hdd (Nat.le_refl _) (Nat.le_refl _) (by decide) (pm_ki (fun v13 σ' cnt' hq => ?_))
    obtain ⟨I13, A13, rfl, rfl, h13⟩ := hv_id (kp := kp) (I := I) (A := A) h hq.2
    exact pm_iret hG hF dX11_count_153 rfl (Nat.le_refl _) (Nat.le_refl _) ⟨_, rfl, _, _, rfl, rfl, h13⟩
  by_cases c14 : za = 7
  · refine pm_top (v := 7) c14 ?_
    refine pm_tswIn (tgt := 154) hG dX11_count_1 (by decide) (by decide) rfl rfl ?_
    refine pm_aloadn hG dX11_count_154 rfl ?_
    refine pm_getf hG dX11_count_155 (flX11_12 _ rfl) rfl rfl ?_
    refine pm_getf hG dX11_count_158 (flX11_277 _ rfl) rfl rfl ?_
    refine pm_callV (As := []) (rest := []) hG hR dX11_count_161 (lkX11_203 _ rfl) okV_X9_used rfl rfl (tb_used (d := 2) rfl) rfl rfl hdd (Nat.le_refl _) (Nat.le_refl _) (by decide) (pm_ki (fun v15 σ' cnt' hq => ?_))
    obtain ⟨I15, A15, rfl, rfl, h15⟩ := hv_id (kp := kp) (I := I) (A := A) h hq.2
    exact pm_iret hG hF dX11_count_164 rfl (Nat.le_refl _) (Nat.le_refl _) ⟨_, rfl, _, _, rfl, rfl, h15⟩
  by_cases c16 : za = 8
  · refine pm_top (v := 8) c16 ?_
    refine pm_tswIn (tgt := 165) hG dX11_count_1 (by decide) (by decide) rfl rfl ?_
    refine pm_aloadn hG dX11_count_165 rfl ?_
    refine pm_getf hG dX11_count_166 (flX11_12 _ rfl) rfl rfl ?_
    refine pm_getf hG dX11_count_169 (flX11_122 _ rfl) rfl rfl ?_
    exact pm_iret hG hF dX11_count_172 rfl (Nat.le_refl _) (Nat.le_refl _) ⟨_, rfl, _, _, rfl, rfl, h⟩
  by_cases c17 : za = 9
  · refine pm_top (v := 9) c17 ?_
    refine pm_tswIn (tgt := 173) hG dX11_count_1 (by decide) (by decide) rfl rfl ?_
    refine pm_aloadn hG dX11_count_173 rfl ?_
    refine pm_getf hG dX11_count_174 (flX11_12 _ rfl) rfl rfl ?_
    refine pm_getf hG dX11_count_177 (flX11_395 _ rfl) rfl rfl ?_
    exact pm_iret hG hF dX11_count_180 rfl (Nat.le_refl _) (Nat.le_refl _) ⟨_, rfl, _, _, rfl, rfl, h⟩
  by_cases c18 : za = 10
  · refine pm_top (v := 10) c18 ?_
    refine pm_tswIn (tgt := 181) hG dX11_count_1 (by decide) (by decide) rfl rfl ?_
    refine pm_aloadn hG dX11_count_181 rfl ?_
    refine pm_getf hG dX11_count_182 (flX11_12 _ rfl) rfl rfl ?_
    refine pm_getf hG dX11_count_185 (flX11_200 _ rfl) rfl rfl ?_
    refine pm_callV (As := []) (rest := []) hG hR dX11_count_188 (lkX11_203 _ rfl) okV_X9_used rfl rfl (tb_used (d := 2) rfl) rfl rfl hdd (Nat.le_refl _) (Nat.le_refl _) (by decide) (pm_ki (fun v19 σ' cnt' hq => ?_))
    obtain ⟨I19, A19, rfl, rfl, h19⟩ := hv_id (kp := kp) (I := I) (A := A) h hq.2
    exact pm_iret hG hF dX11_count_191 rfl (Nat.le_refl _) (Nat.le_refl _) ⟨_, rfl, _, _, rfl, rfl, h19⟩
  by_cases c20 : za = 11
  · refine pm_top (v := 11) c20 ?_
    refine pm_tswIn (tgt := 192) hG dX11_count_1 (by decide) (by decide) rfl rfl ?_
    refine pm_aloadn hG dX11_count_192 rfl ?_
    refine pm_getf hG dX11_count_193 (flX11_12 _ rfl) rfl rfl ?_
    refine pm_getf hG dX11_count_196 (flX11_128 _ rfl) rfl rfl ?_
    refine pm_bipush (v := 13) hG dX11_count_199 (by decide) ?_
    refine pm_iconst (v := 1) hG dX11_count_201 (by decide) ?_
    obtain ⟨k21, hk21, hu21⟩ := gq.used h 6 20 (by decide)
    have ht21 : pm_two (cl_L B kp I A) ρ 6 = some (.inr (9, [.int (nI 20), .int (nI 14), .ref (B + 7), .int (nI k21)])) := by rw [← hu21]; rfl
    refine pm_callV (As := [.int 13, .int 1]) (rest := []) hG hR dX11_count_202 (lkX11_164 _ rfl) okV_X9_rowsWith rfl rfl (tb_rowsWith (d := 2) (k := 13) ht21 rfl (by decide) (by decide) (by decide) hk21 (by omega) (by decide)) rfl rfl hdd (Nat.le_refl _) (Nat.le_refl _) (by decide) (pm_ki (fun v21 σ' cnt' hq => ?_))
    obtain ⟨I21, A21, rfl, rfl, h21⟩ := hv_id (kp := kp) (I := I) (A := A) h hq.2
    exact pm_iret hG hF dX11_count_205 rfl (Nat.le_refl _) (Nat.le_refl _) ⟨_, rfl, _, _, rfl, rfl, h21⟩
  by_cases c22 : za = 12
  · refine pm_top (v := 12) c22 ?_
    refine pm_tswIn (tgt := 206) hG dX11_count_1 (by decide) (by decide) rfl rfl ?_
    refine pm_aloadn hG dX11_count_206 rfl ?_
    refine pm_getf hG dX11_count_207 (flX11_67 _ rfl) rfl rfl ?_
    refine pm_getf hG dX11_count_210 (flX11_358 _ rfl) rfl rfl ?_
    exact pm_iret hG hF dX11_count_213 rfl (Nat.le_refl _) (Nat.le_refl _) ⟨_, rfl, _, _, rfl, rfl, h⟩
  by_cases c23 : za = 13
  · refine pm_top (v := 13) c23 ?_
    refine pm_tswIn (tgt := 214) hG dX11_count_1 (by decide) (by decide) rfl rfl ?_
    refine pm_aloadn hG dX11_count_214 rfl ?_
    refine pm_getf hG dX11_count_215 (flX11_12 _ rfl) rfl rfl ?_
    refine pm_getf hG dX11_count_218 (flX11_386 _ rfl) rfl rfl ?_
    refine pm_callV (As := []) (rest := []) hG hR dX11_count_221 (lkX11_203 _ rfl) okV_X9_used rfl rfl (tb_used (d := 2) rfl) rfl rfl hdd (Nat.le_refl _) (Nat.le_refl _) (by decide) (pm_ki (fun v24 σ' cnt' hq => ?_))
    obtain ⟨I24, A24, rfl, rfl, h24⟩ := hv_id (kp := kp) (I := I) (A := A) h hq.2
    exact pm_iret hG hF dX11_count_224 rfl (Nat.le_refl _) (Nat.le_refl _) ⟨_, rfl, _, _, rfl, rfl, h24⟩
  by_cases c25 : za = 14
  · refine pm_top (v := 14) c25 ?_
    refine pm_tswIn (tgt := 225) hG dX11_count_1 (by decide) (by decide) rfl rfl ?_
    refine pm_aloadn hG dX11_count_225 rfl ?_
    refine pm_getf hG dX11_count_226 (flX11_12 _ rfl) rfl rfl ?_
    refine pm_getf hG dX11_count_229 (flX11_128 _ rfl) rfl rfl ?_
    refine pm_bipush (v := 7) hG dX11_count_232 (by decide) ?_
    obtain ⟨k26, hk26, hu26⟩ := gq.used h 6 20 (by decide)
    have ht26 : pm_two (cl_L B kp I A) ρ 6 = some (.inr (9, [.int (nI 20), .int (nI 14), .ref (B + 7), .int (nI k26)])) := by rw [← hu26]; rfl
    refine pm_callV (As := [.int 7]) (rest := []) hG hR dX11_count_234 (lkX11_398 _ rfl) okV_X9_sumOf rfl rfl (tb_sumOf (d := 2) (by decide) ht26 rfl (pm_tw_of 20 14 (by decide) (by decide) (by decide)) (by omega)) rfl rfl hdd (Nat.le_refl _) (Nat.le_refl _) (by decide) (pm_ki (fun v26 σ' cnt' hq => ?_))
    obtain ⟨I26, A26, rfl, rfl, h26⟩ := hv_id (kp := kp) (I := I) (A := A) h hq
    exact pm_iret hG hF dX11_count_237 rfl (Nat.le_refl _) (Nat.le_refl _) ⟨_, rfl, _, _, rfl, rfl, h26⟩
  by_cases c27 : za = 15
  · refine pm_top (v := 15) c27 ?_
    refine pm_tswIn (tgt := 238) hG dX11_count_1 (by decide) (by decide) rfl rfl ?_
    refine pm_aloadn hG dX11_count_238 rfl ?_
    refine pm_getf hG dX11_count_239 (flX11_39 _ rfl) rfl rfl ?_
    refine pm_callV (As := []) (rest := []) hG hR dX11_count_242 (lkX11_401 _ rfl) okV_X3_onTheirWay rfl rfl (g_X3_onTheirWay (d := 2) (by decide) h) rfl rfl hdd (Nat.le_refl _) (Nat.le_refl _) (by decide) (pm_ki (fun v28 σ' cnt' hq => ?_))
    obtain ⟨I28, A28, rfl, rfl, h28⟩ := hq
    exact pm_iret hG hF dX11_count_245 rfl (Nat.le_refl _) (Nat.le_refl _) ⟨_, rfl, _, _, rfl, rfl, h28⟩
  have tc1 : ¬ za.toInt = 0 := fun q => c1 (Int32.toInt_inj.mp q)
  have tc3 : ¬ za.toInt = 1 := fun q => c3 (Int32.toInt_inj.mp q)
  have tc4 : ¬ za.toInt = 2 := fun q => c4 (Int32.toInt_inj.mp q)
  have tc6 : ¬ za.toInt = 3 := fun q => c6 (Int32.toInt_inj.mp q)
  have tc8 : ¬ za.toInt = 4 := fun q => c8 (Int32.toInt_inj.mp q)
  have tc10 : ¬ za.toInt = 5 := fun q => c10 (Int32.toInt_inj.mp q)
  have tc12 : ¬ za.toInt = 6 := fun q => c12 (Int32.toInt_inj.mp q)
  have tc14 : ¬ za.toInt = 7 := fun q => c14 (Int32.toInt_inj.mp q)
  have tc16 : ¬ za.toInt = 8 := fun q => c16 (Int32.toInt_inj.mp q)
  have tc17 : ¬ za.toInt = 9 := fun q => c17 (Int32.toInt_inj.mp q)
  have tc18 : ¬ za.toInt = 10 := fun q => c18 (Int32.toInt_inj.mp q)
  have tc20 : ¬ za.toInt = 11 := fun q => c20 (Int32.toInt_inj.mp q)
  have tc22 : ¬ za.toInt = 12 := fun q => c22 (Int32.toInt_inj.mp q)
  have tc23 : ¬ za.toInt = 13 := fun q => c23 (Int32.toInt_inj.mp q)
  have tc25 : ¬ za.toInt = 14 := fun q => c25 (Int32.toInt_inj.mp q)
  have tc27 : ¬ za.toInt = 15 := fun q => c27 (Int32.toInt_inj.mp q)
  refine pm_tswOut (tgt := 246) hG dX11_count_1 (by omega) rfl ?_
  refine pm_aloadn hG dX11_count_246 rfl ?_
  refine pm_ldc hG dX11_count_247 (ctX11_109 _ rfl) ?_
  refine pm_callV (As := [.int (-1000001)]) (rest := []) hG hR dX11_count_249 (lkX11_97 _ rfl) okV_X11_told rfl rfl (sx_told (d := 2) (by decide) rfl rfl) rfl rfl hdd (Nat.le_refl _) (Nat.le_refl _) (by decide) (pm_ki (fun v29 σ' cnt' hq => ?_))
  obtain ⟨-, ⟨g29, hg29⟩, hc29⟩ := hq
  obtain ⟨I29, A29, rfl, rfl, h29⟩ := hv_a53 (kp := kp) (I := I) (A := A) h ⟨hg29, hc29⟩
  exact pm_iret hG hF dX11_count_252 rfl (Nat.le_refl _) (Nat.le_refl _) ⟨_, rfl, _, _, rfl, rfl, h29⟩

set_option maxRecDepth 100000 in
set_option maxHeartbeats 4000000 in
theorem g_X7_bringTravellers {ε : Nat → Int32} {d B cnt : Nat} {kp : Value} {ρ : pm_S} {I : Nat → Int32} {A : Nat → Nat → Int32} (hdd : 1 ≤ d) (h : gq ε I) : pm_met mX7_bringTravellers d 0 0 B [.ref (B + 1)] cnt (pm_two (cl_L B kp I A) ρ) (pm_Qv (fun σ' cnt' => hvq ε B kp ρ cnt σ' cnt')) := by
  refine pm_enter 2 (by decide) (Nat.le_of_ble_eq_true rfl) rfl (fun G hG hR hF => ?_)
  refine pm_aloadn hG dX7_bringTravellers_0 rfl ?_
  refine pm_getf hG dX7_bringTravellers_1 (flX7_23 _ rfl) rfl rfl ?_
  refine pm_callV (As := []) (rest := []) hG hR dX7_bringTravellers_4 (lkX7_79 _ rfl) okV_X9_used rfl rfl (tb_used (d := 0) rfl) rfl rfl hdd (Nat.le_refl _) (Nat.le_refl _) (by decide) (pm_ki (fun v1 σ' cnt' hq => ?_))
  obtain ⟨I1, A1, rfl, rfl, h1⟩ := hv_id (kp := kp) (I := I) (A := A) h hq.2
  refine pm_istoreXn (loc' := [some (.ref (B + 1)), some (.int v1), none]) hG dX7_bringTravellers_7 (by decide) (pm_c1b rfl) rfl ?_
  refine pm_iconst (v := 0) hG dX7_bringTravellers_8 (by decide) ?_
  refine pm_istoreXn (loc' := [some (.ref (B + 1)), some (.int v1), some (.int 0)]) hG dX7_bringTravellers_9 (by decide) (pm_c1b rfl) rfl ?_
  have loop10 : ∀ (m10 : Nat) (I2 : Nat → Int32) (A2 : Nat → Nat → Int32) (x2_2 : Int32), gq ε I2 → (¬ x2_2 < 0) → ((v1 : Int32).toInt - x2_2.toInt).toNat < m10 → pm_wp mX7_bringTravellers G B 10 [some (.ref (B + 1)), some (.int v1), some (.int x2_2)] [] 0 0 cnt (pm_two (cl_L B kp I2 A2) ρ) := by
    intro m10
    induction m10 with
    | zero => intro I2 A2 x2_2 _  _ hm; exact absurd hm (Nat.not_lt_zero _)
    | succ m10 ih10 =>
      intro I2 A2 x2_2 h2 s10 hm10
      refine pm_iloadn hG dX7_bringTravellers_10 rfl ?_
      refine pm_iloadn hG dX7_bringTravellers_11 rfl ?_
      refine pm_icmp_ge (tgt := 68) hG dX7_bringTravellers_12 rfl (fun c3 => ?_) (fun c3 => ?_)
      · exact pm_vret hG hF dX7_bringTravellers_68 rfl (Nat.le_refl _) (Nat.le_refl _) ⟨rfl, _, _, rfl, rfl, h2⟩
      · refine pm_aloadn hG dX7_bringTravellers_15 rfl ?_
        refine pm_getf hG dX7_bringTravellers_16 (flX7_23 _ rfl) rfl rfl ?_
        refine pm_iloadn hG dX7_bringTravellers_19 rfl ?_
        refine pm_iconst (v := 4) hG dX7_bringTravellers_20 (by decide) ?_
        refine pm_callV (As := [.int x2_2, .int 4]) (rest := []) hG hR dX7_bringTravellers_21 (lkX7_83 _ rfl) okV_X9_get rfl rfl (tb_get (d := 0) rfl rfl (pm_tw_of 20 14 (by decide) (by decide) (by decide))) rfl rfl hdd (Nat.le_refl _) (Nat.le_refl _) (by decide) (pm_ki (fun v4 σ' cnt' hq => ?_))
        obtain ⟨I4, A4, rfl, rfl, h4⟩ := hv_id (kp := kp) (I := I2) (A := A2) h2 hq.2
        refine pm_if_ge (tgt := 62) hG dX7_bringTravellers_24 rfl (fun c5 => ?_) (fun c5 => ?_)
        · refine pm_iincX (v := x2_2 + 1) (loc' := [some (.ref (B + 1)), some (.int v1), some (.int (x2_2 + 1))]) hG dX7_bringTravellers_62 rfl (by rfl) (by decide) (pm_c1b rfl) rfl ?_
          refine pm_goto (tgt := 10) hG dX7_bringTravellers_65 rfl ?_
          exact ih10 _ _ (x2_2 + 1) h4 (pm_sd1 c3 s10) (Nat.lt_of_lt_of_le (pm_mu1 c3) (Nat.le_of_lt_succ hm10))
        · refine pm_aloadn hG dX7_bringTravellers_27 rfl ?_
          refine pm_getf hG dX7_bringTravellers_28 (flX7_23 _ rfl) rfl rfl ?_
          refine pm_iloadn hG dX7_bringTravellers_31 rfl ?_
          refine pm_bipush (v := 6) hG dX7_bringTravellers_32 (by decide) ?_
          refine pm_callV (As := [.int x2_2, .int 6]) (rest := []) hG hR dX7_bringTravellers_34 (lkX7_83 _ rfl) okV_X9_get rfl rfl (tb_get (d := 0) rfl rfl (pm_tw_of 20 14 (by decide) (by decide) (by decide))) rfl rfl hdd (Nat.le_refl _) (Nat.le_refl _) (by decide) (pm_ki (fun v6 σ' cnt' hq => ?_))
          obtain ⟨I6, A6, rfl, rfl, h6⟩ := hv_id (kp := kp) (I := I4) (A := A4) h4 hq.2
          refine pm_aloadn hG dX7_bringTravellers_37 rfl ?_
          refine pm_getf hG dX7_bringTravellers_38 (flX7_72 _ rfl) rfl rfl ?_
          refine pm_icmp_gt (tgt := 62) hG dX7_bringTravellers_41 rfl (fun c7 => ?_) (fun c7 => ?_)
          · refine pm_iincX (v := x2_2 + 1) (loc' := [some (.ref (B + 1)), some (.int v1), some (.int (x2_2 + 1))]) hG dX7_bringTravellers_62 rfl (by rfl) (by decide) (pm_c1b rfl) rfl ?_
            refine pm_goto (tgt := 10) hG dX7_bringTravellers_65 rfl ?_
            exact ih10 _ _ (x2_2 + 1) h6 (pm_sd1 c3 s10) (Nat.lt_of_lt_of_le (pm_mu1 c3) (Nat.le_of_lt_succ hm10))
          · refine pm_aloadn hG dX7_bringTravellers_44 rfl ?_
            refine pm_getf hG dX7_bringTravellers_45 (flX7_23 _ rfl) rfl rfl ?_
            refine pm_iloadn hG dX7_bringTravellers_48 rfl ?_
            refine pm_iconst (v := 4) hG dX7_bringTravellers_49 (by decide) ?_
            refine pm_aloadn hG dX7_bringTravellers_50 rfl ?_
            refine pm_getf hG dX7_bringTravellers_51 (flX7_23 _ rfl) rfl rfl ?_
            refine pm_iloadn hG dX7_bringTravellers_54 rfl ?_
            refine pm_iconst (v := 5) hG dX7_bringTravellers_55 (by decide) ?_
            refine pm_callV (As := [.int x2_2, .int 5]) (rest := [.int 4, .int x2_2, .ref (B + 6)]) hG hR dX7_bringTravellers_56 (lkX7_83 _ rfl) okV_X9_get rfl rfl (tb_get (d := 0) rfl rfl (pm_tw_of 20 14 (by decide) (by decide) (by decide))) rfl rfl hdd (Nat.le_refl _) (Nat.le_refl _) (by first | decide | exact Nat.le_of_ble_eq_true rfl) (pm_ki (fun v8 σ' cnt' hq => ?_))
            obtain ⟨I8, A8, rfl, rfl, h8⟩ := hv_id (kp := kp) (I := I6) (A := A6) h6 hq.2
            refine pm_callV (As := [.int x2_2, .int 4, .int v8]) (rest := []) hG hR dX7_bringTravellers_59 (lkX7_61 _ rfl) okV_X9_set rfl rfl (tb_set (d := 0) rfl rfl (pm_tw_of 20 14 (by decide) (by decide) (by decide)) (by decide)) rfl rfl hdd (Nat.le_refl _) (Nat.le_refl _) (by decide) (pm_kv (fun σ' cnt' hq => ?_))
            obtain ⟨I9, A9, rfl, rfl, h9⟩ := hv_a7 (kp := kp) (I := I8) (A := A8) h8 hq
            refine pm_iincX (v := x2_2 + 1) (loc' := [some (.ref (B + 1)), some (.int v1), some (.int (x2_2 + 1))]) hG dX7_bringTravellers_62 rfl (by rfl) (by decide) (pm_c1b rfl) rfl ?_
            refine pm_goto (tgt := 10) hG dX7_bringTravellers_65 rfl ?_
            exact ih10 _ _ (x2_2 + 1) h9 (pm_sd1 c3 s10) (Nat.lt_of_lt_of_le (pm_mu1 c3) (Nat.le_of_lt_succ hm10))
  exact loop10 _ _ _ 0 h1 (by decide) (Nat.lt_succ_self _)

set_option maxRecDepth 100000 in
set_option maxHeartbeats 4000000 in
theorem g_X7_takeBackLent {ε : Nat → Int32} {d B cnt : Nat} {kp : Value} {ρ : pm_S} {I : Nat → Int32} {A : Nat → Nat → Int32} (hdd : 2 ≤ d) (h : gq ε I) : pm_met mX7_takeBackLent d 0 0 B [.ref (B + 1)] cnt (pm_two (cl_L B kp I A) ρ) (pm_Qv (fun σ' cnt' => hvq ε B kp ρ cnt σ' cnt')) := by
  refine pm_enter 2 (by decide) (Nat.le_of_ble_eq_true rfl) rfl (fun G hG hR hF => ?_)
  refine pm_aloadn hG dX7_takeBackLent_0 rfl ?_
  refine pm_getf hG dX7_takeBackLent_1 (flX7_26 _ rfl) rfl rfl ?_
  refine pm_callV (As := []) (rest := []) hG hR dX7_takeBackLent_4 (lkX7_79 _ rfl) okV_X9_used rfl rfl (tb_used (d := 1) rfl) rfl rfl hdd (Nat.le_refl _) (Nat.le_refl _) (by decide) (pm_ki (fun v1 σ' cnt' hq => ?_))
  obtain ⟨I1, A1, rfl, rfl, h1⟩ := hv_id (kp := kp) (I := I) (A := A) h hq.2
  refine pm_istoreXn (loc' := [some (.ref (B + 1)), some (.int v1), none]) hG dX7_takeBackLent_7 (by decide) (pm_c1b rfl) rfl ?_
  refine pm_iconst (v := 0) hG dX7_takeBackLent_8 (by decide) ?_
  refine pm_istoreXn (loc' := [some (.ref (B + 1)), some (.int v1), some (.int 0)]) hG dX7_takeBackLent_9 (by decide) (pm_c1b rfl) rfl ?_
  have loop10 : ∀ (m10 : Nat) (I2 : Nat → Int32) (A2 : Nat → Nat → Int32) (x2_2 : Int32), gq ε I2 → (¬ x2_2 < 0) → ((v1 : Int32).toInt - x2_2.toInt).toNat < m10 → pm_wp mX7_takeBackLent G B 10 [some (.ref (B + 1)), some (.int v1), some (.int x2_2)] [] 0 0 cnt (pm_two (cl_L B kp I2 A2) ρ) := by
    intro m10
    induction m10 with
    | zero => intro I2 A2 x2_2 _  _ hm; exact absurd hm (Nat.not_lt_zero _)
    | succ m10 ih10 =>
      intro I2 A2 x2_2 h2 s10 hm10
      refine pm_iloadn hG dX7_takeBackLent_10 rfl ?_
      refine pm_iloadn hG dX7_takeBackLent_11 rfl ?_
      refine pm_icmp_ge (tgt := 52) hG dX7_takeBackLent_12 rfl (fun c3 => ?_) (fun c3 => ?_)
      · exact pm_vret hG hF dX7_takeBackLent_52 rfl (Nat.le_refl _) (Nat.le_refl _) ⟨rfl, _, _, rfl, rfl, h2⟩
      · refine pm_aloadn hG dX7_takeBackLent_15 rfl ?_
        refine pm_iloadn hG dX7_takeBackLent_16 rfl ?_
        refine pm_callV (As := [.int x2_2]) (rest := []) hG hR dX7_takeBackLent_17 (lkX7_138 _ rfl) okV_X7_isLent rfl rfl (g_X7_isLent (d := 1) (by decide) h2) rfl rfl hdd (Nat.le_refl _) (Nat.le_refl _) (by decide) (pm_ki (fun v4 σ' cnt' hq => ?_))
        obtain ⟨b4, I4, A4, rfl, rfl, h4⟩ := hq
        refine pm_if_eq (tgt := 46) hG dX7_takeBackLent_20 rfl (fun c5 => ?_) (fun c5 => ?_)
        · refine pm_iincX (v := x2_2 + 1) (loc' := [some (.ref (B + 1)), some (.int v1), some (.int (x2_2 + 1))]) hG dX7_takeBackLent_46 rfl (by rfl) (by decide) (pm_c1b rfl) rfl ?_
          refine pm_goto (tgt := 10) hG dX7_takeBackLent_49 rfl ?_
          exact ih10 _ _ (x2_2 + 1) h4 (pm_sd1 c3 s10) (Nat.lt_of_lt_of_le (pm_mu1 c3) (Nat.le_of_lt_succ hm10))
        · refine pm_aloadn hG dX7_takeBackLent_23 rfl ?_
          refine pm_getf hG dX7_takeBackLent_24 (flX7_26 _ rfl) rfl rfl ?_
          refine pm_iloadn hG dX7_takeBackLent_27 rfl ?_
          refine pm_iconst (v := 4) hG dX7_takeBackLent_28 (by decide) ?_
          refine pm_callV (As := [.int x2_2, .int 4]) (rest := []) hG hR dX7_takeBackLent_29 (lkX7_83 _ rfl) okV_X9_get rfl rfl (tb_get (d := 1) rfl rfl (pm_tw_of 20 6 (by decide) (by decide) (by decide))) rfl rfl hdd (Nat.le_refl _) (Nat.le_refl _) (by decide) (pm_ki (fun v6 σ' cnt' hq => ?_))
          obtain ⟨I6, A6, rfl, rfl, h6⟩ := hv_id (kp := kp) (I := I4) (A := A4) h4 hq.2
          refine pm_aloadn hG dX7_takeBackLent_32 rfl ?_
          refine pm_getf hG dX7_takeBackLent_33 (flX7_72 _ rfl) rfl rfl ?_
          refine pm_icmp_ge (tgt := 46) hG dX7_takeBackLent_36 rfl (fun c7 => ?_) (fun c7 => ?_)
          · refine pm_iincX (v := x2_2 + 1) (loc' := [some (.ref (B + 1)), some (.int v1), some (.int (x2_2 + 1))]) hG dX7_takeBackLent_46 rfl (by rfl) (by decide) (pm_c1b rfl) rfl ?_
            refine pm_goto (tgt := 10) hG dX7_takeBackLent_49 rfl ?_
            exact ih10 _ _ (x2_2 + 1) h6 (pm_sd1 c3 s10) (Nat.lt_of_lt_of_le (pm_mu1 c3) (Nat.le_of_lt_succ hm10))
          · refine pm_aloadn hG dX7_takeBackLent_39 rfl ?_
            refine pm_iloadn hG dX7_takeBackLent_40 rfl ?_
            refine pm_iconst (v := (-1)) hG dX7_takeBackLent_41 (by decide) ?_
            refine pm_iconst (v := (-1)) hG dX7_takeBackLent_42 (by decide) ?_
            refine pm_callV (As := [.int x2_2, .int (-1), .int (-1)]) (rest := []) hG hR dX7_takeBackLent_43 (lkX7_122 _ rfl) okV_X7_setLent rfl rfl (g_X7_setLent (d := 1) (by decide) h6) rfl rfl hdd (Nat.le_refl _) (Nat.le_refl _) (by decide) (pm_kv (fun σ' cnt' hq => ?_))
            obtain ⟨I8, A8, rfl, rfl, h8⟩ := hq
            refine pm_iincX (v := x2_2 + 1) (loc' := [some (.ref (B + 1)), some (.int v1), some (.int (x2_2 + 1))]) hG dX7_takeBackLent_46 rfl (by rfl) (by decide) (pm_c1b rfl) rfl ?_
            refine pm_goto (tgt := 10) hG dX7_takeBackLent_49 rfl ?_
            exact ih10 _ _ (x2_2 + 1) h8 (pm_sd1 c3 s10) (Nat.lt_of_lt_of_le (pm_mu1 c3) (Nat.le_of_lt_succ hm10))
  exact loop10 _ _ _ 0 h1 (by decide) (Nat.lt_succ_self _)

set_option maxRecDepth 100000 in
set_option maxHeartbeats 4000000 in
theorem g_X7_isLiving {ε : Nat → Int32} {d B cnt : Nat} {kp : Value} {ρ : pm_S} {I : Nat → Int32} {A : Nat → Nat → Int32} {za : Int32} (hdd : 1 ≤ d) (h : gq ε I) : pm_met mX7_isLiving d 0 0 B [.ref (B + 1), .int za] cnt (pm_two (cl_L B kp I A) ρ) (pm_Qi (fun v σ' cnt' => (v = 0 ∨ v = 1) ∧ hvq ε B kp ρ cnt σ' cnt')) := by
  refine pm_enter 0 (by decide) (Nat.le_of_ble_eq_true rfl) rfl (fun G hG hR hF => ?_)
  refine pm_aloadn hG dX7_isLiving_0 rfl ?_
  refine pm_getf hG dX7_isLiving_1 (flX7_23 _ rfl) rfl rfl ?_
  refine pm_iloadn hG dX7_isLiving_4 rfl ?_
  refine pm_callV (As := [.int za]) (rest := []) hG hR dX7_isLiving_5 (lkX7_93 _ rfl) okV_X9_has rfl rfl (tb_has (d := 0) rfl) rfl rfl hdd (Nat.le_refl _) (Nat.le_refl _) (by decide) (pm_ki (fun v1 σ' cnt' hq => ?_))
  have b1 := pm_b01 hq.1
  obtain ⟨I1, A1, rfl, rfl, h1⟩ := hv_id (kp := kp) (I := I) (A := A) h hq.2
  refine pm_if_eq (tgt := 28) hG dX7_isLiving_8 rfl (fun c2 => ?_) (fun c2 => ?_)
  · refine pm_iconst (v := 0) hG dX7_isLiving_28 (by decide) ?_
    exact pm_zret hG hF dX7_isLiving_29 rfl (pm_nz (Or.inl rfl)) (Nat.le_refl _) (Nat.le_refl _) ⟨_, rfl, (Or.inl rfl), _, _, rfl, rfl, h1⟩
  · refine pm_aloadn hG dX7_isLiving_11 rfl ?_
    refine pm_getf hG dX7_isLiving_12 (flX7_23 _ rfl) rfl rfl ?_
    refine pm_iloadn hG dX7_isLiving_15 rfl ?_
    refine pm_bipush (v := 9) hG dX7_isLiving_16 (by decide) ?_
    refine pm_callV (As := [.int za, .int 9]) (rest := []) hG hR dX7_isLiving_18 (lkX7_83 _ rfl) okV_X9_get rfl rfl (tb_get (d := 0) rfl rfl (pm_tw_of 20 14 (by decide) (by decide) (by decide))) rfl rfl hdd (Nat.le_refl _) (Nat.le_refl _) (by decide) (pm_ki (fun v3 σ' cnt' hq => ?_))
    obtain ⟨I3, A3, rfl, rfl, h3⟩ := hv_id (kp := kp) (I := I1) (A := A1) h1 hq.2
    refine pm_if_ne (tgt := 28) hG dX7_isLiving_21 rfl (fun c4 => ?_) (fun c4 => ?_)
    · refine pm_iconst (v := 0) hG dX7_isLiving_28 (by decide) ?_
      exact pm_zret hG hF dX7_isLiving_29 rfl (pm_nz (Or.inl rfl)) (Nat.le_refl _) (Nat.le_refl _) ⟨_, rfl, (Or.inl rfl), _, _, rfl, rfl, h3⟩
    · refine pm_iconst (v := 1) hG dX7_isLiving_24 (by decide) ?_
      refine pm_goto (tgt := 29) hG dX7_isLiving_25 rfl ?_
      exact pm_zret hG hF dX7_isLiving_29 rfl (pm_nz (Or.inr rfl)) (Nat.le_refl _) (Nat.le_refl _) ⟨_, rfl, (Or.inr rfl), _, _, rfl, rfl, h3⟩

set_option maxRecDepth 100000 in
set_option maxHeartbeats 4000000 in
theorem g_X7_collectRents {ε : Nat → Int32} {d B cnt : Nat} {kp : Value} {ρ : pm_S} {I : Nat → Int32} {A : Nat → Nat → Int32} (hdd : 2 ≤ d) (h : gq ε I) : pm_met mX7_collectRents d 0 0 B [.ref (B + 1)] cnt (pm_two (cl_L B kp I A) ρ) (pm_Qv (fun σ' cnt' => hvq ε B kp ρ cnt σ' cnt')) := by
  refine pm_enter 4 (by decide) (Nat.le_of_ble_eq_true rfl) rfl (fun G hG hR hF => ?_)
  refine pm_aloadn hG dX7_collectRents_0 rfl ?_
  refine pm_getf hG dX7_collectRents_1 (flX7_14 _ rfl) rfl rfl ?_
  refine pm_callV (As := []) (rest := []) hG hR dX7_collectRents_4 (lkX7_79 _ rfl) okV_X9_used rfl rfl (tb_used (d := 1) rfl) rfl rfl hdd (Nat.le_refl _) (Nat.le_refl _) (by decide) (pm_ki (fun v1 σ' cnt' hq => ?_))
  obtain ⟨I1, A1, rfl, rfl, h1⟩ := hv_id (kp := kp) (I := I) (A := A) h hq.2
  refine pm_istoreXn (loc' := [some (.ref (B + 1)), some (.int v1), none, none, none]) hG dX7_collectRents_7 (by decide) (pm_c1b rfl) rfl ?_
  refine pm_iconst (v := 0) hG dX7_collectRents_8 (by decide) ?_
  refine pm_istoreXn (loc' := [some (.ref (B + 1)), some (.int v1), some (.int 0), none, none]) hG dX7_collectRents_9 (by decide) (pm_c1b rfl) rfl ?_
  have loop10 : ∀ (m10 : Nat) (I2 : Nat → Int32) (A2 : Nat → Nat → Int32) (x2_2 : Int32), gq ε I2 → (¬ x2_2 < 0) → ((v1 : Int32).toInt - x2_2.toInt).toNat < m10 → pm_wp mX7_collectRents G B 10 [some (.ref (B + 1)), some (.int v1), some (.int x2_2), none, none] [] 0 0 cnt (pm_two (cl_L B kp I2 A2) ρ) := by
    intro m10
    induction m10 with
    | zero => intro I2 A2 x2_2 _  _ hm; exact absurd hm (Nat.not_lt_zero _)
    | succ m10 ih10 =>
      intro I2 A2 x2_2 h2 s10 hm10
      refine pm_iloadn hG dX7_collectRents_10 rfl ?_
      refine pm_iloadn hG dX7_collectRents_11 rfl ?_
      refine pm_icmp_ge (tgt := 91) hG dX7_collectRents_12 rfl (fun c3 => ?_) (fun c3 => ?_)
      · exact pm_vret hG hF dX7_collectRents_91 rfl (Nat.le_refl _) (Nat.le_refl _) ⟨rfl, _, _, rfl, rfl, h2⟩
      · refine pm_aloadn hG dX7_collectRents_15 rfl ?_
        refine pm_getf hG dX7_collectRents_16 (flX7_14 _ rfl) rfl rfl ?_
        refine pm_iloadn hG dX7_collectRents_19 rfl ?_
        refine pm_iconst (v := 0) hG dX7_collectRents_20 (by decide) ?_
        refine pm_callV (As := [.int x2_2, .int 0]) (rest := []) hG hR dX7_collectRents_21 (lkX7_83 _ rfl) okV_X9_get rfl rfl (tb_get (d := 1) rfl rfl (pm_tw_of 10 3 (by decide) (by decide) (by decide))) rfl rfl hdd (Nat.le_refl _) (Nat.le_refl _) (by decide) (pm_ki (fun v4 σ' cnt' hq => ?_))
        obtain ⟨I4, A4, rfl, rfl, h4⟩ := hv_id (kp := kp) (I := I2) (A := A2) h2 hq.2
        refine pm_istoreXn (loc' := [some (.ref (B + 1)), some (.int v1), some (.int x2_2), some (.int v4), none]) hG dX7_collectRents_24 (by decide) (pm_c1b rfl) rfl ?_
        refine pm_aloadn hG dX7_collectRents_25 rfl ?_
        refine pm_getf hG dX7_collectRents_26 (flX7_14 _ rfl) rfl rfl ?_
        refine pm_iloadn hG dX7_collectRents_29 rfl ?_
        refine pm_iconst (v := 1) hG dX7_collectRents_30 (by decide) ?_
        refine pm_callV (As := [.int x2_2, .int 1]) (rest := []) hG hR dX7_collectRents_31 (lkX7_83 _ rfl) okV_X9_get rfl rfl (tb_get (d := 1) rfl rfl (pm_tw_of 10 3 (by decide) (by decide) (by decide))) rfl rfl hdd (Nat.le_refl _) (Nat.le_refl _) (by decide) (pm_ki (fun v5 σ' cnt' hq => ?_))
        obtain ⟨I5, A5, rfl, rfl, h5⟩ := hv_id (kp := kp) (I := I4) (A := A4) h4 hq.2
        refine pm_istoreXi (loc' := [some (.ref (B + 1)), some (.int v1), some (.int x2_2), some (.int v4), some (.int v5)]) hG dX7_collectRents_34 (by decide) (pm_c1b rfl) rfl ?_
        refine pm_aloadn hG dX7_collectRents_36 rfl ?_
        refine pm_getf hG dX7_collectRents_37 (flX7_14 _ rfl) rfl rfl ?_
        refine pm_iloadn hG dX7_collectRents_40 rfl ?_
        refine pm_iconst (v := 2) hG dX7_collectRents_41 (by decide) ?_
        refine pm_callV (As := [.int x2_2, .int 2]) (rest := []) hG hR dX7_collectRents_42 (lkX7_83 _ rfl) okV_X9_get rfl rfl (tb_get (d := 1) rfl rfl (pm_tw_of 10 3 (by decide) (by decide) (by decide))) rfl rfl hdd (Nat.le_refl _) (Nat.le_refl _) (by decide) (pm_ki (fun v6 σ' cnt' hq => ?_))
        obtain ⟨I6, A6, rfl, rfl, h6⟩ := hv_id (kp := kp) (I := I5) (A := A5) h5 hq.2
        refine pm_if_eq (tgt := 51) hG dX7_collectRents_45 rfl (fun c7 => ?_) (fun c7 => ?_)
        · refine pm_aloadn hG dX7_collectRents_51 rfl ?_
          refine pm_iloadi hG dX7_collectRents_52 rfl ?_
          refine pm_callV (As := [.int v5]) (rest := []) hG hR dX7_collectRents_54 (lkX7_103 _ rfl) okV_X7_isLiving rfl rfl (g_X7_isLiving (d := 1) (by decide) h6) rfl rfl hdd (Nat.le_refl _) (Nat.le_refl _) (by decide) (pm_ki (fun v8 σ' cnt' hq => ?_))
          obtain ⟨b8, I8, A8, rfl, rfl, h8⟩ := hq
          refine pm_if_eq (tgt := 75) hG dX7_collectRents_57 rfl (fun c9 => ?_) (fun c9 => ?_)
          · refine pm_aloadn hG dX7_collectRents_75 rfl ?_
            refine pm_dup hG dX7_collectRents_76 rfl ?_
            refine pm_getf hG dX7_collectRents_77 (flX7_53 _ rfl) rfl rfl ?_
            refine pm_iloadn hG dX7_collectRents_80 rfl ?_
            refine pm_iadd hG dX7_collectRents_81 ?_
            refine pm_putf hG dX7_collectRents_82 (fwX7_53 _ rfl) rfl rfl rfl ?_
            refine pm_nrm (L' := cl_L B kp (ui I8 103 ((I8 103) + v4)) A8) (by decide) (Nat.le_of_ble_eq_true rfl) rfl ?_
            refine pm_iincX (v := x2_2 + 1) (loc' := [some (.ref (B + 1)), some (.int v1), some (.int (x2_2 + 1)), some (.int v4), some (.int v5)]) hG dX7_collectRents_85 rfl (by rfl) (by decide) (pm_c1b rfl) rfl ?_
            refine pm_goto (tgt := 10) hG dX7_collectRents_88 rfl ?_
            refine pm_fg 3 (loc' := [some (.ref (B + 1)), some (.int v1), some (.int (x2_2 + 1)), none, some (.int v5)]) rfl ?_
            refine pm_fg 4 (loc' := [some (.ref (B + 1)), some (.int v1), some (.int (x2_2 + 1)), none, none]) rfl ?_
            exact ih10 _ _ (x2_2 + 1) (gq.wi (k := 103) rfl h8) (pm_sd1 c3 s10) (Nat.lt_of_lt_of_le (pm_mu1 c3) (Nat.le_of_lt_succ hm10))
          · refine pm_aloadn hG dX7_collectRents_60 rfl ?_
            refine pm_getf hG dX7_collectRents_61 (flX7_23 _ rfl) rfl rfl ?_
            refine pm_iloadi hG dX7_collectRents_64 rfl ?_
            refine pm_bipush (v := 7) hG dX7_collectRents_66 (by decide) ?_
            refine pm_iloadn hG dX7_collectRents_68 rfl ?_
            refine pm_callV (As := [.int v5, .int 7, .int v4]) (rest := []) hG hR dX7_collectRents_69 (lkX7_125 _ rfl) okV_X9_add rfl rfl (tb_add (d := 1) (by decide) rfl rfl (pm_tw_of 20 14 (by decide) (by decide) (by decide)) (by decide)) rfl rfl hdd (Nat.le_refl _) (Nat.le_refl _) (by decide) (pm_kv (fun σ' cnt' hq => ?_))
            obtain ⟨I11, A11, rfl, rfl, h11⟩ := hv_a7 (kp := kp) (I := I8) (A := A8) h8 hq
            refine pm_goto (tgt := 85) hG dX7_collectRents_72 rfl ?_
            refine pm_iincX (v := x2_2 + 1) (loc' := [some (.ref (B + 1)), some (.int v1), some (.int (x2_2 + 1)), some (.int v4), some (.int v5)]) hG dX7_collectRents_85 rfl (by rfl) (by decide) (pm_c1b rfl) rfl ?_
            refine pm_goto (tgt := 10) hG dX7_collectRents_88 rfl ?_
            refine pm_fg 3 (loc' := [some (.ref (B + 1)), some (.int v1), some (.int (x2_2 + 1)), none, some (.int v5)]) rfl ?_
            refine pm_fg 4 (loc' := [some (.ref (B + 1)), some (.int v1), some (.int (x2_2 + 1)), none, none]) rfl ?_
            exact ih10 _ _ (x2_2 + 1) h11 (pm_sd1 c3 s10) (Nat.lt_of_lt_of_le (pm_mu1 c3) (Nat.le_of_lt_succ hm10))
        · refine pm_goto (tgt := 85) hG dX7_collectRents_48 rfl ?_
          refine pm_iincX (v := x2_2 + 1) (loc' := [some (.ref (B + 1)), some (.int v1), some (.int (x2_2 + 1)), some (.int v4), some (.int v5)]) hG dX7_collectRents_85 rfl (by rfl) (by decide) (pm_c1b rfl) rfl ?_
          refine pm_goto (tgt := 10) hG dX7_collectRents_88 rfl ?_
          refine pm_fg 3 (loc' := [some (.ref (B + 1)), some (.int v1), some (.int (x2_2 + 1)), none, some (.int v5)]) rfl ?_
          refine pm_fg 4 (loc' := [some (.ref (B + 1)), some (.int v1), some (.int (x2_2 + 1)), none, none]) rfl ?_
          exact ih10 _ _ (x2_2 + 1) h6 (pm_sd1 c3 s10) (Nat.lt_of_lt_of_le (pm_mu1 c3) (Nat.le_of_lt_succ hm10))
  exact loop10 _ _ _ 0 h1 (by decide) (Nat.lt_succ_self _)

set_option maxRecDepth 100000 in
set_option maxHeartbeats 4000000 in
theorem g_X7_payMen {ε : Nat → Int32} {d B cnt : Nat} {kp : Value} {ρ : pm_S} {I : Nat → Int32} {A : Nat → Nat → Int32} (hdd : 2 ≤ d) (h : gq ε I) : pm_met mX7_payMen d 0 0 B [.ref (B + 1)] cnt (pm_two (cl_L B kp I A) ρ) (pm_Qv (fun σ' cnt' => hvq ε B kp ρ cnt σ' cnt')) := by
  refine pm_enter 3 (by decide) (Nat.le_of_ble_eq_true rfl) rfl (fun G hG hR hF => ?_)
  refine pm_aloadn hG dX7_payMen_0 rfl ?_
  refine pm_getf hG dX7_payMen_1 (flX7_23 _ rfl) rfl rfl ?_
  refine pm_callV (As := []) (rest := []) hG hR dX7_payMen_4 (lkX7_79 _ rfl) okV_X9_used rfl rfl (tb_used (d := 1) rfl) rfl rfl hdd (Nat.le_refl _) (Nat.le_refl _) (by decide) (pm_ki (fun v1 σ' cnt' hq => ?_))
  obtain ⟨I1, A1, rfl, rfl, h1⟩ := hv_id (kp := kp) (I := I) (A := A) h hq.2
  refine pm_istoreXn (loc' := [some (.ref (B + 1)), some (.int v1), none, none]) hG dX7_payMen_7 (by decide) (pm_c1b rfl) rfl ?_
  refine pm_iconst (v := 0) hG dX7_payMen_8 (by decide) ?_
  refine pm_istoreXn (loc' := [some (.ref (B + 1)), some (.int v1), some (.int 0), none]) hG dX7_payMen_9 (by decide) (pm_c1b rfl) rfl ?_
  have loop10 : ∀ (m10 : Nat) (I2 : Nat → Int32) (A2 : Nat → Nat → Int32) (x2_2 : Int32), gq ε I2 → (¬ x2_2 < 0) → ((v1 : Int32).toInt - x2_2.toInt).toNat < m10 → pm_wp mX7_payMen G B 10 [some (.ref (B + 1)), some (.int v1), some (.int x2_2), none] [] 0 0 cnt (pm_two (cl_L B kp I2 A2) ρ) := by
    intro m10
    induction m10 with
    | zero => intro I2 A2 x2_2 _  _ hm; exact absurd hm (Nat.not_lt_zero _)
    | succ m10 ih10 =>
      intro I2 A2 x2_2 h2 s10 hm10
      refine pm_iloadn hG dX7_payMen_10 rfl ?_
      refine pm_iloadn hG dX7_payMen_11 rfl ?_
      refine pm_icmp_ge (tgt := 68) hG dX7_payMen_12 rfl (fun c3 => ?_) (fun c3 => ?_)
      · exact pm_vret hG hF dX7_payMen_68 rfl (Nat.le_refl _) (Nat.le_refl _) ⟨rfl, _, _, rfl, rfl, h2⟩
      · refine pm_aloadn hG dX7_payMen_15 rfl ?_
        refine pm_getf hG dX7_payMen_16 (flX7_23 _ rfl) rfl rfl ?_
        refine pm_iloadn hG dX7_payMen_19 rfl ?_
        refine pm_bipush (v := 8) hG dX7_payMen_20 (by decide) ?_
        refine pm_callV (As := [.int x2_2, .int 8]) (rest := []) hG hR dX7_payMen_22 (lkX7_83 _ rfl) okV_X9_get rfl rfl (tb_get (d := 1) rfl rfl (pm_tw_of 20 14 (by decide) (by decide) (by decide))) rfl rfl hdd (Nat.le_refl _) (Nat.le_refl _) (by decide) (pm_ki (fun v4 σ' cnt' hq => ?_))
        obtain ⟨I4, A4, rfl, rfl, h4⟩ := hv_id (kp := kp) (I := I2) (A := A2) h2 hq.2
        refine pm_aloadn hG dX7_payMen_25 rfl ?_
        refine pm_getf hG dX7_payMen_26 (flX7_23 _ rfl) rfl rfl ?_
        refine pm_iloadn hG dX7_payMen_29 rfl ?_
        refine pm_bipush (v := 7) hG dX7_payMen_30 (by decide) ?_
        refine pm_callV (As := [.int x2_2, .int 7]) (rest := [.int v4]) hG hR dX7_payMen_32 (lkX7_83 _ rfl) okV_X9_get rfl rfl (tb_get (d := 1) rfl rfl (pm_tw_of 20 14 (by decide) (by decide) (by decide))) rfl rfl hdd (Nat.le_refl _) (Nat.le_refl _) (by first | decide | exact Nat.le_of_ble_eq_true rfl) (pm_ki (fun v5 σ' cnt' hq => ?_))
        obtain ⟨I5, A5, rfl, rfl, h5⟩ := hv_id (kp := kp) (I := I4) (A := A4) h4 hq.2
        refine pm_mmin hG hR dX7_payMen_35 (mmX7_87 _ rfl) pm_mwmin (by omega) (by first | decide | exact Nat.le_of_ble_eq_true rfl) (Nat.le_refl _) (Nat.le_refl _) ?_
        refine pm_istoreXn (loc' := [some (.ref (B + 1)), some (.int v1), some (.int x2_2), some (.int (if v5 < v4 then v5 else v4))]) hG dX7_payMen_38 (by decide) (pm_c1b rfl) rfl ?_
        refine pm_aloadn hG dX7_payMen_39 rfl ?_
        refine pm_getf hG dX7_payMen_40 (flX7_23 _ rfl) rfl rfl ?_
        refine pm_iloadn hG dX7_payMen_43 rfl ?_
        refine pm_bipush (v := 7) hG dX7_payMen_44 (by decide) ?_
        refine pm_iloadn hG dX7_payMen_46 rfl ?_
        refine pm_ineg hG dX7_payMen_47 ?_
        refine pm_callV (As := [.int x2_2, .int 7, .int (-(if v5 < v4 then v5 else v4))]) (rest := []) hG hR dX7_payMen_48 (lkX7_125 _ rfl) okV_X9_add rfl rfl (tb_add (d := 1) (by decide) rfl rfl (pm_tw_of 20 14 (by decide) (by decide) (by decide)) (by decide)) rfl rfl hdd (Nat.le_refl _) (Nat.le_refl _) (by decide) (pm_kv (fun σ' cnt' hq => ?_))
        obtain ⟨I6, A6, rfl, rfl, h6⟩ := hv_a7 (kp := kp) (I := I5) (A := A5) h5 hq
        refine pm_aloadn hG dX7_payMen_51 rfl ?_
        refine pm_getf hG dX7_payMen_52 (flX7_23 _ rfl) rfl rfl ?_
        refine pm_iloadn hG dX7_payMen_55 rfl ?_
        refine pm_bipush (v := 8) hG dX7_payMen_56 (by decide) ?_
        refine pm_iloadn hG dX7_payMen_58 rfl ?_
        refine pm_callV (As := [.int x2_2, .int 8, .int (if v5 < v4 then v5 else v4)]) (rest := []) hG hR dX7_payMen_59 (lkX7_61 _ rfl) okV_X9_set rfl rfl (tb_set (d := 1) rfl rfl (pm_tw_of 20 14 (by decide) (by decide) (by decide)) (by decide)) rfl rfl hdd (Nat.le_refl _) (Nat.le_refl _) (by decide) (pm_kv (fun σ' cnt' hq => ?_))
        obtain ⟨I7, A7, rfl, rfl, h7⟩ := hv_a7 (kp := kp) (I := I6) (A := A6) h6 hq
        refine pm_iincX (v := x2_2 + 1) (loc' := [some (.ref (B + 1)), some (.int v1), some (.int (x2_2 + 1)), some (.int (if v5 < v4 then v5 else v4))]) hG dX7_payMen_62 rfl (by rfl) (by decide) (pm_c1b rfl) rfl ?_
        refine pm_goto (tgt := 10) hG dX7_payMen_65 rfl ?_
        refine pm_fg 3 (loc' := [some (.ref (B + 1)), some (.int v1), some (.int (x2_2 + 1)), none]) rfl ?_
        exact ih10 _ _ (x2_2 + 1) h7 (pm_sd1 c3 s10) (Nat.lt_of_lt_of_le (pm_mu1 c3) (Nat.le_of_lt_succ hm10))
  exact loop10 _ _ _ 0 h1 (by decide) (Nat.lt_succ_self _)

set_option maxRecDepth 100000 in
set_option maxHeartbeats 4000000 in
theorem g_X7_missOnce {ε : Nat → Int32} {d B cnt : Nat} {kp : Value} {ρ : pm_S} {I : Nat → Int32} {A : Nat → Nat → Int32} {za : Int32} (hdd : 2 ≤ d) (h : gq ε I) : pm_met mX7_missOnce d 0 0 B [.ref (B + 1), .int za] cnt (pm_two (cl_L B kp I A) ρ) (pm_Qv (fun σ' cnt' => hvq ε B kp ρ cnt σ' cnt')) := by
  refine pm_enter 0 (by decide) (Nat.le_of_ble_eq_true rfl) rfl (fun G hG hR hF => ?_)
  refine pm_aloadn hG dX7_missOnce_0 rfl ?_
  refine pm_getf hG dX7_missOnce_1 (flX7_38 _ rfl) rfl rfl ?_
  refine pm_iloadn hG dX7_missOnce_4 rfl ?_
  refine pm_iconst (v := 4) hG dX7_missOnce_5 (by decide) ?_
  refine pm_iconst (v := 1) hG dX7_missOnce_6 (by decide) ?_
  refine pm_callV (As := [.int za, .int 4, .int 1]) (rest := []) hG hR dX7_missOnce_7 (lkX7_125 _ rfl) okV_X9_add rfl rfl (tb_add (d := 1) (by decide) rfl rfl (pm_tw_of 6 5 (by decide) (by decide) (by decide)) (by decide)) rfl rfl hdd (Nat.le_refl _) (Nat.le_refl _) (by decide) (pm_kv (fun σ' cnt' hq => ?_))
  obtain ⟨I1, A1, rfl, rfl, h1⟩ := hv_a17 (kp := kp) (I := I) (A := A) h hq
  refine pm_aloadn hG dX7_missOnce_10 rfl ?_
  refine pm_getf hG dX7_missOnce_11 (flX7_38 _ rfl) rfl rfl ?_
  refine pm_iloadn hG dX7_missOnce_14 rfl ?_
  refine pm_iconst (v := 4) hG dX7_missOnce_15 (by decide) ?_
  refine pm_callV (As := [.int za, .int 4]) (rest := []) hG hR dX7_missOnce_16 (lkX7_83 _ rfl) okV_X9_get rfl rfl (tb_get (d := 1) rfl rfl (pm_tw_of 6 5 (by decide) (by decide) (by decide))) rfl rfl hdd (Nat.le_refl _) (Nat.le_refl _) (by decide) (pm_ki (fun v2 σ' cnt' hq => ?_))
  obtain ⟨I2, A2, rfl, rfl, h2⟩ := hv_id (kp := kp) (I := I1) (A := A1) h1 hq.2
  refine pm_iconst (v := 2) hG dX7_missOnce_19 (by decide) ?_
  refine pm_icmp_lt (tgt := 41) hG dX7_missOnce_20 rfl (fun c3 => ?_) (fun c3 => ?_)
  · exact pm_vret hG hF dX7_missOnce_41 rfl (Nat.le_refl _) (Nat.le_refl _) ⟨rfl, _, _, rfl, rfl, h2⟩
  · refine pm_aloadn hG dX7_missOnce_23 rfl ?_
    refine pm_getf hG dX7_missOnce_24 (flX7_14 _ rfl) rfl rfl ?_
    refine pm_aloadn hG dX7_missOnce_27 rfl ?_
    refine pm_getf hG dX7_missOnce_28 (flX7_38 _ rfl) rfl rfl ?_
    refine pm_iloadn hG dX7_missOnce_31 rfl ?_
    refine pm_iconst (v := 3) hG dX7_missOnce_32 (by decide) ?_
    refine pm_callV (As := [.int za, .int 3]) (rest := [.ref (B + 2)]) hG hR dX7_missOnce_33 (lkX7_83 _ rfl) okV_X9_get rfl rfl (tb_get (d := 1) rfl rfl (pm_tw_of 6 5 (by decide) (by decide) (by decide))) rfl rfl hdd (Nat.le_refl _) (Nat.le_refl _) (by first | decide | exact Nat.le_of_ble_eq_true rfl) (pm_ki (fun v4 σ' cnt' hq => ?_))
    obtain ⟨I4, A4, rfl, rfl, h4⟩ := hv_id (kp := kp) (I := I2) (A := A2) h2 hq.2
    refine pm_iconst (v := 2) hG dX7_missOnce_36 (by decide) ?_
    refine pm_iconst (v := 1) hG dX7_missOnce_37 (by decide) ?_
    refine pm_callV (As := [.int v4, .int 2, .int 1]) (rest := []) hG hR dX7_missOnce_38 (lkX7_61 _ rfl) okV_X9_set rfl rfl (tb_set (d := 1) rfl rfl (pm_tw_of 10 3 (by decide) (by decide) (by decide)) (by decide)) rfl rfl hdd (Nat.le_refl _) (Nat.le_refl _) (by decide) (pm_kv (fun σ' cnt' hq => ?_))
    obtain ⟨I5, A5, rfl, rfl, h5⟩ := hv_a3 (kp := kp) (I := I4) (A := A4) h4 hq
    exact pm_vret hG hF dX7_missOnce_41 rfl (Nat.le_refl _) (Nat.le_refl _) ⟨rfl, _, _, rfl, rfl, h5⟩

set_option maxRecDepth 100000 in
set_option maxHeartbeats 4000000 in
theorem g_X7_serveDebts {ε : Nat → Int32} {d B cnt : Nat} {kp : Value} {ρ : pm_S} {I : Nat → Int32} {A : Nat → Nat → Int32} (hdd : 3 ≤ d) (h : gq ε I) : pm_met mX7_serveDebts d 0 0 B [.ref (B + 1)] cnt (pm_two (cl_L B kp I A) ρ) (pm_Qv (fun σ' cnt' => hvq ε B kp ρ cnt σ' cnt')) := by
  refine pm_enter 5 (by decide) (Nat.le_of_ble_eq_true rfl) rfl (fun G hG hR hF => ?_)
  refine pm_aloadn hG dX7_serveDebts_0 rfl ?_
  refine pm_getf hG dX7_serveDebts_1 (flX7_38 _ rfl) rfl rfl ?_
  refine pm_callV (As := []) (rest := []) hG hR dX7_serveDebts_4 (lkX7_79 _ rfl) okV_X9_used rfl rfl (tb_used (d := 2) rfl) rfl rfl hdd (Nat.le_refl _) (Nat.le_refl _) (by decide) (pm_ki (fun v1 σ' cnt' hq => ?_))
  obtain ⟨I1, A1, rfl, rfl, h1⟩ := hv_id (kp := kp) (I := I) (A := A) h hq.2
  refine pm_istoreXn (loc' := [some (.ref (B + 1)), some (.int v1), none, none, none, none]) hG dX7_serveDebts_7 (by decide) (pm_c1b rfl) rfl ?_
  refine pm_iconst (v := 0) hG dX7_serveDebts_8 (by decide) ?_
  refine pm_istoreXn (loc' := [some (.ref (B + 1)), some (.int v1), some (.int 0), none, none, none]) hG dX7_serveDebts_9 (by decide) (pm_c1b rfl) rfl ?_
  have loop10 : ∀ (m10 : Nat) (I2 : Nat → Int32) (A2 : Nat → Nat → Int32) (x2_2 : Int32), gq ε I2 → (¬ x2_2 < 0) → ((v1 : Int32).toInt - x2_2.toInt).toNat < m10 → pm_wp mX7_serveDebts G B 10 [some (.ref (B + 1)), some (.int v1), some (.int x2_2), none, none, none] [] 0 0 cnt (pm_two (cl_L B kp I2 A2) ρ) := by
    intro m10
    induction m10 with
    | zero => intro I2 A2 x2_2 _  _ hm; exact absurd hm (Nat.not_lt_zero _)
    | succ m10 ih10 =>
      intro I2 A2 x2_2 h2 s10 hm10
      refine pm_iloadn hG dX7_serveDebts_10 rfl ?_
      refine pm_iloadn hG dX7_serveDebts_11 rfl ?_
      refine pm_icmp_ge (tgt := 123) hG dX7_serveDebts_12 rfl (fun c3 => ?_) (fun c3 => ?_)
      · exact pm_vret hG hF dX7_serveDebts_123 rfl (Nat.le_refl _) (Nat.le_refl _) ⟨rfl, _, _, rfl, rfl, h2⟩
      · refine pm_aloadn hG dX7_serveDebts_15 rfl ?_
        refine pm_getf hG dX7_serveDebts_16 (flX7_38 _ rfl) rfl rfl ?_
        refine pm_iloadn hG dX7_serveDebts_19 rfl ?_
        refine pm_iconst (v := 0) hG dX7_serveDebts_20 (by decide) ?_
        refine pm_callV (As := [.int x2_2, .int 0]) (rest := []) hG hR dX7_serveDebts_21 (lkX7_83 _ rfl) okV_X9_get rfl rfl (tb_get (d := 2) rfl rfl (pm_tw_of 6 5 (by decide) (by decide) (by decide))) rfl rfl hdd (Nat.le_refl _) (Nat.le_refl _) (by decide) (pm_ki (fun v4 σ' cnt' hq => ?_))
        obtain ⟨I4, A4, rfl, rfl, h4⟩ := hv_id (kp := kp) (I := I2) (A := A2) h2 hq.2
        refine pm_istoreXn (loc' := [some (.ref (B + 1)), some (.int v1), some (.int x2_2), some (.int v4), none, none]) hG dX7_serveDebts_24 (by decide) (pm_c1b rfl) rfl ?_
        refine pm_ldc hG dX7_serveDebts_25 (ctX7_156 _ rfl) ?_
        refine pm_iloadn hG dX7_serveDebts_27 rfl ?_
        refine pm_iloadn hG dX7_serveDebts_28 rfl ?_
        refine pm_aloadn hG dX7_serveDebts_29 rfl ?_
        refine pm_getf hG dX7_serveDebts_30 (flX7_38 _ rfl) rfl rfl ?_
        refine pm_iloadn hG dX7_serveDebts_33 rfl ?_
        refine pm_iconst (v := 1) hG dX7_serveDebts_34 (by decide) ?_
        refine pm_callV (As := [.int x2_2, .int 1]) (rest := [.int v4, .int v4, .int 999999]) hG hR dX7_serveDebts_35 (lkX7_83 _ rfl) okV_X9_get rfl rfl (tb_get (d := 2) rfl rfl (pm_tw_of 6 5 (by decide) (by decide) (by decide))) rfl rfl hdd (Nat.le_refl _) (Nat.le_refl _) (by first | decide | exact Nat.le_of_ble_eq_true rfl) (pm_ki (fun v5 σ' cnt' hq => ?_))
        obtain ⟨I5, A5, rfl, rfl, h5⟩ := hv_id (kp := kp) (I := I4) (A := A4) h4 hq.2
        refine pm_imul hG dX7_serveDebts_38 ?_
        refine pm_bipush (v := 100) hG dX7_serveDebts_39 (by decide) ?_
        refine pm_idiv hG dX7_serveDebts_41 (by decide) ?_
        refine pm_iadd hG dX7_serveDebts_42 ?_
        refine pm_mmin hG hR dX7_serveDebts_43 (mmX7_87 _ rfl) pm_mwmin (by omega) (by first | decide | exact Nat.le_of_ble_eq_true rfl) (Nat.le_refl _) (Nat.le_refl _) ?_
        refine pm_istoreXi (loc' := [some (.ref (B + 1)), some (.int v1), some (.int x2_2), some (.int v4), some (.int (if (v4 + ((v4 * v5) / 100)) < 999999 then v4 + ((v4 * v5) / 100) else 999999)), none]) hG dX7_serveDebts_46 (by decide) (pm_c1b rfl) rfl ?_
        refine pm_iloadi hG dX7_serveDebts_48 rfl ?_
        refine pm_aloadn hG dX7_serveDebts_50 rfl ?_
        refine pm_getf hG dX7_serveDebts_51 (flX7_38 _ rfl) rfl rfl ?_
        refine pm_iloadn hG dX7_serveDebts_54 rfl ?_
        refine pm_iconst (v := 2) hG dX7_serveDebts_55 (by decide) ?_
        refine pm_callV (As := [.int x2_2, .int 2]) (rest := [.int (if (v4 + ((v4 * v5) / 100)) < 999999 then v4 + ((v4 * v5) / 100) else 999999)]) hG hR dX7_serveDebts_56 (lkX7_83 _ rfl) okV_X9_get rfl rfl (tb_get (d := 2) rfl rfl (pm_tw_of 6 5 (by decide) (by decide) (by decide))) rfl rfl hdd (Nat.le_refl _) (Nat.le_refl _) (by first | decide | exact Nat.le_of_ble_eq_true rfl) (pm_ki (fun v6 σ' cnt' hq => ?_))
        obtain ⟨I6, A6, rfl, rfl, h6⟩ := hv_id (kp := kp) (I := I5) (A := A5) h5 hq.2
        refine pm_mmin hG hR dX7_serveDebts_59 (mmX7_87 _ rfl) pm_mwmin (by omega) (by first | decide | exact Nat.le_of_ble_eq_true rfl) (Nat.le_refl _) (Nat.le_refl _) ?_
        refine pm_istoreXi (loc' := [some (.ref (B + 1)), some (.int v1), some (.int x2_2), some (.int v4), some (.int (if (v4 + ((v4 * v5) / 100)) < 999999 then v4 + ((v4 * v5) / 100) else 999999)), some (.int (if v6 < (if (v4 + ((v4 * v5) / 100)) < 999999 then v4 + ((v4 * v5) / 100) else 999999) then v6 else if (v4 + ((v4 * v5) / 100)) < 999999 then v4 + ((v4 * v5) / 100) else 999999))]) hG dX7_serveDebts_62 (by decide) (pm_c1b rfl) rfl ?_
        refine pm_aloadn hG dX7_serveDebts_64 rfl ?_
        refine pm_getf hG dX7_serveDebts_65 (flX7_53 _ rfl) rfl rfl ?_
        refine pm_iloadi hG dX7_serveDebts_68 rfl ?_
        refine pm_icmp_lt (tgt := 101) hG dX7_serveDebts_70 rfl (fun c7 => ?_) (fun c7 => ?_)
        · refine pm_aloadn hG dX7_serveDebts_101 rfl ?_
          refine pm_getf hG dX7_serveDebts_102 (flX7_38 _ rfl) rfl rfl ?_
          refine pm_iloadn hG dX7_serveDebts_105 rfl ?_
          refine pm_iconst (v := 0) hG dX7_serveDebts_106 (by decide) ?_
          refine pm_iloadi hG dX7_serveDebts_107 rfl ?_
          refine pm_callV (As := [.int x2_2, .int 0, .int (if (v4 + ((v4 * v5) / 100)) < 999999 then v4 + ((v4 * v5) / 100) else 999999)]) (rest := []) hG hR dX7_serveDebts_109 (lkX7_61 _ rfl) okV_X9_set rfl rfl (tb_set (d := 2) rfl rfl (pm_tw_of 6 5 (by decide) (by decide) (by decide)) (by decide)) rfl rfl hdd (Nat.le_refl _) (Nat.le_refl _) (by decide) (pm_kv (fun σ' cnt' hq => ?_))
          obtain ⟨I8, A8, rfl, rfl, h8⟩ := hv_a17 (kp := kp) (I := I6) (A := A6) h6 hq
          refine pm_aloadn hG dX7_serveDebts_112 rfl ?_
          refine pm_iloadn hG dX7_serveDebts_113 rfl ?_
          refine pm_callV (As := [.int x2_2]) (rest := []) hG hR dX7_serveDebts_114 (lkX7_157 _ rfl) okV_X7_missOnce rfl rfl (g_X7_missOnce (d := 2) (by decide) h8) rfl rfl hdd (Nat.le_refl _) (Nat.le_refl _) (by decide) (pm_kv (fun σ' cnt' hq => ?_))
          obtain ⟨I9, A9, rfl, rfl, h9⟩ := hq
          refine pm_iincX (v := x2_2 + 1) (loc' := [some (.ref (B + 1)), some (.int v1), some (.int (x2_2 + 1)), some (.int v4), some (.int (if (v4 + ((v4 * v5) / 100)) < 999999 then v4 + ((v4 * v5) / 100) else 999999)), some (.int (if v6 < (if (v4 + ((v4 * v5) / 100)) < 999999 then v4 + ((v4 * v5) / 100) else 999999) then v6 else if (v4 + ((v4 * v5) / 100)) < 999999 then v4 + ((v4 * v5) / 100) else 999999))]) hG dX7_serveDebts_117 rfl (by rfl) (by decide) (pm_c1b rfl) rfl ?_
          refine pm_goto (tgt := 10) hG dX7_serveDebts_120 rfl ?_
          refine pm_fg 3 (loc' := [some (.ref (B + 1)), some (.int v1), some (.int (x2_2 + 1)), none, some (.int (if (v4 + ((v4 * v5) / 100)) < 999999 then v4 + ((v4 * v5) / 100) else 999999)), some (.int (if v6 < (if (v4 + ((v4 * v5) / 100)) < 999999 then v4 + ((v4 * v5) / 100) else 999999) then v6 else if (v4 + ((v4 * v5) / 100)) < 999999 then v4 + ((v4 * v5) / 100) else 999999))]) rfl ?_
          refine pm_fg 4 (loc' := [some (.ref (B + 1)), some (.int v1), some (.int (x2_2 + 1)), none, none, some (.int (if v6 < (if (v4 + ((v4 * v5) / 100)) < 999999 then v4 + ((v4 * v5) / 100) else 999999) then v6 else if (v4 + ((v4 * v5) / 100)) < 999999 then v4 + ((v4 * v5) / 100) else 999999))]) rfl ?_
          refine pm_fg 5 (loc' := [some (.ref (B + 1)), some (.int v1), some (.int (x2_2 + 1)), none, none, none]) rfl ?_
          exact ih10 _ _ (x2_2 + 1) h9 (pm_sd1 c3 s10) (Nat.lt_of_lt_of_le (pm_mu1 c3) (Nat.le_of_lt_succ hm10))
        · refine pm_aloadn hG dX7_serveDebts_73 rfl ?_
          refine pm_dup hG dX7_serveDebts_74 rfl ?_
          refine pm_getf hG dX7_serveDebts_75 (flX7_53 _ rfl) rfl rfl ?_
          refine pm_iloadi hG dX7_serveDebts_78 rfl ?_
          refine pm_isub hG dX7_serveDebts_80 ?_
          refine pm_putf hG dX7_serveDebts_81 (fwX7_53 _ rfl) rfl rfl rfl ?_
          refine pm_nrm (L' := cl_L B kp (ui I6 103 ((I6 103) - (if v6 < (if (v4 + ((v4 * v5) / 100)) < 999999 then v4 + ((v4 * v5) / 100) else 999999) then v6 else if (v4 + ((v4 * v5) / 100)) < 999999 then v4 + ((v4 * v5) / 100) else 999999))) A6) (by decide) (Nat.le_of_ble_eq_true rfl) rfl ?_
          refine pm_aloadn hG dX7_serveDebts_84 rfl ?_
          refine pm_getf hG dX7_serveDebts_85 (flX7_38 _ rfl) rfl rfl ?_
          refine pm_iloadn hG dX7_serveDebts_88 rfl ?_
          refine pm_iconst (v := 0) hG dX7_serveDebts_89 (by decide) ?_
          refine pm_iloadi hG dX7_serveDebts_90 rfl ?_
          refine pm_iloadi hG dX7_serveDebts_92 rfl ?_
          refine pm_isub hG dX7_serveDebts_94 ?_
          refine pm_callV (As := [.int x2_2, .int 0, .int ((if (v4 + ((v4 * v5) / 100)) < 999999 then v4 + ((v4 * v5) / 100) else 999999) - (if v6 < (if (v4 + ((v4 * v5) / 100)) < 999999 then v4 + ((v4 * v5) / 100) else 999999) then v6 else if (v4 + ((v4 * v5) / 100)) < 999999 then v4 + ((v4 * v5) / 100) else 999999))]) (rest := []) hG hR dX7_serveDebts_95 (lkX7_61 _ rfl) okV_X9_set rfl rfl (tb_set (d := 2) rfl rfl (pm_tw_of 6 5 (by decide) (by decide) (by decide)) (by decide)) rfl rfl hdd (Nat.le_refl _) (Nat.le_refl _) (by decide) (pm_kv (fun σ' cnt' hq => ?_))
          obtain ⟨I11, A11, rfl, rfl, h11⟩ := hv_a17 (kp := kp) (I := (ui I6 103 ((I6 103) - (if v6 < (if (v4 + ((v4 * v5) / 100)) < 999999 then v4 + ((v4 * v5) / 100) else 999999) then v6 else if (v4 + ((v4 * v5) / 100)) < 999999 then v4 + ((v4 * v5) / 100) else 999999)))) (A := A6) (gq.wi (k := 103) rfl h6) hq
          refine pm_goto (tgt := 117) hG dX7_serveDebts_98 rfl ?_
          refine pm_iincX (v := x2_2 + 1) (loc' := [some (.ref (B + 1)), some (.int v1), some (.int (x2_2 + 1)), some (.int v4), some (.int (if (v4 + ((v4 * v5) / 100)) < 999999 then v4 + ((v4 * v5) / 100) else 999999)), some (.int (if v6 < (if (v4 + ((v4 * v5) / 100)) < 999999 then v4 + ((v4 * v5) / 100) else 999999) then v6 else if (v4 + ((v4 * v5) / 100)) < 999999 then v4 + ((v4 * v5) / 100) else 999999))]) hG dX7_serveDebts_117 rfl (by rfl) (by decide) (pm_c1b rfl) rfl ?_
          refine pm_goto (tgt := 10) hG dX7_serveDebts_120 rfl ?_
          refine pm_fg 3 (loc' := [some (.ref (B + 1)), some (.int v1), some (.int (x2_2 + 1)), none, some (.int (if (v4 + ((v4 * v5) / 100)) < 999999 then v4 + ((v4 * v5) / 100) else 999999)), some (.int (if v6 < (if (v4 + ((v4 * v5) / 100)) < 999999 then v4 + ((v4 * v5) / 100) else 999999) then v6 else if (v4 + ((v4 * v5) / 100)) < 999999 then v4 + ((v4 * v5) / 100) else 999999))]) rfl ?_
          refine pm_fg 4 (loc' := [some (.ref (B + 1)), some (.int v1), some (.int (x2_2 + 1)), none, none, some (.int (if v6 < (if (v4 + ((v4 * v5) / 100)) < 999999 then v4 + ((v4 * v5) / 100) else 999999) then v6 else if (v4 + ((v4 * v5) / 100)) < 999999 then v4 + ((v4 * v5) / 100) else 999999))]) rfl ?_
          refine pm_fg 5 (loc' := [some (.ref (B + 1)), some (.int v1), some (.int (x2_2 + 1)), none, none, none]) rfl ?_
          exact ih10 _ _ (x2_2 + 1) h11 (pm_sd1 c3 s10) (Nat.lt_of_lt_of_le (pm_mu1 c3) (Nat.le_of_lt_succ hm10))
  exact loop10 _ _ _ 0 h1 (by decide) (Nat.lt_succ_self _)

set_option maxRecDepth 100000 in
set_option maxHeartbeats 4000000 in
theorem g_X7_endDay {ε : Nat → Int32} {d B cnt : Nat} {kp : Value} {ρ : pm_S} {I : Nat → Int32} {A : Nat → Nat → Int32} (hdd : 4 ≤ d) (h : gq ε I) : pm_met mX7_endDay d 0 0 B [.ref (B + 1)] cnt (pm_two (cl_L B kp I A) ρ) (pm_Qv (fun σ' cnt' => hvq ε B kp ρ cnt σ' cnt')) := by
  refine pm_enter 0 (by decide) (Nat.le_of_ble_eq_true rfl) rfl (fun G hG hR hF => ?_)
  refine pm_aloadn hG dX7_endDay_0 rfl ?_
  refine pm_dup hG dX7_endDay_1 rfl ?_
  refine pm_getf hG dX7_endDay_2 (flX7_72 _ rfl) rfl rfl ?_
  refine pm_iconst (v := 1) hG dX7_endDay_5 (by decide) ?_
  refine pm_iadd hG dX7_endDay_6 ?_
  refine pm_putf hG dX7_endDay_7 (fwX7_72 _ rfl) rfl rfl rfl ?_
  refine pm_nrm (L' := cl_L B kp (ui I 102 ((I 102) + 1)) A) (by decide) (Nat.le_of_ble_eq_true rfl) rfl ?_
  refine pm_aloadn hG dX7_endDay_10 rfl ?_
  refine pm_callV (As := []) (rest := []) hG hR dX7_endDay_11 (lkX7_141 _ rfl) okV_X7_bringTravellers rfl rfl (g_X7_bringTravellers (d := 3) (by decide) (gq.wi (k := 102) rfl h)) rfl rfl hdd (Nat.le_refl _) (Nat.le_refl _) (by decide) (pm_kv (fun σ' cnt' hq => ?_))
  obtain ⟨I2, A2, rfl, rfl, h2⟩ := hq
  refine pm_aloadn hG dX7_endDay_14 rfl ?_
  refine pm_callV (As := []) (rest := []) hG hR dX7_endDay_15 (lkX7_144 _ rfl) okV_X7_takeBackLent rfl rfl (g_X7_takeBackLent (d := 3) (by decide) h2) rfl rfl hdd (Nat.le_refl _) (Nat.le_refl _) (by decide) (pm_kv (fun σ' cnt' hq => ?_))
  obtain ⟨I3, A3, rfl, rfl, h3⟩ := hq
  refine pm_aloadn hG dX7_endDay_18 rfl ?_
  refine pm_getf hG dX7_endDay_19 (flX7_72 _ rfl) rfl rfl ?_
  refine pm_bipush (v := 90) hG dX7_endDay_22 (by decide) ?_
  refine pm_irem hG dX7_endDay_24 (by decide) ?_
  refine pm_if_ne (tgt := 40) hG dX7_endDay_25 rfl (fun c4 => ?_) (fun c4 => ?_)
  · exact pm_vret hG hF dX7_endDay_40 rfl (Nat.le_refl _) (Nat.le_refl _) ⟨rfl, _, _, rfl, rfl, h3⟩
  · refine pm_aloadn hG dX7_endDay_28 rfl ?_
    refine pm_callV (As := []) (rest := []) hG hR dX7_endDay_29 (lkX7_147 _ rfl) okV_X7_collectRents rfl rfl (g_X7_collectRents (d := 3) (by decide) h3) rfl rfl hdd (Nat.le_refl _) (Nat.le_refl _) (by decide) (pm_kv (fun σ' cnt' hq => ?_))
    obtain ⟨I5, A5, rfl, rfl, h5⟩ := hq
    refine pm_aloadn hG dX7_endDay_32 rfl ?_
    refine pm_callV (As := []) (rest := []) hG hR dX7_endDay_33 (lkX7_150 _ rfl) okV_X7_payMen rfl rfl (g_X7_payMen (d := 3) (by decide) h5) rfl rfl hdd (Nat.le_refl _) (Nat.le_refl _) (by decide) (pm_kv (fun σ' cnt' hq => ?_))
    obtain ⟨I6, A6, rfl, rfl, h6⟩ := hq
    refine pm_aloadn hG dX7_endDay_36 rfl ?_
    refine pm_callV (As := []) (rest := []) hG hR dX7_endDay_37 (lkX7_153 _ rfl) okV_X7_serveDebts rfl rfl (g_X7_serveDebts (d := 3) (by decide) h6) rfl rfl hdd (Nat.le_refl _) (Nat.le_refl _) (by decide) (pm_kv (fun σ' cnt' hq => ?_))
    obtain ⟨I7, A7, rfl, rfl, h7⟩ := hq
    exact pm_vret hG hF dX7_endDay_40 rfl (Nat.le_refl _) (Nat.le_refl _) ⟨rfl, _, _, rfl, rfl, h7⟩

set_option maxRecDepth 100000 in
set_option maxHeartbeats 4000000 in
theorem g_X11_days {ε : Nat → Int32} {d B cnt : Nat} {kp : Value} {ρ : pm_S} {I : Nat → Int32} {A : Nat → Nat → Int32} {za : Int32} (hdd : 5 ≤ d) (h : gq ε I) : pm_met mX11_days d 0 0 B [.ref (B + 0), .int za] cnt (pm_two (cl_L B kp I A) ρ) (pm_Qi (fun _ σ' cnt' => hvq ε B kp ρ cnt σ' cnt')) := by
  refine pm_enter 1 (by decide) (Nat.le_of_ble_eq_true rfl) rfl (fun G hG hR hF => ?_)
  refine pm_iloadn hG dX11_days_0 rfl ?_
  refine pm_iconst (v := 1) hG dX11_days_1 (by decide) ?_
  refine pm_sipush (v := 400) hG dX11_days_2 (by decide) ?_
  refine pm_callS (As := [.int za, .int 1, .int 400]) (rest := []) hG hR dX11_days_5 (lkX11_105 _ rfl) okS_X11_isOutside (sx_isOutside (d := 4)) rfl rfl hdd (Nat.le_refl _) (Nat.le_refl _) (by decide) (pm_ki (fun v1 σ' cnt' hq => ?_))
  have o1 := hq.1
  have b1 := pm_b10 hq.1
  obtain ⟨I1, A1, rfl, rfl, h1⟩ := hv_id (kp := kp) (I := I) (A := A) h hq.2
  refine pm_if_ne (tgt := 26) hG dX11_days_8 rfl (fun c2 => ?_) (fun c2 => ?_)
  · refine pm_aloadn hG dX11_days_26 rfl ?_
    refine pm_ldc hG dX11_days_27 (ctX11_109 _ rfl) ?_
    refine pm_callV (As := [.int (-1000001)]) (rest := []) hG hR dX11_days_29 (lkX11_97 _ rfl) okV_X11_told rfl rfl (sx_told (d := 4) (by decide) rfl rfl) rfl rfl hdd (Nat.le_refl _) (Nat.le_refl _) (by decide) (pm_ki (fun v3 σ' cnt' hq => ?_))
    obtain ⟨-, ⟨g3, hg3⟩, hc3⟩ := hq
    obtain ⟨I3, A3, rfl, rfl, h3⟩ := hv_a53 (kp := kp) (I := I1) (A := A1) h1 ⟨hg3, hc3⟩
    exact pm_iret hG hF dX11_days_32 rfl (Nat.le_refl _) (Nat.le_refl _) ⟨_, rfl, _, _, rfl, rfl, h3⟩
  · refine pm_aloadn hG dX11_days_11 rfl ?_
    refine pm_getf hG dX11_days_12 (flX11_12 _ rfl) rfl rfl ?_
    refine pm_getf hG dX11_days_15 (flX11_122 _ rfl) rfl rfl ?_
    refine pm_iloadn hG dX11_days_18 rfl ?_
    refine pm_iadd hG dX11_days_19 ?_
    refine pm_sipush (v := 2000) hG dX11_days_20 (by decide) ?_
    refine pm_icmp_le (tgt := 33) hG dX11_days_23 rfl (fun c4 => ?_) (fun c4 => ?_)
    · refine pm_iconst (v := 0) hG dX11_days_33 (by decide) ?_
      refine pm_istoreXn (loc' := [some (.ref (B + 0)), some (.int za), some (.int 0)]) hG dX11_days_34 (by decide) (pm_c1b rfl) rfl ?_
      have loop35 : ∀ (m35 : Nat) (I5 : Nat → Int32) (A5 : Nat → Nat → Int32) (x5_2 : Int32), gq ε I5 → (¬ x5_2 < 0) → ((za : Int32).toInt - x5_2.toInt).toNat < m35 → pm_wp mX11_days G B 35 [some (.ref (B + 0)), some (.int za), some (.int x5_2)] [] 0 0 cnt (pm_two (cl_L B kp I5 A5) ρ) := by
        intro m35
        induction m35 with
        | zero => intro I5 A5 x5_2 _  _ hm; exact absurd hm (Nat.not_lt_zero _)
        | succ m35 ih35 =>
          intro I5 A5 x5_2 h5 s35 hm35
          refine pm_iloadn hG dX11_days_35 rfl ?_
          refine pm_iloadn hG dX11_days_36 rfl ?_
          refine pm_icmp_ge (tgt := 53) hG dX11_days_37 rfl (fun c6 => ?_) (fun c6 => ?_)
          · refine pm_aloadn hG dX11_days_53 rfl ?_
            refine pm_getf hG dX11_days_54 (flX11_12 _ rfl) rfl rfl ?_
            refine pm_getf hG dX11_days_57 (flX11_122 _ rfl) rfl rfl ?_
            exact pm_iret hG hF dX11_days_60 rfl (Nat.le_refl _) (Nat.le_refl _) ⟨_, rfl, _, _, rfl, rfl, h5⟩
          · refine pm_aloadn hG dX11_days_40 rfl ?_
            refine pm_getf hG dX11_days_41 (flX11_12 _ rfl) rfl rfl ?_
            refine pm_callV (As := []) (rest := []) hG hR dX11_days_44 (lkX11_245 _ rfl) okV_X7_endDay rfl rfl (g_X7_endDay (d := 4) (by decide) h5) rfl rfl hdd (Nat.le_refl _) (Nat.le_refl _) (by decide) (pm_kv (fun σ' cnt' hq => ?_))
            obtain ⟨I7, A7, rfl, rfl, h7⟩ := hq
            refine pm_iincX (v := x5_2 + 1) (loc' := [some (.ref (B + 0)), some (.int za), some (.int (x5_2 + 1))]) hG dX11_days_47 rfl (by rfl) (by decide) (pm_c1b rfl) rfl ?_
            refine pm_goto (tgt := 35) hG dX11_days_50 rfl ?_
            exact ih35 _ _ (x5_2 + 1) h7 (pm_sd1 c6 s35) (Nat.lt_of_lt_of_le (pm_mu1 c6) (Nat.le_of_lt_succ hm35))
      exact loop35 _ _ _ 0 h1 (by decide) (Nat.lt_succ_self _)
    · refine pm_aloadn hG dX11_days_26 rfl ?_
      refine pm_ldc hG dX11_days_27 (ctX11_109 _ rfl) ?_
      refine pm_callV (As := [.int (-1000001)]) (rest := []) hG hR dX11_days_29 (lkX11_97 _ rfl) okV_X11_told rfl rfl (sx_told (d := 4) (by decide) rfl rfl) rfl rfl hdd (Nat.le_refl _) (Nat.le_refl _) (by decide) (pm_ki (fun v8 σ' cnt' hq => ?_))
      obtain ⟨-, ⟨g8, hg8⟩, hc8⟩ := hq
      obtain ⟨I8, A8, rfl, rfl, h8⟩ := hv_a53 (kp := kp) (I := I1) (A := A1) h1 ⟨hg8, hc8⟩
      exact pm_iret hG hF dX11_days_32 rfl (Nat.le_refl _) (Nat.le_refl _) ⟨_, rfl, _, _, rfl, rfl, h8⟩
