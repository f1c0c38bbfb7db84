set_option maxRecDepth 100000 in
set_option maxHeartbeats 4000000 in
theorem g_X0_stands {ε : Nat → Int32} {d B cnt : Nat} {kp : pm_KP} {ρ : pm_S} {I : Nat → Int32} {A : Nat → Nat → Int32} {za : Int32} (hdd : 1 ≤ d) (h : gq ε I) : pm_met mX0_stands d 0 0 B [.ref (B + 31), .int za] cnt (pm_two (cl_L B kp I A) ρ) (pm_Qi (fun v σ' cnt' => (v = 0 ∨ v = 1) ∧ hvq ε B kp ρ cnt σ' cnt')) := by
  refine pm_enter 0 (by decide) (Nat.le_of_ble_eq_true rfl) rfl (fun G hG hR hF => ?_)
  refine pm_aloadn hG dX0_stands_0 rfl ?_
  refine pm_getf hG dX0_stands_1 (flX0_25 _ rfl) rfl rfl ?_
  refine pm_iloadn hG dX0_stands_4 rfl ?_
  refine pm_iconst (v := 4) hG dX0_stands_5 (by decide) ?_
  refine pm_callV (As := [.int za, .int 4]) (rest := []) hG hR dX0_stands_6 (lkX0_39 _ rfl) okV_X9_get rfl rfl (tb_get (d := 0) rfl rfl (pm_tw_of 30 5 (by decide) (by decide) (by decide))) rfl rfl hdd (Nat.le_refl _) (Nat.le_refl _) (by decide) (pm_ki (fun v1 σ' cnt' hq => ?_))
  obtain ⟨I1, A1, rfl, rfl, h1⟩ := hv_id (kp := kp) (I := I) (A := A) h hq.2
  refine pm_if_ne (tgt := 35) hG dX0_stands_9 rfl (fun c2 => ?_) (fun c2 => ?_)
  · refine pm_iconst (v := 0) hG dX0_stands_35 (by decide) ?_
    exact pm_zret hG hF dX0_stands_36 rfl (pm_nz (Or.inl rfl)) (Nat.le_refl _) (Nat.le_refl _) ⟨_, rfl, (Or.inl rfl), _, _, rfl, rfl, h1⟩
  · refine pm_aloadn hG dX0_stands_12 rfl ?_
    refine pm_getf hG dX0_stands_13 (flX0_25 _ rfl) rfl rfl ?_
    refine pm_iloadn hG dX0_stands_16 rfl ?_
    refine pm_iconst (v := 2) hG dX0_stands_17 (by decide) ?_
    refine pm_callV (As := [.int za, .int 2]) (rest := []) hG hR dX0_stands_18 (lkX0_39 _ rfl) okV_X9_get rfl rfl (tb_get (d := 0) rfl rfl (pm_tw_of 30 5 (by decide) (by decide) (by decide))) rfl rfl hdd (Nat.le_refl _) (Nat.le_refl _) (by decide) (pm_ki (fun v3 σ' cnt' hq => ?_))
    obtain ⟨I3, A3, rfl, rfl, h3⟩ := hv_id (kp := kp) (I := I1) (A := A1) h1 hq.2
    refine pm_aloadn hG dX0_stands_21 rfl ?_
    refine pm_getf hG dX0_stands_22 (flX0_9 _ rfl) rfl rfl ?_
    refine pm_getf hG dX0_stands_25 (flX0_43 _ rfl) rfl rfl ?_
    refine pm_icmp_lt (tgt := 35) hG dX0_stands_28 rfl (fun c4 => ?_) (fun c4 => ?_)
    · refine pm_iconst (v := 0) hG dX0_stands_35 (by decide) ?_
      exact pm_zret hG hF dX0_stands_36 rfl (pm_nz (Or.inl rfl)) (Nat.le_refl _) (Nat.le_refl _) ⟨_, rfl, (Or.inl rfl), _, _, rfl, rfl, h3⟩
    · refine pm_iconst (v := 1) hG dX0_stands_31 (by decide) ?_
      refine pm_goto (tgt := 36) hG dX0_stands_32 rfl ?_
      exact pm_zret hG hF dX0_stands_36 rfl (pm_nz (Or.inr rfl)) (Nat.le_refl _) (Nat.le_refl _) ⟨_, rfl, (Or.inr rfl), _, _, rfl, rfl, h3⟩

set_option maxRecDepth 100000 in
set_option maxHeartbeats 4000000 in
theorem g_X0_endAllOf {ε : Nat → Int32} {d B cnt : Nat} {kp : pm_KP} {ρ : pm_S} {I : Nat → Int32} {A : Nat → Nat → Int32} {za zb : Int32} (hdd : 2 ≤ d) (h : gq ε I) : pm_met mX0_endAllOf d 0 0 B [.ref (B + 31), .int za, .int zb] cnt (pm_two (cl_L B kp I A) ρ) (pm_Qi (fun _ σ' cnt' => hvq ε B kp ρ cnt σ' cnt')) := by
  refine pm_enter 3 (by decide) (Nat.le_of_ble_eq_true rfl) rfl (fun G hG hR hF => ?_)
  refine pm_iconst (v := 0) hG dX0_endAllOf_0 (by decide) ?_
  refine pm_istoreXn (loc' := [some (.ref (B + 31)), some (.int za), some (.int zb), some (.int 0), none, none]) hG dX0_endAllOf_1 (by decide) (pm_c1b rfl) rfl ?_
  refine pm_aloadn hG dX0_endAllOf_2 rfl ?_
  refine pm_getf hG dX0_endAllOf_3 (flX0_25 _ rfl) rfl rfl ?_
  refine pm_callV (As := []) (rest := []) hG hR dX0_endAllOf_6 (lkX0_47 _ rfl) okV_X9_used rfl rfl (tb_used (d := 1) rfl) rfl rfl hdd (Nat.le_refl _) (Nat.le_refl _) (by decide) (pm_ki (fun v1 σ' cnt' hq => ?_))
  obtain ⟨I1, A1, rfl, rfl, h1⟩ := hv_id (kp := kp) (I := I) (A := A) h hq.2
  refine pm_istoreXi (loc' := [some (.ref (B + 31)), some (.int za), some (.int zb), some (.int 0), some (.int v1), none]) hG dX0_endAllOf_9 (by decide) (pm_c1b rfl) rfl ?_
  refine pm_iconst (v := 0) hG dX0_endAllOf_11 (by decide) ?_
  refine pm_istoreXi (loc' := [some (.ref (B + 31)), some (.int za), some (.int zb), some (.int 0), some (.int v1), some (.int 0)]) hG dX0_endAllOf_12 (by decide) (pm_c1b rfl) rfl ?_
  have loop14 : ∀ (m14 : Nat) (I2 : Nat → Int32) (A2 : Nat → Nat → Int32) (x2_3 x2_5 : Int32), gq ε I2 → (¬ x2_5 < 0) → ((v1 : Int32).toInt - x2_5.toInt).toNat < m14 → pm_wp mX0_endAllOf G B 14 [some (.ref (B + 31)), some (.int za), some (.int zb), some (.int x2_3), some (.int v1), some (.int x2_5)] [] 0 0 cnt (pm_two (cl_L B kp I2 A2) ρ) := by
    intro m14
    induction m14 with
    | zero => intro I2 A2 x2_3 x2_5 _  _ hm; exact absurd hm (Nat.not_lt_zero _)
    | succ m14 ih14 =>
      intro I2 A2 x2_3 x2_5 h2 s14 hm14
      refine pm_iloadi hG dX0_endAllOf_14 rfl ?_
      refine pm_iloadi hG dX0_endAllOf_16 rfl ?_
      refine pm_icmp_ge (tgt := 64) hG dX0_endAllOf_18 rfl (fun c3 => ?_) (fun c3 => ?_)
      · refine pm_iloadn hG dX0_endAllOf_64 rfl ?_
        exact pm_iret hG hF dX0_endAllOf_65 rfl (Nat.le_refl _) (Nat.le_refl _) ⟨_, rfl, _, _, rfl, rfl, h2⟩
      · refine pm_aloadn hG dX0_endAllOf_21 rfl ?_
        refine pm_iloadi hG dX0_endAllOf_22 rfl ?_
        refine pm_callV (As := [.int x2_5]) (rest := []) hG hR dX0_endAllOf_24 (lkX0_51 _ rfl) okV_X0_stands rfl rfl (g_X0_stands (d := 1) (by decide) h2) rfl rfl hdd (Nat.le_refl _) (Nat.le_refl _) (by decide) (pm_ki (fun v4 σ' cnt' hq => ?_))
        obtain ⟨b4, I4, A4, rfl, rfl, h4⟩ := hq
        refine pm_if_eq (tgt := 58) hG dX0_endAllOf_27 rfl (fun c5 => ?_) (fun c5 => ?_)
        · refine pm_iincX (v := x2_5 + 1) (loc' := [some (.ref (B + 31)), some (.int za), some (.int zb), some (.int x2_3), some (.int v1), some (.int (x2_5 + 1))]) hG dX0_endAllOf_58 rfl (by rfl) (by decide) (pm_c1b rfl) rfl ?_
          refine pm_goto (tgt := 14) hG dX0_endAllOf_61 rfl ?_
          exact ih14 _ _ x2_3 (x2_5 + 1) h4 (pm_sd1 c3 s14) (Nat.lt_of_lt_of_le (pm_mu1 c3) (Nat.le_of_lt_succ hm14))
        · refine pm_aloadn hG dX0_endAllOf_30 rfl ?_
          refine pm_getf hG dX0_endAllOf_31 (flX0_25 _ rfl) rfl rfl ?_
          refine pm_iloadi hG dX0_endAllOf_34 rfl ?_
          refine pm_iconst (v := 0) hG dX0_endAllOf_36 (by decide) ?_
          refine pm_callV (As := [.int x2_5, .int 0]) (rest := []) hG hR dX0_endAllOf_37 (lkX0_39 _ rfl) okV_X9_get rfl rfl (tb_get (d := 1) rfl rfl (pm_tw_of 30 5 (by decide) (by decide) (by decide))) rfl rfl hdd (Nat.le_refl _) (Nat.le_refl _) (by decide) (pm_ki (fun v6 σ' cnt' hq => ?_))
          obtain ⟨I6, A6, rfl, rfl, h6⟩ := hv_id (kp := kp) (I := I4) (A := A4) h4 hq.2
          refine pm_iloadn hG dX0_endAllOf_40 rfl ?_
          refine pm_icmp_ne (tgt := 58) hG dX0_endAllOf_41 rfl (fun c7 => ?_) (fun c7 => ?_)
          · refine pm_iincX (v := x2_5 + 1) (loc' := [some (.ref (B + 31)), some (.int za), some (.int zb), some (.int x2_3), some (.int v1), some (.int (x2_5 + 1))]) hG dX0_endAllOf_58 rfl (by rfl) (by decide) (pm_c1b rfl) rfl ?_
            refine pm_goto (tgt := 14) hG dX0_endAllOf_61 rfl ?_
            exact ih14 _ _ x2_3 (x2_5 + 1) h6 (pm_sd1 c3 s14) (Nat.lt_of_lt_of_le (pm_mu1 c3) (Nat.le_of_lt_succ hm14))
          · refine pm_aloadn hG dX0_endAllOf_44 rfl ?_
            refine pm_getf hG dX0_endAllOf_45 (flX0_25 _ rfl) rfl rfl ?_
            refine pm_iloadi hG dX0_endAllOf_48 rfl ?_
            refine pm_iconst (v := 4) hG dX0_endAllOf_50 (by decide) ?_
            refine pm_iloadn hG dX0_endAllOf_51 rfl ?_
            refine pm_callV (As := [.int x2_5, .int 4, .int zb]) (rest := []) hG hR dX0_endAllOf_52 (lkX0_55 _ rfl) okV_X9_set rfl rfl (tb_set (d := 1) rfl rfl (pm_tw_of 30 5 (by decide) (by decide) (by decide)) (by decide)) rfl rfl hdd (Nat.le_refl _) (Nat.le_refl _) (by decide) (pm_kv (fun σ' cnt' hq => ?_))
            obtain ⟨I8, A8, rfl, rfl, h8⟩ := hv_a19 (kp := kp) (I := I6) (A := A6) h6 hq
            refine pm_iincX (v := x2_3 + 1) (loc' := [some (.ref (B + 31)), some (.int za), some (.int zb), some (.int (x2_3 + 1)), some (.int v1), some (.int x2_5)]) hG dX0_endAllOf_55 rfl (by rfl) (by decide) (pm_c1b rfl) rfl ?_
            refine pm_iincX (v := x2_5 + 1) (loc' := [some (.ref (B + 31)), some (.int za), some (.int zb), some (.int (x2_3 + 1)), some (.int v1), some (.int (x2_5 + 1))]) hG dX0_endAllOf_58 rfl (by rfl) (by decide) (pm_c1b rfl) rfl ?_
            refine pm_goto (tgt := 14) hG dX0_endAllOf_61 rfl ?_
            exact ih14 _ _ (x2_3 + 1) (x2_5 + 1) h8 (pm_sd1 c3 s14) (Nat.lt_of_lt_of_le (pm_mu1 c3) (Nat.le_of_lt_succ hm14))
  exact loop14 _ _ _ 0 0 h1 (by decide) (Nat.lt_succ_self _)

set_option maxRecDepth 100000 in
set_option maxHeartbeats 4000000 in
theorem g_X0_breakAllOf {ε : Nat → Int32} {d B cnt : Nat} {kp : pm_KP} {ρ : pm_S} {I : Nat → Int32} {A : Nat → Nat → Int32} {za : Int32} (hdd : 3 ≤ d) (h : gq ε I) : pm_met mX0_breakAllOf d 0 0 B [.ref (B + 31), .int za] cnt (pm_two (cl_L B kp I A) ρ) (pm_Qi (fun _ σ' cnt' => hvq ε B kp ρ cnt σ' cnt')) := by
  refine pm_enter 0 (by decide) (Nat.le_of_ble_eq_true rfl) rfl (fun G hG hR hF => ?_)
  refine pm_aloadn hG dX0_breakAllOf_0 rfl ?_
  refine pm_iloadn hG dX0_breakAllOf_1 rfl ?_
  refine pm_iconst (v := 2) hG dX0_breakAllOf_2 (by decide) ?_
  refine pm_callV (As := [.int za, .int 2]) (rest := []) hG hR dX0_breakAllOf_3 (lkX0_66 _ rfl) okV_X0_endAllOf rfl rfl (g_X0_endAllOf (d := 2) (by decide) h) rfl rfl hdd (Nat.le_refl _) (Nat.le_refl _) (by decide) (pm_ki (fun v1 σ' cnt' hq => ?_))
  obtain ⟨I1, A1, rfl, rfl, h1⟩ := hq
  exact pm_iret hG hF dX0_breakAllOf_6 rfl (Nat.le_refl _) (Nat.le_refl _) ⟨_, rfl, _, _, rfl, rfl, h1⟩

set_option maxRecDepth 100000 in
set_option maxHeartbeats 4000000 in
theorem g_X0_isCarriedWith {ε : Nat → Int32} {d B cnt : Nat} {kp : pm_KP} {ρ : pm_S} {I : Nat → Int32} {A : Nat → Nat → Int32} {za : Int32} (hdd : 1 ≤ d) (h : gq ε I) : pm_met mX0_isCarriedWith d 0 0 B [.ref (B + 31), .int za] cnt (pm_two (cl_L B kp I A) ρ) (pm_Qi (fun v σ' cnt' => (v = 0 ∨ v = 1) ∧ hvq ε B kp ρ cnt σ' cnt')) := by
  refine pm_enter 0 (by decide) (Nat.le_of_ble_eq_true rfl) rfl (fun G hG hR hF => ?_)
  refine pm_iconst (v := 2) hG dX0_isCarriedWith_0 (by decide) ?_
  refine pm_aloadn hG dX0_isCarriedWith_1 rfl ?_
  refine pm_getf hG dX0_isCarriedWith_2 (flX0_69 _ rfl) rfl rfl ?_
  refine pm_iloadn hG dX0_isCarriedWith_5 rfl ?_
  refine pm_iadd hG dX0_isCarriedWith_6 ?_
  refine pm_imul hG dX0_isCarriedWith_7 ?_
  refine pm_aloadn hG dX0_isCarriedWith_8 rfl ?_
  refine pm_getf hG dX0_isCarriedWith_9 (flX0_72 _ rfl) rfl rfl ?_
  refine pm_icmp_le (tgt := 19) hG dX0_isCarriedWith_12 rfl (fun c1 => ?_) (fun c1 => ?_)
  · refine pm_iconst (v := 0) hG dX0_isCarriedWith_19 (by decide) ?_
    exact pm_zret hG hF dX0_isCarriedWith_20 rfl (pm_nz (Or.inl rfl)) (Nat.le_refl _) (Nat.le_refl _) ⟨_, rfl, (Or.inl rfl), _, _, rfl, rfl, h⟩
  · refine pm_iconst (v := 1) hG dX0_isCarriedWith_15 (by decide) ?_
    refine pm_goto (tgt := 20) hG dX0_isCarriedWith_16 rfl ?_
    exact pm_zret hG hF dX0_isCarriedWith_20 rfl (pm_nz (Or.inr rfl)) (Nat.le_refl _) (Nat.le_refl _) ⟨_, rfl, (Or.inr rfl), _, _, rfl, rfl, h⟩

set_option maxRecDepth 100000 in
set_option maxHeartbeats 4000000 in
theorem g_X7_knownTo {ε : Nat → Int32} {d B cnt : Nat} {kp : pm_KP} {ρ : pm_S} {I : Nat → Int32} {A : Nat → Nat → Int32} {za : Int32} (hdd : 1 ≤ d) (h : gq ε I) : pm_met mX7_knownTo d 0 0 B [.ref (B + 1), .int za] cnt (pm_two (cl_L B kp I A) ρ) (pm_Qi (fun _ σ' cnt' => hvq ε B kp ρ cnt σ' cnt')) := by
  refine pm_enter 3 (by decide) (Nat.le_of_ble_eq_true rfl) rfl (fun G hG hR hF => ?_)
  refine pm_aloadn hG dX7_knownTo_0 rfl ?_
  refine pm_getf hG dX7_knownTo_1 (flX7_23 _ rfl) rfl rfl ?_
  refine pm_iloadn hG dX7_knownTo_4 rfl ?_
  refine pm_bipush (v := 10) hG dX7_knownTo_5 (by decide) ?_
  refine pm_callV (As := [.int za, .int 10]) (rest := []) hG hR dX7_knownTo_7 (lkX7_83 _ rfl) okV_X9_get rfl rfl (tb_get (d := 0) rfl rfl (pm_tw_of 20 14 (by decide) (by decide) (by decide))) rfl rfl hdd (Nat.le_refl _) (Nat.le_refl _) (by decide) (pm_ki (fun v1 σ' cnt' hq => ?_))
  obtain ⟨I1, A1, rfl, rfl, h1⟩ := hv_id (kp := kp) (I := I) (A := A) h hq.2
  refine pm_istoreXn (loc' := [some (.ref (B + 1)), some (.int za), some (.int v1), none, none]) hG dX7_knownTo_10 (by decide) (pm_c1b rfl) rfl ?_
  refine pm_aloadn hG dX7_knownTo_11 rfl ?_
  refine pm_getf hG dX7_knownTo_12 (flX7_23 _ rfl) rfl rfl ?_
  refine pm_iloadn hG dX7_knownTo_15 rfl ?_
  refine pm_iconst (v := 4) hG dX7_knownTo_16 (by decide) ?_
  refine pm_callV (As := [.int za, .int 4]) (rest := []) hG hR dX7_knownTo_17 (lkX7_83 _ rfl) okV_X9_get rfl rfl (tb_get (d := 0) rfl rfl (pm_tw_of 20 14 (by decide) (by decide) (by decide))) rfl rfl hdd (Nat.le_refl _) (Nat.le_refl _) (by decide) (pm_ki (fun v2 σ' cnt' hq => ?_))
  obtain ⟨I2, A2, rfl, rfl, h2⟩ := hv_id (kp := kp) (I := I1) (A := A1) h1 hq.2
  refine pm_istoreXn (loc' := [some (.ref (B + 1)), some (.int za), some (.int v1), some (.int v2), none]) hG dX7_knownTo_20 (by decide) (pm_c1b rfl) rfl ?_
  refine pm_iloadn hG dX7_knownTo_21 rfl ?_
  refine pm_if_lt (tgt := 38) hG dX7_knownTo_22 rfl (fun c3 => ?_) (fun c3 => ?_)
  · refine pm_iloadn hG dX7_knownTo_38 rfl ?_
    exact pm_iret hG hF dX7_knownTo_39 rfl (Nat.le_refl _) (Nat.le_refl _) ⟨_, rfl, _, _, rfl, rfl, h2⟩
  · refine pm_aloadn hG dX7_knownTo_25 rfl ?_
    refine pm_getf hG dX7_knownTo_26 (flX7_23 _ rfl) rfl rfl ?_
    refine pm_iloadn hG dX7_knownTo_29 rfl ?_
    refine pm_bipush (v := 9) hG dX7_knownTo_30 (by decide) ?_
    refine pm_callV (As := [.int za, .int 9]) (rest := []) hG hR dX7_knownTo_32 (lkX7_83 _ rfl) okV_X9_get rfl rfl (tb_get (d := 0) rfl rfl (pm_tw_of 20 14 (by decide) (by decide) (by decide))) rfl rfl hdd (Nat.le_refl _) (Nat.le_refl _) (by decide) (pm_ki (fun v4 σ' cnt' hq => ?_))
    obtain ⟨I4, A4, rfl, rfl, h4⟩ := hv_id (kp := kp) (I := I2) (A := A2) h2 hq.2
    refine pm_if_eq (tgt := 40) hG dX7_knownTo_35 rfl (fun c5 => ?_) (fun c5 => ?_)
    · refine pm_aloadn hG dX7_knownTo_40 rfl ?_
      refine pm_getf hG dX7_knownTo_41 (flX7_20 _ rfl) rfl rfl ?_
      refine pm_iconst (v := 0) hG dX7_knownTo_44 (by decide) ?_
      refine pm_iloadn hG dX7_knownTo_45 rfl ?_
      refine pm_callV (As := [.int 0, .int v2]) (rest := []) hG hR dX7_knownTo_46 (lkX7_83 _ rfl) okV_X9_get rfl rfl (tb_get (d := 0) rfl rfl (pm_tw_of 10 10 (by decide) (by decide) (by decide))) rfl rfl hdd (Nat.le_refl _) (Nat.le_refl _) (by decide) (pm_ki (fun v6 σ' cnt' hq => ?_))
      obtain ⟨I6, A6, rfl, rfl, h6⟩ := hv_id (kp := kp) (I := I4) (A := A4) h4 hq.2
      refine pm_istoreXi (loc' := [some (.ref (B + 1)), some (.int za), some (.int v1), some (.int v2), some (.int v6)]) hG dX7_knownTo_49 (by decide) (pm_c1b rfl) rfl ?_
      refine pm_iloadi hG dX7_knownTo_51 rfl ?_
      refine pm_sipush (v := 1000) hG dX7_knownTo_53 (by decide) ?_
      refine pm_icmp_lt (tgt := 63) hG dX7_knownTo_56 rfl (fun c7 => ?_) (fun c7 => ?_)
      · refine pm_iloadn hG dX7_knownTo_63 rfl ?_
        refine pm_aloadn hG dX7_knownTo_64 rfl ?_
        refine pm_getf hG dX7_knownTo_65 (flX7_72 _ rfl) rfl rfl ?_
        refine pm_iloadi hG dX7_knownTo_68 rfl ?_
        refine pm_isub hG dX7_knownTo_70 ?_
        refine pm_mmax hG hR dX7_knownTo_71 (mmX7_106 _ rfl) pm_mwmax (by omega) (by first | decide | exact Nat.le_of_ble_eq_true rfl) (Nat.le_refl _) (Nat.le_refl _) ?_
        exact pm_iret hG hF dX7_knownTo_74 rfl (Nat.le_refl _) (Nat.le_refl _) ⟨_, rfl, _, _, rfl, rfl, h6⟩
      · refine pm_iloadn hG dX7_knownTo_59 rfl ?_
        refine pm_goto (tgt := 74) hG dX7_knownTo_60 rfl ?_
        exact pm_iret hG hF dX7_knownTo_74 rfl (Nat.le_refl _) (Nat.le_refl _) ⟨_, rfl, _, _, rfl, rfl, h6⟩
    · refine pm_iloadn hG dX7_knownTo_38 rfl ?_
      exact pm_iret hG hF dX7_knownTo_39 rfl (Nat.le_refl _) (Nat.le_refl _) ⟨_, rfl, _, _, rfl, rfl, h4⟩

set_option maxRecDepth 100000 in
set_option maxHeartbeats 4000000 in
theorem g_X2_inForce {ε : Nat → Int32} {d B cnt : Nat} {kp : pm_KP} {ρ : pm_S} {I : Nat → Int32} {A : Nat → Nat → Int32} {za zb zc : Int32} (hdd : 1 ≤ d) (h : gq ε I) : pm_met mX2_inForce d 0 0 B [.ref (B + 26), .int za, .int zb, .int zc] cnt (pm_two (cl_L B kp I A) ρ) (pm_Qi (fun _ σ' cnt' => hvq ε B kp ρ cnt σ' cnt')) := by
  refine pm_enter 2 (by decide) (Nat.le_of_ble_eq_true rfl) rfl (fun G hG hR hF => ?_)
  refine pm_aloadn hG dX2_inForce_0 rfl ?_
  refine pm_getf hG dX2_inForce_1 (flX2_9 _ rfl) rfl rfl ?_
  refine pm_getf hG dX2_inForce_4 (flX2_43 _ rfl) rfl rfl ?_
  refine pm_callV (As := []) (rest := []) hG hR dX2_inForce_7 (lkX2_53 _ rfl) okV_X9_used rfl rfl (tb_used (d := 0) rfl) rfl rfl hdd (Nat.le_refl _) (Nat.le_refl _) (by decide) (pm_ki (fun v1 σ' cnt' hq => ?_))
  obtain ⟨I1, A1, rfl, rfl, h1⟩ := hv_id (kp := kp) (I := I) (A := A) h hq.2
  refine pm_iconst (v := 1) hG dX2_inForce_10 (by decide) ?_
  refine pm_isub hG dX2_inForce_11 ?_
  refine pm_istoreXi (loc' := [some (.ref (B + 26)), some (.int za), some (.int zb), some (.int zc), some (.int (v1 - 1)), none]) hG dX2_inForce_12 (by decide) (pm_c1b rfl) rfl ?_
  have loop14 : ∀ (m14 : Nat) (I2 : Nat → Int32) (A2 : Nat → Nat → Int32) (x2_4 : Int32), gq ε I2 → (x2_4.toInt + 1 - (0 : Int32).toInt).toNat < m14 → pm_wp mX2_inForce G B 14 [some (.ref (B + 26)), some (.int za), some (.int zb), some (.int zc), some (.int x2_4), none] [] 0 0 cnt (pm_two (cl_L B kp I2 A2) ρ) := by
    intro m14
    induction m14 with
    | zero => intro I2 A2 x2_4 _  hm; exact absurd hm (Nat.not_lt_zero _)
    | succ m14 ih14 =>
      intro I2 A2 x2_4 h2  hm14
      refine pm_iloadi hG dX2_inForce_14 rfl ?_
      refine pm_if_lt (tgt := 105) hG dX2_inForce_16 rfl (fun c3 => ?_) (fun c3 => ?_)
      · refine pm_iconst (v := (-1)) hG dX2_inForce_105 (by decide) ?_
        exact pm_iret hG hF dX2_inForce_106 rfl (Nat.le_refl _) (Nat.le_refl _) ⟨_, rfl, _, _, rfl, rfl, h2⟩
      · refine pm_aloadn hG dX2_inForce_19 rfl ?_
        refine pm_getf hG dX2_inForce_20 (flX2_9 _ rfl) rfl rfl ?_
        refine pm_getf hG dX2_inForce_23 (flX2_43 _ rfl) rfl rfl ?_
        refine pm_iloadi hG dX2_inForce_26 rfl ?_
        refine pm_iconst (v := 3) hG dX2_inForce_28 (by decide) ?_
        refine pm_callV (As := [.int x2_4, .int 3]) (rest := []) hG hR dX2_inForce_29 (lkX2_67 _ rfl) okV_X9_get rfl rfl (tb_get (d := 0) rfl rfl (pm_tw_of 12 6 (by decide) (by decide) (by decide))) rfl rfl hdd (Nat.le_refl _) (Nat.le_refl _) (by decide) (pm_ki (fun v4 σ' cnt' hq => ?_))
        obtain ⟨I4, A4, rfl, rfl, h4⟩ := hv_id (kp := kp) (I := I2) (A := A2) h2 hq.2
        refine pm_istoreXi (loc' := [some (.ref (B + 26)), some (.int za), some (.int zb), some (.int zc), some (.int x2_4), some (.int v4)]) hG dX2_inForce_32 (by decide) (pm_c1b rfl) rfl ?_
        refine pm_aloadn hG dX2_inForce_34 rfl ?_
        refine pm_getf hG dX2_inForce_35 (flX2_9 _ rfl) rfl rfl ?_
        refine pm_getf hG dX2_inForce_38 (flX2_43 _ rfl) rfl rfl ?_
        refine pm_iloadi hG dX2_inForce_41 rfl ?_
        refine pm_iconst (v := 0) hG dX2_inForce_43 (by decide) ?_
        refine pm_callV (As := [.int x2_4, .int 0]) (rest := []) hG hR dX2_inForce_44 (lkX2_67 _ rfl) okV_X9_get rfl rfl (tb_get (d := 0) rfl rfl (pm_tw_of 12 6 (by decide) (by decide) (by decide))) rfl rfl hdd (Nat.le_refl _) (Nat.le_refl _) (by decide) (pm_ki (fun v5 σ' cnt' hq => ?_))
        obtain ⟨I5, A5, rfl, rfl, h5⟩ := hv_id (kp := kp) (I := I4) (A := A4) h4 hq.2
        refine pm_iloadn hG dX2_inForce_47 rfl ?_
        refine pm_icmp_ne (tgt := 99) hG dX2_inForce_48 rfl (fun c6 => ?_) (fun c6 => ?_)
        · refine pm_iincX (v := x2_4 + (-1)) (loc' := [some (.ref (B + 26)), some (.int za), some (.int zb), some (.int zc), some (.int (x2_4 + (-1))), some (.int v4)]) hG dX2_inForce_99 rfl (by rfl) (by decide) (pm_c1b rfl) rfl ?_
          refine pm_goto (tgt := 14) hG dX2_inForce_102 rfl ?_
          refine pm_fg 5 (loc' := [some (.ref (B + 26)), some (.int za), some (.int zb), some (.int zc), some (.int (x2_4 + (-1))), none]) rfl ?_
          exact ih14 _ _ (x2_4 + (-1)) h5 (Nat.lt_of_lt_of_le (pm_md1 c3 (by decide)) (Nat.le_of_lt_succ hm14))
        · refine pm_aloadn hG dX2_inForce_51 rfl ?_
          refine pm_getf hG dX2_inForce_52 (flX2_9 _ rfl) rfl rfl ?_
          refine pm_getf hG dX2_inForce_55 (flX2_43 _ rfl) rfl rfl ?_
          refine pm_iloadi hG dX2_inForce_58 rfl ?_
          refine pm_iconst (v := 2) hG dX2_inForce_60 (by decide) ?_
          refine pm_callV (As := [.int x2_4, .int 2]) (rest := []) hG hR dX2_inForce_61 (lkX2_67 _ rfl) okV_X9_get rfl rfl (tb_get (d := 0) rfl rfl (pm_tw_of 12 6 (by decide) (by decide) (by decide))) rfl rfl hdd (Nat.le_refl _) (Nat.le_refl _) (by decide) (pm_ki (fun v7 σ' cnt' hq => ?_))
          obtain ⟨I7, A7, rfl, rfl, h7⟩ := hv_id (kp := kp) (I := I5) (A := A5) h5 hq.2
          refine pm_iloadn hG dX2_inForce_64 rfl ?_
          refine pm_icmp_gt (tgt := 99) hG dX2_inForce_65 rfl (fun c8 => ?_) (fun c8 => ?_)
          · refine pm_iincX (v := x2_4 + (-1)) (loc' := [some (.ref (B + 26)), some (.int za), some (.int zb), some (.int zc), some (.int (x2_4 + (-1))), some (.int v4)]) hG dX2_inForce_99 rfl (by rfl) (by decide) (pm_c1b rfl) rfl ?_
            refine pm_goto (tgt := 14) hG dX2_inForce_102 rfl ?_
            refine pm_fg 5 (loc' := [some (.ref (B + 26)), some (.int za), some (.int zb), some (.int zc), some (.int (x2_4 + (-1))), none]) rfl ?_
            exact ih14 _ _ (x2_4 + (-1)) h7 (Nat.lt_of_lt_of_le (pm_md1 c3 (by decide)) (Nat.le_of_lt_succ hm14))
          · refine pm_iloadi hG dX2_inForce_68 rfl ?_
            refine pm_if_lt (tgt := 79) hG dX2_inForce_70 rfl (fun c9 => ?_) (fun c9 => ?_)
            · refine pm_aloadn hG dX2_inForce_79 rfl ?_
              refine pm_getf hG dX2_inForce_80 (flX2_9 _ rfl) rfl rfl ?_
              refine pm_getf hG dX2_inForce_83 (flX2_43 _ rfl) rfl rfl ?_
              refine pm_iloadi hG dX2_inForce_86 rfl ?_
              refine pm_iconst (v := 1) hG dX2_inForce_88 (by decide) ?_
              refine pm_callV (As := [.int x2_4, .int 1]) (rest := []) hG hR dX2_inForce_89 (lkX2_67 _ rfl) okV_X9_get rfl rfl (tb_get (d := 0) rfl rfl (pm_tw_of 12 6 (by decide) (by decide) (by decide))) rfl rfl hdd (Nat.le_refl _) (Nat.le_refl _) (by decide) (pm_ki (fun v10 σ' cnt' hq => ?_))
              obtain ⟨I10, A10, rfl, rfl, h10⟩ := hv_id (kp := kp) (I := I7) (A := A7) h7 hq.2
              refine pm_iloadn hG dX2_inForce_92 rfl ?_
              refine pm_icmp_gt (tgt := 99) hG dX2_inForce_93 rfl (fun c11 => ?_) (fun c11 => ?_)
              · refine pm_iincX (v := x2_4 + (-1)) (loc' := [some (.ref (B + 26)), some (.int za), some (.int zb), some (.int zc), some (.int (x2_4 + (-1))), some (.int v4)]) hG dX2_inForce_99 rfl (by rfl) (by decide) (pm_c1b rfl) rfl ?_
                refine pm_goto (tgt := 14) hG dX2_inForce_102 rfl ?_
                refine pm_fg 5 (loc' := [some (.ref (B + 26)), some (.int za), some (.int zb), some (.int zc), some (.int (x2_4 + (-1))), none]) rfl ?_
                exact ih14 _ _ (x2_4 + (-1)) h10 (Nat.lt_of_lt_of_le (pm_md1 c3 (by decide)) (Nat.le_of_lt_succ hm14))
              · refine pm_iloadi hG dX2_inForce_96 rfl ?_
                exact pm_iret hG hF dX2_inForce_98 rfl (Nat.le_refl _) (Nat.le_refl _) ⟨_, rfl, _, _, rfl, rfl, h10⟩
            · refine pm_iloadi hG dX2_inForce_73 rfl ?_
              refine pm_iloadn hG dX2_inForce_75 rfl ?_
              refine pm_icmp_le (tgt := 99) hG dX2_inForce_76 rfl (fun c12 => ?_) (fun c12 => ?_)
              · refine pm_iincX (v := x2_4 + (-1)) (loc' := [some (.ref (B + 26)), some (.int za), some (.int zb), some (.int zc), some (.int (x2_4 + (-1))), some (.int v4)]) hG dX2_inForce_99 rfl (by rfl) (by decide) (pm_c1b rfl) rfl ?_
                refine pm_goto (tgt := 14) hG dX2_inForce_102 rfl ?_
                refine pm_fg 5 (loc' := [some (.ref (B + 26)), some (.int za), some (.int zb), some (.int zc), some (.int (x2_4 + (-1))), none]) rfl ?_
                exact ih14 _ _ (x2_4 + (-1)) h7 (Nat.lt_of_lt_of_le (pm_md1 c3 (by decide)) (Nat.le_of_lt_succ hm14))
              · refine pm_aloadn hG dX2_inForce_79 rfl ?_
                refine pm_getf hG dX2_inForce_80 (flX2_9 _ rfl) rfl rfl ?_
                refine pm_getf hG dX2_inForce_83 (flX2_43 _ rfl) rfl rfl ?_
                refine pm_iloadi hG dX2_inForce_86 rfl ?_
                refine pm_iconst (v := 1) hG dX2_inForce_88 (by decide) ?_
                refine pm_callV (As := [.int x2_4, .int 1]) (rest := []) hG hR dX2_inForce_89 (lkX2_67 _ rfl) okV_X9_get rfl rfl (tb_get (d := 0) rfl rfl (pm_tw_of 12 6 (by decide) (by decide) (by decide))) rfl rfl hdd (Nat.le_refl _) (Nat.le_refl _) (by decide) (pm_ki (fun v13 σ' cnt' hq => ?_))
                obtain ⟨I13, A13, rfl, rfl, h13⟩ := hv_id (kp := kp) (I := I7) (A := A7) h7 hq.2
                refine pm_iloadn hG dX2_inForce_92 rfl ?_
                refine pm_icmp_gt (tgt := 99) hG dX2_inForce_93 rfl (fun c14 => ?_) (fun c14 => ?_)
                · refine pm_iincX (v := x2_4 + (-1)) (loc' := [some (.ref (B + 26)), some (.int za), some (.int zb), some (.int zc), some (.int (x2_4 + (-1))), some (.int v4)]) hG dX2_inForce_99 rfl (by rfl) (by decide) (pm_c1b rfl) rfl ?_
                  refine pm_goto (tgt := 14) hG dX2_inForce_102 rfl ?_
                  refine pm_fg 5 (loc' := [some (.ref (B + 26)), some (.int za), some (.int zb), some (.int zc), some (.int (x2_4 + (-1))), none]) rfl ?_
                  exact ih14 _ _ (x2_4 + (-1)) h13 (Nat.lt_of_lt_of_le (pm_md1 c3 (by decide)) (Nat.le_of_lt_succ hm14))
                · refine pm_iloadi hG dX2_inForce_96 rfl ?_
                  exact pm_iret hG hF dX2_inForce_98 rfl (Nat.le_refl _) (Nat.le_refl _) ⟨_, rfl, _, _, rfl, rfl, h13⟩
  exact loop14 _ _ _ (v1 - 1) h1 (Nat.lt_succ_self _)

set_option maxRecDepth 100000 in
set_option maxHeartbeats 4000000 in
theorem g_X0_ruleInForce {ε : Nat → Int32} {d B cnt : Nat} {kp : pm_KP} {ρ : pm_S} {I : Nat → Int32} {A : Nat → Nat → Int32} (hdd : 2 ≤ d) (h : gq ε I) : pm_met mX0_ruleInForce d 0 0 B [.ref (B + 31)] cnt (pm_two (cl_L B kp I A) ρ) (pm_Qi (fun _ σ' cnt' => hvq ε B kp ρ cnt σ' cnt')) := by
  refine pm_enter 2 (by decide) (Nat.le_of_ble_eq_true rfl) rfl (fun G hG hR hF => ?_)
  refine pm_aloadn hG dX0_ruleInForce_0 rfl ?_
  refine pm_getf hG dX0_ruleInForce_1 (flX0_9 _ rfl) rfl rfl ?_
  refine pm_getf hG dX0_ruleInForce_4 (flX0_63 _ rfl) rfl rfl ?_
  refine pm_callV (As := []) (rest := []) hG hR dX0_ruleInForce_7 (lkX0_47 _ rfl) okV_X9_used rfl rfl (tb_used (d := 1) rfl) rfl rfl hdd (Nat.le_refl _) (Nat.le_refl _) (by decide) (pm_ki (fun v1 σ' cnt' hq => ?_))
  obtain ⟨I1, A1, rfl, rfl, h1⟩ := hv_id (kp := kp) (I := I) (A := A) h hq.2
  refine pm_istoreXn (loc' := [some (.ref (B + 31)), some (.int v1), none]) hG dX0_ruleInForce_10 (by decide) (pm_c1b rfl) rfl ?_
  refine pm_iconst (v := 0) hG dX0_ruleInForce_11 (by decide) ?_
  refine pm_istoreXn (loc' := [some (.ref (B + 31)), some (.int v1), some (.int 0)]) hG dX0_ruleInForce_12 (by decide) (pm_c1b rfl) rfl ?_
  have loop13 : ∀ (m13 : Nat) (I2 : Nat → Int32) (A2 : Nat → Nat → Int32) (x2_2 : Int32), gq ε I2 → (¬ x2_2 < 0) → ((v1 : Int32).toInt - x2_2.toInt).toNat < m13 → pm_wp mX0_ruleInForce G B 13 [some (.ref (B + 31)), some (.int v1), some (.int x2_2)] [] 0 0 cnt (pm_two (cl_L B kp I2 A2) ρ) := by
    intro m13
    induction m13 with
    | zero => intro I2 A2 x2_2 _  _ hm; exact absurd hm (Nat.not_lt_zero _)
    | succ m13 ih13 =>
      intro I2 A2 x2_2 h2 s13 hm13
      refine pm_iloadn hG dX0_ruleInForce_13 rfl ?_
      refine pm_iloadn hG dX0_ruleInForce_14 rfl ?_
      refine pm_icmp_ge (tgt := 64) hG dX0_ruleInForce_15 rfl (fun c3 => ?_) (fun c3 => ?_)
      · refine pm_iconst (v := (-1)) hG dX0_ruleInForce_64 (by decide) ?_
        exact pm_iret hG hF dX0_ruleInForce_65 rfl (Nat.le_refl _) (Nat.le_refl _) ⟨_, rfl, _, _, rfl, rfl, h2⟩
      · refine pm_aloadn hG dX0_ruleInForce_18 rfl ?_
        refine pm_getf hG dX0_ruleInForce_19 (flX0_9 _ rfl) rfl rfl ?_
        refine pm_getf hG dX0_ruleInForce_22 (flX0_63 _ rfl) rfl rfl ?_
        refine pm_iloadn hG dX0_ruleInForce_25 rfl ?_
        refine pm_bipush (v := 13) hG dX0_ruleInForce_26 (by decide) ?_
        refine pm_callV (As := [.int x2_2, .int 13]) (rest := []) hG hR dX0_ruleInForce_28 (lkX0_39 _ rfl) okV_X9_get rfl rfl (tb_get (d := 1) rfl rfl (pm_tw_of 20 14 (by decide) (by decide) (by decide))) rfl rfl hdd (Nat.le_refl _) (Nat.le_refl _) (by decide) (pm_ki (fun v4 σ' cnt' hq => ?_))
        obtain ⟨I4, A4, rfl, rfl, h4⟩ := hv_id (kp := kp) (I := I2) (A := A2) h2 hq.2
        refine pm_if_eq (tgt := 58) hG dX0_ruleInForce_31 rfl (fun c5 => ?_) (fun c5 => ?_)
        · refine pm_iincX (v := x2_2 + 1) (loc' := [some (.ref (B + 31)), some (.int v1), some (.int (x2_2 + 1))]) hG dX0_ruleInForce_58 rfl (by rfl) (by decide) (pm_c1b rfl) rfl ?_
          refine pm_goto (tgt := 13) hG dX0_ruleInForce_61 rfl ?_
          exact ih13 _ _ (x2_2 + 1) h4 (pm_sd1 c3 s13) (Nat.lt_of_lt_of_le (pm_mu1 c3) (Nat.le_of_lt_succ hm13))
        · refine pm_aloadn hG dX0_ruleInForce_34 rfl ?_
          refine pm_getf hG dX0_ruleInForce_35 (flX0_15 _ rfl) rfl rfl ?_
          refine pm_iconst (v := 0) hG dX0_ruleInForce_38 (by decide) ?_
          refine pm_aloadn hG dX0_ruleInForce_39 rfl ?_
          refine pm_getf hG dX0_ruleInForce_40 (flX0_9 _ rfl) rfl rfl ?_
          refine pm_getf hG dX0_ruleInForce_43 (flX0_43 _ rfl) rfl rfl ?_
          refine pm_aloadn hG dX0_ruleInForce_46 rfl ?_
          refine pm_getf hG dX0_ruleInForce_47 (flX0_9 _ rfl) rfl rfl ?_
          refine pm_iloadn hG dX0_ruleInForce_50 rfl ?_
          refine pm_callV (As := [.int x2_2]) (rest := [.int (I4 102), .int 0, .ref (B + 26)]) hG hR dX0_ruleInForce_51 (lkX0_91 _ rfl) okV_X7_knownTo rfl rfl (g_X7_knownTo (d := 1) (by decide) h4) rfl rfl hdd (Nat.le_refl _) (Nat.le_refl _) (by first | decide | exact Nat.le_of_ble_eq_true rfl) (pm_ki (fun v6 σ' cnt' hq => ?_))
          obtain ⟨I6, A6, rfl, rfl, h6⟩ := hq
          refine pm_callV (As := [.int 0, .int (I4 102), .int v6]) (rest := []) hG hR dX0_ruleInForce_54 (lkX0_94 _ rfl) okV_X2_inForce rfl rfl (g_X2_inForce (d := 1) (by decide) h6) rfl rfl hdd (Nat.le_refl _) (Nat.le_refl _) (by decide) (pm_ki (fun v7 σ' cnt' hq => ?_))
          obtain ⟨I7, A7, rfl, rfl, h7⟩ := hq
          exact pm_iret hG hF dX0_ruleInForce_57 rfl (Nat.le_refl _) (Nat.le_refl _) ⟨_, rfl, _, _, rfl, rfl, h7⟩
  exact loop13 _ _ _ 0 h1 (by decide) (Nat.lt_succ_self _)

set_option maxRecDepth 100000 in
set_option maxHeartbeats 4000000 in
theorem g_X7_isOfKind {ε : Nat → Int32} {d B cnt : Nat} {kp : pm_KP} {ρ : pm_S} {I : Nat → Int32} {A : Nat → Nat → Int32} {za zb : Int32} (hdd : 1 ≤ d) (h : gq ε I) : pm_met mX7_isOfKind d 0 0 B [.ref (B + 1), .int za, .int zb] cnt (pm_two (cl_L B kp I A) ρ) (pm_Qi (fun v σ' cnt' => (v = 0 ∨ v = 1) ∧ hvq ε B kp ρ cnt σ' cnt')) := by
  refine pm_enter 2 (by decide) (Nat.le_of_ble_eq_true rfl) rfl (fun G hG hR hF => ?_)
  refine pm_aloadn hG dX7_isOfKind_0 rfl ?_
  refine pm_getf hG dX7_isOfKind_1 (flX7_26 _ rfl) rfl rfl ?_
  refine pm_iloadn hG dX7_isOfKind_4 rfl ?_
  refine pm_iconst (v := 0) hG dX7_isOfKind_5 (by decide) ?_
  refine pm_callV (As := [.int za, .int 0]) (rest := []) hG hR dX7_isOfKind_6 (lkX7_83 _ rfl) okV_X9_get rfl rfl (tb_get (d := 0) rfl rfl (pm_tw_of 20 6 (by decide) (by decide) (by decide))) rfl rfl hdd (Nat.le_refl _) (Nat.le_refl _) (by decide) (pm_ki (fun v1 σ' cnt' hq => ?_))
  obtain ⟨I1, A1, rfl, rfl, h1⟩ := hv_id (kp := kp) (I := I) (A := A) h hq.2
  refine pm_istoreXn (loc' := [some (.ref (B + 1)), some (.int za), some (.int zb), some (.int v1), none]) hG dX7_isOfKind_9 (by decide) (pm_c1b rfl) rfl ?_
  refine pm_iconst (v := 0) hG dX7_isOfKind_10 (by decide) ?_
  refine pm_istoreXi (loc' := [some (.ref (B + 1)), some (.int za), some (.int zb), some (.int v1), some (.int 0)]) hG dX7_isOfKind_11 (by decide) (pm_c1b rfl) rfl ?_
  have loop13 : ∀ (m13 : Nat) (I2 : Nat → Int32) (A2 : Nat → Nat → Int32) (x2_3 x2_4 : Int32), gq ε I2 → (¬ x2_4 < 0) → ((6 : Int32).toInt - x2_4.toInt).toNat < m13 → pm_wp mX7_isOfKind G B 13 [some (.ref (B + 1)), some (.int za), some (.int zb), some (.int x2_3), some (.int x2_4)] [] 0 0 cnt (pm_two (cl_L B kp I2 A2) ρ) := by
    intro m13
    induction m13 with
    | zero => intro I2 A2 x2_3 x2_4 _  _ hm; exact absurd hm (Nat.not_lt_zero _)
    | succ m13 ih13 =>
      intro I2 A2 x2_3 x2_4 h2 s13 hm13
      refine pm_iloadi hG dX7_isOfKind_13 rfl ?_
      refine pm_gsAb hG dX7_isOfKind_15 (fsX7_134 _ rfl) (fun y3 hy3 => ?_)
      refine pm_abLen hG dX7_isOfKind_18 hy3 ?_
      refine pm_icmp_ge (tgt := 53) hG dX7_isOfKind_19 rfl (fun c4 => ?_) (fun c4 => ?_)
      · refine pm_iconst (v := 0) hG dX7_isOfKind_53 (by decide) ?_
        exact pm_zret hG hF dX7_isOfKind_54 rfl (pm_nz (Or.inl rfl)) (Nat.le_refl _) (Nat.le_refl _) ⟨_, rfl, (Or.inl rfl), _, _, rfl, rfl, h2⟩
      · refine pm_iloadn hG dX7_isOfKind_22 rfl ?_
        refine pm_if_lt (tgt := 53) hG dX7_isOfKind_23 rfl (fun c5 => ?_) (fun c5 => ?_)
        · refine pm_iconst (v := 0) hG dX7_isOfKind_53 (by decide) ?_
          exact pm_zret hG hF dX7_isOfKind_54 rfl (pm_nz (Or.inl rfl)) (Nat.le_refl _) (Nat.le_refl _) ⟨_, rfl, (Or.inl rfl), _, _, rfl, rfl, h2⟩
        · refine pm_iloadn hG dX7_isOfKind_26 rfl ?_
          refine pm_gsAb hG dX7_isOfKind_27 (fsX7_134 _ rfl) (fun y6 hy6 => ?_)
          refine pm_abLen hG dX7_isOfKind_30 hy6 ?_
          refine pm_icmp_ge (tgt := 53) hG dX7_isOfKind_31 rfl (fun c7 => ?_) (fun c7 => ?_)
          · refine pm_iconst (v := 0) hG dX7_isOfKind_53 (by decide) ?_
            exact pm_zret hG hF dX7_isOfKind_54 rfl (pm_nz (Or.inl rfl)) (Nat.le_refl _) (Nat.le_refl _) ⟨_, rfl, (Or.inl rfl), _, _, rfl, rfl, h2⟩
          · refine pm_iloadn hG dX7_isOfKind_34 rfl ?_
            refine pm_iloadn hG dX7_isOfKind_35 rfl ?_
            refine pm_icmp_ne (tgt := 41) hG dX7_isOfKind_36 rfl (fun c8 => ?_) (fun c8 => ?_)
            · refine pm_gsAb hG dX7_isOfKind_41 (fsX7_134 _ rfl) (fun y9 hy9 => ?_)
              refine pm_iloadn hG dX7_isOfKind_44 rfl ?_
              refine pm_abLd hG dX7_isOfKind_45 hy9 (pm_ib2 rfl c5 c7) (fun v10 => ?_)
              refine pm_istoreXn (loc' := [some (.ref (B + 1)), some (.int za), some (.int zb), some (.int v10), some (.int x2_4)]) hG dX7_isOfKind_46 (by decide) (pm_c1b rfl) rfl ?_
              refine pm_iincX (v := x2_4 + 1) (loc' := [some (.ref (B + 1)), some (.int za), some (.int zb), some (.int v10), some (.int (x2_4 + 1))]) hG dX7_isOfKind_47 rfl (by rfl) (by decide) (pm_c1b rfl) rfl ?_
              refine pm_goto (tgt := 13) hG dX7_isOfKind_50 rfl ?_
              exact ih13 _ _ v10 (x2_4 + 1) h2 (pm_sd1 c4 s13) (Nat.lt_of_lt_of_le (pm_mu1 c4) (Nat.le_of_lt_succ hm13))
            · refine pm_iconst (v := 1) hG dX7_isOfKind_39 (by decide) ?_
              exact pm_zret hG hF dX7_isOfKind_40 rfl (pm_nz (Or.inr rfl)) (Nat.le_refl _) (Nat.le_refl _) ⟨_, rfl, (Or.inr rfl), _, _, rfl, rfl, h2⟩
  exact loop13 _ _ _ v1 0 h1 (by decide) (Nat.lt_succ_self _)

set_option maxRecDepth 100000 in
set_option maxHeartbeats 4000000 in
theorem g_X2_pop {ε : Nat → Int32} {d B cnt : Nat} {kp : pm_KP} {ρ : pm_S} {I : Nat → Int32} {A : Nat → Nat → Int32} (hdd : 1 ≤ d) (h : gq ε I) : pm_met mX2_pop d 0 0 B [.ref (B + 26)] cnt (pm_two (cl_L B kp I A) ρ) (pm_Qi (fun _ σ' cnt' => hvq ε B kp ρ cnt σ' cnt')) := by
  refine pm_enter 0 (by decide) (Nat.le_of_ble_eq_true rfl) rfl (fun G hG hR hF => ?_)
  refine pm_aloadn hG dX2_pop_0 rfl ?_
  refine pm_getf hG dX2_pop_1 (flX2_87 _ rfl) rfl rfl ?_
  refine pm_iconst (v := 1) hG dX2_pop_4 (by decide) ?_
  refine pm_icmp_lt (tgt := 20) hG dX2_pop_5 rfl (fun c1 => ?_) (fun c1 => ?_)
  · refine pm_iconst (v := 0) hG dX2_pop_20 (by decide) ?_
    exact pm_iret hG hF dX2_pop_21 rfl (Nat.le_refl _) (Nat.le_refl _) ⟨_, rfl, _, _, rfl, rfl, h⟩
  · refine pm_aloadn hG dX2_pop_8 rfl ?_
    refine pm_getf hG dX2_pop_9 (flX2_87 _ rfl) rfl rfl ?_
    refine pm_aloadn hG dX2_pop_12 rfl ?_
    refine pm_getf hG dX2_pop_13 (flX2_30 _ rfl) rfl rfl ?_
    refine pm_alen (v := 60) hG dX2_pop_16 rfl (by decide) ?_
    refine pm_icmp_le (tgt := 22) hG dX2_pop_17 rfl (fun c2 => ?_) (fun c2 => ?_)
    · refine pm_aloadn hG dX2_pop_22 rfl ?_
      refine pm_dup hG dX2_pop_23 rfl ?_
      refine pm_getf hG dX2_pop_24 (flX2_87 _ rfl) rfl rfl ?_
      refine pm_iconst (v := 1) hG dX2_pop_27 (by decide) ?_
      refine pm_isub hG dX2_pop_28 ?_
      refine pm_putf hG dX2_pop_29 (fwX2_87 _ rfl) rfl rfl rfl ?_
      refine pm_nrm (L' := cl_L B kp (ui I 104 ((I 104) - 1)) A) (by decide) (Nat.le_of_ble_eq_true rfl) rfl ?_
      refine pm_aloadn hG dX2_pop_32 rfl ?_
      refine pm_getf hG dX2_pop_33 (flX2_30 _ rfl) rfl rfl ?_
      refine pm_aloadn hG dX2_pop_36 rfl ?_
      refine pm_getf hG dX2_pop_37 (flX2_87 _ rfl) rfl rfl ?_
      refine pm_iald hG dX2_pop_40 rfl (pm_ibm (x := (I 104)) (by have q := And.intro True.intro True.intro; simp only [Int32.lt_iff_toInt_lt, Int32.le_iff_toInt_le, ← Int32.toInt_inj, (show (1 : Int32).toInt = 1 from rfl), (show (60 : Int32).toInt = 60 from rfl)] at *; omega)) ?_
      exact pm_iret hG hF dX2_pop_41 rfl (Nat.le_refl _) (Nat.le_refl _) ⟨_, rfl, _, _, rfl, rfl, (gq.wi (k := 104) rfl h)⟩
    · refine pm_iconst (v := 0) hG dX2_pop_20 (by decide) ?_
      exact pm_iret hG hF dX2_pop_21 rfl (Nat.le_refl _) (Nat.le_refl _) ⟨_, rfl, _, _, rfl, rfl, h⟩

set_option maxRecDepth 100000 in
set_option maxHeartbeats 4000000 in
theorem g_X2_joined {ε : Nat → Int32} {d B cnt : Nat} {kp : pm_KP} {ρ : pm_S} {I : Nat → Int32} {A : Nat → Nat → Int32} {za zb zc : Int32} (hdd : 1 ≤ d) (h : gq ε I) : pm_met mX2_joined d 0 0 B [.int za, .int zb, .int zc] cnt (pm_two (cl_L B kp I A) ρ) (pm_Qi (fun _ σ' cnt' => hvq ε B kp ρ cnt σ' cnt')) := by
  refine pm_enter 0 (by decide) (Nat.le_of_ble_eq_true rfl) rfl (fun G hG hR hF => ?_)
  refine pm_iloadn hG dX2_joined_0 rfl ?_
  by_cases c1 : za = (-7)
  · refine pm_top (v := (-7)) c1 ?_
    refine pm_tswIn (tgt := 101) hG dX2_joined_1 (by decide) (by decide) rfl rfl ?_
    refine pm_iloadn hG dX2_joined_101 rfl ?_
    refine pm_iloadn hG dX2_joined_102 rfl ?_
    refine pm_iadd hG dX2_joined_103 ?_
    exact pm_iret hG hF dX2_joined_104 rfl (Nat.le_refl _) (Nat.le_refl _) ⟨_, rfl, _, _, rfl, rfl, h⟩
  by_cases c2 : za = (-6)
  · refine pm_top (v := (-6)) c2 ?_
    refine pm_tswIn (tgt := 90) hG dX2_joined_1 (by decide) (by decide) rfl rfl ?_
    refine pm_iloadn hG dX2_joined_90 rfl ?_
    refine pm_iloadn hG dX2_joined_91 rfl ?_
    refine pm_icmp_le (tgt := 99) hG dX2_joined_92 rfl (fun c3 => ?_) (fun c3 => ?_)
    · refine pm_iconst (v := 0) hG dX2_joined_99 (by decide) ?_
      exact pm_iret hG hF dX2_joined_100 rfl (Nat.le_refl _) (Nat.le_refl _) ⟨_, rfl, _, _, rfl, rfl, h⟩
    · refine pm_iconst (v := 1) hG dX2_joined_95 (by decide) ?_
      refine pm_goto (tgt := 100) hG dX2_joined_96 rfl ?_
      exact pm_iret hG hF dX2_joined_100 rfl (Nat.le_refl _) (Nat.le_refl _) ⟨_, rfl, _, _, rfl, rfl, h⟩
  by_cases c4 : za = (-5)
  · refine pm_top (v := (-5)) c4 ?_
    refine pm_tswIn (tgt := 79) hG dX2_joined_1 (by decide) (by decide) rfl rfl ?_
    refine pm_iloadn hG dX2_joined_79 rfl ?_
    refine pm_iloadn hG dX2_joined_80 rfl ?_
    refine pm_icmp_ne (tgt := 88) hG dX2_joined_81 rfl (fun c5 => ?_) (fun c5 => ?_)
    · refine pm_iconst (v := 0) hG dX2_joined_88 (by decide) ?_
      exact pm_iret hG hF dX2_joined_89 rfl (Nat.le_refl _) (Nat.le_refl _) ⟨_, rfl, _, _, rfl, rfl, h⟩
    · refine pm_iconst (v := 1) hG dX2_joined_84 (by decide) ?_
      refine pm_goto (tgt := 89) hG dX2_joined_85 rfl ?_
      exact pm_iret hG hF dX2_joined_89 rfl (Nat.le_refl _) (Nat.le_refl _) ⟨_, rfl, _, _, rfl, rfl, h⟩
  by_cases c6 : za = (-4)
  · refine pm_top (v := (-4)) c6 ?_
    refine pm_tswIn (tgt := 68) hG dX2_joined_1 (by decide) (by decide) rfl rfl ?_
    refine pm_iloadn hG dX2_joined_68 rfl ?_
    refine pm_iloadn hG dX2_joined_69 rfl ?_
    refine pm_icmp_ge (tgt := 77) hG dX2_joined_70 rfl (fun c7 => ?_) (fun c7 => ?_)
    · refine pm_iconst (v := 0) hG dX2_joined_77 (by decide) ?_
      exact pm_iret hG hF dX2_joined_78 rfl (Nat.le_refl _) (Nat.le_refl _) ⟨_, rfl, _, _, rfl, rfl, h⟩
    · refine pm_iconst (v := 1) hG dX2_joined_73 (by decide) ?_
      refine pm_goto (tgt := 78) hG dX2_joined_74 rfl ?_
      exact pm_iret hG hF dX2_joined_78 rfl (Nat.le_refl _) (Nat.le_refl _) ⟨_, rfl, _, _, rfl, rfl, h⟩
  by_cases c8 : za = (-3)
  · refine pm_top (v := (-3)) c8 ?_
    refine pm_tswIn (tgt := 54) hG dX2_joined_1 (by decide) (by decide) rfl rfl ?_
    refine pm_iloadn hG dX2_joined_54 rfl ?_
    refine pm_if_eq (tgt := 66) hG dX2_joined_55 rfl (fun c9 => ?_) (fun c9 => ?_)
    · refine pm_iconst (v := 0) hG dX2_joined_66 (by decide) ?_
      exact pm_iret hG hF dX2_joined_67 rfl (Nat.le_refl _) (Nat.le_refl _) ⟨_, rfl, _, _, rfl, rfl, h⟩
    · refine pm_iloadn hG dX2_joined_58 rfl ?_
      refine pm_if_eq (tgt := 66) hG dX2_joined_59 rfl (fun c10 => ?_) (fun c10 => ?_)
      · refine pm_iconst (v := 0) hG dX2_joined_66 (by decide) ?_
        exact pm_iret hG hF dX2_joined_67 rfl (Nat.le_refl _) (Nat.le_refl _) ⟨_, rfl, _, _, rfl, rfl, h⟩
      · refine pm_iconst (v := 1) hG dX2_joined_62 (by decide) ?_
        refine pm_goto (tgt := 67) hG dX2_joined_63 rfl ?_
        exact pm_iret hG hF dX2_joined_67 rfl (Nat.le_refl _) (Nat.le_refl _) ⟨_, rfl, _, _, rfl, rfl, h⟩
  by_cases c11 : za = (-2)
  · refine pm_top (v := (-2)) c11 ?_
    refine pm_tswIn (tgt := 40) hG dX2_joined_1 (by decide) (by decide) rfl rfl ?_
    refine pm_iloadn hG dX2_joined_40 rfl ?_
    refine pm_if_ne (tgt := 48) hG dX2_joined_41 rfl (fun c12 => ?_) (fun c12 => ?_)
    · refine pm_iconst (v := 1) hG dX2_joined_48 (by decide) ?_
      refine pm_goto (tgt := 53) hG dX2_joined_49 rfl ?_
      exact pm_iret hG hF dX2_joined_53 rfl (Nat.le_refl _) (Nat.le_refl _) ⟨_, rfl, _, _, rfl, rfl, h⟩
    · refine pm_iloadn hG dX2_joined_44 rfl ?_
      refine pm_if_eq (tgt := 52) hG dX2_joined_45 rfl (fun c13 => ?_) (fun c13 => ?_)
      · refine pm_iconst (v := 0) hG dX2_joined_52 (by decide) ?_
        exact pm_iret hG hF dX2_joined_53 rfl (Nat.le_refl _) (Nat.le_refl _) ⟨_, rfl, _, _, rfl, rfl, h⟩
      · refine pm_iconst (v := 1) hG dX2_joined_48 (by decide) ?_
        refine pm_goto (tgt := 53) hG dX2_joined_49 rfl ?_
        exact pm_iret hG hF dX2_joined_53 rfl (Nat.le_refl _) (Nat.le_refl _) ⟨_, rfl, _, _, rfl, rfl, h⟩
  have tc1 : ¬ za.toInt = (-7) := fun q => c1 (Int32.toInt_inj.mp q)
  have tc2 : ¬ za.toInt = (-6) := fun q => c2 (Int32.toInt_inj.mp q)
  have tc4 : ¬ za.toInt = (-5) := fun q => c4 (Int32.toInt_inj.mp q)
  have tc6 : ¬ za.toInt = (-4) := fun q => c6 (Int32.toInt_inj.mp q)
  have tc8 : ¬ za.toInt = (-3) := fun q => c8 (Int32.toInt_inj.mp q)
  have tc11 : ¬ za.toInt = (-2) := fun q => c11 (Int32.toInt_inj.mp q)
  refine pm_tswOut (tgt := 105) hG dX2_joined_1 (by omega) rfl ?_
  refine pm_iloadn hG dX2_joined_105 rfl ?_
  refine pm_iloadn hG dX2_joined_106 rfl ?_
  refine pm_isub hG dX2_joined_107 ?_
  exact pm_iret hG hF dX2_joined_108 rfl (Nat.le_refl _) (Nat.le_refl _) ⟨_, rfl, _, _, rfl, rfl, h⟩

set_option maxRecDepth 100000 in
set_option maxHeartbeats 4000000 in
theorem g_X2_push {ε : Nat → Int32} {d B cnt : Nat} {kp : pm_KP} {ρ : pm_S} {I : Nat → Int32} {A : Nat → Nat → Int32} {za : Int32} (hdd : 1 ≤ d) (h : gq ε I) : pm_met mX2_push d 0 0 B [.ref (B + 26), .int za] cnt (pm_two (cl_L B kp I A) ρ) (pm_Qv (fun σ' cnt' => hvq ε B kp ρ cnt σ' cnt')) := by
  refine pm_enter 0 (by decide) (Nat.le_of_ble_eq_true rfl) rfl (fun G hG hR hF => ?_)
  refine pm_aloadn hG dX2_push_0 rfl ?_
  refine pm_getf hG dX2_push_1 (flX2_87 _ rfl) rfl rfl ?_
  refine pm_if_lt (tgt := 39) hG dX2_push_4 rfl (fun c1 => ?_) (fun c1 => ?_)
  · exact pm_vret hG hF dX2_push_39 rfl (Nat.le_refl _) (Nat.le_refl _) ⟨rfl, _, _, rfl, rfl, h⟩
  · refine pm_aloadn hG dX2_push_7 rfl ?_
    refine pm_getf hG dX2_push_8 (flX2_87 _ rfl) rfl rfl ?_
    refine pm_aloadn hG dX2_push_11 rfl ?_
    refine pm_getf hG dX2_push_12 (flX2_30 _ rfl) rfl rfl ?_
    refine pm_alen (v := 60) hG dX2_push_15 rfl (by decide) ?_
    refine pm_icmp_ge (tgt := 39) hG dX2_push_16 rfl (fun c2 => ?_) (fun c2 => ?_)
    · exact pm_vret hG hF dX2_push_39 rfl (Nat.le_refl _) (Nat.le_refl _) ⟨rfl, _, _, rfl, rfl, h⟩
    · refine pm_aloadn hG dX2_push_19 rfl ?_
      refine pm_getf hG dX2_push_20 (flX2_30 _ rfl) rfl rfl ?_
      refine pm_aloadn hG dX2_push_23 rfl ?_
      refine pm_getf hG dX2_push_24 (flX2_87 _ rfl) rfl rfl ?_
      refine pm_iloadn hG dX2_push_27 rfl ?_
      refine pm_iast hG dX2_push_28 rfl (pm_ib2 rfl c1 c2) ?_
      refine nm_a30 (fun A3 => ?_)
      refine pm_aloadn hG dX2_push_29 rfl ?_
      refine pm_dup hG dX2_push_30 rfl ?_
      refine pm_getf hG dX2_push_31 (flX2_87 _ rfl) rfl rfl ?_
      refine pm_iconst (v := 1) hG dX2_push_34 (by decide) ?_
      refine pm_iadd hG dX2_push_35 ?_
      refine pm_putf hG dX2_push_36 (fwX2_87 _ rfl) rfl rfl rfl ?_
      refine pm_nrm (L' := cl_L B kp (ui I 104 ((I 104) + 1)) A3) (by decide) (Nat.le_of_ble_eq_true rfl) rfl ?_
      exact pm_vret hG hF dX2_push_39 rfl (Nat.le_refl _) (Nat.le_refl _) ⟨rfl, _, _, rfl, rfl, (gq.wi (k := 104) rfl h)⟩

set_option maxRecDepth 100000 in
set_option maxHeartbeats 4000000 in
theorem g_X11_yearsBetween {ε : Nat → Int32} {d B cnt : Nat} {kp : pm_KP} {ρ : pm_S} {I : Nat → Int32} {A : Nat → Nat → Int32} {za zb : Int32} (hdd : 1 ≤ d) (h : gq ε I) : pm_met mX11_yearsBetween d 0 0 B [.int za, .int zb] cnt (pm_two (cl_L B kp I A) ρ) (pm_Qi (fun _ σ' cnt' => hvq ε B kp ρ cnt σ' cnt')) := by
  refine pm_enter 0 (by decide) (Nat.le_of_ble_eq_true rfl) rfl (fun G hG hR hF => ?_)
  refine pm_iloadn hG dX11_yearsBetween_0 rfl ?_
  refine pm_iloadn hG dX11_yearsBetween_1 rfl ?_
  refine pm_isub hG dX11_yearsBetween_2 ?_
  refine pm_sipush (v := 360) hG dX11_yearsBetween_3 (by decide) ?_
  refine pm_idiv hG dX11_yearsBetween_6 (by decide) ?_
  exact pm_iret hG hF dX11_yearsBetween_7 rfl (Nat.le_refl _) (Nat.le_refl _) ⟨_, rfl, _, _, rfl, rfl, h⟩

set_option maxRecDepth 100000 in
set_option maxHeartbeats 4000000 in
theorem g_X2_placeNamed {ε : Nat → Int32} {d B cnt : Nat} {kp : pm_KP} {ρ : pm_S} {I : Nat → Int32} {A : Nat → Nat → Int32} {za : Int32} (hdd : 1 ≤ d) (h : gq ε I) : pm_met mX2_placeNamed d 0 0 B [.int za] cnt (pm_two (cl_L B kp I A) ρ) (pm_Qi (fun _ σ' cnt' => hvq ε B kp ρ cnt σ' cnt')) := by
  refine pm_enter 0 (by decide) (Nat.le_of_ble_eq_true rfl) rfl (fun G hG hR hF => ?_)
  refine pm_iloadn hG dX2_placeNamed_0 rfl ?_
  refine pm_if_ge (tgt := 9) hG dX2_placeNamed_1 rfl (fun c1 => ?_) (fun c1 => ?_)
  · refine pm_iloadn hG dX2_placeNamed_9 rfl ?_
    exact pm_iret hG hF dX2_placeNamed_10 rfl (Nat.le_refl _) (Nat.le_refl _) ⟨_, rfl, _, _, rfl, rfl, h⟩
  · refine pm_bipush (v := 10) hG dX2_placeNamed_4 (by decide) ?_
    refine pm_goto (tgt := 10) hG dX2_placeNamed_6 rfl ?_
    exact pm_iret hG hF dX2_placeNamed_10 rfl (Nat.le_refl _) (Nat.le_refl _) ⟨_, rfl, _, _, rfl, rfl, h⟩

set_option maxRecDepth 100000 in
set_option maxHeartbeats 4000000 in
theorem g_X2_named {ε : Nat → Int32} {d B cnt : Nat} {kp : pm_KP} {ρ : pm_S} {I : Nat → Int32} {A : Nat → Nat → Int32} {za zb zc zd : Int32} (hdd : 2 ≤ d) (h : gq ε I) : pm_met mX2_named d 0 0 B [.ref (B + 26), .int za, .int zb, .int zc, .int zd] cnt (pm_two (cl_L B kp I A) ρ) (pm_Qi (fun _ σ' cnt' => hvq ε B kp ρ cnt σ' cnt')) := by
  refine pm_enter 1 (by decide) (Nat.le_of_ble_eq_true rfl) rfl (fun G hG hR hF => ?_)
  refine pm_iloadn hG dX2_named_0 rfl ?_
  refine pm_bipush (v := 6) hG dX2_named_1 (by decide) ?_
  refine pm_icmp_gt (tgt := 18) hG dX2_named_3 rfl (fun c1 => ?_) (fun c1 => ?_)
  · refine pm_iloadn hG dX2_named_18 rfl ?_
    refine pm_bipush (v := 9) hG dX2_named_19 (by decide) ?_
    refine pm_icmp_gt (tgt := 32) hG dX2_named_21 rfl (fun c2 => ?_) (fun c2 => ?_)
    · refine pm_iconst (v := 0) hG dX2_named_32 (by decide) ?_
      refine pm_istoreXi (loc' := [some (.ref (B + 26)), some (.int za), some (.int zb), some (.int zc), some (.int zd), some (.int 0)]) hG dX2_named_33 (by decide) (pm_c1b rfl) rfl ?_
      refine pm_iloadi hG dX2_named_35 rfl ?_
      refine pm_if_eq (tgt := 42) hG dX2_named_37 rfl (fun _ => ?_) (fun q => absurd q (by decide))
      refine pm_iloadn hG dX2_named_42 rfl ?_
      by_cases c3 : za = 0
      · refine pm_top (v := 0) c3 ?_
        refine pm_tswIn (tgt := 96) hG dX2_named_43 (by decide) (by decide) rfl rfl ?_
        refine pm_aloadn hG dX2_named_96 rfl ?_
        refine pm_getf hG dX2_named_97 (flX2_9 _ rfl) rfl rfl ?_
        refine pm_getf hG dX2_named_100 (flX2_103 _ rfl) rfl rfl ?_
        refine pm_iloadn hG dX2_named_103 rfl ?_
        refine pm_iconst (v := 1) hG dX2_named_104 (by decide) ?_
        refine pm_callV (As := [.int zb, .int 1]) (rest := []) hG hR dX2_named_105 (lkX2_67 _ rfl) okV_X9_get rfl rfl (tb_get (d := 1) rfl rfl (pm_tw_of 20 14 (by decide) (by decide) (by decide))) rfl rfl hdd (Nat.le_refl _) (Nat.le_refl _) (by decide) (pm_ki (fun v4 σ' cnt' hq => ?_))
        obtain ⟨I4, A4, rfl, rfl, h4⟩ := hv_id (kp := kp) (I := I) (A := A) h hq.2
        refine pm_iloadi hG dX2_named_108 rfl ?_
        refine pm_callS (As := [.int v4, .int zd]) (rest := []) hG hR dX2_named_110 (lkX2_106 _ rfl) okS_X11_yearsBetween (g_X11_yearsBetween (d := 1) (by decide) h4) rfl rfl hdd (Nat.le_refl _) (Nat.le_refl _) (by decide) (pm_ki (fun v5 σ' cnt' hq => ?_))
        obtain ⟨I5, A5, rfl, rfl, h5⟩ := hq
        exact pm_iret hG hF dX2_named_113 rfl (Nat.le_refl _) (Nat.le_refl _) ⟨_, rfl, _, _, rfl, rfl, h5⟩
      by_cases c6 : za = 1
      · refine pm_top (v := 1) c6 ?_
        refine pm_tswIn (tgt := 114) hG dX2_named_43 (by decide) (by decide) rfl rfl ?_
        refine pm_aloadn hG dX2_named_114 rfl ?_
        refine pm_getf hG dX2_named_115 (flX2_9 _ rfl) rfl rfl ?_
        refine pm_getf hG dX2_named_118 (flX2_103 _ rfl) rfl rfl ?_
        refine pm_iloadn hG dX2_named_121 rfl ?_
        refine pm_iconst (v := 0) hG dX2_named_122 (by decide) ?_
        refine pm_callV (As := [.int zb, .int 0]) (rest := []) hG hR dX2_named_123 (lkX2_67 _ rfl) okV_X9_get rfl rfl (tb_get (d := 1) rfl rfl (pm_tw_of 20 14 (by decide) (by decide) (by decide))) rfl rfl hdd (Nat.le_refl _) (Nat.le_refl _) (by decide) (pm_ki (fun v7 σ' cnt' hq => ?_))
        obtain ⟨I7, A7, rfl, rfl, h7⟩ := hv_id (kp := kp) (I := I) (A := A) h hq.2
        exact pm_iret hG hF dX2_named_126 rfl (Nat.le_refl _) (Nat.le_refl _) ⟨_, rfl, _, _, rfl, rfl, h7⟩
      by_cases c8 : za = 2
      · refine pm_top (v := 2) c8 ?_
        refine pm_tswIn (tgt := 127) hG dX2_named_43 (by decide) (by decide) rfl rfl ?_
        refine pm_aloadn hG dX2_named_127 rfl ?_
        refine pm_getf hG dX2_named_128 (flX2_9 _ rfl) rfl rfl ?_
        refine pm_getf hG dX2_named_131 (flX2_109 _ rfl) rfl rfl ?_
        refine pm_iconst (v := 2) hG dX2_named_134 (by decide) ?_
        refine pm_iloadn hG dX2_named_135 rfl ?_
        obtain ⟨k9, hk9, hu9⟩ := gq.used h 8 20 (by decide)
        have ht9 : pm_two (cl_L B kp I A) ρ 8 = some (.inr (9, [.int (nI 20), .int (nI 6), .ref (B + 9), .int (nI k9)])) := by rw [← hu9]; rfl
        refine pm_callV (As := [.int 2, .int zb]) (rest := []) hG hR dX2_named_136 (lkX2_71 _ rfl) okV_X9_rowsWith rfl rfl (tb_rowsWith (d := 1) (k := 2) ht9 rfl (by decide) (by decide) (by decide) hk9 (by omega) (by decide)) rfl rfl hdd (Nat.le_refl _) (Nat.le_refl _) (by decide) (pm_ki (fun v9 σ' cnt' hq => ?_))
        obtain ⟨I9, A9, rfl, rfl, h9⟩ := hv_id (kp := kp) (I := I) (A := A) h hq.2
        exact pm_iret hG hF dX2_named_139 rfl (Nat.le_refl _) (Nat.le_refl _) ⟨_, rfl, _, _, rfl, rfl, h9⟩
      by_cases c10 : za = 3
      · refine pm_top (v := 3) c10 ?_
        refine pm_tswIn (tgt := 140) hG dX2_named_43 (by decide) (by decide) rfl rfl ?_
        refine pm_aloadn hG dX2_named_140 rfl ?_
        refine pm_getf hG dX2_named_141 (flX2_9 _ rfl) rfl rfl ?_
        refine pm_getf hG dX2_named_144 (flX2_103 _ rfl) rfl rfl ?_
        refine pm_iloadn hG dX2_named_147 rfl ?_
        refine pm_bipush (v := 7) hG dX2_named_148 (by decide) ?_
        refine pm_callV (As := [.int zb, .int 7]) (rest := []) hG hR dX2_named_150 (lkX2_67 _ rfl) okV_X9_get rfl rfl (tb_get (d := 1) rfl rfl (pm_tw_of 20 14 (by decide) (by decide) (by decide))) rfl rfl hdd (Nat.le_refl _) (Nat.le_refl _) (by decide) (pm_ki (fun v11 σ' cnt' hq => ?_))
        obtain ⟨I11, A11, rfl, rfl, h11⟩ := hv_id (kp := kp) (I := I) (A := A) h hq.2
        exact pm_iret hG hF dX2_named_153 rfl (Nat.le_refl _) (Nat.le_refl _) ⟨_, rfl, _, _, rfl, rfl, h11⟩
      by_cases c12 : za = 4
      · refine pm_top (v := 4) c12 ?_
        refine pm_tswIn (tgt := 154) hG dX2_named_43 (by decide) (by decide) rfl rfl ?_
        refine pm_aloadn hG dX2_named_154 rfl ?_
        refine pm_getf hG dX2_named_155 (flX2_9 _ rfl) rfl rfl ?_
        refine pm_getf hG dX2_named_158 (flX2_103 _ rfl) rfl rfl ?_
        refine pm_iloadn hG dX2_named_161 rfl ?_
        refine pm_bipush (v := 8) hG dX2_named_162 (by decide) ?_
        refine pm_callV (As := [.int zb, .int 8]) (rest := []) hG hR dX2_named_164 (lkX2_67 _ rfl) okV_X9_get rfl rfl (tb_get (d := 1) rfl rfl (pm_tw_of 20 14 (by decide) (by decide) (by decide))) rfl rfl hdd (Nat.le_refl _) (Nat.le_refl _) (by decide) (pm_ki (fun v13 σ' cnt' hq => ?_))
        obtain ⟨I13, A13, rfl, rfl, h13⟩ := hv_id (kp := kp) (I := I) (A := A) h hq.2
        exact pm_iret hG hF dX2_named_167 rfl (Nat.le_refl _) (Nat.le_refl _) ⟨_, rfl, _, _, rfl, rfl, h13⟩
      by_cases c14 : za = 5
      · refine pm_top (v := 5) c14 ?_
        refine pm_tswIn (tgt := 168) hG dX2_named_43 (by decide) (by decide) rfl rfl ?_
        refine pm_aloadn hG dX2_named_168 rfl ?_
        refine pm_getf hG dX2_named_169 (flX2_9 _ rfl) rfl rfl ?_
        refine pm_getf hG dX2_named_172 (flX2_103 _ rfl) rfl rfl ?_
        refine pm_iloadn hG dX2_named_175 rfl ?_
        refine pm_iconst (v := 4) hG dX2_named_176 (by decide) ?_
        refine pm_callV (As := [.int zb, .int 4]) (rest := []) hG hR dX2_named_177 (lkX2_67 _ rfl) okV_X9_get rfl rfl (tb_get (d := 1) rfl rfl (pm_tw_of 20 14 (by decide) (by decide) (by decide))) rfl rfl hdd (Nat.le_refl _) (Nat.le_refl _) (by decide) (pm_ki (fun v15 σ' cnt' hq => ?_))
        obtain ⟨I15, A15, rfl, rfl, h15⟩ := hv_id (kp := kp) (I := I) (A := A) h hq.2
        refine pm_callS (As := [.int v15]) (rest := []) hG hR dX2_named_180 (lkX2_112 _ rfl) okS_X2_placeNamed (g_X2_placeNamed (d := 1) (by decide) h15) rfl rfl hdd (Nat.le_refl _) (Nat.le_refl _) (by decide) (pm_ki (fun v16 σ' cnt' hq => ?_))
        obtain ⟨I16, A16, rfl, rfl, h16⟩ := hq
        exact pm_iret hG hF dX2_named_183 rfl (Nat.le_refl _) (Nat.le_refl _) ⟨_, rfl, _, _, rfl, rfl, h16⟩
      by_cases c17 : za = 6
      · refine pm_top (v := 6) c17 ?_
        refine pm_tswIn (tgt := 184) hG dX2_named_43 (by decide) (by decide) rfl rfl ?_
        refine pm_aloadn hG dX2_named_184 rfl ?_
        refine pm_getf hG dX2_named_185 (flX2_9 _ rfl) rfl rfl ?_
        refine pm_getf hG dX2_named_188 (flX2_103 _ rfl) rfl rfl ?_
        refine pm_iloadn hG dX2_named_191 rfl ?_
        refine pm_bipush (v := 11) hG dX2_named_192 (by decide) ?_
        refine pm_callV (As := [.int zb, .int 11]) (rest := []) hG hR dX2_named_194 (lkX2_67 _ rfl) okV_X9_get rfl rfl (tb_get (d := 1) rfl rfl (pm_tw_of 20 14 (by decide) (by decide) (by decide))) rfl rfl hdd (Nat.le_refl _) (Nat.le_refl _) (by decide) (pm_ki (fun v18 σ' cnt' hq => ?_))
        obtain ⟨I18, A18, rfl, rfl, h18⟩ := hv_id (kp := kp) (I := I) (A := A) h hq.2
        exact pm_iret hG hF dX2_named_197 rfl (Nat.le_refl _) (Nat.le_refl _) ⟨_, rfl, _, _, rfl, rfl, h18⟩
      by_cases c19 : za = 7
      · refine pm_top (v := 7) c19 ?_
        refine pm_tswIn (tgt := 198) hG dX2_named_43 (by decide) (by decide) rfl rfl ?_
        refine pm_aloadn hG dX2_named_198 rfl ?_
        refine pm_getf hG dX2_named_199 (flX2_9 _ rfl) rfl rfl ?_
        refine pm_getf hG dX2_named_202 (flX2_115 _ rfl) rfl rfl ?_
        refine pm_iloadn hG dX2_named_205 rfl ?_
        refine pm_iconst (v := 4) hG dX2_named_206 (by decide) ?_
        refine pm_callV (As := [.int zc, .int 4]) (rest := []) hG hR dX2_named_207 (lkX2_67 _ rfl) okV_X9_get rfl rfl (tb_get (d := 1) rfl rfl (pm_tw_of 40 12 (by decide) (by decide) (by decide))) rfl rfl hdd (Nat.le_refl _) (Nat.le_refl _) (by decide) (pm_ki (fun v20 σ' cnt' hq => ?_))
        obtain ⟨I20, A20, rfl, rfl, h20⟩ := hv_id (kp := kp) (I := I) (A := A) h hq.2
        refine pm_callS (As := [.int v20]) (rest := []) hG hR dX2_named_210 (lkX2_118 _ rfl) okS_J6_bitCount_0f7a4 (gj_bitCount (d := 1)) rfl rfl hdd (Nat.le_refl _) (Nat.le_refl _) (by decide) (pm_ki (fun v21 σ' cnt' hq => ?_))
        obtain ⟨I21, A21, rfl, rfl, h21⟩ := hv_id (kp := kp) (I := I20) (A := A20) h20 hq
        exact pm_iret hG hF dX2_named_213 rfl (Nat.le_refl _) (Nat.le_refl _) ⟨_, rfl, _, _, rfl, rfl, h21⟩
      by_cases c22 : za = 8
      · refine pm_top (v := 8) c22 ?_
        refine pm_tswIn (tgt := 214) hG dX2_named_43 (by decide) (by decide) rfl rfl ?_
        refine pm_aloadn hG dX2_named_214 rfl ?_
        refine pm_getf hG dX2_named_215 (flX2_9 _ rfl) rfl rfl ?_
        refine pm_getf hG dX2_named_218 (flX2_115 _ rfl) rfl rfl ?_
        refine pm_iloadn hG dX2_named_221 rfl ?_
        refine pm_iconst (v := 1) hG dX2_named_222 (by decide) ?_
        refine pm_callV (As := [.int zc, .int 1]) (rest := []) hG hR dX2_named_223 (lkX2_67 _ rfl) okV_X9_get rfl rfl (tb_get (d := 1) rfl rfl (pm_tw_of 40 12 (by decide) (by decide) (by decide))) rfl rfl hdd (Nat.le_refl _) (Nat.le_refl _) (by decide) (pm_ki (fun v23 σ' cnt' hq => ?_))
        obtain ⟨I23, A23, rfl, rfl, h23⟩ := hv_id (kp := kp) (I := I) (A := A) h hq.2
        exact pm_iret hG hF dX2_named_226 rfl (Nat.le_refl _) (Nat.le_refl _) ⟨_, rfl, _, _, rfl, rfl, h23⟩
      by_cases c24 : za = 9
      · refine pm_top (v := 9) c24 ?_
        refine pm_tswIn (tgt := 227) hG dX2_named_43 (by decide) (by decide) rfl rfl ?_
        refine pm_aloadn hG dX2_named_227 rfl ?_
        refine pm_getf hG dX2_named_228 (flX2_9 _ rfl) rfl rfl ?_
        refine pm_getf hG dX2_named_231 (flX2_115 _ rfl) rfl rfl ?_
        refine pm_iloadn hG dX2_named_234 rfl ?_
        refine pm_iconst (v := 2) hG dX2_named_235 (by decide) ?_
        refine pm_callV (As := [.int zc, .int 2]) (rest := []) hG hR dX2_named_236 (lkX2_67 _ rfl) okV_X9_get rfl rfl (tb_get (d := 1) rfl rfl (pm_tw_of 40 12 (by decide) (by decide) (by decide))) rfl rfl hdd (Nat.le_refl _) (Nat.le_refl _) (by decide) (pm_ki (fun v25 σ' cnt' hq => ?_))
        obtain ⟨I25, A25, rfl, rfl, h25⟩ := hv_id (kp := kp) (I := I) (A := A) h hq.2
        exact pm_iret hG hF dX2_named_239 rfl (Nat.le_refl _) (Nat.le_refl _) ⟨_, rfl, _, _, rfl, rfl, h25⟩
      have tc3 : ¬ za.toInt = 0 := fun q => c3 (Int32.toInt_inj.mp q)
      have tc6 : ¬ za.toInt = 1 := fun q => c6 (Int32.toInt_inj.mp q)
      have tc8 : ¬ za.toInt = 2 := fun q => c8 (Int32.toInt_inj.mp q)
      have tc10 : ¬ za.toInt = 3 := fun q => c10 (Int32.toInt_inj.mp q)
      have tc12 : ¬ za.toInt = 4 := fun q => c12 (Int32.toInt_inj.mp q)
      have tc14 : ¬ za.toInt = 5 := fun q => c14 (Int32.toInt_inj.mp q)
      have tc17 : ¬ za.toInt = 6 := fun q => c17 (Int32.toInt_inj.mp q)
      have tc19 : ¬ za.toInt = 7 := fun q => c19 (Int32.toInt_inj.mp q)
      have tc22 : ¬ za.toInt = 8 := fun q => c22 (Int32.toInt_inj.mp q)
      have tc24 : ¬ za.toInt = 9 := fun q => c24 (Int32.toInt_inj.mp q)
      refine pm_tswOut (tgt := 240) hG dX2_named_43 (by omega) rfl ?_
      refine pm_iloadi hG dX2_named_240 rfl ?_
      exact pm_iret hG hF dX2_named_242 rfl (Nat.le_refl _) (Nat.le_refl _) ⟨_, rfl, _, _, rfl, rfl, h⟩
    · refine pm_iloadn hG dX2_named_24 rfl ?_
      refine pm_if_ge (tgt := 32) hG dX2_named_25 rfl (fun c26 => ?_) (fun c26 => ?_)
      · refine pm_iconst (v := 0) hG dX2_named_32 (by decide) ?_
        refine pm_istoreXi (loc' := [some (.ref (B + 26)), some (.int za), some (.int zb), some (.int zc), some (.int zd), some (.int 0)]) hG dX2_named_33 (by decide) (pm_c1b rfl) rfl ?_
        refine pm_iloadi hG dX2_named_35 rfl ?_
        refine pm_if_eq (tgt := 42) hG dX2_named_37 rfl (fun _ => ?_) (fun q => absurd q (by decide))
        refine pm_iloadn hG dX2_named_42 rfl ?_
        by_cases c27 : za = 0
        · refine pm_top (v := 0) c27 ?_
          refine pm_tswIn (tgt := 96) hG dX2_named_43 (by decide) (by decide) rfl rfl ?_
          refine pm_aloadn hG dX2_named_96 rfl ?_
          refine pm_getf hG dX2_named_97 (flX2_9 _ rfl) rfl rfl ?_
          refine pm_getf hG dX2_named_100 (flX2_103 _ rfl) rfl rfl ?_
          refine pm_iloadn hG dX2_named_103 rfl ?_
          refine pm_iconst (v := 1) hG dX2_named_104 (by decide) ?_
          refine pm_callV (As := [.int zb, .int 1]) (rest := []) hG hR dX2_named_105 (lkX2_67 _ rfl) okV_X9_get rfl rfl (tb_get (d := 1) rfl rfl (pm_tw_of 20 14 (by decide) (by decide) (by decide))) rfl rfl hdd (Nat.le_refl _) (Nat.le_refl _) (by decide) (pm_ki (fun v28 σ' cnt' hq => ?_))
          obtain ⟨I28, A28, rfl, rfl, h28⟩ := hv_id (kp := kp) (I := I) (A := A) h hq.2
          refine pm_iloadi hG dX2_named_108 rfl ?_
          refine pm_callS (As := [.int v28, .int zd]) (rest := []) hG hR dX2_named_110 (lkX2_106 _ rfl) okS_X11_yearsBetween (g_X11_yearsBetween (d := 1) (by decide) h28) rfl rfl hdd (Nat.le_refl _) (Nat.le_refl _) (by decide) (pm_ki (fun v29 σ' cnt' hq => ?_))
          obtain ⟨I29, A29, rfl, rfl, h29⟩ := hq
          exact pm_iret hG hF dX2_named_113 rfl (Nat.le_refl _) (Nat.le_refl _) ⟨_, rfl, _, _, rfl, rfl, h29⟩
        by_cases c30 : za = 1
        · refine pm_top (v := 1) c30 ?_
          refine pm_tswIn (tgt := 114) hG dX2_named_43 (by decide) (by decide) rfl rfl ?_
          refine pm_aloadn hG dX2_named_114 rfl ?_
          refine pm_getf hG dX2_named_115 (flX2_9 _ rfl) rfl rfl ?_
          refine pm_getf hG dX2_named_118 (flX2_103 _ rfl) rfl rfl ?_
          refine pm_iloadn hG dX2_named_121 rfl ?_
          refine pm_iconst (v := 0) hG dX2_named_122 (by decide) ?_
          refine pm_callV (As := [.int zb, .int 0]) (rest := []) hG hR dX2_named_123 (lkX2_67 _ rfl) okV_X9_get rfl rfl (tb_get (d := 1) rfl rfl (pm_tw_of 20 14 (by decide) (by decide) (by decide))) rfl rfl hdd (Nat.le_refl _) (Nat.le_refl _) (by decide) (pm_ki (fun v31 σ' cnt' hq => ?_))
          obtain ⟨I31, A31, rfl, rfl, h31⟩ := hv_id (kp := kp) (I := I) (A := A) h hq.2
          exact pm_iret hG hF dX2_named_126 rfl (Nat.le_refl _) (Nat.le_refl _) ⟨_, rfl, _, _, rfl, rfl, h31⟩
        by_cases c32 : za = 2
        · refine pm_top (v := 2) c32 ?_
          refine pm_tswIn (tgt := 127) hG dX2_named_43 (by decide) (by decide) rfl rfl ?_
          refine pm_aloadn hG dX2_named_127 rfl ?_
          refine pm_getf hG dX2_named_128 (flX2_9 _ rfl) rfl rfl ?_
          refine pm_getf hG dX2_named_131 (flX2_109 _ rfl) rfl rfl ?_
          refine pm_iconst (v := 2) hG dX2_named_134 (by decide) ?_
          refine pm_iloadn hG dX2_named_135 rfl ?_
          obtain ⟨k33, hk33, hu33⟩ := gq.used h 8 20 (by decide)
          have ht33 : pm_two (cl_L B kp I A) ρ 8 = some (.inr (9, [.int (nI 20), .int (nI 6), .ref (B + 9), .int (nI k33)])) := by rw [← hu33]; rfl
          refine pm_callV (As := [.int 2, .int zb]) (rest := []) hG hR dX2_named_136 (lkX2_71 _ rfl) okV_X9_rowsWith rfl rfl (tb_rowsWith (d := 1) (k := 2) ht33 rfl (by decide) (by decide) (by decide) hk33 (by omega) (by decide)) rfl rfl hdd (Nat.le_refl _) (Nat.le_refl _) (by decide) (pm_ki (fun v33 σ' cnt' hq => ?_))
          obtain ⟨I33, A33, rfl, rfl, h33⟩ := hv_id (kp := kp) (I := I) (A := A) h hq.2
          exact pm_iret hG hF dX2_named_139 rfl (Nat.le_refl _) (Nat.le_refl _) ⟨_, rfl, _, _, rfl, rfl, h33⟩
        by_cases c34 : za = 3
        · refine pm_top (v := 3) c34 ?_
          refine pm_tswIn (tgt := 140) hG dX2_named_43 (by decide) (by decide) rfl rfl ?_
          refine pm_aloadn hG dX2_named_140 rfl ?_
          refine pm_getf hG dX2_named_141 (flX2_9 _ rfl) rfl rfl ?_
          refine pm_getf hG dX2_named_144 (flX2_103 _ rfl) rfl rfl ?_
          refine pm_iloadn hG dX2_named_147 rfl ?_
          refine pm_bipush (v := 7) hG dX2_named_148 (by decide) ?_
          refine pm_callV (As := [.int zb, .int 7]) (rest := []) hG hR dX2_named_150 (lkX2_67 _ rfl) okV_X9_get rfl rfl (tb_get (d := 1) rfl rfl (pm_tw_of 20 14 (by decide) (by decide) (by decide))) rfl rfl hdd (Nat.le_refl _) (Nat.le_refl _) (by decide) (pm_ki (fun v35 σ' cnt' hq => ?_))
          obtain ⟨I35, A35, rfl, rfl, h35⟩ := hv_id (kp := kp) (I := I) (A := A) h hq.2
          exact pm_iret hG hF dX2_named_153 rfl (Nat.le_refl _) (Nat.le_refl _) ⟨_, rfl, _, _, rfl, rfl, h35⟩
        by_cases c36 : za = 4
        · refine pm_top (v := 4) c36 ?_
          refine pm_tswIn (tgt := 154) hG dX2_named_43 (by decide) (by decide) rfl rfl ?_
          refine pm_aloadn hG dX2_named_154 rfl ?_
          refine pm_getf hG dX2_named_155 (flX2_9 _ rfl) rfl rfl ?_
          refine pm_getf hG dX2_named_158 (flX2_103 _ rfl) rfl rfl ?_
          refine pm_iloadn hG dX2_named_161 rfl ?_
          refine pm_bipush (v := 8) hG dX2_named_162 (by decide) ?_
          refine pm_callV (As := [.int zb, .int 8]) (rest := []) hG hR dX2_named_164 (lkX2_67 _ rfl) okV_X9_get rfl rfl (tb_get (d := 1) rfl rfl (pm_tw_of 20 14 (by decide) (by decide) (by decide))) rfl rfl hdd (Nat.le_refl _) (Nat.le_refl _) (by decide) (pm_ki (fun v37 σ' cnt' hq => ?_))
          obtain ⟨I37, A37, rfl, rfl, h37⟩ := hv_id (kp := kp) (I := I) (A := A) h hq.2
          exact pm_iret hG hF dX2_named_167 rfl (Nat.le_refl _) (Nat.le_refl _) ⟨_, rfl, _, _, rfl, rfl, h37⟩
        by_cases c38 : za = 5
        · refine pm_top (v := 5) c38 ?_
          refine pm_tswIn (tgt := 168) hG dX2_named_43 (by decide) (by decide) rfl rfl ?_
          refine pm_aloadn hG dX2_named_168 rfl ?_
          refine pm_getf hG dX2_named_169 (flX2_9 _ rfl) rfl rfl ?_
          refine pm_getf hG dX2_named_172 (flX2_103 _ rfl) rfl rfl ?_
          refine pm_iloadn hG dX2_named_175 rfl ?_
          refine pm_iconst (v := 4) hG dX2_named_176 (by decide) ?_
          refine pm_callV (As := [.int zb, .int 4]) (rest := []) hG hR dX2_named_177 (lkX2_67 _ rfl) okV_X9_get rfl rfl (tb_get (d := 1) rfl rfl (pm_tw_of 20 14 (by decide) (by decide) (by decide))) rfl rfl hdd (Nat.le_refl _) (Nat.le_refl _) (by decide) (pm_ki (fun v39 σ' cnt' hq => ?_))
          obtain ⟨I39, A39, rfl, rfl, h39⟩ := hv_id (kp := kp) (I := I) (A := A) h hq.2
          refine pm_callS (As := [.int v39]) (rest := []) hG hR dX2_named_180 (lkX2_112 _ rfl) okS_X2_placeNamed (g_X2_placeNamed (d := 1) (by decide) h39) rfl rfl hdd (Nat.le_refl _) (Nat.le_refl _) (by decide) (pm_ki (fun v40 σ' cnt' hq => ?_))
          obtain ⟨I40, A40, rfl, rfl, h40⟩ := hq
          exact pm_iret hG hF dX2_named_183 rfl (Nat.le_refl _) (Nat.le_refl _) ⟨_, rfl, _, _, rfl, rfl, h40⟩
        by_cases c41 : za = 6
        · refine pm_top (v := 6) c41 ?_
          refine pm_tswIn (tgt := 184) hG dX2_named_43 (by decide) (by decide) rfl rfl ?_
          refine pm_aloadn hG dX2_named_184 rfl ?_
          refine pm_getf hG dX2_named_185 (flX2_9 _ rfl) rfl rfl ?_
          refine pm_getf hG dX2_named_188 (flX2_103 _ rfl) rfl rfl ?_
          refine pm_iloadn hG dX2_named_191 rfl ?_
          refine pm_bipush (v := 11) hG dX2_named_192 (by decide) ?_
          refine pm_callV (As := [.int zb, .int 11]) (rest := []) hG hR dX2_named_194 (lkX2_67 _ rfl) okV_X9_get rfl rfl (tb_get (d := 1) rfl rfl (pm_tw_of 20 14 (by decide) (by decide) (by decide))) rfl rfl hdd (Nat.le_refl _) (Nat.le_refl _) (by decide) (pm_ki (fun v42 σ' cnt' hq => ?_))
          obtain ⟨I42, A42, rfl, rfl, h42⟩ := hv_id (kp := kp) (I := I) (A := A) h hq.2
          exact pm_iret hG hF dX2_named_197 rfl (Nat.le_refl _) (Nat.le_refl _) ⟨_, rfl, _, _, rfl, rfl, h42⟩
        by_cases c43 : za = 7
        · refine pm_top (v := 7) c43 ?_
          refine pm_tswIn (tgt := 198) hG dX2_named_43 (by decide) (by decide) rfl rfl ?_
          refine pm_aloadn hG dX2_named_198 rfl ?_
          refine pm_getf hG dX2_named_199 (flX2_9 _ rfl) rfl rfl ?_
          refine pm_getf hG dX2_named_202 (flX2_115 _ rfl) rfl rfl ?_
          refine pm_iloadn hG dX2_named_205 rfl ?_
          refine pm_iconst (v := 4) hG dX2_named_206 (by decide) ?_
          refine pm_callV (As := [.int zc, .int 4]) (rest := []) hG hR dX2_named_207 (lkX2_67 _ rfl) okV_X9_get rfl rfl (tb_get (d := 1) rfl rfl (pm_tw_of 40 12 (by decide) (by decide) (by decide))) rfl rfl hdd (Nat.le_refl _) (Nat.le_refl _) (by decide) (pm_ki (fun v44 σ' cnt' hq => ?_))
          obtain ⟨I44, A44, rfl, rfl, h44⟩ := hv_id (kp := kp) (I := I) (A := A) h hq.2
          refine pm_callS (As := [.int v44]) (rest := []) hG hR dX2_named_210 (lkX2_118 _ rfl) okS_J6_bitCount_0f7a4 (gj_bitCount (d := 1)) rfl rfl hdd (Nat.le_refl _) (Nat.le_refl _) (by decide) (pm_ki (fun v45 σ' cnt' hq => ?_))
          obtain ⟨I45, A45, rfl, rfl, h45⟩ := hv_id (kp := kp) (I := I44) (A := A44) h44 hq
          exact pm_iret hG hF dX2_named_213 rfl (Nat.le_refl _) (Nat.le_refl _) ⟨_, rfl, _, _, rfl, rfl, h45⟩
        by_cases c46 : za = 8
        · refine pm_top (v := 8) c46 ?_
          refine pm_tswIn (tgt := 214) hG dX2_named_43 (by decide) (by decide) rfl rfl ?_
          refine pm_aloadn hG dX2_named_214 rfl ?_
          refine pm_getf hG dX2_named_215 (flX2_9 _ rfl) rfl rfl ?_
          refine pm_getf hG dX2_named_218 (flX2_115 _ rfl) rfl rfl ?_
          refine pm_iloadn hG dX2_named_221 rfl ?_
          refine pm_iconst (v := 1) hG dX2_named_222 (by decide) ?_
          refine pm_callV (As := [.int zc, .int 1]) (rest := []) hG hR dX2_named_223 (lkX2_67 _ rfl) okV_X9_get rfl rfl (tb_get (d := 1) rfl rfl (pm_tw_of 40 12 (by decide) (by decide) (by decide))) rfl rfl hdd (Nat.le_refl _) (Nat.le_refl _) (by decide) (pm_ki (fun v47 σ' cnt' hq => ?_))
          obtain ⟨I47, A47, rfl, rfl, h47⟩ := hv_id (kp := kp) (I := I) (A := A) h hq.2
          exact pm_iret hG hF dX2_named_226 rfl (Nat.le_refl _) (Nat.le_refl _) ⟨_, rfl, _, _, rfl, rfl, h47⟩
        by_cases c48 : za = 9
        · refine pm_top (v := 9) c48 ?_
          refine pm_tswIn (tgt := 227) hG dX2_named_43 (by decide) (by decide) rfl rfl ?_
          refine pm_aloadn hG dX2_named_227 rfl ?_
          refine pm_getf hG dX2_named_228 (flX2_9 _ rfl) rfl rfl ?_
          refine pm_getf hG dX2_named_231 (flX2_115 _ rfl) rfl rfl ?_
          refine pm_iloadn hG dX2_named_234 rfl ?_
          refine pm_iconst (v := 2) hG dX2_named_235 (by decide) ?_
          refine pm_callV (As := [.int zc, .int 2]) (rest := []) hG hR dX2_named_236 (lkX2_67 _ rfl) okV_X9_get rfl rfl (tb_get (d := 1) rfl rfl (pm_tw_of 40 12 (by decide) (by decide) (by decide))) rfl rfl hdd (Nat.le_refl _) (Nat.le_refl _) (by decide) (pm_ki (fun v49 σ' cnt' hq => ?_))
          obtain ⟨I49, A49, rfl, rfl, h49⟩ := hv_id (kp := kp) (I := I) (A := A) h hq.2
          exact pm_iret hG hF dX2_named_239 rfl (Nat.le_refl _) (Nat.le_refl _) ⟨_, rfl, _, _, rfl, rfl, h49⟩
        have tc27 : ¬ za.toInt = 0 := fun q => c27 (Int32.toInt_inj.mp q)
        have tc30 : ¬ za.toInt = 1 := fun q => c30 (Int32.toInt_inj.mp q)
        have tc32 : ¬ za.toInt = 2 := fun q => c32 (Int32.toInt_inj.mp q)
        have tc34 : ¬ za.toInt = 3 := fun q => c34 (Int32.toInt_inj.mp q)
        have tc36 : ¬ za.toInt = 4 := fun q => c36 (Int32.toInt_inj.mp q)
        have tc38 : ¬ za.toInt = 5 := fun q => c38 (Int32.toInt_inj.mp q)
        have tc41 : ¬ za.toInt = 6 := fun q => c41 (Int32.toInt_inj.mp q)
        have tc43 : ¬ za.toInt = 7 := fun q => c43 (Int32.toInt_inj.mp q)
        have tc46 : ¬ za.toInt = 8 := fun q => c46 (Int32.toInt_inj.mp q)
        have tc48 : ¬ za.toInt = 9 := fun q => c48 (Int32.toInt_inj.mp q)
        refine pm_tswOut (tgt := 240) hG dX2_named_43 (by omega) rfl ?_
        refine pm_iloadi hG dX2_named_240 rfl ?_
        exact pm_iret hG hF dX2_named_242 rfl (Nat.le_refl _) (Nat.le_refl _) ⟨_, rfl, _, _, rfl, rfl, h⟩
      · refine pm_iconst (v := 1) hG dX2_named_28 (by decide) ?_
        refine pm_goto (tgt := 33) hG dX2_named_29 rfl ?_
        refine pm_istoreXi (loc' := [some (.ref (B + 26)), some (.int za), some (.int zb), some (.int zc), some (.int zd), some (.int 1)]) hG dX2_named_33 (by decide) (pm_c1b rfl) rfl ?_
        refine pm_iloadi hG dX2_named_35 rfl ?_
        refine pm_if_eq (tgt := 42) hG dX2_named_37 rfl (fun q => absurd q (by decide)) (fun _ => ?_)
        refine pm_iconst (v := 0) hG dX2_named_40 (by decide) ?_
        exact pm_iret hG hF dX2_named_41 rfl (Nat.le_refl _) (Nat.le_refl _) ⟨_, rfl, _, _, rfl, rfl, h⟩
  · refine pm_iloadn hG dX2_named_6 rfl ?_
    refine pm_if_ge (tgt := 14) hG dX2_named_7 rfl (fun c50 => ?_) (fun c50 => ?_)
    · refine pm_iconst (v := 0) hG dX2_named_14 (by decide) ?_
      refine pm_goto (tgt := 33) hG dX2_named_15 rfl ?_
      refine pm_istoreXi (loc' := [some (.ref (B + 26)), some (.int za), some (.int zb), some (.int zc), some (.int zd), some (.int 0)]) hG dX2_named_33 (by decide) (pm_c1b rfl) rfl ?_
      refine pm_iloadi hG dX2_named_35 rfl ?_
      refine pm_if_eq (tgt := 42) hG dX2_named_37 rfl (fun _ => ?_) (fun q => absurd q (by decide))
      refine pm_iloadn hG dX2_named_42 rfl ?_
      by_cases c51 : za = 0
      · refine pm_top (v := 0) c51 ?_
        refine pm_tswIn (tgt := 96) hG dX2_named_43 (by decide) (by decide) rfl rfl ?_
        refine pm_aloadn hG dX2_named_96 rfl ?_
        refine pm_getf hG dX2_named_97 (flX2_9 _ rfl) rfl rfl ?_
        refine pm_getf hG dX2_named_100 (flX2_103 _ rfl) rfl rfl ?_
        refine pm_iloadn hG dX2_named_103 rfl ?_
        refine pm_iconst (v := 1) hG dX2_named_104 (by decide) ?_
        refine pm_callV (As := [.int zb, .int 1]) (rest := []) hG hR dX2_named_105 (lkX2_67 _ rfl) okV_X9_get rfl rfl (tb_get (d := 1) rfl rfl (pm_tw_of 20 14 (by decide) (by decide) (by decide))) rfl rfl hdd (Nat.le_refl _) (Nat.le_refl _) (by decide) (pm_ki (fun v52 σ' cnt' hq => ?_))
        obtain ⟨I52, A52, rfl, rfl, h52⟩ := hv_id (kp := kp) (I := I) (A := A) h hq.2
        refine pm_iloadi hG dX2_named_108 rfl ?_
        refine pm_callS (As := [.int v52, .int zd]) (rest := []) hG hR dX2_named_110 (lkX2_106 _ rfl) okS_X11_yearsBetween (g_X11_yearsBetween (d := 1) (by decide) h52) rfl rfl hdd (Nat.le_refl _) (Nat.le_refl _) (by decide) (pm_ki (fun v53 σ' cnt' hq => ?_))
        obtain ⟨I53, A53, rfl, rfl, h53⟩ := hq
        exact pm_iret hG hF dX2_named_113 rfl (Nat.le_refl _) (Nat.le_refl _) ⟨_, rfl, _, _, rfl, rfl, h53⟩
      by_cases c54 : za = 1
      · refine pm_top (v := 1) c54 ?_
        refine pm_tswIn (tgt := 114) hG dX2_named_43 (by decide) (by decide) rfl rfl ?_
        refine pm_aloadn hG dX2_named_114 rfl ?_
        refine pm_getf hG dX2_named_115 (flX2_9 _ rfl) rfl rfl ?_
        refine pm_getf hG dX2_named_118 (flX2_103 _ rfl) rfl rfl ?_
        refine pm_iloadn hG dX2_named_121 rfl ?_
        refine pm_iconst (v := 0) hG dX2_named_122 (by decide) ?_
        refine pm_callV (As := [.int zb, .int 0]) (rest := []) hG hR dX2_named_123 (lkX2_67 _ rfl) okV_X9_get rfl rfl (tb_get (d := 1) rfl rfl (pm_tw_of 20 14 (by decide) (by decide) (by decide))) rfl rfl hdd (Nat.le_refl _) (Nat.le_refl _) (by decide) (pm_ki (fun v55 σ' cnt' hq => ?_))
        obtain ⟨I55, A55, rfl, rfl, h55⟩ := hv_id (kp := kp) (I := I) (A := A) h hq.2
        exact pm_iret hG hF dX2_named_126 rfl (Nat.le_refl _) (Nat.le_refl _) ⟨_, rfl, _, _, rfl, rfl, h55⟩
      by_cases c56 : za = 2
      · refine pm_top (v := 2) c56 ?_
        refine pm_tswIn (tgt := 127) hG dX2_named_43 (by decide) (by decide) rfl rfl ?_
        refine pm_aloadn hG dX2_named_127 rfl ?_
        refine pm_getf hG dX2_named_128 (flX2_9 _ rfl) rfl rfl ?_
        refine pm_getf hG dX2_named_131 (flX2_109 _ rfl) rfl rfl ?_
        refine pm_iconst (v := 2) hG dX2_named_134 (by decide) ?_
        refine pm_iloadn hG dX2_named_135 rfl ?_
        obtain ⟨k57, hk57, hu57⟩ := gq.used h 8 20 (by decide)
        have ht57 : pm_two (cl_L B kp I A) ρ 8 = some (.inr (9, [.int (nI 20), .int (nI 6), .ref (B + 9), .int (nI k57)])) := by rw [← hu57]; rfl
        refine pm_callV (As := [.int 2, .int zb]) (rest := []) hG hR dX2_named_136 (lkX2_71 _ rfl) okV_X9_rowsWith rfl rfl (tb_rowsWith (d := 1) (k := 2) ht57 rfl (by decide) (by decide) (by decide) hk57 (by omega) (by decide)) rfl rfl hdd (Nat.le_refl _) (Nat.le_refl _) (by decide) (pm_ki (fun v57 σ' cnt' hq => ?_))
        obtain ⟨I57, A57, rfl, rfl, h57⟩ := hv_id (kp := kp) (I := I) (A := A) h hq.2
        exact pm_iret hG hF dX2_named_139 rfl (Nat.le_refl _) (Nat.le_refl _) ⟨_, rfl, _, _, rfl, rfl, h57⟩
      by_cases c58 : za = 3
      · refine pm_top (v := 3) c58 ?_
        refine pm_tswIn (tgt := 140) hG dX2_named_43 (by decide) (by decide) rfl rfl ?_
        refine pm_aloadn hG dX2_named_140 rfl ?_
        refine pm_getf hG dX2_named_141 (flX2_9 _ rfl) rfl rfl ?_
        refine pm_getf hG dX2_named_144 (flX2_103 _ rfl) rfl rfl ?_
        refine pm_iloadn hG dX2_named_147 rfl ?_
        refine pm_bipush (v := 7) hG dX2_named_148 (by decide) ?_
        refine pm_callV (As := [.int zb, .int 7]) (rest := []) hG hR dX2_named_150 (lkX2_67 _ rfl) okV_X9_get rfl rfl (tb_get (d := 1) rfl rfl (pm_tw_of 20 14 (by decide) (by decide) (by decide))) rfl rfl hdd (Nat.le_refl _) (Nat.le_refl _) (by decide) (pm_ki (fun v59 σ' cnt' hq => ?_))
        obtain ⟨I59, A59, rfl, rfl, h59⟩ := hv_id (kp := kp) (I := I) (A := A) h hq.2
        exact pm_iret hG hF dX2_named_153 rfl (Nat.le_refl _) (Nat.le_refl _) ⟨_, rfl, _, _, rfl, rfl, h59⟩
      by_cases c60 : za = 4
      · refine pm_top (v := 4) c60 ?_
        refine pm_tswIn (tgt := 154) hG dX2_named_43 (by decide) (by decide) rfl rfl ?_
        refine pm_aloadn hG dX2_named_154 rfl ?_
        refine pm_getf hG dX2_named_155 (flX2_9 _ rfl) rfl rfl ?_
        refine pm_getf hG dX2_named_158 (flX2_103 _ rfl) rfl rfl ?_
        refine pm_iloadn hG dX2_named_161 rfl ?_
        refine pm_bipush (v := 8) hG dX2_named_162 (by decide) ?_
        refine pm_callV (As := [.int zb, .int 8]) (rest := []) hG hR dX2_named_164 (lkX2_67 _ rfl) okV_X9_get rfl rfl (tb_get (d := 1) rfl rfl (pm_tw_of 20 14 (by decide) (by decide) (by decide))) rfl rfl hdd (Nat.le_refl _) (Nat.le_refl _) (by decide) (pm_ki (fun v61 σ' cnt' hq => ?_))
        obtain ⟨I61, A61, rfl, rfl, h61⟩ := hv_id (kp := kp) (I := I) (A := A) h hq.2
        exact pm_iret hG hF dX2_named_167 rfl (Nat.le_refl _) (Nat.le_refl _) ⟨_, rfl, _, _, rfl, rfl, h61⟩
      by_cases c62 : za = 5
      · refine pm_top (v := 5) c62 ?_
        refine pm_tswIn (tgt := 168) hG dX2_named_43 (by decide) (by decide) rfl rfl ?_
        refine pm_aloadn hG dX2_named_168 rfl ?_
        refine pm_getf hG dX2_named_169 (flX2_9 _ rfl) rfl rfl ?_
        refine pm_getf hG dX2_named_172 (flX2_103 _ rfl) rfl rfl ?_
        refine pm_iloadn hG dX2_named_175 rfl ?_
        refine pm_iconst (v := 4) hG dX2_named_176 (by decide) ?_
        refine pm_callV (As := [.int zb, .int 4]) (rest := []) hG hR dX2_named_177 (lkX2_67 _ rfl) okV_X9_get rfl rfl (tb_get (d := 1) rfl rfl (pm_tw_of 20 14 (by decide) (by decide) (by decide))) rfl rfl hdd (Nat.le_refl _) (Nat.le_refl _) (by decide) (pm_ki (fun v63 σ' cnt' hq => ?_))
        obtain ⟨I63, A63, rfl, rfl, h63⟩ := hv_id (kp := kp) (I := I) (A := A) h hq.2
        refine pm_callS (As := [.int v63]) (rest := []) hG hR dX2_named_180 (lkX2_112 _ rfl) okS_X2_placeNamed (g_X2_placeNamed (d := 1) (by decide) h63) rfl rfl hdd (Nat.le_refl _) (Nat.le_refl _) (by decide) (pm_ki (fun v64 σ' cnt' hq => ?_))
        obtain ⟨I64, A64, rfl, rfl, h64⟩ := hq
        exact pm_iret hG hF dX2_named_183 rfl (Nat.le_refl _) (Nat.le_refl _) ⟨_, rfl, _, _, rfl, rfl, h64⟩
      by_cases c65 : za = 6
      · refine pm_top (v := 6) c65 ?_
        refine pm_tswIn (tgt := 184) hG dX2_named_43 (by decide) (by decide) rfl rfl ?_
        refine pm_aloadn hG dX2_named_184 rfl ?_
        refine pm_getf hG dX2_named_185 (flX2_9 _ rfl) rfl rfl ?_
        refine pm_getf hG dX2_named_188 (flX2_103 _ rfl) rfl rfl ?_
        refine pm_iloadn hG dX2_named_191 rfl ?_
        refine pm_bipush (v := 11) hG dX2_named_192 (by decide) ?_
        refine pm_callV (As := [.int zb, .int 11]) (rest := []) hG hR dX2_named_194 (lkX2_67 _ rfl) okV_X9_get rfl rfl (tb_get (d := 1) rfl rfl (pm_tw_of 20 14 (by decide) (by decide) (by decide))) rfl rfl hdd (Nat.le_refl _) (Nat.le_refl _) (by decide) (pm_ki (fun v66 σ' cnt' hq => ?_))
        obtain ⟨I66, A66, rfl, rfl, h66⟩ := hv_id (kp := kp) (I := I) (A := A) h hq.2
        exact pm_iret hG hF dX2_named_197 rfl (Nat.le_refl _) (Nat.le_refl _) ⟨_, rfl, _, _, rfl, rfl, h66⟩
      by_cases c67 : za = 7
      · refine pm_top (v := 7) c67 ?_
        refine pm_tswIn (tgt := 198) hG dX2_named_43 (by decide) (by decide) rfl rfl ?_
        refine pm_aloadn hG dX2_named_198 rfl ?_
        refine pm_getf hG dX2_named_199 (flX2_9 _ rfl) rfl rfl ?_
        refine pm_getf hG dX2_named_202 (flX2_115 _ rfl) rfl rfl ?_
        refine pm_iloadn hG dX2_named_205 rfl ?_
        refine pm_iconst (v := 4) hG dX2_named_206 (by decide) ?_
        refine pm_callV (As := [.int zc, .int 4]) (rest := []) hG hR dX2_named_207 (lkX2_67 _ rfl) okV_X9_get rfl rfl (tb_get (d := 1) rfl rfl (pm_tw_of 40 12 (by decide) (by decide) (by decide))) rfl rfl hdd (Nat.le_refl _) (Nat.le_refl _) (by decide) (pm_ki (fun v68 σ' cnt' hq => ?_))
        obtain ⟨I68, A68, rfl, rfl, h68⟩ := hv_id (kp := kp) (I := I) (A := A) h hq.2
        refine pm_callS (As := [.int v68]) (rest := []) hG hR dX2_named_210 (lkX2_118 _ rfl) okS_J6_bitCount_0f7a4 (gj_bitCount (d := 1)) rfl rfl hdd (Nat.le_refl _) (Nat.le_refl _) (by decide) (pm_ki (fun v69 σ' cnt' hq => ?_))
        obtain ⟨I69, A69, rfl, rfl, h69⟩ := hv_id (kp := kp) (I := I68) (A := A68) h68 hq
        exact pm_iret hG hF dX2_named_213 rfl (Nat.le_refl _) (Nat.le_refl _) ⟨_, rfl, _, _, rfl, rfl, h69⟩
      by_cases c70 : za = 8
      · refine pm_top (v := 8) c70 ?_
        refine pm_tswIn (tgt := 214) hG dX2_named_43 (by decide) (by decide) rfl rfl ?_
        refine pm_aloadn hG dX2_named_214 rfl ?_
        refine pm_getf hG dX2_named_215 (flX2_9 _ rfl) rfl rfl ?_
        refine pm_getf hG dX2_named_218 (flX2_115 _ rfl) rfl rfl ?_
        refine pm_iloadn hG dX2_named_221 rfl ?_
        refine pm_iconst (v := 1) hG dX2_named_222 (by decide) ?_
        refine pm_callV (As := [.int zc, .int 1]) (rest := []) hG hR dX2_named_223 (lkX2_67 _ rfl) okV_X9_get rfl rfl (tb_get (d := 1) rfl rfl (pm_tw_of 40 12 (by decide) (by decide) (by decide))) rfl rfl hdd (Nat.le_refl _) (Nat.le_refl _) (by decide) (pm_ki (fun v71 σ' cnt' hq => ?_))
        obtain ⟨I71, A71, rfl, rfl, h71⟩ := hv_id (kp := kp) (I := I) (A := A) h hq.2
        exact pm_iret hG hF dX2_named_226 rfl (Nat.le_refl _) (Nat.le_refl _) ⟨_, rfl, _, _, rfl, rfl, h71⟩
      by_cases c72 : za = 9
      · refine pm_top (v := 9) c72 ?_
        refine pm_tswIn (tgt := 227) hG dX2_named_43 (by decide) (by decide) rfl rfl ?_
        refine pm_aloadn hG dX2_named_227 rfl ?_
        refine pm_getf hG dX2_named_228 (flX2_9 _ rfl) rfl rfl ?_
        refine pm_getf hG dX2_named_231 (flX2_115 _ rfl) rfl rfl ?_
        refine pm_iloadn hG dX2_named_234 rfl ?_
        refine pm_iconst (v := 2) hG dX2_named_235 (by decide) ?_
        refine pm_callV (As := [.int zc, .int 2]) (rest := []) hG hR dX2_named_236 (lkX2_67 _ rfl) okV_X9_get rfl rfl (tb_get (d := 1) rfl rfl (pm_tw_of 40 12 (by decide) (by decide) (by decide))) rfl rfl hdd (Nat.le_refl _) (Nat.le_refl _) (by decide) (pm_ki (fun v73 σ' cnt' hq => ?_))
        obtain ⟨I73, A73, rfl, rfl, h73⟩ := hv_id (kp := kp) (I := I) (A := A) h hq.2
        exact pm_iret hG hF dX2_named_239 rfl (Nat.le_refl _) (Nat.le_refl _) ⟨_, rfl, _, _, rfl, rfl, h73⟩
      have tc51 : ¬ za.toInt = 0 := fun q => c51 (Int32.toInt_inj.mp q)
      have tc54 : ¬ za.toInt = 1 := fun q => c54 (Int32.toInt_inj.mp q)
      have tc56 : ¬ za.toInt = 2 := fun q => c56 (Int32.toInt_inj.mp q)
      have tc58 : ¬ za.toInt = 3 := fun q => c58 (Int32.toInt_inj.mp q)
      have tc60 : ¬ za.toInt = 4 := fun q => c60 (Int32.toInt_inj.mp q)
      have tc62 : ¬ za.toInt = 5 := fun q => c62 (Int32.toInt_inj.mp q)
      have tc65 : ¬ za.toInt = 6 := fun q => c65 (Int32.toInt_inj.mp q)
      have tc67 : ¬ za.toInt = 7 := fun q => c67 (Int32.toInt_inj.mp q)
      have tc70 : ¬ za.toInt = 8 := fun q => c70 (Int32.toInt_inj.mp q)
      have tc72 : ¬ za.toInt = 9 := fun q => c72 (Int32.toInt_inj.mp q)
      refine pm_tswOut (tgt := 240) hG dX2_named_43 (by omega) rfl ?_
      refine pm_iloadi hG dX2_named_240 rfl ?_
      exact pm_iret hG hF dX2_named_242 rfl (Nat.le_refl _) (Nat.le_refl _) ⟨_, rfl, _, _, rfl, rfl, h⟩
    · refine pm_iconst (v := 1) hG dX2_named_10 (by decide) ?_
      refine pm_goto (tgt := 33) hG dX2_named_11 rfl ?_
      refine pm_istoreXi (loc' := [some (.ref (B + 26)), some (.int za), some (.int zb), some (.int zc), some (.int zd), some (.int 1)]) hG dX2_named_33 (by decide) (pm_c1b rfl) rfl ?_
      refine pm_iloadi hG dX2_named_35 rfl ?_
      refine pm_if_eq (tgt := 42) hG dX2_named_37 rfl (fun q => absurd q (by decide)) (fun _ => ?_)
      refine pm_iconst (v := 0) hG dX2_named_40 (by decide) ?_
      exact pm_iret hG hF dX2_named_41 rfl (Nat.le_refl _) (Nat.le_refl _) ⟨_, rfl, _, _, rfl, rfl, h⟩
