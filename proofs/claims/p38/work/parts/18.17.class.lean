set_option maxRecDepth 100000 in
set_option maxHeartbeats 4000000 in
theorem g_X11_send {ε : Nat → Int32} {d B cnt : Nat} {kp : pm_KP} {ρ : pm_S} {I : Nat → Int32} {A : Nat → Nat → Int32} {za zb : Int32} (hdd : 4 ≤ d) (h : gq ε I) : pm_met mX11_send d 0 0 B [.ref (B + 0), .int za, .int zb] cnt (pm_two (cl_L B kp I A) ρ) (pm_Qi (fun _ σ' cnt' => hvq ε B kp ρ cnt σ' cnt')) := by
  refine pm_enter 0 (by decide) (Nat.le_of_ble_eq_true rfl) rfl (fun G hG hR hF => ?_)
  refine pm_aloadn hG dX11_send_0 rfl ?_
  refine pm_getf hG dX11_send_1 (flX11_12 _ rfl) rfl rfl ?_
  refine pm_getf hG dX11_send_4 (flX11_224 _ rfl) rfl rfl ?_
  refine pm_iloadn hG dX11_send_7 rfl ?_
  refine pm_callV (As := [.int za]) (rest := []) hG hR dX11_send_8 (lkX11_101 _ rfl) okV_X9_has rfl rfl (tb_has (d := 3) rfl) rfl rfl hdd (Nat.le_refl _) (Nat.le_refl _) (by decide) (pm_ki (fun v1 σ' cnt' hq => ?_))
  have b1 := pm_b01 hq.1
  obtain ⟨I1, A1, rfl, rfl, h1⟩ := hv_id (kp := kp) (I := I) (A := A) h hq.2
  refine pm_if_eq (tgt := 28) hG dX11_send_11 rfl (fun c2 => ?_) (fun c2 => ?_)
  · refine pm_aloadn hG dX11_send_28 rfl ?_
    refine pm_ldc hG dX11_send_29 (ctX11_109 _ rfl) ?_
    refine pm_callV (As := [.int (-1000001)]) (rest := []) hG hR dX11_send_31 (lkX11_97 _ rfl) okV_X11_told rfl rfl (sx_told (d := 3) (by decide) rfl rfl) rfl rfl hdd (Nat.le_refl _) (Nat.le_refl _) (by decide) (pm_ki (fun v3 σ' cnt' hq => ?_))
    obtain ⟨-, ⟨g3, hg3⟩, hc3⟩ := hq
    obtain ⟨I3, A3, rfl, rfl, h3⟩ := hv_a53 (kp := kp) (I := I1) (A := A1) h1 ⟨hg3, hc3⟩
    exact pm_iret hG hF dX11_send_34 rfl (Nat.le_refl _) (Nat.le_refl _) ⟨_, rfl, _, _, rfl, rfl, h3⟩
  · refine pm_aloadn hG dX11_send_14 rfl ?_
    refine pm_getf hG dX11_send_15 (flX11_12 _ rfl) rfl rfl ?_
    refine pm_getf hG dX11_send_18 (flX11_128 _ rfl) rfl rfl ?_
    refine pm_iloadn hG dX11_send_21 rfl ?_
    refine pm_callV (As := [.int zb]) (rest := []) hG hR dX11_send_22 (lkX11_101 _ rfl) okV_X9_has rfl rfl (tb_has (d := 3) rfl) rfl rfl hdd (Nat.le_refl _) (Nat.le_refl _) (by decide) (pm_ki (fun v4 σ' cnt' hq => ?_))
    have b4 := pm_b01 hq.1
    obtain ⟨I4, A4, rfl, rfl, h4⟩ := hv_id (kp := kp) (I := I1) (A := A1) h1 hq.2
    refine pm_if_ne (tgt := 35) hG dX11_send_25 rfl (fun c5 => ?_) (fun c5 => ?_)
    · refine pm_aloadn hG dX11_send_35 rfl ?_
      refine pm_aloadn hG dX11_send_36 rfl ?_
      refine pm_getf hG dX11_send_37 (flX11_39 _ rfl) rfl rfl ?_
      refine pm_iloadn hG dX11_send_40 rfl ?_
      refine pm_iloadn hG dX11_send_41 rfl ?_
      refine pm_callV (As := [.int za, .int zb]) (rest := [.ref (B + 0)]) hG hR dX11_send_42 (lkX11_236 _ rfl) okV_X3_dispatch rfl rfl (g_X3_dispatch (d := 3) (by decide) h4) rfl rfl hdd (Nat.le_refl _) (Nat.le_refl _) (by first | decide | exact Nat.le_of_ble_eq_true rfl) (pm_ki (fun v6 σ' cnt' hq => ?_))
      obtain ⟨I6, A6, rfl, rfl, h6⟩ := hq
      refine pm_callV (As := [.int v6]) (rest := []) hG hR dX11_send_45 (lkX11_97 _ rfl) okV_X11_told rfl rfl (sx_told (d := 3) (by decide) rfl rfl) rfl rfl hdd (Nat.le_refl _) (Nat.le_refl _) (by decide) (pm_ki (fun v7 σ' cnt' hq => ?_))
      obtain ⟨-, ⟨g7, hg7⟩, hc7⟩ := hq
      obtain ⟨I7, A7, rfl, rfl, h7⟩ := hv_a53 (kp := kp) (I := I6) (A := A6) h6 ⟨hg7, hc7⟩
      exact pm_iret hG hF dX11_send_48 rfl (Nat.le_refl _) (Nat.le_refl _) ⟨_, rfl, _, _, rfl, rfl, h7⟩
    · refine pm_aloadn hG dX11_send_28 rfl ?_
      refine pm_ldc hG dX11_send_29 (ctX11_109 _ rfl) ?_
      refine pm_callV (As := [.int (-1000001)]) (rest := []) hG hR dX11_send_31 (lkX11_97 _ rfl) okV_X11_told rfl rfl (sx_told (d := 3) (by decide) rfl rfl) rfl rfl hdd (Nat.le_refl _) (Nat.le_refl _) (by decide) (pm_ki (fun v8 σ' cnt' hq => ?_))
      obtain ⟨-, ⟨g8, hg8⟩, hc8⟩ := hq
      obtain ⟨I8, A8, rfl, rfl, h8⟩ := hv_a53 (kp := kp) (I := I4) (A := A4) h4 ⟨hg8, hc8⟩
      exact pm_iret hG hF dX11_send_34 rfl (Nat.le_refl _) (Nat.le_refl _) ⟨_, rfl, _, _, rfl, rfl, h8⟩

set_option maxRecDepth 100000 in
set_option maxHeartbeats 4000000 in
theorem g_X8_layOut {ε : Nat → Int32} {d B cnt : Nat} {kp : pm_KP} {ρ : pm_S} {I : Nat → Int32} {A : Nat → Nat → Int32} {za zb zc : Int32} (hdd : 1 ≤ d) (h : gq ε I) : pm_met mX8_layOut d 0 0 B [.ref (B + 48), .int za, .int zb, .int zc] cnt (pm_two (cl_L B kp I A) ρ) (pm_Qv (fun σ' cnt' => hvq ε B kp ρ cnt σ' cnt')) := by
  refine pm_enter 1 (by decide) (Nat.le_of_ble_eq_true rfl) rfl (fun G hG hR hF => ?_)
  refine pm_iloadn hG dX8_layOut_0 rfl ?_
  refine pm_if_lt (tgt := 36) hG dX8_layOut_1 rfl (fun c1 => ?_) (fun c1 => ?_)
  · refine pm_iconst (v := 0) hG dX8_layOut_36 (by decide) ?_
    refine pm_istoreXi (loc' := [some (.ref (B + 48)), some (.int za), some (.int zb), some (.int zc), some (.int 0)]) hG dX8_layOut_37 (by decide) (pm_c1b rfl) rfl ?_
    have loop39 : ∀ (m39 : Nat) (I2 : Nat → Int32) (A2 : Nat → Nat → Int32) (x2_4 : Int32), gq ε I2 → (¬ x2_4 < 0) → ((24 : Int32).toInt - x2_4.toInt).toNat < m39 → pm_wp mX8_layOut G B 39 [some (.ref (B + 48)), some (.int za), some (.int zb), some (.int zc), some (.int x2_4)] [] 0 0 cnt (pm_two (cl_L B kp I2 A2) ρ) := by
      intro m39
      induction m39 with
      | zero => intro I2 A2 x2_4 _  _ hm; exact absurd hm (Nat.not_lt_zero _)
      | succ m39 ih39 =>
        intro I2 A2 x2_4 h2 s39 hm39
        refine pm_iloadi hG dX8_layOut_39 rfl ?_
        refine pm_bipush (v := 24) hG dX8_layOut_41 (by decide) ?_
        refine pm_icmp_ge (tgt := 63) hG dX8_layOut_43 rfl (fun c3 => ?_) (fun c3 => ?_)
        · exact pm_vret hG hF dX8_layOut_63 rfl (Nat.le_refl _) (Nat.le_refl _) ⟨rfl, _, _, rfl, rfl, h2⟩
        · refine pm_aloadn hG dX8_layOut_46 rfl ?_
          refine pm_getf hG dX8_layOut_47 (flX8_23 _ rfl) rfl rfl ?_
          refine pm_iloadn hG dX8_layOut_50 rfl ?_
          refine pm_iloadi hG dX8_layOut_51 rfl ?_
          refine pm_iconst (v := 0) hG dX8_layOut_53 (by decide) ?_
          refine pm_callV (As := [.int za, .int x2_4, .int 0]) (rest := []) hG hR dX8_layOut_54 (lkX8_31 _ rfl) okV_X9_set rfl rfl (tb_set (d := 0) rfl rfl (pm_tw_of 4 24 (by decide) (by decide) (by decide)) (by decide)) rfl rfl hdd (Nat.le_refl _) (Nat.le_refl _) (by decide) (pm_kv (fun σ' cnt' hq => ?_))
          obtain ⟨I4, A4, rfl, rfl, h4⟩ := hv_a52 (kp := kp) (I := I2) (A := A2) h2 hq
          refine pm_iincX (v := x2_4 + 1) (loc' := [some (.ref (B + 48)), some (.int za), some (.int zb), some (.int zc), some (.int (x2_4 + 1))]) hG dX8_layOut_57 rfl (by rfl) (by decide) (pm_c1b rfl) rfl ?_
          refine pm_goto (tgt := 39) hG dX8_layOut_60 rfl ?_
          exact ih39 _ _ (x2_4 + 1) h4 (pm_sd1 c3 s39) (Nat.lt_of_lt_of_le (pm_mu1 c3) (Nat.le_of_lt_succ hm39))
    exact loop39 _ _ _ 0 h (by decide) (Nat.lt_succ_self _)
  · refine pm_iloadn hG dX8_layOut_4 rfl ?_
    refine pm_aloadn hG dX8_layOut_5 rfl ?_
    refine pm_getf hG dX8_layOut_6 (flX8_9 _ rfl) rfl rfl ?_
    refine pm_alen (v := 4) hG dX8_layOut_9 rfl (by decide) ?_
    refine pm_icmp_ge (tgt := 36) hG dX8_layOut_10 rfl (fun c5 => ?_) (fun c5 => ?_)
    · refine pm_iconst (v := 0) hG dX8_layOut_36 (by decide) ?_
      refine pm_istoreXi (loc' := [some (.ref (B + 48)), some (.int za), some (.int zb), some (.int zc), some (.int 0)]) hG dX8_layOut_37 (by decide) (pm_c1b rfl) rfl ?_
      have loop39 : ∀ (m39 : Nat) (I6 : Nat → Int32) (A6 : Nat → Nat → Int32) (x6_4 : Int32), gq ε I6 → (¬ x6_4 < 0) → ((24 : Int32).toInt - x6_4.toInt).toNat < m39 → pm_wp mX8_layOut G B 39 [some (.ref (B + 48)), some (.int za), some (.int zb), some (.int zc), some (.int x6_4)] [] 0 0 cnt (pm_two (cl_L B kp I6 A6) ρ) := by
        intro m39
        induction m39 with
        | zero => intro I6 A6 x6_4 _  _ hm; exact absurd hm (Nat.not_lt_zero _)
        | succ m39 ih39 =>
          intro I6 A6 x6_4 h6 s39 hm39
          refine pm_iloadi hG dX8_layOut_39 rfl ?_
          refine pm_bipush (v := 24) hG dX8_layOut_41 (by decide) ?_
          refine pm_icmp_ge (tgt := 63) hG dX8_layOut_43 rfl (fun c7 => ?_) (fun c7 => ?_)
          · exact pm_vret hG hF dX8_layOut_63 rfl (Nat.le_refl _) (Nat.le_refl _) ⟨rfl, _, _, rfl, rfl, h6⟩
          · refine pm_aloadn hG dX8_layOut_46 rfl ?_
            refine pm_getf hG dX8_layOut_47 (flX8_23 _ rfl) rfl rfl ?_
            refine pm_iloadn hG dX8_layOut_50 rfl ?_
            refine pm_iloadi hG dX8_layOut_51 rfl ?_
            refine pm_iconst (v := 0) hG dX8_layOut_53 (by decide) ?_
            refine pm_callV (As := [.int za, .int x6_4, .int 0]) (rest := []) hG hR dX8_layOut_54 (lkX8_31 _ rfl) okV_X9_set rfl rfl (tb_set (d := 0) rfl rfl (pm_tw_of 4 24 (by decide) (by decide) (by decide)) (by decide)) rfl rfl hdd (Nat.le_refl _) (Nat.le_refl _) (by decide) (pm_kv (fun σ' cnt' hq => ?_))
            obtain ⟨I8, A8, rfl, rfl, h8⟩ := hv_a52 (kp := kp) (I := I6) (A := A6) h6 hq
            refine pm_iincX (v := x6_4 + 1) (loc' := [some (.ref (B + 48)), some (.int za), some (.int zb), some (.int zc), some (.int (x6_4 + 1))]) hG dX8_layOut_57 rfl (by rfl) (by decide) (pm_c1b rfl) rfl ?_
            refine pm_goto (tgt := 39) hG dX8_layOut_60 rfl ?_
            exact ih39 _ _ (x6_4 + 1) h8 (pm_sd1 c7 s39) (Nat.lt_of_lt_of_le (pm_mu1 c7) (Nat.le_of_lt_succ hm39))
      exact loop39 _ _ _ 0 h (by decide) (Nat.lt_succ_self _)
    · refine pm_iloadn hG dX8_layOut_13 rfl ?_
      refine pm_aloadn hG dX8_layOut_14 rfl ?_
      refine pm_getf hG dX8_layOut_15 (flX8_15 _ rfl) rfl rfl ?_
      refine pm_alen (v := 4) hG dX8_layOut_18 rfl (by decide) ?_
      refine pm_icmp_ge (tgt := 36) hG dX8_layOut_19 rfl (fun c9 => ?_) (fun c9 => ?_)
      · refine pm_iconst (v := 0) hG dX8_layOut_36 (by decide) ?_
        refine pm_istoreXi (loc' := [some (.ref (B + 48)), some (.int za), some (.int zb), some (.int zc), some (.int 0)]) hG dX8_layOut_37 (by decide) (pm_c1b rfl) rfl ?_
        have loop39 : ∀ (m39 : Nat) (I10 : Nat → Int32) (A10 : Nat → Nat → Int32) (x10_4 : Int32), gq ε I10 → (¬ x10_4 < 0) → ((24 : Int32).toInt - x10_4.toInt).toNat < m39 → pm_wp mX8_layOut G B 39 [some (.ref (B + 48)), some (.int za), some (.int zb), some (.int zc), some (.int x10_4)] [] 0 0 cnt (pm_two (cl_L B kp I10 A10) ρ) := by
          intro m39
          induction m39 with
          | zero => intro I10 A10 x10_4 _  _ hm; exact absurd hm (Nat.not_lt_zero _)
          | succ m39 ih39 =>
            intro I10 A10 x10_4 h10 s39 hm39
            refine pm_iloadi hG dX8_layOut_39 rfl ?_
            refine pm_bipush (v := 24) hG dX8_layOut_41 (by decide) ?_
            refine pm_icmp_ge (tgt := 63) hG dX8_layOut_43 rfl (fun c11 => ?_) (fun c11 => ?_)
            · exact pm_vret hG hF dX8_layOut_63 rfl (Nat.le_refl _) (Nat.le_refl _) ⟨rfl, _, _, rfl, rfl, h10⟩
            · refine pm_aloadn hG dX8_layOut_46 rfl ?_
              refine pm_getf hG dX8_layOut_47 (flX8_23 _ rfl) rfl rfl ?_
              refine pm_iloadn hG dX8_layOut_50 rfl ?_
              refine pm_iloadi hG dX8_layOut_51 rfl ?_
              refine pm_iconst (v := 0) hG dX8_layOut_53 (by decide) ?_
              refine pm_callV (As := [.int za, .int x10_4, .int 0]) (rest := []) hG hR dX8_layOut_54 (lkX8_31 _ rfl) okV_X9_set rfl rfl (tb_set (d := 0) rfl rfl (pm_tw_of 4 24 (by decide) (by decide) (by decide)) (by decide)) rfl rfl hdd (Nat.le_refl _) (Nat.le_refl _) (by decide) (pm_kv (fun σ' cnt' hq => ?_))
              obtain ⟨I12, A12, rfl, rfl, h12⟩ := hv_a52 (kp := kp) (I := I10) (A := A10) h10 hq
              refine pm_iincX (v := x10_4 + 1) (loc' := [some (.ref (B + 48)), some (.int za), some (.int zb), some (.int zc), some (.int (x10_4 + 1))]) hG dX8_layOut_57 rfl (by rfl) (by decide) (pm_c1b rfl) rfl ?_
              refine pm_goto (tgt := 39) hG dX8_layOut_60 rfl ?_
              exact ih39 _ _ (x10_4 + 1) h12 (pm_sd1 c11 s39) (Nat.lt_of_lt_of_le (pm_mu1 c11) (Nat.le_of_lt_succ hm39))
        exact loop39 _ _ _ 0 h (by decide) (Nat.lt_succ_self _)
      · refine pm_aloadn hG dX8_layOut_22 rfl ?_
        refine pm_getf hG dX8_layOut_23 (flX8_9 _ rfl) rfl rfl ?_
        refine pm_iloadn hG dX8_layOut_26 rfl ?_
        refine pm_iloadn hG dX8_layOut_27 rfl ?_
        refine pm_iast hG dX8_layOut_28 rfl (pm_ib2 rfl c1 c5) ?_
        refine nm_a49 (fun A13 => ?_)
        refine pm_aloadn hG dX8_layOut_29 rfl ?_
        refine pm_getf hG dX8_layOut_30 (flX8_15 _ rfl) rfl rfl ?_
        refine pm_iloadn hG dX8_layOut_33 rfl ?_
        refine pm_iloadn hG dX8_layOut_34 rfl ?_
        refine pm_iast hG dX8_layOut_35 rfl (pm_ib2 rfl c1 c5) ?_
        refine nm_a50 (fun A14 => ?_)
        refine pm_iconst (v := 0) hG dX8_layOut_36 (by decide) ?_
        refine pm_istoreXi (loc' := [some (.ref (B + 48)), some (.int za), some (.int zb), some (.int zc), some (.int 0)]) hG dX8_layOut_37 (by decide) (pm_c1b rfl) rfl ?_
        have loop39 : ∀ (m39 : Nat) (I15 : Nat → Int32) (A15 : Nat → Nat → Int32) (x15_4 : Int32), gq ε I15 → (¬ x15_4 < 0) → ((24 : Int32).toInt - x15_4.toInt).toNat < m39 → pm_wp mX8_layOut G B 39 [some (.ref (B + 48)), some (.int za), some (.int zb), some (.int zc), some (.int x15_4)] [] 0 0 cnt (pm_two (cl_L B kp I15 A15) ρ) := by
          intro m39
          induction m39 with
          | zero => intro I15 A15 x15_4 _  _ hm; exact absurd hm (Nat.not_lt_zero _)
          | succ m39 ih39 =>
            intro I15 A15 x15_4 h15 s39 hm39
            refine pm_iloadi hG dX8_layOut_39 rfl ?_
            refine pm_bipush (v := 24) hG dX8_layOut_41 (by decide) ?_
            refine pm_icmp_ge (tgt := 63) hG dX8_layOut_43 rfl (fun c16 => ?_) (fun c16 => ?_)
            · exact pm_vret hG hF dX8_layOut_63 rfl (Nat.le_refl _) (Nat.le_refl _) ⟨rfl, _, _, rfl, rfl, h15⟩
            · refine pm_aloadn hG dX8_layOut_46 rfl ?_
              refine pm_getf hG dX8_layOut_47 (flX8_23 _ rfl) rfl rfl ?_
              refine pm_iloadn hG dX8_layOut_50 rfl ?_
              refine pm_iloadi hG dX8_layOut_51 rfl ?_
              refine pm_iconst (v := 0) hG dX8_layOut_53 (by decide) ?_
              refine pm_callV (As := [.int za, .int x15_4, .int 0]) (rest := []) hG hR dX8_layOut_54 (lkX8_31 _ rfl) okV_X9_set rfl rfl (tb_set (d := 0) rfl rfl (pm_tw_of 4 24 (by decide) (by decide) (by decide)) (by decide)) rfl rfl hdd (Nat.le_refl _) (Nat.le_refl _) (by decide) (pm_kv (fun σ' cnt' hq => ?_))
              obtain ⟨I17, A17, rfl, rfl, h17⟩ := hv_a52 (kp := kp) (I := I15) (A := A15) h15 hq
              refine pm_iincX (v := x15_4 + 1) (loc' := [some (.ref (B + 48)), some (.int za), some (.int zb), some (.int zc), some (.int (x15_4 + 1))]) hG dX8_layOut_57 rfl (by rfl) (by decide) (pm_c1b rfl) rfl ?_
              refine pm_goto (tgt := 39) hG dX8_layOut_60 rfl ?_
              exact ih39 _ _ (x15_4 + 1) h17 (pm_sd1 c16 s39) (Nat.lt_of_lt_of_le (pm_mu1 c16) (Nat.le_of_lt_succ hm39))
        exact loop39 _ _ _ 0 h (by decide) (Nat.lt_succ_self _)

set_option maxRecDepth 100000 in
set_option maxHeartbeats 4000000 in
theorem g_X11_sheet {ε : Nat → Int32} {d B cnt : Nat} {kp : pm_KP} {ρ : pm_S} {I : Nat → Int32} {A : Nat → Nat → Int32} {za zb zc : Int32} (hdd : 2 ≤ d) (h : gq ε I) : pm_met mX11_sheet d 0 0 B [.ref (B + 0), .int za, .int zb, .int zc] cnt (pm_two (cl_L B kp I A) ρ) (pm_Qi (fun _ σ' cnt' => hvq ε B kp ρ cnt σ' cnt')) := by
  refine pm_enter 0 (by decide) (Nat.le_of_ble_eq_true rfl) rfl (fun G hG hR hF => ?_)
  refine pm_aloadn hG dX11_sheet_0 rfl ?_
  refine pm_getf hG dX11_sheet_1 (flX11_74 _ rfl) rfl rfl ?_
  refine pm_iloadn hG dX11_sheet_4 rfl ?_
  refine pm_callV (As := [.int za]) (rest := []) hG hR dX11_sheet_5 (lkX11_251 _ rfl) okV_X8_has rfl rfl (g_X8_has (d := 1) (by decide) h) rfl rfl hdd (Nat.le_refl _) (Nat.le_refl _) (by decide) (pm_ki (fun v1 σ' cnt' hq => ?_))
  obtain ⟨b1, I1, A1, rfl, rfl, h1⟩ := hq
  refine pm_if_eq (tgt := 26) hG dX11_sheet_8 rfl (fun c2 => ?_) (fun c2 => ?_)
  · refine pm_aloadn hG dX11_sheet_26 rfl ?_
    refine pm_ldc hG dX11_sheet_27 (ctX11_109 _ rfl) ?_
    refine pm_callV (As := [.int (-1000001)]) (rest := []) hG hR dX11_sheet_29 (lkX11_97 _ rfl) okV_X11_told rfl rfl (sx_told (d := 1) (by decide) rfl rfl) rfl rfl hdd (Nat.le_refl _) (Nat.le_refl _) (by decide) (pm_ki (fun v3 σ' cnt' hq => ?_))
    obtain ⟨-, ⟨g3, hg3⟩, hc3⟩ := hq
    obtain ⟨I3, A3, rfl, rfl, h3⟩ := hv_a53 (kp := kp) (I := I1) (A := A1) h1 ⟨hg3, hc3⟩
    exact pm_iret hG hF dX11_sheet_32 rfl (Nat.le_refl _) (Nat.le_refl _) ⟨_, rfl, _, _, rfl, rfl, h3⟩
  · refine pm_iloadn hG dX11_sheet_11 rfl ?_
    refine pm_if_eq (tgt := 33) hG dX11_sheet_12 rfl (fun c4 => ?_) (fun c4 => ?_)
    · refine pm_iloadn hG dX11_sheet_33 rfl ?_
      refine pm_if_eq (tgt := 48) hG dX11_sheet_34 rfl (fun c5 => ?_) (fun c5 => ?_)
      · refine pm_iloadn hG dX11_sheet_48 rfl ?_
        refine pm_if_eq (tgt := 65) hG dX11_sheet_49 rfl (fun c6 => ?_) (fun c6 => ?_)
        · refine pm_aloadn hG dX11_sheet_65 rfl ?_
          refine pm_getf hG dX11_sheet_66 (flX11_74 _ rfl) rfl rfl ?_
          refine pm_iloadn hG dX11_sheet_69 rfl ?_
          refine pm_iloadn hG dX11_sheet_70 rfl ?_
          refine pm_iloadn hG dX11_sheet_71 rfl ?_
          refine pm_if_ne (tgt := 79) hG dX11_sheet_72 rfl (fun c7 => ?_) (fun c7 => ?_)
          · refine pm_iloadn hG dX11_sheet_79 rfl ?_
            refine pm_callV (As := [.int za, .int zb, .int zc]) (rest := []) hG hR dX11_sheet_80 (lkX11_364 _ rfl) okV_X8_layOut rfl rfl (g_X8_layOut (d := 1) (by decide) h1) rfl rfl hdd (Nat.le_refl _) (Nat.le_refl _) (by decide) (pm_kv (fun σ' cnt' hq => ?_))
            obtain ⟨I8, A8, rfl, rfl, h8⟩ := hq
            refine pm_iconst (v := 1) hG dX11_sheet_83 (by decide) ?_
            exact pm_iret hG hF dX11_sheet_84 rfl (Nat.le_refl _) (Nat.le_refl _) ⟨_, rfl, _, _, rfl, rfl, h8⟩
          · refine pm_iconst (v := 0) hG dX11_sheet_75 (by decide) ?_
            refine pm_goto (tgt := 80) hG dX11_sheet_76 rfl ?_
            refine pm_callV (As := [.int za, .int zb, .int 0]) (rest := []) hG hR dX11_sheet_80 (lkX11_364 _ rfl) okV_X8_layOut rfl rfl (g_X8_layOut (d := 1) (by decide) h1) rfl rfl hdd (Nat.le_refl _) (Nat.le_refl _) (by decide) (pm_kv (fun σ' cnt' hq => ?_))
            obtain ⟨I9, A9, rfl, rfl, h9⟩ := hq
            refine pm_iconst (v := 1) hG dX11_sheet_83 (by decide) ?_
            exact pm_iret hG hF dX11_sheet_84 rfl (Nat.le_refl _) (Nat.le_refl _) ⟨_, rfl, _, _, rfl, rfl, h9⟩
        · refine pm_iloadn hG dX11_sheet_52 rfl ?_
          refine pm_bipush (v := 24) hG dX11_sheet_53 (by decide) ?_
          refine pm_icmp_le (tgt := 65) hG dX11_sheet_55 rfl (fun c10 => ?_) (fun c10 => ?_)
          · refine pm_aloadn hG dX11_sheet_65 rfl ?_
            refine pm_getf hG dX11_sheet_66 (flX11_74 _ rfl) rfl rfl ?_
            refine pm_iloadn hG dX11_sheet_69 rfl ?_
            refine pm_iloadn hG dX11_sheet_70 rfl ?_
            refine pm_iloadn hG dX11_sheet_71 rfl ?_
            refine pm_if_ne (tgt := 79) hG dX11_sheet_72 rfl (fun c11 => ?_) (fun c11 => ?_)
            · refine pm_iloadn hG dX11_sheet_79 rfl ?_
              refine pm_callV (As := [.int za, .int zb, .int zc]) (rest := []) hG hR dX11_sheet_80 (lkX11_364 _ rfl) okV_X8_layOut rfl rfl (g_X8_layOut (d := 1) (by decide) h1) rfl rfl hdd (Nat.le_refl _) (Nat.le_refl _) (by decide) (pm_kv (fun σ' cnt' hq => ?_))
              obtain ⟨I12, A12, rfl, rfl, h12⟩ := hq
              refine pm_iconst (v := 1) hG dX11_sheet_83 (by decide) ?_
              exact pm_iret hG hF dX11_sheet_84 rfl (Nat.le_refl _) (Nat.le_refl _) ⟨_, rfl, _, _, rfl, rfl, h12⟩
            · refine pm_iconst (v := 0) hG dX11_sheet_75 (by decide) ?_
              refine pm_goto (tgt := 80) hG dX11_sheet_76 rfl ?_
              refine pm_callV (As := [.int za, .int zb, .int 0]) (rest := []) hG hR dX11_sheet_80 (lkX11_364 _ rfl) okV_X8_layOut rfl rfl (g_X8_layOut (d := 1) (by decide) h1) rfl rfl hdd (Nat.le_refl _) (Nat.le_refl _) (by decide) (pm_kv (fun σ' cnt' hq => ?_))
              obtain ⟨I13, A13, rfl, rfl, h13⟩ := hq
              refine pm_iconst (v := 1) hG dX11_sheet_83 (by decide) ?_
              exact pm_iret hG hF dX11_sheet_84 rfl (Nat.le_refl _) (Nat.le_refl _) ⟨_, rfl, _, _, rfl, rfl, h13⟩
          · refine pm_aloadn hG dX11_sheet_58 rfl ?_
            refine pm_ldc hG dX11_sheet_59 (ctX11_109 _ rfl) ?_
            refine pm_callV (As := [.int (-1000001)]) (rest := []) hG hR dX11_sheet_61 (lkX11_97 _ rfl) okV_X11_told rfl rfl (sx_told (d := 1) (by decide) rfl rfl) rfl rfl hdd (Nat.le_refl _) (Nat.le_refl _) (by decide) (pm_ki (fun v14 σ' cnt' hq => ?_))
            obtain ⟨-, ⟨g14, hg14⟩, hc14⟩ := hq
            obtain ⟨I14, A14, rfl, rfl, h14⟩ := hv_a53 (kp := kp) (I := I1) (A := A1) h1 ⟨hg14, hc14⟩
            exact pm_iret hG hF dX11_sheet_64 rfl (Nat.le_refl _) (Nat.le_refl _) ⟨_, rfl, _, _, rfl, rfl, h14⟩
      · refine pm_iloadn hG dX11_sheet_37 rfl ?_
        refine pm_if_ge (tgt := 48) hG dX11_sheet_38 rfl (fun c15 => ?_) (fun c15 => ?_)
        · refine pm_iloadn hG dX11_sheet_48 rfl ?_
          refine pm_if_eq (tgt := 65) hG dX11_sheet_49 rfl (fun c16 => ?_) (fun c16 => ?_)
          · refine pm_aloadn hG dX11_sheet_65 rfl ?_
            refine pm_getf hG dX11_sheet_66 (flX11_74 _ rfl) rfl rfl ?_
            refine pm_iloadn hG dX11_sheet_69 rfl ?_
            refine pm_iloadn hG dX11_sheet_70 rfl ?_
            refine pm_iloadn hG dX11_sheet_71 rfl ?_
            refine pm_if_ne (tgt := 79) hG dX11_sheet_72 rfl (fun c17 => ?_) (fun c17 => ?_)
            · refine pm_iloadn hG dX11_sheet_79 rfl ?_
              refine pm_callV (As := [.int za, .int zb, .int zc]) (rest := []) hG hR dX11_sheet_80 (lkX11_364 _ rfl) okV_X8_layOut rfl rfl (g_X8_layOut (d := 1) (by decide) h1) rfl rfl hdd (Nat.le_refl _) (Nat.le_refl _) (by decide) (pm_kv (fun σ' cnt' hq => ?_))
              obtain ⟨I18, A18, rfl, rfl, h18⟩ := hq
              refine pm_iconst (v := 1) hG dX11_sheet_83 (by decide) ?_
              exact pm_iret hG hF dX11_sheet_84 rfl (Nat.le_refl _) (Nat.le_refl _) ⟨_, rfl, _, _, rfl, rfl, h18⟩
            · refine pm_iconst (v := 0) hG dX11_sheet_75 (by decide) ?_
              refine pm_goto (tgt := 80) hG dX11_sheet_76 rfl ?_
              refine pm_callV (As := [.int za, .int zb, .int 0]) (rest := []) hG hR dX11_sheet_80 (lkX11_364 _ rfl) okV_X8_layOut rfl rfl (g_X8_layOut (d := 1) (by decide) h1) rfl rfl hdd (Nat.le_refl _) (Nat.le_refl _) (by decide) (pm_kv (fun σ' cnt' hq => ?_))
              obtain ⟨I19, A19, rfl, rfl, h19⟩ := hq
              refine pm_iconst (v := 1) hG dX11_sheet_83 (by decide) ?_
              exact pm_iret hG hF dX11_sheet_84 rfl (Nat.le_refl _) (Nat.le_refl _) ⟨_, rfl, _, _, rfl, rfl, h19⟩
          · refine pm_iloadn hG dX11_sheet_52 rfl ?_
            refine pm_bipush (v := 24) hG dX11_sheet_53 (by decide) ?_
            refine pm_icmp_le (tgt := 65) hG dX11_sheet_55 rfl (fun c20 => ?_) (fun c20 => ?_)
            · refine pm_aloadn hG dX11_sheet_65 rfl ?_
              refine pm_getf hG dX11_sheet_66 (flX11_74 _ rfl) rfl rfl ?_
              refine pm_iloadn hG dX11_sheet_69 rfl ?_
              refine pm_iloadn hG dX11_sheet_70 rfl ?_
              refine pm_iloadn hG dX11_sheet_71 rfl ?_
              refine pm_if_ne (tgt := 79) hG dX11_sheet_72 rfl (fun c21 => ?_) (fun c21 => ?_)
              · refine pm_iloadn hG dX11_sheet_79 rfl ?_
                refine pm_callV (As := [.int za, .int zb, .int zc]) (rest := []) hG hR dX11_sheet_80 (lkX11_364 _ rfl) okV_X8_layOut rfl rfl (g_X8_layOut (d := 1) (by decide) h1) rfl rfl hdd (Nat.le_refl _) (Nat.le_refl _) (by decide) (pm_kv (fun σ' cnt' hq => ?_))
                obtain ⟨I22, A22, rfl, rfl, h22⟩ := hq
                refine pm_iconst (v := 1) hG dX11_sheet_83 (by decide) ?_
                exact pm_iret hG hF dX11_sheet_84 rfl (Nat.le_refl _) (Nat.le_refl _) ⟨_, rfl, _, _, rfl, rfl, h22⟩
              · refine pm_iconst (v := 0) hG dX11_sheet_75 (by decide) ?_
                refine pm_goto (tgt := 80) hG dX11_sheet_76 rfl ?_
                refine pm_callV (As := [.int za, .int zb, .int 0]) (rest := []) hG hR dX11_sheet_80 (lkX11_364 _ rfl) okV_X8_layOut rfl rfl (g_X8_layOut (d := 1) (by decide) h1) rfl rfl hdd (Nat.le_refl _) (Nat.le_refl _) (by decide) (pm_kv (fun σ' cnt' hq => ?_))
                obtain ⟨I23, A23, rfl, rfl, h23⟩ := hq
                refine pm_iconst (v := 1) hG dX11_sheet_83 (by decide) ?_
                exact pm_iret hG hF dX11_sheet_84 rfl (Nat.le_refl _) (Nat.le_refl _) ⟨_, rfl, _, _, rfl, rfl, h23⟩
            · refine pm_aloadn hG dX11_sheet_58 rfl ?_
              refine pm_ldc hG dX11_sheet_59 (ctX11_109 _ rfl) ?_
              refine pm_callV (As := [.int (-1000001)]) (rest := []) hG hR dX11_sheet_61 (lkX11_97 _ rfl) okV_X11_told rfl rfl (sx_told (d := 1) (by decide) rfl rfl) rfl rfl hdd (Nat.le_refl _) (Nat.le_refl _) (by decide) (pm_ki (fun v24 σ' cnt' hq => ?_))
              obtain ⟨-, ⟨g24, hg24⟩, hc24⟩ := hq
              obtain ⟨I24, A24, rfl, rfl, h24⟩ := hv_a53 (kp := kp) (I := I1) (A := A1) h1 ⟨hg24, hc24⟩
              exact pm_iret hG hF dX11_sheet_64 rfl (Nat.le_refl _) (Nat.le_refl _) ⟨_, rfl, _, _, rfl, rfl, h24⟩
        · refine pm_aloadn hG dX11_sheet_41 rfl ?_
          refine pm_ldc hG dX11_sheet_42 (ctX11_138 _ rfl) ?_
          refine pm_callV (As := [.int (-1000003)]) (rest := []) hG hR dX11_sheet_44 (lkX11_97 _ rfl) okV_X11_told rfl rfl (sx_told (d := 1) (by decide) rfl rfl) rfl rfl hdd (Nat.le_refl _) (Nat.le_refl _) (by decide) (pm_ki (fun v25 σ' cnt' hq => ?_))
          obtain ⟨-, ⟨g25, hg25⟩, hc25⟩ := hq
          obtain ⟨I25, A25, rfl, rfl, h25⟩ := hv_a53 (kp := kp) (I := I1) (A := A1) h1 ⟨hg25, hc25⟩
          exact pm_iret hG hF dX11_sheet_47 rfl (Nat.le_refl _) (Nat.le_refl _) ⟨_, rfl, _, _, rfl, rfl, h25⟩
    · refine pm_aloadn hG dX11_sheet_15 rfl ?_
      refine pm_getf hG dX11_sheet_16 (flX11_74 _ rfl) rfl rfl ?_
      refine pm_iloadn hG dX11_sheet_19 rfl ?_
      refine pm_callV (As := [.int zb]) (rest := []) hG hR dX11_sheet_20 (lkX11_252 _ rfl) okV_X8_isWidth rfl rfl (g_X8_isWidth (d := 1) (by decide) h1) rfl rfl hdd (Nat.le_refl _) (Nat.le_refl _) (by decide) (pm_ki (fun v26 σ' cnt' hq => ?_))
      obtain ⟨b26, I26, A26, rfl, rfl, h26⟩ := hq
      refine pm_if_ne (tgt := 33) hG dX11_sheet_23 rfl (fun c27 => ?_) (fun c27 => ?_)
      · refine pm_iloadn hG dX11_sheet_33 rfl ?_
        refine pm_if_eq (tgt := 48) hG dX11_sheet_34 rfl (fun c28 => ?_) (fun c28 => ?_)
        · refine pm_iloadn hG dX11_sheet_48 rfl ?_
          refine pm_if_eq (tgt := 65) hG dX11_sheet_49 rfl (fun c29 => ?_) (fun c29 => ?_)
          · refine pm_aloadn hG dX11_sheet_65 rfl ?_
            refine pm_getf hG dX11_sheet_66 (flX11_74 _ rfl) rfl rfl ?_
            refine pm_iloadn hG dX11_sheet_69 rfl ?_
            refine pm_iloadn hG dX11_sheet_70 rfl ?_
            refine pm_iloadn hG dX11_sheet_71 rfl ?_
            refine pm_if_ne (tgt := 79) hG dX11_sheet_72 rfl (fun c30 => ?_) (fun c30 => ?_)
            · refine pm_iloadn hG dX11_sheet_79 rfl ?_
              refine pm_callV (As := [.int za, .int zb, .int zc]) (rest := []) hG hR dX11_sheet_80 (lkX11_364 _ rfl) okV_X8_layOut rfl rfl (g_X8_layOut (d := 1) (by decide) h26) rfl rfl hdd (Nat.le_refl _) (Nat.le_refl _) (by decide) (pm_kv (fun σ' cnt' hq => ?_))
              obtain ⟨I31, A31, rfl, rfl, h31⟩ := hq
              refine pm_iconst (v := 1) hG dX11_sheet_83 (by decide) ?_
              exact pm_iret hG hF dX11_sheet_84 rfl (Nat.le_refl _) (Nat.le_refl _) ⟨_, rfl, _, _, rfl, rfl, h31⟩
            · refine pm_iconst (v := 0) hG dX11_sheet_75 (by decide) ?_
              refine pm_goto (tgt := 80) hG dX11_sheet_76 rfl ?_
              refine pm_callV (As := [.int za, .int zb, .int 0]) (rest := []) hG hR dX11_sheet_80 (lkX11_364 _ rfl) okV_X8_layOut rfl rfl (g_X8_layOut (d := 1) (by decide) h26) rfl rfl hdd (Nat.le_refl _) (Nat.le_refl _) (by decide) (pm_kv (fun σ' cnt' hq => ?_))
              obtain ⟨I32, A32, rfl, rfl, h32⟩ := hq
              refine pm_iconst (v := 1) hG dX11_sheet_83 (by decide) ?_
              exact pm_iret hG hF dX11_sheet_84 rfl (Nat.le_refl _) (Nat.le_refl _) ⟨_, rfl, _, _, rfl, rfl, h32⟩
          · refine pm_iloadn hG dX11_sheet_52 rfl ?_
            refine pm_bipush (v := 24) hG dX11_sheet_53 (by decide) ?_
            refine pm_icmp_le (tgt := 65) hG dX11_sheet_55 rfl (fun c33 => ?_) (fun c33 => ?_)
            · refine pm_aloadn hG dX11_sheet_65 rfl ?_
              refine pm_getf hG dX11_sheet_66 (flX11_74 _ rfl) rfl rfl ?_
              refine pm_iloadn hG dX11_sheet_69 rfl ?_
              refine pm_iloadn hG dX11_sheet_70 rfl ?_
              refine pm_iloadn hG dX11_sheet_71 rfl ?_
              refine pm_if_ne (tgt := 79) hG dX11_sheet_72 rfl (fun c34 => ?_) (fun c34 => ?_)
              · refine pm_iloadn hG dX11_sheet_79 rfl ?_
                refine pm_callV (As := [.int za, .int zb, .int zc]) (rest := []) hG hR dX11_sheet_80 (lkX11_364 _ rfl) okV_X8_layOut rfl rfl (g_X8_layOut (d := 1) (by decide) h26) rfl rfl hdd (Nat.le_refl _) (Nat.le_refl _) (by decide) (pm_kv (fun σ' cnt' hq => ?_))
                obtain ⟨I35, A35, rfl, rfl, h35⟩ := hq
                refine pm_iconst (v := 1) hG dX11_sheet_83 (by decide) ?_
                exact pm_iret hG hF dX11_sheet_84 rfl (Nat.le_refl _) (Nat.le_refl _) ⟨_, rfl, _, _, rfl, rfl, h35⟩
              · refine pm_iconst (v := 0) hG dX11_sheet_75 (by decide) ?_
                refine pm_goto (tgt := 80) hG dX11_sheet_76 rfl ?_
                refine pm_callV (As := [.int za, .int zb, .int 0]) (rest := []) hG hR dX11_sheet_80 (lkX11_364 _ rfl) okV_X8_layOut rfl rfl (g_X8_layOut (d := 1) (by decide) h26) rfl rfl hdd (Nat.le_refl _) (Nat.le_refl _) (by decide) (pm_kv (fun σ' cnt' hq => ?_))
                obtain ⟨I36, A36, rfl, rfl, h36⟩ := hq
                refine pm_iconst (v := 1) hG dX11_sheet_83 (by decide) ?_
                exact pm_iret hG hF dX11_sheet_84 rfl (Nat.le_refl _) (Nat.le_refl _) ⟨_, rfl, _, _, rfl, rfl, h36⟩
            · refine pm_aloadn hG dX11_sheet_58 rfl ?_
              refine pm_ldc hG dX11_sheet_59 (ctX11_109 _ rfl) ?_
              refine pm_callV (As := [.int (-1000001)]) (rest := []) hG hR dX11_sheet_61 (lkX11_97 _ rfl) okV_X11_told rfl rfl (sx_told (d := 1) (by decide) rfl rfl) rfl rfl hdd (Nat.le_refl _) (Nat.le_refl _) (by decide) (pm_ki (fun v37 σ' cnt' hq => ?_))
              obtain ⟨-, ⟨g37, hg37⟩, hc37⟩ := hq
              obtain ⟨I37, A37, rfl, rfl, h37⟩ := hv_a53 (kp := kp) (I := I26) (A := A26) h26 ⟨hg37, hc37⟩
              exact pm_iret hG hF dX11_sheet_64 rfl (Nat.le_refl _) (Nat.le_refl _) ⟨_, rfl, _, _, rfl, rfl, h37⟩
        · refine pm_iloadn hG dX11_sheet_37 rfl ?_
          refine pm_if_ge (tgt := 48) hG dX11_sheet_38 rfl (fun c38 => ?_) (fun c38 => ?_)
          · refine pm_iloadn hG dX11_sheet_48 rfl ?_
            refine pm_if_eq (tgt := 65) hG dX11_sheet_49 rfl (fun c39 => ?_) (fun c39 => ?_)
            · refine pm_aloadn hG dX11_sheet_65 rfl ?_
              refine pm_getf hG dX11_sheet_66 (flX11_74 _ rfl) rfl rfl ?_
              refine pm_iloadn hG dX11_sheet_69 rfl ?_
              refine pm_iloadn hG dX11_sheet_70 rfl ?_
              refine pm_iloadn hG dX11_sheet_71 rfl ?_
              refine pm_if_ne (tgt := 79) hG dX11_sheet_72 rfl (fun c40 => ?_) (fun c40 => ?_)
              · refine pm_iloadn hG dX11_sheet_79 rfl ?_
                refine pm_callV (As := [.int za, .int zb, .int zc]) (rest := []) hG hR dX11_sheet_80 (lkX11_364 _ rfl) okV_X8_layOut rfl rfl (g_X8_layOut (d := 1) (by decide) h26) rfl rfl hdd (Nat.le_refl _) (Nat.le_refl _) (by decide) (pm_kv (fun σ' cnt' hq => ?_))
                obtain ⟨I41, A41, rfl, rfl, h41⟩ := hq
                refine pm_iconst (v := 1) hG dX11_sheet_83 (by decide) ?_
                exact pm_iret hG hF dX11_sheet_84 rfl (Nat.le_refl _) (Nat.le_refl _) ⟨_, rfl, _, _, rfl, rfl, h41⟩
              · refine pm_iconst (v := 0) hG dX11_sheet_75 (by decide) ?_
                refine pm_goto (tgt := 80) hG dX11_sheet_76 rfl ?_
                refine pm_callV (As := [.int za, .int zb, .int 0]) (rest := []) hG hR dX11_sheet_80 (lkX11_364 _ rfl) okV_X8_layOut rfl rfl (g_X8_layOut (d := 1) (by decide) h26) rfl rfl hdd (Nat.le_refl _) (Nat.le_refl _) (by decide) (pm_kv (fun σ' cnt' hq => ?_))
                obtain ⟨I42, A42, rfl, rfl, h42⟩ := hq
                refine pm_iconst (v := 1) hG dX11_sheet_83 (by decide) ?_
                exact pm_iret hG hF dX11_sheet_84 rfl (Nat.le_refl _) (Nat.le_refl _) ⟨_, rfl, _, _, rfl, rfl, h42⟩
            · refine pm_iloadn hG dX11_sheet_52 rfl ?_
              refine pm_bipush (v := 24) hG dX11_sheet_53 (by decide) ?_
              refine pm_icmp_le (tgt := 65) hG dX11_sheet_55 rfl (fun c43 => ?_) (fun c43 => ?_)
              · refine pm_aloadn hG dX11_sheet_65 rfl ?_
                refine pm_getf hG dX11_sheet_66 (flX11_74 _ rfl) rfl rfl ?_
                refine pm_iloadn hG dX11_sheet_69 rfl ?_
                refine pm_iloadn hG dX11_sheet_70 rfl ?_
                refine pm_iloadn hG dX11_sheet_71 rfl ?_
                refine pm_if_ne (tgt := 79) hG dX11_sheet_72 rfl (fun c44 => ?_) (fun c44 => ?_)
                · refine pm_iloadn hG dX11_sheet_79 rfl ?_
                  refine pm_callV (As := [.int za, .int zb, .int zc]) (rest := []) hG hR dX11_sheet_80 (lkX11_364 _ rfl) okV_X8_layOut rfl rfl (g_X8_layOut (d := 1) (by decide) h26) rfl rfl hdd (Nat.le_refl _) (Nat.le_refl _) (by decide) (pm_kv (fun σ' cnt' hq => ?_))
                  obtain ⟨I45, A45, rfl, rfl, h45⟩ := hq
                  refine pm_iconst (v := 1) hG dX11_sheet_83 (by decide) ?_
                  exact pm_iret hG hF dX11_sheet_84 rfl (Nat.le_refl _) (Nat.le_refl _) ⟨_, rfl, _, _, rfl, rfl, h45⟩
                · refine pm_iconst (v := 0) hG dX11_sheet_75 (by decide) ?_
                  refine pm_goto (tgt := 80) hG dX11_sheet_76 rfl ?_
                  refine pm_callV (As := [.int za, .int zb, .int 0]) (rest := []) hG hR dX11_sheet_80 (lkX11_364 _ rfl) okV_X8_layOut rfl rfl (g_X8_layOut (d := 1) (by decide) h26) rfl rfl hdd (Nat.le_refl _) (Nat.le_refl _) (by decide) (pm_kv (fun σ' cnt' hq => ?_))
                  obtain ⟨I46, A46, rfl, rfl, h46⟩ := hq
                  refine pm_iconst (v := 1) hG dX11_sheet_83 (by decide) ?_
                  exact pm_iret hG hF dX11_sheet_84 rfl (Nat.le_refl _) (Nat.le_refl _) ⟨_, rfl, _, _, rfl, rfl, h46⟩
              · refine pm_aloadn hG dX11_sheet_58 rfl ?_
                refine pm_ldc hG dX11_sheet_59 (ctX11_109 _ rfl) ?_
                refine pm_callV (As := [.int (-1000001)]) (rest := []) hG hR dX11_sheet_61 (lkX11_97 _ rfl) okV_X11_told rfl rfl (sx_told (d := 1) (by decide) rfl rfl) rfl rfl hdd (Nat.le_refl _) (Nat.le_refl _) (by decide) (pm_ki (fun v47 σ' cnt' hq => ?_))
                obtain ⟨-, ⟨g47, hg47⟩, hc47⟩ := hq
                obtain ⟨I47, A47, rfl, rfl, h47⟩ := hv_a53 (kp := kp) (I := I26) (A := A26) h26 ⟨hg47, hc47⟩
                exact pm_iret hG hF dX11_sheet_64 rfl (Nat.le_refl _) (Nat.le_refl _) ⟨_, rfl, _, _, rfl, rfl, h47⟩
          · refine pm_aloadn hG dX11_sheet_41 rfl ?_
            refine pm_ldc hG dX11_sheet_42 (ctX11_138 _ rfl) ?_
            refine pm_callV (As := [.int (-1000003)]) (rest := []) hG hR dX11_sheet_44 (lkX11_97 _ rfl) okV_X11_told rfl rfl (sx_told (d := 1) (by decide) rfl rfl) rfl rfl hdd (Nat.le_refl _) (Nat.le_refl _) (by decide) (pm_ki (fun v48 σ' cnt' hq => ?_))
            obtain ⟨-, ⟨g48, hg48⟩, hc48⟩ := hq
            obtain ⟨I48, A48, rfl, rfl, h48⟩ := hv_a53 (kp := kp) (I := I26) (A := A26) h26 ⟨hg48, hc48⟩
            exact pm_iret hG hF dX11_sheet_47 rfl (Nat.le_refl _) (Nat.le_refl _) ⟨_, rfl, _, _, rfl, rfl, h48⟩
      · refine pm_aloadn hG dX11_sheet_26 rfl ?_
        refine pm_ldc hG dX11_sheet_27 (ctX11_109 _ rfl) ?_
        refine pm_callV (As := [.int (-1000001)]) (rest := []) hG hR dX11_sheet_29 (lkX11_97 _ rfl) okV_X11_told rfl rfl (sx_told (d := 1) (by decide) rfl rfl) rfl rfl hdd (Nat.le_refl _) (Nat.le_refl _) (by decide) (pm_ki (fun v49 σ' cnt' hq => ?_))
        obtain ⟨-, ⟨g49, hg49⟩, hc49⟩ := hq
        obtain ⟨I49, A49, rfl, rfl, h49⟩ := hv_a53 (kp := kp) (I := I26) (A := A26) h26 ⟨hg49, hc49⟩
        exact pm_iret hG hF dX11_sheet_32 rfl (Nat.le_refl _) (Nat.le_refl _) ⟨_, rfl, _, _, rfl, rfl, h49⟩

set_option maxRecDepth 100000 in
set_option maxHeartbeats 4000000 in
theorem g_X11_strike {ε : Nat → Int32} {d B cnt : Nat} {kp : pm_KP} {ρ : pm_S} {I : Nat → Int32} {A : Nat → Nat → Int32} {za : Int32} (hdd : 2 ≤ d) (h : gq ε I) : pm_met mX11_strike d 0 0 B [.ref (B + 0), .int za] cnt (pm_two (cl_L B kp I A) ρ) (pm_Qi (fun _ σ' cnt' => hvq ε B kp ρ cnt σ' cnt')) := by
  refine pm_enter 0 (by decide) (Nat.le_of_ble_eq_true rfl) rfl (fun G hG hR hF => ?_)
  refine pm_aloadn hG dX11_strike_0 rfl ?_
  refine pm_getf hG dX11_strike_1 (flX11_12 _ rfl) rfl rfl ?_
  refine pm_getf hG dX11_strike_4 (flX11_209 _ rfl) rfl rfl ?_
  refine pm_iloadn hG dX11_strike_7 rfl ?_
  refine pm_callV (As := [.int za]) (rest := []) hG hR dX11_strike_8 (lkX11_101 _ rfl) okV_X9_has rfl rfl (tb_has (d := 1) rfl) rfl rfl hdd (Nat.le_refl _) (Nat.le_refl _) (by decide) (pm_ki (fun v1 σ' cnt' hq => ?_))
  have b1 := pm_b01 hq.1
  obtain ⟨I1, A1, rfl, rfl, h1⟩ := hv_id (kp := kp) (I := I) (A := A) h hq.2
  refine pm_if_ne (tgt := 21) hG dX11_strike_11 rfl (fun c2 => ?_) (fun c2 => ?_)
  · refine pm_aloadn hG dX11_strike_21 rfl ?_
    refine pm_getf hG dX11_strike_22 (flX11_21 _ rfl) rfl rfl ?_
    refine pm_iloadn hG dX11_strike_25 rfl ?_
    refine pm_callV (As := [.int za]) (rest := []) hG hR dX11_strike_26 (lkX11_214 _ rfl) okV_X2_isStruck rfl rfl (g_X2_isStruck (d := 1) (by decide) h1) rfl rfl hdd (Nat.le_refl _) (Nat.le_refl _) (by decide) (pm_ki (fun v3 σ' cnt' hq => ?_))
    obtain ⟨b3, I3, A3, rfl, rfl, h3⟩ := hq
    refine pm_if_eq (tgt := 39) hG dX11_strike_29 rfl (fun c4 => ?_) (fun c4 => ?_)
    · refine pm_aloadn hG dX11_strike_39 rfl ?_
      refine pm_getf hG dX11_strike_40 (flX11_21 _ rfl) rfl rfl ?_
      refine pm_iloadn hG dX11_strike_43 rfl ?_
      refine pm_callV (As := [.int za]) (rest := []) hG hR dX11_strike_44 (lkX11_217 _ rfl) okV_X2_strikeOut rfl rfl (g_X2_strikeOut (d := 1) (by decide) h3) rfl rfl hdd (Nat.le_refl _) (Nat.le_refl _) (by decide) (pm_kv (fun σ' cnt' hq => ?_))
      obtain ⟨I5, A5, rfl, rfl, h5⟩ := hq
      refine pm_iconst (v := 1) hG dX11_strike_47 (by decide) ?_
      exact pm_iret hG hF dX11_strike_48 rfl (Nat.le_refl _) (Nat.le_refl _) ⟨_, rfl, _, _, rfl, rfl, h5⟩
    · refine pm_aloadn hG dX11_strike_32 rfl ?_
      refine pm_ldc hG dX11_strike_33 (ctX11_138 _ rfl) ?_
      refine pm_callV (As := [.int (-1000003)]) (rest := []) hG hR dX11_strike_35 (lkX11_97 _ rfl) okV_X11_told rfl rfl (sx_told (d := 1) (by decide) rfl rfl) rfl rfl hdd (Nat.le_refl _) (Nat.le_refl _) (by decide) (pm_ki (fun v6 σ' cnt' hq => ?_))
      obtain ⟨-, ⟨g6, hg6⟩, hc6⟩ := hq
      obtain ⟨I6, A6, rfl, rfl, h6⟩ := hv_a53 (kp := kp) (I := I3) (A := A3) h3 ⟨hg6, hc6⟩
      exact pm_iret hG hF dX11_strike_38 rfl (Nat.le_refl _) (Nat.le_refl _) ⟨_, rfl, _, _, rfl, rfl, h6⟩
  · refine pm_aloadn hG dX11_strike_14 rfl ?_
    refine pm_ldc hG dX11_strike_15 (ctX11_109 _ rfl) ?_
    refine pm_callV (As := [.int (-1000001)]) (rest := []) hG hR dX11_strike_17 (lkX11_97 _ rfl) okV_X11_told rfl rfl (sx_told (d := 1) (by decide) rfl rfl) rfl rfl hdd (Nat.le_refl _) (Nat.le_refl _) (by decide) (pm_ki (fun v7 σ' cnt' hq => ?_))
    obtain ⟨-, ⟨g7, hg7⟩, hc7⟩ := hq
    obtain ⟨I7, A7, rfl, rfl, h7⟩ := hv_a53 (kp := kp) (I := I1) (A := A1) h1 ⟨hg7, hc7⟩
    exact pm_iret hG hF dX11_strike_20 rfl (Nat.le_refl _) (Nat.le_refl _) ⟨_, rfl, _, _, rfl, rfl, h7⟩

set_option maxRecDepth 100000 in
set_option maxHeartbeats 4000000 in
theorem g_X11_tell {ε : Nat → Int32} {d B cnt : Nat} {kp : pm_KP} {ρ : pm_S} {I : Nat → Int32} {A : Nat → Nat → Int32} {za : Int32} (hdd : 2 ≤ d) (h : gq ε I) : pm_met mX11_tell d 0 0 B [.ref (B + 0), .int za] cnt (pm_two (cl_L B kp I A) ρ) (pm_Qi (fun _ σ' cnt' => hvq ε B kp ρ cnt σ' cnt')) := by
  refine pm_enter 0 (by decide) (Nat.le_of_ble_eq_true rfl) rfl (fun G hG hR hF => ?_)
  refine pm_aloadn hG dX11_tell_0 rfl ?_
  refine pm_getf hG dX11_tell_1 (flX11_12 _ rfl) rfl rfl ?_
  refine pm_getf hG dX11_tell_4 (flX11_386 _ rfl) rfl rfl ?_
  refine pm_callV (As := []) (rest := []) hG hR dX11_tell_7 (lkX11_86 _ rfl) okV_X9_isFull rfl rfl (tb_isFull (d := 1) rfl) rfl rfl hdd (Nat.le_refl _) (Nat.le_refl _) (by decide) (pm_ki (fun v1 σ' cnt' hq => ?_))
  have b1 := pm_b01 hq.1
  obtain ⟨I1, A1, rfl, rfl, h1⟩ := hv_id (kp := kp) (I := I) (A := A) h hq.2
  refine pm_if_eq (tgt := 20) hG dX11_tell_10 rfl (fun c2 => ?_) (fun c2 => ?_)
  · refine pm_aloadn hG dX11_tell_20 rfl ?_
    refine pm_getf hG dX11_tell_21 (flX11_12 _ rfl) rfl rfl ?_
    refine pm_getf hG dX11_tell_24 (flX11_386 _ rfl) rfl rfl ?_
    refine pm_iloadn hG dX11_tell_27 rfl ?_
    obtain ⟨k3, hk3, hu3⟩ := gq.used h1 22 20 (by decide)
    have ht3 : pm_two (cl_L B kp I1 A1) ρ 22 = some (.inr (9, [.int (nI 20), .int (nI 1), .ref (B + 23), .int (nI k3)])) := by rw [← hu3]; rfl
    refine pm_callV (As := [.int za]) (rest := []) hG hR dX11_tell_28 (lkX11_206 _ rfl) okV_X9_append rfl rfl (tb_append (d := 1) (by decide) ht3 rfl (by decide) (by decide) (by decide) (by decide) (by decide) (by decide) hk3) rfl rfl hdd (Nat.le_refl _) (Nat.le_refl _) (by decide) (pm_ki (fun v3 σ' cnt' hq => ?_))
    obtain ⟨I3, A3, rfl, rfl, h3⟩ := hv_p22 (kp := kp) (I := I1) (A := A1) hk3 h1 hq
    refine pm_pop hG dX11_tell_31 rfl ?_
    refine pm_aloadn hG dX11_tell_32 rfl ?_
    refine pm_getf hG dX11_tell_33 (flX11_12 _ rfl) rfl rfl ?_
    refine pm_getf hG dX11_tell_36 (flX11_386 _ rfl) rfl rfl ?_
    refine pm_callV (As := []) (rest := []) hG hR dX11_tell_39 (lkX11_203 _ rfl) okV_X9_used rfl rfl (tb_used (d := 1) rfl) rfl rfl hdd (Nat.le_refl _) (Nat.le_refl _) (by decide) (pm_ki (fun v4 σ' cnt' hq => ?_))
    obtain ⟨I4, A4, rfl, rfl, h4⟩ := hv_id (kp := kp) (I := I3) (A := A3) h3 hq.2
    exact pm_iret hG hF dX11_tell_42 rfl (Nat.le_refl _) (Nat.le_refl _) ⟨_, rfl, _, _, rfl, rfl, h4⟩
  · refine pm_aloadn hG dX11_tell_13 rfl ?_
    refine pm_ldc hG dX11_tell_14 (ctX11_92 _ rfl) ?_
    refine pm_callV (As := [.int (-1000004)]) (rest := []) hG hR dX11_tell_16 (lkX11_97 _ rfl) okV_X11_told rfl rfl (sx_told (d := 1) (by decide) rfl rfl) rfl rfl hdd (Nat.le_refl _) (Nat.le_refl _) (by decide) (pm_ki (fun v5 σ' cnt' hq => ?_))
    obtain ⟨-, ⟨g5, hg5⟩, hc5⟩ := hq
    obtain ⟨I5, A5, rfl, rfl, h5⟩ := hv_a53 (kp := kp) (I := I1) (A := A1) h1 ⟨hg5, hc5⟩
    exact pm_iret hG hF dX11_tell_19 rfl (Nat.le_refl _) (Nat.le_refl _) ⟨_, rfl, _, _, rfl, rfl, h5⟩

set_option maxRecDepth 100000 in
set_option maxHeartbeats 4000000 in
theorem g_X11_trace {ε : Nat → Int32} {d B cnt : Nat} {kp : pm_KP} {ρ : pm_S} {I : Nat → Int32} {A : Nat → Nat → Int32} {za : Int32} (hdd : 2 ≤ d) (h : gq ε I) : pm_met mX11_trace d 0 0 B [.ref (B + 0), .int za] cnt (pm_two (cl_L B kp I A) ρ) (pm_Qi (fun _ σ' cnt' => hvq ε B kp ρ cnt σ' cnt')) := by
  refine pm_enter 0 (by decide) (Nat.le_of_ble_eq_true rfl) rfl (fun G hG hR hF => ?_)
  refine pm_aloadn hG dX11_trace_0 rfl ?_
  refine pm_iloadn hG dX11_trace_1 rfl ?_
  refine pm_if_lt (tgt := 27) hG dX11_trace_2 rfl (fun c1 => ?_) (fun c1 => ?_)
  · refine pm_ldc hG dX11_trace_27 (ctX11_223 _ rfl) ?_
    refine pm_callV (As := [.int (-1000002)]) (rest := []) hG hR dX11_trace_29 (lkX11_97 _ rfl) okV_X11_told rfl rfl (sx_told (d := 1) (by decide) rfl rfl) rfl rfl hdd (Nat.le_refl _) (Nat.le_refl _) (by decide) (pm_ki (fun v2 σ' cnt' hq => ?_))
    obtain ⟨-, ⟨g2, hg2⟩, hc2⟩ := hq
    obtain ⟨I2, A2, rfl, rfl, h2⟩ := hv_a53 (kp := kp) (I := I) (A := A) h ⟨hg2, hc2⟩
    exact pm_iret hG hF dX11_trace_32 rfl (Nat.le_refl _) (Nat.le_refl _) ⟨_, rfl, _, _, rfl, rfl, h2⟩
  · refine pm_iloadn hG dX11_trace_5 rfl ?_
    refine pm_aloadn hG dX11_trace_6 rfl ?_
    refine pm_getf hG dX11_trace_7 (flX11_67 _ rfl) rfl rfl ?_
    refine pm_getf hG dX11_trace_10 (flX11_358 _ rfl) rfl rfl ?_
    refine pm_icmp_ge (tgt := 27) hG dX11_trace_13 rfl (fun c3 => ?_) (fun c3 => ?_)
    · refine pm_ldc hG dX11_trace_27 (ctX11_223 _ rfl) ?_
      refine pm_callV (As := [.int (-1000002)]) (rest := []) hG hR dX11_trace_29 (lkX11_97 _ rfl) okV_X11_told rfl rfl (sx_told (d := 1) (by decide) rfl rfl) rfl rfl hdd (Nat.le_refl _) (Nat.le_refl _) (by decide) (pm_ki (fun v4 σ' cnt' hq => ?_))
      obtain ⟨-, ⟨g4, hg4⟩, hc4⟩ := hq
      obtain ⟨I4, A4, rfl, rfl, h4⟩ := hv_a53 (kp := kp) (I := I) (A := A) h ⟨hg4, hc4⟩
      exact pm_iret hG hF dX11_trace_32 rfl (Nat.le_refl _) (Nat.le_refl _) ⟨_, rfl, _, _, rfl, rfl, h4⟩
    · refine pm_aloadn hG dX11_trace_16 rfl ?_
      refine pm_getf hG dX11_trace_17 (flX11_67 _ rfl) rfl rfl ?_
      refine pm_iloadn hG dX11_trace_20 rfl ?_
      refine pm_callV (As := [.int za]) (rest := [.ref (B + 0)]) hG hR dX11_trace_21 (lkX11_361 _ rfl) okV_X10_bodyAt rfl rfl (g_X10_bodyAt (d := 1) (by decide) h) rfl rfl hdd (Nat.le_refl _) (Nat.le_refl _) (by first | decide | exact Nat.le_of_ble_eq_true rfl) (pm_ki (fun v5 σ' cnt' hq => ?_))
      obtain ⟨I5, A5, rfl, rfl, h5⟩ := hq
      refine pm_goto (tgt := 29) hG dX11_trace_24 rfl ?_
      refine pm_callV (As := [.int v5]) (rest := []) hG hR dX11_trace_29 (lkX11_97 _ rfl) okV_X11_told rfl rfl (sx_told (d := 1) (by decide) rfl rfl) rfl rfl hdd (Nat.le_refl _) (Nat.le_refl _) (by decide) (pm_ki (fun v6 σ' cnt' hq => ?_))
      obtain ⟨-, ⟨g6, hg6⟩, hc6⟩ := hq
      obtain ⟨I6, A6, rfl, rfl, h6⟩ := hv_a53 (kp := kp) (I := I5) (A := A5) h5 ⟨hg6, hc6⟩
      exact pm_iret hG hF dX11_trace_32 rfl (Nat.le_refl _) (Nat.le_refl _) ⟨_, rfl, _, _, rfl, rfl, h6⟩

set_option maxRecDepth 100000 in
set_option maxHeartbeats 4000000 in
theorem g_X11_voice {ε : Nat → Int32} {d B cnt : Nat} {kp : pm_KP} {ρ : pm_S} {I : Nat → Int32} {A : Nat → Nat → Int32} {za zb zc : Int32} (hdd : 11 ≤ d) (h : gq ε I) : pm_met mX11_voice d 0 0 B [.ref (B + 0), .int za, .int zb, .int zc] cnt (pm_two (cl_L B kp I A) ρ) (pm_Qi (fun _ σ' cnt' => hvq ε B kp ρ cnt σ' cnt')) := by
  refine pm_enter 0 (by decide) (Nat.le_of_ble_eq_true rfl) rfl (fun G hG hR hF => ?_)
  refine pm_aloadn hG dX11_voice_0 rfl ?_
  refine pm_getf hG dX11_voice_1 (flX11_12 _ rfl) rfl rfl ?_
  refine pm_getf hG dX11_voice_4 (flX11_161 _ rfl) rfl rfl ?_
  refine pm_iloadn hG dX11_voice_7 rfl ?_
  refine pm_callV (As := [.int za]) (rest := []) hG hR dX11_voice_8 (lkX11_101 _ rfl) okV_X9_has rfl rfl (tb_has (d := 10) rfl) rfl rfl hdd (Nat.le_refl _) (Nat.le_refl _) (by decide) (pm_ki (fun v1 σ' cnt' hq => ?_))
  have b1 := pm_b01 hq.1
  obtain ⟨I1, A1, rfl, rfl, h1⟩ := hv_id (kp := kp) (I := I) (A := A) h hq.2
  refine pm_if_eq (tgt := 23) hG dX11_voice_11 rfl (fun c2 => ?_) (fun c2 => ?_)
  · refine pm_aloadn hG dX11_voice_23 rfl ?_
    refine pm_ldc hG dX11_voice_24 (ctX11_109 _ rfl) ?_
    refine pm_callV (As := [.int (-1000001)]) (rest := []) hG hR dX11_voice_26 (lkX11_97 _ rfl) okV_X11_told rfl rfl (sx_told (d := 10) (by decide) rfl rfl) rfl rfl hdd (Nat.le_refl _) (Nat.le_refl _) (by decide) (pm_ki (fun v3 σ' cnt' hq => ?_))
    obtain ⟨-, ⟨g3, hg3⟩, hc3⟩ := hq
    obtain ⟨I3, A3, rfl, rfl, h3⟩ := hv_a53 (kp := kp) (I := I1) (A := A1) h1 ⟨hg3, hc3⟩
    exact pm_iret hG hF dX11_voice_29 rfl (Nat.le_refl _) (Nat.le_refl _) ⟨_, rfl, _, _, rfl, rfl, h3⟩
  · refine pm_iloadn hG dX11_voice_14 rfl ?_
    refine pm_iconst (v := 0) hG dX11_voice_15 (by decide) ?_
    refine pm_iconst (v := 3) hG dX11_voice_16 (by decide) ?_
    refine pm_callS (As := [.int zb, .int 0, .int 3]) (rest := []) hG hR dX11_voice_17 (lkX11_105 _ rfl) okS_X11_isOutside (sx_isOutside (d := 10)) rfl rfl hdd (Nat.le_refl _) (Nat.le_refl _) (by decide) (pm_ki (fun v4 σ' cnt' hq => ?_))
    have o4 := hq.1
    have b4 := pm_b10 hq.1
    obtain ⟨I4, A4, rfl, rfl, h4⟩ := hv_id (kp := kp) (I := I1) (A := A1) h1 hq.2
    refine pm_if_eq (tgt := 30) hG dX11_voice_20 rfl (fun c5 => ?_) (fun c5 => ?_)
    · refine pm_aloadn hG dX11_voice_30 rfl ?_
      refine pm_getf hG dX11_voice_31 (flX11_67 _ rfl) rfl rfl ?_
      refine pm_aloadn hG dX11_voice_34 rfl ?_
      refine pm_getf hG dX11_voice_35 (flX11_12 _ rfl) rfl rfl ?_
      refine pm_getf hG dX11_voice_38 (flX11_161 _ rfl) rfl rfl ?_
      refine pm_iloadn hG dX11_voice_41 rfl ?_
      refine pm_iconst (v := 0) hG dX11_voice_42 (by decide) ?_
      refine pm_callV (As := [.int za, .int 0]) (rest := [.ref (B + 46)]) hG hR dX11_voice_43 (lkX11_152 _ rfl) okV_X9_get rfl rfl (tb_get (d := 10) rfl rfl (pm_tw_of 20 6 (by decide) (by decide) (by decide))) rfl rfl hdd (Nat.le_refl _) (Nat.le_refl _) (by first | decide | exact Nat.le_of_ble_eq_true rfl) (pm_ki (fun v6 σ' cnt' hq => ?_))
      obtain ⟨I6, A6, rfl, rfl, h6⟩ := hv_id (kp := kp) (I := I4) (A := A4) h4 hq.2
      refine pm_iloadn hG dX11_voice_46 rfl ?_
      refine pm_aloadn hG dX11_voice_47 rfl ?_
      refine pm_getf hG dX11_voice_48 (flX11_12 _ rfl) rfl rfl ?_
      refine pm_getf hG dX11_voice_51 (flX11_161 _ rfl) rfl rfl ?_
      refine pm_iloadn hG dX11_voice_54 rfl ?_
      refine pm_iconst (v := 1) hG dX11_voice_55 (by decide) ?_
      refine pm_callV (As := [.int za, .int 1]) (rest := [.int za, .int v6, .ref (B + 46)]) hG hR dX11_voice_56 (lkX11_152 _ rfl) okV_X9_get rfl rfl (tb_get (d := 10) rfl rfl (pm_tw_of 20 6 (by decide) (by decide) (by decide))) rfl rfl hdd (Nat.le_refl _) (Nat.le_refl _) (by first | decide | exact Nat.le_of_ble_eq_true rfl) (pm_ki (fun v7 σ' cnt' hq => ?_))
      obtain ⟨I7, A7, rfl, rfl, h7⟩ := hv_id (kp := kp) (I := I6) (A := A6) h6 hq.2
      refine pm_callV (As := [.int v6, .int za, .int v7]) (rest := []) hG hR dX11_voice_59 (lkX11_353 _ rfl) okV_X10_begin rfl rfl (g_X10_begin (d := 10) (by decide) h7) rfl rfl hdd (Nat.le_refl _) (Nat.le_refl _) (by decide) (pm_kv (fun σ' cnt' hq => ?_))
      obtain ⟨I8, A8, rfl, rfl, h8⟩ := hq
      refine pm_aloadn hG dX11_voice_62 rfl ?_
      refine pm_getf hG dX11_voice_63 (flX11_67 _ rfl) rfl rfl ?_
      refine pm_iloadn hG dX11_voice_66 rfl ?_
      refine pm_iloadn hG dX11_voice_67 rfl ?_
      refine pm_callV (As := [.int zb, .int zc]) (rest := []) hG hR dX11_voice_68 (lkX11_355 _ rfl) okV_X10_speak rfl rfl (g_X10_speak (d := 10) (by decide) h8) rfl rfl hdd (Nat.le_refl _) (Nat.le_refl _) (by decide) (pm_ki (fun v9 σ' cnt' hq => ?_))
      obtain ⟨I9, A9, rfl, rfl, h9⟩ := hq
      exact pm_iret hG hF dX11_voice_71 rfl (Nat.le_refl _) (Nat.le_refl _) ⟨_, rfl, _, _, rfl, rfl, h9⟩
    · refine pm_aloadn hG dX11_voice_23 rfl ?_
      refine pm_ldc hG dX11_voice_24 (ctX11_109 _ rfl) ?_
      refine pm_callV (As := [.int (-1000001)]) (rest := []) hG hR dX11_voice_26 (lkX11_97 _ rfl) okV_X11_told rfl rfl (sx_told (d := 10) (by decide) rfl rfl) rfl rfl hdd (Nat.le_refl _) (Nat.le_refl _) (by decide) (pm_ki (fun v10 σ' cnt' hq => ?_))
      obtain ⟨-, ⟨g10, hg10⟩, hc10⟩ := hq
      obtain ⟨I10, A10, rfl, rfl, h10⟩ := hv_a53 (kp := kp) (I := I4) (A := A4) h4 ⟨hg10, hc10⟩
      exact pm_iret hG hF dX11_voice_29 rfl (Nat.le_refl _) (Nat.le_refl _) ⟨_, rfl, _, _, rfl, rfl, h10⟩

set_option maxRecDepth 100000 in
set_option maxHeartbeats 4000000 in
theorem g_X5_before {ε : Nat → Int32} {d B cnt : Nat} {kp : pm_KP} {ρ : pm_S} {I : Nat → Int32} {A : Nat → Nat → Int32} {za zb : Int32} (hdd : 1 ≤ d) (h : gq ε I) : pm_met mX5_before d 0 0 B [.int za, .int zb] cnt (pm_two (cl_L B kp I A) ρ) (pm_Qi (fun _ σ' cnt' => hvq ε B kp ρ cnt σ' cnt')) := by
  refine pm_enter 1 (by decide) (Nat.le_of_ble_eq_true rfl) rfl (fun G hG hR hF => ?_)
  refine pm_iloadn hG dX5_before_0 rfl ?_
  refine pm_if_ne (tgt := 8) hG dX5_before_1 rfl (fun c1 => ?_) (fun c1 => ?_)
  · refine pm_iloadn hG dX5_before_8 rfl ?_
    refine pm_iconst (v := 1) hG dX5_before_9 (by decide) ?_
    refine pm_iloadn hG dX5_before_10 rfl ?_
    refine pm_iconst (v := 1) hG dX5_before_11 (by decide) ?_
    refine pm_isub hG dX5_before_12 ?_
    refine pm_ishl hG dX5_before_13 ?_
    refine pm_iconst (v := (-1)) hG dX5_before_14 (by decide) ?_
    refine pm_ixor hG dX5_before_15 ?_
    refine pm_iand hG dX5_before_16 ?_
    refine pm_istoreXn (loc' := [some (.int za), some (.int zb), some (.int (za &&& ((1 <<< ((zb - 1) &&& 31)) ^^^ (-1))))]) hG dX5_before_17 (by decide) (pm_c1b rfl) rfl ?_
    refine pm_iloadn hG dX5_before_18 rfl ?_
    refine pm_bipush (v := 63) hG dX5_before_19 (by decide) ?_
    refine pm_iand hG dX5_before_21 ?_
    exact pm_iret hG hF dX5_before_22 rfl (Nat.le_refl _) (Nat.le_refl _) ⟨_, rfl, _, _, rfl, rfl, h⟩
  · refine pm_iloadn hG dX5_before_4 rfl ?_
    refine pm_goto (tgt := 17) hG dX5_before_5 rfl ?_
    refine pm_istoreXn (loc' := [some (.int za), some (.int zb), some (.int za)]) hG dX5_before_17 (by decide) (pm_c1b rfl) rfl ?_
    refine pm_iloadn hG dX5_before_18 rfl ?_
    refine pm_bipush (v := 63) hG dX5_before_19 (by decide) ?_
    refine pm_iand hG dX5_before_21 ?_
    exact pm_iret hG hF dX5_before_22 rfl (Nat.le_refl _) (Nat.le_refl _) ⟨_, rfl, _, _, rfl, rfl, h⟩

set_option maxRecDepth 100000 in
set_option maxHeartbeats 4000000 in
theorem g_X7_bringNearer {ε : Nat → Int32} {d B cnt : Nat} {kp : pm_KP} {ρ : pm_S} {I : Nat → Int32} {A : Nat → Nat → Int32} {za zb : Int32} (hdd : 1 ≤ d) (h : gq ε I) : pm_met mX7_bringNearer d 0 0 B [.ref (B + 1), .int za, .int zb] cnt (pm_two (cl_L B kp I A) ρ) (pm_Qv (fun σ' cnt' => hvq ε B kp ρ cnt σ' cnt')) := by
  refine pm_enter 2 (by decide) (Nat.le_of_ble_eq_true rfl) rfl (fun G hG hR hF => ?_)
  refine pm_iloadn hG dX7_bringNearer_0 rfl ?_
  refine pm_iconst (v := (-1)) hG dX7_bringNearer_1 (by decide) ?_
  refine pm_icmp_eq (tgt := 64) hG dX7_bringNearer_2 rfl (fun c1 => ?_) (fun c1 => ?_)
  · exact pm_vret hG hF dX7_bringNearer_64 rfl (Nat.le_refl _) (Nat.le_refl _) ⟨rfl, _, _, rfl, rfl, h⟩
  · refine pm_aloadn hG dX7_bringNearer_5 rfl ?_
    refine pm_getf hG dX7_bringNearer_6 (flX7_23 _ rfl) rfl rfl ?_
    refine pm_iloadn hG dX7_bringNearer_9 rfl ?_
    refine pm_bipush (v := 11) hG dX7_bringNearer_10 (by decide) ?_
    refine pm_callV (As := [.int za, .int 11]) (rest := []) hG hR dX7_bringNearer_12 (lkX7_83 _ rfl) okV_X9_get rfl rfl (tb_get (d := 0) rfl rfl (pm_tw_of 20 14 (by decide) (by decide) (by decide))) rfl rfl hdd (Nat.le_refl _) (Nat.le_refl _) (by decide) (pm_ki (fun v2 σ' cnt' hq => ?_))
    obtain ⟨I2, A2, rfl, rfl, h2⟩ := hv_id (kp := kp) (I := I) (A := A) h hq.2
    refine pm_istoreXn (loc' := [some (.ref (B + 1)), some (.int za), some (.int zb), some (.int v2), none]) hG dX7_bringNearer_15 (by decide) (pm_c1b rfl) rfl ?_
    refine pm_aloadn hG dX7_bringNearer_16 rfl ?_
    refine pm_getf hG dX7_bringNearer_17 (flX7_23 _ rfl) rfl rfl ?_
    refine pm_iloadn hG dX7_bringNearer_20 rfl ?_
    refine pm_bipush (v := 11) hG dX7_bringNearer_21 (by decide) ?_
    refine pm_callV (As := [.int zb, .int 11]) (rest := []) hG hR dX7_bringNearer_23 (lkX7_83 _ rfl) okV_X9_get rfl rfl (tb_get (d := 0) rfl rfl (pm_tw_of 20 14 (by decide) (by decide) (by decide))) rfl rfl hdd (Nat.le_refl _) (Nat.le_refl _) (by decide) (pm_ki (fun v3 σ' cnt' hq => ?_))
    obtain ⟨I3, A3, rfl, rfl, h3⟩ := hv_id (kp := kp) (I := I2) (A := A2) h2 hq.2
    refine pm_istoreXi (loc' := [some (.ref (B + 1)), some (.int za), some (.int zb), some (.int v2), some (.int v3)]) hG dX7_bringNearer_26 (by decide) (pm_c1b rfl) rfl ?_
    refine pm_aloadn hG dX7_bringNearer_28 rfl ?_
    refine pm_getf hG dX7_bringNearer_29 (flX7_23 _ rfl) rfl rfl ?_
    refine pm_iloadn hG dX7_bringNearer_32 rfl ?_
    refine pm_bipush (v := 11) hG dX7_bringNearer_33 (by decide) ?_
    refine pm_iloadn hG dX7_bringNearer_35 rfl ?_
    refine pm_iloadi hG dX7_bringNearer_36 rfl ?_
    refine pm_iconst (v := 1) hG dX7_bringNearer_38 (by decide) ?_
    refine pm_iadd hG dX7_bringNearer_39 ?_
    refine pm_mmin hG hR dX7_bringNearer_40 (mmX7_87 _ rfl) pm_mwmin (by omega) (by first | decide | exact Nat.le_of_ble_eq_true rfl) (Nat.le_refl _) (Nat.le_refl _) ?_
    refine pm_callV (As := [.int za, .int 11, .int (if (v3 + 1) < v2 then v3 + 1 else v2)]) (rest := []) hG hR dX7_bringNearer_43 (lkX7_61 _ rfl) okV_X9_set rfl rfl (tb_set (d := 0) (rows := nI 20) (width := nI 14) (f := cmx kp.2 (A3 7)) rfl rfl (pm_tw_of 20 14 (by decide) (by decide) (by decide)) (by decide)) rfl rfl hdd (Nat.le_refl _) (Nat.le_refl _) (by decide) (pm_kv (fun σ' cnt' hq => ?_))
    obtain ⟨I4, A4, rfl, rfl, h4⟩ := hv_s7 (kp := kp) (I := I3) (A := A3) (ts7 11 (by decide) (by decide)) h3 hq
    refine pm_aloadn hG dX7_bringNearer_46 rfl ?_
    refine pm_getf hG dX7_bringNearer_47 (flX7_23 _ rfl) rfl rfl ?_
    refine pm_iloadn hG dX7_bringNearer_50 rfl ?_
    refine pm_bipush (v := 11) hG dX7_bringNearer_51 (by decide) ?_
    refine pm_iloadi hG dX7_bringNearer_53 rfl ?_
    refine pm_iloadn hG dX7_bringNearer_55 rfl ?_
    refine pm_iconst (v := 1) hG dX7_bringNearer_56 (by decide) ?_
    refine pm_iadd hG dX7_bringNearer_57 ?_
    refine pm_mmin hG hR dX7_bringNearer_58 (mmX7_87 _ rfl) pm_mwmin (by omega) (by first | decide | exact Nat.le_of_ble_eq_true rfl) (Nat.le_refl _) (Nat.le_refl _) ?_
    refine pm_callV (As := [.int zb, .int 11, .int (if (v2 + 1) < v3 then v2 + 1 else v3)]) (rest := []) hG hR dX7_bringNearer_61 (lkX7_61 _ rfl) okV_X9_set rfl rfl (tb_set (d := 0) (rows := nI 20) (width := nI 14) (f := cmx kp.2 (A4 7)) rfl rfl (pm_tw_of 20 14 (by decide) (by decide) (by decide)) (by decide)) rfl rfl hdd (Nat.le_refl _) (Nat.le_refl _) (by decide) (pm_kv (fun σ' cnt' hq => ?_))
    obtain ⟨I5, A5, rfl, rfl, h5⟩ := hv_s7 (kp := kp) (I := I4) (A := A4) (ts7 11 (by decide) (by decide)) h4 hq
    exact pm_vret hG hF dX7_bringNearer_64 rfl (Nat.le_refl _) (Nat.le_refl _) ⟨rfl, _, _, rfl, rfl, h5⟩

set_option maxRecDepth 100000 in
set_option maxHeartbeats 4000000 in
theorem g_X7_bringTravellers {ε : Nat → Int32} {d B cnt : Nat} {kp : pm_KP} {ρ : pm_S} {I : Nat → Int32} {A : Nat → Nat → Int32} (hdd : 1 ≤ d) (h : gq ε I) : pm_met mX7_bringTravellers d 0 0 B [.ref (B + 1)] cnt (pm_two (cl_L B kp I A) ρ) (pm_Qv (fun σ' cnt' => hvq ε B kp ρ cnt σ' cnt')) := by
  refine pm_enter 2 (by decide) (Nat.le_of_ble_eq_true rfl) rfl (fun G hG hR hF => ?_)
  refine pm_aloadn hG dX7_bringTravellers_0 rfl ?_
  refine pm_getf hG dX7_bringTravellers_1 (flX7_23 _ rfl) rfl rfl ?_
  refine pm_callV (As := []) (rest := []) hG hR dX7_bringTravellers_4 (lkX7_79 _ rfl) okV_X9_used rfl rfl (tb_used (d := 0) rfl) rfl rfl hdd (Nat.le_refl _) (Nat.le_refl _) (by decide) (pm_ki (fun v1 σ' cnt' hq => ?_))
  obtain ⟨I1, A1, rfl, rfl, h1⟩ := hv_id (kp := kp) (I := I) (A := A) h hq.2
  refine pm_istoreXn (loc' := [some (.ref (B + 1)), some (.int v1), none]) hG dX7_bringTravellers_7 (by decide) (pm_c1b rfl) rfl ?_
  refine pm_iconst (v := 0) hG dX7_bringTravellers_8 (by decide) ?_
  refine pm_istoreXn (loc' := [some (.ref (B + 1)), some (.int v1), some (.int 0)]) hG dX7_bringTravellers_9 (by decide) (pm_c1b rfl) rfl ?_
  have loop10 : ∀ (m10 : Nat) (I2 : Nat → Int32) (A2 : Nat → Nat → Int32) (x2_2 : Int32), gq ε I2 → (¬ x2_2 < 0) → ((v1 : Int32).toInt - x2_2.toInt).toNat < m10 → pm_wp mX7_bringTravellers G B 10 [some (.ref (B + 1)), some (.int v1), some (.int x2_2)] [] 0 0 cnt (pm_two (cl_L B kp I2 A2) ρ) := by
    intro m10
    induction m10 with
    | zero => intro I2 A2 x2_2 _  _ hm; exact absurd hm (Nat.not_lt_zero _)
    | succ m10 ih10 =>
      intro I2 A2 x2_2 h2 s10 hm10
      refine pm_iloadn hG dX7_bringTravellers_10 rfl ?_
      refine pm_iloadn hG dX7_bringTravellers_11 rfl ?_
      refine pm_icmp_ge (tgt := 68) hG dX7_bringTravellers_12 rfl (fun c3 => ?_) (fun c3 => ?_)
      · exact pm_vret hG hF dX7_bringTravellers_68 rfl (Nat.le_refl _) (Nat.le_refl _) ⟨rfl, _, _, rfl, rfl, h2⟩
      · refine pm_aloadn hG dX7_bringTravellers_15 rfl ?_
        refine pm_getf hG dX7_bringTravellers_16 (flX7_23 _ rfl) rfl rfl ?_
        refine pm_iloadn hG dX7_bringTravellers_19 rfl ?_
        refine pm_iconst (v := 4) hG dX7_bringTravellers_20 (by decide) ?_
        refine pm_callV (As := [.int x2_2, .int 4]) (rest := []) hG hR dX7_bringTravellers_21 (lkX7_83 _ rfl) okV_X9_get rfl rfl (tb_get (d := 0) rfl rfl (pm_tw_of 20 14 (by decide) (by decide) (by decide))) rfl rfl hdd (Nat.le_refl _) (Nat.le_refl _) (by decide) (pm_ki (fun v4 σ' cnt' hq => ?_))
        obtain ⟨I4, A4, rfl, rfl, h4⟩ := hv_id (kp := kp) (I := I2) (A := A2) h2 hq.2
        refine pm_if_ge (tgt := 62) hG dX7_bringTravellers_24 rfl (fun c5 => ?_) (fun c5 => ?_)
        · refine pm_iincX (v := x2_2 + 1) (loc' := [some (.ref (B + 1)), some (.int v1), some (.int (x2_2 + 1))]) hG dX7_bringTravellers_62 rfl (by rfl) (by decide) (pm_c1b rfl) rfl ?_
          refine pm_goto (tgt := 10) hG dX7_bringTravellers_65 rfl ?_
          exact ih10 _ _ (x2_2 + 1) h4 (pm_sd1 c3 s10) (Nat.lt_of_lt_of_le (pm_mu1 c3) (Nat.le_of_lt_succ hm10))
        · refine pm_aloadn hG dX7_bringTravellers_27 rfl ?_
          refine pm_getf hG dX7_bringTravellers_28 (flX7_23 _ rfl) rfl rfl ?_
          refine pm_iloadn hG dX7_bringTravellers_31 rfl ?_
          refine pm_bipush (v := 6) hG dX7_bringTravellers_32 (by decide) ?_
          refine pm_callV (As := [.int x2_2, .int 6]) (rest := []) hG hR dX7_bringTravellers_34 (lkX7_83 _ rfl) okV_X9_get rfl rfl (tb_get (d := 0) rfl rfl (pm_tw_of 20 14 (by decide) (by decide) (by decide))) rfl rfl hdd (Nat.le_refl _) (Nat.le_refl _) (by decide) (pm_ki (fun v6 σ' cnt' hq => ?_))
          obtain ⟨I6, A6, rfl, rfl, h6⟩ := hv_id (kp := kp) (I := I4) (A := A4) h4 hq.2
          refine pm_aloadn hG dX7_bringTravellers_37 rfl ?_
          refine pm_getf hG dX7_bringTravellers_38 (flX7_72 _ rfl) rfl rfl ?_
          refine pm_icmp_gt (tgt := 62) hG dX7_bringTravellers_41 rfl (fun c7 => ?_) (fun c7 => ?_)
          · refine pm_iincX (v := x2_2 + 1) (loc' := [some (.ref (B + 1)), some (.int v1), some (.int (x2_2 + 1))]) hG dX7_bringTravellers_62 rfl (by rfl) (by decide) (pm_c1b rfl) rfl ?_
            refine pm_goto (tgt := 10) hG dX7_bringTravellers_65 rfl ?_
            exact ih10 _ _ (x2_2 + 1) h6 (pm_sd1 c3 s10) (Nat.lt_of_lt_of_le (pm_mu1 c3) (Nat.le_of_lt_succ hm10))
          · refine pm_aloadn hG dX7_bringTravellers_44 rfl ?_
            refine pm_getf hG dX7_bringTravellers_45 (flX7_23 _ rfl) rfl rfl ?_
            refine pm_iloadn hG dX7_bringTravellers_48 rfl ?_
            refine pm_iconst (v := 4) hG dX7_bringTravellers_49 (by decide) ?_
            refine pm_aloadn hG dX7_bringTravellers_50 rfl ?_
            refine pm_getf hG dX7_bringTravellers_51 (flX7_23 _ rfl) rfl rfl ?_
            refine pm_iloadn hG dX7_bringTravellers_54 rfl ?_
            refine pm_iconst (v := 5) hG dX7_bringTravellers_55 (by decide) ?_
            refine pm_callV (As := [.int x2_2, .int 5]) (rest := [.int 4, .int x2_2, .ref (B + 6)]) hG hR dX7_bringTravellers_56 (lkX7_83 _ rfl) okV_X9_get rfl rfl (tb_get (d := 0) rfl rfl (pm_tw_of 20 14 (by decide) (by decide) (by decide))) rfl rfl hdd (Nat.le_refl _) (Nat.le_refl _) (by first | decide | exact Nat.le_of_ble_eq_true rfl) (pm_ki (fun v8 σ' cnt' hq => ?_))
            obtain ⟨I8, A8, rfl, rfl, h8⟩ := hv_id (kp := kp) (I := I6) (A := A6) h6 hq.2
            refine pm_callV (As := [.int x2_2, .int 4, .int v8]) (rest := []) hG hR dX7_bringTravellers_59 (lkX7_61 _ rfl) okV_X9_set rfl rfl (tb_set (d := 0) (rows := nI 20) (width := nI 14) (f := cmx kp.2 (A8 7)) rfl rfl (pm_tw_of 20 14 (by decide) (by decide) (by decide)) (by decide)) rfl rfl hdd (Nat.le_refl _) (Nat.le_refl _) (by decide) (pm_kv (fun σ' cnt' hq => ?_))
            obtain ⟨I9, A9, rfl, rfl, h9⟩ := hv_s7 (kp := kp) (I := I8) (A := A8) (ts7 4 (by decide) (by decide)) h8 hq
            refine pm_iincX (v := x2_2 + 1) (loc' := [some (.ref (B + 1)), some (.int v1), some (.int (x2_2 + 1))]) hG dX7_bringTravellers_62 rfl (by rfl) (by decide) (pm_c1b rfl) rfl ?_
            refine pm_goto (tgt := 10) hG dX7_bringTravellers_65 rfl ?_
            exact ih10 _ _ (x2_2 + 1) h9 (pm_sd1 c3 s10) (Nat.lt_of_lt_of_le (pm_mu1 c3) (Nat.le_of_lt_succ hm10))
  exact loop10 _ _ _ 0 h1 (by decide) (Nat.lt_succ_self _)

set_option maxRecDepth 100000 in
set_option maxHeartbeats 4000000 in
theorem g_X7_collectRents {ε : Nat → Int32} {d B cnt : Nat} {kp : pm_KP} {ρ : pm_S} {I : Nat → Int32} {A : Nat → Nat → Int32} (hdd : 2 ≤ d) (h : gq ε I) : pm_met mX7_collectRents d 0 0 B [.ref (B + 1)] cnt (pm_two (cl_L B kp I A) ρ) (pm_Qv (fun σ' cnt' => hvq ε B kp ρ cnt σ' cnt')) := by
  refine pm_enter 4 (by decide) (Nat.le_of_ble_eq_true rfl) rfl (fun G hG hR hF => ?_)
  refine pm_aloadn hG dX7_collectRents_0 rfl ?_
  refine pm_getf hG dX7_collectRents_1 (flX7_14 _ rfl) rfl rfl ?_
  refine pm_callV (As := []) (rest := []) hG hR dX7_collectRents_4 (lkX7_79 _ rfl) okV_X9_used rfl rfl (tb_used (d := 1) rfl) rfl rfl hdd (Nat.le_refl _) (Nat.le_refl _) (by decide) (pm_ki (fun v1 σ' cnt' hq => ?_))
  obtain ⟨I1, A1, rfl, rfl, h1⟩ := hv_id (kp := kp) (I := I) (A := A) h hq.2
  refine pm_istoreXn (loc' := [some (.ref (B + 1)), some (.int v1), none, none, none]) hG dX7_collectRents_7 (by decide) (pm_c1b rfl) rfl ?_
  refine pm_iconst (v := 0) hG dX7_collectRents_8 (by decide) ?_
  refine pm_istoreXn (loc' := [some (.ref (B + 1)), some (.int v1), some (.int 0), none, none]) hG dX7_collectRents_9 (by decide) (pm_c1b rfl) rfl ?_
  have loop10 : ∀ (m10 : Nat) (I2 : Nat → Int32) (A2 : Nat → Nat → Int32) (x2_2 : Int32), gq ε I2 → (¬ x2_2 < 0) → ((v1 : Int32).toInt - x2_2.toInt).toNat < m10 → pm_wp mX7_collectRents G B 10 [some (.ref (B + 1)), some (.int v1), some (.int x2_2), none, none] [] 0 0 cnt (pm_two (cl_L B kp I2 A2) ρ) := by
    intro m10
    induction m10 with
    | zero => intro I2 A2 x2_2 _  _ hm; exact absurd hm (Nat.not_lt_zero _)
    | succ m10 ih10 =>
      intro I2 A2 x2_2 h2 s10 hm10
      refine pm_iloadn hG dX7_collectRents_10 rfl ?_
      refine pm_iloadn hG dX7_collectRents_11 rfl ?_
      refine pm_icmp_ge (tgt := 91) hG dX7_collectRents_12 rfl (fun c3 => ?_) (fun c3 => ?_)
      · exact pm_vret hG hF dX7_collectRents_91 rfl (Nat.le_refl _) (Nat.le_refl _) ⟨rfl, _, _, rfl, rfl, h2⟩
      · refine pm_aloadn hG dX7_collectRents_15 rfl ?_
        refine pm_getf hG dX7_collectRents_16 (flX7_14 _ rfl) rfl rfl ?_
        refine pm_iloadn hG dX7_collectRents_19 rfl ?_
        refine pm_iconst (v := 0) hG dX7_collectRents_20 (by decide) ?_
        refine pm_callV (As := [.int x2_2, .int 0]) (rest := []) hG hR dX7_collectRents_21 (lkX7_83 _ rfl) okV_X9_get rfl rfl (tb_get (d := 1) rfl rfl (pm_tw_of 10 3 (by decide) (by decide) (by decide))) rfl rfl hdd (Nat.le_refl _) (Nat.le_refl _) (by decide) (pm_ki (fun v4 σ' cnt' hq => ?_))
        obtain ⟨I4, A4, rfl, rfl, h4⟩ := hv_id (kp := kp) (I := I2) (A := A2) h2 hq.2
        refine pm_istoreXn (loc' := [some (.ref (B + 1)), some (.int v1), some (.int x2_2), some (.int v4), none]) hG dX7_collectRents_24 (by decide) (pm_c1b rfl) rfl ?_
        refine pm_aloadn hG dX7_collectRents_25 rfl ?_
        refine pm_getf hG dX7_collectRents_26 (flX7_14 _ rfl) rfl rfl ?_
        refine pm_iloadn hG dX7_collectRents_29 rfl ?_
        refine pm_iconst (v := 1) hG dX7_collectRents_30 (by decide) ?_
        refine pm_callV (As := [.int x2_2, .int 1]) (rest := []) hG hR dX7_collectRents_31 (lkX7_83 _ rfl) okV_X9_get rfl rfl (tb_get (d := 1) rfl rfl (pm_tw_of 10 3 (by decide) (by decide) (by decide))) rfl rfl hdd (Nat.le_refl _) (Nat.le_refl _) (by decide) (pm_ki (fun v5 σ' cnt' hq => ?_))
        obtain ⟨I5, A5, rfl, rfl, h5⟩ := hv_id (kp := kp) (I := I4) (A := A4) h4 hq.2
        refine pm_istoreXi (loc' := [some (.ref (B + 1)), some (.int v1), some (.int x2_2), some (.int v4), some (.int v5)]) hG dX7_collectRents_34 (by decide) (pm_c1b rfl) rfl ?_
        refine pm_aloadn hG dX7_collectRents_36 rfl ?_
        refine pm_getf hG dX7_collectRents_37 (flX7_14 _ rfl) rfl rfl ?_
        refine pm_iloadn hG dX7_collectRents_40 rfl ?_
        refine pm_iconst (v := 2) hG dX7_collectRents_41 (by decide) ?_
        refine pm_callV (As := [.int x2_2, .int 2]) (rest := []) hG hR dX7_collectRents_42 (lkX7_83 _ rfl) okV_X9_get rfl rfl (tb_get (d := 1) rfl rfl (pm_tw_of 10 3 (by decide) (by decide) (by decide))) rfl rfl hdd (Nat.le_refl _) (Nat.le_refl _) (by decide) (pm_ki (fun v6 σ' cnt' hq => ?_))
        obtain ⟨I6, A6, rfl, rfl, h6⟩ := hv_id (kp := kp) (I := I5) (A := A5) h5 hq.2
        refine pm_if_eq (tgt := 51) hG dX7_collectRents_45 rfl (fun c7 => ?_) (fun c7 => ?_)
        · refine pm_aloadn hG dX7_collectRents_51 rfl ?_
          refine pm_iloadi hG dX7_collectRents_52 rfl ?_
          refine pm_callV (As := [.int v5]) (rest := []) hG hR dX7_collectRents_54 (lkX7_103 _ rfl) okV_X7_isLiving rfl rfl (g_X7_isLiving (d := 1) (by decide) h6) rfl rfl hdd (Nat.le_refl _) (Nat.le_refl _) (by decide) (pm_ki (fun v8 σ' cnt' hq => ?_))
          obtain ⟨b8, I8, A8, rfl, rfl, h8⟩ := hq
          refine pm_if_eq (tgt := 75) hG dX7_collectRents_57 rfl (fun c9 => ?_) (fun c9 => ?_)
          · refine pm_aloadn hG dX7_collectRents_75 rfl ?_
            refine pm_dup hG dX7_collectRents_76 rfl ?_
            refine pm_getf hG dX7_collectRents_77 (flX7_53 _ rfl) rfl rfl ?_
            refine pm_iloadn hG dX7_collectRents_80 rfl ?_
            refine pm_iadd hG dX7_collectRents_81 ?_
            refine pm_putf hG dX7_collectRents_82 (fwX7_53 _ rfl) rfl rfl rfl ?_
            refine pm_nrm (L' := cl_L B kp (ui I8 103 ((I8 103) + v4)) A8) (by decide) (Nat.le_of_ble_eq_true rfl) rfl ?_
            refine pm_iincX (v := x2_2 + 1) (loc' := [some (.ref (B + 1)), some (.int v1), some (.int (x2_2 + 1)), some (.int v4), some (.int v5)]) hG dX7_collectRents_85 rfl (by rfl) (by decide) (pm_c1b rfl) rfl ?_
            refine pm_goto (tgt := 10) hG dX7_collectRents_88 rfl ?_
            refine pm_fg 3 (loc' := [some (.ref (B + 1)), some (.int v1), some (.int (x2_2 + 1)), none, some (.int v5)]) rfl ?_
            refine pm_fg 4 (loc' := [some (.ref (B + 1)), some (.int v1), some (.int (x2_2 + 1)), none, none]) rfl ?_
            exact ih10 _ _ (x2_2 + 1) (gq.wi (k := 103) rfl h8) (pm_sd1 c3 s10) (Nat.lt_of_lt_of_le (pm_mu1 c3) (Nat.le_of_lt_succ hm10))
          · refine pm_aloadn hG dX7_collectRents_60 rfl ?_
            refine pm_getf hG dX7_collectRents_61 (flX7_23 _ rfl) rfl rfl ?_
            refine pm_iloadi hG dX7_collectRents_64 rfl ?_
            refine pm_bipush (v := 7) hG dX7_collectRents_66 (by decide) ?_
            refine pm_iloadn hG dX7_collectRents_68 rfl ?_
            refine pm_callV (As := [.int v5, .int 7, .int v4]) (rest := []) hG hR dX7_collectRents_69 (lkX7_125 _ rfl) okV_X9_add rfl rfl (tb_add (d := 1) (rows := nI 20) (width := nI 14) (f := cmx kp.2 (A8 7)) (by decide) rfl rfl (pm_tw_of 20 14 (by decide) (by decide) (by decide)) (by decide)) rfl rfl hdd (Nat.le_refl _) (Nat.le_refl _) (by decide) (pm_kv (fun σ' cnt' hq => ?_))
            obtain ⟨I11, A11, rfl, rfl, h11⟩ := hv_s7 (kp := kp) (I := I8) (A := A8) (ts7 7 (by decide) (by decide)) h8 hq
            refine pm_goto (tgt := 85) hG dX7_collectRents_72 rfl ?_
            refine pm_iincX (v := x2_2 + 1) (loc' := [some (.ref (B + 1)), some (.int v1), some (.int (x2_2 + 1)), some (.int v4), some (.int v5)]) hG dX7_collectRents_85 rfl (by rfl) (by decide) (pm_c1b rfl) rfl ?_
            refine pm_goto (tgt := 10) hG dX7_collectRents_88 rfl ?_
            refine pm_fg 3 (loc' := [some (.ref (B + 1)), some (.int v1), some (.int (x2_2 + 1)), none, some (.int v5)]) rfl ?_
            refine pm_fg 4 (loc' := [some (.ref (B + 1)), some (.int v1), some (.int (x2_2 + 1)), none, none]) rfl ?_
            exact ih10 _ _ (x2_2 + 1) h11 (pm_sd1 c3 s10) (Nat.lt_of_lt_of_le (pm_mu1 c3) (Nat.le_of_lt_succ hm10))
        · refine pm_goto (tgt := 85) hG dX7_collectRents_48 rfl ?_
          refine pm_iincX (v := x2_2 + 1) (loc' := [some (.ref (B + 1)), some (.int v1), some (.int (x2_2 + 1)), some (.int v4), some (.int v5)]) hG dX7_collectRents_85 rfl (by rfl) (by decide) (pm_c1b rfl) rfl ?_
          refine pm_goto (tgt := 10) hG dX7_collectRents_88 rfl ?_
          refine pm_fg 3 (loc' := [some (.ref (B + 1)), some (.int v1), some (.int (x2_2 + 1)), none, some (.int v5)]) rfl ?_
          refine pm_fg 4 (loc' := [some (.ref (B + 1)), some (.int v1), some (.int (x2_2 + 1)), none, none]) rfl ?_
          exact ih10 _ _ (x2_2 + 1) h6 (pm_sd1 c3 s10) (Nat.lt_of_lt_of_le (pm_mu1 c3) (Nat.le_of_lt_succ hm10))
  exact loop10 _ _ _ 0 h1 (by decide) (Nat.lt_succ_self _)

set_option maxRecDepth 100000 in
set_option maxHeartbeats 4000000 in
theorem g_X7_findSteps {ε : Nat → Int32} {d B cnt : Nat} {kp : pm_KP} {ρ : pm_S} {I : Nat → Int32} {A : Nat → Nat → Int32} (hdd : 2 ≤ d) (h : gq ε I) : pm_met mX7_findSteps d 0 0 B [.ref (B + 1)] cnt (pm_two (cl_L B kp I A) ρ) (pm_Qv (fun σ' cnt' => hvq ε B kp ρ cnt σ' cnt')) := by
  refine pm_enter 3 (by decide) (Nat.le_of_ble_eq_true rfl) rfl (fun G hG hR hF => ?_)
  refine pm_aloadn hG dX7_findSteps_0 rfl ?_
  refine pm_getf hG dX7_findSteps_1 (flX7_23 _ rfl) rfl rfl ?_
  refine pm_callV (As := []) (rest := []) hG hR dX7_findSteps_4 (lkX7_79 _ rfl) okV_X9_used rfl rfl (tb_used (d := 1) rfl) rfl rfl hdd (Nat.le_refl _) (Nat.le_refl _) (by decide) (pm_ki (fun v1 σ' cnt' hq => ?_))
  obtain ⟨I1, A1, rfl, rfl, h1⟩ := hv_id (kp := kp) (I := I) (A := A) h hq.2
  refine pm_istoreXn (loc' := [some (.ref (B + 1)), some (.int v1), none, none]) hG dX7_findSteps_7 (by decide) (pm_c1b rfl) rfl ?_
  refine pm_iconst (v := 0) hG dX7_findSteps_8 (by decide) ?_
  refine pm_istoreXn (loc' := [some (.ref (B + 1)), some (.int v1), some (.int 0), none]) hG dX7_findSteps_9 (by decide) (pm_c1b rfl) rfl ?_
  have loop10 : ∀ (m10 : Nat) (I2 : Nat → Int32) (A2 : Nat → Nat → Int32) (x2_2 : Int32), gq ε I2 → (¬ x2_2 < 0) → ((v1 : Int32).toInt - x2_2.toInt).toNat < m10 → pm_wp mX7_findSteps G B 10 [some (.ref (B + 1)), some (.int v1), some (.int x2_2), none] [] 0 0 cnt (pm_two (cl_L B kp I2 A2) ρ) := by
    intro m10
    induction m10 with
    | zero => intro I2 A2 x2_2 _  _ hm; exact absurd hm (Nat.not_lt_zero _)
    | succ m10 ih10 =>
      intro I2 A2 x2_2 h2 s10 hm10
      refine pm_iloadn hG dX7_findSteps_10 rfl ?_
      refine pm_iloadn hG dX7_findSteps_11 rfl ?_
      refine pm_icmp_ge (tgt := 62) hG dX7_findSteps_12 rfl (fun c3 => ?_) (fun c3 => ?_)
      · exact pm_vret hG hF dX7_findSteps_62 rfl (Nat.le_refl _) (Nat.le_refl _) ⟨rfl, _, _, rfl, rfl, h2⟩
      · refine pm_iconst (v := 0) hG dX7_findSteps_15 (by decide) ?_
        refine pm_istoreXn (loc' := [some (.ref (B + 1)), some (.int v1), some (.int x2_2), some (.int 0)]) hG dX7_findSteps_16 (by decide) (pm_c1b rfl) rfl ?_
        have loop17 : ∀ (m17 : Nat) (I4 : Nat → Int32) (A4 : Nat → Nat → Int32) (x4_3 : Int32), gq ε I4 → (¬ x4_3 < 0) → ((v1 : Int32).toInt - x4_3.toInt).toNat < m17 → pm_wp mX7_findSteps G B 17 [some (.ref (B + 1)), some (.int v1), some (.int x2_2), some (.int x4_3)] [] 0 0 cnt (pm_two (cl_L B kp I4 A4) ρ) := by
          intro m17
          induction m17 with
          | zero => intro I4 A4 x4_3 _  _ hm; exact absurd hm (Nat.not_lt_zero _)
          | succ m17 ih17 =>
            intro I4 A4 x4_3 h4 s17 hm17
            refine pm_iloadn hG dX7_findSteps_17 rfl ?_
            refine pm_iloadn hG dX7_findSteps_18 rfl ?_
            refine pm_icmp_ge (tgt := 56) hG dX7_findSteps_19 rfl (fun c5 => ?_) (fun c5 => ?_)
            · refine pm_iincX (v := x2_2 + 1) (loc' := [some (.ref (B + 1)), some (.int v1), some (.int (x2_2 + 1)), some (.int x4_3)]) hG dX7_findSteps_56 rfl (by rfl) (by decide) (pm_c1b rfl) rfl ?_
              refine pm_goto (tgt := 10) hG dX7_findSteps_59 rfl ?_
              refine pm_fg 3 (loc' := [some (.ref (B + 1)), some (.int v1), some (.int (x2_2 + 1)), none]) rfl ?_
              exact ih10 _ _ (x2_2 + 1) h4 (pm_sd1 c3 s10) (Nat.lt_of_lt_of_le (pm_mu1 c3) (Nat.le_of_lt_succ hm10))
            · refine pm_aloadn hG dX7_findSteps_22 rfl ?_
              refine pm_iloadn hG dX7_findSteps_23 rfl ?_
              refine pm_aloadn hG dX7_findSteps_24 rfl ?_
              refine pm_getf hG dX7_findSteps_25 (flX7_23 _ rfl) rfl rfl ?_
              refine pm_iloadn hG dX7_findSteps_28 rfl ?_
              refine pm_iconst (v := 2) hG dX7_findSteps_29 (by decide) ?_
              refine pm_callV (As := [.int x4_3, .int 2]) (rest := [.int x4_3, .ref (B + 1)]) hG hR dX7_findSteps_30 (lkX7_83 _ rfl) okV_X9_get rfl rfl (tb_get (d := 1) rfl rfl (pm_tw_of 20 14 (by decide) (by decide) (by decide))) rfl rfl hdd (Nat.le_refl _) (Nat.le_refl _) (by first | decide | exact Nat.le_of_ble_eq_true rfl) (pm_ki (fun v6 σ' cnt' hq => ?_))
              obtain ⟨I6, A6, rfl, rfl, h6⟩ := hv_id (kp := kp) (I := I4) (A := A4) h4 hq.2
              refine pm_callV (As := [.int x4_3, .int v6]) (rest := []) hG hR dX7_findSteps_33 (lkX7_100 _ rfl) okV_X7_bringNearer rfl rfl (g_X7_bringNearer (d := 1) (by decide) h6) rfl rfl hdd (Nat.le_refl _) (Nat.le_refl _) (by decide) (pm_kv (fun σ' cnt' hq => ?_))
              obtain ⟨I7, A7, rfl, rfl, h7⟩ := hq
              refine pm_aloadn hG dX7_findSteps_36 rfl ?_
              refine pm_iloadn hG dX7_findSteps_37 rfl ?_
              refine pm_aloadn hG dX7_findSteps_38 rfl ?_
              refine pm_getf hG dX7_findSteps_39 (flX7_23 _ rfl) rfl rfl ?_
              refine pm_iloadn hG dX7_findSteps_42 rfl ?_
              refine pm_iconst (v := 3) hG dX7_findSteps_43 (by decide) ?_
              refine pm_callV (As := [.int x4_3, .int 3]) (rest := [.int x4_3, .ref (B + 1)]) hG hR dX7_findSteps_44 (lkX7_83 _ rfl) okV_X9_get rfl rfl (tb_get (d := 1) rfl rfl (pm_tw_of 20 14 (by decide) (by decide) (by decide))) rfl rfl hdd (Nat.le_refl _) (Nat.le_refl _) (by first | decide | exact Nat.le_of_ble_eq_true rfl) (pm_ki (fun v8 σ' cnt' hq => ?_))
              obtain ⟨I8, A8, rfl, rfl, h8⟩ := hv_id (kp := kp) (I := I7) (A := A7) h7 hq.2
              refine pm_callV (As := [.int x4_3, .int v8]) (rest := []) hG hR dX7_findSteps_47 (lkX7_100 _ rfl) okV_X7_bringNearer rfl rfl (g_X7_bringNearer (d := 1) (by decide) h8) rfl rfl hdd (Nat.le_refl _) (Nat.le_refl _) (by decide) (pm_kv (fun σ' cnt' hq => ?_))
              obtain ⟨I9, A9, rfl, rfl, h9⟩ := hq
              refine pm_iincX (v := x4_3 + 1) (loc' := [some (.ref (B + 1)), some (.int v1), some (.int x2_2), some (.int (x4_3 + 1))]) hG dX7_findSteps_50 rfl (by rfl) (by decide) (pm_c1b rfl) rfl ?_
              refine pm_goto (tgt := 17) hG dX7_findSteps_53 rfl ?_
              exact ih17 _ _ (x4_3 + 1) h9 (pm_sd1 c5 s17) (Nat.lt_of_lt_of_le (pm_mu1 c5) (Nat.le_of_lt_succ hm17))
        exact loop17 _ _ _ 0 h2 (by decide) (Nat.lt_succ_self _)
  exact loop10 _ _ _ 0 h1 (by decide) (Nat.lt_succ_self _)
