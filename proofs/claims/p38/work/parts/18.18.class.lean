set_option maxRecDepth 100000 in
set_option maxHeartbeats 4000000 in
theorem g_X7_missOnce {ε : Nat → Int32} {d B cnt : Nat} {kp : pm_KP} {ρ : pm_S} {I : Nat → Int32} {A : Nat → Nat → Int32} {za : Int32} (hdd : 2 ≤ d) (h : gq ε I) : pm_met mX7_missOnce d 0 0 B [.ref (B + 1), .int za] cnt (pm_two (cl_L B kp I A) ρ) (pm_Qv (fun σ' cnt' => hvq ε B kp ρ cnt σ' cnt')) := by
  refine pm_enter 0 (by decide) (Nat.le_of_ble_eq_true rfl) rfl (fun G hG hR hF => ?_)
  refine pm_aloadn hG dX7_missOnce_0 rfl ?_
  refine pm_getf hG dX7_missOnce_1 (flX7_38 _ rfl) rfl rfl ?_
  refine pm_iloadn hG dX7_missOnce_4 rfl ?_
  refine pm_iconst (v := 4) hG dX7_missOnce_5 (by decide) ?_
  refine pm_iconst (v := 1) hG dX7_missOnce_6 (by decide) ?_
  refine pm_callV (As := [.int za, .int 4, .int 1]) (rest := []) hG hR dX7_missOnce_7 (lkX7_125 _ rfl) okV_X9_add rfl rfl (tb_add (d := 1) (by decide) rfl rfl (pm_tw_of 6 5 (by decide) (by decide) (by decide)) (by decide)) rfl rfl hdd (Nat.le_refl _) (Nat.le_refl _) (by decide) (pm_kv (fun σ' cnt' hq => ?_))
  obtain ⟨I1, A1, rfl, rfl, h1⟩ := hv_a17 (kp := kp) (I := I) (A := A) h hq
  refine pm_aloadn hG dX7_missOnce_10 rfl ?_
  refine pm_getf hG dX7_missOnce_11 (flX7_38 _ rfl) rfl rfl ?_
  refine pm_iloadn hG dX7_missOnce_14 rfl ?_
  refine pm_iconst (v := 4) hG dX7_missOnce_15 (by decide) ?_
  refine pm_callV (As := [.int za, .int 4]) (rest := []) hG hR dX7_missOnce_16 (lkX7_83 _ rfl) okV_X9_get rfl rfl (tb_get (d := 1) rfl rfl (pm_tw_of 6 5 (by decide) (by decide) (by decide))) rfl rfl hdd (Nat.le_refl _) (Nat.le_refl _) (by decide) (pm_ki (fun v2 σ' cnt' hq => ?_))
  obtain ⟨I2, A2, rfl, rfl, h2⟩ := hv_id (kp := kp) (I := I1) (A := A1) h1 hq.2
  refine pm_iconst (v := 2) hG dX7_missOnce_19 (by decide) ?_
  refine pm_icmp_lt (tgt := 41) hG dX7_missOnce_20 rfl (fun c3 => ?_) (fun c3 => ?_)
  · exact pm_vret hG hF dX7_missOnce_41 rfl (Nat.le_refl _) (Nat.le_refl _) ⟨rfl, _, _, rfl, rfl, h2⟩
  · refine pm_aloadn hG dX7_missOnce_23 rfl ?_
    refine pm_getf hG dX7_missOnce_24 (flX7_14 _ rfl) rfl rfl ?_
    refine pm_aloadn hG dX7_missOnce_27 rfl ?_
    refine pm_getf hG dX7_missOnce_28 (flX7_38 _ rfl) rfl rfl ?_
    refine pm_iloadn hG dX7_missOnce_31 rfl ?_
    refine pm_iconst (v := 3) hG dX7_missOnce_32 (by decide) ?_
    refine pm_callV (As := [.int za, .int 3]) (rest := [.ref (B + 2)]) hG hR dX7_missOnce_33 (lkX7_83 _ rfl) okV_X9_get rfl rfl (tb_get (d := 1) rfl rfl (pm_tw_of 6 5 (by decide) (by decide) (by decide))) rfl rfl hdd (Nat.le_refl _) (Nat.le_refl _) (by first | decide | exact Nat.le_of_ble_eq_true rfl) (pm_ki (fun v4 σ' cnt' hq => ?_))
    obtain ⟨I4, A4, rfl, rfl, h4⟩ := hv_id (kp := kp) (I := I2) (A := A2) h2 hq.2
    refine pm_iconst (v := 2) hG dX7_missOnce_36 (by decide) ?_
    refine pm_iconst (v := 1) hG dX7_missOnce_37 (by decide) ?_
    refine pm_callV (As := [.int v4, .int 2, .int 1]) (rest := []) hG hR dX7_missOnce_38 (lkX7_61 _ rfl) okV_X9_set rfl rfl (tb_set (d := 1) rfl rfl (pm_tw_of 10 3 (by decide) (by decide) (by decide)) (by decide)) rfl rfl hdd (Nat.le_refl _) (Nat.le_refl _) (by decide) (pm_kv (fun σ' cnt' hq => ?_))
    obtain ⟨I5, A5, rfl, rfl, h5⟩ := hv_a3 (kp := kp) (I := I4) (A := A4) h4 hq
    exact pm_vret hG hF dX7_missOnce_41 rfl (Nat.le_refl _) (Nat.le_refl _) ⟨rfl, _, _, rfl, rfl, h5⟩

set_option maxRecDepth 100000 in
set_option maxHeartbeats 4000000 in
theorem g_X7_payMen {ε : Nat → Int32} {d B cnt : Nat} {kp : pm_KP} {ρ : pm_S} {I : Nat → Int32} {A : Nat → Nat → Int32} (hdd : 2 ≤ d) (h : gq ε I) : pm_met mX7_payMen d 0 0 B [.ref (B + 1)] cnt (pm_two (cl_L B kp I A) ρ) (pm_Qv (fun σ' cnt' => hvq ε B kp ρ cnt σ' cnt')) := by
  refine pm_enter 3 (by decide) (Nat.le_of_ble_eq_true rfl) rfl (fun G hG hR hF => ?_)
  refine pm_aloadn hG dX7_payMen_0 rfl ?_
  refine pm_getf hG dX7_payMen_1 (flX7_23 _ rfl) rfl rfl ?_
  refine pm_callV (As := []) (rest := []) hG hR dX7_payMen_4 (lkX7_79 _ rfl) okV_X9_used rfl rfl (tb_used (d := 1) rfl) rfl rfl hdd (Nat.le_refl _) (Nat.le_refl _) (by decide) (pm_ki (fun v1 σ' cnt' hq => ?_))
  obtain ⟨I1, A1, rfl, rfl, h1⟩ := hv_id (kp := kp) (I := I) (A := A) h hq.2
  refine pm_istoreXn (loc' := [some (.ref (B + 1)), some (.int v1), none, none]) hG dX7_payMen_7 (by decide) (pm_c1b rfl) rfl ?_
  refine pm_iconst (v := 0) hG dX7_payMen_8 (by decide) ?_
  refine pm_istoreXn (loc' := [some (.ref (B + 1)), some (.int v1), some (.int 0), none]) hG dX7_payMen_9 (by decide) (pm_c1b rfl) rfl ?_
  have loop10 : ∀ (m10 : Nat) (I2 : Nat → Int32) (A2 : Nat → Nat → Int32) (x2_2 : Int32), gq ε I2 → (¬ x2_2 < 0) → ((v1 : Int32).toInt - x2_2.toInt).toNat < m10 → pm_wp mX7_payMen G B 10 [some (.ref (B + 1)), some (.int v1), some (.int x2_2), none] [] 0 0 cnt (pm_two (cl_L B kp I2 A2) ρ) := by
    intro m10
    induction m10 with
    | zero => intro I2 A2 x2_2 _  _ hm; exact absurd hm (Nat.not_lt_zero _)
    | succ m10 ih10 =>
      intro I2 A2 x2_2 h2 s10 hm10
      refine pm_iloadn hG dX7_payMen_10 rfl ?_
      refine pm_iloadn hG dX7_payMen_11 rfl ?_
      refine pm_icmp_ge (tgt := 68) hG dX7_payMen_12 rfl (fun c3 => ?_) (fun c3 => ?_)
      · exact pm_vret hG hF dX7_payMen_68 rfl (Nat.le_refl _) (Nat.le_refl _) ⟨rfl, _, _, rfl, rfl, h2⟩
      · refine pm_aloadn hG dX7_payMen_15 rfl ?_
        refine pm_getf hG dX7_payMen_16 (flX7_23 _ rfl) rfl rfl ?_
        refine pm_iloadn hG dX7_payMen_19 rfl ?_
        refine pm_bipush (v := 8) hG dX7_payMen_20 (by decide) ?_
        refine pm_callV (As := [.int x2_2, .int 8]) (rest := []) hG hR dX7_payMen_22 (lkX7_83 _ rfl) okV_X9_get rfl rfl (tb_get (d := 1) rfl rfl (pm_tw_of 20 14 (by decide) (by decide) (by decide))) rfl rfl hdd (Nat.le_refl _) (Nat.le_refl _) (by decide) (pm_ki (fun v4 σ' cnt' hq => ?_))
        obtain ⟨I4, A4, rfl, rfl, h4⟩ := hv_id (kp := kp) (I := I2) (A := A2) h2 hq.2
        refine pm_aloadn hG dX7_payMen_25 rfl ?_
        refine pm_getf hG dX7_payMen_26 (flX7_23 _ rfl) rfl rfl ?_
        refine pm_iloadn hG dX7_payMen_29 rfl ?_
        refine pm_bipush (v := 7) hG dX7_payMen_30 (by decide) ?_
        refine pm_callV (As := [.int x2_2, .int 7]) (rest := [.int v4]) hG hR dX7_payMen_32 (lkX7_83 _ rfl) okV_X9_get rfl rfl (tb_get (d := 1) rfl rfl (pm_tw_of 20 14 (by decide) (by decide) (by decide))) rfl rfl hdd (Nat.le_refl _) (Nat.le_refl _) (by first | decide | exact Nat.le_of_ble_eq_true rfl) (pm_ki (fun v5 σ' cnt' hq => ?_))
        obtain ⟨I5, A5, rfl, rfl, h5⟩ := hv_id (kp := kp) (I := I4) (A := A4) h4 hq.2
        refine pm_mmin hG hR dX7_payMen_35 (mmX7_87 _ rfl) pm_mwmin (by omega) (by first | decide | exact Nat.le_of_ble_eq_true rfl) (Nat.le_refl _) (Nat.le_refl _) ?_
        refine pm_istoreXn (loc' := [some (.ref (B + 1)), some (.int v1), some (.int x2_2), some (.int (if v5 < v4 then v5 else v4))]) hG dX7_payMen_38 (by decide) (pm_c1b rfl) rfl ?_
        refine pm_aloadn hG dX7_payMen_39 rfl ?_
        refine pm_getf hG dX7_payMen_40 (flX7_23 _ rfl) rfl rfl ?_
        refine pm_iloadn hG dX7_payMen_43 rfl ?_
        refine pm_bipush (v := 7) hG dX7_payMen_44 (by decide) ?_
        refine pm_iloadn hG dX7_payMen_46 rfl ?_
        refine pm_ineg hG dX7_payMen_47 ?_
        refine pm_callV (As := [.int x2_2, .int 7, .int (-(if v5 < v4 then v5 else v4))]) (rest := []) hG hR dX7_payMen_48 (lkX7_125 _ rfl) okV_X9_add rfl rfl (tb_add (d := 1) (rows := nI 20) (width := nI 14) (f := cmx kp.2 (A5 7)) (by decide) rfl rfl (pm_tw_of 20 14 (by decide) (by decide) (by decide)) (by decide)) rfl rfl hdd (Nat.le_refl _) (Nat.le_refl _) (by decide) (pm_kv (fun σ' cnt' hq => ?_))
        obtain ⟨I6, A6, rfl, rfl, h6⟩ := hv_s7 (kp := kp) (I := I5) (A := A5) (ts7 7 (by decide) (by decide)) h5 hq
        refine pm_aloadn hG dX7_payMen_51 rfl ?_
        refine pm_getf hG dX7_payMen_52 (flX7_23 _ rfl) rfl rfl ?_
        refine pm_iloadn hG dX7_payMen_55 rfl ?_
        refine pm_bipush (v := 8) hG dX7_payMen_56 (by decide) ?_
        refine pm_iloadn hG dX7_payMen_58 rfl ?_
        refine pm_callV (As := [.int x2_2, .int 8, .int (if v5 < v4 then v5 else v4)]) (rest := []) hG hR dX7_payMen_59 (lkX7_61 _ rfl) okV_X9_set rfl rfl (tb_set (d := 1) (rows := nI 20) (width := nI 14) (f := cmx kp.2 (A6 7)) rfl rfl (pm_tw_of 20 14 (by decide) (by decide) (by decide)) (by decide)) rfl rfl hdd (Nat.le_refl _) (Nat.le_refl _) (by decide) (pm_kv (fun σ' cnt' hq => ?_))
        obtain ⟨I7, A7, rfl, rfl, h7⟩ := hv_s7 (kp := kp) (I := I6) (A := A6) (ts7 8 (by decide) (by decide)) h6 hq
        refine pm_iincX (v := x2_2 + 1) (loc' := [some (.ref (B + 1)), some (.int v1), some (.int (x2_2 + 1)), some (.int (if v5 < v4 then v5 else v4))]) hG dX7_payMen_62 rfl (by rfl) (by decide) (pm_c1b rfl) rfl ?_
        refine pm_goto (tgt := 10) hG dX7_payMen_65 rfl ?_
        refine pm_fg 3 (loc' := [some (.ref (B + 1)), some (.int v1), some (.int (x2_2 + 1)), none]) rfl ?_
        exact ih10 _ _ (x2_2 + 1) h7 (pm_sd1 c3 s10) (Nat.lt_of_lt_of_le (pm_mu1 c3) (Nat.le_of_lt_succ hm10))
  exact loop10 _ _ _ 0 h1 (by decide) (Nat.lt_succ_self _)

set_option maxRecDepth 100000 in
set_option maxHeartbeats 4000000 in
theorem g_X7_serveDebts {ε : Nat → Int32} {d B cnt : Nat} {kp : pm_KP} {ρ : pm_S} {I : Nat → Int32} {A : Nat → Nat → Int32} (hdd : 3 ≤ d) (h : gq ε I) : pm_met mX7_serveDebts d 0 0 B [.ref (B + 1)] cnt (pm_two (cl_L B kp I A) ρ) (pm_Qv (fun σ' cnt' => hvq ε B kp ρ cnt σ' cnt')) := by
  refine pm_enter 5 (by decide) (Nat.le_of_ble_eq_true rfl) rfl (fun G hG hR hF => ?_)
  refine pm_aloadn hG dX7_serveDebts_0 rfl ?_
  refine pm_getf hG dX7_serveDebts_1 (flX7_38 _ rfl) rfl rfl ?_
  refine pm_callV (As := []) (rest := []) hG hR dX7_serveDebts_4 (lkX7_79 _ rfl) okV_X9_used rfl rfl (tb_used (d := 2) rfl) rfl rfl hdd (Nat.le_refl _) (Nat.le_refl _) (by decide) (pm_ki (fun v1 σ' cnt' hq => ?_))
  obtain ⟨I1, A1, rfl, rfl, h1⟩ := hv_id (kp := kp) (I := I) (A := A) h hq.2
  refine pm_istoreXn (loc' := [some (.ref (B + 1)), some (.int v1), none, none, none, none]) hG dX7_serveDebts_7 (by decide) (pm_c1b rfl) rfl ?_
  refine pm_iconst (v := 0) hG dX7_serveDebts_8 (by decide) ?_
  refine pm_istoreXn (loc' := [some (.ref (B + 1)), some (.int v1), some (.int 0), none, none, none]) hG dX7_serveDebts_9 (by decide) (pm_c1b rfl) rfl ?_
  have loop10 : ∀ (m10 : Nat) (I2 : Nat → Int32) (A2 : Nat → Nat → Int32) (x2_2 : Int32), gq ε I2 → (¬ x2_2 < 0) → ((v1 : Int32).toInt - x2_2.toInt).toNat < m10 → pm_wp mX7_serveDebts G B 10 [some (.ref (B + 1)), some (.int v1), some (.int x2_2), none, none, none] [] 0 0 cnt (pm_two (cl_L B kp I2 A2) ρ) := by
    intro m10
    induction m10 with
    | zero => intro I2 A2 x2_2 _  _ hm; exact absurd hm (Nat.not_lt_zero _)
    | succ m10 ih10 =>
      intro I2 A2 x2_2 h2 s10 hm10
      refine pm_iloadn hG dX7_serveDebts_10 rfl ?_
      refine pm_iloadn hG dX7_serveDebts_11 rfl ?_
      refine pm_icmp_ge (tgt := 123) hG dX7_serveDebts_12 rfl (fun c3 => ?_) (fun c3 => ?_)
      · exact pm_vret hG hF dX7_serveDebts_123 rfl (Nat.le_refl _) (Nat.le_refl _) ⟨rfl, _, _, rfl, rfl, h2⟩
      · refine pm_aloadn hG dX7_serveDebts_15 rfl ?_
        refine pm_getf hG dX7_serveDebts_16 (flX7_38 _ rfl) rfl rfl ?_
        refine pm_iloadn hG dX7_serveDebts_19 rfl ?_
        refine pm_iconst (v := 0) hG dX7_serveDebts_20 (by decide) ?_
        refine pm_callV (As := [.int x2_2, .int 0]) (rest := []) hG hR dX7_serveDebts_21 (lkX7_83 _ rfl) okV_X9_get rfl rfl (tb_get (d := 2) rfl rfl (pm_tw_of 6 5 (by decide) (by decide) (by decide))) rfl rfl hdd (Nat.le_refl _) (Nat.le_refl _) (by decide) (pm_ki (fun v4 σ' cnt' hq => ?_))
        obtain ⟨I4, A4, rfl, rfl, h4⟩ := hv_id (kp := kp) (I := I2) (A := A2) h2 hq.2
        refine pm_istoreXn (loc' := [some (.ref (B + 1)), some (.int v1), some (.int x2_2), some (.int v4), none, none]) hG dX7_serveDebts_24 (by decide) (pm_c1b rfl) rfl ?_
        refine pm_ldc hG dX7_serveDebts_25 (ctX7_156 _ rfl) ?_
        refine pm_iloadn hG dX7_serveDebts_27 rfl ?_
        refine pm_iloadn hG dX7_serveDebts_28 rfl ?_
        refine pm_aloadn hG dX7_serveDebts_29 rfl ?_
        refine pm_getf hG dX7_serveDebts_30 (flX7_38 _ rfl) rfl rfl ?_
        refine pm_iloadn hG dX7_serveDebts_33 rfl ?_
        refine pm_iconst (v := 1) hG dX7_serveDebts_34 (by decide) ?_
        refine pm_callV (As := [.int x2_2, .int 1]) (rest := [.int v4, .int v4, .int 999999]) hG hR dX7_serveDebts_35 (lkX7_83 _ rfl) okV_X9_get rfl rfl (tb_get (d := 2) rfl rfl (pm_tw_of 6 5 (by decide) (by decide) (by decide))) rfl rfl hdd (Nat.le_refl _) (Nat.le_refl _) (by first | decide | exact Nat.le_of_ble_eq_true rfl) (pm_ki (fun v5 σ' cnt' hq => ?_))
        obtain ⟨I5, A5, rfl, rfl, h5⟩ := hv_id (kp := kp) (I := I4) (A := A4) h4 hq.2
        refine pm_imul hG dX7_serveDebts_38 ?_
        refine pm_bipush (v := 100) hG dX7_serveDebts_39 (by decide) ?_
        refine pm_idiv hG dX7_serveDebts_41 (by decide) ?_
        refine pm_iadd hG dX7_serveDebts_42 ?_
        refine pm_mmin hG hR dX7_serveDebts_43 (mmX7_87 _ rfl) pm_mwmin (by omega) (by first | decide | exact Nat.le_of_ble_eq_true rfl) (Nat.le_refl _) (Nat.le_refl _) ?_
        refine pm_istoreXi (loc' := [some (.ref (B + 1)), some (.int v1), some (.int x2_2), some (.int v4), some (.int (if (v4 + ((v4 * v5) / 100)) < 999999 then v4 + ((v4 * v5) / 100) else 999999)), none]) hG dX7_serveDebts_46 (by decide) (pm_c1b rfl) rfl ?_
        refine pm_iloadi hG dX7_serveDebts_48 rfl ?_
        refine pm_aloadn hG dX7_serveDebts_50 rfl ?_
        refine pm_getf hG dX7_serveDebts_51 (flX7_38 _ rfl) rfl rfl ?_
        refine pm_iloadn hG dX7_serveDebts_54 rfl ?_
        refine pm_iconst (v := 2) hG dX7_serveDebts_55 (by decide) ?_
        refine pm_callV (As := [.int x2_2, .int 2]) (rest := [.int (if (v4 + ((v4 * v5) / 100)) < 999999 then v4 + ((v4 * v5) / 100) else 999999)]) hG hR dX7_serveDebts_56 (lkX7_83 _ rfl) okV_X9_get rfl rfl (tb_get (d := 2) rfl rfl (pm_tw_of 6 5 (by decide) (by decide) (by decide))) rfl rfl hdd (Nat.le_refl _) (Nat.le_refl _) (by first | decide | exact Nat.le_of_ble_eq_true rfl) (pm_ki (fun v6 σ' cnt' hq => ?_))
        obtain ⟨I6, A6, rfl, rfl, h6⟩ := hv_id (kp := kp) (I := I5) (A := A5) h5 hq.2
        refine pm_mmin hG hR dX7_serveDebts_59 (mmX7_87 _ rfl) pm_mwmin (by omega) (by first | decide | exact Nat.le_of_ble_eq_true rfl) (Nat.le_refl _) (Nat.le_refl _) ?_
        refine pm_istoreXi (loc' := [some (.ref (B + 1)), some (.int v1), some (.int x2_2), some (.int v4), some (.int (if (v4 + ((v4 * v5) / 100)) < 999999 then v4 + ((v4 * v5) / 100) else 999999)), some (.int (if v6 < (if (v4 + ((v4 * v5) / 100)) < 999999 then v4 + ((v4 * v5) / 100) else 999999) then v6 else if (v4 + ((v4 * v5) / 100)) < 999999 then v4 + ((v4 * v5) / 100) else 999999))]) hG dX7_serveDebts_62 (by decide) (pm_c1b rfl) rfl ?_
        refine pm_aloadn hG dX7_serveDebts_64 rfl ?_
        refine pm_getf hG dX7_serveDebts_65 (flX7_53 _ rfl) rfl rfl ?_
        refine pm_iloadi hG dX7_serveDebts_68 rfl ?_
        refine pm_icmp_lt (tgt := 101) hG dX7_serveDebts_70 rfl (fun c7 => ?_) (fun c7 => ?_)
        · refine pm_aloadn hG dX7_serveDebts_101 rfl ?_
          refine pm_getf hG dX7_serveDebts_102 (flX7_38 _ rfl) rfl rfl ?_
          refine pm_iloadn hG dX7_serveDebts_105 rfl ?_
          refine pm_iconst (v := 0) hG dX7_serveDebts_106 (by decide) ?_
          refine pm_iloadi hG dX7_serveDebts_107 rfl ?_
          refine pm_callV (As := [.int x2_2, .int 0, .int (if (v4 + ((v4 * v5) / 100)) < 999999 then v4 + ((v4 * v5) / 100) else 999999)]) (rest := []) hG hR dX7_serveDebts_109 (lkX7_61 _ rfl) okV_X9_set rfl rfl (tb_set (d := 2) rfl rfl (pm_tw_of 6 5 (by decide) (by decide) (by decide)) (by decide)) rfl rfl hdd (Nat.le_refl _) (Nat.le_refl _) (by decide) (pm_kv (fun σ' cnt' hq => ?_))
          obtain ⟨I8, A8, rfl, rfl, h8⟩ := hv_a17 (kp := kp) (I := I6) (A := A6) h6 hq
          refine pm_aloadn hG dX7_serveDebts_112 rfl ?_
          refine pm_iloadn hG dX7_serveDebts_113 rfl ?_
          refine pm_callV (As := [.int x2_2]) (rest := []) hG hR dX7_serveDebts_114 (lkX7_157 _ rfl) okV_X7_missOnce rfl rfl (g_X7_missOnce (d := 2) (by decide) h8) rfl rfl hdd (Nat.le_refl _) (Nat.le_refl _) (by decide) (pm_kv (fun σ' cnt' hq => ?_))
          obtain ⟨I9, A9, rfl, rfl, h9⟩ := hq
          refine pm_iincX (v := x2_2 + 1) (loc' := [some (.ref (B + 1)), some (.int v1), some (.int (x2_2 + 1)), some (.int v4), some (.int (if (v4 + ((v4 * v5) / 100)) < 999999 then v4 + ((v4 * v5) / 100) else 999999)), some (.int (if v6 < (if (v4 + ((v4 * v5) / 100)) < 999999 then v4 + ((v4 * v5) / 100) else 999999) then v6 else if (v4 + ((v4 * v5) / 100)) < 999999 then v4 + ((v4 * v5) / 100) else 999999))]) hG dX7_serveDebts_117 rfl (by rfl) (by decide) (pm_c1b rfl) rfl ?_
          refine pm_goto (tgt := 10) hG dX7_serveDebts_120 rfl ?_
          refine pm_fg 3 (loc' := [some (.ref (B + 1)), some (.int v1), some (.int (x2_2 + 1)), none, some (.int (if (v4 + ((v4 * v5) / 100)) < 999999 then v4 + ((v4 * v5) / 100) else 999999)), some (.int (if v6 < (if (v4 + ((v4 * v5) / 100)) < 999999 then v4 + ((v4 * v5) / 100) else 999999) then v6 else if (v4 + ((v4 * v5) / 100)) < 999999 then v4 + ((v4 * v5) / 100) else 999999))]) rfl ?_
          refine pm_fg 4 (loc' := [some (.ref (B + 1)), some (.int v1), some (.int (x2_2 + 1)), none, none, some (.int (if v6 < (if (v4 + ((v4 * v5) / 100)) < 999999 then v4 + ((v4 * v5) / 100) else 999999) then v6 else if (v4 + ((v4 * v5) / 100)) < 999999 then v4 + ((v4 * v5) / 100) else 999999))]) rfl ?_
          refine pm_fg 5 (loc' := [some (.ref (B + 1)), some (.int v1), some (.int (x2_2 + 1)), none, none, none]) rfl ?_
          exact ih10 _ _ (x2_2 + 1) h9 (pm_sd1 c3 s10) (Nat.lt_of_lt_of_le (pm_mu1 c3) (Nat.le_of_lt_succ hm10))
        · refine pm_aloadn hG dX7_serveDebts_73 rfl ?_
          refine pm_dup hG dX7_serveDebts_74 rfl ?_
          refine pm_getf hG dX7_serveDebts_75 (flX7_53 _ rfl) rfl rfl ?_
          refine pm_iloadi hG dX7_serveDebts_78 rfl ?_
          refine pm_isub hG dX7_serveDebts_80 ?_
          refine pm_putf hG dX7_serveDebts_81 (fwX7_53 _ rfl) rfl rfl rfl ?_
          refine pm_nrm (L' := cl_L B kp (ui I6 103 ((I6 103) - (if v6 < (if (v4 + ((v4 * v5) / 100)) < 999999 then v4 + ((v4 * v5) / 100) else 999999) then v6 else if (v4 + ((v4 * v5) / 100)) < 999999 then v4 + ((v4 * v5) / 100) else 999999))) A6) (by decide) (Nat.le_of_ble_eq_true rfl) rfl ?_
          refine pm_aloadn hG dX7_serveDebts_84 rfl ?_
          refine pm_getf hG dX7_serveDebts_85 (flX7_38 _ rfl) rfl rfl ?_
          refine pm_iloadn hG dX7_serveDebts_88 rfl ?_
          refine pm_iconst (v := 0) hG dX7_serveDebts_89 (by decide) ?_
          refine pm_iloadi hG dX7_serveDebts_90 rfl ?_
          refine pm_iloadi hG dX7_serveDebts_92 rfl ?_
          refine pm_isub hG dX7_serveDebts_94 ?_
          refine pm_callV (As := [.int x2_2, .int 0, .int ((if (v4 + ((v4 * v5) / 100)) < 999999 then v4 + ((v4 * v5) / 100) else 999999) - (if v6 < (if (v4 + ((v4 * v5) / 100)) < 999999 then v4 + ((v4 * v5) / 100) else 999999) then v6 else if (v4 + ((v4 * v5) / 100)) < 999999 then v4 + ((v4 * v5) / 100) else 999999))]) (rest := []) hG hR dX7_serveDebts_95 (lkX7_61 _ rfl) okV_X9_set rfl rfl (tb_set (d := 2) rfl rfl (pm_tw_of 6 5 (by decide) (by decide) (by decide)) (by decide)) rfl rfl hdd (Nat.le_refl _) (Nat.le_refl _) (by decide) (pm_kv (fun σ' cnt' hq => ?_))
          obtain ⟨I11, A11, rfl, rfl, h11⟩ := hv_a17 (kp := kp) (I := (ui I6 103 ((I6 103) - (if v6 < (if (v4 + ((v4 * v5) / 100)) < 999999 then v4 + ((v4 * v5) / 100) else 999999) then v6 else if (v4 + ((v4 * v5) / 100)) < 999999 then v4 + ((v4 * v5) / 100) else 999999)))) (A := A6) (gq.wi (k := 103) rfl h6) hq
          refine pm_goto (tgt := 117) hG dX7_serveDebts_98 rfl ?_
          refine pm_iincX (v := x2_2 + 1) (loc' := [some (.ref (B + 1)), some (.int v1), some (.int (x2_2 + 1)), some (.int v4), some (.int (if (v4 + ((v4 * v5) / 100)) < 999999 then v4 + ((v4 * v5) / 100) else 999999)), some (.int (if v6 < (if (v4 + ((v4 * v5) / 100)) < 999999 then v4 + ((v4 * v5) / 100) else 999999) then v6 else if (v4 + ((v4 * v5) / 100)) < 999999 then v4 + ((v4 * v5) / 100) else 999999))]) hG dX7_serveDebts_117 rfl (by rfl) (by decide) (pm_c1b rfl) rfl ?_
          refine pm_goto (tgt := 10) hG dX7_serveDebts_120 rfl ?_
          refine pm_fg 3 (loc' := [some (.ref (B + 1)), some (.int v1), some (.int (x2_2 + 1)), none, some (.int (if (v4 + ((v4 * v5) / 100)) < 999999 then v4 + ((v4 * v5) / 100) else 999999)), some (.int (if v6 < (if (v4 + ((v4 * v5) / 100)) < 999999 then v4 + ((v4 * v5) / 100) else 999999) then v6 else if (v4 + ((v4 * v5) / 100)) < 999999 then v4 + ((v4 * v5) / 100) else 999999))]) rfl ?_
          refine pm_fg 4 (loc' := [some (.ref (B + 1)), some (.int v1), some (.int (x2_2 + 1)), none, none, some (.int (if v6 < (if (v4 + ((v4 * v5) / 100)) < 999999 then v4 + ((v4 * v5) / 100) else 999999) then v6 else if (v4 + ((v4 * v5) / 100)) < 999999 then v4 + ((v4 * v5) / 100) else 999999))]) rfl ?_
          refine pm_fg 5 (loc' := [some (.ref (B + 1)), some (.int v1), some (.int (x2_2 + 1)), none, none, none]) rfl ?_
          exact ih10 _ _ (x2_2 + 1) h11 (pm_sd1 c3 s10) (Nat.lt_of_lt_of_le (pm_mu1 c3) (Nat.le_of_lt_succ hm10))
  exact loop10 _ _ _ 0 h1 (by decide) (Nat.lt_succ_self _)

set_option maxRecDepth 100000 in
set_option maxHeartbeats 4000000 in
theorem g_X7_takeBackLent {ε : Nat → Int32} {d B cnt : Nat} {kp : pm_KP} {ρ : pm_S} {I : Nat → Int32} {A : Nat → Nat → Int32} (hdd : 2 ≤ d) (h : gq ε I) : pm_met mX7_takeBackLent d 0 0 B [.ref (B + 1)] cnt (pm_two (cl_L B kp I A) ρ) (pm_Qv (fun σ' cnt' => hvq ε B kp ρ cnt σ' cnt')) := by
  refine pm_enter 2 (by decide) (Nat.le_of_ble_eq_true rfl) rfl (fun G hG hR hF => ?_)
  refine pm_aloadn hG dX7_takeBackLent_0 rfl ?_
  refine pm_getf hG dX7_takeBackLent_1 (flX7_26 _ rfl) rfl rfl ?_
  refine pm_callV (As := []) (rest := []) hG hR dX7_takeBackLent_4 (lkX7_79 _ rfl) okV_X9_used rfl rfl (tb_used (d := 1) rfl) rfl rfl hdd (Nat.le_refl _) (Nat.le_refl _) (by decide) (pm_ki (fun v1 σ' cnt' hq => ?_))
  obtain ⟨I1, A1, rfl, rfl, h1⟩ := hv_id (kp := kp) (I := I) (A := A) h hq.2
  refine pm_istoreXn (loc' := [some (.ref (B + 1)), some (.int v1), none]) hG dX7_takeBackLent_7 (by decide) (pm_c1b rfl) rfl ?_
  refine pm_iconst (v := 0) hG dX7_takeBackLent_8 (by decide) ?_
  refine pm_istoreXn (loc' := [some (.ref (B + 1)), some (.int v1), some (.int 0)]) hG dX7_takeBackLent_9 (by decide) (pm_c1b rfl) rfl ?_
  have loop10 : ∀ (m10 : Nat) (I2 : Nat → Int32) (A2 : Nat → Nat → Int32) (x2_2 : Int32), gq ε I2 → (¬ x2_2 < 0) → ((v1 : Int32).toInt - x2_2.toInt).toNat < m10 → pm_wp mX7_takeBackLent G B 10 [some (.ref (B + 1)), some (.int v1), some (.int x2_2)] [] 0 0 cnt (pm_two (cl_L B kp I2 A2) ρ) := by
    intro m10
    induction m10 with
    | zero => intro I2 A2 x2_2 _  _ hm; exact absurd hm (Nat.not_lt_zero _)
    | succ m10 ih10 =>
      intro I2 A2 x2_2 h2 s10 hm10
      refine pm_iloadn hG dX7_takeBackLent_10 rfl ?_
      refine pm_iloadn hG dX7_takeBackLent_11 rfl ?_
      refine pm_icmp_ge (tgt := 52) hG dX7_takeBackLent_12 rfl (fun c3 => ?_) (fun c3 => ?_)
      · exact pm_vret hG hF dX7_takeBackLent_52 rfl (Nat.le_refl _) (Nat.le_refl _) ⟨rfl, _, _, rfl, rfl, h2⟩
      · refine pm_aloadn hG dX7_takeBackLent_15 rfl ?_
        refine pm_iloadn hG dX7_takeBackLent_16 rfl ?_
        refine pm_callV (As := [.int x2_2]) (rest := []) hG hR dX7_takeBackLent_17 (lkX7_138 _ rfl) okV_X7_isLent rfl rfl (g_X7_isLent (d := 1) (by decide) h2) rfl rfl hdd (Nat.le_refl _) (Nat.le_refl _) (by decide) (pm_ki (fun v4 σ' cnt' hq => ?_))
        obtain ⟨b4, I4, A4, rfl, rfl, h4⟩ := hq
        refine pm_if_eq (tgt := 46) hG dX7_takeBackLent_20 rfl (fun c5 => ?_) (fun c5 => ?_)
        · refine pm_iincX (v := x2_2 + 1) (loc' := [some (.ref (B + 1)), some (.int v1), some (.int (x2_2 + 1))]) hG dX7_takeBackLent_46 rfl (by rfl) (by decide) (pm_c1b rfl) rfl ?_
          refine pm_goto (tgt := 10) hG dX7_takeBackLent_49 rfl ?_
          exact ih10 _ _ (x2_2 + 1) h4 (pm_sd1 c3 s10) (Nat.lt_of_lt_of_le (pm_mu1 c3) (Nat.le_of_lt_succ hm10))
        · refine pm_aloadn hG dX7_takeBackLent_23 rfl ?_
          refine pm_getf hG dX7_takeBackLent_24 (flX7_26 _ rfl) rfl rfl ?_
          refine pm_iloadn hG dX7_takeBackLent_27 rfl ?_
          refine pm_iconst (v := 4) hG dX7_takeBackLent_28 (by decide) ?_
          refine pm_callV (As := [.int x2_2, .int 4]) (rest := []) hG hR dX7_takeBackLent_29 (lkX7_83 _ rfl) okV_X9_get rfl rfl (tb_get (d := 1) rfl rfl (pm_tw_of 20 6 (by decide) (by decide) (by decide))) rfl rfl hdd (Nat.le_refl _) (Nat.le_refl _) (by decide) (pm_ki (fun v6 σ' cnt' hq => ?_))
          obtain ⟨I6, A6, rfl, rfl, h6⟩ := hv_id (kp := kp) (I := I4) (A := A4) h4 hq.2
          refine pm_aloadn hG dX7_takeBackLent_32 rfl ?_
          refine pm_getf hG dX7_takeBackLent_33 (flX7_72 _ rfl) rfl rfl ?_
          refine pm_icmp_ge (tgt := 46) hG dX7_takeBackLent_36 rfl (fun c7 => ?_) (fun c7 => ?_)
          · refine pm_iincX (v := x2_2 + 1) (loc' := [some (.ref (B + 1)), some (.int v1), some (.int (x2_2 + 1))]) hG dX7_takeBackLent_46 rfl (by rfl) (by decide) (pm_c1b rfl) rfl ?_
            refine pm_goto (tgt := 10) hG dX7_takeBackLent_49 rfl ?_
            exact ih10 _ _ (x2_2 + 1) h6 (pm_sd1 c3 s10) (Nat.lt_of_lt_of_le (pm_mu1 c3) (Nat.le_of_lt_succ hm10))
          · refine pm_aloadn hG dX7_takeBackLent_39 rfl ?_
            refine pm_iloadn hG dX7_takeBackLent_40 rfl ?_
            refine pm_iconst (v := (-1)) hG dX7_takeBackLent_41 (by decide) ?_
            refine pm_iconst (v := (-1)) hG dX7_takeBackLent_42 (by decide) ?_
            refine pm_callV (As := [.int x2_2, .int (-1), .int (-1)]) (rest := []) hG hR dX7_takeBackLent_43 (lkX7_122 _ rfl) okV_X7_setLent rfl rfl (g_X7_setLent (d := 1) (by decide) h6) rfl rfl hdd (Nat.le_refl _) (Nat.le_refl _) (by decide) (pm_kv (fun σ' cnt' hq => ?_))
            obtain ⟨I8, A8, rfl, rfl, h8⟩ := hq
            refine pm_iincX (v := x2_2 + 1) (loc' := [some (.ref (B + 1)), some (.int v1), some (.int (x2_2 + 1))]) hG dX7_takeBackLent_46 rfl (by rfl) (by decide) (pm_c1b rfl) rfl ?_
            refine pm_goto (tgt := 10) hG dX7_takeBackLent_49 rfl ?_
            exact ih10 _ _ (x2_2 + 1) h8 (pm_sd1 c3 s10) (Nat.lt_of_lt_of_le (pm_mu1 c3) (Nat.le_of_lt_succ hm10))
  exact loop10 _ _ _ 0 h1 (by decide) (Nat.lt_succ_self _)
