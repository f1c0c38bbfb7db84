set_option maxRecDepth 100000 in
set_option maxHeartbeats 4000000 in
theorem g_X11_plan {ε : Nat → Int32} {d B cnt : Nat} {kp : pm_KP} {ρ : pm_S} {I : Nat → Int32} {A : Nat → Nat → Int32} {za zb : Int32} (hdd : 3 ≤ d) (h : gq ε I) : pm_met mX11_plan d 0 0 B [.ref (B + 0), .int za, .int zb] cnt (pm_two (cl_L B kp I A) ρ) (pm_Qi (fun _ σ' cnt' => hvq ε B kp ρ cnt σ' cnt')) := by
  refine pm_enter 2 (by decide) (Nat.le_of_ble_eq_true rfl) rfl (fun G hG hR hF => ?_)
  refine pm_aloadn hG dX11_plan_0 rfl ?_
  refine pm_getf hG dX11_plan_1 (flX11_74 _ rfl) rfl rfl ?_
  refine pm_iloadn hG dX11_plan_4 rfl ?_
  refine pm_callV (As := [.int za]) (rest := []) hG hR dX11_plan_5 (lkX11_251 _ rfl) okV_X8_has rfl rfl (g_X8_has (d := 2) (by decide) h) rfl rfl hdd (Nat.le_refl _) (Nat.le_refl _) (by decide) (pm_ki (fun v1 σ' cnt' hq => ?_))
  obtain ⟨b1, I1, A1, rfl, rfl, h1⟩ := hq
  refine pm_if_ne (tgt := 18) hG dX11_plan_8 rfl (fun c2 => ?_) (fun c2 => ?_)
  · refine pm_aloadn hG dX11_plan_18 rfl ?_
    refine pm_getf hG dX11_plan_19 (flX11_74 _ rfl) rfl rfl ?_
    refine pm_iloadn hG dX11_plan_22 rfl ?_
    refine pm_callV (As := [.int za]) (rest := []) hG hR dX11_plan_23 (lkX11_255 _ rfl) okV_X8_isMissing rfl rfl (g_X8_isMissing (d := 2) (by decide) h1) rfl rfl hdd (Nat.le_refl _) (Nat.le_refl _) (by decide) (pm_ki (fun v3 σ' cnt' hq => ?_))
    obtain ⟨b3, I3, A3, rfl, rfl, h3⟩ := hq
    refine pm_if_eq (tgt := 36) hG dX11_plan_26 rfl (fun c4 => ?_) (fun c4 => ?_)
    · refine pm_aloadn hG dX11_plan_36 rfl ?_
      refine pm_getf hG dX11_plan_37 (flX11_74 _ rfl) rfl rfl ?_
      refine pm_iloadn hG dX11_plan_40 rfl ?_
      refine pm_callV (As := [.int za]) (rest := []) hG hR dX11_plan_41 (lkX11_261 _ rfl) okV_X8_sizeOf rfl rfl (g_X8_sizeOf (d := 2) (by decide) h3) rfl rfl hdd (Nat.le_refl _) (Nat.le_refl _) (by decide) (pm_ki (fun v5 σ' cnt' hq => ?_))
      obtain ⟨I5, A5, rfl, rfl, h5⟩ := hq
      refine pm_istoreXn (loc' := [some (.ref (B + 0)), some (.int za), some (.int zb), some (.int v5), none]) hG dX11_plan_44 (by decide) (pm_c1b rfl) rfl ?_
      refine pm_iloadn hG dX11_plan_45 rfl ?_
      refine pm_iconst (v := 1) hG dX11_plan_46 (by decide) ?_
      refine pm_bipush (v := 8) hG dX11_plan_47 (by decide) ?_
      refine pm_callS (As := [.int v5, .int 1, .int 8]) (rest := []) hG hR dX11_plan_49 (lkX11_105 _ rfl) okS_X11_isOutside (sx_isOutside (d := 2)) rfl rfl hdd (Nat.le_refl _) (Nat.le_refl _) (by decide) (pm_ki (fun v6 σ' cnt' hq => ?_))
      have o6 := hq.1
      have b6 := pm_b10 hq.1
      obtain ⟨I6, A6, rfl, rfl, h6⟩ := hv_id (kp := kp) (I := I5) (A := A5) h5 hq.2
      refine pm_if_ne (tgt := 81) hG dX11_plan_52 rfl (fun c7 => ?_) (fun c7 => ?_)
      · refine pm_aloadn hG dX11_plan_81 rfl ?_
        refine pm_ldc hG dX11_plan_82 (ctX11_109 _ rfl) ?_
        refine pm_callV (As := [.int (-1000001)]) (rest := []) hG hR dX11_plan_84 (lkX11_97 _ rfl) okV_X11_told rfl rfl (sx_told (d := 2) (by decide) rfl rfl) rfl rfl hdd (Nat.le_refl _) (Nat.le_refl _) (by decide) (pm_ki (fun v8 σ' cnt' hq => ?_))
        obtain ⟨-, ⟨g8, hg8⟩, hc8⟩ := hq
        obtain ⟨I8, A8, rfl, rfl, h8⟩ := hv_a53 (kp := kp) (I := I6) (A := A6) h6 ⟨hg8, hc8⟩
        exact pm_iret hG hF dX11_plan_87 rfl (Nat.le_refl _) (Nat.le_refl _) ⟨_, rfl, _, _, rfl, rfl, h8⟩
      · refine pm_aloadn hG dX11_plan_55 rfl ?_
        refine pm_getf hG dX11_plan_56 (flX11_74 _ rfl) rfl rfl ?_
        refine pm_iloadn hG dX11_plan_59 rfl ?_
        refine pm_iconst (v := 0) hG dX11_plan_60 (by decide) ?_
        refine pm_sipush (v := 9999) hG dX11_plan_61 (by decide) ?_
        refine pm_callV (As := [.int za, .int 0, .int 9999]) (rest := []) hG hR dX11_plan_64 (lkX11_264 _ rfl) okV_X8_areAllWithin rfl rfl (g_X8_areAllWithin (d := 2) (by decide) h6) rfl rfl hdd (Nat.le_refl _) (Nat.le_refl _) (by decide) (pm_ki (fun v9 σ' cnt' hq => ?_))
        obtain ⟨b9, I9, A9, rfl, rfl, h9⟩ := hq
        refine pm_if_eq (tgt := 81) hG dX11_plan_67 rfl (fun c10 => ?_) (fun c10 => ?_)
        · refine pm_aloadn hG dX11_plan_81 rfl ?_
          refine pm_ldc hG dX11_plan_82 (ctX11_109 _ rfl) ?_
          refine pm_callV (As := [.int (-1000001)]) (rest := []) hG hR dX11_plan_84 (lkX11_97 _ rfl) okV_X11_told rfl rfl (sx_told (d := 2) (by decide) rfl rfl) rfl rfl hdd (Nat.le_refl _) (Nat.le_refl _) (by decide) (pm_ki (fun v11 σ' cnt' hq => ?_))
          obtain ⟨-, ⟨g11, hg11⟩, hc11⟩ := hq
          obtain ⟨I11, A11, rfl, rfl, h11⟩ := hv_a53 (kp := kp) (I := I9) (A := A9) h9 ⟨hg11, hc11⟩
          exact pm_iret hG hF dX11_plan_87 rfl (Nat.le_refl _) (Nat.le_refl _) ⟨_, rfl, _, _, rfl, rfl, h11⟩
        · refine pm_iloadn hG dX11_plan_70 rfl ?_
          refine pm_iconst (v := (-1)) hG dX11_plan_71 (by decide) ?_
          refine pm_iloadn hG dX11_plan_72 rfl ?_
          refine pm_iconst (v := 1) hG dX11_plan_73 (by decide) ?_
          refine pm_isub hG dX11_plan_74 ?_
          refine pm_callS (As := [.int zb, .int (-1), .int (v5 - 1)]) (rest := []) hG hR dX11_plan_75 (lkX11_105 _ rfl) okS_X11_isOutside (sx_isOutside (d := 2)) rfl rfl hdd (Nat.le_refl _) (Nat.le_refl _) (by decide) (pm_ki (fun v12 σ' cnt' hq => ?_))
          have o12 := hq.1
          have b12 := pm_b10 hq.1
          obtain ⟨I12, A12, rfl, rfl, h12⟩ := hv_id (kp := kp) (I := I9) (A := A9) h9 hq.2
          refine pm_if_eq (tgt := 88) hG dX11_plan_78 rfl (fun c13 => ?_) (fun c13 => ?_)
          · refine pm_aloadn hG dX11_plan_88 rfl ?_
            refine pm_getf hG dX11_plan_89 (flX11_60 _ rfl) rfl rfl ?_
            refine pm_callV (As := []) (rest := []) hG hR dX11_plan_92 (lkX11_335 _ rfl) okV_X5_begin rfl rfl (g_X5_begin (d := 2) (by decide) h12) rfl rfl hdd (Nat.le_refl _) (Nat.le_refl _) (by decide) (pm_kv (fun σ' cnt' hq => ?_))
            obtain ⟨I14, A14, rfl, rfl, h14⟩ := hq
            refine pm_iconst (v := 0) hG dX11_plan_95 (by decide) ?_
            refine pm_istoreXi (loc' := [some (.ref (B + 0)), some (.int za), some (.int zb), some (.int v5), some (.int 0)]) hG dX11_plan_96 (by decide) (pm_c1b rfl) rfl ?_
            have loop98 : ∀ (m98 : Nat) (I15 : Nat → Int32) (A15 : Nat → Nat → Int32) (x15_4 : Int32), gq ε I15 → (¬ x15_4 < 0) → ((v5 : Int32).toInt - x15_4.toInt).toNat < m98 → pm_wp mX11_plan G B 98 [some (.ref (B + 0)), some (.int za), some (.int zb), some (.int v5), some (.int x15_4)] [] 0 0 cnt (pm_two (cl_L B kp I15 A15) ρ) := by
              intro m98
              induction m98 with
              | zero => intro I15 A15 x15_4 _  _ hm; exact absurd hm (Nat.not_lt_zero _)
              | succ m98 ih98 =>
                intro I15 A15 x15_4 h15 s98 hm98
                refine pm_iloadi hG dX11_plan_98 rfl ?_
                refine pm_iloadn hG dX11_plan_100 rfl ?_
                refine pm_icmp_ge (tgt := 127) hG dX11_plan_101 rfl (fun c16 => ?_) (fun c16 => ?_)
                · refine pm_aloadn hG dX11_plan_127 rfl ?_
                  refine pm_getf hG dX11_plan_128 (flX11_60 _ rfl) rfl rfl ?_
                  refine pm_callV (As := []) (rest := []) hG hR dX11_plan_131 (lkX11_344 _ rfl) okV_X5_findBest rfl rfl (g_X5_findBest (d := 2) (by decide) h15) rfl rfl hdd (Nat.le_refl _) (Nat.le_refl _) (by decide) (pm_ki (fun v17 σ' cnt' hq => ?_))
                  obtain ⟨b17, I17, A17, rfl, rfl, h17⟩ := hq
                  refine pm_if_ne (tgt := 144) hG dX11_plan_134 rfl (fun c18 => ?_) (fun c18 => ?_)
                  · refine pm_iloadn hG dX11_plan_144 rfl ?_
                    refine pm_if_ge (tgt := 158) hG dX11_plan_145 rfl (fun c19 => ?_) (fun c19 => ?_)
                    · refine pm_aloadn hG dX11_plan_158 rfl ?_
                      refine pm_getf hG dX11_plan_159 (flX11_60 _ rfl) rfl rfl ?_
                      refine pm_iloadn hG dX11_plan_162 rfl ?_
                      refine pm_iloadn hG dX11_plan_163 rfl ?_
                      refine pm_callV (As := [.int zb, .int v5]) (rest := []) hG hR dX11_plan_164 (lkX11_350 _ rfl) okV_X5_pledgedIn rfl rfl (g_X5_pledgedIn (d := 2) (by decide) h17) rfl rfl hdd (Nat.le_refl _) (Nat.le_refl _) (by decide) (pm_ki (fun v20 σ' cnt' hq => ?_))
                      obtain ⟨I20, A20, rfl, rfl, h20⟩ := hq
                      exact pm_iret hG hF dX11_plan_167 rfl (Nat.le_refl _) (Nat.le_refl _) ⟨_, rfl, _, _, rfl, rfl, h20⟩
                    · refine pm_aloadn hG dX11_plan_148 rfl ?_
                      refine pm_getf hG dX11_plan_149 (flX11_60 _ rfl) rfl rfl ?_
                      refine pm_getf hG dX11_plan_152 (flX11_347 _ rfl) rfl rfl ?_
                      refine pm_goto (tgt := 167) hG dX11_plan_155 rfl ?_
                      exact pm_iret hG hF dX11_plan_167 rfl (Nat.le_refl _) (Nat.le_refl _) ⟨_, rfl, _, _, rfl, rfl, h17⟩
                  · refine pm_aloadn hG dX11_plan_137 rfl ?_
                    refine pm_ldc hG dX11_plan_138 (ctX11_138 _ rfl) ?_
                    refine pm_callV (As := [.int (-1000003)]) (rest := []) hG hR dX11_plan_140 (lkX11_97 _ rfl) okV_X11_told rfl rfl (sx_told (d := 2) (by decide) rfl rfl) rfl rfl hdd (Nat.le_refl _) (Nat.le_refl _) (by decide) (pm_ki (fun v21 σ' cnt' hq => ?_))
                    obtain ⟨-, ⟨g21, hg21⟩, hc21⟩ := hq
                    obtain ⟨I21, A21, rfl, rfl, h21⟩ := hv_a53 (kp := kp) (I := I17) (A := A17) h17 ⟨hg21, hc21⟩
                    exact pm_iret hG hF dX11_plan_143 rfl (Nat.le_refl _) (Nat.le_refl _) ⟨_, rfl, _, _, rfl, rfl, h21⟩
                · refine pm_aloadn hG dX11_plan_104 rfl ?_
                  refine pm_getf hG dX11_plan_105 (flX11_60 _ rfl) rfl rfl ?_
                  refine pm_aloadn hG dX11_plan_108 rfl ?_
                  refine pm_getf hG dX11_plan_109 (flX11_74 _ rfl) rfl rfl ?_
                  refine pm_iloadn hG dX11_plan_112 rfl ?_
                  refine pm_iloadi hG dX11_plan_113 rfl ?_
                  refine pm_callV (As := [.int za, .int x15_4]) (rest := [.ref (B + 42)]) hG hR dX11_plan_115 (lkX11_338 _ rfl) okV_X8_numberAt rfl rfl (g_X8_numberAt (d := 2) (by decide) h15) rfl rfl hdd (Nat.le_refl _) (Nat.le_refl _) (by first | decide | exact Nat.le_of_ble_eq_true rfl) (pm_ki (fun v22 σ' cnt' hq => ?_))
                  obtain ⟨I22, A22, rfl, rfl, h22⟩ := hq
                  refine pm_callV (As := [.int v22]) (rest := []) hG hR dX11_plan_118 (lkX11_341 _ rfl) okV_X5_passQuarter rfl rfl (g_X5_passQuarter (d := 2) (by decide) h22) rfl rfl hdd (Nat.le_refl _) (Nat.le_refl _) (by decide) (pm_kv (fun σ' cnt' hq => ?_))
                  obtain ⟨I23, A23, rfl, rfl, h23⟩ := hq
                  refine pm_iincX (v := x15_4 + 1) (loc' := [some (.ref (B + 0)), some (.int za), some (.int zb), some (.int v5), some (.int (x15_4 + 1))]) hG dX11_plan_121 rfl (by rfl) (by decide) (pm_c1b rfl) rfl ?_
                  refine pm_goto (tgt := 98) hG dX11_plan_124 rfl ?_
                  exact ih98 _ _ (x15_4 + 1) h23 (pm_sd1 c16 s98) (Nat.lt_of_lt_of_le (pm_mu1 c16) (Nat.le_of_lt_succ hm98))
            exact loop98 _ _ _ 0 h14 (by decide) (Nat.lt_succ_self _)
          · refine pm_aloadn hG dX11_plan_81 rfl ?_
            refine pm_ldc hG dX11_plan_82 (ctX11_109 _ rfl) ?_
            refine pm_callV (As := [.int (-1000001)]) (rest := []) hG hR dX11_plan_84 (lkX11_97 _ rfl) okV_X11_told rfl rfl (sx_told (d := 2) (by decide) rfl rfl) rfl rfl hdd (Nat.le_refl _) (Nat.le_refl _) (by decide) (pm_ki (fun v24 σ' cnt' hq => ?_))
            obtain ⟨-, ⟨g24, hg24⟩, hc24⟩ := hq
            obtain ⟨I24, A24, rfl, rfl, h24⟩ := hv_a53 (kp := kp) (I := I12) (A := A12) h12 ⟨hg24, hc24⟩
            exact pm_iret hG hF dX11_plan_87 rfl (Nat.le_refl _) (Nat.le_refl _) ⟨_, rfl, _, _, rfl, rfl, h24⟩
    · refine pm_aloadn hG dX11_plan_29 rfl ?_
      refine pm_ldc hG dX11_plan_30 (ctX11_223 _ rfl) ?_
      refine pm_callV (As := [.int (-1000002)]) (rest := []) hG hR dX11_plan_32 (lkX11_97 _ rfl) okV_X11_told rfl rfl (sx_told (d := 2) (by decide) rfl rfl) rfl rfl hdd (Nat.le_refl _) (Nat.le_refl _) (by decide) (pm_ki (fun v25 σ' cnt' hq => ?_))
      obtain ⟨-, ⟨g25, hg25⟩, hc25⟩ := hq
      obtain ⟨I25, A25, rfl, rfl, h25⟩ := hv_a53 (kp := kp) (I := I3) (A := A3) h3 ⟨hg25, hc25⟩
      exact pm_iret hG hF dX11_plan_35 rfl (Nat.le_refl _) (Nat.le_refl _) ⟨_, rfl, _, _, rfl, rfl, h25⟩
  · refine pm_aloadn hG dX11_plan_11 rfl ?_
    refine pm_ldc hG dX11_plan_12 (ctX11_109 _ rfl) ?_
    refine pm_callV (As := [.int (-1000001)]) (rest := []) hG hR dX11_plan_14 (lkX11_97 _ rfl) okV_X11_told rfl rfl (sx_told (d := 2) (by decide) rfl rfl) rfl rfl hdd (Nat.le_refl _) (Nat.le_refl _) (by decide) (pm_ki (fun v26 σ' cnt' hq => ?_))
    obtain ⟨-, ⟨g26, hg26⟩, hc26⟩ := hq
    obtain ⟨I26, A26, rfl, rfl, h26⟩ := hv_a53 (kp := kp) (I := I1) (A := A1) h1 ⟨hg26, hc26⟩
    exact pm_iret hG hF dX11_plan_17 rfl (Nat.le_refl _) (Nat.le_refl _) ⟨_, rfl, _, _, rfl, rfl, h26⟩

set_option maxRecDepth 100000 in
set_option maxHeartbeats 4000000 in
theorem g_X11_power {ε : Nat → Int32} {d B cnt : Nat} {kp : pm_KP} {ρ : pm_S} {I : Nat → Int32} {A : Nat → Nat → Int32} {za zb zc : Int32} (hdd : 3 ≤ d) (h : gq ε I) : pm_met mX11_power d 0 0 B [.ref (B + 0), .int za, .int zb, .int zc] cnt (pm_two (cl_L B kp I A) ρ) (pm_Qi (fun _ σ' cnt' => hvq ε B kp ρ cnt σ' cnt')) := by
  refine pm_enter 0 (by decide) (Nat.le_of_ble_eq_true rfl) rfl (fun G hG hR hF => ?_)
  refine pm_iloadn hG dX11_power_0 rfl ?_
  refine pm_iconst (v := 0) hG dX11_power_1 (by decide) ?_
  refine pm_iconst (v := 5) hG dX11_power_2 (by decide) ?_
  refine pm_callS (As := [.int za, .int 0, .int 5]) (rest := []) hG hR dX11_power_3 (lkX11_105 _ rfl) okS_X11_isOutside (sx_isOutside (d := 2)) rfl rfl hdd (Nat.le_refl _) (Nat.le_refl _) (by decide) (pm_ki (fun v1 σ' cnt' hq => ?_))
  have o1 := hq.1
  have b1 := pm_b10 hq.1
  obtain ⟨I1, A1, rfl, rfl, h1⟩ := hv_id (kp := kp) (I := I) (A := A) h hq.2
  refine pm_if_ne (tgt := 30) hG dX11_power_6 rfl (fun c2 => ?_) (fun c2 => ?_)
  · refine pm_aloadn hG dX11_power_30 rfl ?_
    refine pm_ldc hG dX11_power_31 (ctX11_109 _ rfl) ?_
    refine pm_callV (As := [.int (-1000001)]) (rest := []) hG hR dX11_power_33 (lkX11_97 _ rfl) okV_X11_told rfl rfl (sx_told (d := 2) (by decide) rfl rfl) rfl rfl hdd (Nat.le_refl _) (Nat.le_refl _) (by decide) (pm_ki (fun v3 σ' cnt' hq => ?_))
    obtain ⟨-, ⟨g3, hg3⟩, hc3⟩ := hq
    obtain ⟨I3, A3, rfl, rfl, h3⟩ := hv_a53 (kp := kp) (I := I1) (A := A1) h1 ⟨hg3, hc3⟩
    exact pm_iret hG hF dX11_power_36 rfl (Nat.le_refl _) (Nat.le_refl _) ⟨_, rfl, _, _, rfl, rfl, h3⟩
  · refine pm_aloadn hG dX11_power_9 rfl ?_
    refine pm_getf hG dX11_power_10 (flX11_12 _ rfl) rfl rfl ?_
    refine pm_iloadn hG dX11_power_13 rfl ?_
    refine pm_callV (As := [.int zb]) (rest := []) hG hR dX11_power_14 (lkX11_174 _ rfl) okV_X7_isLivingOrNobody rfl rfl (g_X7_isLivingOrNobody (d := 2) (by decide) h1) rfl rfl hdd (Nat.le_refl _) (Nat.le_refl _) (by decide) (pm_ki (fun v4 σ' cnt' hq => ?_))
    obtain ⟨b4, I4, A4, rfl, rfl, h4⟩ := hq
    refine pm_if_eq (tgt := 30) hG dX11_power_17 rfl (fun c5 => ?_) (fun c5 => ?_)
    · refine pm_aloadn hG dX11_power_30 rfl ?_
      refine pm_ldc hG dX11_power_31 (ctX11_109 _ rfl) ?_
      refine pm_callV (As := [.int (-1000001)]) (rest := []) hG hR dX11_power_33 (lkX11_97 _ rfl) okV_X11_told rfl rfl (sx_told (d := 2) (by decide) rfl rfl) rfl rfl hdd (Nat.le_refl _) (Nat.le_refl _) (by decide) (pm_ki (fun v6 σ' cnt' hq => ?_))
      obtain ⟨-, ⟨g6, hg6⟩, hc6⟩ := hq
      obtain ⟨I6, A6, rfl, rfl, h6⟩ := hv_a53 (kp := kp) (I := I4) (A := A4) h4 ⟨hg6, hc6⟩
      exact pm_iret hG hF dX11_power_36 rfl (Nat.le_refl _) (Nat.le_refl _) ⟨_, rfl, _, _, rfl, rfl, h6⟩
    · refine pm_iloadn hG dX11_power_20 rfl ?_
      refine pm_iconst (v := 0) hG dX11_power_21 (by decide) ?_
      refine pm_bipush (v := 99) hG dX11_power_22 (by decide) ?_
      refine pm_callS (As := [.int zc, .int 0, .int 99]) (rest := []) hG hR dX11_power_24 (lkX11_105 _ rfl) okS_X11_isOutside (sx_isOutside (d := 2)) rfl rfl hdd (Nat.le_refl _) (Nat.le_refl _) (by decide) (pm_ki (fun v7 σ' cnt' hq => ?_))
      have o7 := hq.1
      have b7 := pm_b10 hq.1
      obtain ⟨I7, A7, rfl, rfl, h7⟩ := hv_id (kp := kp) (I := I4) (A := A4) h4 hq.2
      refine pm_if_eq (tgt := 37) hG dX11_power_27 rfl (fun c8 => ?_) (fun c8 => ?_)
      · refine pm_aloadn hG dX11_power_37 rfl ?_
        refine pm_aloadn hG dX11_power_38 rfl ?_
        refine pm_getf hG dX11_power_39 (flX11_12 _ rfl) rfl rfl ?_
        refine pm_getf hG dX11_power_42 (flX11_161 _ rfl) rfl rfl ?_
        refine pm_callV (As := []) (rest := [.ref (B + 0)]) hG hR dX11_power_45 (lkX11_86 _ rfl) okV_X9_isFull rfl rfl (tb_isFull (d := 2) rfl) rfl rfl hdd (Nat.le_refl _) (Nat.le_refl _) (by first | decide | exact Nat.le_of_ble_eq_true rfl) (pm_ki (fun v9 σ' cnt' hq => ?_))
        have b9 := pm_b01 hq.1
        obtain ⟨I9, A9, rfl, rfl, h9⟩ := hv_id (kp := kp) (I := I7) (A := A7) h7 hq.2
        refine pm_if_eq (tgt := 56) hG dX11_power_48 rfl (fun c10 => ?_) (fun c10 => ?_)
        · refine pm_aloadn hG dX11_power_56 rfl ?_
          refine pm_getf hG dX11_power_57 (flX11_12 _ rfl) rfl rfl ?_
          refine pm_iloadn hG dX11_power_60 rfl ?_
          refine pm_iloadn hG dX11_power_61 rfl ?_
          refine pm_iloadn hG dX11_power_62 rfl ?_
          refine pm_callV (As := [.int za, .int zb, .int zc]) (rest := [.ref (B + 0)]) hG hR dX11_power_63 (lkX11_177 _ rfl) okV_X7_addPower rfl rfl (g_X7_addPower (d := 2) (by decide) h9) rfl rfl hdd (Nat.le_refl _) (Nat.le_refl _) (by first | decide | exact Nat.le_of_ble_eq_true rfl) (pm_ki (fun v11 σ' cnt' hq => ?_))
          obtain ⟨I11, A11, rfl, rfl, h11⟩ := hq
          refine pm_callV (As := [.int v11]) (rest := []) hG hR dX11_power_66 (lkX11_97 _ rfl) okV_X11_told rfl rfl (sx_told (d := 2) (by decide) rfl rfl) rfl rfl hdd (Nat.le_refl _) (Nat.le_refl _) (by decide) (pm_ki (fun v12 σ' cnt' hq => ?_))
          obtain ⟨-, ⟨g12, hg12⟩, hc12⟩ := hq
          obtain ⟨I12, A12, rfl, rfl, h12⟩ := hv_a53 (kp := kp) (I := I11) (A := A11) h11 ⟨hg12, hc12⟩
          exact pm_iret hG hF dX11_power_69 rfl (Nat.le_refl _) (Nat.le_refl _) ⟨_, rfl, _, _, rfl, rfl, h12⟩
        · refine pm_ldc hG dX11_power_51 (ctX11_92 _ rfl) ?_
          refine pm_goto (tgt := 66) hG dX11_power_53 rfl ?_
          refine pm_callV (As := [.int (-1000004)]) (rest := []) hG hR dX11_power_66 (lkX11_97 _ rfl) okV_X11_told rfl rfl (sx_told (d := 2) (by decide) rfl rfl) rfl rfl hdd (Nat.le_refl _) (Nat.le_refl _) (by decide) (pm_ki (fun v13 σ' cnt' hq => ?_))
          obtain ⟨-, ⟨g13, hg13⟩, hc13⟩ := hq
          obtain ⟨I13, A13, rfl, rfl, h13⟩ := hv_a53 (kp := kp) (I := I9) (A := A9) h9 ⟨hg13, hc13⟩
          exact pm_iret hG hF dX11_power_69 rfl (Nat.le_refl _) (Nat.le_refl _) ⟨_, rfl, _, _, rfl, rfl, h13⟩
      · refine pm_aloadn hG dX11_power_30 rfl ?_
        refine pm_ldc hG dX11_power_31 (ctX11_109 _ rfl) ?_
        refine pm_callV (As := [.int (-1000001)]) (rest := []) hG hR dX11_power_33 (lkX11_97 _ rfl) okV_X11_told rfl rfl (sx_told (d := 2) (by decide) rfl rfl) rfl rfl hdd (Nat.le_refl _) (Nat.le_refl _) (by decide) (pm_ki (fun v14 σ' cnt' hq => ?_))
        obtain ⟨-, ⟨g14, hg14⟩, hc14⟩ := hq
        obtain ⟨I14, A14, rfl, rfl, h14⟩ := hv_a53 (kp := kp) (I := I7) (A := A7) h7 ⟨hg14, hc14⟩
        exact pm_iret hG hF dX11_power_36 rfl (Nat.le_refl _) (Nat.le_refl _) ⟨_, rfl, _, _, rfl, rfl, h14⟩

set_option maxRecDepth 100000 in
set_option maxHeartbeats 4000000 in
theorem g_X3_handsWith {ε : Nat → Int32} {d B cnt : Nat} {kp : pm_KP} {ρ : pm_S} {I : Nat → Int32} {A : Nat → Nat → Int32} {za : Int32} (hdd : 3 ≤ d) (h : gq ε I) : pm_met mX3_handsWith d 0 0 B [.ref (B + 36), .int za] cnt (pm_two (cl_L B kp I A) ρ) (pm_Qi (fun _ σ' cnt' => hvq ε B kp ρ cnt σ' cnt')) := by
  refine pm_enter 4 (by decide) (Nat.le_of_ble_eq_true rfl) rfl (fun G hG hR hF => ?_)
  refine pm_iconst (v := 0) hG dX3_handsWith_0 (by decide) ?_
  refine pm_istoreXn (loc' := [some (.ref (B + 36)), some (.int za), some (.int 0), none, none, none]) hG dX3_handsWith_1 (by decide) (pm_c1b rfl) rfl ?_
  refine pm_aloadn hG dX3_handsWith_2 rfl ?_
  refine pm_getf hG dX3_handsWith_3 (flX3_9 _ rfl) rfl rfl ?_
  refine pm_getf hG dX3_handsWith_6 (flX3_63 _ rfl) rfl rfl ?_
  refine pm_callV (As := []) (rest := []) hG hR dX3_handsWith_9 (lkX3_74 _ rfl) okV_X9_used rfl rfl (tb_used (d := 2) rfl) rfl rfl hdd (Nat.le_refl _) (Nat.le_refl _) (by decide) (pm_ki (fun v1 σ' cnt' hq => ?_))
  obtain ⟨I1, A1, rfl, rfl, h1⟩ := hv_id (kp := kp) (I := I) (A := A) h hq.2
  refine pm_istoreXn (loc' := [some (.ref (B + 36)), some (.int za), some (.int 0), some (.int v1), none, none]) hG dX3_handsWith_12 (by decide) (pm_c1b rfl) rfl ?_
  refine pm_iconst (v := 0) hG dX3_handsWith_13 (by decide) ?_
  refine pm_istoreXi (loc' := [some (.ref (B + 36)), some (.int za), some (.int 0), some (.int v1), some (.int 0), none]) hG dX3_handsWith_14 (by decide) (pm_c1b rfl) rfl ?_
  have loop16 : ∀ (m16 : Nat) (I2 : Nat → Int32) (A2 : Nat → Nat → Int32) (x2_2 x2_4 : Int32), gq ε I2 → (¬ x2_4 < 0) → ((v1 : Int32).toInt - x2_4.toInt).toNat < m16 → pm_wp mX3_handsWith G B 16 [some (.ref (B + 36)), some (.int za), some (.int x2_2), some (.int v1), some (.int x2_4), none] [] 0 0 cnt (pm_two (cl_L B kp I2 A2) ρ) := by
    intro m16
    induction m16 with
    | zero => intro I2 A2 x2_2 x2_4 _  _ hm; exact absurd hm (Nat.not_lt_zero _)
    | succ m16 ih16 =>
      intro I2 A2 x2_2 x2_4 h2 s16 hm16
      refine pm_iloadi hG dX3_handsWith_16 rfl ?_
      refine pm_iloadn hG dX3_handsWith_18 rfl ?_
      refine pm_icmp_ge (tgt := 68) hG dX3_handsWith_19 rfl (fun c3 => ?_) (fun c3 => ?_)
      · refine pm_iloadn hG dX3_handsWith_68 rfl ?_
        exact pm_iret hG hF dX3_handsWith_69 rfl (Nat.le_refl _) (Nat.le_refl _) ⟨_, rfl, _, _, rfl, rfl, h2⟩
      · refine pm_aloadn hG dX3_handsWith_22 rfl ?_
        refine pm_getf hG dX3_handsWith_23 (flX3_9 _ rfl) rfl rfl ?_
        refine pm_iloadi hG dX3_handsWith_26 rfl ?_
        refine pm_callV (As := [.int x2_4]) (rest := []) hG hR dX3_handsWith_28 (lkX3_52 _ rfl) okV_X7_whoHas rfl rfl (g_X7_whoHas (d := 2) (by decide) h2) rfl rfl hdd (Nat.le_refl _) (Nat.le_refl _) (by decide) (pm_ki (fun v4 σ' cnt' hq => ?_))
        obtain ⟨I4, A4, rfl, rfl, h4⟩ := hq
        refine pm_istoreXi (loc' := [some (.ref (B + 36)), some (.int za), some (.int x2_2), some (.int v1), some (.int x2_4), some (.int v4)]) hG dX3_handsWith_31 (by decide) (pm_c1b rfl) rfl ?_
        refine pm_iloadi hG dX3_handsWith_33 rfl ?_
        refine pm_if_lt (tgt := 62) hG dX3_handsWith_35 rfl (fun c5 => ?_) (fun c5 => ?_)
        · refine pm_iincX (v := x2_4 + 1) (loc' := [some (.ref (B + 36)), some (.int za), some (.int x2_2), some (.int v1), some (.int (x2_4 + 1)), some (.int v4)]) hG dX3_handsWith_62 rfl (by rfl) (by decide) (pm_c1b rfl) rfl ?_
          refine pm_goto (tgt := 16) hG dX3_handsWith_65 rfl ?_
          refine pm_fg 5 (loc' := [some (.ref (B + 36)), some (.int za), some (.int x2_2), some (.int v1), some (.int (x2_4 + 1)), none]) rfl ?_
          exact ih16 _ _ x2_2 (x2_4 + 1) h4 (pm_sd1 c3 s16) (Nat.lt_of_lt_of_le (pm_mu1 c3) (Nat.le_of_lt_succ hm16))
        · refine pm_aloadn hG dX3_handsWith_38 rfl ?_
          refine pm_getf hG dX3_handsWith_39 (flX3_9 _ rfl) rfl rfl ?_
          refine pm_getf hG dX3_handsWith_42 (flX3_63 _ rfl) rfl rfl ?_
          refine pm_iloadi hG dX3_handsWith_45 rfl ?_
          refine pm_iconst (v := 5) hG dX3_handsWith_47 (by decide) ?_
          refine pm_callV (As := [.int x2_4, .int 5]) (rest := []) hG hR dX3_handsWith_48 (lkX3_35 _ rfl) okV_X9_get rfl rfl (tb_get (d := 2) rfl rfl (pm_tw_of 20 6 (by decide) (by decide) (by decide))) rfl rfl hdd (Nat.le_refl _) (Nat.le_refl _) (by decide) (pm_ki (fun v6 σ' cnt' hq => ?_))
          obtain ⟨I6, A6, rfl, rfl, h6⟩ := hv_id (kp := kp) (I := I4) (A := A4) h4 hq.2
          refine pm_iloadn hG dX3_handsWith_51 rfl ?_
          refine pm_icmp_ne (tgt := 62) hG dX3_handsWith_52 rfl (fun c7 => ?_) (fun c7 => ?_)
          · refine pm_iincX (v := x2_4 + 1) (loc' := [some (.ref (B + 36)), some (.int za), some (.int x2_2), some (.int v1), some (.int (x2_4 + 1)), some (.int v4)]) hG dX3_handsWith_62 rfl (by rfl) (by decide) (pm_c1b rfl) rfl ?_
            refine pm_goto (tgt := 16) hG dX3_handsWith_65 rfl ?_
            refine pm_fg 5 (loc' := [some (.ref (B + 36)), some (.int za), some (.int x2_2), some (.int v1), some (.int (x2_4 + 1)), none]) rfl ?_
            exact ih16 _ _ x2_2 (x2_4 + 1) h6 (pm_sd1 c3 s16) (Nat.lt_of_lt_of_le (pm_mu1 c3) (Nat.le_of_lt_succ hm16))
          · refine pm_iloadn hG dX3_handsWith_55 rfl ?_
            refine pm_iconst (v := 1) hG dX3_handsWith_56 (by decide) ?_
            refine pm_iloadi hG dX3_handsWith_57 rfl ?_
            refine pm_ishl hG dX3_handsWith_59 ?_
            refine pm_ior hG dX3_handsWith_60 ?_
            refine pm_istoreXn (loc' := [some (.ref (B + 36)), some (.int za), some (.int (x2_2 ||| (1 <<< (v4 &&& 31)))), some (.int v1), some (.int x2_4), some (.int v4)]) hG dX3_handsWith_61 (by decide) (pm_c1b rfl) rfl ?_
            refine pm_iincX (v := x2_4 + 1) (loc' := [some (.ref (B + 36)), some (.int za), some (.int (x2_2 ||| (1 <<< (v4 &&& 31)))), some (.int v1), some (.int (x2_4 + 1)), some (.int v4)]) hG dX3_handsWith_62 rfl (by rfl) (by decide) (pm_c1b rfl) rfl ?_
            refine pm_goto (tgt := 16) hG dX3_handsWith_65 rfl ?_
            refine pm_fg 5 (loc' := [some (.ref (B + 36)), some (.int za), some (.int (x2_2 ||| (1 <<< (v4 &&& 31)))), some (.int v1), some (.int (x2_4 + 1)), none]) rfl ?_
            exact ih16 _ _ (x2_2 ||| (1 <<< (v4 &&& 31))) (x2_4 + 1) h6 (pm_sd1 c3 s16) (Nat.lt_of_lt_of_le (pm_mu1 c3) (Nat.le_of_lt_succ hm16))
  exact loop16 _ _ _ 0 0 h1 (by decide) (Nat.lt_succ_self _)

set_option maxRecDepth 100000 in
set_option maxHeartbeats 4000000 in
theorem g_X3_mark {ε : Nat → Int32} {d B cnt : Nat} {kp : pm_KP} {ρ : pm_S} {I : Nat → Int32} {A : Nat → Nat → Int32} {za zb : Int32} (hdd : 4 ≤ d) (h : gq ε I) : pm_met mX3_mark d 0 0 B [.ref (B + 36), .int za, .int zb] cnt (pm_two (cl_L B kp I A) ρ) (pm_Qi (fun _ σ' cnt' => hvq ε B kp ρ cnt σ' cnt')) := by
  refine pm_enter 5 (by decide) (Nat.le_of_ble_eq_true rfl) rfl (fun G hG hR hF => ?_)
  refine pm_aloadn hG dX3_mark_0 rfl ?_
  refine pm_getf hG dX3_mark_1 (flX3_9 _ rfl) rfl rfl ?_
  refine pm_iloadn hG dX3_mark_4 rfl ?_
  refine pm_callV (As := [.int zb]) (rest := []) hG hR dX3_mark_5 (lkX3_52 _ rfl) okV_X7_whoHas rfl rfl (g_X7_whoHas (d := 3) (by decide) h) rfl rfl hdd (Nat.le_refl _) (Nat.le_refl _) (by decide) (pm_ki (fun v1 σ' cnt' hq => ?_))
  obtain ⟨I1, A1, rfl, rfl, h1⟩ := hq
  refine pm_istoreXn (loc' := [some (.ref (B + 36)), some (.int za), some (.int zb), some (.int v1), none, none, none, none]) hG dX3_mark_8 (by decide) (pm_c1b rfl) rfl ?_
  refine pm_aloadn hG dX3_mark_9 rfl ?_
  refine pm_getf hG dX3_mark_10 (flX3_29 _ rfl) rfl rfl ?_
  refine pm_iloadn hG dX3_mark_13 rfl ?_
  refine pm_iconst (v := 3) hG dX3_mark_14 (by decide) ?_
  refine pm_callV (As := [.int za, .int 3]) (rest := []) hG hR dX3_mark_15 (lkX3_35 _ rfl) okV_X9_get rfl rfl (tb_get (d := 3) rfl rfl (pm_tw_of 40 12 (by decide) (by decide) (by decide))) rfl rfl hdd (Nat.le_refl _) (Nat.le_refl _) (by decide) (pm_ki (fun v2 σ' cnt' hq => ?_))
  obtain ⟨I2, A2, rfl, rfl, h2⟩ := hv_id (kp := kp) (I := I1) (A := A1) h1 hq.2
  refine pm_istoreXi (loc' := [some (.ref (B + 36)), some (.int za), some (.int zb), some (.int v1), some (.int v2), none, none, none]) hG dX3_mark_18 (by decide) (pm_c1b rfl) rfl ?_
  refine pm_aloadn hG dX3_mark_20 rfl ?_
  refine pm_iloadn hG dX3_mark_21 rfl ?_
  refine pm_callV (As := [.int za]) (rest := []) hG hR dX3_mark_22 (lkX3_55 _ rfl) okV_X3_isSent rfl rfl (g_X3_isSent (d := 3) (by decide) h2) rfl rfl hdd (Nat.le_refl _) (Nat.le_refl _) (by decide) (pm_ki (fun v3 σ' cnt' hq => ?_))
  obtain ⟨b3, I3, A3, rfl, rfl, h3⟩ := hq
  refine pm_if_ne (tgt := 56) hG dX3_mark_25 rfl (fun c4 => ?_) (fun c4 => ?_)
  · refine pm_ldc hG dX3_mark_56 (ctX3_62 _ rfl) ?_
    exact pm_iret hG hF dX3_mark_58 rfl (Nat.le_refl _) (Nat.le_refl _) ⟨_, rfl, _, _, rfl, rfl, h3⟩
  · refine pm_aloadn hG dX3_mark_28 rfl ?_
    refine pm_getf hG dX3_mark_29 (flX3_9 _ rfl) rfl rfl ?_
    refine pm_iloadn hG dX3_mark_32 rfl ?_
    refine pm_callV (As := [.int v1]) (rest := []) hG hR dX3_mark_33 (lkX3_59 _ rfl) okV_X7_isInTown rfl rfl (g_X7_isInTown (d := 3) (by decide) h3) rfl rfl hdd (Nat.le_refl _) (Nat.le_refl _) (by decide) (pm_ki (fun v5 σ' cnt' hq => ?_))
    obtain ⟨b5, I5, A5, rfl, rfl, h5⟩ := hq
    refine pm_if_eq (tgt := 56) hG dX3_mark_36 rfl (fun c6 => ?_) (fun c6 => ?_)
    · refine pm_ldc hG dX3_mark_56 (ctX3_62 _ rfl) ?_
      exact pm_iret hG hF dX3_mark_58 rfl (Nat.le_refl _) (Nat.le_refl _) ⟨_, rfl, _, _, rfl, rfl, h5⟩
    · refine pm_aloadn hG dX3_mark_39 rfl ?_
      refine pm_getf hG dX3_mark_40 (flX3_9 _ rfl) rfl rfl ?_
      refine pm_getf hG dX3_mark_43 (flX3_32 _ rfl) rfl rfl ?_
      refine pm_iloadn hG dX3_mark_46 rfl ?_
      refine pm_iconst (v := 4) hG dX3_mark_47 (by decide) ?_
      refine pm_callV (As := [.int v1, .int 4]) (rest := []) hG hR dX3_mark_48 (lkX3_35 _ rfl) okV_X9_get rfl rfl (tb_get (d := 3) rfl rfl (pm_tw_of 20 14 (by decide) (by decide) (by decide))) rfl rfl hdd (Nat.le_refl _) (Nat.le_refl _) (by decide) (pm_ki (fun v7 σ' cnt' hq => ?_))
      obtain ⟨I7, A7, rfl, rfl, h7⟩ := hv_id (kp := kp) (I := I5) (A := A5) h5 hq.2
      refine pm_iloadi hG dX3_mark_51 rfl ?_
      refine pm_icmp_eq (tgt := 59) hG dX3_mark_53 rfl (fun c8 => ?_) (fun c8 => ?_)
      · refine pm_aloadn hG dX3_mark_59 rfl ?_
        refine pm_getf hG dX3_mark_60 (flX3_9 _ rfl) rfl rfl ?_
        refine pm_getf hG dX3_mark_63 (flX3_63 _ rfl) rfl rfl ?_
        refine pm_iloadn hG dX3_mark_66 rfl ?_
        refine pm_iconst (v := 5) hG dX3_mark_67 (by decide) ?_
        refine pm_callV (As := [.int zb, .int 5]) (rest := []) hG hR dX3_mark_68 (lkX3_35 _ rfl) okV_X9_get rfl rfl (tb_get (d := 3) rfl rfl (pm_tw_of 20 6 (by decide) (by decide) (by decide))) rfl rfl hdd (Nat.le_refl _) (Nat.le_refl _) (by decide) (pm_ki (fun v9 σ' cnt' hq => ?_))
        obtain ⟨I9, A9, rfl, rfl, h9⟩ := hv_id (kp := kp) (I := I7) (A := A7) h7 hq.2
        refine pm_istoreXi (loc' := [some (.ref (B + 36)), some (.int za), some (.int zb), some (.int v1), some (.int v2), some (.int v9), none, none]) hG dX3_mark_71 (by decide) (pm_c1b rfl) rfl ?_
        refine pm_aloadn hG dX3_mark_73 rfl ?_
        refine pm_getf hG dX3_mark_74 (flX3_29 _ rfl) rfl rfl ?_
        refine pm_iloadn hG dX3_mark_77 rfl ?_
        refine pm_iconst (v := 4) hG dX3_mark_78 (by decide) ?_
        refine pm_callV (As := [.int za, .int 4]) (rest := []) hG hR dX3_mark_79 (lkX3_35 _ rfl) okV_X9_get rfl rfl (tb_get (d := 3) rfl rfl (pm_tw_of 40 12 (by decide) (by decide) (by decide))) rfl rfl hdd (Nat.le_refl _) (Nat.le_refl _) (by decide) (pm_ki (fun v10 σ' cnt' hq => ?_))
        obtain ⟨I10, A10, rfl, rfl, h10⟩ := hv_id (kp := kp) (I := I9) (A := A9) h9 hq.2
        refine pm_istoreXi (loc' := [some (.ref (B + 36)), some (.int za), some (.int zb), some (.int v1), some (.int v2), some (.int v9), some (.int v10), none]) hG dX3_mark_82 (by decide) (pm_c1b rfl) rfl ?_
        refine pm_aloadn hG dX3_mark_84 rfl ?_
        refine pm_iloadi hG dX3_mark_85 rfl ?_
        refine pm_callV (As := [.int v9]) (rest := []) hG hR dX3_mark_87 (lkX3_66 _ rfl) okV_X3_handsWith rfl rfl (g_X3_handsWith (d := 3) (by decide) h10) rfl rfl hdd (Nat.le_refl _) (Nat.le_refl _) (by decide) (pm_ki (fun v11 σ' cnt' hq => ?_))
        obtain ⟨I11, A11, rfl, rfl, h11⟩ := hq
        refine pm_aloadn hG dX3_mark_90 rfl ?_
        refine pm_getf hG dX3_mark_91 (flX3_9 _ rfl) rfl rfl ?_
        refine pm_iloadi hG dX3_mark_94 rfl ?_
        refine pm_callV (As := [.int v2]) (rest := [.int v11]) hG hR dX3_mark_96 (lkX3_49 _ rfl) okV_X7_livingIn rfl rfl (g_X7_livingIn (d := 3) (by decide) h11) rfl rfl hdd (Nat.le_refl _) (Nat.le_refl _) (by first | decide | exact Nat.le_of_ble_eq_true rfl) (pm_ki (fun v12 σ' cnt' hq => ?_))
        obtain ⟨I12, A12, rfl, rfl, h12⟩ := hq
        refine pm_iand hG dX3_mark_99 ?_
        refine pm_istoreXi (loc' := [some (.ref (B + 36)), some (.int za), some (.int zb), some (.int v1), some (.int v2), some (.int v9), some (.int v10), some (.int (v11 &&& v12))]) hG dX3_mark_100 (by decide) (pm_c1b rfl) rfl ?_
        refine pm_aloadn hG dX3_mark_102 rfl ?_
        refine pm_getf hG dX3_mark_103 (flX3_29 _ rfl) rfl rfl ?_
        refine pm_iloadn hG dX3_mark_106 rfl ?_
        refine pm_iconst (v := 5) hG dX3_mark_107 (by decide) ?_
        refine pm_iloadi hG dX3_mark_108 rfl ?_
        refine pm_if_ne (tgt := 118) hG dX3_mark_110 rfl (fun c13 => ?_) (fun c13 => ?_)
        · refine pm_aloadn hG dX3_mark_118 rfl ?_
          refine pm_getf hG dX3_mark_119 (flX3_29 _ rfl) rfl rfl ?_
          refine pm_iloadn hG dX3_mark_122 rfl ?_
          refine pm_iconst (v := 5) hG dX3_mark_123 (by decide) ?_
          refine pm_callV (As := [.int za, .int 5]) (rest := [.int 5, .int za, .ref (B + 14)]) hG hR dX3_mark_124 (lkX3_35 _ rfl) okV_X9_get rfl rfl (tb_get (d := 3) rfl rfl (pm_tw_of 40 12 (by decide) (by decide) (by decide))) rfl rfl hdd (Nat.le_refl _) (Nat.le_refl _) (by first | decide | exact Nat.le_of_ble_eq_true rfl) (pm_ki (fun v14 σ' cnt' hq => ?_))
          obtain ⟨I14, A14, rfl, rfl, h14⟩ := hv_id (kp := kp) (I := I12) (A := A12) h12 hq.2
          refine pm_iloadi hG dX3_mark_127 rfl ?_
          refine pm_iand hG dX3_mark_129 ?_
          refine pm_callV (As := [.int za, .int 5, .int (v14 &&& (v11 &&& v12))]) (rest := []) hG hR dX3_mark_130 (lkX3_45 _ rfl) okV_X9_set rfl rfl (tb_set (d := 3) rfl rfl (pm_tw_of 40 12 (by decide) (by decide) (by decide)) (by decide)) rfl rfl hdd (Nat.le_refl _) (Nat.le_refl _) (by decide) (pm_kv (fun σ' cnt' hq => ?_))
          obtain ⟨I15, A15, rfl, rfl, h15⟩ := hv_a15 (kp := kp) (I := I14) (A := A14) h14 hq
          refine pm_aloadn hG dX3_mark_133 rfl ?_
          refine pm_getf hG dX3_mark_134 (flX3_29 _ rfl) rfl rfl ?_
          refine pm_iloadn hG dX3_mark_137 rfl ?_
          refine pm_iconst (v := 4) hG dX3_mark_138 (by decide) ?_
          refine pm_iloadi hG dX3_mark_139 rfl ?_
          refine pm_iconst (v := 1) hG dX3_mark_141 (by decide) ?_
          refine pm_iloadi hG dX3_mark_142 rfl ?_
          refine pm_ishl hG dX3_mark_144 ?_
          refine pm_ior hG dX3_mark_145 ?_
          refine pm_callV (As := [.int za, .int 4, .int (v10 ||| (1 <<< (v9 &&& 31)))]) (rest := []) hG hR dX3_mark_146 (lkX3_45 _ rfl) okV_X9_set rfl rfl (tb_set (d := 3) rfl rfl (pm_tw_of 40 12 (by decide) (by decide) (by decide)) (by decide)) rfl rfl hdd (Nat.le_refl _) (Nat.le_refl _) (by decide) (pm_kv (fun σ' cnt' hq => ?_))
          obtain ⟨I16, A16, rfl, rfl, h16⟩ := hv_a15 (kp := kp) (I := I15) (A := A15) h15 hq
          refine pm_aloadn hG dX3_mark_149 rfl ?_
          refine pm_getf hG dX3_mark_150 (flX3_29 _ rfl) rfl rfl ?_
          refine pm_iloadn hG dX3_mark_153 rfl ?_
          refine pm_iconst (v := 4) hG dX3_mark_154 (by decide) ?_
          refine pm_callV (As := [.int za, .int 4]) (rest := []) hG hR dX3_mark_155 (lkX3_35 _ rfl) okV_X9_get rfl rfl (tb_get (d := 3) rfl rfl (pm_tw_of 40 12 (by decide) (by decide) (by decide))) rfl rfl hdd (Nat.le_refl _) (Nat.le_refl _) (by decide) (pm_ki (fun v17 σ' cnt' hq => ?_))
          obtain ⟨I17, A17, rfl, rfl, h17⟩ := hv_id (kp := kp) (I := I16) (A := A16) h16 hq.2
          refine pm_callS (As := [.int v17]) (rest := []) hG hR dX3_mark_158 (lkX3_69 _ rfl) okS_J6_bitCount_0f7a4 (gj_bitCount (d := 3)) rfl rfl hdd (Nat.le_refl _) (Nat.le_refl _) (by decide) (pm_ki (fun v18 σ' cnt' hq => ?_))
          obtain ⟨I18, A18, rfl, rfl, h18⟩ := hv_id (kp := kp) (I := I17) (A := A17) h17 hq
          exact pm_iret hG hF dX3_mark_161 rfl (Nat.le_refl _) (Nat.le_refl _) ⟨_, rfl, _, _, rfl, rfl, h18⟩
        · refine pm_iloadi hG dX3_mark_113 rfl ?_
          refine pm_goto (tgt := 130) hG dX3_mark_115 rfl ?_
          refine pm_callV (As := [.int za, .int 5, .int (v11 &&& v12)]) (rest := []) hG hR dX3_mark_130 (lkX3_45 _ rfl) okV_X9_set rfl rfl (tb_set (d := 3) rfl rfl (pm_tw_of 40 12 (by decide) (by decide) (by decide)) (by decide)) rfl rfl hdd (Nat.le_refl _) (Nat.le_refl _) (by decide) (pm_kv (fun σ' cnt' hq => ?_))
          obtain ⟨I19, A19, rfl, rfl, h19⟩ := hv_a15 (kp := kp) (I := I12) (A := A12) h12 hq
          refine pm_aloadn hG dX3_mark_133 rfl ?_
          refine pm_getf hG dX3_mark_134 (flX3_29 _ rfl) rfl rfl ?_
          refine pm_iloadn hG dX3_mark_137 rfl ?_
          refine pm_iconst (v := 4) hG dX3_mark_138 (by decide) ?_
          refine pm_iloadi hG dX3_mark_139 rfl ?_
          refine pm_iconst (v := 1) hG dX3_mark_141 (by decide) ?_
          refine pm_iloadi hG dX3_mark_142 rfl ?_
          refine pm_ishl hG dX3_mark_144 ?_
          refine pm_ior hG dX3_mark_145 ?_
          refine pm_callV (As := [.int za, .int 4, .int (v10 ||| (1 <<< (v9 &&& 31)))]) (rest := []) hG hR dX3_mark_146 (lkX3_45 _ rfl) okV_X9_set rfl rfl (tb_set (d := 3) rfl rfl (pm_tw_of 40 12 (by decide) (by decide) (by decide)) (by decide)) rfl rfl hdd (Nat.le_refl _) (Nat.le_refl _) (by decide) (pm_kv (fun σ' cnt' hq => ?_))
          obtain ⟨I20, A20, rfl, rfl, h20⟩ := hv_a15 (kp := kp) (I := I19) (A := A19) h19 hq
          refine pm_aloadn hG dX3_mark_149 rfl ?_
          refine pm_getf hG dX3_mark_150 (flX3_29 _ rfl) rfl rfl ?_
          refine pm_iloadn hG dX3_mark_153 rfl ?_
          refine pm_iconst (v := 4) hG dX3_mark_154 (by decide) ?_
          refine pm_callV (As := [.int za, .int 4]) (rest := []) hG hR dX3_mark_155 (lkX3_35 _ rfl) okV_X9_get rfl rfl (tb_get (d := 3) rfl rfl (pm_tw_of 40 12 (by decide) (by decide) (by decide))) rfl rfl hdd (Nat.le_refl _) (Nat.le_refl _) (by decide) (pm_ki (fun v21 σ' cnt' hq => ?_))
          obtain ⟨I21, A21, rfl, rfl, h21⟩ := hv_id (kp := kp) (I := I20) (A := A20) h20 hq.2
          refine pm_callS (As := [.int v21]) (rest := []) hG hR dX3_mark_158 (lkX3_69 _ rfl) okS_J6_bitCount_0f7a4 (gj_bitCount (d := 3)) rfl rfl hdd (Nat.le_refl _) (Nat.le_refl _) (by decide) (pm_ki (fun v22 σ' cnt' hq => ?_))
          obtain ⟨I22, A22, rfl, rfl, h22⟩ := hv_id (kp := kp) (I := I21) (A := A21) h21 hq
          exact pm_iret hG hF dX3_mark_161 rfl (Nat.le_refl _) (Nat.le_refl _) ⟨_, rfl, _, _, rfl, rfl, h22⟩
      · refine pm_ldc hG dX3_mark_56 (ctX3_62 _ rfl) ?_
        exact pm_iret hG hF dX3_mark_58 rfl (Nat.le_refl _) (Nat.le_refl _) ⟨_, rfl, _, _, rfl, rfl, h7⟩

set_option maxRecDepth 100000 in
set_option maxHeartbeats 4000000 in
theorem g_X11_press {ε : Nat → Int32} {d B cnt : Nat} {kp : pm_KP} {ρ : pm_S} {I : Nat → Int32} {A : Nat → Nat → Int32} {za zb : Int32} (hdd : 5 ≤ d) (h : gq ε I) : pm_met mX11_press d 0 0 B [.ref (B + 0), .int za, .int zb] cnt (pm_two (cl_L B kp I A) ρ) (pm_Qi (fun _ σ' cnt' => hvq ε B kp ρ cnt σ' cnt')) := by
  refine pm_enter 0 (by decide) (Nat.le_of_ble_eq_true rfl) rfl (fun G hG hR hF => ?_)
  refine pm_aloadn hG dX11_press_0 rfl ?_
  refine pm_getf hG dX11_press_1 (flX11_12 _ rfl) rfl rfl ?_
  refine pm_getf hG dX11_press_4 (flX11_224 _ rfl) rfl rfl ?_
  refine pm_iloadn hG dX11_press_7 rfl ?_
  refine pm_callV (As := [.int za]) (rest := []) hG hR dX11_press_8 (lkX11_101 _ rfl) okV_X9_has rfl rfl (tb_has (d := 4) rfl) rfl rfl hdd (Nat.le_refl _) (Nat.le_refl _) (by decide) (pm_ki (fun v1 σ' cnt' hq => ?_))
  have b1 := pm_b01 hq.1
  obtain ⟨I1, A1, rfl, rfl, h1⟩ := hv_id (kp := kp) (I := I) (A := A) h hq.2
  refine pm_if_eq (tgt := 28) hG dX11_press_11 rfl (fun c2 => ?_) (fun c2 => ?_)
  · refine pm_aloadn hG dX11_press_28 rfl ?_
    refine pm_ldc hG dX11_press_29 (ctX11_109 _ rfl) ?_
    refine pm_callV (As := [.int (-1000001)]) (rest := []) hG hR dX11_press_31 (lkX11_97 _ rfl) okV_X11_told rfl rfl (sx_told (d := 4) (by decide) rfl rfl) rfl rfl hdd (Nat.le_refl _) (Nat.le_refl _) (by decide) (pm_ki (fun v3 σ' cnt' hq => ?_))
    obtain ⟨-, ⟨g3, hg3⟩, hc3⟩ := hq
    obtain ⟨I3, A3, rfl, rfl, h3⟩ := hv_a53 (kp := kp) (I := I1) (A := A1) h1 ⟨hg3, hc3⟩
    exact pm_iret hG hF dX11_press_34 rfl (Nat.le_refl _) (Nat.le_refl _) ⟨_, rfl, _, _, rfl, rfl, h3⟩
  · refine pm_aloadn hG dX11_press_14 rfl ?_
    refine pm_getf hG dX11_press_15 (flX11_12 _ rfl) rfl rfl ?_
    refine pm_getf hG dX11_press_18 (flX11_161 _ rfl) rfl rfl ?_
    refine pm_iloadn hG dX11_press_21 rfl ?_
    refine pm_callV (As := [.int zb]) (rest := []) hG hR dX11_press_22 (lkX11_101 _ rfl) okV_X9_has rfl rfl (tb_has (d := 4) rfl) rfl rfl hdd (Nat.le_refl _) (Nat.le_refl _) (by decide) (pm_ki (fun v4 σ' cnt' hq => ?_))
    have b4 := pm_b01 hq.1
    obtain ⟨I4, A4, rfl, rfl, h4⟩ := hv_id (kp := kp) (I := I1) (A := A1) h1 hq.2
    refine pm_if_ne (tgt := 35) hG dX11_press_25 rfl (fun c5 => ?_) (fun c5 => ?_)
    · refine pm_aloadn hG dX11_press_35 rfl ?_
      refine pm_aloadn hG dX11_press_36 rfl ?_
      refine pm_getf hG dX11_press_37 (flX11_12 _ rfl) rfl rfl ?_
      refine pm_iloadn hG dX11_press_40 rfl ?_
      refine pm_iconst (v := 2) hG dX11_press_41 (by decide) ?_
      refine pm_callV (As := [.int zb, .int 2]) (rest := [.ref (B + 0)]) hG hR dX11_press_42 (lkX11_180 _ rfl) okV_X7_isOfKind rfl rfl (g_X7_isOfKind (d := 4) (by decide) h4) rfl rfl hdd (Nat.le_refl _) (Nat.le_refl _) (by first | decide | exact Nat.le_of_ble_eq_true rfl) (pm_ki (fun v6 σ' cnt' hq => ?_))
      obtain ⟨b6, I6, A6, rfl, rfl, h6⟩ := hq
      refine pm_if_eq (tgt := 60) hG dX11_press_45 rfl (fun c7 => ?_) (fun c7 => ?_)
      · refine pm_ldc hG dX11_press_60 (ctX11_184 _ rfl) ?_
        refine pm_callV (As := [.int (-1000005)]) (rest := []) hG hR dX11_press_62 (lkX11_97 _ rfl) okV_X11_told rfl rfl (sx_told (d := 4) (by decide) rfl rfl) rfl rfl hdd (Nat.le_refl _) (Nat.le_refl _) (by decide) (pm_ki (fun v8 σ' cnt' hq => ?_))
        obtain ⟨-, ⟨g8, hg8⟩, hc8⟩ := hq
        obtain ⟨I8, A8, rfl, rfl, h8⟩ := hv_a53 (kp := kp) (I := I6) (A := A6) h6 ⟨hg8, hc8⟩
        exact pm_iret hG hF dX11_press_65 rfl (Nat.le_refl _) (Nat.le_refl _) ⟨_, rfl, _, _, rfl, rfl, h8⟩
      · refine pm_aloadn hG dX11_press_48 rfl ?_
        refine pm_getf hG dX11_press_49 (flX11_39 _ rfl) rfl rfl ?_
        refine pm_iloadn hG dX11_press_52 rfl ?_
        refine pm_iloadn hG dX11_press_53 rfl ?_
        refine pm_callV (As := [.int za, .int zb]) (rest := [.ref (B + 0)]) hG hR dX11_press_54 (lkX11_233 _ rfl) okV_X3_mark rfl rfl (g_X3_mark (d := 4) (by decide) h6) rfl rfl hdd (Nat.le_refl _) (Nat.le_refl _) (by first | decide | exact Nat.le_of_ble_eq_true rfl) (pm_ki (fun v9 σ' cnt' hq => ?_))
        obtain ⟨I9, A9, rfl, rfl, h9⟩ := hq
        refine pm_goto (tgt := 62) hG dX11_press_57 rfl ?_
        refine pm_callV (As := [.int v9]) (rest := []) hG hR dX11_press_62 (lkX11_97 _ rfl) okV_X11_told rfl rfl (sx_told (d := 4) (by decide) rfl rfl) rfl rfl hdd (Nat.le_refl _) (Nat.le_refl _) (by decide) (pm_ki (fun v10 σ' cnt' hq => ?_))
        obtain ⟨-, ⟨g10, hg10⟩, hc10⟩ := hq
        obtain ⟨I10, A10, rfl, rfl, h10⟩ := hv_a53 (kp := kp) (I := I9) (A := A9) h9 ⟨hg10, hc10⟩
        exact pm_iret hG hF dX11_press_65 rfl (Nat.le_refl _) (Nat.le_refl _) ⟨_, rfl, _, _, rfl, rfl, h10⟩
    · refine pm_aloadn hG dX11_press_28 rfl ?_
      refine pm_ldc hG dX11_press_29 (ctX11_109 _ rfl) ?_
      refine pm_callV (As := [.int (-1000001)]) (rest := []) hG hR dX11_press_31 (lkX11_97 _ rfl) okV_X11_told rfl rfl (sx_told (d := 4) (by decide) rfl rfl) rfl rfl hdd (Nat.le_refl _) (Nat.le_refl _) (by decide) (pm_ki (fun v11 σ' cnt' hq => ?_))
      obtain ⟨-, ⟨g11, hg11⟩, hc11⟩ := hq
      obtain ⟨I11, A11, rfl, rfl, h11⟩ := hv_a53 (kp := kp) (I := I4) (A := A4) h4 ⟨hg11, hc11⟩
      exact pm_iret hG hF dX11_press_34 rfl (Nat.le_refl _) (Nat.le_refl _) ⟨_, rfl, _, _, rfl, rfl, h11⟩

set_option maxRecDepth 100000 in
set_option maxHeartbeats 4000000 in
theorem g_X11_price {ε : Nat → Int32} {d B cnt : Nat} {kp : pm_KP} {ρ : pm_S} {I : Nat → Int32} {A : Nat → Nat → Int32} {za zb : Int32} (hdd : 2 ≤ d) (h : gq ε I) : pm_met mX11_price d 0 0 B [.ref (B + 0), .int za, .int zb] cnt (pm_two (cl_L B kp I A) ρ) (pm_Qi (fun _ σ' cnt' => hvq ε B kp ρ cnt σ' cnt')) := by
  refine pm_enter 0 (by decide) (Nat.le_of_ble_eq_true rfl) rfl (fun G hG hR hF => ?_)
  refine pm_aloadn hG dX11_price_0 rfl ?_
  refine pm_getf hG dX11_price_1 (flX11_12 _ rfl) rfl rfl ?_
  refine pm_getf hG dX11_price_4 (flX11_128 _ rfl) rfl rfl ?_
  refine pm_iloadn hG dX11_price_7 rfl ?_
  refine pm_callV (As := [.int za]) (rest := []) hG hR dX11_price_8 (lkX11_101 _ rfl) okV_X9_has rfl rfl (tb_has (d := 1) rfl) rfl rfl hdd (Nat.le_refl _) (Nat.le_refl _) (by decide) (pm_ki (fun v1 σ' cnt' hq => ?_))
  have b1 := pm_b01 hq.1
  obtain ⟨I1, A1, rfl, rfl, h1⟩ := hv_id (kp := kp) (I := I) (A := A) h hq.2
  refine pm_if_eq (tgt := 25) hG dX11_price_11 rfl (fun c2 => ?_) (fun c2 => ?_)
  · refine pm_aloadn hG dX11_price_25 rfl ?_
    refine pm_ldc hG dX11_price_26 (ctX11_109 _ rfl) ?_
    refine pm_callV (As := [.int (-1000001)]) (rest := []) hG hR dX11_price_28 (lkX11_97 _ rfl) okV_X11_told rfl rfl (sx_told (d := 1) (by decide) rfl rfl) rfl rfl hdd (Nat.le_refl _) (Nat.le_refl _) (by decide) (pm_ki (fun v3 σ' cnt' hq => ?_))
    obtain ⟨-, ⟨g3, hg3⟩, hc3⟩ := hq
    obtain ⟨I3, A3, rfl, rfl, h3⟩ := hv_a53 (kp := kp) (I := I1) (A := A1) h1 ⟨hg3, hc3⟩
    exact pm_iret hG hF dX11_price_31 rfl (Nat.le_refl _) (Nat.le_refl _) ⟨_, rfl, _, _, rfl, rfl, h3⟩
  · refine pm_iloadn hG dX11_price_14 rfl ?_
    refine pm_iconst (v := 1) hG dX11_price_15 (by decide) ?_
    refine pm_sipush (v := 999) hG dX11_price_16 (by decide) ?_
    refine pm_callS (As := [.int zb, .int 1, .int 999]) (rest := []) hG hR dX11_price_19 (lkX11_105 _ rfl) okS_X11_isOutside (sx_isOutside (d := 1)) rfl rfl hdd (Nat.le_refl _) (Nat.le_refl _) (by decide) (pm_ki (fun v4 σ' cnt' hq => ?_))
    have o4 := hq.1
    have b4 := pm_b10 hq.1
    obtain ⟨I4, A4, rfl, rfl, h4⟩ := hv_id (kp := kp) (I := I1) (A := A1) h1 hq.2
    refine pm_if_eq (tgt := 32) hG dX11_price_22 rfl (fun c5 => ?_) (fun c5 => ?_)
    · refine pm_aloadn hG dX11_price_32 rfl ?_
      refine pm_getf hG dX11_price_33 (flX11_12 _ rfl) rfl rfl ?_
      refine pm_getf hG dX11_price_36 (flX11_128 _ rfl) rfl rfl ?_
      refine pm_iloadn hG dX11_price_39 rfl ?_
      refine pm_bipush (v := 12) hG dX11_price_40 (by decide) ?_
      refine pm_iloadn hG dX11_price_42 rfl ?_
      refine pm_callV (As := [.int za, .int 12, .int zb]) (rest := []) hG hR dX11_price_43 (lkX11_248 _ rfl) okV_X9_swap rfl rfl (tb_swap (d := 1) (rows := nI 20) (width := nI 14) (f := cmx kp.2 (A4 7)) (by decide) rfl rfl (pm_tw_of 20 14 (by decide) (by decide) (by decide)) (by decide)) rfl rfl hdd (Nat.le_refl _) (Nat.le_refl _) (by decide) (pm_ki (fun v6 σ' cnt' hq => ?_))
      obtain ⟨I6, A6, rfl, rfl, h6⟩ := hv_s7 (kp := kp) (I := I4) (A := A4) (ts7 12 (by decide) (by decide)) h4 hq.2
      exact pm_iret hG hF dX11_price_46 rfl (Nat.le_refl _) (Nat.le_refl _) ⟨_, rfl, _, _, rfl, rfl, h6⟩
    · refine pm_aloadn hG dX11_price_25 rfl ?_
      refine pm_ldc hG dX11_price_26 (ctX11_109 _ rfl) ?_
      refine pm_callV (As := [.int (-1000001)]) (rest := []) hG hR dX11_price_28 (lkX11_97 _ rfl) okV_X11_told rfl rfl (sx_told (d := 1) (by decide) rfl rfl) rfl rfl hdd (Nat.le_refl _) (Nat.le_refl _) (by decide) (pm_ki (fun v7 σ' cnt' hq => ?_))
      obtain ⟨-, ⟨g7, hg7⟩, hc7⟩ := hq
      obtain ⟨I7, A7, rfl, rfl, h7⟩ := hv_a53 (kp := kp) (I := I4) (A := A4) h4 ⟨hg7, hc7⟩
      exact pm_iret hG hF dX11_price_31 rfl (Nat.le_refl _) (Nat.le_refl _) ⟨_, rfl, _, _, rfl, rfl, h7⟩

set_option maxRecDepth 100000 in
set_option maxHeartbeats 4000000 in
theorem g_X8_setNumber {ε : Nat → Int32} {d B cnt : Nat} {kp : pm_KP} {ρ : pm_S} {I : Nat → Int32} {A : Nat → Nat → Int32} {za zb zc : Int32} (hdd : 2 ≤ d) (h : gq ε I) : pm_met mX8_setNumber d 0 0 B [.ref (B + 48), .int za, .int zb, .int zc] cnt (pm_two (cl_L B kp I A) ρ) (pm_Qv (fun σ' cnt' => hvq ε B kp ρ cnt σ' cnt')) := by
  refine pm_enter 1 (by decide) (Nat.le_of_ble_eq_true rfl) rfl (fun G hG hR hF => ?_)
  refine pm_aloadn hG dX8_setNumber_0 rfl ?_
  refine pm_iloadn hG dX8_setNumber_1 rfl ?_
  refine pm_callV (As := [.int za]) (rest := []) hG hR dX8_setNumber_2 (lkX8_27 _ rfl) okV_X8_bitsOf rfl rfl (g_X8_bitsOf (d := 1) (by decide) h) rfl rfl hdd (Nat.le_refl _) (Nat.le_refl _) (by decide) (pm_ki (fun v1 σ' cnt' hq => ?_))
  obtain ⟨I1, A1, rfl, rfl, h1⟩ := hq
  refine pm_istoreXi (loc' := [some (.ref (B + 48)), some (.int za), some (.int zb), some (.int zc), some (.int v1)]) hG dX8_setNumber_5 (by decide) (pm_c1b rfl) rfl ?_
  refine pm_aloadn hG dX8_setNumber_7 rfl ?_
  refine pm_getf hG dX8_setNumber_8 (flX8_23 _ rfl) rfl rfl ?_
  refine pm_iloadn hG dX8_setNumber_11 rfl ?_
  refine pm_iloadn hG dX8_setNumber_12 rfl ?_
  refine pm_iloadi hG dX8_setNumber_13 rfl ?_
  refine pm_bipush (v := 8) hG dX8_setNumber_15 (by decide) ?_
  refine pm_icmp_ne (tgt := 25) hG dX8_setNumber_17 rfl (fun c2 => ?_) (fun c2 => ?_)
  · refine pm_iloadi hG dX8_setNumber_25 rfl ?_
    refine pm_bipush (v := 16) hG dX8_setNumber_27 (by decide) ?_
    refine pm_icmp_ne (tgt := 37) hG dX8_setNumber_29 rfl (fun c3 => ?_) (fun c3 => ?_)
    · refine pm_iloadn hG dX8_setNumber_37 rfl ?_
      refine pm_callV (As := [.int za, .int zb, .int zc]) (rest := []) hG hR dX8_setNumber_38 (lkX8_31 _ rfl) okV_X9_set rfl rfl (tb_set (d := 1) rfl rfl (pm_tw_of 4 24 (by decide) (by decide) (by decide)) (by decide)) rfl rfl hdd (Nat.le_refl _) (Nat.le_refl _) (by decide) (pm_kv (fun σ' cnt' hq => ?_))
      obtain ⟨I4, A4, rfl, rfl, h4⟩ := hv_a52 (kp := kp) (I := I1) (A := A1) h1 hq
      exact pm_vret hG hF dX8_setNumber_41 rfl (Nat.le_refl _) (Nat.le_refl _) ⟨rfl, _, _, rfl, rfl, h4⟩
    · refine pm_iloadn hG dX8_setNumber_32 rfl ?_
      refine pm_i2s hG dX8_setNumber_33 rfl ?_
      refine pm_goto (tgt := 38) hG dX8_setNumber_34 rfl ?_
      refine pm_callV (As := [.int za, .int zb, .int zc.toInt16.toInt32]) (rest := []) hG hR dX8_setNumber_38 (lkX8_31 _ rfl) okV_X9_set rfl rfl (tb_set (d := 1) rfl rfl (pm_tw_of 4 24 (by decide) (by decide) (by decide)) (by decide)) rfl rfl hdd (Nat.le_refl _) (Nat.le_refl _) (by decide) (pm_kv (fun σ' cnt' hq => ?_))
      obtain ⟨I5, A5, rfl, rfl, h5⟩ := hv_a52 (kp := kp) (I := I1) (A := A1) h1 hq
      exact pm_vret hG hF dX8_setNumber_41 rfl (Nat.le_refl _) (Nat.le_refl _) ⟨rfl, _, _, rfl, rfl, h5⟩
  · refine pm_iloadn hG dX8_setNumber_20 rfl ?_
    refine pm_i2b hG dX8_setNumber_21 rfl ?_
    refine pm_goto (tgt := 38) hG dX8_setNumber_22 rfl ?_
    refine pm_callV (As := [.int za, .int zb, .int zc.toInt8.toInt32]) (rest := []) hG hR dX8_setNumber_38 (lkX8_31 _ rfl) okV_X9_set rfl rfl (tb_set (d := 1) rfl rfl (pm_tw_of 4 24 (by decide) (by decide) (by decide)) (by decide)) rfl rfl hdd (Nat.le_refl _) (Nat.le_refl _) (by decide) (pm_kv (fun σ' cnt' hq => ?_))
    obtain ⟨I6, A6, rfl, rfl, h6⟩ := hv_a52 (kp := kp) (I := I1) (A := A1) h1 hq
    exact pm_vret hG hF dX8_setNumber_41 rfl (Nat.le_refl _) (Nat.le_refl _) ⟨rfl, _, _, rfl, rfl, h6⟩

set_option maxRecDepth 100000 in
set_option maxHeartbeats 4000000 in
theorem g_X11_put {ε : Nat → Int32} {d B cnt : Nat} {kp : pm_KP} {ρ : pm_S} {I : Nat → Int32} {A : Nat → Nat → Int32} {za zb zc : Int32} (hdd : 3 ≤ d) (h : gq ε I) : pm_met mX11_put d 0 0 B [.ref (B + 0), .int za, .int zb, .int zc] cnt (pm_two (cl_L B kp I A) ρ) (pm_Qi (fun _ σ' cnt' => hvq ε B kp ρ cnt σ' cnt')) := by
  refine pm_enter 0 (by decide) (Nat.le_of_ble_eq_true rfl) rfl (fun G hG hR hF => ?_)
  refine pm_aloadn hG dX11_put_0 rfl ?_
  refine pm_getf hG dX11_put_1 (flX11_74 _ rfl) rfl rfl ?_
  refine pm_iloadn hG dX11_put_4 rfl ?_
  refine pm_callV (As := [.int za]) (rest := []) hG hR dX11_put_5 (lkX11_251 _ rfl) okV_X8_has rfl rfl (g_X8_has (d := 2) (by decide) h) rfl rfl hdd (Nat.le_refl _) (Nat.le_refl _) (by decide) (pm_ki (fun v1 σ' cnt' hq => ?_))
  obtain ⟨b1, I1, A1, rfl, rfl, h1⟩ := hq
  refine pm_if_ne (tgt := 18) hG dX11_put_8 rfl (fun c2 => ?_) (fun c2 => ?_)
  · refine pm_aloadn hG dX11_put_18 rfl ?_
    refine pm_getf hG dX11_put_19 (flX11_74 _ rfl) rfl rfl ?_
    refine pm_iloadn hG dX11_put_22 rfl ?_
    refine pm_callV (As := [.int za]) (rest := []) hG hR dX11_put_23 (lkX11_255 _ rfl) okV_X8_isMissing rfl rfl (g_X8_isMissing (d := 2) (by decide) h1) rfl rfl hdd (Nat.le_refl _) (Nat.le_refl _) (by decide) (pm_ki (fun v3 σ' cnt' hq => ?_))
    obtain ⟨b3, I3, A3, rfl, rfl, h3⟩ := hq
    refine pm_if_eq (tgt := 36) hG dX11_put_26 rfl (fun c4 => ?_) (fun c4 => ?_)
    · refine pm_iloadn hG dX11_put_36 rfl ?_
      refine pm_if_lt (tgt := 52) hG dX11_put_37 rfl (fun c5 => ?_) (fun c5 => ?_)
      · refine pm_aloadn hG dX11_put_52 rfl ?_
        refine pm_ldc hG dX11_put_53 (ctX11_109 _ rfl) ?_
        refine pm_callV (As := [.int (-1000001)]) (rest := []) hG hR dX11_put_55 (lkX11_97 _ rfl) okV_X11_told rfl rfl (sx_told (d := 2) (by decide) rfl rfl) rfl rfl hdd (Nat.le_refl _) (Nat.le_refl _) (by decide) (pm_ki (fun v6 σ' cnt' hq => ?_))
        obtain ⟨-, ⟨g6, hg6⟩, hc6⟩ := hq
        obtain ⟨I6, A6, rfl, rfl, h6⟩ := hv_a53 (kp := kp) (I := I3) (A := A3) h3 ⟨hg6, hc6⟩
        exact pm_iret hG hF dX11_put_58 rfl (Nat.le_refl _) (Nat.le_refl _) ⟨_, rfl, _, _, rfl, rfl, h6⟩
      · refine pm_iloadn hG dX11_put_40 rfl ?_
        refine pm_aloadn hG dX11_put_41 rfl ?_
        refine pm_getf hG dX11_put_42 (flX11_74 _ rfl) rfl rfl ?_
        refine pm_iloadn hG dX11_put_45 rfl ?_
        refine pm_callV (As := [.int za]) (rest := [.int zb]) hG hR dX11_put_46 (lkX11_261 _ rfl) okV_X8_sizeOf rfl rfl (g_X8_sizeOf (d := 2) (by decide) h3) rfl rfl hdd (Nat.le_refl _) (Nat.le_refl _) (by first | decide | exact Nat.le_of_ble_eq_true rfl) (pm_ki (fun v7 σ' cnt' hq => ?_))
        obtain ⟨I7, A7, rfl, rfl, h7⟩ := hq
        refine pm_icmp_lt (tgt := 59) hG dX11_put_49 rfl (fun c8 => ?_) (fun c8 => ?_)
        · refine pm_aloadn hG dX11_put_59 rfl ?_
          refine pm_getf hG dX11_put_60 (flX11_74 _ rfl) rfl rfl ?_
          refine pm_iloadn hG dX11_put_63 rfl ?_
          refine pm_iloadn hG dX11_put_64 rfl ?_
          refine pm_iloadn hG dX11_put_65 rfl ?_
          refine pm_callV (As := [.int za, .int zb, .int zc]) (rest := []) hG hR dX11_put_66 (lkX11_367 _ rfl) okV_X8_setNumber rfl rfl (g_X8_setNumber (d := 2) (by decide) h7) rfl rfl hdd (Nat.le_refl _) (Nat.le_refl _) (by decide) (pm_kv (fun σ' cnt' hq => ?_))
          obtain ⟨I9, A9, rfl, rfl, h9⟩ := hq
          refine pm_iconst (v := 1) hG dX11_put_69 (by decide) ?_
          exact pm_iret hG hF dX11_put_70 rfl (Nat.le_refl _) (Nat.le_refl _) ⟨_, rfl, _, _, rfl, rfl, h9⟩
        · refine pm_aloadn hG dX11_put_52 rfl ?_
          refine pm_ldc hG dX11_put_53 (ctX11_109 _ rfl) ?_
          refine pm_callV (As := [.int (-1000001)]) (rest := []) hG hR dX11_put_55 (lkX11_97 _ rfl) okV_X11_told rfl rfl (sx_told (d := 2) (by decide) rfl rfl) rfl rfl hdd (Nat.le_refl _) (Nat.le_refl _) (by decide) (pm_ki (fun v10 σ' cnt' hq => ?_))
          obtain ⟨-, ⟨g10, hg10⟩, hc10⟩ := hq
          obtain ⟨I10, A10, rfl, rfl, h10⟩ := hv_a53 (kp := kp) (I := I7) (A := A7) h7 ⟨hg10, hc10⟩
          exact pm_iret hG hF dX11_put_58 rfl (Nat.le_refl _) (Nat.le_refl _) ⟨_, rfl, _, _, rfl, rfl, h10⟩
    · refine pm_aloadn hG dX11_put_29 rfl ?_
      refine pm_ldc hG dX11_put_30 (ctX11_223 _ rfl) ?_
      refine pm_callV (As := [.int (-1000002)]) (rest := []) hG hR dX11_put_32 (lkX11_97 _ rfl) okV_X11_told rfl rfl (sx_told (d := 2) (by decide) rfl rfl) rfl rfl hdd (Nat.le_refl _) (Nat.le_refl _) (by decide) (pm_ki (fun v11 σ' cnt' hq => ?_))
      obtain ⟨-, ⟨g11, hg11⟩, hc11⟩ := hq
      obtain ⟨I11, A11, rfl, rfl, h11⟩ := hv_a53 (kp := kp) (I := I3) (A := A3) h3 ⟨hg11, hc11⟩
      exact pm_iret hG hF dX11_put_35 rfl (Nat.le_refl _) (Nat.le_refl _) ⟨_, rfl, _, _, rfl, rfl, h11⟩
  · refine pm_aloadn hG dX11_put_11 rfl ?_
    refine pm_ldc hG dX11_put_12 (ctX11_109 _ rfl) ?_
    refine pm_callV (As := [.int (-1000001)]) (rest := []) hG hR dX11_put_14 (lkX11_97 _ rfl) okV_X11_told rfl rfl (sx_told (d := 2) (by decide) rfl rfl) rfl rfl hdd (Nat.le_refl _) (Nat.le_refl _) (by decide) (pm_ki (fun v12 σ' cnt' hq => ?_))
    obtain ⟨-, ⟨g12, hg12⟩, hc12⟩ := hq
    obtain ⟨I12, A12, rfl, rfl, h12⟩ := hv_a53 (kp := kp) (I := I1) (A := A1) h1 ⟨hg12, hc12⟩
    exact pm_iret hG hF dX11_put_17 rfl (Nat.le_refl _) (Nat.le_refl _) ⟨_, rfl, _, _, rfl, rfl, h12⟩

set_option maxRecDepth 100000 in
set_option maxHeartbeats 4000000 in
theorem g_X11_rent {ε : Nat → Int32} {d B cnt : Nat} {kp : pm_KP} {ρ : pm_S} {I : Nat → Int32} {A : Nat → Nat → Int32} {za zb : Int32} (hdd : 2 ≤ d) (h : gq ε I) : pm_met mX11_rent d 0 0 B [.ref (B + 0), .int za, .int zb] cnt (pm_two (cl_L B kp I A) ρ) (pm_Qi (fun _ σ' cnt' => hvq ε B kp ρ cnt σ' cnt')) := by
  refine pm_enter 0 (by decide) (Nat.le_of_ble_eq_true rfl) rfl (fun G hG hR hF => ?_)
  refine pm_aloadn hG dX11_rent_0 rfl ?_
  refine pm_getf hG dX11_rent_1 (flX11_12 _ rfl) rfl rfl ?_
  refine pm_getf hG dX11_rent_4 (flX11_82 _ rfl) rfl rfl ?_
  refine pm_iloadn hG dX11_rent_7 rfl ?_
  refine pm_callV (As := [.int za]) (rest := []) hG hR dX11_rent_8 (lkX11_101 _ rfl) okV_X9_has rfl rfl (tb_has (d := 1) rfl) rfl rfl hdd (Nat.le_refl _) (Nat.le_refl _) (by decide) (pm_ki (fun v1 σ' cnt' hq => ?_))
  have b1 := pm_b01 hq.1
  obtain ⟨I1, A1, rfl, rfl, h1⟩ := hv_id (kp := kp) (I := I) (A := A) h hq.2
  refine pm_if_eq (tgt := 25) hG dX11_rent_11 rfl (fun c2 => ?_) (fun c2 => ?_)
  · refine pm_aloadn hG dX11_rent_25 rfl ?_
    refine pm_ldc hG dX11_rent_26 (ctX11_109 _ rfl) ?_
    refine pm_callV (As := [.int (-1000001)]) (rest := []) hG hR dX11_rent_28 (lkX11_97 _ rfl) okV_X11_told rfl rfl (sx_told (d := 1) (by decide) rfl rfl) rfl rfl hdd (Nat.le_refl _) (Nat.le_refl _) (by decide) (pm_ki (fun v3 σ' cnt' hq => ?_))
    obtain ⟨-, ⟨g3, hg3⟩, hc3⟩ := hq
    obtain ⟨I3, A3, rfl, rfl, h3⟩ := hv_a53 (kp := kp) (I := I1) (A := A1) h1 ⟨hg3, hc3⟩
    exact pm_iret hG hF dX11_rent_31 rfl (Nat.le_refl _) (Nat.le_refl _) ⟨_, rfl, _, _, rfl, rfl, h3⟩
  · refine pm_iloadn hG dX11_rent_14 rfl ?_
    refine pm_iconst (v := 0) hG dX11_rent_15 (by decide) ?_
    refine pm_sipush (v := 999) hG dX11_rent_16 (by decide) ?_
    refine pm_callS (As := [.int zb, .int 0, .int 999]) (rest := []) hG hR dX11_rent_19 (lkX11_105 _ rfl) okS_X11_isOutside (sx_isOutside (d := 1)) rfl rfl hdd (Nat.le_refl _) (Nat.le_refl _) (by decide) (pm_ki (fun v4 σ' cnt' hq => ?_))
    have o4 := hq.1
    have b4 := pm_b10 hq.1
    obtain ⟨I4, A4, rfl, rfl, h4⟩ := hv_id (kp := kp) (I := I1) (A := A1) h1 hq.2
    refine pm_if_eq (tgt := 32) hG dX11_rent_22 rfl (fun c5 => ?_) (fun c5 => ?_)
    · refine pm_aloadn hG dX11_rent_32 rfl ?_
      refine pm_getf hG dX11_rent_33 (flX11_12 _ rfl) rfl rfl ?_
      refine pm_getf hG dX11_rent_36 (flX11_82 _ rfl) rfl rfl ?_
      refine pm_iloadn hG dX11_rent_39 rfl ?_
      refine pm_iconst (v := 0) hG dX11_rent_40 (by decide) ?_
      refine pm_iloadn hG dX11_rent_41 rfl ?_
      refine pm_callV (As := [.int za, .int 0, .int zb]) (rest := []) hG hR dX11_rent_42 (lkX11_248 _ rfl) okV_X9_swap rfl rfl (tb_swap (d := 1) (by decide) rfl rfl (pm_tw_of 10 3 (by decide) (by decide) (by decide)) (by decide)) rfl rfl hdd (Nat.le_refl _) (Nat.le_refl _) (by decide) (pm_ki (fun v6 σ' cnt' hq => ?_))
      obtain ⟨I6, A6, rfl, rfl, h6⟩ := hv_a3 (kp := kp) (I := I4) (A := A4) h4 hq.2
      exact pm_iret hG hF dX11_rent_45 rfl (Nat.le_refl _) (Nat.le_refl _) ⟨_, rfl, _, _, rfl, rfl, h6⟩
    · refine pm_aloadn hG dX11_rent_25 rfl ?_
      refine pm_ldc hG dX11_rent_26 (ctX11_109 _ rfl) ?_
      refine pm_callV (As := [.int (-1000001)]) (rest := []) hG hR dX11_rent_28 (lkX11_97 _ rfl) okV_X11_told rfl rfl (sx_told (d := 1) (by decide) rfl rfl) rfl rfl hdd (Nat.le_refl _) (Nat.le_refl _) (by decide) (pm_ki (fun v7 σ' cnt' hq => ?_))
      obtain ⟨-, ⟨g7, hg7⟩, hc7⟩ := hq
      obtain ⟨I7, A7, rfl, rfl, h7⟩ := hv_a53 (kp := kp) (I := I4) (A := A4) h4 ⟨hg7, hc7⟩
      exact pm_iret hG hF dX11_rent_31 rfl (Nat.le_refl _) (Nat.le_refl _) ⟨_, rfl, _, _, rfl, rfl, h7⟩

set_option maxRecDepth 100000 in
set_option maxHeartbeats 4000000 in
theorem g_X8_isWidth {ε : Nat → Int32} {d B cnt : Nat} {kp : pm_KP} {ρ : pm_S} {I : Nat → Int32} {A : Nat → Nat → Int32} {za : Int32} (hdd : 1 ≤ d) (h : gq ε I) : pm_met mX8_isWidth d 0 0 B [.ref (B + 48), .int za] cnt (pm_two (cl_L B kp I A) ρ) (pm_Qi (fun v σ' cnt' => (v = 0 ∨ v = 1) ∧ hvq ε B kp ρ cnt σ' cnt')) := by
  refine pm_enter 0 (by decide) (Nat.le_of_ble_eq_true rfl) rfl (fun G hG hR hF => ?_)
  refine pm_iloadn hG dX8_isWidth_0 rfl ?_
  refine pm_bipush (v := 8) hG dX8_isWidth_1 (by decide) ?_
  refine pm_icmp_eq (tgt := 18) hG dX8_isWidth_3 rfl (fun c1 => ?_) (fun c1 => ?_)
  · refine pm_iconst (v := 1) hG dX8_isWidth_18 (by decide) ?_
    refine pm_goto (tgt := 23) hG dX8_isWidth_19 rfl ?_
    exact pm_zret hG hF dX8_isWidth_23 rfl (pm_nz (Or.inr rfl)) (Nat.le_refl _) (Nat.le_refl _) ⟨_, rfl, (Or.inr rfl), _, _, rfl, rfl, h⟩
  · refine pm_iloadn hG dX8_isWidth_6 rfl ?_
    refine pm_bipush (v := 16) hG dX8_isWidth_7 (by decide) ?_
    refine pm_icmp_eq (tgt := 18) hG dX8_isWidth_9 rfl (fun c2 => ?_) (fun c2 => ?_)
    · refine pm_iconst (v := 1) hG dX8_isWidth_18 (by decide) ?_
      refine pm_goto (tgt := 23) hG dX8_isWidth_19 rfl ?_
      exact pm_zret hG hF dX8_isWidth_23 rfl (pm_nz (Or.inr rfl)) (Nat.le_refl _) (Nat.le_refl _) ⟨_, rfl, (Or.inr rfl), _, _, rfl, rfl, h⟩
    · refine pm_iloadn hG dX8_isWidth_12 rfl ?_
      refine pm_bipush (v := 32) hG dX8_isWidth_13 (by decide) ?_
      refine pm_icmp_ne (tgt := 22) hG dX8_isWidth_15 rfl (fun c3 => ?_) (fun c3 => ?_)
      · refine pm_iconst (v := 0) hG dX8_isWidth_22 (by decide) ?_
        exact pm_zret hG hF dX8_isWidth_23 rfl (pm_nz (Or.inl rfl)) (Nat.le_refl _) (Nat.le_refl _) ⟨_, rfl, (Or.inl rfl), _, _, rfl, rfl, h⟩
      · refine pm_iconst (v := 1) hG dX8_isWidth_18 (by decide) ?_
        refine pm_goto (tgt := 23) hG dX8_isWidth_19 rfl ?_
        exact pm_zret hG hF dX8_isWidth_23 rfl (pm_nz (Or.inr rfl)) (Nat.le_refl _) (Nat.le_refl _) ⟨_, rfl, (Or.inr rfl), _, _, rfl, rfl, h⟩

set_option maxRecDepth 100000 in
set_option maxHeartbeats 4000000 in
theorem g_X11_takeRents {ε : Nat → Int32} {d B cnt : Nat} {kp : pm_KP} {ρ : pm_S} {I : Nat → Int32} {A : Nat → Nat → Int32} {za zb : Int32} (hdd : 2 ≤ d) (h : gq ε I) : pm_met mX11_takeRents d 0 0 B [.ref (B + 0), .int za, .int zb] cnt (pm_two (cl_L B kp I A) ρ) (pm_Qi (fun _ σ' cnt' => hvq ε B kp ρ cnt σ' cnt')) := by
  refine pm_enter 3 (by decide) (Nat.le_of_ble_eq_true rfl) rfl (fun G hG hR hF => ?_)
  refine pm_iconst (v := 0) hG dX11_takeRents_0 (by decide) ?_
  refine pm_istoreXn (loc' := [some (.ref (B + 0)), some (.int za), some (.int zb), some (.int 0), none, none]) hG dX11_takeRents_1 (by decide) (pm_c1b rfl) rfl ?_
  refine pm_iconst (v := 0) hG dX11_takeRents_2 (by decide) ?_
  refine pm_istoreXi (loc' := [some (.ref (B + 0)), some (.int za), some (.int zb), some (.int 0), some (.int 0), none]) hG dX11_takeRents_3 (by decide) (pm_c1b rfl) rfl ?_
  have loop5 : ∀ (m5 : Nat) (I1 : Nat → Int32) (A1 : Nat → Nat → Int32) (x1_3 x1_4 : Int32), gq ε I1 → (¬ x1_4 < 0) → ((zb : Int32).toInt - x1_4.toInt).toNat < m5 → pm_wp mX11_takeRents G B 5 [some (.ref (B + 0)), some (.int za), some (.int zb), some (.int x1_3), some (.int x1_4), none] [] 0 0 cnt (pm_two (cl_L B kp I1 A1) ρ) := by
    intro m5
    induction m5 with
    | zero => intro I1 A1 x1_3 x1_4 _  _ hm; exact absurd hm (Nat.not_lt_zero _)
    | succ m5 ih5 =>
      intro I1 A1 x1_3 x1_4 h1 s5 hm5
      refine pm_iloadi hG dX11_takeRents_5 rfl ?_
      refine pm_iloadn hG dX11_takeRents_7 rfl ?_
      refine pm_icmp_ge (tgt := 52) hG dX11_takeRents_8 rfl (fun c2 => ?_) (fun c2 => ?_)
      · refine pm_iloadn hG dX11_takeRents_52 rfl ?_
        exact pm_iret hG hF dX11_takeRents_53 rfl (Nat.le_refl _) (Nat.le_refl _) ⟨_, rfl, _, _, rfl, rfl, h1⟩
      · refine pm_aloadn hG dX11_takeRents_11 rfl ?_
        refine pm_getf hG dX11_takeRents_12 (flX11_74 _ rfl) rfl rfl ?_
        refine pm_iloadn hG dX11_takeRents_15 rfl ?_
        refine pm_iloadi hG dX11_takeRents_16 rfl ?_
        refine pm_callV (As := [.int za, .int x1_4]) (rest := []) hG hR dX11_takeRents_18 (lkX11_338 _ rfl) okV_X8_numberAt rfl rfl (g_X8_numberAt (d := 1) (by decide) h1) rfl rfl hdd (Nat.le_refl _) (Nat.le_refl _) (by decide) (pm_ki (fun v3 σ' cnt' hq => ?_))
        obtain ⟨I3, A3, rfl, rfl, h3⟩ := hq
        refine pm_istoreXi (loc' := [some (.ref (B + 0)), some (.int za), some (.int zb), some (.int x1_3), some (.int x1_4), some (.int v3)]) hG dX11_takeRents_21 (by decide) (pm_c1b rfl) rfl ?_
        refine pm_iloadi hG dX11_takeRents_23 rfl ?_
        refine pm_if_lt (tgt := 46) hG dX11_takeRents_25 rfl (fun c4 => ?_) (fun c4 => ?_)
        · refine pm_iincX (v := x1_4 + 1) (loc' := [some (.ref (B + 0)), some (.int za), some (.int zb), some (.int x1_3), some (.int (x1_4 + 1)), some (.int v3)]) hG dX11_takeRents_46 rfl (by rfl) (by decide) (pm_c1b rfl) rfl ?_
          refine pm_goto (tgt := 5) hG dX11_takeRents_49 rfl ?_
          refine pm_fg 5 (loc' := [some (.ref (B + 0)), some (.int za), some (.int zb), some (.int x1_3), some (.int (x1_4 + 1)), none]) rfl ?_
          exact ih5 _ _ x1_3 (x1_4 + 1) h3 (pm_sd1 c2 s5) (Nat.lt_of_lt_of_le (pm_mu1 c2) (Nat.le_of_lt_succ hm5))
        · refine pm_aloadn hG dX11_takeRents_28 rfl ?_
          refine pm_getf hG dX11_takeRents_29 (flX11_12 _ rfl) rfl rfl ?_
          refine pm_getf hG dX11_takeRents_32 (flX11_82 _ rfl) rfl rfl ?_
          refine pm_iloadi hG dX11_takeRents_35 rfl ?_
          refine pm_iconst (v := 0) hG dX11_takeRents_37 (by decide) ?_
          refine pm_iloadi hG dX11_takeRents_38 rfl ?_
          refine pm_callV (As := [.int x1_4, .int 0, .int v3]) (rest := []) hG hR dX11_takeRents_40 (lkX11_170 _ rfl) okV_X9_set rfl rfl (tb_set (d := 1) rfl rfl (pm_tw_of 10 3 (by decide) (by decide) (by decide)) (by decide)) rfl rfl hdd (Nat.le_refl _) (Nat.le_refl _) (by decide) (pm_kv (fun σ' cnt' hq => ?_))
          obtain ⟨I5, A5, rfl, rfl, h5⟩ := hv_a3 (kp := kp) (I := I3) (A := A3) h3 hq
          refine pm_iincX (v := x1_3 + 1) (loc' := [some (.ref (B + 0)), some (.int za), some (.int zb), some (.int (x1_3 + 1)), some (.int x1_4), some (.int v3)]) hG dX11_takeRents_43 rfl (by rfl) (by decide) (pm_c1b rfl) rfl ?_
          refine pm_iincX (v := x1_4 + 1) (loc' := [some (.ref (B + 0)), some (.int za), some (.int zb), some (.int (x1_3 + 1)), some (.int (x1_4 + 1)), some (.int v3)]) hG dX11_takeRents_46 rfl (by rfl) (by decide) (pm_c1b rfl) rfl ?_
          refine pm_goto (tgt := 5) hG dX11_takeRents_49 rfl ?_
          refine pm_fg 5 (loc' := [some (.ref (B + 0)), some (.int za), some (.int zb), some (.int (x1_3 + 1)), some (.int (x1_4 + 1)), none]) rfl ?_
          exact ih5 _ _ (x1_3 + 1) (x1_4 + 1) h5 (pm_sd1 c2 s5) (Nat.lt_of_lt_of_le (pm_mu1 c2) (Nat.le_of_lt_succ hm5))
  exact loop5 _ _ _ 0 0 h (by decide) (Nat.lt_succ_self _)

set_option maxRecDepth 100000 in
set_option maxHeartbeats 4000000 in
theorem g_X11_rents {ε : Nat → Int32} {d B cnt : Nat} {kp : pm_KP} {ρ : pm_S} {I : Nat → Int32} {A : Nat → Nat → Int32} {za zb : Int32} (hdd : 3 ≤ d) (h : gq ε I) : pm_met mX11_rents d 0 0 B [.ref (B + 0), .int za, .int zb] cnt (pm_two (cl_L B kp I A) ρ) (pm_Qi (fun _ σ' cnt' => hvq ε B kp ρ cnt σ' cnt')) := by
  refine pm_enter 1 (by decide) (Nat.le_of_ble_eq_true rfl) rfl (fun G hG hR hF => ?_)
  refine pm_aloadn hG dX11_rents_0 rfl ?_
  refine pm_getf hG dX11_rents_1 (flX11_74 _ rfl) rfl rfl ?_
  refine pm_iloadn hG dX11_rents_4 rfl ?_
  refine pm_callV (As := [.int za]) (rest := []) hG hR dX11_rents_5 (lkX11_251 _ rfl) okV_X8_has rfl rfl (g_X8_has (d := 2) (by decide) h) rfl rfl hdd (Nat.le_refl _) (Nat.le_refl _) (by decide) (pm_ki (fun v1 σ' cnt' hq => ?_))
  obtain ⟨b1, I1, A1, rfl, rfl, h1⟩ := hq
  refine pm_if_eq (tgt := 22) hG dX11_rents_8 rfl (fun c2 => ?_) (fun c2 => ?_)
  · refine pm_aloadn hG dX11_rents_22 rfl ?_
    refine pm_ldc hG dX11_rents_23 (ctX11_109 _ rfl) ?_
    refine pm_callV (As := [.int (-1000001)]) (rest := []) hG hR dX11_rents_25 (lkX11_97 _ rfl) okV_X11_told rfl rfl (sx_told (d := 2) (by decide) rfl rfl) rfl rfl hdd (Nat.le_refl _) (Nat.le_refl _) (by decide) (pm_ki (fun v3 σ' cnt' hq => ?_))
    obtain ⟨-, ⟨g3, hg3⟩, hc3⟩ := hq
    obtain ⟨I3, A3, rfl, rfl, h3⟩ := hv_a53 (kp := kp) (I := I1) (A := A1) h1 ⟨hg3, hc3⟩
    exact pm_iret hG hF dX11_rents_28 rfl (Nat.le_refl _) (Nat.le_refl _) ⟨_, rfl, _, _, rfl, rfl, h3⟩
  · refine pm_aloadn hG dX11_rents_11 rfl ?_
    refine pm_getf hG dX11_rents_12 (flX11_74 _ rfl) rfl rfl ?_
    refine pm_iloadn hG dX11_rents_15 rfl ?_
    refine pm_callV (As := [.int zb]) (rest := []) hG hR dX11_rents_16 (lkX11_252 _ rfl) okV_X8_isWidth rfl rfl (g_X8_isWidth (d := 2) (by decide) h1) rfl rfl hdd (Nat.le_refl _) (Nat.le_refl _) (by decide) (pm_ki (fun v4 σ' cnt' hq => ?_))
    obtain ⟨b4, I4, A4, rfl, rfl, h4⟩ := hq
    refine pm_if_ne (tgt := 29) hG dX11_rents_19 rfl (fun c5 => ?_) (fun c5 => ?_)
    · refine pm_aloadn hG dX11_rents_29 rfl ?_
      refine pm_getf hG dX11_rents_30 (flX11_74 _ rfl) rfl rfl ?_
      refine pm_iloadn hG dX11_rents_33 rfl ?_
      refine pm_callV (As := [.int za]) (rest := []) hG hR dX11_rents_34 (lkX11_255 _ rfl) okV_X8_isMissing rfl rfl (g_X8_isMissing (d := 2) (by decide) h4) rfl rfl hdd (Nat.le_refl _) (Nat.le_refl _) (by decide) (pm_ki (fun v6 σ' cnt' hq => ?_))
      obtain ⟨b6, I6, A6, rfl, rfl, h6⟩ := hq
      refine pm_if_eq (tgt := 47) hG dX11_rents_37 rfl (fun c7 => ?_) (fun c7 => ?_)
      · refine pm_aloadn hG dX11_rents_47 rfl ?_
        refine pm_getf hG dX11_rents_48 (flX11_74 _ rfl) rfl rfl ?_
        refine pm_iloadn hG dX11_rents_51 rfl ?_
        refine pm_callV (As := [.int za]) (rest := []) hG hR dX11_rents_52 (lkX11_258 _ rfl) okV_X8_bitsOf rfl rfl (g_X8_bitsOf (d := 2) (by decide) h6) rfl rfl hdd (Nat.le_refl _) (Nat.le_refl _) (by decide) (pm_ki (fun v8 σ' cnt' hq => ?_))
        obtain ⟨I8, A8, rfl, rfl, h8⟩ := hq
        refine pm_iloadn hG dX11_rents_55 rfl ?_
        refine pm_icmp_eq (tgt := 66) hG dX11_rents_56 rfl (fun c9 => ?_) (fun c9 => ?_)
        · refine pm_aloadn hG dX11_rents_66 rfl ?_
          refine pm_getf hG dX11_rents_67 (flX11_74 _ rfl) rfl rfl ?_
          refine pm_iloadn hG dX11_rents_70 rfl ?_
          refine pm_callV (As := [.int za]) (rest := []) hG hR dX11_rents_71 (lkX11_261 _ rfl) okV_X8_sizeOf rfl rfl (g_X8_sizeOf (d := 2) (by decide) h8) rfl rfl hdd (Nat.le_refl _) (Nat.le_refl _) (by decide) (pm_ki (fun v10 σ' cnt' hq => ?_))
          obtain ⟨I10, A10, rfl, rfl, h10⟩ := hq
          refine pm_istoreXn (loc' := [some (.ref (B + 0)), some (.int za), some (.int zb), some (.int v10)]) hG dX11_rents_74 (by decide) (pm_c1b rfl) rfl ?_
          refine pm_iloadn hG dX11_rents_75 rfl ?_
          refine pm_aloadn hG dX11_rents_76 rfl ?_
          refine pm_getf hG dX11_rents_77 (flX11_12 _ rfl) rfl rfl ?_
          refine pm_getf hG dX11_rents_80 (flX11_82 _ rfl) rfl rfl ?_
          refine pm_callV (As := []) (rest := [.int v10]) hG hR dX11_rents_83 (lkX11_203 _ rfl) okV_X9_used rfl rfl (tb_used (d := 2) rfl) rfl rfl hdd (Nat.le_refl _) (Nat.le_refl _) (by first | decide | exact Nat.le_of_ble_eq_true rfl) (pm_ki (fun v11 σ' cnt' hq => ?_))
          obtain ⟨I11, A11, rfl, rfl, h11⟩ := hv_id (kp := kp) (I := I10) (A := A10) h10 hq.2
          refine pm_icmp_le (tgt := 96) hG dX11_rents_86 rfl (fun c12 => ?_) (fun c12 => ?_)
          · refine pm_aloadn hG dX11_rents_96 rfl ?_
            refine pm_aloadn hG dX11_rents_97 rfl ?_
            refine pm_getf hG dX11_rents_98 (flX11_74 _ rfl) rfl rfl ?_
            refine pm_iloadn hG dX11_rents_101 rfl ?_
            refine pm_iconst (v := (-1)) hG dX11_rents_102 (by decide) ?_
            refine pm_sipush (v := 999) hG dX11_rents_103 (by decide) ?_
            refine pm_callV (As := [.int za, .int (-1), .int 999]) (rest := [.ref (B + 0)]) hG hR dX11_rents_106 (lkX11_264 _ rfl) okV_X8_areAllWithin rfl rfl (g_X8_areAllWithin (d := 2) (by decide) h11) rfl rfl hdd (Nat.le_refl _) (Nat.le_refl _) (by first | decide | exact Nat.le_of_ble_eq_true rfl) (pm_ki (fun v13 σ' cnt' hq => ?_))
            obtain ⟨b13, I13, A13, rfl, rfl, h13⟩ := hq
            refine pm_if_eq (tgt := 121) hG dX11_rents_109 rfl (fun c14 => ?_) (fun c14 => ?_)
            · refine pm_ldc hG dX11_rents_121 (ctX11_109 _ rfl) ?_
              refine pm_callV (As := [.int (-1000001)]) (rest := []) hG hR dX11_rents_123 (lkX11_97 _ rfl) okV_X11_told rfl rfl (sx_told (d := 2) (by decide) rfl rfl) rfl rfl hdd (Nat.le_refl _) (Nat.le_refl _) (by decide) (pm_ki (fun v15 σ' cnt' hq => ?_))
              obtain ⟨-, ⟨g15, hg15⟩, hc15⟩ := hq
              obtain ⟨I15, A15, rfl, rfl, h15⟩ := hv_a53 (kp := kp) (I := I13) (A := A13) h13 ⟨hg15, hc15⟩
              exact pm_iret hG hF dX11_rents_126 rfl (Nat.le_refl _) (Nat.le_refl _) ⟨_, rfl, _, _, rfl, rfl, h15⟩
            · refine pm_aloadn hG dX11_rents_112 rfl ?_
              refine pm_iloadn hG dX11_rents_113 rfl ?_
              refine pm_iloadn hG dX11_rents_114 rfl ?_
              refine pm_callV (As := [.int za, .int v10]) (rest := [.ref (B + 0)]) hG hR dX11_rents_115 (lkX11_267 _ rfl) okV_X11_takeRents rfl rfl (g_X11_takeRents (d := 2) (by decide) h13) rfl rfl hdd (Nat.le_refl _) (Nat.le_refl _) (by first | decide | exact Nat.le_of_ble_eq_true rfl) (pm_ki (fun v16 σ' cnt' hq => ?_))
              obtain ⟨I16, A16, rfl, rfl, h16⟩ := hq
              refine pm_goto (tgt := 123) hG dX11_rents_118 rfl ?_
              refine pm_callV (As := [.int v16]) (rest := []) hG hR dX11_rents_123 (lkX11_97 _ rfl) okV_X11_told rfl rfl (sx_told (d := 2) (by decide) rfl rfl) rfl rfl hdd (Nat.le_refl _) (Nat.le_refl _) (by decide) (pm_ki (fun v17 σ' cnt' hq => ?_))
              obtain ⟨-, ⟨g17, hg17⟩, hc17⟩ := hq
              obtain ⟨I17, A17, rfl, rfl, h17⟩ := hv_a53 (kp := kp) (I := I16) (A := A16) h16 ⟨hg17, hc17⟩
              exact pm_iret hG hF dX11_rents_126 rfl (Nat.le_refl _) (Nat.le_refl _) ⟨_, rfl, _, _, rfl, rfl, h17⟩
          · refine pm_aloadn hG dX11_rents_89 rfl ?_
            refine pm_ldc hG dX11_rents_90 (ctX11_138 _ rfl) ?_
            refine pm_callV (As := [.int (-1000003)]) (rest := []) hG hR dX11_rents_92 (lkX11_97 _ rfl) okV_X11_told rfl rfl (sx_told (d := 2) (by decide) rfl rfl) rfl rfl hdd (Nat.le_refl _) (Nat.le_refl _) (by decide) (pm_ki (fun v18 σ' cnt' hq => ?_))
            obtain ⟨-, ⟨g18, hg18⟩, hc18⟩ := hq
            obtain ⟨I18, A18, rfl, rfl, h18⟩ := hv_a53 (kp := kp) (I := I11) (A := A11) h11 ⟨hg18, hc18⟩
            exact pm_iret hG hF dX11_rents_95 rfl (Nat.le_refl _) (Nat.le_refl _) ⟨_, rfl, _, _, rfl, rfl, h18⟩
        · refine pm_aloadn hG dX11_rents_59 rfl ?_
          refine pm_ldc hG dX11_rents_60 (ctX11_184 _ rfl) ?_
          refine pm_callV (As := [.int (-1000005)]) (rest := []) hG hR dX11_rents_62 (lkX11_97 _ rfl) okV_X11_told rfl rfl (sx_told (d := 2) (by decide) rfl rfl) rfl rfl hdd (Nat.le_refl _) (Nat.le_refl _) (by decide) (pm_ki (fun v19 σ' cnt' hq => ?_))
          obtain ⟨-, ⟨g19, hg19⟩, hc19⟩ := hq
          obtain ⟨I19, A19, rfl, rfl, h19⟩ := hv_a53 (kp := kp) (I := I8) (A := A8) h8 ⟨hg19, hc19⟩
          exact pm_iret hG hF dX11_rents_65 rfl (Nat.le_refl _) (Nat.le_refl _) ⟨_, rfl, _, _, rfl, rfl, h19⟩
      · refine pm_aloadn hG dX11_rents_40 rfl ?_
        refine pm_ldc hG dX11_rents_41 (ctX11_223 _ rfl) ?_
        refine pm_callV (As := [.int (-1000002)]) (rest := []) hG hR dX11_rents_43 (lkX11_97 _ rfl) okV_X11_told rfl rfl (sx_told (d := 2) (by decide) rfl rfl) rfl rfl hdd (Nat.le_refl _) (Nat.le_refl _) (by decide) (pm_ki (fun v20 σ' cnt' hq => ?_))
        obtain ⟨-, ⟨g20, hg20⟩, hc20⟩ := hq
        obtain ⟨I20, A20, rfl, rfl, h20⟩ := hv_a53 (kp := kp) (I := I6) (A := A6) h6 ⟨hg20, hc20⟩
        exact pm_iret hG hF dX11_rents_46 rfl (Nat.le_refl _) (Nat.le_refl _) ⟨_, rfl, _, _, rfl, rfl, h20⟩
    · refine pm_aloadn hG dX11_rents_22 rfl ?_
      refine pm_ldc hG dX11_rents_23 (ctX11_109 _ rfl) ?_
      refine pm_callV (As := [.int (-1000001)]) (rest := []) hG hR dX11_rents_25 (lkX11_97 _ rfl) okV_X11_told rfl rfl (sx_told (d := 2) (by decide) rfl rfl) rfl rfl hdd (Nat.le_refl _) (Nat.le_refl _) (by decide) (pm_ki (fun v21 σ' cnt' hq => ?_))
      obtain ⟨-, ⟨g21, hg21⟩, hc21⟩ := hq
      obtain ⟨I21, A21, rfl, rfl, h21⟩ := hv_a53 (kp := kp) (I := I4) (A := A4) h4 ⟨hg21, hc21⟩
      exact pm_iret hG hF dX11_rents_28 rfl (Nat.le_refl _) (Nat.le_refl _) ⟨_, rfl, _, _, rfl, rfl, h21⟩

set_option maxRecDepth 100000 in
set_option maxHeartbeats 4000000 in
theorem g_X7_join {ε : Nat → Int32} {d B cnt : Nat} {kp : pm_KP} {ρ : pm_S} {I : Nat → Int32} {A : Nat → Nat → Int32} {za zb zc : Int32} (hdd : 1 ≤ d) (h : gq ε I) : pm_met mX7_join d 0 0 B [.ref (B + 1), .int za, .int zb, .int zc] cnt (pm_two (cl_L B kp I A) ρ) (pm_Qi (fun _ σ' cnt' => hvq ε B kp ρ cnt σ' cnt')) := by
  refine pm_enter 5 (by decide) (Nat.le_of_ble_eq_true rfl) rfl (fun G hG hR hF => ?_)
  refine pm_aloadn hG dX7_join_0 rfl ?_
  refine pm_getf hG dX7_join_1 (flX7_14 _ rfl) rfl rfl ?_
  refine pm_callV (As := []) (rest := []) hG hR dX7_join_4 (lkX7_79 _ rfl) okV_X9_used rfl rfl (tb_used (d := 0) rfl) rfl rfl hdd (Nat.le_refl _) (Nat.le_refl _) (by decide) (pm_ki (fun v1 σ' cnt' hq => ?_))
  obtain ⟨I1, A1, rfl, rfl, h1⟩ := hv_id (kp := kp) (I := I) (A := A) h hq.2
  refine pm_istoreXi (loc' := [some (.ref (B + 1)), some (.int za), some (.int zb), some (.int zc), some (.int v1), none, none, none, none]) hG dX7_join_7 (by decide) (pm_c1b rfl) rfl ?_
  refine pm_iconst (v := 0) hG dX7_join_9 (by decide) ?_
  refine pm_istoreXi (loc' := [some (.ref (B + 1)), some (.int za), some (.int zb), some (.int zc), some (.int v1), some (.int 0), none, none, none]) hG dX7_join_10 (by decide) (pm_c1b rfl) rfl ?_
  have loop12 : ∀ (m12 : Nat) (I2 : Nat → Int32) (A2 : Nat → Nat → Int32) (x2_5 : Int32), gq ε I2 → (¬ x2_5 < 0) → ((v1 : Int32).toInt - x2_5.toInt).toNat < m12 → pm_wp mX7_join G B 12 [some (.ref (B + 1)), some (.int za), some (.int zb), some (.int zc), some (.int v1), some (.int x2_5), none, none, none] [] 0 0 cnt (pm_two (cl_L B kp I2 A2) ρ) := by
    intro m12
    induction m12 with
    | zero => intro I2 A2 x2_5 _  _ hm; exact absurd hm (Nat.not_lt_zero _)
    | succ m12 ih12 =>
      intro I2 A2 x2_5 h2 s12 hm12
      refine pm_iloadi hG dX7_join_12 rfl ?_
      refine pm_iloadi hG dX7_join_14 rfl ?_
      refine pm_icmp_ge (tgt := 123) hG dX7_join_16 rfl (fun c3 => ?_) (fun c3 => ?_)
      · refine pm_aloadn hG dX7_join_123 rfl ?_
        refine pm_dup hG dX7_join_124 rfl ?_
        refine pm_getf hG dX7_join_125 (flX7_69 _ rfl) rfl rfl ?_
        refine pm_iconst (v := 1) hG dX7_join_128 (by decide) ?_
        refine pm_iadd hG dX7_join_129 ?_
        refine pm_putf hG dX7_join_130 (fwX7_69 _ rfl) rfl rfl rfl ?_
        refine pm_nrm (L' := cl_L B kp (ui I2 101 ((I2 101) + 1)) A2) (by decide) (Nat.le_of_ble_eq_true rfl) rfl ?_
        refine pm_aloadn hG dX7_join_133 rfl ?_
        refine pm_getf hG dX7_join_134 (flX7_69 _ rfl) rfl rfl ?_
        exact pm_iret hG hF dX7_join_137 rfl (Nat.le_refl _) (Nat.le_refl _) ⟨_, rfl, _, _, rfl, rfl, (gq.wi (k := 101) rfl h2)⟩
      · refine pm_iconst (v := 0) hG dX7_join_19 (by decide) ?_
        refine pm_istoreXi (loc' := [some (.ref (B + 1)), some (.int za), some (.int zb), some (.int zc), some (.int v1), some (.int x2_5), some (.int 0), none, none]) hG dX7_join_20 (by decide) (pm_c1b rfl) rfl ?_
        have loop22 : ∀ (m22 : Nat) (I5 : Nat → Int32) (A5 : Nat → Nat → Int32) (x5_6 : Int32), gq ε I5 → (¬ x5_6 < 0) → ((v1 : Int32).toInt - x5_6.toInt).toNat < m22 → pm_wp mX7_join G B 22 [some (.ref (B + 1)), some (.int za), some (.int zb), some (.int zc), some (.int v1), some (.int x2_5), some (.int x5_6), none, none] [] 0 0 cnt (pm_two (cl_L B kp I5 A5) ρ) := by
          intro m22
          induction m22 with
          | zero => intro I5 A5 x5_6 _  _ hm; exact absurd hm (Nat.not_lt_zero _)
          | succ m22 ih22 =>
            intro I5 A5 x5_6 h5 s22 hm22
            refine pm_iloadi hG dX7_join_22 rfl ?_
            refine pm_iloadi hG dX7_join_24 rfl ?_
            refine pm_icmp_ge (tgt := 117) hG dX7_join_26 rfl (fun c6 => ?_) (fun c6 => ?_)
            · refine pm_iincX (v := x2_5 + 1) (loc' := [some (.ref (B + 1)), some (.int za), some (.int zb), some (.int zc), some (.int v1), some (.int (x2_5 + 1)), some (.int x5_6), none, none]) hG dX7_join_117 rfl (by rfl) (by decide) (pm_c1b rfl) rfl ?_
              refine pm_goto (tgt := 12) hG dX7_join_120 rfl ?_
              refine pm_fg 6 (loc' := [some (.ref (B + 1)), some (.int za), some (.int zb), some (.int zc), some (.int v1), some (.int (x2_5 + 1)), none, none, none]) rfl ?_
              exact ih12 _ _ (x2_5 + 1) h5 (pm_sd1 c3 s12) (Nat.lt_of_lt_of_le (pm_mu1 c3) (Nat.le_of_lt_succ hm12))
            · refine pm_aloadn hG dX7_join_29 rfl ?_
              refine pm_getf hG dX7_join_30 (flX7_20 _ rfl) rfl rfl ?_
              refine pm_iloadi hG dX7_join_33 rfl ?_
              refine pm_iloadn hG dX7_join_35 rfl ?_
              refine pm_callV (As := [.int x2_5, .int za]) (rest := []) hG hR dX7_join_36 (lkX7_83 _ rfl) okV_X9_get rfl rfl (tb_get (d := 0) rfl rfl (pm_tw_of 10 10 (by decide) (by decide) (by decide))) rfl rfl hdd (Nat.le_refl _) (Nat.le_refl _) (by decide) (pm_ki (fun v7 σ' cnt' hq => ?_))
              obtain ⟨I7, A7, rfl, rfl, h7⟩ := hv_id (kp := kp) (I := I5) (A := A5) h5 hq.2
              refine pm_iloadn hG dX7_join_39 rfl ?_
              refine pm_iadd hG dX7_join_40 ?_
              refine pm_aloadn hG dX7_join_41 rfl ?_
              refine pm_getf hG dX7_join_42 (flX7_20 _ rfl) rfl rfl ?_
              refine pm_iloadn hG dX7_join_45 rfl ?_
              refine pm_iloadi hG dX7_join_46 rfl ?_
              refine pm_callV (As := [.int zb, .int x5_6]) (rest := [.int (v7 + zc)]) hG hR dX7_join_48 (lkX7_83 _ rfl) okV_X9_get rfl rfl (tb_get (d := 0) rfl rfl (pm_tw_of 10 10 (by decide) (by decide) (by decide))) rfl rfl hdd (Nat.le_refl _) (Nat.le_refl _) (by first | decide | exact Nat.le_of_ble_eq_true rfl) (pm_ki (fun v8 σ' cnt' hq => ?_))
              obtain ⟨I8, A8, rfl, rfl, h8⟩ := hv_id (kp := kp) (I := I7) (A := A7) h7 hq.2
              refine pm_iadd hG dX7_join_51 ?_
              refine pm_istoreXi (loc' := [some (.ref (B + 1)), some (.int za), some (.int zb), some (.int zc), some (.int v1), some (.int x2_5), some (.int x5_6), some (.int ((v7 + zc) + v8)), none]) hG dX7_join_52 (by decide) (pm_c1b rfl) rfl ?_
              refine pm_aloadn hG dX7_join_54 rfl ?_
              refine pm_getf hG dX7_join_55 (flX7_20 _ rfl) rfl rfl ?_
              refine pm_iloadi hG dX7_join_58 rfl ?_
              refine pm_iloadn hG dX7_join_60 rfl ?_
              refine pm_callV (As := [.int x2_5, .int zb]) (rest := []) hG hR dX7_join_61 (lkX7_83 _ rfl) okV_X9_get rfl rfl (tb_get (d := 0) rfl rfl (pm_tw_of 10 10 (by decide) (by decide) (by decide))) rfl rfl hdd (Nat.le_refl _) (Nat.le_refl _) (by decide) (pm_ki (fun v9 σ' cnt' hq => ?_))
              obtain ⟨I9, A9, rfl, rfl, h9⟩ := hv_id (kp := kp) (I := I8) (A := A8) h8 hq.2
              refine pm_iloadn hG dX7_join_64 rfl ?_
              refine pm_iadd hG dX7_join_65 ?_
              refine pm_aloadn hG dX7_join_66 rfl ?_
              refine pm_getf hG dX7_join_67 (flX7_20 _ rfl) rfl rfl ?_
              refine pm_iloadn hG dX7_join_70 rfl ?_
              refine pm_iloadi hG dX7_join_71 rfl ?_
              refine pm_callV (As := [.int za, .int x5_6]) (rest := [.int (v9 + zc)]) hG hR dX7_join_73 (lkX7_83 _ rfl) okV_X9_get rfl rfl (tb_get (d := 0) rfl rfl (pm_tw_of 10 10 (by decide) (by decide) (by decide))) rfl rfl hdd (Nat.le_refl _) (Nat.le_refl _) (by first | decide | exact Nat.le_of_ble_eq_true rfl) (pm_ki (fun v10 σ' cnt' hq => ?_))
              obtain ⟨I10, A10, rfl, rfl, h10⟩ := hv_id (kp := kp) (I := I9) (A := A9) h9 hq.2
              refine pm_iadd hG dX7_join_76 ?_
              refine pm_istoreXi (loc' := [some (.ref (B + 1)), some (.int za), some (.int zb), some (.int zc), some (.int v1), some (.int x2_5), some (.int x5_6), some (.int ((v7 + zc) + v8)), some (.int ((v9 + zc) + v10))]) hG dX7_join_77 (by decide) (pm_c1b rfl) rfl ?_
              refine pm_aloadn hG dX7_join_79 rfl ?_
              refine pm_getf hG dX7_join_80 (flX7_20 _ rfl) rfl rfl ?_
              refine pm_iloadi hG dX7_join_83 rfl ?_
              refine pm_iloadi hG dX7_join_85 rfl ?_
              refine pm_aloadn hG dX7_join_87 rfl ?_
              refine pm_getf hG dX7_join_88 (flX7_20 _ rfl) rfl rfl ?_
              refine pm_iloadi hG dX7_join_91 rfl ?_
              refine pm_iloadi hG dX7_join_93 rfl ?_
              refine pm_callV (As := [.int x2_5, .int x5_6]) (rest := [.int x5_6, .int x2_5, .ref (B + 4)]) hG hR dX7_join_95 (lkX7_83 _ rfl) okV_X9_get rfl rfl (tb_get (d := 0) rfl rfl (pm_tw_of 10 10 (by decide) (by decide) (by decide))) rfl rfl hdd (Nat.le_refl _) (Nat.le_refl _) (by first | decide | exact Nat.le_of_ble_eq_true rfl) (pm_ki (fun v11 σ' cnt' hq => ?_))
              obtain ⟨I11, A11, rfl, rfl, h11⟩ := hv_id (kp := kp) (I := I10) (A := A10) h10 hq.2
              refine pm_iloadi hG dX7_join_98 rfl ?_
              refine pm_iloadi hG dX7_join_100 rfl ?_
              refine pm_mmin hG hR dX7_join_102 (mmX7_87 _ rfl) pm_mwmin (by omega) (by first | decide | exact Nat.le_of_ble_eq_true rfl) (Nat.le_refl _) (Nat.le_refl _) ?_
              refine pm_mmin hG hR dX7_join_105 (mmX7_87 _ rfl) pm_mwmin (by omega) (by first | decide | exact Nat.le_of_ble_eq_true rfl) (Nat.le_refl _) (Nat.le_refl _) ?_
              refine pm_callV (As := [.int x2_5, .int x5_6, .int (if (if ((v9 + zc) + v10) < ((v7 + zc) + v8) then (v9 + zc) + v10 else (v7 + zc) + v8) < v11 then if ((v9 + zc) + v10) < ((v7 + zc) + v8) then (v9 + zc) + v10 else (v7 + zc) + v8 else v11)]) (rest := []) hG hR dX7_join_108 (lkX7_61 _ rfl) okV_X9_set rfl rfl (tb_set (d := 0) rfl rfl (pm_tw_of 10 10 (by decide) (by decide) (by decide)) (by decide)) rfl rfl hdd (Nat.le_refl _) (Nat.le_refl _) (by decide) (pm_kv (fun σ' cnt' hq => ?_))
              obtain ⟨I12, A12, rfl, rfl, h12⟩ := hv_a5 (kp := kp) (I := I11) (A := A11) h11 hq
              refine pm_iincX (v := x5_6 + 1) (loc' := [some (.ref (B + 1)), some (.int za), some (.int zb), some (.int zc), some (.int v1), some (.int x2_5), some (.int (x5_6 + 1)), some (.int ((v7 + zc) + v8)), some (.int ((v9 + zc) + v10))]) hG dX7_join_111 rfl (by rfl) (by decide) (pm_c1b rfl) rfl ?_
              refine pm_goto (tgt := 22) hG dX7_join_114 rfl ?_
              refine pm_fg 7 (loc' := [some (.ref (B + 1)), some (.int za), some (.int zb), some (.int zc), some (.int v1), some (.int x2_5), some (.int (x5_6 + 1)), none, some (.int ((v9 + zc) + v10))]) rfl ?_
              refine pm_fg 8 (loc' := [some (.ref (B + 1)), some (.int za), some (.int zb), some (.int zc), some (.int v1), some (.int x2_5), some (.int (x5_6 + 1)), none, none]) rfl ?_
              exact ih22 _ _ (x5_6 + 1) h12 (pm_sd1 c6 s22) (Nat.lt_of_lt_of_le (pm_mu1 c6) (Nat.le_of_lt_succ hm22))
        exact loop22 _ _ _ 0 h2 (by decide) (Nat.lt_succ_self _)
  exact loop12 _ _ _ 0 h1 (by decide) (Nat.lt_succ_self _)
