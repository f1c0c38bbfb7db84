set_option maxRecDepth 100000 in
set_option maxHeartbeats 4000000 in
theorem g_X1_winsWithin_k3 {ε : Nat → Int32} {d B cnt : Nat} {kp : pm_KP} {ρ : pm_S} {I : Nat → Int32} {A : Nat → Nat → Int32} {zb zc : Int32} (hdd : 13 ≤ d) (h : gq ε I) : pm_met mX1_winsWithin d 0 0 B [.ref (B + 40), .int 3, .int zb, .int zc] cnt (pm_two (cl_L B kp I A) ρ) (pm_Qi (fun v σ' cnt' => (v = 0 ∨ v = 1) ∧ hvq ε B kp ρ cnt σ' cnt')) := by
  refine pm_enter 0 (by decide) (Nat.le_of_ble_eq_true rfl) rfl (fun G hG hR hF => ?_)
  refine pm_iloadn hG dX1_winsWithin_0 rfl ?_
  refine pm_if_le (tgt := 28) hG dX1_winsWithin_1 rfl (fun q => absurd q (by decide)) (fun _ => ?_)
  refine pm_aloadn hG dX1_winsWithin_4 rfl ?_
  refine pm_iloadn hG dX1_winsWithin_5 rfl ?_
  refine pm_iloadn hG dX1_winsWithin_6 rfl ?_
  refine pm_iloadn hG dX1_winsWithin_7 rfl ?_
  refine pm_callV (As := [.int 3, .int zb, .int zc]) (rest := []) hG hR dX1_winsWithin_8 (lkX1_34 _ rfl) okV_X1_winsByTaking rfl rfl (g_X1_winsByTaking_k3 (d := 12) (by decide) h) rfl rfl hdd (Nat.le_refl _) (Nat.le_refl _) (by decide) (pm_ki (fun v1 σ' cnt' hq => ?_))
  obtain ⟨b1, I1, A1, rfl, rfl, h1⟩ := hq
  refine pm_if_ne (tgt := 24) hG dX1_winsWithin_11 rfl (fun c2 => ?_) (fun c2 => ?_)
  · refine pm_iconst (v := 1) hG dX1_winsWithin_24 (by decide) ?_
    refine pm_goto (tgt := 29) hG dX1_winsWithin_25 rfl ?_
    exact pm_zret hG hF dX1_winsWithin_29 rfl (pm_nz (Or.inr rfl)) (Nat.le_refl _) (Nat.le_refl _) ⟨_, rfl, (Or.inr rfl), _, _, rfl, rfl, h1⟩
  · refine pm_aloadn hG dX1_winsWithin_14 rfl ?_
    refine pm_iloadn hG dX1_winsWithin_15 rfl ?_
    refine pm_iloadn hG dX1_winsWithin_16 rfl ?_
    refine pm_iloadn hG dX1_winsWithin_17 rfl ?_
    refine pm_callV (As := [.int 3, .int zb, .int zc]) (rest := []) hG hR dX1_winsWithin_18 (lkX1_38 _ rfl) okV_X1_winsByWaiting rfl rfl (g_X1_winsByWaiting_k3 (d := 12) (by decide) h1) rfl rfl hdd (Nat.le_refl _) (Nat.le_refl _) (by decide) (pm_ki (fun v3 σ' cnt' hq => ?_))
    obtain ⟨b3, I3, A3, rfl, rfl, h3⟩ := hq
    refine pm_if_eq (tgt := 28) hG dX1_winsWithin_21 rfl (fun c4 => ?_) (fun c4 => ?_)
    · refine pm_iconst (v := 0) hG dX1_winsWithin_28 (by decide) ?_
      exact pm_zret hG hF dX1_winsWithin_29 rfl (pm_nz (Or.inl rfl)) (Nat.le_refl _) (Nat.le_refl _) ⟨_, rfl, (Or.inl rfl), _, _, rfl, rfl, h3⟩
    · refine pm_iconst (v := 1) hG dX1_winsWithin_24 (by decide) ?_
      refine pm_goto (tgt := 29) hG dX1_winsWithin_25 rfl ?_
      exact pm_zret hG hF dX1_winsWithin_29 rfl (pm_nz (Or.inr rfl)) (Nat.le_refl _) (Nat.le_refl _) ⟨_, rfl, (Or.inr rfl), _, _, rfl, rfl, h3⟩

set_option maxRecDepth 100000 in
set_option maxHeartbeats 4000000 in
theorem g_X11_night {ε : Nat → Int32} {d B cnt : Nat} {kp : pm_KP} {ρ : pm_S} {I : Nat → Int32} {A : Nat → Nat → Int32} {za zb zc zd : Int32} (hdd : 14 ≤ d) (h : gq ε I) : pm_met mX11_night d 0 0 B [.ref (B + 0), .int za, .int zb, .int zc, .int zd] cnt (pm_two (cl_L B kp I A) ρ) (pm_Qi (fun _ σ' cnt' => hvq ε B kp ρ cnt σ' cnt')) := by
  refine pm_enter 0 (by decide) (Nat.le_of_ble_eq_true rfl) rfl (fun G hG hR hF => ?_)
  refine pm_iloadn hG dX11_night_0 rfl ?_
  refine pm_iconst (v := 1) hG dX11_night_1 (by decide) ?_
  refine pm_bipush (v := 20) hG dX11_night_2 (by decide) ?_
  refine pm_callS (As := [.int za, .int 1, .int 20]) (rest := []) hG hR dX11_night_4 (lkX11_105 _ rfl) okS_X11_isOutside (sx_isOutside (d := 13)) rfl rfl hdd (Nat.le_refl _) (Nat.le_refl _) (by decide) (pm_ki (fun v1 σ' cnt' hq => ?_))
  have o1 := hq.1
  have b1 := pm_b10 hq.1
  obtain ⟨I1, A1, rfl, rfl, h1⟩ := hv_id (kp := kp) (I := I) (A := A) h hq.2
  refine pm_if_ne (tgt := 38) hG dX11_night_7 rfl (fun c2 => ?_) (fun c2 => ?_)
  · refine pm_aloadn hG dX11_night_38 rfl ?_
    refine pm_ldc hG dX11_night_39 (ctX11_109 _ rfl) ?_
    refine pm_callV (As := [.int (-1000001)]) (rest := []) hG hR dX11_night_41 (lkX11_97 _ rfl) okV_X11_told rfl rfl (sx_told (d := 13) (by decide) rfl rfl) rfl rfl hdd (Nat.le_refl _) (Nat.le_refl _) (by decide) (pm_ki (fun v3 σ' cnt' hq => ?_))
    obtain ⟨-, ⟨g3, hg3⟩, hc3⟩ := hq
    obtain ⟨I3, A3, rfl, rfl, h3⟩ := hv_a53 (kp := kp) (I := I1) (A := A1) h1 ⟨hg3, hc3⟩
    exact pm_iret hG hF dX11_night_44 rfl (Nat.le_refl _) (Nat.le_refl _) ⟨_, rfl, _, _, rfl, rfl, h3⟩
  · refine pm_iloadn hG dX11_night_10 rfl ?_
    refine pm_iconst (v := 1) hG dX11_night_11 (by decide) ?_
    refine pm_iconst (v := 3) hG dX11_night_12 (by decide) ?_
    refine pm_callS (As := [.int zb, .int 1, .int 3]) (rest := []) hG hR dX11_night_13 (lkX11_105 _ rfl) okS_X11_isOutside (sx_isOutside (d := 13)) rfl rfl hdd (Nat.le_refl _) (Nat.le_refl _) (by decide) (pm_ki (fun v4 σ' cnt' hq => ?_))
    have o4 := hq.1
    have b4 := pm_b10 hq.1
    obtain ⟨I4, A4, rfl, rfl, h4⟩ := hv_id (kp := kp) (I := I1) (A := A1) h1 hq.2
    refine pm_if_ne (tgt := 38) hG dX11_night_16 rfl (fun c5 => ?_) (fun c5 => ?_)
    · refine pm_aloadn hG dX11_night_38 rfl ?_
      refine pm_ldc hG dX11_night_39 (ctX11_109 _ rfl) ?_
      refine pm_callV (As := [.int (-1000001)]) (rest := []) hG hR dX11_night_41 (lkX11_97 _ rfl) okV_X11_told rfl rfl (sx_told (d := 13) (by decide) rfl rfl) rfl rfl hdd (Nat.le_refl _) (Nat.le_refl _) (by decide) (pm_ki (fun v6 σ' cnt' hq => ?_))
      obtain ⟨-, ⟨g6, hg6⟩, hc6⟩ := hq
      obtain ⟨I6, A6, rfl, rfl, h6⟩ := hv_a53 (kp := kp) (I := I4) (A := A4) h4 ⟨hg6, hc6⟩
      exact pm_iret hG hF dX11_night_44 rfl (Nat.le_refl _) (Nat.le_refl _) ⟨_, rfl, _, _, rfl, rfl, h6⟩
    · refine pm_iloadn hG dX11_night_19 rfl ?_
      refine pm_iconst (v := 0) hG dX11_night_20 (by decide) ?_
      refine pm_iconst (v := 4) hG dX11_night_21 (by decide) ?_
      refine pm_callS (As := [.int zc, .int 0, .int 4]) (rest := []) hG hR dX11_night_22 (lkX11_105 _ rfl) okS_X11_isOutside (sx_isOutside (d := 13)) rfl rfl hdd (Nat.le_refl _) (Nat.le_refl _) (by decide) (pm_ki (fun v7 σ' cnt' hq => ?_))
      have o7 := hq.1
      have b7 := pm_b10 hq.1
      obtain ⟨I7, A7, rfl, rfl, h7⟩ := hv_id (kp := kp) (I := I4) (A := A4) h4 hq.2
      refine pm_if_ne (tgt := 38) hG dX11_night_25 rfl (fun c8 => ?_) (fun c8 => ?_)
      · refine pm_aloadn hG dX11_night_38 rfl ?_
        refine pm_ldc hG dX11_night_39 (ctX11_109 _ rfl) ?_
        refine pm_callV (As := [.int (-1000001)]) (rest := []) hG hR dX11_night_41 (lkX11_97 _ rfl) okV_X11_told rfl rfl (sx_told (d := 13) (by decide) rfl rfl) rfl rfl hdd (Nat.le_refl _) (Nat.le_refl _) (by decide) (pm_ki (fun v9 σ' cnt' hq => ?_))
        obtain ⟨-, ⟨g9, hg9⟩, hc9⟩ := hq
        obtain ⟨I9, A9, rfl, rfl, h9⟩ := hv_a53 (kp := kp) (I := I7) (A := A7) h7 ⟨hg9, hc9⟩
        exact pm_iret hG hF dX11_night_44 rfl (Nat.le_refl _) (Nat.le_refl _) ⟨_, rfl, _, _, rfl, rfl, h9⟩
      · refine pm_iloadi hG dX11_night_28 rfl ?_
        refine pm_iconst (v := 0) hG dX11_night_30 (by decide) ?_
        refine pm_iconst (v := 1) hG dX11_night_31 (by decide) ?_
        refine pm_callS (As := [.int zd, .int 0, .int 1]) (rest := []) hG hR dX11_night_32 (lkX11_105 _ rfl) okS_X11_isOutside (sx_isOutside (d := 13)) rfl rfl hdd (Nat.le_refl _) (Nat.le_refl _) (by decide) (pm_ki (fun v10 σ' cnt' hq => ?_))
        have o10 := hq.1
        have b10 := pm_b10 hq.1
        obtain ⟨I10, A10, rfl, rfl, h10⟩ := hv_id (kp := kp) (I := I7) (A := A7) h7 hq.2
        refine pm_if_eq (tgt := 45) hG dX11_night_35 rfl (fun c11 => ?_) (fun c11 => ?_)
        · rcases rg_1_3 (x := zb) (pm_outL o4 c5) (pm_outR o4 c5) with rfl | rfl | rfl
          · refine pm_aloadn hG dX11_night_45 rfl ?_
            refine pm_getf hG dX11_night_46 (flX11_53 _ rfl) rfl rfl ?_
            refine pm_iloadn hG dX11_night_49 rfl ?_
            refine pm_callV (As := [.int zc]) (rest := []) hG hR dX11_night_50 (lkX11_314 _ rfl) okV_X1_prepare rfl rfl (g_X1_prepare (d := 13) (by decide) h10) rfl rfl hdd (Nat.le_refl _) (Nat.le_refl _) (by decide) (pm_kv (fun σ' cnt' hq => ?_))
            obtain ⟨I12, A12, rfl, rfl, h12⟩ := hq
            refine pm_iloadi hG dX11_night_53 rfl ?_
            refine pm_if_ne (tgt := 77) hG dX11_night_55 rfl (fun c13 => ?_) (fun c13 => ?_)
            · refine pm_aloadn hG dX11_night_77 rfl ?_
              refine pm_getf hG dX11_night_78 (flX11_53 _ rfl) rfl rfl ?_
              refine pm_iloadn hG dX11_night_81 rfl ?_
              refine pm_iconst (v := 0) hG dX11_night_82 (by decide) ?_
              refine pm_iloadn hG dX11_night_83 rfl ?_
              refine pm_callV (As := [.int 1, .int 0, .int za]) (rest := []) hG hR dX11_night_84 (lkX11_320 _ rfl) okV_X1_winsByTaking rfl rfl (g_X1_winsByTaking_k1 (d := 13) (by decide) h12) rfl rfl hdd (Nat.le_refl _) (Nat.le_refl _) (by decide) (pm_ki (fun v14 σ' cnt' hq => ?_))
              obtain ⟨b14, I14, A14, rfl, rfl, h14⟩ := hq
              refine pm_if_eq (tgt := 92) hG dX11_night_87 rfl (fun c15 => ?_) (fun c15 => ?_)
              · refine pm_aloadn hG dX11_night_92 rfl ?_
                refine pm_aloadn hG dX11_night_93 rfl ?_
                refine pm_getf hG dX11_night_94 (flX11_53 _ rfl) rfl rfl ?_
                refine pm_iloadn hG dX11_night_97 rfl ?_
                refine pm_iconst (v := 0) hG dX11_night_98 (by decide) ?_
                refine pm_iloadn hG dX11_night_99 rfl ?_
                refine pm_callV (As := [.int 1, .int 0, .int za]) (rest := [.ref (B + 0)]) hG hR dX11_night_100 (lkX11_323 _ rfl) okV_X1_winsByWaiting rfl rfl (g_X1_winsByWaiting_k1 (d := 13) (by decide) h14) rfl rfl hdd (Nat.le_refl _) (Nat.le_refl _) (by first | decide | exact Nat.le_of_ble_eq_true rfl) (pm_ki (fun v16 σ' cnt' hq => ?_))
                obtain ⟨b16, I16, A16, rfl, rfl, h16⟩ := hq
                refine pm_if_eq (tgt := 110) hG dX11_night_103 rfl (fun c17 => ?_) (fun c17 => ?_)
                · refine pm_ldc hG dX11_night_110 (ctX11_223 _ rfl) ?_
                  refine pm_callV (As := [.int (-1000002)]) (rest := []) hG hR dX11_night_112 (lkX11_97 _ rfl) okV_X11_told rfl rfl (sx_told (d := 13) (by decide) rfl rfl) rfl rfl hdd (Nat.le_refl _) (Nat.le_refl _) (by decide) (pm_ki (fun v18 σ' cnt' hq => ?_))
                  obtain ⟨-, ⟨g18, hg18⟩, hc18⟩ := hq
                  obtain ⟨I18, A18, rfl, rfl, h18⟩ := hv_a53 (kp := kp) (I := I16) (A := A16) h16 ⟨hg18, hc18⟩
                  exact pm_iret hG hF dX11_night_115 rfl (Nat.le_refl _) (Nat.le_refl _) ⟨_, rfl, _, _, rfl, rfl, h18⟩
                · refine pm_iconst (v := (-1)) hG dX11_night_106 (by decide) ?_
                  refine pm_goto (tgt := 112) hG dX11_night_107 rfl ?_
                  refine pm_callV (As := [.int (-1)]) (rest := []) hG hR dX11_night_112 (lkX11_97 _ rfl) okV_X11_told rfl rfl (sx_told (d := 13) (by decide) rfl rfl) rfl rfl hdd (Nat.le_refl _) (Nat.le_refl _) (by decide) (pm_ki (fun v19 σ' cnt' hq => ?_))
                  obtain ⟨-, ⟨g19, hg19⟩, hc19⟩ := hq
                  obtain ⟨I19, A19, rfl, rfl, h19⟩ := hv_a53 (kp := kp) (I := I16) (A := A16) h16 ⟨hg19, hc19⟩
                  exact pm_iret hG hF dX11_night_115 rfl (Nat.le_refl _) (Nat.le_refl _) ⟨_, rfl, _, _, rfl, rfl, h19⟩
              · refine pm_iconst (v := 0) hG dX11_night_90 (by decide) ?_
                exact pm_iret hG hF dX11_night_91 rfl (Nat.le_refl _) (Nat.le_refl _) ⟨_, rfl, _, _, rfl, rfl, h14⟩
            · refine pm_aloadn hG dX11_night_58 rfl ?_
              refine pm_getf hG dX11_night_59 (flX11_53 _ rfl) rfl rfl ?_
              refine pm_iloadn hG dX11_night_62 rfl ?_
              refine pm_iconst (v := 0) hG dX11_night_63 (by decide) ?_
              refine pm_iloadn hG dX11_night_64 rfl ?_
              refine pm_callV (As := [.int 1, .int 0, .int za]) (rest := []) hG hR dX11_night_65 (lkX11_317 _ rfl) okV_X1_winsWithin rfl rfl (g_X1_winsWithin_k1 (d := 13) (by decide) h12) rfl rfl hdd (Nat.le_refl _) (Nat.le_refl _) (by decide) (pm_ki (fun v20 σ' cnt' hq => ?_))
              obtain ⟨b20, I20, A20, rfl, rfl, h20⟩ := hq
              refine pm_if_eq (tgt := 75) hG dX11_night_68 rfl (fun c21 => ?_) (fun c21 => ?_)
              · refine pm_iconst (v := 0) hG dX11_night_75 (by decide) ?_
                exact pm_iret hG hF dX11_night_76 rfl (Nat.le_refl _) (Nat.le_refl _) ⟨_, rfl, _, _, rfl, rfl, h20⟩
              · refine pm_iconst (v := 1) hG dX11_night_71 (by decide) ?_
                refine pm_goto (tgt := 76) hG dX11_night_72 rfl ?_
                exact pm_iret hG hF dX11_night_76 rfl (Nat.le_refl _) (Nat.le_refl _) ⟨_, rfl, _, _, rfl, rfl, h20⟩
          · refine pm_aloadn hG dX11_night_45 rfl ?_
            refine pm_getf hG dX11_night_46 (flX11_53 _ rfl) rfl rfl ?_
            refine pm_iloadn hG dX11_night_49 rfl ?_
            refine pm_callV (As := [.int zc]) (rest := []) hG hR dX11_night_50 (lkX11_314 _ rfl) okV_X1_prepare rfl rfl (g_X1_prepare (d := 13) (by decide) h10) rfl rfl hdd (Nat.le_refl _) (Nat.le_refl _) (by decide) (pm_kv (fun σ' cnt' hq => ?_))
            obtain ⟨I22, A22, rfl, rfl, h22⟩ := hq
            refine pm_iloadi hG dX11_night_53 rfl ?_
            refine pm_if_ne (tgt := 77) hG dX11_night_55 rfl (fun c23 => ?_) (fun c23 => ?_)
            · refine pm_aloadn hG dX11_night_77 rfl ?_
              refine pm_getf hG dX11_night_78 (flX11_53 _ rfl) rfl rfl ?_
              refine pm_iloadn hG dX11_night_81 rfl ?_
              refine pm_iconst (v := 0) hG dX11_night_82 (by decide) ?_
              refine pm_iloadn hG dX11_night_83 rfl ?_
              refine pm_callV (As := [.int 2, .int 0, .int za]) (rest := []) hG hR dX11_night_84 (lkX11_320 _ rfl) okV_X1_winsByTaking rfl rfl (g_X1_winsByTaking_k2 (d := 13) (by decide) h22) rfl rfl hdd (Nat.le_refl _) (Nat.le_refl _) (by decide) (pm_ki (fun v24 σ' cnt' hq => ?_))
              obtain ⟨b24, I24, A24, rfl, rfl, h24⟩ := hq
              refine pm_if_eq (tgt := 92) hG dX11_night_87 rfl (fun c25 => ?_) (fun c25 => ?_)
              · refine pm_aloadn hG dX11_night_92 rfl ?_
                refine pm_aloadn hG dX11_night_93 rfl ?_
                refine pm_getf hG dX11_night_94 (flX11_53 _ rfl) rfl rfl ?_
                refine pm_iloadn hG dX11_night_97 rfl ?_
                refine pm_iconst (v := 0) hG dX11_night_98 (by decide) ?_
                refine pm_iloadn hG dX11_night_99 rfl ?_
                refine pm_callV (As := [.int 2, .int 0, .int za]) (rest := [.ref (B + 0)]) hG hR dX11_night_100 (lkX11_323 _ rfl) okV_X1_winsByWaiting rfl rfl (g_X1_winsByWaiting_k2 (d := 13) (by decide) h24) rfl rfl hdd (Nat.le_refl _) (Nat.le_refl _) (by first | decide | exact Nat.le_of_ble_eq_true rfl) (pm_ki (fun v26 σ' cnt' hq => ?_))
                obtain ⟨b26, I26, A26, rfl, rfl, h26⟩ := hq
                refine pm_if_eq (tgt := 110) hG dX11_night_103 rfl (fun c27 => ?_) (fun c27 => ?_)
                · refine pm_ldc hG dX11_night_110 (ctX11_223 _ rfl) ?_
                  refine pm_callV (As := [.int (-1000002)]) (rest := []) hG hR dX11_night_112 (lkX11_97 _ rfl) okV_X11_told rfl rfl (sx_told (d := 13) (by decide) rfl rfl) rfl rfl hdd (Nat.le_refl _) (Nat.le_refl _) (by decide) (pm_ki (fun v28 σ' cnt' hq => ?_))
                  obtain ⟨-, ⟨g28, hg28⟩, hc28⟩ := hq
                  obtain ⟨I28, A28, rfl, rfl, h28⟩ := hv_a53 (kp := kp) (I := I26) (A := A26) h26 ⟨hg28, hc28⟩
                  exact pm_iret hG hF dX11_night_115 rfl (Nat.le_refl _) (Nat.le_refl _) ⟨_, rfl, _, _, rfl, rfl, h28⟩
                · refine pm_iconst (v := (-1)) hG dX11_night_106 (by decide) ?_
                  refine pm_goto (tgt := 112) hG dX11_night_107 rfl ?_
                  refine pm_callV (As := [.int (-1)]) (rest := []) hG hR dX11_night_112 (lkX11_97 _ rfl) okV_X11_told rfl rfl (sx_told (d := 13) (by decide) rfl rfl) rfl rfl hdd (Nat.le_refl _) (Nat.le_refl _) (by decide) (pm_ki (fun v29 σ' cnt' hq => ?_))
                  obtain ⟨-, ⟨g29, hg29⟩, hc29⟩ := hq
                  obtain ⟨I29, A29, rfl, rfl, h29⟩ := hv_a53 (kp := kp) (I := I26) (A := A26) h26 ⟨hg29, hc29⟩
                  exact pm_iret hG hF dX11_night_115 rfl (Nat.le_refl _) (Nat.le_refl _) ⟨_, rfl, _, _, rfl, rfl, h29⟩
              · refine pm_iconst (v := 0) hG dX11_night_90 (by decide) ?_
                exact pm_iret hG hF dX11_night_91 rfl (Nat.le_refl _) (Nat.le_refl _) ⟨_, rfl, _, _, rfl, rfl, h24⟩
            · refine pm_aloadn hG dX11_night_58 rfl ?_
              refine pm_getf hG dX11_night_59 (flX11_53 _ rfl) rfl rfl ?_
              refine pm_iloadn hG dX11_night_62 rfl ?_
              refine pm_iconst (v := 0) hG dX11_night_63 (by decide) ?_
              refine pm_iloadn hG dX11_night_64 rfl ?_
              refine pm_callV (As := [.int 2, .int 0, .int za]) (rest := []) hG hR dX11_night_65 (lkX11_317 _ rfl) okV_X1_winsWithin rfl rfl (g_X1_winsWithin_k2 (d := 13) (by decide) h22) rfl rfl hdd (Nat.le_refl _) (Nat.le_refl _) (by decide) (pm_ki (fun v30 σ' cnt' hq => ?_))
              obtain ⟨b30, I30, A30, rfl, rfl, h30⟩ := hq
              refine pm_if_eq (tgt := 75) hG dX11_night_68 rfl (fun c31 => ?_) (fun c31 => ?_)
              · refine pm_iconst (v := 0) hG dX11_night_75 (by decide) ?_
                exact pm_iret hG hF dX11_night_76 rfl (Nat.le_refl _) (Nat.le_refl _) ⟨_, rfl, _, _, rfl, rfl, h30⟩
              · refine pm_iconst (v := 1) hG dX11_night_71 (by decide) ?_
                refine pm_goto (tgt := 76) hG dX11_night_72 rfl ?_
                exact pm_iret hG hF dX11_night_76 rfl (Nat.le_refl _) (Nat.le_refl _) ⟨_, rfl, _, _, rfl, rfl, h30⟩
          · refine pm_aloadn hG dX11_night_45 rfl ?_
            refine pm_getf hG dX11_night_46 (flX11_53 _ rfl) rfl rfl ?_
            refine pm_iloadn hG dX11_night_49 rfl ?_
            refine pm_callV (As := [.int zc]) (rest := []) hG hR dX11_night_50 (lkX11_314 _ rfl) okV_X1_prepare rfl rfl (g_X1_prepare (d := 13) (by decide) h10) rfl rfl hdd (Nat.le_refl _) (Nat.le_refl _) (by decide) (pm_kv (fun σ' cnt' hq => ?_))
            obtain ⟨I32, A32, rfl, rfl, h32⟩ := hq
            refine pm_iloadi hG dX11_night_53 rfl ?_
            refine pm_if_ne (tgt := 77) hG dX11_night_55 rfl (fun c33 => ?_) (fun c33 => ?_)
            · refine pm_aloadn hG dX11_night_77 rfl ?_
              refine pm_getf hG dX11_night_78 (flX11_53 _ rfl) rfl rfl ?_
              refine pm_iloadn hG dX11_night_81 rfl ?_
              refine pm_iconst (v := 0) hG dX11_night_82 (by decide) ?_
              refine pm_iloadn hG dX11_night_83 rfl ?_
              refine pm_callV (As := [.int 3, .int 0, .int za]) (rest := []) hG hR dX11_night_84 (lkX11_320 _ rfl) okV_X1_winsByTaking rfl rfl (g_X1_winsByTaking_k3 (d := 13) (by decide) h32) rfl rfl hdd (Nat.le_refl _) (Nat.le_refl _) (by decide) (pm_ki (fun v34 σ' cnt' hq => ?_))
              obtain ⟨b34, I34, A34, rfl, rfl, h34⟩ := hq
              refine pm_if_eq (tgt := 92) hG dX11_night_87 rfl (fun c35 => ?_) (fun c35 => ?_)
              · refine pm_aloadn hG dX11_night_92 rfl ?_
                refine pm_aloadn hG dX11_night_93 rfl ?_
                refine pm_getf hG dX11_night_94 (flX11_53 _ rfl) rfl rfl ?_
                refine pm_iloadn hG dX11_night_97 rfl ?_
                refine pm_iconst (v := 0) hG dX11_night_98 (by decide) ?_
                refine pm_iloadn hG dX11_night_99 rfl ?_
                refine pm_callV (As := [.int 3, .int 0, .int za]) (rest := [.ref (B + 0)]) hG hR dX11_night_100 (lkX11_323 _ rfl) okV_X1_winsByWaiting rfl rfl (g_X1_winsByWaiting_k3 (d := 13) (by decide) h34) rfl rfl hdd (Nat.le_refl _) (Nat.le_refl _) (by first | decide | exact Nat.le_of_ble_eq_true rfl) (pm_ki (fun v36 σ' cnt' hq => ?_))
                obtain ⟨b36, I36, A36, rfl, rfl, h36⟩ := hq
                refine pm_if_eq (tgt := 110) hG dX11_night_103 rfl (fun c37 => ?_) (fun c37 => ?_)
                · refine pm_ldc hG dX11_night_110 (ctX11_223 _ rfl) ?_
                  refine pm_callV (As := [.int (-1000002)]) (rest := []) hG hR dX11_night_112 (lkX11_97 _ rfl) okV_X11_told rfl rfl (sx_told (d := 13) (by decide) rfl rfl) rfl rfl hdd (Nat.le_refl _) (Nat.le_refl _) (by decide) (pm_ki (fun v38 σ' cnt' hq => ?_))
                  obtain ⟨-, ⟨g38, hg38⟩, hc38⟩ := hq
                  obtain ⟨I38, A38, rfl, rfl, h38⟩ := hv_a53 (kp := kp) (I := I36) (A := A36) h36 ⟨hg38, hc38⟩
                  exact pm_iret hG hF dX11_night_115 rfl (Nat.le_refl _) (Nat.le_refl _) ⟨_, rfl, _, _, rfl, rfl, h38⟩
                · refine pm_iconst (v := (-1)) hG dX11_night_106 (by decide) ?_
                  refine pm_goto (tgt := 112) hG dX11_night_107 rfl ?_
                  refine pm_callV (As := [.int (-1)]) (rest := []) hG hR dX11_night_112 (lkX11_97 _ rfl) okV_X11_told rfl rfl (sx_told (d := 13) (by decide) rfl rfl) rfl rfl hdd (Nat.le_refl _) (Nat.le_refl _) (by decide) (pm_ki (fun v39 σ' cnt' hq => ?_))
                  obtain ⟨-, ⟨g39, hg39⟩, hc39⟩ := hq
                  obtain ⟨I39, A39, rfl, rfl, h39⟩ := hv_a53 (kp := kp) (I := I36) (A := A36) h36 ⟨hg39, hc39⟩
                  exact pm_iret hG hF dX11_night_115 rfl (Nat.le_refl _) (Nat.le_refl _) ⟨_, rfl, _, _, rfl, rfl, h39⟩
              · refine pm_iconst (v := 0) hG dX11_night_90 (by decide) ?_
                exact pm_iret hG hF dX11_night_91 rfl (Nat.le_refl _) (Nat.le_refl _) ⟨_, rfl, _, _, rfl, rfl, h34⟩
            · refine pm_aloadn hG dX11_night_58 rfl ?_
              refine pm_getf hG dX11_night_59 (flX11_53 _ rfl) rfl rfl ?_
              refine pm_iloadn hG dX11_night_62 rfl ?_
              refine pm_iconst (v := 0) hG dX11_night_63 (by decide) ?_
              refine pm_iloadn hG dX11_night_64 rfl ?_
              refine pm_callV (As := [.int 3, .int 0, .int za]) (rest := []) hG hR dX11_night_65 (lkX11_317 _ rfl) okV_X1_winsWithin rfl rfl (g_X1_winsWithin_k3 (d := 13) (by decide) h32) rfl rfl hdd (Nat.le_refl _) (Nat.le_refl _) (by decide) (pm_ki (fun v40 σ' cnt' hq => ?_))
              obtain ⟨b40, I40, A40, rfl, rfl, h40⟩ := hq
              refine pm_if_eq (tgt := 75) hG dX11_night_68 rfl (fun c41 => ?_) (fun c41 => ?_)
              · refine pm_iconst (v := 0) hG dX11_night_75 (by decide) ?_
                exact pm_iret hG hF dX11_night_76 rfl (Nat.le_refl _) (Nat.le_refl _) ⟨_, rfl, _, _, rfl, rfl, h40⟩
              · refine pm_iconst (v := 1) hG dX11_night_71 (by decide) ?_
                refine pm_goto (tgt := 76) hG dX11_night_72 rfl ?_
                exact pm_iret hG hF dX11_night_76 rfl (Nat.le_refl _) (Nat.le_refl _) ⟨_, rfl, _, _, rfl, rfl, h40⟩
        · refine pm_aloadn hG dX11_night_38 rfl ?_
          refine pm_ldc hG dX11_night_39 (ctX11_109 _ rfl) ?_
          refine pm_callV (As := [.int (-1000001)]) (rest := []) hG hR dX11_night_41 (lkX11_97 _ rfl) okV_X11_told rfl rfl (sx_told (d := 13) (by decide) rfl rfl) rfl rfl hdd (Nat.le_refl _) (Nat.le_refl _) (by decide) (pm_ki (fun v42 σ' cnt' hq => ?_))
          obtain ⟨-, ⟨g42, hg42⟩, hc42⟩ := hq
          obtain ⟨I42, A42, rfl, rfl, h42⟩ := hv_a53 (kp := kp) (I := I10) (A := A10) h10 ⟨hg42, hc42⟩
          exact pm_iret hG hF dX11_night_44 rfl (Nat.le_refl _) (Nat.le_refl _) ⟨_, rfl, _, _, rfl, rfl, h42⟩

set_option maxRecDepth 100000 in
set_option maxHeartbeats 4000000 in
theorem g_X7_payFromChest {ε : Nat → Int32} {d B cnt : Nat} {kp : pm_KP} {ρ : pm_S} {I : Nat → Int32} {A : Nat → Nat → Int32} {za zb : Int32} (hdd : 2 ≤ d) (h : gq ε I) : pm_met mX7_payFromChest d 0 0 B [.ref (B + 1), .int za, .int zb] cnt (pm_two (cl_L B kp I A) ρ) (pm_Qi (fun _ σ' cnt' => hvq ε B kp ρ cnt σ' cnt')) := by
  refine pm_enter 0 (by decide) (Nat.le_of_ble_eq_true rfl) rfl (fun G hG hR hF => ?_)
  refine pm_aloadn hG dX7_payFromChest_0 rfl ?_
  refine pm_getf hG dX7_payFromChest_1 (flX7_53 _ rfl) rfl rfl ?_
  refine pm_iloadn hG dX7_payFromChest_4 rfl ?_
  refine pm_icmp_ge (tgt := 11) hG dX7_payFromChest_5 rfl (fun c1 => ?_) (fun c1 => ?_)
  · refine pm_aloadn hG dX7_payFromChest_11 rfl ?_
    refine pm_dup hG dX7_payFromChest_12 rfl ?_
    refine pm_getf hG dX7_payFromChest_13 (flX7_53 _ rfl) rfl rfl ?_
    refine pm_iloadn hG dX7_payFromChest_16 rfl ?_
    refine pm_isub hG dX7_payFromChest_17 ?_
    refine pm_putf hG dX7_payFromChest_18 (fwX7_53 _ rfl) rfl rfl rfl ?_
    refine pm_nrm (L' := cl_L B kp (ui I 103 ((I 103) - zb)) A) (by decide) (Nat.le_of_ble_eq_true rfl) rfl ?_
    refine pm_aloadn hG dX7_payFromChest_21 rfl ?_
    refine pm_getf hG dX7_payFromChest_22 (flX7_23 _ rfl) rfl rfl ?_
    refine pm_iloadn hG dX7_payFromChest_25 rfl ?_
    refine pm_bipush (v := 7) hG dX7_payFromChest_26 (by decide) ?_
    refine pm_iloadn hG dX7_payFromChest_28 rfl ?_
    refine pm_callV (As := [.int za, .int 7, .int zb]) (rest := []) hG hR dX7_payFromChest_29 (lkX7_125 _ rfl) okV_X9_add rfl rfl (tb_add (d := 1) (rows := nI 20) (width := nI 14) (f := cmx kp.2 (A 7)) (by decide) rfl rfl (pm_tw_of 20 14 (by decide) (by decide) (by decide)) (by decide)) rfl rfl hdd (Nat.le_refl _) (Nat.le_refl _) (by decide) (pm_kv (fun σ' cnt' hq => ?_))
    obtain ⟨I3, A3, rfl, rfl, h3⟩ := hv_s7 (kp := kp) (I := (ui I 103 ((I 103) - zb))) (A := A) (ts7 7 (by decide) (by decide)) (gq.wi (k := 103) rfl h) hq
    refine pm_aloadn hG dX7_payFromChest_32 rfl ?_
    refine pm_getf hG dX7_payFromChest_33 (flX7_53 _ rfl) rfl rfl ?_
    exact pm_iret hG hF dX7_payFromChest_36 rfl (Nat.le_refl _) (Nat.le_refl _) ⟨_, rfl, _, _, rfl, rfl, h3⟩
  · refine pm_ldc hG dX7_payFromChest_8 (ctX7_92 _ rfl) ?_
    exact pm_iret hG hF dX7_payFromChest_10 rfl (Nat.le_refl _) (Nat.le_refl _) ⟨_, rfl, _, _, rfl, rfl, h⟩

set_option maxRecDepth 100000 in
set_option maxHeartbeats 4000000 in
theorem g_X3_sendAway {ε : Nat → Int32} {d B cnt : Nat} {kp : pm_KP} {ρ : pm_S} {I : Nat → Int32} {A : Nat → Nat → Int32} {za zb : Int32} (hdd : 3 ≤ d) (h : gq ε I) : pm_met mX3_sendAway d 0 0 B [.ref (B + 36), .int za, .int zb] cnt (pm_two (cl_L B kp I A) ρ) (pm_Qi (fun _ σ' cnt' => hvq ε B kp ρ cnt σ' cnt')) := by
  refine pm_enter 1 (by decide) (Nat.le_of_ble_eq_true rfl) rfl (fun G hG hR hF => ?_)
  refine pm_aloadn hG dX3_sendAway_0 rfl ?_
  refine pm_getf hG dX3_sendAway_1 (flX3_9 _ rfl) rfl rfl ?_
  refine pm_getf hG dX3_sendAway_4 (flX3_123 _ rfl) rfl rfl ?_
  refine pm_callV (As := []) (rest := []) hG hR dX3_sendAway_7 (lkX3_74 _ rfl) okV_X9_used rfl rfl (tb_used (d := 2) rfl) rfl rfl hdd (Nat.le_refl _) (Nat.le_refl _) (by decide) (pm_ki (fun v1 σ' cnt' hq => ?_))
  obtain ⟨I1, A1, rfl, rfl, h1⟩ := hv_id (kp := kp) (I := I) (A := A) h hq.2
  refine pm_istoreXn (loc' := [some (.ref (B + 36)), some (.int za), some (.int zb), some (.int v1)]) hG dX3_sendAway_10 (by decide) (pm_c1b rfl) rfl ?_
  refine pm_iloadn hG dX3_sendAway_11 rfl ?_
  refine pm_if_le (tgt := 40) hG dX3_sendAway_12 rfl (fun c2 => ?_) (fun c2 => ?_)
  · refine pm_ldc hG dX3_sendAway_40 (ctX3_81 _ rfl) ?_
    exact pm_iret hG hF dX3_sendAway_42 rfl (Nat.le_refl _) (Nat.le_refl _) ⟨_, rfl, _, _, rfl, rfl, h1⟩
  · refine pm_aloadn hG dX3_sendAway_15 rfl ?_
    refine pm_getf hG dX3_sendAway_16 (flX3_9 _ rfl) rfl rfl ?_
    refine pm_iloadn hG dX3_sendAway_19 rfl ?_
    refine pm_callV (As := [.int za]) (rest := []) hG hR dX3_sendAway_20 (lkX3_59 _ rfl) okV_X7_isInTown rfl rfl (g_X7_isInTown (d := 2) (by decide) h1) rfl rfl hdd (Nat.le_refl _) (Nat.le_refl _) (by decide) (pm_ki (fun v3 σ' cnt' hq => ?_))
    obtain ⟨b3, I3, A3, rfl, rfl, h3⟩ := hq
    refine pm_if_eq (tgt := 40) hG dX3_sendAway_23 rfl (fun c4 => ?_) (fun c4 => ?_)
    · refine pm_ldc hG dX3_sendAway_40 (ctX3_81 _ rfl) ?_
      exact pm_iret hG hF dX3_sendAway_42 rfl (Nat.le_refl _) (Nat.le_refl _) ⟨_, rfl, _, _, rfl, rfl, h3⟩
    · refine pm_aloadn hG dX3_sendAway_26 rfl ?_
      refine pm_getf hG dX3_sendAway_27 (flX3_9 _ rfl) rfl rfl ?_
      refine pm_iloadn hG dX3_sendAway_30 rfl ?_
      refine pm_iloadn hG dX3_sendAway_31 rfl ?_
      refine pm_iloadn hG dX3_sendAway_32 rfl ?_
      refine pm_irem hG dX3_sendAway_33 (fun q => c2 (by rw [q]; decide)) ?_
      refine pm_callV (As := [.int za, .int (zb - zb / v1 * v1)]) (rest := []) hG hR dX3_sendAway_34 (lkX3_126 _ rfl) okV_X7_setOut rfl rfl (g_X7_setOut (d := 2) (by decide) h3) rfl rfl hdd (Nat.le_refl _) (Nat.le_refl _) (by decide) (pm_ki (fun v5 σ' cnt' hq => ?_))
      obtain ⟨I5, A5, rfl, rfl, h5⟩ := hq
      refine pm_goto (tgt := 42) hG dX3_sendAway_37 rfl ?_
      exact pm_iret hG hF dX3_sendAway_42 rfl (Nat.le_refl _) (Nat.le_refl _) ⟨_, rfl, _, _, rfl, rfl, h5⟩

set_option maxRecDepth 100000 in
set_option maxHeartbeats 4000000 in
theorem g_X2_isStruck {ε : Nat → Int32} {d B cnt : Nat} {kp : pm_KP} {ρ : pm_S} {I : Nat → Int32} {A : Nat → Nat → Int32} {za : Int32} (hdd : 1 ≤ d) (h : gq ε I) : pm_met mX2_isStruck d 0 0 B [.ref (B + 26), .int za] cnt (pm_two (cl_L B kp I A) ρ) (pm_Qi (fun v σ' cnt' => (v = 0 ∨ v = 1) ∧ hvq ε B kp ρ cnt σ' cnt')) := by
  refine pm_enter 0 (by decide) (Nat.le_of_ble_eq_true rfl) rfl (fun G hG hR hF => ?_)
  refine pm_aloadn hG dX2_isStruck_0 rfl ?_
  refine pm_getf hG dX2_isStruck_1 (flX2_9 _ rfl) rfl rfl ?_
  refine pm_getf hG dX2_isStruck_4 (flX2_43 _ rfl) rfl rfl ?_
  refine pm_iloadn hG dX2_isStruck_7 rfl ?_
  refine pm_iconst (v := 3) hG dX2_isStruck_8 (by decide) ?_
  refine pm_callV (As := [.int za, .int 3]) (rest := []) hG hR dX2_isStruck_9 (lkX2_67 _ rfl) okV_X9_get rfl rfl (tb_get (d := 0) rfl rfl (pm_tw_of 12 6 (by decide) (by decide) (by decide))) rfl rfl hdd (Nat.le_refl _) (Nat.le_refl _) (by decide) (pm_ki (fun v1 σ' cnt' hq => ?_))
  obtain ⟨I1, A1, rfl, rfl, h1⟩ := hv_id (kp := kp) (I := I) (A := A) h hq.2
  refine pm_if_lt (tgt := 19) hG dX2_isStruck_12 rfl (fun c2 => ?_) (fun c2 => ?_)
  · refine pm_iconst (v := 0) hG dX2_isStruck_19 (by decide) ?_
    exact pm_zret hG hF dX2_isStruck_20 rfl (pm_nz (Or.inl rfl)) (Nat.le_refl _) (Nat.le_refl _) ⟨_, rfl, (Or.inl rfl), _, _, rfl, rfl, h1⟩
  · refine pm_iconst (v := 1) hG dX2_isStruck_15 (by decide) ?_
    refine pm_goto (tgt := 20) hG dX2_isStruck_16 rfl ?_
    exact pm_zret hG hF dX2_isStruck_20 rfl (pm_nz (Or.inr rfl)) (Nat.le_refl _) (Nat.le_refl _) ⟨_, rfl, (Or.inr rfl), _, _, rfl, rfl, h1⟩

set_option maxRecDepth 100000 in
set_option maxHeartbeats 4000000 in
theorem g_X2_strikeOut {ε : Nat → Int32} {d B cnt : Nat} {kp : pm_KP} {ρ : pm_S} {I : Nat → Int32} {A : Nat → Nat → Int32} {za : Int32} (hdd : 1 ≤ d) (h : gq ε I) : pm_met mX2_strikeOut d 0 0 B [.ref (B + 26), .int za] cnt (pm_two (cl_L B kp I A) ρ) (pm_Qv (fun σ' cnt' => hvq ε B kp ρ cnt σ' cnt')) := by
  refine pm_enter 0 (by decide) (Nat.le_of_ble_eq_true rfl) rfl (fun G hG hR hF => ?_)
  refine pm_aloadn hG dX2_strikeOut_0 rfl ?_
  refine pm_getf hG dX2_strikeOut_1 (flX2_9 _ rfl) rfl rfl ?_
  refine pm_getf hG dX2_strikeOut_4 (flX2_43 _ rfl) rfl rfl ?_
  refine pm_iloadn hG dX2_strikeOut_7 rfl ?_
  refine pm_iconst (v := 3) hG dX2_strikeOut_8 (by decide) ?_
  refine pm_aloadn hG dX2_strikeOut_9 rfl ?_
  refine pm_getf hG dX2_strikeOut_10 (flX2_9 _ rfl) rfl rfl ?_
  refine pm_getf hG dX2_strikeOut_13 (flX2_60 _ rfl) rfl rfl ?_
  refine pm_callV (As := [.int za, .int 3, .int (I 102)]) (rest := []) hG hR dX2_strikeOut_16 (lkX2_56 _ rfl) okV_X9_set rfl rfl (tb_set (d := 0) rfl rfl (pm_tw_of 12 6 (by decide) (by decide) (by decide)) (by decide)) rfl rfl hdd (Nat.le_refl _) (Nat.le_refl _) (by decide) (pm_kv (fun σ' cnt' hq => ?_))
  obtain ⟨I1, A1, rfl, rfl, h1⟩ := hv_a11 (kp := kp) (I := I) (A := A) h hq
  exact pm_vret hG hF dX2_strikeOut_19 rfl (Nat.le_refl _) (Nat.le_refl _) ⟨rfl, _, _, rfl, rfl, h1⟩

set_option maxRecDepth 100000 in
set_option maxHeartbeats 4000000 in
theorem g_X3_strikeFor {ε : Nat → Int32} {d B cnt : Nat} {kp : pm_KP} {ρ : pm_S} {I : Nat → Int32} {A : Nat → Nat → Int32} {za : Int32} (hdd : 2 ≤ d) (h : gq ε I) : pm_met mX3_strikeFor d 0 0 B [.ref (B + 36), .int za] cnt (pm_two (cl_L B kp I A) ρ) (pm_Qi (fun _ σ' cnt' => hvq ε B kp ρ cnt σ' cnt')) := by
  refine pm_enter 0 (by decide) (Nat.le_of_ble_eq_true rfl) rfl (fun G hG hR hF => ?_)
  refine pm_aloadn hG dX3_strikeFor_0 rfl ?_
  refine pm_getf hG dX3_strikeFor_1 (flX3_9 _ rfl) rfl rfl ?_
  refine pm_getf hG dX3_strikeFor_4 (flX3_129 _ rfl) rfl rfl ?_
  refine pm_iloadn hG dX3_strikeFor_7 rfl ?_
  refine pm_callV (As := [.int za]) (rest := []) hG hR dX3_strikeFor_8 (lkX3_109 _ rfl) okV_X9_has rfl rfl (tb_has (d := 1) rfl) rfl rfl hdd (Nat.le_refl _) (Nat.le_refl _) (by decide) (pm_ki (fun v1 σ' cnt' hq => ?_))
  have b1 := pm_b01 hq.1
  obtain ⟨I1, A1, rfl, rfl, h1⟩ := hv_id (kp := kp) (I := I) (A := A) h hq.2
  refine pm_if_eq (tgt := 25) hG dX3_strikeFor_11 rfl (fun c2 => ?_) (fun c2 => ?_)
  · refine pm_ldc hG dX3_strikeFor_25 (ctX3_81 _ rfl) ?_
    exact pm_iret hG hF dX3_strikeFor_27 rfl (Nat.le_refl _) (Nat.le_refl _) ⟨_, rfl, _, _, rfl, rfl, h1⟩
  · refine pm_aloadn hG dX3_strikeFor_14 rfl ?_
    refine pm_getf hG dX3_strikeFor_15 (flX3_15 _ rfl) rfl rfl ?_
    refine pm_iloadn hG dX3_strikeFor_18 rfl ?_
    refine pm_callV (As := [.int za]) (rest := []) hG hR dX3_strikeFor_19 (lkX3_131 _ rfl) okV_X2_isStruck rfl rfl (g_X2_isStruck (d := 1) (by decide) h1) rfl rfl hdd (Nat.le_refl _) (Nat.le_refl _) (by decide) (pm_ki (fun v3 σ' cnt' hq => ?_))
    obtain ⟨b3, I3, A3, rfl, rfl, h3⟩ := hq
    refine pm_if_eq (tgt := 28) hG dX3_strikeFor_22 rfl (fun c4 => ?_) (fun c4 => ?_)
    · refine pm_aloadn hG dX3_strikeFor_28 rfl ?_
      refine pm_getf hG dX3_strikeFor_29 (flX3_15 _ rfl) rfl rfl ?_
      refine pm_iloadn hG dX3_strikeFor_32 rfl ?_
      refine pm_callV (As := [.int za]) (rest := []) hG hR dX3_strikeFor_33 (lkX3_134 _ rfl) okV_X2_strikeOut rfl rfl (g_X2_strikeOut (d := 1) (by decide) h3) rfl rfl hdd (Nat.le_refl _) (Nat.le_refl _) (by decide) (pm_kv (fun σ' cnt' hq => ?_))
      obtain ⟨I5, A5, rfl, rfl, h5⟩ := hq
      refine pm_iconst (v := 1) hG dX3_strikeFor_36 (by decide) ?_
      exact pm_iret hG hF dX3_strikeFor_37 rfl (Nat.le_refl _) (Nat.le_refl _) ⟨_, rfl, _, _, rfl, rfl, h5⟩
    · refine pm_ldc hG dX3_strikeFor_25 (ctX3_81 _ rfl) ?_
      exact pm_iret hG hF dX3_strikeFor_27 rfl (Nat.le_refl _) (Nat.le_refl _) ⟨_, rfl, _, _, rfl, rfl, h3⟩

set_option maxRecDepth 100000 in
set_option maxHeartbeats 4000000 in
theorem g_X3_carryOutSort {ε : Nat → Int32} {d B cnt : Nat} {kp : pm_KP} {ρ : pm_S} {I : Nat → Int32} {A : Nat → Nat → Int32} {za zb zc : Int32} (hdd : 4 ≤ d) (h : gq ε I) : pm_met mX3_carryOutSort d 0 0 B [.ref (B + 36), .int za, .int zb, .int zc] cnt (pm_two (cl_L B kp I A) ρ) (pm_Qi (fun _ σ' cnt' => hvq ε B kp ρ cnt σ' cnt')) := by
  refine pm_enter 0 (by decide) (Nat.le_of_ble_eq_true rfl) rfl (fun G hG hR hF => ?_)
  refine pm_iloadn hG dX3_carryOutSort_0 rfl ?_
  by_cases c1 : za = 0
  · refine pm_top (v := 0) c1 ?_
    refine pm_tswIn (tgt := 32) hG dX3_carryOutSort_1 (by decide) (by decide) rfl rfl ?_
    refine pm_aloadn hG dX3_carryOutSort_32 rfl ?_
    refine pm_getf hG dX3_carryOutSort_33 (flX3_9 _ rfl) rfl rfl ?_
    refine pm_iloadn hG dX3_carryOutSort_36 rfl ?_
    refine pm_iloadn hG dX3_carryOutSort_37 rfl ?_
    refine pm_callV (As := [.int zc, .int zb]) (rest := []) hG hR dX3_carryOutSort_38 (lkX3_103 _ rfl) okV_X7_payFromChest rfl rfl (g_X7_payFromChest (d := 3) (by decide) h) rfl rfl hdd (Nat.le_refl _) (Nat.le_refl _) (by decide) (pm_ki (fun v2 σ' cnt' hq => ?_))
    obtain ⟨I2, A2, rfl, rfl, h2⟩ := hq
    exact pm_iret hG hF dX3_carryOutSort_41 rfl (Nat.le_refl _) (Nat.le_refl _) ⟨_, rfl, _, _, rfl, rfl, h2⟩
  by_cases c3 : za = 1
  · refine pm_top (v := 1) c3 ?_
    refine pm_tswIn (tgt := 42) hG dX3_carryOutSort_1 (by decide) (by decide) rfl rfl ?_
    refine pm_aloadn hG dX3_carryOutSort_42 rfl ?_
    refine pm_iloadn hG dX3_carryOutSort_43 rfl ?_
    refine pm_iloadn hG dX3_carryOutSort_44 rfl ?_
    refine pm_callV (As := [.int zc, .int zb]) (rest := []) hG hR dX3_carryOutSort_45 (lkX3_106 _ rfl) okV_X3_sendAway rfl rfl (g_X3_sendAway (d := 3) (by decide) h) rfl rfl hdd (Nat.le_refl _) (Nat.le_refl _) (by decide) (pm_ki (fun v4 σ' cnt' hq => ?_))
    obtain ⟨I4, A4, rfl, rfl, h4⟩ := hq
    exact pm_iret hG hF dX3_carryOutSort_48 rfl (Nat.le_refl _) (Nat.le_refl _) ⟨_, rfl, _, _, rfl, rfl, h4⟩
  by_cases c5 : za = 2
  · refine pm_top (v := 2) c5 ?_
    refine pm_tswIn (tgt := 49) hG dX3_carryOutSort_1 (by decide) (by decide) rfl rfl ?_
    refine pm_aloadn hG dX3_carryOutSort_49 rfl ?_
    refine pm_getf hG dX3_carryOutSort_50 (flX3_9 _ rfl) rfl rfl ?_
    refine pm_getf hG dX3_carryOutSort_53 (flX3_63 _ rfl) rfl rfl ?_
    refine pm_iloadn hG dX3_carryOutSort_56 rfl ?_
    refine pm_callV (As := [.int zb]) (rest := []) hG hR dX3_carryOutSort_57 (lkX3_109 _ rfl) okV_X9_has rfl rfl (tb_has (d := 3) rfl) rfl rfl hdd (Nat.le_refl _) (Nat.le_refl _) (by decide) (pm_ki (fun v6 σ' cnt' hq => ?_))
    have b6 := pm_b01 hq.1
    obtain ⟨I6, A6, rfl, rfl, h6⟩ := hv_id (kp := kp) (I := I) (A := A) h hq.2
    refine pm_if_eq (tgt := 75) hG dX3_carryOutSort_60 rfl (fun c7 => ?_) (fun c7 => ?_)
    · refine pm_ldc hG dX3_carryOutSort_75 (ctX3_81 _ rfl) ?_
      exact pm_iret hG hF dX3_carryOutSort_77 rfl (Nat.le_refl _) (Nat.le_refl _) ⟨_, rfl, _, _, rfl, rfl, h6⟩
    · refine pm_aloadn hG dX3_carryOutSort_63 rfl ?_
      refine pm_getf hG dX3_carryOutSort_64 (flX3_9 _ rfl) rfl rfl ?_
      refine pm_iloadn hG dX3_carryOutSort_67 rfl ?_
      refine pm_iloadn hG dX3_carryOutSort_68 rfl ?_
      refine pm_callV (As := [.int zb, .int zc]) (rest := []) hG hR dX3_carryOutSort_69 (lkX3_112 _ rfl) okV_X7_handOver rfl rfl (g_X7_handOver (d := 3) (by decide) h6) rfl rfl hdd (Nat.le_refl _) (Nat.le_refl _) (by decide) (pm_ki (fun v8 σ' cnt' hq => ?_))
      obtain ⟨I8, A8, rfl, rfl, h8⟩ := hq
      refine pm_goto (tgt := 77) hG dX3_carryOutSort_72 rfl ?_
      exact pm_iret hG hF dX3_carryOutSort_77 rfl (Nat.le_refl _) (Nat.le_refl _) ⟨_, rfl, _, _, rfl, rfl, h8⟩
  by_cases c9 : za = 3
  · refine pm_top (v := 3) c9 ?_
    refine pm_tswIn (tgt := 78) hG dX3_carryOutSort_1 (by decide) (by decide) rfl rfl ?_
    refine pm_aloadn hG dX3_carryOutSort_78 rfl ?_
    refine pm_iloadn hG dX3_carryOutSort_79 rfl ?_
    refine pm_callV (As := [.int zb]) (rest := []) hG hR dX3_carryOutSort_80 (lkX3_115 _ rfl) okV_X3_strikeFor rfl rfl (g_X3_strikeFor (d := 3) (by decide) h) rfl rfl hdd (Nat.le_refl _) (Nat.le_refl _) (by decide) (pm_ki (fun v10 σ' cnt' hq => ?_))
    obtain ⟨I10, A10, rfl, rfl, h10⟩ := hq
    exact pm_iret hG hF dX3_carryOutSort_83 rfl (Nat.le_refl _) (Nat.le_refl _) ⟨_, rfl, _, _, rfl, rfl, h10⟩
  have tc1 : ¬ za.toInt = 0 := fun q => c1 (Int32.toInt_inj.mp q)
  have tc3 : ¬ za.toInt = 1 := fun q => c3 (Int32.toInt_inj.mp q)
  have tc5 : ¬ za.toInt = 2 := fun q => c5 (Int32.toInt_inj.mp q)
  have tc9 : ¬ za.toInt = 3 := fun q => c9 (Int32.toInt_inj.mp q)
  refine pm_tswOut (tgt := 84) hG dX3_carryOutSort_1 (by omega) rfl ?_
  refine pm_aloadn hG dX3_carryOutSort_84 rfl ?_
  refine pm_getf hG dX3_carryOutSort_85 (flX3_19 _ rfl) rfl rfl ?_
  refine pm_iloadn hG dX3_carryOutSort_88 rfl ?_
  refine pm_callV (As := [.int zc]) (rest := []) hG hR dX3_carryOutSort_89 (lkX3_118 _ rfl) okV_X0_breakAllOf rfl rfl (g_X0_breakAllOf (d := 3) (by decide) h) rfl rfl hdd (Nat.le_refl _) (Nat.le_refl _) (by decide) (pm_ki (fun v11 σ' cnt' hq => ?_))
  obtain ⟨I11, A11, rfl, rfl, h11⟩ := hq
  exact pm_iret hG hF dX3_carryOutSort_92 rfl (Nat.le_refl _) (Nat.le_refl _) ⟨_, rfl, _, _, rfl, rfl, h11⟩

set_option maxRecDepth 100000 in
set_option maxHeartbeats 4000000 in
theorem g_X3_carryOut {ε : Nat → Int32} {d B cnt : Nat} {kp : pm_KP} {ρ : pm_S} {I : Nat → Int32} {A : Nat → Nat → Int32} {za : Int32} (hdd : 5 ≤ d) (h : gq ε I) : pm_met mX3_carryOut d 0 0 B [.ref (B + 36), .int za] cnt (pm_two (cl_L B kp I A) ρ) (pm_Qi (fun _ σ' cnt' => hvq ε B kp ρ cnt σ' cnt')) := by
  refine pm_enter 2 (by decide) (Nat.le_of_ble_eq_true rfl) rfl (fun G hG hR hF => ?_)
  refine pm_aloadn hG dX3_carryOut_0 rfl ?_
  refine pm_getf hG dX3_carryOut_1 (flX3_29 _ rfl) rfl rfl ?_
  refine pm_iloadn hG dX3_carryOut_4 rfl ?_
  refine pm_bipush (v := 6) hG dX3_carryOut_5 (by decide) ?_
  refine pm_callV (As := [.int za, .int 6]) (rest := []) hG hR dX3_carryOut_7 (lkX3_35 _ rfl) okV_X9_get rfl rfl (tb_get (d := 4) rfl rfl (pm_tw_of 40 12 (by decide) (by decide) (by decide))) rfl rfl hdd (Nat.le_refl _) (Nat.le_refl _) (by decide) (pm_ki (fun v1 σ' cnt' hq => ?_))
  obtain ⟨I1, A1, rfl, rfl, h1⟩ := hv_id (kp := kp) (I := I) (A := A) h hq.2
  refine pm_istoreXn (loc' := [some (.ref (B + 36)), some (.int za), some (.int v1), none]) hG dX3_carryOut_10 (by decide) (pm_c1b rfl) rfl ?_
  refine pm_aloadn hG dX3_carryOut_11 rfl ?_
  refine pm_getf hG dX3_carryOut_12 (flX3_29 _ rfl) rfl rfl ?_
  refine pm_iloadn hG dX3_carryOut_15 rfl ?_
  refine pm_bipush (v := 9) hG dX3_carryOut_16 (by decide) ?_
  refine pm_callV (As := [.int za, .int 9]) (rest := []) hG hR dX3_carryOut_18 (lkX3_35 _ rfl) okV_X9_get rfl rfl (tb_get (d := 4) rfl rfl (pm_tw_of 40 12 (by decide) (by decide) (by decide))) rfl rfl hdd (Nat.le_refl _) (Nat.le_refl _) (by decide) (pm_ki (fun v2 σ' cnt' hq => ?_))
  obtain ⟨I2, A2, rfl, rfl, h2⟩ := hv_id (kp := kp) (I := I1) (A := A1) h1 hq.2
  refine pm_if_lt (tgt := 48) hG dX3_carryOut_21 rfl (fun c3 => ?_) (fun c3 => ?_)
  · refine pm_ldc hG dX3_carryOut_48 (ctX3_62 _ rfl) ?_
    exact pm_iret hG hF dX3_carryOut_50 rfl (Nat.le_refl _) (Nat.le_refl _) ⟨_, rfl, _, _, rfl, rfl, h2⟩
  · refine pm_aloadn hG dX3_carryOut_24 rfl ?_
    refine pm_getf hG dX3_carryOut_25 (flX3_29 _ rfl) rfl rfl ?_
    refine pm_iloadn hG dX3_carryOut_28 rfl ?_
    refine pm_bipush (v := 11) hG dX3_carryOut_29 (by decide) ?_
    refine pm_callV (As := [.int za, .int 11]) (rest := []) hG hR dX3_carryOut_31 (lkX3_35 _ rfl) okV_X9_get rfl rfl (tb_get (d := 4) rfl rfl (pm_tw_of 40 12 (by decide) (by decide) (by decide))) rfl rfl hdd (Nat.le_refl _) (Nat.le_refl _) (by decide) (pm_ki (fun v4 σ' cnt' hq => ?_))
    obtain ⟨I4, A4, rfl, rfl, h4⟩ := hv_id (kp := kp) (I := I2) (A := A2) h2 hq.2
    refine pm_if_ne (tgt := 48) hG dX3_carryOut_34 rfl (fun c5 => ?_) (fun c5 => ?_)
    · refine pm_ldc hG dX3_carryOut_48 (ctX3_62 _ rfl) ?_
      exact pm_iret hG hF dX3_carryOut_50 rfl (Nat.le_refl _) (Nat.le_refl _) ⟨_, rfl, _, _, rfl, rfl, h4⟩
    · refine pm_aloadn hG dX3_carryOut_37 rfl ?_
      refine pm_getf hG dX3_carryOut_38 (flX3_9 _ rfl) rfl rfl ?_
      refine pm_iloadn hG dX3_carryOut_41 rfl ?_
      refine pm_callV (As := [.int v1]) (rest := []) hG hR dX3_carryOut_42 (lkX3_95 _ rfl) okV_X7_isLiving rfl rfl (g_X7_isLiving (d := 4) (by decide) h4) rfl rfl hdd (Nat.le_refl _) (Nat.le_refl _) (by decide) (pm_ki (fun v6 σ' cnt' hq => ?_))
      obtain ⟨b6, I6, A6, rfl, rfl, h6⟩ := hq
      refine pm_if_ne (tgt := 51) hG dX3_carryOut_45 rfl (fun c7 => ?_) (fun c7 => ?_)
      · refine pm_aloadn hG dX3_carryOut_51 rfl ?_
        refine pm_getf hG dX3_carryOut_52 (flX3_29 _ rfl) rfl rfl ?_
        refine pm_iloadn hG dX3_carryOut_55 rfl ?_
        refine pm_bipush (v := 10) hG dX3_carryOut_56 (by decide) ?_
        refine pm_callV (As := [.int za, .int 10]) (rest := []) hG hR dX3_carryOut_58 (lkX3_35 _ rfl) okV_X9_get rfl rfl (tb_get (d := 4) rfl rfl (pm_tw_of 40 12 (by decide) (by decide) (by decide))) rfl rfl hdd (Nat.le_refl _) (Nat.le_refl _) (by decide) (pm_ki (fun v8 σ' cnt' hq => ?_))
        obtain ⟨I8, A8, rfl, rfl, h8⟩ := hv_id (kp := kp) (I := I6) (A := A6) h6 hq.2
        refine pm_iconst (v := 1) hG dX3_carryOut_61 (by decide) ?_
        refine pm_icmp_eq (tgt := 68) hG dX3_carryOut_62 rfl (fun c9 => ?_) (fun c9 => ?_)
        · refine pm_aloadn hG dX3_carryOut_68 rfl ?_
          refine pm_aloadn hG dX3_carryOut_69 rfl ?_
          refine pm_getf hG dX3_carryOut_70 (flX3_29 _ rfl) rfl rfl ?_
          refine pm_iloadn hG dX3_carryOut_73 rfl ?_
          refine pm_iconst (v := 1) hG dX3_carryOut_74 (by decide) ?_
          refine pm_callV (As := [.int za, .int 1]) (rest := [.ref (B + 36)]) hG hR dX3_carryOut_75 (lkX3_35 _ rfl) okV_X9_get rfl rfl (tb_get (d := 4) rfl rfl (pm_tw_of 40 12 (by decide) (by decide) (by decide))) rfl rfl hdd (Nat.le_refl _) (Nat.le_refl _) (by first | decide | exact Nat.le_of_ble_eq_true rfl) (pm_ki (fun v10 σ' cnt' hq => ?_))
          obtain ⟨I10, A10, rfl, rfl, h10⟩ := hv_id (kp := kp) (I := I8) (A := A8) h8 hq.2
          refine pm_aloadn hG dX3_carryOut_78 rfl ?_
          refine pm_getf hG dX3_carryOut_79 (flX3_29 _ rfl) rfl rfl ?_
          refine pm_iloadn hG dX3_carryOut_82 rfl ?_
          refine pm_iconst (v := 2) hG dX3_carryOut_83 (by decide) ?_
          refine pm_callV (As := [.int za, .int 2]) (rest := [.int v10, .ref (B + 36)]) hG hR dX3_carryOut_84 (lkX3_35 _ rfl) okV_X9_get rfl rfl (tb_get (d := 4) rfl rfl (pm_tw_of 40 12 (by decide) (by decide) (by decide))) rfl rfl hdd (Nat.le_refl _) (Nat.le_refl _) (by first | decide | exact Nat.le_of_ble_eq_true rfl) (pm_ki (fun v11 σ' cnt' hq => ?_))
          obtain ⟨I11, A11, rfl, rfl, h11⟩ := hv_id (kp := kp) (I := I10) (A := A10) h10 hq.2
          refine pm_iloadn hG dX3_carryOut_87 rfl ?_
          refine pm_callV (As := [.int v10, .int v11, .int v1]) (rest := []) hG hR dX3_carryOut_88 (lkX3_99 _ rfl) okV_X3_carryOutSort rfl rfl (g_X3_carryOutSort (d := 4) (by decide) h11) rfl rfl hdd (Nat.le_refl _) (Nat.le_refl _) (by decide) (pm_ki (fun v12 σ' cnt' hq => ?_))
          obtain ⟨I12, A12, rfl, rfl, h12⟩ := hq
          refine pm_istoreXn (loc' := [some (.ref (B + 36)), some (.int za), some (.int v1), some (.int v12)]) hG dX3_carryOut_91 (by decide) (pm_c1b rfl) rfl ?_
          refine pm_iloadn hG dX3_carryOut_92 rfl ?_
          refine pm_ldc hG dX3_carryOut_93 (ctX3_81 _ rfl) ?_
          refine pm_icmp_eq (tgt := 109) hG dX3_carryOut_95 rfl (fun c13 => ?_) (fun c13 => ?_)
          · refine pm_iloadn hG dX3_carryOut_109 rfl ?_
            exact pm_iret hG hF dX3_carryOut_110 rfl (Nat.le_refl _) (Nat.le_refl _) ⟨_, rfl, _, _, rfl, rfl, h12⟩
          · refine pm_aloadn hG dX3_carryOut_98 rfl ?_
            refine pm_getf hG dX3_carryOut_99 (flX3_29 _ rfl) rfl rfl ?_
            refine pm_iloadn hG dX3_carryOut_102 rfl ?_
            refine pm_bipush (v := 11) hG dX3_carryOut_103 (by decide) ?_
            refine pm_iconst (v := 1) hG dX3_carryOut_105 (by decide) ?_
            refine pm_callV (As := [.int za, .int 11, .int 1]) (rest := []) hG hR dX3_carryOut_106 (lkX3_45 _ rfl) okV_X9_set rfl rfl (tb_set (d := 4) rfl rfl (pm_tw_of 40 12 (by decide) (by decide) (by decide)) (by decide)) rfl rfl hdd (Nat.le_refl _) (Nat.le_refl _) (by decide) (pm_kv (fun σ' cnt' hq => ?_))
            obtain ⟨I14, A14, rfl, rfl, h14⟩ := hv_a15 (kp := kp) (I := I12) (A := A12) h12 hq
            refine pm_iloadn hG dX3_carryOut_109 rfl ?_
            exact pm_iret hG hF dX3_carryOut_110 rfl (Nat.le_refl _) (Nat.le_refl _) ⟨_, rfl, _, _, rfl, rfl, h14⟩
        · refine pm_ldc hG dX3_carryOut_65 (ctX3_98 _ rfl) ?_
          exact pm_iret hG hF dX3_carryOut_67 rfl (Nat.le_refl _) (Nat.le_refl _) ⟨_, rfl, _, _, rfl, rfl, h8⟩
      · refine pm_ldc hG dX3_carryOut_48 (ctX3_62 _ rfl) ?_
        exact pm_iret hG hF dX3_carryOut_50 rfl (Nat.le_refl _) (Nat.le_refl _) ⟨_, rfl, _, _, rfl, rfl, h6⟩

set_option maxRecDepth 100000 in
set_option maxHeartbeats 4000000 in
theorem g_X11_obey {ε : Nat → Int32} {d B cnt : Nat} {kp : pm_KP} {ρ : pm_S} {I : Nat → Int32} {A : Nat → Nat → Int32} {za : Int32} (hdd : 6 ≤ d) (h : gq ε I) : pm_met mX11_obey d 0 0 B [.ref (B + 0), .int za] cnt (pm_two (cl_L B kp I A) ρ) (pm_Qi (fun _ σ' cnt' => hvq ε B kp ρ cnt σ' cnt')) := by
  refine pm_enter 0 (by decide) (Nat.le_of_ble_eq_true rfl) rfl (fun G hG hR hF => ?_)
  refine pm_aloadn hG dX11_obey_0 rfl ?_
  refine pm_aloadn hG dX11_obey_1 rfl ?_
  refine pm_getf hG dX11_obey_2 (flX11_12 _ rfl) rfl rfl ?_
  refine pm_getf hG dX11_obey_5 (flX11_224 _ rfl) rfl rfl ?_
  refine pm_iloadn hG dX11_obey_8 rfl ?_
  refine pm_callV (As := [.int za]) (rest := [.ref (B + 0)]) hG hR dX11_obey_9 (lkX11_101 _ rfl) okV_X9_has rfl rfl (tb_has (d := 5) rfl) rfl rfl hdd (Nat.le_refl _) (Nat.le_refl _) (by first | decide | exact Nat.le_of_ble_eq_true rfl) (pm_ki (fun v1 σ' cnt' hq => ?_))
  have b1 := pm_b01 hq.1
  obtain ⟨I1, A1, rfl, rfl, h1⟩ := hv_id (kp := kp) (I := I) (A := A) h hq.2
  refine pm_if_eq (tgt := 26) hG dX11_obey_12 rfl (fun c2 => ?_) (fun c2 => ?_)
  · refine pm_ldc hG dX11_obey_26 (ctX11_109 _ rfl) ?_
    refine pm_callV (As := [.int (-1000001)]) (rest := []) hG hR dX11_obey_28 (lkX11_97 _ rfl) okV_X11_told rfl rfl (sx_told (d := 5) (by decide) rfl rfl) rfl rfl hdd (Nat.le_refl _) (Nat.le_refl _) (by decide) (pm_ki (fun v3 σ' cnt' hq => ?_))
    obtain ⟨-, ⟨g3, hg3⟩, hc3⟩ := hq
    obtain ⟨I3, A3, rfl, rfl, h3⟩ := hv_a53 (kp := kp) (I := I1) (A := A1) h1 ⟨hg3, hc3⟩
    exact pm_iret hG hF dX11_obey_31 rfl (Nat.le_refl _) (Nat.le_refl _) ⟨_, rfl, _, _, rfl, rfl, h3⟩
  · refine pm_aloadn hG dX11_obey_15 rfl ?_
    refine pm_getf hG dX11_obey_16 (flX11_39 _ rfl) rfl rfl ?_
    refine pm_iloadn hG dX11_obey_19 rfl ?_
    refine pm_callV (As := [.int za]) (rest := [.ref (B + 0)]) hG hR dX11_obey_20 (lkX11_242 _ rfl) okV_X3_carryOut rfl rfl (g_X3_carryOut (d := 5) (by decide) h1) rfl rfl hdd (Nat.le_refl _) (Nat.le_refl _) (by first | decide | exact Nat.le_of_ble_eq_true rfl) (pm_ki (fun v4 σ' cnt' hq => ?_))
    obtain ⟨I4, A4, rfl, rfl, h4⟩ := hq
    refine pm_goto (tgt := 28) hG dX11_obey_23 rfl ?_
    refine pm_callV (As := [.int v4]) (rest := []) hG hR dX11_obey_28 (lkX11_97 _ rfl) okV_X11_told rfl rfl (sx_told (d := 5) (by decide) rfl rfl) rfl rfl hdd (Nat.le_refl _) (Nat.le_refl _) (by decide) (pm_ki (fun v5 σ' cnt' hq => ?_))
    obtain ⟨-, ⟨g5, hg5⟩, hc5⟩ := hq
    obtain ⟨I5, A5, rfl, rfl, h5⟩ := hv_a53 (kp := kp) (I := I4) (A := A4) h4 ⟨hg5, hc5⟩
    exact pm_iret hG hF dX11_obey_31 rfl (Nat.le_refl _) (Nat.le_refl _) ⟨_, rfl, _, _, rfl, rfl, h5⟩

set_option maxRecDepth 100000 in
set_option maxHeartbeats 4000000 in
theorem g_X3_unfold {ε : Nat → Int32} {d B cnt : Nat} {kp : pm_KP} {ρ : pm_S} {I : Nat → Int32} {A : Nat → Nat → Int32} {za : Int32} (hdd : 5 ≤ d) (h : gq ε I) : pm_met mX3_unfold d 0 0 B [.ref (B + 36), .int za] cnt (pm_two (cl_L B kp I A) ρ) (pm_Qi (fun _ σ' cnt' => hvq ε B kp ρ cnt σ' cnt')) := by
  refine pm_enter 3 (by decide) (Nat.le_of_ble_eq_true rfl) rfl (fun G hG hR hF => ?_)
  refine pm_aloadn hG dX3_unfold_0 rfl ?_
  refine pm_getf hG dX3_unfold_1 (flX3_29 _ rfl) rfl rfl ?_
  refine pm_iloadn hG dX3_unfold_4 rfl ?_
  refine pm_bipush (v := 6) hG dX3_unfold_5 (by decide) ?_
  refine pm_callV (As := [.int za, .int 6]) (rest := []) hG hR dX3_unfold_7 (lkX3_35 _ rfl) okV_X9_get rfl rfl (tb_get (d := 4) rfl rfl (pm_tw_of 40 12 (by decide) (by decide) (by decide))) rfl rfl hdd (Nat.le_refl _) (Nat.le_refl _) (by decide) (pm_ki (fun v1 σ' cnt' hq => ?_))
  obtain ⟨I1, A1, rfl, rfl, h1⟩ := hv_id (kp := kp) (I := I) (A := A) h hq.2
  refine pm_istoreXn (loc' := [some (.ref (B + 36)), some (.int za), some (.int v1), none, none]) hG dX3_unfold_10 (by decide) (pm_c1b rfl) rfl ?_
  refine pm_aloadn hG dX3_unfold_11 rfl ?_
  refine pm_iloadn hG dX3_unfold_12 rfl ?_
  refine pm_callV (As := [.int za]) (rest := []) hG hR dX3_unfold_13 (lkX3_55 _ rfl) okV_X3_isSent rfl rfl (g_X3_isSent (d := 4) (by decide) h1) rfl rfl hdd (Nat.le_refl _) (Nat.le_refl _) (by decide) (pm_ki (fun v2 σ' cnt' hq => ?_))
  obtain ⟨b2, I2, A2, rfl, rfl, h2⟩ := hq
  refine pm_if_eq (tgt := 43) hG dX3_unfold_16 rfl (fun c3 => ?_) (fun c3 => ?_)
  · refine pm_iconst (v := 0) hG dX3_unfold_43 (by decide) ?_
    refine pm_istoreXn (loc' := [some (.ref (B + 36)), some (.int za), some (.int v1), some (.int 0), none]) hG dX3_unfold_44 (by decide) (pm_c1b rfl) rfl ?_
    refine pm_iloadn hG dX3_unfold_45 rfl ?_
    refine pm_if_eq (tgt := 98) hG dX3_unfold_46 rfl (fun _ => ?_) (fun q => absurd q (by decide))
    refine pm_ldc hG dX3_unfold_98 (ctX3_62 _ rfl) ?_
    exact pm_iret hG hF dX3_unfold_100 rfl (Nat.le_refl _) (Nat.le_refl _) ⟨_, rfl, _, _, rfl, rfl, h2⟩
  · refine pm_aloadn hG dX3_unfold_19 rfl ?_
    refine pm_getf hG dX3_unfold_20 (flX3_29 _ rfl) rfl rfl ?_
    refine pm_iloadn hG dX3_unfold_23 rfl ?_
    refine pm_bipush (v := 8) hG dX3_unfold_24 (by decide) ?_
    refine pm_callV (As := [.int za, .int 8]) (rest := []) hG hR dX3_unfold_26 (lkX3_35 _ rfl) okV_X9_get rfl rfl (tb_get (d := 4) rfl rfl (pm_tw_of 40 12 (by decide) (by decide) (by decide))) rfl rfl hdd (Nat.le_refl _) (Nat.le_refl _) (by decide) (pm_ki (fun v4 σ' cnt' hq => ?_))
    obtain ⟨I4, A4, rfl, rfl, h4⟩ := hv_id (kp := kp) (I := I2) (A := A2) h2 hq.2
    refine pm_aloadn hG dX3_unfold_29 rfl ?_
    refine pm_getf hG dX3_unfold_30 (flX3_9 _ rfl) rfl rfl ?_
    refine pm_getf hG dX3_unfold_33 (flX3_82 _ rfl) rfl rfl ?_
    refine pm_icmp_gt (tgt := 43) hG dX3_unfold_36 rfl (fun c5 => ?_) (fun c5 => ?_)
    · refine pm_iconst (v := 0) hG dX3_unfold_43 (by decide) ?_
      refine pm_istoreXn (loc' := [some (.ref (B + 36)), some (.int za), some (.int v1), some (.int 0), none]) hG dX3_unfold_44 (by decide) (pm_c1b rfl) rfl ?_
      refine pm_iloadn hG dX3_unfold_45 rfl ?_
      refine pm_if_eq (tgt := 98) hG dX3_unfold_46 rfl (fun _ => ?_) (fun q => absurd q (by decide))
      refine pm_ldc hG dX3_unfold_98 (ctX3_62 _ rfl) ?_
      exact pm_iret hG hF dX3_unfold_100 rfl (Nat.le_refl _) (Nat.le_refl _) ⟨_, rfl, _, _, rfl, rfl, h4⟩
    · refine pm_iconst (v := 1) hG dX3_unfold_39 (by decide) ?_
      refine pm_goto (tgt := 44) hG dX3_unfold_40 rfl ?_
      refine pm_istoreXn (loc' := [some (.ref (B + 36)), some (.int za), some (.int v1), some (.int 1), none]) hG dX3_unfold_44 (by decide) (pm_c1b rfl) rfl ?_
      refine pm_iloadn hG dX3_unfold_45 rfl ?_
      refine pm_if_eq (tgt := 98) hG dX3_unfold_46 rfl (fun q => absurd q (by decide)) (fun _ => ?_)
      refine pm_aloadn hG dX3_unfold_49 rfl ?_
      refine pm_getf hG dX3_unfold_50 (flX3_29 _ rfl) rfl rfl ?_
      refine pm_iloadn hG dX3_unfold_53 rfl ?_
      refine pm_bipush (v := 9) hG dX3_unfold_54 (by decide) ?_
      refine pm_callV (As := [.int za, .int 9]) (rest := []) hG hR dX3_unfold_56 (lkX3_35 _ rfl) okV_X9_get rfl rfl (tb_get (d := 4) rfl rfl (pm_tw_of 40 12 (by decide) (by decide) (by decide))) rfl rfl hdd (Nat.le_refl _) (Nat.le_refl _) (by decide) (pm_ki (fun v6 σ' cnt' hq => ?_))
      obtain ⟨I6, A6, rfl, rfl, h6⟩ := hv_id (kp := kp) (I := I4) (A := A4) h4 hq.2
      refine pm_if_ge (tgt := 98) hG dX3_unfold_59 rfl (fun c7 => ?_) (fun c7 => ?_)
      · refine pm_ldc hG dX3_unfold_98 (ctX3_62 _ rfl) ?_
        exact pm_iret hG hF dX3_unfold_100 rfl (Nat.le_refl _) (Nat.le_refl _) ⟨_, rfl, _, _, rfl, rfl, h6⟩
      · refine pm_aloadn hG dX3_unfold_62 rfl ?_
        refine pm_getf hG dX3_unfold_63 (flX3_9 _ rfl) rfl rfl ?_
        refine pm_iloadn hG dX3_unfold_66 rfl ?_
        refine pm_callV (As := [.int v1]) (rest := []) hG hR dX3_unfold_67 (lkX3_59 _ rfl) okV_X7_isInTown rfl rfl (g_X7_isInTown (d := 4) (by decide) h6) rfl rfl hdd (Nat.le_refl _) (Nat.le_refl _) (by decide) (pm_ki (fun v8 σ' cnt' hq => ?_))
        obtain ⟨b8, I8, A8, rfl, rfl, h8⟩ := hq
        refine pm_if_eq (tgt := 98) hG dX3_unfold_70 rfl (fun c9 => ?_) (fun c9 => ?_)
        · refine pm_ldc hG dX3_unfold_98 (ctX3_62 _ rfl) ?_
          exact pm_iret hG hF dX3_unfold_100 rfl (Nat.le_refl _) (Nat.le_refl _) ⟨_, rfl, _, _, rfl, rfl, h8⟩
        · refine pm_aloadn hG dX3_unfold_73 rfl ?_
          refine pm_getf hG dX3_unfold_74 (flX3_9 _ rfl) rfl rfl ?_
          refine pm_getf hG dX3_unfold_77 (flX3_32 _ rfl) rfl rfl ?_
          refine pm_iloadn hG dX3_unfold_80 rfl ?_
          refine pm_iconst (v := 4) hG dX3_unfold_81 (by decide) ?_
          refine pm_callV (As := [.int v1, .int 4]) (rest := []) hG hR dX3_unfold_82 (lkX3_35 _ rfl) okV_X9_get rfl rfl (tb_get (d := 4) rfl rfl (pm_tw_of 20 14 (by decide) (by decide) (by decide))) rfl rfl hdd (Nat.le_refl _) (Nat.le_refl _) (by decide) (pm_ki (fun v10 σ' cnt' hq => ?_))
          obtain ⟨I10, A10, rfl, rfl, h10⟩ := hv_id (kp := kp) (I := I8) (A := A8) h8 hq.2
          refine pm_aloadn hG dX3_unfold_85 rfl ?_
          refine pm_getf hG dX3_unfold_86 (flX3_29 _ rfl) rfl rfl ?_
          refine pm_iloadn hG dX3_unfold_89 rfl ?_
          refine pm_bipush (v := 7) hG dX3_unfold_90 (by decide) ?_
          refine pm_callV (As := [.int za, .int 7]) (rest := [.int v10]) hG hR dX3_unfold_92 (lkX3_35 _ rfl) okV_X9_get rfl rfl (tb_get (d := 4) rfl rfl (pm_tw_of 40 12 (by decide) (by decide) (by decide))) rfl rfl hdd (Nat.le_refl _) (Nat.le_refl _) (by first | decide | exact Nat.le_of_ble_eq_true rfl) (pm_ki (fun v11 σ' cnt' hq => ?_))
          obtain ⟨I11, A11, rfl, rfl, h11⟩ := hv_id (kp := kp) (I := I10) (A := A10) h10 hq.2
          refine pm_icmp_eq (tgt := 101) hG dX3_unfold_95 rfl (fun c12 => ?_) (fun c12 => ?_)
          · refine pm_aloadn hG dX3_unfold_101 rfl ?_
            refine pm_getf hG dX3_unfold_102 (flX3_15 _ rfl) rfl rfl ?_
            refine pm_iconst (v := 1) hG dX3_unfold_105 (by decide) ?_
            refine pm_aloadn hG dX3_unfold_106 rfl ?_
            refine pm_getf hG dX3_unfold_107 (flX3_9 _ rfl) rfl rfl ?_
            refine pm_getf hG dX3_unfold_110 (flX3_82 _ rfl) rfl rfl ?_
            refine pm_aloadn hG dX3_unfold_113 rfl ?_
            refine pm_getf hG dX3_unfold_114 (flX3_9 _ rfl) rfl rfl ?_
            refine pm_iloadn hG dX3_unfold_117 rfl ?_
            refine pm_callV (As := [.int v1]) (rest := [.int (I11 102), .int 1, .ref (B + 26)]) hG hR dX3_unfold_118 (lkX3_86 _ rfl) okV_X7_knownTo rfl rfl (g_X7_knownTo (d := 4) (by decide) h11) rfl rfl hdd (Nat.le_refl _) (Nat.le_refl _) (by first | decide | exact Nat.le_of_ble_eq_true rfl) (pm_ki (fun v13 σ' cnt' hq => ?_))
            obtain ⟨I13, A13, rfl, rfl, h13⟩ := hq
            refine pm_iloadn hG dX3_unfold_121 rfl ?_
            refine pm_iloadn hG dX3_unfold_122 rfl ?_
            refine pm_callV (As := [.int 1, .int (I11 102), .int v13, .int v1, .int za]) (rest := []) hG hR dX3_unfold_123 (lkX3_89 _ rfl) okV_X2_ruling rfl rfl (g_X2_ruling (d := 4) (by decide) h13) rfl rfl hdd (Nat.le_refl _) (Nat.le_refl _) (by decide) (pm_ki (fun v14 σ' cnt' hq => ?_))
            obtain ⟨I14, A14, rfl, rfl, h14⟩ := hq
            refine pm_if_eq (tgt := 133) hG dX3_unfold_126 rfl (fun c15 => ?_) (fun c15 => ?_)
            · refine pm_iconst (v := 0) hG dX3_unfold_133 (by decide) ?_
              refine pm_istoreXi (loc' := [some (.ref (B + 36)), some (.int za), some (.int v1), some (.int 1), some (.int 0)]) hG dX3_unfold_134 (by decide) (pm_c1b rfl) rfl ?_
              refine pm_aloadn hG dX3_unfold_136 rfl ?_
              refine pm_getf hG dX3_unfold_137 (flX3_29 _ rfl) rfl rfl ?_
              refine pm_iloadn hG dX3_unfold_140 rfl ?_
              refine pm_bipush (v := 9) hG dX3_unfold_141 (by decide) ?_
              refine pm_aloadn hG dX3_unfold_143 rfl ?_
              refine pm_getf hG dX3_unfold_144 (flX3_9 _ rfl) rfl rfl ?_
              refine pm_getf hG dX3_unfold_147 (flX3_82 _ rfl) rfl rfl ?_
              refine pm_callV (As := [.int za, .int 9, .int (I14 102)]) (rest := []) hG hR dX3_unfold_150 (lkX3_45 _ rfl) okV_X9_set rfl rfl (tb_set (d := 4) rfl rfl (pm_tw_of 40 12 (by decide) (by decide) (by decide)) (by decide)) rfl rfl hdd (Nat.le_refl _) (Nat.le_refl _) (by decide) (pm_kv (fun σ' cnt' hq => ?_))
              obtain ⟨I16, A16, rfl, rfl, h16⟩ := hv_a15 (kp := kp) (I := I14) (A := A14) h14 hq
              refine pm_aloadn hG dX3_unfold_153 rfl ?_
              refine pm_getf hG dX3_unfold_154 (flX3_29 _ rfl) rfl rfl ?_
              refine pm_iloadn hG dX3_unfold_157 rfl ?_
              refine pm_bipush (v := 10) hG dX3_unfold_158 (by decide) ?_
              refine pm_iloadi hG dX3_unfold_160 rfl ?_
              refine pm_callV (As := [.int za, .int 10, .int 0]) (rest := []) hG hR dX3_unfold_162 (lkX3_45 _ rfl) okV_X9_set rfl rfl (tb_set (d := 4) rfl rfl (pm_tw_of 40 12 (by decide) (by decide) (by decide)) (by decide)) rfl rfl hdd (Nat.le_refl _) (Nat.le_refl _) (by decide) (pm_kv (fun σ' cnt' hq => ?_))
              obtain ⟨I17, A17, rfl, rfl, h17⟩ := hv_a15 (kp := kp) (I := I16) (A := A16) h16 hq
              refine pm_iloadi hG dX3_unfold_165 rfl ?_
              exact pm_iret hG hF dX3_unfold_167 rfl (Nat.le_refl _) (Nat.le_refl _) ⟨_, rfl, _, _, rfl, rfl, h17⟩
            · refine pm_iconst (v := 1) hG dX3_unfold_129 (by decide) ?_
              refine pm_goto (tgt := 134) hG dX3_unfold_130 rfl ?_
              refine pm_istoreXi (loc' := [some (.ref (B + 36)), some (.int za), some (.int v1), some (.int 1), some (.int 1)]) hG dX3_unfold_134 (by decide) (pm_c1b rfl) rfl ?_
              refine pm_aloadn hG dX3_unfold_136 rfl ?_
              refine pm_getf hG dX3_unfold_137 (flX3_29 _ rfl) rfl rfl ?_
              refine pm_iloadn hG dX3_unfold_140 rfl ?_
              refine pm_bipush (v := 9) hG dX3_unfold_141 (by decide) ?_
              refine pm_aloadn hG dX3_unfold_143 rfl ?_
              refine pm_getf hG dX3_unfold_144 (flX3_9 _ rfl) rfl rfl ?_
              refine pm_getf hG dX3_unfold_147 (flX3_82 _ rfl) rfl rfl ?_
              refine pm_callV (As := [.int za, .int 9, .int (I14 102)]) (rest := []) hG hR dX3_unfold_150 (lkX3_45 _ rfl) okV_X9_set rfl rfl (tb_set (d := 4) rfl rfl (pm_tw_of 40 12 (by decide) (by decide) (by decide)) (by decide)) rfl rfl hdd (Nat.le_refl _) (Nat.le_refl _) (by decide) (pm_kv (fun σ' cnt' hq => ?_))
              obtain ⟨I18, A18, rfl, rfl, h18⟩ := hv_a15 (kp := kp) (I := I14) (A := A14) h14 hq
              refine pm_aloadn hG dX3_unfold_153 rfl ?_
              refine pm_getf hG dX3_unfold_154 (flX3_29 _ rfl) rfl rfl ?_
              refine pm_iloadn hG dX3_unfold_157 rfl ?_
              refine pm_bipush (v := 10) hG dX3_unfold_158 (by decide) ?_
              refine pm_iloadi hG dX3_unfold_160 rfl ?_
              refine pm_callV (As := [.int za, .int 10, .int 1]) (rest := []) hG hR dX3_unfold_162 (lkX3_45 _ rfl) okV_X9_set rfl rfl (tb_set (d := 4) rfl rfl (pm_tw_of 40 12 (by decide) (by decide) (by decide)) (by decide)) rfl rfl hdd (Nat.le_refl _) (Nat.le_refl _) (by decide) (pm_kv (fun σ' cnt' hq => ?_))
              obtain ⟨I19, A19, rfl, rfl, h19⟩ := hv_a15 (kp := kp) (I := I18) (A := A18) h18 hq
              refine pm_iloadi hG dX3_unfold_165 rfl ?_
              exact pm_iret hG hF dX3_unfold_167 rfl (Nat.le_refl _) (Nat.le_refl _) ⟨_, rfl, _, _, rfl, rfl, h19⟩
          · refine pm_ldc hG dX3_unfold_98 (ctX3_62 _ rfl) ?_
            exact pm_iret hG hF dX3_unfold_100 rfl (Nat.le_refl _) (Nat.le_refl _) ⟨_, rfl, _, _, rfl, rfl, h11⟩

set_option maxRecDepth 100000 in
set_option maxHeartbeats 4000000 in
theorem g_X11_open {ε : Nat → Int32} {d B cnt : Nat} {kp : pm_KP} {ρ : pm_S} {I : Nat → Int32} {A : Nat → Nat → Int32} {za : Int32} (hdd : 6 ≤ d) (h : gq ε I) : pm_met mX11_open d 0 0 B [.ref (B + 0), .int za] cnt (pm_two (cl_L B kp I A) ρ) (pm_Qi (fun _ σ' cnt' => hvq ε B kp ρ cnt σ' cnt')) := by
  refine pm_enter 0 (by decide) (Nat.le_of_ble_eq_true rfl) rfl (fun G hG hR hF => ?_)
  refine pm_aloadn hG dX11_open_0 rfl ?_
  refine pm_aloadn hG dX11_open_1 rfl ?_
  refine pm_getf hG dX11_open_2 (flX11_12 _ rfl) rfl rfl ?_
  refine pm_getf hG dX11_open_5 (flX11_224 _ rfl) rfl rfl ?_
  refine pm_iloadn hG dX11_open_8 rfl ?_
  refine pm_callV (As := [.int za]) (rest := [.ref (B + 0)]) hG hR dX11_open_9 (lkX11_101 _ rfl) okV_X9_has rfl rfl (tb_has (d := 5) rfl) rfl rfl hdd (Nat.le_refl _) (Nat.le_refl _) (by first | decide | exact Nat.le_of_ble_eq_true rfl) (pm_ki (fun v1 σ' cnt' hq => ?_))
  have b1 := pm_b01 hq.1
  obtain ⟨I1, A1, rfl, rfl, h1⟩ := hv_id (kp := kp) (I := I) (A := A) h hq.2
  refine pm_if_eq (tgt := 26) hG dX11_open_12 rfl (fun c2 => ?_) (fun c2 => ?_)
  · refine pm_ldc hG dX11_open_26 (ctX11_109 _ rfl) ?_
    refine pm_callV (As := [.int (-1000001)]) (rest := []) hG hR dX11_open_28 (lkX11_97 _ rfl) okV_X11_told rfl rfl (sx_told (d := 5) (by decide) rfl rfl) rfl rfl hdd (Nat.le_refl _) (Nat.le_refl _) (by decide) (pm_ki (fun v3 σ' cnt' hq => ?_))
    obtain ⟨-, ⟨g3, hg3⟩, hc3⟩ := hq
    obtain ⟨I3, A3, rfl, rfl, h3⟩ := hv_a53 (kp := kp) (I := I1) (A := A1) h1 ⟨hg3, hc3⟩
    exact pm_iret hG hF dX11_open_31 rfl (Nat.le_refl _) (Nat.le_refl _) ⟨_, rfl, _, _, rfl, rfl, h3⟩
  · refine pm_aloadn hG dX11_open_15 rfl ?_
    refine pm_getf hG dX11_open_16 (flX11_39 _ rfl) rfl rfl ?_
    refine pm_iloadn hG dX11_open_19 rfl ?_
    refine pm_callV (As := [.int za]) (rest := [.ref (B + 0)]) hG hR dX11_open_20 (lkX11_239 _ rfl) okV_X3_unfold rfl rfl (g_X3_unfold (d := 5) (by decide) h1) rfl rfl hdd (Nat.le_refl _) (Nat.le_refl _) (by first | decide | exact Nat.le_of_ble_eq_true rfl) (pm_ki (fun v4 σ' cnt' hq => ?_))
    obtain ⟨I4, A4, rfl, rfl, h4⟩ := hq
    refine pm_goto (tgt := 28) hG dX11_open_23 rfl ?_
    refine pm_callV (As := [.int v4]) (rest := []) hG hR dX11_open_28 (lkX11_97 _ rfl) okV_X11_told rfl rfl (sx_told (d := 5) (by decide) rfl rfl) rfl rfl hdd (Nat.le_refl _) (Nat.le_refl _) (by decide) (pm_ki (fun v5 σ' cnt' hq => ?_))
    obtain ⟨-, ⟨g5, hg5⟩, hc5⟩ := hq
    obtain ⟨I5, A5, rfl, rfl, h5⟩ := hv_a53 (kp := kp) (I := I4) (A := A4) h4 ⟨hg5, hc5⟩
    exact pm_iret hG hF dX11_open_31 rfl (Nat.le_refl _) (Nat.le_refl _) ⟨_, rfl, _, _, rfl, rfl, h5⟩

set_option maxRecDepth 100000 in
set_option maxHeartbeats 4000000 in
theorem g_X11_owed {ε : Nat → Int32} {d B cnt : Nat} {kp : pm_KP} {ρ : pm_S} {I : Nat → Int32} {A : Nat → Nat → Int32} {za zb : Int32} (hdd : 1 ≤ d) (h : gq ε I) : pm_met mX11_owed d 0 0 B [.ref (B + 0), .int za, .int zb] cnt (pm_two (cl_L B kp I A) ρ) (pm_Qi (fun _ σ' cnt' => hvq ε B kp ρ cnt σ' cnt')) := by
  refine pm_enter 1 (by decide) (Nat.le_of_ble_eq_true rfl) rfl (fun G hG hR hF => ?_)
  refine pm_aloadn hG dX11_owed_0 rfl ?_
  refine pm_getf hG dX11_owed_1 (flX11_12 _ rfl) rfl rfl ?_
  refine pm_getf hG dX11_owed_4 (flX11_271 _ rfl) rfl rfl ?_
  refine pm_iloadn hG dX11_owed_7 rfl ?_
  refine pm_callV (As := [.int za]) (rest := []) hG hR dX11_owed_8 (lkX11_101 _ rfl) okV_X9_has rfl rfl (tb_has (d := 0) rfl) rfl rfl hdd (Nat.le_refl _) (Nat.le_refl _) (by decide) (pm_ki (fun v1 σ' cnt' hq => ?_))
  have b1 := pm_b01 hq.1
  obtain ⟨I1, A1, rfl, rfl, h1⟩ := hv_id (kp := kp) (I := I) (A := A) h hq.2
  refine pm_if_ne (tgt := 21) hG dX11_owed_11 rfl (fun c2 => ?_) (fun c2 => ?_)
  · refine pm_aloadn hG dX11_owed_21 rfl ?_
    refine pm_getf hG dX11_owed_22 (flX11_12 _ rfl) rfl rfl ?_
    refine pm_getf hG dX11_owed_25 (flX11_271 _ rfl) rfl rfl ?_
    refine pm_iloadn hG dX11_owed_28 rfl ?_
    refine pm_iconst (v := 3) hG dX11_owed_29 (by decide) ?_
    refine pm_callV (As := [.int za, .int 3]) (rest := []) hG hR dX11_owed_30 (lkX11_152 _ rfl) okV_X9_get rfl rfl (tb_get (d := 0) rfl rfl (pm_tw_of 6 5 (by decide) (by decide) (by decide))) rfl rfl hdd (Nat.le_refl _) (Nat.le_refl _) (by decide) (pm_ki (fun v3 σ' cnt' hq => ?_))
    obtain ⟨I3, A3, rfl, rfl, h3⟩ := hv_id (kp := kp) (I := I1) (A := A1) h1 hq.2
    refine pm_istoreXn (loc' := [some (.ref (B + 0)), some (.int za), some (.int zb), some (.int v3)]) hG dX11_owed_33 (by decide) (pm_c1b rfl) rfl ?_
    refine pm_iloadn hG dX11_owed_34 rfl ?_
    by_cases c4 : zb = 0
    · refine pm_top (v := 0) c4 ?_
      refine pm_tswIn (tgt := 64) hG dX11_owed_35 (by decide) (by decide) rfl rfl ?_
      refine pm_aloadn hG dX11_owed_64 rfl ?_
      refine pm_getf hG dX11_owed_65 (flX11_12 _ rfl) rfl rfl ?_
      refine pm_getf hG dX11_owed_68 (flX11_271 _ rfl) rfl rfl ?_
      refine pm_iloadn hG dX11_owed_71 rfl ?_
      refine pm_iconst (v := 0) hG dX11_owed_72 (by decide) ?_
      refine pm_callV (As := [.int za, .int 0]) (rest := []) hG hR dX11_owed_73 (lkX11_152 _ rfl) okV_X9_get rfl rfl (tb_get (d := 0) rfl rfl (pm_tw_of 6 5 (by decide) (by decide) (by decide))) rfl rfl hdd (Nat.le_refl _) (Nat.le_refl _) (by decide) (pm_ki (fun v5 σ' cnt' hq => ?_))
      obtain ⟨I5, A5, rfl, rfl, h5⟩ := hv_id (kp := kp) (I := I3) (A := A3) h3 hq.2
      exact pm_iret hG hF dX11_owed_76 rfl (Nat.le_refl _) (Nat.le_refl _) ⟨_, rfl, _, _, rfl, rfl, h5⟩
    by_cases c6 : zb = 1
    · refine pm_top (v := 1) c6 ?_
      refine pm_tswIn (tgt := 77) hG dX11_owed_35 (by decide) (by decide) rfl rfl ?_
      refine pm_aloadn hG dX11_owed_77 rfl ?_
      refine pm_getf hG dX11_owed_78 (flX11_12 _ rfl) rfl rfl ?_
      refine pm_getf hG dX11_owed_81 (flX11_271 _ rfl) rfl rfl ?_
      refine pm_iloadn hG dX11_owed_84 rfl ?_
      refine pm_iconst (v := 4) hG dX11_owed_85 (by decide) ?_
      refine pm_callV (As := [.int za, .int 4]) (rest := []) hG hR dX11_owed_86 (lkX11_152 _ rfl) okV_X9_get rfl rfl (tb_get (d := 0) rfl rfl (pm_tw_of 6 5 (by decide) (by decide) (by decide))) rfl rfl hdd (Nat.le_refl _) (Nat.le_refl _) (by decide) (pm_ki (fun v7 σ' cnt' hq => ?_))
      obtain ⟨I7, A7, rfl, rfl, h7⟩ := hv_id (kp := kp) (I := I3) (A := A3) h3 hq.2
      exact pm_iret hG hF dX11_owed_89 rfl (Nat.le_refl _) (Nat.le_refl _) ⟨_, rfl, _, _, rfl, rfl, h7⟩
    by_cases c8 : zb = 2
    · refine pm_top (v := 2) c8 ?_
      refine pm_tswIn (tgt := 90) hG dX11_owed_35 (by decide) (by decide) rfl rfl ?_
      refine pm_aloadn hG dX11_owed_90 rfl ?_
      refine pm_getf hG dX11_owed_91 (flX11_12 _ rfl) rfl rfl ?_
      refine pm_getf hG dX11_owed_94 (flX11_82 _ rfl) rfl rfl ?_
      refine pm_iloadn hG dX11_owed_97 rfl ?_
      refine pm_iconst (v := 2) hG dX11_owed_98 (by decide) ?_
      refine pm_callV (As := [.int v3, .int 2]) (rest := []) hG hR dX11_owed_99 (lkX11_152 _ rfl) okV_X9_get rfl rfl (tb_get (d := 0) rfl rfl (pm_tw_of 10 3 (by decide) (by decide) (by decide))) rfl rfl hdd (Nat.le_refl _) (Nat.le_refl _) (by decide) (pm_ki (fun v9 σ' cnt' hq => ?_))
      obtain ⟨I9, A9, rfl, rfl, h9⟩ := hv_id (kp := kp) (I := I3) (A := A3) h3 hq.2
      exact pm_iret hG hF dX11_owed_102 rfl (Nat.le_refl _) (Nat.le_refl _) ⟨_, rfl, _, _, rfl, rfl, h9⟩
    by_cases c10 : zb = 3
    · refine pm_top (v := 3) c10 ?_
      refine pm_tswIn (tgt := 103) hG dX11_owed_35 (by decide) (by decide) rfl rfl ?_
      refine pm_aloadn hG dX11_owed_103 rfl ?_
      refine pm_getf hG dX11_owed_104 (flX11_12 _ rfl) rfl rfl ?_
      refine pm_getf hG dX11_owed_107 (flX11_271 _ rfl) rfl rfl ?_
      refine pm_iconst (v := 3) hG dX11_owed_110 (by decide) ?_
      refine pm_iloadn hG dX11_owed_111 rfl ?_
      obtain ⟨k11, hk11, hu11⟩ := gq.used h3 16 6 (by decide)
      have ht11 : pm_two (cl_L B kp I3 A3) ρ 16 = some (.inr (9, [.int (nI 6), .int (nI 5), .ref (B + 17), .int (nI k11)])) := by rw [← hu11]; rfl
      refine pm_callV (As := [.int 3, .int v3]) (rest := []) hG hR dX11_owed_112 (lkX11_164 _ rfl) okV_X9_rowsWith rfl rfl (tb_rowsWith (d := 0) (k := 3) ht11 rfl (by decide) (by decide) (by decide) hk11 (by omega) (by decide)) rfl rfl hdd (Nat.le_refl _) (Nat.le_refl _) (by decide) (pm_ki (fun v11 σ' cnt' hq => ?_))
      obtain ⟨I11, A11, rfl, rfl, h11⟩ := hv_id (kp := kp) (I := I3) (A := A3) h3 hq.2
      exact pm_iret hG hF dX11_owed_115 rfl (Nat.le_refl _) (Nat.le_refl _) ⟨_, rfl, _, _, rfl, rfl, h11⟩
    have tc4 : ¬ zb.toInt = 0 := fun q => c4 (Int32.toInt_inj.mp q)
    have tc6 : ¬ zb.toInt = 1 := fun q => c6 (Int32.toInt_inj.mp q)
    have tc8 : ¬ zb.toInt = 2 := fun q => c8 (Int32.toInt_inj.mp q)
    have tc10 : ¬ zb.toInt = 3 := fun q => c10 (Int32.toInt_inj.mp q)
    refine pm_tswOut (tgt := 116) hG dX11_owed_35 (by omega) rfl ?_
    refine pm_aloadn hG dX11_owed_116 rfl ?_
    refine pm_ldc hG dX11_owed_117 (ctX11_109 _ rfl) ?_
    refine pm_callV (As := [.int (-1000001)]) (rest := []) hG hR dX11_owed_119 (lkX11_97 _ rfl) okV_X11_told rfl rfl (sx_told (d := 0) (by decide) rfl rfl) rfl rfl hdd (Nat.le_refl _) (Nat.le_refl _) (by decide) (pm_ki (fun v12 σ' cnt' hq => ?_))
    obtain ⟨-, ⟨g12, hg12⟩, hc12⟩ := hq
    obtain ⟨I12, A12, rfl, rfl, h12⟩ := hv_a53 (kp := kp) (I := I3) (A := A3) h3 ⟨hg12, hc12⟩
    exact pm_iret hG hF dX11_owed_122 rfl (Nat.le_refl _) (Nat.le_refl _) ⟨_, rfl, _, _, rfl, rfl, h12⟩
  · refine pm_aloadn hG dX11_owed_14 rfl ?_
    refine pm_ldc hG dX11_owed_15 (ctX11_109 _ rfl) ?_
    refine pm_callV (As := [.int (-1000001)]) (rest := []) hG hR dX11_owed_17 (lkX11_97 _ rfl) okV_X11_told rfl rfl (sx_told (d := 0) (by decide) rfl rfl) rfl rfl hdd (Nat.le_refl _) (Nat.le_refl _) (by decide) (pm_ki (fun v13 σ' cnt' hq => ?_))
    obtain ⟨-, ⟨g13, hg13⟩, hc13⟩ := hq
    obtain ⟨I13, A13, rfl, rfl, h13⟩ := hv_a53 (kp := kp) (I := I1) (A := A1) h1 ⟨hg13, hc13⟩
    exact pm_iret hG hF dX11_owed_20 rfl (Nat.le_refl _) (Nat.le_refl _) ⟨_, rfl, _, _, rfl, rfl, h13⟩

set_option maxRecDepth 100000 in
set_option maxHeartbeats 4000000 in
theorem g_X11_own {ε : Nat → Int32} {d B cnt : Nat} {kp : pm_KP} {ρ : pm_S} {I : Nat → Int32} {A : Nat → Nat → Int32} {za zb : Int32} (hdd : 3 ≤ d) (h : gq ε I) : pm_met mX11_own d 0 0 B [.ref (B + 0), .int za, .int zb] cnt (pm_two (cl_L B kp I A) ρ) (pm_Qi (fun _ σ' cnt' => hvq ε B kp ρ cnt σ' cnt')) := by
  refine pm_enter 0 (by decide) (Nat.le_of_ble_eq_true rfl) rfl (fun G hG hR hF => ?_)
  refine pm_aloadn hG dX11_own_0 rfl ?_
  refine pm_getf hG dX11_own_1 (flX11_12 _ rfl) rfl rfl ?_
  refine pm_getf hG dX11_own_4 (flX11_82 _ rfl) rfl rfl ?_
  refine pm_iloadn hG dX11_own_7 rfl ?_
  refine pm_callV (As := [.int za]) (rest := []) hG hR dX11_own_8 (lkX11_101 _ rfl) okV_X9_has rfl rfl (tb_has (d := 2) rfl) rfl rfl hdd (Nat.le_refl _) (Nat.le_refl _) (by decide) (pm_ki (fun v1 σ' cnt' hq => ?_))
  have b1 := pm_b01 hq.1
  obtain ⟨I1, A1, rfl, rfl, h1⟩ := hv_id (kp := kp) (I := I) (A := A) h hq.2
  refine pm_if_eq (tgt := 25) hG dX11_own_11 rfl (fun c2 => ?_) (fun c2 => ?_)
  · refine pm_aloadn hG dX11_own_25 rfl ?_
    refine pm_ldc hG dX11_own_26 (ctX11_109 _ rfl) ?_
    refine pm_callV (As := [.int (-1000001)]) (rest := []) hG hR dX11_own_28 (lkX11_97 _ rfl) okV_X11_told rfl rfl (sx_told (d := 2) (by decide) rfl rfl) rfl rfl hdd (Nat.le_refl _) (Nat.le_refl _) (by decide) (pm_ki (fun v3 σ' cnt' hq => ?_))
    obtain ⟨-, ⟨g3, hg3⟩, hc3⟩ := hq
    obtain ⟨I3, A3, rfl, rfl, h3⟩ := hv_a53 (kp := kp) (I := I1) (A := A1) h1 ⟨hg3, hc3⟩
    exact pm_iret hG hF dX11_own_31 rfl (Nat.le_refl _) (Nat.le_refl _) ⟨_, rfl, _, _, rfl, rfl, h3⟩
  · refine pm_aloadn hG dX11_own_14 rfl ?_
    refine pm_getf hG dX11_own_15 (flX11_12 _ rfl) rfl rfl ?_
    refine pm_iloadn hG dX11_own_18 rfl ?_
    refine pm_callV (As := [.int zb]) (rest := []) hG hR dX11_own_19 (lkX11_174 _ rfl) okV_X7_isLivingOrNobody rfl rfl (g_X7_isLivingOrNobody (d := 2) (by decide) h1) rfl rfl hdd (Nat.le_refl _) (Nat.le_refl _) (by decide) (pm_ki (fun v4 σ' cnt' hq => ?_))
    obtain ⟨b4, I4, A4, rfl, rfl, h4⟩ := hq
    refine pm_if_ne (tgt := 32) hG dX11_own_22 rfl (fun c5 => ?_) (fun c5 => ?_)
    · refine pm_aloadn hG dX11_own_32 rfl ?_
      refine pm_getf hG dX11_own_33 (flX11_12 _ rfl) rfl rfl ?_
      refine pm_getf hG dX11_own_36 (flX11_82 _ rfl) rfl rfl ?_
      refine pm_iloadn hG dX11_own_39 rfl ?_
      refine pm_iconst (v := 2) hG dX11_own_40 (by decide) ?_
      refine pm_callV (As := [.int za, .int 2]) (rest := []) hG hR dX11_own_41 (lkX11_152 _ rfl) okV_X9_get rfl rfl (tb_get (d := 2) rfl rfl (pm_tw_of 10 3 (by decide) (by decide) (by decide))) rfl rfl hdd (Nat.le_refl _) (Nat.le_refl _) (by decide) (pm_ki (fun v6 σ' cnt' hq => ?_))
      obtain ⟨I6, A6, rfl, rfl, h6⟩ := hv_id (kp := kp) (I := I4) (A := A4) h4 hq.2
      refine pm_if_eq (tgt := 54) hG dX11_own_44 rfl (fun c7 => ?_) (fun c7 => ?_)
      · refine pm_aloadn hG dX11_own_54 rfl ?_
        refine pm_getf hG dX11_own_55 (flX11_12 _ rfl) rfl rfl ?_
        refine pm_getf hG dX11_own_58 (flX11_82 _ rfl) rfl rfl ?_
        refine pm_iloadn hG dX11_own_61 rfl ?_
        refine pm_iconst (v := 1) hG dX11_own_62 (by decide) ?_
        refine pm_iloadn hG dX11_own_63 rfl ?_
        refine pm_callV (As := [.int za, .int 1, .int zb]) (rest := []) hG hR dX11_own_64 (lkX11_248 _ rfl) okV_X9_swap rfl rfl (tb_swap (d := 2) (by decide) rfl rfl (pm_tw_of 10 3 (by decide) (by decide) (by decide)) (by decide)) rfl rfl hdd (Nat.le_refl _) (Nat.le_refl _) (by decide) (pm_ki (fun v8 σ' cnt' hq => ?_))
        obtain ⟨I8, A8, rfl, rfl, h8⟩ := hv_a3 (kp := kp) (I := I6) (A := A6) h6 hq.2
        exact pm_iret hG hF dX11_own_67 rfl (Nat.le_refl _) (Nat.le_refl _) ⟨_, rfl, _, _, rfl, rfl, h8⟩
      · refine pm_aloadn hG dX11_own_47 rfl ?_
        refine pm_ldc hG dX11_own_48 (ctX11_138 _ rfl) ?_
        refine pm_callV (As := [.int (-1000003)]) (rest := []) hG hR dX11_own_50 (lkX11_97 _ rfl) okV_X11_told rfl rfl (sx_told (d := 2) (by decide) rfl rfl) rfl rfl hdd (Nat.le_refl _) (Nat.le_refl _) (by decide) (pm_ki (fun v9 σ' cnt' hq => ?_))
        obtain ⟨-, ⟨g9, hg9⟩, hc9⟩ := hq
        obtain ⟨I9, A9, rfl, rfl, h9⟩ := hv_a53 (kp := kp) (I := I6) (A := A6) h6 ⟨hg9, hc9⟩
        exact pm_iret hG hF dX11_own_53 rfl (Nat.le_refl _) (Nat.le_refl _) ⟨_, rfl, _, _, rfl, rfl, h9⟩
    · refine pm_aloadn hG dX11_own_25 rfl ?_
      refine pm_ldc hG dX11_own_26 (ctX11_109 _ rfl) ?_
      refine pm_callV (As := [.int (-1000001)]) (rest := []) hG hR dX11_own_28 (lkX11_97 _ rfl) okV_X11_told rfl rfl (sx_told (d := 2) (by decide) rfl rfl) rfl rfl hdd (Nat.le_refl _) (Nat.le_refl _) (by decide) (pm_ki (fun v10 σ' cnt' hq => ?_))
      obtain ⟨-, ⟨g10, hg10⟩, hc10⟩ := hq
      obtain ⟨I10, A10, rfl, rfl, h10⟩ := hv_a53 (kp := kp) (I := I4) (A := A4) h4 ⟨hg10, hc10⟩
      exact pm_iret hG hF dX11_own_31 rfl (Nat.le_refl _) (Nat.le_refl _) ⟨_, rfl, _, _, rfl, rfl, h10⟩
