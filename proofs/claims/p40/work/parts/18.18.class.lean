set_option maxRecDepth 100000 in
set_option maxHeartbeats 4000000 in
theorem g_X11_sheet {ε : Nat → Int32} {d B cnt : Nat} {kp : Value} {ρ : pm_S} {I : Nat → Int32} {A : Nat → Nat → Int32} {za zb zc : Int32} (hdd : 2 ≤ d) (h : gq ε I) : pm_met mX11_sheet d 0 0 B [.ref (B + 0), .int za, .int zb, .int zc] cnt (pm_two (cl_L B kp I A) ρ) (pm_Qi (fun _ σ' cnt' => hvq ε B kp ρ cnt σ' cnt')) := by
  refine pm_enter 0 (by decide) (Nat.le_of_ble_eq_true rfl) rfl (fun G hG hR hF => ?_)
  refine pm_aloadn hG dX11_sheet_0 rfl ?_
  refine pm_getf hG dX11_sheet_1 (flX11_74 _ rfl) rfl rfl ?_
  refine pm_iloadn hG dX11_sheet_4 rfl ?_
  refine pm_callV (As := [.int za]) (rest := []) hG hR dX11_sheet_5 (lkX11_251 _ rfl) okV_X8_has rfl rfl (g_X8_has (d := 1) (by decide) h) rfl rfl hdd (Nat.le_refl _) (Nat.le_refl _) (by decide) (pm_ki (fun v1 σ' cnt' hq => ?_))
  obtain ⟨b1, I1, A1, rfl, rfl, h1⟩ := hq
  refine pm_if_eq (tgt := 26) hG dX11_sheet_8 rfl (fun c2 => ?_) (fun c2 => ?_)
  · refine pm_aloadn hG dX11_sheet_26 rfl ?_
    refine pm_ldc hG dX11_sheet_27 (ctX11_109 _ rfl) ?_
    refine pm_callV (As := [.int (-1000001)]) (rest := []) hG hR dX11_sheet_29 (lkX11_97 _ rfl) okV_X11_told rfl rfl (sx_told (d := 1) (by decide) rfl rfl) rfl rfl hdd (Nat.le_refl _) (Nat.le_refl _) (by decide) (pm_ki (fun v3 σ' cnt' hq => ?_))
    obtain ⟨-, ⟨g3, hg3⟩, hc3⟩ := hq
    obtain ⟨I3, A3, rfl, rfl, h3⟩ := hv_a53 (kp := kp) (I := I1) (A := A1) h1 ⟨hg3, hc3⟩
    exact pm_iret hG hF dX11_sheet_32 rfl (Nat.le_refl _) (Nat.le_refl _) ⟨_, rfl, _, _, rfl, rfl, h3⟩
  · refine pm_iloadn hG dX11_sheet_11 rfl ?_
    refine pm_if_eq (tgt := 33) hG dX11_sheet_12 rfl (fun c4 => ?_) (fun c4 => ?_)
    · refine pm_iloadn hG dX11_sheet_33 rfl ?_
      refine pm_if_eq (tgt := 48) hG dX11_sheet_34 rfl (fun c5 => ?_) (fun c5 => ?_)
      · refine pm_iloadn hG dX11_sheet_48 rfl ?_
        refine pm_if_eq (tgt := 65) hG dX11_sheet_49 rfl (fun c6 => ?_) (fun c6 => ?_)
        · refine pm_aloadn hG dX11_sheet_65 rfl ?_
          refine pm_getf hG dX11_sheet_66 (flX11_74 _ rfl) rfl rfl ?_
          refine pm_iloadn hG dX11_sheet_69 rfl ?_
          refine pm_iloadn hG dX11_sheet_70 rfl ?_
          refine pm_iloadn hG dX11_sheet_71 rfl ?_
          refine pm_if_ne (tgt := 79) hG dX11_sheet_72 rfl (fun c7 => ?_) (fun c7 => ?_)
          · refine pm_iloadn hG dX11_sheet_79 rfl ?_
            refine pm_callV (As := [.int za, .int zb, .int zc]) (rest := []) hG hR dX11_sheet_80 (lkX11_364 _ rfl) okV_X8_layOut rfl rfl (g_X8_layOut (d := 1) (by decide) h1) rfl rfl hdd (Nat.le_refl _) (Nat.le_refl _) (by decide) (pm_kv (fun σ' cnt' hq => ?_))
            obtain ⟨I8, A8, rfl, rfl, h8⟩ := hq
            refine pm_iconst (v := 1) hG dX11_sheet_83 (by decide) ?_
            exact pm_iret hG hF dX11_sheet_84 rfl (Nat.le_refl _) (Nat.le_refl _) ⟨_, rfl, _, _, rfl, rfl, h8⟩
          · refine pm_iconst (v := 0) hG dX11_sheet_75 (by decide) ?_
            refine pm_goto (tgt := 80) hG dX11_sheet_76 rfl ?_
            refine pm_callV (As := [.int za, .int zb, .int 0]) (rest := []) hG hR dX11_sheet_80 (lkX11_364 _ rfl) okV_X8_layOut rfl rfl (g_X8_layOut (d := 1) (by decide) h1) rfl rfl hdd (Nat.le_refl _) (Nat.le_refl _) (by decide) (pm_kv (fun σ' cnt' hq => ?_))
            obtain ⟨I9, A9, rfl, rfl, h9⟩ := hq
            refine pm_iconst (v := 1) hG dX11_sheet_83 (by decide) ?_
            exact pm_iret hG hF dX11_sheet_84 rfl (Nat.le_refl _) (Nat.le_refl _) ⟨_, rfl, _, _, rfl, rfl, h9⟩
        · refine pm_iloadn hG dX11_sheet_52 rfl ?_
          refine pm_bipush (v := 24) hG dX11_sheet_53 (by decide) ?_
          refine pm_icmp_le (tgt := 65) hG dX11_sheet_55 rfl (fun c10 => ?_) (fun c10 => ?_)
          · refine pm_aloadn hG dX11_sheet_65 rfl ?_
            refine pm_getf hG dX11_sheet_66 (flX11_74 _ rfl) rfl rfl ?_
            refine pm_iloadn hG dX11_sheet_69 rfl ?_
            refine pm_iloadn hG dX11_sheet_70 rfl ?_
            refine pm_iloadn hG dX11_sheet_71 rfl ?_
            refine pm_if_ne (tgt := 79) hG dX11_sheet_72 rfl (fun c11 => ?_) (fun c11 => ?_)
            · refine pm_iloadn hG dX11_sheet_79 rfl ?_
              refine pm_callV (As := [.int za, .int zb, .int zc]) (rest := []) hG hR dX11_sheet_80 (lkX11_364 _ rfl) okV_X8_layOut rfl rfl (g_X8_layOut (d := 1) (by decide) h1) rfl rfl hdd (Nat.le_refl _) (Nat.le_refl _) (by decide) (pm_kv (fun σ' cnt' hq => ?_))
              obtain ⟨I12, A12, rfl, rfl, h12⟩ := hq
              refine pm_iconst (v := 1) hG dX11_sheet_83 (by decide) ?_
              exact pm_iret hG hF dX11_sheet_84 rfl (Nat.le_refl _) (Nat.le_refl _) ⟨_, rfl, _, _, rfl, rfl, h12⟩
            · refine pm_iconst (v := 0) hG dX11_sheet_75 (by decide) ?_
              refine pm_goto (tgt := 80) hG dX11_sheet_76 rfl ?_
              refine pm_callV (As := [.int za, .int zb, .int 0]) (rest := []) hG hR dX11_sheet_80 (lkX11_364 _ rfl) okV_X8_layOut rfl rfl (g_X8_layOut (d := 1) (by decide) h1) rfl rfl hdd (Nat.le_refl _) (Nat.le_refl _) (by decide) (pm_kv (fun σ' cnt' hq => ?_))
              obtain ⟨I13, A13, rfl, rfl, h13⟩ := hq
              refine pm_iconst (v := 1) hG dX11_sheet_83 (by decide) ?_
              exact pm_iret hG hF dX11_sheet_84 rfl (Nat.le_refl _) (Nat.le_refl _) ⟨_, rfl, _, _, rfl, rfl, h13⟩
          · refine pm_aloadn hG dX11_sheet_58 rfl ?_
            refine pm_ldc hG dX11_sheet_59 (ctX11_109 _ rfl) ?_
            refine pm_callV (As := [.int (-1000001)]) (rest := []) hG hR dX11_sheet_61 (lkX11_97 _ rfl) okV_X11_told rfl rfl (sx_told (d := 1) (by decide) rfl rfl) rfl rfl hdd (Nat.le_refl _) (Nat.le_refl _) (by decide) (pm_ki (fun v14 σ' cnt' hq => ?_))
            obtain ⟨-, ⟨g14, hg14⟩, hc14⟩ := hq
            obtain ⟨I14, A14, rfl, rfl, h14⟩ := hv_a53 (kp := kp) (I := I1) (A := A1) h1 ⟨hg14, hc14⟩
            exact pm_iret hG hF dX11_sheet_64 rfl (Nat.le_refl _) (Nat.le_refl _) ⟨_, rfl, _, _, rfl, rfl, h14⟩
      · refine pm_iloadn hG dX11_sheet_37 rfl ?_
        refine pm_if_ge (tgt := 48) hG dX11_sheet_38 rfl (fun c15 => ?_) (fun c15 => ?_)
        · refine pm_iloadn hG dX11_sheet_48 rfl ?_
          refine pm_if_eq (tgt := 65) hG dX11_sheet_49 rfl (fun c16 => ?_) (fun c16 => ?_)
          · refine pm_aloadn hG dX11_sheet_65 rfl ?_
            refine pm_getf hG dX11_sheet_66 (flX11_74 _ rfl) rfl rfl ?_
            refine pm_iloadn hG dX11_sheet_69 rfl ?_
            refine pm_iloadn hG dX11_sheet_70 rfl ?_
            refine pm_iloadn hG dX11_sheet_71 rfl ?_
            refine pm_if_ne (tgt := 79) hG dX11_sheet_72 rfl (fun c17 => ?_) (fun c17 => ?_)
            · refine pm_iloadn hG dX11_sheet_79 rfl ?_
              refine pm_callV (As := [.int za, .int zb, .int zc]) (rest := []) hG hR dX11_sheet_80 (lkX11_364 _ rfl) okV_X8_layOut rfl rfl (g_X8_layOut (d := 1) (by decide) h1) rfl rfl hdd (Nat.le_refl _) (Nat.le_refl _) (by decide) (pm_kv (fun σ' cnt' hq => ?_))
              obtain ⟨I18, A18, rfl, rfl, h18⟩ := hq
              refine pm_iconst (v := 1) hG dX11_sheet_83 (by decide) ?_
              exact pm_iret hG hF dX11_sheet_84 rfl (Nat.le_refl _) (Nat.le_refl _) ⟨_, rfl, _, _, rfl, rfl, h18⟩
            · refine pm_iconst (v := 0) hG dX11_sheet_75 (by decide) ?_
              refine pm_goto (tgt := 80) hG dX11_sheet_76 rfl ?_
              refine pm_callV (As := [.int za, .int zb, .int 0]) (rest := []) hG hR dX11_sheet_80 (lkX11_364 _ rfl) okV_X8_layOut rfl rfl (g_X8_layOut (d := 1) (by decide) h1) rfl rfl hdd (Nat.le_refl _) (Nat.le_refl _) (by decide) (pm_kv (fun σ' cnt' hq => ?_))
              obtain ⟨I19, A19, rfl, rfl, h19⟩ := hq
              refine pm_iconst (v := 1) hG dX11_sheet_83 (by decide) ?_
              exact pm_iret hG hF dX11_sheet_84 rfl (Nat.le_refl _) (Nat.le_refl _) ⟨_, rfl, _, _, rfl, rfl, h19⟩
          · refine pm_iloadn hG dX11_sheet_52 rfl ?_
            refine pm_bipush (v := 24) hG dX11_sheet_53 (by decide) ?_
            refine pm_icmp_le (tgt := 65) hG dX11_sheet_55 rfl (fun c20 => ?_) (fun c20 => ?_)
            · refine pm_aloadn hG dX11_sheet_65 rfl ?_
              refine pm_getf hG dX11_sheet_66 (flX11_74 _ rfl) rfl rfl ?_
              refine pm_iloadn hG dX11_sheet_69 rfl ?_
              refine pm_iloadn hG dX11_sheet_70 rfl ?_
              refine pm_iloadn hG dX11_sheet_71 rfl ?_
              refine pm_if_ne (tgt := 79) hG dX11_sheet_72 rfl (fun c21 => ?_) (fun c21 => ?_)
              · refine pm_iloadn hG dX11_sheet_79 rfl ?_
                refine pm_callV (As := [.int za, .int zb, .int zc]) (rest := []) hG hR dX11_sheet_80 (lkX11_364 _ rfl) okV_X8_layOut rfl rfl (g_X8_layOut (d := 1) (by decide) h1) rfl rfl hdd (Nat.le_refl _) (Nat.le_refl _) (by decide) (pm_kv (fun σ' cnt' hq => ?_))
                obtain ⟨I22, A22, rfl, rfl, h22⟩ := hq
                refine pm_iconst (v := 1) hG dX11_sheet_83 (by decide) ?_
                exact pm_iret hG hF dX11_sheet_84 rfl (Nat.le_refl _) (Nat.le_refl _) ⟨_, rfl, _, _, rfl, rfl, h22⟩
              · refine pm_iconst (v := 0) hG dX11_sheet_75 (by decide) ?_
                refine pm_goto (tgt := 80) hG dX11_sheet_76 rfl ?_
                refine pm_callV (As := [.int za, .int zb, .int 0]) (rest := []) hG hR dX11_sheet_80 (lkX11_364 _ rfl) okV_X8_layOut rfl rfl (g_X8_layOut (d := 1) (by decide) h1) rfl rfl hdd (Nat.le_refl _) (Nat.le_refl _) (by decide) (pm_kv (fun σ' cnt' hq => ?_))
                obtain ⟨I23, A23, rfl, rfl, h23⟩ := hq
                refine pm_iconst (v := 1) hG dX11_sheet_83 (by decide) ?_
                exact pm_iret hG hF dX11_sheet_84 rfl (Nat.le_refl _) (Nat.le_refl _) ⟨_, rfl, _, _, rfl, rfl, h23⟩
            · refine pm_aloadn hG dX11_sheet_58 rfl ?_
              refine pm_ldc hG dX11_sheet_59 (ctX11_109 _ rfl) ?_
              refine pm_callV (As := [.int (-1000001)]) (rest := []) hG hR dX11_sheet_61 (lkX11_97 _ rfl) okV_X11_told rfl rfl (sx_told (d := 1) (by decide) rfl rfl) rfl rfl hdd (Nat.le_refl _) (Nat.le_refl _) (by decide) (pm_ki (fun v24 σ' cnt' hq => ?_))
              obtain ⟨-, ⟨g24, hg24⟩, hc24⟩ := hq
              obtain ⟨I24, A24, rfl, rfl, h24⟩ := hv_a53 (kp := kp) (I := I1) (A := A1) h1 ⟨hg24, hc24⟩
              exact pm_iret hG hF dX11_sheet_64 rfl (Nat.le_refl _) (Nat.le_refl _) ⟨_, rfl, _, _, rfl, rfl, h24⟩
        · refine pm_aloadn hG dX11_sheet_41 rfl ?_
          refine pm_ldc hG dX11_sheet_42 (ctX11_138 _ rfl) ?_
          refine pm_callV (As := [.int (-1000003)]) (rest := []) hG hR dX11_sheet_44 (lkX11_97 _ rfl) okV_X11_told rfl rfl (sx_told (d := 1) (by decide) rfl rfl) rfl rfl hdd (Nat.le_refl _) (Nat.le_refl _) (by decide) (pm_ki (fun v25 σ' cnt' hq => ?_))
          obtain ⟨-, ⟨g25, hg25⟩, hc25⟩ := hq
          obtain ⟨I25, A25, rfl, rfl, h25⟩ := hv_a53 (kp := kp) (I := I1) (A := A1) h1 ⟨hg25, hc25⟩
          exact pm_iret hG hF dX11_sheet_47 rfl (Nat.le_refl _) (Nat.le_refl _) ⟨_, rfl, _, _, rfl, rfl, h25⟩
    · refine pm_aloadn hG dX11_sheet_15 rfl ?_
      refine pm_getf hG dX11_sheet_16 (flX11_74 _ rfl) rfl rfl ?_
      refine pm_iloadn hG dX11_sheet_19 rfl ?_
      refine pm_callV (As := [.int zb]) (rest := []) hG hR dX11_sheet_20 (lkX11_252 _ rfl) okV_X8_isWidth rfl rfl (g_X8_isWidth (d := 1) (by decide) h1) rfl rfl hdd (Nat.le_refl _) (Nat.le_refl _) (by decide) (pm_ki (fun v26 σ' cnt' hq => ?_))
      obtain ⟨b26, I26, A26, rfl, rfl, h26⟩ := hq
      refine pm_if_ne (tgt := 33) hG dX11_sheet_23 rfl (fun c27 => ?_) (fun c27 => ?_)
      · refine pm_iloadn hG dX11_sheet_33 rfl ?_
        refine pm_if_eq (tgt := 48) hG dX11_sheet_34 rfl (fun c28 => ?_) (fun c28 => ?_)
        · refine pm_iloadn hG dX11_sheet_48 rfl ?_
          refine pm_if_eq (tgt := 65) hG dX11_sheet_49 rfl (fun c29 => ?_) (fun c29 => ?_)
          · refine pm_aloadn hG dX11_sheet_65 rfl ?_
            refine pm_getf hG dX11_sheet_66 (flX11_74 _ rfl) rfl rfl ?_
            refine pm_iloadn hG dX11_sheet_69 rfl ?_
            refine pm_iloadn hG dX11_sheet_70 rfl ?_
            refine pm_iloadn hG dX11_sheet_71 rfl ?_
            refine pm_if_ne (tgt := 79) hG dX11_sheet_72 rfl (fun c30 => ?_) (fun c30 => ?_)
            · refine pm_iloadn hG dX11_sheet_79 rfl ?_
              refine pm_callV (As := [.int za, .int zb, .int zc]) (rest := []) hG hR dX11_sheet_80 (lkX11_364 _ rfl) okV_X8_layOut rfl rfl (g_X8_layOut (d := 1) (by decide) h26) rfl rfl hdd (Nat.le_refl _) (Nat.le_refl _) (by decide) (pm_kv (fun σ' cnt' hq => ?_))
              obtain ⟨I31, A31, rfl, rfl, h31⟩ := hq
              refine pm_iconst (v := 1) hG dX11_sheet_83 (by decide) ?_
              exact pm_iret hG hF dX11_sheet_84 rfl (Nat.le_refl _) (Nat.le_refl _) ⟨_, rfl, _, _, rfl, rfl, h31⟩
            · refine pm_iconst (v := 0) hG dX11_sheet_75 (by decide) ?_
              refine pm_goto (tgt := 80) hG dX11_sheet_76 rfl ?_
              refine pm_callV (As := [.int za, .int zb, .int 0]) (rest := []) hG hR dX11_sheet_80 (lkX11_364 _ rfl) okV_X8_layOut rfl rfl (g_X8_layOut (d := 1) (by decide) h26) rfl rfl hdd (Nat.le_refl _) (Nat.le_refl _) (by decide) (pm_kv (fun σ' cnt' hq => ?_))
              obtain ⟨I32, A32, rfl, rfl, h32⟩ := hq
              refine pm_iconst (v := 1) hG dX11_sheet_83 (by decide) ?_
              exact pm_iret hG hF dX11_sheet_84 rfl (Nat.le_refl _) (Nat.le_refl _) ⟨_, rfl, _, _, rfl, rfl, h32⟩
          · refine pm_iloadn hG dX11_sheet_52 rfl ?_
            refine pm_bipush (v := 24) hG dX11_sheet_53 (by decide) ?_
            refine pm_icmp_le (tgt := 65) hG dX11_sheet_55 rfl (fun c33 => ?_) (fun c33 => ?_)
            · refine pm_aloadn hG dX11_sheet_65 rfl ?_
              refine pm_getf hG dX11_sheet_66 (flX11_74 _ rfl) rfl rfl ?_
              refine pm_iloadn hG dX11_sheet_69 rfl ?_
              refine pm_iloadn hG dX11_sheet_70 rfl ?_
              refine pm_iloadn hG dX11_sheet_71 rfl ?_
              refine pm_if_ne (tgt := 79) hG dX11_sheet_72 rfl (fun c34 => ?_) (fun c34 => ?_)
              · refine pm_iloadn hG dX11_sheet_79 rfl ?_
                refine pm_callV (As := [.int za, .int zb, .int zc]) (rest := []) hG hR dX11_sheet_80 (lkX11_364 _ rfl) okV_X8_layOut rfl rfl (g_X8_layOut (d := 1) (by decide) h26) rfl rfl hdd (Nat.le_refl _) (Nat.le_refl _) (by decide) (pm_kv (fun σ' cnt' hq => ?_))
                obtain ⟨I35, A35, rfl, rfl, h35⟩ := hq
                refine pm_iconst (v := 1) hG dX11_sheet_83 (by decide) ?_
                exact pm_iret hG hF dX11_sheet_84 rfl (Nat.le_refl _) (Nat.le_refl _) ⟨_, rfl, _, _, rfl, rfl, h35⟩
              · refine pm_iconst (v := 0) hG dX11_sheet_75 (by decide) ?_
                refine pm_goto (tgt := 80) hG dX11_sheet_76 rfl ?_
                refine pm_callV (As := [.int za, .int zb, .int 0]) (rest := []) hG hR dX11_sheet_80 (lkX11_364 _ rfl) okV_X8_layOut rfl rfl (g_X8_layOut (d := 1) (by decide) h26) rfl rfl hdd (Nat.le_refl _) (Nat.le_refl _) (by decide) (pm_kv (fun σ' cnt' hq => ?_))
                obtain ⟨I36, A36, rfl, rfl, h36⟩ := hq
                refine pm_iconst (v := 1) hG dX11_sheet_83 (by decide) ?_
                exact pm_iret hG hF dX11_sheet_84 rfl (Nat.le_refl _) (Nat.le_refl _) ⟨_, rfl, _, _, rfl, rfl, h36⟩
            · refine pm_aloadn hG dX11_sheet_58 rfl ?_
              refine pm_ldc hG dX11_sheet_59 (ctX11_109 _ rfl) ?_
              refine pm_callV (As := [.int (-1000001)]) (rest := []) hG hR dX11_sheet_61 (lkX11_97 _ rfl) okV_X11_told rfl rfl (sx_told (d := 1) (by decide) rfl rfl) rfl rfl hdd (Nat.le_refl _) (Nat.le_refl _) (by decide) (pm_ki (fun v37 σ' cnt' hq => ?_))
              obtain ⟨-, ⟨g37, hg37⟩, hc37⟩ := hq
              obtain ⟨I37, A37, rfl, rfl, h37⟩ := hv_a53 (kp := kp) (I := I26) (A := A26) h26 ⟨hg37, hc37⟩
              exact pm_iret hG hF dX11_sheet_64 rfl (Nat.le_refl _) (Nat.le_refl _) ⟨_, rfl, _, _, rfl, rfl, h37⟩
        · refine pm_iloadn hG dX11_sheet_37 rfl ?_
          refine pm_if_ge (tgt := 48) hG dX11_sheet_38 rfl (fun c38 => ?_) (fun c38 => ?_)
          · refine pm_iloadn hG dX11_sheet_48 rfl ?_
            refine pm_if_eq (tgt := 65) hG dX11_sheet_49 rfl (fun c39 => ?_) (fun c39 => ?_)
            · refine pm_aloadn hG dX11_sheet_65 rfl ?_
              refine pm_getf hG dX11_sheet_66 (flX11_74 _ rfl) rfl rfl ?_
              refine pm_iloadn hG dX11_sheet_69 rfl ?_
              refine pm_iloadn hG dX11_sheet_70 rfl ?_
              refine pm_iloadn hG dX11_sheet_71 rfl ?_
              refine pm_if_ne (tgt := 79) hG dX11_sheet_72 rfl (fun c40 => ?_) (fun c40 => ?_)
              · refine pm_iloadn hG dX11_sheet_79 rfl ?_
                refine pm_callV (As := [.int za, .int zb, .int zc]) (rest := []) hG hR dX11_sheet_80 (lkX11_364 _ rfl) okV_X8_layOut rfl rfl (g_X8_layOut (d := 1) (by decide) h26) rfl rfl hdd (Nat.le_refl _) (Nat.le_refl _) (by decide) (pm_kv (fun σ' cnt' hq => ?_))
                obtain ⟨I41, A41, rfl, rfl, h41⟩ := hq
                refine pm_iconst (v := 1) hG dX11_sheet_83 (by decide) ?_
                exact pm_iret hG hF dX11_sheet_84 rfl (Nat.le_refl _) (Nat.le_refl _) ⟨_, rfl, _, _, rfl, rfl, h41⟩
              · refine pm_iconst (v := 0) hG dX11_sheet_75 (by decide) ?_
                refine pm_goto (tgt := 80) hG dX11_sheet_76 rfl ?_
                refine pm_callV (As := [.int za, .int zb, .int 0]) (rest := []) hG hR dX11_sheet_80 (lkX11_364 _ rfl) okV_X8_layOut rfl rfl (g_X8_layOut (d := 1) (by decide) h26) rfl rfl hdd (Nat.le_refl _) (Nat.le_refl _) (by decide) (pm_kv (fun σ' cnt' hq => ?_))
                obtain ⟨I42, A42, rfl, rfl, h42⟩ := hq
                refine pm_iconst (v := 1) hG dX11_sheet_83 (by decide) ?_
                exact pm_iret hG hF dX11_sheet_84 rfl (Nat.le_refl _) (Nat.le_refl _) ⟨_, rfl, _, _, rfl, rfl, h42⟩
            · refine pm_iloadn hG dX11_sheet_52 rfl ?_
              refine pm_bipush (v := 24) hG dX11_sheet_53 (by decide) ?_
              refine pm_icmp_le (tgt := 65) hG dX11_sheet_55 rfl (fun c43 => ?_) (fun c43 => ?_)
              · refine pm_aloadn hG dX11_sheet_65 rfl ?_
                refine pm_getf hG dX11_sheet_66 (flX11_74 _ rfl) rfl rfl ?_
                refine pm_iloadn hG dX11_sheet_69 rfl ?_
                refine pm_iloadn hG dX11_sheet_70 rfl ?_
                refine pm_iloadn hG dX11_sheet_71 rfl ?_
                refine pm_if_ne (tgt := 79) hG dX11_sheet_72 rfl (fun c44 => ?_) (fun c44 => ?_)
                · refine pm_iloadn hG dX11_sheet_79 rfl ?_
                  refine pm_callV (As := [.int za, .int zb, .int zc]) (rest := []) hG hR dX11_sheet_80 (lkX11_364 _ rfl) okV_X8_layOut rfl rfl (g_X8_layOut (d := 1) (by decide) h26) rfl rfl hdd (Nat.le_refl _) (Nat.le_refl _) (by decide) (pm_kv (fun σ' cnt' hq => ?_))
                  obtain ⟨I45, A45, rfl, rfl, h45⟩ := hq
                  refine pm_iconst (v := 1) hG dX11_sheet_83 (by decide) ?_
                  exact pm_iret hG hF dX11_sheet_84 rfl (Nat.le_refl _) (Nat.le_refl _) ⟨_, rfl, _, _, rfl, rfl, h45⟩
                · refine pm_iconst (v := 0) hG dX11_sheet_75 (by decide) ?_
                  refine pm_goto (tgt := 80) hG dX11_sheet_76 rfl ?_
                  refine pm_callV (As := [.int za, .int zb, .int 0]) (rest := []) hG hR dX11_sheet_80 (lkX11_364 _ rfl) okV_X8_layOut rfl rfl (g_X8_layOut (d := 1) (by decide) h26) rfl rfl hdd (Nat.le_refl _) (Nat.le_refl _) (by decide) (pm_kv (fun σ' cnt' hq => ?_))
                  obtain ⟨I46, A46, rfl, rfl, h46⟩ := hq
                  refine pm_iconst (v := 1) hG dX11_sheet_83 (by decide) ?_
                  exact pm_iret hG hF dX11_sheet_84 rfl (Nat.le_refl _) (Nat.le_refl _) ⟨_, rfl, _, _, rfl, rfl, h46⟩
              · refine pm_aloadn hG dX11_sheet_58 rfl ?_
                refine pm_ldc hG dX11_sheet_59 (ctX11_109 _ rfl) ?_
                refine pm_callV (As := [.int (-1000001)]) (rest := []) hG hR dX11_sheet_61 (lkX11_97 _ rfl) okV_X11_told rfl rfl (sx_told (d := 1) (by decide) rfl rfl) rfl rfl hdd (Nat.le_refl _) (Nat.le_refl _) (by decide) (pm_ki (fun v47 σ' cnt' hq => ?_))
                obtain ⟨-, ⟨g47, hg47⟩, hc47⟩ := hq
                obtain ⟨I47, A47, rfl, rfl, h47⟩ := hv_a53 (kp := kp) (I := I26) (A := A26) h26 ⟨hg47, hc47⟩
                exact pm_iret hG hF dX11_sheet_64 rfl (Nat.le_refl _) (Nat.le_refl _) ⟨_, rfl, _, _, rfl, rfl, h47⟩
          · refine pm_aloadn hG dX11_sheet_41 rfl ?_
            refine pm_ldc hG dX11_sheet_42 (ctX11_138 _ rfl) ?_
            refine pm_callV (As := [.int (-1000003)]) (rest := []) hG hR dX11_sheet_44 (lkX11_97 _ rfl) okV_X11_told rfl rfl (sx_told (d := 1) (by decide) rfl rfl) rfl rfl hdd (Nat.le_refl _) (Nat.le_refl _) (by decide) (pm_ki (fun v48 σ' cnt' hq => ?_))
            obtain ⟨-, ⟨g48, hg48⟩, hc48⟩ := hq
            obtain ⟨I48, A48, rfl, rfl, h48⟩ := hv_a53 (kp := kp) (I := I26) (A := A26) h26 ⟨hg48, hc48⟩
            exact pm_iret hG hF dX11_sheet_47 rfl (Nat.le_refl _) (Nat.le_refl _) ⟨_, rfl, _, _, rfl, rfl, h48⟩
      · refine pm_aloadn hG dX11_sheet_26 rfl ?_
        refine pm_ldc hG dX11_sheet_27 (ctX11_109 _ rfl) ?_
        refine pm_callV (As := [.int (-1000001)]) (rest := []) hG hR dX11_sheet_29 (lkX11_97 _ rfl) okV_X11_told rfl rfl (sx_told (d := 1) (by decide) rfl rfl) rfl rfl hdd (Nat.le_refl _) (Nat.le_refl _) (by decide) (pm_ki (fun v49 σ' cnt' hq => ?_))
        obtain ⟨-, ⟨g49, hg49⟩, hc49⟩ := hq
        obtain ⟨I49, A49, rfl, rfl, h49⟩ := hv_a53 (kp := kp) (I := I26) (A := A26) h26 ⟨hg49, hc49⟩
        exact pm_iret hG hF dX11_sheet_32 rfl (Nat.le_refl _) (Nat.le_refl _) ⟨_, rfl, _, _, rfl, rfl, h49⟩

set_option maxRecDepth 100000 in
set_option maxHeartbeats 4000000 in
theorem g_X11_strike {ε : Nat → Int32} {d B cnt : Nat} {kp : Value} {ρ : pm_S} {I : Nat → Int32} {A : Nat → Nat → Int32} {za : Int32} (hdd : 2 ≤ d) (h : gq ε I) : pm_met mX11_strike d 0 0 B [.ref (B + 0), .int za] cnt (pm_two (cl_L B kp I A) ρ) (pm_Qi (fun _ σ' cnt' => hvq ε B kp ρ cnt σ' cnt')) := by
  refine pm_enter 0 (by decide) (Nat.le_of_ble_eq_true rfl) rfl (fun G hG hR hF => ?_)
  refine pm_aloadn hG dX11_strike_0 rfl ?_
  refine pm_getf hG dX11_strike_1 (flX11_12 _ rfl) rfl rfl ?_
  refine pm_getf hG dX11_strike_4 (flX11_209 _ rfl) rfl rfl ?_
  refine pm_iloadn hG dX11_strike_7 rfl ?_
  refine pm_callV (As := [.int za]) (rest := []) hG hR dX11_strike_8 (lkX11_101 _ rfl) okV_X9_has rfl rfl (tb_has (d := 1) rfl) rfl rfl hdd (Nat.le_refl _) (Nat.le_refl _) (by decide) (pm_ki (fun v1 σ' cnt' hq => ?_))
  have b1 := pm_b01 hq.1
  obtain ⟨I1, A1, rfl, rfl, h1⟩ := hv_id (kp := kp) (I := I) (A := A) h hq.2
  refine pm_if_ne (tgt := 21) hG dX11_strike_11 rfl (fun c2 => ?_) (fun c2 => ?_)
  · refine pm_aloadn hG dX11_strike_21 rfl ?_
    refine pm_getf hG dX11_strike_22 (flX11_21 _ rfl) rfl rfl ?_
    refine pm_iloadn hG dX11_strike_25 rfl ?_
    refine pm_callV (As := [.int za]) (rest := []) hG hR dX11_strike_26 (lkX11_214 _ rfl) okV_X2_isStruck rfl rfl (g_X2_isStruck (d := 1) (by decide) h1) rfl rfl hdd (Nat.le_refl _) (Nat.le_refl _) (by decide) (pm_ki (fun v3 σ' cnt' hq => ?_))
    obtain ⟨b3, I3, A3, rfl, rfl, h3⟩ := hq
    refine pm_if_eq (tgt := 39) hG dX11_strike_29 rfl (fun c4 => ?_) (fun c4 => ?_)
    · refine pm_aloadn hG dX11_strike_39 rfl ?_
      refine pm_getf hG dX11_strike_40 (flX11_21 _ rfl) rfl rfl ?_
      refine pm_iloadn hG dX11_strike_43 rfl ?_
      refine pm_callV (As := [.int za]) (rest := []) hG hR dX11_strike_44 (lkX11_217 _ rfl) okV_X2_strikeOut rfl rfl (g_X2_strikeOut (d := 1) (by decide) h3) rfl rfl hdd (Nat.le_refl _) (Nat.le_refl _) (by decide) (pm_kv (fun σ' cnt' hq => ?_))
      obtain ⟨I5, A5, rfl, rfl, h5⟩ := hq
      refine pm_iconst (v := 1) hG dX11_strike_47 (by decide) ?_
      exact pm_iret hG hF dX11_strike_48 rfl (Nat.le_refl _) (Nat.le_refl _) ⟨_, rfl, _, _, rfl, rfl, h5⟩
    · refine pm_aloadn hG dX11_strike_32 rfl ?_
      refine pm_ldc hG dX11_strike_33 (ctX11_138 _ rfl) ?_
      refine pm_callV (As := [.int (-1000003)]) (rest := []) hG hR dX11_strike_35 (lkX11_97 _ rfl) okV_X11_told rfl rfl (sx_told (d := 1) (by decide) rfl rfl) rfl rfl hdd (Nat.le_refl _) (Nat.le_refl _) (by decide) (pm_ki (fun v6 σ' cnt' hq => ?_))
      obtain ⟨-, ⟨g6, hg6⟩, hc6⟩ := hq
      obtain ⟨I6, A6, rfl, rfl, h6⟩ := hv_a53 (kp := kp) (I := I3) (A := A3) h3 ⟨hg6, hc6⟩
      exact pm_iret hG hF dX11_strike_38 rfl (Nat.le_refl _) (Nat.le_refl _) ⟨_, rfl, _, _, rfl, rfl, h6⟩
  · refine pm_aloadn hG dX11_strike_14 rfl ?_
    refine pm_ldc hG dX11_strike_15 (ctX11_109 _ rfl) ?_
    refine pm_callV (As := [.int (-1000001)]) (rest := []) hG hR dX11_strike_17 (lkX11_97 _ rfl) okV_X11_told rfl rfl (sx_told (d := 1) (by decide) rfl rfl) rfl rfl hdd (Nat.le_refl _) (Nat.le_refl _) (by decide) (pm_ki (fun v7 σ' cnt' hq => ?_))
    obtain ⟨-, ⟨g7, hg7⟩, hc7⟩ := hq
    obtain ⟨I7, A7, rfl, rfl, h7⟩ := hv_a53 (kp := kp) (I := I1) (A := A1) h1 ⟨hg7, hc7⟩
    exact pm_iret hG hF dX11_strike_20 rfl (Nat.le_refl _) (Nat.le_refl _) ⟨_, rfl, _, _, rfl, rfl, h7⟩

set_option maxRecDepth 100000 in
set_option maxHeartbeats 4000000 in
theorem g_X11_tell {ε : Nat → Int32} {d B cnt : Nat} {kp : Value} {ρ : pm_S} {I : Nat → Int32} {A : Nat → Nat → Int32} {za : Int32} (hdd : 2 ≤ d) (h : gq ε I) : pm_met mX11_tell d 0 0 B [.ref (B + 0), .int za] cnt (pm_two (cl_L B kp I A) ρ) (pm_Qi (fun _ σ' cnt' => hvq ε B kp ρ cnt σ' cnt')) := by
  refine pm_enter 0 (by decide) (Nat.le_of_ble_eq_true rfl) rfl (fun G hG hR hF => ?_)
  refine pm_aloadn hG dX11_tell_0 rfl ?_
  refine pm_getf hG dX11_tell_1 (flX11_12 _ rfl) rfl rfl ?_
  refine pm_getf hG dX11_tell_4 (flX11_386 _ rfl) rfl rfl ?_
  refine pm_callV (As := []) (rest := []) hG hR dX11_tell_7 (lkX11_86 _ rfl) okV_X9_isFull rfl rfl (tb_isFull (d := 1) rfl) rfl rfl hdd (Nat.le_refl _) (Nat.le_refl _) (by decide) (pm_ki (fun v1 σ' cnt' hq => ?_))
  have b1 := pm_b01 hq.1
  obtain ⟨I1, A1, rfl, rfl, h1⟩ := hv_id (kp := kp) (I := I) (A := A) h hq.2
  refine pm_if_eq (tgt := 20) hG dX11_tell_10 rfl (fun c2 => ?_) (fun c2 => ?_)
  · refine pm_aloadn hG dX11_tell_20 rfl ?_
    refine pm_getf hG dX11_tell_21 (flX11_12 _ rfl) rfl rfl ?_
    refine pm_getf hG dX11_tell_24 (flX11_386 _ rfl) rfl rfl ?_
    refine pm_iloadn hG dX11_tell_27 rfl ?_
    obtain ⟨k3, hk3, hu3⟩ := gq.used h1 22 20 (by decide)
    have ht3 : pm_two (cl_L B kp I1 A1) ρ 22 = some (.inr (9, [.int (nI 20), .int (nI 1), .ref (B + 23), .int (nI k3)])) := by rw [← hu3]; rfl
    refine pm_callV (As := [.int za]) (rest := []) hG hR dX11_tell_28 (lkX11_206 _ rfl) okV_X9_append rfl rfl (tb_append (d := 1) (by decide) ht3 rfl (by decide) (by decide) (by decide) (by decide) (by decide) (by decide) hk3) rfl rfl hdd (Nat.le_refl _) (Nat.le_refl _) (by decide) (pm_ki (fun v3 σ' cnt' hq => ?_))
    obtain ⟨I3, A3, rfl, rfl, h3⟩ := hv_p22 (kp := kp) (I := I1) (A := A1) hk3 h1 hq
    refine pm_pop hG dX11_tell_31 rfl ?_
    refine pm_aloadn hG dX11_tell_32 rfl ?_
    refine pm_getf hG dX11_tell_33 (flX11_12 _ rfl) rfl rfl ?_
    refine pm_getf hG dX11_tell_36 (flX11_386 _ rfl) rfl rfl ?_
    refine pm_callV (As := []) (rest := []) hG hR dX11_tell_39 (lkX11_203 _ rfl) okV_X9_used rfl rfl (tb_used (d := 1) rfl) rfl rfl hdd (Nat.le_refl _) (Nat.le_refl _) (by decide) (pm_ki (fun v4 σ' cnt' hq => ?_))
    obtain ⟨I4, A4, rfl, rfl, h4⟩ := hv_id (kp := kp) (I := I3) (A := A3) h3 hq.2
    exact pm_iret hG hF dX11_tell_42 rfl (Nat.le_refl _) (Nat.le_refl _) ⟨_, rfl, _, _, rfl, rfl, h4⟩
  · refine pm_aloadn hG dX11_tell_13 rfl ?_
    refine pm_ldc hG dX11_tell_14 (ctX11_92 _ rfl) ?_
    refine pm_callV (As := [.int (-1000004)]) (rest := []) hG hR dX11_tell_16 (lkX11_97 _ rfl) okV_X11_told rfl rfl (sx_told (d := 1) (by decide) rfl rfl) rfl rfl hdd (Nat.le_refl _) (Nat.le_refl _) (by decide) (pm_ki (fun v5 σ' cnt' hq => ?_))
    obtain ⟨-, ⟨g5, hg5⟩, hc5⟩ := hq
    obtain ⟨I5, A5, rfl, rfl, h5⟩ := hv_a53 (kp := kp) (I := I1) (A := A1) h1 ⟨hg5, hc5⟩
    exact pm_iret hG hF dX11_tell_19 rfl (Nat.le_refl _) (Nat.le_refl _) ⟨_, rfl, _, _, rfl, rfl, h5⟩

set_option maxRecDepth 100000 in
set_option maxHeartbeats 4000000 in
theorem g_X7_addTown {ε : Nat → Int32} {d B cnt : Nat} {kp : Value} {ρ : pm_S} {I : Nat → Int32} {A : Nat → Nat → Int32} (hdd : 2 ≤ d) (h : gq ε I) : pm_met mX7_addTown d 0 0 B [.ref (B + 1)] cnt (pm_two (cl_L B kp I A) ρ) (pm_Qi (fun _ σ' cnt' => hvq ε B kp ρ cnt σ' cnt')) := by
  refine pm_enter 1 (by decide) (Nat.le_of_ble_eq_true rfl) rfl (fun G hG hR hF => ?_)
  refine pm_aloadn hG dX7_addTown_0 rfl ?_
  refine pm_getf hG dX7_addTown_1 (flX7_14 _ rfl) rfl rfl ?_
  refine pm_iconst (v := 0) hG dX7_addTown_4 (by decide) ?_
  obtain ⟨k1, hk1, hu1⟩ := gq.used h 2 10 (by decide)
  have ht1 : pm_two (cl_L B kp I A) ρ 2 = some (.inr (9, [.int (nI 10), .int (nI 3), .ref (B + 3), .int (nI k1)])) := by rw [← hu1]; rfl
  refine pm_callV (As := [.int 0]) (rest := []) hG hR dX7_addTown_5 (lkX7_75 _ rfl) okV_X9_append rfl rfl (tb_append (d := 1) (by decide) ht1 rfl (by decide) (by decide) (by decide) (by decide) (by decide) (by decide) hk1) rfl rfl hdd (Nat.le_refl _) (Nat.le_refl _) (by decide) (pm_ki (fun v1 σ' cnt' hq => ?_))
  obtain ⟨I1, A1, rfl, rfl, h1⟩ := hv_p2 (kp := kp) (I := I) (A := A) hk1 h hq
  refine pm_istoreXn (loc' := [some (.ref (B + 1)), some (.int v1)]) hG dX7_addTown_8 (by decide) (pm_c1b rfl) rfl ?_
  refine pm_aloadn hG dX7_addTown_9 rfl ?_
  refine pm_getf hG dX7_addTown_10 (flX7_14 _ rfl) rfl rfl ?_
  refine pm_iloadn hG dX7_addTown_13 rfl ?_
  refine pm_iconst (v := 1) hG dX7_addTown_14 (by decide) ?_
  refine pm_iconst (v := (-1)) hG dX7_addTown_15 (by decide) ?_
  refine pm_callV (As := [.int v1, .int 1, .int (-1)]) (rest := []) hG hR dX7_addTown_16 (lkX7_61 _ rfl) okV_X9_set rfl rfl (tb_set (d := 1) rfl rfl (pm_tw_of 10 3 (by decide) (by decide) (by decide)) (by decide)) rfl rfl hdd (Nat.le_refl _) (Nat.le_refl _) (by decide) (pm_kv (fun σ' cnt' hq => ?_))
  obtain ⟨I2, A2, rfl, rfl, h2⟩ := hv_a3 (kp := kp) (I := I1) (A := A1) h1 hq
  refine pm_iloadn hG dX7_addTown_19 rfl ?_
  exact pm_iret hG hF dX7_addTown_20 rfl (Nat.le_refl _) (Nat.le_refl _) ⟨_, rfl, _, _, rfl, rfl, h2⟩

set_option maxRecDepth 100000 in
set_option maxHeartbeats 4000000 in
theorem g_X11_town {ε : Nat → Int32} {d B cnt : Nat} {kp : Value} {ρ : pm_S} {I : Nat → Int32} {A : Nat → Nat → Int32} (hdd : 3 ≤ d) (h : gq ε I) : pm_met mX11_town d 0 0 B [.ref (B + 0)] cnt (pm_two (cl_L B kp I A) ρ) (pm_Qi (fun _ σ' cnt' => hvq ε B kp ρ cnt σ' cnt')) := by
  refine pm_enter 0 (by decide) (Nat.le_of_ble_eq_true rfl) rfl (fun G hG hR hF => ?_)
  refine pm_aloadn hG dX11_town_0 rfl ?_
  refine pm_aloadn hG dX11_town_1 rfl ?_
  refine pm_getf hG dX11_town_2 (flX11_12 _ rfl) rfl rfl ?_
  refine pm_getf hG dX11_town_5 (flX11_82 _ rfl) rfl rfl ?_
  refine pm_callV (As := []) (rest := [.ref (B + 0)]) hG hR dX11_town_8 (lkX11_86 _ rfl) okV_X9_isFull rfl rfl (tb_isFull (d := 2) rfl) rfl rfl hdd (Nat.le_refl _) (Nat.le_refl _) (by first | decide | exact Nat.le_of_ble_eq_true rfl) (pm_ki (fun v1 σ' cnt' hq => ?_))
  have b1 := pm_b01 hq.1
  obtain ⟨I1, A1, rfl, rfl, h1⟩ := hv_id (kp := kp) (I := I) (A := A) h hq.2
  refine pm_if_eq (tgt := 19) hG dX11_town_11 rfl (fun c2 => ?_) (fun c2 => ?_)
  · refine pm_aloadn hG dX11_town_19 rfl ?_
    refine pm_getf hG dX11_town_20 (flX11_12 _ rfl) rfl rfl ?_
    refine pm_callV (As := []) (rest := [.ref (B + 0)]) hG hR dX11_town_23 (lkX11_93 _ rfl) okV_X7_addTown rfl rfl (g_X7_addTown (d := 2) (by decide) h1) rfl rfl hdd (Nat.le_refl _) (Nat.le_refl _) (by first | decide | exact Nat.le_of_ble_eq_true rfl) (pm_ki (fun v3 σ' cnt' hq => ?_))
    obtain ⟨I3, A3, rfl, rfl, h3⟩ := hq
    refine pm_callV (As := [.int v3]) (rest := []) hG hR dX11_town_26 (lkX11_97 _ rfl) okV_X11_told rfl rfl (sx_told (d := 2) (by decide) rfl rfl) rfl rfl hdd (Nat.le_refl _) (Nat.le_refl _) (by decide) (pm_ki (fun v4 σ' cnt' hq => ?_))
    obtain ⟨-, ⟨g4, hg4⟩, hc4⟩ := hq
    obtain ⟨I4, A4, rfl, rfl, h4⟩ := hv_a53 (kp := kp) (I := I3) (A := A3) h3 ⟨hg4, hc4⟩
    exact pm_iret hG hF dX11_town_29 rfl (Nat.le_refl _) (Nat.le_refl _) ⟨_, rfl, _, _, rfl, rfl, h4⟩
  · refine pm_ldc hG dX11_town_14 (ctX11_92 _ rfl) ?_
    refine pm_goto (tgt := 26) hG dX11_town_16 rfl ?_
    refine pm_callV (As := [.int (-1000004)]) (rest := []) hG hR dX11_town_26 (lkX11_97 _ rfl) okV_X11_told rfl rfl (sx_told (d := 2) (by decide) rfl rfl) rfl rfl hdd (Nat.le_refl _) (Nat.le_refl _) (by decide) (pm_ki (fun v5 σ' cnt' hq => ?_))
    obtain ⟨-, ⟨g5, hg5⟩, hc5⟩ := hq
    obtain ⟨I5, A5, rfl, rfl, h5⟩ := hv_a53 (kp := kp) (I := I1) (A := A1) h1 ⟨hg5, hc5⟩
    exact pm_iret hG hF dX11_town_29 rfl (Nat.le_refl _) (Nat.le_refl _) ⟨_, rfl, _, _, rfl, rfl, h5⟩

set_option maxRecDepth 100000 in
set_option maxHeartbeats 4000000 in
theorem g_X11_trace {ε : Nat → Int32} {d B cnt : Nat} {kp : Value} {ρ : pm_S} {I : Nat → Int32} {A : Nat → Nat → Int32} {za : Int32} (hdd : 2 ≤ d) (h : gq ε I) : pm_met mX11_trace d 0 0 B [.ref (B + 0), .int za] cnt (pm_two (cl_L B kp I A) ρ) (pm_Qi (fun _ σ' cnt' => hvq ε B kp ρ cnt σ' cnt')) := by
  refine pm_enter 0 (by decide) (Nat.le_of_ble_eq_true rfl) rfl (fun G hG hR hF => ?_)
  refine pm_aloadn hG dX11_trace_0 rfl ?_
  refine pm_iloadn hG dX11_trace_1 rfl ?_
  refine pm_if_lt (tgt := 27) hG dX11_trace_2 rfl (fun c1 => ?_) (fun c1 => ?_)
  · refine pm_ldc hG dX11_trace_27 (ctX11_223 _ rfl) ?_
    refine pm_callV (As := [.int (-1000002)]) (rest := []) hG hR dX11_trace_29 (lkX11_97 _ rfl) okV_X11_told rfl rfl (sx_told (d := 1) (by decide) rfl rfl) rfl rfl hdd (Nat.le_refl _) (Nat.le_refl _) (by decide) (pm_ki (fun v2 σ' cnt' hq => ?_))
    obtain ⟨-, ⟨g2, hg2⟩, hc2⟩ := hq
    obtain ⟨I2, A2, rfl, rfl, h2⟩ := hv_a53 (kp := kp) (I := I) (A := A) h ⟨hg2, hc2⟩
    exact pm_iret hG hF dX11_trace_32 rfl (Nat.le_refl _) (Nat.le_refl _) ⟨_, rfl, _, _, rfl, rfl, h2⟩
  · refine pm_iloadn hG dX11_trace_5 rfl ?_
    refine pm_aloadn hG dX11_trace_6 rfl ?_
    refine pm_getf hG dX11_trace_7 (flX11_67 _ rfl) rfl rfl ?_
    refine pm_getf hG dX11_trace_10 (flX11_358 _ rfl) rfl rfl ?_
    refine pm_icmp_ge (tgt := 27) hG dX11_trace_13 rfl (fun c3 => ?_) (fun c3 => ?_)
    · refine pm_ldc hG dX11_trace_27 (ctX11_223 _ rfl) ?_
      refine pm_callV (As := [.int (-1000002)]) (rest := []) hG hR dX11_trace_29 (lkX11_97 _ rfl) okV_X11_told rfl rfl (sx_told (d := 1) (by decide) rfl rfl) rfl rfl hdd (Nat.le_refl _) (Nat.le_refl _) (by decide) (pm_ki (fun v4 σ' cnt' hq => ?_))
      obtain ⟨-, ⟨g4, hg4⟩, hc4⟩ := hq
      obtain ⟨I4, A4, rfl, rfl, h4⟩ := hv_a53 (kp := kp) (I := I) (A := A) h ⟨hg4, hc4⟩
      exact pm_iret hG hF dX11_trace_32 rfl (Nat.le_refl _) (Nat.le_refl _) ⟨_, rfl, _, _, rfl, rfl, h4⟩
    · refine pm_aloadn hG dX11_trace_16 rfl ?_
      refine pm_getf hG dX11_trace_17 (flX11_67 _ rfl) rfl rfl ?_
      refine pm_iloadn hG dX11_trace_20 rfl ?_
      refine pm_callV (As := [.int za]) (rest := [.ref (B + 0)]) hG hR dX11_trace_21 (lkX11_361 _ rfl) okV_X10_bodyAt rfl rfl (g_X10_bodyAt (d := 1) (by decide) h) rfl rfl hdd (Nat.le_refl _) (Nat.le_refl _) (by first | decide | exact Nat.le_of_ble_eq_true rfl) (pm_ki (fun v5 σ' cnt' hq => ?_))
      obtain ⟨I5, A5, rfl, rfl, h5⟩ := hq
      refine pm_goto (tgt := 29) hG dX11_trace_24 rfl ?_
      refine pm_callV (As := [.int v5]) (rest := []) hG hR dX11_trace_29 (lkX11_97 _ rfl) okV_X11_told rfl rfl (sx_told (d := 1) (by decide) rfl rfl) rfl rfl hdd (Nat.le_refl _) (Nat.le_refl _) (by decide) (pm_ki (fun v6 σ' cnt' hq => ?_))
      obtain ⟨-, ⟨g6, hg6⟩, hc6⟩ := hq
      obtain ⟨I6, A6, rfl, rfl, h6⟩ := hv_a53 (kp := kp) (I := I5) (A := A5) h5 ⟨hg6, hc6⟩
      exact pm_iret hG hF dX11_trace_32 rfl (Nat.le_refl _) (Nat.le_refl _) ⟨_, rfl, _, _, rfl, rfl, h6⟩

set_option maxRecDepth 100000 in
set_option maxHeartbeats 4000000 in
theorem g_X11_voice {ε : Nat → Int32} {d B cnt : Nat} {kp : Value} {ρ : pm_S} {I : Nat → Int32} {A : Nat → Nat → Int32} {za zb zc : Int32} (hdd : 11 ≤ d) (h : gq ε I) : pm_met mX11_voice d 0 0 B [.ref (B + 0), .int za, .int zb, .int zc] cnt (pm_two (cl_L B kp I A) ρ) (pm_Qi (fun _ σ' cnt' => hvq ε B kp ρ cnt σ' cnt')) := by
  refine pm_enter 0 (by decide) (Nat.le_of_ble_eq_true rfl) rfl (fun G hG hR hF => ?_)
  refine pm_aloadn hG dX11_voice_0 rfl ?_
  refine pm_getf hG dX11_voice_1 (flX11_12 _ rfl) rfl rfl ?_
  refine pm_getf hG dX11_voice_4 (flX11_161 _ rfl) rfl rfl ?_
  refine pm_iloadn hG dX11_voice_7 rfl ?_
  refine pm_callV (As := [.int za]) (rest := []) hG hR dX11_voice_8 (lkX11_101 _ rfl) okV_X9_has rfl rfl (tb_has (d := 10) rfl) rfl rfl hdd (Nat.le_refl _) (Nat.le_refl _) (by decide) (pm_ki (fun v1 σ' cnt' hq => ?_))
  have b1 := pm_b01 hq.1
  obtain ⟨I1, A1, rfl, rfl, h1⟩ := hv_id (kp := kp) (I := I) (A := A) h hq.2
  refine pm_if_eq (tgt := 23) hG dX11_voice_11 rfl (fun c2 => ?_) (fun c2 => ?_)
  · refine pm_aloadn hG dX11_voice_23 rfl ?_
    refine pm_ldc hG dX11_voice_24 (ctX11_109 _ rfl) ?_
    refine pm_callV (As := [.int (-1000001)]) (rest := []) hG hR dX11_voice_26 (lkX11_97 _ rfl) okV_X11_told rfl rfl (sx_told (d := 10) (by decide) rfl rfl) rfl rfl hdd (Nat.le_refl _) (Nat.le_refl _) (by decide) (pm_ki (fun v3 σ' cnt' hq => ?_))
    obtain ⟨-, ⟨g3, hg3⟩, hc3⟩ := hq
    obtain ⟨I3, A3, rfl, rfl, h3⟩ := hv_a53 (kp := kp) (I := I1) (A := A1) h1 ⟨hg3, hc3⟩
    exact pm_iret hG hF dX11_voice_29 rfl (Nat.le_refl _) (Nat.le_refl _) ⟨_, rfl, _, _, rfl, rfl, h3⟩
  · refine pm_iloadn hG dX11_voice_14 rfl ?_
    refine pm_iconst (v := 0) hG dX11_voice_15 (by decide) ?_
    refine pm_iconst (v := 3) hG dX11_voice_16 (by decide) ?_
    refine pm_callS (As := [.int zb, .int 0, .int 3]) (rest := []) hG hR dX11_voice_17 (lkX11_105 _ rfl) okS_X11_isOutside (sx_isOutside (d := 10)) rfl rfl hdd (Nat.le_refl _) (Nat.le_refl _) (by decide) (pm_ki (fun v4 σ' cnt' hq => ?_))
    have o4 := hq.1
    have b4 := pm_b10 hq.1
    obtain ⟨I4, A4, rfl, rfl, h4⟩ := hv_id (kp := kp) (I := I1) (A := A1) h1 hq.2
    refine pm_if_eq (tgt := 30) hG dX11_voice_20 rfl (fun c5 => ?_) (fun c5 => ?_)
    · refine pm_aloadn hG dX11_voice_30 rfl ?_
      refine pm_getf hG dX11_voice_31 (flX11_67 _ rfl) rfl rfl ?_
      refine pm_aloadn hG dX11_voice_34 rfl ?_
      refine pm_getf hG dX11_voice_35 (flX11_12 _ rfl) rfl rfl ?_
      refine pm_getf hG dX11_voice_38 (flX11_161 _ rfl) rfl rfl ?_
      refine pm_iloadn hG dX11_voice_41 rfl ?_
      refine pm_iconst (v := 0) hG dX11_voice_42 (by decide) ?_
      refine pm_callV (As := [.int za, .int 0]) (rest := [.ref (B + 46)]) hG hR dX11_voice_43 (lkX11_152 _ rfl) okV_X9_get rfl rfl (tb_get (d := 10) rfl rfl (pm_tw_of 20 6 (by decide) (by decide) (by decide))) rfl rfl hdd (Nat.le_refl _) (Nat.le_refl _) (by first | decide | exact Nat.le_of_ble_eq_true rfl) (pm_ki (fun v6 σ' cnt' hq => ?_))
      obtain ⟨I6, A6, rfl, rfl, h6⟩ := hv_id (kp := kp) (I := I4) (A := A4) h4 hq.2
      refine pm_iloadn hG dX11_voice_46 rfl ?_
      refine pm_aloadn hG dX11_voice_47 rfl ?_
      refine pm_getf hG dX11_voice_48 (flX11_12 _ rfl) rfl rfl ?_
      refine pm_getf hG dX11_voice_51 (flX11_161 _ rfl) rfl rfl ?_
      refine pm_iloadn hG dX11_voice_54 rfl ?_
      refine pm_iconst (v := 1) hG dX11_voice_55 (by decide) ?_
      refine pm_callV (As := [.int za, .int 1]) (rest := [.int za, .int v6, .ref (B + 46)]) hG hR dX11_voice_56 (lkX11_152 _ rfl) okV_X9_get rfl rfl (tb_get (d := 10) rfl rfl (pm_tw_of 20 6 (by decide) (by decide) (by decide))) rfl rfl hdd (Nat.le_refl _) (Nat.le_refl _) (by first | decide | exact Nat.le_of_ble_eq_true rfl) (pm_ki (fun v7 σ' cnt' hq => ?_))
      obtain ⟨I7, A7, rfl, rfl, h7⟩ := hv_id (kp := kp) (I := I6) (A := A6) h6 hq.2
      refine pm_callV (As := [.int v6, .int za, .int v7]) (rest := []) hG hR dX11_voice_59 (lkX11_353 _ rfl) okV_X10_begin rfl rfl (g_X10_begin (d := 10) (by decide) h7) rfl rfl hdd (Nat.le_refl _) (Nat.le_refl _) (by decide) (pm_kv (fun σ' cnt' hq => ?_))
      obtain ⟨I8, A8, rfl, rfl, h8⟩ := hq
      refine pm_aloadn hG dX11_voice_62 rfl ?_
      refine pm_getf hG dX11_voice_63 (flX11_67 _ rfl) rfl rfl ?_
      refine pm_iloadn hG dX11_voice_66 rfl ?_
      refine pm_iloadn hG dX11_voice_67 rfl ?_
      refine pm_callV (As := [.int zb, .int zc]) (rest := []) hG hR dX11_voice_68 (lkX11_355 _ rfl) okV_X10_speak rfl rfl (g_X10_speak (d := 10) (by decide) h8) rfl rfl hdd (Nat.le_refl _) (Nat.le_refl _) (by decide) (pm_ki (fun v9 σ' cnt' hq => ?_))
      obtain ⟨I9, A9, rfl, rfl, h9⟩ := hq
      exact pm_iret hG hF dX11_voice_71 rfl (Nat.le_refl _) (Nat.le_refl _) ⟨_, rfl, _, _, rfl, rfl, h9⟩
    · refine pm_aloadn hG dX11_voice_23 rfl ?_
      refine pm_ldc hG dX11_voice_24 (ctX11_109 _ rfl) ?_
      refine pm_callV (As := [.int (-1000001)]) (rest := []) hG hR dX11_voice_26 (lkX11_97 _ rfl) okV_X11_told rfl rfl (sx_told (d := 10) (by decide) rfl rfl) rfl rfl hdd (Nat.le_refl _) (Nat.le_refl _) (by decide) (pm_ki (fun v10 σ' cnt' hq => ?_))
      obtain ⟨-, ⟨g10, hg10⟩, hc10⟩ := hq
      obtain ⟨I10, A10, rfl, rfl, h10⟩ := hv_a53 (kp := kp) (I := I4) (A := A4) h4 ⟨hg10, hc10⟩
      exact pm_iret hG hF dX11_voice_29 rfl (Nat.le_refl _) (Nat.le_refl _) ⟨_, rfl, _, _, rfl, rfl, h10⟩

set_option maxRecDepth 100000 in
set_option maxHeartbeats 4000000 in
theorem g_X5_before {ε : Nat → Int32} {d B cnt : Nat} {kp : Value} {ρ : pm_S} {I : Nat → Int32} {A : Nat → Nat → Int32} {za zb : Int32} (hdd : 1 ≤ d) (h : gq ε I) : pm_met mX5_before d 0 0 B [.int za, .int zb] cnt (pm_two (cl_L B kp I A) ρ) (pm_Qi (fun _ σ' cnt' => hvq ε B kp ρ cnt σ' cnt')) := by
  refine pm_enter 1 (by decide) (Nat.le_of_ble_eq_true rfl) rfl (fun G hG hR hF => ?_)
  refine pm_iloadn hG dX5_before_0 rfl ?_
  refine pm_if_ne (tgt := 8) hG dX5_before_1 rfl (fun c1 => ?_) (fun c1 => ?_)
  · refine pm_iloadn hG dX5_before_8 rfl ?_
    refine pm_iconst (v := 1) hG dX5_before_9 (by decide) ?_
    refine pm_iloadn hG dX5_before_10 rfl ?_
    refine pm_iconst (v := 1) hG dX5_before_11 (by decide) ?_
    refine pm_isub hG dX5_before_12 ?_
    refine pm_ishl hG dX5_before_13 ?_
    refine pm_iconst (v := (-1)) hG dX5_before_14 (by decide) ?_
    refine pm_ixor hG dX5_before_15 ?_
    refine pm_iand hG dX5_before_16 ?_
    refine pm_istoreXn (loc' := [some (.int za), some (.int zb), some (.int (za &&& ((1 <<< ((zb - 1) &&& 31)) ^^^ (-1))))]) hG dX5_before_17 (by decide) (pm_c1b rfl) rfl ?_
    refine pm_iloadn hG dX5_before_18 rfl ?_
    refine pm_bipush (v := 63) hG dX5_before_19 (by decide) ?_
    refine pm_iand hG dX5_before_21 ?_
    exact pm_iret hG hF dX5_before_22 rfl (Nat.le_refl _) (Nat.le_refl _) ⟨_, rfl, _, _, rfl, rfl, h⟩
  · refine pm_iloadn hG dX5_before_4 rfl ?_
    refine pm_goto (tgt := 17) hG dX5_before_5 rfl ?_
    refine pm_istoreXn (loc' := [some (.int za), some (.int zb), some (.int za)]) hG dX5_before_17 (by decide) (pm_c1b rfl) rfl ?_
    refine pm_iloadn hG dX5_before_18 rfl ?_
    refine pm_bipush (v := 63) hG dX5_before_19 (by decide) ?_
    refine pm_iand hG dX5_before_21 ?_
    exact pm_iret hG hF dX5_before_22 rfl (Nat.le_refl _) (Nat.le_refl _) ⟨_, rfl, _, _, rfl, rfl, h⟩
