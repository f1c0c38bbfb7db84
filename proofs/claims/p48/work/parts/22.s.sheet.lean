set_option maxRecDepth 100000 in
theorem sxe_has {d B cnt : Nat} {σ : pm_S} {x : Int32} : pm_met mX8_has d 0 0 B [.ref (B + 48), .int x] cnt σ (pm_Qi (fun v σ' cnt' => v = (if x < 0 ∨ 4 ≤ x then 0 else 1) ∧ σ' = σ ∧ cnt' = cnt)) := by
  refine pm_enter 0 (by decide) (Nat.le_of_ble_eq_true rfl) rfl (fun G hG hR hF => ?_)
  refine pm_iloadn hG dX8_has_0 rfl ?_
  refine pm_if_lt (tgt := 13) hG dX8_has_1 rfl (fun c1 => ?_) (fun c1 => ?_)
  · refine pm_iconst (v := 0) hG dX8_has_13 (by decide) ?_
    exact pm_zret hG hF dX8_has_14 rfl (by rfl) (by decide) (by decide) ⟨_, rfl, by simp [c1], rfl, rfl⟩
  · refine pm_iloadn hG dX8_has_4 rfl ?_
    refine pm_iconst (v := 4) hG dX8_has_5 (by decide) ?_
    refine pm_icmp_ge (tgt := 13) hG dX8_has_6 rfl (fun c2 => ?_) (fun c2 => ?_)
    · refine pm_iconst (v := 0) hG dX8_has_13 (by decide) ?_
      exact pm_zret hG hF dX8_has_14 rfl (by rfl) (by decide) (by decide) ⟨_, rfl, by simp [c1, c2], rfl, rfl⟩
    · refine pm_iconst (v := 1) hG dX8_has_9 (by decide) ?_
      refine pm_goto (tgt := 14) hG dX8_has_10 rfl ?_
      exact pm_zret hG hF dX8_has_14 rfl (by rfl) (by decide) (by decide) ⟨_, rfl, by simp [c1, c2], rfl, rfl⟩

set_option maxRecDepth 100000 in
theorem sxe_isWidth {d B cnt : Nat} {σ : pm_S} {x : Int32} : pm_met mX8_isWidth d 0 0 B [.ref (B + 48), .int x] cnt σ (pm_Qi (fun v σ' cnt' => v = (if x = 8 ∨ x = 16 ∨ x = 32 then 1 else 0) ∧ σ' = σ ∧ cnt' = cnt)) := by
  refine pm_enter 0 (by decide) (Nat.le_of_ble_eq_true rfl) rfl (fun G hG hR hF => ?_)
  refine pm_iloadn hG dX8_isWidth_0 rfl ?_
  refine pm_bipush (v := 8) hG dX8_isWidth_1 (by decide) ?_
  refine pm_icmp_eq (tgt := 18) hG dX8_isWidth_3 rfl (fun c1 => ?_) (fun c1 => ?_)
  · refine pm_iconst (v := 1) hG dX8_isWidth_18 (by decide) ?_
    refine pm_goto (tgt := 23) hG dX8_isWidth_19 rfl ?_
    exact pm_zret hG hF dX8_isWidth_23 rfl (by rfl) (by decide) (by decide) ⟨_, rfl, by simp [c1], rfl, rfl⟩
  · refine pm_iloadn hG dX8_isWidth_6 rfl ?_
    refine pm_bipush (v := 16) hG dX8_isWidth_7 (by decide) ?_
    refine pm_icmp_eq (tgt := 18) hG dX8_isWidth_9 rfl (fun c2 => ?_) (fun c2 => ?_)
    · refine pm_iconst (v := 1) hG dX8_isWidth_18 (by decide) ?_
      refine pm_goto (tgt := 23) hG dX8_isWidth_19 rfl ?_
      exact pm_zret hG hF dX8_isWidth_23 rfl (by rfl) (by decide) (by decide) ⟨_, rfl, by simp [c1, c2], rfl, rfl⟩
    · refine pm_iloadn hG dX8_isWidth_12 rfl ?_
      refine pm_bipush (v := 32) hG dX8_isWidth_13 (by decide) ?_
      refine pm_icmp_ne (tgt := 22) hG dX8_isWidth_15 rfl (fun c3 => ?_) (fun c3 => ?_)
      · refine pm_iconst (v := 0) hG dX8_isWidth_22 (by decide) ?_
        exact pm_zret hG hF dX8_isWidth_23 rfl (by rfl) (by decide) (by decide) ⟨_, rfl, by simp [c1, c2, c3], rfl, rfl⟩
      · refine pm_iconst (v := 1) hG dX8_isWidth_18 (by decide) ?_
        refine pm_goto (tgt := 23) hG dX8_isWidth_19 rfl ?_
        exact pm_zret hG hF dX8_isWidth_23 rfl (by rfl) (by decide) (by decide) ⟨_, rfl, by simp [c1, c2, c3], rfl, rfl⟩

set_option maxRecDepth 100000 in
set_option maxHeartbeats 4000000 in
theorem g_sheetE {d B cnt : Nat} {kp : Value} {ρ : pm_S} {I : Nat → Int32} {A : Nat → Nat → Int32} {za zb zc : Int32} (hdd : 2 ≤ d) (h : gs I) : pm_met mX11_sheet d 0 0 B [.ref (B + 0), .int za, .int zb, .int zc] cnt (pm_two (cl_L B kp I A) ρ) (pm_Qi (fun v σ' cnt' => v = vS za zb zc ∧ hvc B kp ρ cnt σ' cnt')) := by
  refine pm_enter 0 (by decide) (Nat.le_of_ble_eq_true rfl) rfl (fun G hG hR hF => ?_)
  refine pm_aloadn hG dX11_sheet_0 rfl ?_
  refine pm_getf hG dX11_sheet_1 (flX11_74 _ rfl) rfl rfl ?_
  refine pm_iloadn hG dX11_sheet_4 rfl ?_
  refine pm_callV (As := [.int za]) (rest := []) hG hR dX11_sheet_5 (lkX11_251 _ rfl) okV_X8_has rfl rfl (sxe_has (d := 1)) rfl rfl hdd (Nat.le_refl _) (Nat.le_refl _) (by decide) (pm_ki (fun v1 σ' cnt' hq => ?_))
  have o1 := hq.1
  obtain ⟨I1, A1, rfl, rfl, h1⟩ := hv_id (kp := kp) (I := I) (A := A) h hq.2
  rcases pm_hasS o1 with ⟨rfl, hS⟩ | ⟨rfl, hS⟩
  · refine pm_if_eq (tgt := 26) hG dX11_sheet_8 rfl (fun q => absurd q (by decide)) (fun _ => ?_)
    refine pm_iloadn hG dX11_sheet_11 rfl ?_
    refine pm_if_eq (tgt := 33) hG dX11_sheet_12 rfl (fun c2 => ?_) (fun c2 => ?_)
    · refine pm_iloadn hG dX11_sheet_33 rfl ?_
      refine pm_if_eq (tgt := 48) hG dX11_sheet_34 rfl (fun _ => ?_) (fun q => absurd c2 q)
      refine pm_iloadn hG dX11_sheet_48 rfl ?_
      refine pm_if_eq (tgt := 65) hG dX11_sheet_49 rfl (fun _ => ?_) (fun q => absurd c2 q)
      refine pm_aloadn hG dX11_sheet_65 rfl ?_
      refine pm_getf hG dX11_sheet_66 (flX11_74 _ rfl) rfl rfl ?_
      refine pm_iloadn hG dX11_sheet_69 rfl ?_
      refine pm_iloadn hG dX11_sheet_70 rfl ?_
      refine pm_iloadn hG dX11_sheet_71 rfl ?_
      refine pm_if_ne (tgt := 79) hG dX11_sheet_72 rfl (fun q => absurd c2 q) (fun _ => ?_)
      refine pm_iconst (v := 0) hG dX11_sheet_75 (by decide) ?_
      refine pm_goto (tgt := 80) hG dX11_sheet_76 rfl ?_
      refine pm_callV (As := [.int za, .int zb, .int 0]) (rest := []) hG hR dX11_sheet_80 (lkX11_364 _ rfl) okV_X8_layOut rfl rfl (g_X8_layOut (d := 1) (by decide) h1) rfl rfl hdd (Nat.le_refl _) (Nat.le_refl _) (by decide) (pm_kv (fun σ' cnt' hq => ?_))
      obtain ⟨I3, A3, rfl, rfl, h3⟩ := hq
      refine pm_iconst (v := 1) hG dX11_sheet_83 (by decide) ?_
      exact pm_iret hG hF dX11_sheet_84 rfl (Nat.le_refl _) (Nat.le_refl _) ⟨_, rfl, (vS_f hS c2).symm, _, _, rfl, rfl, h3⟩
    · refine pm_aloadn hG dX11_sheet_15 rfl ?_
      refine pm_getf hG dX11_sheet_16 (flX11_74 _ rfl) rfl rfl ?_
      refine pm_iloadn hG dX11_sheet_19 rfl ?_
      refine pm_callV (As := [.int zb]) (rest := []) hG hR dX11_sheet_20 (lkX11_252 _ rfl) okV_X8_isWidth rfl rfl (sxe_isWidth (d := 1)) rfl rfl hdd (Nat.le_refl _) (Nat.le_refl _) (by decide) (pm_ki (fun v4 σ' cnt' hq => ?_))
      have o4 := hq.1
      obtain ⟨I4, A4, rfl, rfl, h4⟩ := hv_id (kp := kp) (I := I1) (A := A1) h1 hq.2
      rcases pm_widS o4 with ⟨rfl, hW⟩ | ⟨rfl, hW⟩
      · refine pm_if_ne (tgt := 33) hG dX11_sheet_23 rfl (fun _ => ?_) (fun q => absurd q (by decide))
        refine pm_iloadn hG dX11_sheet_33 rfl ?_
        refine pm_if_eq (tgt := 48) hG dX11_sheet_34 rfl (fun q => absurd q c2) (fun _ => ?_)
        refine pm_iloadn hG dX11_sheet_37 rfl ?_
        refine pm_if_ge (tgt := 48) hG dX11_sheet_38 rfl (fun c5 => ?_) (fun c5 => ?_)
        · refine pm_iloadn hG dX11_sheet_48 rfl ?_
          refine pm_if_eq (tgt := 65) hG dX11_sheet_49 rfl (fun q => absurd q c2) (fun _ => ?_)
          refine pm_iloadn hG dX11_sheet_52 rfl ?_
          refine pm_bipush (v := 24) hG dX11_sheet_53 (by decide) ?_
          refine pm_icmp_le (tgt := 65) hG dX11_sheet_55 rfl (fun c6 => ?_) (fun c6 => ?_)
          · refine pm_aloadn hG dX11_sheet_65 rfl ?_
            refine pm_getf hG dX11_sheet_66 (flX11_74 _ rfl) rfl rfl ?_
            refine pm_iloadn hG dX11_sheet_69 rfl ?_
            refine pm_iloadn hG dX11_sheet_70 rfl ?_
            refine pm_iloadn hG dX11_sheet_71 rfl ?_
            refine pm_if_ne (tgt := 79) hG dX11_sheet_72 rfl (fun _ => ?_) (fun q => absurd q c2)
            refine pm_iloadn hG dX11_sheet_79 rfl ?_
            refine pm_callV (As := [.int za, .int zb, .int zc]) (rest := []) hG hR dX11_sheet_80 (lkX11_364 _ rfl) okV_X8_layOut rfl rfl (g_X8_layOut (d := 1) (by decide) h4) rfl rfl hdd (Nat.le_refl _) (Nat.le_refl _) (by decide) (pm_kv (fun σ' cnt' hq => ?_))
            obtain ⟨I7, A7, rfl, rfl, h7⟩ := hq
            refine pm_iconst (v := 1) hG dX11_sheet_83 (by decide) ?_
            exact pm_iret hG hF dX11_sheet_84 rfl (Nat.le_refl _) (Nat.le_refl _) ⟨_, rfl, (vS_e hS hW (Int32.not_lt.mpr c5) (Int32.not_lt.mpr c6)).symm, _, _, rfl, rfl, h7⟩
          · refine pm_aloadn hG dX11_sheet_58 rfl ?_
            refine pm_ldc hG dX11_sheet_59 (ctX11_109 _ rfl) ?_
            refine pm_callV (As := [.int (-1000001)]) (rest := []) hG hR dX11_sheet_61 (lkX11_97 _ rfl) okV_X11_told rfl rfl (sx_told (d := 1) (by decide) rfl rfl) rfl rfl hdd (Nat.le_refl _) (Nat.le_refl _) (by decide) (pm_ki (fun v8 σ' cnt' hq => ?_))
            obtain ⟨ev8, ⟨g8, hg8⟩, hc8⟩ := hq
            obtain ⟨I8, A8, rfl, rfl, h8⟩ := hv_a53 (kp := kp) (I := I4) (A := A4) h4 ⟨hg8, hc8⟩
            exact pm_iret hG hF dX11_sheet_64 rfl (Nat.le_refl _) (Nat.le_refl _) ⟨_, rfl, ev8.trans (vS_d hS hW c2 (Int32.not_lt.mpr c5) (Int32.not_le.mp c6)).symm, _, _, rfl, rfl, h8⟩
        · refine pm_aloadn hG dX11_sheet_41 rfl ?_
          refine pm_ldc hG dX11_sheet_42 (ctX11_138 _ rfl) ?_
          refine pm_callV (As := [.int (-1000003)]) (rest := []) hG hR dX11_sheet_44 (lkX11_97 _ rfl) okV_X11_told rfl rfl (sx_told (d := 1) (by decide) rfl rfl) rfl rfl hdd (Nat.le_refl _) (Nat.le_refl _) (by decide) (pm_ki (fun v9 σ' cnt' hq => ?_))
          obtain ⟨ev9, ⟨g9, hg9⟩, hc9⟩ := hq
          obtain ⟨I9, A9, rfl, rfl, h9⟩ := hv_a53 (kp := kp) (I := I4) (A := A4) h4 ⟨hg9, hc9⟩
          exact pm_iret hG hF dX11_sheet_47 rfl (Nat.le_refl _) (Nat.le_refl _) ⟨_, rfl, ev9.trans (vS_c hS hW c2 (Int32.not_le.mp c5)).symm, _, _, rfl, rfl, h9⟩
      · refine pm_if_ne (tgt := 33) hG dX11_sheet_23 rfl (fun q => absurd q (by decide)) (fun _ => ?_)
        refine pm_aloadn hG dX11_sheet_26 rfl ?_
        refine pm_ldc hG dX11_sheet_27 (ctX11_109 _ rfl) ?_
        refine pm_callV (As := [.int (-1000001)]) (rest := []) hG hR dX11_sheet_29 (lkX11_97 _ rfl) okV_X11_told rfl rfl (sx_told (d := 1) (by decide) rfl rfl) rfl rfl hdd (Nat.le_refl _) (Nat.le_refl _) (by decide) (pm_ki (fun v10 σ' cnt' hq => ?_))
        obtain ⟨ev10, ⟨g10, hg10⟩, hc10⟩ := hq
        obtain ⟨I10, A10, rfl, rfl, h10⟩ := hv_a53 (kp := kp) (I := I4) (A := A4) h4 ⟨hg10, hc10⟩
        exact pm_iret hG hF dX11_sheet_32 rfl (Nat.le_refl _) (Nat.le_refl _) ⟨_, rfl, ev10.trans (vS_b c2 hW).symm, _, _, rfl, rfl, h10⟩
  · refine pm_if_eq (tgt := 26) hG dX11_sheet_8 rfl (fun _ => ?_) (fun q => absurd q (by decide))
    refine pm_aloadn hG dX11_sheet_26 rfl ?_
    refine pm_ldc hG dX11_sheet_27 (ctX11_109 _ rfl) ?_
    refine pm_callV (As := [.int (-1000001)]) (rest := []) hG hR dX11_sheet_29 (lkX11_97 _ rfl) okV_X11_told rfl rfl (sx_told (d := 1) (by decide) rfl rfl) rfl rfl hdd (Nat.le_refl _) (Nat.le_refl _) (by decide) (pm_ki (fun v11 σ' cnt' hq => ?_))
    obtain ⟨ev11, ⟨g11, hg11⟩, hc11⟩ := hq
    obtain ⟨I11, A11, rfl, rfl, h11⟩ := hv_a53 (kp := kp) (I := I1) (A := A1) h1 ⟨hg11, hc11⟩
    exact pm_iret hG hF dX11_sheet_32 rfl (Nat.le_refl _) (Nat.le_refl _) ⟨_, rfl, ev11.trans (vS_a hS).symm, _, _, rfl, rfl, h11⟩
