set_option maxRecDepth 100000 in
set_option maxHeartbeats 8000000 in
theorem oc_road {B : Nat} {fw : Nat → Int32} {R : List pm_C} {za zb zc : Int32} {d : Nat} (hdd : 2 ≤ d) : pm_met mX11_road d 0 0 B [.ref (B + 0), .int za, .int zb, .int zc] 74 (pm_cat (pm_ofL (l_k_class B fw)) 54 R) (pm_Qi (fun v σ' cnt' => v = v_road za zb zc ∧ pm_lies σ' 54 R ∧ cnt' = 74)) := by
  refine pm_enter 0 (by decide) (Nat.le_of_ble_eq_true rfl) rfl (fun G hG hR hF => ?_)
  refine pm_aloadn hG dX11_road_0 rfl ?_
  refine pm_getf hG dX11_road_1 (flX11_12 _ rfl) rfl rfl ?_
  refine pm_getf hG dX11_road_4 (flX11_82 _ rfl) rfl rfl ?_
  refine pm_iloadn hG dX11_road_7 rfl ?_
  refine pm_callV (As := [.int za]) (rest := []) hG hR dX11_road_8 (lkX11_101 _ rfl) okV_X9_has rfl rfl (tb_has (d := 1) rfl) rfl rfl hdd (by decide) (by decide) (by decide) (pm_ki (fun v σ' cnt' hq => ?_))
  obtain ⟨rfl, rfl, rfl⟩ := hq
  refine pm_top (v := 0) (pm_has0 _) ?_
  refine pm_if_eq (tgt := 43) hG dX11_road_11 rfl (fun _ => ?_) (fun q => absurd q (by decide))
  refine pm_aloadn hG dX11_road_43 rfl ?_
  refine pm_ldc hG dX11_road_44 (ctX11_109 _ rfl) ?_
  refine pm_callV (As := [.int (-1000001)]) (rest := []) hG hR dX11_road_46 (lkX11_97 _ rfl) okV_X11_told rfl rfl (sx_told (d := 1) (by decide) rfl rfl) rfl rfl hdd (by decide) (by decide) (by decide) (pm_ki (fun v σ' cnt' hq => ?_))
  obtain ⟨rfl, ⟨g, rfl⟩, rfl⟩ := hq
  exact pm_iret hG hF dX11_road_49 rfl (by decide) (by decide) ⟨_, rfl, (by clear hF hR hG; first | rfl | (unfold v_road; (repeat' split) <;> first | rfl | (exfalso; simp only [Int32.lt_iff_toInt_lt, Int32.le_iff_toInt_le, ← Int32.toInt_inj, Int32.toInt_zero, L_m1000001] at *; omega) | (apply Int32.toInt_inj.mp; simp only [Int32.lt_iff_toInt_lt, Int32.le_iff_toInt_le, ← Int32.toInt_inj, Int32.toInt_zero, L_m1000001] at *; omega))), (by repeat (first | exact pm_lies_cat | refine pm_lies.up0 (by decide) ?_)), rfl⟩

set_option maxRecDepth 100000 in
set_option maxHeartbeats 8000000 in
theorem oc_far {B : Nat} {fw : Nat → Int32} {R : List pm_C} {za zb : Int32} {d : Nat} (hdd : 2 ≤ d) : pm_met mX11_far d 0 0 B [.ref (B + 0), .int za, .int zb] 74 (pm_cat (pm_ofL (l_k_class B fw)) 54 R) (pm_Qi (fun v σ' cnt' => v = v_far za zb ∧ pm_lies σ' 54 R ∧ cnt' = 74)) := by
  refine pm_enter 0 (by decide) (Nat.le_of_ble_eq_true rfl) rfl (fun G hG hR hF => ?_)
  refine pm_aloadn hG dX11_far_0 rfl ?_
  refine pm_getf hG dX11_far_1 (flX11_12 _ rfl) rfl rfl ?_
  refine pm_getf hG dX11_far_4 (flX11_82 _ rfl) rfl rfl ?_
  refine pm_iloadn hG dX11_far_7 rfl ?_
  refine pm_callV (As := [.int za]) (rest := []) hG hR dX11_far_8 (lkX11_101 _ rfl) okV_X9_has rfl rfl (tb_has (d := 1) rfl) rfl rfl hdd (by decide) (by decide) (by decide) (pm_ki (fun v σ' cnt' hq => ?_))
  obtain ⟨rfl, rfl, rfl⟩ := hq
  refine pm_top (v := 0) (pm_has0 _) ?_
  refine pm_if_eq (tgt := 28) hG dX11_far_11 rfl (fun _ => ?_) (fun q => absurd q (by decide))
  refine pm_aloadn hG dX11_far_28 rfl ?_
  refine pm_ldc hG dX11_far_29 (ctX11_109 _ rfl) ?_
  refine pm_callV (As := [.int (-1000001)]) (rest := []) hG hR dX11_far_31 (lkX11_97 _ rfl) okV_X11_told rfl rfl (sx_told (d := 1) (by decide) rfl rfl) rfl rfl hdd (by decide) (by decide) (by decide) (pm_ki (fun v σ' cnt' hq => ?_))
  obtain ⟨rfl, ⟨g, rfl⟩, rfl⟩ := hq
  exact pm_iret hG hF dX11_far_34 rfl (by decide) (by decide) ⟨_, rfl, (by clear hF hR hG; first | rfl | (unfold v_far; (repeat' split) <;> first | rfl | (exfalso; simp only [Int32.lt_iff_toInt_lt, Int32.le_iff_toInt_le, ← Int32.toInt_inj, Int32.toInt_zero, L_m1000001] at *; omega) | (apply Int32.toInt_inj.mp; simp only [Int32.lt_iff_toInt_lt, Int32.le_iff_toInt_le, ← Int32.toInt_inj, Int32.toInt_zero, L_m1000001] at *; omega))), (by repeat (first | exact pm_lies_cat | refine pm_lies.up0 (by decide) ?_)), rfl⟩

set_option maxRecDepth 100000 in
set_option maxHeartbeats 8000000 in
theorem oc_person {B : Nat} {fw : Nat → Int32} {R : List pm_C} {za zb zc zd : Int32} {d : Nat} (hdd : 2 ≤ d) : pm_met mX11_person d 0 0 B [.ref (B + 0), .int za, .int zb, .int zc, .int zd] 74 (pm_cat (pm_ofL (l_k_class B fw)) 54 R) (pm_Qi (fun v σ' cnt' => v = v_person za zb zc zd ∧ pm_lies σ' 54 R ∧ cnt' = 74)) := by
  refine pm_enter 2 (by decide) (Nat.le_of_ble_eq_true rfl) rfl (fun G hG hR hF => ?_)
  refine pm_iloadn hG dX11_person_0 rfl ?_
  refine pm_bipush (v := 100) hG dX11_person_1 (by decide) ?_
  refine pm_idiv hG dX11_person_3 (by decide) ?_
  refine pm_iconst (v := 1) hG dX11_person_4 (by decide) ?_
  refine pm_isub hG dX11_person_5 ?_
  refine pm_istoreXi (loc' := [some (.ref (B + 0)), some (.int za), some (.int zb), some (.int zc), some (.int zd), some (.int ((zc / 100) - 1)), none]) hG dX11_person_6 (by decide) (pm_c1b rfl) rfl ?_
  refine pm_iloadn hG dX11_person_8 rfl ?_
  refine pm_bipush (v := 100) hG dX11_person_9 (by decide) ?_
  refine pm_irem hG dX11_person_11 (by decide) ?_
  refine pm_iconst (v := 1) hG dX11_person_12 (by decide) ?_
  refine pm_isub hG dX11_person_13 ?_
  refine pm_istoreXi (loc' := [some (.ref (B + 0)), some (.int za), some (.int zb), some (.int zc), some (.int zd), some (.int ((zc / 100) - 1)), some (.int ((zc - zc / 100 * 100) - 1))]) hG dX11_person_14 (by decide) (pm_c1b rfl) rfl ?_
  refine pm_iloadn hG dX11_person_16 rfl ?_
  refine pm_iconst (v := 0) hG dX11_person_17 (by decide) ?_
  refine pm_iconst (v := 1) hG dX11_person_18 (by decide) ?_
  refine pm_callS (As := [.int za, .int 0, .int 1]) (rest := []) hG hR dX11_person_19 (lkX11_105 _ rfl) okS_X11_isOutside (sx_isOutside (d := 1)) rfl rfl hdd (by decide) (by decide) (by decide) (pm_ki (fun v σ' cnt' hq => ?_))
  obtain ⟨rfl, rfl, rfl⟩ := hq
  by_cases c1 : za < 0 ∨ 1 < za
  · refine pm_top (v := 1) (if_pos c1) ?_
    refine pm_if_ne (tgt := 89) hG dX11_person_22 rfl (fun _ => ?_) (fun q => absurd q (by decide))
    refine pm_aloadn hG dX11_person_89 rfl ?_
    refine pm_ldc hG dX11_person_90 (ctX11_109 _ rfl) ?_
    refine pm_callV (As := [.int (-1000001)]) (rest := []) hG hR dX11_person_92 (lkX11_97 _ rfl) okV_X11_told rfl rfl (sx_told (d := 1) (by decide) rfl rfl) rfl rfl hdd (by decide) (by decide) (by decide) (pm_ki (fun v σ' cnt' hq => ?_))
    obtain ⟨rfl, ⟨g, rfl⟩, rfl⟩ := hq
    exact pm_iret hG hF dX11_person_95 rfl (by decide) (by decide) ⟨_, rfl, (by clear hF hR hG; first | rfl | (unfold v_person; (repeat' split) <;> first | rfl | (exfalso; simp only [Int32.lt_iff_toInt_lt, Int32.le_iff_toInt_le, ← Int32.toInt_inj, Int32.toInt_zero, L_1, L_m1000001] at *; omega) | (apply Int32.toInt_inj.mp; simp only [Int32.lt_iff_toInt_lt, Int32.le_iff_toInt_le, ← Int32.toInt_inj, Int32.toInt_zero, L_1, L_m1000001] at *; omega))), (by repeat (first | exact pm_lies_cat | refine pm_lies.up0 (by decide) ?_)), rfl⟩
  · refine pm_top (v := 0) (if_neg c1) ?_
    refine pm_if_ne (tgt := 89) hG dX11_person_22 rfl (fun q => absurd q (by decide)) (fun _ => ?_)
    refine pm_iloadn hG dX11_person_25 rfl ?_
    refine pm_sipush (v := (-20000)) hG dX11_person_26 (by decide) ?_
    refine pm_aloadn hG dX11_person_29 rfl ?_
    refine pm_getf hG dX11_person_30 (flX11_12 _ rfl) rfl rfl ?_
    refine pm_getf hG dX11_person_33 (flX11_122 _ rfl) rfl rfl ?_
    refine pm_callS (As := [.int zb, .int (-20000), .int 0]) (rest := []) hG hR dX11_person_36 (lkX11_105 _ rfl) okS_X11_isOutside (sx_isOutside (d := 1)) rfl rfl hdd (by decide) (by decide) (by decide) (pm_ki (fun v σ' cnt' hq => ?_))
    obtain ⟨rfl, rfl, rfl⟩ := hq
    by_cases c2 : zb < (-20000) ∨ 0 < zb
    · refine pm_top (v := 1) (if_pos c2) ?_
      refine pm_if_ne (tgt := 89) hG dX11_person_39 rfl (fun _ => ?_) (fun q => absurd q (by decide))
      refine pm_aloadn hG dX11_person_89 rfl ?_
      refine pm_ldc hG dX11_person_90 (ctX11_109 _ rfl) ?_
      refine pm_callV (As := [.int (-1000001)]) (rest := []) hG hR dX11_person_92 (lkX11_97 _ rfl) okV_X11_told rfl rfl (sx_told (d := 1) (by decide) rfl rfl) rfl rfl hdd (by decide) (by decide) (by decide) (pm_ki (fun v σ' cnt' hq => ?_))
      obtain ⟨rfl, ⟨g, rfl⟩, rfl⟩ := hq
      exact pm_iret hG hF dX11_person_95 rfl (by decide) (by decide) ⟨_, rfl, (by clear hF hR hG; first | rfl | (unfold v_person; (repeat' split) <;> first | rfl | (exfalso; simp only [Int32.lt_iff_toInt_lt, Int32.le_iff_toInt_le, ← Int32.toInt_inj, Int32.toInt_zero, L_1, L_m1000001, L_m20000] at *; omega) | (apply Int32.toInt_inj.mp; simp only [Int32.lt_iff_toInt_lt, Int32.le_iff_toInt_le, ← Int32.toInt_inj, Int32.toInt_zero, L_1, L_m1000001, L_m20000] at *; omega))), (by repeat (first | exact pm_lies_cat | refine pm_lies.up0 (by decide) ?_)), rfl⟩
    · refine pm_top (v := 0) (if_neg c2) ?_
      refine pm_if_ne (tgt := 89) hG dX11_person_39 rfl (fun q => absurd q (by decide)) (fun _ => ?_)
      refine pm_iloadn hG dX11_person_42 rfl ?_
      refine pm_if_lt (tgt := 89) hG dX11_person_43 rfl (fun c3 => ?_) (fun c3 => ?_)
      · refine pm_aloadn hG dX11_person_89 rfl ?_
        refine pm_ldc hG dX11_person_90 (ctX11_109 _ rfl) ?_
        refine pm_callV (As := [.int (-1000001)]) (rest := []) hG hR dX11_person_92 (lkX11_97 _ rfl) okV_X11_told rfl rfl (sx_told (d := 1) (by decide) rfl rfl) rfl rfl hdd (by decide) (by decide) (by decide) (pm_ki (fun v σ' cnt' hq => ?_))
        obtain ⟨rfl, ⟨g, rfl⟩, rfl⟩ := hq
        exact pm_iret hG hF dX11_person_95 rfl (by decide) (by decide) ⟨_, rfl, (by clear hF hR hG; first | rfl | (unfold v_person; (repeat' split) <;> first | rfl | (exfalso; simp only [Int32.lt_iff_toInt_lt, Int32.le_iff_toInt_le, ← Int32.toInt_inj, Int32.toInt_zero, L_1, L_m1000001, L_m20000] at *; omega) | (apply Int32.toInt_inj.mp; simp only [Int32.lt_iff_toInt_lt, Int32.le_iff_toInt_le, ← Int32.toInt_inj, Int32.toInt_zero, L_1, L_m1000001, L_m20000] at *; omega))), (by repeat (first | exact pm_lies_cat | refine pm_lies.up0 (by decide) ?_)), rfl⟩
      · refine pm_aloadn hG dX11_person_46 rfl ?_
        refine pm_getf hG dX11_person_47 (flX11_12 _ rfl) rfl rfl ?_
        refine pm_getf hG dX11_person_50 (flX11_82 _ rfl) rfl rfl ?_
        refine pm_iloadi hG dX11_person_53 rfl ?_
        refine pm_callV (As := [.int zd]) (rest := []) hG hR dX11_person_55 (lkX11_101 _ rfl) okV_X9_has rfl rfl (tb_has (d := 1) rfl) rfl rfl hdd (by decide) (by decide) (by decide) (pm_ki (fun v σ' cnt' hq => ?_))
        obtain ⟨rfl, rfl, rfl⟩ := hq
        refine pm_top (v := 0) (pm_has0 _) ?_
        refine pm_if_eq (tgt := 89) hG dX11_person_58 rfl (fun _ => ?_) (fun q => absurd q (by decide))
        refine pm_aloadn hG dX11_person_89 rfl ?_
        refine pm_ldc hG dX11_person_90 (ctX11_109 _ rfl) ?_
        refine pm_callV (As := [.int (-1000001)]) (rest := []) hG hR dX11_person_92 (lkX11_97 _ rfl) okV_X11_told rfl rfl (sx_told (d := 1) (by decide) rfl rfl) rfl rfl hdd (by decide) (by decide) (by decide) (pm_ki (fun v σ' cnt' hq => ?_))
        obtain ⟨rfl, ⟨g, rfl⟩, rfl⟩ := hq
        exact pm_iret hG hF dX11_person_95 rfl (by decide) (by decide) ⟨_, rfl, (by clear hF hR hG; first | rfl | (unfold v_person; (repeat' split) <;> first | rfl | (exfalso; simp only [Int32.lt_iff_toInt_lt, Int32.le_iff_toInt_le, ← Int32.toInt_inj, Int32.toInt_zero, L_1, L_m1000001, L_m20000] at *; omega) | (apply Int32.toInt_inj.mp; simp only [Int32.lt_iff_toInt_lt, Int32.le_iff_toInt_le, ← Int32.toInt_inj, Int32.toInt_zero, L_1, L_m1000001, L_m20000] at *; omega))), (by repeat (first | exact pm_lies_cat | refine pm_lies.up0 (by decide) ?_)), rfl⟩

set_option maxRecDepth 100000 in
set_option maxHeartbeats 8000000 in
theorem oc_die {B : Nat} {fw : Nat → Int32} {R : List pm_C} {za : Int32} {d : Nat} (hdd : 2 ≤ d) : pm_met mX11_die d 0 0 B [.ref (B + 0), .int za] 74 (pm_cat (pm_ofL (l_k_class B fw)) 54 R) (pm_Qi (fun v σ' cnt' => v = v_die za ∧ pm_lies σ' 54 R ∧ cnt' = 74)) := by
  refine pm_enter 0 (by decide) (Nat.le_of_ble_eq_true rfl) rfl (fun G hG hR hF => ?_)
  refine pm_aloadn hG dX11_die_0 rfl ?_
  refine pm_getf hG dX11_die_1 (flX11_12 _ rfl) rfl rfl ?_
  refine pm_getf hG dX11_die_4 (flX11_128 _ rfl) rfl rfl ?_
  refine pm_iloadn hG dX11_die_7 rfl ?_
  refine pm_callV (As := [.int za]) (rest := []) hG hR dX11_die_8 (lkX11_101 _ rfl) okV_X9_has rfl rfl (tb_has (d := 1) rfl) rfl rfl hdd (by decide) (by decide) (by decide) (pm_ki (fun v σ' cnt' hq => ?_))
  obtain ⟨rfl, rfl, rfl⟩ := hq
  refine pm_top (v := 0) (pm_has0 _) ?_
  refine pm_if_ne (tgt := 21) hG dX11_die_11 rfl (fun q => absurd q (by decide)) (fun _ => ?_)
  refine pm_aloadn hG dX11_die_14 rfl ?_
  refine pm_ldc hG dX11_die_15 (ctX11_109 _ rfl) ?_
  refine pm_callV (As := [.int (-1000001)]) (rest := []) hG hR dX11_die_17 (lkX11_97 _ rfl) okV_X11_told rfl rfl (sx_told (d := 1) (by decide) rfl rfl) rfl rfl hdd (by decide) (by decide) (by decide) (pm_ki (fun v σ' cnt' hq => ?_))
  obtain ⟨rfl, ⟨g, rfl⟩, rfl⟩ := hq
  exact pm_iret hG hF dX11_die_20 rfl (by decide) (by decide) ⟨_, rfl, (by clear hF hR hG; first | rfl | (unfold v_die; (repeat' split) <;> first | rfl | (exfalso; simp only [Int32.lt_iff_toInt_lt, Int32.le_iff_toInt_le, ← Int32.toInt_inj, Int32.toInt_zero, L_m1000001] at *; omega) | (apply Int32.toInt_inj.mp; simp only [Int32.lt_iff_toInt_lt, Int32.le_iff_toInt_le, ← Int32.toInt_inj, Int32.toInt_zero, L_m1000001] at *; omega))), (by repeat (first | exact pm_lies_cat | refine pm_lies.up0 (by decide) ?_)), rfl⟩

set_option maxRecDepth 100000 in
set_option maxHeartbeats 8000000 in
theorem oc_go {B : Nat} {fw : Nat → Int32} {R : List pm_C} {za zb : Int32} {d : Nat} (hdd : 2 ≤ d) : pm_met mX11_go d 0 0 B [.ref (B + 0), .int za, .int zb] 74 (pm_cat (pm_ofL (l_k_class B fw)) 54 R) (pm_Qi (fun v σ' cnt' => v = v_go za zb ∧ pm_lies σ' 54 R ∧ cnt' = 74)) := by
  refine pm_enter 0 (by decide) (Nat.le_of_ble_eq_true rfl) rfl (fun G hG hR hF => ?_)
  refine pm_aloadn hG dX11_go_0 rfl ?_
  refine pm_getf hG dX11_go_1 (flX11_12 _ rfl) rfl rfl ?_
  refine pm_getf hG dX11_go_4 (flX11_128 _ rfl) rfl rfl ?_
  refine pm_iloadn hG dX11_go_7 rfl ?_
  refine pm_callV (As := [.int za]) (rest := []) hG hR dX11_go_8 (lkX11_101 _ rfl) okV_X9_has rfl rfl (tb_has (d := 1) rfl) rfl rfl hdd (by decide) (by decide) (by decide) (pm_ki (fun v σ' cnt' hq => ?_))
  obtain ⟨rfl, rfl, rfl⟩ := hq
  refine pm_top (v := 0) (pm_has0 _) ?_
  refine pm_if_eq (tgt := 28) hG dX11_go_11 rfl (fun _ => ?_) (fun q => absurd q (by decide))
  refine pm_aloadn hG dX11_go_28 rfl ?_
  refine pm_ldc hG dX11_go_29 (ctX11_109 _ rfl) ?_
  refine pm_callV (As := [.int (-1000001)]) (rest := []) hG hR dX11_go_31 (lkX11_97 _ rfl) okV_X11_told rfl rfl (sx_told (d := 1) (by decide) rfl rfl) rfl rfl hdd (by decide) (by decide) (by decide) (pm_ki (fun v σ' cnt' hq => ?_))
  obtain ⟨rfl, ⟨g, rfl⟩, rfl⟩ := hq
  exact pm_iret hG hF dX11_go_34 rfl (by decide) (by decide) ⟨_, rfl, (by clear hF hR hG; first | rfl | (unfold v_go; (repeat' split) <;> first | rfl | (exfalso; simp only [Int32.lt_iff_toInt_lt, Int32.le_iff_toInt_le, ← Int32.toInt_inj, Int32.toInt_zero, L_m1000001] at *; omega) | (apply Int32.toInt_inj.mp; simp only [Int32.lt_iff_toInt_lt, Int32.le_iff_toInt_le, ← Int32.toInt_inj, Int32.toInt_zero, L_m1000001] at *; omega))), (by repeat (first | exact pm_lies_cat | refine pm_lies.up0 (by decide) ?_)), rfl⟩

set_option maxRecDepth 100000 in
set_option maxHeartbeats 8000000 in
theorem oc_about {B : Nat} {fw : Nat → Int32} {R : List pm_C} {za zb : Int32} {d : Nat} (hdd : 2 ≤ d) : pm_met mX11_about d 0 0 B [.ref (B + 0), .int za, .int zb] 74 (pm_cat (pm_ofL (l_k_class B fw)) 54 R) (pm_Qi (fun v σ' cnt' => v = v_about za zb ∧ pm_lies σ' 54 R ∧ cnt' = 74)) := by
  refine pm_enter 0 (by decide) (Nat.le_of_ble_eq_true rfl) rfl (fun G hG hR hF => ?_)
  refine pm_aloadn hG dX11_about_0 rfl ?_
  refine pm_getf hG dX11_about_1 (flX11_12 _ rfl) rfl rfl ?_
  refine pm_getf hG dX11_about_4 (flX11_128 _ rfl) rfl rfl ?_
  refine pm_iloadn hG dX11_about_7 rfl ?_
  refine pm_callV (As := [.int za]) (rest := []) hG hR dX11_about_8 (lkX11_101 _ rfl) okV_X9_has rfl rfl (tb_has (d := 1) rfl) rfl rfl hdd (by decide) (by decide) (by decide) (pm_ki (fun v σ' cnt' hq => ?_))
  obtain ⟨rfl, rfl, rfl⟩ := hq
  refine pm_top (v := 0) (pm_has0 _) ?_
  refine pm_if_ne (tgt := 21) hG dX11_about_11 rfl (fun q => absurd q (by decide)) (fun _ => ?_)
  refine pm_aloadn hG dX11_about_14 rfl ?_
  refine pm_ldc hG dX11_about_15 (ctX11_109 _ rfl) ?_
  refine pm_callV (As := [.int (-1000001)]) (rest := []) hG hR dX11_about_17 (lkX11_97 _ rfl) okV_X11_told rfl rfl (sx_told (d := 1) (by decide) rfl rfl) rfl rfl hdd (by decide) (by decide) (by decide) (pm_ki (fun v σ' cnt' hq => ?_))
  obtain ⟨rfl, ⟨g, rfl⟩, rfl⟩ := hq
  exact pm_iret hG hF dX11_about_20 rfl (by decide) (by decide) ⟨_, rfl, (by clear hF hR hG; first | rfl | (unfold v_about; (repeat' split) <;> first | rfl | (exfalso; simp only [Int32.lt_iff_toInt_lt, Int32.le_iff_toInt_le, ← Int32.toInt_inj, Int32.toInt_zero, L_m1000001] at *; omega) | (apply Int32.toInt_inj.mp; simp only [Int32.lt_iff_toInt_lt, Int32.le_iff_toInt_le, ← Int32.toInt_inj, Int32.toInt_zero, L_m1000001] at *; omega))), (by repeat (first | exact pm_lies_cat | refine pm_lies.up0 (by decide) ?_)), rfl⟩

set_option maxRecDepth 100000 in
set_option maxHeartbeats 8000000 in
theorem oc_pay {B : Nat} {fw : Nat → Int32} {R : List pm_C} {za zb : Int32} {d : Nat} (hdd : 2 ≤ d) : pm_met mX11_pay d 0 0 B [.ref (B + 0), .int za, .int zb] 74 (pm_cat (pm_ofL (l_k_class B fw)) 54 R) (pm_Qi (fun v σ' cnt' => v = v_pay za zb ∧ pm_lies σ' 54 R ∧ cnt' = 74)) := by
  refine pm_enter 0 (by decide) (Nat.le_of_ble_eq_true rfl) rfl (fun G hG hR hF => ?_)
  refine pm_aloadn hG dX11_pay_0 rfl ?_
  refine pm_getf hG dX11_pay_1 (flX11_12 _ rfl) rfl rfl ?_
  refine pm_getf hG dX11_pay_4 (flX11_128 _ rfl) rfl rfl ?_
  refine pm_iloadn hG dX11_pay_7 rfl ?_
  refine pm_callV (As := [.int za]) (rest := []) hG hR dX11_pay_8 (lkX11_101 _ rfl) okV_X9_has rfl rfl (tb_has (d := 1) rfl) rfl rfl hdd (by decide) (by decide) (by decide) (pm_ki (fun v σ' cnt' hq => ?_))
  obtain ⟨rfl, rfl, rfl⟩ := hq
  refine pm_top (v := 0) (pm_has0 _) ?_
  refine pm_if_eq (tgt := 25) hG dX11_pay_11 rfl (fun _ => ?_) (fun q => absurd q (by decide))
  refine pm_aloadn hG dX11_pay_25 rfl ?_
  refine pm_ldc hG dX11_pay_26 (ctX11_109 _ rfl) ?_
  refine pm_callV (As := [.int (-1000001)]) (rest := []) hG hR dX11_pay_28 (lkX11_97 _ rfl) okV_X11_told rfl rfl (sx_told (d := 1) (by decide) rfl rfl) rfl rfl hdd (by decide) (by decide) (by decide) (pm_ki (fun v σ' cnt' hq => ?_))
  obtain ⟨rfl, ⟨g, rfl⟩, rfl⟩ := hq
  exact pm_iret hG hF dX11_pay_31 rfl (by decide) (by decide) ⟨_, rfl, (by clear hF hR hG; first | rfl | (unfold v_pay; (repeat' split) <;> first | rfl | (exfalso; simp only [Int32.lt_iff_toInt_lt, Int32.le_iff_toInt_le, ← Int32.toInt_inj, Int32.toInt_zero, L_m1000001] at *; omega) | (apply Int32.toInt_inj.mp; simp only [Int32.lt_iff_toInt_lt, Int32.le_iff_toInt_le, ← Int32.toInt_inj, Int32.toInt_zero, L_m1000001] at *; omega))), (by repeat (first | exact pm_lies_cat | refine pm_lies.up0 (by decide) ?_)), rfl⟩

set_option maxRecDepth 100000 in
set_option maxHeartbeats 8000000 in
theorem oc_men {B : Nat} {fw : Nat → Int32} {R : List pm_C} {za zb : Int32} {d : Nat} (hdd : 2 ≤ d) : pm_met mX11_men d 0 0 B [.ref (B + 0), .int za, .int zb] 74 (pm_cat (pm_ofL (l_k_class B fw)) 54 R) (pm_Qi (fun v σ' cnt' => v = v_men za zb ∧ pm_lies σ' 54 R ∧ cnt' = 74)) := by
  refine pm_enter 1 (by decide) (Nat.le_of_ble_eq_true rfl) rfl (fun G hG hR hF => ?_)
  refine pm_aloadn hG dX11_men_0 rfl ?_
  refine pm_getf hG dX11_men_1 (flX11_12 _ rfl) rfl rfl ?_
  refine pm_getf hG dX11_men_4 (flX11_128 _ rfl) rfl rfl ?_
  refine pm_iloadn hG dX11_men_7 rfl ?_
  refine pm_callV (As := [.int za]) (rest := []) hG hR dX11_men_8 (lkX11_101 _ rfl) okV_X9_has rfl rfl (tb_has (d := 1) rfl) rfl rfl hdd (by decide) (by decide) (by decide) (pm_ki (fun v σ' cnt' hq => ?_))
  obtain ⟨rfl, rfl, rfl⟩ := hq
  refine pm_top (v := 0) (pm_has0 _) ?_
  refine pm_if_eq (tgt := 25) hG dX11_men_11 rfl (fun _ => ?_) (fun q => absurd q (by decide))
  refine pm_aloadn hG dX11_men_25 rfl ?_
  refine pm_ldc hG dX11_men_26 (ctX11_109 _ rfl) ?_
  refine pm_callV (As := [.int (-1000001)]) (rest := []) hG hR dX11_men_28 (lkX11_97 _ rfl) okV_X11_told rfl rfl (sx_told (d := 1) (by decide) rfl rfl) rfl rfl hdd (by decide) (by decide) (by decide) (pm_ki (fun v σ' cnt' hq => ?_))
  obtain ⟨rfl, ⟨g, rfl⟩, rfl⟩ := hq
  exact pm_iret hG hF dX11_men_31 rfl (by decide) (by decide) ⟨_, rfl, (by clear hF hR hG; first | rfl | (unfold v_men; (repeat' split) <;> first | rfl | (exfalso; simp only [Int32.lt_iff_toInt_lt, Int32.le_iff_toInt_le, ← Int32.toInt_inj, Int32.toInt_zero, L_m1000001] at *; omega) | (apply Int32.toInt_inj.mp; simp only [Int32.lt_iff_toInt_lt, Int32.le_iff_toInt_le, ← Int32.toInt_inj, Int32.toInt_zero, L_m1000001] at *; omega))), (by repeat (first | exact pm_lies_cat | refine pm_lies.up0 (by decide) ?_)), rfl⟩

set_option maxRecDepth 100000 in
set_option maxHeartbeats 8000000 in
theorem oc_as {B : Nat} {fw : Nat → Int32} {R : List pm_C} {za zb : Int32} {d : Nat} (hdd : 2 ≤ d) : pm_met mX11_as d 0 0 B [.ref (B + 0), .int za, .int zb] 74 (pm_cat (pm_ofL (l_k_class B fw)) 54 R) (pm_Qi (fun v σ' cnt' => v = v_as za zb ∧ pm_lies σ' 54 R ∧ cnt' = 74)) := by
  refine pm_enter 0 (by decide) (Nat.le_of_ble_eq_true rfl) rfl (fun G hG hR hF => ?_)
  refine pm_aloadn hG dX11_as_0 rfl ?_
  refine pm_getf hG dX11_as_1 (flX11_12 _ rfl) rfl rfl ?_
  refine pm_getf hG dX11_as_4 (flX11_161 _ rfl) rfl rfl ?_
  refine pm_iloadn hG dX11_as_7 rfl ?_
  refine pm_callV (As := [.int za]) (rest := []) hG hR dX11_as_8 (lkX11_101 _ rfl) okV_X9_has rfl rfl (tb_has (d := 1) rfl) rfl rfl hdd (by decide) (by decide) (by decide) (pm_ki (fun v σ' cnt' hq => ?_))
  obtain ⟨rfl, rfl, rfl⟩ := hq
  refine pm_top (v := 0) (pm_has0 _) ?_
  refine pm_if_eq (tgt := 23) hG dX11_as_11 rfl (fun _ => ?_) (fun q => absurd q (by decide))
  refine pm_aloadn hG dX11_as_23 rfl ?_
  refine pm_ldc hG dX11_as_24 (ctX11_109 _ rfl) ?_
  refine pm_callV (As := [.int (-1000001)]) (rest := []) hG hR dX11_as_26 (lkX11_97 _ rfl) okV_X11_told rfl rfl (sx_told (d := 1) (by decide) rfl rfl) rfl rfl hdd (by decide) (by decide) (by decide) (pm_ki (fun v σ' cnt' hq => ?_))
  obtain ⟨rfl, ⟨g, rfl⟩, rfl⟩ := hq
  exact pm_iret hG hF dX11_as_29 rfl (by decide) (by decide) ⟨_, rfl, (by clear hF hR hG; first | rfl | (unfold v_as; (repeat' split) <;> first | rfl | (exfalso; simp only [Int32.lt_iff_toInt_lt, Int32.le_iff_toInt_le, ← Int32.toInt_inj, Int32.toInt_zero, L_m1000001] at *; omega) | (apply Int32.toInt_inj.mp; simp only [Int32.lt_iff_toInt_lt, Int32.le_iff_toInt_le, ← Int32.toInt_inj, Int32.toInt_zero, L_m1000001] at *; omega))), (by repeat (first | exact pm_lies_cat | refine pm_lies.up0 (by decide) ?_)), rfl⟩

set_option maxRecDepth 100000 in
set_option maxHeartbeats 8000000 in
theorem oc_held {B : Nat} {fw : Nat → Int32} {R : List pm_C} {za zb : Int32} {d : Nat} (hdd : 2 ≤ d) : pm_met mX11_held d 0 0 B [.ref (B + 0), .int za, .int zb] 74 (pm_cat (pm_ofL (l_k_class B fw)) 54 R) (pm_Qi (fun v σ' cnt' => v = v_held za zb ∧ pm_lies σ' 54 R ∧ cnt' = 74)) := by
  refine pm_enter 0 (by decide) (Nat.le_of_ble_eq_true rfl) rfl (fun G hG hR hF => ?_)
  refine pm_aloadn hG dX11_held_0 rfl ?_
  refine pm_getf hG dX11_held_1 (flX11_12 _ rfl) rfl rfl ?_
  refine pm_getf hG dX11_held_4 (flX11_161 _ rfl) rfl rfl ?_
  refine pm_iloadn hG dX11_held_7 rfl ?_
  refine pm_callV (As := [.int za]) (rest := []) hG hR dX11_held_8 (lkX11_101 _ rfl) okV_X9_has rfl rfl (tb_has (d := 1) rfl) rfl rfl hdd (by decide) (by decide) (by decide) (pm_ki (fun v σ' cnt' hq => ?_))
  obtain ⟨rfl, rfl, rfl⟩ := hq
  refine pm_top (v := 0) (pm_has0 _) ?_
  refine pm_if_ne (tgt := 21) hG dX11_held_11 rfl (fun q => absurd q (by decide)) (fun _ => ?_)
  refine pm_aloadn hG dX11_held_14 rfl ?_
  refine pm_ldc hG dX11_held_15 (ctX11_109 _ rfl) ?_
  refine pm_callV (As := [.int (-1000001)]) (rest := []) hG hR dX11_held_17 (lkX11_97 _ rfl) okV_X11_told rfl rfl (sx_told (d := 1) (by decide) rfl rfl) rfl rfl hdd (by decide) (by decide) (by decide) (pm_ki (fun v σ' cnt' hq => ?_))
  obtain ⟨rfl, ⟨g, rfl⟩, rfl⟩ := hq
  exact pm_iret hG hF dX11_held_20 rfl (by decide) (by decide) ⟨_, rfl, (by clear hF hR hG; first | rfl | (unfold v_held; (repeat' split) <;> first | rfl | (exfalso; simp only [Int32.lt_iff_toInt_lt, Int32.le_iff_toInt_le, ← Int32.toInt_inj, Int32.toInt_zero, L_m1000001] at *; omega) | (apply Int32.toInt_inj.mp; simp only [Int32.lt_iff_toInt_lt, Int32.le_iff_toInt_le, ← Int32.toInt_inj, Int32.toInt_zero, L_m1000001] at *; omega))), (by repeat (first | exact pm_lies_cat | refine pm_lies.up0 (by decide) ?_)), rfl⟩

set_option maxRecDepth 100000 in
set_option maxHeartbeats 8000000 in
theorem oc_give {B : Nat} {fw : Nat → Int32} {R : List pm_C} {za zb : Int32} {d : Nat} (hdd : 2 ≤ d) : pm_met mX11_give d 0 0 B [.ref (B + 0), .int za, .int zb] 74 (pm_cat (pm_ofL (l_k_class B fw)) 54 R) (pm_Qi (fun v σ' cnt' => v = v_give za zb ∧ pm_lies σ' 54 R ∧ cnt' = 74)) := by
  refine pm_enter 0 (by decide) (Nat.le_of_ble_eq_true rfl) rfl (fun G hG hR hF => ?_)
  refine pm_aloadn hG dX11_give_0 rfl ?_
  refine pm_getf hG dX11_give_1 (flX11_12 _ rfl) rfl rfl ?_
  refine pm_getf hG dX11_give_4 (flX11_161 _ rfl) rfl rfl ?_
  refine pm_iloadn hG dX11_give_7 rfl ?_
  refine pm_callV (As := [.int za]) (rest := []) hG hR dX11_give_8 (lkX11_101 _ rfl) okV_X9_has rfl rfl (tb_has (d := 1) rfl) rfl rfl hdd (by decide) (by decide) (by decide) (pm_ki (fun v σ' cnt' hq => ?_))
  obtain ⟨rfl, rfl, rfl⟩ := hq
  refine pm_top (v := 0) (pm_has0 _) ?_
  refine pm_if_eq (tgt := 25) hG dX11_give_11 rfl (fun _ => ?_) (fun q => absurd q (by decide))
  refine pm_aloadn hG dX11_give_25 rfl ?_
  refine pm_ldc hG dX11_give_26 (ctX11_109 _ rfl) ?_
  refine pm_callV (As := [.int (-1000001)]) (rest := []) hG hR dX11_give_28 (lkX11_97 _ rfl) okV_X11_told rfl rfl (sx_told (d := 1) (by decide) rfl rfl) rfl rfl hdd (by decide) (by decide) (by decide) (pm_ki (fun v σ' cnt' hq => ?_))
  obtain ⟨rfl, ⟨g, rfl⟩, rfl⟩ := hq
  exact pm_iret hG hF dX11_give_31 rfl (by decide) (by decide) ⟨_, rfl, (by clear hF hR hG; first | rfl | (unfold v_give; (repeat' split) <;> first | rfl | (exfalso; simp only [Int32.lt_iff_toInt_lt, Int32.le_iff_toInt_le, ← Int32.toInt_inj, Int32.toInt_zero, L_m1000001] at *; omega) | (apply Int32.toInt_inj.mp; simp only [Int32.lt_iff_toInt_lt, Int32.le_iff_toInt_le, ← Int32.toInt_inj, Int32.toInt_zero, L_m1000001] at *; omega))), (by repeat (first | exact pm_lies_cat | refine pm_lies.up0 (by decide) ?_)), rfl⟩

set_option maxRecDepth 100000 in
set_option maxHeartbeats 8000000 in
theorem oc_lend {B : Nat} {fw : Nat → Int32} {R : List pm_C} {za zb zc : Int32} {d : Nat} (hdd : 2 ≤ d) : pm_met mX11_lend d 0 0 B [.ref (B + 0), .int za, .int zb, .int zc] 74 (pm_cat (pm_ofL (l_k_class B fw)) 54 R) (pm_Qi (fun v σ' cnt' => v = v_lend za zb zc ∧ pm_lies σ' 54 R ∧ cnt' = 74)) := by
  refine pm_enter 1 (by decide) (Nat.le_of_ble_eq_true rfl) rfl (fun G hG hR hF => ?_)
  refine pm_aloadn hG dX11_lend_0 rfl ?_
  refine pm_getf hG dX11_lend_1 (flX11_12 _ rfl) rfl rfl ?_
  refine pm_getf hG dX11_lend_4 (flX11_161 _ rfl) rfl rfl ?_
  refine pm_iloadn hG dX11_lend_7 rfl ?_
  refine pm_callV (As := [.int za]) (rest := []) hG hR dX11_lend_8 (lkX11_101 _ rfl) okV_X9_has rfl rfl (tb_has (d := 1) rfl) rfl rfl hdd (by decide) (by decide) (by decide) (pm_ki (fun v σ' cnt' hq => ?_))
  obtain ⟨rfl, rfl, rfl⟩ := hq
  refine pm_top (v := 0) (pm_has0 _) ?_
  refine pm_if_eq (tgt := 42) hG dX11_lend_11 rfl (fun _ => ?_) (fun q => absurd q (by decide))
  refine pm_aloadn hG dX11_lend_42 rfl ?_
  refine pm_ldc hG dX11_lend_43 (ctX11_109 _ rfl) ?_
  refine pm_callV (As := [.int (-1000001)]) (rest := []) hG hR dX11_lend_45 (lkX11_97 _ rfl) okV_X11_told rfl rfl (sx_told (d := 1) (by decide) rfl rfl) rfl rfl hdd (by decide) (by decide) (by decide) (pm_ki (fun v σ' cnt' hq => ?_))
  obtain ⟨rfl, ⟨g, rfl⟩, rfl⟩ := hq
  exact pm_iret hG hF dX11_lend_48 rfl (by decide) (by decide) ⟨_, rfl, (by clear hF hR hG; first | rfl | (unfold v_lend; (repeat' split) <;> first | rfl | (exfalso; simp only [Int32.lt_iff_toInt_lt, Int32.le_iff_toInt_le, ← Int32.toInt_inj, Int32.toInt_zero, L_m1000001] at *; omega) | (apply Int32.toInt_inj.mp; simp only [Int32.lt_iff_toInt_lt, Int32.le_iff_toInt_le, ← Int32.toInt_inj, Int32.toInt_zero, L_m1000001] at *; omega))), (by repeat (first | exact pm_lies_cat | refine pm_lies.up0 (by decide) ?_)), rfl⟩

set_option maxRecDepth 100000 in
set_option maxHeartbeats 8000000 in
theorem oc_copy {B : Nat} {fw : Nat → Int32} {R : List pm_C} {za : Int32} {d : Nat} (hdd : 2 ≤ d) : pm_met mX11_copy d 0 0 B [.ref (B + 0), .int za] 74 (pm_cat (pm_ofL (l_k_class B fw)) 54 R) (pm_Qi (fun v σ' cnt' => v = v_copy za ∧ pm_lies σ' 54 R ∧ cnt' = 74)) := by
  refine pm_enter 0 (by decide) (Nat.le_of_ble_eq_true rfl) rfl (fun G hG hR hF => ?_)
  refine pm_aloadn hG dX11_copy_0 rfl ?_
  refine pm_getf hG dX11_copy_1 (flX11_12 _ rfl) rfl rfl ?_
  refine pm_getf hG dX11_copy_4 (flX11_161 _ rfl) rfl rfl ?_
  refine pm_iloadn hG dX11_copy_7 rfl ?_
  refine pm_callV (As := [.int za]) (rest := []) hG hR dX11_copy_8 (lkX11_101 _ rfl) okV_X9_has rfl rfl (tb_has (d := 1) rfl) rfl rfl hdd (by decide) (by decide) (by decide) (pm_ki (fun v σ' cnt' hq => ?_))
  obtain ⟨rfl, rfl, rfl⟩ := hq
  refine pm_top (v := 0) (pm_has0 _) ?_
  refine pm_if_ne (tgt := 21) hG dX11_copy_11 rfl (fun q => absurd q (by decide)) (fun _ => ?_)
  refine pm_aloadn hG dX11_copy_14 rfl ?_
  refine pm_ldc hG dX11_copy_15 (ctX11_109 _ rfl) ?_
  refine pm_callV (As := [.int (-1000001)]) (rest := []) hG hR dX11_copy_17 (lkX11_97 _ rfl) okV_X11_told rfl rfl (sx_told (d := 1) (by decide) rfl rfl) rfl rfl hdd (by decide) (by decide) (by decide) (pm_ki (fun v σ' cnt' hq => ?_))
  obtain ⟨rfl, ⟨g, rfl⟩, rfl⟩ := hq
  exact pm_iret hG hF dX11_copy_20 rfl (by decide) (by decide) ⟨_, rfl, (by clear hF hR hG; first | rfl | (unfold v_copy; (repeat' split) <;> first | rfl | (exfalso; simp only [Int32.lt_iff_toInt_lt, Int32.le_iff_toInt_le, ← Int32.toInt_inj, Int32.toInt_zero, L_m1000001] at *; omega) | (apply Int32.toInt_inj.mp; simp only [Int32.lt_iff_toInt_lt, Int32.le_iff_toInt_le, ← Int32.toInt_inj, Int32.toInt_zero, L_m1000001] at *; omega))), (by repeat (first | exact pm_lies_cat | refine pm_lies.up0 (by decide) ?_)), rfl⟩

set_option maxRecDepth 100000 in
set_option maxHeartbeats 8000000 in
theorem oc_strike {B : Nat} {fw : Nat → Int32} {R : List pm_C} {za : Int32} {d : Nat} (hdd : 2 ≤ d) : pm_met mX11_strike d 0 0 B [.ref (B + 0), .int za] 74 (pm_cat (pm_ofL (l_k_class B fw)) 54 R) (pm_Qi (fun v σ' cnt' => v = v_strike za ∧ pm_lies σ' 54 R ∧ cnt' = 74)) := by
  refine pm_enter 0 (by decide) (Nat.le_of_ble_eq_true rfl) rfl (fun G hG hR hF => ?_)
  refine pm_aloadn hG dX11_strike_0 rfl ?_
  refine pm_getf hG dX11_strike_1 (flX11_12 _ rfl) rfl rfl ?_
  refine pm_getf hG dX11_strike_4 (flX11_209 _ rfl) rfl rfl ?_
  refine pm_iloadn hG dX11_strike_7 rfl ?_
  refine pm_callV (As := [.int za]) (rest := []) hG hR dX11_strike_8 (lkX11_101 _ rfl) okV_X9_has rfl rfl (tb_has (d := 1) rfl) rfl rfl hdd (by decide) (by decide) (by decide) (pm_ki (fun v σ' cnt' hq => ?_))
  obtain ⟨rfl, rfl, rfl⟩ := hq
  refine pm_top (v := 0) (pm_has0 _) ?_
  refine pm_if_ne (tgt := 21) hG dX11_strike_11 rfl (fun q => absurd q (by decide)) (fun _ => ?_)
  refine pm_aloadn hG dX11_strike_14 rfl ?_
  refine pm_ldc hG dX11_strike_15 (ctX11_109 _ rfl) ?_
  refine pm_callV (As := [.int (-1000001)]) (rest := []) hG hR dX11_strike_17 (lkX11_97 _ rfl) okV_X11_told rfl rfl (sx_told (d := 1) (by decide) rfl rfl) rfl rfl hdd (by decide) (by decide) (by decide) (pm_ki (fun v σ' cnt' hq => ?_))
  obtain ⟨rfl, ⟨g, rfl⟩, rfl⟩ := hq
  exact pm_iret hG hF dX11_strike_20 rfl (by decide) (by decide) ⟨_, rfl, (by clear hF hR hG; first | rfl | (unfold v_strike; (repeat' split) <;> first | rfl | (exfalso; simp only [Int32.lt_iff_toInt_lt, Int32.le_iff_toInt_le, ← Int32.toInt_inj, Int32.toInt_zero, L_m1000001] at *; omega) | (apply Int32.toInt_inj.mp; simp only [Int32.lt_iff_toInt_lt, Int32.le_iff_toInt_le, ← Int32.toInt_inj, Int32.toInt_zero, L_m1000001] at *; omega))), (by repeat (first | exact pm_lies_cat | refine pm_lies.up0 (by decide) ?_)), rfl⟩

set_option maxRecDepth 100000 in
set_option maxHeartbeats 8000000 in
theorem oc_says {B : Nat} {fw : Nat → Int32} {R : List pm_C} {za zb zc : Int32} {d : Nat} (hdd : 2 ≤ d) : pm_met mX11_says d 0 0 B [.ref (B + 0), .int za, .int zb, .int zc] 74 (pm_cat (pm_ofL (l_k_class B fw)) 54 R) (pm_Qi (fun v σ' cnt' => v = v_says za zb zc ∧ pm_lies σ' 54 R ∧ cnt' = 74)) := by
  refine pm_enter 2 (by decide) (Nat.le_of_ble_eq_true rfl) rfl (fun G hG hR hF => ?_)
  refine pm_iloadn hG dX11_says_0 rfl ?_
  refine pm_iconst (v := (-1)) hG dX11_says_1 (by decide) ?_
  refine pm_icmp_eq (tgt := 19) hG dX11_says_2 rfl (fun c1 => ?_) (fun c1 => ?_)
  · refine pm_iconst (v := 1) hG dX11_says_19 (by decide) ?_
    refine pm_goto (tgt := 24) hG dX11_says_20 rfl ?_
    refine pm_istoreXi (loc' := [some (.ref (B + 0)), some (.int za), some (.int zb), some (.int zc), some (.int 1), none]) hG dX11_says_24 (by decide) (pm_c1b rfl) rfl ?_
    refine pm_iloadn hG dX11_says_26 rfl ?_
    refine pm_iconst (v := (-1)) hG dX11_says_27 (by decide) ?_
    refine pm_icmp_eq (tgt := 45) hG dX11_says_28 rfl (fun c2 => ?_) (fun c2 => ?_)
    · refine pm_iconst (v := 1) hG dX11_says_45 (by decide) ?_
      refine pm_goto (tgt := 50) hG dX11_says_46 rfl ?_
      refine pm_istoreXi (loc' := [some (.ref (B + 0)), some (.int za), some (.int zb), some (.int zc), some (.int 1), some (.int 1)]) hG dX11_says_50 (by decide) (pm_c1b rfl) rfl ?_
      refine pm_aloadn hG dX11_says_52 rfl ?_
      refine pm_getf hG dX11_says_53 (flX11_12 _ rfl) rfl rfl ?_
      refine pm_getf hG dX11_says_56 (flX11_209 _ rfl) rfl rfl ?_
      refine pm_iloadn hG dX11_says_59 rfl ?_
      refine pm_callV (As := [.int za]) (rest := []) hG hR dX11_says_60 (lkX11_101 _ rfl) okV_X9_has rfl rfl (tb_has (d := 1) rfl) rfl rfl hdd (by decide) (by decide) (by decide) (pm_ki (fun v σ' cnt' hq => ?_))
      obtain ⟨rfl, rfl, rfl⟩ := hq
      refine pm_top (v := 0) (pm_has0 _) ?_
      refine pm_if_eq (tgt := 76) hG dX11_says_63 rfl (fun _ => ?_) (fun q => absurd q (by decide))
      refine pm_aloadn hG dX11_says_76 rfl ?_
      refine pm_ldc hG dX11_says_77 (ctX11_109 _ rfl) ?_
      refine pm_callV (As := [.int (-1000001)]) (rest := []) hG hR dX11_says_79 (lkX11_97 _ rfl) okV_X11_told rfl rfl (sx_told (d := 1) (by decide) rfl rfl) rfl rfl hdd (by decide) (by decide) (by decide) (pm_ki (fun v σ' cnt' hq => ?_))
      obtain ⟨rfl, ⟨g, rfl⟩, rfl⟩ := hq
      exact pm_iret hG hF dX11_says_82 rfl (by decide) (by decide) ⟨_, rfl, (by clear hF hR hG; first | rfl | (unfold v_says; (repeat' split) <;> first | rfl | (exfalso; simp only [Int32.lt_iff_toInt_lt, Int32.le_iff_toInt_le, ← Int32.toInt_inj, Int32.toInt_zero, L_m1, L_m1000001] at *; omega) | (apply Int32.toInt_inj.mp; simp only [Int32.lt_iff_toInt_lt, Int32.le_iff_toInt_le, ← Int32.toInt_inj, Int32.toInt_zero, L_m1, L_m1000001] at *; omega))), (by repeat (first | exact pm_lies_cat | refine pm_lies.up0 (by decide) ?_)), rfl⟩
    · refine pm_aloadn hG dX11_says_31 rfl ?_
      refine pm_getf hG dX11_says_32 (flX11_12 _ rfl) rfl rfl ?_
      refine pm_getf hG dX11_says_35 (flX11_224 _ rfl) rfl rfl ?_
      refine pm_iloadn hG dX11_says_38 rfl ?_
      refine pm_callV (As := [.int zc]) (rest := []) hG hR dX11_says_39 (lkX11_101 _ rfl) okV_X9_has rfl rfl (tb_has (d := 1) rfl) rfl rfl hdd (by decide) (by decide) (by decide) (pm_ki (fun v σ' cnt' hq => ?_))
      obtain ⟨rfl, rfl, rfl⟩ := hq
      refine pm_top (v := 0) (pm_has0 _) ?_
      refine pm_if_eq (tgt := 49) hG dX11_says_42 rfl (fun _ => ?_) (fun q => absurd q (by decide))
      refine pm_iconst (v := 0) hG dX11_says_49 (by decide) ?_
      refine pm_istoreXi (loc' := [some (.ref (B + 0)), some (.int za), some (.int zb), some (.int zc), some (.int 1), some (.int 0)]) hG dX11_says_50 (by decide) (pm_c1b rfl) rfl ?_
      refine pm_aloadn hG dX11_says_52 rfl ?_
      refine pm_getf hG dX11_says_53 (flX11_12 _ rfl) rfl rfl ?_
      refine pm_getf hG dX11_says_56 (flX11_209 _ rfl) rfl rfl ?_
      refine pm_iloadn hG dX11_says_59 rfl ?_
      refine pm_callV (As := [.int za]) (rest := []) hG hR dX11_says_60 (lkX11_101 _ rfl) okV_X9_has rfl rfl (tb_has (d := 1) rfl) rfl rfl hdd (by decide) (by decide) (by decide) (pm_ki (fun v σ' cnt' hq => ?_))
      obtain ⟨rfl, rfl, rfl⟩ := hq
      refine pm_top (v := 0) (pm_has0 _) ?_
      refine pm_if_eq (tgt := 76) hG dX11_says_63 rfl (fun _ => ?_) (fun q => absurd q (by decide))
      refine pm_aloadn hG dX11_says_76 rfl ?_
      refine pm_ldc hG dX11_says_77 (ctX11_109 _ rfl) ?_
      refine pm_callV (As := [.int (-1000001)]) (rest := []) hG hR dX11_says_79 (lkX11_97 _ rfl) okV_X11_told rfl rfl (sx_told (d := 1) (by decide) rfl rfl) rfl rfl hdd (by decide) (by decide) (by decide) (pm_ki (fun v σ' cnt' hq => ?_))
      obtain ⟨rfl, ⟨g, rfl⟩, rfl⟩ := hq
      exact pm_iret hG hF dX11_says_82 rfl (by decide) (by decide) ⟨_, rfl, (by clear hF hR hG; first | rfl | (unfold v_says; (repeat' split) <;> first | rfl | (exfalso; simp only [Int32.lt_iff_toInt_lt, Int32.le_iff_toInt_le, ← Int32.toInt_inj, Int32.toInt_zero, L_m1, L_m1000001] at *; omega) | (apply Int32.toInt_inj.mp; simp only [Int32.lt_iff_toInt_lt, Int32.le_iff_toInt_le, ← Int32.toInt_inj, Int32.toInt_zero, L_m1, L_m1000001] at *; omega))), (by repeat (first | exact pm_lies_cat | refine pm_lies.up0 (by decide) ?_)), rfl⟩
  · refine pm_aloadn hG dX11_says_5 rfl ?_
    refine pm_getf hG dX11_says_6 (flX11_12 _ rfl) rfl rfl ?_
    refine pm_getf hG dX11_says_9 (flX11_128 _ rfl) rfl rfl ?_
    refine pm_iloadn hG dX11_says_12 rfl ?_
    refine pm_callV (As := [.int zb]) (rest := []) hG hR dX11_says_13 (lkX11_101 _ rfl) okV_X9_has rfl rfl (tb_has (d := 1) rfl) rfl rfl hdd (by decide) (by decide) (by decide) (pm_ki (fun v σ' cnt' hq => ?_))
    obtain ⟨rfl, rfl, rfl⟩ := hq
    refine pm_top (v := 0) (pm_has0 _) ?_
    refine pm_if_eq (tgt := 23) hG dX11_says_16 rfl (fun _ => ?_) (fun q => absurd q (by decide))
    refine pm_iconst (v := 0) hG dX11_says_23 (by decide) ?_
    refine pm_istoreXi (loc' := [some (.ref (B + 0)), some (.int za), some (.int zb), some (.int zc), some (.int 0), none]) hG dX11_says_24 (by decide) (pm_c1b rfl) rfl ?_
    refine pm_iloadn hG dX11_says_26 rfl ?_
    refine pm_iconst (v := (-1)) hG dX11_says_27 (by decide) ?_
    refine pm_icmp_eq (tgt := 45) hG dX11_says_28 rfl (fun c3 => ?_) (fun c3 => ?_)
    · refine pm_iconst (v := 1) hG dX11_says_45 (by decide) ?_
      refine pm_goto (tgt := 50) hG dX11_says_46 rfl ?_
      refine pm_istoreXi (loc' := [some (.ref (B + 0)), some (.int za), some (.int zb), some (.int zc), some (.int 0), some (.int 1)]) hG dX11_says_50 (by decide) (pm_c1b rfl) rfl ?_
      refine pm_aloadn hG dX11_says_52 rfl ?_
      refine pm_getf hG dX11_says_53 (flX11_12 _ rfl) rfl rfl ?_
      refine pm_getf hG dX11_says_56 (flX11_209 _ rfl) rfl rfl ?_
      refine pm_iloadn hG dX11_says_59 rfl ?_
      refine pm_callV (As := [.int za]) (rest := []) hG hR dX11_says_60 (lkX11_101 _ rfl) okV_X9_has rfl rfl (tb_has (d := 1) rfl) rfl rfl hdd (by decide) (by decide) (by decide) (pm_ki (fun v σ' cnt' hq => ?_))
      obtain ⟨rfl, rfl, rfl⟩ := hq
      refine pm_top (v := 0) (pm_has0 _) ?_
      refine pm_if_eq (tgt := 76) hG dX11_says_63 rfl (fun _ => ?_) (fun q => absurd q (by decide))
      refine pm_aloadn hG dX11_says_76 rfl ?_
      refine pm_ldc hG dX11_says_77 (ctX11_109 _ rfl) ?_
      refine pm_callV (As := [.int (-1000001)]) (rest := []) hG hR dX11_says_79 (lkX11_97 _ rfl) okV_X11_told rfl rfl (sx_told (d := 1) (by decide) rfl rfl) rfl rfl hdd (by decide) (by decide) (by decide) (pm_ki (fun v σ' cnt' hq => ?_))
      obtain ⟨rfl, ⟨g, rfl⟩, rfl⟩ := hq
      exact pm_iret hG hF dX11_says_82 rfl (by decide) (by decide) ⟨_, rfl, (by clear hF hR hG; first | rfl | (unfold v_says; (repeat' split) <;> first | rfl | (exfalso; simp only [Int32.lt_iff_toInt_lt, Int32.le_iff_toInt_le, ← Int32.toInt_inj, Int32.toInt_zero, L_m1, L_m1000001] at *; omega) | (apply Int32.toInt_inj.mp; simp only [Int32.lt_iff_toInt_lt, Int32.le_iff_toInt_le, ← Int32.toInt_inj, Int32.toInt_zero, L_m1, L_m1000001] at *; omega))), (by repeat (first | exact pm_lies_cat | refine pm_lies.up0 (by decide) ?_)), rfl⟩
    · refine pm_aloadn hG dX11_says_31 rfl ?_
      refine pm_getf hG dX11_says_32 (flX11_12 _ rfl) rfl rfl ?_
      refine pm_getf hG dX11_says_35 (flX11_224 _ rfl) rfl rfl ?_
      refine pm_iloadn hG dX11_says_38 rfl ?_
      refine pm_callV (As := [.int zc]) (rest := []) hG hR dX11_says_39 (lkX11_101 _ rfl) okV_X9_has rfl rfl (tb_has (d := 1) rfl) rfl rfl hdd (by decide) (by decide) (by decide) (pm_ki (fun v σ' cnt' hq => ?_))
      obtain ⟨rfl, rfl, rfl⟩ := hq
      refine pm_top (v := 0) (pm_has0 _) ?_
      refine pm_if_eq (tgt := 49) hG dX11_says_42 rfl (fun _ => ?_) (fun q => absurd q (by decide))
      refine pm_iconst (v := 0) hG dX11_says_49 (by decide) ?_
      refine pm_istoreXi (loc' := [some (.ref (B + 0)), some (.int za), some (.int zb), some (.int zc), some (.int 0), some (.int 0)]) hG dX11_says_50 (by decide) (pm_c1b rfl) rfl ?_
      refine pm_aloadn hG dX11_says_52 rfl ?_
      refine pm_getf hG dX11_says_53 (flX11_12 _ rfl) rfl rfl ?_
      refine pm_getf hG dX11_says_56 (flX11_209 _ rfl) rfl rfl ?_
      refine pm_iloadn hG dX11_says_59 rfl ?_
      refine pm_callV (As := [.int za]) (rest := []) hG hR dX11_says_60 (lkX11_101 _ rfl) okV_X9_has rfl rfl (tb_has (d := 1) rfl) rfl rfl hdd (by decide) (by decide) (by decide) (pm_ki (fun v σ' cnt' hq => ?_))
      obtain ⟨rfl, rfl, rfl⟩ := hq
      refine pm_top (v := 0) (pm_has0 _) ?_
      refine pm_if_eq (tgt := 76) hG dX11_says_63 rfl (fun _ => ?_) (fun q => absurd q (by decide))
      refine pm_aloadn hG dX11_says_76 rfl ?_
      refine pm_ldc hG dX11_says_77 (ctX11_109 _ rfl) ?_
      refine pm_callV (As := [.int (-1000001)]) (rest := []) hG hR dX11_says_79 (lkX11_97 _ rfl) okV_X11_told rfl rfl (sx_told (d := 1) (by decide) rfl rfl) rfl rfl hdd (by decide) (by decide) (by decide) (pm_ki (fun v σ' cnt' hq => ?_))
      obtain ⟨rfl, ⟨g, rfl⟩, rfl⟩ := hq
      exact pm_iret hG hF dX11_says_82 rfl (by decide) (by decide) ⟨_, rfl, (by clear hF hR hG; first | rfl | (unfold v_says; (repeat' split) <;> first | rfl | (exfalso; simp only [Int32.lt_iff_toInt_lt, Int32.le_iff_toInt_le, ← Int32.toInt_inj, Int32.toInt_zero, L_m1, L_m1000001] at *; omega) | (apply Int32.toInt_inj.mp; simp only [Int32.lt_iff_toInt_lt, Int32.le_iff_toInt_le, ← Int32.toInt_inj, Int32.toInt_zero, L_m1, L_m1000001] at *; omega))), (by repeat (first | exact pm_lies_cat | refine pm_lies.up0 (by decide) ?_)), rfl⟩

set_option maxRecDepth 100000 in
set_option maxHeartbeats 8000000 in
theorem oc_draw {B : Nat} {fw : Nat → Int32} {R : List pm_C} {za zb zc : Int32} {d : Nat} (hdd : 2 ≤ d) : pm_met mX11_draw d 0 0 B [.ref (B + 0), .int za, .int zb, .int zc] 74 (pm_cat (pm_ofL (l_k_class B fw)) 54 R) (pm_Qi (fun v σ' cnt' => v = v_draw za zb zc ∧ pm_lies σ' 54 R ∧ cnt' = 74)) := by
  refine pm_enter 0 (by decide) (Nat.le_of_ble_eq_true rfl) rfl (fun G hG hR hF => ?_)
  refine pm_aloadn hG dX11_draw_0 rfl ?_
  refine pm_getf hG dX11_draw_1 (flX11_12 _ rfl) rfl rfl ?_
  refine pm_getf hG dX11_draw_4 (flX11_128 _ rfl) rfl rfl ?_
  refine pm_iloadn hG dX11_draw_7 rfl ?_
  refine pm_callV (As := [.int za]) (rest := []) hG hR dX11_draw_8 (lkX11_101 _ rfl) okV_X9_has rfl rfl (tb_has (d := 1) rfl) rfl rfl hdd (by decide) (by decide) (by decide) (pm_ki (fun v σ' cnt' hq => ?_))
  obtain ⟨rfl, rfl, rfl⟩ := hq
  refine pm_top (v := 0) (pm_has0 _) ?_
  refine pm_if_eq (tgt := 34) hG dX11_draw_11 rfl (fun _ => ?_) (fun q => absurd q (by decide))
  refine pm_aloadn hG dX11_draw_34 rfl ?_
  refine pm_ldc hG dX11_draw_35 (ctX11_109 _ rfl) ?_
  refine pm_callV (As := [.int (-1000001)]) (rest := []) hG hR dX11_draw_37 (lkX11_97 _ rfl) okV_X11_told rfl rfl (sx_told (d := 1) (by decide) rfl rfl) rfl rfl hdd (by decide) (by decide) (by decide) (pm_ki (fun v σ' cnt' hq => ?_))
  obtain ⟨rfl, ⟨g, rfl⟩, rfl⟩ := hq
  exact pm_iret hG hF dX11_draw_40 rfl (by decide) (by decide) ⟨_, rfl, (by clear hF hR hG; first | rfl | (unfold v_draw; (repeat' split) <;> first | rfl | (exfalso; simp only [Int32.lt_iff_toInt_lt, Int32.le_iff_toInt_le, ← Int32.toInt_inj, Int32.toInt_zero, L_m1000001] at *; omega) | (apply Int32.toInt_inj.mp; simp only [Int32.lt_iff_toInt_lt, Int32.le_iff_toInt_le, ← Int32.toInt_inj, Int32.toInt_zero, L_m1000001] at *; omega))), (by repeat (first | exact pm_lies_cat | refine pm_lies.up0 (by decide) ?_)), rfl⟩

set_option maxRecDepth 100000 in
set_option maxHeartbeats 8000000 in
theorem oc_press {B : Nat} {fw : Nat → Int32} {R : List pm_C} {za zb : Int32} {d : Nat} (hdd : 2 ≤ d) : pm_met mX11_press d 0 0 B [.ref (B + 0), .int za, .int zb] 74 (pm_cat (pm_ofL (l_k_class B fw)) 54 R) (pm_Qi (fun v σ' cnt' => v = v_press za zb ∧ pm_lies σ' 54 R ∧ cnt' = 74)) := by
  refine pm_enter 0 (by decide) (Nat.le_of_ble_eq_true rfl) rfl (fun G hG hR hF => ?_)
  refine pm_aloadn hG dX11_press_0 rfl ?_
  refine pm_getf hG dX11_press_1 (flX11_12 _ rfl) rfl rfl ?_
  refine pm_getf hG dX11_press_4 (flX11_224 _ rfl) rfl rfl ?_
  refine pm_iloadn hG dX11_press_7 rfl ?_
  refine pm_callV (As := [.int za]) (rest := []) hG hR dX11_press_8 (lkX11_101 _ rfl) okV_X9_has rfl rfl (tb_has (d := 1) rfl) rfl rfl hdd (by decide) (by decide) (by decide) (pm_ki (fun v σ' cnt' hq => ?_))
  obtain ⟨rfl, rfl, rfl⟩ := hq
  refine pm_top (v := 0) (pm_has0 _) ?_
  refine pm_if_eq (tgt := 28) hG dX11_press_11 rfl (fun _ => ?_) (fun q => absurd q (by decide))
  refine pm_aloadn hG dX11_press_28 rfl ?_
  refine pm_ldc hG dX11_press_29 (ctX11_109 _ rfl) ?_
  refine pm_callV (As := [.int (-1000001)]) (rest := []) hG hR dX11_press_31 (lkX11_97 _ rfl) okV_X11_told rfl rfl (sx_told (d := 1) (by decide) rfl rfl) rfl rfl hdd (by decide) (by decide) (by decide) (pm_ki (fun v σ' cnt' hq => ?_))
  obtain ⟨rfl, ⟨g, rfl⟩, rfl⟩ := hq
  exact pm_iret hG hF dX11_press_34 rfl (by decide) (by decide) ⟨_, rfl, (by clear hF hR hG; first | rfl | (unfold v_press; (repeat' split) <;> first | rfl | (exfalso; simp only [Int32.lt_iff_toInt_lt, Int32.le_iff_toInt_le, ← Int32.toInt_inj, Int32.toInt_zero, L_m1000001] at *; omega) | (apply Int32.toInt_inj.mp; simp only [Int32.lt_iff_toInt_lt, Int32.le_iff_toInt_le, ← Int32.toInt_inj, Int32.toInt_zero, L_m1000001] at *; omega))), (by repeat (first | exact pm_lies_cat | refine pm_lies.up0 (by decide) ?_)), rfl⟩

set_option maxRecDepth 100000 in
set_option maxHeartbeats 8000000 in
theorem oc_send {B : Nat} {fw : Nat → Int32} {R : List pm_C} {za zb : Int32} {d : Nat} (hdd : 2 ≤ d) : pm_met mX11_send d 0 0 B [.ref (B + 0), .int za, .int zb] 74 (pm_cat (pm_ofL (l_k_class B fw)) 54 R) (pm_Qi (fun v σ' cnt' => v = v_send za zb ∧ pm_lies σ' 54 R ∧ cnt' = 74)) := by
  refine pm_enter 0 (by decide) (Nat.le_of_ble_eq_true rfl) rfl (fun G hG hR hF => ?_)
  refine pm_aloadn hG dX11_send_0 rfl ?_
  refine pm_getf hG dX11_send_1 (flX11_12 _ rfl) rfl rfl ?_
  refine pm_getf hG dX11_send_4 (flX11_224 _ rfl) rfl rfl ?_
  refine pm_iloadn hG dX11_send_7 rfl ?_
  refine pm_callV (As := [.int za]) (rest := []) hG hR dX11_send_8 (lkX11_101 _ rfl) okV_X9_has rfl rfl (tb_has (d := 1) rfl) rfl rfl hdd (by decide) (by decide) (by decide) (pm_ki (fun v σ' cnt' hq => ?_))
  obtain ⟨rfl, rfl, rfl⟩ := hq
  refine pm_top (v := 0) (pm_has0 _) ?_
  refine pm_if_eq (tgt := 28) hG dX11_send_11 rfl (fun _ => ?_) (fun q => absurd q (by decide))
  refine pm_aloadn hG dX11_send_28 rfl ?_
  refine pm_ldc hG dX11_send_29 (ctX11_109 _ rfl) ?_
  refine pm_callV (As := [.int (-1000001)]) (rest := []) hG hR dX11_send_31 (lkX11_97 _ rfl) okV_X11_told rfl rfl (sx_told (d := 1) (by decide) rfl rfl) rfl rfl hdd (by decide) (by decide) (by decide) (pm_ki (fun v σ' cnt' hq => ?_))
  obtain ⟨rfl, ⟨g, rfl⟩, rfl⟩ := hq
  exact pm_iret hG hF dX11_send_34 rfl (by decide) (by decide) ⟨_, rfl, (by clear hF hR hG; first | rfl | (unfold v_send; (repeat' split) <;> first | rfl | (exfalso; simp only [Int32.lt_iff_toInt_lt, Int32.le_iff_toInt_le, ← Int32.toInt_inj, Int32.toInt_zero, L_m1000001] at *; omega) | (apply Int32.toInt_inj.mp; simp only [Int32.lt_iff_toInt_lt, Int32.le_iff_toInt_le, ← Int32.toInt_inj, Int32.toInt_zero, L_m1000001] at *; omega))), (by repeat (first | exact pm_lies_cat | refine pm_lies.up0 (by decide) ?_)), rfl⟩

set_option maxRecDepth 100000 in
set_option maxHeartbeats 8000000 in
theorem oc_open {B : Nat} {fw : Nat → Int32} {R : List pm_C} {za : Int32} {d : Nat} (hdd : 2 ≤ d) : pm_met mX11_open d 0 0 B [.ref (B + 0), .int za] 74 (pm_cat (pm_ofL (l_k_class B fw)) 54 R) (pm_Qi (fun v σ' cnt' => v = v_open za ∧ pm_lies σ' 54 R ∧ cnt' = 74)) := by
  refine pm_enter 0 (by decide) (Nat.le_of_ble_eq_true rfl) rfl (fun G hG hR hF => ?_)
  refine pm_aloadn hG dX11_open_0 rfl ?_
  refine pm_aloadn hG dX11_open_1 rfl ?_
  refine pm_getf hG dX11_open_2 (flX11_12 _ rfl) rfl rfl ?_
  refine pm_getf hG dX11_open_5 (flX11_224 _ rfl) rfl rfl ?_
  refine pm_iloadn hG dX11_open_8 rfl ?_
  refine pm_callV (As := [.int za]) (rest := [.ref (B + 0)]) hG hR dX11_open_9 (lkX11_101 _ rfl) okV_X9_has rfl rfl (tb_has (d := 1) rfl) rfl rfl hdd (by decide) (by decide) (by first | decide | exact Nat.le_of_ble_eq_true rfl) (pm_ki (fun v σ' cnt' hq => ?_))
  obtain ⟨rfl, rfl, rfl⟩ := hq
  refine pm_top (v := 0) (pm_has0 _) ?_
  refine pm_if_eq (tgt := 26) hG dX11_open_12 rfl (fun _ => ?_) (fun q => absurd q (by decide))
  refine pm_ldc hG dX11_open_26 (ctX11_109 _ rfl) ?_
  refine pm_callV (As := [.int (-1000001)]) (rest := []) hG hR dX11_open_28 (lkX11_97 _ rfl) okV_X11_told rfl rfl (sx_told (d := 1) (by decide) rfl rfl) rfl rfl hdd (by decide) (by decide) (by decide) (pm_ki (fun v σ' cnt' hq => ?_))
  obtain ⟨rfl, ⟨g, rfl⟩, rfl⟩ := hq
  exact pm_iret hG hF dX11_open_31 rfl (by decide) (by decide) ⟨_, rfl, (by clear hF hR hG; first | rfl | (unfold v_open; (repeat' split) <;> first | rfl | (exfalso; simp only [Int32.lt_iff_toInt_lt, Int32.le_iff_toInt_le, ← Int32.toInt_inj, Int32.toInt_zero, L_m1000001] at *; omega) | (apply Int32.toInt_inj.mp; simp only [Int32.lt_iff_toInt_lt, Int32.le_iff_toInt_le, ← Int32.toInt_inj, Int32.toInt_zero, L_m1000001] at *; omega))), (by repeat (first | exact pm_lies_cat | refine pm_lies.up0 (by decide) ?_)), rfl⟩

set_option maxRecDepth 100000 in
set_option maxHeartbeats 8000000 in
theorem oc_obey {B : Nat} {fw : Nat → Int32} {R : List pm_C} {za : Int32} {d : Nat} (hdd : 2 ≤ d) : pm_met mX11_obey d 0 0 B [.ref (B + 0), .int za] 74 (pm_cat (pm_ofL (l_k_class B fw)) 54 R) (pm_Qi (fun v σ' cnt' => v = v_obey za ∧ pm_lies σ' 54 R ∧ cnt' = 74)) := by
  refine pm_enter 0 (by decide) (Nat.le_of_ble_eq_true rfl) rfl (fun G hG hR hF => ?_)
  refine pm_aloadn hG dX11_obey_0 rfl ?_
  refine pm_aloadn hG dX11_obey_1 rfl ?_
  refine pm_getf hG dX11_obey_2 (flX11_12 _ rfl) rfl rfl ?_
  refine pm_getf hG dX11_obey_5 (flX11_224 _ rfl) rfl rfl ?_
  refine pm_iloadn hG dX11_obey_8 rfl ?_
  refine pm_callV (As := [.int za]) (rest := [.ref (B + 0)]) hG hR dX11_obey_9 (lkX11_101 _ rfl) okV_X9_has rfl rfl (tb_has (d := 1) rfl) rfl rfl hdd (by decide) (by decide) (by first | decide | exact Nat.le_of_ble_eq_true rfl) (pm_ki (fun v σ' cnt' hq => ?_))
  obtain ⟨rfl, rfl, rfl⟩ := hq
  refine pm_top (v := 0) (pm_has0 _) ?_
  refine pm_if_eq (tgt := 26) hG dX11_obey_12 rfl (fun _ => ?_) (fun q => absurd q (by decide))
  refine pm_ldc hG dX11_obey_26 (ctX11_109 _ rfl) ?_
  refine pm_callV (As := [.int (-1000001)]) (rest := []) hG hR dX11_obey_28 (lkX11_97 _ rfl) okV_X11_told rfl rfl (sx_told (d := 1) (by decide) rfl rfl) rfl rfl hdd (by decide) (by decide) (by decide) (pm_ki (fun v σ' cnt' hq => ?_))
  obtain ⟨rfl, ⟨g, rfl⟩, rfl⟩ := hq
  exact pm_iret hG hF dX11_obey_31 rfl (by decide) (by decide) ⟨_, rfl, (by clear hF hR hG; first | rfl | (unfold v_obey; (repeat' split) <;> first | rfl | (exfalso; simp only [Int32.lt_iff_toInt_lt, Int32.le_iff_toInt_le, ← Int32.toInt_inj, Int32.toInt_zero, L_m1000001] at *; omega) | (apply Int32.toInt_inj.mp; simp only [Int32.lt_iff_toInt_lt, Int32.le_iff_toInt_le, ← Int32.toInt_inj, Int32.toInt_zero, L_m1000001] at *; omega))), (by repeat (first | exact pm_lies_cat | refine pm_lies.up0 (by decide) ?_)), rfl⟩

set_option maxRecDepth 100000 in
set_option maxHeartbeats 8000000 in
theorem oc_letter {B : Nat} {fw : Nat → Int32} {R : List pm_C} {za zb : Int32} {d : Nat} (hdd : 2 ≤ d) : pm_met mX11_letter d 0 0 B [.ref (B + 0), .int za, .int zb] 74 (pm_cat (pm_ofL (l_k_class B fw)) 54 R) (pm_Qi (fun v σ' cnt' => v = v_letter za zb ∧ pm_lies σ' 54 R ∧ cnt' = 74)) := by
  refine pm_enter 0 (by decide) (Nat.le_of_ble_eq_true rfl) rfl (fun G hG hR hF => ?_)
  refine pm_aloadn hG dX11_letter_0 rfl ?_
  refine pm_getf hG dX11_letter_1 (flX11_12 _ rfl) rfl rfl ?_
  refine pm_getf hG dX11_letter_4 (flX11_224 _ rfl) rfl rfl ?_
  refine pm_iloadn hG dX11_letter_7 rfl ?_
  refine pm_callV (As := [.int za]) (rest := []) hG hR dX11_letter_8 (lkX11_101 _ rfl) okV_X9_has rfl rfl (tb_has (d := 1) rfl) rfl rfl hdd (by decide) (by decide) (by decide) (pm_ki (fun v σ' cnt' hq => ?_))
  obtain ⟨rfl, rfl, rfl⟩ := hq
  refine pm_top (v := 0) (pm_has0 _) ?_
  refine pm_if_ne (tgt := 21) hG dX11_letter_11 rfl (fun q => absurd q (by decide)) (fun _ => ?_)
  refine pm_aloadn hG dX11_letter_14 rfl ?_
  refine pm_ldc hG dX11_letter_15 (ctX11_109 _ rfl) ?_
  refine pm_callV (As := [.int (-1000001)]) (rest := []) hG hR dX11_letter_17 (lkX11_97 _ rfl) okV_X11_told rfl rfl (sx_told (d := 1) (by decide) rfl rfl) rfl rfl hdd (by decide) (by decide) (by decide) (pm_ki (fun v σ' cnt' hq => ?_))
  obtain ⟨rfl, ⟨g, rfl⟩, rfl⟩ := hq
  exact pm_iret hG hF dX11_letter_20 rfl (by decide) (by decide) ⟨_, rfl, (by clear hF hR hG; first | rfl | (unfold v_letter; (repeat' split) <;> first | rfl | (exfalso; simp only [Int32.lt_iff_toInt_lt, Int32.le_iff_toInt_le, ← Int32.toInt_inj, Int32.toInt_zero, L_m1000001] at *; omega) | (apply Int32.toInt_inj.mp; simp only [Int32.lt_iff_toInt_lt, Int32.le_iff_toInt_le, ← Int32.toInt_inj, Int32.toInt_zero, L_m1000001] at *; omega))), (by repeat (first | exact pm_lies_cat | refine pm_lies.up0 (by decide) ?_)), rfl⟩

set_option maxRecDepth 100000 in
set_option maxHeartbeats 8000000 in
theorem oc_rent {B : Nat} {fw : Nat → Int32} {R : List pm_C} {za zb : Int32} {d : Nat} (hdd : 2 ≤ d) : pm_met mX11_rent d 0 0 B [.ref (B + 0), .int za, .int zb] 74 (pm_cat (pm_ofL (l_k_class B fw)) 54 R) (pm_Qi (fun v σ' cnt' => v = v_rent za zb ∧ pm_lies σ' 54 R ∧ cnt' = 74)) := by
  refine pm_enter 0 (by decide) (Nat.le_of_ble_eq_true rfl) rfl (fun G hG hR hF => ?_)
  refine pm_aloadn hG dX11_rent_0 rfl ?_
  refine pm_getf hG dX11_rent_1 (flX11_12 _ rfl) rfl rfl ?_
  refine pm_getf hG dX11_rent_4 (flX11_82 _ rfl) rfl rfl ?_
  refine pm_iloadn hG dX11_rent_7 rfl ?_
  refine pm_callV (As := [.int za]) (rest := []) hG hR dX11_rent_8 (lkX11_101 _ rfl) okV_X9_has rfl rfl (tb_has (d := 1) rfl) rfl rfl hdd (by decide) (by decide) (by decide) (pm_ki (fun v σ' cnt' hq => ?_))
  obtain ⟨rfl, rfl, rfl⟩ := hq
  refine pm_top (v := 0) (pm_has0 _) ?_
  refine pm_if_eq (tgt := 25) hG dX11_rent_11 rfl (fun _ => ?_) (fun q => absurd q (by decide))
  refine pm_aloadn hG dX11_rent_25 rfl ?_
  refine pm_ldc hG dX11_rent_26 (ctX11_109 _ rfl) ?_
  refine pm_callV (As := [.int (-1000001)]) (rest := []) hG hR dX11_rent_28 (lkX11_97 _ rfl) okV_X11_told rfl rfl (sx_told (d := 1) (by decide) rfl rfl) rfl rfl hdd (by decide) (by decide) (by decide) (pm_ki (fun v σ' cnt' hq => ?_))
  obtain ⟨rfl, ⟨g, rfl⟩, rfl⟩ := hq
  exact pm_iret hG hF dX11_rent_31 rfl (by decide) (by decide) ⟨_, rfl, (by clear hF hR hG; first | rfl | (unfold v_rent; (repeat' split) <;> first | rfl | (exfalso; simp only [Int32.lt_iff_toInt_lt, Int32.le_iff_toInt_le, ← Int32.toInt_inj, Int32.toInt_zero, L_m1000001] at *; omega) | (apply Int32.toInt_inj.mp; simp only [Int32.lt_iff_toInt_lt, Int32.le_iff_toInt_le, ← Int32.toInt_inj, Int32.toInt_zero, L_m1000001] at *; omega))), (by repeat (first | exact pm_lies_cat | refine pm_lies.up0 (by decide) ?_)), rfl⟩

set_option maxRecDepth 100000 in
set_option maxHeartbeats 8000000 in
theorem oc_own {B : Nat} {fw : Nat → Int32} {R : List pm_C} {za zb : Int32} {d : Nat} (hdd : 2 ≤ d) : pm_met mX11_own d 0 0 B [.ref (B + 0), .int za, .int zb] 74 (pm_cat (pm_ofL (l_k_class B fw)) 54 R) (pm_Qi (fun v σ' cnt' => v = v_own za zb ∧ pm_lies σ' 54 R ∧ cnt' = 74)) := by
  refine pm_enter 0 (by decide) (Nat.le_of_ble_eq_true rfl) rfl (fun G hG hR hF => ?_)
  refine pm_aloadn hG dX11_own_0 rfl ?_
  refine pm_getf hG dX11_own_1 (flX11_12 _ rfl) rfl rfl ?_
  refine pm_getf hG dX11_own_4 (flX11_82 _ rfl) rfl rfl ?_
  refine pm_iloadn hG dX11_own_7 rfl ?_
  refine pm_callV (As := [.int za]) (rest := []) hG hR dX11_own_8 (lkX11_101 _ rfl) okV_X9_has rfl rfl (tb_has (d := 1) rfl) rfl rfl hdd (by decide) (by decide) (by decide) (pm_ki (fun v σ' cnt' hq => ?_))
  obtain ⟨rfl, rfl, rfl⟩ := hq
  refine pm_top (v := 0) (pm_has0 _) ?_
  refine pm_if_eq (tgt := 25) hG dX11_own_11 rfl (fun _ => ?_) (fun q => absurd q (by decide))
  refine pm_aloadn hG dX11_own_25 rfl ?_
  refine pm_ldc hG dX11_own_26 (ctX11_109 _ rfl) ?_
  refine pm_callV (As := [.int (-1000001)]) (rest := []) hG hR dX11_own_28 (lkX11_97 _ rfl) okV_X11_told rfl rfl (sx_told (d := 1) (by decide) rfl rfl) rfl rfl hdd (by decide) (by decide) (by decide) (pm_ki (fun v σ' cnt' hq => ?_))
  obtain ⟨rfl, ⟨g, rfl⟩, rfl⟩ := hq
  exact pm_iret hG hF dX11_own_31 rfl (by decide) (by decide) ⟨_, rfl, (by clear hF hR hG; first | rfl | (unfold v_own; (repeat' split) <;> first | rfl | (exfalso; simp only [Int32.lt_iff_toInt_lt, Int32.le_iff_toInt_le, ← Int32.toInt_inj, Int32.toInt_zero, L_m1000001] at *; omega) | (apply Int32.toInt_inj.mp; simp only [Int32.lt_iff_toInt_lt, Int32.le_iff_toInt_le, ← Int32.toInt_inj, Int32.toInt_zero, L_m1000001] at *; omega))), (by repeat (first | exact pm_lies_cat | refine pm_lies.up0 (by decide) ?_)), rfl⟩

set_option maxRecDepth 100000 in
set_option maxHeartbeats 8000000 in
theorem oc_debt {B : Nat} {fw : Nat → Int32} {R : List pm_C} {za zb zc : Int32} {d : Nat} (hdd : 2 ≤ d) : pm_met mX11_debt d 0 0 B [.ref (B + 0), .int za, .int zb, .int zc] 74 (pm_cat (pm_ofL (l_k_class B fw)) 54 R) (pm_Qi (fun v σ' cnt' => v = v_debt za zb zc ∧ pm_lies σ' 54 R ∧ cnt' = 74)) := by
  refine pm_enter 2 (by decide) (Nat.le_of_ble_eq_true rfl) rfl (fun G hG hR hF => ?_)
  refine pm_iloadn hG dX11_debt_0 rfl ?_
  refine pm_sipush (v := 10000) hG dX11_debt_1 (by decide) ?_
  refine pm_idiv hG dX11_debt_4 (by decide) ?_
  refine pm_istoreXi (loc' := [some (.ref (B + 0)), some (.int za), some (.int zb), some (.int zc), some (.int (zb / 10000)), none]) hG dX11_debt_5 (by decide) (pm_c1b rfl) rfl ?_
  refine pm_iloadn hG dX11_debt_7 rfl ?_
  refine pm_sipush (v := 10000) hG dX11_debt_8 (by decide) ?_
  refine pm_irem hG dX11_debt_11 (by decide) ?_
  refine pm_istoreXi (loc' := [some (.ref (B + 0)), some (.int za), some (.int zb), some (.int zc), some (.int (zb / 10000)), some (.int (zb - zb / 10000 * 10000))]) hG dX11_debt_12 (by decide) (pm_c1b rfl) rfl ?_
  refine pm_iloadn hG dX11_debt_14 rfl ?_
  refine pm_iconst (v := 0) hG dX11_debt_15 (by decide) ?_
  refine pm_ldcw hG dX11_debt_16 (ctX11_270 _ rfl) ?_
  refine pm_callS (As := [.int za, .int 0, .int 99999]) (rest := []) hG hR dX11_debt_19 (lkX11_105 _ rfl) okS_X11_isOutside (sx_isOutside (d := 1)) rfl rfl hdd (by decide) (by decide) (by decide) (pm_ki (fun v σ' cnt' hq => ?_))
  obtain ⟨rfl, rfl, rfl⟩ := hq
  by_cases c1 : za < 0 ∨ 99999 < za
  · refine pm_top (v := 1) (if_pos c1) ?_
    refine pm_if_ne (tgt := 56) hG dX11_debt_22 rfl (fun _ => ?_) (fun q => absurd q (by decide))
    refine pm_aloadn hG dX11_debt_56 rfl ?_
    refine pm_ldc hG dX11_debt_57 (ctX11_109 _ rfl) ?_
    refine pm_callV (As := [.int (-1000001)]) (rest := []) hG hR dX11_debt_59 (lkX11_97 _ rfl) okV_X11_told rfl rfl (sx_told (d := 1) (by decide) rfl rfl) rfl rfl hdd (by decide) (by decide) (by decide) (pm_ki (fun v σ' cnt' hq => ?_))
    obtain ⟨rfl, ⟨g, rfl⟩, rfl⟩ := hq
    exact pm_iret hG hF dX11_debt_62 rfl (by decide) (by decide) ⟨_, rfl, (by clear hF hR hG; first | rfl | (unfold v_debt; (repeat' split) <;> first | rfl | (exfalso; simp only [Int32.lt_iff_toInt_lt, Int32.le_iff_toInt_le, ← Int32.toInt_inj, Int32.toInt_zero, L_99999, L_m1000001] at *; omega) | (apply Int32.toInt_inj.mp; simp only [Int32.lt_iff_toInt_lt, Int32.le_iff_toInt_le, ← Int32.toInt_inj, Int32.toInt_zero, L_99999, L_m1000001] at *; omega))), (by repeat (first | exact pm_lies_cat | refine pm_lies.up0 (by decide) ?_)), rfl⟩
  · refine pm_top (v := 0) (if_neg c1) ?_
    refine pm_if_ne (tgt := 56) hG dX11_debt_22 rfl (fun q => absurd q (by decide)) (fun _ => ?_)
    refine pm_iloadi hG dX11_debt_25 rfl ?_
    refine pm_iconst (v := 0) hG dX11_debt_27 (by decide) ?_
    refine pm_bipush (v := 99) hG dX11_debt_28 (by decide) ?_
    refine pm_callS (As := [.int (zb / 10000), .int 0, .int 99]) (rest := []) hG hR dX11_debt_30 (lkX11_105 _ rfl) okS_X11_isOutside (sx_isOutside (d := 1)) rfl rfl hdd (by decide) (by decide) (by decide) (pm_ki (fun v σ' cnt' hq => ?_))
    obtain ⟨rfl, rfl, rfl⟩ := hq
    by_cases c2 : (zb / 10000) < 0 ∨ 99 < (zb / 10000)
    · refine pm_top (v := 1) (if_pos c2) ?_
      refine pm_if_ne (tgt := 56) hG dX11_debt_33 rfl (fun _ => ?_) (fun q => absurd q (by decide))
      refine pm_aloadn hG dX11_debt_56 rfl ?_
      refine pm_ldc hG dX11_debt_57 (ctX11_109 _ rfl) ?_
      refine pm_callV (As := [.int (-1000001)]) (rest := []) hG hR dX11_debt_59 (lkX11_97 _ rfl) okV_X11_told rfl rfl (sx_told (d := 1) (by decide) rfl rfl) rfl rfl hdd (by decide) (by decide) (by decide) (pm_ki (fun v σ' cnt' hq => ?_))
      obtain ⟨rfl, ⟨g, rfl⟩, rfl⟩ := hq
      exact pm_iret hG hF dX11_debt_62 rfl (by decide) (by decide) ⟨_, rfl, (by clear hF hR hG; first | rfl | (unfold v_debt; (repeat' split) <;> first | rfl | (exfalso; simp only [Int32.lt_iff_toInt_lt, Int32.le_iff_toInt_le, ← Int32.toInt_inj, Int32.toInt_zero, L_99, L_99999, L_m1000001] at *; omega) | (apply Int32.toInt_inj.mp; simp only [Int32.lt_iff_toInt_lt, Int32.le_iff_toInt_le, ← Int32.toInt_inj, Int32.toInt_zero, L_99, L_99999, L_m1000001] at *; omega))), (by repeat (first | exact pm_lies_cat | refine pm_lies.up0 (by decide) ?_)), rfl⟩
    · refine pm_top (v := 0) (if_neg c2) ?_
      refine pm_if_ne (tgt := 56) hG dX11_debt_33 rfl (fun q => absurd q (by decide)) (fun _ => ?_)
      refine pm_iloadi hG dX11_debt_36 rfl ?_
      refine pm_iconst (v := 1) hG dX11_debt_38 (by decide) ?_
      refine pm_icmp_lt (tgt := 56) hG dX11_debt_39 rfl (fun c3 => ?_) (fun c3 => ?_)
      · refine pm_aloadn hG dX11_debt_56 rfl ?_
        refine pm_ldc hG dX11_debt_57 (ctX11_109 _ rfl) ?_
        refine pm_callV (As := [.int (-1000001)]) (rest := []) hG hR dX11_debt_59 (lkX11_97 _ rfl) okV_X11_told rfl rfl (sx_told (d := 1) (by decide) rfl rfl) rfl rfl hdd (by decide) (by decide) (by decide) (pm_ki (fun v σ' cnt' hq => ?_))
        obtain ⟨rfl, ⟨g, rfl⟩, rfl⟩ := hq
        exact pm_iret hG hF dX11_debt_62 rfl (by decide) (by decide) ⟨_, rfl, (by clear hF hR hG; first | rfl | (unfold v_debt; (repeat' split) <;> first | rfl | (exfalso; simp only [Int32.lt_iff_toInt_lt, Int32.le_iff_toInt_le, ← Int32.toInt_inj, Int32.toInt_zero, L_1, L_99, L_99999, L_m1000001] at *; omega) | (apply Int32.toInt_inj.mp; simp only [Int32.lt_iff_toInt_lt, Int32.le_iff_toInt_le, ← Int32.toInt_inj, Int32.toInt_zero, L_1, L_99, L_99999, L_m1000001] at *; omega))), (by repeat (first | exact pm_lies_cat | refine pm_lies.up0 (by decide) ?_)), rfl⟩
      · refine pm_aloadn hG dX11_debt_42 rfl ?_
        refine pm_getf hG dX11_debt_43 (flX11_12 _ rfl) rfl rfl ?_
        refine pm_getf hG dX11_debt_46 (flX11_82 _ rfl) rfl rfl ?_
        refine pm_iloadn hG dX11_debt_49 rfl ?_
        refine pm_callV (As := [.int zc]) (rest := []) hG hR dX11_debt_50 (lkX11_101 _ rfl) okV_X9_has rfl rfl (tb_has (d := 1) rfl) rfl rfl hdd (by decide) (by decide) (by decide) (pm_ki (fun v σ' cnt' hq => ?_))
        obtain ⟨rfl, rfl, rfl⟩ := hq
        refine pm_top (v := 0) (pm_has0 _) ?_
        refine pm_if_ne (tgt := 63) hG dX11_debt_53 rfl (fun q => absurd q (by decide)) (fun _ => ?_)
        refine pm_aloadn hG dX11_debt_56 rfl ?_
        refine pm_ldc hG dX11_debt_57 (ctX11_109 _ rfl) ?_
        refine pm_callV (As := [.int (-1000001)]) (rest := []) hG hR dX11_debt_59 (lkX11_97 _ rfl) okV_X11_told rfl rfl (sx_told (d := 1) (by decide) rfl rfl) rfl rfl hdd (by decide) (by decide) (by decide) (pm_ki (fun v σ' cnt' hq => ?_))
        obtain ⟨rfl, ⟨g, rfl⟩, rfl⟩ := hq
        exact pm_iret hG hF dX11_debt_62 rfl (by decide) (by decide) ⟨_, rfl, (by clear hF hR hG; first | rfl | (unfold v_debt; (repeat' split) <;> first | rfl | (exfalso; simp only [Int32.lt_iff_toInt_lt, Int32.le_iff_toInt_le, ← Int32.toInt_inj, Int32.toInt_zero, L_1, L_99, L_99999, L_m1000001] at *; omega) | (apply Int32.toInt_inj.mp; simp only [Int32.lt_iff_toInt_lt, Int32.le_iff_toInt_le, ← Int32.toInt_inj, Int32.toInt_zero, L_1, L_99, L_99999, L_m1000001] at *; omega))), (by repeat (first | exact pm_lies_cat | refine pm_lies.up0 (by decide) ?_)), rfl⟩

set_option maxRecDepth 100000 in
set_option maxHeartbeats 8000000 in
theorem oc_owed {B : Nat} {fw : Nat → Int32} {R : List pm_C} {za zb : Int32} {d : Nat} (hdd : 2 ≤ d) : pm_met mX11_owed d 0 0 B [.ref (B + 0), .int za, .int zb] 74 (pm_cat (pm_ofL (l_k_class B fw)) 54 R) (pm_Qi (fun v σ' cnt' => v = v_owed za zb ∧ pm_lies σ' 54 R ∧ cnt' = 74)) := by
  refine pm_enter 1 (by decide) (Nat.le_of_ble_eq_true rfl) rfl (fun G hG hR hF => ?_)
  refine pm_aloadn hG dX11_owed_0 rfl ?_
  refine pm_getf hG dX11_owed_1 (flX11_12 _ rfl) rfl rfl ?_
  refine pm_getf hG dX11_owed_4 (flX11_271 _ rfl) rfl rfl ?_
  refine pm_iloadn hG dX11_owed_7 rfl ?_
  refine pm_callV (As := [.int za]) (rest := []) hG hR dX11_owed_8 (lkX11_101 _ rfl) okV_X9_has rfl rfl (tb_has (d := 1) rfl) rfl rfl hdd (by decide) (by decide) (by decide) (pm_ki (fun v σ' cnt' hq => ?_))
  obtain ⟨rfl, rfl, rfl⟩ := hq
  refine pm_top (v := 0) (pm_has0 _) ?_
  refine pm_if_ne (tgt := 21) hG dX11_owed_11 rfl (fun q => absurd q (by decide)) (fun _ => ?_)
  refine pm_aloadn hG dX11_owed_14 rfl ?_
  refine pm_ldc hG dX11_owed_15 (ctX11_109 _ rfl) ?_
  refine pm_callV (As := [.int (-1000001)]) (rest := []) hG hR dX11_owed_17 (lkX11_97 _ rfl) okV_X11_told rfl rfl (sx_told (d := 1) (by decide) rfl rfl) rfl rfl hdd (by decide) (by decide) (by decide) (pm_ki (fun v σ' cnt' hq => ?_))
  obtain ⟨rfl, ⟨g, rfl⟩, rfl⟩ := hq
  exact pm_iret hG hF dX11_owed_20 rfl (by decide) (by decide) ⟨_, rfl, (by clear hF hR hG; first | rfl | (unfold v_owed; (repeat' split) <;> first | rfl | (exfalso; simp only [Int32.lt_iff_toInt_lt, Int32.le_iff_toInt_le, ← Int32.toInt_inj, Int32.toInt_zero, L_m1000001] at *; omega) | (apply Int32.toInt_inj.mp; simp only [Int32.lt_iff_toInt_lt, Int32.le_iff_toInt_le, ← Int32.toInt_inj, Int32.toInt_zero, L_m1000001] at *; omega))), (by repeat (first | exact pm_lies_cat | refine pm_lies.up0 (by decide) ?_)), rfl⟩

set_option maxRecDepth 100000 in
set_option maxHeartbeats 8000000 in
theorem oc_seat {B : Nat} {fw : Nat → Int32} {R : List pm_C} {za zb : Int32} {d : Nat} (hdd : 2 ≤ d) : pm_met mX11_seat d 0 0 B [.ref (B + 0), .int za, .int zb] 74 (pm_cat (pm_ofL (l_k_class B fw)) 54 R) (pm_Qi (fun v σ' cnt' => v = v_seat za zb ∧ pm_lies σ' 54 R ∧ cnt' = 74)) := by
  refine pm_enter 1 (by decide) (Nat.le_of_ble_eq_true rfl) rfl (fun G hG hR hF => ?_)
  refine pm_aloadn hG dX11_seat_0 rfl ?_
  refine pm_getf hG dX11_seat_1 (flX11_12 _ rfl) rfl rfl ?_
  refine pm_getf hG dX11_seat_4 (flX11_128 _ rfl) rfl rfl ?_
  refine pm_iloadn hG dX11_seat_7 rfl ?_
  refine pm_callV (As := [.int za]) (rest := []) hG hR dX11_seat_8 (lkX11_101 _ rfl) okV_X9_has rfl rfl (tb_has (d := 1) rfl) rfl rfl hdd (by decide) (by decide) (by decide) (pm_ki (fun v σ' cnt' hq => ?_))
  obtain ⟨rfl, rfl, rfl⟩ := hq
  refine pm_top (v := 0) (pm_has0 _) ?_
  refine pm_if_ne (tgt := 21) hG dX11_seat_11 rfl (fun q => absurd q (by decide)) (fun _ => ?_)
  refine pm_aloadn hG dX11_seat_14 rfl ?_
  refine pm_ldc hG dX11_seat_15 (ctX11_109 _ rfl) ?_
  refine pm_callV (As := [.int (-1000001)]) (rest := []) hG hR dX11_seat_17 (lkX11_97 _ rfl) okV_X11_told rfl rfl (sx_told (d := 1) (by decide) rfl rfl) rfl rfl hdd (by decide) (by decide) (by decide) (pm_ki (fun v σ' cnt' hq => ?_))
  obtain ⟨rfl, ⟨g, rfl⟩, rfl⟩ := hq
  exact pm_iret hG hF dX11_seat_20 rfl (by decide) (by decide) ⟨_, rfl, (by clear hF hR hG; first | rfl | (unfold v_seat; (repeat' split) <;> first | rfl | (exfalso; simp only [Int32.lt_iff_toInt_lt, Int32.le_iff_toInt_le, ← Int32.toInt_inj, Int32.toInt_zero, L_m1000001] at *; omega) | (apply Int32.toInt_inj.mp; simp only [Int32.lt_iff_toInt_lt, Int32.le_iff_toInt_le, ← Int32.toInt_inj, Int32.toInt_zero, L_m1000001] at *; omega))), (by repeat (first | exact pm_lies_cat | refine pm_lies.up0 (by decide) ?_)), rfl⟩

set_option maxRecDepth 100000 in
set_option maxHeartbeats 8000000 in
theorem oc_promise {B : Nat} {fw : Nat → Int32} {R : List pm_C} {za zb zc zd : Int32} {d : Nat} (hdd : 2 ≤ d) : pm_met mX11_promise d 0 0 B [.ref (B + 0), .int za, .int zb, .int zc, .int zd] 74 (pm_cat (pm_ofL (l_k_class B fw)) 54 R) (pm_Qi (fun v σ' cnt' => v = v_promise za zb zc zd ∧ pm_lies σ' 54 R ∧ cnt' = 74)) := by
  refine pm_enter 0 (by decide) (Nat.le_of_ble_eq_true rfl) rfl (fun G hG hR hF => ?_)
  refine pm_aloadn hG dX11_promise_0 rfl ?_
  refine pm_getf hG dX11_promise_1 (flX11_12 _ rfl) rfl rfl ?_
  refine pm_getf hG dX11_promise_4 (flX11_128 _ rfl) rfl rfl ?_
  refine pm_iloadn hG dX11_promise_7 rfl ?_
  refine pm_callV (As := [.int za]) (rest := []) hG hR dX11_promise_8 (lkX11_101 _ rfl) okV_X9_has rfl rfl (tb_has (d := 1) rfl) rfl rfl hdd (by decide) (by decide) (by decide) (pm_ki (fun v σ' cnt' hq => ?_))
  obtain ⟨rfl, rfl, rfl⟩ := hq
  refine pm_top (v := 0) (pm_has0 _) ?_
  refine pm_if_eq (tgt := 40) hG dX11_promise_11 rfl (fun _ => ?_) (fun q => absurd q (by decide))
  refine pm_aloadn hG dX11_promise_40 rfl ?_
  refine pm_ldc hG dX11_promise_41 (ctX11_109 _ rfl) ?_
  refine pm_callV (As := [.int (-1000001)]) (rest := []) hG hR dX11_promise_43 (lkX11_97 _ rfl) okV_X11_told rfl rfl (sx_told (d := 1) (by decide) rfl rfl) rfl rfl hdd (by decide) (by decide) (by decide) (pm_ki (fun v σ' cnt' hq => ?_))
  obtain ⟨rfl, ⟨g, rfl⟩, rfl⟩ := hq
  exact pm_iret hG hF dX11_promise_46 rfl (by decide) (by decide) ⟨_, rfl, (by clear hF hR hG; first | rfl | (unfold v_promise; (repeat' split) <;> first | rfl | (exfalso; simp only [Int32.lt_iff_toInt_lt, Int32.le_iff_toInt_le, ← Int32.toInt_inj, Int32.toInt_zero, L_m1000001] at *; omega) | (apply Int32.toInt_inj.mp; simp only [Int32.lt_iff_toInt_lt, Int32.le_iff_toInt_le, ← Int32.toInt_inj, Int32.toInt_zero, L_m1000001] at *; omega))), (by repeat (first | exact pm_lies_cat | refine pm_lies.up0 (by decide) ?_)), rfl⟩

set_option maxRecDepth 100000 in
set_option maxHeartbeats 8000000 in
theorem oc_breaks {B : Nat} {fw : Nat → Int32} {R : List pm_C} {za : Int32} {d : Nat} (hdd : 2 ≤ d) : pm_met mX11_breaks d 0 0 B [.ref (B + 0), .int za] 74 (pm_cat (pm_ofL (l_k_class B fw)) 54 R) (pm_Qi (fun v σ' cnt' => v = v_breaks za ∧ pm_lies σ' 54 R ∧ cnt' = 74)) := by
  refine pm_enter 0 (by decide) (Nat.le_of_ble_eq_true rfl) rfl (fun G hG hR hF => ?_)
  refine pm_aloadn hG dX11_breaks_0 rfl ?_
  refine pm_getf hG dX11_breaks_1 (flX11_12 _ rfl) rfl rfl ?_
  refine pm_getf hG dX11_breaks_4 (flX11_277 _ rfl) rfl rfl ?_
  refine pm_iloadn hG dX11_breaks_7 rfl ?_
  refine pm_callV (As := [.int za]) (rest := []) hG hR dX11_breaks_8 (lkX11_101 _ rfl) okV_X9_has rfl rfl (tb_has (d := 1) rfl) rfl rfl hdd (by decide) (by decide) (by decide) (pm_ki (fun v σ' cnt' hq => ?_))
  obtain ⟨rfl, rfl, rfl⟩ := hq
  refine pm_top (v := 0) (pm_has0 _) ?_
  refine pm_if_ne (tgt := 21) hG dX11_breaks_11 rfl (fun q => absurd q (by decide)) (fun _ => ?_)
  refine pm_aloadn hG dX11_breaks_14 rfl ?_
  refine pm_ldc hG dX11_breaks_15 (ctX11_109 _ rfl) ?_
  refine pm_callV (As := [.int (-1000001)]) (rest := []) hG hR dX11_breaks_17 (lkX11_97 _ rfl) okV_X11_told rfl rfl (sx_told (d := 1) (by decide) rfl rfl) rfl rfl hdd (by decide) (by decide) (by decide) (pm_ki (fun v σ' cnt' hq => ?_))
  obtain ⟨rfl, ⟨g, rfl⟩, rfl⟩ := hq
  exact pm_iret hG hF dX11_breaks_20 rfl (by decide) (by decide) ⟨_, rfl, (by clear hF hR hG; first | rfl | (unfold v_breaks; (repeat' split) <;> first | rfl | (exfalso; simp only [Int32.lt_iff_toInt_lt, Int32.le_iff_toInt_le, ← Int32.toInt_inj, Int32.toInt_zero, L_m1000001] at *; omega) | (apply Int32.toInt_inj.mp; simp only [Int32.lt_iff_toInt_lt, Int32.le_iff_toInt_le, ← Int32.toInt_inj, Int32.toInt_zero, L_m1000001] at *; omega))), (by repeat (first | exact pm_lies_cat | refine pm_lies.up0 (by decide) ?_)), rfl⟩

set_option maxRecDepth 100000 in
set_option maxHeartbeats 8000000 in
theorem oc_price {B : Nat} {fw : Nat → Int32} {R : List pm_C} {za zb : Int32} {d : Nat} (hdd : 2 ≤ d) : pm_met mX11_price d 0 0 B [.ref (B + 0), .int za, .int zb] 74 (pm_cat (pm_ofL (l_k_class B fw)) 54 R) (pm_Qi (fun v σ' cnt' => v = v_price za zb ∧ pm_lies σ' 54 R ∧ cnt' = 74)) := by
  refine pm_enter 0 (by decide) (Nat.le_of_ble_eq_true rfl) rfl (fun G hG hR hF => ?_)
  refine pm_aloadn hG dX11_price_0 rfl ?_
  refine pm_getf hG dX11_price_1 (flX11_12 _ rfl) rfl rfl ?_
  refine pm_getf hG dX11_price_4 (flX11_128 _ rfl) rfl rfl ?_
  refine pm_iloadn hG dX11_price_7 rfl ?_
  refine pm_callV (As := [.int za]) (rest := []) hG hR dX11_price_8 (lkX11_101 _ rfl) okV_X9_has rfl rfl (tb_has (d := 1) rfl) rfl rfl hdd (by decide) (by decide) (by decide) (pm_ki (fun v σ' cnt' hq => ?_))
  obtain ⟨rfl, rfl, rfl⟩ := hq
  refine pm_top (v := 0) (pm_has0 _) ?_
  refine pm_if_eq (tgt := 25) hG dX11_price_11 rfl (fun _ => ?_) (fun q => absurd q (by decide))
  refine pm_aloadn hG dX11_price_25 rfl ?_
  refine pm_ldc hG dX11_price_26 (ctX11_109 _ rfl) ?_
  refine pm_callV (As := [.int (-1000001)]) (rest := []) hG hR dX11_price_28 (lkX11_97 _ rfl) okV_X11_told rfl rfl (sx_told (d := 1) (by decide) rfl rfl) rfl rfl hdd (by decide) (by decide) (by decide) (pm_ki (fun v σ' cnt' hq => ?_))
  obtain ⟨rfl, ⟨g, rfl⟩, rfl⟩ := hq
  exact pm_iret hG hF dX11_price_31 rfl (by decide) (by decide) ⟨_, rfl, (by clear hF hR hG; first | rfl | (unfold v_price; (repeat' split) <;> first | rfl | (exfalso; simp only [Int32.lt_iff_toInt_lt, Int32.le_iff_toInt_le, ← Int32.toInt_inj, Int32.toInt_zero, L_m1000001] at *; omega) | (apply Int32.toInt_inj.mp; simp only [Int32.lt_iff_toInt_lt, Int32.le_iff_toInt_le, ← Int32.toInt_inj, Int32.toInt_zero, L_m1000001] at *; omega))), (by repeat (first | exact pm_lies_cat | refine pm_lies.up0 (by decide) ?_)), rfl⟩

set_option maxRecDepth 100000 in
set_option maxHeartbeats 8000000 in
theorem oc_after {B : Nat} {fw : Nat → Int32} {R : List pm_C} {za : Int32} {d : Nat} (hdd : 2 ≤ d) : pm_met mX11_after d 0 0 B [.ref (B + 0), .int za] 74 (pm_cat (pm_ofL (l_k_class B fw)) 54 R) (pm_Qi (fun v σ' cnt' => v = v_after za ∧ pm_lies σ' 54 R ∧ cnt' = 74)) := by
  refine pm_enter 0 (by decide) (Nat.le_of_ble_eq_true rfl) rfl (fun G hG hR hF => ?_)
  refine pm_aloadn hG dX11_after_0 rfl ?_
  refine pm_aloadn hG dX11_after_1 rfl ?_
  refine pm_getf hG dX11_after_2 (flX11_12 _ rfl) rfl rfl ?_
  refine pm_getf hG dX11_after_5 (flX11_161 _ rfl) rfl rfl ?_
  refine pm_iloadn hG dX11_after_8 rfl ?_
  refine pm_callV (As := [.int za]) (rest := [.ref (B + 0)]) hG hR dX11_after_9 (lkX11_101 _ rfl) okV_X9_has rfl rfl (tb_has (d := 1) rfl) rfl rfl hdd (by decide) (by decide) (by first | decide | exact Nat.le_of_ble_eq_true rfl) (pm_ki (fun v σ' cnt' hq => ?_))
  obtain ⟨rfl, rfl, rfl⟩ := hq
  refine pm_top (v := 0) (pm_has0 _) ?_
  refine pm_if_eq (tgt := 26) hG dX11_after_12 rfl (fun _ => ?_) (fun q => absurd q (by decide))
  refine pm_ldc hG dX11_after_26 (ctX11_109 _ rfl) ?_
  refine pm_callV (As := [.int (-1000001)]) (rest := []) hG hR dX11_after_28 (lkX11_97 _ rfl) okV_X11_told rfl rfl (sx_told (d := 1) (by decide) rfl rfl) rfl rfl hdd (by decide) (by decide) (by decide) (pm_ki (fun v σ' cnt' hq => ?_))
  obtain ⟨rfl, ⟨g, rfl⟩, rfl⟩ := hq
  exact pm_iret hG hF dX11_after_31 rfl (by decide) (by decide) ⟨_, rfl, (by clear hF hR hG; first | rfl | (unfold v_after; (repeat' split) <;> first | rfl | (exfalso; simp only [Int32.lt_iff_toInt_lt, Int32.le_iff_toInt_le, ← Int32.toInt_inj, Int32.toInt_zero, L_m1000001] at *; omega) | (apply Int32.toInt_inj.mp; simp only [Int32.lt_iff_toInt_lt, Int32.le_iff_toInt_le, ← Int32.toInt_inj, Int32.toInt_zero, L_m1000001] at *; omega))), (by repeat (first | exact pm_lies_cat | refine pm_lies.up0 (by decide) ?_)), rfl⟩

set_option maxRecDepth 100000 in
set_option maxHeartbeats 8000000 in
theorem oc_voice {B : Nat} {fw : Nat → Int32} {R : List pm_C} {za zb zc : Int32} {d : Nat} (hdd : 2 ≤ d) : pm_met mX11_voice d 0 0 B [.ref (B + 0), .int za, .int zb, .int zc] 74 (pm_cat (pm_ofL (l_k_class B fw)) 54 R) (pm_Qi (fun v σ' cnt' => v = v_voice za zb zc ∧ pm_lies σ' 54 R ∧ cnt' = 74)) := by
  refine pm_enter 0 (by decide) (Nat.le_of_ble_eq_true rfl) rfl (fun G hG hR hF => ?_)
  refine pm_aloadn hG dX11_voice_0 rfl ?_
  refine pm_getf hG dX11_voice_1 (flX11_12 _ rfl) rfl rfl ?_
  refine pm_getf hG dX11_voice_4 (flX11_161 _ rfl) rfl rfl ?_
  refine pm_iloadn hG dX11_voice_7 rfl ?_
  refine pm_callV (As := [.int za]) (rest := []) hG hR dX11_voice_8 (lkX11_101 _ rfl) okV_X9_has rfl rfl (tb_has (d := 1) rfl) rfl rfl hdd (by decide) (by decide) (by decide) (pm_ki (fun v σ' cnt' hq => ?_))
  obtain ⟨rfl, rfl, rfl⟩ := hq
  refine pm_top (v := 0) (pm_has0 _) ?_
  refine pm_if_eq (tgt := 23) hG dX11_voice_11 rfl (fun _ => ?_) (fun q => absurd q (by decide))
  refine pm_aloadn hG dX11_voice_23 rfl ?_
  refine pm_ldc hG dX11_voice_24 (ctX11_109 _ rfl) ?_
  refine pm_callV (As := [.int (-1000001)]) (rest := []) hG hR dX11_voice_26 (lkX11_97 _ rfl) okV_X11_told rfl rfl (sx_told (d := 1) (by decide) rfl rfl) rfl rfl hdd (by decide) (by decide) (by decide) (pm_ki (fun v σ' cnt' hq => ?_))
  obtain ⟨rfl, ⟨g, rfl⟩, rfl⟩ := hq
  exact pm_iret hG hF dX11_voice_29 rfl (by decide) (by decide) ⟨_, rfl, (by clear hF hR hG; first | rfl | (unfold v_voice; (repeat' split) <;> first | rfl | (exfalso; simp only [Int32.lt_iff_toInt_lt, Int32.le_iff_toInt_le, ← Int32.toInt_inj, Int32.toInt_zero, L_m1000001] at *; omega) | (apply Int32.toInt_inj.mp; simp only [Int32.lt_iff_toInt_lt, Int32.le_iff_toInt_le, ← Int32.toInt_inj, Int32.toInt_zero, L_m1000001] at *; omega))), (by repeat (first | exact pm_lies_cat | refine pm_lies.up0 (by decide) ?_)), rfl⟩

set_option maxRecDepth 100000 in
set_option maxHeartbeats 4000000 in
theorem fc_X9_append_2 {B : Nat} {fw : Nat → Int32} {R : List pm_C} {d : Nat} (hdd : 2 ≤ d) : pm_met mX9_append d 0 0 B [.ref (B + 2), .int 0] 74 (pm_cat (pm_ofL (l_k_class B fw)) 54 R) (pm_Qi (fun v σ' cnt' => v = 0 ∧ σ' = (pm_up (pm_up (pm_up (pm_up (pm_cat (pm_ofL (l_k_class B fw)) 54 R) 2 (.inr (9, [.int 10, .int 3, .ref (B + 3), .int 1]))) 3 (.inl (30, pm_ts 10 3 (fun _ => 0) 0 1 0))) 3 (.inl (30, pm_ts 10 3 (pm_ts 10 3 (fun _ => 0) 0 1 0) 0 2 0))) 3 (.inl (30, pm_ts 10 3 (pm_ts 10 3 (pm_ts 10 3 (fun _ => 0) 0 1 0) 0 2 0) 0 0 0))) ∧ cnt' = 74)) := by
  refine pm_enter 2 (by decide) (Nat.le_of_ble_eq_true rfl) rfl (fun G hG hR hF => ?_)
  refine pm_aloadn hG dX9_append_0 rfl ?_
  refine pm_callV (As := []) (rest := []) hG hR dX9_append_1 (lkX9_39 _ rfl) okV_X9_isFull rfl rfl (tb_isFull (d := 1) rfl) rfl rfl hdd (by decide) (by decide) (by decide) (pm_ki (fun v σ' cnt' hq => ?_))
  obtain ⟨rfl, rfl, rfl⟩ := hq
  refine pm_top (v := 0) (by decide) ?_
  refine pm_if_eq (tgt := 9) hG dX9_append_4 rfl (fun _ => ?_) (fun q => absurd q (by decide))
  refine pm_aloadn hG dX9_append_9 rfl ?_
  refine pm_getf hG dX9_append_10 (flX9_29 _ rfl) rfl rfl ?_
  refine pm_istoreXn (loc' := [some (.ref (B + 2)), some (.int 0), some (.int 0), none]) hG dX9_append_13 (by decide) (pm_c1b rfl) rfl ?_
  refine pm_aloadn hG dX9_append_14 rfl ?_
  refine pm_dup hG dX9_append_15 rfl ?_
  refine pm_getf hG dX9_append_16 (flX9_29 _ rfl) rfl rfl ?_
  refine pm_iconst (v := 1) hG dX9_append_19 (by decide) ?_
  refine pm_iadd hG dX9_append_20 ?_
  refine pm_top (v := 1) (by decide) ?_
  refine pm_putf hG dX9_append_21 (fwX9_29 _ rfl) rfl rfl rfl ?_
  refine pm_iconst (v := 1) hG dX9_append_24 (by decide) ?_
  refine pm_istoreXn (loc' := [some (.ref (B + 2)), some (.int 0), some (.int 0), some (.int 1)]) hG dX9_append_25 (by decide) (pm_c1b rfl) rfl ?_
  refine pm_iloadn hG dX9_append_26 rfl ?_
  refine pm_aloadn hG dX9_append_27 rfl ?_
  refine pm_getf hG dX9_append_28 (flX9_22 _ rfl) rfl rfl ?_
  refine pm_icmp_ge (tgt := 47) hG dX9_append_31 rfl (fun q => absurd q (by decide)) (fun _ => ?_)
  refine pm_aloadn hG dX9_append_34 rfl ?_
  refine pm_iloadn hG dX9_append_35 rfl ?_
  refine pm_iloadn hG dX9_append_36 rfl ?_
  refine pm_iconst (v := 0) hG dX9_append_37 (by decide) ?_
  refine pm_callV (As := [.int 0, .int 1, .int 0]) (rest := []) hG hR dX9_append_38 (lkX9_35 _ rfl) okV_X9_set rfl rfl (tb_set (d := 1) rfl rfl (pm_tw_of 10 3 (by decide) (by decide) (by decide)) (by decide)) rfl rfl hdd (by decide) (by decide) (by decide) (pm_kv (fun σ' cnt' hq => ?_))
  obtain ⟨rfl, rfl⟩ := hq
  refine pm_iincX (v := 2) (loc' := [some (.ref (B + 2)), some (.int 0), some (.int 0), some (.int 2)]) hG dX9_append_41 rfl (by rfl) (by decide) (pm_c1b rfl) rfl ?_
  refine pm_goto (tgt := 26) hG dX9_append_44 rfl ?_
  refine pm_iloadn hG dX9_append_26 rfl ?_
  refine pm_aloadn hG dX9_append_27 rfl ?_
  refine pm_getf hG dX9_append_28 (flX9_22 _ rfl) rfl rfl ?_
  refine pm_icmp_ge (tgt := 47) hG dX9_append_31 rfl (fun q => absurd q (by decide)) (fun _ => ?_)
  refine pm_aloadn hG dX9_append_34 rfl ?_
  refine pm_iloadn hG dX9_append_35 rfl ?_
  refine pm_iloadn hG dX9_append_36 rfl ?_
  refine pm_iconst (v := 0) hG dX9_append_37 (by decide) ?_
  refine pm_callV (As := [.int 0, .int 2, .int 0]) (rest := []) hG hR dX9_append_38 (lkX9_35 _ rfl) okV_X9_set rfl rfl (tb_set (d := 1) rfl rfl (pm_tw_of 10 3 (by decide) (by decide) (by decide)) (by decide)) rfl rfl hdd (by decide) (by decide) (by decide) (pm_kv (fun σ' cnt' hq => ?_))
  obtain ⟨rfl, rfl⟩ := hq
  refine pm_iincX (v := 3) (loc' := [some (.ref (B + 2)), some (.int 0), some (.int 0), some (.int 3)]) hG dX9_append_41 rfl (by rfl) (by decide) (pm_c1b rfl) rfl ?_
  refine pm_goto (tgt := 26) hG dX9_append_44 rfl ?_
  refine pm_iloadn hG dX9_append_26 rfl ?_
  refine pm_aloadn hG dX9_append_27 rfl ?_
  refine pm_getf hG dX9_append_28 (flX9_22 _ rfl) rfl rfl ?_
  refine pm_icmp_ge (tgt := 47) hG dX9_append_31 rfl (fun _ => ?_) (fun q => absurd q (by decide))
  refine pm_aloadn hG dX9_append_47 rfl ?_
  refine pm_iloadn hG dX9_append_48 rfl ?_
  refine pm_iconst (v := 0) hG dX9_append_49 (by decide) ?_
  refine pm_iloadn hG dX9_append_50 rfl ?_
  refine pm_callV (As := [.int 0, .int 0, .int 0]) (rest := []) hG hR dX9_append_51 (lkX9_35 _ rfl) okV_X9_set rfl rfl (tb_set (d := 1) rfl rfl (pm_tw_of 10 3 (by decide) (by decide) (by decide)) (by decide)) rfl rfl hdd (by decide) (by decide) (by decide) (pm_kv (fun σ' cnt' hq => ?_))
  obtain ⟨rfl, rfl⟩ := hq
  refine pm_iloadn hG dX9_append_54 rfl ?_
  exact pm_iret hG hF dX9_append_55 rfl (by decide) (by decide) ⟨_, rfl, ⟨rfl, rfl, rfl⟩⟩

set_option maxRecDepth 100000 in
set_option maxHeartbeats 4000000 in
theorem fc_X7_addTown_1 {B : Nat} {fw : Nat → Int32} {R : List pm_C} {d : Nat} (hdd : 3 ≤ d) : pm_met mX7_addTown d 0 0 B [.ref (B + 1)] 74 (pm_cat (pm_ofL (l_k_class B fw)) 54 R) (pm_Qi (fun v σ' cnt' => v = 0 ∧ σ' = (pm_up (pm_up (pm_up (pm_up (pm_up (pm_cat (pm_ofL (l_k_class B fw)) 54 R) 2 (.inr (9, [.int 10, .int 3, .ref (B + 3), .int 1]))) 3 (.inl (30, pm_ts 10 3 (fun _ => 0) 0 1 0))) 3 (.inl (30, pm_ts 10 3 (pm_ts 10 3 (fun _ => 0) 0 1 0) 0 2 0))) 3 (.inl (30, pm_ts 10 3 (pm_ts 10 3 (pm_ts 10 3 (fun _ => 0) 0 1 0) 0 2 0) 0 0 0))) 3 (.inl (30, pm_ts 10 3 (pm_ts 10 3 (pm_ts 10 3 (pm_ts 10 3 (fun _ => 0) 0 1 0) 0 2 0) 0 0 0) 0 1 (-1)))) ∧ cnt' = 74)) := by
  refine pm_enter 1 (by decide) (Nat.le_of_ble_eq_true rfl) rfl (fun G hG hR hF => ?_)
  refine pm_aloadn hG dX7_addTown_0 rfl ?_
  refine pm_getf hG dX7_addTown_1 (flX7_14 _ rfl) rfl rfl ?_
  refine pm_iconst (v := 0) hG dX7_addTown_4 (by decide) ?_
  refine pm_callV (As := [.int 0]) (rest := []) hG hR dX7_addTown_5 (lkX7_75 _ rfl) okV_X9_append rfl rfl (fc_X9_append_2 (d := 2) (by decide)) rfl rfl hdd (by decide) (by decide) (by decide) (pm_ki (fun v σ' cnt' hq => ?_))
  obtain ⟨rfl, rfl, rfl⟩ := hq
  refine pm_istoreXn (loc' := [some (.ref (B + 1)), some (.int 0)]) hG dX7_addTown_8 (by decide) (pm_c1b rfl) rfl ?_
  refine pm_aloadn hG dX7_addTown_9 rfl ?_
  refine pm_getf hG dX7_addTown_10 (flX7_14 _ rfl) rfl rfl ?_
  refine pm_iloadn hG dX7_addTown_13 rfl ?_
  refine pm_iconst (v := 1) hG dX7_addTown_14 (by decide) ?_
  refine pm_iconst (v := (-1)) hG dX7_addTown_15 (by decide) ?_
  refine pm_callV (As := [.int 0, .int 1, .int (-1)]) (rest := []) hG hR dX7_addTown_16 (lkX7_61 _ rfl) okV_X9_set rfl rfl (tb_set (d := 2) rfl rfl (pm_tw_of 10 3 (by decide) (by decide) (by decide)) (by decide)) rfl rfl hdd (by decide) (by decide) (by decide) (pm_kv (fun σ' cnt' hq => ?_))
  obtain ⟨rfl, rfl⟩ := hq
  refine pm_iloadn hG dX7_addTown_19 rfl ?_
  exact pm_iret hG hF dX7_addTown_20 rfl (by decide) (by decide) ⟨_, rfl, ⟨rfl, rfl, rfl⟩⟩

set_option maxRecDepth 100000 in
set_option maxHeartbeats 8000000 in
theorem oc_town {B : Nat} {fw : Nat → Int32} {R : List pm_C} {d : Nat} (hdd : 4 ≤ d) : pm_met mX11_town d 0 0 B [.ref (B + 0)] 74 (pm_cat (pm_ofL (l_k_class B fw)) 54 R) (pm_Qi (fun v σ' cnt' => v = v_town ∧ pm_lies σ' 54 R ∧ cnt' = 74)) := by
  refine pm_enter 0 (by decide) (Nat.le_of_ble_eq_true rfl) rfl (fun G hG hR hF => ?_)
  refine pm_aloadn hG dX11_town_0 rfl ?_
  refine pm_aloadn hG dX11_town_1 rfl ?_
  refine pm_getf hG dX11_town_2 (flX11_12 _ rfl) rfl rfl ?_
  refine pm_getf hG dX11_town_5 (flX11_82 _ rfl) rfl rfl ?_
  refine pm_callV (As := []) (rest := [.ref (B + 0)]) hG hR dX11_town_8 (lkX11_86 _ rfl) okV_X9_isFull rfl rfl (tb_isFull (d := 3) rfl) rfl rfl hdd (by decide) (by decide) (by first | decide | exact Nat.le_of_ble_eq_true rfl) (pm_ki (fun v σ' cnt' hq => ?_))
  obtain ⟨rfl, rfl, rfl⟩ := hq
  refine pm_top (v := 0) (by decide) ?_
  refine pm_if_eq (tgt := 19) hG dX11_town_11 rfl (fun _ => ?_) (fun q => absurd q (by decide))
  refine pm_aloadn hG dX11_town_19 rfl ?_
  refine pm_getf hG dX11_town_20 (flX11_12 _ rfl) rfl rfl ?_
  refine pm_callV (As := []) (rest := [.ref (B + 0)]) hG hR dX11_town_23 (lkX11_93 _ rfl) okV_X7_addTown rfl rfl (fc_X7_addTown_1 (d := 3) (by decide)) rfl rfl hdd (by decide) (by decide) (by first | decide | exact Nat.le_of_ble_eq_true rfl) (pm_ki (fun v σ' cnt' hq => ?_))
  obtain ⟨rfl, rfl, rfl⟩ := hq
  refine pm_callV (As := [.int 0]) (rest := []) hG hR dX11_town_26 (lkX11_97 _ rfl) okV_X11_told rfl rfl (sx_told (d := 3) (by decide) rfl rfl) rfl rfl hdd (by decide) (by decide) (by decide) (pm_ki (fun v σ' cnt' hq => ?_))
  obtain ⟨rfl, ⟨g, rfl⟩, rfl⟩ := hq
  exact pm_iret hG hF dX11_town_29 rfl (by decide) (by decide) ⟨_, rfl, (by clear hF hR hG; first | rfl | (unfold v_town; (repeat' split) <;> first | rfl | (exfalso; simp only [Int32.lt_iff_toInt_lt, Int32.le_iff_toInt_le, ← Int32.toInt_inj, Int32.toInt_zero] at *; omega) | (apply Int32.toInt_inj.mp; simp only [Int32.lt_iff_toInt_lt, Int32.le_iff_toInt_le, ← Int32.toInt_inj, Int32.toInt_zero] at *; omega))), (by repeat (first | exact pm_lies_cat | refine pm_lies.up0 (by decide) ?_)), rfl⟩

set_option maxRecDepth 100000 in
set_option maxHeartbeats 4000000 in
theorem fc_X7_isLiving_4 {B : Nat} {fw : Nat → Int32} {R : List pm_C} {zb : Int32} {d : Nat} (hdd : 2 ≤ d) : pm_met mX7_isLiving d 0 0 B [.ref (B + 1), .int zb] 74 (pm_cat (pm_ofL (l_k_class B fw)) 54 R) (pm_Qi (fun v σ' cnt' => v = 0 ∧ σ' = (pm_cat (pm_ofL (l_k_class B fw)) 54 R) ∧ cnt' = 74)) := by
  refine pm_enter 0 (by decide) (Nat.le_of_ble_eq_true rfl) rfl (fun G hG hR hF => ?_)
  refine pm_aloadn hG dX7_isLiving_0 rfl ?_
  refine pm_getf hG dX7_isLiving_1 (flX7_23 _ rfl) rfl rfl ?_
  refine pm_iloadn hG dX7_isLiving_4 rfl ?_
  refine pm_callV (As := [.int zb]) (rest := []) hG hR dX7_isLiving_5 (lkX7_93 _ rfl) okV_X9_has rfl rfl (tb_has (d := 1) rfl) rfl rfl hdd (by decide) (by decide) (by decide) (pm_ki (fun v σ' cnt' hq => ?_))
  obtain ⟨rfl, rfl, rfl⟩ := hq
  refine pm_top (v := 0) (pm_has0 _) ?_
  refine pm_if_eq (tgt := 28) hG dX7_isLiving_8 rfl (fun _ => ?_) (fun q => absurd q (by decide))
  refine pm_iconst (v := 0) hG dX7_isLiving_28 (by decide) ?_
  exact pm_zret hG hF dX7_isLiving_29 rfl (by rfl) (by decide) (by decide) ⟨_, rfl, ⟨rfl, rfl, rfl⟩⟩

set_option maxRecDepth 100000 in
set_option maxHeartbeats 4000000 in
theorem fc_X7_isLivingOrNobody_3 {B : Nat} {fw : Nat → Int32} {R : List pm_C} {zb : Int32} {d : Nat} (hdd : 3 ≤ d) : pm_met mX7_isLivingOrNobody d 0 0 B [.ref (B + 1), .int zb] 74 (pm_cat (pm_ofL (l_k_class B fw)) 54 R) (pm_Qi (fun v σ' cnt' => ((zb = (-1)) ∧ v = 1 ∧ σ' = (pm_cat (pm_ofL (l_k_class B fw)) 54 R) ∧ cnt' = 74) ∨ ((¬ (zb = (-1))) ∧ v = 0 ∧ σ' = (pm_cat (pm_ofL (l_k_class B fw)) 54 R) ∧ cnt' = 74))) := by
  refine pm_enter 0 (by decide) (Nat.le_of_ble_eq_true rfl) rfl (fun G hG hR hF => ?_)
  refine pm_iloadn hG dX7_isLivingOrNobody_0 rfl ?_
  refine pm_iconst (v := (-1)) hG dX7_isLivingOrNobody_1 (by decide) ?_
  refine pm_icmp_eq (tgt := 13) hG dX7_isLivingOrNobody_2 rfl (fun c1 => ?_) (fun c1 => ?_)
  · refine pm_iconst (v := 1) hG dX7_isLivingOrNobody_13 (by decide) ?_
    refine pm_goto (tgt := 18) hG dX7_isLivingOrNobody_14 rfl ?_
    exact pm_zret hG hF dX7_isLivingOrNobody_18 rfl (by rfl) (by decide) (by decide) ⟨_, rfl, (Or.inl ⟨c1, rfl, rfl, rfl⟩)⟩
  · refine pm_aloadn hG dX7_isLivingOrNobody_5 rfl ?_
    refine pm_iloadn hG dX7_isLivingOrNobody_6 rfl ?_
    refine pm_callV (As := [.int zb]) (rest := []) hG hR dX7_isLivingOrNobody_7 (lkX7_103 _ rfl) okV_X7_isLiving rfl rfl (fc_X7_isLiving_4 (d := 2) (by decide)) rfl rfl hdd (by decide) (by decide) (by decide) (pm_ki (fun v σ' cnt' hq => ?_))
    obtain ⟨rfl, rfl, rfl⟩ := hq
    refine pm_if_eq (tgt := 17) hG dX7_isLivingOrNobody_10 rfl (fun _ => ?_) (fun q => absurd q (by decide))
    refine pm_iconst (v := 0) hG dX7_isLivingOrNobody_17 (by decide) ?_
    exact pm_zret hG hF dX7_isLivingOrNobody_18 rfl (by rfl) (by decide) (by decide) ⟨_, rfl, (Or.inr ⟨c1, rfl, rfl, rfl⟩)⟩

set_option maxRecDepth 100000 in
set_option maxHeartbeats 4000000 in
theorem fc_X9_append_6 {B : Nat} {fw : Nat → Int32} {R : List pm_C} {za : Int32} {d : Nat} (hdd : 2 ≤ d) : pm_met mX9_append d 0 0 B [.ref (B + 8), .int za] 74 (pm_cat (pm_ofL (l_k_class B fw)) 54 R) (pm_Qi (fun v σ' cnt' => v = 0 ∧ σ' = (pm_up (pm_up (pm_up (pm_up (pm_up (pm_up (pm_up (pm_cat (pm_ofL (l_k_class B fw)) 54 R) 8 (.inr (9, [.int 20, .int 6, .ref (B + 9), .int 1]))) 9 (.inl (120, pm_ts 20 6 (fun _ => 0) 0 1 0))) 9 (.inl (120, pm_ts 20 6 (pm_ts 20 6 (fun _ => 0) 0 1 0) 0 2 0))) 9 (.inl (120, pm_ts 20 6 (pm_ts 20 6 (pm_ts 20 6 (fun _ => 0) 0 1 0) 0 2 0) 0 3 0))) 9 (.inl (120, pm_ts 20 6 (pm_ts 20 6 (pm_ts 20 6 (pm_ts 20 6 (fun _ => 0) 0 1 0) 0 2 0) 0 3 0) 0 4 0))) 9 (.inl (120, pm_ts 20 6 (pm_ts 20 6 (pm_ts 20 6 (pm_ts 20 6 (pm_ts 20 6 (fun _ => 0) 0 1 0) 0 2 0) 0 3 0) 0 4 0) 0 5 0))) 9 (.inl (120, pm_ts 20 6 (pm_ts 20 6 (pm_ts 20 6 (pm_ts 20 6 (pm_ts 20 6 (pm_ts 20 6 (fun _ => 0) 0 1 0) 0 2 0) 0 3 0) 0 4 0) 0 5 0) 0 0 za))) ∧ cnt' = 74)) := by
  refine pm_enter 2 (by decide) (Nat.le_of_ble_eq_true rfl) rfl (fun G hG hR hF => ?_)
  refine pm_aloadn hG dX9_append_0 rfl ?_
  refine pm_callV (As := []) (rest := []) hG hR dX9_append_1 (lkX9_39 _ rfl) okV_X9_isFull rfl rfl (tb_isFull (d := 1) rfl) rfl rfl hdd (by decide) (by decide) (by decide) (pm_ki (fun v σ' cnt' hq => ?_))
  obtain ⟨rfl, rfl, rfl⟩ := hq
  refine pm_top (v := 0) (by decide) ?_
  refine pm_if_eq (tgt := 9) hG dX9_append_4 rfl (fun _ => ?_) (fun q => absurd q (by decide))
  refine pm_aloadn hG dX9_append_9 rfl ?_
  refine pm_getf hG dX9_append_10 (flX9_29 _ rfl) rfl rfl ?_
  refine pm_istoreXn (loc' := [some (.ref (B + 8)), some (.int za), some (.int 0), none]) hG dX9_append_13 (by decide) (pm_c1b rfl) rfl ?_
  refine pm_aloadn hG dX9_append_14 rfl ?_
  refine pm_dup hG dX9_append_15 rfl ?_
  refine pm_getf hG dX9_append_16 (flX9_29 _ rfl) rfl rfl ?_
  refine pm_iconst (v := 1) hG dX9_append_19 (by decide) ?_
  refine pm_iadd hG dX9_append_20 ?_
  refine pm_top (v := 1) (by decide) ?_
  refine pm_putf hG dX9_append_21 (fwX9_29 _ rfl) rfl rfl rfl ?_
  refine pm_iconst (v := 1) hG dX9_append_24 (by decide) ?_
  refine pm_istoreXn (loc' := [some (.ref (B + 8)), some (.int za), some (.int 0), some (.int 1)]) hG dX9_append_25 (by decide) (pm_c1b rfl) rfl ?_
  refine pm_iloadn hG dX9_append_26 rfl ?_
  refine pm_aloadn hG dX9_append_27 rfl ?_
  refine pm_getf hG dX9_append_28 (flX9_22 _ rfl) rfl rfl ?_
  refine pm_icmp_ge (tgt := 47) hG dX9_append_31 rfl (fun q => absurd q (by decide)) (fun _ => ?_)
  refine pm_aloadn hG dX9_append_34 rfl ?_
  refine pm_iloadn hG dX9_append_35 rfl ?_
  refine pm_iloadn hG dX9_append_36 rfl ?_
  refine pm_iconst (v := 0) hG dX9_append_37 (by decide) ?_
  refine pm_callV (As := [.int 0, .int 1, .int 0]) (rest := []) hG hR dX9_append_38 (lkX9_35 _ rfl) okV_X9_set rfl rfl (tb_set (d := 1) rfl rfl (pm_tw_of 20 6 (by decide) (by decide) (by decide)) (by decide)) rfl rfl hdd (by decide) (by decide) (by decide) (pm_kv (fun σ' cnt' hq => ?_))
  obtain ⟨rfl, rfl⟩ := hq
  refine pm_iincX (v := 2) (loc' := [some (.ref (B + 8)), some (.int za), some (.int 0), some (.int 2)]) hG dX9_append_41 rfl (by rfl) (by decide) (pm_c1b rfl) rfl ?_
  refine pm_goto (tgt := 26) hG dX9_append_44 rfl ?_
  refine pm_iloadn hG dX9_append_26 rfl ?_
  refine pm_aloadn hG dX9_append_27 rfl ?_
  refine pm_getf hG dX9_append_28 (flX9_22 _ rfl) rfl rfl ?_
  refine pm_icmp_ge (tgt := 47) hG dX9_append_31 rfl (fun q => absurd q (by decide)) (fun _ => ?_)
  refine pm_aloadn hG dX9_append_34 rfl ?_
  refine pm_iloadn hG dX9_append_35 rfl ?_
  refine pm_iloadn hG dX9_append_36 rfl ?_
  refine pm_iconst (v := 0) hG dX9_append_37 (by decide) ?_
  refine pm_callV (As := [.int 0, .int 2, .int 0]) (rest := []) hG hR dX9_append_38 (lkX9_35 _ rfl) okV_X9_set rfl rfl (tb_set (d := 1) rfl rfl (pm_tw_of 20 6 (by decide) (by decide) (by decide)) (by decide)) rfl rfl hdd (by decide) (by decide) (by decide) (pm_kv (fun σ' cnt' hq => ?_))
  obtain ⟨rfl, rfl⟩ := hq
  refine pm_iincX (v := 3) (loc' := [some (.ref (B + 8)), some (.int za), some (.int 0), some (.int 3)]) hG dX9_append_41 rfl (by rfl) (by decide) (pm_c1b rfl) rfl ?_
  refine pm_goto (tgt := 26) hG dX9_append_44 rfl ?_
  refine pm_iloadn hG dX9_append_26 rfl ?_
  refine pm_aloadn hG dX9_append_27 rfl ?_
  refine pm_getf hG dX9_append_28 (flX9_22 _ rfl) rfl rfl ?_
  refine pm_icmp_ge (tgt := 47) hG dX9_append_31 rfl (fun q => absurd q (by decide)) (fun _ => ?_)
  refine pm_aloadn hG dX9_append_34 rfl ?_
  refine pm_iloadn hG dX9_append_35 rfl ?_
  refine pm_iloadn hG dX9_append_36 rfl ?_
  refine pm_iconst (v := 0) hG dX9_append_37 (by decide) ?_
  refine pm_callV (As := [.int 0, .int 3, .int 0]) (rest := []) hG hR dX9_append_38 (lkX9_35 _ rfl) okV_X9_set rfl rfl (tb_set (d := 1) rfl rfl (pm_tw_of 20 6 (by decide) (by decide) (by decide)) (by decide)) rfl rfl hdd (by decide) (by decide) (by decide) (pm_kv (fun σ' cnt' hq => ?_))
  obtain ⟨rfl, rfl⟩ := hq
  refine pm_iincX (v := 4) (loc' := [some (.ref (B + 8)), some (.int za), some (.int 0), some (.int 4)]) hG dX9_append_41 rfl (by rfl) (by decide) (pm_c1b rfl) rfl ?_
  refine pm_goto (tgt := 26) hG dX9_append_44 rfl ?_
  refine pm_iloadn hG dX9_append_26 rfl ?_
  refine pm_aloadn hG dX9_append_27 rfl ?_
  refine pm_getf hG dX9_append_28 (flX9_22 _ rfl) rfl rfl ?_
  refine pm_icmp_ge (tgt := 47) hG dX9_append_31 rfl (fun q => absurd q (by decide)) (fun _ => ?_)
  refine pm_aloadn hG dX9_append_34 rfl ?_
  refine pm_iloadn hG dX9_append_35 rfl ?_
  refine pm_iloadn hG dX9_append_36 rfl ?_
  refine pm_iconst (v := 0) hG dX9_append_37 (by decide) ?_
  refine pm_callV (As := [.int 0, .int 4, .int 0]) (rest := []) hG hR dX9_append_38 (lkX9_35 _ rfl) okV_X9_set rfl rfl (tb_set (d := 1) rfl rfl (pm_tw_of 20 6 (by decide) (by decide) (by decide)) (by decide)) rfl rfl hdd (by decide) (by decide) (by decide) (pm_kv (fun σ' cnt' hq => ?_))
  obtain ⟨rfl, rfl⟩ := hq
  refine pm_iincX (v := 5) (loc' := [some (.ref (B + 8)), some (.int za), some (.int 0), some (.int 5)]) hG dX9_append_41 rfl (by rfl) (by decide) (pm_c1b rfl) rfl ?_
  refine pm_goto (tgt := 26) hG dX9_append_44 rfl ?_
  refine pm_iloadn hG dX9_append_26 rfl ?_
  refine pm_aloadn hG dX9_append_27 rfl ?_
  refine pm_getf hG dX9_append_28 (flX9_22 _ rfl) rfl rfl ?_
  refine pm_icmp_ge (tgt := 47) hG dX9_append_31 rfl (fun q => absurd q (by decide)) (fun _ => ?_)
  refine pm_aloadn hG dX9_append_34 rfl ?_
  refine pm_iloadn hG dX9_append_35 rfl ?_
  refine pm_iloadn hG dX9_append_36 rfl ?_
  refine pm_iconst (v := 0) hG dX9_append_37 (by decide) ?_
  refine pm_callV (As := [.int 0, .int 5, .int 0]) (rest := []) hG hR dX9_append_38 (lkX9_35 _ rfl) okV_X9_set rfl rfl (tb_set (d := 1) rfl rfl (pm_tw_of 20 6 (by decide) (by decide) (by decide)) (by decide)) rfl rfl hdd (by decide) (by decide) (by decide) (pm_kv (fun σ' cnt' hq => ?_))
  obtain ⟨rfl, rfl⟩ := hq
  refine pm_iincX (v := 6) (loc' := [some (.ref (B + 8)), some (.int za), some (.int 0), some (.int 6)]) hG dX9_append_41 rfl (by rfl) (by decide) (pm_c1b rfl) rfl ?_
  refine pm_goto (tgt := 26) hG dX9_append_44 rfl ?_
  refine pm_iloadn hG dX9_append_26 rfl ?_
  refine pm_aloadn hG dX9_append_27 rfl ?_
  refine pm_getf hG dX9_append_28 (flX9_22 _ rfl) rfl rfl ?_
  refine pm_icmp_ge (tgt := 47) hG dX9_append_31 rfl (fun _ => ?_) (fun q => absurd q (by decide))
  refine pm_aloadn hG dX9_append_47 rfl ?_
  refine pm_iloadn hG dX9_append_48 rfl ?_
  refine pm_iconst (v := 0) hG dX9_append_49 (by decide) ?_
  refine pm_iloadn hG dX9_append_50 rfl ?_
  refine pm_callV (As := [.int 0, .int 0, .int za]) (rest := []) hG hR dX9_append_51 (lkX9_35 _ rfl) okV_X9_set rfl rfl (tb_set (d := 1) rfl rfl (pm_tw_of 20 6 (by decide) (by decide) (by decide)) (by decide)) rfl rfl hdd (by decide) (by decide) (by decide) (pm_kv (fun σ' cnt' hq => ?_))
  obtain ⟨rfl, rfl⟩ := hq
  refine pm_iloadn hG dX9_append_54 rfl ?_
  exact pm_iret hG hF dX9_append_55 rfl (by decide) (by decide) ⟨_, rfl, ⟨rfl, rfl, rfl⟩⟩

set_option maxRecDepth 100000 in
set_option maxHeartbeats 4000000 in
theorem fc_X7_setLent_7 {B : Nat} {fw : Nat → Int32} {R : List pm_C} {za zb zc : Int32} {d : Nat} (hdd : 2 ≤ d) : pm_met mX7_setLent d 0 0 B [.ref (B + 1), .int 0, .int (-1), .int (-1)] 74 (pm_up (pm_up (pm_up (pm_up (pm_up (pm_up (pm_up (pm_up (pm_up (pm_up (pm_cat (pm_ofL (l_k_class B fw)) 54 R) 8 (.inr (9, [.int 20, .int 6, .ref (B + 9), .int 1]))) 9 (.inl (120, pm_ts 20 6 (fun _ => 0) 0 1 0))) 9 (.inl (120, pm_ts 20 6 (pm_ts 20 6 (fun _ => 0) 0 1 0) 0 2 0))) 9 (.inl (120, pm_ts 20 6 (pm_ts 20 6 (pm_ts 20 6 (fun _ => 0) 0 1 0) 0 2 0) 0 3 0))) 9 (.inl (120, pm_ts 20 6 (pm_ts 20 6 (pm_ts 20 6 (pm_ts 20 6 (fun _ => 0) 0 1 0) 0 2 0) 0 3 0) 0 4 0))) 9 (.inl (120, pm_ts 20 6 (pm_ts 20 6 (pm_ts 20 6 (pm_ts 20 6 (pm_ts 20 6 (fun _ => 0) 0 1 0) 0 2 0) 0 3 0) 0 4 0) 0 5 0))) 9 (.inl (120, pm_ts 20 6 (pm_ts 20 6 (pm_ts 20 6 (pm_ts 20 6 (pm_ts 20 6 (pm_ts 20 6 (fun _ => 0) 0 1 0) 0 2 0) 0 3 0) 0 4 0) 0 5 0) 0 0 za))) 9 (.inl (120, pm_ts 20 6 (pm_ts 20 6 (pm_ts 20 6 (pm_ts 20 6 (pm_ts 20 6 (pm_ts 20 6 (pm_ts 20 6 (fun _ => 0) 0 1 0) 0 2 0) 0 3 0) 0 4 0) 0 5 0) 0 0 za) 0 1 zc))) 9 (.inl (120, pm_ts 20 6 (pm_ts 20 6 (pm_ts 20 6 (pm_ts 20 6 (pm_ts 20 6 (pm_ts 20 6 (pm_ts 20 6 (pm_ts 20 6 (fun _ => 0) 0 1 0) 0 2 0) 0 3 0) 0 4 0) 0 5 0) 0 0 za) 0 1 zc) 0 2 zb))) 9 (.inl (120, pm_ts 20 6 (pm_ts 20 6 (pm_ts 20 6 (pm_ts 20 6 (pm_ts 20 6 (pm_ts 20 6 (pm_ts 20 6 (pm_ts 20 6 (pm_ts 20 6 (fun _ => 0) 0 1 0) 0 2 0) 0 3 0) 0 4 0) 0 5 0) 0 0 za) 0 1 zc) 0 2 zb) 0 5 (-1)))) (pm_Qv (fun σ' cnt' => σ' = (pm_up (pm_up (pm_up (pm_up (pm_up (pm_up (pm_up (pm_up (pm_up (pm_up (pm_up (pm_up (pm_cat (pm_ofL (l_k_class B fw)) 54 R) 8 (.inr (9, [.int 20, .int 6, .ref (B + 9), .int 1]))) 9 (.inl (120, pm_ts 20 6 (fun _ => 0) 0 1 0))) 9 (.inl (120, pm_ts 20 6 (pm_ts 20 6 (fun _ => 0) 0 1 0) 0 2 0))) 9 (.inl (120, pm_ts 20 6 (pm_ts 20 6 (pm_ts 20 6 (fun _ => 0) 0 1 0) 0 2 0) 0 3 0))) 9 (.inl (120, pm_ts 20 6 (pm_ts 20 6 (pm_ts 20 6 (pm_ts 20 6 (fun _ => 0) 0 1 0) 0 2 0) 0 3 0) 0 4 0))) 9 (.inl (120, pm_ts 20 6 (pm_ts 20 6 (pm_ts 20 6 (pm_ts 20 6 (pm_ts 20 6 (fun _ => 0) 0 1 0) 0 2 0) 0 3 0) 0 4 0) 0 5 0))) 9 (.inl (120, pm_ts 20 6 (pm_ts 20 6 (pm_ts 20 6 (pm_ts 20 6 (pm_ts 20 6 (pm_ts 20 6 (fun _ => 0) 0 1 0) 0 2 0) 0 3 0) 0 4 0) 0 5 0) 0 0 za))) 9 (.inl (120, pm_ts 20 6 (pm_ts 20 6 (pm_ts 20 6 (pm_ts 20 6 (pm_ts 20 6 (pm_ts 20 6 (pm_ts 20 6 (fun _ => 0) 0 1 0) 0 2 0) 0 3 0) 0 4 0) 0 5 0) 0 0 za) 0 1 zc))) 9 (.inl (120, pm_ts 20 6 (pm_ts 20 6 (pm_ts 20 6 (pm_ts 20 6 (pm_ts 20 6 (pm_ts 20 6 (pm_ts 20 6 (pm_ts 20 6 (fun _ => 0) 0 1 0) 0 2 0) 0 3 0) 0 4 0) 0 5 0) 0 0 za) 0 1 zc) 0 2 zb))) 9 (.inl (120, pm_ts 20 6 (pm_ts 20 6 (pm_ts 20 6 (pm_ts 20 6 (pm_ts 20 6 (pm_ts 20 6 (pm_ts 20 6 (pm_ts 20 6 (pm_ts 20 6 (fun _ => 0) 0 1 0) 0 2 0) 0 3 0) 0 4 0) 0 5 0) 0 0 za) 0 1 zc) 0 2 zb) 0 5 (-1)))) 9 (.inl (120, pm_ts 20 6 (pm_ts 20 6 (pm_ts 20 6 (pm_ts 20 6 (pm_ts 20 6 (pm_ts 20 6 (pm_ts 20 6 (pm_ts 20 6 (pm_ts 20 6 (pm_ts 20 6 (fun _ => 0) 0 1 0) 0 2 0) 0 3 0) 0 4 0) 0 5 0) 0 0 za) 0 1 zc) 0 2 zb) 0 5 (-1)) 0 3 (-1)))) 9 (.inl (120, pm_ts 20 6 (pm_ts 20 6 (pm_ts 20 6 (pm_ts 20 6 (pm_ts 20 6 (pm_ts 20 6 (pm_ts 20 6 (pm_ts 20 6 (pm_ts 20 6 (pm_ts 20 6 (pm_ts 20 6 (fun _ => 0) 0 1 0) 0 2 0) 0 3 0) 0 4 0) 0 5 0) 0 0 za) 0 1 zc) 0 2 zb) 0 5 (-1)) 0 3 (-1)) 0 4 (-1)))) ∧ cnt' = 74)) := by
  refine pm_enter 0 (by decide) (Nat.le_of_ble_eq_true rfl) rfl (fun G hG hR hF => ?_)
  refine pm_aloadn hG dX7_setLent_0 rfl ?_
  refine pm_getf hG dX7_setLent_1 (flX7_26 _ rfl) rfl rfl ?_
  refine pm_iloadn hG dX7_setLent_4 rfl ?_
  refine pm_iconst (v := 3) hG dX7_setLent_5 (by decide) ?_
  refine pm_iloadn hG dX7_setLent_6 rfl ?_
  refine pm_callV (As := [.int 0, .int 3, .int (-1)]) (rest := []) hG hR dX7_setLent_7 (lkX7_61 _ rfl) okV_X9_set rfl rfl (tb_set (d := 1) rfl rfl (pm_tw_of 20 6 (by decide) (by decide) (by decide)) (by decide)) rfl rfl hdd (by decide) (by decide) (by decide) (pm_kv (fun σ' cnt' hq => ?_))
  obtain ⟨rfl, rfl⟩ := hq
  refine pm_aloadn hG dX7_setLent_10 rfl ?_
  refine pm_getf hG dX7_setLent_11 (flX7_26 _ rfl) rfl rfl ?_
  refine pm_iloadn hG dX7_setLent_14 rfl ?_
  refine pm_iconst (v := 4) hG dX7_setLent_15 (by decide) ?_
  refine pm_iloadn hG dX7_setLent_16 rfl ?_
  refine pm_callV (As := [.int 0, .int 4, .int (-1)]) (rest := []) hG hR dX7_setLent_17 (lkX7_61 _ rfl) okV_X9_set rfl rfl (tb_set (d := 1) rfl rfl (pm_tw_of 20 6 (by decide) (by decide) (by decide)) (by decide)) rfl rfl hdd (by decide) (by decide) (by decide) (pm_kv (fun σ' cnt' hq => ?_))
  obtain ⟨rfl, rfl⟩ := hq
  exact pm_vret hG hF dX7_setLent_20 rfl (by decide) (by decide) ⟨rfl, ⟨rfl, rfl⟩⟩

set_option maxRecDepth 100000 in
set_option maxHeartbeats 4000000 in
theorem fc_X7_setLent_8 {B : Nat} {fw : Nat → Int32} {R : List pm_C} {za zb zc : Int32} {d : Nat} (hdd : 2 ≤ d) : pm_met mX7_setLent d 0 0 B [.ref (B + 1), .int 0, .int (-1), .int (-1)] 74 (pm_up (pm_up (pm_up (pm_up (pm_up (pm_up (pm_up (pm_up (pm_up (pm_up (pm_cat (pm_ofL (l_k_class B fw)) 54 R) 8 (.inr (9, [.int 20, .int 6, .ref (B + 9), .int 1]))) 9 (.inl (120, pm_ts 20 6 (fun _ => 0) 0 1 0))) 9 (.inl (120, pm_ts 20 6 (pm_ts 20 6 (fun _ => 0) 0 1 0) 0 2 0))) 9 (.inl (120, pm_ts 20 6 (pm_ts 20 6 (pm_ts 20 6 (fun _ => 0) 0 1 0) 0 2 0) 0 3 0))) 9 (.inl (120, pm_ts 20 6 (pm_ts 20 6 (pm_ts 20 6 (pm_ts 20 6 (fun _ => 0) 0 1 0) 0 2 0) 0 3 0) 0 4 0))) 9 (.inl (120, pm_ts 20 6 (pm_ts 20 6 (pm_ts 20 6 (pm_ts 20 6 (pm_ts 20 6 (fun _ => 0) 0 1 0) 0 2 0) 0 3 0) 0 4 0) 0 5 0))) 9 (.inl (120, pm_ts 20 6 (pm_ts 20 6 (pm_ts 20 6 (pm_ts 20 6 (pm_ts 20 6 (pm_ts 20 6 (fun _ => 0) 0 1 0) 0 2 0) 0 3 0) 0 4 0) 0 5 0) 0 0 za))) 9 (.inl (120, pm_ts 20 6 (pm_ts 20 6 (pm_ts 20 6 (pm_ts 20 6 (pm_ts 20 6 (pm_ts 20 6 (pm_ts 20 6 (fun _ => 0) 0 1 0) 0 2 0) 0 3 0) 0 4 0) 0 5 0) 0 0 za) 0 1 zc))) 9 (.inl (120, pm_ts 20 6 (pm_ts 20 6 (pm_ts 20 6 (pm_ts 20 6 (pm_ts 20 6 (pm_ts 20 6 (pm_ts 20 6 (pm_ts 20 6 (fun _ => 0) 0 1 0) 0 2 0) 0 3 0) 0 4 0) 0 5 0) 0 0 za) 0 1 zc) 0 2 zb))) 9 (.inl (120, pm_ts 20 6 (pm_ts 20 6 (pm_ts 20 6 (pm_ts 20 6 (pm_ts 20 6 (pm_ts 20 6 (pm_ts 20 6 (pm_ts 20 6 (pm_ts 20 6 (fun _ => 0) 0 1 0) 0 2 0) 0 3 0) 0 4 0) 0 5 0) 0 0 za) 0 1 zc) 0 2 zb) 0 5 0))) (pm_Qv (fun σ' cnt' => σ' = (pm_up (pm_up (pm_up (pm_up (pm_up (pm_up (pm_up (pm_up (pm_up (pm_up (pm_up (pm_up (pm_cat (pm_ofL (l_k_class B fw)) 54 R) 8 (.inr (9, [.int 20, .int 6, .ref (B + 9), .int 1]))) 9 (.inl (120, pm_ts 20 6 (fun _ => 0) 0 1 0))) 9 (.inl (120, pm_ts 20 6 (pm_ts 20 6 (fun _ => 0) 0 1 0) 0 2 0))) 9 (.inl (120, pm_ts 20 6 (pm_ts 20 6 (pm_ts 20 6 (fun _ => 0) 0 1 0) 0 2 0) 0 3 0))) 9 (.inl (120, pm_ts 20 6 (pm_ts 20 6 (pm_ts 20 6 (pm_ts 20 6 (fun _ => 0) 0 1 0) 0 2 0) 0 3 0) 0 4 0))) 9 (.inl (120, pm_ts 20 6 (pm_ts 20 6 (pm_ts 20 6 (pm_ts 20 6 (pm_ts 20 6 (fun _ => 0) 0 1 0) 0 2 0) 0 3 0) 0 4 0) 0 5 0))) 9 (.inl (120, pm_ts 20 6 (pm_ts 20 6 (pm_ts 20 6 (pm_ts 20 6 (pm_ts 20 6 (pm_ts 20 6 (fun _ => 0) 0 1 0) 0 2 0) 0 3 0) 0 4 0) 0 5 0) 0 0 za))) 9 (.inl (120, pm_ts 20 6 (pm_ts 20 6 (pm_ts 20 6 (pm_ts 20 6 (pm_ts 20 6 (pm_ts 20 6 (pm_ts 20 6 (fun _ => 0) 0 1 0) 0 2 0) 0 3 0) 0 4 0) 0 5 0) 0 0 za) 0 1 zc))) 9 (.inl (120, pm_ts 20 6 (pm_ts 20 6 (pm_ts 20 6 (pm_ts 20 6 (pm_ts 20 6 (pm_ts 20 6 (pm_ts 20 6 (pm_ts 20 6 (fun _ => 0) 0 1 0) 0 2 0) 0 3 0) 0 4 0) 0 5 0) 0 0 za) 0 1 zc) 0 2 zb))) 9 (.inl (120, pm_ts 20 6 (pm_ts 20 6 (pm_ts 20 6 (pm_ts 20 6 (pm_ts 20 6 (pm_ts 20 6 (pm_ts 20 6 (pm_ts 20 6 (pm_ts 20 6 (fun _ => 0) 0 1 0) 0 2 0) 0 3 0) 0 4 0) 0 5 0) 0 0 za) 0 1 zc) 0 2 zb) 0 5 0))) 9 (.inl (120, pm_ts 20 6 (pm_ts 20 6 (pm_ts 20 6 (pm_ts 20 6 (pm_ts 20 6 (pm_ts 20 6 (pm_ts 20 6 (pm_ts 20 6 (pm_ts 20 6 (pm_ts 20 6 (fun _ => 0) 0 1 0) 0 2 0) 0 3 0) 0 4 0) 0 5 0) 0 0 za) 0 1 zc) 0 2 zb) 0 5 0) 0 3 (-1)))) 9 (.inl (120, pm_ts 20 6 (pm_ts 20 6 (pm_ts 20 6 (pm_ts 20 6 (pm_ts 20 6 (pm_ts 20 6 (pm_ts 20 6 (pm_ts 20 6 (pm_ts 20 6 (pm_ts 20 6 (pm_ts 20 6 (fun _ => 0) 0 1 0) 0 2 0) 0 3 0) 0 4 0) 0 5 0) 0 0 za) 0 1 zc) 0 2 zb) 0 5 0) 0 3 (-1)) 0 4 (-1)))) ∧ cnt' = 74)) := by
  refine pm_enter 0 (by decide) (Nat.le_of_ble_eq_true rfl) rfl (fun G hG hR hF => ?_)
  refine pm_aloadn hG dX7_setLent_0 rfl ?_
  refine pm_getf hG dX7_setLent_1 (flX7_26 _ rfl) rfl rfl ?_
  refine pm_iloadn hG dX7_setLent_4 rfl ?_
  refine pm_iconst (v := 3) hG dX7_setLent_5 (by decide) ?_
  refine pm_iloadn hG dX7_setLent_6 rfl ?_
  refine pm_callV (As := [.int 0, .int 3, .int (-1)]) (rest := []) hG hR dX7_setLent_7 (lkX7_61 _ rfl) okV_X9_set rfl rfl (tb_set (d := 1) rfl rfl (pm_tw_of 20 6 (by decide) (by decide) (by decide)) (by decide)) rfl rfl hdd (by decide) (by decide) (by decide) (pm_kv (fun σ' cnt' hq => ?_))
  obtain ⟨rfl, rfl⟩ := hq
  refine pm_aloadn hG dX7_setLent_10 rfl ?_
  refine pm_getf hG dX7_setLent_11 (flX7_26 _ rfl) rfl rfl ?_
  refine pm_iloadn hG dX7_setLent_14 rfl ?_
  refine pm_iconst (v := 4) hG dX7_setLent_15 (by decide) ?_
  refine pm_iloadn hG dX7_setLent_16 rfl ?_
  refine pm_callV (As := [.int 0, .int 4, .int (-1)]) (rest := []) hG hR dX7_setLent_17 (lkX7_61 _ rfl) okV_X9_set rfl rfl (tb_set (d := 1) rfl rfl (pm_tw_of 20 6 (by decide) (by decide) (by decide)) (by decide)) rfl rfl hdd (by decide) (by decide) (by decide) (pm_kv (fun σ' cnt' hq => ?_))
  obtain ⟨rfl, rfl⟩ := hq
  exact pm_vret hG hF dX7_setLent_20 rfl (by decide) (by decide) ⟨rfl, ⟨rfl, rfl⟩⟩

set_option maxRecDepth 100000 in
set_option maxHeartbeats 4000000 in
theorem fc_X7_addPower_5 {B : Nat} {fw : Nat → Int32} {R : List pm_C} {za zb zc : Int32} {d : Nat} (hdd : 3 ≤ d) : pm_met mX7_addPower d 0 0 B [.ref (B + 1), .int za, .int zb, .int zc] 74 (pm_cat (pm_ofL (l_k_class B fw)) 54 R) (pm_Qi (fun v σ' cnt' => ((¬ za = 2) ∧ v = 0 ∧ σ' = (pm_up (pm_up (pm_up (pm_up (pm_up (pm_up (pm_up (pm_up (pm_up (pm_up (pm_up (pm_up (pm_cat (pm_ofL (l_k_class B fw)) 54 R) 8 (.inr (9, [.int 20, .int 6, .ref (B + 9), .int 1]))) 9 (.inl (120, pm_ts 20 6 (fun _ => 0) 0 1 0))) 9 (.inl (120, pm_ts 20 6 (pm_ts 20 6 (fun _ => 0) 0 1 0) 0 2 0))) 9 (.inl (120, pm_ts 20 6 (pm_ts 20 6 (pm_ts 20 6 (fun _ => 0) 0 1 0) 0 2 0) 0 3 0))) 9 (.inl (120, pm_ts 20 6 (pm_ts 20 6 (pm_ts 20 6 (pm_ts 20 6 (fun _ => 0) 0 1 0) 0 2 0) 0 3 0) 0 4 0))) 9 (.inl (120, pm_ts 20 6 (pm_ts 20 6 (pm_ts 20 6 (pm_ts 20 6 (pm_ts 20 6 (fun _ => 0) 0 1 0) 0 2 0) 0 3 0) 0 4 0) 0 5 0))) 9 (.inl (120, pm_ts 20 6 (pm_ts 20 6 (pm_ts 20 6 (pm_ts 20 6 (pm_ts 20 6 (pm_ts 20 6 (fun _ => 0) 0 1 0) 0 2 0) 0 3 0) 0 4 0) 0 5 0) 0 0 za))) 9 (.inl (120, pm_ts 20 6 (pm_ts 20 6 (pm_ts 20 6 (pm_ts 20 6 (pm_ts 20 6 (pm_ts 20 6 (pm_ts 20 6 (fun _ => 0) 0 1 0) 0 2 0) 0 3 0) 0 4 0) 0 5 0) 0 0 za) 0 1 zc))) 9 (.inl (120, pm_ts 20 6 (pm_ts 20 6 (pm_ts 20 6 (pm_ts 20 6 (pm_ts 20 6 (pm_ts 20 6 (pm_ts 20 6 (pm_ts 20 6 (fun _ => 0) 0 1 0) 0 2 0) 0 3 0) 0 4 0) 0 5 0) 0 0 za) 0 1 zc) 0 2 zb))) 9 (.inl (120, pm_ts 20 6 (pm_ts 20 6 (pm_ts 20 6 (pm_ts 20 6 (pm_ts 20 6 (pm_ts 20 6 (pm_ts 20 6 (pm_ts 20 6 (pm_ts 20 6 (fun _ => 0) 0 1 0) 0 2 0) 0 3 0) 0 4 0) 0 5 0) 0 0 za) 0 1 zc) 0 2 zb) 0 5 (-1)))) 9 (.inl (120, pm_ts 20 6 (pm_ts 20 6 (pm_ts 20 6 (pm_ts 20 6 (pm_ts 20 6 (pm_ts 20 6 (pm_ts 20 6 (pm_ts 20 6 (pm_ts 20 6 (pm_ts 20 6 (fun _ => 0) 0 1 0) 0 2 0) 0 3 0) 0 4 0) 0 5 0) 0 0 za) 0 1 zc) 0 2 zb) 0 5 (-1)) 0 3 (-1)))) 9 (.inl (120, pm_ts 20 6 (pm_ts 20 6 (pm_ts 20 6 (pm_ts 20 6 (pm_ts 20 6 (pm_ts 20 6 (pm_ts 20 6 (pm_ts 20 6 (pm_ts 20 6 (pm_ts 20 6 (pm_ts 20 6 (fun _ => 0) 0 1 0) 0 2 0) 0 3 0) 0 4 0) 0 5 0) 0 0 za) 0 1 zc) 0 2 zb) 0 5 (-1)) 0 3 (-1)) 0 4 (-1)))) ∧ cnt' = 74) ∨ ((za = 2) ∧ v = 0 ∧ σ' = (pm_up (pm_up (pm_up (pm_up (pm_up (pm_up (pm_up (pm_up (pm_up (pm_up (pm_up (pm_up (pm_cat (pm_ofL (l_k_class B fw)) 54 R) 8 (.inr (9, [.int 20, .int 6, .ref (B + 9), .int 1]))) 9 (.inl (120, pm_ts 20 6 (fun _ => 0) 0 1 0))) 9 (.inl (120, pm_ts 20 6 (pm_ts 20 6 (fun _ => 0) 0 1 0) 0 2 0))) 9 (.inl (120, pm_ts 20 6 (pm_ts 20 6 (pm_ts 20 6 (fun _ => 0) 0 1 0) 0 2 0) 0 3 0))) 9 (.inl (120, pm_ts 20 6 (pm_ts 20 6 (pm_ts 20 6 (pm_ts 20 6 (fun _ => 0) 0 1 0) 0 2 0) 0 3 0) 0 4 0))) 9 (.inl (120, pm_ts 20 6 (pm_ts 20 6 (pm_ts 20 6 (pm_ts 20 6 (pm_ts 20 6 (fun _ => 0) 0 1 0) 0 2 0) 0 3 0) 0 4 0) 0 5 0))) 9 (.inl (120, pm_ts 20 6 (pm_ts 20 6 (pm_ts 20 6 (pm_ts 20 6 (pm_ts 20 6 (pm_ts 20 6 (fun _ => 0) 0 1 0) 0 2 0) 0 3 0) 0 4 0) 0 5 0) 0 0 za))) 9 (.inl (120, pm_ts 20 6 (pm_ts 20 6 (pm_ts 20 6 (pm_ts 20 6 (pm_ts 20 6 (pm_ts 20 6 (pm_ts 20 6 (fun _ => 0) 0 1 0) 0 2 0) 0 3 0) 0 4 0) 0 5 0) 0 0 za) 0 1 zc))) 9 (.inl (120, pm_ts 20 6 (pm_ts 20 6 (pm_ts 20 6 (pm_ts 20 6 (pm_ts 20 6 (pm_ts 20 6 (pm_ts 20 6 (pm_ts 20 6 (fun _ => 0) 0 1 0) 0 2 0) 0 3 0) 0 4 0) 0 5 0) 0 0 za) 0 1 zc) 0 2 zb))) 9 (.inl (120, pm_ts 20 6 (pm_ts 20 6 (pm_ts 20 6 (pm_ts 20 6 (pm_ts 20 6 (pm_ts 20 6 (pm_ts 20 6 (pm_ts 20 6 (pm_ts 20 6 (fun _ => 0) 0 1 0) 0 2 0) 0 3 0) 0 4 0) 0 5 0) 0 0 za) 0 1 zc) 0 2 zb) 0 5 0))) 9 (.inl (120, pm_ts 20 6 (pm_ts 20 6 (pm_ts 20 6 (pm_ts 20 6 (pm_ts 20 6 (pm_ts 20 6 (pm_ts 20 6 (pm_ts 20 6 (pm_ts 20 6 (pm_ts 20 6 (fun _ => 0) 0 1 0) 0 2 0) 0 3 0) 0 4 0) 0 5 0) 0 0 za) 0 1 zc) 0 2 zb) 0 5 0) 0 3 (-1)))) 9 (.inl (120, pm_ts 20 6 (pm_ts 20 6 (pm_ts 20 6 (pm_ts 20 6 (pm_ts 20 6 (pm_ts 20 6 (pm_ts 20 6 (pm_ts 20 6 (pm_ts 20 6 (pm_ts 20 6 (pm_ts 20 6 (fun _ => 0) 0 1 0) 0 2 0) 0 3 0) 0 4 0) 0 5 0) 0 0 za) 0 1 zc) 0 2 zb) 0 5 0) 0 3 (-1)) 0 4 (-1)))) ∧ cnt' = 74))) := by
  refine pm_enter 1 (by decide) (Nat.le_of_ble_eq_true rfl) rfl (fun G hG hR hF => ?_)
  refine pm_aloadn hG dX7_addPower_0 rfl ?_
  refine pm_getf hG dX7_addPower_1 (flX7_26 _ rfl) rfl rfl ?_
  refine pm_iloadn hG dX7_addPower_4 rfl ?_
  refine pm_callV (As := [.int za]) (rest := []) hG hR dX7_addPower_5 (lkX7_75 _ rfl) okV_X9_append rfl rfl (fc_X9_append_6 (d := 2) (by decide)) rfl rfl hdd (by decide) (by decide) (by decide) (pm_ki (fun v σ' cnt' hq => ?_))
  obtain ⟨rfl, rfl, rfl⟩ := hq
  refine pm_istoreXi (loc' := [some (.ref (B + 1)), some (.int za), some (.int zb), some (.int zc), some (.int 0)]) hG dX7_addPower_8 (by decide) (pm_c1b rfl) rfl ?_
  refine pm_aloadn hG dX7_addPower_10 rfl ?_
  refine pm_getf hG dX7_addPower_11 (flX7_26 _ rfl) rfl rfl ?_
  refine pm_iloadi hG dX7_addPower_14 rfl ?_
  refine pm_iconst (v := 1) hG dX7_addPower_16 (by decide) ?_
  refine pm_iloadn hG dX7_addPower_17 rfl ?_
  refine pm_callV (As := [.int 0, .int 1, .int zc]) (rest := []) hG hR dX7_addPower_18 (lkX7_61 _ rfl) okV_X9_set rfl rfl (tb_set (d := 2) rfl rfl (pm_tw_of 20 6 (by decide) (by decide) (by decide)) (by decide)) rfl rfl hdd (by decide) (by decide) (by decide) (pm_kv (fun σ' cnt' hq => ?_))
  obtain ⟨rfl, rfl⟩ := hq
  refine pm_aloadn hG dX7_addPower_21 rfl ?_
  refine pm_getf hG dX7_addPower_22 (flX7_26 _ rfl) rfl rfl ?_
  refine pm_iloadi hG dX7_addPower_25 rfl ?_
  refine pm_iconst (v := 2) hG dX7_addPower_27 (by decide) ?_
  refine pm_iloadn hG dX7_addPower_28 rfl ?_
  refine pm_callV (As := [.int 0, .int 2, .int zb]) (rest := []) hG hR dX7_addPower_29 (lkX7_61 _ rfl) okV_X9_set rfl rfl (tb_set (d := 2) rfl rfl (pm_tw_of 20 6 (by decide) (by decide) (by decide)) (by decide)) rfl rfl hdd (by decide) (by decide) (by decide) (pm_kv (fun σ' cnt' hq => ?_))
  obtain ⟨rfl, rfl⟩ := hq
  refine pm_aloadn hG dX7_addPower_32 rfl ?_
  refine pm_getf hG dX7_addPower_33 (flX7_26 _ rfl) rfl rfl ?_
  refine pm_iloadi hG dX7_addPower_36 rfl ?_
  refine pm_iconst (v := 5) hG dX7_addPower_38 (by decide) ?_
  refine pm_iloadn hG dX7_addPower_39 rfl ?_
  refine pm_iconst (v := 2) hG dX7_addPower_40 (by decide) ?_
  refine pm_icmp_ne (tgt := 49) hG dX7_addPower_41 rfl (fun c1 => ?_) (fun c1 => ?_)
  · refine pm_iconst (v := (-1)) hG dX7_addPower_49 (by decide) ?_
    refine pm_callV (As := [.int 0, .int 5, .int (-1)]) (rest := []) hG hR dX7_addPower_50 (lkX7_61 _ rfl) okV_X9_set rfl rfl (tb_set (d := 2) rfl rfl (pm_tw_of 20 6 (by decide) (by decide) (by decide)) (by decide)) rfl rfl hdd (by decide) (by decide) (by decide) (pm_kv (fun σ' cnt' hq => ?_))
    obtain ⟨rfl, rfl⟩ := hq
    refine pm_aloadn hG dX7_addPower_53 rfl ?_
    refine pm_iloadi hG dX7_addPower_54 rfl ?_
    refine pm_iconst (v := (-1)) hG dX7_addPower_56 (by decide) ?_
    refine pm_iconst (v := (-1)) hG dX7_addPower_57 (by decide) ?_
    refine pm_callV (As := [.int 0, .int (-1), .int (-1)]) (rest := []) hG hR dX7_addPower_58 (lkX7_122 _ rfl) okV_X7_setLent rfl rfl (fc_X7_setLent_7 (d := 2) (by decide)) rfl rfl hdd (by decide) (by decide) (by decide) (pm_kv (fun σ' cnt' hq => ?_))
    obtain ⟨rfl, rfl⟩ := hq
    refine pm_iloadi hG dX7_addPower_61 rfl ?_
    exact pm_iret hG hF dX7_addPower_63 rfl (by decide) (by decide) ⟨_, rfl, (Or.inl ⟨c1, rfl, rfl, rfl⟩)⟩
  · refine pm_iloadi hG dX7_addPower_44 rfl ?_
    refine pm_goto (tgt := 50) hG dX7_addPower_46 rfl ?_
    refine pm_callV (As := [.int 0, .int 5, .int 0]) (rest := []) hG hR dX7_addPower_50 (lkX7_61 _ rfl) okV_X9_set rfl rfl (tb_set (d := 2) rfl rfl (pm_tw_of 20 6 (by decide) (by decide) (by decide)) (by decide)) rfl rfl hdd (by decide) (by decide) (by decide) (pm_kv (fun σ' cnt' hq => ?_))
    obtain ⟨rfl, rfl⟩ := hq
    refine pm_aloadn hG dX7_addPower_53 rfl ?_
    refine pm_iloadi hG dX7_addPower_54 rfl ?_
    refine pm_iconst (v := (-1)) hG dX7_addPower_56 (by decide) ?_
    refine pm_iconst (v := (-1)) hG dX7_addPower_57 (by decide) ?_
    refine pm_callV (As := [.int 0, .int (-1), .int (-1)]) (rest := []) hG hR dX7_addPower_58 (lkX7_122 _ rfl) okV_X7_setLent rfl rfl (fc_X7_setLent_8 (d := 2) (by decide)) rfl rfl hdd (by decide) (by decide) (by decide) (pm_kv (fun σ' cnt' hq => ?_))
    obtain ⟨rfl, rfl⟩ := hq
    refine pm_iloadi hG dX7_addPower_61 rfl ?_
    exact pm_iret hG hF dX7_addPower_63 rfl (by decide) (by decide) ⟨_, rfl, (Or.inr ⟨c1, rfl, rfl, rfl⟩)⟩

set_option maxRecDepth 100000 in
set_option maxHeartbeats 8000000 in
theorem oc_power {B : Nat} {fw : Nat → Int32} {R : List pm_C} {za zb zc : Int32} {d : Nat} (hdd : 4 ≤ d) : pm_met mX11_power d 0 0 B [.ref (B + 0), .int za, .int zb, .int zc] 74 (pm_cat (pm_ofL (l_k_class B fw)) 54 R) (pm_Qi (fun v σ' cnt' => v = v_power za zb zc ∧ pm_lies σ' 54 R ∧ cnt' = 74)) := by
  refine pm_enter 0 (by decide) (Nat.le_of_ble_eq_true rfl) rfl (fun G hG hR hF => ?_)
  refine pm_iloadn hG dX11_power_0 rfl ?_
  refine pm_iconst (v := 0) hG dX11_power_1 (by decide) ?_
  refine pm_iconst (v := 5) hG dX11_power_2 (by decide) ?_
  refine pm_callS (As := [.int za, .int 0, .int 5]) (rest := []) hG hR dX11_power_3 (lkX11_105 _ rfl) okS_X11_isOutside (sx_isOutside (d := 3)) rfl rfl hdd (by decide) (by decide) (by decide) (pm_ki (fun v σ' cnt' hq => ?_))
  obtain ⟨rfl, rfl, rfl⟩ := hq
  by_cases c1 : za < 0 ∨ 5 < za
  · refine pm_top (v := 1) (if_pos c1) ?_
    refine pm_if_ne (tgt := 30) hG dX11_power_6 rfl (fun _ => ?_) (fun q => absurd q (by decide))
    refine pm_aloadn hG dX11_power_30 rfl ?_
    refine pm_ldc hG dX11_power_31 (ctX11_109 _ rfl) ?_
    refine pm_callV (As := [.int (-1000001)]) (rest := []) hG hR dX11_power_33 (lkX11_97 _ rfl) okV_X11_told rfl rfl (sx_told (d := 3) (by decide) rfl rfl) rfl rfl hdd (by decide) (by decide) (by decide) (pm_ki (fun v σ' cnt' hq => ?_))
    obtain ⟨rfl, ⟨g, rfl⟩, rfl⟩ := hq
    exact pm_iret hG hF dX11_power_36 rfl (by decide) (by decide) ⟨_, rfl, (by clear hF hR hG; first | rfl | (unfold v_power; (repeat' split) <;> first | rfl | (exfalso; simp only [Int32.lt_iff_toInt_lt, Int32.le_iff_toInt_le, ← Int32.toInt_inj, Int32.toInt_zero, L_5, L_99, L_m1, L_m1000001] at *; omega) | (apply Int32.toInt_inj.mp; simp only [Int32.lt_iff_toInt_lt, Int32.le_iff_toInt_le, ← Int32.toInt_inj, Int32.toInt_zero, L_5, L_99, L_m1, L_m1000001] at *; omega))), (by repeat (first | exact pm_lies_cat | refine pm_lies.up0 (by decide) ?_)), rfl⟩
  · refine pm_top (v := 0) (if_neg c1) ?_
    refine pm_if_ne (tgt := 30) hG dX11_power_6 rfl (fun q => absurd q (by decide)) (fun _ => ?_)
    refine pm_aloadn hG dX11_power_9 rfl ?_
    refine pm_getf hG dX11_power_10 (flX11_12 _ rfl) rfl rfl ?_
    refine pm_iloadn hG dX11_power_13 rfl ?_
    refine pm_callV (As := [.int zb]) (rest := []) hG hR dX11_power_14 (lkX11_174 _ rfl) okV_X7_isLivingOrNobody rfl rfl (fc_X7_isLivingOrNobody_3 (d := 3) (by decide)) rfl rfl hdd (by decide) (by decide) (by decide) (pm_ki (fun v σ' cnt' hq => ?_))
    rcases hq with ⟨c2, rfl, rfl, rfl⟩ | ⟨c3, rfl, rfl, rfl⟩
    · refine pm_if_eq (tgt := 30) hG dX11_power_17 rfl (fun q => absurd q (by decide)) (fun _ => ?_)
      refine pm_iloadn hG dX11_power_20 rfl ?_
      refine pm_iconst (v := 0) hG dX11_power_21 (by decide) ?_
      refine pm_bipush (v := 99) hG dX11_power_22 (by decide) ?_
      refine pm_callS (As := [.int zc, .int 0, .int 99]) (rest := []) hG hR dX11_power_24 (lkX11_105 _ rfl) okS_X11_isOutside (sx_isOutside (d := 3)) rfl rfl hdd (by decide) (by decide) (by decide) (pm_ki (fun v σ' cnt' hq => ?_))
      obtain ⟨rfl, rfl, rfl⟩ := hq
      by_cases c4 : zc < 0 ∨ 99 < zc
      · refine pm_top (v := 1) (if_pos c4) ?_
        refine pm_if_eq (tgt := 37) hG dX11_power_27 rfl (fun q => absurd q (by decide)) (fun _ => ?_)
        refine pm_aloadn hG dX11_power_30 rfl ?_
        refine pm_ldc hG dX11_power_31 (ctX11_109 _ rfl) ?_
        refine pm_callV (As := [.int (-1000001)]) (rest := []) hG hR dX11_power_33 (lkX11_97 _ rfl) okV_X11_told rfl rfl (sx_told (d := 3) (by decide) rfl rfl) rfl rfl hdd (by decide) (by decide) (by decide) (pm_ki (fun v σ' cnt' hq => ?_))
        obtain ⟨rfl, ⟨g, rfl⟩, rfl⟩ := hq
        exact pm_iret hG hF dX11_power_36 rfl (by decide) (by decide) ⟨_, rfl, (by clear hF hR hG; first | rfl | (unfold v_power; (repeat' split) <;> first | rfl | (exfalso; simp only [Int32.lt_iff_toInt_lt, Int32.le_iff_toInt_le, ← Int32.toInt_inj, Int32.toInt_zero, L_5, L_99, L_m1, L_m1000001] at *; omega) | (apply Int32.toInt_inj.mp; simp only [Int32.lt_iff_toInt_lt, Int32.le_iff_toInt_le, ← Int32.toInt_inj, Int32.toInt_zero, L_5, L_99, L_m1, L_m1000001] at *; omega))), (by repeat (first | exact pm_lies_cat | refine pm_lies.up0 (by decide) ?_)), rfl⟩
      · refine pm_top (v := 0) (if_neg c4) ?_
        refine pm_if_eq (tgt := 37) hG dX11_power_27 rfl (fun _ => ?_) (fun q => absurd q (by decide))
        refine pm_aloadn hG dX11_power_37 rfl ?_
        refine pm_aloadn hG dX11_power_38 rfl ?_
        refine pm_getf hG dX11_power_39 (flX11_12 _ rfl) rfl rfl ?_
        refine pm_getf hG dX11_power_42 (flX11_161 _ rfl) rfl rfl ?_
        refine pm_callV (As := []) (rest := [.ref (B + 0)]) hG hR dX11_power_45 (lkX11_86 _ rfl) okV_X9_isFull rfl rfl (tb_isFull (d := 3) rfl) rfl rfl hdd (by decide) (by decide) (by first | decide | exact Nat.le_of_ble_eq_true rfl) (pm_ki (fun v σ' cnt' hq => ?_))
        obtain ⟨rfl, rfl, rfl⟩ := hq
        refine pm_top (v := 0) (by decide) ?_
        refine pm_if_eq (tgt := 56) hG dX11_power_48 rfl (fun _ => ?_) (fun q => absurd q (by decide))
        refine pm_aloadn hG dX11_power_56 rfl ?_
        refine pm_getf hG dX11_power_57 (flX11_12 _ rfl) rfl rfl ?_
        refine pm_iloadn hG dX11_power_60 rfl ?_
        refine pm_iloadn hG dX11_power_61 rfl ?_
        refine pm_iloadn hG dX11_power_62 rfl ?_
        refine pm_callV (As := [.int za, .int zb, .int zc]) (rest := [.ref (B + 0)]) hG hR dX11_power_63 (lkX11_177 _ rfl) okV_X7_addPower rfl rfl (fc_X7_addPower_5 (d := 3) (by decide)) rfl rfl hdd (by decide) (by decide) (by first | decide | exact Nat.le_of_ble_eq_true rfl) (pm_ki (fun v σ' cnt' hq => ?_))
        rcases hq with ⟨c5, rfl, rfl, rfl⟩ | ⟨c6, rfl, rfl, rfl⟩
        · refine pm_callV (As := [.int 0]) (rest := []) hG hR dX11_power_66 (lkX11_97 _ rfl) okV_X11_told rfl rfl (sx_told (d := 3) (by decide) rfl rfl) rfl rfl hdd (by decide) (by decide) (by decide) (pm_ki (fun v σ' cnt' hq => ?_))
          obtain ⟨rfl, ⟨g, rfl⟩, rfl⟩ := hq
          exact pm_iret hG hF dX11_power_69 rfl (by decide) (by decide) ⟨_, rfl, (by clear hF hR hG; first | rfl | (unfold v_power; (repeat' split) <;> first | rfl | (exfalso; simp only [Int32.lt_iff_toInt_lt, Int32.le_iff_toInt_le, ← Int32.toInt_inj, Int32.toInt_zero, L_2, L_5, L_99, L_m1, L_m1000001] at *; omega) | (apply Int32.toInt_inj.mp; simp only [Int32.lt_iff_toInt_lt, Int32.le_iff_toInt_le, ← Int32.toInt_inj, Int32.toInt_zero, L_2, L_5, L_99, L_m1, L_m1000001] at *; omega))), (by repeat (first | exact pm_lies_cat | refine pm_lies.up0 (by decide) ?_)), rfl⟩
        · refine pm_callV (As := [.int 0]) (rest := []) hG hR dX11_power_66 (lkX11_97 _ rfl) okV_X11_told rfl rfl (sx_told (d := 3) (by decide) rfl rfl) rfl rfl hdd (by decide) (by decide) (by decide) (pm_ki (fun v σ' cnt' hq => ?_))
          obtain ⟨rfl, ⟨g, rfl⟩, rfl⟩ := hq
          exact pm_iret hG hF dX11_power_69 rfl (by decide) (by decide) ⟨_, rfl, (by clear hF hR hG; first | rfl | (unfold v_power; (repeat' split) <;> first | rfl | (exfalso; simp only [Int32.lt_iff_toInt_lt, Int32.le_iff_toInt_le, ← Int32.toInt_inj, Int32.toInt_zero, L_2, L_5, L_99, L_m1, L_m1000001] at *; omega) | (apply Int32.toInt_inj.mp; simp only [Int32.lt_iff_toInt_lt, Int32.le_iff_toInt_le, ← Int32.toInt_inj, Int32.toInt_zero, L_2, L_5, L_99, L_m1, L_m1000001] at *; omega))), (by repeat (first | exact pm_lies_cat | refine pm_lies.up0 (by decide) ?_)), rfl⟩
    · refine pm_if_eq (tgt := 30) hG dX11_power_17 rfl (fun _ => ?_) (fun q => absurd q (by decide))
      refine pm_aloadn hG dX11_power_30 rfl ?_
      refine pm_ldc hG dX11_power_31 (ctX11_109 _ rfl) ?_
      refine pm_callV (As := [.int (-1000001)]) (rest := []) hG hR dX11_power_33 (lkX11_97 _ rfl) okV_X11_told rfl rfl (sx_told (d := 3) (by decide) rfl rfl) rfl rfl hdd (by decide) (by decide) (by decide) (pm_ki (fun v σ' cnt' hq => ?_))
      obtain ⟨rfl, ⟨g, rfl⟩, rfl⟩ := hq
      exact pm_iret hG hF dX11_power_36 rfl (by decide) (by decide) ⟨_, rfl, (by clear hF hR hG; first | rfl | (unfold v_power; (repeat' split) <;> first | rfl | (exfalso; simp only [Int32.lt_iff_toInt_lt, Int32.le_iff_toInt_le, ← Int32.toInt_inj, Int32.toInt_zero, L_5, L_99, L_m1, L_m1000001] at *; omega) | (apply Int32.toInt_inj.mp; simp only [Int32.lt_iff_toInt_lt, Int32.le_iff_toInt_le, ← Int32.toInt_inj, Int32.toInt_zero, L_5, L_99, L_m1, L_m1000001] at *; omega))), (by repeat (first | exact pm_lies_cat | refine pm_lies.up0 (by decide) ?_)), rfl⟩

set_option maxRecDepth 100000 in
set_option maxHeartbeats 4000000 in
theorem fc_X9_append_9 {B : Nat} {fw : Nat → Int32} {R : List pm_C} {zl : Int64} {d : Nat} (hdd : 2 ≤ d) : pm_met mX9_append d 0 0 B [.ref (B + 24), .int ((((zl.toUInt64 >>> ((0 : Int32).toInt64.toUInt64 &&& Int64.toUInt64 63)).toInt64).toInt32) &&& 255)] 74 (pm_cat (pm_ofL (l_k_class B fw)) 54 R) (pm_Qi (fun v σ' cnt' => v = 0 ∧ σ' = (pm_up (pm_up (pm_cat (pm_ofL (l_k_class B fw)) 54 R) 24 (.inr (9, [.int 60, .int 1, .ref (B + 25), .int 1]))) 25 (.inl (60, pm_ts 60 1 (fun _ => 0) 0 0 ((((zl.toUInt64 >>> ((0 : Int32).toInt64.toUInt64 &&& Int64.toUInt64 63)).toInt64).toInt32) &&& 255)))) ∧ cnt' = 74)) := by
  refine pm_enter 2 (by decide) (Nat.le_of_ble_eq_true rfl) rfl (fun G hG hR hF => ?_)
  refine pm_aloadn hG dX9_append_0 rfl ?_
  refine pm_callV (As := []) (rest := []) hG hR dX9_append_1 (lkX9_39 _ rfl) okV_X9_isFull rfl rfl (tb_isFull (d := 1) rfl) rfl rfl hdd (by decide) (by decide) (by decide) (pm_ki (fun v σ' cnt' hq => ?_))
  obtain ⟨rfl, rfl, rfl⟩ := hq
  refine pm_top (v := 0) (by decide) ?_
  refine pm_if_eq (tgt := 9) hG dX9_append_4 rfl (fun _ => ?_) (fun q => absurd q (by decide))
  refine pm_aloadn hG dX9_append_9 rfl ?_
  refine pm_getf hG dX9_append_10 (flX9_29 _ rfl) rfl rfl ?_
  refine pm_istoreXn (loc' := [some (.ref (B + 24)), some (.int ((((zl.toUInt64 >>> ((0 : Int32).toInt64.toUInt64 &&& Int64.toUInt64 63)).toInt64).toInt32) &&& 255)), some (.int 0), none]) hG dX9_append_13 (by decide) (pm_c1b rfl) rfl ?_
  refine pm_aloadn hG dX9_append_14 rfl ?_
  refine pm_dup hG dX9_append_15 rfl ?_
  refine pm_getf hG dX9_append_16 (flX9_29 _ rfl) rfl rfl ?_
  refine pm_iconst (v := 1) hG dX9_append_19 (by decide) ?_
  refine pm_iadd hG dX9_append_20 ?_
  refine pm_top (v := 1) (by decide) ?_
  refine pm_putf hG dX9_append_21 (fwX9_29 _ rfl) rfl rfl rfl ?_
  refine pm_iconst (v := 1) hG dX9_append_24 (by decide) ?_
  refine pm_istoreXn (loc' := [some (.ref (B + 24)), some (.int ((((zl.toUInt64 >>> ((0 : Int32).toInt64.toUInt64 &&& Int64.toUInt64 63)).toInt64).toInt32) &&& 255)), some (.int 0), some (.int 1)]) hG dX9_append_25 (by decide) (pm_c1b rfl) rfl ?_
  refine pm_iloadn hG dX9_append_26 rfl ?_
  refine pm_aloadn hG dX9_append_27 rfl ?_
  refine pm_getf hG dX9_append_28 (flX9_22 _ rfl) rfl rfl ?_
  refine pm_icmp_ge (tgt := 47) hG dX9_append_31 rfl (fun _ => ?_) (fun q => absurd q (by decide))
  refine pm_aloadn hG dX9_append_47 rfl ?_
  refine pm_iloadn hG dX9_append_48 rfl ?_
  refine pm_iconst (v := 0) hG dX9_append_49 (by decide) ?_
  refine pm_iloadn hG dX9_append_50 rfl ?_
  refine pm_callV (As := [.int 0, .int 0, .int ((((zl.toUInt64 >>> ((0 : Int32).toInt64.toUInt64 &&& Int64.toUInt64 63)).toInt64).toInt32) &&& 255)]) (rest := []) hG hR dX9_append_51 (lkX9_35 _ rfl) okV_X9_set rfl rfl (tb_set (d := 1) rfl rfl (pm_tw_of 60 1 (by decide) (by decide) (by decide)) (by decide)) rfl rfl hdd (by decide) (by decide) (by decide) (pm_kv (fun σ' cnt' hq => ?_))
  obtain ⟨rfl, rfl⟩ := hq
  refine pm_iloadn hG dX9_append_54 rfl ?_
  exact pm_iret hG hF dX9_append_55 rfl (by decide) (by decide) ⟨_, rfl, ⟨rfl, rfl, rfl⟩⟩

set_option maxRecDepth 100000 in
set_option maxHeartbeats 4000000 in
theorem fc_X9_append_10 {B : Nat} {fw : Nat → Int32} {R : List pm_C} {zl : Int64} {d : Nat} (hdd : 2 ≤ d) : pm_met mX9_append d 0 0 B [.ref (B + 24), .int ((((zl.toUInt64 >>> ((8 : Int32).toInt64.toUInt64 &&& Int64.toUInt64 63)).toInt64).toInt32) &&& 255)] 74 (pm_up (pm_up (pm_cat (pm_ofL (l_k_class B fw)) 54 R) 24 (.inr (9, [.int 60, .int 1, .ref (B + 25), .int 1]))) 25 (.inl (60, pm_ts 60 1 (fun _ => 0) 0 0 ((((zl.toUInt64 >>> ((0 : Int32).toInt64.toUInt64 &&& Int64.toUInt64 63)).toInt64).toInt32) &&& 255)))) (pm_Qi (fun v σ' cnt' => v = 1 ∧ σ' = (pm_up (pm_up (pm_up (pm_up (pm_cat (pm_ofL (l_k_class B fw)) 54 R) 24 (.inr (9, [.int 60, .int 1, .ref (B + 25), .int 1]))) 25 (.inl (60, pm_ts 60 1 (fun _ => 0) 0 0 ((((zl.toUInt64 >>> ((0 : Int32).toInt64.toUInt64 &&& Int64.toUInt64 63)).toInt64).toInt32) &&& 255)))) 24 (.inr (9, [.int 60, .int 1, .ref (B + 25), .int 2]))) 25 (.inl (60, pm_ts 60 1 (pm_ts 60 1 (fun _ => 0) 0 0 ((((zl.toUInt64 >>> ((0 : Int32).toInt64.toUInt64 &&& Int64.toUInt64 63)).toInt64).toInt32) &&& 255)) 1 0 ((((zl.toUInt64 >>> ((8 : Int32).toInt64.toUInt64 &&& Int64.toUInt64 63)).toInt64).toInt32) &&& 255)))) ∧ cnt' = 74)) := by
  refine pm_enter 2 (by decide) (Nat.le_of_ble_eq_true rfl) rfl (fun G hG hR hF => ?_)
  refine pm_aloadn hG dX9_append_0 rfl ?_
  refine pm_callV (As := []) (rest := []) hG hR dX9_append_1 (lkX9_39 _ rfl) okV_X9_isFull rfl rfl (tb_isFull (d := 1) rfl) rfl rfl hdd (by decide) (by decide) (by decide) (pm_ki (fun v σ' cnt' hq => ?_))
  obtain ⟨rfl, rfl, rfl⟩ := hq
  refine pm_top (v := 0) (by decide) ?_
  refine pm_if_eq (tgt := 9) hG dX9_append_4 rfl (fun _ => ?_) (fun q => absurd q (by decide))
  refine pm_aloadn hG dX9_append_9 rfl ?_
  refine pm_getf hG dX9_append_10 (flX9_29 _ rfl) rfl rfl ?_
  refine pm_istoreXn (loc' := [some (.ref (B + 24)), some (.int ((((zl.toUInt64 >>> ((8 : Int32).toInt64.toUInt64 &&& Int64.toUInt64 63)).toInt64).toInt32) &&& 255)), some (.int 1), none]) hG dX9_append_13 (by decide) (pm_c1b rfl) rfl ?_
  refine pm_aloadn hG dX9_append_14 rfl ?_
  refine pm_dup hG dX9_append_15 rfl ?_
  refine pm_getf hG dX9_append_16 (flX9_29 _ rfl) rfl rfl ?_
  refine pm_iconst (v := 1) hG dX9_append_19 (by decide) ?_
  refine pm_iadd hG dX9_append_20 ?_
  refine pm_top (v := 2) (by decide) ?_
  refine pm_putf hG dX9_append_21 (fwX9_29 _ rfl) rfl rfl rfl ?_
  refine pm_iconst (v := 1) hG dX9_append_24 (by decide) ?_
  refine pm_istoreXn (loc' := [some (.ref (B + 24)), some (.int ((((zl.toUInt64 >>> ((8 : Int32).toInt64.toUInt64 &&& Int64.toUInt64 63)).toInt64).toInt32) &&& 255)), some (.int 1), some (.int 1)]) hG dX9_append_25 (by decide) (pm_c1b rfl) rfl ?_
  refine pm_iloadn hG dX9_append_26 rfl ?_
  refine pm_aloadn hG dX9_append_27 rfl ?_
  refine pm_getf hG dX9_append_28 (flX9_22 _ rfl) rfl rfl ?_
  refine pm_icmp_ge (tgt := 47) hG dX9_append_31 rfl (fun _ => ?_) (fun q => absurd q (by decide))
  refine pm_aloadn hG dX9_append_47 rfl ?_
  refine pm_iloadn hG dX9_append_48 rfl ?_
  refine pm_iconst (v := 0) hG dX9_append_49 (by decide) ?_
  refine pm_iloadn hG dX9_append_50 rfl ?_
  refine pm_callV (As := [.int 1, .int 0, .int ((((zl.toUInt64 >>> ((8 : Int32).toInt64.toUInt64 &&& Int64.toUInt64 63)).toInt64).toInt32) &&& 255)]) (rest := []) hG hR dX9_append_51 (lkX9_35 _ rfl) okV_X9_set rfl rfl (tb_set (d := 1) rfl rfl (pm_tw_of 60 1 (by decide) (by decide) (by decide)) (by decide)) rfl rfl hdd (by decide) (by decide) (by decide) (pm_kv (fun σ' cnt' hq => ?_))
  obtain ⟨rfl, rfl⟩ := hq
  refine pm_iloadn hG dX9_append_54 rfl ?_
  exact pm_iret hG hF dX9_append_55 rfl (by decide) (by decide) ⟨_, rfl, ⟨rfl, rfl, rfl⟩⟩

set_option maxRecDepth 100000 in
set_option maxHeartbeats 4000000 in
theorem fc_X9_append_11 {B : Nat} {fw : Nat → Int32} {R : List pm_C} {zl : Int64} {d : Nat} (hdd : 2 ≤ d) : pm_met mX9_append d 0 0 B [.ref (B + 24), .int ((((zl.toUInt64 >>> ((16 : Int32).toInt64.toUInt64 &&& Int64.toUInt64 63)).toInt64).toInt32) &&& 255)] 74 (pm_up (pm_up (pm_up (pm_up (pm_cat (pm_ofL (l_k_class B fw)) 54 R) 24 (.inr (9, [.int 60, .int 1, .ref (B + 25), .int 1]))) 25 (.inl (60, pm_ts 60 1 (fun _ => 0) 0 0 ((((zl.toUInt64 >>> ((0 : Int32).toInt64.toUInt64 &&& Int64.toUInt64 63)).toInt64).toInt32) &&& 255)))) 24 (.inr (9, [.int 60, .int 1, .ref (B + 25), .int 2]))) 25 (.inl (60, pm_ts 60 1 (pm_ts 60 1 (fun _ => 0) 0 0 ((((zl.toUInt64 >>> ((0 : Int32).toInt64.toUInt64 &&& Int64.toUInt64 63)).toInt64).toInt32) &&& 255)) 1 0 ((((zl.toUInt64 >>> ((8 : Int32).toInt64.toUInt64 &&& Int64.toUInt64 63)).toInt64).toInt32) &&& 255)))) (pm_Qi (fun v σ' cnt' => v = 2 ∧ σ' = (pm_up (pm_up (pm_up (pm_up (pm_up (pm_up (pm_cat (pm_ofL (l_k_class B fw)) 54 R) 24 (.inr (9, [.int 60, .int 1, .ref (B + 25), .int 1]))) 25 (.inl (60, pm_ts 60 1 (fun _ => 0) 0 0 ((((zl.toUInt64 >>> ((0 : Int32).toInt64.toUInt64 &&& Int64.toUInt64 63)).toInt64).toInt32) &&& 255)))) 24 (.inr (9, [.int 60, .int 1, .ref (B + 25), .int 2]))) 25 (.inl (60, pm_ts 60 1 (pm_ts 60 1 (fun _ => 0) 0 0 ((((zl.toUInt64 >>> ((0 : Int32).toInt64.toUInt64 &&& Int64.toUInt64 63)).toInt64).toInt32) &&& 255)) 1 0 ((((zl.toUInt64 >>> ((8 : Int32).toInt64.toUInt64 &&& Int64.toUInt64 63)).toInt64).toInt32) &&& 255)))) 24 (.inr (9, [.int 60, .int 1, .ref (B + 25), .int 3]))) 25 (.inl (60, pm_ts 60 1 (pm_ts 60 1 (pm_ts 60 1 (fun _ => 0) 0 0 ((((zl.toUInt64 >>> ((0 : Int32).toInt64.toUInt64 &&& Int64.toUInt64 63)).toInt64).toInt32) &&& 255)) 1 0 ((((zl.toUInt64 >>> ((8 : Int32).toInt64.toUInt64 &&& Int64.toUInt64 63)).toInt64).toInt32) &&& 255)) 2 0 ((((zl.toUInt64 >>> ((16 : Int32).toInt64.toUInt64 &&& Int64.toUInt64 63)).toInt64).toInt32) &&& 255)))) ∧ cnt' = 74)) := by
  refine pm_enter 2 (by decide) (Nat.le_of_ble_eq_true rfl) rfl (fun G hG hR hF => ?_)
  refine pm_aloadn hG dX9_append_0 rfl ?_
  refine pm_callV (As := []) (rest := []) hG hR dX9_append_1 (lkX9_39 _ rfl) okV_X9_isFull rfl rfl (tb_isFull (d := 1) rfl) rfl rfl hdd (by decide) (by decide) (by decide) (pm_ki (fun v σ' cnt' hq => ?_))
  obtain ⟨rfl, rfl, rfl⟩ := hq
  refine pm_top (v := 0) (by decide) ?_
  refine pm_if_eq (tgt := 9) hG dX9_append_4 rfl (fun _ => ?_) (fun q => absurd q (by decide))
  refine pm_aloadn hG dX9_append_9 rfl ?_
  refine pm_getf hG dX9_append_10 (flX9_29 _ rfl) rfl rfl ?_
  refine pm_istoreXn (loc' := [some (.ref (B + 24)), some (.int ((((zl.toUInt64 >>> ((16 : Int32).toInt64.toUInt64 &&& Int64.toUInt64 63)).toInt64).toInt32) &&& 255)), some (.int 2), none]) hG dX9_append_13 (by decide) (pm_c1b rfl) rfl ?_
  refine pm_aloadn hG dX9_append_14 rfl ?_
  refine pm_dup hG dX9_append_15 rfl ?_
  refine pm_getf hG dX9_append_16 (flX9_29 _ rfl) rfl rfl ?_
  refine pm_iconst (v := 1) hG dX9_append_19 (by decide) ?_
  refine pm_iadd hG dX9_append_20 ?_
  refine pm_top (v := 3) (by decide) ?_
  refine pm_putf hG dX9_append_21 (fwX9_29 _ rfl) rfl rfl rfl ?_
  refine pm_iconst (v := 1) hG dX9_append_24 (by decide) ?_
  refine pm_istoreXn (loc' := [some (.ref (B + 24)), some (.int ((((zl.toUInt64 >>> ((16 : Int32).toInt64.toUInt64 &&& Int64.toUInt64 63)).toInt64).toInt32) &&& 255)), some (.int 2), some (.int 1)]) hG dX9_append_25 (by decide) (pm_c1b rfl) rfl ?_
  refine pm_iloadn hG dX9_append_26 rfl ?_
  refine pm_aloadn hG dX9_append_27 rfl ?_
  refine pm_getf hG dX9_append_28 (flX9_22 _ rfl) rfl rfl ?_
  refine pm_icmp_ge (tgt := 47) hG dX9_append_31 rfl (fun _ => ?_) (fun q => absurd q (by decide))
  refine pm_aloadn hG dX9_append_47 rfl ?_
  refine pm_iloadn hG dX9_append_48 rfl ?_
  refine pm_iconst (v := 0) hG dX9_append_49 (by decide) ?_
  refine pm_iloadn hG dX9_append_50 rfl ?_
  refine pm_callV (As := [.int 2, .int 0, .int ((((zl.toUInt64 >>> ((16 : Int32).toInt64.toUInt64 &&& Int64.toUInt64 63)).toInt64).toInt32) &&& 255)]) (rest := []) hG hR dX9_append_51 (lkX9_35 _ rfl) okV_X9_set rfl rfl (tb_set (d := 1) rfl rfl (pm_tw_of 60 1 (by decide) (by decide) (by decide)) (by decide)) rfl rfl hdd (by decide) (by decide) (by decide) (pm_kv (fun σ' cnt' hq => ?_))
  obtain ⟨rfl, rfl⟩ := hq
  refine pm_iloadn hG dX9_append_54 rfl ?_
  exact pm_iret hG hF dX9_append_55 rfl (by decide) (by decide) ⟨_, rfl, ⟨rfl, rfl, rfl⟩⟩

set_option maxRecDepth 100000 in
set_option maxHeartbeats 4000000 in
theorem fc_X9_append_12 {B : Nat} {fw : Nat → Int32} {R : List pm_C} {zl : Int64} {d : Nat} (hdd : 2 ≤ d) : pm_met mX9_append d 0 0 B [.ref (B + 24), .int ((((zl.toUInt64 >>> ((24 : Int32).toInt64.toUInt64 &&& Int64.toUInt64 63)).toInt64).toInt32) &&& 255)] 74 (pm_up (pm_up (pm_up (pm_up (pm_up (pm_up (pm_cat (pm_ofL (l_k_class B fw)) 54 R) 24 (.inr (9, [.int 60, .int 1, .ref (B + 25), .int 1]))) 25 (.inl (60, pm_ts 60 1 (fun _ => 0) 0 0 ((((zl.toUInt64 >>> ((0 : Int32).toInt64.toUInt64 &&& Int64.toUInt64 63)).toInt64).toInt32) &&& 255)))) 24 (.inr (9, [.int 60, .int 1, .ref (B + 25), .int 2]))) 25 (.inl (60, pm_ts 60 1 (pm_ts 60 1 (fun _ => 0) 0 0 ((((zl.toUInt64 >>> ((0 : Int32).toInt64.toUInt64 &&& Int64.toUInt64 63)).toInt64).toInt32) &&& 255)) 1 0 ((((zl.toUInt64 >>> ((8 : Int32).toInt64.toUInt64 &&& Int64.toUInt64 63)).toInt64).toInt32) &&& 255)))) 24 (.inr (9, [.int 60, .int 1, .ref (B + 25), .int 3]))) 25 (.inl (60, pm_ts 60 1 (pm_ts 60 1 (pm_ts 60 1 (fun _ => 0) 0 0 ((((zl.toUInt64 >>> ((0 : Int32).toInt64.toUInt64 &&& Int64.toUInt64 63)).toInt64).toInt32) &&& 255)) 1 0 ((((zl.toUInt64 >>> ((8 : Int32).toInt64.toUInt64 &&& Int64.toUInt64 63)).toInt64).toInt32) &&& 255)) 2 0 ((((zl.toUInt64 >>> ((16 : Int32).toInt64.toUInt64 &&& Int64.toUInt64 63)).toInt64).toInt32) &&& 255)))) (pm_Qi (fun v σ' cnt' => v = 3 ∧ σ' = (pm_up (pm_up (pm_up (pm_up (pm_up (pm_up (pm_up (pm_up (pm_cat (pm_ofL (l_k_class B fw)) 54 R) 24 (.inr (9, [.int 60, .int 1, .ref (B + 25), .int 1]))) 25 (.inl (60, pm_ts 60 1 (fun _ => 0) 0 0 ((((zl.toUInt64 >>> ((0 : Int32).toInt64.toUInt64 &&& Int64.toUInt64 63)).toInt64).toInt32) &&& 255)))) 24 (.inr (9, [.int 60, .int 1, .ref (B + 25), .int 2]))) 25 (.inl (60, pm_ts 60 1 (pm_ts 60 1 (fun _ => 0) 0 0 ((((zl.toUInt64 >>> ((0 : Int32).toInt64.toUInt64 &&& Int64.toUInt64 63)).toInt64).toInt32) &&& 255)) 1 0 ((((zl.toUInt64 >>> ((8 : Int32).toInt64.toUInt64 &&& Int64.toUInt64 63)).toInt64).toInt32) &&& 255)))) 24 (.inr (9, [.int 60, .int 1, .ref (B + 25), .int 3]))) 25 (.inl (60, pm_ts 60 1 (pm_ts 60 1 (pm_ts 60 1 (fun _ => 0) 0 0 ((((zl.toUInt64 >>> ((0 : Int32).toInt64.toUInt64 &&& Int64.toUInt64 63)).toInt64).toInt32) &&& 255)) 1 0 ((((zl.toUInt64 >>> ((8 : Int32).toInt64.toUInt64 &&& Int64.toUInt64 63)).toInt64).toInt32) &&& 255)) 2 0 ((((zl.toUInt64 >>> ((16 : Int32).toInt64.toUInt64 &&& Int64.toUInt64 63)).toInt64).toInt32) &&& 255)))) 24 (.inr (9, [.int 60, .int 1, .ref (B + 25), .int 4]))) 25 (.inl (60, pm_ts 60 1 (pm_ts 60 1 (pm_ts 60 1 (pm_ts 60 1 (fun _ => 0) 0 0 ((((zl.toUInt64 >>> ((0 : Int32).toInt64.toUInt64 &&& Int64.toUInt64 63)).toInt64).toInt32) &&& 255)) 1 0 ((((zl.toUInt64 >>> ((8 : Int32).toInt64.toUInt64 &&& Int64.toUInt64 63)).toInt64).toInt32) &&& 255)) 2 0 ((((zl.toUInt64 >>> ((16 : Int32).toInt64.toUInt64 &&& Int64.toUInt64 63)).toInt64).toInt32) &&& 255)) 3 0 ((((zl.toUInt64 >>> ((24 : Int32).toInt64.toUInt64 &&& Int64.toUInt64 63)).toInt64).toInt32) &&& 255)))) ∧ cnt' = 74)) := by
  refine pm_enter 2 (by decide) (Nat.le_of_ble_eq_true rfl) rfl (fun G hG hR hF => ?_)
  refine pm_aloadn hG dX9_append_0 rfl ?_
  refine pm_callV (As := []) (rest := []) hG hR dX9_append_1 (lkX9_39 _ rfl) okV_X9_isFull rfl rfl (tb_isFull (d := 1) rfl) rfl rfl hdd (by decide) (by decide) (by decide) (pm_ki (fun v σ' cnt' hq => ?_))
  obtain ⟨rfl, rfl, rfl⟩ := hq
  refine pm_top (v := 0) (by decide) ?_
  refine pm_if_eq (tgt := 9) hG dX9_append_4 rfl (fun _ => ?_) (fun q => absurd q (by decide))
  refine pm_aloadn hG dX9_append_9 rfl ?_
  refine pm_getf hG dX9_append_10 (flX9_29 _ rfl) rfl rfl ?_
  refine pm_istoreXn (loc' := [some (.ref (B + 24)), some (.int ((((zl.toUInt64 >>> ((24 : Int32).toInt64.toUInt64 &&& Int64.toUInt64 63)).toInt64).toInt32) &&& 255)), some (.int 3), none]) hG dX9_append_13 (by decide) (pm_c1b rfl) rfl ?_
  refine pm_aloadn hG dX9_append_14 rfl ?_
  refine pm_dup hG dX9_append_15 rfl ?_
  refine pm_getf hG dX9_append_16 (flX9_29 _ rfl) rfl rfl ?_
  refine pm_iconst (v := 1) hG dX9_append_19 (by decide) ?_
  refine pm_iadd hG dX9_append_20 ?_
  refine pm_top (v := 4) (by decide) ?_
  refine pm_putf hG dX9_append_21 (fwX9_29 _ rfl) rfl rfl rfl ?_
  refine pm_iconst (v := 1) hG dX9_append_24 (by decide) ?_
  refine pm_istoreXn (loc' := [some (.ref (B + 24)), some (.int ((((zl.toUInt64 >>> ((24 : Int32).toInt64.toUInt64 &&& Int64.toUInt64 63)).toInt64).toInt32) &&& 255)), some (.int 3), some (.int 1)]) hG dX9_append_25 (by decide) (pm_c1b rfl) rfl ?_
  refine pm_iloadn hG dX9_append_26 rfl ?_
  refine pm_aloadn hG dX9_append_27 rfl ?_
  refine pm_getf hG dX9_append_28 (flX9_22 _ rfl) rfl rfl ?_
  refine pm_icmp_ge (tgt := 47) hG dX9_append_31 rfl (fun _ => ?_) (fun q => absurd q (by decide))
  refine pm_aloadn hG dX9_append_47 rfl ?_
  refine pm_iloadn hG dX9_append_48 rfl ?_
  refine pm_iconst (v := 0) hG dX9_append_49 (by decide) ?_
  refine pm_iloadn hG dX9_append_50 rfl ?_
  refine pm_callV (As := [.int 3, .int 0, .int ((((zl.toUInt64 >>> ((24 : Int32).toInt64.toUInt64 &&& Int64.toUInt64 63)).toInt64).toInt32) &&& 255)]) (rest := []) hG hR dX9_append_51 (lkX9_35 _ rfl) okV_X9_set rfl rfl (tb_set (d := 1) rfl rfl (pm_tw_of 60 1 (by decide) (by decide) (by decide)) (by decide)) rfl rfl hdd (by decide) (by decide) (by decide) (pm_kv (fun σ' cnt' hq => ?_))
  obtain ⟨rfl, rfl⟩ := hq
  refine pm_iloadn hG dX9_append_54 rfl ?_
  exact pm_iret hG hF dX9_append_55 rfl (by decide) (by decide) ⟨_, rfl, ⟨rfl, rfl, rfl⟩⟩

set_option maxRecDepth 100000 in
set_option maxHeartbeats 4000000 in
theorem fc_X9_append_13 {B : Nat} {fw : Nat → Int32} {R : List pm_C} {zl : Int64} {d : Nat} (hdd : 2 ≤ d) : pm_met mX9_append d 0 0 B [.ref (B + 24), .int ((((zl.toUInt64 >>> ((32 : Int32).toInt64.toUInt64 &&& Int64.toUInt64 63)).toInt64).toInt32) &&& 255)] 74 (pm_up (pm_up (pm_up (pm_up (pm_up (pm_up (pm_up (pm_up (pm_cat (pm_ofL (l_k_class B fw)) 54 R) 24 (.inr (9, [.int 60, .int 1, .ref (B + 25), .int 1]))) 25 (.inl (60, pm_ts 60 1 (fun _ => 0) 0 0 ((((zl.toUInt64 >>> ((0 : Int32).toInt64.toUInt64 &&& Int64.toUInt64 63)).toInt64).toInt32) &&& 255)))) 24 (.inr (9, [.int 60, .int 1, .ref (B + 25), .int 2]))) 25 (.inl (60, pm_ts 60 1 (pm_ts 60 1 (fun _ => 0) 0 0 ((((zl.toUInt64 >>> ((0 : Int32).toInt64.toUInt64 &&& Int64.toUInt64 63)).toInt64).toInt32) &&& 255)) 1 0 ((((zl.toUInt64 >>> ((8 : Int32).toInt64.toUInt64 &&& Int64.toUInt64 63)).toInt64).toInt32) &&& 255)))) 24 (.inr (9, [.int 60, .int 1, .ref (B + 25), .int 3]))) 25 (.inl (60, pm_ts 60 1 (pm_ts 60 1 (pm_ts 60 1 (fun _ => 0) 0 0 ((((zl.toUInt64 >>> ((0 : Int32).toInt64.toUInt64 &&& Int64.toUInt64 63)).toInt64).toInt32) &&& 255)) 1 0 ((((zl.toUInt64 >>> ((8 : Int32).toInt64.toUInt64 &&& Int64.toUInt64 63)).toInt64).toInt32) &&& 255)) 2 0 ((((zl.toUInt64 >>> ((16 : Int32).toInt64.toUInt64 &&& Int64.toUInt64 63)).toInt64).toInt32) &&& 255)))) 24 (.inr (9, [.int 60, .int 1, .ref (B + 25), .int 4]))) 25 (.inl (60, pm_ts 60 1 (pm_ts 60 1 (pm_ts 60 1 (pm_ts 60 1 (fun _ => 0) 0 0 ((((zl.toUInt64 >>> ((0 : Int32).toInt64.toUInt64 &&& Int64.toUInt64 63)).toInt64).toInt32) &&& 255)) 1 0 ((((zl.toUInt64 >>> ((8 : Int32).toInt64.toUInt64 &&& Int64.toUInt64 63)).toInt64).toInt32) &&& 255)) 2 0 ((((zl.toUInt64 >>> ((16 : Int32).toInt64.toUInt64 &&& Int64.toUInt64 63)).toInt64).toInt32) &&& 255)) 3 0 ((((zl.toUInt64 >>> ((24 : Int32).toInt64.toUInt64 &&& Int64.toUInt64 63)).toInt64).toInt32) &&& 255)))) (pm_Qi (fun v σ' cnt' => v = 4 ∧ σ' = (pm_up (pm_up (pm_up (pm_up (pm_up (pm_up (pm_up (pm_up (pm_up (pm_up (pm_cat (pm_ofL (l_k_class B fw)) 54 R) 24 (.inr (9, [.int 60, .int 1, .ref (B + 25), .int 1]))) 25 (.inl (60, pm_ts 60 1 (fun _ => 0) 0 0 ((((zl.toUInt64 >>> ((0 : Int32).toInt64.toUInt64 &&& Int64.toUInt64 63)).toInt64).toInt32) &&& 255)))) 24 (.inr (9, [.int 60, .int 1, .ref (B + 25), .int 2]))) 25 (.inl (60, pm_ts 60 1 (pm_ts 60 1 (fun _ => 0) 0 0 ((((zl.toUInt64 >>> ((0 : Int32).toInt64.toUInt64 &&& Int64.toUInt64 63)).toInt64).toInt32) &&& 255)) 1 0 ((((zl.toUInt64 >>> ((8 : Int32).toInt64.toUInt64 &&& Int64.toUInt64 63)).toInt64).toInt32) &&& 255)))) 24 (.inr (9, [.int 60, .int 1, .ref (B + 25), .int 3]))) 25 (.inl (60, pm_ts 60 1 (pm_ts 60 1 (pm_ts 60 1 (fun _ => 0) 0 0 ((((zl.toUInt64 >>> ((0 : Int32).toInt64.toUInt64 &&& Int64.toUInt64 63)).toInt64).toInt32) &&& 255)) 1 0 ((((zl.toUInt64 >>> ((8 : Int32).toInt64.toUInt64 &&& Int64.toUInt64 63)).toInt64).toInt32) &&& 255)) 2 0 ((((zl.toUInt64 >>> ((16 : Int32).toInt64.toUInt64 &&& Int64.toUInt64 63)).toInt64).toInt32) &&& 255)))) 24 (.inr (9, [.int 60, .int 1, .ref (B + 25), .int 4]))) 25 (.inl (60, pm_ts 60 1 (pm_ts 60 1 (pm_ts 60 1 (pm_ts 60 1 (fun _ => 0) 0 0 ((((zl.toUInt64 >>> ((0 : Int32).toInt64.toUInt64 &&& Int64.toUInt64 63)).toInt64).toInt32) &&& 255)) 1 0 ((((zl.toUInt64 >>> ((8 : Int32).toInt64.toUInt64 &&& Int64.toUInt64 63)).toInt64).toInt32) &&& 255)) 2 0 ((((zl.toUInt64 >>> ((16 : Int32).toInt64.toUInt64 &&& Int64.toUInt64 63)).toInt64).toInt32) &&& 255)) 3 0 ((((zl.toUInt64 >>> ((24 : Int32).toInt64.toUInt64 &&& Int64.toUInt64 63)).toInt64).toInt32) &&& 255)))) 24 (.inr (9, [.int 60, .int 1, .ref (B + 25), .int 5]))) 25 (.inl (60, pm_ts 60 1 (pm_ts 60 1 (pm_ts 60 1 (pm_ts 60 1 (pm_ts 60 1 (fun _ => 0) 0 0 ((((zl.toUInt64 >>> ((0 : Int32).toInt64.toUInt64 &&& Int64.toUInt64 63)).toInt64).toInt32) &&& 255)) 1 0 ((((zl.toUInt64 >>> ((8 : Int32).toInt64.toUInt64 &&& Int64.toUInt64 63)).toInt64).toInt32) &&& 255)) 2 0 ((((zl.toUInt64 >>> ((16 : Int32).toInt64.toUInt64 &&& Int64.toUInt64 63)).toInt64).toInt32) &&& 255)) 3 0 ((((zl.toUInt64 >>> ((24 : Int32).toInt64.toUInt64 &&& Int64.toUInt64 63)).toInt64).toInt32) &&& 255)) 4 0 ((((zl.toUInt64 >>> ((32 : Int32).toInt64.toUInt64 &&& Int64.toUInt64 63)).toInt64).toInt32) &&& 255)))) ∧ cnt' = 74)) := by
  refine pm_enter 2 (by decide) (Nat.le_of_ble_eq_true rfl) rfl (fun G hG hR hF => ?_)
  refine pm_aloadn hG dX9_append_0 rfl ?_
  refine pm_callV (As := []) (rest := []) hG hR dX9_append_1 (lkX9_39 _ rfl) okV_X9_isFull rfl rfl (tb_isFull (d := 1) rfl) rfl rfl hdd (by decide) (by decide) (by decide) (pm_ki (fun v σ' cnt' hq => ?_))
  obtain ⟨rfl, rfl, rfl⟩ := hq
  refine pm_top (v := 0) (by decide) ?_
  refine pm_if_eq (tgt := 9) hG dX9_append_4 rfl (fun _ => ?_) (fun q => absurd q (by decide))
  refine pm_aloadn hG dX9_append_9 rfl ?_
  refine pm_getf hG dX9_append_10 (flX9_29 _ rfl) rfl rfl ?_
  refine pm_istoreXn (loc' := [some (.ref (B + 24)), some (.int ((((zl.toUInt64 >>> ((32 : Int32).toInt64.toUInt64 &&& Int64.toUInt64 63)).toInt64).toInt32) &&& 255)), some (.int 4), none]) hG dX9_append_13 (by decide) (pm_c1b rfl) rfl ?_
  refine pm_aloadn hG dX9_append_14 rfl ?_
  refine pm_dup hG dX9_append_15 rfl ?_
  refine pm_getf hG dX9_append_16 (flX9_29 _ rfl) rfl rfl ?_
  refine pm_iconst (v := 1) hG dX9_append_19 (by decide) ?_
  refine pm_iadd hG dX9_append_20 ?_
  refine pm_top (v := 5) (by decide) ?_
  refine pm_putf hG dX9_append_21 (fwX9_29 _ rfl) rfl rfl rfl ?_
  refine pm_iconst (v := 1) hG dX9_append_24 (by decide) ?_
  refine pm_istoreXn (loc' := [some (.ref (B + 24)), some (.int ((((zl.toUInt64 >>> ((32 : Int32).toInt64.toUInt64 &&& Int64.toUInt64 63)).toInt64).toInt32) &&& 255)), some (.int 4), some (.int 1)]) hG dX9_append_25 (by decide) (pm_c1b rfl) rfl ?_
  refine pm_iloadn hG dX9_append_26 rfl ?_
  refine pm_aloadn hG dX9_append_27 rfl ?_
  refine pm_getf hG dX9_append_28 (flX9_22 _ rfl) rfl rfl ?_
  refine pm_icmp_ge (tgt := 47) hG dX9_append_31 rfl (fun _ => ?_) (fun q => absurd q (by decide))
  refine pm_aloadn hG dX9_append_47 rfl ?_
  refine pm_iloadn hG dX9_append_48 rfl ?_
  refine pm_iconst (v := 0) hG dX9_append_49 (by decide) ?_
  refine pm_iloadn hG dX9_append_50 rfl ?_
  refine pm_callV (As := [.int 4, .int 0, .int ((((zl.toUInt64 >>> ((32 : Int32).toInt64.toUInt64 &&& Int64.toUInt64 63)).toInt64).toInt32) &&& 255)]) (rest := []) hG hR dX9_append_51 (lkX9_35 _ rfl) okV_X9_set rfl rfl (tb_set (d := 1) rfl rfl (pm_tw_of 60 1 (by decide) (by decide) (by decide)) (by decide)) rfl rfl hdd (by decide) (by decide) (by decide) (pm_kv (fun σ' cnt' hq => ?_))
  obtain ⟨rfl, rfl⟩ := hq
  refine pm_iloadn hG dX9_append_54 rfl ?_
  exact pm_iret hG hF dX9_append_55 rfl (by decide) (by decide) ⟨_, rfl, ⟨rfl, rfl, rfl⟩⟩

set_option maxRecDepth 100000 in
set_option maxHeartbeats 4000000 in
theorem fc_X9_append_14 {B : Nat} {fw : Nat → Int32} {R : List pm_C} {zl : Int64} {d : Nat} (hdd : 2 ≤ d) : pm_met mX9_append d 0 0 B [.ref (B + 24), .int ((((zl.toUInt64 >>> ((40 : Int32).toInt64.toUInt64 &&& Int64.toUInt64 63)).toInt64).toInt32) &&& 255)] 74 (pm_up (pm_up (pm_up (pm_up (pm_up (pm_up (pm_up (pm_up (pm_up (pm_up (pm_cat (pm_ofL (l_k_class B fw)) 54 R) 24 (.inr (9, [.int 60, .int 1, .ref (B + 25), .int 1]))) 25 (.inl (60, pm_ts 60 1 (fun _ => 0) 0 0 ((((zl.toUInt64 >>> ((0 : Int32).toInt64.toUInt64 &&& Int64.toUInt64 63)).toInt64).toInt32) &&& 255)))) 24 (.inr (9, [.int 60, .int 1, .ref (B + 25), .int 2]))) 25 (.inl (60, pm_ts 60 1 (pm_ts 60 1 (fun _ => 0) 0 0 ((((zl.toUInt64 >>> ((0 : Int32).toInt64.toUInt64 &&& Int64.toUInt64 63)).toInt64).toInt32) &&& 255)) 1 0 ((((zl.toUInt64 >>> ((8 : Int32).toInt64.toUInt64 &&& Int64.toUInt64 63)).toInt64).toInt32) &&& 255)))) 24 (.inr (9, [.int 60, .int 1, .ref (B + 25), .int 3]))) 25 (.inl (60, pm_ts 60 1 (pm_ts 60 1 (pm_ts 60 1 (fun _ => 0) 0 0 ((((zl.toUInt64 >>> ((0 : Int32).toInt64.toUInt64 &&& Int64.toUInt64 63)).toInt64).toInt32) &&& 255)) 1 0 ((((zl.toUInt64 >>> ((8 : Int32).toInt64.toUInt64 &&& Int64.toUInt64 63)).toInt64).toInt32) &&& 255)) 2 0 ((((zl.toUInt64 >>> ((16 : Int32).toInt64.toUInt64 &&& Int64.toUInt64 63)).toInt64).toInt32) &&& 255)))) 24 (.inr (9, [.int 60, .int 1, .ref (B + 25), .int 4]))) 25 (.inl (60, pm_ts 60 1 (pm_ts 60 1 (pm_ts 60 1 (pm_ts 60 1 (fun _ => 0) 0 0 ((((zl.toUInt64 >>> ((0 : Int32).toInt64.toUInt64 &&& Int64.toUInt64 63)).toInt64).toInt32) &&& 255)) 1 0 ((((zl.toUInt64 >>> ((8 : Int32).toInt64.toUInt64 &&& Int64.toUInt64 63)).toInt64).toInt32) &&& 255)) 2 0 ((((zl.toUInt64 >>> ((16 : Int32).toInt64.toUInt64 &&& Int64.toUInt64 63)).toInt64).toInt32) &&& 255)) 3 0 ((((zl.toUInt64 >>> ((24 : Int32).toInt64.toUInt64 &&& Int64.toUInt64 63)).toInt64).toInt32) &&& 255)))) 24 (.inr (9, [.int 60, .int 1, .ref (B + 25), .int 5]))) 25 (.inl (60, pm_ts 60 1 (pm_ts 60 1 (pm_ts 60 1 (pm_ts 60 1 (pm_ts 60 1 (fun _ => 0) 0 0 ((((zl.toUInt64 >>> ((0 : Int32).toInt64.toUInt64 &&& Int64.toUInt64 63)).toInt64).toInt32) &&& 255)) 1 0 ((((zl.toUInt64 >>> ((8 : Int32).toInt64.toUInt64 &&& Int64.toUInt64 63)).toInt64).toInt32) &&& 255)) 2 0 ((((zl.toUInt64 >>> ((16 : Int32).toInt64.toUInt64 &&& Int64.toUInt64 63)).toInt64).toInt32) &&& 255)) 3 0 ((((zl.toUInt64 >>> ((24 : Int32).toInt64.toUInt64 &&& Int64.toUInt64 63)).toInt64).toInt32) &&& 255)) 4 0 ((((zl.toUInt64 >>> ((32 : Int32).toInt64.toUInt64 &&& Int64.toUInt64 63)).toInt64).toInt32) &&& 255)))) (pm_Qi (fun v σ' cnt' => v = 5 ∧ σ' = (pm_up (pm_up (pm_up (pm_up (pm_up (pm_up (pm_up (pm_up (pm_up (pm_up (pm_up (pm_up (pm_cat (pm_ofL (l_k_class B fw)) 54 R) 24 (.inr (9, [.int 60, .int 1, .ref (B + 25), .int 1]))) 25 (.inl (60, pm_ts 60 1 (fun _ => 0) 0 0 ((((zl.toUInt64 >>> ((0 : Int32).toInt64.toUInt64 &&& Int64.toUInt64 63)).toInt64).toInt32) &&& 255)))) 24 (.inr (9, [.int 60, .int 1, .ref (B + 25), .int 2]))) 25 (.inl (60, pm_ts 60 1 (pm_ts 60 1 (fun _ => 0) 0 0 ((((zl.toUInt64 >>> ((0 : Int32).toInt64.toUInt64 &&& Int64.toUInt64 63)).toInt64).toInt32) &&& 255)) 1 0 ((((zl.toUInt64 >>> ((8 : Int32).toInt64.toUInt64 &&& Int64.toUInt64 63)).toInt64).toInt32) &&& 255)))) 24 (.inr (9, [.int 60, .int 1, .ref (B + 25), .int 3]))) 25 (.inl (60, pm_ts 60 1 (pm_ts 60 1 (pm_ts 60 1 (fun _ => 0) 0 0 ((((zl.toUInt64 >>> ((0 : Int32).toInt64.toUInt64 &&& Int64.toUInt64 63)).toInt64).toInt32) &&& 255)) 1 0 ((((zl.toUInt64 >>> ((8 : Int32).toInt64.toUInt64 &&& Int64.toUInt64 63)).toInt64).toInt32) &&& 255)) 2 0 ((((zl.toUInt64 >>> ((16 : Int32).toInt64.toUInt64 &&& Int64.toUInt64 63)).toInt64).toInt32) &&& 255)))) 24 (.inr (9, [.int 60, .int 1, .ref (B + 25), .int 4]))) 25 (.inl (60, pm_ts 60 1 (pm_ts 60 1 (pm_ts 60 1 (pm_ts 60 1 (fun _ => 0) 0 0 ((((zl.toUInt64 >>> ((0 : Int32).toInt64.toUInt64 &&& Int64.toUInt64 63)).toInt64).toInt32) &&& 255)) 1 0 ((((zl.toUInt64 >>> ((8 : Int32).toInt64.toUInt64 &&& Int64.toUInt64 63)).toInt64).toInt32) &&& 255)) 2 0 ((((zl.toUInt64 >>> ((16 : Int32).toInt64.toUInt64 &&& Int64.toUInt64 63)).toInt64).toInt32) &&& 255)) 3 0 ((((zl.toUInt64 >>> ((24 : Int32).toInt64.toUInt64 &&& Int64.toUInt64 63)).toInt64).toInt32) &&& 255)))) 24 (.inr (9, [.int 60, .int 1, .ref (B + 25), .int 5]))) 25 (.inl (60, pm_ts 60 1 (pm_ts 60 1 (pm_ts 60 1 (pm_ts 60 1 (pm_ts 60 1 (fun _ => 0) 0 0 ((((zl.toUInt64 >>> ((0 : Int32).toInt64.toUInt64 &&& Int64.toUInt64 63)).toInt64).toInt32) &&& 255)) 1 0 ((((zl.toUInt64 >>> ((8 : Int32).toInt64.toUInt64 &&& Int64.toUInt64 63)).toInt64).toInt32) &&& 255)) 2 0 ((((zl.toUInt64 >>> ((16 : Int32).toInt64.toUInt64 &&& Int64.toUInt64 63)).toInt64).toInt32) &&& 255)) 3 0 ((((zl.toUInt64 >>> ((24 : Int32).toInt64.toUInt64 &&& Int64.toUInt64 63)).toInt64).toInt32) &&& 255)) 4 0 ((((zl.toUInt64 >>> ((32 : Int32).toInt64.toUInt64 &&& Int64.toUInt64 63)).toInt64).toInt32) &&& 255)))) 24 (.inr (9, [.int 60, .int 1, .ref (B + 25), .int 6]))) 25 (.inl (60, pm_ts 60 1 (pm_ts 60 1 (pm_ts 60 1 (pm_ts 60 1 (pm_ts 60 1 (pm_ts 60 1 (fun _ => 0) 0 0 ((((zl.toUInt64 >>> ((0 : Int32).toInt64.toUInt64 &&& Int64.toUInt64 63)).toInt64).toInt32) &&& 255)) 1 0 ((((zl.toUInt64 >>> ((8 : Int32).toInt64.toUInt64 &&& Int64.toUInt64 63)).toInt64).toInt32) &&& 255)) 2 0 ((((zl.toUInt64 >>> ((16 : Int32).toInt64.toUInt64 &&& Int64.toUInt64 63)).toInt64).toInt32) &&& 255)) 3 0 ((((zl.toUInt64 >>> ((24 : Int32).toInt64.toUInt64 &&& Int64.toUInt64 63)).toInt64).toInt32) &&& 255)) 4 0 ((((zl.toUInt64 >>> ((32 : Int32).toInt64.toUInt64 &&& Int64.toUInt64 63)).toInt64).toInt32) &&& 255)) 5 0 ((((zl.toUInt64 >>> ((40 : Int32).toInt64.toUInt64 &&& Int64.toUInt64 63)).toInt64).toInt32) &&& 255)))) ∧ cnt' = 74)) := by
  refine pm_enter 2 (by decide) (Nat.le_of_ble_eq_true rfl) rfl (fun G hG hR hF => ?_)
  refine pm_aloadn hG dX9_append_0 rfl ?_
  refine pm_callV (As := []) (rest := []) hG hR dX9_append_1 (lkX9_39 _ rfl) okV_X9_isFull rfl rfl (tb_isFull (d := 1) rfl) rfl rfl hdd (by decide) (by decide) (by decide) (pm_ki (fun v σ' cnt' hq => ?_))
  obtain ⟨rfl, rfl, rfl⟩ := hq
  refine pm_top (v := 0) (by decide) ?_
  refine pm_if_eq (tgt := 9) hG dX9_append_4 rfl (fun _ => ?_) (fun q => absurd q (by decide))
  refine pm_aloadn hG dX9_append_9 rfl ?_
  refine pm_getf hG dX9_append_10 (flX9_29 _ rfl) rfl rfl ?_
  refine pm_istoreXn (loc' := [some (.ref (B + 24)), some (.int ((((zl.toUInt64 >>> ((40 : Int32).toInt64.toUInt64 &&& Int64.toUInt64 63)).toInt64).toInt32) &&& 255)), some (.int 5), none]) hG dX9_append_13 (by decide) (pm_c1b rfl) rfl ?_
  refine pm_aloadn hG dX9_append_14 rfl ?_
  refine pm_dup hG dX9_append_15 rfl ?_
  refine pm_getf hG dX9_append_16 (flX9_29 _ rfl) rfl rfl ?_
  refine pm_iconst (v := 1) hG dX9_append_19 (by decide) ?_
  refine pm_iadd hG dX9_append_20 ?_
  refine pm_top (v := 6) (by decide) ?_
  refine pm_putf hG dX9_append_21 (fwX9_29 _ rfl) rfl rfl rfl ?_
  refine pm_iconst (v := 1) hG dX9_append_24 (by decide) ?_
  refine pm_istoreXn (loc' := [some (.ref (B + 24)), some (.int ((((zl.toUInt64 >>> ((40 : Int32).toInt64.toUInt64 &&& Int64.toUInt64 63)).toInt64).toInt32) &&& 255)), some (.int 5), some (.int 1)]) hG dX9_append_25 (by decide) (pm_c1b rfl) rfl ?_
  refine pm_iloadn hG dX9_append_26 rfl ?_
  refine pm_aloadn hG dX9_append_27 rfl ?_
  refine pm_getf hG dX9_append_28 (flX9_22 _ rfl) rfl rfl ?_
  refine pm_icmp_ge (tgt := 47) hG dX9_append_31 rfl (fun _ => ?_) (fun q => absurd q (by decide))
  refine pm_aloadn hG dX9_append_47 rfl ?_
  refine pm_iloadn hG dX9_append_48 rfl ?_
  refine pm_iconst (v := 0) hG dX9_append_49 (by decide) ?_
  refine pm_iloadn hG dX9_append_50 rfl ?_
  refine pm_callV (As := [.int 5, .int 0, .int ((((zl.toUInt64 >>> ((40 : Int32).toInt64.toUInt64 &&& Int64.toUInt64 63)).toInt64).toInt32) &&& 255)]) (rest := []) hG hR dX9_append_51 (lkX9_35 _ rfl) okV_X9_set rfl rfl (tb_set (d := 1) rfl rfl (pm_tw_of 60 1 (by decide) (by decide) (by decide)) (by decide)) rfl rfl hdd (by decide) (by decide) (by decide) (pm_kv (fun σ' cnt' hq => ?_))
  obtain ⟨rfl, rfl⟩ := hq
  refine pm_iloadn hG dX9_append_54 rfl ?_
  exact pm_iret hG hF dX9_append_55 rfl (by decide) (by decide) ⟨_, rfl, ⟨rfl, rfl, rfl⟩⟩

set_option maxRecDepth 100000 in
set_option maxHeartbeats 4000000 in
theorem fc_X9_append_15 {B : Nat} {fw : Nat → Int32} {R : List pm_C} {zl : Int64} {d : Nat} (hdd : 2 ≤ d) : pm_met mX9_append d 0 0 B [.ref (B + 24), .int ((((zl.toUInt64 >>> ((48 : Int32).toInt64.toUInt64 &&& Int64.toUInt64 63)).toInt64).toInt32) &&& 255)] 74 (pm_up (pm_up (pm_up (pm_up (pm_up (pm_up (pm_up (pm_up (pm_up (pm_up (pm_up (pm_up (pm_cat (pm_ofL (l_k_class B fw)) 54 R) 24 (.inr (9, [.int 60, .int 1, .ref (B + 25), .int 1]))) 25 (.inl (60, pm_ts 60 1 (fun _ => 0) 0 0 ((((zl.toUInt64 >>> ((0 : Int32).toInt64.toUInt64 &&& Int64.toUInt64 63)).toInt64).toInt32) &&& 255)))) 24 (.inr (9, [.int 60, .int 1, .ref (B + 25), .int 2]))) 25 (.inl (60, pm_ts 60 1 (pm_ts 60 1 (fun _ => 0) 0 0 ((((zl.toUInt64 >>> ((0 : Int32).toInt64.toUInt64 &&& Int64.toUInt64 63)).toInt64).toInt32) &&& 255)) 1 0 ((((zl.toUInt64 >>> ((8 : Int32).toInt64.toUInt64 &&& Int64.toUInt64 63)).toInt64).toInt32) &&& 255)))) 24 (.inr (9, [.int 60, .int 1, .ref (B + 25), .int 3]))) 25 (.inl (60, pm_ts 60 1 (pm_ts 60 1 (pm_ts 60 1 (fun _ => 0) 0 0 ((((zl.toUInt64 >>> ((0 : Int32).toInt64.toUInt64 &&& Int64.toUInt64 63)).toInt64).toInt32) &&& 255)) 1 0 ((((zl.toUInt64 >>> ((8 : Int32).toInt64.toUInt64 &&& Int64.toUInt64 63)).toInt64).toInt32) &&& 255)) 2 0 ((((zl.toUInt64 >>> ((16 : Int32).toInt64.toUInt64 &&& Int64.toUInt64 63)).toInt64).toInt32) &&& 255)))) 24 (.inr (9, [.int 60, .int 1, .ref (B + 25), .int 4]))) 25 (.inl (60, pm_ts 60 1 (pm_ts 60 1 (pm_ts 60 1 (pm_ts 60 1 (fun _ => 0) 0 0 ((((zl.toUInt64 >>> ((0 : Int32).toInt64.toUInt64 &&& Int64.toUInt64 63)).toInt64).toInt32) &&& 255)) 1 0 ((((zl.toUInt64 >>> ((8 : Int32).toInt64.toUInt64 &&& Int64.toUInt64 63)).toInt64).toInt32) &&& 255)) 2 0 ((((zl.toUInt64 >>> ((16 : Int32).toInt64.toUInt64 &&& Int64.toUInt64 63)).toInt64).toInt32) &&& 255)) 3 0 ((((zl.toUInt64 >>> ((24 : Int32).toInt64.toUInt64 &&& Int64.toUInt64 63)).toInt64).toInt32) &&& 255)))) 24 (.inr (9, [.int 60, .int 1, .ref (B + 25), .int 5]))) 25 (.inl (60, pm_ts 60 1 (pm_ts 60 1 (pm_ts 60 1 (pm_ts 60 1 (pm_ts 60 1 (fun _ => 0) 0 0 ((((zl.toUInt64 >>> ((0 : Int32).toInt64.toUInt64 &&& Int64.toUInt64 63)).toInt64).toInt32) &&& 255)) 1 0 ((((zl.toUInt64 >>> ((8 : Int32).toInt64.toUInt64 &&& Int64.toUInt64 63)).toInt64).toInt32) &&& 255)) 2 0 ((((zl.toUInt64 >>> ((16 : Int32).toInt64.toUInt64 &&& Int64.toUInt64 63)).toInt64).toInt32) &&& 255)) 3 0 ((((zl.toUInt64 >>> ((24 : Int32).toInt64.toUInt64 &&& Int64.toUInt64 63)).toInt64).toInt32) &&& 255)) 4 0 ((((zl.toUInt64 >>> ((32 : Int32).toInt64.toUInt64 &&& Int64.toUInt64 63)).toInt64).toInt32) &&& 255)))) 24 (.inr (9, [.int 60, .int 1, .ref (B + 25), .int 6]))) 25 (.inl (60, pm_ts 60 1 (pm_ts 60 1 (pm_ts 60 1 (pm_ts 60 1 (pm_ts 60 1 (pm_ts 60 1 (fun _ => 0) 0 0 ((((zl.toUInt64 >>> ((0 : Int32).toInt64.toUInt64 &&& Int64.toUInt64 63)).toInt64).toInt32) &&& 255)) 1 0 ((((zl.toUInt64 >>> ((8 : Int32).toInt64.toUInt64 &&& Int64.toUInt64 63)).toInt64).toInt32) &&& 255)) 2 0 ((((zl.toUInt64 >>> ((16 : Int32).toInt64.toUInt64 &&& Int64.toUInt64 63)).toInt64).toInt32) &&& 255)) 3 0 ((((zl.toUInt64 >>> ((24 : Int32).toInt64.toUInt64 &&& Int64.toUInt64 63)).toInt64).toInt32) &&& 255)) 4 0 ((((zl.toUInt64 >>> ((32 : Int32).toInt64.toUInt64 &&& Int64.toUInt64 63)).toInt64).toInt32) &&& 255)) 5 0 ((((zl.toUInt64 >>> ((40 : Int32).toInt64.toUInt64 &&& Int64.toUInt64 63)).toInt64).toInt32) &&& 255)))) (pm_Qi (fun v σ' cnt' => v = 6 ∧ σ' = (pm_up (pm_up (pm_up (pm_up (pm_up (pm_up (pm_up (pm_up (pm_up (pm_up (pm_up (pm_up (pm_up (pm_up (pm_cat (pm_ofL (l_k_class B fw)) 54 R) 24 (.inr (9, [.int 60, .int 1, .ref (B + 25), .int 1]))) 25 (.inl (60, pm_ts 60 1 (fun _ => 0) 0 0 ((((zl.toUInt64 >>> ((0 : Int32).toInt64.toUInt64 &&& Int64.toUInt64 63)).toInt64).toInt32) &&& 255)))) 24 (.inr (9, [.int 60, .int 1, .ref (B + 25), .int 2]))) 25 (.inl (60, pm_ts 60 1 (pm_ts 60 1 (fun _ => 0) 0 0 ((((zl.toUInt64 >>> ((0 : Int32).toInt64.toUInt64 &&& Int64.toUInt64 63)).toInt64).toInt32) &&& 255)) 1 0 ((((zl.toUInt64 >>> ((8 : Int32).toInt64.toUInt64 &&& Int64.toUInt64 63)).toInt64).toInt32) &&& 255)))) 24 (.inr (9, [.int 60, .int 1, .ref (B + 25), .int 3]))) 25 (.inl (60, pm_ts 60 1 (pm_ts 60 1 (pm_ts 60 1 (fun _ => 0) 0 0 ((((zl.toUInt64 >>> ((0 : Int32).toInt64.toUInt64 &&& Int64.toUInt64 63)).toInt64).toInt32) &&& 255)) 1 0 ((((zl.toUInt64 >>> ((8 : Int32).toInt64.toUInt64 &&& Int64.toUInt64 63)).toInt64).toInt32) &&& 255)) 2 0 ((((zl.toUInt64 >>> ((16 : Int32).toInt64.toUInt64 &&& Int64.toUInt64 63)).toInt64).toInt32) &&& 255)))) 24 (.inr (9, [.int 60, .int 1, .ref (B + 25), .int 4]))) 25 (.inl (60, pm_ts 60 1 (pm_ts 60 1 (pm_ts 60 1 (pm_ts 60 1 (fun _ => 0) 0 0 ((((zl.toUInt64 >>> ((0 : Int32).toInt64.toUInt64 &&& Int64.toUInt64 63)).toInt64).toInt32) &&& 255)) 1 0 ((((zl.toUInt64 >>> ((8 : Int32).toInt64.toUInt64 &&& Int64.toUInt64 63)).toInt64).toInt32) &&& 255)) 2 0 ((((zl.toUInt64 >>> ((16 : Int32).toInt64.toUInt64 &&& Int64.toUInt64 63)).toInt64).toInt32) &&& 255)) 3 0 ((((zl.toUInt64 >>> ((24 : Int32).toInt64.toUInt64 &&& Int64.toUInt64 63)).toInt64).toInt32) &&& 255)))) 24 (.inr (9, [.int 60, .int 1, .ref (B + 25), .int 5]))) 25 (.inl (60, pm_ts 60 1 (pm_ts 60 1 (pm_ts 60 1 (pm_ts 60 1 (pm_ts 60 1 (fun _ => 0) 0 0 ((((zl.toUInt64 >>> ((0 : Int32).toInt64.toUInt64 &&& Int64.toUInt64 63)).toInt64).toInt32) &&& 255)) 1 0 ((((zl.toUInt64 >>> ((8 : Int32).toInt64.toUInt64 &&& Int64.toUInt64 63)).toInt64).toInt32) &&& 255)) 2 0 ((((zl.toUInt64 >>> ((16 : Int32).toInt64.toUInt64 &&& Int64.toUInt64 63)).toInt64).toInt32) &&& 255)) 3 0 ((((zl.toUInt64 >>> ((24 : Int32).toInt64.toUInt64 &&& Int64.toUInt64 63)).toInt64).toInt32) &&& 255)) 4 0 ((((zl.toUInt64 >>> ((32 : Int32).toInt64.toUInt64 &&& Int64.toUInt64 63)).toInt64).toInt32) &&& 255)))) 24 (.inr (9, [.int 60, .int 1, .ref (B + 25), .int 6]))) 25 (.inl (60, pm_ts 60 1 (pm_ts 60 1 (pm_ts 60 1 (pm_ts 60 1 (pm_ts 60 1 (pm_ts 60 1 (fun _ => 0) 0 0 ((((zl.toUInt64 >>> ((0 : Int32).toInt64.toUInt64 &&& Int64.toUInt64 63)).toInt64).toInt32) &&& 255)) 1 0 ((((zl.toUInt64 >>> ((8 : Int32).toInt64.toUInt64 &&& Int64.toUInt64 63)).toInt64).toInt32) &&& 255)) 2 0 ((((zl.toUInt64 >>> ((16 : Int32).toInt64.toUInt64 &&& Int64.toUInt64 63)).toInt64).toInt32) &&& 255)) 3 0 ((((zl.toUInt64 >>> ((24 : Int32).toInt64.toUInt64 &&& Int64.toUInt64 63)).toInt64).toInt32) &&& 255)) 4 0 ((((zl.toUInt64 >>> ((32 : Int32).toInt64.toUInt64 &&& Int64.toUInt64 63)).toInt64).toInt32) &&& 255)) 5 0 ((((zl.toUInt64 >>> ((40 : Int32).toInt64.toUInt64 &&& Int64.toUInt64 63)).toInt64).toInt32) &&& 255)))) 24 (.inr (9, [.int 60, .int 1, .ref (B + 25), .int 7]))) 25 (.inl (60, pm_ts 60 1 (pm_ts 60 1 (pm_ts 60 1 (pm_ts 60 1 (pm_ts 60 1 (pm_ts 60 1 (pm_ts 60 1 (fun _ => 0) 0 0 ((((zl.toUInt64 >>> ((0 : Int32).toInt64.toUInt64 &&& Int64.toUInt64 63)).toInt64).toInt32) &&& 255)) 1 0 ((((zl.toUInt64 >>> ((8 : Int32).toInt64.toUInt64 &&& Int64.toUInt64 63)).toInt64).toInt32) &&& 255)) 2 0 ((((zl.toUInt64 >>> ((16 : Int32).toInt64.toUInt64 &&& Int64.toUInt64 63)).toInt64).toInt32) &&& 255)) 3 0 ((((zl.toUInt64 >>> ((24 : Int32).toInt64.toUInt64 &&& Int64.toUInt64 63)).toInt64).toInt32) &&& 255)) 4 0 ((((zl.toUInt64 >>> ((32 : Int32).toInt64.toUInt64 &&& Int64.toUInt64 63)).toInt64).toInt32) &&& 255)) 5 0 ((((zl.toUInt64 >>> ((40 : Int32).toInt64.toUInt64 &&& Int64.toUInt64 63)).toInt64).toInt32) &&& 255)) 6 0 ((((zl.toUInt64 >>> ((48 : Int32).toInt64.toUInt64 &&& Int64.toUInt64 63)).toInt64).toInt32) &&& 255)))) ∧ cnt' = 74)) := by
  refine pm_enter 2 (by decide) (Nat.le_of_ble_eq_true rfl) rfl (fun G hG hR hF => ?_)
  refine pm_aloadn hG dX9_append_0 rfl ?_
  refine pm_callV (As := []) (rest := []) hG hR dX9_append_1 (lkX9_39 _ rfl) okV_X9_isFull rfl rfl (tb_isFull (d := 1) rfl) rfl rfl hdd (by decide) (by decide) (by decide) (pm_ki (fun v σ' cnt' hq => ?_))
  obtain ⟨rfl, rfl, rfl⟩ := hq
  refine pm_top (v := 0) (by decide) ?_
  refine pm_if_eq (tgt := 9) hG dX9_append_4 rfl (fun _ => ?_) (fun q => absurd q (by decide))
  refine pm_aloadn hG dX9_append_9 rfl ?_
  refine pm_getf hG dX9_append_10 (flX9_29 _ rfl) rfl rfl ?_
  refine pm_istoreXn (loc' := [some (.ref (B + 24)), some (.int ((((zl.toUInt64 >>> ((48 : Int32).toInt64.toUInt64 &&& Int64.toUInt64 63)).toInt64).toInt32) &&& 255)), some (.int 6), none]) hG dX9_append_13 (by decide) (pm_c1b rfl) rfl ?_
  refine pm_aloadn hG dX9_append_14 rfl ?_
  refine pm_dup hG dX9_append_15 rfl ?_
  refine pm_getf hG dX9_append_16 (flX9_29 _ rfl) rfl rfl ?_
  refine pm_iconst (v := 1) hG dX9_append_19 (by decide) ?_
  refine pm_iadd hG dX9_append_20 ?_
  refine pm_top (v := 7) (by decide) ?_
  refine pm_putf hG dX9_append_21 (fwX9_29 _ rfl) rfl rfl rfl ?_
  refine pm_iconst (v := 1) hG dX9_append_24 (by decide) ?_
  refine pm_istoreXn (loc' := [some (.ref (B + 24)), some (.int ((((zl.toUInt64 >>> ((48 : Int32).toInt64.toUInt64 &&& Int64.toUInt64 63)).toInt64).toInt32) &&& 255)), some (.int 6), some (.int 1)]) hG dX9_append_25 (by decide) (pm_c1b rfl) rfl ?_
  refine pm_iloadn hG dX9_append_26 rfl ?_
  refine pm_aloadn hG dX9_append_27 rfl ?_
  refine pm_getf hG dX9_append_28 (flX9_22 _ rfl) rfl rfl ?_
  refine pm_icmp_ge (tgt := 47) hG dX9_append_31 rfl (fun _ => ?_) (fun q => absurd q (by decide))
  refine pm_aloadn hG dX9_append_47 rfl ?_
  refine pm_iloadn hG dX9_append_48 rfl ?_
  refine pm_iconst (v := 0) hG dX9_append_49 (by decide) ?_
  refine pm_iloadn hG dX9_append_50 rfl ?_
  refine pm_callV (As := [.int 6, .int 0, .int ((((zl.toUInt64 >>> ((48 : Int32).toInt64.toUInt64 &&& Int64.toUInt64 63)).toInt64).toInt32) &&& 255)]) (rest := []) hG hR dX9_append_51 (lkX9_35 _ rfl) okV_X9_set rfl rfl (tb_set (d := 1) rfl rfl (pm_tw_of 60 1 (by decide) (by decide) (by decide)) (by decide)) rfl rfl hdd (by decide) (by decide) (by decide) (pm_kv (fun σ' cnt' hq => ?_))
  obtain ⟨rfl, rfl⟩ := hq
  refine pm_iloadn hG dX9_append_54 rfl ?_
  exact pm_iret hG hF dX9_append_55 rfl (by decide) (by decide) ⟨_, rfl, ⟨rfl, rfl, rfl⟩⟩

set_option maxRecDepth 100000 in
set_option maxHeartbeats 4000000 in
theorem fc_X9_append_16 {B : Nat} {fw : Nat → Int32} {R : List pm_C} {zl : Int64} {d : Nat} (hdd : 2 ≤ d) : pm_met mX9_append d 0 0 B [.ref (B + 24), .int ((((zl.toUInt64 >>> ((56 : Int32).toInt64.toUInt64 &&& Int64.toUInt64 63)).toInt64).toInt32) &&& 255)] 74 (pm_up (pm_up (pm_up (pm_up (pm_up (pm_up (pm_up (pm_up (pm_up (pm_up (pm_up (pm_up (pm_up (pm_up (pm_cat (pm_ofL (l_k_class B fw)) 54 R) 24 (.inr (9, [.int 60, .int 1, .ref (B + 25), .int 1]))) 25 (.inl (60, pm_ts 60 1 (fun _ => 0) 0 0 ((((zl.toUInt64 >>> ((0 : Int32).toInt64.toUInt64 &&& Int64.toUInt64 63)).toInt64).toInt32) &&& 255)))) 24 (.inr (9, [.int 60, .int 1, .ref (B + 25), .int 2]))) 25 (.inl (60, pm_ts 60 1 (pm_ts 60 1 (fun _ => 0) 0 0 ((((zl.toUInt64 >>> ((0 : Int32).toInt64.toUInt64 &&& Int64.toUInt64 63)).toInt64).toInt32) &&& 255)) 1 0 ((((zl.toUInt64 >>> ((8 : Int32).toInt64.toUInt64 &&& Int64.toUInt64 63)).toInt64).toInt32) &&& 255)))) 24 (.inr (9, [.int 60, .int 1, .ref (B + 25), .int 3]))) 25 (.inl (60, pm_ts 60 1 (pm_ts 60 1 (pm_ts 60 1 (fun _ => 0) 0 0 ((((zl.toUInt64 >>> ((0 : Int32).toInt64.toUInt64 &&& Int64.toUInt64 63)).toInt64).toInt32) &&& 255)) 1 0 ((((zl.toUInt64 >>> ((8 : Int32).toInt64.toUInt64 &&& Int64.toUInt64 63)).toInt64).toInt32) &&& 255)) 2 0 ((((zl.toUInt64 >>> ((16 : Int32).toInt64.toUInt64 &&& Int64.toUInt64 63)).toInt64).toInt32) &&& 255)))) 24 (.inr (9, [.int 60, .int 1, .ref (B + 25), .int 4]))) 25 (.inl (60, pm_ts 60 1 (pm_ts 60 1 (pm_ts 60 1 (pm_ts 60 1 (fun _ => 0) 0 0 ((((zl.toUInt64 >>> ((0 : Int32).toInt64.toUInt64 &&& Int64.toUInt64 63)).toInt64).toInt32) &&& 255)) 1 0 ((((zl.toUInt64 >>> ((8 : Int32).toInt64.toUInt64 &&& Int64.toUInt64 63)).toInt64).toInt32) &&& 255)) 2 0 ((((zl.toUInt64 >>> ((16 : Int32).toInt64.toUInt64 &&& Int64.toUInt64 63)).toInt64).toInt32) &&& 255)) 3 0 ((((zl.toUInt64 >>> ((24 : Int32).toInt64.toUInt64 &&& Int64.toUInt64 63)).toInt64).toInt32) &&& 255)))) 24 (.inr (9, [.int 60, .int 1, .ref (B + 25), .int 5]))) 25 (.inl (60, pm_ts 60 1 (pm_ts 60 1 (pm_ts 60 1 (pm_ts 60 1 (pm_ts 60 1 (fun _ => 0) 0 0 ((((zl.toUInt64 >>> ((0 : Int32).toInt64.toUInt64 &&& Int64.toUInt64 63)).toInt64).toInt32) &&& 255)) 1 0 ((((zl.toUInt64 >>> ((8 : Int32).toInt64.toUInt64 &&& Int64.toUInt64 63)).toInt64).toInt32) &&& 255)) 2 0 ((((zl.toUInt64 >>> ((16 : Int32).toInt64.toUInt64 &&& Int64.toUInt64 63)).toInt64).toInt32) &&& 255)) 3 0 ((((zl.toUInt64 >>> ((24 : Int32).toInt64.toUInt64 &&& Int64.toUInt64 63)).toInt64).toInt32) &&& 255)) 4 0 ((((zl.toUInt64 >>> ((32 : Int32).toInt64.toUInt64 &&& Int64.toUInt64 63)).toInt64).toInt32) &&& 255)))) 24 (.inr (9, [.int 60, .int 1, .ref (B + 25), .int 6]))) 25 (.inl (60, pm_ts 60 1 (pm_ts 60 1 (pm_ts 60 1 (pm_ts 60 1 (pm_ts 60 1 (pm_ts 60 1 (fun _ => 0) 0 0 ((((zl.toUInt64 >>> ((0 : Int32).toInt64.toUInt64 &&& Int64.toUInt64 63)).toInt64).toInt32) &&& 255)) 1 0 ((((zl.toUInt64 >>> ((8 : Int32).toInt64.toUInt64 &&& Int64.toUInt64 63)).toInt64).toInt32) &&& 255)) 2 0 ((((zl.toUInt64 >>> ((16 : Int32).toInt64.toUInt64 &&& Int64.toUInt64 63)).toInt64).toInt32) &&& 255)) 3 0 ((((zl.toUInt64 >>> ((24 : Int32).toInt64.toUInt64 &&& Int64.toUInt64 63)).toInt64).toInt32) &&& 255)) 4 0 ((((zl.toUInt64 >>> ((32 : Int32).toInt64.toUInt64 &&& Int64.toUInt64 63)).toInt64).toInt32) &&& 255)) 5 0 ((((zl.toUInt64 >>> ((40 : Int32).toInt64.toUInt64 &&& Int64.toUInt64 63)).toInt64).toInt32) &&& 255)))) 24 (.inr (9, [.int 60, .int 1, .ref (B + 25), .int 7]))) 25 (.inl (60, pm_ts 60 1 (pm_ts 60 1 (pm_ts 60 1 (pm_ts 60 1 (pm_ts 60 1 (pm_ts 60 1 (pm_ts 60 1 (fun _ => 0) 0 0 ((((zl.toUInt64 >>> ((0 : Int32).toInt64.toUInt64 &&& Int64.toUInt64 63)).toInt64).toInt32) &&& 255)) 1 0 ((((zl.toUInt64 >>> ((8 : Int32).toInt64.toUInt64 &&& Int64.toUInt64 63)).toInt64).toInt32) &&& 255)) 2 0 ((((zl.toUInt64 >>> ((16 : Int32).toInt64.toUInt64 &&& Int64.toUInt64 63)).toInt64).toInt32) &&& 255)) 3 0 ((((zl.toUInt64 >>> ((24 : Int32).toInt64.toUInt64 &&& Int64.toUInt64 63)).toInt64).toInt32) &&& 255)) 4 0 ((((zl.toUInt64 >>> ((32 : Int32).toInt64.toUInt64 &&& Int64.toUInt64 63)).toInt64).toInt32) &&& 255)) 5 0 ((((zl.toUInt64 >>> ((40 : Int32).toInt64.toUInt64 &&& Int64.toUInt64 63)).toInt64).toInt32) &&& 255)) 6 0 ((((zl.toUInt64 >>> ((48 : Int32).toInt64.toUInt64 &&& Int64.toUInt64 63)).toInt64).toInt32) &&& 255)))) (pm_Qi (fun v σ' cnt' => v = 7 ∧ σ' = (pm_up (pm_up (pm_up (pm_up (pm_up (pm_up (pm_up (pm_up (pm_up (pm_up (pm_up (pm_up (pm_up (pm_up (pm_up (pm_up (pm_cat (pm_ofL (l_k_class B fw)) 54 R) 24 (.inr (9, [.int 60, .int 1, .ref (B + 25), .int 1]))) 25 (.inl (60, pm_ts 60 1 (fun _ => 0) 0 0 ((((zl.toUInt64 >>> ((0 : Int32).toInt64.toUInt64 &&& Int64.toUInt64 63)).toInt64).toInt32) &&& 255)))) 24 (.inr (9, [.int 60, .int 1, .ref (B + 25), .int 2]))) 25 (.inl (60, pm_ts 60 1 (pm_ts 60 1 (fun _ => 0) 0 0 ((((zl.toUInt64 >>> ((0 : Int32).toInt64.toUInt64 &&& Int64.toUInt64 63)).toInt64).toInt32) &&& 255)) 1 0 ((((zl.toUInt64 >>> ((8 : Int32).toInt64.toUInt64 &&& Int64.toUInt64 63)).toInt64).toInt32) &&& 255)))) 24 (.inr (9, [.int 60, .int 1, .ref (B + 25), .int 3]))) 25 (.inl (60, pm_ts 60 1 (pm_ts 60 1 (pm_ts 60 1 (fun _ => 0) 0 0 ((((zl.toUInt64 >>> ((0 : Int32).toInt64.toUInt64 &&& Int64.toUInt64 63)).toInt64).toInt32) &&& 255)) 1 0 ((((zl.toUInt64 >>> ((8 : Int32).toInt64.toUInt64 &&& Int64.toUInt64 63)).toInt64).toInt32) &&& 255)) 2 0 ((((zl.toUInt64 >>> ((16 : Int32).toInt64.toUInt64 &&& Int64.toUInt64 63)).toInt64).toInt32) &&& 255)))) 24 (.inr (9, [.int 60, .int 1, .ref (B + 25), .int 4]))) 25 (.inl (60, pm_ts 60 1 (pm_ts 60 1 (pm_ts 60 1 (pm_ts 60 1 (fun _ => 0) 0 0 ((((zl.toUInt64 >>> ((0 : Int32).toInt64.toUInt64 &&& Int64.toUInt64 63)).toInt64).toInt32) &&& 255)) 1 0 ((((zl.toUInt64 >>> ((8 : Int32).toInt64.toUInt64 &&& Int64.toUInt64 63)).toInt64).toInt32) &&& 255)) 2 0 ((((zl.toUInt64 >>> ((16 : Int32).toInt64.toUInt64 &&& Int64.toUInt64 63)).toInt64).toInt32) &&& 255)) 3 0 ((((zl.toUInt64 >>> ((24 : Int32).toInt64.toUInt64 &&& Int64.toUInt64 63)).toInt64).toInt32) &&& 255)))) 24 (.inr (9, [.int 60, .int 1, .ref (B + 25), .int 5]))) 25 (.inl (60, pm_ts 60 1 (pm_ts 60 1 (pm_ts 60 1 (pm_ts 60 1 (pm_ts 60 1 (fun _ => 0) 0 0 ((((zl.toUInt64 >>> ((0 : Int32).toInt64.toUInt64 &&& Int64.toUInt64 63)).toInt64).toInt32) &&& 255)) 1 0 ((((zl.toUInt64 >>> ((8 : Int32).toInt64.toUInt64 &&& Int64.toUInt64 63)).toInt64).toInt32) &&& 255)) 2 0 ((((zl.toUInt64 >>> ((16 : Int32).toInt64.toUInt64 &&& Int64.toUInt64 63)).toInt64).toInt32) &&& 255)) 3 0 ((((zl.toUInt64 >>> ((24 : Int32).toInt64.toUInt64 &&& Int64.toUInt64 63)).toInt64).toInt32) &&& 255)) 4 0 ((((zl.toUInt64 >>> ((32 : Int32).toInt64.toUInt64 &&& Int64.toUInt64 63)).toInt64).toInt32) &&& 255)))) 24 (.inr (9, [.int 60, .int 1, .ref (B + 25), .int 6]))) 25 (.inl (60, pm_ts 60 1 (pm_ts 60 1 (pm_ts 60 1 (pm_ts 60 1 (pm_ts 60 1 (pm_ts 60 1 (fun _ => 0) 0 0 ((((zl.toUInt64 >>> ((0 : Int32).toInt64.toUInt64 &&& Int64.toUInt64 63)).toInt64).toInt32) &&& 255)) 1 0 ((((zl.toUInt64 >>> ((8 : Int32).toInt64.toUInt64 &&& Int64.toUInt64 63)).toInt64).toInt32) &&& 255)) 2 0 ((((zl.toUInt64 >>> ((16 : Int32).toInt64.toUInt64 &&& Int64.toUInt64 63)).toInt64).toInt32) &&& 255)) 3 0 ((((zl.toUInt64 >>> ((24 : Int32).toInt64.toUInt64 &&& Int64.toUInt64 63)).toInt64).toInt32) &&& 255)) 4 0 ((((zl.toUInt64 >>> ((32 : Int32).toInt64.toUInt64 &&& Int64.toUInt64 63)).toInt64).toInt32) &&& 255)) 5 0 ((((zl.toUInt64 >>> ((40 : Int32).toInt64.toUInt64 &&& Int64.toUInt64 63)).toInt64).toInt32) &&& 255)))) 24 (.inr (9, [.int 60, .int 1, .ref (B + 25), .int 7]))) 25 (.inl (60, pm_ts 60 1 (pm_ts 60 1 (pm_ts 60 1 (pm_ts 60 1 (pm_ts 60 1 (pm_ts 60 1 (pm_ts 60 1 (fun _ => 0) 0 0 ((((zl.toUInt64 >>> ((0 : Int32).toInt64.toUInt64 &&& Int64.toUInt64 63)).toInt64).toInt32) &&& 255)) 1 0 ((((zl.toUInt64 >>> ((8 : Int32).toInt64.toUInt64 &&& Int64.toUInt64 63)).toInt64).toInt32) &&& 255)) 2 0 ((((zl.toUInt64 >>> ((16 : Int32).toInt64.toUInt64 &&& Int64.toUInt64 63)).toInt64).toInt32) &&& 255)) 3 0 ((((zl.toUInt64 >>> ((24 : Int32).toInt64.toUInt64 &&& Int64.toUInt64 63)).toInt64).toInt32) &&& 255)) 4 0 ((((zl.toUInt64 >>> ((32 : Int32).toInt64.toUInt64 &&& Int64.toUInt64 63)).toInt64).toInt32) &&& 255)) 5 0 ((((zl.toUInt64 >>> ((40 : Int32).toInt64.toUInt64 &&& Int64.toUInt64 63)).toInt64).toInt32) &&& 255)) 6 0 ((((zl.toUInt64 >>> ((48 : Int32).toInt64.toUInt64 &&& Int64.toUInt64 63)).toInt64).toInt32) &&& 255)))) 24 (.inr (9, [.int 60, .int 1, .ref (B + 25), .int 8]))) 25 (.inl (60, pm_ts 60 1 (pm_ts 60 1 (pm_ts 60 1 (pm_ts 60 1 (pm_ts 60 1 (pm_ts 60 1 (pm_ts 60 1 (pm_ts 60 1 (fun _ => 0) 0 0 ((((zl.toUInt64 >>> ((0 : Int32).toInt64.toUInt64 &&& Int64.toUInt64 63)).toInt64).toInt32) &&& 255)) 1 0 ((((zl.toUInt64 >>> ((8 : Int32).toInt64.toUInt64 &&& Int64.toUInt64 63)).toInt64).toInt32) &&& 255)) 2 0 ((((zl.toUInt64 >>> ((16 : Int32).toInt64.toUInt64 &&& Int64.toUInt64 63)).toInt64).toInt32) &&& 255)) 3 0 ((((zl.toUInt64 >>> ((24 : Int32).toInt64.toUInt64 &&& Int64.toUInt64 63)).toInt64).toInt32) &&& 255)) 4 0 ((((zl.toUInt64 >>> ((32 : Int32).toInt64.toUInt64 &&& Int64.toUInt64 63)).toInt64).toInt32) &&& 255)) 5 0 ((((zl.toUInt64 >>> ((40 : Int32).toInt64.toUInt64 &&& Int64.toUInt64 63)).toInt64).toInt32) &&& 255)) 6 0 ((((zl.toUInt64 >>> ((48 : Int32).toInt64.toUInt64 &&& Int64.toUInt64 63)).toInt64).toInt32) &&& 255)) 7 0 ((((zl.toUInt64 >>> ((56 : Int32).toInt64.toUInt64 &&& Int64.toUInt64 63)).toInt64).toInt32) &&& 255)))) ∧ cnt' = 74)) := by
  refine pm_enter 2 (by decide) (Nat.le_of_ble_eq_true rfl) rfl (fun G hG hR hF => ?_)
  refine pm_aloadn hG dX9_append_0 rfl ?_
  refine pm_callV (As := []) (rest := []) hG hR dX9_append_1 (lkX9_39 _ rfl) okV_X9_isFull rfl rfl (tb_isFull (d := 1) rfl) rfl rfl hdd (by decide) (by decide) (by decide) (pm_ki (fun v σ' cnt' hq => ?_))
  obtain ⟨rfl, rfl, rfl⟩ := hq
  refine pm_top (v := 0) (by decide) ?_
  refine pm_if_eq (tgt := 9) hG dX9_append_4 rfl (fun _ => ?_) (fun q => absurd q (by decide))
  refine pm_aloadn hG dX9_append_9 rfl ?_
  refine pm_getf hG dX9_append_10 (flX9_29 _ rfl) rfl rfl ?_
  refine pm_istoreXn (loc' := [some (.ref (B + 24)), some (.int ((((zl.toUInt64 >>> ((56 : Int32).toInt64.toUInt64 &&& Int64.toUInt64 63)).toInt64).toInt32) &&& 255)), some (.int 7), none]) hG dX9_append_13 (by decide) (pm_c1b rfl) rfl ?_
  refine pm_aloadn hG dX9_append_14 rfl ?_
  refine pm_dup hG dX9_append_15 rfl ?_
  refine pm_getf hG dX9_append_16 (flX9_29 _ rfl) rfl rfl ?_
  refine pm_iconst (v := 1) hG dX9_append_19 (by decide) ?_
  refine pm_iadd hG dX9_append_20 ?_
  refine pm_top (v := 8) (by decide) ?_
  refine pm_putf hG dX9_append_21 (fwX9_29 _ rfl) rfl rfl rfl ?_
  refine pm_iconst (v := 1) hG dX9_append_24 (by decide) ?_
  refine pm_istoreXn (loc' := [some (.ref (B + 24)), some (.int ((((zl.toUInt64 >>> ((56 : Int32).toInt64.toUInt64 &&& Int64.toUInt64 63)).toInt64).toInt32) &&& 255)), some (.int 7), some (.int 1)]) hG dX9_append_25 (by decide) (pm_c1b rfl) rfl ?_
  refine pm_iloadn hG dX9_append_26 rfl ?_
  refine pm_aloadn hG dX9_append_27 rfl ?_
  refine pm_getf hG dX9_append_28 (flX9_22 _ rfl) rfl rfl ?_
  refine pm_icmp_ge (tgt := 47) hG dX9_append_31 rfl (fun _ => ?_) (fun q => absurd q (by decide))
  refine pm_aloadn hG dX9_append_47 rfl ?_
  refine pm_iloadn hG dX9_append_48 rfl ?_
  refine pm_iconst (v := 0) hG dX9_append_49 (by decide) ?_
  refine pm_iloadn hG dX9_append_50 rfl ?_
  refine pm_callV (As := [.int 7, .int 0, .int ((((zl.toUInt64 >>> ((56 : Int32).toInt64.toUInt64 &&& Int64.toUInt64 63)).toInt64).toInt32) &&& 255)]) (rest := []) hG hR dX9_append_51 (lkX9_35 _ rfl) okV_X9_set rfl rfl (tb_set (d := 1) rfl rfl (pm_tw_of 60 1 (by decide) (by decide) (by decide)) (by decide)) rfl rfl hdd (by decide) (by decide) (by decide) (pm_kv (fun σ' cnt' hq => ?_))
  obtain ⟨rfl, rfl⟩ := hq
  refine pm_iloadn hG dX9_append_54 rfl ?_
  exact pm_iret hG hF dX9_append_55 rfl (by decide) (by decide) ⟨_, rfl, ⟨rfl, rfl, rfl⟩⟩

set_option maxRecDepth 100000 in
set_option maxHeartbeats 8000000 in
theorem oc_feed {B : Nat} {fw : Nat → Int32} {R : List pm_C} {za : Int32} {zl : Int64} {d : Nat} (hdd : 3 ≤ d) : pm_met mX11_feed d 0 0 B [.ref (B + 0), .long zl, .int za] 74 (pm_cat (pm_ofL (l_k_class B fw)) 54 R) (pm_Qi (fun v σ' cnt' => v = v_feed za ∧ pm_lies σ' 54 R ∧ cnt' = 74)) := by
  refine pm_enter 1 (by decide) (Nat.le_of_ble_eq_true rfl) rfl (fun G hG hR hF => ?_)
  refine pm_iloadn hG dX11_feed_0 rfl ?_
  refine pm_iconst (v := 1) hG dX11_feed_1 (by decide) ?_
  refine pm_bipush (v := 8) hG dX11_feed_2 (by decide) ?_
  refine pm_callS (As := [.int za, .int 1, .int 8]) (rest := []) hG hR dX11_feed_4 (lkX11_105 _ rfl) okS_X11_isOutside (sx_isOutside (d := 2)) rfl rfl hdd (by decide) (by decide) (by decide) (pm_ki (fun v σ' cnt' hq => ?_))
  obtain ⟨rfl, rfl, rfl⟩ := hq
  by_cases c1 : za < 1 ∨ 8 < za
  · refine pm_top (v := 1) (if_pos c1) ?_
    refine pm_if_eq (tgt := 17) hG dX11_feed_7 rfl (fun q => absurd q (by decide)) (fun _ => ?_)
    refine pm_aloadn hG dX11_feed_10 rfl ?_
    refine pm_ldc hG dX11_feed_11 (ctX11_109 _ rfl) ?_
    refine pm_callV (As := [.int (-1000001)]) (rest := []) hG hR dX11_feed_13 (lkX11_97 _ rfl) okV_X11_told rfl rfl (sx_told (d := 2) (by decide) rfl rfl) rfl rfl hdd (by decide) (by decide) (by decide) (pm_ki (fun v σ' cnt' hq => ?_))
    obtain ⟨rfl, ⟨g, rfl⟩, rfl⟩ := hq
    exact pm_iret hG hF dX11_feed_16 rfl (by decide) (by decide) ⟨_, rfl, (by clear hF hR hG; first | rfl | (unfold v_feed; (repeat' split) <;> first | rfl | (exfalso; simp only [Int32.lt_iff_toInt_lt, Int32.le_iff_toInt_le, ← Int32.toInt_inj, Int32.toInt_zero, L_1, L_8, L_m1000001] at *; omega) | (apply Int32.toInt_inj.mp; simp only [Int32.lt_iff_toInt_lt, Int32.le_iff_toInt_le, ← Int32.toInt_inj, Int32.toInt_zero, L_1, L_8, L_m1000001] at *; omega))), (by repeat (first | exact pm_lies_cat | refine pm_lies.up0 (by decide) ?_)), rfl⟩
  · refine pm_top (v := 0) (if_neg c1) ?_
    refine pm_if_eq (tgt := 17) hG dX11_feed_7 rfl (fun _ => ?_) (fun q => absurd q (by decide))
    refine pm_aloadn hG dX11_feed_17 rfl ?_
    refine pm_getf hG dX11_feed_18 (flX11_12 _ rfl) rfl rfl ?_
    refine pm_getf hG dX11_feed_21 (flX11_200 _ rfl) rfl rfl ?_
    refine pm_callV (As := []) (rest := []) hG hR dX11_feed_24 (lkX11_203 _ rfl) okV_X9_used rfl rfl (tb_used (d := 2) rfl) rfl rfl hdd (by decide) (by decide) (by decide) (pm_ki (fun v σ' cnt' hq => ?_))
    obtain ⟨rfl, rfl, rfl⟩ := hq
    refine pm_iloadn hG dX11_feed_27 rfl ?_
    refine pm_iadd hG dX11_feed_28 ?_
    refine pm_top (v := za) (Int32.zero_add _) ?_
    refine pm_bipush (v := 60) hG dX11_feed_29 (by decide) ?_
    refine pm_icmp_le (tgt := 41) hG dX11_feed_31 rfl (fun _ => ?_) (fun q => False.elim (by revert c1 q; simp only [Int32.lt_iff_toInt_lt, Int32.le_iff_toInt_le, ← Int32.toInt_inj, Int32.toInt_zero, L_1, L_60, L_8]; omega))
    refine pm_iconst (v := 0) hG dX11_feed_41 (by decide) ?_
    refine pm_istoreXi (loc' := [some (.ref (B + 0)), some (.long zl), none, some (.int za), some (.int 0)]) hG dX11_feed_42 (by decide) (pm_c1b rfl) rfl ?_
    refine pm_iloadi hG dX11_feed_44 rfl ?_
    refine pm_iloadn hG dX11_feed_46 rfl ?_
    refine pm_icmp_ge (tgt := 79) hG dX11_feed_47 rfl (fun q => False.elim (by revert c1 q; simp only [Int32.lt_iff_toInt_lt, Int32.le_iff_toInt_le, ← Int32.toInt_inj, Int32.toInt_zero, L_1, L_8]; omega)) (fun _ => ?_)
    refine pm_aloadn hG dX11_feed_50 rfl ?_
    refine pm_getf hG dX11_feed_51 (flX11_12 _ rfl) rfl rfl ?_
    refine pm_getf hG dX11_feed_54 (flX11_200 _ rfl) rfl rfl ?_
    refine pm_lloadn hG dX11_feed_57 rfl ?_
    refine pm_bipush (v := 8) hG dX11_feed_58 (by decide) ?_
    refine pm_iloadi hG dX11_feed_60 rfl ?_
    refine pm_imul hG dX11_feed_62 ?_
    refine pm_top (v := 0) (by decide) ?_
    refine pm_lushr hG dX11_feed_63 rfl ?_
    refine pm_l2i hG dX11_feed_64 rfl ?_
    refine pm_sipush (v := 255) hG dX11_feed_65 (by decide) ?_
    refine pm_iand hG dX11_feed_68 ?_
    refine pm_callV (As := [.int ((((zl.toUInt64 >>> ((0 : Int32).toInt64.toUInt64 &&& Int64.toUInt64 63)).toInt64).toInt32) &&& 255)]) (rest := []) hG hR dX11_feed_69 (lkX11_206 _ rfl) okV_X9_append rfl rfl (fc_X9_append_9 (d := 2) (by decide)) rfl rfl hdd (by decide) (by decide) (by decide) (pm_ki (fun v σ' cnt' hq => ?_))
    obtain ⟨rfl, rfl, rfl⟩ := hq
    refine pm_pop hG dX11_feed_72 rfl ?_
    refine pm_iincX (v := 1) (loc' := [some (.ref (B + 0)), some (.long zl), none, some (.int za), some (.int 1)]) hG dX11_feed_73 rfl (by rfl) (by decide) (pm_c1b rfl) rfl ?_
    refine pm_goto (tgt := 44) hG dX11_feed_76 rfl ?_
    refine pm_iloadi hG dX11_feed_44 rfl ?_
    refine pm_iloadn hG dX11_feed_46 rfl ?_
    refine pm_icmp_ge (tgt := 79) hG dX11_feed_47 rfl (fun c2 => ?_) (fun c2 => ?_)
    · refine pm_aloadn hG dX11_feed_79 rfl ?_
      refine pm_getf hG dX11_feed_80 (flX11_12 _ rfl) rfl rfl ?_
      refine pm_getf hG dX11_feed_83 (flX11_200 _ rfl) rfl rfl ?_
      refine pm_callV (As := []) (rest := []) hG hR dX11_feed_86 (lkX11_203 _ rfl) okV_X9_used rfl rfl (tb_used (d := 2) rfl) rfl rfl hdd (by decide) (by decide) (by decide) (pm_ki (fun v σ' cnt' hq => ?_))
      obtain ⟨rfl, rfl, rfl⟩ := hq
      exact pm_iret hG hF dX11_feed_89 rfl (by decide) (by decide) ⟨_, rfl, (by clear hF hR hG; first | rfl | (unfold v_feed; (repeat' split) <;> first | rfl | (exfalso; simp only [Int32.lt_iff_toInt_lt, Int32.le_iff_toInt_le, ← Int32.toInt_inj, Int32.toInt_zero, L_1, L_8, L_m1000001] at *; omega) | (apply Int32.toInt_inj.mp; simp only [Int32.lt_iff_toInt_lt, Int32.le_iff_toInt_le, ← Int32.toInt_inj, Int32.toInt_zero, L_1, L_8, L_m1000001] at *; omega))), (by repeat (first | exact pm_lies_cat | refine pm_lies.up0 (by decide) ?_)), rfl⟩
    · refine pm_aloadn hG dX11_feed_50 rfl ?_
      refine pm_getf hG dX11_feed_51 (flX11_12 _ rfl) rfl rfl ?_
      refine pm_getf hG dX11_feed_54 (flX11_200 _ rfl) rfl rfl ?_
      refine pm_lloadn hG dX11_feed_57 rfl ?_
      refine pm_bipush (v := 8) hG dX11_feed_58 (by decide) ?_
      refine pm_iloadi hG dX11_feed_60 rfl ?_
      refine pm_imul hG dX11_feed_62 ?_
      refine pm_top (v := 8) (by decide) ?_
      refine pm_lushr hG dX11_feed_63 rfl ?_
      refine pm_l2i hG dX11_feed_64 rfl ?_
      refine pm_sipush (v := 255) hG dX11_feed_65 (by decide) ?_
      refine pm_iand hG dX11_feed_68 ?_
      refine pm_callV (As := [.int ((((zl.toUInt64 >>> ((8 : Int32).toInt64.toUInt64 &&& Int64.toUInt64 63)).toInt64).toInt32) &&& 255)]) (rest := []) hG hR dX11_feed_69 (lkX11_206 _ rfl) okV_X9_append rfl rfl (fc_X9_append_10 (d := 2) (by decide)) rfl rfl hdd (by decide) (by decide) (by decide) (pm_ki (fun v σ' cnt' hq => ?_))
      obtain ⟨rfl, rfl, rfl⟩ := hq
      refine pm_pop hG dX11_feed_72 rfl ?_
      refine pm_iincX (v := 2) (loc' := [some (.ref (B + 0)), some (.long zl), none, some (.int za), some (.int 2)]) hG dX11_feed_73 rfl (by rfl) (by decide) (pm_c1b rfl) rfl ?_
      refine pm_goto (tgt := 44) hG dX11_feed_76 rfl ?_
      refine pm_iloadi hG dX11_feed_44 rfl ?_
      refine pm_iloadn hG dX11_feed_46 rfl ?_
      refine pm_icmp_ge (tgt := 79) hG dX11_feed_47 rfl (fun c3 => ?_) (fun c3 => ?_)
      · refine pm_aloadn hG dX11_feed_79 rfl ?_
        refine pm_getf hG dX11_feed_80 (flX11_12 _ rfl) rfl rfl ?_
        refine pm_getf hG dX11_feed_83 (flX11_200 _ rfl) rfl rfl ?_
        refine pm_callV (As := []) (rest := []) hG hR dX11_feed_86 (lkX11_203 _ rfl) okV_X9_used rfl rfl (tb_used (d := 2) rfl) rfl rfl hdd (by decide) (by decide) (by decide) (pm_ki (fun v σ' cnt' hq => ?_))
        obtain ⟨rfl, rfl, rfl⟩ := hq
        exact pm_iret hG hF dX11_feed_89 rfl (by decide) (by decide) ⟨_, rfl, (by clear hF hR hG; first | rfl | (unfold v_feed; (repeat' split) <;> first | rfl | (exfalso; simp only [Int32.lt_iff_toInt_lt, Int32.le_iff_toInt_le, ← Int32.toInt_inj, Int32.toInt_zero, L_1, L_2, L_8, L_m1000001] at *; omega) | (apply Int32.toInt_inj.mp; simp only [Int32.lt_iff_toInt_lt, Int32.le_iff_toInt_le, ← Int32.toInt_inj, Int32.toInt_zero, L_1, L_2, L_8, L_m1000001] at *; omega))), (by repeat (first | exact pm_lies_cat | refine pm_lies.up0 (by decide) ?_)), rfl⟩
      · refine pm_aloadn hG dX11_feed_50 rfl ?_
        refine pm_getf hG dX11_feed_51 (flX11_12 _ rfl) rfl rfl ?_
        refine pm_getf hG dX11_feed_54 (flX11_200 _ rfl) rfl rfl ?_
        refine pm_lloadn hG dX11_feed_57 rfl ?_
        refine pm_bipush (v := 8) hG dX11_feed_58 (by decide) ?_
        refine pm_iloadi hG dX11_feed_60 rfl ?_
        refine pm_imul hG dX11_feed_62 ?_
        refine pm_top (v := 16) (by decide) ?_
        refine pm_lushr hG dX11_feed_63 rfl ?_
        refine pm_l2i hG dX11_feed_64 rfl ?_
        refine pm_sipush (v := 255) hG dX11_feed_65 (by decide) ?_
        refine pm_iand hG dX11_feed_68 ?_
        refine pm_callV (As := [.int ((((zl.toUInt64 >>> ((16 : Int32).toInt64.toUInt64 &&& Int64.toUInt64 63)).toInt64).toInt32) &&& 255)]) (rest := []) hG hR dX11_feed_69 (lkX11_206 _ rfl) okV_X9_append rfl rfl (fc_X9_append_11 (d := 2) (by decide)) rfl rfl hdd (by decide) (by decide) (by decide) (pm_ki (fun v σ' cnt' hq => ?_))
        obtain ⟨rfl, rfl, rfl⟩ := hq
        refine pm_pop hG dX11_feed_72 rfl ?_
        refine pm_iincX (v := 3) (loc' := [some (.ref (B + 0)), some (.long zl), none, some (.int za), some (.int 3)]) hG dX11_feed_73 rfl (by rfl) (by decide) (pm_c1b rfl) rfl ?_
        refine pm_goto (tgt := 44) hG dX11_feed_76 rfl ?_
        refine pm_iloadi hG dX11_feed_44 rfl ?_
        refine pm_iloadn hG dX11_feed_46 rfl ?_
        refine pm_icmp_ge (tgt := 79) hG dX11_feed_47 rfl (fun c4 => ?_) (fun c4 => ?_)
        · refine pm_aloadn hG dX11_feed_79 rfl ?_
          refine pm_getf hG dX11_feed_80 (flX11_12 _ rfl) rfl rfl ?_
          refine pm_getf hG dX11_feed_83 (flX11_200 _ rfl) rfl rfl ?_
          refine pm_callV (As := []) (rest := []) hG hR dX11_feed_86 (lkX11_203 _ rfl) okV_X9_used rfl rfl (tb_used (d := 2) rfl) rfl rfl hdd (by decide) (by decide) (by decide) (pm_ki (fun v σ' cnt' hq => ?_))
          obtain ⟨rfl, rfl, rfl⟩ := hq
          exact pm_iret hG hF dX11_feed_89 rfl (by decide) (by decide) ⟨_, rfl, (by clear hF hR hG; first | rfl | (unfold v_feed; (repeat' split) <;> first | rfl | (exfalso; simp only [Int32.lt_iff_toInt_lt, Int32.le_iff_toInt_le, ← Int32.toInt_inj, Int32.toInt_zero, L_1, L_2, L_3, L_8, L_m1000001] at *; omega) | (apply Int32.toInt_inj.mp; simp only [Int32.lt_iff_toInt_lt, Int32.le_iff_toInt_le, ← Int32.toInt_inj, Int32.toInt_zero, L_1, L_2, L_3, L_8, L_m1000001] at *; omega))), (by repeat (first | exact pm_lies_cat | refine pm_lies.up0 (by decide) ?_)), rfl⟩
        · refine pm_aloadn hG dX11_feed_50 rfl ?_
          refine pm_getf hG dX11_feed_51 (flX11_12 _ rfl) rfl rfl ?_
          refine pm_getf hG dX11_feed_54 (flX11_200 _ rfl) rfl rfl ?_
          refine pm_lloadn hG dX11_feed_57 rfl ?_
          refine pm_bipush (v := 8) hG dX11_feed_58 (by decide) ?_
          refine pm_iloadi hG dX11_feed_60 rfl ?_
          refine pm_imul hG dX11_feed_62 ?_
          refine pm_top (v := 24) (by decide) ?_
          refine pm_lushr hG dX11_feed_63 rfl ?_
          refine pm_l2i hG dX11_feed_64 rfl ?_
          refine pm_sipush (v := 255) hG dX11_feed_65 (by decide) ?_
          refine pm_iand hG dX11_feed_68 ?_
          refine pm_callV (As := [.int ((((zl.toUInt64 >>> ((24 : Int32).toInt64.toUInt64 &&& Int64.toUInt64 63)).toInt64).toInt32) &&& 255)]) (rest := []) hG hR dX11_feed_69 (lkX11_206 _ rfl) okV_X9_append rfl rfl (fc_X9_append_12 (d := 2) (by decide)) rfl rfl hdd (by decide) (by decide) (by decide) (pm_ki (fun v σ' cnt' hq => ?_))
          obtain ⟨rfl, rfl, rfl⟩ := hq
          refine pm_pop hG dX11_feed_72 rfl ?_
          refine pm_iincX (v := 4) (loc' := [some (.ref (B + 0)), some (.long zl), none, some (.int za), some (.int 4)]) hG dX11_feed_73 rfl (by rfl) (by decide) (pm_c1b rfl) rfl ?_
          refine pm_goto (tgt := 44) hG dX11_feed_76 rfl ?_
          refine pm_iloadi hG dX11_feed_44 rfl ?_
          refine pm_iloadn hG dX11_feed_46 rfl ?_
          refine pm_icmp_ge (tgt := 79) hG dX11_feed_47 rfl (fun c5 => ?_) (fun c5 => ?_)
          · refine pm_aloadn hG dX11_feed_79 rfl ?_
            refine pm_getf hG dX11_feed_80 (flX11_12 _ rfl) rfl rfl ?_
            refine pm_getf hG dX11_feed_83 (flX11_200 _ rfl) rfl rfl ?_
            refine pm_callV (As := []) (rest := []) hG hR dX11_feed_86 (lkX11_203 _ rfl) okV_X9_used rfl rfl (tb_used (d := 2) rfl) rfl rfl hdd (by decide) (by decide) (by decide) (pm_ki (fun v σ' cnt' hq => ?_))
            obtain ⟨rfl, rfl, rfl⟩ := hq
            exact pm_iret hG hF dX11_feed_89 rfl (by decide) (by decide) ⟨_, rfl, (by clear hF hR hG; first | rfl | (unfold v_feed; (repeat' split) <;> first | rfl | (exfalso; simp only [Int32.lt_iff_toInt_lt, Int32.le_iff_toInt_le, ← Int32.toInt_inj, Int32.toInt_zero, L_1, L_2, L_3, L_4, L_8, L_m1000001] at *; omega) | (apply Int32.toInt_inj.mp; simp only [Int32.lt_iff_toInt_lt, Int32.le_iff_toInt_le, ← Int32.toInt_inj, Int32.toInt_zero, L_1, L_2, L_3, L_4, L_8, L_m1000001] at *; omega))), (by repeat (first | exact pm_lies_cat | refine pm_lies.up0 (by decide) ?_)), rfl⟩
          · refine pm_aloadn hG dX11_feed_50 rfl ?_
            refine pm_getf hG dX11_feed_51 (flX11_12 _ rfl) rfl rfl ?_
            refine pm_getf hG dX11_feed_54 (flX11_200 _ rfl) rfl rfl ?_
            refine pm_lloadn hG dX11_feed_57 rfl ?_
            refine pm_bipush (v := 8) hG dX11_feed_58 (by decide) ?_
            refine pm_iloadi hG dX11_feed_60 rfl ?_
            refine pm_imul hG dX11_feed_62 ?_
            refine pm_top (v := 32) (by decide) ?_
            refine pm_lushr hG dX11_feed_63 rfl ?_
            refine pm_l2i hG dX11_feed_64 rfl ?_
            refine pm_sipush (v := 255) hG dX11_feed_65 (by decide) ?_
            refine pm_iand hG dX11_feed_68 ?_
            refine pm_callV (As := [.int ((((zl.toUInt64 >>> ((32 : Int32).toInt64.toUInt64 &&& Int64.toUInt64 63)).toInt64).toInt32) &&& 255)]) (rest := []) hG hR dX11_feed_69 (lkX11_206 _ rfl) okV_X9_append rfl rfl (fc_X9_append_13 (d := 2) (by decide)) rfl rfl hdd (by decide) (by decide) (by decide) (pm_ki (fun v σ' cnt' hq => ?_))
            obtain ⟨rfl, rfl, rfl⟩ := hq
            refine pm_pop hG dX11_feed_72 rfl ?_
            refine pm_iincX (v := 5) (loc' := [some (.ref (B + 0)), some (.long zl), none, some (.int za), some (.int 5)]) hG dX11_feed_73 rfl (by rfl) (by decide) (pm_c1b rfl) rfl ?_
            refine pm_goto (tgt := 44) hG dX11_feed_76 rfl ?_
            refine pm_iloadi hG dX11_feed_44 rfl ?_
            refine pm_iloadn hG dX11_feed_46 rfl ?_
            refine pm_icmp_ge (tgt := 79) hG dX11_feed_47 rfl (fun c6 => ?_) (fun c6 => ?_)
            · refine pm_aloadn hG dX11_feed_79 rfl ?_
              refine pm_getf hG dX11_feed_80 (flX11_12 _ rfl) rfl rfl ?_
              refine pm_getf hG dX11_feed_83 (flX11_200 _ rfl) rfl rfl ?_
              refine pm_callV (As := []) (rest := []) hG hR dX11_feed_86 (lkX11_203 _ rfl) okV_X9_used rfl rfl (tb_used (d := 2) rfl) rfl rfl hdd (by decide) (by decide) (by decide) (pm_ki (fun v σ' cnt' hq => ?_))
              obtain ⟨rfl, rfl, rfl⟩ := hq
              exact pm_iret hG hF dX11_feed_89 rfl (by decide) (by decide) ⟨_, rfl, (by clear hF hR hG; first | rfl | (unfold v_feed; (repeat' split) <;> first | rfl | (exfalso; simp only [Int32.lt_iff_toInt_lt, Int32.le_iff_toInt_le, ← Int32.toInt_inj, Int32.toInt_zero, L_1, L_2, L_3, L_4, L_5, L_8, L_m1000001] at *; omega) | (apply Int32.toInt_inj.mp; simp only [Int32.lt_iff_toInt_lt, Int32.le_iff_toInt_le, ← Int32.toInt_inj, Int32.toInt_zero, L_1, L_2, L_3, L_4, L_5, L_8, L_m1000001] at *; omega))), (by repeat (first | exact pm_lies_cat | refine pm_lies.up0 (by decide) ?_)), rfl⟩
            · refine pm_aloadn hG dX11_feed_50 rfl ?_
              refine pm_getf hG dX11_feed_51 (flX11_12 _ rfl) rfl rfl ?_
              refine pm_getf hG dX11_feed_54 (flX11_200 _ rfl) rfl rfl ?_
              refine pm_lloadn hG dX11_feed_57 rfl ?_
              refine pm_bipush (v := 8) hG dX11_feed_58 (by decide) ?_
              refine pm_iloadi hG dX11_feed_60 rfl ?_
              refine pm_imul hG dX11_feed_62 ?_
              refine pm_top (v := 40) (by decide) ?_
              refine pm_lushr hG dX11_feed_63 rfl ?_
              refine pm_l2i hG dX11_feed_64 rfl ?_
              refine pm_sipush (v := 255) hG dX11_feed_65 (by decide) ?_
              refine pm_iand hG dX11_feed_68 ?_
              refine pm_callV (As := [.int ((((zl.toUInt64 >>> ((40 : Int32).toInt64.toUInt64 &&& Int64.toUInt64 63)).toInt64).toInt32) &&& 255)]) (rest := []) hG hR dX11_feed_69 (lkX11_206 _ rfl) okV_X9_append rfl rfl (fc_X9_append_14 (d := 2) (by decide)) rfl rfl hdd (by decide) (by decide) (by decide) (pm_ki (fun v σ' cnt' hq => ?_))
              obtain ⟨rfl, rfl, rfl⟩ := hq
              refine pm_pop hG dX11_feed_72 rfl ?_
              refine pm_iincX (v := 6) (loc' := [some (.ref (B + 0)), some (.long zl), none, some (.int za), some (.int 6)]) hG dX11_feed_73 rfl (by rfl) (by decide) (pm_c1b rfl) rfl ?_
              refine pm_goto (tgt := 44) hG dX11_feed_76 rfl ?_
              refine pm_iloadi hG dX11_feed_44 rfl ?_
              refine pm_iloadn hG dX11_feed_46 rfl ?_
              refine pm_icmp_ge (tgt := 79) hG dX11_feed_47 rfl (fun c7 => ?_) (fun c7 => ?_)
              · refine pm_aloadn hG dX11_feed_79 rfl ?_
                refine pm_getf hG dX11_feed_80 (flX11_12 _ rfl) rfl rfl ?_
                refine pm_getf hG dX11_feed_83 (flX11_200 _ rfl) rfl rfl ?_
                refine pm_callV (As := []) (rest := []) hG hR dX11_feed_86 (lkX11_203 _ rfl) okV_X9_used rfl rfl (tb_used (d := 2) rfl) rfl rfl hdd (by decide) (by decide) (by decide) (pm_ki (fun v σ' cnt' hq => ?_))
                obtain ⟨rfl, rfl, rfl⟩ := hq
                exact pm_iret hG hF dX11_feed_89 rfl (by decide) (by decide) ⟨_, rfl, (by clear hF hR hG; first | rfl | (unfold v_feed; (repeat' split) <;> first | rfl | (exfalso; simp only [Int32.lt_iff_toInt_lt, Int32.le_iff_toInt_le, ← Int32.toInt_inj, Int32.toInt_zero, L_1, L_2, L_3, L_4, L_5, L_6, L_8, L_m1000001] at *; omega) | (apply Int32.toInt_inj.mp; simp only [Int32.lt_iff_toInt_lt, Int32.le_iff_toInt_le, ← Int32.toInt_inj, Int32.toInt_zero, L_1, L_2, L_3, L_4, L_5, L_6, L_8, L_m1000001] at *; omega))), (by repeat (first | exact pm_lies_cat | refine pm_lies.up0 (by decide) ?_)), rfl⟩
              · refine pm_aloadn hG dX11_feed_50 rfl ?_
                refine pm_getf hG dX11_feed_51 (flX11_12 _ rfl) rfl rfl ?_
                refine pm_getf hG dX11_feed_54 (flX11_200 _ rfl) rfl rfl ?_
                refine pm_lloadn hG dX11_feed_57 rfl ?_
                refine pm_bipush (v := 8) hG dX11_feed_58 (by decide) ?_
                refine pm_iloadi hG dX11_feed_60 rfl ?_
                refine pm_imul hG dX11_feed_62 ?_
                refine pm_top (v := 48) (by decide) ?_
                refine pm_lushr hG dX11_feed_63 rfl ?_
                refine pm_l2i hG dX11_feed_64 rfl ?_
                refine pm_sipush (v := 255) hG dX11_feed_65 (by decide) ?_
                refine pm_iand hG dX11_feed_68 ?_
                refine pm_callV (As := [.int ((((zl.toUInt64 >>> ((48 : Int32).toInt64.toUInt64 &&& Int64.toUInt64 63)).toInt64).toInt32) &&& 255)]) (rest := []) hG hR dX11_feed_69 (lkX11_206 _ rfl) okV_X9_append rfl rfl (fc_X9_append_15 (d := 2) (by decide)) rfl rfl hdd (by decide) (by decide) (by decide) (pm_ki (fun v σ' cnt' hq => ?_))
                obtain ⟨rfl, rfl, rfl⟩ := hq
                refine pm_pop hG dX11_feed_72 rfl ?_
                refine pm_iincX (v := 7) (loc' := [some (.ref (B + 0)), some (.long zl), none, some (.int za), some (.int 7)]) hG dX11_feed_73 rfl (by rfl) (by decide) (pm_c1b rfl) rfl ?_
                refine pm_goto (tgt := 44) hG dX11_feed_76 rfl ?_
                refine pm_iloadi hG dX11_feed_44 rfl ?_
                refine pm_iloadn hG dX11_feed_46 rfl ?_
                refine pm_icmp_ge (tgt := 79) hG dX11_feed_47 rfl (fun c8 => ?_) (fun c8 => ?_)
                · refine pm_aloadn hG dX11_feed_79 rfl ?_
                  refine pm_getf hG dX11_feed_80 (flX11_12 _ rfl) rfl rfl ?_
                  refine pm_getf hG dX11_feed_83 (flX11_200 _ rfl) rfl rfl ?_
                  refine pm_callV (As := []) (rest := []) hG hR dX11_feed_86 (lkX11_203 _ rfl) okV_X9_used rfl rfl (tb_used (d := 2) rfl) rfl rfl hdd (by decide) (by decide) (by decide) (pm_ki (fun v σ' cnt' hq => ?_))
                  obtain ⟨rfl, rfl, rfl⟩ := hq
                  exact pm_iret hG hF dX11_feed_89 rfl (by decide) (by decide) ⟨_, rfl, (by clear hF hR hG; first | rfl | (unfold v_feed; (repeat' split) <;> first | rfl | (exfalso; simp only [Int32.lt_iff_toInt_lt, Int32.le_iff_toInt_le, ← Int32.toInt_inj, Int32.toInt_zero, L_1, L_2, L_3, L_4, L_5, L_6, L_7, L_8, L_m1000001] at *; omega) | (apply Int32.toInt_inj.mp; simp only [Int32.lt_iff_toInt_lt, Int32.le_iff_toInt_le, ← Int32.toInt_inj, Int32.toInt_zero, L_1, L_2, L_3, L_4, L_5, L_6, L_7, L_8, L_m1000001] at *; omega))), (by repeat (first | exact pm_lies_cat | refine pm_lies.up0 (by decide) ?_)), rfl⟩
                · refine pm_aloadn hG dX11_feed_50 rfl ?_
                  refine pm_getf hG dX11_feed_51 (flX11_12 _ rfl) rfl rfl ?_
                  refine pm_getf hG dX11_feed_54 (flX11_200 _ rfl) rfl rfl ?_
                  refine pm_lloadn hG dX11_feed_57 rfl ?_
                  refine pm_bipush (v := 8) hG dX11_feed_58 (by decide) ?_
                  refine pm_iloadi hG dX11_feed_60 rfl ?_
                  refine pm_imul hG dX11_feed_62 ?_
                  refine pm_top (v := 56) (by decide) ?_
                  refine pm_lushr hG dX11_feed_63 rfl ?_
                  refine pm_l2i hG dX11_feed_64 rfl ?_
                  refine pm_sipush (v := 255) hG dX11_feed_65 (by decide) ?_
                  refine pm_iand hG dX11_feed_68 ?_
                  refine pm_callV (As := [.int ((((zl.toUInt64 >>> ((56 : Int32).toInt64.toUInt64 &&& Int64.toUInt64 63)).toInt64).toInt32) &&& 255)]) (rest := []) hG hR dX11_feed_69 (lkX11_206 _ rfl) okV_X9_append rfl rfl (fc_X9_append_16 (d := 2) (by decide)) rfl rfl hdd (by decide) (by decide) (by decide) (pm_ki (fun v σ' cnt' hq => ?_))
                  obtain ⟨rfl, rfl, rfl⟩ := hq
                  refine pm_pop hG dX11_feed_72 rfl ?_
                  refine pm_iincX (v := 8) (loc' := [some (.ref (B + 0)), some (.long zl), none, some (.int za), some (.int 8)]) hG dX11_feed_73 rfl (by rfl) (by decide) (pm_c1b rfl) rfl ?_
                  refine pm_goto (tgt := 44) hG dX11_feed_76 rfl ?_
                  refine pm_iloadi hG dX11_feed_44 rfl ?_
                  refine pm_iloadn hG dX11_feed_46 rfl ?_
                  refine pm_icmp_ge (tgt := 79) hG dX11_feed_47 rfl (fun _ => ?_) (fun q => False.elim (by revert c1 c2 c3 c4 c5 c6 c7 c8 q; simp only [Int32.lt_iff_toInt_lt, Int32.le_iff_toInt_le, ← Int32.toInt_inj, Int32.toInt_zero, L_1, L_2, L_3, L_4, L_5, L_6, L_7, L_8]; omega))
                  refine pm_aloadn hG dX11_feed_79 rfl ?_
                  refine pm_getf hG dX11_feed_80 (flX11_12 _ rfl) rfl rfl ?_
                  refine pm_getf hG dX11_feed_83 (flX11_200 _ rfl) rfl rfl ?_
                  refine pm_callV (As := []) (rest := []) hG hR dX11_feed_86 (lkX11_203 _ rfl) okV_X9_used rfl rfl (tb_used (d := 2) rfl) rfl rfl hdd (by decide) (by decide) (by decide) (pm_ki (fun v σ' cnt' hq => ?_))
                  obtain ⟨rfl, rfl, rfl⟩ := hq
                  exact pm_iret hG hF dX11_feed_89 rfl (by decide) (by decide) ⟨_, rfl, (by clear hF hR hG; first | rfl | (unfold v_feed; (repeat' split) <;> first | rfl | (exfalso; simp only [Int32.lt_iff_toInt_lt, Int32.le_iff_toInt_le, ← Int32.toInt_inj, Int32.toInt_zero, L_1, L_2, L_3, L_4, L_5, L_6, L_7, L_8, L_m1000001] at *; omega) | (apply Int32.toInt_inj.mp; simp only [Int32.lt_iff_toInt_lt, Int32.le_iff_toInt_le, ← Int32.toInt_inj, Int32.toInt_zero, L_1, L_2, L_3, L_4, L_5, L_6, L_7, L_8, L_m1000001] at *; omega))), (by repeat (first | exact pm_lies_cat | refine pm_lies.up0 (by decide) ?_)), rfl⟩

set_option maxRecDepth 100000 in
set_option maxHeartbeats 4000000 in
theorem fc_X9_clear_19 {B : Nat} {fw : Nat → Int32} {R : List pm_C} {d : Nat} (hdd : 1 ≤ d) : pm_met mX9_clear d 0 0 B [.ref (B + 28)] 74 (pm_cat (pm_ofL (l_k_class B fw)) 54 R) (pm_Qv (fun σ' cnt' => σ' = (pm_up (pm_cat (pm_ofL (l_k_class B fw)) 54 R) 28 (.inr (9, [.int 60, .int 1, .ref (B + 29), .int 0]))) ∧ cnt' = 74)) := by
  refine pm_enter 0 (by decide) (Nat.le_of_ble_eq_true rfl) rfl (fun G hG hR hF => ?_)
  refine pm_aloadn hG dX9_clear_0 rfl ?_
  refine pm_iconst (v := 0) hG dX9_clear_1 (by decide) ?_
  refine pm_putf hG dX9_clear_2 (fwX9_29 _ rfl) rfl rfl rfl ?_
  exact pm_vret hG hF dX9_clear_5 rfl (by decide) (by decide) ⟨rfl, ⟨rfl, rfl⟩⟩

set_option maxRecDepth 100000 in
set_option maxHeartbeats 4000000 in
theorem fc_X6_next_25 {B : Nat} {fw : Nat → Int32} {R : List pm_C} {d : Nat} (hdd : 2 ≤ d) : pm_met mX6_next d 0 0 B [.ref (B + 27)] 74 (pm_up (pm_up (pm_up (pm_cat (pm_ofL (l_k_class B fw)) 54 R) 28 (.inr (9, [.int 60, .int 1, .ref (B + 29), .int 0]))) 27 (.inr (6, [.ref (B + 24), .ref (B + 28), .int 0, .int 0]))) 27 (.inr (6, [.ref (B + 24), .ref (B + 28), .int 0, .int (-1)]))) (pm_Qi (fun v σ' cnt' => v = (-1) ∧ σ' = (pm_up (pm_up (pm_up (pm_cat (pm_ofL (l_k_class B fw)) 54 R) 28 (.inr (9, [.int 60, .int 1, .ref (B + 29), .int 0]))) 27 (.inr (6, [.ref (B + 24), .ref (B + 28), .int 0, .int 0]))) 27 (.inr (6, [.ref (B + 24), .ref (B + 28), .int 0, .int (-1)]))) ∧ cnt' = 74)) := by
  refine pm_enter 0 (by decide) (Nat.le_of_ble_eq_true rfl) rfl (fun G hG hR hF => ?_)
  refine pm_aloadn hG dX6_next_0 rfl ?_
  refine pm_getf hG dX6_next_1 (flX6_30 _ rfl) rfl rfl ?_
  refine pm_if_ge (tgt := 36) hG dX6_next_4 rfl (fun q => absurd q (by decide)) (fun _ => ?_)
  refine pm_aloadn hG dX6_next_7 rfl ?_
  refine pm_getf hG dX6_next_8 (flX6_26 _ rfl) rfl rfl ?_
  refine pm_aloadn hG dX6_next_11 rfl ?_
  refine pm_getf hG dX6_next_12 (flX6_9 _ rfl) rfl rfl ?_
  refine pm_callV (As := []) (rest := [.int 0]) hG hR dX6_next_15 (lkX6_37 _ rfl) okV_X9_used rfl rfl (tb_used (d := 1) rfl) rfl rfl hdd (by decide) (by decide) (by first | decide | exact Nat.le_of_ble_eq_true rfl) (pm_ki (fun v σ' cnt' hq => ?_))
  obtain ⟨rfl, rfl, rfl⟩ := hq
  refine pm_icmp_ge (tgt := 36) hG dX6_next_18 rfl (fun _ => ?_) (fun q => absurd q (by decide))
  refine pm_iconst (v := (-1)) hG dX6_next_36 (by decide) ?_
  exact pm_iret hG hF dX6_next_37 rfl (by decide) (by decide) ⟨_, rfl, ⟨rfl, rfl, rfl⟩⟩

set_option maxRecDepth 100000 in
set_option maxHeartbeats 4000000 in
theorem fc_X6_isDigit_26 {B : Nat} {fw : Nat → Int32} {R : List pm_C} {d : Nat} (hdd : 1 ≤ d) : pm_met mX6_isDigit d 0 0 B [.int (-1)] 74 (pm_up (pm_up (pm_up (pm_cat (pm_ofL (l_k_class B fw)) 54 R) 28 (.inr (9, [.int 60, .int 1, .ref (B + 29), .int 0]))) 27 (.inr (6, [.ref (B + 24), .ref (B + 28), .int 0, .int 0]))) 27 (.inr (6, [.ref (B + 24), .ref (B + 28), .int 0, .int (-1)]))) (pm_Qi (fun v σ' cnt' => v = 0 ∧ σ' = (pm_up (pm_up (pm_up (pm_cat (pm_ofL (l_k_class B fw)) 54 R) 28 (.inr (9, [.int 60, .int 1, .ref (B + 29), .int 0]))) 27 (.inr (6, [.ref (B + 24), .ref (B + 28), .int 0, .int 0]))) 27 (.inr (6, [.ref (B + 24), .ref (B + 28), .int 0, .int (-1)]))) ∧ cnt' = 74)) := by
  refine pm_enter 0 (by decide) (Nat.le_of_ble_eq_true rfl) rfl (fun G hG hR hF => ?_)
  refine pm_iloadn hG dX6_isDigit_0 rfl ?_
  refine pm_bipush (v := 48) hG dX6_isDigit_1 (by decide) ?_
  refine pm_icmp_lt (tgt := 16) hG dX6_isDigit_3 rfl (fun _ => ?_) (fun q => absurd q (by decide))
  refine pm_iconst (v := 0) hG dX6_isDigit_16 (by decide) ?_
  exact pm_zret hG hF dX6_isDigit_17 rfl (by rfl) (by decide) (by decide) ⟨_, rfl, ⟨rfl, rfl, rfl⟩⟩

set_option maxRecDepth 100000 in
set_option maxHeartbeats 4000000 in
theorem fc_X6_fail_27 {B : Nat} {fw : Nat → Int32} {R : List pm_C} {d : Nat} (hdd : 1 ≤ d) : pm_met mX6_fail d 0 0 B [.ref (B + 27)] 74 (pm_up (pm_up (pm_up (pm_cat (pm_ofL (l_k_class B fw)) 54 R) 28 (.inr (9, [.int 60, .int 1, .ref (B + 29), .int 0]))) 27 (.inr (6, [.ref (B + 24), .ref (B + 28), .int 0, .int 0]))) 27 (.inr (6, [.ref (B + 24), .ref (B + 28), .int 0, .int (-1)]))) (pm_Qv (fun σ' cnt' => σ' = (pm_up (pm_up (pm_up (pm_up (pm_cat (pm_ofL (l_k_class B fw)) 54 R) 28 (.inr (9, [.int 60, .int 1, .ref (B + 29), .int 0]))) 27 (.inr (6, [.ref (B + 24), .ref (B + 28), .int 0, .int 0]))) 27 (.inr (6, [.ref (B + 24), .ref (B + 28), .int 0, .int (-1)]))) 27 (.inr (6, [.ref (B + 24), .ref (B + 28), .int 0, .int 0]))) ∧ cnt' = 74)) := by
  refine pm_enter 0 (by decide) (Nat.le_of_ble_eq_true rfl) rfl (fun G hG hR hF => ?_)
  refine pm_aloadn hG dX6_fail_0 rfl ?_
  refine pm_getf hG dX6_fail_1 (flX6_30 _ rfl) rfl rfl ?_
  refine pm_if_ge (tgt := 15) hG dX6_fail_4 rfl (fun q => absurd q (by decide)) (fun _ => ?_)
  refine pm_aloadn hG dX6_fail_7 rfl ?_
  refine pm_aloadn hG dX6_fail_8 rfl ?_
  refine pm_getf hG dX6_fail_9 (flX6_26 _ rfl) rfl rfl ?_
  refine pm_putf hG dX6_fail_12 (fwX6_30 _ rfl) rfl rfl rfl ?_
  exact pm_vret hG hF dX6_fail_15 rfl (by decide) (by decide) ⟨rfl, ⟨rfl, rfl⟩⟩

set_option maxRecDepth 100000 in
set_option maxHeartbeats 4000000 in
theorem fc_X6_readPart_24 {B : Nat} {fw : Nat → Int32} {R : List pm_C} {d : Nat} (hdd : 3 ≤ d) : pm_met mX6_readPart d 0 0 B [.ref (B + 27), .int 0] 74 (pm_up (pm_up (pm_up (pm_cat (pm_ofL (l_k_class B fw)) 54 R) 28 (.inr (9, [.int 60, .int 1, .ref (B + 29), .int 0]))) 27 (.inr (6, [.ref (B + 24), .ref (B + 28), .int 0, .int 0]))) 27 (.inr (6, [.ref (B + 24), .ref (B + 28), .int 0, .int (-1)]))) (pm_Qv (fun σ' cnt' => σ' = (pm_up (pm_up (pm_up (pm_up (pm_cat (pm_ofL (l_k_class B fw)) 54 R) 28 (.inr (9, [.int 60, .int 1, .ref (B + 29), .int 0]))) 27 (.inr (6, [.ref (B + 24), .ref (B + 28), .int 0, .int 0]))) 27 (.inr (6, [.ref (B + 24), .ref (B + 28), .int 0, .int (-1)]))) 27 (.inr (6, [.ref (B + 24), .ref (B + 28), .int 0, .int 0]))) ∧ cnt' = 74)) := by
  refine pm_enter 2 (by decide) (Nat.le_of_ble_eq_true rfl) rfl (fun G hG hR hF => ?_)
  refine pm_aloadn hG dX6_readPart_0 rfl ?_
  refine pm_callV (As := []) (rest := []) hG hR dX6_readPart_1 (lkX6_47 _ rfl) okV_X6_next rfl rfl (fc_X6_next_25 (d := 2) (by decide)) rfl rfl hdd (by decide) (by decide) (by decide) (pm_ki (fun v σ' cnt' hq => ?_))
  obtain ⟨rfl, rfl, rfl⟩ := hq
  refine pm_istoreXn (loc' := [some (.ref (B + 27)), some (.int 0), some (.int (-1)), none]) hG dX6_readPart_4 (by decide) (pm_c1b rfl) rfl ?_
  refine pm_iloadn hG dX6_readPart_5 rfl ?_
  refine pm_if_ge (tgt := 13) hG dX6_readPart_6 rfl (fun q => absurd q (by decide)) (fun _ => ?_)
  refine pm_iconst (v := (-1)) hG dX6_readPart_9 (by decide) ?_
  refine pm_goto (tgt := 20) hG dX6_readPart_10 rfl ?_
  refine pm_istoreXn (loc' := [some (.ref (B + 27)), some (.int 0), some (.int (-1)), some (.int (-1))]) hG dX6_readPart_20 (by decide) (pm_c1b rfl) rfl ?_
  refine pm_iloadn hG dX6_readPart_21 rfl ?_
  refine pm_callS (As := [.int (-1)]) (rest := []) hG hR dX6_readPart_22 (lkX6_70 _ rfl) okS_X6_isDigit (fc_X6_isDigit_26 (d := 2) (by decide)) rfl rfl hdd (by decide) (by decide) (by decide) (pm_ki (fun v σ' cnt' hq => ?_))
  obtain ⟨rfl, rfl, rfl⟩ := hq
  refine pm_if_eq (tgt := 35) hG dX6_readPart_25 rfl (fun _ => ?_) (fun q => absurd q (by decide))
  refine pm_iloadn hG dX6_readPart_35 rfl ?_
  refine pm_if_lt (tgt := 64) hG dX6_readPart_36 rfl (fun _ => ?_) (fun q => absurd q (by decide))
  refine pm_iloadn hG dX6_readPart_64 rfl ?_
  refine pm_bipush (v := 33) hG dX6_readPart_65 (by decide) ?_
  refine pm_icmp_ne (tgt := 104) hG dX6_readPart_67 rfl (fun _ => ?_) (fun q => absurd q (by decide))
  refine pm_iloadn hG dX6_readPart_104 rfl ?_
  refine pm_bipush (v := 40) hG dX6_readPart_105 (by decide) ?_
  refine pm_icmp_ne (tgt := 139) hG dX6_readPart_107 rfl (fun _ => ?_) (fun q => absurd q (by decide))
  refine pm_aloadn hG dX6_readPart_139 rfl ?_
  refine pm_callV (As := []) (rest := []) hG hR dX6_readPart_140 (lkX6_41 _ rfl) okV_X6_fail rfl rfl (fc_X6_fail_27 (d := 2) (by decide)) rfl rfl hdd (by decide) (by decide) (by decide) (pm_kv (fun σ' cnt' hq => ?_))
  obtain ⟨rfl, rfl⟩ := hq
  exact pm_vret hG hF dX6_readPart_143 rfl (by decide) (by decide) ⟨rfl, ⟨rfl, rfl⟩⟩

set_option maxRecDepth 100000 in
set_option maxHeartbeats 4000000 in
theorem fc_X6_next_28 {B : Nat} {fw : Nat → Int32} {R : List pm_C} {d : Nat} (hdd : 1 ≤ d) : pm_met mX6_next d 0 0 B [.ref (B + 27)] 74 (pm_up (pm_up (pm_up (pm_up (pm_cat (pm_ofL (l_k_class B fw)) 54 R) 28 (.inr (9, [.int 60, .int 1, .ref (B + 29), .int 0]))) 27 (.inr (6, [.ref (B + 24), .ref (B + 28), .int 0, .int 0]))) 27 (.inr (6, [.ref (B + 24), .ref (B + 28), .int 0, .int (-1)]))) 27 (.inr (6, [.ref (B + 24), .ref (B + 28), .int 0, .int 0]))) (pm_Qi (fun v σ' cnt' => v = (-1) ∧ σ' = (pm_up (pm_up (pm_up (pm_up (pm_cat (pm_ofL (l_k_class B fw)) 54 R) 28 (.inr (9, [.int 60, .int 1, .ref (B + 29), .int 0]))) 27 (.inr (6, [.ref (B + 24), .ref (B + 28), .int 0, .int 0]))) 27 (.inr (6, [.ref (B + 24), .ref (B + 28), .int 0, .int (-1)]))) 27 (.inr (6, [.ref (B + 24), .ref (B + 28), .int 0, .int 0]))) ∧ cnt' = 74)) := by
  refine pm_enter 0 (by decide) (Nat.le_of_ble_eq_true rfl) rfl (fun G hG hR hF => ?_)
  refine pm_aloadn hG dX6_next_0 rfl ?_
  refine pm_getf hG dX6_next_1 (flX6_30 _ rfl) rfl rfl ?_
  refine pm_if_ge (tgt := 36) hG dX6_next_4 rfl (fun _ => ?_) (fun q => absurd q (by decide))
  refine pm_iconst (v := (-1)) hG dX6_next_36 (by decide) ?_
  exact pm_iret hG hF dX6_next_37 rfl (by decide) (by decide) ⟨_, rfl, ⟨rfl, rfl, rfl⟩⟩

set_option maxRecDepth 100000 in
set_option maxHeartbeats 4000000 in
theorem fc_X6_readSum_23 {B : Nat} {fw : Nat → Int32} {R : List pm_C} {d : Nat} (hdd : 4 ≤ d) : pm_met mX6_readSum d 0 0 B [.ref (B + 27), .int 0] 74 (pm_up (pm_up (pm_up (pm_cat (pm_ofL (l_k_class B fw)) 54 R) 28 (.inr (9, [.int 60, .int 1, .ref (B + 29), .int 0]))) 27 (.inr (6, [.ref (B + 24), .ref (B + 28), .int 0, .int 0]))) 27 (.inr (6, [.ref (B + 24), .ref (B + 28), .int 0, .int (-1)]))) (pm_Qv (fun σ' cnt' => σ' = (pm_up (pm_up (pm_up (pm_up (pm_cat (pm_ofL (l_k_class B fw)) 54 R) 28 (.inr (9, [.int 60, .int 1, .ref (B + 29), .int 0]))) 27 (.inr (6, [.ref (B + 24), .ref (B + 28), .int 0, .int 0]))) 27 (.inr (6, [.ref (B + 24), .ref (B + 28), .int 0, .int (-1)]))) 27 (.inr (6, [.ref (B + 24), .ref (B + 28), .int 0, .int 0]))) ∧ cnt' = 74)) := by
  refine pm_enter 2 (by decide) (Nat.le_of_ble_eq_true rfl) rfl (fun G hG hR hF => ?_)
  refine pm_aloadn hG dX6_readSum_0 rfl ?_
  refine pm_iloadn hG dX6_readSum_1 rfl ?_
  refine pm_callV (As := [.int 0]) (rest := []) hG hR dX6_readSum_2 (lkX6_60 _ rfl) okV_X6_readPart rfl rfl (fc_X6_readPart_24 (d := 3) (by decide)) rfl rfl hdd (by decide) (by decide) (by decide) (pm_kv (fun σ' cnt' hq => ?_))
  obtain ⟨rfl, rfl⟩ := hq
  refine pm_iconst (v := 0) hG dX6_readSum_5 (by decide) ?_
  refine pm_istoreXn (loc' := [some (.ref (B + 27)), some (.int 0), some (.int 0), none]) hG dX6_readSum_6 (by decide) (pm_c1b rfl) rfl ?_
  refine pm_iloadn hG dX6_readSum_7 rfl ?_
  refine pm_bipush (v := 60) hG dX6_readSum_8 (by decide) ?_
  refine pm_icmp_ge (tgt := 78) hG dX6_readSum_10 rfl (fun q => absurd q (by decide)) (fun _ => ?_)
  refine pm_aloadn hG dX6_readSum_13 rfl ?_
  refine pm_callV (As := []) (rest := []) hG hR dX6_readSum_14 (lkX6_47 _ rfl) okV_X6_next rfl rfl (fc_X6_next_28 (d := 3) (by decide)) rfl rfl hdd (by decide) (by decide) (by decide) (pm_ki (fun v σ' cnt' hq => ?_))
  obtain ⟨rfl, rfl, rfl⟩ := hq
  refine pm_bipush (v := 43) hG dX6_readSum_17 (by decide) ?_
  refine pm_icmp_eq (tgt := 31) hG dX6_readSum_19 rfl (fun q => absurd q (by decide)) (fun _ => ?_)
  refine pm_aloadn hG dX6_readSum_22 rfl ?_
  refine pm_callV (As := []) (rest := []) hG hR dX6_readSum_23 (lkX6_47 _ rfl) okV_X6_next rfl rfl (fc_X6_next_28 (d := 3) (by decide)) rfl rfl hdd (by decide) (by decide) (by decide) (pm_ki (fun v σ' cnt' hq => ?_))
  obtain ⟨rfl, rfl, rfl⟩ := hq
  refine pm_bipush (v := 45) hG dX6_readSum_26 (by decide) ?_
  refine pm_icmp_ne (tgt := 78) hG dX6_readSum_28 rfl (fun _ => ?_) (fun q => absurd q (by decide))
  exact pm_vret hG hF dX6_readSum_78 rfl (by decide) (by decide) ⟨rfl, ⟨rfl, rfl⟩⟩

set_option maxRecDepth 100000 in
set_option maxHeartbeats 4000000 in
theorem fc_X6_readComparison_22 {B : Nat} {fw : Nat → Int32} {R : List pm_C} {d : Nat} (hdd : 5 ≤ d) : pm_met mX6_readComparison d 0 0 B [.ref (B + 27), .int 0] 74 (pm_up (pm_up (pm_up (pm_cat (pm_ofL (l_k_class B fw)) 54 R) 28 (.inr (9, [.int 60, .int 1, .ref (B + 29), .int 0]))) 27 (.inr (6, [.ref (B + 24), .ref (B + 28), .int 0, .int 0]))) 27 (.inr (6, [.ref (B + 24), .ref (B + 28), .int 0, .int (-1)]))) (pm_Qv (fun σ' cnt' => σ' = (pm_up (pm_up (pm_up (pm_up (pm_cat (pm_ofL (l_k_class B fw)) 54 R) 28 (.inr (9, [.int 60, .int 1, .ref (B + 29), .int 0]))) 27 (.inr (6, [.ref (B + 24), .ref (B + 28), .int 0, .int 0]))) 27 (.inr (6, [.ref (B + 24), .ref (B + 28), .int 0, .int (-1)]))) 27 (.inr (6, [.ref (B + 24), .ref (B + 28), .int 0, .int 0]))) ∧ cnt' = 74)) := by
  refine pm_enter 1 (by decide) (Nat.le_of_ble_eq_true rfl) rfl (fun G hG hR hF => ?_)
  refine pm_aloadn hG dX6_readComparison_0 rfl ?_
  refine pm_iloadn hG dX6_readComparison_1 rfl ?_
  refine pm_callV (As := [.int 0]) (rest := []) hG hR dX6_readComparison_2 (lkX6_57 _ rfl) okV_X6_readSum rfl rfl (fc_X6_readSum_23 (d := 4) (by decide)) rfl rfl hdd (by decide) (by decide) (by decide) (pm_kv (fun σ' cnt' hq => ?_))
  obtain ⟨rfl, rfl⟩ := hq
  refine pm_aloadn hG dX6_readComparison_5 rfl ?_
  refine pm_callV (As := []) (rest := []) hG hR dX6_readComparison_6 (lkX6_47 _ rfl) okV_X6_next rfl rfl (fc_X6_next_28 (d := 4) (by decide)) rfl rfl hdd (by decide) (by decide) (by decide) (pm_ki (fun v σ' cnt' hq => ?_))
  obtain ⟨rfl, rfl, rfl⟩ := hq
  refine pm_istoreXn (loc' := [some (.ref (B + 27)), some (.int 0), some (.int (-1))]) hG dX6_readComparison_9 (by decide) (pm_c1b rfl) rfl ?_
  refine pm_iloadn hG dX6_readComparison_10 rfl ?_
  refine pm_bipush (v := 60) hG dX6_readComparison_11 (by decide) ?_
  refine pm_icmp_eq (tgt := 28) hG dX6_readComparison_13 rfl (fun q => absurd q (by decide)) (fun _ => ?_)
  refine pm_iloadn hG dX6_readComparison_16 rfl ?_
  refine pm_bipush (v := 61) hG dX6_readComparison_17 (by decide) ?_
  refine pm_icmp_eq (tgt := 28) hG dX6_readComparison_19 rfl (fun q => absurd q (by decide)) (fun _ => ?_)
  refine pm_iloadn hG dX6_readComparison_22 rfl ?_
  refine pm_bipush (v := 62) hG dX6_readComparison_23 (by decide) ?_
  refine pm_icmp_ne (tgt := 75) hG dX6_readComparison_25 rfl (fun _ => ?_) (fun q => absurd q (by decide))
  exact pm_vret hG hF dX6_readComparison_75 rfl (by decide) (by decide) ⟨rfl, ⟨rfl, rfl⟩⟩

set_option maxRecDepth 100000 in
set_option maxHeartbeats 4000000 in
theorem fc_X6_readConjunction_21 {B : Nat} {fw : Nat → Int32} {R : List pm_C} {d : Nat} (hdd : 6 ≤ d) : pm_met mX6_readConjunction d 0 0 B [.ref (B + 27), .int 0] 74 (pm_up (pm_up (pm_up (pm_cat (pm_ofL (l_k_class B fw)) 54 R) 28 (.inr (9, [.int 60, .int 1, .ref (B + 29), .int 0]))) 27 (.inr (6, [.ref (B + 24), .ref (B + 28), .int 0, .int 0]))) 27 (.inr (6, [.ref (B + 24), .ref (B + 28), .int 0, .int (-1)]))) (pm_Qv (fun σ' cnt' => σ' = (pm_up (pm_up (pm_up (pm_up (pm_cat (pm_ofL (l_k_class B fw)) 54 R) 28 (.inr (9, [.int 60, .int 1, .ref (B + 29), .int 0]))) 27 (.inr (6, [.ref (B + 24), .ref (B + 28), .int 0, .int 0]))) 27 (.inr (6, [.ref (B + 24), .ref (B + 28), .int 0, .int (-1)]))) 27 (.inr (6, [.ref (B + 24), .ref (B + 28), .int 0, .int 0]))) ∧ cnt' = 74)) := by
  refine pm_enter 1 (by decide) (Nat.le_of_ble_eq_true rfl) rfl (fun G hG hR hF => ?_)
  refine pm_aloadn hG dX6_readConjunction_0 rfl ?_
  refine pm_iloadn hG dX6_readConjunction_1 rfl ?_
  refine pm_callV (As := [.int 0]) (rest := []) hG hR dX6_readConjunction_2 (lkX6_54 _ rfl) okV_X6_readComparison rfl rfl (fc_X6_readComparison_22 (d := 5) (by decide)) rfl rfl hdd (by decide) (by decide) (by decide) (pm_kv (fun σ' cnt' hq => ?_))
  obtain ⟨rfl, rfl⟩ := hq
  refine pm_iconst (v := 0) hG dX6_readConjunction_5 (by decide) ?_
  refine pm_istoreXn (loc' := [some (.ref (B + 27)), some (.int 0), some (.int 0)]) hG dX6_readConjunction_6 (by decide) (pm_c1b rfl) rfl ?_
  refine pm_iloadn hG dX6_readConjunction_7 rfl ?_
  refine pm_bipush (v := 60) hG dX6_readConjunction_8 (by decide) ?_
  refine pm_icmp_ge (tgt := 53) hG dX6_readConjunction_10 rfl (fun q => absurd q (by decide)) (fun _ => ?_)
  refine pm_aloadn hG dX6_readConjunction_13 rfl ?_
  refine pm_callV (As := []) (rest := []) hG hR dX6_readConjunction_14 (lkX6_47 _ rfl) okV_X6_next rfl rfl (fc_X6_next_28 (d := 5) (by decide)) rfl rfl hdd (by decide) (by decide) (by decide) (pm_ki (fun v σ' cnt' hq => ?_))
  obtain ⟨rfl, rfl, rfl⟩ := hq
  refine pm_bipush (v := 38) hG dX6_readConjunction_17 (by decide) ?_
  refine pm_icmp_ne (tgt := 53) hG dX6_readConjunction_19 rfl (fun _ => ?_) (fun q => absurd q (by decide))
  exact pm_vret hG hF dX6_readConjunction_53 rfl (by decide) (by decide) ⟨rfl, ⟨rfl, rfl⟩⟩

set_option maxRecDepth 100000 in
set_option maxHeartbeats 4000000 in
theorem fc_X6_readText_20 {B : Nat} {fw : Nat → Int32} {R : List pm_C} {d : Nat} (hdd : 7 ≤ d) : pm_met mX6_readText d 0 0 B [.ref (B + 27), .int 0] 74 (pm_up (pm_up (pm_up (pm_cat (pm_ofL (l_k_class B fw)) 54 R) 28 (.inr (9, [.int 60, .int 1, .ref (B + 29), .int 0]))) 27 (.inr (6, [.ref (B + 24), .ref (B + 28), .int 0, .int 0]))) 27 (.inr (6, [.ref (B + 24), .ref (B + 28), .int 0, .int (-1)]))) (pm_Qv (fun σ' cnt' => σ' = (pm_up (pm_up (pm_up (pm_up (pm_cat (pm_ofL (l_k_class B fw)) 54 R) 28 (.inr (9, [.int 60, .int 1, .ref (B + 29), .int 0]))) 27 (.inr (6, [.ref (B + 24), .ref (B + 28), .int 0, .int 0]))) 27 (.inr (6, [.ref (B + 24), .ref (B + 28), .int 0, .int (-1)]))) 27 (.inr (6, [.ref (B + 24), .ref (B + 28), .int 0, .int 0]))) ∧ cnt' = 74)) := by
  refine pm_enter 1 (by decide) (Nat.le_of_ble_eq_true rfl) rfl (fun G hG hR hF => ?_)
  refine pm_aloadn hG dX6_readText_0 rfl ?_
  refine pm_iloadn hG dX6_readText_1 rfl ?_
  refine pm_callV (As := [.int 0]) (rest := []) hG hR dX6_readText_2 (lkX6_44 _ rfl) okV_X6_readConjunction rfl rfl (fc_X6_readConjunction_21 (d := 6) (by decide)) rfl rfl hdd (by decide) (by decide) (by decide) (pm_kv (fun σ' cnt' hq => ?_))
  obtain ⟨rfl, rfl⟩ := hq
  refine pm_iconst (v := 0) hG dX6_readText_5 (by decide) ?_
  refine pm_istoreXn (loc' := [some (.ref (B + 27)), some (.int 0), some (.int 0)]) hG dX6_readText_6 (by decide) (pm_c1b rfl) rfl ?_
  refine pm_iloadn hG dX6_readText_7 rfl ?_
  refine pm_bipush (v := 60) hG dX6_readText_8 (by decide) ?_
  refine pm_icmp_ge (tgt := 53) hG dX6_readText_10 rfl (fun q => absurd q (by decide)) (fun _ => ?_)
  refine pm_aloadn hG dX6_readText_13 rfl ?_
  refine pm_callV (As := []) (rest := []) hG hR dX6_readText_14 (lkX6_47 _ rfl) okV_X6_next rfl rfl (fc_X6_next_28 (d := 6) (by decide)) rfl rfl hdd (by decide) (by decide) (by decide) (pm_ki (fun v σ' cnt' hq => ?_))
  obtain ⟨rfl, rfl, rfl⟩ := hq
  refine pm_bipush (v := 124) hG dX6_readText_17 (by decide) ?_
  refine pm_icmp_ne (tgt := 53) hG dX6_readText_19 rfl (fun _ => ?_) (fun q => absurd q (by decide))
  exact pm_vret hG hF dX6_readText_53 rfl (by decide) (by decide) ⟨rfl, ⟨rfl, rfl⟩⟩

set_option maxRecDepth 100000 in
set_option maxHeartbeats 4000000 in
theorem fc_X6_readTape_18 {B : Nat} {fw : Nat → Int32} {R : List pm_C} {d : Nat} (hdd : 8 ≤ d) : pm_met mX6_readTape d 0 0 B [.ref (B + 27)] 74 (pm_cat (pm_ofL (l_k_class B fw)) 54 R) (pm_Qi (fun v σ' cnt' => v = 0 ∧ σ' = (pm_up (pm_up (pm_up (pm_up (pm_cat (pm_ofL (l_k_class B fw)) 54 R) 28 (.inr (9, [.int 60, .int 1, .ref (B + 29), .int 0]))) 27 (.inr (6, [.ref (B + 24), .ref (B + 28), .int 0, .int 0]))) 27 (.inr (6, [.ref (B + 24), .ref (B + 28), .int 0, .int (-1)]))) 27 (.inr (6, [.ref (B + 24), .ref (B + 28), .int 0, .int 0]))) ∧ cnt' = 74)) := by
  refine pm_enter 0 (by decide) (Nat.le_of_ble_eq_true rfl) rfl (fun G hG hR hF => ?_)
  refine pm_aloadn hG dX6_readTape_0 rfl ?_
  refine pm_getf hG dX6_readTape_1 (flX6_20 _ rfl) rfl rfl ?_
  refine pm_callV (As := []) (rest := []) hG hR dX6_readTape_4 (lkX6_23 _ rfl) okV_X9_clear rfl rfl (fc_X9_clear_19 (d := 7) (by decide)) rfl rfl hdd (by decide) (by decide) (by decide) (pm_kv (fun σ' cnt' hq => ?_))
  obtain ⟨rfl, rfl⟩ := hq
  refine pm_aloadn hG dX6_readTape_7 rfl ?_
  refine pm_iconst (v := 0) hG dX6_readTape_8 (by decide) ?_
  refine pm_putf hG dX6_readTape_9 (fwX6_26 _ rfl) rfl rfl rfl ?_
  refine pm_aloadn hG dX6_readTape_12 rfl ?_
  refine pm_iconst (v := (-1)) hG dX6_readTape_13 (by decide) ?_
  refine pm_putf hG dX6_readTape_14 (fwX6_30 _ rfl) rfl rfl rfl ?_
  refine pm_aloadn hG dX6_readTape_17 rfl ?_
  refine pm_iconst (v := 0) hG dX6_readTape_18 (by decide) ?_
  refine pm_callV (As := [.int 0]) (rest := []) hG hR dX6_readTape_19 (lkX6_33 _ rfl) okV_X6_readText rfl rfl (fc_X6_readText_20 (d := 7) (by decide)) rfl rfl hdd (by decide) (by decide) (by decide) (pm_kv (fun σ' cnt' hq => ?_))
  obtain ⟨rfl, rfl⟩ := hq
  refine pm_aloadn hG dX6_readTape_22 rfl ?_
  refine pm_getf hG dX6_readTape_23 (flX6_26 _ rfl) rfl rfl ?_
  refine pm_aloadn hG dX6_readTape_26 rfl ?_
  refine pm_getf hG dX6_readTape_27 (flX6_9 _ rfl) rfl rfl ?_
  refine pm_callV (As := []) (rest := [.int 0]) hG hR dX6_readTape_30 (lkX6_37 _ rfl) okV_X9_used rfl rfl (tb_used (d := 7) rfl) rfl rfl hdd (by decide) (by decide) (by first | decide | exact Nat.le_of_ble_eq_true rfl) (pm_ki (fun v σ' cnt' hq => ?_))
  obtain ⟨rfl, rfl, rfl⟩ := hq
  refine pm_icmp_ge (tgt := 40) hG dX6_readTape_33 rfl (fun _ => ?_) (fun q => absurd q (by decide))
  refine pm_aloadn hG dX6_readTape_40 rfl ?_
  refine pm_getf hG dX6_readTape_41 (flX6_30 _ rfl) rfl rfl ?_
  exact pm_iret hG hF dX6_readTape_44 rfl (by decide) (by decide) ⟨_, rfl, ⟨rfl, rfl, rfl⟩⟩

set_option maxRecDepth 100000 in
set_option maxHeartbeats 4000000 in
theorem fc_X9_clear_29 {B : Nat} {fw : Nat → Int32} {R : List pm_C} {d : Nat} (hdd : 1 ≤ d) : pm_met mX9_clear d 0 0 B [.ref (B + 24)] 74 (pm_up (pm_up (pm_up (pm_up (pm_cat (pm_ofL (l_k_class B fw)) 54 R) 28 (.inr (9, [.int 60, .int 1, .ref (B + 29), .int 0]))) 27 (.inr (6, [.ref (B + 24), .ref (B + 28), .int 0, .int 0]))) 27 (.inr (6, [.ref (B + 24), .ref (B + 28), .int 0, .int (-1)]))) 27 (.inr (6, [.ref (B + 24), .ref (B + 28), .int 0, .int 0]))) (pm_Qv (fun σ' cnt' => σ' = (pm_up (pm_up (pm_up (pm_up (pm_up (pm_cat (pm_ofL (l_k_class B fw)) 54 R) 28 (.inr (9, [.int 60, .int 1, .ref (B + 29), .int 0]))) 27 (.inr (6, [.ref (B + 24), .ref (B + 28), .int 0, .int 0]))) 27 (.inr (6, [.ref (B + 24), .ref (B + 28), .int 0, .int (-1)]))) 27 (.inr (6, [.ref (B + 24), .ref (B + 28), .int 0, .int 0]))) 24 (.inr (9, [.int 60, .int 1, .ref (B + 25), .int 0]))) ∧ cnt' = 74)) := by
  refine pm_enter 0 (by decide) (Nat.le_of_ble_eq_true rfl) rfl (fun G hG hR hF => ?_)
  refine pm_aloadn hG dX9_clear_0 rfl ?_
  refine pm_iconst (v := 0) hG dX9_clear_1 (by decide) ?_
  refine pm_putf hG dX9_clear_2 (fwX9_29 _ rfl) rfl rfl rfl ?_
  exact pm_vret hG hF dX9_clear_5 rfl (by decide) (by decide) ⟨rfl, ⟨rfl, rfl⟩⟩

set_option maxRecDepth 100000 in
set_option maxHeartbeats 4000000 in
theorem fc_X2_enact_17 {B : Nat} {fw : Nat → Int32} {R : List pm_C} {za zb : Int32} {d : Nat} (hdd : 9 ≤ d) : pm_met mX2_enact d 0 0 B [.ref (B + 26), .int za, .int zb] 74 (pm_cat (pm_ofL (l_k_class B fw)) 54 R) (pm_Qi (fun v σ' cnt' => v = (-10) ∧ σ' = (pm_up (pm_up (pm_up (pm_up (pm_up (pm_cat (pm_ofL (l_k_class B fw)) 54 R) 28 (.inr (9, [.int 60, .int 1, .ref (B + 29), .int 0]))) 27 (.inr (6, [.ref (B + 24), .ref (B + 28), .int 0, .int 0]))) 27 (.inr (6, [.ref (B + 24), .ref (B + 28), .int 0, .int (-1)]))) 27 (.inr (6, [.ref (B + 24), .ref (B + 28), .int 0, .int 0]))) 24 (.inr (9, [.int 60, .int 1, .ref (B + 25), .int 0]))) ∧ cnt' = 74)) := by
  refine pm_enter 4 (by decide) (Nat.le_of_ble_eq_true rfl) rfl (fun G hG hR hF => ?_)
  refine pm_aloadn hG dX2_enact_0 rfl ?_
  refine pm_getf hG dX2_enact_1 (flX2_26 _ rfl) rfl rfl ?_
  refine pm_callV (As := []) (rest := []) hG hR dX2_enact_4 (lkX2_34 _ rfl) okV_X6_readTape rfl rfl (fc_X6_readTape_18 (d := 8) (by decide)) rfl rfl hdd (by decide) (by decide) (by decide) (pm_ki (fun v σ' cnt' hq => ?_))
  obtain ⟨rfl, rfl, rfl⟩ := hq
  refine pm_istoreXn (loc' := [some (.ref (B + 26)), some (.int za), some (.int zb), some (.int 0), none, none, none]) hG dX2_enact_7 (by decide) (pm_c1b rfl) rfl ?_
  refine pm_aloadn hG dX2_enact_8 rfl ?_
  refine pm_getf hG dX2_enact_9 (flX2_9 _ rfl) rfl rfl ?_
  refine pm_getf hG dX2_enact_12 (flX2_17 _ rfl) rfl rfl ?_
  refine pm_callV (As := []) (rest := []) hG hR dX2_enact_15 (lkX2_38 _ rfl) okV_X9_clear rfl rfl (fc_X9_clear_29 (d := 8) (by decide)) rfl rfl hdd (by decide) (by decide) (by decide) (pm_kv (fun σ' cnt' hq => ?_))
  obtain ⟨rfl, rfl⟩ := hq
  refine pm_iloadn hG dX2_enact_18 rfl ?_
  refine pm_if_lt (tgt := 27) hG dX2_enact_19 rfl (fun q => absurd q (by decide)) (fun _ => ?_)
  refine pm_bipush (v := (-10)) hG dX2_enact_22 (by decide) ?_
  refine pm_iloadn hG dX2_enact_24 rfl ?_
  refine pm_isub hG dX2_enact_25 ?_
  refine pm_top (v := (-10)) (by decide) ?_
  exact pm_iret hG hF dX2_enact_26 rfl (by decide) (by decide) ⟨_, rfl, ⟨rfl, rfl, rfl⟩⟩

set_option maxRecDepth 100000 in
set_option maxHeartbeats 8000000 in
theorem oc_law {B : Nat} {fw : Nat → Int32} {R : List pm_C} {za zb : Int32} {d : Nat} (hdd : 10 ≤ d) : pm_met mX11_law d 0 0 B [.ref (B + 0), .int za, .int zb] 74 (pm_cat (pm_ofL (l_k_class B fw)) 54 R) (pm_Qi (fun v σ' cnt' => v = v_law za zb ∧ pm_lies σ' 54 R ∧ cnt' = 74)) := by
  refine pm_enter 0 (by decide) (Nat.le_of_ble_eq_true rfl) rfl (fun G hG hR hF => ?_)
  refine pm_iloadn hG dX11_law_0 rfl ?_
  refine pm_iconst (v := 0) hG dX11_law_1 (by decide) ?_
  refine pm_iconst (v := 4) hG dX11_law_2 (by decide) ?_
  refine pm_callS (As := [.int za, .int 0, .int 4]) (rest := []) hG hR dX11_law_3 (lkX11_105 _ rfl) okS_X11_isOutside (sx_isOutside (d := 9)) rfl rfl hdd (by decide) (by decide) (by decide) (pm_ki (fun v σ' cnt' hq => ?_))
  obtain ⟨rfl, rfl, rfl⟩ := hq
  by_cases c1 : za < 0 ∨ 4 < za
  · refine pm_top (v := 1) (if_pos c1) ?_
    refine pm_if_ne (tgt := 20) hG dX11_law_6 rfl (fun _ => ?_) (fun q => absurd q (by decide))
    refine pm_aloadn hG dX11_law_20 rfl ?_
    refine pm_ldc hG dX11_law_21 (ctX11_109 _ rfl) ?_
    refine pm_callV (As := [.int (-1000001)]) (rest := []) hG hR dX11_law_23 (lkX11_97 _ rfl) okV_X11_told rfl rfl (sx_told (d := 9) (by decide) rfl rfl) rfl rfl hdd (by decide) (by decide) (by decide) (pm_ki (fun v σ' cnt' hq => ?_))
    obtain ⟨rfl, ⟨g, rfl⟩, rfl⟩ := hq
    exact pm_iret hG hF dX11_law_26 rfl (by decide) (by decide) ⟨_, rfl, (by clear hF hR hG; first | rfl | (unfold v_law; (repeat' split) <;> first | rfl | (exfalso; simp only [Int32.lt_iff_toInt_lt, Int32.le_iff_toInt_le, ← Int32.toInt_inj, Int32.toInt_zero, L_2000, L_4, L_m10, L_m1000001] at *; omega) | (apply Int32.toInt_inj.mp; simp only [Int32.lt_iff_toInt_lt, Int32.le_iff_toInt_le, ← Int32.toInt_inj, Int32.toInt_zero, L_2000, L_4, L_m10, L_m1000001] at *; omega))), (by repeat (first | exact pm_lies_cat | refine pm_lies.up0 (by decide) ?_)), rfl⟩
  · refine pm_top (v := 0) (if_neg c1) ?_
    refine pm_if_ne (tgt := 20) hG dX11_law_6 rfl (fun q => absurd q (by decide)) (fun _ => ?_)
    refine pm_iloadn hG dX11_law_9 rfl ?_
    refine pm_iconst (v := 0) hG dX11_law_10 (by decide) ?_
    refine pm_sipush (v := 2000) hG dX11_law_11 (by decide) ?_
    refine pm_callS (As := [.int zb, .int 0, .int 2000]) (rest := []) hG hR dX11_law_14 (lkX11_105 _ rfl) okS_X11_isOutside (sx_isOutside (d := 9)) rfl rfl hdd (by decide) (by decide) (by decide) (pm_ki (fun v σ' cnt' hq => ?_))
    obtain ⟨rfl, rfl, rfl⟩ := hq
    by_cases c2 : zb < 0 ∨ 2000 < zb
    · refine pm_top (v := 1) (if_pos c2) ?_
      refine pm_if_eq (tgt := 27) hG dX11_law_17 rfl (fun q => absurd q (by decide)) (fun _ => ?_)
      refine pm_aloadn hG dX11_law_20 rfl ?_
      refine pm_ldc hG dX11_law_21 (ctX11_109 _ rfl) ?_
      refine pm_callV (As := [.int (-1000001)]) (rest := []) hG hR dX11_law_23 (lkX11_97 _ rfl) okV_X11_told rfl rfl (sx_told (d := 9) (by decide) rfl rfl) rfl rfl hdd (by decide) (by decide) (by decide) (pm_ki (fun v σ' cnt' hq => ?_))
      obtain ⟨rfl, ⟨g, rfl⟩, rfl⟩ := hq
      exact pm_iret hG hF dX11_law_26 rfl (by decide) (by decide) ⟨_, rfl, (by clear hF hR hG; first | rfl | (unfold v_law; (repeat' split) <;> first | rfl | (exfalso; simp only [Int32.lt_iff_toInt_lt, Int32.le_iff_toInt_le, ← Int32.toInt_inj, Int32.toInt_zero, L_2000, L_4, L_m10, L_m1000001] at *; omega) | (apply Int32.toInt_inj.mp; simp only [Int32.lt_iff_toInt_lt, Int32.le_iff_toInt_le, ← Int32.toInt_inj, Int32.toInt_zero, L_2000, L_4, L_m10, L_m1000001] at *; omega))), (by repeat (first | exact pm_lies_cat | refine pm_lies.up0 (by decide) ?_)), rfl⟩
    · refine pm_top (v := 0) (if_neg c2) ?_
      refine pm_if_eq (tgt := 27) hG dX11_law_17 rfl (fun _ => ?_) (fun q => absurd q (by decide))
      refine pm_aloadn hG dX11_law_27 rfl ?_
      refine pm_aloadn hG dX11_law_28 rfl ?_
      refine pm_getf hG dX11_law_29 (flX11_12 _ rfl) rfl rfl ?_
      refine pm_getf hG dX11_law_32 (flX11_209 _ rfl) rfl rfl ?_
      refine pm_callV (As := []) (rest := [.ref (B + 0)]) hG hR dX11_law_35 (lkX11_86 _ rfl) okV_X9_isFull rfl rfl (tb_isFull (d := 9) rfl) rfl rfl hdd (by decide) (by decide) (by first | decide | exact Nat.le_of_ble_eq_true rfl) (pm_ki (fun v σ' cnt' hq => ?_))
      obtain ⟨rfl, rfl, rfl⟩ := hq
      refine pm_top (v := 0) (by decide) ?_
      refine pm_if_eq (tgt := 46) hG dX11_law_38 rfl (fun _ => ?_) (fun q => absurd q (by decide))
      refine pm_aloadn hG dX11_law_46 rfl ?_
      refine pm_getf hG dX11_law_47 (flX11_21 _ rfl) rfl rfl ?_
      refine pm_iloadn hG dX11_law_50 rfl ?_
      refine pm_iloadn hG dX11_law_51 rfl ?_
      refine pm_callV (As := [.int za, .int zb]) (rest := [.ref (B + 0)]) hG hR dX11_law_52 (lkX11_211 _ rfl) okV_X2_enact rfl rfl (fc_X2_enact_17 (d := 9) (by decide)) rfl rfl hdd (by decide) (by decide) (by first | decide | exact Nat.le_of_ble_eq_true rfl) (pm_ki (fun v σ' cnt' hq => ?_))
      obtain ⟨rfl, rfl, rfl⟩ := hq
      refine pm_callV (As := [.int (-10)]) (rest := []) hG hR dX11_law_55 (lkX11_97 _ rfl) okV_X11_told rfl rfl (sx_told (d := 9) (by decide) rfl rfl) rfl rfl hdd (by decide) (by decide) (by decide) (pm_ki (fun v σ' cnt' hq => ?_))
      obtain ⟨rfl, ⟨g, rfl⟩, rfl⟩ := hq
      exact pm_iret hG hF dX11_law_58 rfl (by decide) (by decide) ⟨_, rfl, (by clear hF hR hG; first | rfl | (unfold v_law; (repeat' split) <;> first | rfl | (exfalso; simp only [Int32.lt_iff_toInt_lt, Int32.le_iff_toInt_le, ← Int32.toInt_inj, Int32.toInt_zero, L_2000, L_4, L_m10, L_m1000001] at *; omega) | (apply Int32.toInt_inj.mp; simp only [Int32.lt_iff_toInt_lt, Int32.le_iff_toInt_le, ← Int32.toInt_inj, Int32.toInt_zero, L_2000, L_4, L_m10, L_m1000001] at *; omega))), (by repeat (first | exact pm_lies_cat | refine pm_lies.up0 (by decide) ?_)), rfl⟩

set_option maxRecDepth 100000 in
set_option maxHeartbeats 4000000 in
theorem fc_X2_inForce_30 {B : Nat} {fw : Nat → Int32} {R : List pm_C} {za zb zc : Int32} {d : Nat} (hdd : 2 ≤ d) : pm_met mX2_inForce d 0 0 B [.ref (B + 26), .int za, .int zb, .int zc] 74 (pm_cat (pm_ofL (l_k_class B fw)) 54 R) (pm_Qi (fun v σ' cnt' => v = (-1) ∧ σ' = (pm_cat (pm_ofL (l_k_class B fw)) 54 R) ∧ cnt' = 74)) := by
  refine pm_enter 2 (by decide) (Nat.le_of_ble_eq_true rfl) rfl (fun G hG hR hF => ?_)
  refine pm_aloadn hG dX2_inForce_0 rfl ?_
  refine pm_getf hG dX2_inForce_1 (flX2_9 _ rfl) rfl rfl ?_
  refine pm_getf hG dX2_inForce_4 (flX2_43 _ rfl) rfl rfl ?_
  refine pm_callV (As := []) (rest := []) hG hR dX2_inForce_7 (lkX2_53 _ rfl) okV_X9_used rfl rfl (tb_used (d := 1) rfl) rfl rfl hdd (by decide) (by decide) (by decide) (pm_ki (fun v σ' cnt' hq => ?_))
  obtain ⟨rfl, rfl, rfl⟩ := hq
  refine pm_iconst (v := 1) hG dX2_inForce_10 (by decide) ?_
  refine pm_isub hG dX2_inForce_11 ?_
  refine pm_top (v := (-1)) (by decide) ?_
  refine pm_istoreXi (loc' := [some (.ref (B + 26)), some (.int za), some (.int zb), some (.int zc), some (.int (-1)), none]) hG dX2_inForce_12 (by decide) (pm_c1b rfl) rfl ?_
  refine pm_iloadi hG dX2_inForce_14 rfl ?_
  refine pm_if_lt (tgt := 105) hG dX2_inForce_16 rfl (fun _ => ?_) (fun q => absurd q (by decide))
  refine pm_iconst (v := (-1)) hG dX2_inForce_105 (by decide) ?_
  exact pm_iret hG hF dX2_inForce_106 rfl (by decide) (by decide) ⟨_, rfl, ⟨rfl, rfl, rfl⟩⟩

set_option maxRecDepth 100000 in
set_option maxHeartbeats 8000000 in
theorem oc_force {B : Nat} {fw : Nat → Int32} {R : List pm_C} {za zb zc : Int32} {d : Nat} (hdd : 3 ≤ d) : pm_met mX11_force d 0 0 B [.ref (B + 0), .int za, .int zb, .int zc] 74 (pm_cat (pm_ofL (l_k_class B fw)) 54 R) (pm_Qi (fun v σ' cnt' => v = v_force za zb zc ∧ pm_lies σ' 54 R ∧ cnt' = 74)) := by
  refine pm_enter 1 (by decide) (Nat.le_of_ble_eq_true rfl) rfl (fun G hG hR hF => ?_)
  refine pm_iloadn hG dX11_force_0 rfl ?_
  refine pm_iconst (v := 0) hG dX11_force_1 (by decide) ?_
  refine pm_iconst (v := 4) hG dX11_force_2 (by decide) ?_
  refine pm_callS (As := [.int za, .int 0, .int 4]) (rest := []) hG hR dX11_force_3 (lkX11_105 _ rfl) okS_X11_isOutside (sx_isOutside (d := 2)) rfl rfl hdd (by decide) (by decide) (by decide) (pm_ki (fun v σ' cnt' hq => ?_))
  obtain ⟨rfl, rfl, rfl⟩ := hq
  by_cases c1 : za < 0 ∨ 4 < za
  · refine pm_top (v := 1) (if_pos c1) ?_
    refine pm_if_ne (tgt := 31) hG dX11_force_6 rfl (fun _ => ?_) (fun q => absurd q (by decide))
    refine pm_aloadn hG dX11_force_31 rfl ?_
    refine pm_ldc hG dX11_force_32 (ctX11_109 _ rfl) ?_
    refine pm_callV (As := [.int (-1000001)]) (rest := []) hG hR dX11_force_34 (lkX11_97 _ rfl) okV_X11_told rfl rfl (sx_told (d := 2) (by decide) rfl rfl) rfl rfl hdd (by decide) (by decide) (by decide) (pm_ki (fun v σ' cnt' hq => ?_))
    obtain ⟨rfl, ⟨g, rfl⟩, rfl⟩ := hq
    exact pm_iret hG hF dX11_force_37 rfl (by decide) (by decide) ⟨_, rfl, (by clear hF hR hG; first | rfl | (unfold v_force; (repeat' split) <;> first | rfl | (exfalso; simp only [Int32.lt_iff_toInt_lt, Int32.le_iff_toInt_le, ← Int32.toInt_inj, Int32.toInt_zero, L_2000, L_4, L_m1, L_m1000001, L_m1000002] at *; omega) | (apply Int32.toInt_inj.mp; simp only [Int32.lt_iff_toInt_lt, Int32.le_iff_toInt_le, ← Int32.toInt_inj, Int32.toInt_zero, L_2000, L_4, L_m1, L_m1000001, L_m1000002] at *; omega))), (by repeat (first | exact pm_lies_cat | refine pm_lies.up0 (by decide) ?_)), rfl⟩
  · refine pm_top (v := 0) (if_neg c1) ?_
    refine pm_if_ne (tgt := 31) hG dX11_force_6 rfl (fun q => absurd q (by decide)) (fun _ => ?_)
    refine pm_iloadn hG dX11_force_9 rfl ?_
    refine pm_iconst (v := 0) hG dX11_force_10 (by decide) ?_
    refine pm_sipush (v := 2000) hG dX11_force_11 (by decide) ?_
    refine pm_callS (As := [.int zb, .int 0, .int 2000]) (rest := []) hG hR dX11_force_14 (lkX11_105 _ rfl) okS_X11_isOutside (sx_isOutside (d := 2)) rfl rfl hdd (by decide) (by decide) (by decide) (pm_ki (fun v σ' cnt' hq => ?_))
    obtain ⟨rfl, rfl, rfl⟩ := hq
    by_cases c2 : zb < 0 ∨ 2000 < zb
    · refine pm_top (v := 1) (if_pos c2) ?_
      refine pm_if_ne (tgt := 31) hG dX11_force_17 rfl (fun _ => ?_) (fun q => absurd q (by decide))
      refine pm_aloadn hG dX11_force_31 rfl ?_
      refine pm_ldc hG dX11_force_32 (ctX11_109 _ rfl) ?_
      refine pm_callV (As := [.int (-1000001)]) (rest := []) hG hR dX11_force_34 (lkX11_97 _ rfl) okV_X11_told rfl rfl (sx_told (d := 2) (by decide) rfl rfl) rfl rfl hdd (by decide) (by decide) (by decide) (pm_ki (fun v σ' cnt' hq => ?_))
      obtain ⟨rfl, ⟨g, rfl⟩, rfl⟩ := hq
      exact pm_iret hG hF dX11_force_37 rfl (by decide) (by decide) ⟨_, rfl, (by clear hF hR hG; first | rfl | (unfold v_force; (repeat' split) <;> first | rfl | (exfalso; simp only [Int32.lt_iff_toInt_lt, Int32.le_iff_toInt_le, ← Int32.toInt_inj, Int32.toInt_zero, L_2000, L_4, L_m1, L_m1000001, L_m1000002] at *; omega) | (apply Int32.toInt_inj.mp; simp only [Int32.lt_iff_toInt_lt, Int32.le_iff_toInt_le, ← Int32.toInt_inj, Int32.toInt_zero, L_2000, L_4, L_m1, L_m1000001, L_m1000002] at *; omega))), (by repeat (first | exact pm_lies_cat | refine pm_lies.up0 (by decide) ?_)), rfl⟩
    · refine pm_top (v := 0) (if_neg c2) ?_
      refine pm_if_ne (tgt := 31) hG dX11_force_17 rfl (fun q => absurd q (by decide)) (fun _ => ?_)
      refine pm_iloadn hG dX11_force_20 rfl ?_
      refine pm_iconst (v := (-1)) hG dX11_force_21 (by decide) ?_
      refine pm_sipush (v := 2000) hG dX11_force_22 (by decide) ?_
      refine pm_callS (As := [.int zc, .int (-1), .int 2000]) (rest := []) hG hR dX11_force_25 (lkX11_105 _ rfl) okS_X11_isOutside (sx_isOutside (d := 2)) rfl rfl hdd (by decide) (by decide) (by decide) (pm_ki (fun v σ' cnt' hq => ?_))
      obtain ⟨rfl, rfl, rfl⟩ := hq
      by_cases c3 : zc < (-1) ∨ 2000 < zc
      · refine pm_top (v := 1) (if_pos c3) ?_
        refine pm_if_eq (tgt := 38) hG dX11_force_28 rfl (fun q => absurd q (by decide)) (fun _ => ?_)
        refine pm_aloadn hG dX11_force_31 rfl ?_
        refine pm_ldc hG dX11_force_32 (ctX11_109 _ rfl) ?_
        refine pm_callV (As := [.int (-1000001)]) (rest := []) hG hR dX11_force_34 (lkX11_97 _ rfl) okV_X11_told rfl rfl (sx_told (d := 2) (by decide) rfl rfl) rfl rfl hdd (by decide) (by decide) (by decide) (pm_ki (fun v σ' cnt' hq => ?_))
        obtain ⟨rfl, ⟨g, rfl⟩, rfl⟩ := hq
        exact pm_iret hG hF dX11_force_37 rfl (by decide) (by decide) ⟨_, rfl, (by clear hF hR hG; first | rfl | (unfold v_force; (repeat' split) <;> first | rfl | (exfalso; simp only [Int32.lt_iff_toInt_lt, Int32.le_iff_toInt_le, ← Int32.toInt_inj, Int32.toInt_zero, L_2000, L_4, L_m1, L_m1000001, L_m1000002] at *; omega) | (apply Int32.toInt_inj.mp; simp only [Int32.lt_iff_toInt_lt, Int32.le_iff_toInt_le, ← Int32.toInt_inj, Int32.toInt_zero, L_2000, L_4, L_m1, L_m1000001, L_m1000002] at *; omega))), (by repeat (first | exact pm_lies_cat | refine pm_lies.up0 (by decide) ?_)), rfl⟩
      · refine pm_top (v := 0) (if_neg c3) ?_
        refine pm_if_eq (tgt := 38) hG dX11_force_28 rfl (fun _ => ?_) (fun q => absurd q (by decide))
        refine pm_aloadn hG dX11_force_38 rfl ?_
        refine pm_getf hG dX11_force_39 (flX11_21 _ rfl) rfl rfl ?_
        refine pm_iloadn hG dX11_force_42 rfl ?_
        refine pm_iloadn hG dX11_force_43 rfl ?_
        refine pm_iloadn hG dX11_force_44 rfl ?_
        refine pm_callV (As := [.int za, .int zb, .int zc]) (rest := []) hG hR dX11_force_45 (lkX11_220 _ rfl) okV_X2_inForce rfl rfl (fc_X2_inForce_30 (d := 2) (by decide)) rfl rfl hdd (by decide) (by decide) (by decide) (pm_ki (fun v σ' cnt' hq => ?_))
        obtain ⟨rfl, rfl, rfl⟩ := hq
        refine pm_istoreXi (loc' := [some (.ref (B + 0)), some (.int za), some (.int zb), some (.int zc), some (.int (-1))]) hG dX11_force_48 (by decide) (pm_c1b rfl) rfl ?_
        refine pm_aloadn hG dX11_force_50 rfl ?_
        refine pm_iloadi hG dX11_force_51 rfl ?_
        refine pm_if_ge (tgt := 61) hG dX11_force_53 rfl (fun q => absurd q (by decide)) (fun _ => ?_)
        refine pm_ldc hG dX11_force_56 (ctX11_223 _ rfl) ?_
        refine pm_goto (tgt := 63) hG dX11_force_58 rfl ?_
        refine pm_callV (As := [.int (-1000002)]) (rest := []) hG hR dX11_force_63 (lkX11_97 _ rfl) okV_X11_told rfl rfl (sx_told (d := 2) (by decide) rfl rfl) rfl rfl hdd (by decide) (by decide) (by decide) (pm_ki (fun v σ' cnt' hq => ?_))
        obtain ⟨rfl, ⟨g, rfl⟩, rfl⟩ := hq
        exact pm_iret hG hF dX11_force_66 rfl (by decide) (by decide) ⟨_, rfl, (by clear hF hR hG; first | rfl | (unfold v_force; (repeat' split) <;> first | rfl | (exfalso; simp only [Int32.lt_iff_toInt_lt, Int32.le_iff_toInt_le, ← Int32.toInt_inj, Int32.toInt_zero, L_2000, L_4, L_m1, L_m1000001, L_m1000002] at *; omega) | (apply Int32.toInt_inj.mp; simp only [Int32.lt_iff_toInt_lt, Int32.le_iff_toInt_le, ← Int32.toInt_inj, Int32.toInt_zero, L_2000, L_4, L_m1, L_m1000001, L_m1000002] at *; omega))), (by repeat (first | exact pm_lies_cat | refine pm_lies.up0 (by decide) ?_)), rfl⟩

set_option maxRecDepth 100000 in
set_option maxHeartbeats 4000000 in
theorem fc_X8_has_31 {B : Nat} {fw : Nat → Int32} {R : List pm_C} {za : Int32} {d : Nat} (hdd : 1 ≤ d) : pm_met mX8_has d 0 0 B [.ref (B + 48), .int za] 74 (pm_cat (pm_ofL (l_k_class B fw)) 54 R) (pm_Qi (fun v σ' cnt' => ((za < 0) ∧ v = 0 ∧ σ' = (pm_cat (pm_ofL (l_k_class B fw)) 54 R) ∧ cnt' = 74) ∨ ((¬ (za < 0)) ∧ (4 ≤ za) ∧ v = 0 ∧ σ' = (pm_cat (pm_ofL (l_k_class B fw)) 54 R) ∧ cnt' = 74) ∨ ((¬ (za < 0)) ∧ (¬ (4 ≤ za)) ∧ v = 1 ∧ σ' = (pm_cat (pm_ofL (l_k_class B fw)) 54 R) ∧ cnt' = 74))) := by
  refine pm_enter 0 (by decide) (Nat.le_of_ble_eq_true rfl) rfl (fun G hG hR hF => ?_)
  refine pm_iloadn hG dX8_has_0 rfl ?_
  refine pm_if_lt (tgt := 13) hG dX8_has_1 rfl (fun c1 => ?_) (fun c1 => ?_)
  · refine pm_iconst (v := 0) hG dX8_has_13 (by decide) ?_
    exact pm_zret hG hF dX8_has_14 rfl (by rfl) (by decide) (by decide) ⟨_, rfl, (Or.inl ⟨c1, rfl, rfl, rfl⟩)⟩
  · refine pm_iloadn hG dX8_has_4 rfl ?_
    refine pm_iconst (v := 4) hG dX8_has_5 (by decide) ?_
    refine pm_icmp_ge (tgt := 13) hG dX8_has_6 rfl (fun c2 => ?_) (fun c2 => ?_)
    · refine pm_iconst (v := 0) hG dX8_has_13 (by decide) ?_
      exact pm_zret hG hF dX8_has_14 rfl (by rfl) (by decide) (by decide) ⟨_, rfl, (Or.inr (Or.inl ⟨c1, c2, rfl, rfl, rfl⟩))⟩
    · refine pm_iconst (v := 1) hG dX8_has_9 (by decide) ?_
      refine pm_goto (tgt := 14) hG dX8_has_10 rfl ?_
      exact pm_zret hG hF dX8_has_14 rfl (by rfl) (by decide) (by decide) ⟨_, rfl, (Or.inr (Or.inr ⟨c1, c2, rfl, rfl, rfl⟩))⟩

set_option maxRecDepth 100000 in
set_option maxHeartbeats 4000000 in
theorem fc_X8_isWidth_32 {B : Nat} {fw : Nat → Int32} {R : List pm_C} {zb : Int32} {d : Nat} (hdd : 1 ≤ d) : pm_met mX8_isWidth d 0 0 B [.ref (B + 48), .int zb] 74 (pm_cat (pm_ofL (l_k_class B fw)) 54 R) (pm_Qi (fun v σ' cnt' => ((zb = 8) ∧ v = 1 ∧ σ' = (pm_cat (pm_ofL (l_k_class B fw)) 54 R) ∧ cnt' = 74) ∨ ((¬ (zb = 8)) ∧ (zb = 16) ∧ v = 1 ∧ σ' = (pm_cat (pm_ofL (l_k_class B fw)) 54 R) ∧ cnt' = 74) ∨ ((¬ (zb = 8)) ∧ (¬ (zb = 16)) ∧ (¬ zb = 32) ∧ v = 0 ∧ σ' = (pm_cat (pm_ofL (l_k_class B fw)) 54 R) ∧ cnt' = 74) ∨ ((¬ (zb = 8)) ∧ (¬ (zb = 16)) ∧ (zb = 32) ∧ v = 1 ∧ σ' = (pm_cat (pm_ofL (l_k_class B fw)) 54 R) ∧ cnt' = 74))) := by
  refine pm_enter 0 (by decide) (Nat.le_of_ble_eq_true rfl) rfl (fun G hG hR hF => ?_)
  refine pm_iloadn hG dX8_isWidth_0 rfl ?_
  refine pm_bipush (v := 8) hG dX8_isWidth_1 (by decide) ?_
  refine pm_icmp_eq (tgt := 18) hG dX8_isWidth_3 rfl (fun c1 => ?_) (fun c1 => ?_)
  · refine pm_iconst (v := 1) hG dX8_isWidth_18 (by decide) ?_
    refine pm_goto (tgt := 23) hG dX8_isWidth_19 rfl ?_
    exact pm_zret hG hF dX8_isWidth_23 rfl (by rfl) (by decide) (by decide) ⟨_, rfl, (Or.inl ⟨c1, rfl, rfl, rfl⟩)⟩
  · refine pm_iloadn hG dX8_isWidth_6 rfl ?_
    refine pm_bipush (v := 16) hG dX8_isWidth_7 (by decide) ?_
    refine pm_icmp_eq (tgt := 18) hG dX8_isWidth_9 rfl (fun c2 => ?_) (fun c2 => ?_)
    · refine pm_iconst (v := 1) hG dX8_isWidth_18 (by decide) ?_
      refine pm_goto (tgt := 23) hG dX8_isWidth_19 rfl ?_
      exact pm_zret hG hF dX8_isWidth_23 rfl (by rfl) (by decide) (by decide) ⟨_, rfl, (Or.inr (Or.inl ⟨c1, c2, rfl, rfl, rfl⟩))⟩
    · refine pm_iloadn hG dX8_isWidth_12 rfl ?_
      refine pm_bipush (v := 32) hG dX8_isWidth_13 (by decide) ?_
      refine pm_icmp_ne (tgt := 22) hG dX8_isWidth_15 rfl (fun c3 => ?_) (fun c3 => ?_)
      · refine pm_iconst (v := 0) hG dX8_isWidth_22 (by decide) ?_
        exact pm_zret hG hF dX8_isWidth_23 rfl (by rfl) (by decide) (by decide) ⟨_, rfl, (Or.inr (Or.inr (Or.inl ⟨c1, c2, c3, rfl, rfl, rfl⟩)))⟩
      · refine pm_iconst (v := 1) hG dX8_isWidth_18 (by decide) ?_
        refine pm_goto (tgt := 23) hG dX8_isWidth_19 rfl ?_
        exact pm_zret hG hF dX8_isWidth_23 rfl (by rfl) (by decide) (by decide) ⟨_, rfl, (Or.inr (Or.inr (Or.inr ⟨c1, c2, c3, rfl, rfl, rfl⟩)))⟩

set_option maxRecDepth 100000 in
set_option maxHeartbeats 4000000 in
theorem fc_X8_bitsOf_34 {B : Nat} {fw : Nat → Int32} {R : List pm_C} {za : Int32} {d : Nat} (hdd : 1 ≤ d) : pm_met mX8_bitsOf d 0 0 B [.ref (B + 48), .int za] 74 (pm_cat (pm_ofL (l_k_class B fw)) 54 R) (pm_Qi (fun v σ' cnt' => ((za < 0) ∧ v = 0 ∧ σ' = (pm_cat (pm_ofL (l_k_class B fw)) 54 R) ∧ cnt' = 74) ∨ ((¬ (za < 0)) ∧ (4 ≤ za) ∧ v = 0 ∧ σ' = (pm_cat (pm_ofL (l_k_class B fw)) 54 R) ∧ cnt' = 74) ∨ ((¬ (za < 0)) ∧ (¬ (4 ≤ za)) ∧ v = 0 ∧ σ' = (pm_cat (pm_ofL (l_k_class B fw)) 54 R) ∧ cnt' = 74))) := by
  refine pm_enter 0 (by decide) (Nat.le_of_ble_eq_true rfl) rfl (fun G hG hR hF => ?_)
  refine pm_iloadn hG dX8_bitsOf_0 rfl ?_
  refine pm_if_lt (tgt := 22) hG dX8_bitsOf_1 rfl (fun c1 => ?_) (fun c1 => ?_)
  · refine pm_iconst (v := 0) hG dX8_bitsOf_22 (by decide) ?_
    exact pm_iret hG hF dX8_bitsOf_23 rfl (by decide) (by decide) ⟨_, rfl, (Or.inl ⟨c1, rfl, rfl, rfl⟩)⟩
  · refine pm_iloadn hG dX8_bitsOf_4 rfl ?_
    refine pm_aloadn hG dX8_bitsOf_5 rfl ?_
    refine pm_getf hG dX8_bitsOf_6 (flX8_9 _ rfl) rfl rfl ?_
    refine pm_alen (v := 4) hG dX8_bitsOf_9 rfl (by decide) ?_
    refine pm_icmp_ge (tgt := 22) hG dX8_bitsOf_10 rfl (fun c2 => ?_) (fun c2 => ?_)
    · refine pm_iconst (v := 0) hG dX8_bitsOf_22 (by decide) ?_
      exact pm_iret hG hF dX8_bitsOf_23 rfl (by decide) (by decide) ⟨_, rfl, (Or.inr (Or.inl ⟨c1, c2, rfl, rfl, rfl⟩))⟩
    · refine pm_aloadn hG dX8_bitsOf_13 rfl ?_
      refine pm_getf hG dX8_bitsOf_14 (flX8_9 _ rfl) rfl rfl ?_
      refine pm_iloadn hG dX8_bitsOf_17 rfl ?_
      refine pm_ialdX (v := 0) hG dX8_bitsOf_18 rfl (vp_in_iff.mpr (by revert c1 c2; simp only [Int32.lt_iff_toInt_lt, Int32.le_iff_toInt_le, ← Int32.toInt_inj, Int32.toInt_zero, Int32.toInt_add, Int32.toInt_mul, Int32.toInt_sub, Int.bmod_def, L_4]; omega)) (by rfl) ?_
      refine pm_goto (tgt := 23) hG dX8_bitsOf_19 rfl ?_
      exact pm_iret hG hF dX8_bitsOf_23 rfl (by decide) (by decide) ⟨_, rfl, (Or.inr (Or.inr ⟨c1, c2, rfl, rfl, rfl⟩))⟩

set_option maxRecDepth 100000 in
set_option maxHeartbeats 4000000 in
theorem fc_X8_isMissing_33 {B : Nat} {fw : Nat → Int32} {R : List pm_C} {za : Int32} {d : Nat} (hdd : 2 ≤ d) : pm_met mX8_isMissing d 0 0 B [.ref (B + 48), .int za] 74 (pm_cat (pm_ofL (l_k_class B fw)) 54 R) (pm_Qi (fun v σ' cnt' => ((za < 0) ∧ v = 1 ∧ σ' = (pm_cat (pm_ofL (l_k_class B fw)) 54 R) ∧ cnt' = 74) ∨ ((¬ (za < 0)) ∧ (4 ≤ za) ∧ v = 1 ∧ σ' = (pm_cat (pm_ofL (l_k_class B fw)) 54 R) ∧ cnt' = 74) ∨ ((¬ (za < 0)) ∧ (¬ (4 ≤ za)) ∧ v = 1 ∧ σ' = (pm_cat (pm_ofL (l_k_class B fw)) 54 R) ∧ cnt' = 74))) := by
  refine pm_enter 0 (by decide) (Nat.le_of_ble_eq_true rfl) rfl (fun G hG hR hF => ?_)
  refine pm_aloadn hG dX8_isMissing_0 rfl ?_
  refine pm_iloadn hG dX8_isMissing_1 rfl ?_
  refine pm_callV (As := [.int za]) (rest := []) hG hR dX8_isMissing_2 (lkX8_27 _ rfl) okV_X8_bitsOf rfl rfl (fc_X8_bitsOf_34 (d := 1) (by decide)) rfl rfl hdd (by decide) (by decide) (by decide) (pm_ki (fun v σ' cnt' hq => ?_))
  rcases hq with ⟨c1, rfl, rfl, rfl⟩ | ⟨c2, c3, rfl, rfl, rfl⟩ | ⟨c4, c5, rfl, rfl, rfl⟩
  · refine pm_if_ne (tgt := 12) hG dX8_isMissing_5 rfl (fun q => absurd q (by decide)) (fun _ => ?_)
    refine pm_iconst (v := 1) hG dX8_isMissing_8 (by decide) ?_
    refine pm_goto (tgt := 13) hG dX8_isMissing_9 rfl ?_
    exact pm_zret hG hF dX8_isMissing_13 rfl (by rfl) (by decide) (by decide) ⟨_, rfl, (Or.inl ⟨c1, rfl, rfl, rfl⟩)⟩
  · refine pm_if_ne (tgt := 12) hG dX8_isMissing_5 rfl (fun q => absurd q (by decide)) (fun _ => ?_)
    refine pm_iconst (v := 1) hG dX8_isMissing_8 (by decide) ?_
    refine pm_goto (tgt := 13) hG dX8_isMissing_9 rfl ?_
    exact pm_zret hG hF dX8_isMissing_13 rfl (by rfl) (by decide) (by decide) ⟨_, rfl, (Or.inr (Or.inl ⟨c2, c3, rfl, rfl, rfl⟩))⟩
  · refine pm_if_ne (tgt := 12) hG dX8_isMissing_5 rfl (fun q => absurd q (by decide)) (fun _ => ?_)
    refine pm_iconst (v := 1) hG dX8_isMissing_8 (by decide) ?_
    refine pm_goto (tgt := 13) hG dX8_isMissing_9 rfl ?_
    exact pm_zret hG hF dX8_isMissing_13 rfl (by rfl) (by decide) (by decide) ⟨_, rfl, (Or.inr (Or.inr ⟨c4, c5, rfl, rfl, rfl⟩))⟩

set_option maxRecDepth 100000 in
set_option maxHeartbeats 8000000 in
theorem oc_rents {B : Nat} {fw : Nat → Int32} {R : List pm_C} {za zb : Int32} {d : Nat} (hdd : 3 ≤ d) : pm_met mX11_rents d 0 0 B [.ref (B + 0), .int za, .int zb] 74 (pm_cat (pm_ofL (l_k_class B fw)) 54 R) (pm_Qi (fun v σ' cnt' => v = v_rents za zb ∧ pm_lies σ' 54 R ∧ cnt' = 74)) := by
  refine pm_enter 1 (by decide) (Nat.le_of_ble_eq_true rfl) rfl (fun G hG hR hF => ?_)
  refine pm_aloadn hG dX11_rents_0 rfl ?_
  refine pm_getf hG dX11_rents_1 (flX11_74 _ rfl) rfl rfl ?_
  refine pm_iloadn hG dX11_rents_4 rfl ?_
  refine pm_callV (As := [.int za]) (rest := []) hG hR dX11_rents_5 (lkX11_251 _ rfl) okV_X8_has rfl rfl (fc_X8_has_31 (d := 2) (by decide)) rfl rfl hdd (by decide) (by decide) (by decide) (pm_ki (fun v σ' cnt' hq => ?_))
  rcases hq with ⟨c1, rfl, rfl, rfl⟩ | ⟨c2, c3, rfl, rfl, rfl⟩ | ⟨c4, c5, rfl, rfl, rfl⟩
  · refine pm_if_eq (tgt := 22) hG dX11_rents_8 rfl (fun _ => ?_) (fun q => absurd q (by decide))
    refine pm_aloadn hG dX11_rents_22 rfl ?_
    refine pm_ldc hG dX11_rents_23 (ctX11_109 _ rfl) ?_
    refine pm_callV (As := [.int (-1000001)]) (rest := []) hG hR dX11_rents_25 (lkX11_97 _ rfl) okV_X11_told rfl rfl (sx_told (d := 2) (by decide) rfl rfl) rfl rfl hdd (by decide) (by decide) (by decide) (pm_ki (fun v σ' cnt' hq => ?_))
    obtain ⟨rfl, ⟨g, rfl⟩, rfl⟩ := hq
    exact pm_iret hG hF dX11_rents_28 rfl (by decide) (by decide) ⟨_, rfl, (by clear hF hR hG; first | rfl | (unfold v_rents; (repeat' split) <;> first | rfl | (exfalso; simp only [Int32.lt_iff_toInt_lt, Int32.le_iff_toInt_le, ← Int32.toInt_inj, Int32.toInt_zero, L_16, L_3, L_32, L_8, L_m1000001, L_m1000002] at *; omega) | (apply Int32.toInt_inj.mp; simp only [Int32.lt_iff_toInt_lt, Int32.le_iff_toInt_le, ← Int32.toInt_inj, Int32.toInt_zero, L_16, L_3, L_32, L_8, L_m1000001, L_m1000002] at *; omega))), (by repeat (first | exact pm_lies_cat | refine pm_lies.up0 (by decide) ?_)), rfl⟩
  · refine pm_if_eq (tgt := 22) hG dX11_rents_8 rfl (fun _ => ?_) (fun q => absurd q (by decide))
    refine pm_aloadn hG dX11_rents_22 rfl ?_
    refine pm_ldc hG dX11_rents_23 (ctX11_109 _ rfl) ?_
    refine pm_callV (As := [.int (-1000001)]) (rest := []) hG hR dX11_rents_25 (lkX11_97 _ rfl) okV_X11_told rfl rfl (sx_told (d := 2) (by decide) rfl rfl) rfl rfl hdd (by decide) (by decide) (by decide) (pm_ki (fun v σ' cnt' hq => ?_))
    obtain ⟨rfl, ⟨g, rfl⟩, rfl⟩ := hq
    exact pm_iret hG hF dX11_rents_28 rfl (by decide) (by decide) ⟨_, rfl, (by clear hF hR hG; first | rfl | (unfold v_rents; (repeat' split) <;> first | rfl | (exfalso; simp only [Int32.lt_iff_toInt_lt, Int32.le_iff_toInt_le, ← Int32.toInt_inj, Int32.toInt_zero, L_16, L_3, L_32, L_4, L_8, L_m1000001, L_m1000002] at *; omega) | (apply Int32.toInt_inj.mp; simp only [Int32.lt_iff_toInt_lt, Int32.le_iff_toInt_le, ← Int32.toInt_inj, Int32.toInt_zero, L_16, L_3, L_32, L_4, L_8, L_m1000001, L_m1000002] at *; omega))), (by repeat (first | exact pm_lies_cat | refine pm_lies.up0 (by decide) ?_)), rfl⟩
  · refine pm_if_eq (tgt := 22) hG dX11_rents_8 rfl (fun q => absurd q (by decide)) (fun _ => ?_)
    refine pm_aloadn hG dX11_rents_11 rfl ?_
    refine pm_getf hG dX11_rents_12 (flX11_74 _ rfl) rfl rfl ?_
    refine pm_iloadn hG dX11_rents_15 rfl ?_
    refine pm_callV (As := [.int zb]) (rest := []) hG hR dX11_rents_16 (lkX11_252 _ rfl) okV_X8_isWidth rfl rfl (fc_X8_isWidth_32 (d := 2) (by decide)) rfl rfl hdd (by decide) (by decide) (by decide) (pm_ki (fun v σ' cnt' hq => ?_))
    rcases hq with ⟨c6, rfl, rfl, rfl⟩ | ⟨c7, c8, rfl, rfl, rfl⟩ | ⟨c9, c10, c11, rfl, rfl, rfl⟩ | ⟨c12, c13, c14, rfl, rfl, rfl⟩
    · refine pm_if_ne (tgt := 29) hG dX11_rents_19 rfl (fun _ => ?_) (fun q => absurd q (by decide))
      refine pm_aloadn hG dX11_rents_29 rfl ?_
      refine pm_getf hG dX11_rents_30 (flX11_74 _ rfl) rfl rfl ?_
      refine pm_iloadn hG dX11_rents_33 rfl ?_
      refine pm_callV (As := [.int za]) (rest := []) hG hR dX11_rents_34 (lkX11_255 _ rfl) okV_X8_isMissing rfl rfl (fc_X8_isMissing_33 (d := 2) (by decide)) rfl rfl hdd (by decide) (by decide) (by decide) (pm_ki (fun v σ' cnt' hq => ?_))
      rcases hq with ⟨c15, rfl, rfl, rfl⟩ | ⟨c16, c17, rfl, rfl, rfl⟩ | ⟨c18, c19, rfl, rfl, rfl⟩
      · refine pm_if_eq (tgt := 47) hG dX11_rents_37 rfl (fun q => absurd q (by decide)) (fun _ => ?_)
        refine pm_aloadn hG dX11_rents_40 rfl ?_
        refine pm_ldc hG dX11_rents_41 (ctX11_223 _ rfl) ?_
        refine pm_callV (As := [.int (-1000002)]) (rest := []) hG hR dX11_rents_43 (lkX11_97 _ rfl) okV_X11_told rfl rfl (sx_told (d := 2) (by decide) rfl rfl) rfl rfl hdd (by decide) (by decide) (by decide) (pm_ki (fun v σ' cnt' hq => ?_))
        obtain ⟨rfl, ⟨g, rfl⟩, rfl⟩ := hq
        exact pm_iret hG hF dX11_rents_46 rfl (by decide) (by decide) ⟨_, rfl, (by clear hF hR hG; first | rfl | (unfold v_rents; (repeat' split) <;> first | rfl | (exfalso; simp only [Int32.lt_iff_toInt_lt, Int32.le_iff_toInt_le, ← Int32.toInt_inj, Int32.toInt_zero, L_16, L_3, L_32, L_4, L_8, L_m1000001, L_m1000002] at *; omega) | (apply Int32.toInt_inj.mp; simp only [Int32.lt_iff_toInt_lt, Int32.le_iff_toInt_le, ← Int32.toInt_inj, Int32.toInt_zero, L_16, L_3, L_32, L_4, L_8, L_m1000001, L_m1000002] at *; omega))), (by repeat (first | exact pm_lies_cat | refine pm_lies.up0 (by decide) ?_)), rfl⟩
      · refine pm_if_eq (tgt := 47) hG dX11_rents_37 rfl (fun q => absurd q (by decide)) (fun _ => ?_)
        refine pm_aloadn hG dX11_rents_40 rfl ?_
        refine pm_ldc hG dX11_rents_41 (ctX11_223 _ rfl) ?_
        refine pm_callV (As := [.int (-1000002)]) (rest := []) hG hR dX11_rents_43 (lkX11_97 _ rfl) okV_X11_told rfl rfl (sx_told (d := 2) (by decide) rfl rfl) rfl rfl hdd (by decide) (by decide) (by decide) (pm_ki (fun v σ' cnt' hq => ?_))
        obtain ⟨rfl, ⟨g, rfl⟩, rfl⟩ := hq
        exact pm_iret hG hF dX11_rents_46 rfl (by decide) (by decide) ⟨_, rfl, (by clear hF hR hG; first | rfl | (unfold v_rents; (repeat' split) <;> first | rfl | (exfalso; simp only [Int32.lt_iff_toInt_lt, Int32.le_iff_toInt_le, ← Int32.toInt_inj, Int32.toInt_zero, L_16, L_3, L_32, L_4, L_8, L_m1000001, L_m1000002] at *; omega) | (apply Int32.toInt_inj.mp; simp only [Int32.lt_iff_toInt_lt, Int32.le_iff_toInt_le, ← Int32.toInt_inj, Int32.toInt_zero, L_16, L_3, L_32, L_4, L_8, L_m1000001, L_m1000002] at *; omega))), (by repeat (first | exact pm_lies_cat | refine pm_lies.up0 (by decide) ?_)), rfl⟩
      · refine pm_if_eq (tgt := 47) hG dX11_rents_37 rfl (fun q => absurd q (by decide)) (fun _ => ?_)
        refine pm_aloadn hG dX11_rents_40 rfl ?_
        refine pm_ldc hG dX11_rents_41 (ctX11_223 _ rfl) ?_
        refine pm_callV (As := [.int (-1000002)]) (rest := []) hG hR dX11_rents_43 (lkX11_97 _ rfl) okV_X11_told rfl rfl (sx_told (d := 2) (by decide) rfl rfl) rfl rfl hdd (by decide) (by decide) (by decide) (pm_ki (fun v σ' cnt' hq => ?_))
        obtain ⟨rfl, ⟨g, rfl⟩, rfl⟩ := hq
        exact pm_iret hG hF dX11_rents_46 rfl (by decide) (by decide) ⟨_, rfl, (by clear hF hR hG; first | rfl | (unfold v_rents; (repeat' split) <;> first | rfl | (exfalso; simp only [Int32.lt_iff_toInt_lt, Int32.le_iff_toInt_le, ← Int32.toInt_inj, Int32.toInt_zero, L_16, L_3, L_32, L_4, L_8, L_m1000001, L_m1000002] at *; omega) | (apply Int32.toInt_inj.mp; simp only [Int32.lt_iff_toInt_lt, Int32.le_iff_toInt_le, ← Int32.toInt_inj, Int32.toInt_zero, L_16, L_3, L_32, L_4, L_8, L_m1000001, L_m1000002] at *; omega))), (by repeat (first | exact pm_lies_cat | refine pm_lies.up0 (by decide) ?_)), rfl⟩
    · refine pm_if_ne (tgt := 29) hG dX11_rents_19 rfl (fun _ => ?_) (fun q => absurd q (by decide))
      refine pm_aloadn hG dX11_rents_29 rfl ?_
      refine pm_getf hG dX11_rents_30 (flX11_74 _ rfl) rfl rfl ?_
      refine pm_iloadn hG dX11_rents_33 rfl ?_
      refine pm_callV (As := [.int za]) (rest := []) hG hR dX11_rents_34 (lkX11_255 _ rfl) okV_X8_isMissing rfl rfl (fc_X8_isMissing_33 (d := 2) (by decide)) rfl rfl hdd (by decide) (by decide) (by decide) (pm_ki (fun v σ' cnt' hq => ?_))
      rcases hq with ⟨c20, rfl, rfl, rfl⟩ | ⟨c21, c22, rfl, rfl, rfl⟩ | ⟨c23, c24, rfl, rfl, rfl⟩
      · refine pm_if_eq (tgt := 47) hG dX11_rents_37 rfl (fun q => absurd q (by decide)) (fun _ => ?_)
        refine pm_aloadn hG dX11_rents_40 rfl ?_
        refine pm_ldc hG dX11_rents_41 (ctX11_223 _ rfl) ?_
        refine pm_callV (As := [.int (-1000002)]) (rest := []) hG hR dX11_rents_43 (lkX11_97 _ rfl) okV_X11_told rfl rfl (sx_told (d := 2) (by decide) rfl rfl) rfl rfl hdd (by decide) (by decide) (by decide) (pm_ki (fun v σ' cnt' hq => ?_))
        obtain ⟨rfl, ⟨g, rfl⟩, rfl⟩ := hq
        exact pm_iret hG hF dX11_rents_46 rfl (by decide) (by decide) ⟨_, rfl, (by clear hF hR hG; first | rfl | (unfold v_rents; (repeat' split) <;> first | rfl | (exfalso; simp only [Int32.lt_iff_toInt_lt, Int32.le_iff_toInt_le, ← Int32.toInt_inj, Int32.toInt_zero, L_16, L_3, L_32, L_4, L_8, L_m1000001, L_m1000002] at *; omega) | (apply Int32.toInt_inj.mp; simp only [Int32.lt_iff_toInt_lt, Int32.le_iff_toInt_le, ← Int32.toInt_inj, Int32.toInt_zero, L_16, L_3, L_32, L_4, L_8, L_m1000001, L_m1000002] at *; omega))), (by repeat (first | exact pm_lies_cat | refine pm_lies.up0 (by decide) ?_)), rfl⟩
      · refine pm_if_eq (tgt := 47) hG dX11_rents_37 rfl (fun q => absurd q (by decide)) (fun _ => ?_)
        refine pm_aloadn hG dX11_rents_40 rfl ?_
        refine pm_ldc hG dX11_rents_41 (ctX11_223 _ rfl) ?_
        refine pm_callV (As := [.int (-1000002)]) (rest := []) hG hR dX11_rents_43 (lkX11_97 _ rfl) okV_X11_told rfl rfl (sx_told (d := 2) (by decide) rfl rfl) rfl rfl hdd (by decide) (by decide) (by decide) (pm_ki (fun v σ' cnt' hq => ?_))
        obtain ⟨rfl, ⟨g, rfl⟩, rfl⟩ := hq
        exact pm_iret hG hF dX11_rents_46 rfl (by decide) (by decide) ⟨_, rfl, (by clear hF hR hG; first | rfl | (unfold v_rents; (repeat' split) <;> first | rfl | (exfalso; simp only [Int32.lt_iff_toInt_lt, Int32.le_iff_toInt_le, ← Int32.toInt_inj, Int32.toInt_zero, L_16, L_3, L_32, L_4, L_8, L_m1000001, L_m1000002] at *; omega) | (apply Int32.toInt_inj.mp; simp only [Int32.lt_iff_toInt_lt, Int32.le_iff_toInt_le, ← Int32.toInt_inj, Int32.toInt_zero, L_16, L_3, L_32, L_4, L_8, L_m1000001, L_m1000002] at *; omega))), (by repeat (first | exact pm_lies_cat | refine pm_lies.up0 (by decide) ?_)), rfl⟩
      · refine pm_if_eq (tgt := 47) hG dX11_rents_37 rfl (fun q => absurd q (by decide)) (fun _ => ?_)
        refine pm_aloadn hG dX11_rents_40 rfl ?_
        refine pm_ldc hG dX11_rents_41 (ctX11_223 _ rfl) ?_
        refine pm_callV (As := [.int (-1000002)]) (rest := []) hG hR dX11_rents_43 (lkX11_97 _ rfl) okV_X11_told rfl rfl (sx_told (d := 2) (by decide) rfl rfl) rfl rfl hdd (by decide) (by decide) (by decide) (pm_ki (fun v σ' cnt' hq => ?_))
        obtain ⟨rfl, ⟨g, rfl⟩, rfl⟩ := hq
        exact pm_iret hG hF dX11_rents_46 rfl (by decide) (by decide) ⟨_, rfl, (by clear hF hR hG; first | rfl | (unfold v_rents; (repeat' split) <;> first | rfl | (exfalso; simp only [Int32.lt_iff_toInt_lt, Int32.le_iff_toInt_le, ← Int32.toInt_inj, Int32.toInt_zero, L_16, L_3, L_32, L_4, L_8, L_m1000001, L_m1000002] at *; omega) | (apply Int32.toInt_inj.mp; simp only [Int32.lt_iff_toInt_lt, Int32.le_iff_toInt_le, ← Int32.toInt_inj, Int32.toInt_zero, L_16, L_3, L_32, L_4, L_8, L_m1000001, L_m1000002] at *; omega))), (by repeat (first | exact pm_lies_cat | refine pm_lies.up0 (by decide) ?_)), rfl⟩
    · refine pm_if_ne (tgt := 29) hG dX11_rents_19 rfl (fun q => absurd q (by decide)) (fun _ => ?_)
      refine pm_aloadn hG dX11_rents_22 rfl ?_
      refine pm_ldc hG dX11_rents_23 (ctX11_109 _ rfl) ?_
      refine pm_callV (As := [.int (-1000001)]) (rest := []) hG hR dX11_rents_25 (lkX11_97 _ rfl) okV_X11_told rfl rfl (sx_told (d := 2) (by decide) rfl rfl) rfl rfl hdd (by decide) (by decide) (by decide) (pm_ki (fun v σ' cnt' hq => ?_))
      obtain ⟨rfl, ⟨g, rfl⟩, rfl⟩ := hq
      exact pm_iret hG hF dX11_rents_28 rfl (by decide) (by decide) ⟨_, rfl, (by clear hF hR hG; first | rfl | (unfold v_rents; (repeat' split) <;> first | rfl | (exfalso; simp only [Int32.lt_iff_toInt_lt, Int32.le_iff_toInt_le, ← Int32.toInt_inj, Int32.toInt_zero, L_16, L_3, L_32, L_4, L_8, L_m1000001, L_m1000002] at *; omega) | (apply Int32.toInt_inj.mp; simp only [Int32.lt_iff_toInt_lt, Int32.le_iff_toInt_le, ← Int32.toInt_inj, Int32.toInt_zero, L_16, L_3, L_32, L_4, L_8, L_m1000001, L_m1000002] at *; omega))), (by repeat (first | exact pm_lies_cat | refine pm_lies.up0 (by decide) ?_)), rfl⟩
    · refine pm_if_ne (tgt := 29) hG dX11_rents_19 rfl (fun _ => ?_) (fun q => absurd q (by decide))
      refine pm_aloadn hG dX11_rents_29 rfl ?_
      refine pm_getf hG dX11_rents_30 (flX11_74 _ rfl) rfl rfl ?_
      refine pm_iloadn hG dX11_rents_33 rfl ?_
      refine pm_callV (As := [.int za]) (rest := []) hG hR dX11_rents_34 (lkX11_255 _ rfl) okV_X8_isMissing rfl rfl (fc_X8_isMissing_33 (d := 2) (by decide)) rfl rfl hdd (by decide) (by decide) (by decide) (pm_ki (fun v σ' cnt' hq => ?_))
      rcases hq with ⟨c25, rfl, rfl, rfl⟩ | ⟨c26, c27, rfl, rfl, rfl⟩ | ⟨c28, c29, rfl, rfl, rfl⟩
      · refine pm_if_eq (tgt := 47) hG dX11_rents_37 rfl (fun q => absurd q (by decide)) (fun _ => ?_)
        refine pm_aloadn hG dX11_rents_40 rfl ?_
        refine pm_ldc hG dX11_rents_41 (ctX11_223 _ rfl) ?_
        refine pm_callV (As := [.int (-1000002)]) (rest := []) hG hR dX11_rents_43 (lkX11_97 _ rfl) okV_X11_told rfl rfl (sx_told (d := 2) (by decide) rfl rfl) rfl rfl hdd (by decide) (by decide) (by decide) (pm_ki (fun v σ' cnt' hq => ?_))
        obtain ⟨rfl, ⟨g, rfl⟩, rfl⟩ := hq
        exact pm_iret hG hF dX11_rents_46 rfl (by decide) (by decide) ⟨_, rfl, (by clear hF hR hG; first | rfl | (unfold v_rents; (repeat' split) <;> first | rfl | (exfalso; simp only [Int32.lt_iff_toInt_lt, Int32.le_iff_toInt_le, ← Int32.toInt_inj, Int32.toInt_zero, L_16, L_3, L_32, L_4, L_8, L_m1000001, L_m1000002] at *; omega) | (apply Int32.toInt_inj.mp; simp only [Int32.lt_iff_toInt_lt, Int32.le_iff_toInt_le, ← Int32.toInt_inj, Int32.toInt_zero, L_16, L_3, L_32, L_4, L_8, L_m1000001, L_m1000002] at *; omega))), (by repeat (first | exact pm_lies_cat | refine pm_lies.up0 (by decide) ?_)), rfl⟩
      · refine pm_if_eq (tgt := 47) hG dX11_rents_37 rfl (fun q => absurd q (by decide)) (fun _ => ?_)
        refine pm_aloadn hG dX11_rents_40 rfl ?_
        refine pm_ldc hG dX11_rents_41 (ctX11_223 _ rfl) ?_
        refine pm_callV (As := [.int (-1000002)]) (rest := []) hG hR dX11_rents_43 (lkX11_97 _ rfl) okV_X11_told rfl rfl (sx_told (d := 2) (by decide) rfl rfl) rfl rfl hdd (by decide) (by decide) (by decide) (pm_ki (fun v σ' cnt' hq => ?_))
        obtain ⟨rfl, ⟨g, rfl⟩, rfl⟩ := hq
        exact pm_iret hG hF dX11_rents_46 rfl (by decide) (by decide) ⟨_, rfl, (by clear hF hR hG; first | rfl | (unfold v_rents; (repeat' split) <;> first | rfl | (exfalso; simp only [Int32.lt_iff_toInt_lt, Int32.le_iff_toInt_le, ← Int32.toInt_inj, Int32.toInt_zero, L_16, L_3, L_32, L_4, L_8, L_m1000001, L_m1000002] at *; omega) | (apply Int32.toInt_inj.mp; simp only [Int32.lt_iff_toInt_lt, Int32.le_iff_toInt_le, ← Int32.toInt_inj, Int32.toInt_zero, L_16, L_3, L_32, L_4, L_8, L_m1000001, L_m1000002] at *; omega))), (by repeat (first | exact pm_lies_cat | refine pm_lies.up0 (by decide) ?_)), rfl⟩
      · refine pm_if_eq (tgt := 47) hG dX11_rents_37 rfl (fun q => absurd q (by decide)) (fun _ => ?_)
        refine pm_aloadn hG dX11_rents_40 rfl ?_
        refine pm_ldc hG dX11_rents_41 (ctX11_223 _ rfl) ?_
        refine pm_callV (As := [.int (-1000002)]) (rest := []) hG hR dX11_rents_43 (lkX11_97 _ rfl) okV_X11_told rfl rfl (sx_told (d := 2) (by decide) rfl rfl) rfl rfl hdd (by decide) (by decide) (by decide) (pm_ki (fun v σ' cnt' hq => ?_))
        obtain ⟨rfl, ⟨g, rfl⟩, rfl⟩ := hq
        exact pm_iret hG hF dX11_rents_46 rfl (by decide) (by decide) ⟨_, rfl, (by clear hF hR hG; first | rfl | (unfold v_rents; (repeat' split) <;> first | rfl | (exfalso; simp only [Int32.lt_iff_toInt_lt, Int32.le_iff_toInt_le, ← Int32.toInt_inj, Int32.toInt_zero, L_16, L_3, L_32, L_4, L_8, L_m1000001, L_m1000002] at *; omega) | (apply Int32.toInt_inj.mp; simp only [Int32.lt_iff_toInt_lt, Int32.le_iff_toInt_le, ← Int32.toInt_inj, Int32.toInt_zero, L_16, L_3, L_32, L_4, L_8, L_m1000001, L_m1000002] at *; omega))), (by repeat (first | exact pm_lies_cat | refine pm_lies.up0 (by decide) ?_)), rfl⟩

set_option maxRecDepth 100000 in
set_option maxHeartbeats 4000000 in
theorem fc_X9_clear_36 {B : Nat} {fw : Nat → Int32} {R : List pm_C} {d : Nat} (hdd : 1 ≤ d) : pm_met mX9_clear d 0 0 B [.ref (B + 34)] 74 (pm_up (pm_up (pm_cat (pm_ofL (l_k_class B fw)) 54 R) 31 (.inr (0, [.ref (B + 1), .ref (B + 26), .ref (B + 18), .ref (B + 32), .ref (B + 34), .int 0, .int 0, .int 0, .int 0]))) 31 (.inr (0, [.ref (B + 1), .ref (B + 26), .ref (B + 18), .ref (B + 32), .ref (B + 34), .int 0, .int 0, .int 0, .int 0]))) (pm_Qv (fun σ' cnt' => σ' = (pm_up (pm_up (pm_up (pm_cat (pm_ofL (l_k_class B fw)) 54 R) 31 (.inr (0, [.ref (B + 1), .ref (B + 26), .ref (B + 18), .ref (B + 32), .ref (B + 34), .int 0, .int 0, .int 0, .int 0]))) 31 (.inr (0, [.ref (B + 1), .ref (B + 26), .ref (B + 18), .ref (B + 32), .ref (B + 34), .int 0, .int 0, .int 0, .int 0]))) 34 (.inr (9, [.int 9, .int 1, .ref (B + 35), .int 0]))) ∧ cnt' = 74)) := by
  refine pm_enter 0 (by decide) (Nat.le_of_ble_eq_true rfl) rfl (fun G hG hR hF => ?_)
  refine pm_aloadn hG dX9_clear_0 rfl ?_
  refine pm_iconst (v := 0) hG dX9_clear_1 (by decide) ?_
  refine pm_putf hG dX9_clear_2 (fwX9_29 _ rfl) rfl rfl rfl ?_
  exact pm_vret hG hF dX9_clear_5 rfl (by decide) (by decide) ⟨rfl, ⟨rfl, rfl⟩⟩

set_option maxRecDepth 100000 in
set_option maxHeartbeats 4000000 in
theorem fc_X0_ruleInForce_37 {B : Nat} {fw : Nat → Int32} {R : List pm_C} {d : Nat} (hdd : 2 ≤ d) : pm_met mX0_ruleInForce d 0 0 B [.ref (B + 31)] 74 (pm_up (pm_up (pm_up (pm_cat (pm_ofL (l_k_class B fw)) 54 R) 31 (.inr (0, [.ref (B + 1), .ref (B + 26), .ref (B + 18), .ref (B + 32), .ref (B + 34), .int 0, .int 0, .int 0, .int 0]))) 31 (.inr (0, [.ref (B + 1), .ref (B + 26), .ref (B + 18), .ref (B + 32), .ref (B + 34), .int 0, .int 0, .int 0, .int 0]))) 34 (.inr (9, [.int 9, .int 1, .ref (B + 35), .int 0]))) (pm_Qi (fun v σ' cnt' => v = (-1) ∧ σ' = (pm_up (pm_up (pm_up (pm_cat (pm_ofL (l_k_class B fw)) 54 R) 31 (.inr (0, [.ref (B + 1), .ref (B + 26), .ref (B + 18), .ref (B + 32), .ref (B + 34), .int 0, .int 0, .int 0, .int 0]))) 31 (.inr (0, [.ref (B + 1), .ref (B + 26), .ref (B + 18), .ref (B + 32), .ref (B + 34), .int 0, .int 0, .int 0, .int 0]))) 34 (.inr (9, [.int 9, .int 1, .ref (B + 35), .int 0]))) ∧ cnt' = 74)) := by
  refine pm_enter 2 (by decide) (Nat.le_of_ble_eq_true rfl) rfl (fun G hG hR hF => ?_)
  refine pm_aloadn hG dX0_ruleInForce_0 rfl ?_
  refine pm_getf hG dX0_ruleInForce_1 (flX0_9 _ rfl) rfl rfl ?_
  refine pm_getf hG dX0_ruleInForce_4 (flX0_63 _ rfl) rfl rfl ?_
  refine pm_callV (As := []) (rest := []) hG hR dX0_ruleInForce_7 (lkX0_47 _ rfl) okV_X9_used rfl rfl (tb_used (d := 1) rfl) rfl rfl hdd (by decide) (by decide) (by decide) (pm_ki (fun v σ' cnt' hq => ?_))
  obtain ⟨rfl, rfl, rfl⟩ := hq
  refine pm_istoreXn (loc' := [some (.ref (B + 31)), some (.int 0), none]) hG dX0_ruleInForce_10 (by decide) (pm_c1b rfl) rfl ?_
  refine pm_iconst (v := 0) hG dX0_ruleInForce_11 (by decide) ?_
  refine pm_istoreXn (loc' := [some (.ref (B + 31)), some (.int 0), some (.int 0)]) hG dX0_ruleInForce_12 (by decide) (pm_c1b rfl) rfl ?_
  refine pm_iloadn hG dX0_ruleInForce_13 rfl ?_
  refine pm_iloadn hG dX0_ruleInForce_14 rfl ?_
  refine pm_icmp_ge (tgt := 64) hG dX0_ruleInForce_15 rfl (fun _ => ?_) (fun q => absurd q (by decide))
  refine pm_iconst (v := (-1)) hG dX0_ruleInForce_64 (by decide) ?_
  exact pm_iret hG hF dX0_ruleInForce_65 rfl (by decide) (by decide) ⟨_, rfl, ⟨rfl, rfl, rfl⟩⟩

set_option maxRecDepth 100000 in
set_option maxHeartbeats 4000000 in
theorem fc_X0_weigh_35 {B : Nat} {fw : Nat → Int32} {R : List pm_C} {za : Int32} {d : Nat} (hdd : 3 ≤ d) : pm_met mX0_weigh d 0 0 B [.ref (B + 31), .int za] 74 (pm_cat (pm_ofL (l_k_class B fw)) 54 R) (pm_Qv (fun σ' cnt' => σ' = (pm_up (pm_up (pm_up (pm_cat (pm_ofL (l_k_class B fw)) 54 R) 31 (.inr (0, [.ref (B + 1), .ref (B + 26), .ref (B + 18), .ref (B + 32), .ref (B + 34), .int 0, .int 0, .int 0, .int 0]))) 31 (.inr (0, [.ref (B + 1), .ref (B + 26), .ref (B + 18), .ref (B + 32), .ref (B + 34), .int 0, .int 0, .int 0, .int 0]))) 34 (.inr (9, [.int 9, .int 1, .ref (B + 35), .int 0]))) ∧ cnt' = 74)) := by
  refine pm_enter 3 (by decide) (Nat.le_of_ble_eq_true rfl) rfl (fun G hG hR hF => ?_)
  refine pm_aloadn hG dX0_weigh_0 rfl ?_
  refine pm_iconst (v := 0) hG dX0_weigh_1 (by decide) ?_
  refine pm_putf hG dX0_weigh_2 (fwX0_69 _ rfl) rfl rfl rfl ?_
  refine pm_aloadn hG dX0_weigh_5 rfl ?_
  refine pm_iconst (v := 0) hG dX0_weigh_6 (by decide) ?_
  refine pm_putf hG dX0_weigh_7 (fwX0_72 _ rfl) rfl rfl rfl ?_
  refine pm_aloadn hG dX0_weigh_10 rfl ?_
  refine pm_getf hG dX0_weigh_11 (flX0_36 _ rfl) rfl rfl ?_
  refine pm_callV (As := []) (rest := []) hG hR dX0_weigh_14 (lkX0_75 _ rfl) okV_X9_clear rfl rfl (fc_X9_clear_36 (d := 2) (by decide)) rfl rfl hdd (by decide) (by decide) (by decide) (pm_kv (fun σ' cnt' hq => ?_))
  obtain ⟨rfl, rfl⟩ := hq
  refine pm_aloadn hG dX0_weigh_17 rfl ?_
  refine pm_callV (As := []) (rest := []) hG hR dX0_weigh_18 (lkX0_78 _ rfl) okV_X0_ruleInForce rfl rfl (fc_X0_ruleInForce_37 (d := 2) (by decide)) rfl rfl hdd (by decide) (by decide) (by decide) (pm_ki (fun v σ' cnt' hq => ?_))
  obtain ⟨rfl, rfl, rfl⟩ := hq
  refine pm_istoreXn (loc' := [some (.ref (B + 31)), some (.int za), some (.int (-1)), none, none]) hG dX0_weigh_21 (by decide) (pm_c1b rfl) rfl ?_
  refine pm_aloadn hG dX0_weigh_22 rfl ?_
  refine pm_getf hG dX0_weigh_23 (flX0_9 _ rfl) rfl rfl ?_
  refine pm_getf hG dX0_weigh_26 (flX0_63 _ rfl) rfl rfl ?_
  refine pm_callV (As := []) (rest := []) hG hR dX0_weigh_29 (lkX0_47 _ rfl) okV_X9_used rfl rfl (tb_used (d := 2) rfl) rfl rfl hdd (by decide) (by decide) (by decide) (pm_ki (fun v σ' cnt' hq => ?_))
  obtain ⟨rfl, rfl, rfl⟩ := hq
  refine pm_istoreXn (loc' := [some (.ref (B + 31)), some (.int za), some (.int (-1)), some (.int 0), none]) hG dX0_weigh_32 (by decide) (pm_c1b rfl) rfl ?_
  refine pm_iconst (v := 0) hG dX0_weigh_33 (by decide) ?_
  refine pm_istoreXi (loc' := [some (.ref (B + 31)), some (.int za), some (.int (-1)), some (.int 0), some (.int 0)]) hG dX0_weigh_34 (by decide) (pm_c1b rfl) rfl ?_
  refine pm_iloadi hG dX0_weigh_36 rfl ?_
  refine pm_iloadn hG dX0_weigh_38 rfl ?_
  refine pm_icmp_ge (tgt := 79) hG dX0_weigh_39 rfl (fun _ => ?_) (fun q => absurd q (by decide))
  exact pm_vret hG hF dX0_weigh_79 rfl (by decide) (by decide) ⟨rfl, ⟨rfl, rfl⟩⟩

set_option maxRecDepth 100000 in
set_option maxHeartbeats 4000000 in
theorem fc_X0_isCarriedWith_38 {B : Nat} {fw : Nat → Int32} {R : List pm_C} {d : Nat} (hdd : 1 ≤ d) : pm_met mX0_isCarriedWith d 0 0 B [.ref (B + 31), .int 0] 74 (pm_up (pm_up (pm_up (pm_cat (pm_ofL (l_k_class B fw)) 54 R) 31 (.inr (0, [.ref (B + 1), .ref (B + 26), .ref (B + 18), .ref (B + 32), .ref (B + 34), .int 0, .int 0, .int 0, .int 0]))) 31 (.inr (0, [.ref (B + 1), .ref (B + 26), .ref (B + 18), .ref (B + 32), .ref (B + 34), .int 0, .int 0, .int 0, .int 0]))) 34 (.inr (9, [.int 9, .int 1, .ref (B + 35), .int 0]))) (pm_Qi (fun v σ' cnt' => v = 0 ∧ σ' = (pm_up (pm_up (pm_up (pm_cat (pm_ofL (l_k_class B fw)) 54 R) 31 (.inr (0, [.ref (B + 1), .ref (B + 26), .ref (B + 18), .ref (B + 32), .ref (B + 34), .int 0, .int 0, .int 0, .int 0]))) 31 (.inr (0, [.ref (B + 1), .ref (B + 26), .ref (B + 18), .ref (B + 32), .ref (B + 34), .int 0, .int 0, .int 0, .int 0]))) 34 (.inr (9, [.int 9, .int 1, .ref (B + 35), .int 0]))) ∧ cnt' = 74)) := by
  refine pm_enter 0 (by decide) (Nat.le_of_ble_eq_true rfl) rfl (fun G hG hR hF => ?_)
  refine pm_iconst (v := 2) hG dX0_isCarriedWith_0 (by decide) ?_
  refine pm_aloadn hG dX0_isCarriedWith_1 rfl ?_
  refine pm_getf hG dX0_isCarriedWith_2 (flX0_69 _ rfl) rfl rfl ?_
  refine pm_iloadn hG dX0_isCarriedWith_5 rfl ?_
  refine pm_iadd hG dX0_isCarriedWith_6 ?_
  refine pm_top (v := 0) (by decide) ?_
  refine pm_imul hG dX0_isCarriedWith_7 ?_
  refine pm_top (v := 0) (by decide) ?_
  refine pm_aloadn hG dX0_isCarriedWith_8 rfl ?_
  refine pm_getf hG dX0_isCarriedWith_9 (flX0_72 _ rfl) rfl rfl ?_
  refine pm_icmp_le (tgt := 19) hG dX0_isCarriedWith_12 rfl (fun _ => ?_) (fun q => absurd q (by decide))
  refine pm_iconst (v := 0) hG dX0_isCarriedWith_19 (by decide) ?_
  exact pm_zret hG hF dX0_isCarriedWith_20 rfl (by rfl) (by decide) (by decide) ⟨_, rfl, ⟨rfl, rfl, rfl⟩⟩

set_option maxRecDepth 100000 in
set_option maxHeartbeats 4000000 in
theorem fc_X0_firstBroken_39 {B : Nat} {fw : Nat → Int32} {R : List pm_C} {za : Int32} {d : Nat} (hdd : 2 ≤ d) : pm_met mX0_firstBroken d 0 0 B [.ref (B + 31), .int za] 74 (pm_cat (pm_ofL (l_k_class B fw)) 54 R) (pm_Qi (fun v σ' cnt' => v = (-1) ∧ σ' = (pm_cat (pm_ofL (l_k_class B fw)) 54 R) ∧ cnt' = 74)) := by
  refine pm_enter 2 (by decide) (Nat.le_of_ble_eq_true rfl) rfl (fun G hG hR hF => ?_)
  refine pm_aloadn hG dX0_firstBroken_0 rfl ?_
  refine pm_getf hG dX0_firstBroken_1 (flX0_25 _ rfl) rfl rfl ?_
  refine pm_callV (As := []) (rest := []) hG hR dX0_firstBroken_4 (lkX0_47 _ rfl) okV_X9_used rfl rfl (tb_used (d := 1) rfl) rfl rfl hdd (by decide) (by decide) (by decide) (pm_ki (fun v σ' cnt' hq => ?_))
  obtain ⟨rfl, rfl, rfl⟩ := hq
  refine pm_istoreXn (loc' := [some (.ref (B + 31)), some (.int za), some (.int 0), none]) hG dX0_firstBroken_7 (by decide) (pm_c1b rfl) rfl ?_
  refine pm_iconst (v := 0) hG dX0_firstBroken_8 (by decide) ?_
  refine pm_istoreXn (loc' := [some (.ref (B + 31)), some (.int za), some (.int 0), some (.int 0)]) hG dX0_firstBroken_9 (by decide) (pm_c1b rfl) rfl ?_
  refine pm_iloadn hG dX0_firstBroken_10 rfl ?_
  refine pm_iloadn hG dX0_firstBroken_11 rfl ?_
  refine pm_icmp_ge (tgt := 62) hG dX0_firstBroken_12 rfl (fun _ => ?_) (fun q => absurd q (by decide))
  refine pm_iconst (v := (-1)) hG dX0_firstBroken_62 (by decide) ?_
  exact pm_iret hG hF dX0_firstBroken_63 rfl (by decide) (by decide) ⟨_, rfl, ⟨rfl, rfl, rfl⟩⟩

set_option maxRecDepth 100000 in
set_option maxHeartbeats 8000000 in
theorem oc_cause {B : Nat} {fw : Nat → Int32} {R : List pm_C} {za zb : Int32} {d : Nat} (hdd : 4 ≤ d) : pm_met mX11_cause d 0 0 B [.ref (B + 0), .int za, .int zb] 74 (pm_cat (pm_ofL (l_k_class B fw)) 54 R) (pm_Qi (fun v σ' cnt' => v = v_cause za zb ∧ pm_lies σ' 54 R ∧ cnt' = 74)) := by
  refine pm_enter 0 (by decide) (Nat.le_of_ble_eq_true rfl) rfl (fun G hG hR hF => ?_)
  refine pm_iloadn hG dX11_cause_0 rfl ?_
  refine pm_iconst (v := 0) hG dX11_cause_1 (by decide) ?_
  refine pm_iconst (v := 5) hG dX11_cause_2 (by decide) ?_
  refine pm_callS (As := [.int za, .int 0, .int 5]) (rest := []) hG hR dX11_cause_3 (lkX11_105 _ rfl) okS_X11_isOutside (sx_isOutside (d := 3)) rfl rfl hdd (by decide) (by decide) (by decide) (pm_ki (fun v σ' cnt' hq => ?_))
  obtain ⟨rfl, rfl, rfl⟩ := hq
  by_cases c1 : za < 0 ∨ 5 < za
  · refine pm_top (v := 1) (if_pos c1) ?_
    refine pm_if_ne (tgt := 18) hG dX11_cause_6 rfl (fun _ => ?_) (fun q => absurd q (by decide))
    refine pm_aloadn hG dX11_cause_18 rfl ?_
    refine pm_ldc hG dX11_cause_19 (ctX11_109 _ rfl) ?_
    refine pm_callV (As := [.int (-1000001)]) (rest := []) hG hR dX11_cause_21 (lkX11_97 _ rfl) okV_X11_told rfl rfl (sx_told (d := 3) (by decide) rfl rfl) rfl rfl hdd (by decide) (by decide) (by decide) (pm_ki (fun v σ' cnt' hq => ?_))
    obtain ⟨rfl, ⟨g, rfl⟩, rfl⟩ := hq
    exact pm_iret hG hF dX11_cause_24 rfl (by decide) (by decide) ⟨_, rfl, (by clear hF hR hG; first | rfl | (unfold v_cause; (repeat' split) <;> first | rfl | (exfalso; simp only [Int32.lt_iff_toInt_lt, Int32.le_iff_toInt_le, ← Int32.toInt_inj, Int32.toInt_zero, L_3, L_5, L_m1, L_m1000001] at *; omega) | (apply Int32.toInt_inj.mp; simp only [Int32.lt_iff_toInt_lt, Int32.le_iff_toInt_le, ← Int32.toInt_inj, Int32.toInt_zero, L_3, L_5, L_m1, L_m1000001] at *; omega))), (by repeat (first | exact pm_lies_cat | refine pm_lies.up0 (by decide) ?_)), rfl⟩
  · refine pm_top (v := 0) (if_neg c1) ?_
    refine pm_if_ne (tgt := 18) hG dX11_cause_6 rfl (fun q => absurd q (by decide)) (fun _ => ?_)
    refine pm_iloadn hG dX11_cause_9 rfl ?_
    refine pm_iconst (v := 0) hG dX11_cause_10 (by decide) ?_
    refine pm_iconst (v := 3) hG dX11_cause_11 (by decide) ?_
    refine pm_callS (As := [.int zb, .int 0, .int 3]) (rest := []) hG hR dX11_cause_12 (lkX11_105 _ rfl) okS_X11_isOutside (sx_isOutside (d := 3)) rfl rfl hdd (by decide) (by decide) (by decide) (pm_ki (fun v σ' cnt' hq => ?_))
    obtain ⟨rfl, rfl, rfl⟩ := hq
    by_cases c2 : zb < 0 ∨ 3 < zb
    · refine pm_top (v := 1) (if_pos c2) ?_
      refine pm_if_eq (tgt := 25) hG dX11_cause_15 rfl (fun q => absurd q (by decide)) (fun _ => ?_)
      refine pm_aloadn hG dX11_cause_18 rfl ?_
      refine pm_ldc hG dX11_cause_19 (ctX11_109 _ rfl) ?_
      refine pm_callV (As := [.int (-1000001)]) (rest := []) hG hR dX11_cause_21 (lkX11_97 _ rfl) okV_X11_told rfl rfl (sx_told (d := 3) (by decide) rfl rfl) rfl rfl hdd (by decide) (by decide) (by decide) (pm_ki (fun v σ' cnt' hq => ?_))
      obtain ⟨rfl, ⟨g, rfl⟩, rfl⟩ := hq
      exact pm_iret hG hF dX11_cause_24 rfl (by decide) (by decide) ⟨_, rfl, (by clear hF hR hG; first | rfl | (unfold v_cause; (repeat' split) <;> first | rfl | (exfalso; simp only [Int32.lt_iff_toInt_lt, Int32.le_iff_toInt_le, ← Int32.toInt_inj, Int32.toInt_zero, L_3, L_5, L_m1, L_m1000001] at *; omega) | (apply Int32.toInt_inj.mp; simp only [Int32.lt_iff_toInt_lt, Int32.le_iff_toInt_le, ← Int32.toInt_inj, Int32.toInt_zero, L_3, L_5, L_m1, L_m1000001] at *; omega))), (by repeat (first | exact pm_lies_cat | refine pm_lies.up0 (by decide) ?_)), rfl⟩
    · refine pm_top (v := 0) (if_neg c2) ?_
      refine pm_if_eq (tgt := 25) hG dX11_cause_15 rfl (fun _ => ?_) (fun q => absurd q (by decide))
      refine pm_iloadn hG dX11_cause_25 rfl ?_
      refine pm_iconst (v := 3) hG dX11_cause_26 (by decide) ?_
      refine pm_icmp_ne (tgt := 39) hG dX11_cause_27 rfl (fun c3 => ?_) (fun c3 => ?_)
      · refine pm_aloadn hG dX11_cause_39 rfl ?_
        refine pm_getf hG dX11_cause_40 (flX11_30 _ rfl) rfl rfl ?_
        refine pm_iloadn hG dX11_cause_43 rfl ?_
        refine pm_callV (As := [.int za]) (rest := []) hG hR dX11_cause_44 (lkX11_290 _ rfl) okV_X0_weigh rfl rfl (fc_X0_weigh_35 (d := 3) (by decide)) rfl rfl hdd (by decide) (by decide) (by decide) (pm_kv (fun σ' cnt' hq => ?_))
        obtain ⟨rfl, rfl⟩ := hq
        refine pm_iloadn hG dX11_cause_47 rfl ?_
        by_cases c4 : zb = 0
        · refine pm_top (v := 0) c4 ?_
          refine pm_lsw (off := 28) (tgt := 76) hG dX11_cause_48 (by decide) (by decide) rfl ?_
          refine pm_aloadn hG dX11_cause_76 rfl ?_
          refine pm_getf hG dX11_cause_77 (flX11_30 _ rfl) rfl rfl ?_
          refine pm_getf hG dX11_cause_80 (flX11_293 _ rfl) rfl rfl ?_
          exact pm_iret hG hF dX11_cause_83 rfl (by decide) (by decide) ⟨_, rfl, (by clear hF hR hG; first | rfl | (unfold v_cause; (repeat' split) <;> first | rfl | (exfalso; simp only [Int32.lt_iff_toInt_lt, Int32.le_iff_toInt_le, ← Int32.toInt_inj, Int32.toInt_zero, L_3, L_5, L_m1, L_m1000001] at *; omega) | (apply Int32.toInt_inj.mp; simp only [Int32.lt_iff_toInt_lt, Int32.le_iff_toInt_le, ← Int32.toInt_inj, Int32.toInt_zero, L_3, L_5, L_m1, L_m1000001] at *; omega))), (by repeat (first | exact pm_lies_cat | refine pm_lies.up0 (by decide) ?_)), rfl⟩
        by_cases c5 : zb = 1
        · refine pm_top (v := 1) c5 ?_
          refine pm_lsw (off := 36) (tgt := 84) hG dX11_cause_48 (by decide) (by decide) rfl ?_
          refine pm_aloadn hG dX11_cause_84 rfl ?_
          refine pm_getf hG dX11_cause_85 (flX11_30 _ rfl) rfl rfl ?_
          refine pm_getf hG dX11_cause_88 (flX11_296 _ rfl) rfl rfl ?_
          exact pm_iret hG hF dX11_cause_91 rfl (by decide) (by decide) ⟨_, rfl, (by clear hF hR hG; first | rfl | (unfold v_cause; (repeat' split) <;> first | rfl | (exfalso; simp only [Int32.lt_iff_toInt_lt, Int32.le_iff_toInt_le, ← Int32.toInt_inj, Int32.toInt_zero, L_1, L_3, L_5, L_m1, L_m1000001] at *; omega) | (apply Int32.toInt_inj.mp; simp only [Int32.lt_iff_toInt_lt, Int32.le_iff_toInt_le, ← Int32.toInt_inj, Int32.toInt_zero, L_1, L_3, L_5, L_m1, L_m1000001] at *; omega))), (by repeat (first | exact pm_lies_cat | refine pm_lies.up0 (by decide) ?_)), rfl⟩
        by_cases c6 : zb = 2
        · refine pm_top (v := 2) c6 ?_
          refine pm_lsw (off := 44) (tgt := 92) hG dX11_cause_48 (by decide) (by decide) rfl ?_
          refine pm_aloadn hG dX11_cause_92 rfl ?_
          refine pm_getf hG dX11_cause_93 (flX11_30 _ rfl) rfl rfl ?_
          refine pm_iconst (v := 0) hG dX11_cause_96 (by decide) ?_
          refine pm_callV (As := [.int 0]) (rest := []) hG hR dX11_cause_97 (lkX11_299 _ rfl) okV_X0_isCarriedWith rfl rfl (fc_X0_isCarriedWith_38 (d := 3) (by decide)) rfl rfl hdd (by decide) (by decide) (by decide) (pm_ki (fun v σ' cnt' hq => ?_))
          obtain ⟨rfl, rfl, rfl⟩ := hq
          refine pm_if_eq (tgt := 107) hG dX11_cause_100 rfl (fun _ => ?_) (fun q => absurd q (by decide))
          refine pm_iconst (v := 0) hG dX11_cause_107 (by decide) ?_
          exact pm_iret hG hF dX11_cause_108 rfl (by decide) (by decide) ⟨_, rfl, (by clear hF hR hG; first | rfl | (unfold v_cause; (repeat' split) <;> first | rfl | (exfalso; simp only [Int32.lt_iff_toInt_lt, Int32.le_iff_toInt_le, ← Int32.toInt_inj, Int32.toInt_zero, L_1, L_2, L_3, L_5, L_m1, L_m1000001] at *; omega) | (apply Int32.toInt_inj.mp; simp only [Int32.lt_iff_toInt_lt, Int32.le_iff_toInt_le, ← Int32.toInt_inj, Int32.toInt_zero, L_1, L_2, L_3, L_5, L_m1, L_m1000001] at *; omega))), (by repeat (first | exact pm_lies_cat | refine pm_lies.up0 (by decide) ?_)), rfl⟩
        exact False.elim (by revert c2 c3 c4 c5 c6; simp only [Int32.lt_iff_toInt_lt, Int32.le_iff_toInt_le, ← Int32.toInt_inj, Int32.toInt_zero, L_1, L_2, L_3]; omega)
      · refine pm_aloadn hG dX11_cause_30 rfl ?_
        refine pm_getf hG dX11_cause_31 (flX11_30 _ rfl) rfl rfl ?_
        refine pm_iloadn hG dX11_cause_34 rfl ?_
        refine pm_callV (As := [.int za]) (rest := []) hG hR dX11_cause_35 (lkX11_287 _ rfl) okV_X0_firstBroken rfl rfl (fc_X0_firstBroken_39 (d := 3) (by decide)) rfl rfl hdd (by decide) (by decide) (by decide) (pm_ki (fun v σ' cnt' hq => ?_))
        obtain ⟨rfl, rfl, rfl⟩ := hq
        exact pm_iret hG hF dX11_cause_38 rfl (by decide) (by decide) ⟨_, rfl, (by clear hF hR hG; first | rfl | (unfold v_cause; (repeat' split) <;> first | rfl | (exfalso; simp only [Int32.lt_iff_toInt_lt, Int32.le_iff_toInt_le, ← Int32.toInt_inj, Int32.toInt_zero, L_3, L_5, L_m1, L_m1000001] at *; omega) | (apply Int32.toInt_inj.mp; simp only [Int32.lt_iff_toInt_lt, Int32.le_iff_toInt_le, ← Int32.toInt_inj, Int32.toInt_zero, L_3, L_5, L_m1, L_m1000001] at *; omega))), (by repeat (first | exact pm_lies_cat | refine pm_lies.up0 (by decide) ?_)), rfl⟩

set_option maxRecDepth 100000 in
set_option maxHeartbeats 4000000 in
theorem fc_X0_isCarriedWith_42 {B : Nat} {fw : Nat → Int32} {R : List pm_C} {d : Nat} (hdd : 1 ≤ d) : pm_met mX0_isCarriedWith d 0 0 B [.ref (B + 31), .int 0] 74 (pm_up (pm_up (pm_up (pm_up (pm_up (pm_cat (pm_ofL (l_k_class B fw)) 54 R) 31 (.inr (0, [.ref (B + 1), .ref (B + 26), .ref (B + 18), .ref (B + 32), .ref (B + 34), .int 0, .int 0, .int 0, .int 0]))) 31 (.inr (0, [.ref (B + 1), .ref (B + 26), .ref (B + 18), .ref (B + 32), .ref (B + 34), .int 0, .int 0, .int 0, .int 0]))) 34 (.inr (9, [.int 9, .int 1, .ref (B + 35), .int 0]))) 31 (.inr (0, [.ref (B + 1), .ref (B + 26), .ref (B + 18), .ref (B + 32), .ref (B + 34), .int 0, .int 0, .int 1000000, .int 0]))) 31 (.inr (0, [.ref (B + 1), .ref (B + 26), .ref (B + 18), .ref (B + 32), .ref (B + 34), .int 0, .int 0, .int 1000000, .int 0]))) (pm_Qi (fun v σ' cnt' => v = 0 ∧ σ' = (pm_up (pm_up (pm_up (pm_up (pm_up (pm_cat (pm_ofL (l_k_class B fw)) 54 R) 31 (.inr (0, [.ref (B + 1), .ref (B + 26), .ref (B + 18), .ref (B + 32), .ref (B + 34), .int 0, .int 0, .int 0, .int 0]))) 31 (.inr (0, [.ref (B + 1), .ref (B + 26), .ref (B + 18), .ref (B + 32), .ref (B + 34), .int 0, .int 0, .int 0, .int 0]))) 34 (.inr (9, [.int 9, .int 1, .ref (B + 35), .int 0]))) 31 (.inr (0, [.ref (B + 1), .ref (B + 26), .ref (B + 18), .ref (B + 32), .ref (B + 34), .int 0, .int 0, .int 1000000, .int 0]))) 31 (.inr (0, [.ref (B + 1), .ref (B + 26), .ref (B + 18), .ref (B + 32), .ref (B + 34), .int 0, .int 0, .int 1000000, .int 0]))) ∧ cnt' = 74)) := by
  refine pm_enter 0 (by decide) (Nat.le_of_ble_eq_true rfl) rfl (fun G hG hR hF => ?_)
  refine pm_iconst (v := 2) hG dX0_isCarriedWith_0 (by decide) ?_
  refine pm_aloadn hG dX0_isCarriedWith_1 rfl ?_
  refine pm_getf hG dX0_isCarriedWith_2 (flX0_69 _ rfl) rfl rfl ?_
  refine pm_iloadn hG dX0_isCarriedWith_5 rfl ?_
  refine pm_iadd hG dX0_isCarriedWith_6 ?_
  refine pm_top (v := 0) (by decide) ?_
  refine pm_imul hG dX0_isCarriedWith_7 ?_
  refine pm_top (v := 0) (by decide) ?_
  refine pm_aloadn hG dX0_isCarriedWith_8 rfl ?_
  refine pm_getf hG dX0_isCarriedWith_9 (flX0_72 _ rfl) rfl rfl ?_
  refine pm_icmp_le (tgt := 19) hG dX0_isCarriedWith_12 rfl (fun _ => ?_) (fun q => absurd q (by decide))
  refine pm_iconst (v := 0) hG dX0_isCarriedWith_19 (by decide) ?_
  exact pm_zret hG hF dX0_isCarriedWith_20 rfl (by rfl) (by decide) (by decide) ⟨_, rfl, ⟨rfl, rfl, rfl⟩⟩

set_option maxRecDepth 100000 in
set_option maxHeartbeats 4000000 in
theorem fc_X0_choose_41 {B : Nat} {fw : Nat → Int32} {R : List pm_C} {d : Nat} (hdd : 2 ≤ d) : pm_met mX0_choose d 0 0 B [.ref (B + 31), .int 0, .int 0, .int 0, .int 0] 74 (pm_up (pm_up (pm_up (pm_up (pm_up (pm_cat (pm_ofL (l_k_class B fw)) 54 R) 31 (.inr (0, [.ref (B + 1), .ref (B + 26), .ref (B + 18), .ref (B + 32), .ref (B + 34), .int 0, .int 0, .int 0, .int 0]))) 31 (.inr (0, [.ref (B + 1), .ref (B + 26), .ref (B + 18), .ref (B + 32), .ref (B + 34), .int 0, .int 0, .int 0, .int 0]))) 34 (.inr (9, [.int 9, .int 1, .ref (B + 35), .int 0]))) 31 (.inr (0, [.ref (B + 1), .ref (B + 26), .ref (B + 18), .ref (B + 32), .ref (B + 34), .int 0, .int 0, .int 1000000, .int 0]))) 31 (.inr (0, [.ref (B + 1), .ref (B + 26), .ref (B + 18), .ref (B + 32), .ref (B + 34), .int 0, .int 0, .int 1000000, .int 0]))) (pm_Qv (fun σ' cnt' => σ' = (pm_up (pm_up (pm_up (pm_up (pm_up (pm_cat (pm_ofL (l_k_class B fw)) 54 R) 31 (.inr (0, [.ref (B + 1), .ref (B + 26), .ref (B + 18), .ref (B + 32), .ref (B + 34), .int 0, .int 0, .int 0, .int 0]))) 31 (.inr (0, [.ref (B + 1), .ref (B + 26), .ref (B + 18), .ref (B + 32), .ref (B + 34), .int 0, .int 0, .int 0, .int 0]))) 34 (.inr (9, [.int 9, .int 1, .ref (B + 35), .int 0]))) 31 (.inr (0, [.ref (B + 1), .ref (B + 26), .ref (B + 18), .ref (B + 32), .ref (B + 34), .int 0, .int 0, .int 1000000, .int 0]))) 31 (.inr (0, [.ref (B + 1), .ref (B + 26), .ref (B + 18), .ref (B + 32), .ref (B + 34), .int 0, .int 0, .int 1000000, .int 0]))) ∧ cnt' = 74)) := by
  refine pm_enter 1 (by decide) (Nat.le_of_ble_eq_true rfl) rfl (fun G hG hR hF => ?_)
  refine pm_iloadn hG dX0_choose_0 rfl ?_
  refine pm_aloadn hG dX0_choose_1 rfl ?_
  refine pm_getf hG dX0_choose_2 (flX0_115 _ rfl) rfl rfl ?_
  refine pm_icmp_le (tgt := 9) hG dX0_choose_5 rfl (fun _ => ?_) (fun q => absurd q (by decide))
  refine pm_aloadn hG dX0_choose_9 rfl ?_
  refine pm_iloadi hG dX0_choose_10 rfl ?_
  refine pm_callV (As := [.int 0]) (rest := []) hG hR dX0_choose_12 (lkX0_125 _ rfl) okV_X0_isCarriedWith rfl rfl (fc_X0_isCarriedWith_42 (d := 1) (by decide)) rfl rfl hdd (by decide) (by decide) (by decide) (pm_ki (fun v σ' cnt' hq => ?_))
  obtain ⟨rfl, rfl, rfl⟩ := hq
  refine pm_if_eq (tgt := 24) hG dX0_choose_15 rfl (fun _ => ?_) (fun q => absurd q (by decide))
  refine pm_iloadn hG dX0_choose_24 rfl ?_
  refine pm_bipush (v := 9) hG dX0_choose_25 (by decide) ?_
  refine pm_icmp_ge (tgt := 105) hG dX0_choose_27 rfl (fun q => absurd q (by decide)) (fun _ => ?_)
  refine pm_aloadn hG dX0_choose_30 rfl ?_
  refine pm_getf hG dX0_choose_31 (flX0_36 _ rfl) rfl rfl ?_
  refine pm_iloadn hG dX0_choose_34 rfl ?_
  refine pm_callV (As := [.int 0]) (rest := []) hG hR dX0_choose_35 (lkX0_131 _ rfl) okV_X9_has rfl rfl (tb_has (d := 1) rfl) rfl rfl hdd (by decide) (by decide) (by decide) (pm_ki (fun v σ' cnt' hq => ?_))
  obtain ⟨rfl, rfl, rfl⟩ := hq
  refine pm_top (v := 0) (by decide) ?_
  refine pm_if_eq (tgt := 105) hG dX0_choose_38 rfl (fun _ => ?_) (fun q => absurd q (by decide))
  exact pm_vret hG hF dX0_choose_105 rfl (by decide) (by decide) ⟨rfl, ⟨rfl, rfl⟩⟩

set_option maxRecDepth 100000 in
set_option maxHeartbeats 4000000 in
theorem fc_X0_findCheapest_40 {B : Nat} {fw : Nat → Int32} {R : List pm_C} {za : Int32} {d : Nat} (hdd : 4 ≤ d) : pm_met mX0_findCheapest d 0 0 B [.ref (B + 31), .int za] 74 (pm_cat (pm_ofL (l_k_class B fw)) 54 R) (pm_Qi (fun v σ' cnt' => v = 0 ∧ σ' = (pm_up (pm_up (pm_up (pm_up (pm_up (pm_cat (pm_ofL (l_k_class B fw)) 54 R) 31 (.inr (0, [.ref (B + 1), .ref (B + 26), .ref (B + 18), .ref (B + 32), .ref (B + 34), .int 0, .int 0, .int 0, .int 0]))) 31 (.inr (0, [.ref (B + 1), .ref (B + 26), .ref (B + 18), .ref (B + 32), .ref (B + 34), .int 0, .int 0, .int 0, .int 0]))) 34 (.inr (9, [.int 9, .int 1, .ref (B + 35), .int 0]))) 31 (.inr (0, [.ref (B + 1), .ref (B + 26), .ref (B + 18), .ref (B + 32), .ref (B + 34), .int 0, .int 0, .int 1000000, .int 0]))) 31 (.inr (0, [.ref (B + 1), .ref (B + 26), .ref (B + 18), .ref (B + 32), .ref (B + 34), .int 0, .int 0, .int 1000000, .int 0]))) ∧ cnt' = 74)) := by
  refine pm_enter 0 (by decide) (Nat.le_of_ble_eq_true rfl) rfl (fun G hG hR hF => ?_)
  refine pm_aloadn hG dX0_findCheapest_0 rfl ?_
  refine pm_iloadn hG dX0_findCheapest_1 rfl ?_
  refine pm_callV (As := [.int za]) (rest := []) hG hR dX0_findCheapest_2 (lkX0_110 _ rfl) okV_X0_weigh rfl rfl (fc_X0_weigh_35 (d := 3) (by decide)) rfl rfl hdd (by decide) (by decide) (by decide) (pm_kv (fun σ' cnt' hq => ?_))
  obtain ⟨rfl, rfl⟩ := hq
  refine pm_aloadn hG dX0_findCheapest_5 rfl ?_
  refine pm_ldc hG dX0_findCheapest_6 (ctX0_114 _ rfl) ?_
  refine pm_putf hG dX0_findCheapest_8 (fwX0_115 _ rfl) rfl rfl rfl ?_
  refine pm_aloadn hG dX0_findCheapest_11 rfl ?_
  refine pm_iconst (v := 0) hG dX0_findCheapest_12 (by decide) ?_
  refine pm_putf hG dX0_findCheapest_13 (fwX0_118 _ rfl) rfl rfl rfl ?_
  refine pm_aloadn hG dX0_findCheapest_16 rfl ?_
  refine pm_iconst (v := 0) hG dX0_findCheapest_17 (by decide) ?_
  refine pm_iconst (v := 0) hG dX0_findCheapest_18 (by decide) ?_
  refine pm_iconst (v := 0) hG dX0_findCheapest_19 (by decide) ?_
  refine pm_iconst (v := 0) hG dX0_findCheapest_20 (by decide) ?_
  refine pm_callV (As := [.int 0, .int 0, .int 0, .int 0]) (rest := []) hG hR dX0_findCheapest_21 (lkX0_121 _ rfl) okV_X0_choose rfl rfl (fc_X0_choose_41 (d := 3) (by decide)) rfl rfl hdd (by decide) (by decide) (by decide) (pm_kv (fun σ' cnt' hq => ?_))
  obtain ⟨rfl, rfl⟩ := hq
  refine pm_aloadn hG dX0_findCheapest_24 rfl ?_
  refine pm_getf hG dX0_findCheapest_25 (flX0_115 _ rfl) rfl rfl ?_
  refine pm_ldc hG dX0_findCheapest_28 (ctX0_114 _ rfl) ?_
  refine pm_icmp_ge (tgt := 37) hG dX0_findCheapest_30 rfl (fun _ => ?_) (fun q => absurd q (by decide))
  refine pm_iconst (v := 0) hG dX0_findCheapest_37 (by decide) ?_
  exact pm_zret hG hF dX0_findCheapest_38 rfl (by rfl) (by decide) (by decide) ⟨_, rfl, ⟨rfl, rfl, rfl⟩⟩

set_option maxRecDepth 100000 in
set_option maxHeartbeats 8000000 in
theorem oc_buying {B : Nat} {fw : Nat → Int32} {R : List pm_C} {za zb : Int32} {d : Nat} (hdd : 5 ≤ d) : pm_met mX11_buying d 0 0 B [.ref (B + 0), .int za, .int zb] 74 (pm_cat (pm_ofL (l_k_class B fw)) 54 R) (pm_Qi (fun v σ' cnt' => v = v_buying za zb ∧ pm_lies σ' 54 R ∧ cnt' = 74)) := by
  refine pm_enter 0 (by decide) (Nat.le_of_ble_eq_true rfl) rfl (fun G hG hR hF => ?_)
  refine pm_iloadn hG dX11_buying_0 rfl ?_
  refine pm_iconst (v := 0) hG dX11_buying_1 (by decide) ?_
  refine pm_iconst (v := 5) hG dX11_buying_2 (by decide) ?_
  refine pm_callS (As := [.int za, .int 0, .int 5]) (rest := []) hG hR dX11_buying_3 (lkX11_105 _ rfl) okS_X11_isOutside (sx_isOutside (d := 4)) rfl rfl hdd (by decide) (by decide) (by decide) (pm_ki (fun v σ' cnt' hq => ?_))
  obtain ⟨rfl, rfl, rfl⟩ := hq
  by_cases c1 : za < 0 ∨ 5 < za
  · refine pm_top (v := 1) (if_pos c1) ?_
    refine pm_if_ne (tgt := 18) hG dX11_buying_6 rfl (fun _ => ?_) (fun q => absurd q (by decide))
    refine pm_aloadn hG dX11_buying_18 rfl ?_
    refine pm_ldc hG dX11_buying_19 (ctX11_109 _ rfl) ?_
    refine pm_callV (As := [.int (-1000001)]) (rest := []) hG hR dX11_buying_21 (lkX11_97 _ rfl) okV_X11_told rfl rfl (sx_told (d := 4) (by decide) rfl rfl) rfl rfl hdd (by decide) (by decide) (by decide) (pm_ki (fun v σ' cnt' hq => ?_))
    obtain ⟨rfl, ⟨g, rfl⟩, rfl⟩ := hq
    exact pm_iret hG hF dX11_buying_24 rfl (by decide) (by decide) ⟨_, rfl, (by clear hF hR hG; first | rfl | (unfold v_buying; (repeat' split) <;> first | rfl | (exfalso; simp only [Int32.lt_iff_toInt_lt, Int32.le_iff_toInt_le, ← Int32.toInt_inj, Int32.toInt_zero, L_1, L_5, L_m1000001, L_m1000002] at *; omega) | (apply Int32.toInt_inj.mp; simp only [Int32.lt_iff_toInt_lt, Int32.le_iff_toInt_le, ← Int32.toInt_inj, Int32.toInt_zero, L_1, L_5, L_m1000001, L_m1000002] at *; omega))), (by repeat (first | exact pm_lies_cat | refine pm_lies.up0 (by decide) ?_)), rfl⟩
  · refine pm_top (v := 0) (if_neg c1) ?_
    refine pm_if_ne (tgt := 18) hG dX11_buying_6 rfl (fun q => absurd q (by decide)) (fun _ => ?_)
    refine pm_iloadn hG dX11_buying_9 rfl ?_
    refine pm_iconst (v := 0) hG dX11_buying_10 (by decide) ?_
    refine pm_iconst (v := 1) hG dX11_buying_11 (by decide) ?_
    refine pm_callS (As := [.int zb, .int 0, .int 1]) (rest := []) hG hR dX11_buying_12 (lkX11_105 _ rfl) okS_X11_isOutside (sx_isOutside (d := 4)) rfl rfl hdd (by decide) (by decide) (by decide) (pm_ki (fun v σ' cnt' hq => ?_))
    obtain ⟨rfl, rfl, rfl⟩ := hq
    by_cases c2 : zb < 0 ∨ 1 < zb
    · refine pm_top (v := 1) (if_pos c2) ?_
      refine pm_if_eq (tgt := 25) hG dX11_buying_15 rfl (fun q => absurd q (by decide)) (fun _ => ?_)
      refine pm_aloadn hG dX11_buying_18 rfl ?_
      refine pm_ldc hG dX11_buying_19 (ctX11_109 _ rfl) ?_
      refine pm_callV (As := [.int (-1000001)]) (rest := []) hG hR dX11_buying_21 (lkX11_97 _ rfl) okV_X11_told rfl rfl (sx_told (d := 4) (by decide) rfl rfl) rfl rfl hdd (by decide) (by decide) (by decide) (pm_ki (fun v σ' cnt' hq => ?_))
      obtain ⟨rfl, ⟨g, rfl⟩, rfl⟩ := hq
      exact pm_iret hG hF dX11_buying_24 rfl (by decide) (by decide) ⟨_, rfl, (by clear hF hR hG; first | rfl | (unfold v_buying; (repeat' split) <;> first | rfl | (exfalso; simp only [Int32.lt_iff_toInt_lt, Int32.le_iff_toInt_le, ← Int32.toInt_inj, Int32.toInt_zero, L_1, L_5, L_m1000001, L_m1000002] at *; omega) | (apply Int32.toInt_inj.mp; simp only [Int32.lt_iff_toInt_lt, Int32.le_iff_toInt_le, ← Int32.toInt_inj, Int32.toInt_zero, L_1, L_5, L_m1000001, L_m1000002] at *; omega))), (by repeat (first | exact pm_lies_cat | refine pm_lies.up0 (by decide) ?_)), rfl⟩
    · refine pm_top (v := 0) (if_neg c2) ?_
      refine pm_if_eq (tgt := 25) hG dX11_buying_15 rfl (fun _ => ?_) (fun q => absurd q (by decide))
      refine pm_aloadn hG dX11_buying_25 rfl ?_
      refine pm_getf hG dX11_buying_26 (flX11_30 _ rfl) rfl rfl ?_
      refine pm_iloadn hG dX11_buying_29 rfl ?_
      refine pm_callV (As := [.int za]) (rest := []) hG hR dX11_buying_30 (lkX11_302 _ rfl) okV_X0_findCheapest rfl rfl (fc_X0_findCheapest_40 (d := 4) (by decide)) rfl rfl hdd (by decide) (by decide) (by decide) (pm_ki (fun v σ' cnt' hq => ?_))
      obtain ⟨rfl, rfl, rfl⟩ := hq
      refine pm_if_ne (tgt := 43) hG dX11_buying_33 rfl (fun q => absurd q (by decide)) (fun _ => ?_)
      refine pm_aloadn hG dX11_buying_36 rfl ?_
      refine pm_ldc hG dX11_buying_37 (ctX11_223 _ rfl) ?_
      refine pm_callV (As := [.int (-1000002)]) (rest := []) hG hR dX11_buying_39 (lkX11_97 _ rfl) okV_X11_told rfl rfl (sx_told (d := 4) (by decide) rfl rfl) rfl rfl hdd (by decide) (by decide) (by decide) (pm_ki (fun v σ' cnt' hq => ?_))
      obtain ⟨rfl, ⟨g, rfl⟩, rfl⟩ := hq
      exact pm_iret hG hF dX11_buying_42 rfl (by decide) (by decide) ⟨_, rfl, (by clear hF hR hG; first | rfl | (unfold v_buying; (repeat' split) <;> first | rfl | (exfalso; simp only [Int32.lt_iff_toInt_lt, Int32.le_iff_toInt_le, ← Int32.toInt_inj, Int32.toInt_zero, L_1, L_5, L_m1000001, L_m1000002] at *; omega) | (apply Int32.toInt_inj.mp; simp only [Int32.lt_iff_toInt_lt, Int32.le_iff_toInt_le, ← Int32.toInt_inj, Int32.toInt_zero, L_1, L_5, L_m1000001, L_m1000002] at *; omega))), (by repeat (first | exact pm_lies_cat | refine pm_lies.up0 (by decide) ?_)), rfl⟩

set_option maxRecDepth 100000 in
set_option maxHeartbeats 4000000 in
theorem fc_X9_swap_43 {B : Nat} {fw : Nat → Int32} {R : List pm_C} {za zb : Int32} {d : Nat} (hdd : 2 ≤ d) : pm_met mX9_swap d 0 0 B [.ref (B + 20), .int za, .int 0, .int zb] 74 (pm_cat (pm_ofL (l_k_class B fw)) 54 R) (pm_Qi (fun v σ' cnt' => v = 0 ∧ σ' = (pm_up (pm_cat (pm_ofL (l_k_class B fw)) 54 R) 21 (.inl (5, pm_ts 5 1 (fun _ => 0) za 0 zb))) ∧ cnt' = 74)) := by
  refine pm_enter 1 (by decide) (Nat.le_of_ble_eq_true rfl) rfl (fun G hG hR hF => ?_)
  refine pm_aloadn hG dX9_swap_0 rfl ?_
  refine pm_iloadn hG dX9_swap_1 rfl ?_
  refine pm_iloadn hG dX9_swap_2 rfl ?_
  refine pm_callV (As := [.int za, .int 0]) (rest := []) hG hR dX9_swap_3 (lkX9_32 _ rfl) okV_X9_get rfl rfl (tb_get (d := 1) rfl rfl (pm_tw_of 5 1 (by decide) (by decide) (by decide))) rfl rfl hdd (by decide) (by decide) (by decide) (pm_ki (fun v σ' cnt' hq => ?_))
  obtain ⟨rfl, rfl, rfl⟩ := hq
  refine pm_top (v := 0) (pm_tg_zero _ _ _ _) ?_
  refine pm_istoreXi (loc' := [some (.ref (B + 20)), some (.int za), some (.int 0), some (.int zb), some (.int 0)]) hG dX9_swap_6 (by decide) (pm_c1b rfl) rfl ?_
  refine pm_aloadn hG dX9_swap_8 rfl ?_
  refine pm_iloadn hG dX9_swap_9 rfl ?_
  refine pm_iloadn hG dX9_swap_10 rfl ?_
  refine pm_iloadn hG dX9_swap_11 rfl ?_
  refine pm_callV (As := [.int za, .int 0, .int zb]) (rest := []) hG hR dX9_swap_12 (lkX9_35 _ rfl) okV_X9_set rfl rfl (tb_set (d := 1) rfl rfl (pm_tw_of 5 1 (by decide) (by decide) (by decide)) (by decide)) rfl rfl hdd (by decide) (by decide) (by decide) (pm_kv (fun σ' cnt' hq => ?_))
  obtain ⟨rfl, rfl⟩ := hq
  refine pm_iloadi hG dX9_swap_15 rfl ?_
  exact pm_iret hG hF dX9_swap_17 rfl (by decide) (by decide) ⟨_, rfl, ⟨rfl, rfl, rfl⟩⟩

set_option maxRecDepth 100000 in
set_option maxHeartbeats 8000000 in
theorem oc_guard {B : Nat} {fw : Nat → Int32} {R : List pm_C} {za zb : Int32} {d : Nat} (hdd : 3 ≤ d) : pm_met mX11_guard d 0 0 B [.ref (B + 0), .int za, .int zb] 74 (pm_cat (pm_ofL (l_k_class B fw)) 54 R) (pm_Qi (fun v σ' cnt' => v = v_guard za zb ∧ pm_lies σ' 54 R ∧ cnt' = 74)) := by
  refine pm_enter 0 (by decide) (Nat.le_of_ble_eq_true rfl) rfl (fun G hG hR hF => ?_)
  refine pm_iloadn hG dX11_guard_0 rfl ?_
  refine pm_iconst (v := 0) hG dX11_guard_1 (by decide) ?_
  refine pm_iconst (v := 4) hG dX11_guard_2 (by decide) ?_
  refine pm_callS (As := [.int za, .int 0, .int 4]) (rest := []) hG hR dX11_guard_3 (lkX11_105 _ rfl) okS_X11_isOutside (sx_isOutside (d := 2)) rfl rfl hdd (by decide) (by decide) (by decide) (pm_ki (fun v σ' cnt' hq => ?_))
  obtain ⟨rfl, rfl, rfl⟩ := hq
  by_cases c1 : za < 0 ∨ 4 < za
  · refine pm_top (v := 1) (if_pos c1) ?_
    refine pm_if_ne (tgt := 19) hG dX11_guard_6 rfl (fun _ => ?_) (fun q => absurd q (by decide))
    refine pm_aloadn hG dX11_guard_19 rfl ?_
    refine pm_ldc hG dX11_guard_20 (ctX11_109 _ rfl) ?_
    refine pm_callV (As := [.int (-1000001)]) (rest := []) hG hR dX11_guard_22 (lkX11_97 _ rfl) okV_X11_told rfl rfl (sx_told (d := 2) (by decide) rfl rfl) rfl rfl hdd (by decide) (by decide) (by decide) (pm_ki (fun v σ' cnt' hq => ?_))
    obtain ⟨rfl, ⟨g, rfl⟩, rfl⟩ := hq
    exact pm_iret hG hF dX11_guard_25 rfl (by decide) (by decide) ⟨_, rfl, (by clear hF hR hG; first | rfl | (unfold v_guard; (repeat' split) <;> first | rfl | (exfalso; simp only [Int32.lt_iff_toInt_lt, Int32.le_iff_toInt_le, ← Int32.toInt_inj, Int32.toInt_zero, L_4, L_6, L_m1000001] at *; omega) | (apply Int32.toInt_inj.mp; simp only [Int32.lt_iff_toInt_lt, Int32.le_iff_toInt_le, ← Int32.toInt_inj, Int32.toInt_zero, L_4, L_6, L_m1000001] at *; omega))), (by repeat (first | exact pm_lies_cat | refine pm_lies.up0 (by decide) ?_)), rfl⟩
  · refine pm_top (v := 0) (if_neg c1) ?_
    refine pm_if_ne (tgt := 19) hG dX11_guard_6 rfl (fun q => absurd q (by decide)) (fun _ => ?_)
    refine pm_iloadn hG dX11_guard_9 rfl ?_
    refine pm_iconst (v := 0) hG dX11_guard_10 (by decide) ?_
    refine pm_bipush (v := 6) hG dX11_guard_11 (by decide) ?_
    refine pm_callS (As := [.int zb, .int 0, .int 6]) (rest := []) hG hR dX11_guard_13 (lkX11_105 _ rfl) okS_X11_isOutside (sx_isOutside (d := 2)) rfl rfl hdd (by decide) (by decide) (by decide) (pm_ki (fun v σ' cnt' hq => ?_))
    obtain ⟨rfl, rfl, rfl⟩ := hq
    by_cases c2 : zb < 0 ∨ 6 < zb
    · refine pm_top (v := 1) (if_pos c2) ?_
      refine pm_if_eq (tgt := 26) hG dX11_guard_16 rfl (fun q => absurd q (by decide)) (fun _ => ?_)
      refine pm_aloadn hG dX11_guard_19 rfl ?_
      refine pm_ldc hG dX11_guard_20 (ctX11_109 _ rfl) ?_
      refine pm_callV (As := [.int (-1000001)]) (rest := []) hG hR dX11_guard_22 (lkX11_97 _ rfl) okV_X11_told rfl rfl (sx_told (d := 2) (by decide) rfl rfl) rfl rfl hdd (by decide) (by decide) (by decide) (pm_ki (fun v σ' cnt' hq => ?_))
      obtain ⟨rfl, ⟨g, rfl⟩, rfl⟩ := hq
      exact pm_iret hG hF dX11_guard_25 rfl (by decide) (by decide) ⟨_, rfl, (by clear hF hR hG; first | rfl | (unfold v_guard; (repeat' split) <;> first | rfl | (exfalso; simp only [Int32.lt_iff_toInt_lt, Int32.le_iff_toInt_le, ← Int32.toInt_inj, Int32.toInt_zero, L_4, L_6, L_m1000001] at *; omega) | (apply Int32.toInt_inj.mp; simp only [Int32.lt_iff_toInt_lt, Int32.le_iff_toInt_le, ← Int32.toInt_inj, Int32.toInt_zero, L_4, L_6, L_m1000001] at *; omega))), (by repeat (first | exact pm_lies_cat | refine pm_lies.up0 (by decide) ?_)), rfl⟩
    · refine pm_top (v := 0) (if_neg c2) ?_
      refine pm_if_eq (tgt := 26) hG dX11_guard_16 rfl (fun _ => ?_) (fun q => absurd q (by decide))
      refine pm_aloadn hG dX11_guard_26 rfl ?_
      refine pm_getf hG dX11_guard_27 (flX11_12 _ rfl) rfl rfl ?_
      refine pm_getf hG dX11_guard_30 (flX11_311 _ rfl) rfl rfl ?_
      refine pm_iloadn hG dX11_guard_33 rfl ?_
      refine pm_iconst (v := 0) hG dX11_guard_34 (by decide) ?_
      refine pm_iloadn hG dX11_guard_35 rfl ?_
      refine pm_callV (As := [.int za, .int 0, .int zb]) (rest := []) hG hR dX11_guard_36 (lkX11_248 _ rfl) okV_X9_swap rfl rfl (fc_X9_swap_43 (d := 2) (by decide)) rfl rfl hdd (by decide) (by decide) (by decide) (pm_ki (fun v σ' cnt' hq => ?_))
      obtain ⟨rfl, rfl, rfl⟩ := hq
      exact pm_iret hG hF dX11_guard_39 rfl (by decide) (by decide) ⟨_, rfl, (by clear hF hR hG; first | rfl | (unfold v_guard; (repeat' split) <;> first | rfl | (exfalso; simp only [Int32.lt_iff_toInt_lt, Int32.le_iff_toInt_le, ← Int32.toInt_inj, Int32.toInt_zero, L_4, L_6, L_m1000001] at *; omega) | (apply Int32.toInt_inj.mp; simp only [Int32.lt_iff_toInt_lt, Int32.le_iff_toInt_le, ← Int32.toInt_inj, Int32.toInt_zero, L_4, L_6, L_m1000001] at *; omega))), (by repeat (first | exact pm_lies_cat | refine pm_lies.up0 (by decide) ?_)), rfl⟩

set_option maxRecDepth 100000 in
set_option maxHeartbeats 4000000 in
theorem fc_X9_clear_45 {B : Nat} {fw : Nat → Int32} {R : List pm_C} {d : Nat} (hdd : 1 ≤ d) : pm_met mX9_clear d 0 0 B [.ref (B + 38)] 74 (pm_cat (pm_ofL (l_k_class B fw)) 54 R) (pm_Qv (fun σ' cnt' => σ' = (pm_up (pm_cat (pm_ofL (l_k_class B fw)) 54 R) 38 (.inr (9, [.int 20, .int 1, .ref (B + 39), .int 0]))) ∧ cnt' = 74)) := by
  refine pm_enter 0 (by decide) (Nat.le_of_ble_eq_true rfl) rfl (fun G hG hR hF => ?_)
  refine pm_aloadn hG dX9_clear_0 rfl ?_
  refine pm_iconst (v := 0) hG dX9_clear_1 (by decide) ?_
  refine pm_putf hG dX9_clear_2 (fwX9_29 _ rfl) rfl rfl rfl ?_
  exact pm_vret hG hF dX9_clear_5 rfl (by decide) (by decide) ⟨rfl, ⟨rfl, rfl⟩⟩

set_option maxRecDepth 100000 in
set_option maxHeartbeats 4000000 in
theorem fc_X4_follower_44 {B : Nat} {fw : Nat → Int32} {R : List pm_C} {za : Int32} {d : Nat} (hdd : 2 ≤ d) : pm_met mX4_follower d 0 0 B [.ref (B + 37), .int za] 74 (pm_cat (pm_ofL (l_k_class B fw)) 54 R) (pm_Qi (fun v σ' cnt' => v = (-1000002) ∧ σ' = (pm_up (pm_cat (pm_ofL (l_k_class B fw)) 54 R) 38 (.inr (9, [.int 20, .int 1, .ref (B + 39), .int 0]))) ∧ cnt' = 74)) := by
  refine pm_enter 2 (by decide) (Nat.le_of_ble_eq_true rfl) rfl (fun G hG hR hF => ?_)
  refine pm_aloadn hG dX4_follower_0 rfl ?_
  refine pm_getf hG dX4_follower_1 (flX4_24 _ rfl) rfl rfl ?_
  refine pm_callV (As := []) (rest := []) hG hR dX4_follower_4 (lkX4_28 _ rfl) okV_X9_clear rfl rfl (fc_X9_clear_45 (d := 1) (by decide)) rfl rfl hdd (by decide) (by decide) (by decide) (pm_kv (fun σ' cnt' hq => ?_))
  obtain ⟨rfl, rfl⟩ := hq
  refine pm_aloadn hG dX4_follower_7 rfl ?_
  refine pm_getf hG dX4_follower_8 (flX4_9 _ rfl) rfl rfl ?_
  refine pm_getf hG dX4_follower_11 (flX4_31 _ rfl) rfl rfl ?_
  refine pm_callV (As := []) (rest := []) hG hR dX4_follower_14 (lkX4_36 _ rfl) okV_X9_used rfl rfl (tb_used (d := 1) rfl) rfl rfl hdd (by decide) (by decide) (by decide) (pm_ki (fun v σ' cnt' hq => ?_))
  obtain ⟨rfl, rfl, rfl⟩ := hq
  refine pm_istoreXn (loc' := [some (.ref (B + 37)), some (.int za), some (.int 0), none]) hG dX4_follower_17 (by decide) (pm_c1b rfl) rfl ?_
  refine pm_iconst (v := 0) hG dX4_follower_18 (by decide) ?_
  refine pm_istoreXn (loc' := [some (.ref (B + 37)), some (.int za), some (.int 0), some (.int 0)]) hG dX4_follower_19 (by decide) (pm_c1b rfl) rfl ?_
  refine pm_iloadn hG dX4_follower_20 rfl ?_
  refine pm_iloadn hG dX4_follower_21 rfl ?_
  refine pm_icmp_ge (tgt := 48) hG dX4_follower_22 rfl (fun _ => ?_) (fun q => absurd q (by decide))
  refine pm_aloadn hG dX4_follower_48 rfl ?_
  refine pm_getf hG dX4_follower_49 (flX4_24 _ rfl) rfl rfl ?_
  refine pm_iloadn hG dX4_follower_52 rfl ?_
  refine pm_callV (As := [.int za]) (rest := []) hG hR dX4_follower_53 (lkX4_48 _ rfl) okV_X9_has rfl rfl (tb_has (d := 1) rfl) rfl rfl hdd (by decide) (by decide) (by decide) (pm_ki (fun v σ' cnt' hq => ?_))
  obtain ⟨rfl, rfl, rfl⟩ := hq
  refine pm_top (v := 0) (pm_has0 _) ?_
  refine pm_if_eq (tgt := 71) hG dX4_follower_56 rfl (fun _ => ?_) (fun q => absurd q (by decide))
  refine pm_ldc hG dX4_follower_71 (ctX4_55 _ rfl) ?_
  exact pm_iret hG hF dX4_follower_73 rfl (by decide) (by decide) ⟨_, rfl, ⟨rfl, rfl, rfl⟩⟩

set_option maxRecDepth 100000 in
set_option maxHeartbeats 8000000 in
theorem oc_heir {B : Nat} {fw : Nat → Int32} {R : List pm_C} {za : Int32} {d : Nat} (hdd : 3 ≤ d) : pm_met mX11_heir d 0 0 B [.ref (B + 0), .int za] 74 (pm_cat (pm_ofL (l_k_class B fw)) 54 R) (pm_Qi (fun v σ' cnt' => v = v_heir za ∧ pm_lies σ' 54 R ∧ cnt' = 74)) := by
  refine pm_enter 0 (by decide) (Nat.le_of_ble_eq_true rfl) rfl (fun G hG hR hF => ?_)
  refine pm_aloadn hG dX11_heir_0 rfl ?_
  refine pm_iloadn hG dX11_heir_1 rfl ?_
  refine pm_if_ge (tgt := 10) hG dX11_heir_2 rfl (fun c1 => ?_) (fun c1 => ?_)
  · refine pm_aloadn hG dX11_heir_10 rfl ?_
    refine pm_getf hG dX11_heir_11 (flX11_46 _ rfl) rfl rfl ?_
    refine pm_iloadn hG dX11_heir_14 rfl ?_
    refine pm_callV (As := [.int za]) (rest := [.ref (B + 0)]) hG hR dX11_heir_15 (lkX11_326 _ rfl) okV_X4_follower rfl rfl (fc_X4_follower_44 (d := 2) (by decide)) rfl rfl hdd (by decide) (by decide) (by first | decide | exact Nat.le_of_ble_eq_true rfl) (pm_ki (fun v σ' cnt' hq => ?_))
    obtain ⟨rfl, rfl, rfl⟩ := hq
    refine pm_callV (As := [.int (-1000002)]) (rest := []) hG hR dX11_heir_18 (lkX11_97 _ rfl) okV_X11_told rfl rfl (sx_told (d := 2) (by decide) rfl rfl) rfl rfl hdd (by decide) (by decide) (by decide) (pm_ki (fun v σ' cnt' hq => ?_))
    obtain ⟨rfl, ⟨g, rfl⟩, rfl⟩ := hq
    exact pm_iret hG hF dX11_heir_21 rfl (by decide) (by decide) ⟨_, rfl, (by clear hF hR hG; first | rfl | (unfold v_heir; (repeat' split) <;> first | rfl | (exfalso; simp only [Int32.lt_iff_toInt_lt, Int32.le_iff_toInt_le, ← Int32.toInt_inj, Int32.toInt_zero, L_m1000001, L_m1000002] at *; omega) | (apply Int32.toInt_inj.mp; simp only [Int32.lt_iff_toInt_lt, Int32.le_iff_toInt_le, ← Int32.toInt_inj, Int32.toInt_zero, L_m1000001, L_m1000002] at *; omega))), (by repeat (first | exact pm_lies_cat | refine pm_lies.up0 (by decide) ?_)), rfl⟩
  · refine pm_ldc hG dX11_heir_5 (ctX11_109 _ rfl) ?_
    refine pm_goto (tgt := 18) hG dX11_heir_7 rfl ?_
    refine pm_callV (As := [.int (-1000001)]) (rest := []) hG hR dX11_heir_18 (lkX11_97 _ rfl) okV_X11_told rfl rfl (sx_told (d := 2) (by decide) rfl rfl) rfl rfl hdd (by decide) (by decide) (by decide) (pm_ki (fun v σ' cnt' hq => ?_))
    obtain ⟨rfl, ⟨g, rfl⟩, rfl⟩ := hq
    exact pm_iret hG hF dX11_heir_21 rfl (by decide) (by decide) ⟨_, rfl, (by clear hF hR hG; first | rfl | (unfold v_heir; (repeat' split) <;> first | rfl | (exfalso; simp only [Int32.lt_iff_toInt_lt, Int32.le_iff_toInt_le, ← Int32.toInt_inj, Int32.toInt_zero, L_m1000001, L_m1000002] at *; omega) | (apply Int32.toInt_inj.mp; simp only [Int32.lt_iff_toInt_lt, Int32.le_iff_toInt_le, ← Int32.toInt_inj, Int32.toInt_zero, L_m1000001, L_m1000002] at *; omega))), (by repeat (first | exact pm_lies_cat | refine pm_lies.up0 (by decide) ?_)), rfl⟩

set_option maxRecDepth 100000 in
set_option maxHeartbeats 4000000 in
theorem fc_X4_dayOfAge_46 {B : Nat} {fw : Nat → Int32} {R : List pm_C} {d : Nat} (hdd : 2 ≤ d) : pm_met mX4_dayOfAge d 0 0 B [.ref (B + 37)] 74 (pm_cat (pm_ofL (l_k_class B fw)) 54 R) (pm_Qi (fun v σ' cnt' => v = (-1000002) ∧ σ' = (pm_cat (pm_ofL (l_k_class B fw)) 54 R) ∧ cnt' = 74)) := by
  refine pm_enter 6 (by decide) (Nat.le_of_ble_eq_true rfl) rfl (fun G hG hR hF => ?_)
  refine pm_aloadn hG dX4_dayOfAge_0 rfl ?_
  refine pm_getf hG dX4_dayOfAge_1 (flX4_9 _ rfl) rfl rfl ?_
  refine pm_getf hG dX4_dayOfAge_4 (flX4_31 _ rfl) rfl rfl ?_
  refine pm_iconst (v := 0) hG dX4_dayOfAge_7 (by decide) ?_
  refine pm_callV (As := [.int 0]) (rest := []) hG hR dX4_dayOfAge_8 (lkX4_48 _ rfl) okV_X9_has rfl rfl (tb_has (d := 1) rfl) rfl rfl hdd (by decide) (by decide) (by decide) (pm_ki (fun v σ' cnt' hq => ?_))
  obtain ⟨rfl, rfl, rfl⟩ := hq
  refine pm_top (v := 0) (by decide) ?_
  refine pm_if_ne (tgt := 17) hG dX4_dayOfAge_11 rfl (fun q => absurd q (by decide)) (fun _ => ?_)
  refine pm_ldc hG dX4_dayOfAge_14 (ctX4_55 _ rfl) ?_
  exact pm_iret hG hF dX4_dayOfAge_16 rfl (by decide) (by decide) ⟨_, rfl, ⟨rfl, rfl, rfl⟩⟩

set_option maxRecDepth 100000 in
set_option maxHeartbeats 8000000 in
theorem oc_age {B : Nat} {fw : Nat → Int32} {R : List pm_C} {d : Nat} (hdd : 3 ≤ d) : pm_met mX11_age d 0 0 B [.ref (B + 0)] 74 (pm_cat (pm_ofL (l_k_class B fw)) 54 R) (pm_Qi (fun v σ' cnt' => v = v_age ∧ pm_lies σ' 54 R ∧ cnt' = 74)) := by
  refine pm_enter 0 (by decide) (Nat.le_of_ble_eq_true rfl) rfl (fun G hG hR hF => ?_)
  refine pm_aloadn hG dX11_age_0 rfl ?_
  refine pm_aloadn hG dX11_age_1 rfl ?_
  refine pm_getf hG dX11_age_2 (flX11_46 _ rfl) rfl rfl ?_
  refine pm_callV (As := []) (rest := [.ref (B + 0)]) hG hR dX11_age_5 (lkX11_329 _ rfl) okV_X4_dayOfAge rfl rfl (fc_X4_dayOfAge_46 (d := 2) (by decide)) rfl rfl hdd (by decide) (by decide) (by first | decide | exact Nat.le_of_ble_eq_true rfl) (pm_ki (fun v σ' cnt' hq => ?_))
  obtain ⟨rfl, rfl, rfl⟩ := hq
  refine pm_callV (As := [.int (-1000002)]) (rest := []) hG hR dX11_age_8 (lkX11_97 _ rfl) okV_X11_told rfl rfl (sx_told (d := 2) (by decide) rfl rfl) rfl rfl hdd (by decide) (by decide) (by decide) (pm_ki (fun v σ' cnt' hq => ?_))
  obtain ⟨rfl, ⟨g, rfl⟩, rfl⟩ := hq
  exact pm_iret hG hF dX11_age_11 rfl (by decide) (by decide) ⟨_, rfl, (by clear hF hR hG; first | rfl | (unfold v_age; (repeat' split) <;> first | rfl | (exfalso; simp only [Int32.lt_iff_toInt_lt, Int32.le_iff_toInt_le, ← Int32.toInt_inj, Int32.toInt_zero, L_m1000002] at *; omega) | (apply Int32.toInt_inj.mp; simp only [Int32.lt_iff_toInt_lt, Int32.le_iff_toInt_le, ← Int32.toInt_inj, Int32.toInt_zero, L_m1000002] at *; omega))), (by repeat (first | exact pm_lies_cat | refine pm_lies.up0 (by decide) ?_)), rfl⟩

set_option maxRecDepth 100000 in
set_option maxHeartbeats 8000000 in
theorem oc_plan {B : Nat} {fw : Nat → Int32} {R : List pm_C} {za zb : Int32} {d : Nat} (hdd : 3 ≤ d) : pm_met mX11_plan d 0 0 B [.ref (B + 0), .int za, .int zb] 74 (pm_cat (pm_ofL (l_k_class B fw)) 54 R) (pm_Qi (fun v σ' cnt' => v = v_plan za zb ∧ pm_lies σ' 54 R ∧ cnt' = 74)) := by
  refine pm_enter 2 (by decide) (Nat.le_of_ble_eq_true rfl) rfl (fun G hG hR hF => ?_)
  refine pm_aloadn hG dX11_plan_0 rfl ?_
  refine pm_getf hG dX11_plan_1 (flX11_74 _ rfl) rfl rfl ?_
  refine pm_iloadn hG dX11_plan_4 rfl ?_
  refine pm_callV (As := [.int za]) (rest := []) hG hR dX11_plan_5 (lkX11_251 _ rfl) okV_X8_has rfl rfl (fc_X8_has_31 (d := 2) (by decide)) rfl rfl hdd (by decide) (by decide) (by decide) (pm_ki (fun v σ' cnt' hq => ?_))
  rcases hq with ⟨c1, rfl, rfl, rfl⟩ | ⟨c2, c3, rfl, rfl, rfl⟩ | ⟨c4, c5, rfl, rfl, rfl⟩
  · refine pm_if_ne (tgt := 18) hG dX11_plan_8 rfl (fun q => absurd q (by decide)) (fun _ => ?_)
    refine pm_aloadn hG dX11_plan_11 rfl ?_
    refine pm_ldc hG dX11_plan_12 (ctX11_109 _ rfl) ?_
    refine pm_callV (As := [.int (-1000001)]) (rest := []) hG hR dX11_plan_14 (lkX11_97 _ rfl) okV_X11_told rfl rfl (sx_told (d := 2) (by decide) rfl rfl) rfl rfl hdd (by decide) (by decide) (by decide) (pm_ki (fun v σ' cnt' hq => ?_))
    obtain ⟨rfl, ⟨g, rfl⟩, rfl⟩ := hq
    exact pm_iret hG hF dX11_plan_17 rfl (by decide) (by decide) ⟨_, rfl, (by clear hF hR hG; first | rfl | (unfold v_plan; (repeat' split) <;> first | rfl | (exfalso; simp only [Int32.lt_iff_toInt_lt, Int32.le_iff_toInt_le, ← Int32.toInt_inj, Int32.toInt_zero, L_3, L_m1000001, L_m1000002] at *; omega) | (apply Int32.toInt_inj.mp; simp only [Int32.lt_iff_toInt_lt, Int32.le_iff_toInt_le, ← Int32.toInt_inj, Int32.toInt_zero, L_3, L_m1000001, L_m1000002] at *; omega))), (by repeat (first | exact pm_lies_cat | refine pm_lies.up0 (by decide) ?_)), rfl⟩
  · refine pm_if_ne (tgt := 18) hG dX11_plan_8 rfl (fun q => absurd q (by decide)) (fun _ => ?_)
    refine pm_aloadn hG dX11_plan_11 rfl ?_
    refine pm_ldc hG dX11_plan_12 (ctX11_109 _ rfl) ?_
    refine pm_callV (As := [.int (-1000001)]) (rest := []) hG hR dX11_plan_14 (lkX11_97 _ rfl) okV_X11_told rfl rfl (sx_told (d := 2) (by decide) rfl rfl) rfl rfl hdd (by decide) (by decide) (by decide) (pm_ki (fun v σ' cnt' hq => ?_))
    obtain ⟨rfl, ⟨g, rfl⟩, rfl⟩ := hq
    exact pm_iret hG hF dX11_plan_17 rfl (by decide) (by decide) ⟨_, rfl, (by clear hF hR hG; first | rfl | (unfold v_plan; (repeat' split) <;> first | rfl | (exfalso; simp only [Int32.lt_iff_toInt_lt, Int32.le_iff_toInt_le, ← Int32.toInt_inj, Int32.toInt_zero, L_3, L_4, L_m1000001, L_m1000002] at *; omega) | (apply Int32.toInt_inj.mp; simp only [Int32.lt_iff_toInt_lt, Int32.le_iff_toInt_le, ← Int32.toInt_inj, Int32.toInt_zero, L_3, L_4, L_m1000001, L_m1000002] at *; omega))), (by repeat (first | exact pm_lies_cat | refine pm_lies.up0 (by decide) ?_)), rfl⟩
  · refine pm_if_ne (tgt := 18) hG dX11_plan_8 rfl (fun _ => ?_) (fun q => absurd q (by decide))
    refine pm_aloadn hG dX11_plan_18 rfl ?_
    refine pm_getf hG dX11_plan_19 (flX11_74 _ rfl) rfl rfl ?_
    refine pm_iloadn hG dX11_plan_22 rfl ?_
    refine pm_callV (As := [.int za]) (rest := []) hG hR dX11_plan_23 (lkX11_255 _ rfl) okV_X8_isMissing rfl rfl (fc_X8_isMissing_33 (d := 2) (by decide)) rfl rfl hdd (by decide) (by decide) (by decide) (pm_ki (fun v σ' cnt' hq => ?_))
    rcases hq with ⟨c6, rfl, rfl, rfl⟩ | ⟨c7, c8, rfl, rfl, rfl⟩ | ⟨c9, c10, rfl, rfl, rfl⟩
    · refine pm_if_eq (tgt := 36) hG dX11_plan_26 rfl (fun q => absurd q (by decide)) (fun _ => ?_)
      refine pm_aloadn hG dX11_plan_29 rfl ?_
      refine pm_ldc hG dX11_plan_30 (ctX11_223 _ rfl) ?_
      refine pm_callV (As := [.int (-1000002)]) (rest := []) hG hR dX11_plan_32 (lkX11_97 _ rfl) okV_X11_told rfl rfl (sx_told (d := 2) (by decide) rfl rfl) rfl rfl hdd (by decide) (by decide) (by decide) (pm_ki (fun v σ' cnt' hq => ?_))
      obtain ⟨rfl, ⟨g, rfl⟩, rfl⟩ := hq
      exact pm_iret hG hF dX11_plan_35 rfl (by decide) (by decide) ⟨_, rfl, (by clear hF hR hG; first | rfl | (unfold v_plan; (repeat' split) <;> first | rfl | (exfalso; simp only [Int32.lt_iff_toInt_lt, Int32.le_iff_toInt_le, ← Int32.toInt_inj, Int32.toInt_zero, L_3, L_4, L_m1000001, L_m1000002] at *; omega) | (apply Int32.toInt_inj.mp; simp only [Int32.lt_iff_toInt_lt, Int32.le_iff_toInt_le, ← Int32.toInt_inj, Int32.toInt_zero, L_3, L_4, L_m1000001, L_m1000002] at *; omega))), (by repeat (first | exact pm_lies_cat | refine pm_lies.up0 (by decide) ?_)), rfl⟩
    · refine pm_if_eq (tgt := 36) hG dX11_plan_26 rfl (fun q => absurd q (by decide)) (fun _ => ?_)
      refine pm_aloadn hG dX11_plan_29 rfl ?_
      refine pm_ldc hG dX11_plan_30 (ctX11_223 _ rfl) ?_
      refine pm_callV (As := [.int (-1000002)]) (rest := []) hG hR dX11_plan_32 (lkX11_97 _ rfl) okV_X11_told rfl rfl (sx_told (d := 2) (by decide) rfl rfl) rfl rfl hdd (by decide) (by decide) (by decide) (pm_ki (fun v σ' cnt' hq => ?_))
      obtain ⟨rfl, ⟨g, rfl⟩, rfl⟩ := hq
      exact pm_iret hG hF dX11_plan_35 rfl (by decide) (by decide) ⟨_, rfl, (by clear hF hR hG; first | rfl | (unfold v_plan; (repeat' split) <;> first | rfl | (exfalso; simp only [Int32.lt_iff_toInt_lt, Int32.le_iff_toInt_le, ← Int32.toInt_inj, Int32.toInt_zero, L_3, L_4, L_m1000001, L_m1000002] at *; omega) | (apply Int32.toInt_inj.mp; simp only [Int32.lt_iff_toInt_lt, Int32.le_iff_toInt_le, ← Int32.toInt_inj, Int32.toInt_zero, L_3, L_4, L_m1000001, L_m1000002] at *; omega))), (by repeat (first | exact pm_lies_cat | refine pm_lies.up0 (by decide) ?_)), rfl⟩
    · refine pm_if_eq (tgt := 36) hG dX11_plan_26 rfl (fun q => absurd q (by decide)) (fun _ => ?_)
      refine pm_aloadn hG dX11_plan_29 rfl ?_
      refine pm_ldc hG dX11_plan_30 (ctX11_223 _ rfl) ?_
      refine pm_callV (As := [.int (-1000002)]) (rest := []) hG hR dX11_plan_32 (lkX11_97 _ rfl) okV_X11_told rfl rfl (sx_told (d := 2) (by decide) rfl rfl) rfl rfl hdd (by decide) (by decide) (by decide) (pm_ki (fun v σ' cnt' hq => ?_))
      obtain ⟨rfl, ⟨g, rfl⟩, rfl⟩ := hq
      exact pm_iret hG hF dX11_plan_35 rfl (by decide) (by decide) ⟨_, rfl, (by clear hF hR hG; first | rfl | (unfold v_plan; (repeat' split) <;> first | rfl | (exfalso; simp only [Int32.lt_iff_toInt_lt, Int32.le_iff_toInt_le, ← Int32.toInt_inj, Int32.toInt_zero, L_3, L_4, L_m1000001, L_m1000002] at *; omega) | (apply Int32.toInt_inj.mp; simp only [Int32.lt_iff_toInt_lt, Int32.le_iff_toInt_le, ← Int32.toInt_inj, Int32.toInt_zero, L_3, L_4, L_m1000001, L_m1000002] at *; omega))), (by repeat (first | exact pm_lies_cat | refine pm_lies.up0 (by decide) ?_)), rfl⟩

set_option maxRecDepth 100000 in
set_option maxHeartbeats 8000000 in
theorem oc_trace {B : Nat} {fw : Nat → Int32} {R : List pm_C} {za : Int32} {d : Nat} (hdd : 2 ≤ d) : pm_met mX11_trace d 0 0 B [.ref (B + 0), .int za] 74 (pm_cat (pm_ofL (l_k_class B fw)) 54 R) (pm_Qi (fun v σ' cnt' => v = v_trace za ∧ pm_lies σ' 54 R ∧ cnt' = 74)) := by
  refine pm_enter 0 (by decide) (Nat.le_of_ble_eq_true rfl) rfl (fun G hG hR hF => ?_)
  refine pm_aloadn hG dX11_trace_0 rfl ?_
  refine pm_iloadn hG dX11_trace_1 rfl ?_
  refine pm_if_lt (tgt := 27) hG dX11_trace_2 rfl (fun c1 => ?_) (fun c1 => ?_)
  · refine pm_ldc hG dX11_trace_27 (ctX11_223 _ rfl) ?_
    refine pm_callV (As := [.int (-1000002)]) (rest := []) hG hR dX11_trace_29 (lkX11_97 _ rfl) okV_X11_told rfl rfl (sx_told (d := 1) (by decide) rfl rfl) rfl rfl hdd (by decide) (by decide) (by decide) (pm_ki (fun v σ' cnt' hq => ?_))
    obtain ⟨rfl, ⟨g, rfl⟩, rfl⟩ := hq
    exact pm_iret hG hF dX11_trace_32 rfl (by decide) (by decide) ⟨_, rfl, (by clear hF hR hG; first | rfl | (unfold v_trace; (repeat' split) <;> first | rfl | (exfalso; simp only [Int32.lt_iff_toInt_lt, Int32.le_iff_toInt_le, ← Int32.toInt_inj, Int32.toInt_zero, L_m1000002] at *; omega) | (apply Int32.toInt_inj.mp; simp only [Int32.lt_iff_toInt_lt, Int32.le_iff_toInt_le, ← Int32.toInt_inj, Int32.toInt_zero, L_m1000002] at *; omega))), (by repeat (first | exact pm_lies_cat | refine pm_lies.up0 (by decide) ?_)), rfl⟩
  · refine pm_iloadn hG dX11_trace_5 rfl ?_
    refine pm_aloadn hG dX11_trace_6 rfl ?_
    refine pm_getf hG dX11_trace_7 (flX11_67 _ rfl) rfl rfl ?_
    refine pm_getf hG dX11_trace_10 (flX11_358 _ rfl) rfl rfl ?_
    refine pm_icmp_ge (tgt := 27) hG dX11_trace_13 rfl (fun _ => ?_) (fun q => False.elim (by revert c1 q; simp only [Int32.lt_iff_toInt_lt, Int32.le_iff_toInt_le, ← Int32.toInt_inj, Int32.toInt_zero]; omega))
    refine pm_ldc hG dX11_trace_27 (ctX11_223 _ rfl) ?_
    refine pm_callV (As := [.int (-1000002)]) (rest := []) hG hR dX11_trace_29 (lkX11_97 _ rfl) okV_X11_told rfl rfl (sx_told (d := 1) (by decide) rfl rfl) rfl rfl hdd (by decide) (by decide) (by decide) (pm_ki (fun v σ' cnt' hq => ?_))
    obtain ⟨rfl, ⟨g, rfl⟩, rfl⟩ := hq
    exact pm_iret hG hF dX11_trace_32 rfl (by decide) (by decide) ⟨_, rfl, (by clear hF hR hG; first | rfl | (unfold v_trace; (repeat' split) <;> first | rfl | (exfalso; simp only [Int32.lt_iff_toInt_lt, Int32.le_iff_toInt_le, ← Int32.toInt_inj, Int32.toInt_zero, L_m1000002] at *; omega) | (apply Int32.toInt_inj.mp; simp only [Int32.lt_iff_toInt_lt, Int32.le_iff_toInt_le, ← Int32.toInt_inj, Int32.toInt_zero, L_m1000002] at *; omega))), (by repeat (first | exact pm_lies_cat | refine pm_lies.up0 (by decide) ?_)), rfl⟩

set_option maxRecDepth 100000 in
set_option maxHeartbeats 4000000 in
theorem fc_X8_layOut_47 {B : Nat} {fw : Nat → Int32} {R : List pm_C} {za zb : Int32} {d : Nat} (hdd : 2 ≤ d) : pm_met mX8_layOut d 0 0 B [.ref (B + 48), .int za, .int zb, .int 0] 74 (pm_cat (pm_ofL (l_k_class B fw)) 54 R) (pm_Qv (fun σ' cnt' => ((za < 0) ∧ σ' = (pm_up (pm_up (pm_up (pm_up (pm_up (pm_up (pm_up (pm_up (pm_up (pm_up (pm_up (pm_up (pm_up (pm_up (pm_up (pm_up (pm_up (pm_up (pm_up (pm_up (pm_up (pm_up (pm_up (pm_up (pm_cat (pm_ofL (l_k_class B fw)) 54 R) 52 (.inl (96, pm_ts 4 24 (fun _ => 0) za 0 0))) 52 (.inl (96, pm_ts 4 24 (pm_ts 4 24 (fun _ => 0) za 0 0) za 1 0))) 52 (.inl (96, pm_ts 4 24 (pm_ts 4 24 (pm_ts 4 24 (fun _ => 0) za 0 0) za 1 0) za 2 0))) 52 (.inl (96, pm_ts 4 24 (pm_ts 4 24 (pm_ts 4 24 (pm_ts 4 24 (fun _ => 0) za 0 0) za 1 0) za 2 0) za 3 0))) 52 (.inl (96, pm_ts 4 24 (pm_ts 4 24 (pm_ts 4 24 (pm_ts 4 24 (pm_ts 4 24 (fun _ => 0) za 0 0) za 1 0) za 2 0) za 3 0) za 4 0))) 52 (.inl (96, pm_ts 4 24 (pm_ts 4 24 (pm_ts 4 24 (pm_ts 4 24 (pm_ts 4 24 (pm_ts 4 24 (fun _ => 0) za 0 0) za 1 0) za 2 0) za 3 0) za 4 0) za 5 0))) 52 (.inl (96, pm_ts 4 24 (pm_ts 4 24 (pm_ts 4 24 (pm_ts 4 24 (pm_ts 4 24 (pm_ts 4 24 (pm_ts 4 24 (fun _ => 0) za 0 0) za 1 0) za 2 0) za 3 0) za 4 0) za 5 0) za 6 0))) 52 (.inl (96, pm_ts 4 24 (pm_ts 4 24 (pm_ts 4 24 (pm_ts 4 24 (pm_ts 4 24 (pm_ts 4 24 (pm_ts 4 24 (pm_ts 4 24 (fun _ => 0) za 0 0) za 1 0) za 2 0) za 3 0) za 4 0) za 5 0) za 6 0) za 7 0))) 52 (.inl (96, pm_ts 4 24 (pm_ts 4 24 (pm_ts 4 24 (pm_ts 4 24 (pm_ts 4 24 (pm_ts 4 24 (pm_ts 4 24 (pm_ts 4 24 (pm_ts 4 24 (fun _ => 0) za 0 0) za 1 0) za 2 0) za 3 0) za 4 0) za 5 0) za 6 0) za 7 0) za 8 0))) 52 (.inl (96, pm_ts 4 24 (pm_ts 4 24 (pm_ts 4 24 (pm_ts 4 24 (pm_ts 4 24 (pm_ts 4 24 (pm_ts 4 24 (pm_ts 4 24 (pm_ts 4 24 (pm_ts 4 24 (fun _ => 0) za 0 0) za 1 0) za 2 0) za 3 0) za 4 0) za 5 0) za 6 0) za 7 0) za 8 0) za 9 0))) 52 (.inl (96, pm_ts 4 24 (pm_ts 4 24 (pm_ts 4 24 (pm_ts 4 24 (pm_ts 4 24 (pm_ts 4 24 (pm_ts 4 24 (pm_ts 4 24 (pm_ts 4 24 (pm_ts 4 24 (pm_ts 4 24 (fun _ => 0) za 0 0) za 1 0) za 2 0) za 3 0) za 4 0) za 5 0) za 6 0) za 7 0) za 8 0) za 9 0) za 10 0))) 52 (.inl (96, pm_ts 4 24 (pm_ts 4 24 (pm_ts 4 24 (pm_ts 4 24 (pm_ts 4 24 (pm_ts 4 24 (pm_ts 4 24 (pm_ts 4 24 (pm_ts 4 24 (pm_ts 4 24 (pm_ts 4 24 (pm_ts 4 24 (fun _ => 0) za 0 0) za 1 0) za 2 0) za 3 0) za 4 0) za 5 0) za 6 0) za 7 0) za 8 0) za 9 0) za 10 0) za 11 0))) 52 (.inl (96, pm_ts 4 24 (pm_ts 4 24 (pm_ts 4 24 (pm_ts 4 24 (pm_ts 4 24 (pm_ts 4 24 (pm_ts 4 24 (pm_ts 4 24 (pm_ts 4 24 (pm_ts 4 24 (pm_ts 4 24 (pm_ts 4 24 (pm_ts 4 24 (fun _ => 0) za 0 0) za 1 0) za 2 0) za 3 0) za 4 0) za 5 0) za 6 0) za 7 0) za 8 0) za 9 0) za 10 0) za 11 0) za 12 0))) 52 (.inl (96, pm_ts 4 24 (pm_ts 4 24 (pm_ts 4 24 (pm_ts 4 24 (pm_ts 4 24 (pm_ts 4 24 (pm_ts 4 24 (pm_ts 4 24 (pm_ts 4 24 (pm_ts 4 24 (pm_ts 4 24 (pm_ts 4 24 (pm_ts 4 24 (pm_ts 4 24 (fun _ => 0) za 0 0) za 1 0) za 2 0) za 3 0) za 4 0) za 5 0) za 6 0) za 7 0) za 8 0) za 9 0) za 10 0) za 11 0) za 12 0) za 13 0))) 52 (.inl (96, pm_ts 4 24 (pm_ts 4 24 (pm_ts 4 24 (pm_ts 4 24 (pm_ts 4 24 (pm_ts 4 24 (pm_ts 4 24 (pm_ts 4 24 (pm_ts 4 24 (pm_ts 4 24 (pm_ts 4 24 (pm_ts 4 24 (pm_ts 4 24 (pm_ts 4 24 (pm_ts 4 24 (fun _ => 0) za 0 0) za 1 0) za 2 0) za 3 0) za 4 0) za 5 0) za 6 0) za 7 0) za 8 0) za 9 0) za 10 0) za 11 0) za 12 0) za 13 0) za 14 0))) 52 (.inl (96, pm_ts 4 24 (pm_ts 4 24 (pm_ts 4 24 (pm_ts 4 24 (pm_ts 4 24 (pm_ts 4 24 (pm_ts 4 24 (pm_ts 4 24 (pm_ts 4 24 (pm_ts 4 24 (pm_ts 4 24 (pm_ts 4 24 (pm_ts 4 24 (pm_ts 4 24 (pm_ts 4 24 (pm_ts 4 24 (fun _ => 0) za 0 0) za 1 0) za 2 0) za 3 0) za 4 0) za 5 0) za 6 0) za 7 0) za 8 0) za 9 0) za 10 0) za 11 0) za 12 0) za 13 0) za 14 0) za 15 0))) 52 (.inl (96, pm_ts 4 24 (pm_ts 4 24 (pm_ts 4 24 (pm_ts 4 24 (pm_ts 4 24 (pm_ts 4 24 (pm_ts 4 24 (pm_ts 4 24 (pm_ts 4 24 (pm_ts 4 24 (pm_ts 4 24 (pm_ts 4 24 (pm_ts 4 24 (pm_ts 4 24 (pm_ts 4 24 (pm_ts 4 24 (pm_ts 4 24 (fun _ => 0) za 0 0) za 1 0) za 2 0) za 3 0) za 4 0) za 5 0) za 6 0) za 7 0) za 8 0) za 9 0) za 10 0) za 11 0) za 12 0) za 13 0) za 14 0) za 15 0) za 16 0))) 52 (.inl (96, pm_ts 4 24 (pm_ts 4 24 (pm_ts 4 24 (pm_ts 4 24 (pm_ts 4 24 (pm_ts 4 24 (pm_ts 4 24 (pm_ts 4 24 (pm_ts 4 24 (pm_ts 4 24 (pm_ts 4 24 (pm_ts 4 24 (pm_ts 4 24 (pm_ts 4 24 (pm_ts 4 24 (pm_ts 4 24 (pm_ts 4 24 (pm_ts 4 24 (fun _ => 0) za 0 0) za 1 0) za 2 0) za 3 0) za 4 0) za 5 0) za 6 0) za 7 0) za 8 0) za 9 0) za 10 0) za 11 0) za 12 0) za 13 0) za 14 0) za 15 0) za 16 0) za 17 0))) 52 (.inl (96, pm_ts 4 24 (pm_ts 4 24 (pm_ts 4 24 (pm_ts 4 24 (pm_ts 4 24 (pm_ts 4 24 (pm_ts 4 24 (pm_ts 4 24 (pm_ts 4 24 (pm_ts 4 24 (pm_ts 4 24 (pm_ts 4 24 (pm_ts 4 24 (pm_ts 4 24 (pm_ts 4 24 (pm_ts 4 24 (pm_ts 4 24 (pm_ts 4 24 (pm_ts 4 24 (fun _ => 0) za 0 0) za 1 0) za 2 0) za 3 0) za 4 0) za 5 0) za 6 0) za 7 0) za 8 0) za 9 0) za 10 0) za 11 0) za 12 0) za 13 0) za 14 0) za 15 0) za 16 0) za 17 0) za 18 0))) 52 (.inl (96, pm_ts 4 24 (pm_ts 4 24 (pm_ts 4 24 (pm_ts 4 24 (pm_ts 4 24 (pm_ts 4 24 (pm_ts 4 24 (pm_ts 4 24 (pm_ts 4 24 (pm_ts 4 24 (pm_ts 4 24 (pm_ts 4 24 (pm_ts 4 24 (pm_ts 4 24 (pm_ts 4 24 (pm_ts 4 24 (pm_ts 4 24 (pm_ts 4 24 (pm_ts 4 24 (pm_ts 4 24 (fun _ => 0) za 0 0) za 1 0) za 2 0) za 3 0) za 4 0) za 5 0) za 6 0) za 7 0) za 8 0) za 9 0) za 10 0) za 11 0) za 12 0) za 13 0) za 14 0) za 15 0) za 16 0) za 17 0) za 18 0) za 19 0))) 52 (.inl (96, pm_ts 4 24 (pm_ts 4 24 (pm_ts 4 24 (pm_ts 4 24 (pm_ts 4 24 (pm_ts 4 24 (pm_ts 4 24 (pm_ts 4 24 (pm_ts 4 24 (pm_ts 4 24 (pm_ts 4 24 (pm_ts 4 24 (pm_ts 4 24 (pm_ts 4 24 (pm_ts 4 24 (pm_ts 4 24 (pm_ts 4 24 (pm_ts 4 24 (pm_ts 4 24 (pm_ts 4 24 (pm_ts 4 24 (fun _ => 0) za 0 0) za 1 0) za 2 0) za 3 0) za 4 0) za 5 0) za 6 0) za 7 0) za 8 0) za 9 0) za 10 0) za 11 0) za 12 0) za 13 0) za 14 0) za 15 0) za 16 0) za 17 0) za 18 0) za 19 0) za 20 0))) 52 (.inl (96, pm_ts 4 24 (pm_ts 4 24 (pm_ts 4 24 (pm_ts 4 24 (pm_ts 4 24 (pm_ts 4 24 (pm_ts 4 24 (pm_ts 4 24 (pm_ts 4 24 (pm_ts 4 24 (pm_ts 4 24 (pm_ts 4 24 (pm_ts 4 24 (pm_ts 4 24 (pm_ts 4 24 (pm_ts 4 24 (pm_ts 4 24 (pm_ts 4 24 (pm_ts 4 24 (pm_ts 4 24 (pm_ts 4 24 (pm_ts 4 24 (fun _ => 0) za 0 0) za 1 0) za 2 0) za 3 0) za 4 0) za 5 0) za 6 0) za 7 0) za 8 0) za 9 0) za 10 0) za 11 0) za 12 0) za 13 0) za 14 0) za 15 0) za 16 0) za 17 0) za 18 0) za 19 0) za 20 0) za 21 0))) 52 (.inl (96, pm_ts 4 24 (pm_ts 4 24 (pm_ts 4 24 (pm_ts 4 24 (pm_ts 4 24 (pm_ts 4 24 (pm_ts 4 24 (pm_ts 4 24 (pm_ts 4 24 (pm_ts 4 24 (pm_ts 4 24 (pm_ts 4 24 (pm_ts 4 24 (pm_ts 4 24 (pm_ts 4 24 (pm_ts 4 24 (pm_ts 4 24 (pm_ts 4 24 (pm_ts 4 24 (pm_ts 4 24 (pm_ts 4 24 (pm_ts 4 24 (pm_ts 4 24 (fun _ => 0) za 0 0) za 1 0) za 2 0) za 3 0) za 4 0) za 5 0) za 6 0) za 7 0) za 8 0) za 9 0) za 10 0) za 11 0) za 12 0) za 13 0) za 14 0) za 15 0) za 16 0) za 17 0) za 18 0) za 19 0) za 20 0) za 21 0) za 22 0))) 52 (.inl (96, pm_ts 4 24 (pm_ts 4 24 (pm_ts 4 24 (pm_ts 4 24 (pm_ts 4 24 (pm_ts 4 24 (pm_ts 4 24 (pm_ts 4 24 (pm_ts 4 24 (pm_ts 4 24 (pm_ts 4 24 (pm_ts 4 24 (pm_ts 4 24 (pm_ts 4 24 (pm_ts 4 24 (pm_ts 4 24 (pm_ts 4 24 (pm_ts 4 24 (pm_ts 4 24 (pm_ts 4 24 (pm_ts 4 24 (pm_ts 4 24 (pm_ts 4 24 (pm_ts 4 24 (fun _ => 0) za 0 0) za 1 0) za 2 0) za 3 0) za 4 0) za 5 0) za 6 0) za 7 0) za 8 0) za 9 0) za 10 0) za 11 0) za 12 0) za 13 0) za 14 0) za 15 0) za 16 0) za 17 0) za 18 0) za 19 0) za 20 0) za 21 0) za 22 0) za 23 0))) ∧ cnt' = 74) ∨ ((¬ (za < 0)) ∧ (4 ≤ za) ∧ σ' = (pm_up (pm_up (pm_up (pm_up (pm_up (pm_up (pm_up (pm_up (pm_up (pm_up (pm_up (pm_up (pm_up (pm_up (pm_up (pm_up (pm_up (pm_up (pm_up (pm_up (pm_up (pm_up (pm_up (pm_up (pm_cat (pm_ofL (l_k_class B fw)) 54 R) 52 (.inl (96, pm_ts 4 24 (fun _ => 0) za 0 0))) 52 (.inl (96, pm_ts 4 24 (pm_ts 4 24 (fun _ => 0) za 0 0) za 1 0))) 52 (.inl (96, pm_ts 4 24 (pm_ts 4 24 (pm_ts 4 24 (fun _ => 0) za 0 0) za 1 0) za 2 0))) 52 (.inl (96, pm_ts 4 24 (pm_ts 4 24 (pm_ts 4 24 (pm_ts 4 24 (fun _ => 0) za 0 0) za 1 0) za 2 0) za 3 0))) 52 (.inl (96, pm_ts 4 24 (pm_ts 4 24 (pm_ts 4 24 (pm_ts 4 24 (pm_ts 4 24 (fun _ => 0) za 0 0) za 1 0) za 2 0) za 3 0) za 4 0))) 52 (.inl (96, pm_ts 4 24 (pm_ts 4 24 (pm_ts 4 24 (pm_ts 4 24 (pm_ts 4 24 (pm_ts 4 24 (fun _ => 0) za 0 0) za 1 0) za 2 0) za 3 0) za 4 0) za 5 0))) 52 (.inl (96, pm_ts 4 24 (pm_ts 4 24 (pm_ts 4 24 (pm_ts 4 24 (pm_ts 4 24 (pm_ts 4 24 (pm_ts 4 24 (fun _ => 0) za 0 0) za 1 0) za 2 0) za 3 0) za 4 0) za 5 0) za 6 0))) 52 (.inl (96, pm_ts 4 24 (pm_ts 4 24 (pm_ts 4 24 (pm_ts 4 24 (pm_ts 4 24 (pm_ts 4 24 (pm_ts 4 24 (pm_ts 4 24 (fun _ => 0) za 0 0) za 1 0) za 2 0) za 3 0) za 4 0) za 5 0) za 6 0) za 7 0))) 52 (.inl (96, pm_ts 4 24 (pm_ts 4 24 (pm_ts 4 24 (pm_ts 4 24 (pm_ts 4 24 (pm_ts 4 24 (pm_ts 4 24 (pm_ts 4 24 (pm_ts 4 24 (fun _ => 0) za 0 0) za 1 0) za 2 0) za 3 0) za 4 0) za 5 0) za 6 0) za 7 0) za 8 0))) 52 (.inl (96, pm_ts 4 24 (pm_ts 4 24 (pm_ts 4 24 (pm_ts 4 24 (pm_ts 4 24 (pm_ts 4 24 (pm_ts 4 24 (pm_ts 4 24 (pm_ts 4 24 (pm_ts 4 24 (fun _ => 0) za 0 0) za 1 0) za 2 0) za 3 0) za 4 0) za 5 0) za 6 0) za 7 0) za 8 0) za 9 0))) 52 (.inl (96, pm_ts 4 24 (pm_ts 4 24 (pm_ts 4 24 (pm_ts 4 24 (pm_ts 4 24 (pm_ts 4 24 (pm_ts 4 24 (pm_ts 4 24 (pm_ts 4 24 (pm_ts 4 24 (pm_ts 4 24 (fun _ => 0) za 0 0) za 1 0) za 2 0) za 3 0) za 4 0) za 5 0) za 6 0) za 7 0) za 8 0) za 9 0) za 10 0))) 52 (.inl (96, pm_ts 4 24 (pm_ts 4 24 (pm_ts 4 24 (pm_ts 4 24 (pm_ts 4 24 (pm_ts 4 24 (pm_ts 4 24 (pm_ts 4 24 (pm_ts 4 24 (pm_ts 4 24 (pm_ts 4 24 (pm_ts 4 24 (fun _ => 0) za 0 0) za 1 0) za 2 0) za 3 0) za 4 0) za 5 0) za 6 0) za 7 0) za 8 0) za 9 0) za 10 0) za 11 0))) 52 (.inl (96, pm_ts 4 24 (pm_ts 4 24 (pm_ts 4 24 (pm_ts 4 24 (pm_ts 4 24 (pm_ts 4 24 (pm_ts 4 24 (pm_ts 4 24 (pm_ts 4 24 (pm_ts 4 24 (pm_ts 4 24 (pm_ts 4 24 (pm_ts 4 24 (fun _ => 0) za 0 0) za 1 0) za 2 0) za 3 0) za 4 0) za 5 0) za 6 0) za 7 0) za 8 0) za 9 0) za 10 0) za 11 0) za 12 0))) 52 (.inl (96, pm_ts 4 24 (pm_ts 4 24 (pm_ts 4 24 (pm_ts 4 24 (pm_ts 4 24 (pm_ts 4 24 (pm_ts 4 24 (pm_ts 4 24 (pm_ts 4 24 (pm_ts 4 24 (pm_ts 4 24 (pm_ts 4 24 (pm_ts 4 24 (pm_ts 4 24 (fun _ => 0) za 0 0) za 1 0) za 2 0) za 3 0) za 4 0) za 5 0) za 6 0) za 7 0) za 8 0) za 9 0) za 10 0) za 11 0) za 12 0) za 13 0))) 52 (.inl (96, pm_ts 4 24 (pm_ts 4 24 (pm_ts 4 24 (pm_ts 4 24 (pm_ts 4 24 (pm_ts 4 24 (pm_ts 4 24 (pm_ts 4 24 (pm_ts 4 24 (pm_ts 4 24 (pm_ts 4 24 (pm_ts 4 24 (pm_ts 4 24 (pm_ts 4 24 (pm_ts 4 24 (fun _ => 0) za 0 0) za 1 0) za 2 0) za 3 0) za 4 0) za 5 0) za 6 0) za 7 0) za 8 0) za 9 0) za 10 0) za 11 0) za 12 0) za 13 0) za 14 0))) 52 (.inl (96, pm_ts 4 24 (pm_ts 4 24 (pm_ts 4 24 (pm_ts 4 24 (pm_ts 4 24 (pm_ts 4 24 (pm_ts 4 24 (pm_ts 4 24 (pm_ts 4 24 (pm_ts 4 24 (pm_ts 4 24 (pm_ts 4 24 (pm_ts 4 24 (pm_ts 4 24 (pm_ts 4 24 (pm_ts 4 24 (fun _ => 0) za 0 0) za 1 0) za 2 0) za 3 0) za 4 0) za 5 0) za 6 0) za 7 0) za 8 0) za 9 0) za 10 0) za 11 0) za 12 0) za 13 0) za 14 0) za 15 0))) 52 (.inl (96, pm_ts 4 24 (pm_ts 4 24 (pm_ts 4 24 (pm_ts 4 24 (pm_ts 4 24 (pm_ts 4 24 (pm_ts 4 24 (pm_ts 4 24 (pm_ts 4 24 (pm_ts 4 24 (pm_ts 4 24 (pm_ts 4 24 (pm_ts 4 24 (pm_ts 4 24 (pm_ts 4 24 (pm_ts 4 24 (pm_ts 4 24 (fun _ => 0) za 0 0) za 1 0) za 2 0) za 3 0) za 4 0) za 5 0) za 6 0) za 7 0) za 8 0) za 9 0) za 10 0) za 11 0) za 12 0) za 13 0) za 14 0) za 15 0) za 16 0))) 52 (.inl (96, pm_ts 4 24 (pm_ts 4 24 (pm_ts 4 24 (pm_ts 4 24 (pm_ts 4 24 (pm_ts 4 24 (pm_ts 4 24 (pm_ts 4 24 (pm_ts 4 24 (pm_ts 4 24 (pm_ts 4 24 (pm_ts 4 24 (pm_ts 4 24 (pm_ts 4 24 (pm_ts 4 24 (pm_ts 4 24 (pm_ts 4 24 (pm_ts 4 24 (fun _ => 0) za 0 0) za 1 0) za 2 0) za 3 0) za 4 0) za 5 0) za 6 0) za 7 0) za 8 0) za 9 0) za 10 0) za 11 0) za 12 0) za 13 0) za 14 0) za 15 0) za 16 0) za 17 0))) 52 (.inl (96, pm_ts 4 24 (pm_ts 4 24 (pm_ts 4 24 (pm_ts 4 24 (pm_ts 4 24 (pm_ts 4 24 (pm_ts 4 24 (pm_ts 4 24 (pm_ts 4 24 (pm_ts 4 24 (pm_ts 4 24 (pm_ts 4 24 (pm_ts 4 24 (pm_ts 4 24 (pm_ts 4 24 (pm_ts 4 24 (pm_ts 4 24 (pm_ts 4 24 (pm_ts 4 24 (fun _ => 0) za 0 0) za 1 0) za 2 0) za 3 0) za 4 0) za 5 0) za 6 0) za 7 0) za 8 0) za 9 0) za 10 0) za 11 0) za 12 0) za 13 0) za 14 0) za 15 0) za 16 0) za 17 0) za 18 0))) 52 (.inl (96, pm_ts 4 24 (pm_ts 4 24 (pm_ts 4 24 (pm_ts 4 24 (pm_ts 4 24 (pm_ts 4 24 (pm_ts 4 24 (pm_ts 4 24 (pm_ts 4 24 (pm_ts 4 24 (pm_ts 4 24 (pm_ts 4 24 (pm_ts 4 24 (pm_ts 4 24 (pm_ts 4 24 (pm_ts 4 24 (pm_ts 4 24 (pm_ts 4 24 (pm_ts 4 24 (pm_ts 4 24 (fun _ => 0) za 0 0) za 1 0) za 2 0) za 3 0) za 4 0) za 5 0) za 6 0) za 7 0) za 8 0) za 9 0) za 10 0) za 11 0) za 12 0) za 13 0) za 14 0) za 15 0) za 16 0) za 17 0) za 18 0) za 19 0))) 52 (.inl (96, pm_ts 4 24 (pm_ts 4 24 (pm_ts 4 24 (pm_ts 4 24 (pm_ts 4 24 (pm_ts 4 24 (pm_ts 4 24 (pm_ts 4 24 (pm_ts 4 24 (pm_ts 4 24 (pm_ts 4 24 (pm_ts 4 24 (pm_ts 4 24 (pm_ts 4 24 (pm_ts 4 24 (pm_ts 4 24 (pm_ts 4 24 (pm_ts 4 24 (pm_ts 4 24 (pm_ts 4 24 (pm_ts 4 24 (fun _ => 0) za 0 0) za 1 0) za 2 0) za 3 0) za 4 0) za 5 0) za 6 0) za 7 0) za 8 0) za 9 0) za 10 0) za 11 0) za 12 0) za 13 0) za 14 0) za 15 0) za 16 0) za 17 0) za 18 0) za 19 0) za 20 0))) 52 (.inl (96, pm_ts 4 24 (pm_ts 4 24 (pm_ts 4 24 (pm_ts 4 24 (pm_ts 4 24 (pm_ts 4 24 (pm_ts 4 24 (pm_ts 4 24 (pm_ts 4 24 (pm_ts 4 24 (pm_ts 4 24 (pm_ts 4 24 (pm_ts 4 24 (pm_ts 4 24 (pm_ts 4 24 (pm_ts 4 24 (pm_ts 4 24 (pm_ts 4 24 (pm_ts 4 24 (pm_ts 4 24 (pm_ts 4 24 (pm_ts 4 24 (fun _ => 0) za 0 0) za 1 0) za 2 0) za 3 0) za 4 0) za 5 0) za 6 0) za 7 0) za 8 0) za 9 0) za 10 0) za 11 0) za 12 0) za 13 0) za 14 0) za 15 0) za 16 0) za 17 0) za 18 0) za 19 0) za 20 0) za 21 0))) 52 (.inl (96, pm_ts 4 24 (pm_ts 4 24 (pm_ts 4 24 (pm_ts 4 24 (pm_ts 4 24 (pm_ts 4 24 (pm_ts 4 24 (pm_ts 4 24 (pm_ts 4 24 (pm_ts 4 24 (pm_ts 4 24 (pm_ts 4 24 (pm_ts 4 24 (pm_ts 4 24 (pm_ts 4 24 (pm_ts 4 24 (pm_ts 4 24 (pm_ts 4 24 (pm_ts 4 24 (pm_ts 4 24 (pm_ts 4 24 (pm_ts 4 24 (pm_ts 4 24 (fun _ => 0) za 0 0) za 1 0) za 2 0) za 3 0) za 4 0) za 5 0) za 6 0) za 7 0) za 8 0) za 9 0) za 10 0) za 11 0) za 12 0) za 13 0) za 14 0) za 15 0) za 16 0) za 17 0) za 18 0) za 19 0) za 20 0) za 21 0) za 22 0))) 52 (.inl (96, pm_ts 4 24 (pm_ts 4 24 (pm_ts 4 24 (pm_ts 4 24 (pm_ts 4 24 (pm_ts 4 24 (pm_ts 4 24 (pm_ts 4 24 (pm_ts 4 24 (pm_ts 4 24 (pm_ts 4 24 (pm_ts 4 24 (pm_ts 4 24 (pm_ts 4 24 (pm_ts 4 24 (pm_ts 4 24 (pm_ts 4 24 (pm_ts 4 24 (pm_ts 4 24 (pm_ts 4 24 (pm_ts 4 24 (pm_ts 4 24 (pm_ts 4 24 (pm_ts 4 24 (fun _ => 0) za 0 0) za 1 0) za 2 0) za 3 0) za 4 0) za 5 0) za 6 0) za 7 0) za 8 0) za 9 0) za 10 0) za 11 0) za 12 0) za 13 0) za 14 0) za 15 0) za 16 0) za 17 0) za 18 0) za 19 0) za 20 0) za 21 0) za 22 0) za 23 0))) ∧ cnt' = 74) ∨ ((¬ (za < 0)) ∧ (¬ (4 ≤ za)) ∧ σ' = (pm_up (pm_up (pm_up (pm_up (pm_up (pm_up (pm_up (pm_up (pm_up (pm_up (pm_up (pm_up (pm_up (pm_up (pm_up (pm_up (pm_up (pm_up (pm_up (pm_up (pm_up (pm_up (pm_up (pm_up (pm_up (pm_up (pm_cat (pm_ofL (l_k_class B fw)) 54 R) 49 (.inl (4, upd (fun _ => 0) za.toNatClampNeg zb))) 50 (.inl (4, upd (fun _ => 0) za.toNatClampNeg 0))) 52 (.inl (96, pm_ts 4 24 (fun _ => 0) za 0 0))) 52 (.inl (96, pm_ts 4 24 (pm_ts 4 24 (fun _ => 0) za 0 0) za 1 0))) 52 (.inl (96, pm_ts 4 24 (pm_ts 4 24 (pm_ts 4 24 (fun _ => 0) za 0 0) za 1 0) za 2 0))) 52 (.inl (96, pm_ts 4 24 (pm_ts 4 24 (pm_ts 4 24 (pm_ts 4 24 (fun _ => 0) za 0 0) za 1 0) za 2 0) za 3 0))) 52 (.inl (96, pm_ts 4 24 (pm_ts 4 24 (pm_ts 4 24 (pm_ts 4 24 (pm_ts 4 24 (fun _ => 0) za 0 0) za 1 0) za 2 0) za 3 0) za 4 0))) 52 (.inl (96, pm_ts 4 24 (pm_ts 4 24 (pm_ts 4 24 (pm_ts 4 24 (pm_ts 4 24 (pm_ts 4 24 (fun _ => 0) za 0 0) za 1 0) za 2 0) za 3 0) za 4 0) za 5 0))) 52 (.inl (96, pm_ts 4 24 (pm_ts 4 24 (pm_ts 4 24 (pm_ts 4 24 (pm_ts 4 24 (pm_ts 4 24 (pm_ts 4 24 (fun _ => 0) za 0 0) za 1 0) za 2 0) za 3 0) za 4 0) za 5 0) za 6 0))) 52 (.inl (96, pm_ts 4 24 (pm_ts 4 24 (pm_ts 4 24 (pm_ts 4 24 (pm_ts 4 24 (pm_ts 4 24 (pm_ts 4 24 (pm_ts 4 24 (fun _ => 0) za 0 0) za 1 0) za 2 0) za 3 0) za 4 0) za 5 0) za 6 0) za 7 0))) 52 (.inl (96, pm_ts 4 24 (pm_ts 4 24 (pm_ts 4 24 (pm_ts 4 24 (pm_ts 4 24 (pm_ts 4 24 (pm_ts 4 24 (pm_ts 4 24 (pm_ts 4 24 (fun _ => 0) za 0 0) za 1 0) za 2 0) za 3 0) za 4 0) za 5 0) za 6 0) za 7 0) za 8 0))) 52 (.inl (96, pm_ts 4 24 (pm_ts 4 24 (pm_ts 4 24 (pm_ts 4 24 (pm_ts 4 24 (pm_ts 4 24 (pm_ts 4 24 (pm_ts 4 24 (pm_ts 4 24 (pm_ts 4 24 (fun _ => 0) za 0 0) za 1 0) za 2 0) za 3 0) za 4 0) za 5 0) za 6 0) za 7 0) za 8 0) za 9 0))) 52 (.inl (96, pm_ts 4 24 (pm_ts 4 24 (pm_ts 4 24 (pm_ts 4 24 (pm_ts 4 24 (pm_ts 4 24 (pm_ts 4 24 (pm_ts 4 24 (pm_ts 4 24 (pm_ts 4 24 (pm_ts 4 24 (fun _ => 0) za 0 0) za 1 0) za 2 0) za 3 0) za 4 0) za 5 0) za 6 0) za 7 0) za 8 0) za 9 0) za 10 0))) 52 (.inl (96, pm_ts 4 24 (pm_ts 4 24 (pm_ts 4 24 (pm_ts 4 24 (pm_ts 4 24 (pm_ts 4 24 (pm_ts 4 24 (pm_ts 4 24 (pm_ts 4 24 (pm_ts 4 24 (pm_ts 4 24 (pm_ts 4 24 (fun _ => 0) za 0 0) za 1 0) za 2 0) za 3 0) za 4 0) za 5 0) za 6 0) za 7 0) za 8 0) za 9 0) za 10 0) za 11 0))) 52 (.inl (96, pm_ts 4 24 (pm_ts 4 24 (pm_ts 4 24 (pm_ts 4 24 (pm_ts 4 24 (pm_ts 4 24 (pm_ts 4 24 (pm_ts 4 24 (pm_ts 4 24 (pm_ts 4 24 (pm_ts 4 24 (pm_ts 4 24 (pm_ts 4 24 (fun _ => 0) za 0 0) za 1 0) za 2 0) za 3 0) za 4 0) za 5 0) za 6 0) za 7 0) za 8 0) za 9 0) za 10 0) za 11 0) za 12 0))) 52 (.inl (96, pm_ts 4 24 (pm_ts 4 24 (pm_ts 4 24 (pm_ts 4 24 (pm_ts 4 24 (pm_ts 4 24 (pm_ts 4 24 (pm_ts 4 24 (pm_ts 4 24 (pm_ts 4 24 (pm_ts 4 24 (pm_ts 4 24 (pm_ts 4 24 (pm_ts 4 24 (fun _ => 0) za 0 0) za 1 0) za 2 0) za 3 0) za 4 0) za 5 0) za 6 0) za 7 0) za 8 0) za 9 0) za 10 0) za 11 0) za 12 0) za 13 0))) 52 (.inl (96, pm_ts 4 24 (pm_ts 4 24 (pm_ts 4 24 (pm_ts 4 24 (pm_ts 4 24 (pm_ts 4 24 (pm_ts 4 24 (pm_ts 4 24 (pm_ts 4 24 (pm_ts 4 24 (pm_ts 4 24 (pm_ts 4 24 (pm_ts 4 24 (pm_ts 4 24 (pm_ts 4 24 (fun _ => 0) za 0 0) za 1 0) za 2 0) za 3 0) za 4 0) za 5 0) za 6 0) za 7 0) za 8 0) za 9 0) za 10 0) za 11 0) za 12 0) za 13 0) za 14 0))) 52 (.inl (96, pm_ts 4 24 (pm_ts 4 24 (pm_ts 4 24 (pm_ts 4 24 (pm_ts 4 24 (pm_ts 4 24 (pm_ts 4 24 (pm_ts 4 24 (pm_ts 4 24 (pm_ts 4 24 (pm_ts 4 24 (pm_ts 4 24 (pm_ts 4 24 (pm_ts 4 24 (pm_ts 4 24 (pm_ts 4 24 (fun _ => 0) za 0 0) za 1 0) za 2 0) za 3 0) za 4 0) za 5 0) za 6 0) za 7 0) za 8 0) za 9 0) za 10 0) za 11 0) za 12 0) za 13 0) za 14 0) za 15 0))) 52 (.inl (96, pm_ts 4 24 (pm_ts 4 24 (pm_ts 4 24 (pm_ts 4 24 (pm_ts 4 24 (pm_ts 4 24 (pm_ts 4 24 (pm_ts 4 24 (pm_ts 4 24 (pm_ts 4 24 (pm_ts 4 24 (pm_ts 4 24 (pm_ts 4 24 (pm_ts 4 24 (pm_ts 4 24 (pm_ts 4 24 (pm_ts 4 24 (fun _ => 0) za 0 0) za 1 0) za 2 0) za 3 0) za 4 0) za 5 0) za 6 0) za 7 0) za 8 0) za 9 0) za 10 0) za 11 0) za 12 0) za 13 0) za 14 0) za 15 0) za 16 0))) 52 (.inl (96, pm_ts 4 24 (pm_ts 4 24 (pm_ts 4 24 (pm_ts 4 24 (pm_ts 4 24 (pm_ts 4 24 (pm_ts 4 24 (pm_ts 4 24 (pm_ts 4 24 (pm_ts 4 24 (pm_ts 4 24 (pm_ts 4 24 (pm_ts 4 24 (pm_ts 4 24 (pm_ts 4 24 (pm_ts 4 24 (pm_ts 4 24 (pm_ts 4 24 (fun _ => 0) za 0 0) za 1 0) za 2 0) za 3 0) za 4 0) za 5 0) za 6 0) za 7 0) za 8 0) za 9 0) za 10 0) za 11 0) za 12 0) za 13 0) za 14 0) za 15 0) za 16 0) za 17 0))) 52 (.inl (96, pm_ts 4 24 (pm_ts 4 24 (pm_ts 4 24 (pm_ts 4 24 (pm_ts 4 24 (pm_ts 4 24 (pm_ts 4 24 (pm_ts 4 24 (pm_ts 4 24 (pm_ts 4 24 (pm_ts 4 24 (pm_ts 4 24 (pm_ts 4 24 (pm_ts 4 24 (pm_ts 4 24 (pm_ts 4 24 (pm_ts 4 24 (pm_ts 4 24 (pm_ts 4 24 (fun _ => 0) za 0 0) za 1 0) za 2 0) za 3 0) za 4 0) za 5 0) za 6 0) za 7 0) za 8 0) za 9 0) za 10 0) za 11 0) za 12 0) za 13 0) za 14 0) za 15 0) za 16 0) za 17 0) za 18 0))) 52 (.inl (96, pm_ts 4 24 (pm_ts 4 24 (pm_ts 4 24 (pm_ts 4 24 (pm_ts 4 24 (pm_ts 4 24 (pm_ts 4 24 (pm_ts 4 24 (pm_ts 4 24 (pm_ts 4 24 (pm_ts 4 24 (pm_ts 4 24 (pm_ts 4 24 (pm_ts 4 24 (pm_ts 4 24 (pm_ts 4 24 (pm_ts 4 24 (pm_ts 4 24 (pm_ts 4 24 (pm_ts 4 24 (fun _ => 0) za 0 0) za 1 0) za 2 0) za 3 0) za 4 0) za 5 0) za 6 0) za 7 0) za 8 0) za 9 0) za 10 0) za 11 0) za 12 0) za 13 0) za 14 0) za 15 0) za 16 0) za 17 0) za 18 0) za 19 0))) 52 (.inl (96, pm_ts 4 24 (pm_ts 4 24 (pm_ts 4 24 (pm_ts 4 24 (pm_ts 4 24 (pm_ts 4 24 (pm_ts 4 24 (pm_ts 4 24 (pm_ts 4 24 (pm_ts 4 24 (pm_ts 4 24 (pm_ts 4 24 (pm_ts 4 24 (pm_ts 4 24 (pm_ts 4 24 (pm_ts 4 24 (pm_ts 4 24 (pm_ts 4 24 (pm_ts 4 24 (pm_ts 4 24 (pm_ts 4 24 (fun _ => 0) za 0 0) za 1 0) za 2 0) za 3 0) za 4 0) za 5 0) za 6 0) za 7 0) za 8 0) za 9 0) za 10 0) za 11 0) za 12 0) za 13 0) za 14 0) za 15 0) za 16 0) za 17 0) za 18 0) za 19 0) za 20 0))) 52 (.inl (96, pm_ts 4 24 (pm_ts 4 24 (pm_ts 4 24 (pm_ts 4 24 (pm_ts 4 24 (pm_ts 4 24 (pm_ts 4 24 (pm_ts 4 24 (pm_ts 4 24 (pm_ts 4 24 (pm_ts 4 24 (pm_ts 4 24 (pm_ts 4 24 (pm_ts 4 24 (pm_ts 4 24 (pm_ts 4 24 (pm_ts 4 24 (pm_ts 4 24 (pm_ts 4 24 (pm_ts 4 24 (pm_ts 4 24 (pm_ts 4 24 (fun _ => 0) za 0 0) za 1 0) za 2 0) za 3 0) za 4 0) za 5 0) za 6 0) za 7 0) za 8 0) za 9 0) za 10 0) za 11 0) za 12 0) za 13 0) za 14 0) za 15 0) za 16 0) za 17 0) za 18 0) za 19 0) za 20 0) za 21 0))) 52 (.inl (96, pm_ts 4 24 (pm_ts 4 24 (pm_ts 4 24 (pm_ts 4 24 (pm_ts 4 24 (pm_ts 4 24 (pm_ts 4 24 (pm_ts 4 24 (pm_ts 4 24 (pm_ts 4 24 (pm_ts 4 24 (pm_ts 4 24 (pm_ts 4 24 (pm_ts 4 24 (pm_ts 4 24 (pm_ts 4 24 (pm_ts 4 24 (pm_ts 4 24 (pm_ts 4 24 (pm_ts 4 24 (pm_ts 4 24 (pm_ts 4 24 (pm_ts 4 24 (fun _ => 0) za 0 0) za 1 0) za 2 0) za 3 0) za 4 0) za 5 0) za 6 0) za 7 0) za 8 0) za 9 0) za 10 0) za 11 0) za 12 0) za 13 0) za 14 0) za 15 0) za 16 0) za 17 0) za 18 0) za 19 0) za 20 0) za 21 0) za 22 0))) 52 (.inl (96, pm_ts 4 24 (pm_ts 4 24 (pm_ts 4 24 (pm_ts 4 24 (pm_ts 4 24 (pm_ts 4 24 (pm_ts 4 24 (pm_ts 4 24 (pm_ts 4 24 (pm_ts 4 24 (pm_ts 4 24 (pm_ts 4 24 (pm_ts 4 24 (pm_ts 4 24 (pm_ts 4 24 (pm_ts 4 24 (pm_ts 4 24 (pm_ts 4 24 (pm_ts 4 24 (pm_ts 4 24 (pm_ts 4 24 (pm_ts 4 24 (pm_ts 4 24 (pm_ts 4 24 (fun _ => 0) za 0 0) za 1 0) za 2 0) za 3 0) za 4 0) za 5 0) za 6 0) za 7 0) za 8 0) za 9 0) za 10 0) za 11 0) za 12 0) za 13 0) za 14 0) za 15 0) za 16 0) za 17 0) za 18 0) za 19 0) za 20 0) za 21 0) za 22 0) za 23 0))) ∧ cnt' = 74))) := by
  refine pm_enter 1 (by decide) (Nat.le_of_ble_eq_true rfl) rfl (fun G hG hR hF => ?_)
  refine pm_iloadn hG dX8_layOut_0 rfl ?_
  refine pm_if_lt (tgt := 36) hG dX8_layOut_1 rfl (fun c1 => ?_) (fun c1 => ?_)
  · refine pm_iconst (v := 0) hG dX8_layOut_36 (by decide) ?_
    refine pm_istoreXi (loc' := [some (.ref (B + 48)), some (.int za), some (.int zb), some (.int 0), some (.int 0)]) hG dX8_layOut_37 (by decide) (pm_c1b rfl) rfl ?_
    refine pm_iloadi hG dX8_layOut_39 rfl ?_
    refine pm_bipush (v := 24) hG dX8_layOut_41 (by decide) ?_
    refine pm_icmp_ge (tgt := 63) hG dX8_layOut_43 rfl (fun q => absurd q (by decide)) (fun _ => ?_)
    refine pm_aloadn hG dX8_layOut_46 rfl ?_
    refine pm_getf hG dX8_layOut_47 (flX8_23 _ rfl) rfl rfl ?_
    refine pm_iloadn hG dX8_layOut_50 rfl ?_
    refine pm_iloadi hG dX8_layOut_51 rfl ?_
    refine pm_iconst (v := 0) hG dX8_layOut_53 (by decide) ?_
    refine pm_callV (As := [.int za, .int 0, .int 0]) (rest := []) hG hR dX8_layOut_54 (lkX8_31 _ rfl) okV_X9_set rfl rfl (tb_set (d := 1) rfl rfl (pm_tw_of 4 24 (by decide) (by decide) (by decide)) (by decide)) rfl rfl hdd (by decide) (by decide) (by decide) (pm_kv (fun σ' cnt' hq => ?_))
    obtain ⟨rfl, rfl⟩ := hq
    refine pm_iincX (v := 1) (loc' := [some (.ref (B + 48)), some (.int za), some (.int zb), some (.int 0), some (.int 1)]) hG dX8_layOut_57 rfl (by rfl) (by decide) (pm_c1b rfl) rfl ?_
    refine pm_goto (tgt := 39) hG dX8_layOut_60 rfl ?_
    refine pm_iloadi hG dX8_layOut_39 rfl ?_
    refine pm_bipush (v := 24) hG dX8_layOut_41 (by decide) ?_
    refine pm_icmp_ge (tgt := 63) hG dX8_layOut_43 rfl (fun q => absurd q (by decide)) (fun _ => ?_)
    refine pm_aloadn hG dX8_layOut_46 rfl ?_
    refine pm_getf hG dX8_layOut_47 (flX8_23 _ rfl) rfl rfl ?_
    refine pm_iloadn hG dX8_layOut_50 rfl ?_
    refine pm_iloadi hG dX8_layOut_51 rfl ?_
    refine pm_iconst (v := 0) hG dX8_layOut_53 (by decide) ?_
    refine pm_callV (As := [.int za, .int 1, .int 0]) (rest := []) hG hR dX8_layOut_54 (lkX8_31 _ rfl) okV_X9_set rfl rfl (tb_set (d := 1) rfl rfl (pm_tw_of 4 24 (by decide) (by decide) (by decide)) (by decide)) rfl rfl hdd (by decide) (by decide) (by decide) (pm_kv (fun σ' cnt' hq => ?_))
    obtain ⟨rfl, rfl⟩ := hq
    refine pm_iincX (v := 2) (loc' := [some (.ref (B + 48)), some (.int za), some (.int zb), some (.int 0), some (.int 2)]) hG dX8_layOut_57 rfl (by rfl) (by decide) (pm_c1b rfl) rfl ?_
    refine pm_goto (tgt := 39) hG dX8_layOut_60 rfl ?_
    refine pm_iloadi hG dX8_layOut_39 rfl ?_
    refine pm_bipush (v := 24) hG dX8_layOut_41 (by decide) ?_
    refine pm_icmp_ge (tgt := 63) hG dX8_layOut_43 rfl (fun q => absurd q (by decide)) (fun _ => ?_)
    refine pm_aloadn hG dX8_layOut_46 rfl ?_
    refine pm_getf hG dX8_layOut_47 (flX8_23 _ rfl) rfl rfl ?_
    refine pm_iloadn hG dX8_layOut_50 rfl ?_
    refine pm_iloadi hG dX8_layOut_51 rfl ?_
    refine pm_iconst (v := 0) hG dX8_layOut_53 (by decide) ?_
    refine pm_callV (As := [.int za, .int 2, .int 0]) (rest := []) hG hR dX8_layOut_54 (lkX8_31 _ rfl) okV_X9_set rfl rfl (tb_set (d := 1) rfl rfl (pm_tw_of 4 24 (by decide) (by decide) (by decide)) (by decide)) rfl rfl hdd (by decide) (by decide) (by decide) (pm_kv (fun σ' cnt' hq => ?_))
    obtain ⟨rfl, rfl⟩ := hq
    refine pm_iincX (v := 3) (loc' := [some (.ref (B + 48)), some (.int za), some (.int zb), some (.int 0), some (.int 3)]) hG dX8_layOut_57 rfl (by rfl) (by decide) (pm_c1b rfl) rfl ?_
    refine pm_goto (tgt := 39) hG dX8_layOut_60 rfl ?_
    refine pm_iloadi hG dX8_layOut_39 rfl ?_
    refine pm_bipush (v := 24) hG dX8_layOut_41 (by decide) ?_
    refine pm_icmp_ge (tgt := 63) hG dX8_layOut_43 rfl (fun q => absurd q (by decide)) (fun _ => ?_)
    refine pm_aloadn hG dX8_layOut_46 rfl ?_
    refine pm_getf hG dX8_layOut_47 (flX8_23 _ rfl) rfl rfl ?_
    refine pm_iloadn hG dX8_layOut_50 rfl ?_
    refine pm_iloadi hG dX8_layOut_51 rfl ?_
    refine pm_iconst (v := 0) hG dX8_layOut_53 (by decide) ?_
    refine pm_callV (As := [.int za, .int 3, .int 0]) (rest := []) hG hR dX8_layOut_54 (lkX8_31 _ rfl) okV_X9_set rfl rfl (tb_set (d := 1) rfl rfl (pm_tw_of 4 24 (by decide) (by decide) (by decide)) (by decide)) rfl rfl hdd (by decide) (by decide) (by decide) (pm_kv (fun σ' cnt' hq => ?_))
    obtain ⟨rfl, rfl⟩ := hq
    refine pm_iincX (v := 4) (loc' := [some (.ref (B + 48)), some (.int za), some (.int zb), some (.int 0), some (.int 4)]) hG dX8_layOut_57 rfl (by rfl) (by decide) (pm_c1b rfl) rfl ?_
    refine pm_goto (tgt := 39) hG dX8_layOut_60 rfl ?_
    refine pm_iloadi hG dX8_layOut_39 rfl ?_
    refine pm_bipush (v := 24) hG dX8_layOut_41 (by decide) ?_
    refine pm_icmp_ge (tgt := 63) hG dX8_layOut_43 rfl (fun q => absurd q (by decide)) (fun _ => ?_)
    refine pm_aloadn hG dX8_layOut_46 rfl ?_
    refine pm_getf hG dX8_layOut_47 (flX8_23 _ rfl) rfl rfl ?_
    refine pm_iloadn hG dX8_layOut_50 rfl ?_
    refine pm_iloadi hG dX8_layOut_51 rfl ?_
    refine pm_iconst (v := 0) hG dX8_layOut_53 (by decide) ?_
    refine pm_callV (As := [.int za, .int 4, .int 0]) (rest := []) hG hR dX8_layOut_54 (lkX8_31 _ rfl) okV_X9_set rfl rfl (tb_set (d := 1) rfl rfl (pm_tw_of 4 24 (by decide) (by decide) (by decide)) (by decide)) rfl rfl hdd (by decide) (by decide) (by decide) (pm_kv (fun σ' cnt' hq => ?_))
    obtain ⟨rfl, rfl⟩ := hq
    refine pm_iincX (v := 5) (loc' := [some (.ref (B + 48)), some (.int za), some (.int zb), some (.int 0), some (.int 5)]) hG dX8_layOut_57 rfl (by rfl) (by decide) (pm_c1b rfl) rfl ?_
    refine pm_goto (tgt := 39) hG dX8_layOut_60 rfl ?_
    refine pm_iloadi hG dX8_layOut_39 rfl ?_
    refine pm_bipush (v := 24) hG dX8_layOut_41 (by decide) ?_
    refine pm_icmp_ge (tgt := 63) hG dX8_layOut_43 rfl (fun q => absurd q (by decide)) (fun _ => ?_)
    refine pm_aloadn hG dX8_layOut_46 rfl ?_
    refine pm_getf hG dX8_layOut_47 (flX8_23 _ rfl) rfl rfl ?_
    refine pm_iloadn hG dX8_layOut_50 rfl ?_
    refine pm_iloadi hG dX8_layOut_51 rfl ?_
    refine pm_iconst (v := 0) hG dX8_layOut_53 (by decide) ?_
    refine pm_callV (As := [.int za, .int 5, .int 0]) (rest := []) hG hR dX8_layOut_54 (lkX8_31 _ rfl) okV_X9_set rfl rfl (tb_set (d := 1) rfl rfl (pm_tw_of 4 24 (by decide) (by decide) (by decide)) (by decide)) rfl rfl hdd (by decide) (by decide) (by decide) (pm_kv (fun σ' cnt' hq => ?_))
    obtain ⟨rfl, rfl⟩ := hq
    refine pm_iincX (v := 6) (loc' := [some (.ref (B + 48)), some (.int za), some (.int zb), some (.int 0), some (.int 6)]) hG dX8_layOut_57 rfl (by rfl) (by decide) (pm_c1b rfl) rfl ?_
    refine pm_goto (tgt := 39) hG dX8_layOut_60 rfl ?_
    refine pm_iloadi hG dX8_layOut_39 rfl ?_
    refine pm_bipush (v := 24) hG dX8_layOut_41 (by decide) ?_
    refine pm_icmp_ge (tgt := 63) hG dX8_layOut_43 rfl (fun q => absurd q (by decide)) (fun _ => ?_)
    refine pm_aloadn hG dX8_layOut_46 rfl ?_
    refine pm_getf hG dX8_layOut_47 (flX8_23 _ rfl) rfl rfl ?_
    refine pm_iloadn hG dX8_layOut_50 rfl ?_
    refine pm_iloadi hG dX8_layOut_51 rfl ?_
    refine pm_iconst (v := 0) hG dX8_layOut_53 (by decide) ?_
    refine pm_callV (As := [.int za, .int 6, .int 0]) (rest := []) hG hR dX8_layOut_54 (lkX8_31 _ rfl) okV_X9_set rfl rfl (tb_set (d := 1) rfl rfl (pm_tw_of 4 24 (by decide) (by decide) (by decide)) (by decide)) rfl rfl hdd (by decide) (by decide) (by decide) (pm_kv (fun σ' cnt' hq => ?_))
    obtain ⟨rfl, rfl⟩ := hq
    refine pm_iincX (v := 7) (loc' := [some (.ref (B + 48)), some (.int za), some (.int zb), some (.int 0), some (.int 7)]) hG dX8_layOut_57 rfl (by rfl) (by decide) (pm_c1b rfl) rfl ?_
    refine pm_goto (tgt := 39) hG dX8_layOut_60 rfl ?_
    refine pm_iloadi hG dX8_layOut_39 rfl ?_
    refine pm_bipush (v := 24) hG dX8_layOut_41 (by decide) ?_
    refine pm_icmp_ge (tgt := 63) hG dX8_layOut_43 rfl (fun q => absurd q (by decide)) (fun _ => ?_)
    refine pm_aloadn hG dX8_layOut_46 rfl ?_
    refine pm_getf hG dX8_layOut_47 (flX8_23 _ rfl) rfl rfl ?_
    refine pm_iloadn hG dX8_layOut_50 rfl ?_
    refine pm_iloadi hG dX8_layOut_51 rfl ?_
    refine pm_iconst (v := 0) hG dX8_layOut_53 (by decide) ?_
    refine pm_callV (As := [.int za, .int 7, .int 0]) (rest := []) hG hR dX8_layOut_54 (lkX8_31 _ rfl) okV_X9_set rfl rfl (tb_set (d := 1) rfl rfl (pm_tw_of 4 24 (by decide) (by decide) (by decide)) (by decide)) rfl rfl hdd (by decide) (by decide) (by decide) (pm_kv (fun σ' cnt' hq => ?_))
    obtain ⟨rfl, rfl⟩ := hq
    refine pm_iincX (v := 8) (loc' := [some (.ref (B + 48)), some (.int za), some (.int zb), some (.int 0), some (.int 8)]) hG dX8_layOut_57 rfl (by rfl) (by decide) (pm_c1b rfl) rfl ?_
    refine pm_goto (tgt := 39) hG dX8_layOut_60 rfl ?_
    refine pm_iloadi hG dX8_layOut_39 rfl ?_
    refine pm_bipush (v := 24) hG dX8_layOut_41 (by decide) ?_
    refine pm_icmp_ge (tgt := 63) hG dX8_layOut_43 rfl (fun q => absurd q (by decide)) (fun _ => ?_)
    refine pm_aloadn hG dX8_layOut_46 rfl ?_
    refine pm_getf hG dX8_layOut_47 (flX8_23 _ rfl) rfl rfl ?_
    refine pm_iloadn hG dX8_layOut_50 rfl ?_
    refine pm_iloadi hG dX8_layOut_51 rfl ?_
    refine pm_iconst (v := 0) hG dX8_layOut_53 (by decide) ?_
    refine pm_callV (As := [.int za, .int 8, .int 0]) (rest := []) hG hR dX8_layOut_54 (lkX8_31 _ rfl) okV_X9_set rfl rfl (tb_set (d := 1) rfl rfl (pm_tw_of 4 24 (by decide) (by decide) (by decide)) (by decide)) rfl rfl hdd (by decide) (by decide) (by decide) (pm_kv (fun σ' cnt' hq => ?_))
    obtain ⟨rfl, rfl⟩ := hq
    refine pm_iincX (v := 9) (loc' := [some (.ref (B + 48)), some (.int za), some (.int zb), some (.int 0), some (.int 9)]) hG dX8_layOut_57 rfl (by rfl) (by decide) (pm_c1b rfl) rfl ?_
    refine pm_goto (tgt := 39) hG dX8_layOut_60 rfl ?_
    refine pm_iloadi hG dX8_layOut_39 rfl ?_
    refine pm_bipush (v := 24) hG dX8_layOut_41 (by decide) ?_
    refine pm_icmp_ge (tgt := 63) hG dX8_layOut_43 rfl (fun q => absurd q (by decide)) (fun _ => ?_)
    refine pm_aloadn hG dX8_layOut_46 rfl ?_
    refine pm_getf hG dX8_layOut_47 (flX8_23 _ rfl) rfl rfl ?_
    refine pm_iloadn hG dX8_layOut_50 rfl ?_
    refine pm_iloadi hG dX8_layOut_51 rfl ?_
    refine pm_iconst (v := 0) hG dX8_layOut_53 (by decide) ?_
    refine pm_callV (As := [.int za, .int 9, .int 0]) (rest := []) hG hR dX8_layOut_54 (lkX8_31 _ rfl) okV_X9_set rfl rfl (tb_set (d := 1) rfl rfl (pm_tw_of 4 24 (by decide) (by decide) (by decide)) (by decide)) rfl rfl hdd (by decide) (by decide) (by decide) (pm_kv (fun σ' cnt' hq => ?_))
    obtain ⟨rfl, rfl⟩ := hq
    refine pm_iincX (v := 10) (loc' := [some (.ref (B + 48)), some (.int za), some (.int zb), some (.int 0), some (.int 10)]) hG dX8_layOut_57 rfl (by rfl) (by decide) (pm_c1b rfl) rfl ?_
    refine pm_goto (tgt := 39) hG dX8_layOut_60 rfl ?_
    refine pm_iloadi hG dX8_layOut_39 rfl ?_
    refine pm_bipush (v := 24) hG dX8_layOut_41 (by decide) ?_
    refine pm_icmp_ge (tgt := 63) hG dX8_layOut_43 rfl (fun q => absurd q (by decide)) (fun _ => ?_)
    refine pm_aloadn hG dX8_layOut_46 rfl ?_
    refine pm_getf hG dX8_layOut_47 (flX8_23 _ rfl) rfl rfl ?_
    refine pm_iloadn hG dX8_layOut_50 rfl ?_
    refine pm_iloadi hG dX8_layOut_51 rfl ?_
    refine pm_iconst (v := 0) hG dX8_layOut_53 (by decide) ?_
    refine pm_callV (As := [.int za, .int 10, .int 0]) (rest := []) hG hR dX8_layOut_54 (lkX8_31 _ rfl) okV_X9_set rfl rfl (tb_set (d := 1) rfl rfl (pm_tw_of 4 24 (by decide) (by decide) (by decide)) (by decide)) rfl rfl hdd (by decide) (by decide) (by decide) (pm_kv (fun σ' cnt' hq => ?_))
    obtain ⟨rfl, rfl⟩ := hq
    refine pm_iincX (v := 11) (loc' := [some (.ref (B + 48)), some (.int za), some (.int zb), some (.int 0), some (.int 11)]) hG dX8_layOut_57 rfl (by rfl) (by decide) (pm_c1b rfl) rfl ?_
    refine pm_goto (tgt := 39) hG dX8_layOut_60 rfl ?_
    refine pm_iloadi hG dX8_layOut_39 rfl ?_
    refine pm_bipush (v := 24) hG dX8_layOut_41 (by decide) ?_
    refine pm_icmp_ge (tgt := 63) hG dX8_layOut_43 rfl (fun q => absurd q (by decide)) (fun _ => ?_)
    refine pm_aloadn hG dX8_layOut_46 rfl ?_
    refine pm_getf hG dX8_layOut_47 (flX8_23 _ rfl) rfl rfl ?_
    refine pm_iloadn hG dX8_layOut_50 rfl ?_
    refine pm_iloadi hG dX8_layOut_51 rfl ?_
    refine pm_iconst (v := 0) hG dX8_layOut_53 (by decide) ?_
    refine pm_callV (As := [.int za, .int 11, .int 0]) (rest := []) hG hR dX8_layOut_54 (lkX8_31 _ rfl) okV_X9_set rfl rfl (tb_set (d := 1) rfl rfl (pm_tw_of 4 24 (by decide) (by decide) (by decide)) (by decide)) rfl rfl hdd (by decide) (by decide) (by decide) (pm_kv (fun σ' cnt' hq => ?_))
    obtain ⟨rfl, rfl⟩ := hq
    refine pm_iincX (v := 12) (loc' := [some (.ref (B + 48)), some (.int za), some (.int zb), some (.int 0), some (.int 12)]) hG dX8_layOut_57 rfl (by rfl) (by decide) (pm_c1b rfl) rfl ?_
    refine pm_goto (tgt := 39) hG dX8_layOut_60 rfl ?_
    refine pm_iloadi hG dX8_layOut_39 rfl ?_
    refine pm_bipush (v := 24) hG dX8_layOut_41 (by decide) ?_
    refine pm_icmp_ge (tgt := 63) hG dX8_layOut_43 rfl (fun q => absurd q (by decide)) (fun _ => ?_)
    refine pm_aloadn hG dX8_layOut_46 rfl ?_
    refine pm_getf hG dX8_layOut_47 (flX8_23 _ rfl) rfl rfl ?_
    refine pm_iloadn hG dX8_layOut_50 rfl ?_
    refine pm_iloadi hG dX8_layOut_51 rfl ?_
    refine pm_iconst (v := 0) hG dX8_layOut_53 (by decide) ?_
    refine pm_callV (As := [.int za, .int 12, .int 0]) (rest := []) hG hR dX8_layOut_54 (lkX8_31 _ rfl) okV_X9_set rfl rfl (tb_set (d := 1) rfl rfl (pm_tw_of 4 24 (by decide) (by decide) (by decide)) (by decide)) rfl rfl hdd (by decide) (by decide) (by decide) (pm_kv (fun σ' cnt' hq => ?_))
    obtain ⟨rfl, rfl⟩ := hq
    refine pm_iincX (v := 13) (loc' := [some (.ref (B + 48)), some (.int za), some (.int zb), some (.int 0), some (.int 13)]) hG dX8_layOut_57 rfl (by rfl) (by decide) (pm_c1b rfl) rfl ?_
    refine pm_goto (tgt := 39) hG dX8_layOut_60 rfl ?_
    refine pm_iloadi hG dX8_layOut_39 rfl ?_
    refine pm_bipush (v := 24) hG dX8_layOut_41 (by decide) ?_
    refine pm_icmp_ge (tgt := 63) hG dX8_layOut_43 rfl (fun q => absurd q (by decide)) (fun _ => ?_)
    refine pm_aloadn hG dX8_layOut_46 rfl ?_
    refine pm_getf hG dX8_layOut_47 (flX8_23 _ rfl) rfl rfl ?_
    refine pm_iloadn hG dX8_layOut_50 rfl ?_
    refine pm_iloadi hG dX8_layOut_51 rfl ?_
    refine pm_iconst (v := 0) hG dX8_layOut_53 (by decide) ?_
    refine pm_callV (As := [.int za, .int 13, .int 0]) (rest := []) hG hR dX8_layOut_54 (lkX8_31 _ rfl) okV_X9_set rfl rfl (tb_set (d := 1) rfl rfl (pm_tw_of 4 24 (by decide) (by decide) (by decide)) (by decide)) rfl rfl hdd (by decide) (by decide) (by decide) (pm_kv (fun σ' cnt' hq => ?_))
    obtain ⟨rfl, rfl⟩ := hq
    refine pm_iincX (v := 14) (loc' := [some (.ref (B + 48)), some (.int za), some (.int zb), some (.int 0), some (.int 14)]) hG dX8_layOut_57 rfl (by rfl) (by decide) (pm_c1b rfl) rfl ?_
    refine pm_goto (tgt := 39) hG dX8_layOut_60 rfl ?_
    refine pm_iloadi hG dX8_layOut_39 rfl ?_
    refine pm_bipush (v := 24) hG dX8_layOut_41 (by decide) ?_
    refine pm_icmp_ge (tgt := 63) hG dX8_layOut_43 rfl (fun q => absurd q (by decide)) (fun _ => ?_)
    refine pm_aloadn hG dX8_layOut_46 rfl ?_
    refine pm_getf hG dX8_layOut_47 (flX8_23 _ rfl) rfl rfl ?_
    refine pm_iloadn hG dX8_layOut_50 rfl ?_
    refine pm_iloadi hG dX8_layOut_51 rfl ?_
    refine pm_iconst (v := 0) hG dX8_layOut_53 (by decide) ?_
    refine pm_callV (As := [.int za, .int 14, .int 0]) (rest := []) hG hR dX8_layOut_54 (lkX8_31 _ rfl) okV_X9_set rfl rfl (tb_set (d := 1) rfl rfl (pm_tw_of 4 24 (by decide) (by decide) (by decide)) (by decide)) rfl rfl hdd (by decide) (by decide) (by decide) (pm_kv (fun σ' cnt' hq => ?_))
    obtain ⟨rfl, rfl⟩ := hq
    refine pm_iincX (v := 15) (loc' := [some (.ref (B + 48)), some (.int za), some (.int zb), some (.int 0), some (.int 15)]) hG dX8_layOut_57 rfl (by rfl) (by decide) (pm_c1b rfl) rfl ?_
    refine pm_goto (tgt := 39) hG dX8_layOut_60 rfl ?_
    refine pm_iloadi hG dX8_layOut_39 rfl ?_
    refine pm_bipush (v := 24) hG dX8_layOut_41 (by decide) ?_
    refine pm_icmp_ge (tgt := 63) hG dX8_layOut_43 rfl (fun q => absurd q (by decide)) (fun _ => ?_)
    refine pm_aloadn hG dX8_layOut_46 rfl ?_
    refine pm_getf hG dX8_layOut_47 (flX8_23 _ rfl) rfl rfl ?_
    refine pm_iloadn hG dX8_layOut_50 rfl ?_
    refine pm_iloadi hG dX8_layOut_51 rfl ?_
    refine pm_iconst (v := 0) hG dX8_layOut_53 (by decide) ?_
    refine pm_callV (As := [.int za, .int 15, .int 0]) (rest := []) hG hR dX8_layOut_54 (lkX8_31 _ rfl) okV_X9_set rfl rfl (tb_set (d := 1) rfl rfl (pm_tw_of 4 24 (by decide) (by decide) (by decide)) (by decide)) rfl rfl hdd (by decide) (by decide) (by decide) (pm_kv (fun σ' cnt' hq => ?_))
    obtain ⟨rfl, rfl⟩ := hq
    refine pm_iincX (v := 16) (loc' := [some (.ref (B + 48)), some (.int za), some (.int zb), some (.int 0), some (.int 16)]) hG dX8_layOut_57 rfl (by rfl) (by decide) (pm_c1b rfl) rfl ?_
    refine pm_goto (tgt := 39) hG dX8_layOut_60 rfl ?_
    refine pm_iloadi hG dX8_layOut_39 rfl ?_
    refine pm_bipush (v := 24) hG dX8_layOut_41 (by decide) ?_
    refine pm_icmp_ge (tgt := 63) hG dX8_layOut_43 rfl (fun q => absurd q (by decide)) (fun _ => ?_)
    refine pm_aloadn hG dX8_layOut_46 rfl ?_
    refine pm_getf hG dX8_layOut_47 (flX8_23 _ rfl) rfl rfl ?_
    refine pm_iloadn hG dX8_layOut_50 rfl ?_
    refine pm_iloadi hG dX8_layOut_51 rfl ?_
    refine pm_iconst (v := 0) hG dX8_layOut_53 (by decide) ?_
    refine pm_callV (As := [.int za, .int 16, .int 0]) (rest := []) hG hR dX8_layOut_54 (lkX8_31 _ rfl) okV_X9_set rfl rfl (tb_set (d := 1) rfl rfl (pm_tw_of 4 24 (by decide) (by decide) (by decide)) (by decide)) rfl rfl hdd (by decide) (by decide) (by decide) (pm_kv (fun σ' cnt' hq => ?_))
    obtain ⟨rfl, rfl⟩ := hq
    refine pm_iincX (v := 17) (loc' := [some (.ref (B + 48)), some (.int za), some (.int zb), some (.int 0), some (.int 17)]) hG dX8_layOut_57 rfl (by rfl) (by decide) (pm_c1b rfl) rfl ?_
    refine pm_goto (tgt := 39) hG dX8_layOut_60 rfl ?_
    refine pm_iloadi hG dX8_layOut_39 rfl ?_
    refine pm_bipush (v := 24) hG dX8_layOut_41 (by decide) ?_
    refine pm_icmp_ge (tgt := 63) hG dX8_layOut_43 rfl (fun q => absurd q (by decide)) (fun _ => ?_)
    refine pm_aloadn hG dX8_layOut_46 rfl ?_
    refine pm_getf hG dX8_layOut_47 (flX8_23 _ rfl) rfl rfl ?_
    refine pm_iloadn hG dX8_layOut_50 rfl ?_
    refine pm_iloadi hG dX8_layOut_51 rfl ?_
    refine pm_iconst (v := 0) hG dX8_layOut_53 (by decide) ?_
    refine pm_callV (As := [.int za, .int 17, .int 0]) (rest := []) hG hR dX8_layOut_54 (lkX8_31 _ rfl) okV_X9_set rfl rfl (tb_set (d := 1) rfl rfl (pm_tw_of 4 24 (by decide) (by decide) (by decide)) (by decide)) rfl rfl hdd (by decide) (by decide) (by decide) (pm_kv (fun σ' cnt' hq => ?_))
    obtain ⟨rfl, rfl⟩ := hq
    refine pm_iincX (v := 18) (loc' := [some (.ref (B + 48)), some (.int za), some (.int zb), some (.int 0), some (.int 18)]) hG dX8_layOut_57 rfl (by rfl) (by decide) (pm_c1b rfl) rfl ?_
    refine pm_goto (tgt := 39) hG dX8_layOut_60 rfl ?_
    refine pm_iloadi hG dX8_layOut_39 rfl ?_
    refine pm_bipush (v := 24) hG dX8_layOut_41 (by decide) ?_
    refine pm_icmp_ge (tgt := 63) hG dX8_layOut_43 rfl (fun q => absurd q (by decide)) (fun _ => ?_)
    refine pm_aloadn hG dX8_layOut_46 rfl ?_
    refine pm_getf hG dX8_layOut_47 (flX8_23 _ rfl) rfl rfl ?_
    refine pm_iloadn hG dX8_layOut_50 rfl ?_
    refine pm_iloadi hG dX8_layOut_51 rfl ?_
    refine pm_iconst (v := 0) hG dX8_layOut_53 (by decide) ?_
    refine pm_callV (As := [.int za, .int 18, .int 0]) (rest := []) hG hR dX8_layOut_54 (lkX8_31 _ rfl) okV_X9_set rfl rfl (tb_set (d := 1) rfl rfl (pm_tw_of 4 24 (by decide) (by decide) (by decide)) (by decide)) rfl rfl hdd (by decide) (by decide) (by decide) (pm_kv (fun σ' cnt' hq => ?_))
    obtain ⟨rfl, rfl⟩ := hq
    refine pm_iincX (v := 19) (loc' := [some (.ref (B + 48)), some (.int za), some (.int zb), some (.int 0), some (.int 19)]) hG dX8_layOut_57 rfl (by rfl) (by decide) (pm_c1b rfl) rfl ?_
    refine pm_goto (tgt := 39) hG dX8_layOut_60 rfl ?_
    refine pm_iloadi hG dX8_layOut_39 rfl ?_
    refine pm_bipush (v := 24) hG dX8_layOut_41 (by decide) ?_
    refine pm_icmp_ge (tgt := 63) hG dX8_layOut_43 rfl (fun q => absurd q (by decide)) (fun _ => ?_)
    refine pm_aloadn hG dX8_layOut_46 rfl ?_
    refine pm_getf hG dX8_layOut_47 (flX8_23 _ rfl) rfl rfl ?_
    refine pm_iloadn hG dX8_layOut_50 rfl ?_
    refine pm_iloadi hG dX8_layOut_51 rfl ?_
    refine pm_iconst (v := 0) hG dX8_layOut_53 (by decide) ?_
    refine pm_callV (As := [.int za, .int 19, .int 0]) (rest := []) hG hR dX8_layOut_54 (lkX8_31 _ rfl) okV_X9_set rfl rfl (tb_set (d := 1) rfl rfl (pm_tw_of 4 24 (by decide) (by decide) (by decide)) (by decide)) rfl rfl hdd (by decide) (by decide) (by decide) (pm_kv (fun σ' cnt' hq => ?_))
    obtain ⟨rfl, rfl⟩ := hq
    refine pm_iincX (v := 20) (loc' := [some (.ref (B + 48)), some (.int za), some (.int zb), some (.int 0), some (.int 20)]) hG dX8_layOut_57 rfl (by rfl) (by decide) (pm_c1b rfl) rfl ?_
    refine pm_goto (tgt := 39) hG dX8_layOut_60 rfl ?_
    refine pm_iloadi hG dX8_layOut_39 rfl ?_
    refine pm_bipush (v := 24) hG dX8_layOut_41 (by decide) ?_
    refine pm_icmp_ge (tgt := 63) hG dX8_layOut_43 rfl (fun q => absurd q (by decide)) (fun _ => ?_)
    refine pm_aloadn hG dX8_layOut_46 rfl ?_
    refine pm_getf hG dX8_layOut_47 (flX8_23 _ rfl) rfl rfl ?_
    refine pm_iloadn hG dX8_layOut_50 rfl ?_
    refine pm_iloadi hG dX8_layOut_51 rfl ?_
    refine pm_iconst (v := 0) hG dX8_layOut_53 (by decide) ?_
    refine pm_callV (As := [.int za, .int 20, .int 0]) (rest := []) hG hR dX8_layOut_54 (lkX8_31 _ rfl) okV_X9_set rfl rfl (tb_set (d := 1) rfl rfl (pm_tw_of 4 24 (by decide) (by decide) (by decide)) (by decide)) rfl rfl hdd (by decide) (by decide) (by decide) (pm_kv (fun σ' cnt' hq => ?_))
    obtain ⟨rfl, rfl⟩ := hq
    refine pm_iincX (v := 21) (loc' := [some (.ref (B + 48)), some (.int za), some (.int zb), some (.int 0), some (.int 21)]) hG dX8_layOut_57 rfl (by rfl) (by decide) (pm_c1b rfl) rfl ?_
    refine pm_goto (tgt := 39) hG dX8_layOut_60 rfl ?_
    refine pm_iloadi hG dX8_layOut_39 rfl ?_
    refine pm_bipush (v := 24) hG dX8_layOut_41 (by decide) ?_
    refine pm_icmp_ge (tgt := 63) hG dX8_layOut_43 rfl (fun q => absurd q (by decide)) (fun _ => ?_)
    refine pm_aloadn hG dX8_layOut_46 rfl ?_
    refine pm_getf hG dX8_layOut_47 (flX8_23 _ rfl) rfl rfl ?_
    refine pm_iloadn hG dX8_layOut_50 rfl ?_
    refine pm_iloadi hG dX8_layOut_51 rfl ?_
    refine pm_iconst (v := 0) hG dX8_layOut_53 (by decide) ?_
    refine pm_callV (As := [.int za, .int 21, .int 0]) (rest := []) hG hR dX8_layOut_54 (lkX8_31 _ rfl) okV_X9_set rfl rfl (tb_set (d := 1) rfl rfl (pm_tw_of 4 24 (by decide) (by decide) (by decide)) (by decide)) rfl rfl hdd (by decide) (by decide) (by decide) (pm_kv (fun σ' cnt' hq => ?_))
    obtain ⟨rfl, rfl⟩ := hq
    refine pm_iincX (v := 22) (loc' := [some (.ref (B + 48)), some (.int za), some (.int zb), some (.int 0), some (.int 22)]) hG dX8_layOut_57 rfl (by rfl) (by decide) (pm_c1b rfl) rfl ?_
    refine pm_goto (tgt := 39) hG dX8_layOut_60 rfl ?_
    refine pm_iloadi hG dX8_layOut_39 rfl ?_
    refine pm_bipush (v := 24) hG dX8_layOut_41 (by decide) ?_
    refine pm_icmp_ge (tgt := 63) hG dX8_layOut_43 rfl (fun q => absurd q (by decide)) (fun _ => ?_)
    refine pm_aloadn hG dX8_layOut_46 rfl ?_
    refine pm_getf hG dX8_layOut_47 (flX8_23 _ rfl) rfl rfl ?_
    refine pm_iloadn hG dX8_layOut_50 rfl ?_
    refine pm_iloadi hG dX8_layOut_51 rfl ?_
    refine pm_iconst (v := 0) hG dX8_layOut_53 (by decide) ?_
    refine pm_callV (As := [.int za, .int 22, .int 0]) (rest := []) hG hR dX8_layOut_54 (lkX8_31 _ rfl) okV_X9_set rfl rfl (tb_set (d := 1) rfl rfl (pm_tw_of 4 24 (by decide) (by decide) (by decide)) (by decide)) rfl rfl hdd (by decide) (by decide) (by decide) (pm_kv (fun σ' cnt' hq => ?_))
    obtain ⟨rfl, rfl⟩ := hq
    refine pm_iincX (v := 23) (loc' := [some (.ref (B + 48)), some (.int za), some (.int zb), some (.int 0), some (.int 23)]) hG dX8_layOut_57 rfl (by rfl) (by decide) (pm_c1b rfl) rfl ?_
    refine pm_goto (tgt := 39) hG dX8_layOut_60 rfl ?_
    refine pm_iloadi hG dX8_layOut_39 rfl ?_
    refine pm_bipush (v := 24) hG dX8_layOut_41 (by decide) ?_
    refine pm_icmp_ge (tgt := 63) hG dX8_layOut_43 rfl (fun q => absurd q (by decide)) (fun _ => ?_)
    refine pm_aloadn hG dX8_layOut_46 rfl ?_
    refine pm_getf hG dX8_layOut_47 (flX8_23 _ rfl) rfl rfl ?_
    refine pm_iloadn hG dX8_layOut_50 rfl ?_
    refine pm_iloadi hG dX8_layOut_51 rfl ?_
    refine pm_iconst (v := 0) hG dX8_layOut_53 (by decide) ?_
    refine pm_callV (As := [.int za, .int 23, .int 0]) (rest := []) hG hR dX8_layOut_54 (lkX8_31 _ rfl) okV_X9_set rfl rfl (tb_set (d := 1) rfl rfl (pm_tw_of 4 24 (by decide) (by decide) (by decide)) (by decide)) rfl rfl hdd (by decide) (by decide) (by decide) (pm_kv (fun σ' cnt' hq => ?_))
    obtain ⟨rfl, rfl⟩ := hq
    refine pm_iincX (v := 24) (loc' := [some (.ref (B + 48)), some (.int za), some (.int zb), some (.int 0), some (.int 24)]) hG dX8_layOut_57 rfl (by rfl) (by decide) (pm_c1b rfl) rfl ?_
    refine pm_goto (tgt := 39) hG dX8_layOut_60 rfl ?_
    refine pm_iloadi hG dX8_layOut_39 rfl ?_
    refine pm_bipush (v := 24) hG dX8_layOut_41 (by decide) ?_
    refine pm_icmp_ge (tgt := 63) hG dX8_layOut_43 rfl (fun _ => ?_) (fun q => absurd q (by decide))
    exact pm_vret hG hF dX8_layOut_63 rfl (by decide) (by decide) ⟨rfl, (Or.inl ⟨c1, rfl, rfl⟩)⟩
  · refine pm_iloadn hG dX8_layOut_4 rfl ?_
    refine pm_aloadn hG dX8_layOut_5 rfl ?_
    refine pm_getf hG dX8_layOut_6 (flX8_9 _ rfl) rfl rfl ?_
    refine pm_alen (v := 4) hG dX8_layOut_9 rfl (by decide) ?_
    refine pm_icmp_ge (tgt := 36) hG dX8_layOut_10 rfl (fun c2 => ?_) (fun c2 => ?_)
    · refine pm_iconst (v := 0) hG dX8_layOut_36 (by decide) ?_
      refine pm_istoreXi (loc' := [some (.ref (B + 48)), some (.int za), some (.int zb), some (.int 0), some (.int 0)]) hG dX8_layOut_37 (by decide) (pm_c1b rfl) rfl ?_
      refine pm_iloadi hG dX8_layOut_39 rfl ?_
      refine pm_bipush (v := 24) hG dX8_layOut_41 (by decide) ?_
      refine pm_icmp_ge (tgt := 63) hG dX8_layOut_43 rfl (fun q => absurd q (by decide)) (fun _ => ?_)
      refine pm_aloadn hG dX8_layOut_46 rfl ?_
      refine pm_getf hG dX8_layOut_47 (flX8_23 _ rfl) rfl rfl ?_
      refine pm_iloadn hG dX8_layOut_50 rfl ?_
      refine pm_iloadi hG dX8_layOut_51 rfl ?_
      refine pm_iconst (v := 0) hG dX8_layOut_53 (by decide) ?_
      refine pm_callV (As := [.int za, .int 0, .int 0]) (rest := []) hG hR dX8_layOut_54 (lkX8_31 _ rfl) okV_X9_set rfl rfl (tb_set (d := 1) rfl rfl (pm_tw_of 4 24 (by decide) (by decide) (by decide)) (by decide)) rfl rfl hdd (by decide) (by decide) (by decide) (pm_kv (fun σ' cnt' hq => ?_))
      obtain ⟨rfl, rfl⟩ := hq
      refine pm_iincX (v := 1) (loc' := [some (.ref (B + 48)), some (.int za), some (.int zb), some (.int 0), some (.int 1)]) hG dX8_layOut_57 rfl (by rfl) (by decide) (pm_c1b rfl) rfl ?_
      refine pm_goto (tgt := 39) hG dX8_layOut_60 rfl ?_
      refine pm_iloadi hG dX8_layOut_39 rfl ?_
      refine pm_bipush (v := 24) hG dX8_layOut_41 (by decide) ?_
      refine pm_icmp_ge (tgt := 63) hG dX8_layOut_43 rfl (fun q => absurd q (by decide)) (fun _ => ?_)
      refine pm_aloadn hG dX8_layOut_46 rfl ?_
      refine pm_getf hG dX8_layOut_47 (flX8_23 _ rfl) rfl rfl ?_
      refine pm_iloadn hG dX8_layOut_50 rfl ?_
      refine pm_iloadi hG dX8_layOut_51 rfl ?_
      refine pm_iconst (v := 0) hG dX8_layOut_53 (by decide) ?_
      refine pm_callV (As := [.int za, .int 1, .int 0]) (rest := []) hG hR dX8_layOut_54 (lkX8_31 _ rfl) okV_X9_set rfl rfl (tb_set (d := 1) rfl rfl (pm_tw_of 4 24 (by decide) (by decide) (by decide)) (by decide)) rfl rfl hdd (by decide) (by decide) (by decide) (pm_kv (fun σ' cnt' hq => ?_))
      obtain ⟨rfl, rfl⟩ := hq
      refine pm_iincX (v := 2) (loc' := [some (.ref (B + 48)), some (.int za), some (.int zb), some (.int 0), some (.int 2)]) hG dX8_layOut_57 rfl (by rfl) (by decide) (pm_c1b rfl) rfl ?_
      refine pm_goto (tgt := 39) hG dX8_layOut_60 rfl ?_
      refine pm_iloadi hG dX8_layOut_39 rfl ?_
      refine pm_bipush (v := 24) hG dX8_layOut_41 (by decide) ?_
      refine pm_icmp_ge (tgt := 63) hG dX8_layOut_43 rfl (fun q => absurd q (by decide)) (fun _ => ?_)
      refine pm_aloadn hG dX8_layOut_46 rfl ?_
      refine pm_getf hG dX8_layOut_47 (flX8_23 _ rfl) rfl rfl ?_
      refine pm_iloadn hG dX8_layOut_50 rfl ?_
      refine pm_iloadi hG dX8_layOut_51 rfl ?_
      refine pm_iconst (v := 0) hG dX8_layOut_53 (by decide) ?_
      refine pm_callV (As := [.int za, .int 2, .int 0]) (rest := []) hG hR dX8_layOut_54 (lkX8_31 _ rfl) okV_X9_set rfl rfl (tb_set (d := 1) rfl rfl (pm_tw_of 4 24 (by decide) (by decide) (by decide)) (by decide)) rfl rfl hdd (by decide) (by decide) (by decide) (pm_kv (fun σ' cnt' hq => ?_))
      obtain ⟨rfl, rfl⟩ := hq
      refine pm_iincX (v := 3) (loc' := [some (.ref (B + 48)), some (.int za), some (.int zb), some (.int 0), some (.int 3)]) hG dX8_layOut_57 rfl (by rfl) (by decide) (pm_c1b rfl) rfl ?_
      refine pm_goto (tgt := 39) hG dX8_layOut_60 rfl ?_
      refine pm_iloadi hG dX8_layOut_39 rfl ?_
      refine pm_bipush (v := 24) hG dX8_layOut_41 (by decide) ?_
      refine pm_icmp_ge (tgt := 63) hG dX8_layOut_43 rfl (fun q => absurd q (by decide)) (fun _ => ?_)
      refine pm_aloadn hG dX8_layOut_46 rfl ?_
      refine pm_getf hG dX8_layOut_47 (flX8_23 _ rfl) rfl rfl ?_
      refine pm_iloadn hG dX8_layOut_50 rfl ?_
      refine pm_iloadi hG dX8_layOut_51 rfl ?_
      refine pm_iconst (v := 0) hG dX8_layOut_53 (by decide) ?_
      refine pm_callV (As := [.int za, .int 3, .int 0]) (rest := []) hG hR dX8_layOut_54 (lkX8_31 _ rfl) okV_X9_set rfl rfl (tb_set (d := 1) rfl rfl (pm_tw_of 4 24 (by decide) (by decide) (by decide)) (by decide)) rfl rfl hdd (by decide) (by decide) (by decide) (pm_kv (fun σ' cnt' hq => ?_))
      obtain ⟨rfl, rfl⟩ := hq
      refine pm_iincX (v := 4) (loc' := [some (.ref (B + 48)), some (.int za), some (.int zb), some (.int 0), some (.int 4)]) hG dX8_layOut_57 rfl (by rfl) (by decide) (pm_c1b rfl) rfl ?_
      refine pm_goto (tgt := 39) hG dX8_layOut_60 rfl ?_
      refine pm_iloadi hG dX8_layOut_39 rfl ?_
      refine pm_bipush (v := 24) hG dX8_layOut_41 (by decide) ?_
      refine pm_icmp_ge (tgt := 63) hG dX8_layOut_43 rfl (fun q => absurd q (by decide)) (fun _ => ?_)
      refine pm_aloadn hG dX8_layOut_46 rfl ?_
      refine pm_getf hG dX8_layOut_47 (flX8_23 _ rfl) rfl rfl ?_
      refine pm_iloadn hG dX8_layOut_50 rfl ?_
      refine pm_iloadi hG dX8_layOut_51 rfl ?_
      refine pm_iconst (v := 0) hG dX8_layOut_53 (by decide) ?_
      refine pm_callV (As := [.int za, .int 4, .int 0]) (rest := []) hG hR dX8_layOut_54 (lkX8_31 _ rfl) okV_X9_set rfl rfl (tb_set (d := 1) rfl rfl (pm_tw_of 4 24 (by decide) (by decide) (by decide)) (by decide)) rfl rfl hdd (by decide) (by decide) (by decide) (pm_kv (fun σ' cnt' hq => ?_))
      obtain ⟨rfl, rfl⟩ := hq
      refine pm_iincX (v := 5) (loc' := [some (.ref (B + 48)), some (.int za), some (.int zb), some (.int 0), some (.int 5)]) hG dX8_layOut_57 rfl (by rfl) (by decide) (pm_c1b rfl) rfl ?_
      refine pm_goto (tgt := 39) hG dX8_layOut_60 rfl ?_
      refine pm_iloadi hG dX8_layOut_39 rfl ?_
      refine pm_bipush (v := 24) hG dX8_layOut_41 (by decide) ?_
      refine pm_icmp_ge (tgt := 63) hG dX8_layOut_43 rfl (fun q => absurd q (by decide)) (fun _ => ?_)
      refine pm_aloadn hG dX8_layOut_46 rfl ?_
      refine pm_getf hG dX8_layOut_47 (flX8_23 _ rfl) rfl rfl ?_
      refine pm_iloadn hG dX8_layOut_50 rfl ?_
      refine pm_iloadi hG dX8_layOut_51 rfl ?_
      refine pm_iconst (v := 0) hG dX8_layOut_53 (by decide) ?_
      refine pm_callV (As := [.int za, .int 5, .int 0]) (rest := []) hG hR dX8_layOut_54 (lkX8_31 _ rfl) okV_X9_set rfl rfl (tb_set (d := 1) rfl rfl (pm_tw_of 4 24 (by decide) (by decide) (by decide)) (by decide)) rfl rfl hdd (by decide) (by decide) (by decide) (pm_kv (fun σ' cnt' hq => ?_))
      obtain ⟨rfl, rfl⟩ := hq
      refine pm_iincX (v := 6) (loc' := [some (.ref (B + 48)), some (.int za), some (.int zb), some (.int 0), some (.int 6)]) hG dX8_layOut_57 rfl (by rfl) (by decide) (pm_c1b rfl) rfl ?_
      refine pm_goto (tgt := 39) hG dX8_layOut_60 rfl ?_
      refine pm_iloadi hG dX8_layOut_39 rfl ?_
      refine pm_bipush (v := 24) hG dX8_layOut_41 (by decide) ?_
      refine pm_icmp_ge (tgt := 63) hG dX8_layOut_43 rfl (fun q => absurd q (by decide)) (fun _ => ?_)
      refine pm_aloadn hG dX8_layOut_46 rfl ?_
      refine pm_getf hG dX8_layOut_47 (flX8_23 _ rfl) rfl rfl ?_
      refine pm_iloadn hG dX8_layOut_50 rfl ?_
      refine pm_iloadi hG dX8_layOut_51 rfl ?_
      refine pm_iconst (v := 0) hG dX8_layOut_53 (by decide) ?_
      refine pm_callV (As := [.int za, .int 6, .int 0]) (rest := []) hG hR dX8_layOut_54 (lkX8_31 _ rfl) okV_X9_set rfl rfl (tb_set (d := 1) rfl rfl (pm_tw_of 4 24 (by decide) (by decide) (by decide)) (by decide)) rfl rfl hdd (by decide) (by decide) (by decide) (pm_kv (fun σ' cnt' hq => ?_))
      obtain ⟨rfl, rfl⟩ := hq
      refine pm_iincX (v := 7) (loc' := [some (.ref (B + 48)), some (.int za), some (.int zb), some (.int 0), some (.int 7)]) hG dX8_layOut_57 rfl (by rfl) (by decide) (pm_c1b rfl) rfl ?_
      refine pm_goto (tgt := 39) hG dX8_layOut_60 rfl ?_
      refine pm_iloadi hG dX8_layOut_39 rfl ?_
      refine pm_bipush (v := 24) hG dX8_layOut_41 (by decide) ?_
      refine pm_icmp_ge (tgt := 63) hG dX8_layOut_43 rfl (fun q => absurd q (by decide)) (fun _ => ?_)
      refine pm_aloadn hG dX8_layOut_46 rfl ?_
      refine pm_getf hG dX8_layOut_47 (flX8_23 _ rfl) rfl rfl ?_
      refine pm_iloadn hG dX8_layOut_50 rfl ?_
      refine pm_iloadi hG dX8_layOut_51 rfl ?_
      refine pm_iconst (v := 0) hG dX8_layOut_53 (by decide) ?_
      refine pm_callV (As := [.int za, .int 7, .int 0]) (rest := []) hG hR dX8_layOut_54 (lkX8_31 _ rfl) okV_X9_set rfl rfl (tb_set (d := 1) rfl rfl (pm_tw_of 4 24 (by decide) (by decide) (by decide)) (by decide)) rfl rfl hdd (by decide) (by decide) (by decide) (pm_kv (fun σ' cnt' hq => ?_))
      obtain ⟨rfl, rfl⟩ := hq
      refine pm_iincX (v := 8) (loc' := [some (.ref (B + 48)), some (.int za), some (.int zb), some (.int 0), some (.int 8)]) hG dX8_layOut_57 rfl (by rfl) (by decide) (pm_c1b rfl) rfl ?_
      refine pm_goto (tgt := 39) hG dX8_layOut_60 rfl ?_
      refine pm_iloadi hG dX8_layOut_39 rfl ?_
      refine pm_bipush (v := 24) hG dX8_layOut_41 (by decide) ?_
      refine pm_icmp_ge (tgt := 63) hG dX8_layOut_43 rfl (fun q => absurd q (by decide)) (fun _ => ?_)
      refine pm_aloadn hG dX8_layOut_46 rfl ?_
      refine pm_getf hG dX8_layOut_47 (flX8_23 _ rfl) rfl rfl ?_
      refine pm_iloadn hG dX8_layOut_50 rfl ?_
      refine pm_iloadi hG dX8_layOut_51 rfl ?_
      refine pm_iconst (v := 0) hG dX8_layOut_53 (by decide) ?_
      refine pm_callV (As := [.int za, .int 8, .int 0]) (rest := []) hG hR dX8_layOut_54 (lkX8_31 _ rfl) okV_X9_set rfl rfl (tb_set (d := 1) rfl rfl (pm_tw_of 4 24 (by decide) (by decide) (by decide)) (by decide)) rfl rfl hdd (by decide) (by decide) (by decide) (pm_kv (fun σ' cnt' hq => ?_))
      obtain ⟨rfl, rfl⟩ := hq
      refine pm_iincX (v := 9) (loc' := [some (.ref (B + 48)), some (.int za), some (.int zb), some (.int 0), some (.int 9)]) hG dX8_layOut_57 rfl (by rfl) (by decide) (pm_c1b rfl) rfl ?_
      refine pm_goto (tgt := 39) hG dX8_layOut_60 rfl ?_
      refine pm_iloadi hG dX8_layOut_39 rfl ?_
      refine pm_bipush (v := 24) hG dX8_layOut_41 (by decide) ?_
      refine pm_icmp_ge (tgt := 63) hG dX8_layOut_43 rfl (fun q => absurd q (by decide)) (fun _ => ?_)
      refine pm_aloadn hG dX8_layOut_46 rfl ?_
      refine pm_getf hG dX8_layOut_47 (flX8_23 _ rfl) rfl rfl ?_
      refine pm_iloadn hG dX8_layOut_50 rfl ?_
      refine pm_iloadi hG dX8_layOut_51 rfl ?_
      refine pm_iconst (v := 0) hG dX8_layOut_53 (by decide) ?_
      refine pm_callV (As := [.int za, .int 9, .int 0]) (rest := []) hG hR dX8_layOut_54 (lkX8_31 _ rfl) okV_X9_set rfl rfl (tb_set (d := 1) rfl rfl (pm_tw_of 4 24 (by decide) (by decide) (by decide)) (by decide)) rfl rfl hdd (by decide) (by decide) (by decide) (pm_kv (fun σ' cnt' hq => ?_))
      obtain ⟨rfl, rfl⟩ := hq
      refine pm_iincX (v := 10) (loc' := [some (.ref (B + 48)), some (.int za), some (.int zb), some (.int 0), some (.int 10)]) hG dX8_layOut_57 rfl (by rfl) (by decide) (pm_c1b rfl) rfl ?_
      refine pm_goto (tgt := 39) hG dX8_layOut_60 rfl ?_
      refine pm_iloadi hG dX8_layOut_39 rfl ?_
      refine pm_bipush (v := 24) hG dX8_layOut_41 (by decide) ?_
      refine pm_icmp_ge (tgt := 63) hG dX8_layOut_43 rfl (fun q => absurd q (by decide)) (fun _ => ?_)
      refine pm_aloadn hG dX8_layOut_46 rfl ?_
      refine pm_getf hG dX8_layOut_47 (flX8_23 _ rfl) rfl rfl ?_
      refine pm_iloadn hG dX8_layOut_50 rfl ?_
      refine pm_iloadi hG dX8_layOut_51 rfl ?_
      refine pm_iconst (v := 0) hG dX8_layOut_53 (by decide) ?_
      refine pm_callV (As := [.int za, .int 10, .int 0]) (rest := []) hG hR dX8_layOut_54 (lkX8_31 _ rfl) okV_X9_set rfl rfl (tb_set (d := 1) rfl rfl (pm_tw_of 4 24 (by decide) (by decide) (by decide)) (by decide)) rfl rfl hdd (by decide) (by decide) (by decide) (pm_kv (fun σ' cnt' hq => ?_))
      obtain ⟨rfl, rfl⟩ := hq
      refine pm_iincX (v := 11) (loc' := [some (.ref (B + 48)), some (.int za), some (.int zb), some (.int 0), some (.int 11)]) hG dX8_layOut_57 rfl (by rfl) (by decide) (pm_c1b rfl) rfl ?_
      refine pm_goto (tgt := 39) hG dX8_layOut_60 rfl ?_
      refine pm_iloadi hG dX8_layOut_39 rfl ?_
      refine pm_bipush (v := 24) hG dX8_layOut_41 (by decide) ?_
      refine pm_icmp_ge (tgt := 63) hG dX8_layOut_43 rfl (fun q => absurd q (by decide)) (fun _ => ?_)
      refine pm_aloadn hG dX8_layOut_46 rfl ?_
      refine pm_getf hG dX8_layOut_47 (flX8_23 _ rfl) rfl rfl ?_
      refine pm_iloadn hG dX8_layOut_50 rfl ?_
      refine pm_iloadi hG dX8_layOut_51 rfl ?_
      refine pm_iconst (v := 0) hG dX8_layOut_53 (by decide) ?_
      refine pm_callV (As := [.int za, .int 11, .int 0]) (rest := []) hG hR dX8_layOut_54 (lkX8_31 _ rfl) okV_X9_set rfl rfl (tb_set (d := 1) rfl rfl (pm_tw_of 4 24 (by decide) (by decide) (by decide)) (by decide)) rfl rfl hdd (by decide) (by decide) (by decide) (pm_kv (fun σ' cnt' hq => ?_))
      obtain ⟨rfl, rfl⟩ := hq
      refine pm_iincX (v := 12) (loc' := [some (.ref (B + 48)), some (.int za), some (.int zb), some (.int 0), some (.int 12)]) hG dX8_layOut_57 rfl (by rfl) (by decide) (pm_c1b rfl) rfl ?_
      refine pm_goto (tgt := 39) hG dX8_layOut_60 rfl ?_
      refine pm_iloadi hG dX8_layOut_39 rfl ?_
      refine pm_bipush (v := 24) hG dX8_layOut_41 (by decide) ?_
      refine pm_icmp_ge (tgt := 63) hG dX8_layOut_43 rfl (fun q => absurd q (by decide)) (fun _ => ?_)
      refine pm_aloadn hG dX8_layOut_46 rfl ?_
      refine pm_getf hG dX8_layOut_47 (flX8_23 _ rfl) rfl rfl ?_
      refine pm_iloadn hG dX8_layOut_50 rfl ?_
      refine pm_iloadi hG dX8_layOut_51 rfl ?_
      refine pm_iconst (v := 0) hG dX8_layOut_53 (by decide) ?_
      refine pm_callV (As := [.int za, .int 12, .int 0]) (rest := []) hG hR dX8_layOut_54 (lkX8_31 _ rfl) okV_X9_set rfl rfl (tb_set (d := 1) rfl rfl (pm_tw_of 4 24 (by decide) (by decide) (by decide)) (by decide)) rfl rfl hdd (by decide) (by decide) (by decide) (pm_kv (fun σ' cnt' hq => ?_))
      obtain ⟨rfl, rfl⟩ := hq
      refine pm_iincX (v := 13) (loc' := [some (.ref (B + 48)), some (.int za), some (.int zb), some (.int 0), some (.int 13)]) hG dX8_layOut_57 rfl (by rfl) (by decide) (pm_c1b rfl) rfl ?_
      refine pm_goto (tgt := 39) hG dX8_layOut_60 rfl ?_
      refine pm_iloadi hG dX8_layOut_39 rfl ?_
      refine pm_bipush (v := 24) hG dX8_layOut_41 (by decide) ?_
      refine pm_icmp_ge (tgt := 63) hG dX8_layOut_43 rfl (fun q => absurd q (by decide)) (fun _ => ?_)
      refine pm_aloadn hG dX8_layOut_46 rfl ?_
      refine pm_getf hG dX8_layOut_47 (flX8_23 _ rfl) rfl rfl ?_
      refine pm_iloadn hG dX8_layOut_50 rfl ?_
      refine pm_iloadi hG dX8_layOut_51 rfl ?_
      refine pm_iconst (v := 0) hG dX8_layOut_53 (by decide) ?_
      refine pm_callV (As := [.int za, .int 13, .int 0]) (rest := []) hG hR dX8_layOut_54 (lkX8_31 _ rfl) okV_X9_set rfl rfl (tb_set (d := 1) rfl rfl (pm_tw_of 4 24 (by decide) (by decide) (by decide)) (by decide)) rfl rfl hdd (by decide) (by decide) (by decide) (pm_kv (fun σ' cnt' hq => ?_))
      obtain ⟨rfl, rfl⟩ := hq
      refine pm_iincX (v := 14) (loc' := [some (.ref (B + 48)), some (.int za), some (.int zb), some (.int 0), some (.int 14)]) hG dX8_layOut_57 rfl (by rfl) (by decide) (pm_c1b rfl) rfl ?_
      refine pm_goto (tgt := 39) hG dX8_layOut_60 rfl ?_
      refine pm_iloadi hG dX8_layOut_39 rfl ?_
      refine pm_bipush (v := 24) hG dX8_layOut_41 (by decide) ?_
      refine pm_icmp_ge (tgt := 63) hG dX8_layOut_43 rfl (fun q => absurd q (by decide)) (fun _ => ?_)
      refine pm_aloadn hG dX8_layOut_46 rfl ?_
      refine pm_getf hG dX8_layOut_47 (flX8_23 _ rfl) rfl rfl ?_
      refine pm_iloadn hG dX8_layOut_50 rfl ?_
      refine pm_iloadi hG dX8_layOut_51 rfl ?_
      refine pm_iconst (v := 0) hG dX8_layOut_53 (by decide) ?_
      refine pm_callV (As := [.int za, .int 14, .int 0]) (rest := []) hG hR dX8_layOut_54 (lkX8_31 _ rfl) okV_X9_set rfl rfl (tb_set (d := 1) rfl rfl (pm_tw_of 4 24 (by decide) (by decide) (by decide)) (by decide)) rfl rfl hdd (by decide) (by decide) (by decide) (pm_kv (fun σ' cnt' hq => ?_))
      obtain ⟨rfl, rfl⟩ := hq
      refine pm_iincX (v := 15) (loc' := [some (.ref (B + 48)), some (.int za), some (.int zb), some (.int 0), some (.int 15)]) hG dX8_layOut_57 rfl (by rfl) (by decide) (pm_c1b rfl) rfl ?_
      refine pm_goto (tgt := 39) hG dX8_layOut_60 rfl ?_
      refine pm_iloadi hG dX8_layOut_39 rfl ?_
      refine pm_bipush (v := 24) hG dX8_layOut_41 (by decide) ?_
      refine pm_icmp_ge (tgt := 63) hG dX8_layOut_43 rfl (fun q => absurd q (by decide)) (fun _ => ?_)
      refine pm_aloadn hG dX8_layOut_46 rfl ?_
      refine pm_getf hG dX8_layOut_47 (flX8_23 _ rfl) rfl rfl ?_
      refine pm_iloadn hG dX8_layOut_50 rfl ?_
      refine pm_iloadi hG dX8_layOut_51 rfl ?_
      refine pm_iconst (v := 0) hG dX8_layOut_53 (by decide) ?_
      refine pm_callV (As := [.int za, .int 15, .int 0]) (rest := []) hG hR dX8_layOut_54 (lkX8_31 _ rfl) okV_X9_set rfl rfl (tb_set (d := 1) rfl rfl (pm_tw_of 4 24 (by decide) (by decide) (by decide)) (by decide)) rfl rfl hdd (by decide) (by decide) (by decide) (pm_kv (fun σ' cnt' hq => ?_))
      obtain ⟨rfl, rfl⟩ := hq
      refine pm_iincX (v := 16) (loc' := [some (.ref (B + 48)), some (.int za), some (.int zb), some (.int 0), some (.int 16)]) hG dX8_layOut_57 rfl (by rfl) (by decide) (pm_c1b rfl) rfl ?_
      refine pm_goto (tgt := 39) hG dX8_layOut_60 rfl ?_
      refine pm_iloadi hG dX8_layOut_39 rfl ?_
      refine pm_bipush (v := 24) hG dX8_layOut_41 (by decide) ?_
      refine pm_icmp_ge (tgt := 63) hG dX8_layOut_43 rfl (fun q => absurd q (by decide)) (fun _ => ?_)
      refine pm_aloadn hG dX8_layOut_46 rfl ?_
      refine pm_getf hG dX8_layOut_47 (flX8_23 _ rfl) rfl rfl ?_
      refine pm_iloadn hG dX8_layOut_50 rfl ?_
      refine pm_iloadi hG dX8_layOut_51 rfl ?_
      refine pm_iconst (v := 0) hG dX8_layOut_53 (by decide) ?_
      refine pm_callV (As := [.int za, .int 16, .int 0]) (rest := []) hG hR dX8_layOut_54 (lkX8_31 _ rfl) okV_X9_set rfl rfl (tb_set (d := 1) rfl rfl (pm_tw_of 4 24 (by decide) (by decide) (by decide)) (by decide)) rfl rfl hdd (by decide) (by decide) (by decide) (pm_kv (fun σ' cnt' hq => ?_))
      obtain ⟨rfl, rfl⟩ := hq
      refine pm_iincX (v := 17) (loc' := [some (.ref (B + 48)), some (.int za), some (.int zb), some (.int 0), some (.int 17)]) hG dX8_layOut_57 rfl (by rfl) (by decide) (pm_c1b rfl) rfl ?_
      refine pm_goto (tgt := 39) hG dX8_layOut_60 rfl ?_
      refine pm_iloadi hG dX8_layOut_39 rfl ?_
      refine pm_bipush (v := 24) hG dX8_layOut_41 (by decide) ?_
      refine pm_icmp_ge (tgt := 63) hG dX8_layOut_43 rfl (fun q => absurd q (by decide)) (fun _ => ?_)
      refine pm_aloadn hG dX8_layOut_46 rfl ?_
      refine pm_getf hG dX8_layOut_47 (flX8_23 _ rfl) rfl rfl ?_
      refine pm_iloadn hG dX8_layOut_50 rfl ?_
      refine pm_iloadi hG dX8_layOut_51 rfl ?_
      refine pm_iconst (v := 0) hG dX8_layOut_53 (by decide) ?_
      refine pm_callV (As := [.int za, .int 17, .int 0]) (rest := []) hG hR dX8_layOut_54 (lkX8_31 _ rfl) okV_X9_set rfl rfl (tb_set (d := 1) rfl rfl (pm_tw_of 4 24 (by decide) (by decide) (by decide)) (by decide)) rfl rfl hdd (by decide) (by decide) (by decide) (pm_kv (fun σ' cnt' hq => ?_))
      obtain ⟨rfl, rfl⟩ := hq
      refine pm_iincX (v := 18) (loc' := [some (.ref (B + 48)), some (.int za), some (.int zb), some (.int 0), some (.int 18)]) hG dX8_layOut_57 rfl (by rfl) (by decide) (pm_c1b rfl) rfl ?_
      refine pm_goto (tgt := 39) hG dX8_layOut_60 rfl ?_
      refine pm_iloadi hG dX8_layOut_39 rfl ?_
      refine pm_bipush (v := 24) hG dX8_layOut_41 (by decide) ?_
      refine pm_icmp_ge (tgt := 63) hG dX8_layOut_43 rfl (fun q => absurd q (by decide)) (fun _ => ?_)
      refine pm_aloadn hG dX8_layOut_46 rfl ?_
      refine pm_getf hG dX8_layOut_47 (flX8_23 _ rfl) rfl rfl ?_
      refine pm_iloadn hG dX8_layOut_50 rfl ?_
      refine pm_iloadi hG dX8_layOut_51 rfl ?_
      refine pm_iconst (v := 0) hG dX8_layOut_53 (by decide) ?_
      refine pm_callV (As := [.int za, .int 18, .int 0]) (rest := []) hG hR dX8_layOut_54 (lkX8_31 _ rfl) okV_X9_set rfl rfl (tb_set (d := 1) rfl rfl (pm_tw_of 4 24 (by decide) (by decide) (by decide)) (by decide)) rfl rfl hdd (by decide) (by decide) (by decide) (pm_kv (fun σ' cnt' hq => ?_))
      obtain ⟨rfl, rfl⟩ := hq
      refine pm_iincX (v := 19) (loc' := [some (.ref (B + 48)), some (.int za), some (.int zb), some (.int 0), some (.int 19)]) hG dX8_layOut_57 rfl (by rfl) (by decide) (pm_c1b rfl) rfl ?_
      refine pm_goto (tgt := 39) hG dX8_layOut_60 rfl ?_
      refine pm_iloadi hG dX8_layOut_39 rfl ?_
      refine pm_bipush (v := 24) hG dX8_layOut_41 (by decide) ?_
      refine pm_icmp_ge (tgt := 63) hG dX8_layOut_43 rfl (fun q => absurd q (by decide)) (fun _ => ?_)
      refine pm_aloadn hG dX8_layOut_46 rfl ?_
      refine pm_getf hG dX8_layOut_47 (flX8_23 _ rfl) rfl rfl ?_
      refine pm_iloadn hG dX8_layOut_50 rfl ?_
      refine pm_iloadi hG dX8_layOut_51 rfl ?_
      refine pm_iconst (v := 0) hG dX8_layOut_53 (by decide) ?_
      refine pm_callV (As := [.int za, .int 19, .int 0]) (rest := []) hG hR dX8_layOut_54 (lkX8_31 _ rfl) okV_X9_set rfl rfl (tb_set (d := 1) rfl rfl (pm_tw_of 4 24 (by decide) (by decide) (by decide)) (by decide)) rfl rfl hdd (by decide) (by decide) (by decide) (pm_kv (fun σ' cnt' hq => ?_))
      obtain ⟨rfl, rfl⟩ := hq
      refine pm_iincX (v := 20) (loc' := [some (.ref (B + 48)), some (.int za), some (.int zb), some (.int 0), some (.int 20)]) hG dX8_layOut_57 rfl (by rfl) (by decide) (pm_c1b rfl) rfl ?_
      refine pm_goto (tgt := 39) hG dX8_layOut_60 rfl ?_
      refine pm_iloadi hG dX8_layOut_39 rfl ?_
      refine pm_bipush (v := 24) hG dX8_layOut_41 (by decide) ?_
      refine pm_icmp_ge (tgt := 63) hG dX8_layOut_43 rfl (fun q => absurd q (by decide)) (fun _ => ?_)
      refine pm_aloadn hG dX8_layOut_46 rfl ?_
      refine pm_getf hG dX8_layOut_47 (flX8_23 _ rfl) rfl rfl ?_
      refine pm_iloadn hG dX8_layOut_50 rfl ?_
      refine pm_iloadi hG dX8_layOut_51 rfl ?_
      refine pm_iconst (v := 0) hG dX8_layOut_53 (by decide) ?_
      refine pm_callV (As := [.int za, .int 20, .int 0]) (rest := []) hG hR dX8_layOut_54 (lkX8_31 _ rfl) okV_X9_set rfl rfl (tb_set (d := 1) rfl rfl (pm_tw_of 4 24 (by decide) (by decide) (by decide)) (by decide)) rfl rfl hdd (by decide) (by decide) (by decide) (pm_kv (fun σ' cnt' hq => ?_))
      obtain ⟨rfl, rfl⟩ := hq
      refine pm_iincX (v := 21) (loc' := [some (.ref (B + 48)), some (.int za), some (.int zb), some (.int 0), some (.int 21)]) hG dX8_layOut_57 rfl (by rfl) (by decide) (pm_c1b rfl) rfl ?_
      refine pm_goto (tgt := 39) hG dX8_layOut_60 rfl ?_
      refine pm_iloadi hG dX8_layOut_39 rfl ?_
      refine pm_bipush (v := 24) hG dX8_layOut_41 (by decide) ?_
      refine pm_icmp_ge (tgt := 63) hG dX8_layOut_43 rfl (fun q => absurd q (by decide)) (fun _ => ?_)
      refine pm_aloadn hG dX8_layOut_46 rfl ?_
      refine pm_getf hG dX8_layOut_47 (flX8_23 _ rfl) rfl rfl ?_
      refine pm_iloadn hG dX8_layOut_50 rfl ?_
      refine pm_iloadi hG dX8_layOut_51 rfl ?_
      refine pm_iconst (v := 0) hG dX8_layOut_53 (by decide) ?_
      refine pm_callV (As := [.int za, .int 21, .int 0]) (rest := []) hG hR dX8_layOut_54 (lkX8_31 _ rfl) okV_X9_set rfl rfl (tb_set (d := 1) rfl rfl (pm_tw_of 4 24 (by decide) (by decide) (by decide)) (by decide)) rfl rfl hdd (by decide) (by decide) (by decide) (pm_kv (fun σ' cnt' hq => ?_))
      obtain ⟨rfl, rfl⟩ := hq
      refine pm_iincX (v := 22) (loc' := [some (.ref (B + 48)), some (.int za), some (.int zb), some (.int 0), some (.int 22)]) hG dX8_layOut_57 rfl (by rfl) (by decide) (pm_c1b rfl) rfl ?_
      refine pm_goto (tgt := 39) hG dX8_layOut_60 rfl ?_
      refine pm_iloadi hG dX8_layOut_39 rfl ?_
      refine pm_bipush (v := 24) hG dX8_layOut_41 (by decide) ?_
      refine pm_icmp_ge (tgt := 63) hG dX8_layOut_43 rfl (fun q => absurd q (by decide)) (fun _ => ?_)
      refine pm_aloadn hG dX8_layOut_46 rfl ?_
      refine pm_getf hG dX8_layOut_47 (flX8_23 _ rfl) rfl rfl ?_
      refine pm_iloadn hG dX8_layOut_50 rfl ?_
      refine pm_iloadi hG dX8_layOut_51 rfl ?_
      refine pm_iconst (v := 0) hG dX8_layOut_53 (by decide) ?_
      refine pm_callV (As := [.int za, .int 22, .int 0]) (rest := []) hG hR dX8_layOut_54 (lkX8_31 _ rfl) okV_X9_set rfl rfl (tb_set (d := 1) rfl rfl (pm_tw_of 4 24 (by decide) (by decide) (by decide)) (by decide)) rfl rfl hdd (by decide) (by decide) (by decide) (pm_kv (fun σ' cnt' hq => ?_))
      obtain ⟨rfl, rfl⟩ := hq
      refine pm_iincX (v := 23) (loc' := [some (.ref (B + 48)), some (.int za), some (.int zb), some (.int 0), some (.int 23)]) hG dX8_layOut_57 rfl (by rfl) (by decide) (pm_c1b rfl) rfl ?_
      refine pm_goto (tgt := 39) hG dX8_layOut_60 rfl ?_
      refine pm_iloadi hG dX8_layOut_39 rfl ?_
      refine pm_bipush (v := 24) hG dX8_layOut_41 (by decide) ?_
      refine pm_icmp_ge (tgt := 63) hG dX8_layOut_43 rfl (fun q => absurd q (by decide)) (fun _ => ?_)
      refine pm_aloadn hG dX8_layOut_46 rfl ?_
      refine pm_getf hG dX8_layOut_47 (flX8_23 _ rfl) rfl rfl ?_
      refine pm_iloadn hG dX8_layOut_50 rfl ?_
      refine pm_iloadi hG dX8_layOut_51 rfl ?_
      refine pm_iconst (v := 0) hG dX8_layOut_53 (by decide) ?_
      refine pm_callV (As := [.int za, .int 23, .int 0]) (rest := []) hG hR dX8_layOut_54 (lkX8_31 _ rfl) okV_X9_set rfl rfl (tb_set (d := 1) rfl rfl (pm_tw_of 4 24 (by decide) (by decide) (by decide)) (by decide)) rfl rfl hdd (by decide) (by decide) (by decide) (pm_kv (fun σ' cnt' hq => ?_))
      obtain ⟨rfl, rfl⟩ := hq
      refine pm_iincX (v := 24) (loc' := [some (.ref (B + 48)), some (.int za), some (.int zb), some (.int 0), some (.int 24)]) hG dX8_layOut_57 rfl (by rfl) (by decide) (pm_c1b rfl) rfl ?_
      refine pm_goto (tgt := 39) hG dX8_layOut_60 rfl ?_
      refine pm_iloadi hG dX8_layOut_39 rfl ?_
      refine pm_bipush (v := 24) hG dX8_layOut_41 (by decide) ?_
      refine pm_icmp_ge (tgt := 63) hG dX8_layOut_43 rfl (fun _ => ?_) (fun q => absurd q (by decide))
      exact pm_vret hG hF dX8_layOut_63 rfl (by decide) (by decide) ⟨rfl, (Or.inr (Or.inl ⟨c1, c2, rfl, rfl⟩))⟩
    · refine pm_iloadn hG dX8_layOut_13 rfl ?_
      refine pm_aloadn hG dX8_layOut_14 rfl ?_
      refine pm_getf hG dX8_layOut_15 (flX8_15 _ rfl) rfl rfl ?_
      refine pm_alen (v := 4) hG dX8_layOut_18 rfl (by decide) ?_
      refine pm_icmp_ge (tgt := 36) hG dX8_layOut_19 rfl (fun q => False.elim (by revert c1 c2 q; simp only [Int32.lt_iff_toInt_lt, Int32.le_iff_toInt_le, ← Int32.toInt_inj, Int32.toInt_zero, L_4]; omega)) (fun _ => ?_)
      refine pm_aloadn hG dX8_layOut_22 rfl ?_
      refine pm_getf hG dX8_layOut_23 (flX8_9 _ rfl) rfl rfl ?_
      refine pm_iloadn hG dX8_layOut_26 rfl ?_
      refine pm_iloadn hG dX8_layOut_27 rfl ?_
      refine pm_iast hG dX8_layOut_28 rfl (vp_in_iff.mpr (by revert c1 c2; simp only [Int32.lt_iff_toInt_lt, Int32.le_iff_toInt_le, ← Int32.toInt_inj, Int32.toInt_zero, Int32.toInt_add, Int32.toInt_mul, Int32.toInt_sub, Int.bmod_def, L_4]; omega)) ?_
      refine pm_aloadn hG dX8_layOut_29 rfl ?_
      refine pm_getf hG dX8_layOut_30 (flX8_15 _ rfl) rfl rfl ?_
      refine pm_iloadn hG dX8_layOut_33 rfl ?_
      refine pm_iloadn hG dX8_layOut_34 rfl ?_
      refine pm_iast hG dX8_layOut_35 rfl (vp_in_iff.mpr (by revert c1 c2; simp only [Int32.lt_iff_toInt_lt, Int32.le_iff_toInt_le, ← Int32.toInt_inj, Int32.toInt_zero, Int32.toInt_add, Int32.toInt_mul, Int32.toInt_sub, Int.bmod_def, L_4]; omega)) ?_
      refine pm_iconst (v := 0) hG dX8_layOut_36 (by decide) ?_
      refine pm_istoreXi (loc' := [some (.ref (B + 48)), some (.int za), some (.int zb), some (.int 0), some (.int 0)]) hG dX8_layOut_37 (by decide) (pm_c1b rfl) rfl ?_
      refine pm_iloadi hG dX8_layOut_39 rfl ?_
      refine pm_bipush (v := 24) hG dX8_layOut_41 (by decide) ?_
      refine pm_icmp_ge (tgt := 63) hG dX8_layOut_43 rfl (fun q => absurd q (by decide)) (fun _ => ?_)
      refine pm_aloadn hG dX8_layOut_46 rfl ?_
      refine pm_getf hG dX8_layOut_47 (flX8_23 _ rfl) rfl rfl ?_
      refine pm_iloadn hG dX8_layOut_50 rfl ?_
      refine pm_iloadi hG dX8_layOut_51 rfl ?_
      refine pm_iconst (v := 0) hG dX8_layOut_53 (by decide) ?_
      refine pm_callV (As := [.int za, .int 0, .int 0]) (rest := []) hG hR dX8_layOut_54 (lkX8_31 _ rfl) okV_X9_set rfl rfl (tb_set (d := 1) rfl rfl (pm_tw_of 4 24 (by decide) (by decide) (by decide)) (by decide)) rfl rfl hdd (by decide) (by decide) (by decide) (pm_kv (fun σ' cnt' hq => ?_))
      obtain ⟨rfl, rfl⟩ := hq
      refine pm_iincX (v := 1) (loc' := [some (.ref (B + 48)), some (.int za), some (.int zb), some (.int 0), some (.int 1)]) hG dX8_layOut_57 rfl (by rfl) (by decide) (pm_c1b rfl) rfl ?_
      refine pm_goto (tgt := 39) hG dX8_layOut_60 rfl ?_
      refine pm_iloadi hG dX8_layOut_39 rfl ?_
      refine pm_bipush (v := 24) hG dX8_layOut_41 (by decide) ?_
      refine pm_icmp_ge (tgt := 63) hG dX8_layOut_43 rfl (fun q => absurd q (by decide)) (fun _ => ?_)
      refine pm_aloadn hG dX8_layOut_46 rfl ?_
      refine pm_getf hG dX8_layOut_47 (flX8_23 _ rfl) rfl rfl ?_
      refine pm_iloadn hG dX8_layOut_50 rfl ?_
      refine pm_iloadi hG dX8_layOut_51 rfl ?_
      refine pm_iconst (v := 0) hG dX8_layOut_53 (by decide) ?_
      refine pm_callV (As := [.int za, .int 1, .int 0]) (rest := []) hG hR dX8_layOut_54 (lkX8_31 _ rfl) okV_X9_set rfl rfl (tb_set (d := 1) rfl rfl (pm_tw_of 4 24 (by decide) (by decide) (by decide)) (by decide)) rfl rfl hdd (by decide) (by decide) (by decide) (pm_kv (fun σ' cnt' hq => ?_))
      obtain ⟨rfl, rfl⟩ := hq
      refine pm_iincX (v := 2) (loc' := [some (.ref (B + 48)), some (.int za), some (.int zb), some (.int 0), some (.int 2)]) hG dX8_layOut_57 rfl (by rfl) (by decide) (pm_c1b rfl) rfl ?_
      refine pm_goto (tgt := 39) hG dX8_layOut_60 rfl ?_
      refine pm_iloadi hG dX8_layOut_39 rfl ?_
      refine pm_bipush (v := 24) hG dX8_layOut_41 (by decide) ?_
      refine pm_icmp_ge (tgt := 63) hG dX8_layOut_43 rfl (fun q => absurd q (by decide)) (fun _ => ?_)
      refine pm_aloadn hG dX8_layOut_46 rfl ?_
      refine pm_getf hG dX8_layOut_47 (flX8_23 _ rfl) rfl rfl ?_
      refine pm_iloadn hG dX8_layOut_50 rfl ?_
      refine pm_iloadi hG dX8_layOut_51 rfl ?_
      refine pm_iconst (v := 0) hG dX8_layOut_53 (by decide) ?_
      refine pm_callV (As := [.int za, .int 2, .int 0]) (rest := []) hG hR dX8_layOut_54 (lkX8_31 _ rfl) okV_X9_set rfl rfl (tb_set (d := 1) rfl rfl (pm_tw_of 4 24 (by decide) (by decide) (by decide)) (by decide)) rfl rfl hdd (by decide) (by decide) (by decide) (pm_kv (fun σ' cnt' hq => ?_))
      obtain ⟨rfl, rfl⟩ := hq
      refine pm_iincX (v := 3) (loc' := [some (.ref (B + 48)), some (.int za), some (.int zb), some (.int 0), some (.int 3)]) hG dX8_layOut_57 rfl (by rfl) (by decide) (pm_c1b rfl) rfl ?_
      refine pm_goto (tgt := 39) hG dX8_layOut_60 rfl ?_
      refine pm_iloadi hG dX8_layOut_39 rfl ?_
      refine pm_bipush (v := 24) hG dX8_layOut_41 (by decide) ?_
      refine pm_icmp_ge (tgt := 63) hG dX8_layOut_43 rfl (fun q => absurd q (by decide)) (fun _ => ?_)
      refine pm_aloadn hG dX8_layOut_46 rfl ?_
      refine pm_getf hG dX8_layOut_47 (flX8_23 _ rfl) rfl rfl ?_
      refine pm_iloadn hG dX8_layOut_50 rfl ?_
      refine pm_iloadi hG dX8_layOut_51 rfl ?_
      refine pm_iconst (v := 0) hG dX8_layOut_53 (by decide) ?_
      refine pm_callV (As := [.int za, .int 3, .int 0]) (rest := []) hG hR dX8_layOut_54 (lkX8_31 _ rfl) okV_X9_set rfl rfl (tb_set (d := 1) rfl rfl (pm_tw_of 4 24 (by decide) (by decide) (by decide)) (by decide)) rfl rfl hdd (by decide) (by decide) (by decide) (pm_kv (fun σ' cnt' hq => ?_))
      obtain ⟨rfl, rfl⟩ := hq
      refine pm_iincX (v := 4) (loc' := [some (.ref (B + 48)), some (.int za), some (.int zb), some (.int 0), some (.int 4)]) hG dX8_layOut_57 rfl (by rfl) (by decide) (pm_c1b rfl) rfl ?_
      refine pm_goto (tgt := 39) hG dX8_layOut_60 rfl ?_
      refine pm_iloadi hG dX8_layOut_39 rfl ?_
      refine pm_bipush (v := 24) hG dX8_layOut_41 (by decide) ?_
      refine pm_icmp_ge (tgt := 63) hG dX8_layOut_43 rfl (fun q => absurd q (by decide)) (fun _ => ?_)
      refine pm_aloadn hG dX8_layOut_46 rfl ?_
      refine pm_getf hG dX8_layOut_47 (flX8_23 _ rfl) rfl rfl ?_
      refine pm_iloadn hG dX8_layOut_50 rfl ?_
      refine pm_iloadi hG dX8_layOut_51 rfl ?_
      refine pm_iconst (v := 0) hG dX8_layOut_53 (by decide) ?_
      refine pm_callV (As := [.int za, .int 4, .int 0]) (rest := []) hG hR dX8_layOut_54 (lkX8_31 _ rfl) okV_X9_set rfl rfl (tb_set (d := 1) rfl rfl (pm_tw_of 4 24 (by decide) (by decide) (by decide)) (by decide)) rfl rfl hdd (by decide) (by decide) (by decide) (pm_kv (fun σ' cnt' hq => ?_))
      obtain ⟨rfl, rfl⟩ := hq
      refine pm_iincX (v := 5) (loc' := [some (.ref (B + 48)), some (.int za), some (.int zb), some (.int 0), some (.int 5)]) hG dX8_layOut_57 rfl (by rfl) (by decide) (pm_c1b rfl) rfl ?_
      refine pm_goto (tgt := 39) hG dX8_layOut_60 rfl ?_
      refine pm_iloadi hG dX8_layOut_39 rfl ?_
      refine pm_bipush (v := 24) hG dX8_layOut_41 (by decide) ?_
      refine pm_icmp_ge (tgt := 63) hG dX8_layOut_43 rfl (fun q => absurd q (by decide)) (fun _ => ?_)
      refine pm_aloadn hG dX8_layOut_46 rfl ?_
      refine pm_getf hG dX8_layOut_47 (flX8_23 _ rfl) rfl rfl ?_
      refine pm_iloadn hG dX8_layOut_50 rfl ?_
      refine pm_iloadi hG dX8_layOut_51 rfl ?_
      refine pm_iconst (v := 0) hG dX8_layOut_53 (by decide) ?_
      refine pm_callV (As := [.int za, .int 5, .int 0]) (rest := []) hG hR dX8_layOut_54 (lkX8_31 _ rfl) okV_X9_set rfl rfl (tb_set (d := 1) rfl rfl (pm_tw_of 4 24 (by decide) (by decide) (by decide)) (by decide)) rfl rfl hdd (by decide) (by decide) (by decide) (pm_kv (fun σ' cnt' hq => ?_))
      obtain ⟨rfl, rfl⟩ := hq
      refine pm_iincX (v := 6) (loc' := [some (.ref (B + 48)), some (.int za), some (.int zb), some (.int 0), some (.int 6)]) hG dX8_layOut_57 rfl (by rfl) (by decide) (pm_c1b rfl) rfl ?_
      refine pm_goto (tgt := 39) hG dX8_layOut_60 rfl ?_
      refine pm_iloadi hG dX8_layOut_39 rfl ?_
      refine pm_bipush (v := 24) hG dX8_layOut_41 (by decide) ?_
      refine pm_icmp_ge (tgt := 63) hG dX8_layOut_43 rfl (fun q => absurd q (by decide)) (fun _ => ?_)
      refine pm_aloadn hG dX8_layOut_46 rfl ?_
      refine pm_getf hG dX8_layOut_47 (flX8_23 _ rfl) rfl rfl ?_
      refine pm_iloadn hG dX8_layOut_50 rfl ?_
      refine pm_iloadi hG dX8_layOut_51 rfl ?_
      refine pm_iconst (v := 0) hG dX8_layOut_53 (by decide) ?_
      refine pm_callV (As := [.int za, .int 6, .int 0]) (rest := []) hG hR dX8_layOut_54 (lkX8_31 _ rfl) okV_X9_set rfl rfl (tb_set (d := 1) rfl rfl (pm_tw_of 4 24 (by decide) (by decide) (by decide)) (by decide)) rfl rfl hdd (by decide) (by decide) (by decide) (pm_kv (fun σ' cnt' hq => ?_))
      obtain ⟨rfl, rfl⟩ := hq
      refine pm_iincX (v := 7) (loc' := [some (.ref (B + 48)), some (.int za), some (.int zb), some (.int 0), some (.int 7)]) hG dX8_layOut_57 rfl (by rfl) (by decide) (pm_c1b rfl) rfl ?_
      refine pm_goto (tgt := 39) hG dX8_layOut_60 rfl ?_
      refine pm_iloadi hG dX8_layOut_39 rfl ?_
      refine pm_bipush (v := 24) hG dX8_layOut_41 (by decide) ?_
      refine pm_icmp_ge (tgt := 63) hG dX8_layOut_43 rfl (fun q => absurd q (by decide)) (fun _ => ?_)
      refine pm_aloadn hG dX8_layOut_46 rfl ?_
      refine pm_getf hG dX8_layOut_47 (flX8_23 _ rfl) rfl rfl ?_
      refine pm_iloadn hG dX8_layOut_50 rfl ?_
      refine pm_iloadi hG dX8_layOut_51 rfl ?_
      refine pm_iconst (v := 0) hG dX8_layOut_53 (by decide) ?_
      refine pm_callV (As := [.int za, .int 7, .int 0]) (rest := []) hG hR dX8_layOut_54 (lkX8_31 _ rfl) okV_X9_set rfl rfl (tb_set (d := 1) rfl rfl (pm_tw_of 4 24 (by decide) (by decide) (by decide)) (by decide)) rfl rfl hdd (by decide) (by decide) (by decide) (pm_kv (fun σ' cnt' hq => ?_))
      obtain ⟨rfl, rfl⟩ := hq
      refine pm_iincX (v := 8) (loc' := [some (.ref (B + 48)), some (.int za), some (.int zb), some (.int 0), some (.int 8)]) hG dX8_layOut_57 rfl (by rfl) (by decide) (pm_c1b rfl) rfl ?_
      refine pm_goto (tgt := 39) hG dX8_layOut_60 rfl ?_
      refine pm_iloadi hG dX8_layOut_39 rfl ?_
      refine pm_bipush (v := 24) hG dX8_layOut_41 (by decide) ?_
      refine pm_icmp_ge (tgt := 63) hG dX8_layOut_43 rfl (fun q => absurd q (by decide)) (fun _ => ?_)
      refine pm_aloadn hG dX8_layOut_46 rfl ?_
      refine pm_getf hG dX8_layOut_47 (flX8_23 _ rfl) rfl rfl ?_
      refine pm_iloadn hG dX8_layOut_50 rfl ?_
      refine pm_iloadi hG dX8_layOut_51 rfl ?_
      refine pm_iconst (v := 0) hG dX8_layOut_53 (by decide) ?_
      refine pm_callV (As := [.int za, .int 8, .int 0]) (rest := []) hG hR dX8_layOut_54 (lkX8_31 _ rfl) okV_X9_set rfl rfl (tb_set (d := 1) rfl rfl (pm_tw_of 4 24 (by decide) (by decide) (by decide)) (by decide)) rfl rfl hdd (by decide) (by decide) (by decide) (pm_kv (fun σ' cnt' hq => ?_))
      obtain ⟨rfl, rfl⟩ := hq
      refine pm_iincX (v := 9) (loc' := [some (.ref (B + 48)), some (.int za), some (.int zb), some (.int 0), some (.int 9)]) hG dX8_layOut_57 rfl (by rfl) (by decide) (pm_c1b rfl) rfl ?_
      refine pm_goto (tgt := 39) hG dX8_layOut_60 rfl ?_
      refine pm_iloadi hG dX8_layOut_39 rfl ?_
      refine pm_bipush (v := 24) hG dX8_layOut_41 (by decide) ?_
      refine pm_icmp_ge (tgt := 63) hG dX8_layOut_43 rfl (fun q => absurd q (by decide)) (fun _ => ?_)
      refine pm_aloadn hG dX8_layOut_46 rfl ?_
      refine pm_getf hG dX8_layOut_47 (flX8_23 _ rfl) rfl rfl ?_
      refine pm_iloadn hG dX8_layOut_50 rfl ?_
      refine pm_iloadi hG dX8_layOut_51 rfl ?_
      refine pm_iconst (v := 0) hG dX8_layOut_53 (by decide) ?_
      refine pm_callV (As := [.int za, .int 9, .int 0]) (rest := []) hG hR dX8_layOut_54 (lkX8_31 _ rfl) okV_X9_set rfl rfl (tb_set (d := 1) rfl rfl (pm_tw_of 4 24 (by decide) (by decide) (by decide)) (by decide)) rfl rfl hdd (by decide) (by decide) (by decide) (pm_kv (fun σ' cnt' hq => ?_))
      obtain ⟨rfl, rfl⟩ := hq
      refine pm_iincX (v := 10) (loc' := [some (.ref (B + 48)), some (.int za), some (.int zb), some (.int 0), some (.int 10)]) hG dX8_layOut_57 rfl (by rfl) (by decide) (pm_c1b rfl) rfl ?_
      refine pm_goto (tgt := 39) hG dX8_layOut_60 rfl ?_
      refine pm_iloadi hG dX8_layOut_39 rfl ?_
      refine pm_bipush (v := 24) hG dX8_layOut_41 (by decide) ?_
      refine pm_icmp_ge (tgt := 63) hG dX8_layOut_43 rfl (fun q => absurd q (by decide)) (fun _ => ?_)
      refine pm_aloadn hG dX8_layOut_46 rfl ?_
      refine pm_getf hG dX8_layOut_47 (flX8_23 _ rfl) rfl rfl ?_
      refine pm_iloadn hG dX8_layOut_50 rfl ?_
      refine pm_iloadi hG dX8_layOut_51 rfl ?_
      refine pm_iconst (v := 0) hG dX8_layOut_53 (by decide) ?_
      refine pm_callV (As := [.int za, .int 10, .int 0]) (rest := []) hG hR dX8_layOut_54 (lkX8_31 _ rfl) okV_X9_set rfl rfl (tb_set (d := 1) rfl rfl (pm_tw_of 4 24 (by decide) (by decide) (by decide)) (by decide)) rfl rfl hdd (by decide) (by decide) (by decide) (pm_kv (fun σ' cnt' hq => ?_))
      obtain ⟨rfl, rfl⟩ := hq
      refine pm_iincX (v := 11) (loc' := [some (.ref (B + 48)), some (.int za), some (.int zb), some (.int 0), some (.int 11)]) hG dX8_layOut_57 rfl (by rfl) (by decide) (pm_c1b rfl) rfl ?_
      refine pm_goto (tgt := 39) hG dX8_layOut_60 rfl ?_
      refine pm_iloadi hG dX8_layOut_39 rfl ?_
      refine pm_bipush (v := 24) hG dX8_layOut_41 (by decide) ?_
      refine pm_icmp_ge (tgt := 63) hG dX8_layOut_43 rfl (fun q => absurd q (by decide)) (fun _ => ?_)
      refine pm_aloadn hG dX8_layOut_46 rfl ?_
      refine pm_getf hG dX8_layOut_47 (flX8_23 _ rfl) rfl rfl ?_
      refine pm_iloadn hG dX8_layOut_50 rfl ?_
      refine pm_iloadi hG dX8_layOut_51 rfl ?_
      refine pm_iconst (v := 0) hG dX8_layOut_53 (by decide) ?_
      refine pm_callV (As := [.int za, .int 11, .int 0]) (rest := []) hG hR dX8_layOut_54 (lkX8_31 _ rfl) okV_X9_set rfl rfl (tb_set (d := 1) rfl rfl (pm_tw_of 4 24 (by decide) (by decide) (by decide)) (by decide)) rfl rfl hdd (by decide) (by decide) (by decide) (pm_kv (fun σ' cnt' hq => ?_))
      obtain ⟨rfl, rfl⟩ := hq
      refine pm_iincX (v := 12) (loc' := [some (.ref (B + 48)), some (.int za), some (.int zb), some (.int 0), some (.int 12)]) hG dX8_layOut_57 rfl (by rfl) (by decide) (pm_c1b rfl) rfl ?_
      refine pm_goto (tgt := 39) hG dX8_layOut_60 rfl ?_
      refine pm_iloadi hG dX8_layOut_39 rfl ?_
      refine pm_bipush (v := 24) hG dX8_layOut_41 (by decide) ?_
      refine pm_icmp_ge (tgt := 63) hG dX8_layOut_43 rfl (fun q => absurd q (by decide)) (fun _ => ?_)
      refine pm_aloadn hG dX8_layOut_46 rfl ?_
      refine pm_getf hG dX8_layOut_47 (flX8_23 _ rfl) rfl rfl ?_
      refine pm_iloadn hG dX8_layOut_50 rfl ?_
      refine pm_iloadi hG dX8_layOut_51 rfl ?_
      refine pm_iconst (v := 0) hG dX8_layOut_53 (by decide) ?_
      refine pm_callV (As := [.int za, .int 12, .int 0]) (rest := []) hG hR dX8_layOut_54 (lkX8_31 _ rfl) okV_X9_set rfl rfl (tb_set (d := 1) rfl rfl (pm_tw_of 4 24 (by decide) (by decide) (by decide)) (by decide)) rfl rfl hdd (by decide) (by decide) (by decide) (pm_kv (fun σ' cnt' hq => ?_))
      obtain ⟨rfl, rfl⟩ := hq
      refine pm_iincX (v := 13) (loc' := [some (.ref (B + 48)), some (.int za), some (.int zb), some (.int 0), some (.int 13)]) hG dX8_layOut_57 rfl (by rfl) (by decide) (pm_c1b rfl) rfl ?_
      refine pm_goto (tgt := 39) hG dX8_layOut_60 rfl ?_
      refine pm_iloadi hG dX8_layOut_39 rfl ?_
      refine pm_bipush (v := 24) hG dX8_layOut_41 (by decide) ?_
      refine pm_icmp_ge (tgt := 63) hG dX8_layOut_43 rfl (fun q => absurd q (by decide)) (fun _ => ?_)
      refine pm_aloadn hG dX8_layOut_46 rfl ?_
      refine pm_getf hG dX8_layOut_47 (flX8_23 _ rfl) rfl rfl ?_
      refine pm_iloadn hG dX8_layOut_50 rfl ?_
      refine pm_iloadi hG dX8_layOut_51 rfl ?_
      refine pm_iconst (v := 0) hG dX8_layOut_53 (by decide) ?_
      refine pm_callV (As := [.int za, .int 13, .int 0]) (rest := []) hG hR dX8_layOut_54 (lkX8_31 _ rfl) okV_X9_set rfl rfl (tb_set (d := 1) rfl rfl (pm_tw_of 4 24 (by decide) (by decide) (by decide)) (by decide)) rfl rfl hdd (by decide) (by decide) (by decide) (pm_kv (fun σ' cnt' hq => ?_))
      obtain ⟨rfl, rfl⟩ := hq
      refine pm_iincX (v := 14) (loc' := [some (.ref (B + 48)), some (.int za), some (.int zb), some (.int 0), some (.int 14)]) hG dX8_layOut_57 rfl (by rfl) (by decide) (pm_c1b rfl) rfl ?_
      refine pm_goto (tgt := 39) hG dX8_layOut_60 rfl ?_
      refine pm_iloadi hG dX8_layOut_39 rfl ?_
      refine pm_bipush (v := 24) hG dX8_layOut_41 (by decide) ?_
      refine pm_icmp_ge (tgt := 63) hG dX8_layOut_43 rfl (fun q => absurd q (by decide)) (fun _ => ?_)
      refine pm_aloadn hG dX8_layOut_46 rfl ?_
      refine pm_getf hG dX8_layOut_47 (flX8_23 _ rfl) rfl rfl ?_
      refine pm_iloadn hG dX8_layOut_50 rfl ?_
      refine pm_iloadi hG dX8_layOut_51 rfl ?_
      refine pm_iconst (v := 0) hG dX8_layOut_53 (by decide) ?_
      refine pm_callV (As := [.int za, .int 14, .int 0]) (rest := []) hG hR dX8_layOut_54 (lkX8_31 _ rfl) okV_X9_set rfl rfl (tb_set (d := 1) rfl rfl (pm_tw_of 4 24 (by decide) (by decide) (by decide)) (by decide)) rfl rfl hdd (by decide) (by decide) (by decide) (pm_kv (fun σ' cnt' hq => ?_))
      obtain ⟨rfl, rfl⟩ := hq
      refine pm_iincX (v := 15) (loc' := [some (.ref (B + 48)), some (.int za), some (.int zb), some (.int 0), some (.int 15)]) hG dX8_layOut_57 rfl (by rfl) (by decide) (pm_c1b rfl) rfl ?_
      refine pm_goto (tgt := 39) hG dX8_layOut_60 rfl ?_
      refine pm_iloadi hG dX8_layOut_39 rfl ?_
      refine pm_bipush (v := 24) hG dX8_layOut_41 (by decide) ?_
      refine pm_icmp_ge (tgt := 63) hG dX8_layOut_43 rfl (fun q => absurd q (by decide)) (fun _ => ?_)
      refine pm_aloadn hG dX8_layOut_46 rfl ?_
      refine pm_getf hG dX8_layOut_47 (flX8_23 _ rfl) rfl rfl ?_
      refine pm_iloadn hG dX8_layOut_50 rfl ?_
      refine pm_iloadi hG dX8_layOut_51 rfl ?_
      refine pm_iconst (v := 0) hG dX8_layOut_53 (by decide) ?_
      refine pm_callV (As := [.int za, .int 15, .int 0]) (rest := []) hG hR dX8_layOut_54 (lkX8_31 _ rfl) okV_X9_set rfl rfl (tb_set (d := 1) rfl rfl (pm_tw_of 4 24 (by decide) (by decide) (by decide)) (by decide)) rfl rfl hdd (by decide) (by decide) (by decide) (pm_kv (fun σ' cnt' hq => ?_))
      obtain ⟨rfl, rfl⟩ := hq
      refine pm_iincX (v := 16) (loc' := [some (.ref (B + 48)), some (.int za), some (.int zb), some (.int 0), some (.int 16)]) hG dX8_layOut_57 rfl (by rfl) (by decide) (pm_c1b rfl) rfl ?_
      refine pm_goto (tgt := 39) hG dX8_layOut_60 rfl ?_
      refine pm_iloadi hG dX8_layOut_39 rfl ?_
      refine pm_bipush (v := 24) hG dX8_layOut_41 (by decide) ?_
      refine pm_icmp_ge (tgt := 63) hG dX8_layOut_43 rfl (fun q => absurd q (by decide)) (fun _ => ?_)
      refine pm_aloadn hG dX8_layOut_46 rfl ?_
      refine pm_getf hG dX8_layOut_47 (flX8_23 _ rfl) rfl rfl ?_
      refine pm_iloadn hG dX8_layOut_50 rfl ?_
      refine pm_iloadi hG dX8_layOut_51 rfl ?_
      refine pm_iconst (v := 0) hG dX8_layOut_53 (by decide) ?_
      refine pm_callV (As := [.int za, .int 16, .int 0]) (rest := []) hG hR dX8_layOut_54 (lkX8_31 _ rfl) okV_X9_set rfl rfl (tb_set (d := 1) rfl rfl (pm_tw_of 4 24 (by decide) (by decide) (by decide)) (by decide)) rfl rfl hdd (by decide) (by decide) (by decide) (pm_kv (fun σ' cnt' hq => ?_))
      obtain ⟨rfl, rfl⟩ := hq
      refine pm_iincX (v := 17) (loc' := [some (.ref (B + 48)), some (.int za), some (.int zb), some (.int 0), some (.int 17)]) hG dX8_layOut_57 rfl (by rfl) (by decide) (pm_c1b rfl) rfl ?_
      refine pm_goto (tgt := 39) hG dX8_layOut_60 rfl ?_
      refine pm_iloadi hG dX8_layOut_39 rfl ?_
      refine pm_bipush (v := 24) hG dX8_layOut_41 (by decide) ?_
      refine pm_icmp_ge (tgt := 63) hG dX8_layOut_43 rfl (fun q => absurd q (by decide)) (fun _ => ?_)
      refine pm_aloadn hG dX8_layOut_46 rfl ?_
      refine pm_getf hG dX8_layOut_47 (flX8_23 _ rfl) rfl rfl ?_
      refine pm_iloadn hG dX8_layOut_50 rfl ?_
      refine pm_iloadi hG dX8_layOut_51 rfl ?_
      refine pm_iconst (v := 0) hG dX8_layOut_53 (by decide) ?_
      refine pm_callV (As := [.int za, .int 17, .int 0]) (rest := []) hG hR dX8_layOut_54 (lkX8_31 _ rfl) okV_X9_set rfl rfl (tb_set (d := 1) rfl rfl (pm_tw_of 4 24 (by decide) (by decide) (by decide)) (by decide)) rfl rfl hdd (by decide) (by decide) (by decide) (pm_kv (fun σ' cnt' hq => ?_))
      obtain ⟨rfl, rfl⟩ := hq
      refine pm_iincX (v := 18) (loc' := [some (.ref (B + 48)), some (.int za), some (.int zb), some (.int 0), some (.int 18)]) hG dX8_layOut_57 rfl (by rfl) (by decide) (pm_c1b rfl) rfl ?_
      refine pm_goto (tgt := 39) hG dX8_layOut_60 rfl ?_
      refine pm_iloadi hG dX8_layOut_39 rfl ?_
      refine pm_bipush (v := 24) hG dX8_layOut_41 (by decide) ?_
      refine pm_icmp_ge (tgt := 63) hG dX8_layOut_43 rfl (fun q => absurd q (by decide)) (fun _ => ?_)
      refine pm_aloadn hG dX8_layOut_46 rfl ?_
      refine pm_getf hG dX8_layOut_47 (flX8_23 _ rfl) rfl rfl ?_
      refine pm_iloadn hG dX8_layOut_50 rfl ?_
      refine pm_iloadi hG dX8_layOut_51 rfl ?_
      refine pm_iconst (v := 0) hG dX8_layOut_53 (by decide) ?_
      refine pm_callV (As := [.int za, .int 18, .int 0]) (rest := []) hG hR dX8_layOut_54 (lkX8_31 _ rfl) okV_X9_set rfl rfl (tb_set (d := 1) rfl rfl (pm_tw_of 4 24 (by decide) (by decide) (by decide)) (by decide)) rfl rfl hdd (by decide) (by decide) (by decide) (pm_kv (fun σ' cnt' hq => ?_))
      obtain ⟨rfl, rfl⟩ := hq
      refine pm_iincX (v := 19) (loc' := [some (.ref (B + 48)), some (.int za), some (.int zb), some (.int 0), some (.int 19)]) hG dX8_layOut_57 rfl (by rfl) (by decide) (pm_c1b rfl) rfl ?_
      refine pm_goto (tgt := 39) hG dX8_layOut_60 rfl ?_
      refine pm_iloadi hG dX8_layOut_39 rfl ?_
      refine pm_bipush (v := 24) hG dX8_layOut_41 (by decide) ?_
      refine pm_icmp_ge (tgt := 63) hG dX8_layOut_43 rfl (fun q => absurd q (by decide)) (fun _ => ?_)
      refine pm_aloadn hG dX8_layOut_46 rfl ?_
      refine pm_getf hG dX8_layOut_47 (flX8_23 _ rfl) rfl rfl ?_
      refine pm_iloadn hG dX8_layOut_50 rfl ?_
      refine pm_iloadi hG dX8_layOut_51 rfl ?_
      refine pm_iconst (v := 0) hG dX8_layOut_53 (by decide) ?_
      refine pm_callV (As := [.int za, .int 19, .int 0]) (rest := []) hG hR dX8_layOut_54 (lkX8_31 _ rfl) okV_X9_set rfl rfl (tb_set (d := 1) rfl rfl (pm_tw_of 4 24 (by decide) (by decide) (by decide)) (by decide)) rfl rfl hdd (by decide) (by decide) (by decide) (pm_kv (fun σ' cnt' hq => ?_))
      obtain ⟨rfl, rfl⟩ := hq
      refine pm_iincX (v := 20) (loc' := [some (.ref (B + 48)), some (.int za), some (.int zb), some (.int 0), some (.int 20)]) hG dX8_layOut_57 rfl (by rfl) (by decide) (pm_c1b rfl) rfl ?_
      refine pm_goto (tgt := 39) hG dX8_layOut_60 rfl ?_
      refine pm_iloadi hG dX8_layOut_39 rfl ?_
      refine pm_bipush (v := 24) hG dX8_layOut_41 (by decide) ?_
      refine pm_icmp_ge (tgt := 63) hG dX8_layOut_43 rfl (fun q => absurd q (by decide)) (fun _ => ?_)
      refine pm_aloadn hG dX8_layOut_46 rfl ?_
      refine pm_getf hG dX8_layOut_47 (flX8_23 _ rfl) rfl rfl ?_
      refine pm_iloadn hG dX8_layOut_50 rfl ?_
      refine pm_iloadi hG dX8_layOut_51 rfl ?_
      refine pm_iconst (v := 0) hG dX8_layOut_53 (by decide) ?_
      refine pm_callV (As := [.int za, .int 20, .int 0]) (rest := []) hG hR dX8_layOut_54 (lkX8_31 _ rfl) okV_X9_set rfl rfl (tb_set (d := 1) rfl rfl (pm_tw_of 4 24 (by decide) (by decide) (by decide)) (by decide)) rfl rfl hdd (by decide) (by decide) (by decide) (pm_kv (fun σ' cnt' hq => ?_))
      obtain ⟨rfl, rfl⟩ := hq
      refine pm_iincX (v := 21) (loc' := [some (.ref (B + 48)), some (.int za), some (.int zb), some (.int 0), some (.int 21)]) hG dX8_layOut_57 rfl (by rfl) (by decide) (pm_c1b rfl) rfl ?_
      refine pm_goto (tgt := 39) hG dX8_layOut_60 rfl ?_
      refine pm_iloadi hG dX8_layOut_39 rfl ?_
      refine pm_bipush (v := 24) hG dX8_layOut_41 (by decide) ?_
      refine pm_icmp_ge (tgt := 63) hG dX8_layOut_43 rfl (fun q => absurd q (by decide)) (fun _ => ?_)
      refine pm_aloadn hG dX8_layOut_46 rfl ?_
      refine pm_getf hG dX8_layOut_47 (flX8_23 _ rfl) rfl rfl ?_
      refine pm_iloadn hG dX8_layOut_50 rfl ?_
      refine pm_iloadi hG dX8_layOut_51 rfl ?_
      refine pm_iconst (v := 0) hG dX8_layOut_53 (by decide) ?_
      refine pm_callV (As := [.int za, .int 21, .int 0]) (rest := []) hG hR dX8_layOut_54 (lkX8_31 _ rfl) okV_X9_set rfl rfl (tb_set (d := 1) rfl rfl (pm_tw_of 4 24 (by decide) (by decide) (by decide)) (by decide)) rfl rfl hdd (by decide) (by decide) (by decide) (pm_kv (fun σ' cnt' hq => ?_))
      obtain ⟨rfl, rfl⟩ := hq
      refine pm_iincX (v := 22) (loc' := [some (.ref (B + 48)), some (.int za), some (.int zb), some (.int 0), some (.int 22)]) hG dX8_layOut_57 rfl (by rfl) (by decide) (pm_c1b rfl) rfl ?_
      refine pm_goto (tgt := 39) hG dX8_layOut_60 rfl ?_
      refine pm_iloadi hG dX8_layOut_39 rfl ?_
      refine pm_bipush (v := 24) hG dX8_layOut_41 (by decide) ?_
      refine pm_icmp_ge (tgt := 63) hG dX8_layOut_43 rfl (fun q => absurd q (by decide)) (fun _ => ?_)
      refine pm_aloadn hG dX8_layOut_46 rfl ?_
      refine pm_getf hG dX8_layOut_47 (flX8_23 _ rfl) rfl rfl ?_
      refine pm_iloadn hG dX8_layOut_50 rfl ?_
      refine pm_iloadi hG dX8_layOut_51 rfl ?_
      refine pm_iconst (v := 0) hG dX8_layOut_53 (by decide) ?_
      refine pm_callV (As := [.int za, .int 22, .int 0]) (rest := []) hG hR dX8_layOut_54 (lkX8_31 _ rfl) okV_X9_set rfl rfl (tb_set (d := 1) rfl rfl (pm_tw_of 4 24 (by decide) (by decide) (by decide)) (by decide)) rfl rfl hdd (by decide) (by decide) (by decide) (pm_kv (fun σ' cnt' hq => ?_))
      obtain ⟨rfl, rfl⟩ := hq
      refine pm_iincX (v := 23) (loc' := [some (.ref (B + 48)), some (.int za), some (.int zb), some (.int 0), some (.int 23)]) hG dX8_layOut_57 rfl (by rfl) (by decide) (pm_c1b rfl) rfl ?_
      refine pm_goto (tgt := 39) hG dX8_layOut_60 rfl ?_
      refine pm_iloadi hG dX8_layOut_39 rfl ?_
      refine pm_bipush (v := 24) hG dX8_layOut_41 (by decide) ?_
      refine pm_icmp_ge (tgt := 63) hG dX8_layOut_43 rfl (fun q => absurd q (by decide)) (fun _ => ?_)
      refine pm_aloadn hG dX8_layOut_46 rfl ?_
      refine pm_getf hG dX8_layOut_47 (flX8_23 _ rfl) rfl rfl ?_
      refine pm_iloadn hG dX8_layOut_50 rfl ?_
      refine pm_iloadi hG dX8_layOut_51 rfl ?_
      refine pm_iconst (v := 0) hG dX8_layOut_53 (by decide) ?_
      refine pm_callV (As := [.int za, .int 23, .int 0]) (rest := []) hG hR dX8_layOut_54 (lkX8_31 _ rfl) okV_X9_set rfl rfl (tb_set (d := 1) rfl rfl (pm_tw_of 4 24 (by decide) (by decide) (by decide)) (by decide)) rfl rfl hdd (by decide) (by decide) (by decide) (pm_kv (fun σ' cnt' hq => ?_))
      obtain ⟨rfl, rfl⟩ := hq
      refine pm_iincX (v := 24) (loc' := [some (.ref (B + 48)), some (.int za), some (.int zb), some (.int 0), some (.int 24)]) hG dX8_layOut_57 rfl (by rfl) (by decide) (pm_c1b rfl) rfl ?_
      refine pm_goto (tgt := 39) hG dX8_layOut_60 rfl ?_
      refine pm_iloadi hG dX8_layOut_39 rfl ?_
      refine pm_bipush (v := 24) hG dX8_layOut_41 (by decide) ?_
      refine pm_icmp_ge (tgt := 63) hG dX8_layOut_43 rfl (fun _ => ?_) (fun q => absurd q (by decide))
      exact pm_vret hG hF dX8_layOut_63 rfl (by decide) (by decide) ⟨rfl, (Or.inr (Or.inr ⟨c1, c2, rfl, rfl⟩))⟩

set_option maxRecDepth 100000 in
set_option maxHeartbeats 4000000 in
theorem fc_X8_layOut_48 {B : Nat} {fw : Nat → Int32} {R : List pm_C} {za zb zc : Int32} {d : Nat} (hdd : 2 ≤ d) : pm_met mX8_layOut d 0 0 B [.ref (B + 48), .int za, .int zb, .int zc] 74 (pm_cat (pm_ofL (l_k_class B fw)) 54 R) (pm_Qv (fun σ' cnt' => ((za < 0) ∧ σ' = (pm_up (pm_up (pm_up (pm_up (pm_up (pm_up (pm_up (pm_up (pm_up (pm_up (pm_up (pm_up (pm_up (pm_up (pm_up (pm_up (pm_up (pm_up (pm_up (pm_up (pm_up (pm_up (pm_up (pm_up (pm_cat (pm_ofL (l_k_class B fw)) 54 R) 52 (.inl (96, pm_ts 4 24 (fun _ => 0) za 0 0))) 52 (.inl (96, pm_ts 4 24 (pm_ts 4 24 (fun _ => 0) za 0 0) za 1 0))) 52 (.inl (96, pm_ts 4 24 (pm_ts 4 24 (pm_ts 4 24 (fun _ => 0) za 0 0) za 1 0) za 2 0))) 52 (.inl (96, pm_ts 4 24 (pm_ts 4 24 (pm_ts 4 24 (pm_ts 4 24 (fun _ => 0) za 0 0) za 1 0) za 2 0) za 3 0))) 52 (.inl (96, pm_ts 4 24 (pm_ts 4 24 (pm_ts 4 24 (pm_ts 4 24 (pm_ts 4 24 (fun _ => 0) za 0 0) za 1 0) za 2 0) za 3 0) za 4 0))) 52 (.inl (96, pm_ts 4 24 (pm_ts 4 24 (pm_ts 4 24 (pm_ts 4 24 (pm_ts 4 24 (pm_ts 4 24 (fun _ => 0) za 0 0) za 1 0) za 2 0) za 3 0) za 4 0) za 5 0))) 52 (.inl (96, pm_ts 4 24 (pm_ts 4 24 (pm_ts 4 24 (pm_ts 4 24 (pm_ts 4 24 (pm_ts 4 24 (pm_ts 4 24 (fun _ => 0) za 0 0) za 1 0) za 2 0) za 3 0) za 4 0) za 5 0) za 6 0))) 52 (.inl (96, pm_ts 4 24 (pm_ts 4 24 (pm_ts 4 24 (pm_ts 4 24 (pm_ts 4 24 (pm_ts 4 24 (pm_ts 4 24 (pm_ts 4 24 (fun _ => 0) za 0 0) za 1 0) za 2 0) za 3 0) za 4 0) za 5 0) za 6 0) za 7 0))) 52 (.inl (96, pm_ts 4 24 (pm_ts 4 24 (pm_ts 4 24 (pm_ts 4 24 (pm_ts 4 24 (pm_ts 4 24 (pm_ts 4 24 (pm_ts 4 24 (pm_ts 4 24 (fun _ => 0) za 0 0) za 1 0) za 2 0) za 3 0) za 4 0) za 5 0) za 6 0) za 7 0) za 8 0))) 52 (.inl (96, pm_ts 4 24 (pm_ts 4 24 (pm_ts 4 24 (pm_ts 4 24 (pm_ts 4 24 (pm_ts 4 24 (pm_ts 4 24 (pm_ts 4 24 (pm_ts 4 24 (pm_ts 4 24 (fun _ => 0) za 0 0) za 1 0) za 2 0) za 3 0) za 4 0) za 5 0) za 6 0) za 7 0) za 8 0) za 9 0))) 52 (.inl (96, pm_ts 4 24 (pm_ts 4 24 (pm_ts 4 24 (pm_ts 4 24 (pm_ts 4 24 (pm_ts 4 24 (pm_ts 4 24 (pm_ts 4 24 (pm_ts 4 24 (pm_ts 4 24 (pm_ts 4 24 (fun _ => 0) za 0 0) za 1 0) za 2 0) za 3 0) za 4 0) za 5 0) za 6 0) za 7 0) za 8 0) za 9 0) za 10 0))) 52 (.inl (96, pm_ts 4 24 (pm_ts 4 24 (pm_ts 4 24 (pm_ts 4 24 (pm_ts 4 24 (pm_ts 4 24 (pm_ts 4 24 (pm_ts 4 24 (pm_ts 4 24 (pm_ts 4 24 (pm_ts 4 24 (pm_ts 4 24 (fun _ => 0) za 0 0) za 1 0) za 2 0) za 3 0) za 4 0) za 5 0) za 6 0) za 7 0) za 8 0) za 9 0) za 10 0) za 11 0))) 52 (.inl (96, pm_ts 4 24 (pm_ts 4 24 (pm_ts 4 24 (pm_ts 4 24 (pm_ts 4 24 (pm_ts 4 24 (pm_ts 4 24 (pm_ts 4 24 (pm_ts 4 24 (pm_ts 4 24 (pm_ts 4 24 (pm_ts 4 24 (pm_ts 4 24 (fun _ => 0) za 0 0) za 1 0) za 2 0) za 3 0) za 4 0) za 5 0) za 6 0) za 7 0) za 8 0) za 9 0) za 10 0) za 11 0) za 12 0))) 52 (.inl (96, pm_ts 4 24 (pm_ts 4 24 (pm_ts 4 24 (pm_ts 4 24 (pm_ts 4 24 (pm_ts 4 24 (pm_ts 4 24 (pm_ts 4 24 (pm_ts 4 24 (pm_ts 4 24 (pm_ts 4 24 (pm_ts 4 24 (pm_ts 4 24 (pm_ts 4 24 (fun _ => 0) za 0 0) za 1 0) za 2 0) za 3 0) za 4 0) za 5 0) za 6 0) za 7 0) za 8 0) za 9 0) za 10 0) za 11 0) za 12 0) za 13 0))) 52 (.inl (96, pm_ts 4 24 (pm_ts 4 24 (pm_ts 4 24 (pm_ts 4 24 (pm_ts 4 24 (pm_ts 4 24 (pm_ts 4 24 (pm_ts 4 24 (pm_ts 4 24 (pm_ts 4 24 (pm_ts 4 24 (pm_ts 4 24 (pm_ts 4 24 (pm_ts 4 24 (pm_ts 4 24 (fun _ => 0) za 0 0) za 1 0) za 2 0) za 3 0) za 4 0) za 5 0) za 6 0) za 7 0) za 8 0) za 9 0) za 10 0) za 11 0) za 12 0) za 13 0) za 14 0))) 52 (.inl (96, pm_ts 4 24 (pm_ts 4 24 (pm_ts 4 24 (pm_ts 4 24 (pm_ts 4 24 (pm_ts 4 24 (pm_ts 4 24 (pm_ts 4 24 (pm_ts 4 24 (pm_ts 4 24 (pm_ts 4 24 (pm_ts 4 24 (pm_ts 4 24 (pm_ts 4 24 (pm_ts 4 24 (pm_ts 4 24 (fun _ => 0) za 0 0) za 1 0) za 2 0) za 3 0) za 4 0) za 5 0) za 6 0) za 7 0) za 8 0) za 9 0) za 10 0) za 11 0) za 12 0) za 13 0) za 14 0) za 15 0))) 52 (.inl (96, pm_ts 4 24 (pm_ts 4 24 (pm_ts 4 24 (pm_ts 4 24 (pm_ts 4 24 (pm_ts 4 24 (pm_ts 4 24 (pm_ts 4 24 (pm_ts 4 24 (pm_ts 4 24 (pm_ts 4 24 (pm_ts 4 24 (pm_ts 4 24 (pm_ts 4 24 (pm_ts 4 24 (pm_ts 4 24 (pm_ts 4 24 (fun _ => 0) za 0 0) za 1 0) za 2 0) za 3 0) za 4 0) za 5 0) za 6 0) za 7 0) za 8 0) za 9 0) za 10 0) za 11 0) za 12 0) za 13 0) za 14 0) za 15 0) za 16 0))) 52 (.inl (96, pm_ts 4 24 (pm_ts 4 24 (pm_ts 4 24 (pm_ts 4 24 (pm_ts 4 24 (pm_ts 4 24 (pm_ts 4 24 (pm_ts 4 24 (pm_ts 4 24 (pm_ts 4 24 (pm_ts 4 24 (pm_ts 4 24 (pm_ts 4 24 (pm_ts 4 24 (pm_ts 4 24 (pm_ts 4 24 (pm_ts 4 24 (pm_ts 4 24 (fun _ => 0) za 0 0) za 1 0) za 2 0) za 3 0) za 4 0) za 5 0) za 6 0) za 7 0) za 8 0) za 9 0) za 10 0) za 11 0) za 12 0) za 13 0) za 14 0) za 15 0) za 16 0) za 17 0))) 52 (.inl (96, pm_ts 4 24 (pm_ts 4 24 (pm_ts 4 24 (pm_ts 4 24 (pm_ts 4 24 (pm_ts 4 24 (pm_ts 4 24 (pm_ts 4 24 (pm_ts 4 24 (pm_ts 4 24 (pm_ts 4 24 (pm_ts 4 24 (pm_ts 4 24 (pm_ts 4 24 (pm_ts 4 24 (pm_ts 4 24 (pm_ts 4 24 (pm_ts 4 24 (pm_ts 4 24 (fun _ => 0) za 0 0) za 1 0) za 2 0) za 3 0) za 4 0) za 5 0) za 6 0) za 7 0) za 8 0) za 9 0) za 10 0) za 11 0) za 12 0) za 13 0) za 14 0) za 15 0) za 16 0) za 17 0) za 18 0))) 52 (.inl (96, pm_ts 4 24 (pm_ts 4 24 (pm_ts 4 24 (pm_ts 4 24 (pm_ts 4 24 (pm_ts 4 24 (pm_ts 4 24 (pm_ts 4 24 (pm_ts 4 24 (pm_ts 4 24 (pm_ts 4 24 (pm_ts 4 24 (pm_ts 4 24 (pm_ts 4 24 (pm_ts 4 24 (pm_ts 4 24 (pm_ts 4 24 (pm_ts 4 24 (pm_ts 4 24 (pm_ts 4 24 (fun _ => 0) za 0 0) za 1 0) za 2 0) za 3 0) za 4 0) za 5 0) za 6 0) za 7 0) za 8 0) za 9 0) za 10 0) za 11 0) za 12 0) za 13 0) za 14 0) za 15 0) za 16 0) za 17 0) za 18 0) za 19 0))) 52 (.inl (96, pm_ts 4 24 (pm_ts 4 24 (pm_ts 4 24 (pm_ts 4 24 (pm_ts 4 24 (pm_ts 4 24 (pm_ts 4 24 (pm_ts 4 24 (pm_ts 4 24 (pm_ts 4 24 (pm_ts 4 24 (pm_ts 4 24 (pm_ts 4 24 (pm_ts 4 24 (pm_ts 4 24 (pm_ts 4 24 (pm_ts 4 24 (pm_ts 4 24 (pm_ts 4 24 (pm_ts 4 24 (pm_ts 4 24 (fun _ => 0) za 0 0) za 1 0) za 2 0) za 3 0) za 4 0) za 5 0) za 6 0) za 7 0) za 8 0) za 9 0) za 10 0) za 11 0) za 12 0) za 13 0) za 14 0) za 15 0) za 16 0) za 17 0) za 18 0) za 19 0) za 20 0))) 52 (.inl (96, pm_ts 4 24 (pm_ts 4 24 (pm_ts 4 24 (pm_ts 4 24 (pm_ts 4 24 (pm_ts 4 24 (pm_ts 4 24 (pm_ts 4 24 (pm_ts 4 24 (pm_ts 4 24 (pm_ts 4 24 (pm_ts 4 24 (pm_ts 4 24 (pm_ts 4 24 (pm_ts 4 24 (pm_ts 4 24 (pm_ts 4 24 (pm_ts 4 24 (pm_ts 4 24 (pm_ts 4 24 (pm_ts 4 24 (pm_ts 4 24 (fun _ => 0) za 0 0) za 1 0) za 2 0) za 3 0) za 4 0) za 5 0) za 6 0) za 7 0) za 8 0) za 9 0) za 10 0) za 11 0) za 12 0) za 13 0) za 14 0) za 15 0) za 16 0) za 17 0) za 18 0) za 19 0) za 20 0) za 21 0))) 52 (.inl (96, pm_ts 4 24 (pm_ts 4 24 (pm_ts 4 24 (pm_ts 4 24 (pm_ts 4 24 (pm_ts 4 24 (pm_ts 4 24 (pm_ts 4 24 (pm_ts 4 24 (pm_ts 4 24 (pm_ts 4 24 (pm_ts 4 24 (pm_ts 4 24 (pm_ts 4 24 (pm_ts 4 24 (pm_ts 4 24 (pm_ts 4 24 (pm_ts 4 24 (pm_ts 4 24 (pm_ts 4 24 (pm_ts 4 24 (pm_ts 4 24 (pm_ts 4 24 (fun _ => 0) za 0 0) za 1 0) za 2 0) za 3 0) za 4 0) za 5 0) za 6 0) za 7 0) za 8 0) za 9 0) za 10 0) za 11 0) za 12 0) za 13 0) za 14 0) za 15 0) za 16 0) za 17 0) za 18 0) za 19 0) za 20 0) za 21 0) za 22 0))) 52 (.inl (96, pm_ts 4 24 (pm_ts 4 24 (pm_ts 4 24 (pm_ts 4 24 (pm_ts 4 24 (pm_ts 4 24 (pm_ts 4 24 (pm_ts 4 24 (pm_ts 4 24 (pm_ts 4 24 (pm_ts 4 24 (pm_ts 4 24 (pm_ts 4 24 (pm_ts 4 24 (pm_ts 4 24 (pm_ts 4 24 (pm_ts 4 24 (pm_ts 4 24 (pm_ts 4 24 (pm_ts 4 24 (pm_ts 4 24 (pm_ts 4 24 (pm_ts 4 24 (pm_ts 4 24 (fun _ => 0) za 0 0) za 1 0) za 2 0) za 3 0) za 4 0) za 5 0) za 6 0) za 7 0) za 8 0) za 9 0) za 10 0) za 11 0) za 12 0) za 13 0) za 14 0) za 15 0) za 16 0) za 17 0) za 18 0) za 19 0) za 20 0) za 21 0) za 22 0) za 23 0))) ∧ cnt' = 74) ∨ ((¬ (za < 0)) ∧ (4 ≤ za) ∧ σ' = (pm_up (pm_up (pm_up (pm_up (pm_up (pm_up (pm_up (pm_up (pm_up (pm_up (pm_up (pm_up (pm_up (pm_up (pm_up (pm_up (pm_up (pm_up (pm_up (pm_up (pm_up (pm_up (pm_up (pm_up (pm_cat (pm_ofL (l_k_class B fw)) 54 R) 52 (.inl (96, pm_ts 4 24 (fun _ => 0) za 0 0))) 52 (.inl (96, pm_ts 4 24 (pm_ts 4 24 (fun _ => 0) za 0 0) za 1 0))) 52 (.inl (96, pm_ts 4 24 (pm_ts 4 24 (pm_ts 4 24 (fun _ => 0) za 0 0) za 1 0) za 2 0))) 52 (.inl (96, pm_ts 4 24 (pm_ts 4 24 (pm_ts 4 24 (pm_ts 4 24 (fun _ => 0) za 0 0) za 1 0) za 2 0) za 3 0))) 52 (.inl (96, pm_ts 4 24 (pm_ts 4 24 (pm_ts 4 24 (pm_ts 4 24 (pm_ts 4 24 (fun _ => 0) za 0 0) za 1 0) za 2 0) za 3 0) za 4 0))) 52 (.inl (96, pm_ts 4 24 (pm_ts 4 24 (pm_ts 4 24 (pm_ts 4 24 (pm_ts 4 24 (pm_ts 4 24 (fun _ => 0) za 0 0) za 1 0) za 2 0) za 3 0) za 4 0) za 5 0))) 52 (.inl (96, pm_ts 4 24 (pm_ts 4 24 (pm_ts 4 24 (pm_ts 4 24 (pm_ts 4 24 (pm_ts 4 24 (pm_ts 4 24 (fun _ => 0) za 0 0) za 1 0) za 2 0) za 3 0) za 4 0) za 5 0) za 6 0))) 52 (.inl (96, pm_ts 4 24 (pm_ts 4 24 (pm_ts 4 24 (pm_ts 4 24 (pm_ts 4 24 (pm_ts 4 24 (pm_ts 4 24 (pm_ts 4 24 (fun _ => 0) za 0 0) za 1 0) za 2 0) za 3 0) za 4 0) za 5 0) za 6 0) za 7 0))) 52 (.inl (96, pm_ts 4 24 (pm_ts 4 24 (pm_ts 4 24 (pm_ts 4 24 (pm_ts 4 24 (pm_ts 4 24 (pm_ts 4 24 (pm_ts 4 24 (pm_ts 4 24 (fun _ => 0) za 0 0) za 1 0) za 2 0) za 3 0) za 4 0) za 5 0) za 6 0) za 7 0) za 8 0))) 52 (.inl (96, pm_ts 4 24 (pm_ts 4 24 (pm_ts 4 24 (pm_ts 4 24 (pm_ts 4 24 (pm_ts 4 24 (pm_ts 4 24 (pm_ts 4 24 (pm_ts 4 24 (pm_ts 4 24 (fun _ => 0) za 0 0) za 1 0) za 2 0) za 3 0) za 4 0) za 5 0) za 6 0) za 7 0) za 8 0) za 9 0))) 52 (.inl (96, pm_ts 4 24 (pm_ts 4 24 (pm_ts 4 24 (pm_ts 4 24 (pm_ts 4 24 (pm_ts 4 24 (pm_ts 4 24 (pm_ts 4 24 (pm_ts 4 24 (pm_ts 4 24 (pm_ts 4 24 (fun _ => 0) za 0 0) za 1 0) za 2 0) za 3 0) za 4 0) za 5 0) za 6 0) za 7 0) za 8 0) za 9 0) za 10 0))) 52 (.inl (96, pm_ts 4 24 (pm_ts 4 24 (pm_ts 4 24 (pm_ts 4 24 (pm_ts 4 24 (pm_ts 4 24 (pm_ts 4 24 (pm_ts 4 24 (pm_ts 4 24 (pm_ts 4 24 (pm_ts 4 24 (pm_ts 4 24 (fun _ => 0) za 0 0) za 1 0) za 2 0) za 3 0) za 4 0) za 5 0) za 6 0) za 7 0) za 8 0) za 9 0) za 10 0) za 11 0))) 52 (.inl (96, pm_ts 4 24 (pm_ts 4 24 (pm_ts 4 24 (pm_ts 4 24 (pm_ts 4 24 (pm_ts 4 24 (pm_ts 4 24 (pm_ts 4 24 (pm_ts 4 24 (pm_ts 4 24 (pm_ts 4 24 (pm_ts 4 24 (pm_ts 4 24 (fun _ => 0) za 0 0) za 1 0) za 2 0) za 3 0) za 4 0) za 5 0) za 6 0) za 7 0) za 8 0) za 9 0) za 10 0) za 11 0) za 12 0))) 52 (.inl (96, pm_ts 4 24 (pm_ts 4 24 (pm_ts 4 24 (pm_ts 4 24 (pm_ts 4 24 (pm_ts 4 24 (pm_ts 4 24 (pm_ts 4 24 (pm_ts 4 24 (pm_ts 4 24 (pm_ts 4 24 (pm_ts 4 24 (pm_ts 4 24 (pm_ts 4 24 (fun _ => 0) za 0 0) za 1 0) za 2 0) za 3 0) za 4 0) za 5 0) za 6 0) za 7 0) za 8 0) za 9 0) za 10 0) za 11 0) za 12 0) za 13 0))) 52 (.inl (96, pm_ts 4 24 (pm_ts 4 24 (pm_ts 4 24 (pm_ts 4 24 (pm_ts 4 24 (pm_ts 4 24 (pm_ts 4 24 (pm_ts 4 24 (pm_ts 4 24 (pm_ts 4 24 (pm_ts 4 24 (pm_ts 4 24 (pm_ts 4 24 (pm_ts 4 24 (pm_ts 4 24 (fun _ => 0) za 0 0) za 1 0) za 2 0) za 3 0) za 4 0) za 5 0) za 6 0) za 7 0) za 8 0) za 9 0) za 10 0) za 11 0) za 12 0) za 13 0) za 14 0))) 52 (.inl (96, pm_ts 4 24 (pm_ts 4 24 (pm_ts 4 24 (pm_ts 4 24 (pm_ts 4 24 (pm_ts 4 24 (pm_ts 4 24 (pm_ts 4 24 (pm_ts 4 24 (pm_ts 4 24 (pm_ts 4 24 (pm_ts 4 24 (pm_ts 4 24 (pm_ts 4 24 (pm_ts 4 24 (pm_ts 4 24 (fun _ => 0) za 0 0) za 1 0) za 2 0) za 3 0) za 4 0) za 5 0) za 6 0) za 7 0) za 8 0) za 9 0) za 10 0) za 11 0) za 12 0) za 13 0) za 14 0) za 15 0))) 52 (.inl (96, pm_ts 4 24 (pm_ts 4 24 (pm_ts 4 24 (pm_ts 4 24 (pm_ts 4 24 (pm_ts 4 24 (pm_ts 4 24 (pm_ts 4 24 (pm_ts 4 24 (pm_ts 4 24 (pm_ts 4 24 (pm_ts 4 24 (pm_ts 4 24 (pm_ts 4 24 (pm_ts 4 24 (pm_ts 4 24 (pm_ts 4 24 (fun _ => 0) za 0 0) za 1 0) za 2 0) za 3 0) za 4 0) za 5 0) za 6 0) za 7 0) za 8 0) za 9 0) za 10 0) za 11 0) za 12 0) za 13 0) za 14 0) za 15 0) za 16 0))) 52 (.inl (96, pm_ts 4 24 (pm_ts 4 24 (pm_ts 4 24 (pm_ts 4 24 (pm_ts 4 24 (pm_ts 4 24 (pm_ts 4 24 (pm_ts 4 24 (pm_ts 4 24 (pm_ts 4 24 (pm_ts 4 24 (pm_ts 4 24 (pm_ts 4 24 (pm_ts 4 24 (pm_ts 4 24 (pm_ts 4 24 (pm_ts 4 24 (pm_ts 4 24 (fun _ => 0) za 0 0) za 1 0) za 2 0) za 3 0) za 4 0) za 5 0) za 6 0) za 7 0) za 8 0) za 9 0) za 10 0) za 11 0) za 12 0) za 13 0) za 14 0) za 15 0) za 16 0) za 17 0))) 52 (.inl (96, pm_ts 4 24 (pm_ts 4 24 (pm_ts 4 24 (pm_ts 4 24 (pm_ts 4 24 (pm_ts 4 24 (pm_ts 4 24 (pm_ts 4 24 (pm_ts 4 24 (pm_ts 4 24 (pm_ts 4 24 (pm_ts 4 24 (pm_ts 4 24 (pm_ts 4 24 (pm_ts 4 24 (pm_ts 4 24 (pm_ts 4 24 (pm_ts 4 24 (pm_ts 4 24 (fun _ => 0) za 0 0) za 1 0) za 2 0) za 3 0) za 4 0) za 5 0) za 6 0) za 7 0) za 8 0) za 9 0) za 10 0) za 11 0) za 12 0) za 13 0) za 14 0) za 15 0) za 16 0) za 17 0) za 18 0))) 52 (.inl (96, pm_ts 4 24 (pm_ts 4 24 (pm_ts 4 24 (pm_ts 4 24 (pm_ts 4 24 (pm_ts 4 24 (pm_ts 4 24 (pm_ts 4 24 (pm_ts 4 24 (pm_ts 4 24 (pm_ts 4 24 (pm_ts 4 24 (pm_ts 4 24 (pm_ts 4 24 (pm_ts 4 24 (pm_ts 4 24 (pm_ts 4 24 (pm_ts 4 24 (pm_ts 4 24 (pm_ts 4 24 (fun _ => 0) za 0 0) za 1 0) za 2 0) za 3 0) za 4 0) za 5 0) za 6 0) za 7 0) za 8 0) za 9 0) za 10 0) za 11 0) za 12 0) za 13 0) za 14 0) za 15 0) za 16 0) za 17 0) za 18 0) za 19 0))) 52 (.inl (96, pm_ts 4 24 (pm_ts 4 24 (pm_ts 4 24 (pm_ts 4 24 (pm_ts 4 24 (pm_ts 4 24 (pm_ts 4 24 (pm_ts 4 24 (pm_ts 4 24 (pm_ts 4 24 (pm_ts 4 24 (pm_ts 4 24 (pm_ts 4 24 (pm_ts 4 24 (pm_ts 4 24 (pm_ts 4 24 (pm_ts 4 24 (pm_ts 4 24 (pm_ts 4 24 (pm_ts 4 24 (pm_ts 4 24 (fun _ => 0) za 0 0) za 1 0) za 2 0) za 3 0) za 4 0) za 5 0) za 6 0) za 7 0) za 8 0) za 9 0) za 10 0) za 11 0) za 12 0) za 13 0) za 14 0) za 15 0) za 16 0) za 17 0) za 18 0) za 19 0) za 20 0))) 52 (.inl (96, pm_ts 4 24 (pm_ts 4 24 (pm_ts 4 24 (pm_ts 4 24 (pm_ts 4 24 (pm_ts 4 24 (pm_ts 4 24 (pm_ts 4 24 (pm_ts 4 24 (pm_ts 4 24 (pm_ts 4 24 (pm_ts 4 24 (pm_ts 4 24 (pm_ts 4 24 (pm_ts 4 24 (pm_ts 4 24 (pm_ts 4 24 (pm_ts 4 24 (pm_ts 4 24 (pm_ts 4 24 (pm_ts 4 24 (pm_ts 4 24 (fun _ => 0) za 0 0) za 1 0) za 2 0) za 3 0) za 4 0) za 5 0) za 6 0) za 7 0) za 8 0) za 9 0) za 10 0) za 11 0) za 12 0) za 13 0) za 14 0) za 15 0) za 16 0) za 17 0) za 18 0) za 19 0) za 20 0) za 21 0))) 52 (.inl (96, pm_ts 4 24 (pm_ts 4 24 (pm_ts 4 24 (pm_ts 4 24 (pm_ts 4 24 (pm_ts 4 24 (pm_ts 4 24 (pm_ts 4 24 (pm_ts 4 24 (pm_ts 4 24 (pm_ts 4 24 (pm_ts 4 24 (pm_ts 4 24 (pm_ts 4 24 (pm_ts 4 24 (pm_ts 4 24 (pm_ts 4 24 (pm_ts 4 24 (pm_ts 4 24 (pm_ts 4 24 (pm_ts 4 24 (pm_ts 4 24 (pm_ts 4 24 (fun _ => 0) za 0 0) za 1 0) za 2 0) za 3 0) za 4 0) za 5 0) za 6 0) za 7 0) za 8 0) za 9 0) za 10 0) za 11 0) za 12 0) za 13 0) za 14 0) za 15 0) za 16 0) za 17 0) za 18 0) za 19 0) za 20 0) za 21 0) za 22 0))) 52 (.inl (96, pm_ts 4 24 (pm_ts 4 24 (pm_ts 4 24 (pm_ts 4 24 (pm_ts 4 24 (pm_ts 4 24 (pm_ts 4 24 (pm_ts 4 24 (pm_ts 4 24 (pm_ts 4 24 (pm_ts 4 24 (pm_ts 4 24 (pm_ts 4 24 (pm_ts 4 24 (pm_ts 4 24 (pm_ts 4 24 (pm_ts 4 24 (pm_ts 4 24 (pm_ts 4 24 (pm_ts 4 24 (pm_ts 4 24 (pm_ts 4 24 (pm_ts 4 24 (pm_ts 4 24 (fun _ => 0) za 0 0) za 1 0) za 2 0) za 3 0) za 4 0) za 5 0) za 6 0) za 7 0) za 8 0) za 9 0) za 10 0) za 11 0) za 12 0) za 13 0) za 14 0) za 15 0) za 16 0) za 17 0) za 18 0) za 19 0) za 20 0) za 21 0) za 22 0) za 23 0))) ∧ cnt' = 74) ∨ ((¬ (za < 0)) ∧ (¬ (4 ≤ za)) ∧ σ' = (pm_up (pm_up (pm_up (pm_up (pm_up (pm_up (pm_up (pm_up (pm_up (pm_up (pm_up (pm_up (pm_up (pm_up (pm_up (pm_up (pm_up (pm_up (pm_up (pm_up (pm_up (pm_up (pm_up (pm_up (pm_up (pm_up (pm_cat (pm_ofL (l_k_class B fw)) 54 R) 49 (.inl (4, upd (fun _ => 0) za.toNatClampNeg zb))) 50 (.inl (4, upd (fun _ => 0) za.toNatClampNeg zc))) 52 (.inl (96, pm_ts 4 24 (fun _ => 0) za 0 0))) 52 (.inl (96, pm_ts 4 24 (pm_ts 4 24 (fun _ => 0) za 0 0) za 1 0))) 52 (.inl (96, pm_ts 4 24 (pm_ts 4 24 (pm_ts 4 24 (fun _ => 0) za 0 0) za 1 0) za 2 0))) 52 (.inl (96, pm_ts 4 24 (pm_ts 4 24 (pm_ts 4 24 (pm_ts 4 24 (fun _ => 0) za 0 0) za 1 0) za 2 0) za 3 0))) 52 (.inl (96, pm_ts 4 24 (pm_ts 4 24 (pm_ts 4 24 (pm_ts 4 24 (pm_ts 4 24 (fun _ => 0) za 0 0) za 1 0) za 2 0) za 3 0) za 4 0))) 52 (.inl (96, pm_ts 4 24 (pm_ts 4 24 (pm_ts 4 24 (pm_ts 4 24 (pm_ts 4 24 (pm_ts 4 24 (fun _ => 0) za 0 0) za 1 0) za 2 0) za 3 0) za 4 0) za 5 0))) 52 (.inl (96, pm_ts 4 24 (pm_ts 4 24 (pm_ts 4 24 (pm_ts 4 24 (pm_ts 4 24 (pm_ts 4 24 (pm_ts 4 24 (fun _ => 0) za 0 0) za 1 0) za 2 0) za 3 0) za 4 0) za 5 0) za 6 0))) 52 (.inl (96, pm_ts 4 24 (pm_ts 4 24 (pm_ts 4 24 (pm_ts 4 24 (pm_ts 4 24 (pm_ts 4 24 (pm_ts 4 24 (pm_ts 4 24 (fun _ => 0) za 0 0) za 1 0) za 2 0) za 3 0) za 4 0) za 5 0) za 6 0) za 7 0))) 52 (.inl (96, pm_ts 4 24 (pm_ts 4 24 (pm_ts 4 24 (pm_ts 4 24 (pm_ts 4 24 (pm_ts 4 24 (pm_ts 4 24 (pm_ts 4 24 (pm_ts 4 24 (fun _ => 0) za 0 0) za 1 0) za 2 0) za 3 0) za 4 0) za 5 0) za 6 0) za 7 0) za 8 0))) 52 (.inl (96, pm_ts 4 24 (pm_ts 4 24 (pm_ts 4 24 (pm_ts 4 24 (pm_ts 4 24 (pm_ts 4 24 (pm_ts 4 24 (pm_ts 4 24 (pm_ts 4 24 (pm_ts 4 24 (fun _ => 0) za 0 0) za 1 0) za 2 0) za 3 0) za 4 0) za 5 0) za 6 0) za 7 0) za 8 0) za 9 0))) 52 (.inl (96, pm_ts 4 24 (pm_ts 4 24 (pm_ts 4 24 (pm_ts 4 24 (pm_ts 4 24 (pm_ts 4 24 (pm_ts 4 24 (pm_ts 4 24 (pm_ts 4 24 (pm_ts 4 24 (pm_ts 4 24 (fun _ => 0) za 0 0) za 1 0) za 2 0) za 3 0) za 4 0) za 5 0) za 6 0) za 7 0) za 8 0) za 9 0) za 10 0))) 52 (.inl (96, pm_ts 4 24 (pm_ts 4 24 (pm_ts 4 24 (pm_ts 4 24 (pm_ts 4 24 (pm_ts 4 24 (pm_ts 4 24 (pm_ts 4 24 (pm_ts 4 24 (pm_ts 4 24 (pm_ts 4 24 (pm_ts 4 24 (fun _ => 0) za 0 0) za 1 0) za 2 0) za 3 0) za 4 0) za 5 0) za 6 0) za 7 0) za 8 0) za 9 0) za 10 0) za 11 0))) 52 (.inl (96, pm_ts 4 24 (pm_ts 4 24 (pm_ts 4 24 (pm_ts 4 24 (pm_ts 4 24 (pm_ts 4 24 (pm_ts 4 24 (pm_ts 4 24 (pm_ts 4 24 (pm_ts 4 24 (pm_ts 4 24 (pm_ts 4 24 (pm_ts 4 24 (fun _ => 0) za 0 0) za 1 0) za 2 0) za 3 0) za 4 0) za 5 0) za 6 0) za 7 0) za 8 0) za 9 0) za 10 0) za 11 0) za 12 0))) 52 (.inl (96, pm_ts 4 24 (pm_ts 4 24 (pm_ts 4 24 (pm_ts 4 24 (pm_ts 4 24 (pm_ts 4 24 (pm_ts 4 24 (pm_ts 4 24 (pm_ts 4 24 (pm_ts 4 24 (pm_ts 4 24 (pm_ts 4 24 (pm_ts 4 24 (pm_ts 4 24 (fun _ => 0) za 0 0) za 1 0) za 2 0) za 3 0) za 4 0) za 5 0) za 6 0) za 7 0) za 8 0) za 9 0) za 10 0) za 11 0) za 12 0) za 13 0))) 52 (.inl (96, pm_ts 4 24 (pm_ts 4 24 (pm_ts 4 24 (pm_ts 4 24 (pm_ts 4 24 (pm_ts 4 24 (pm_ts 4 24 (pm_ts 4 24 (pm_ts 4 24 (pm_ts 4 24 (pm_ts 4 24 (pm_ts 4 24 (pm_ts 4 24 (pm_ts 4 24 (pm_ts 4 24 (fun _ => 0) za 0 0) za 1 0) za 2 0) za 3 0) za 4 0) za 5 0) za 6 0) za 7 0) za 8 0) za 9 0) za 10 0) za 11 0) za 12 0) za 13 0) za 14 0))) 52 (.inl (96, pm_ts 4 24 (pm_ts 4 24 (pm_ts 4 24 (pm_ts 4 24 (pm_ts 4 24 (pm_ts 4 24 (pm_ts 4 24 (pm_ts 4 24 (pm_ts 4 24 (pm_ts 4 24 (pm_ts 4 24 (pm_ts 4 24 (pm_ts 4 24 (pm_ts 4 24 (pm_ts 4 24 (pm_ts 4 24 (fun _ => 0) za 0 0) za 1 0) za 2 0) za 3 0) za 4 0) za 5 0) za 6 0) za 7 0) za 8 0) za 9 0) za 10 0) za 11 0) za 12 0) za 13 0) za 14 0) za 15 0))) 52 (.inl (96, pm_ts 4 24 (pm_ts 4 24 (pm_ts 4 24 (pm_ts 4 24 (pm_ts 4 24 (pm_ts 4 24 (pm_ts 4 24 (pm_ts 4 24 (pm_ts 4 24 (pm_ts 4 24 (pm_ts 4 24 (pm_ts 4 24 (pm_ts 4 24 (pm_ts 4 24 (pm_ts 4 24 (pm_ts 4 24 (pm_ts 4 24 (fun _ => 0) za 0 0) za 1 0) za 2 0) za 3 0) za 4 0) za 5 0) za 6 0) za 7 0) za 8 0) za 9 0) za 10 0) za 11 0) za 12 0) za 13 0) za 14 0) za 15 0) za 16 0))) 52 (.inl (96, pm_ts 4 24 (pm_ts 4 24 (pm_ts 4 24 (pm_ts 4 24 (pm_ts 4 24 (pm_ts 4 24 (pm_ts 4 24 (pm_ts 4 24 (pm_ts 4 24 (pm_ts 4 24 (pm_ts 4 24 (pm_ts 4 24 (pm_ts 4 24 (pm_ts 4 24 (pm_ts 4 24 (pm_ts 4 24 (pm_ts 4 24 (pm_ts 4 24 (fun _ => 0) za 0 0) za 1 0) za 2 0) za 3 0) za 4 0) za 5 0) za 6 0) za 7 0) za 8 0) za 9 0) za 10 0) za 11 0) za 12 0) za 13 0) za 14 0) za 15 0) za 16 0) za 17 0))) 52 (.inl (96, pm_ts 4 24 (pm_ts 4 24 (pm_ts 4 24 (pm_ts 4 24 (pm_ts 4 24 (pm_ts 4 24 (pm_ts 4 24 (pm_ts 4 24 (pm_ts 4 24 (pm_ts 4 24 (pm_ts 4 24 (pm_ts 4 24 (pm_ts 4 24 (pm_ts 4 24 (pm_ts 4 24 (pm_ts 4 24 (pm_ts 4 24 (pm_ts 4 24 (pm_ts 4 24 (fun _ => 0) za 0 0) za 1 0) za 2 0) za 3 0) za 4 0) za 5 0) za 6 0) za 7 0) za 8 0) za 9 0) za 10 0) za 11 0) za 12 0) za 13 0) za 14 0) za 15 0) za 16 0) za 17 0) za 18 0))) 52 (.inl (96, pm_ts 4 24 (pm_ts 4 24 (pm_ts 4 24 (pm_ts 4 24 (pm_ts 4 24 (pm_ts 4 24 (pm_ts 4 24 (pm_ts 4 24 (pm_ts 4 24 (pm_ts 4 24 (pm_ts 4 24 (pm_ts 4 24 (pm_ts 4 24 (pm_ts 4 24 (pm_ts 4 24 (pm_ts 4 24 (pm_ts 4 24 (pm_ts 4 24 (pm_ts 4 24 (pm_ts 4 24 (fun _ => 0) za 0 0) za 1 0) za 2 0) za 3 0) za 4 0) za 5 0) za 6 0) za 7 0) za 8 0) za 9 0) za 10 0) za 11 0) za 12 0) za 13 0) za 14 0) za 15 0) za 16 0) za 17 0) za 18 0) za 19 0))) 52 (.inl (96, pm_ts 4 24 (pm_ts 4 24 (pm_ts 4 24 (pm_ts 4 24 (pm_ts 4 24 (pm_ts 4 24 (pm_ts 4 24 (pm_ts 4 24 (pm_ts 4 24 (pm_ts 4 24 (pm_ts 4 24 (pm_ts 4 24 (pm_ts 4 24 (pm_ts 4 24 (pm_ts 4 24 (pm_ts 4 24 (pm_ts 4 24 (pm_ts 4 24 (pm_ts 4 24 (pm_ts 4 24 (pm_ts 4 24 (fun _ => 0) za 0 0) za 1 0) za 2 0) za 3 0) za 4 0) za 5 0) za 6 0) za 7 0) za 8 0) za 9 0) za 10 0) za 11 0) za 12 0) za 13 0) za 14 0) za 15 0) za 16 0) za 17 0) za 18 0) za 19 0) za 20 0))) 52 (.inl (96, pm_ts 4 24 (pm_ts 4 24 (pm_ts 4 24 (pm_ts 4 24 (pm_ts 4 24 (pm_ts 4 24 (pm_ts 4 24 (pm_ts 4 24 (pm_ts 4 24 (pm_ts 4 24 (pm_ts 4 24 (pm_ts 4 24 (pm_ts 4 24 (pm_ts 4 24 (pm_ts 4 24 (pm_ts 4 24 (pm_ts 4 24 (pm_ts 4 24 (pm_ts 4 24 (pm_ts 4 24 (pm_ts 4 24 (pm_ts 4 24 (fun _ => 0) za 0 0) za 1 0) za 2 0) za 3 0) za 4 0) za 5 0) za 6 0) za 7 0) za 8 0) za 9 0) za 10 0) za 11 0) za 12 0) za 13 0) za 14 0) za 15 0) za 16 0) za 17 0) za 18 0) za 19 0) za 20 0) za 21 0))) 52 (.inl (96, pm_ts 4 24 (pm_ts 4 24 (pm_ts 4 24 (pm_ts 4 24 (pm_ts 4 24 (pm_ts 4 24 (pm_ts 4 24 (pm_ts 4 24 (pm_ts 4 24 (pm_ts 4 24 (pm_ts 4 24 (pm_ts 4 24 (pm_ts 4 24 (pm_ts 4 24 (pm_ts 4 24 (pm_ts 4 24 (pm_ts 4 24 (pm_ts 4 24 (pm_ts 4 24 (pm_ts 4 24 (pm_ts 4 24 (pm_ts 4 24 (pm_ts 4 24 (fun _ => 0) za 0 0) za 1 0) za 2 0) za 3 0) za 4 0) za 5 0) za 6 0) za 7 0) za 8 0) za 9 0) za 10 0) za 11 0) za 12 0) za 13 0) za 14 0) za 15 0) za 16 0) za 17 0) za 18 0) za 19 0) za 20 0) za 21 0) za 22 0))) 52 (.inl (96, pm_ts 4 24 (pm_ts 4 24 (pm_ts 4 24 (pm_ts 4 24 (pm_ts 4 24 (pm_ts 4 24 (pm_ts 4 24 (pm_ts 4 24 (pm_ts 4 24 (pm_ts 4 24 (pm_ts 4 24 (pm_ts 4 24 (pm_ts 4 24 (pm_ts 4 24 (pm_ts 4 24 (pm_ts 4 24 (pm_ts 4 24 (pm_ts 4 24 (pm_ts 4 24 (pm_ts 4 24 (pm_ts 4 24 (pm_ts 4 24 (pm_ts 4 24 (pm_ts 4 24 (fun _ => 0) za 0 0) za 1 0) za 2 0) za 3 0) za 4 0) za 5 0) za 6 0) za 7 0) za 8 0) za 9 0) za 10 0) za 11 0) za 12 0) za 13 0) za 14 0) za 15 0) za 16 0) za 17 0) za 18 0) za 19 0) za 20 0) za 21 0) za 22 0) za 23 0))) ∧ cnt' = 74))) := by
  refine pm_enter 1 (by decide) (Nat.le_of_ble_eq_true rfl) rfl (fun G hG hR hF => ?_)
  refine pm_iloadn hG dX8_layOut_0 rfl ?_
  refine pm_if_lt (tgt := 36) hG dX8_layOut_1 rfl (fun c1 => ?_) (fun c1 => ?_)
  · refine pm_iconst (v := 0) hG dX8_layOut_36 (by decide) ?_
    refine pm_istoreXi (loc' := [some (.ref (B + 48)), some (.int za), some (.int zb), some (.int zc), some (.int 0)]) hG dX8_layOut_37 (by decide) (pm_c1b rfl) rfl ?_
    refine pm_iloadi hG dX8_layOut_39 rfl ?_
    refine pm_bipush (v := 24) hG dX8_layOut_41 (by decide) ?_
    refine pm_icmp_ge (tgt := 63) hG dX8_layOut_43 rfl (fun q => absurd q (by decide)) (fun _ => ?_)
    refine pm_aloadn hG dX8_layOut_46 rfl ?_
    refine pm_getf hG dX8_layOut_47 (flX8_23 _ rfl) rfl rfl ?_
    refine pm_iloadn hG dX8_layOut_50 rfl ?_
    refine pm_iloadi hG dX8_layOut_51 rfl ?_
    refine pm_iconst (v := 0) hG dX8_layOut_53 (by decide) ?_
    refine pm_callV (As := [.int za, .int 0, .int 0]) (rest := []) hG hR dX8_layOut_54 (lkX8_31 _ rfl) okV_X9_set rfl rfl (tb_set (d := 1) rfl rfl (pm_tw_of 4 24 (by decide) (by decide) (by decide)) (by decide)) rfl rfl hdd (by decide) (by decide) (by decide) (pm_kv (fun σ' cnt' hq => ?_))
    obtain ⟨rfl, rfl⟩ := hq
    refine pm_iincX (v := 1) (loc' := [some (.ref (B + 48)), some (.int za), some (.int zb), some (.int zc), some (.int 1)]) hG dX8_layOut_57 rfl (by rfl) (by decide) (pm_c1b rfl) rfl ?_
    refine pm_goto (tgt := 39) hG dX8_layOut_60 rfl ?_
    refine pm_iloadi hG dX8_layOut_39 rfl ?_
    refine pm_bipush (v := 24) hG dX8_layOut_41 (by decide) ?_
    refine pm_icmp_ge (tgt := 63) hG dX8_layOut_43 rfl (fun q => absurd q (by decide)) (fun _ => ?_)
    refine pm_aloadn hG dX8_layOut_46 rfl ?_
    refine pm_getf hG dX8_layOut_47 (flX8_23 _ rfl) rfl rfl ?_
    refine pm_iloadn hG dX8_layOut_50 rfl ?_
    refine pm_iloadi hG dX8_layOut_51 rfl ?_
    refine pm_iconst (v := 0) hG dX8_layOut_53 (by decide) ?_
    refine pm_callV (As := [.int za, .int 1, .int 0]) (rest := []) hG hR dX8_layOut_54 (lkX8_31 _ rfl) okV_X9_set rfl rfl (tb_set (d := 1) rfl rfl (pm_tw_of 4 24 (by decide) (by decide) (by decide)) (by decide)) rfl rfl hdd (by decide) (by decide) (by decide) (pm_kv (fun σ' cnt' hq => ?_))
    obtain ⟨rfl, rfl⟩ := hq
    refine pm_iincX (v := 2) (loc' := [some (.ref (B + 48)), some (.int za), some (.int zb), some (.int zc), some (.int 2)]) hG dX8_layOut_57 rfl (by rfl) (by decide) (pm_c1b rfl) rfl ?_
    refine pm_goto (tgt := 39) hG dX8_layOut_60 rfl ?_
    refine pm_iloadi hG dX8_layOut_39 rfl ?_
    refine pm_bipush (v := 24) hG dX8_layOut_41 (by decide) ?_
    refine pm_icmp_ge (tgt := 63) hG dX8_layOut_43 rfl (fun q => absurd q (by decide)) (fun _ => ?_)
    refine pm_aloadn hG dX8_layOut_46 rfl ?_
    refine pm_getf hG dX8_layOut_47 (flX8_23 _ rfl) rfl rfl ?_
    refine pm_iloadn hG dX8_layOut_50 rfl ?_
    refine pm_iloadi hG dX8_layOut_51 rfl ?_
    refine pm_iconst (v := 0) hG dX8_layOut_53 (by decide) ?_
    refine pm_callV (As := [.int za, .int 2, .int 0]) (rest := []) hG hR dX8_layOut_54 (lkX8_31 _ rfl) okV_X9_set rfl rfl (tb_set (d := 1) rfl rfl (pm_tw_of 4 24 (by decide) (by decide) (by decide)) (by decide)) rfl rfl hdd (by decide) (by decide) (by decide) (pm_kv (fun σ' cnt' hq => ?_))
    obtain ⟨rfl, rfl⟩ := hq
    refine pm_iincX (v := 3) (loc' := [some (.ref (B + 48)), some (.int za), some (.int zb), some (.int zc), some (.int 3)]) hG dX8_layOut_57 rfl (by rfl) (by decide) (pm_c1b rfl) rfl ?_
    refine pm_goto (tgt := 39) hG dX8_layOut_60 rfl ?_
    refine pm_iloadi hG dX8_layOut_39 rfl ?_
    refine pm_bipush (v := 24) hG dX8_layOut_41 (by decide) ?_
    refine pm_icmp_ge (tgt := 63) hG dX8_layOut_43 rfl (fun q => absurd q (by decide)) (fun _ => ?_)
    refine pm_aloadn hG dX8_layOut_46 rfl ?_
    refine pm_getf hG dX8_layOut_47 (flX8_23 _ rfl) rfl rfl ?_
    refine pm_iloadn hG dX8_layOut_50 rfl ?_
    refine pm_iloadi hG dX8_layOut_51 rfl ?_
    refine pm_iconst (v := 0) hG dX8_layOut_53 (by decide) ?_
    refine pm_callV (As := [.int za, .int 3, .int 0]) (rest := []) hG hR dX8_layOut_54 (lkX8_31 _ rfl) okV_X9_set rfl rfl (tb_set (d := 1) rfl rfl (pm_tw_of 4 24 (by decide) (by decide) (by decide)) (by decide)) rfl rfl hdd (by decide) (by decide) (by decide) (pm_kv (fun σ' cnt' hq => ?_))
    obtain ⟨rfl, rfl⟩ := hq
    refine pm_iincX (v := 4) (loc' := [some (.ref (B + 48)), some (.int za), some (.int zb), some (.int zc), some (.int 4)]) hG dX8_layOut_57 rfl (by rfl) (by decide) (pm_c1b rfl) rfl ?_
    refine pm_goto (tgt := 39) hG dX8_layOut_60 rfl ?_
    refine pm_iloadi hG dX8_layOut_39 rfl ?_
    refine pm_bipush (v := 24) hG dX8_layOut_41 (by decide) ?_
    refine pm_icmp_ge (tgt := 63) hG dX8_layOut_43 rfl (fun q => absurd q (by decide)) (fun _ => ?_)
    refine pm_aloadn hG dX8_layOut_46 rfl ?_
    refine pm_getf hG dX8_layOut_47 (flX8_23 _ rfl) rfl rfl ?_
    refine pm_iloadn hG dX8_layOut_50 rfl ?_
    refine pm_iloadi hG dX8_layOut_51 rfl ?_
    refine pm_iconst (v := 0) hG dX8_layOut_53 (by decide) ?_
    refine pm_callV (As := [.int za, .int 4, .int 0]) (rest := []) hG hR dX8_layOut_54 (lkX8_31 _ rfl) okV_X9_set rfl rfl (tb_set (d := 1) rfl rfl (pm_tw_of 4 24 (by decide) (by decide) (by decide)) (by decide)) rfl rfl hdd (by decide) (by decide) (by decide) (pm_kv (fun σ' cnt' hq => ?_))
    obtain ⟨rfl, rfl⟩ := hq
    refine pm_iincX (v := 5) (loc' := [some (.ref (B + 48)), some (.int za), some (.int zb), some (.int zc), some (.int 5)]) hG dX8_layOut_57 rfl (by rfl) (by decide) (pm_c1b rfl) rfl ?_
    refine pm_goto (tgt := 39) hG dX8_layOut_60 rfl ?_
    refine pm_iloadi hG dX8_layOut_39 rfl ?_
    refine pm_bipush (v := 24) hG dX8_layOut_41 (by decide) ?_
    refine pm_icmp_ge (tgt := 63) hG dX8_layOut_43 rfl (fun q => absurd q (by decide)) (fun _ => ?_)
    refine pm_aloadn hG dX8_layOut_46 rfl ?_
    refine pm_getf hG dX8_layOut_47 (flX8_23 _ rfl) rfl rfl ?_
    refine pm_iloadn hG dX8_layOut_50 rfl ?_
    refine pm_iloadi hG dX8_layOut_51 rfl ?_
    refine pm_iconst (v := 0) hG dX8_layOut_53 (by decide) ?_
    refine pm_callV (As := [.int za, .int 5, .int 0]) (rest := []) hG hR dX8_layOut_54 (lkX8_31 _ rfl) okV_X9_set rfl rfl (tb_set (d := 1) rfl rfl (pm_tw_of 4 24 (by decide) (by decide) (by decide)) (by decide)) rfl rfl hdd (by decide) (by decide) (by decide) (pm_kv (fun σ' cnt' hq => ?_))
    obtain ⟨rfl, rfl⟩ := hq
    refine pm_iincX (v := 6) (loc' := [some (.ref (B + 48)), some (.int za), some (.int zb), some (.int zc), some (.int 6)]) hG dX8_layOut_57 rfl (by rfl) (by decide) (pm_c1b rfl) rfl ?_
    refine pm_goto (tgt := 39) hG dX8_layOut_60 rfl ?_
    refine pm_iloadi hG dX8_layOut_39 rfl ?_
    refine pm_bipush (v := 24) hG dX8_layOut_41 (by decide) ?_
    refine pm_icmp_ge (tgt := 63) hG dX8_layOut_43 rfl (fun q => absurd q (by decide)) (fun _ => ?_)
    refine pm_aloadn hG dX8_layOut_46 rfl ?_
    refine pm_getf hG dX8_layOut_47 (flX8_23 _ rfl) rfl rfl ?_
    refine pm_iloadn hG dX8_layOut_50 rfl ?_
    refine pm_iloadi hG dX8_layOut_51 rfl ?_
    refine pm_iconst (v := 0) hG dX8_layOut_53 (by decide) ?_
    refine pm_callV (As := [.int za, .int 6, .int 0]) (rest := []) hG hR dX8_layOut_54 (lkX8_31 _ rfl) okV_X9_set rfl rfl (tb_set (d := 1) rfl rfl (pm_tw_of 4 24 (by decide) (by decide) (by decide)) (by decide)) rfl rfl hdd (by decide) (by decide) (by decide) (pm_kv (fun σ' cnt' hq => ?_))
    obtain ⟨rfl, rfl⟩ := hq
    refine pm_iincX (v := 7) (loc' := [some (.ref (B + 48)), some (.int za), some (.int zb), some (.int zc), some (.int 7)]) hG dX8_layOut_57 rfl (by rfl) (by decide) (pm_c1b rfl) rfl ?_
    refine pm_goto (tgt := 39) hG dX8_layOut_60 rfl ?_
    refine pm_iloadi hG dX8_layOut_39 rfl ?_
    refine pm_bipush (v := 24) hG dX8_layOut_41 (by decide) ?_
    refine pm_icmp_ge (tgt := 63) hG dX8_layOut_43 rfl (fun q => absurd q (by decide)) (fun _ => ?_)
    refine pm_aloadn hG dX8_layOut_46 rfl ?_
    refine pm_getf hG dX8_layOut_47 (flX8_23 _ rfl) rfl rfl ?_
    refine pm_iloadn hG dX8_layOut_50 rfl ?_
    refine pm_iloadi hG dX8_layOut_51 rfl ?_
    refine pm_iconst (v := 0) hG dX8_layOut_53 (by decide) ?_
    refine pm_callV (As := [.int za, .int 7, .int 0]) (rest := []) hG hR dX8_layOut_54 (lkX8_31 _ rfl) okV_X9_set rfl rfl (tb_set (d := 1) rfl rfl (pm_tw_of 4 24 (by decide) (by decide) (by decide)) (by decide)) rfl rfl hdd (by decide) (by decide) (by decide) (pm_kv (fun σ' cnt' hq => ?_))
    obtain ⟨rfl, rfl⟩ := hq
    refine pm_iincX (v := 8) (loc' := [some (.ref (B + 48)), some (.int za), some (.int zb), some (.int zc), some (.int 8)]) hG dX8_layOut_57 rfl (by rfl) (by decide) (pm_c1b rfl) rfl ?_
    refine pm_goto (tgt := 39) hG dX8_layOut_60 rfl ?_
    refine pm_iloadi hG dX8_layOut_39 rfl ?_
    refine pm_bipush (v := 24) hG dX8_layOut_41 (by decide) ?_
    refine pm_icmp_ge (tgt := 63) hG dX8_layOut_43 rfl (fun q => absurd q (by decide)) (fun _ => ?_)
    refine pm_aloadn hG dX8_layOut_46 rfl ?_
    refine pm_getf hG dX8_layOut_47 (flX8_23 _ rfl) rfl rfl ?_
    refine pm_iloadn hG dX8_layOut_50 rfl ?_
    refine pm_iloadi hG dX8_layOut_51 rfl ?_
    refine pm_iconst (v := 0) hG dX8_layOut_53 (by decide) ?_
    refine pm_callV (As := [.int za, .int 8, .int 0]) (rest := []) hG hR dX8_layOut_54 (lkX8_31 _ rfl) okV_X9_set rfl rfl (tb_set (d := 1) rfl rfl (pm_tw_of 4 24 (by decide) (by decide) (by decide)) (by decide)) rfl rfl hdd (by decide) (by decide) (by decide) (pm_kv (fun σ' cnt' hq => ?_))
    obtain ⟨rfl, rfl⟩ := hq
    refine pm_iincX (v := 9) (loc' := [some (.ref (B + 48)), some (.int za), some (.int zb), some (.int zc), some (.int 9)]) hG dX8_layOut_57 rfl (by rfl) (by decide) (pm_c1b rfl) rfl ?_
    refine pm_goto (tgt := 39) hG dX8_layOut_60 rfl ?_
    refine pm_iloadi hG dX8_layOut_39 rfl ?_
    refine pm_bipush (v := 24) hG dX8_layOut_41 (by decide) ?_
    refine pm_icmp_ge (tgt := 63) hG dX8_layOut_43 rfl (fun q => absurd q (by decide)) (fun _ => ?_)
    refine pm_aloadn hG dX8_layOut_46 rfl ?_
    refine pm_getf hG dX8_layOut_47 (flX8_23 _ rfl) rfl rfl ?_
    refine pm_iloadn hG dX8_layOut_50 rfl ?_
    refine pm_iloadi hG dX8_layOut_51 rfl ?_
    refine pm_iconst (v := 0) hG dX8_layOut_53 (by decide) ?_
    refine pm_callV (As := [.int za, .int 9, .int 0]) (rest := []) hG hR dX8_layOut_54 (lkX8_31 _ rfl) okV_X9_set rfl rfl (tb_set (d := 1) rfl rfl (pm_tw_of 4 24 (by decide) (by decide) (by decide)) (by decide)) rfl rfl hdd (by decide) (by decide) (by decide) (pm_kv (fun σ' cnt' hq => ?_))
    obtain ⟨rfl, rfl⟩ := hq
    refine pm_iincX (v := 10) (loc' := [some (.ref (B + 48)), some (.int za), some (.int zb), some (.int zc), some (.int 10)]) hG dX8_layOut_57 rfl (by rfl) (by decide) (pm_c1b rfl) rfl ?_
    refine pm_goto (tgt := 39) hG dX8_layOut_60 rfl ?_
    refine pm_iloadi hG dX8_layOut_39 rfl ?_
    refine pm_bipush (v := 24) hG dX8_layOut_41 (by decide) ?_
    refine pm_icmp_ge (tgt := 63) hG dX8_layOut_43 rfl (fun q => absurd q (by decide)) (fun _ => ?_)
    refine pm_aloadn hG dX8_layOut_46 rfl ?_
    refine pm_getf hG dX8_layOut_47 (flX8_23 _ rfl) rfl rfl ?_
    refine pm_iloadn hG dX8_layOut_50 rfl ?_
    refine pm_iloadi hG dX8_layOut_51 rfl ?_
    refine pm_iconst (v := 0) hG dX8_layOut_53 (by decide) ?_
    refine pm_callV (As := [.int za, .int 10, .int 0]) (rest := []) hG hR dX8_layOut_54 (lkX8_31 _ rfl) okV_X9_set rfl rfl (tb_set (d := 1) rfl rfl (pm_tw_of 4 24 (by decide) (by decide) (by decide)) (by decide)) rfl rfl hdd (by decide) (by decide) (by decide) (pm_kv (fun σ' cnt' hq => ?_))
    obtain ⟨rfl, rfl⟩ := hq
    refine pm_iincX (v := 11) (loc' := [some (.ref (B + 48)), some (.int za), some (.int zb), some (.int zc), some (.int 11)]) hG dX8_layOut_57 rfl (by rfl) (by decide) (pm_c1b rfl) rfl ?_
    refine pm_goto (tgt := 39) hG dX8_layOut_60 rfl ?_
    refine pm_iloadi hG dX8_layOut_39 rfl ?_
    refine pm_bipush (v := 24) hG dX8_layOut_41 (by decide) ?_
    refine pm_icmp_ge (tgt := 63) hG dX8_layOut_43 rfl (fun q => absurd q (by decide)) (fun _ => ?_)
    refine pm_aloadn hG dX8_layOut_46 rfl ?_
    refine pm_getf hG dX8_layOut_47 (flX8_23 _ rfl) rfl rfl ?_
    refine pm_iloadn hG dX8_layOut_50 rfl ?_
    refine pm_iloadi hG dX8_layOut_51 rfl ?_
    refine pm_iconst (v := 0) hG dX8_layOut_53 (by decide) ?_
    refine pm_callV (As := [.int za, .int 11, .int 0]) (rest := []) hG hR dX8_layOut_54 (lkX8_31 _ rfl) okV_X9_set rfl rfl (tb_set (d := 1) rfl rfl (pm_tw_of 4 24 (by decide) (by decide) (by decide)) (by decide)) rfl rfl hdd (by decide) (by decide) (by decide) (pm_kv (fun σ' cnt' hq => ?_))
    obtain ⟨rfl, rfl⟩ := hq
    refine pm_iincX (v := 12) (loc' := [some (.ref (B + 48)), some (.int za), some (.int zb), some (.int zc), some (.int 12)]) hG dX8_layOut_57 rfl (by rfl) (by decide) (pm_c1b rfl) rfl ?_
    refine pm_goto (tgt := 39) hG dX8_layOut_60 rfl ?_
    refine pm_iloadi hG dX8_layOut_39 rfl ?_
    refine pm_bipush (v := 24) hG dX8_layOut_41 (by decide) ?_
    refine pm_icmp_ge (tgt := 63) hG dX8_layOut_43 rfl (fun q => absurd q (by decide)) (fun _ => ?_)
    refine pm_aloadn hG dX8_layOut_46 rfl ?_
    refine pm_getf hG dX8_layOut_47 (flX8_23 _ rfl) rfl rfl ?_
    refine pm_iloadn hG dX8_layOut_50 rfl ?_
    refine pm_iloadi hG dX8_layOut_51 rfl ?_
    refine pm_iconst (v := 0) hG dX8_layOut_53 (by decide) ?_
    refine pm_callV (As := [.int za, .int 12, .int 0]) (rest := []) hG hR dX8_layOut_54 (lkX8_31 _ rfl) okV_X9_set rfl rfl (tb_set (d := 1) rfl rfl (pm_tw_of 4 24 (by decide) (by decide) (by decide)) (by decide)) rfl rfl hdd (by decide) (by decide) (by decide) (pm_kv (fun σ' cnt' hq => ?_))
    obtain ⟨rfl, rfl⟩ := hq
    refine pm_iincX (v := 13) (loc' := [some (.ref (B + 48)), some (.int za), some (.int zb), some (.int zc), some (.int 13)]) hG dX8_layOut_57 rfl (by rfl) (by decide) (pm_c1b rfl) rfl ?_
    refine pm_goto (tgt := 39) hG dX8_layOut_60 rfl ?_
    refine pm_iloadi hG dX8_layOut_39 rfl ?_
    refine pm_bipush (v := 24) hG dX8_layOut_41 (by decide) ?_
    refine pm_icmp_ge (tgt := 63) hG dX8_layOut_43 rfl (fun q => absurd q (by decide)) (fun _ => ?_)
    refine pm_aloadn hG dX8_layOut_46 rfl ?_
    refine pm_getf hG dX8_layOut_47 (flX8_23 _ rfl) rfl rfl ?_
    refine pm_iloadn hG dX8_layOut_50 rfl ?_
    refine pm_iloadi hG dX8_layOut_51 rfl ?_
    refine pm_iconst (v := 0) hG dX8_layOut_53 (by decide) ?_
    refine pm_callV (As := [.int za, .int 13, .int 0]) (rest := []) hG hR dX8_layOut_54 (lkX8_31 _ rfl) okV_X9_set rfl rfl (tb_set (d := 1) rfl rfl (pm_tw_of 4 24 (by decide) (by decide) (by decide)) (by decide)) rfl rfl hdd (by decide) (by decide) (by decide) (pm_kv (fun σ' cnt' hq => ?_))
    obtain ⟨rfl, rfl⟩ := hq
    refine pm_iincX (v := 14) (loc' := [some (.ref (B + 48)), some (.int za), some (.int zb), some (.int zc), some (.int 14)]) hG dX8_layOut_57 rfl (by rfl) (by decide) (pm_c1b rfl) rfl ?_
    refine pm_goto (tgt := 39) hG dX8_layOut_60 rfl ?_
    refine pm_iloadi hG dX8_layOut_39 rfl ?_
    refine pm_bipush (v := 24) hG dX8_layOut_41 (by decide) ?_
    refine pm_icmp_ge (tgt := 63) hG dX8_layOut_43 rfl (fun q => absurd q (by decide)) (fun _ => ?_)
    refine pm_aloadn hG dX8_layOut_46 rfl ?_
    refine pm_getf hG dX8_layOut_47 (flX8_23 _ rfl) rfl rfl ?_
    refine pm_iloadn hG dX8_layOut_50 rfl ?_
    refine pm_iloadi hG dX8_layOut_51 rfl ?_
    refine pm_iconst (v := 0) hG dX8_layOut_53 (by decide) ?_
    refine pm_callV (As := [.int za, .int 14, .int 0]) (rest := []) hG hR dX8_layOut_54 (lkX8_31 _ rfl) okV_X9_set rfl rfl (tb_set (d := 1) rfl rfl (pm_tw_of 4 24 (by decide) (by decide) (by decide)) (by decide)) rfl rfl hdd (by decide) (by decide) (by decide) (pm_kv (fun σ' cnt' hq => ?_))
    obtain ⟨rfl, rfl⟩ := hq
    refine pm_iincX (v := 15) (loc' := [some (.ref (B + 48)), some (.int za), some (.int zb), some (.int zc), some (.int 15)]) hG dX8_layOut_57 rfl (by rfl) (by decide) (pm_c1b rfl) rfl ?_
    refine pm_goto (tgt := 39) hG dX8_layOut_60 rfl ?_
    refine pm_iloadi hG dX8_layOut_39 rfl ?_
    refine pm_bipush (v := 24) hG dX8_layOut_41 (by decide) ?_
    refine pm_icmp_ge (tgt := 63) hG dX8_layOut_43 rfl (fun q => absurd q (by decide)) (fun _ => ?_)
    refine pm_aloadn hG dX8_layOut_46 rfl ?_
    refine pm_getf hG dX8_layOut_47 (flX8_23 _ rfl) rfl rfl ?_
    refine pm_iloadn hG dX8_layOut_50 rfl ?_
    refine pm_iloadi hG dX8_layOut_51 rfl ?_
    refine pm_iconst (v := 0) hG dX8_layOut_53 (by decide) ?_
    refine pm_callV (As := [.int za, .int 15, .int 0]) (rest := []) hG hR dX8_layOut_54 (lkX8_31 _ rfl) okV_X9_set rfl rfl (tb_set (d := 1) rfl rfl (pm_tw_of 4 24 (by decide) (by decide) (by decide)) (by decide)) rfl rfl hdd (by decide) (by decide) (by decide) (pm_kv (fun σ' cnt' hq => ?_))
    obtain ⟨rfl, rfl⟩ := hq
    refine pm_iincX (v := 16) (loc' := [some (.ref (B + 48)), some (.int za), some (.int zb), some (.int zc), some (.int 16)]) hG dX8_layOut_57 rfl (by rfl) (by decide) (pm_c1b rfl) rfl ?_
    refine pm_goto (tgt := 39) hG dX8_layOut_60 rfl ?_
    refine pm_iloadi hG dX8_layOut_39 rfl ?_
    refine pm_bipush (v := 24) hG dX8_layOut_41 (by decide) ?_
    refine pm_icmp_ge (tgt := 63) hG dX8_layOut_43 rfl (fun q => absurd q (by decide)) (fun _ => ?_)
    refine pm_aloadn hG dX8_layOut_46 rfl ?_
    refine pm_getf hG dX8_layOut_47 (flX8_23 _ rfl) rfl rfl ?_
    refine pm_iloadn hG dX8_layOut_50 rfl ?_
    refine pm_iloadi hG dX8_layOut_51 rfl ?_
    refine pm_iconst (v := 0) hG dX8_layOut_53 (by decide) ?_
    refine pm_callV (As := [.int za, .int 16, .int 0]) (rest := []) hG hR dX8_layOut_54 (lkX8_31 _ rfl) okV_X9_set rfl rfl (tb_set (d := 1) rfl rfl (pm_tw_of 4 24 (by decide) (by decide) (by decide)) (by decide)) rfl rfl hdd (by decide) (by decide) (by decide) (pm_kv (fun σ' cnt' hq => ?_))
    obtain ⟨rfl, rfl⟩ := hq
    refine pm_iincX (v := 17) (loc' := [some (.ref (B + 48)), some (.int za), some (.int zb), some (.int zc), some (.int 17)]) hG dX8_layOut_57 rfl (by rfl) (by decide) (pm_c1b rfl) rfl ?_
    refine pm_goto (tgt := 39) hG dX8_layOut_60 rfl ?_
    refine pm_iloadi hG dX8_layOut_39 rfl ?_
    refine pm_bipush (v := 24) hG dX8_layOut_41 (by decide) ?_
    refine pm_icmp_ge (tgt := 63) hG dX8_layOut_43 rfl (fun q => absurd q (by decide)) (fun _ => ?_)
    refine pm_aloadn hG dX8_layOut_46 rfl ?_
    refine pm_getf hG dX8_layOut_47 (flX8_23 _ rfl) rfl rfl ?_
    refine pm_iloadn hG dX8_layOut_50 rfl ?_
    refine pm_iloadi hG dX8_layOut_51 rfl ?_
    refine pm_iconst (v := 0) hG dX8_layOut_53 (by decide) ?_
    refine pm_callV (As := [.int za, .int 17, .int 0]) (rest := []) hG hR dX8_layOut_54 (lkX8_31 _ rfl) okV_X9_set rfl rfl (tb_set (d := 1) rfl rfl (pm_tw_of 4 24 (by decide) (by decide) (by decide)) (by decide)) rfl rfl hdd (by decide) (by decide) (by decide) (pm_kv (fun σ' cnt' hq => ?_))
    obtain ⟨rfl, rfl⟩ := hq
    refine pm_iincX (v := 18) (loc' := [some (.ref (B + 48)), some (.int za), some (.int zb), some (.int zc), some (.int 18)]) hG dX8_layOut_57 rfl (by rfl) (by decide) (pm_c1b rfl) rfl ?_
    refine pm_goto (tgt := 39) hG dX8_layOut_60 rfl ?_
    refine pm_iloadi hG dX8_layOut_39 rfl ?_
    refine pm_bipush (v := 24) hG dX8_layOut_41 (by decide) ?_
    refine pm_icmp_ge (tgt := 63) hG dX8_layOut_43 rfl (fun q => absurd q (by decide)) (fun _ => ?_)
    refine pm_aloadn hG dX8_layOut_46 rfl ?_
    refine pm_getf hG dX8_layOut_47 (flX8_23 _ rfl) rfl rfl ?_
    refine pm_iloadn hG dX8_layOut_50 rfl ?_
    refine pm_iloadi hG dX8_layOut_51 rfl ?_
    refine pm_iconst (v := 0) hG dX8_layOut_53 (by decide) ?_
    refine pm_callV (As := [.int za, .int 18, .int 0]) (rest := []) hG hR dX8_layOut_54 (lkX8_31 _ rfl) okV_X9_set rfl rfl (tb_set (d := 1) rfl rfl (pm_tw_of 4 24 (by decide) (by decide) (by decide)) (by decide)) rfl rfl hdd (by decide) (by decide) (by decide) (pm_kv (fun σ' cnt' hq => ?_))
    obtain ⟨rfl, rfl⟩ := hq
    refine pm_iincX (v := 19) (loc' := [some (.ref (B + 48)), some (.int za), some (.int zb), some (.int zc), some (.int 19)]) hG dX8_layOut_57 rfl (by rfl) (by decide) (pm_c1b rfl) rfl ?_
    refine pm_goto (tgt := 39) hG dX8_layOut_60 rfl ?_
    refine pm_iloadi hG dX8_layOut_39 rfl ?_
    refine pm_bipush (v := 24) hG dX8_layOut_41 (by decide) ?_
    refine pm_icmp_ge (tgt := 63) hG dX8_layOut_43 rfl (fun q => absurd q (by decide)) (fun _ => ?_)
    refine pm_aloadn hG dX8_layOut_46 rfl ?_
    refine pm_getf hG dX8_layOut_47 (flX8_23 _ rfl) rfl rfl ?_
    refine pm_iloadn hG dX8_layOut_50 rfl ?_
    refine pm_iloadi hG dX8_layOut_51 rfl ?_
    refine pm_iconst (v := 0) hG dX8_layOut_53 (by decide) ?_
    refine pm_callV (As := [.int za, .int 19, .int 0]) (rest := []) hG hR dX8_layOut_54 (lkX8_31 _ rfl) okV_X9_set rfl rfl (tb_set (d := 1) rfl rfl (pm_tw_of 4 24 (by decide) (by decide) (by decide)) (by decide)) rfl rfl hdd (by decide) (by decide) (by decide) (pm_kv (fun σ' cnt' hq => ?_))
    obtain ⟨rfl, rfl⟩ := hq
    refine pm_iincX (v := 20) (loc' := [some (.ref (B + 48)), some (.int za), some (.int zb), some (.int zc), some (.int 20)]) hG dX8_layOut_57 rfl (by rfl) (by decide) (pm_c1b rfl) rfl ?_
    refine pm_goto (tgt := 39) hG dX8_layOut_60 rfl ?_
    refine pm_iloadi hG dX8_layOut_39 rfl ?_
    refine pm_bipush (v := 24) hG dX8_layOut_41 (by decide) ?_
    refine pm_icmp_ge (tgt := 63) hG dX8_layOut_43 rfl (fun q => absurd q (by decide)) (fun _ => ?_)
    refine pm_aloadn hG dX8_layOut_46 rfl ?_
    refine pm_getf hG dX8_layOut_47 (flX8_23 _ rfl) rfl rfl ?_
    refine pm_iloadn hG dX8_layOut_50 rfl ?_
    refine pm_iloadi hG dX8_layOut_51 rfl ?_
    refine pm_iconst (v := 0) hG dX8_layOut_53 (by decide) ?_
    refine pm_callV (As := [.int za, .int 20, .int 0]) (rest := []) hG hR dX8_layOut_54 (lkX8_31 _ rfl) okV_X9_set rfl rfl (tb_set (d := 1) rfl rfl (pm_tw_of 4 24 (by decide) (by decide) (by decide)) (by decide)) rfl rfl hdd (by decide) (by decide) (by decide) (pm_kv (fun σ' cnt' hq => ?_))
    obtain ⟨rfl, rfl⟩ := hq
    refine pm_iincX (v := 21) (loc' := [some (.ref (B + 48)), some (.int za), some (.int zb), some (.int zc), some (.int 21)]) hG dX8_layOut_57 rfl (by rfl) (by decide) (pm_c1b rfl) rfl ?_
    refine pm_goto (tgt := 39) hG dX8_layOut_60 rfl ?_
    refine pm_iloadi hG dX8_layOut_39 rfl ?_
    refine pm_bipush (v := 24) hG dX8_layOut_41 (by decide) ?_
    refine pm_icmp_ge (tgt := 63) hG dX8_layOut_43 rfl (fun q => absurd q (by decide)) (fun _ => ?_)
    refine pm_aloadn hG dX8_layOut_46 rfl ?_
    refine pm_getf hG dX8_layOut_47 (flX8_23 _ rfl) rfl rfl ?_
    refine pm_iloadn hG dX8_layOut_50 rfl ?_
    refine pm_iloadi hG dX8_layOut_51 rfl ?_
    refine pm_iconst (v := 0) hG dX8_layOut_53 (by decide) ?_
    refine pm_callV (As := [.int za, .int 21, .int 0]) (rest := []) hG hR dX8_layOut_54 (lkX8_31 _ rfl) okV_X9_set rfl rfl (tb_set (d := 1) rfl rfl (pm_tw_of 4 24 (by decide) (by decide) (by decide)) (by decide)) rfl rfl hdd (by decide) (by decide) (by decide) (pm_kv (fun σ' cnt' hq => ?_))
    obtain ⟨rfl, rfl⟩ := hq
    refine pm_iincX (v := 22) (loc' := [some (.ref (B + 48)), some (.int za), some (.int zb), some (.int zc), some (.int 22)]) hG dX8_layOut_57 rfl (by rfl) (by decide) (pm_c1b rfl) rfl ?_
    refine pm_goto (tgt := 39) hG dX8_layOut_60 rfl ?_
    refine pm_iloadi hG dX8_layOut_39 rfl ?_
    refine pm_bipush (v := 24) hG dX8_layOut_41 (by decide) ?_
    refine pm_icmp_ge (tgt := 63) hG dX8_layOut_43 rfl (fun q => absurd q (by decide)) (fun _ => ?_)
    refine pm_aloadn hG dX8_layOut_46 rfl ?_
    refine pm_getf hG dX8_layOut_47 (flX8_23 _ rfl) rfl rfl ?_
    refine pm_iloadn hG dX8_layOut_50 rfl ?_
    refine pm_iloadi hG dX8_layOut_51 rfl ?_
    refine pm_iconst (v := 0) hG dX8_layOut_53 (by decide) ?_
    refine pm_callV (As := [.int za, .int 22, .int 0]) (rest := []) hG hR dX8_layOut_54 (lkX8_31 _ rfl) okV_X9_set rfl rfl (tb_set (d := 1) rfl rfl (pm_tw_of 4 24 (by decide) (by decide) (by decide)) (by decide)) rfl rfl hdd (by decide) (by decide) (by decide) (pm_kv (fun σ' cnt' hq => ?_))
    obtain ⟨rfl, rfl⟩ := hq
    refine pm_iincX (v := 23) (loc' := [some (.ref (B + 48)), some (.int za), some (.int zb), some (.int zc), some (.int 23)]) hG dX8_layOut_57 rfl (by rfl) (by decide) (pm_c1b rfl) rfl ?_
    refine pm_goto (tgt := 39) hG dX8_layOut_60 rfl ?_
    refine pm_iloadi hG dX8_layOut_39 rfl ?_
    refine pm_bipush (v := 24) hG dX8_layOut_41 (by decide) ?_
    refine pm_icmp_ge (tgt := 63) hG dX8_layOut_43 rfl (fun q => absurd q (by decide)) (fun _ => ?_)
    refine pm_aloadn hG dX8_layOut_46 rfl ?_
    refine pm_getf hG dX8_layOut_47 (flX8_23 _ rfl) rfl rfl ?_
    refine pm_iloadn hG dX8_layOut_50 rfl ?_
    refine pm_iloadi hG dX8_layOut_51 rfl ?_
    refine pm_iconst (v := 0) hG dX8_layOut_53 (by decide) ?_
    refine pm_callV (As := [.int za, .int 23, .int 0]) (rest := []) hG hR dX8_layOut_54 (lkX8_31 _ rfl) okV_X9_set rfl rfl (tb_set (d := 1) rfl rfl (pm_tw_of 4 24 (by decide) (by decide) (by decide)) (by decide)) rfl rfl hdd (by decide) (by decide) (by decide) (pm_kv (fun σ' cnt' hq => ?_))
    obtain ⟨rfl, rfl⟩ := hq
    refine pm_iincX (v := 24) (loc' := [some (.ref (B + 48)), some (.int za), some (.int zb), some (.int zc), some (.int 24)]) hG dX8_layOut_57 rfl (by rfl) (by decide) (pm_c1b rfl) rfl ?_
    refine pm_goto (tgt := 39) hG dX8_layOut_60 rfl ?_
    refine pm_iloadi hG dX8_layOut_39 rfl ?_
    refine pm_bipush (v := 24) hG dX8_layOut_41 (by decide) ?_
    refine pm_icmp_ge (tgt := 63) hG dX8_layOut_43 rfl (fun _ => ?_) (fun q => absurd q (by decide))
    exact pm_vret hG hF dX8_layOut_63 rfl (by decide) (by decide) ⟨rfl, (Or.inl ⟨c1, rfl, rfl⟩)⟩
  · refine pm_iloadn hG dX8_layOut_4 rfl ?_
    refine pm_aloadn hG dX8_layOut_5 rfl ?_
    refine pm_getf hG dX8_layOut_6 (flX8_9 _ rfl) rfl rfl ?_
    refine pm_alen (v := 4) hG dX8_layOut_9 rfl (by decide) ?_
    refine pm_icmp_ge (tgt := 36) hG dX8_layOut_10 rfl (fun c2 => ?_) (fun c2 => ?_)
    · refine pm_iconst (v := 0) hG dX8_layOut_36 (by decide) ?_
      refine pm_istoreXi (loc' := [some (.ref (B + 48)), some (.int za), some (.int zb), some (.int zc), some (.int 0)]) hG dX8_layOut_37 (by decide) (pm_c1b rfl) rfl ?_
      refine pm_iloadi hG dX8_layOut_39 rfl ?_
      refine pm_bipush (v := 24) hG dX8_layOut_41 (by decide) ?_
      refine pm_icmp_ge (tgt := 63) hG dX8_layOut_43 rfl (fun q => absurd q (by decide)) (fun _ => ?_)
      refine pm_aloadn hG dX8_layOut_46 rfl ?_
      refine pm_getf hG dX8_layOut_47 (flX8_23 _ rfl) rfl rfl ?_
      refine pm_iloadn hG dX8_layOut_50 rfl ?_
      refine pm_iloadi hG dX8_layOut_51 rfl ?_
      refine pm_iconst (v := 0) hG dX8_layOut_53 (by decide) ?_
      refine pm_callV (As := [.int za, .int 0, .int 0]) (rest := []) hG hR dX8_layOut_54 (lkX8_31 _ rfl) okV_X9_set rfl rfl (tb_set (d := 1) rfl rfl (pm_tw_of 4 24 (by decide) (by decide) (by decide)) (by decide)) rfl rfl hdd (by decide) (by decide) (by decide) (pm_kv (fun σ' cnt' hq => ?_))
      obtain ⟨rfl, rfl⟩ := hq
      refine pm_iincX (v := 1) (loc' := [some (.ref (B + 48)), some (.int za), some (.int zb), some (.int zc), some (.int 1)]) hG dX8_layOut_57 rfl (by rfl) (by decide) (pm_c1b rfl) rfl ?_
      refine pm_goto (tgt := 39) hG dX8_layOut_60 rfl ?_
      refine pm_iloadi hG dX8_layOut_39 rfl ?_
      refine pm_bipush (v := 24) hG dX8_layOut_41 (by decide) ?_
      refine pm_icmp_ge (tgt := 63) hG dX8_layOut_43 rfl (fun q => absurd q (by decide)) (fun _ => ?_)
      refine pm_aloadn hG dX8_layOut_46 rfl ?_
      refine pm_getf hG dX8_layOut_47 (flX8_23 _ rfl) rfl rfl ?_
      refine pm_iloadn hG dX8_layOut_50 rfl ?_
      refine pm_iloadi hG dX8_layOut_51 rfl ?_
      refine pm_iconst (v := 0) hG dX8_layOut_53 (by decide) ?_
      refine pm_callV (As := [.int za, .int 1, .int 0]) (rest := []) hG hR dX8_layOut_54 (lkX8_31 _ rfl) okV_X9_set rfl rfl (tb_set (d := 1) rfl rfl (pm_tw_of 4 24 (by decide) (by decide) (by decide)) (by decide)) rfl rfl hdd (by decide) (by decide) (by decide) (pm_kv (fun σ' cnt' hq => ?_))
      obtain ⟨rfl, rfl⟩ := hq
      refine pm_iincX (v := 2) (loc' := [some (.ref (B + 48)), some (.int za), some (.int zb), some (.int zc), some (.int 2)]) hG dX8_layOut_57 rfl (by rfl) (by decide) (pm_c1b rfl) rfl ?_
      refine pm_goto (tgt := 39) hG dX8_layOut_60 rfl ?_
      refine pm_iloadi hG dX8_layOut_39 rfl ?_
      refine pm_bipush (v := 24) hG dX8_layOut_41 (by decide) ?_
      refine pm_icmp_ge (tgt := 63) hG dX8_layOut_43 rfl (fun q => absurd q (by decide)) (fun _ => ?_)
      refine pm_aloadn hG dX8_layOut_46 rfl ?_
      refine pm_getf hG dX8_layOut_47 (flX8_23 _ rfl) rfl rfl ?_
      refine pm_iloadn hG dX8_layOut_50 rfl ?_
      refine pm_iloadi hG dX8_layOut_51 rfl ?_
      refine pm_iconst (v := 0) hG dX8_layOut_53 (by decide) ?_
      refine pm_callV (As := [.int za, .int 2, .int 0]) (rest := []) hG hR dX8_layOut_54 (lkX8_31 _ rfl) okV_X9_set rfl rfl (tb_set (d := 1) rfl rfl (pm_tw_of 4 24 (by decide) (by decide) (by decide)) (by decide)) rfl rfl hdd (by decide) (by decide) (by decide) (pm_kv (fun σ' cnt' hq => ?_))
      obtain ⟨rfl, rfl⟩ := hq
      refine pm_iincX (v := 3) (loc' := [some (.ref (B + 48)), some (.int za), some (.int zb), some (.int zc), some (.int 3)]) hG dX8_layOut_57 rfl (by rfl) (by decide) (pm_c1b rfl) rfl ?_
      refine pm_goto (tgt := 39) hG dX8_layOut_60 rfl ?_
      refine pm_iloadi hG dX8_layOut_39 rfl ?_
      refine pm_bipush (v := 24) hG dX8_layOut_41 (by decide) ?_
      refine pm_icmp_ge (tgt := 63) hG dX8_layOut_43 rfl (fun q => absurd q (by decide)) (fun _ => ?_)
      refine pm_aloadn hG dX8_layOut_46 rfl ?_
      refine pm_getf hG dX8_layOut_47 (flX8_23 _ rfl) rfl rfl ?_
      refine pm_iloadn hG dX8_layOut_50 rfl ?_
      refine pm_iloadi hG dX8_layOut_51 rfl ?_
      refine pm_iconst (v := 0) hG dX8_layOut_53 (by decide) ?_
      refine pm_callV (As := [.int za, .int 3, .int 0]) (rest := []) hG hR dX8_layOut_54 (lkX8_31 _ rfl) okV_X9_set rfl rfl (tb_set (d := 1) rfl rfl (pm_tw_of 4 24 (by decide) (by decide) (by decide)) (by decide)) rfl rfl hdd (by decide) (by decide) (by decide) (pm_kv (fun σ' cnt' hq => ?_))
      obtain ⟨rfl, rfl⟩ := hq
      refine pm_iincX (v := 4) (loc' := [some (.ref (B + 48)), some (.int za), some (.int zb), some (.int zc), some (.int 4)]) hG dX8_layOut_57 rfl (by rfl) (by decide) (pm_c1b rfl) rfl ?_
      refine pm_goto (tgt := 39) hG dX8_layOut_60 rfl ?_
      refine pm_iloadi hG dX8_layOut_39 rfl ?_
      refine pm_bipush (v := 24) hG dX8_layOut_41 (by decide) ?_
      refine pm_icmp_ge (tgt := 63) hG dX8_layOut_43 rfl (fun q => absurd q (by decide)) (fun _ => ?_)
      refine pm_aloadn hG dX8_layOut_46 rfl ?_
      refine pm_getf hG dX8_layOut_47 (flX8_23 _ rfl) rfl rfl ?_
      refine pm_iloadn hG dX8_layOut_50 rfl ?_
      refine pm_iloadi hG dX8_layOut_51 rfl ?_
      refine pm_iconst (v := 0) hG dX8_layOut_53 (by decide) ?_
      refine pm_callV (As := [.int za, .int 4, .int 0]) (rest := []) hG hR dX8_layOut_54 (lkX8_31 _ rfl) okV_X9_set rfl rfl (tb_set (d := 1) rfl rfl (pm_tw_of 4 24 (by decide) (by decide) (by decide)) (by decide)) rfl rfl hdd (by decide) (by decide) (by decide) (pm_kv (fun σ' cnt' hq => ?_))
      obtain ⟨rfl, rfl⟩ := hq
      refine pm_iincX (v := 5) (loc' := [some (.ref (B + 48)), some (.int za), some (.int zb), some (.int zc), some (.int 5)]) hG dX8_layOut_57 rfl (by rfl) (by decide) (pm_c1b rfl) rfl ?_
      refine pm_goto (tgt := 39) hG dX8_layOut_60 rfl ?_
      refine pm_iloadi hG dX8_layOut_39 rfl ?_
      refine pm_bipush (v := 24) hG dX8_layOut_41 (by decide) ?_
      refine pm_icmp_ge (tgt := 63) hG dX8_layOut_43 rfl (fun q => absurd q (by decide)) (fun _ => ?_)
      refine pm_aloadn hG dX8_layOut_46 rfl ?_
      refine pm_getf hG dX8_layOut_47 (flX8_23 _ rfl) rfl rfl ?_
      refine pm_iloadn hG dX8_layOut_50 rfl ?_
      refine pm_iloadi hG dX8_layOut_51 rfl ?_
      refine pm_iconst (v := 0) hG dX8_layOut_53 (by decide) ?_
      refine pm_callV (As := [.int za, .int 5, .int 0]) (rest := []) hG hR dX8_layOut_54 (lkX8_31 _ rfl) okV_X9_set rfl rfl (tb_set (d := 1) rfl rfl (pm_tw_of 4 24 (by decide) (by decide) (by decide)) (by decide)) rfl rfl hdd (by decide) (by decide) (by decide) (pm_kv (fun σ' cnt' hq => ?_))
      obtain ⟨rfl, rfl⟩ := hq
      refine pm_iincX (v := 6) (loc' := [some (.ref (B + 48)), some (.int za), some (.int zb), some (.int zc), some (.int 6)]) hG dX8_layOut_57 rfl (by rfl) (by decide) (pm_c1b rfl) rfl ?_
      refine pm_goto (tgt := 39) hG dX8_layOut_60 rfl ?_
      refine pm_iloadi hG dX8_layOut_39 rfl ?_
      refine pm_bipush (v := 24) hG dX8_layOut_41 (by decide) ?_
      refine pm_icmp_ge (tgt := 63) hG dX8_layOut_43 rfl (fun q => absurd q (by decide)) (fun _ => ?_)
      refine pm_aloadn hG dX8_layOut_46 rfl ?_
      refine pm_getf hG dX8_layOut_47 (flX8_23 _ rfl) rfl rfl ?_
      refine pm_iloadn hG dX8_layOut_50 rfl ?_
      refine pm_iloadi hG dX8_layOut_51 rfl ?_
      refine pm_iconst (v := 0) hG dX8_layOut_53 (by decide) ?_
      refine pm_callV (As := [.int za, .int 6, .int 0]) (rest := []) hG hR dX8_layOut_54 (lkX8_31 _ rfl) okV_X9_set rfl rfl (tb_set (d := 1) rfl rfl (pm_tw_of 4 24 (by decide) (by decide) (by decide)) (by decide)) rfl rfl hdd (by decide) (by decide) (by decide) (pm_kv (fun σ' cnt' hq => ?_))
      obtain ⟨rfl, rfl⟩ := hq
      refine pm_iincX (v := 7) (loc' := [some (.ref (B + 48)), some (.int za), some (.int zb), some (.int zc), some (.int 7)]) hG dX8_layOut_57 rfl (by rfl) (by decide) (pm_c1b rfl) rfl ?_
      refine pm_goto (tgt := 39) hG dX8_layOut_60 rfl ?_
      refine pm_iloadi hG dX8_layOut_39 rfl ?_
      refine pm_bipush (v := 24) hG dX8_layOut_41 (by decide) ?_
      refine pm_icmp_ge (tgt := 63) hG dX8_layOut_43 rfl (fun q => absurd q (by decide)) (fun _ => ?_)
      refine pm_aloadn hG dX8_layOut_46 rfl ?_
      refine pm_getf hG dX8_layOut_47 (flX8_23 _ rfl) rfl rfl ?_
      refine pm_iloadn hG dX8_layOut_50 rfl ?_
      refine pm_iloadi hG dX8_layOut_51 rfl ?_
      refine pm_iconst (v := 0) hG dX8_layOut_53 (by decide) ?_
      refine pm_callV (As := [.int za, .int 7, .int 0]) (rest := []) hG hR dX8_layOut_54 (lkX8_31 _ rfl) okV_X9_set rfl rfl (tb_set (d := 1) rfl rfl (pm_tw_of 4 24 (by decide) (by decide) (by decide)) (by decide)) rfl rfl hdd (by decide) (by decide) (by decide) (pm_kv (fun σ' cnt' hq => ?_))
      obtain ⟨rfl, rfl⟩ := hq
      refine pm_iincX (v := 8) (loc' := [some (.ref (B + 48)), some (.int za), some (.int zb), some (.int zc), some (.int 8)]) hG dX8_layOut_57 rfl (by rfl) (by decide) (pm_c1b rfl) rfl ?_
      refine pm_goto (tgt := 39) hG dX8_layOut_60 rfl ?_
      refine pm_iloadi hG dX8_layOut_39 rfl ?_
      refine pm_bipush (v := 24) hG dX8_layOut_41 (by decide) ?_
      refine pm_icmp_ge (tgt := 63) hG dX8_layOut_43 rfl (fun q => absurd q (by decide)) (fun _ => ?_)
      refine pm_aloadn hG dX8_layOut_46 rfl ?_
      refine pm_getf hG dX8_layOut_47 (flX8_23 _ rfl) rfl rfl ?_
      refine pm_iloadn hG dX8_layOut_50 rfl ?_
      refine pm_iloadi hG dX8_layOut_51 rfl ?_
      refine pm_iconst (v := 0) hG dX8_layOut_53 (by decide) ?_
      refine pm_callV (As := [.int za, .int 8, .int 0]) (rest := []) hG hR dX8_layOut_54 (lkX8_31 _ rfl) okV_X9_set rfl rfl (tb_set (d := 1) rfl rfl (pm_tw_of 4 24 (by decide) (by decide) (by decide)) (by decide)) rfl rfl hdd (by decide) (by decide) (by decide) (pm_kv (fun σ' cnt' hq => ?_))
      obtain ⟨rfl, rfl⟩ := hq
      refine pm_iincX (v := 9) (loc' := [some (.ref (B + 48)), some (.int za), some (.int zb), some (.int zc), some (.int 9)]) hG dX8_layOut_57 rfl (by rfl) (by decide) (pm_c1b rfl) rfl ?_
      refine pm_goto (tgt := 39) hG dX8_layOut_60 rfl ?_
      refine pm_iloadi hG dX8_layOut_39 rfl ?_
      refine pm_bipush (v := 24) hG dX8_layOut_41 (by decide) ?_
      refine pm_icmp_ge (tgt := 63) hG dX8_layOut_43 rfl (fun q => absurd q (by decide)) (fun _ => ?_)
      refine pm_aloadn hG dX8_layOut_46 rfl ?_
      refine pm_getf hG dX8_layOut_47 (flX8_23 _ rfl) rfl rfl ?_
      refine pm_iloadn hG dX8_layOut_50 rfl ?_
      refine pm_iloadi hG dX8_layOut_51 rfl ?_
      refine pm_iconst (v := 0) hG dX8_layOut_53 (by decide) ?_
      refine pm_callV (As := [.int za, .int 9, .int 0]) (rest := []) hG hR dX8_layOut_54 (lkX8_31 _ rfl) okV_X9_set rfl rfl (tb_set (d := 1) rfl rfl (pm_tw_of 4 24 (by decide) (by decide) (by decide)) (by decide)) rfl rfl hdd (by decide) (by decide) (by decide) (pm_kv (fun σ' cnt' hq => ?_))
      obtain ⟨rfl, rfl⟩ := hq
      refine pm_iincX (v := 10) (loc' := [some (.ref (B + 48)), some (.int za), some (.int zb), some (.int zc), some (.int 10)]) hG dX8_layOut_57 rfl (by rfl) (by decide) (pm_c1b rfl) rfl ?_
      refine pm_goto (tgt := 39) hG dX8_layOut_60 rfl ?_
      refine pm_iloadi hG dX8_layOut_39 rfl ?_
      refine pm_bipush (v := 24) hG dX8_layOut_41 (by decide) ?_
      refine pm_icmp_ge (tgt := 63) hG dX8_layOut_43 rfl (fun q => absurd q (by decide)) (fun _ => ?_)
      refine pm_aloadn hG dX8_layOut_46 rfl ?_
      refine pm_getf hG dX8_layOut_47 (flX8_23 _ rfl) rfl rfl ?_
      refine pm_iloadn hG dX8_layOut_50 rfl ?_
      refine pm_iloadi hG dX8_layOut_51 rfl ?_
      refine pm_iconst (v := 0) hG dX8_layOut_53 (by decide) ?_
      refine pm_callV (As := [.int za, .int 10, .int 0]) (rest := []) hG hR dX8_layOut_54 (lkX8_31 _ rfl) okV_X9_set rfl rfl (tb_set (d := 1) rfl rfl (pm_tw_of 4 24 (by decide) (by decide) (by decide)) (by decide)) rfl rfl hdd (by decide) (by decide) (by decide) (pm_kv (fun σ' cnt' hq => ?_))
      obtain ⟨rfl, rfl⟩ := hq
      refine pm_iincX (v := 11) (loc' := [some (.ref (B + 48)), some (.int za), some (.int zb), some (.int zc), some (.int 11)]) hG dX8_layOut_57 rfl (by rfl) (by decide) (pm_c1b rfl) rfl ?_
      refine pm_goto (tgt := 39) hG dX8_layOut_60 rfl ?_
      refine pm_iloadi hG dX8_layOut_39 rfl ?_
      refine pm_bipush (v := 24) hG dX8_layOut_41 (by decide) ?_
      refine pm_icmp_ge (tgt := 63) hG dX8_layOut_43 rfl (fun q => absurd q (by decide)) (fun _ => ?_)
      refine pm_aloadn hG dX8_layOut_46 rfl ?_
      refine pm_getf hG dX8_layOut_47 (flX8_23 _ rfl) rfl rfl ?_
      refine pm_iloadn hG dX8_layOut_50 rfl ?_
      refine pm_iloadi hG dX8_layOut_51 rfl ?_
      refine pm_iconst (v := 0) hG dX8_layOut_53 (by decide) ?_
      refine pm_callV (As := [.int za, .int 11, .int 0]) (rest := []) hG hR dX8_layOut_54 (lkX8_31 _ rfl) okV_X9_set rfl rfl (tb_set (d := 1) rfl rfl (pm_tw_of 4 24 (by decide) (by decide) (by decide)) (by decide)) rfl rfl hdd (by decide) (by decide) (by decide) (pm_kv (fun σ' cnt' hq => ?_))
      obtain ⟨rfl, rfl⟩ := hq
      refine pm_iincX (v := 12) (loc' := [some (.ref (B + 48)), some (.int za), some (.int zb), some (.int zc), some (.int 12)]) hG dX8_layOut_57 rfl (by rfl) (by decide) (pm_c1b rfl) rfl ?_
      refine pm_goto (tgt := 39) hG dX8_layOut_60 rfl ?_
      refine pm_iloadi hG dX8_layOut_39 rfl ?_
      refine pm_bipush (v := 24) hG dX8_layOut_41 (by decide) ?_
      refine pm_icmp_ge (tgt := 63) hG dX8_layOut_43 rfl (fun q => absurd q (by decide)) (fun _ => ?_)
      refine pm_aloadn hG dX8_layOut_46 rfl ?_
      refine pm_getf hG dX8_layOut_47 (flX8_23 _ rfl) rfl rfl ?_
      refine pm_iloadn hG dX8_layOut_50 rfl ?_
      refine pm_iloadi hG dX8_layOut_51 rfl ?_
      refine pm_iconst (v := 0) hG dX8_layOut_53 (by decide) ?_
      refine pm_callV (As := [.int za, .int 12, .int 0]) (rest := []) hG hR dX8_layOut_54 (lkX8_31 _ rfl) okV_X9_set rfl rfl (tb_set (d := 1) rfl rfl (pm_tw_of 4 24 (by decide) (by decide) (by decide)) (by decide)) rfl rfl hdd (by decide) (by decide) (by decide) (pm_kv (fun σ' cnt' hq => ?_))
      obtain ⟨rfl, rfl⟩ := hq
      refine pm_iincX (v := 13) (loc' := [some (.ref (B + 48)), some (.int za), some (.int zb), some (.int zc), some (.int 13)]) hG dX8_layOut_57 rfl (by rfl) (by decide) (pm_c1b rfl) rfl ?_
      refine pm_goto (tgt := 39) hG dX8_layOut_60 rfl ?_
      refine pm_iloadi hG dX8_layOut_39 rfl ?_
      refine pm_bipush (v := 24) hG dX8_layOut_41 (by decide) ?_
      refine pm_icmp_ge (tgt := 63) hG dX8_layOut_43 rfl (fun q => absurd q (by decide)) (fun _ => ?_)
      refine pm_aloadn hG dX8_layOut_46 rfl ?_
      refine pm_getf hG dX8_layOut_47 (flX8_23 _ rfl) rfl rfl ?_
      refine pm_iloadn hG dX8_layOut_50 rfl ?_
      refine pm_iloadi hG dX8_layOut_51 rfl ?_
      refine pm_iconst (v := 0) hG dX8_layOut_53 (by decide) ?_
      refine pm_callV (As := [.int za, .int 13, .int 0]) (rest := []) hG hR dX8_layOut_54 (lkX8_31 _ rfl) okV_X9_set rfl rfl (tb_set (d := 1) rfl rfl (pm_tw_of 4 24 (by decide) (by decide) (by decide)) (by decide)) rfl rfl hdd (by decide) (by decide) (by decide) (pm_kv (fun σ' cnt' hq => ?_))
      obtain ⟨rfl, rfl⟩ := hq
      refine pm_iincX (v := 14) (loc' := [some (.ref (B + 48)), some (.int za), some (.int zb), some (.int zc), some (.int 14)]) hG dX8_layOut_57 rfl (by rfl) (by decide) (pm_c1b rfl) rfl ?_
      refine pm_goto (tgt := 39) hG dX8_layOut_60 rfl ?_
      refine pm_iloadi hG dX8_layOut_39 rfl ?_
      refine pm_bipush (v := 24) hG dX8_layOut_41 (by decide) ?_
      refine pm_icmp_ge (tgt := 63) hG dX8_layOut_43 rfl (fun q => absurd q (by decide)) (fun _ => ?_)
      refine pm_aloadn hG dX8_layOut_46 rfl ?_
      refine pm_getf hG dX8_layOut_47 (flX8_23 _ rfl) rfl rfl ?_
      refine pm_iloadn hG dX8_layOut_50 rfl ?_
      refine pm_iloadi hG dX8_layOut_51 rfl ?_
      refine pm_iconst (v := 0) hG dX8_layOut_53 (by decide) ?_
      refine pm_callV (As := [.int za, .int 14, .int 0]) (rest := []) hG hR dX8_layOut_54 (lkX8_31 _ rfl) okV_X9_set rfl rfl (tb_set (d := 1) rfl rfl (pm_tw_of 4 24 (by decide) (by decide) (by decide)) (by decide)) rfl rfl hdd (by decide) (by decide) (by decide) (pm_kv (fun σ' cnt' hq => ?_))
      obtain ⟨rfl, rfl⟩ := hq
      refine pm_iincX (v := 15) (loc' := [some (.ref (B + 48)), some (.int za), some (.int zb), some (.int zc), some (.int 15)]) hG dX8_layOut_57 rfl (by rfl) (by decide) (pm_c1b rfl) rfl ?_
      refine pm_goto (tgt := 39) hG dX8_layOut_60 rfl ?_
      refine pm_iloadi hG dX8_layOut_39 rfl ?_
      refine pm_bipush (v := 24) hG dX8_layOut_41 (by decide) ?_
      refine pm_icmp_ge (tgt := 63) hG dX8_layOut_43 rfl (fun q => absurd q (by decide)) (fun _ => ?_)
      refine pm_aloadn hG dX8_layOut_46 rfl ?_
      refine pm_getf hG dX8_layOut_47 (flX8_23 _ rfl) rfl rfl ?_
      refine pm_iloadn hG dX8_layOut_50 rfl ?_
      refine pm_iloadi hG dX8_layOut_51 rfl ?_
      refine pm_iconst (v := 0) hG dX8_layOut_53 (by decide) ?_
      refine pm_callV (As := [.int za, .int 15, .int 0]) (rest := []) hG hR dX8_layOut_54 (lkX8_31 _ rfl) okV_X9_set rfl rfl (tb_set (d := 1) rfl rfl (pm_tw_of 4 24 (by decide) (by decide) (by decide)) (by decide)) rfl rfl hdd (by decide) (by decide) (by decide) (pm_kv (fun σ' cnt' hq => ?_))
      obtain ⟨rfl, rfl⟩ := hq
      refine pm_iincX (v := 16) (loc' := [some (.ref (B + 48)), some (.int za), some (.int zb), some (.int zc), some (.int 16)]) hG dX8_layOut_57 rfl (by rfl) (by decide) (pm_c1b rfl) rfl ?_
      refine pm_goto (tgt := 39) hG dX8_layOut_60 rfl ?_
      refine pm_iloadi hG dX8_layOut_39 rfl ?_
      refine pm_bipush (v := 24) hG dX8_layOut_41 (by decide) ?_
      refine pm_icmp_ge (tgt := 63) hG dX8_layOut_43 rfl (fun q => absurd q (by decide)) (fun _ => ?_)
      refine pm_aloadn hG dX8_layOut_46 rfl ?_
      refine pm_getf hG dX8_layOut_47 (flX8_23 _ rfl) rfl rfl ?_
      refine pm_iloadn hG dX8_layOut_50 rfl ?_
      refine pm_iloadi hG dX8_layOut_51 rfl ?_
      refine pm_iconst (v := 0) hG dX8_layOut_53 (by decide) ?_
      refine pm_callV (As := [.int za, .int 16, .int 0]) (rest := []) hG hR dX8_layOut_54 (lkX8_31 _ rfl) okV_X9_set rfl rfl (tb_set (d := 1) rfl rfl (pm_tw_of 4 24 (by decide) (by decide) (by decide)) (by decide)) rfl rfl hdd (by decide) (by decide) (by decide) (pm_kv (fun σ' cnt' hq => ?_))
      obtain ⟨rfl, rfl⟩ := hq
      refine pm_iincX (v := 17) (loc' := [some (.ref (B + 48)), some (.int za), some (.int zb), some (.int zc), some (.int 17)]) hG dX8_layOut_57 rfl (by rfl) (by decide) (pm_c1b rfl) rfl ?_
      refine pm_goto (tgt := 39) hG dX8_layOut_60 rfl ?_
      refine pm_iloadi hG dX8_layOut_39 rfl ?_
      refine pm_bipush (v := 24) hG dX8_layOut_41 (by decide) ?_
      refine pm_icmp_ge (tgt := 63) hG dX8_layOut_43 rfl (fun q => absurd q (by decide)) (fun _ => ?_)
      refine pm_aloadn hG dX8_layOut_46 rfl ?_
      refine pm_getf hG dX8_layOut_47 (flX8_23 _ rfl) rfl rfl ?_
      refine pm_iloadn hG dX8_layOut_50 rfl ?_
      refine pm_iloadi hG dX8_layOut_51 rfl ?_
      refine pm_iconst (v := 0) hG dX8_layOut_53 (by decide) ?_
      refine pm_callV (As := [.int za, .int 17, .int 0]) (rest := []) hG hR dX8_layOut_54 (lkX8_31 _ rfl) okV_X9_set rfl rfl (tb_set (d := 1) rfl rfl (pm_tw_of 4 24 (by decide) (by decide) (by decide)) (by decide)) rfl rfl hdd (by decide) (by decide) (by decide) (pm_kv (fun σ' cnt' hq => ?_))
      obtain ⟨rfl, rfl⟩ := hq
      refine pm_iincX (v := 18) (loc' := [some (.ref (B + 48)), some (.int za), some (.int zb), some (.int zc), some (.int 18)]) hG dX8_layOut_57 rfl (by rfl) (by decide) (pm_c1b rfl) rfl ?_
      refine pm_goto (tgt := 39) hG dX8_layOut_60 rfl ?_
      refine pm_iloadi hG dX8_layOut_39 rfl ?_
      refine pm_bipush (v := 24) hG dX8_layOut_41 (by decide) ?_
      refine pm_icmp_ge (tgt := 63) hG dX8_layOut_43 rfl (fun q => absurd q (by decide)) (fun _ => ?_)
      refine pm_aloadn hG dX8_layOut_46 rfl ?_
      refine pm_getf hG dX8_layOut_47 (flX8_23 _ rfl) rfl rfl ?_
      refine pm_iloadn hG dX8_layOut_50 rfl ?_
      refine pm_iloadi hG dX8_layOut_51 rfl ?_
      refine pm_iconst (v := 0) hG dX8_layOut_53 (by decide) ?_
      refine pm_callV (As := [.int za, .int 18, .int 0]) (rest := []) hG hR dX8_layOut_54 (lkX8_31 _ rfl) okV_X9_set rfl rfl (tb_set (d := 1) rfl rfl (pm_tw_of 4 24 (by decide) (by decide) (by decide)) (by decide)) rfl rfl hdd (by decide) (by decide) (by decide) (pm_kv (fun σ' cnt' hq => ?_))
      obtain ⟨rfl, rfl⟩ := hq
      refine pm_iincX (v := 19) (loc' := [some (.ref (B + 48)), some (.int za), some (.int zb), some (.int zc), some (.int 19)]) hG dX8_layOut_57 rfl (by rfl) (by decide) (pm_c1b rfl) rfl ?_
      refine pm_goto (tgt := 39) hG dX8_layOut_60 rfl ?_
      refine pm_iloadi hG dX8_layOut_39 rfl ?_
      refine pm_bipush (v := 24) hG dX8_layOut_41 (by decide) ?_
      refine pm_icmp_ge (tgt := 63) hG dX8_layOut_43 rfl (fun q => absurd q (by decide)) (fun _ => ?_)
      refine pm_aloadn hG dX8_layOut_46 rfl ?_
      refine pm_getf hG dX8_layOut_47 (flX8_23 _ rfl) rfl rfl ?_
      refine pm_iloadn hG dX8_layOut_50 rfl ?_
      refine pm_iloadi hG dX8_layOut_51 rfl ?_
      refine pm_iconst (v := 0) hG dX8_layOut_53 (by decide) ?_
      refine pm_callV (As := [.int za, .int 19, .int 0]) (rest := []) hG hR dX8_layOut_54 (lkX8_31 _ rfl) okV_X9_set rfl rfl (tb_set (d := 1) rfl rfl (pm_tw_of 4 24 (by decide) (by decide) (by decide)) (by decide)) rfl rfl hdd (by decide) (by decide) (by decide) (pm_kv (fun σ' cnt' hq => ?_))
      obtain ⟨rfl, rfl⟩ := hq
      refine pm_iincX (v := 20) (loc' := [some (.ref (B + 48)), some (.int za), some (.int zb), some (.int zc), some (.int 20)]) hG dX8_layOut_57 rfl (by rfl) (by decide) (pm_c1b rfl) rfl ?_
      refine pm_goto (tgt := 39) hG dX8_layOut_60 rfl ?_
      refine pm_iloadi hG dX8_layOut_39 rfl ?_
      refine pm_bipush (v := 24) hG dX8_layOut_41 (by decide) ?_
      refine pm_icmp_ge (tgt := 63) hG dX8_layOut_43 rfl (fun q => absurd q (by decide)) (fun _ => ?_)
      refine pm_aloadn hG dX8_layOut_46 rfl ?_
      refine pm_getf hG dX8_layOut_47 (flX8_23 _ rfl) rfl rfl ?_
      refine pm_iloadn hG dX8_layOut_50 rfl ?_
      refine pm_iloadi hG dX8_layOut_51 rfl ?_
      refine pm_iconst (v := 0) hG dX8_layOut_53 (by decide) ?_
      refine pm_callV (As := [.int za, .int 20, .int 0]) (rest := []) hG hR dX8_layOut_54 (lkX8_31 _ rfl) okV_X9_set rfl rfl (tb_set (d := 1) rfl rfl (pm_tw_of 4 24 (by decide) (by decide) (by decide)) (by decide)) rfl rfl hdd (by decide) (by decide) (by decide) (pm_kv (fun σ' cnt' hq => ?_))
      obtain ⟨rfl, rfl⟩ := hq
      refine pm_iincX (v := 21) (loc' := [some (.ref (B + 48)), some (.int za), some (.int zb), some (.int zc), some (.int 21)]) hG dX8_layOut_57 rfl (by rfl) (by decide) (pm_c1b rfl) rfl ?_
      refine pm_goto (tgt := 39) hG dX8_layOut_60 rfl ?_
      refine pm_iloadi hG dX8_layOut_39 rfl ?_
      refine pm_bipush (v := 24) hG dX8_layOut_41 (by decide) ?_
      refine pm_icmp_ge (tgt := 63) hG dX8_layOut_43 rfl (fun q => absurd q (by decide)) (fun _ => ?_)
      refine pm_aloadn hG dX8_layOut_46 rfl ?_
      refine pm_getf hG dX8_layOut_47 (flX8_23 _ rfl) rfl rfl ?_
      refine pm_iloadn hG dX8_layOut_50 rfl ?_
      refine pm_iloadi hG dX8_layOut_51 rfl ?_
      refine pm_iconst (v := 0) hG dX8_layOut_53 (by decide) ?_
      refine pm_callV (As := [.int za, .int 21, .int 0]) (rest := []) hG hR dX8_layOut_54 (lkX8_31 _ rfl) okV_X9_set rfl rfl (tb_set (d := 1) rfl rfl (pm_tw_of 4 24 (by decide) (by decide) (by decide)) (by decide)) rfl rfl hdd (by decide) (by decide) (by decide) (pm_kv (fun σ' cnt' hq => ?_))
      obtain ⟨rfl, rfl⟩ := hq
      refine pm_iincX (v := 22) (loc' := [some (.ref (B + 48)), some (.int za), some (.int zb), some (.int zc), some (.int 22)]) hG dX8_layOut_57 rfl (by rfl) (by decide) (pm_c1b rfl) rfl ?_
      refine pm_goto (tgt := 39) hG dX8_layOut_60 rfl ?_
      refine pm_iloadi hG dX8_layOut_39 rfl ?_
      refine pm_bipush (v := 24) hG dX8_layOut_41 (by decide) ?_
      refine pm_icmp_ge (tgt := 63) hG dX8_layOut_43 rfl (fun q => absurd q (by decide)) (fun _ => ?_)
      refine pm_aloadn hG dX8_layOut_46 rfl ?_
      refine pm_getf hG dX8_layOut_47 (flX8_23 _ rfl) rfl rfl ?_
      refine pm_iloadn hG dX8_layOut_50 rfl ?_
      refine pm_iloadi hG dX8_layOut_51 rfl ?_
      refine pm_iconst (v := 0) hG dX8_layOut_53 (by decide) ?_
      refine pm_callV (As := [.int za, .int 22, .int 0]) (rest := []) hG hR dX8_layOut_54 (lkX8_31 _ rfl) okV_X9_set rfl rfl (tb_set (d := 1) rfl rfl (pm_tw_of 4 24 (by decide) (by decide) (by decide)) (by decide)) rfl rfl hdd (by decide) (by decide) (by decide) (pm_kv (fun σ' cnt' hq => ?_))
      obtain ⟨rfl, rfl⟩ := hq
      refine pm_iincX (v := 23) (loc' := [some (.ref (B + 48)), some (.int za), some (.int zb), some (.int zc), some (.int 23)]) hG dX8_layOut_57 rfl (by rfl) (by decide) (pm_c1b rfl) rfl ?_
      refine pm_goto (tgt := 39) hG dX8_layOut_60 rfl ?_
      refine pm_iloadi hG dX8_layOut_39 rfl ?_
      refine pm_bipush (v := 24) hG dX8_layOut_41 (by decide) ?_
      refine pm_icmp_ge (tgt := 63) hG dX8_layOut_43 rfl (fun q => absurd q (by decide)) (fun _ => ?_)
      refine pm_aloadn hG dX8_layOut_46 rfl ?_
      refine pm_getf hG dX8_layOut_47 (flX8_23 _ rfl) rfl rfl ?_
      refine pm_iloadn hG dX8_layOut_50 rfl ?_
      refine pm_iloadi hG dX8_layOut_51 rfl ?_
      refine pm_iconst (v := 0) hG dX8_layOut_53 (by decide) ?_
      refine pm_callV (As := [.int za, .int 23, .int 0]) (rest := []) hG hR dX8_layOut_54 (lkX8_31 _ rfl) okV_X9_set rfl rfl (tb_set (d := 1) rfl rfl (pm_tw_of 4 24 (by decide) (by decide) (by decide)) (by decide)) rfl rfl hdd (by decide) (by decide) (by decide) (pm_kv (fun σ' cnt' hq => ?_))
      obtain ⟨rfl, rfl⟩ := hq
      refine pm_iincX (v := 24) (loc' := [some (.ref (B + 48)), some (.int za), some (.int zb), some (.int zc), some (.int 24)]) hG dX8_layOut_57 rfl (by rfl) (by decide) (pm_c1b rfl) rfl ?_
      refine pm_goto (tgt := 39) hG dX8_layOut_60 rfl ?_
      refine pm_iloadi hG dX8_layOut_39 rfl ?_
      refine pm_bipush (v := 24) hG dX8_layOut_41 (by decide) ?_
      refine pm_icmp_ge (tgt := 63) hG dX8_layOut_43 rfl (fun _ => ?_) (fun q => absurd q (by decide))
      exact pm_vret hG hF dX8_layOut_63 rfl (by decide) (by decide) ⟨rfl, (Or.inr (Or.inl ⟨c1, c2, rfl, rfl⟩))⟩
    · refine pm_iloadn hG dX8_layOut_13 rfl ?_
      refine pm_aloadn hG dX8_layOut_14 rfl ?_
      refine pm_getf hG dX8_layOut_15 (flX8_15 _ rfl) rfl rfl ?_
      refine pm_alen (v := 4) hG dX8_layOut_18 rfl (by decide) ?_
      refine pm_icmp_ge (tgt := 36) hG dX8_layOut_19 rfl (fun q => False.elim (by revert c1 c2 q; simp only [Int32.lt_iff_toInt_lt, Int32.le_iff_toInt_le, ← Int32.toInt_inj, Int32.toInt_zero, L_4]; omega)) (fun _ => ?_)
      refine pm_aloadn hG dX8_layOut_22 rfl ?_
      refine pm_getf hG dX8_layOut_23 (flX8_9 _ rfl) rfl rfl ?_
      refine pm_iloadn hG dX8_layOut_26 rfl ?_
      refine pm_iloadn hG dX8_layOut_27 rfl ?_
      refine pm_iast hG dX8_layOut_28 rfl (vp_in_iff.mpr (by revert c1 c2; simp only [Int32.lt_iff_toInt_lt, Int32.le_iff_toInt_le, ← Int32.toInt_inj, Int32.toInt_zero, Int32.toInt_add, Int32.toInt_mul, Int32.toInt_sub, Int.bmod_def, L_4]; omega)) ?_
      refine pm_aloadn hG dX8_layOut_29 rfl ?_
      refine pm_getf hG dX8_layOut_30 (flX8_15 _ rfl) rfl rfl ?_
      refine pm_iloadn hG dX8_layOut_33 rfl ?_
      refine pm_iloadn hG dX8_layOut_34 rfl ?_
      refine pm_iast hG dX8_layOut_35 rfl (vp_in_iff.mpr (by revert c1 c2; simp only [Int32.lt_iff_toInt_lt, Int32.le_iff_toInt_le, ← Int32.toInt_inj, Int32.toInt_zero, Int32.toInt_add, Int32.toInt_mul, Int32.toInt_sub, Int.bmod_def, L_4]; omega)) ?_
      refine pm_iconst (v := 0) hG dX8_layOut_36 (by decide) ?_
      refine pm_istoreXi (loc' := [some (.ref (B + 48)), some (.int za), some (.int zb), some (.int zc), some (.int 0)]) hG dX8_layOut_37 (by decide) (pm_c1b rfl) rfl ?_
      refine pm_iloadi hG dX8_layOut_39 rfl ?_
      refine pm_bipush (v := 24) hG dX8_layOut_41 (by decide) ?_
      refine pm_icmp_ge (tgt := 63) hG dX8_layOut_43 rfl (fun q => absurd q (by decide)) (fun _ => ?_)
      refine pm_aloadn hG dX8_layOut_46 rfl ?_
      refine pm_getf hG dX8_layOut_47 (flX8_23 _ rfl) rfl rfl ?_
      refine pm_iloadn hG dX8_layOut_50 rfl ?_
      refine pm_iloadi hG dX8_layOut_51 rfl ?_
      refine pm_iconst (v := 0) hG dX8_layOut_53 (by decide) ?_
      refine pm_callV (As := [.int za, .int 0, .int 0]) (rest := []) hG hR dX8_layOut_54 (lkX8_31 _ rfl) okV_X9_set rfl rfl (tb_set (d := 1) rfl rfl (pm_tw_of 4 24 (by decide) (by decide) (by decide)) (by decide)) rfl rfl hdd (by decide) (by decide) (by decide) (pm_kv (fun σ' cnt' hq => ?_))
      obtain ⟨rfl, rfl⟩ := hq
      refine pm_iincX (v := 1) (loc' := [some (.ref (B + 48)), some (.int za), some (.int zb), some (.int zc), some (.int 1)]) hG dX8_layOut_57 rfl (by rfl) (by decide) (pm_c1b rfl) rfl ?_
      refine pm_goto (tgt := 39) hG dX8_layOut_60 rfl ?_
      refine pm_iloadi hG dX8_layOut_39 rfl ?_
      refine pm_bipush (v := 24) hG dX8_layOut_41 (by decide) ?_
      refine pm_icmp_ge (tgt := 63) hG dX8_layOut_43 rfl (fun q => absurd q (by decide)) (fun _ => ?_)
      refine pm_aloadn hG dX8_layOut_46 rfl ?_
      refine pm_getf hG dX8_layOut_47 (flX8_23 _ rfl) rfl rfl ?_
      refine pm_iloadn hG dX8_layOut_50 rfl ?_
      refine pm_iloadi hG dX8_layOut_51 rfl ?_
      refine pm_iconst (v := 0) hG dX8_layOut_53 (by decide) ?_
      refine pm_callV (As := [.int za, .int 1, .int 0]) (rest := []) hG hR dX8_layOut_54 (lkX8_31 _ rfl) okV_X9_set rfl rfl (tb_set (d := 1) rfl rfl (pm_tw_of 4 24 (by decide) (by decide) (by decide)) (by decide)) rfl rfl hdd (by decide) (by decide) (by decide) (pm_kv (fun σ' cnt' hq => ?_))
      obtain ⟨rfl, rfl⟩ := hq
      refine pm_iincX (v := 2) (loc' := [some (.ref (B + 48)), some (.int za), some (.int zb), some (.int zc), some (.int 2)]) hG dX8_layOut_57 rfl (by rfl) (by decide) (pm_c1b rfl) rfl ?_
      refine pm_goto (tgt := 39) hG dX8_layOut_60 rfl ?_
      refine pm_iloadi hG dX8_layOut_39 rfl ?_
      refine pm_bipush (v := 24) hG dX8_layOut_41 (by decide) ?_
      refine pm_icmp_ge (tgt := 63) hG dX8_layOut_43 rfl (fun q => absurd q (by decide)) (fun _ => ?_)
      refine pm_aloadn hG dX8_layOut_46 rfl ?_
      refine pm_getf hG dX8_layOut_47 (flX8_23 _ rfl) rfl rfl ?_
      refine pm_iloadn hG dX8_layOut_50 rfl ?_
      refine pm_iloadi hG dX8_layOut_51 rfl ?_
      refine pm_iconst (v := 0) hG dX8_layOut_53 (by decide) ?_
      refine pm_callV (As := [.int za, .int 2, .int 0]) (rest := []) hG hR dX8_layOut_54 (lkX8_31 _ rfl) okV_X9_set rfl rfl (tb_set (d := 1) rfl rfl (pm_tw_of 4 24 (by decide) (by decide) (by decide)) (by decide)) rfl rfl hdd (by decide) (by decide) (by decide) (pm_kv (fun σ' cnt' hq => ?_))
      obtain ⟨rfl, rfl⟩ := hq
      refine pm_iincX (v := 3) (loc' := [some (.ref (B + 48)), some (.int za), some (.int zb), some (.int zc), some (.int 3)]) hG dX8_layOut_57 rfl (by rfl) (by decide) (pm_c1b rfl) rfl ?_
      refine pm_goto (tgt := 39) hG dX8_layOut_60 rfl ?_
      refine pm_iloadi hG dX8_layOut_39 rfl ?_
      refine pm_bipush (v := 24) hG dX8_layOut_41 (by decide) ?_
      refine pm_icmp_ge (tgt := 63) hG dX8_layOut_43 rfl (fun q => absurd q (by decide)) (fun _ => ?_)
      refine pm_aloadn hG dX8_layOut_46 rfl ?_
      refine pm_getf hG dX8_layOut_47 (flX8_23 _ rfl) rfl rfl ?_
      refine pm_iloadn hG dX8_layOut_50 rfl ?_
      refine pm_iloadi hG dX8_layOut_51 rfl ?_
      refine pm_iconst (v := 0) hG dX8_layOut_53 (by decide) ?_
      refine pm_callV (As := [.int za, .int 3, .int 0]) (rest := []) hG hR dX8_layOut_54 (lkX8_31 _ rfl) okV_X9_set rfl rfl (tb_set (d := 1) rfl rfl (pm_tw_of 4 24 (by decide) (by decide) (by decide)) (by decide)) rfl rfl hdd (by decide) (by decide) (by decide) (pm_kv (fun σ' cnt' hq => ?_))
      obtain ⟨rfl, rfl⟩ := hq
      refine pm_iincX (v := 4) (loc' := [some (.ref (B + 48)), some (.int za), some (.int zb), some (.int zc), some (.int 4)]) hG dX8_layOut_57 rfl (by rfl) (by decide) (pm_c1b rfl) rfl ?_
      refine pm_goto (tgt := 39) hG dX8_layOut_60 rfl ?_
      refine pm_iloadi hG dX8_layOut_39 rfl ?_
      refine pm_bipush (v := 24) hG dX8_layOut_41 (by decide) ?_
      refine pm_icmp_ge (tgt := 63) hG dX8_layOut_43 rfl (fun q => absurd q (by decide)) (fun _ => ?_)
      refine pm_aloadn hG dX8_layOut_46 rfl ?_
      refine pm_getf hG dX8_layOut_47 (flX8_23 _ rfl) rfl rfl ?_
      refine pm_iloadn hG dX8_layOut_50 rfl ?_
      refine pm_iloadi hG dX8_layOut_51 rfl ?_
      refine pm_iconst (v := 0) hG dX8_layOut_53 (by decide) ?_
      refine pm_callV (As := [.int za, .int 4, .int 0]) (rest := []) hG hR dX8_layOut_54 (lkX8_31 _ rfl) okV_X9_set rfl rfl (tb_set (d := 1) rfl rfl (pm_tw_of 4 24 (by decide) (by decide) (by decide)) (by decide)) rfl rfl hdd (by decide) (by decide) (by decide) (pm_kv (fun σ' cnt' hq => ?_))
      obtain ⟨rfl, rfl⟩ := hq
      refine pm_iincX (v := 5) (loc' := [some (.ref (B + 48)), some (.int za), some (.int zb), some (.int zc), some (.int 5)]) hG dX8_layOut_57 rfl (by rfl) (by decide) (pm_c1b rfl) rfl ?_
      refine pm_goto (tgt := 39) hG dX8_layOut_60 rfl ?_
      refine pm_iloadi hG dX8_layOut_39 rfl ?_
      refine pm_bipush (v := 24) hG dX8_layOut_41 (by decide) ?_
      refine pm_icmp_ge (tgt := 63) hG dX8_layOut_43 rfl (fun q => absurd q (by decide)) (fun _ => ?_)
      refine pm_aloadn hG dX8_layOut_46 rfl ?_
      refine pm_getf hG dX8_layOut_47 (flX8_23 _ rfl) rfl rfl ?_
      refine pm_iloadn hG dX8_layOut_50 rfl ?_
      refine pm_iloadi hG dX8_layOut_51 rfl ?_
      refine pm_iconst (v := 0) hG dX8_layOut_53 (by decide) ?_
      refine pm_callV (As := [.int za, .int 5, .int 0]) (rest := []) hG hR dX8_layOut_54 (lkX8_31 _ rfl) okV_X9_set rfl rfl (tb_set (d := 1) rfl rfl (pm_tw_of 4 24 (by decide) (by decide) (by decide)) (by decide)) rfl rfl hdd (by decide) (by decide) (by decide) (pm_kv (fun σ' cnt' hq => ?_))
      obtain ⟨rfl, rfl⟩ := hq
      refine pm_iincX (v := 6) (loc' := [some (.ref (B + 48)), some (.int za), some (.int zb), some (.int zc), some (.int 6)]) hG dX8_layOut_57 rfl (by rfl) (by decide) (pm_c1b rfl) rfl ?_
      refine pm_goto (tgt := 39) hG dX8_layOut_60 rfl ?_
      refine pm_iloadi hG dX8_layOut_39 rfl ?_
      refine pm_bipush (v := 24) hG dX8_layOut_41 (by decide) ?_
      refine pm_icmp_ge (tgt := 63) hG dX8_layOut_43 rfl (fun q => absurd q (by decide)) (fun _ => ?_)
      refine pm_aloadn hG dX8_layOut_46 rfl ?_
      refine pm_getf hG dX8_layOut_47 (flX8_23 _ rfl) rfl rfl ?_
      refine pm_iloadn hG dX8_layOut_50 rfl ?_
      refine pm_iloadi hG dX8_layOut_51 rfl ?_
      refine pm_iconst (v := 0) hG dX8_layOut_53 (by decide) ?_
      refine pm_callV (As := [.int za, .int 6, .int 0]) (rest := []) hG hR dX8_layOut_54 (lkX8_31 _ rfl) okV_X9_set rfl rfl (tb_set (d := 1) rfl rfl (pm_tw_of 4 24 (by decide) (by decide) (by decide)) (by decide)) rfl rfl hdd (by decide) (by decide) (by decide) (pm_kv (fun σ' cnt' hq => ?_))
      obtain ⟨rfl, rfl⟩ := hq
      refine pm_iincX (v := 7) (loc' := [some (.ref (B + 48)), some (.int za), some (.int zb), some (.int zc), some (.int 7)]) hG dX8_layOut_57 rfl (by rfl) (by decide) (pm_c1b rfl) rfl ?_
      refine pm_goto (tgt := 39) hG dX8_layOut_60 rfl ?_
      refine pm_iloadi hG dX8_layOut_39 rfl ?_
      refine pm_bipush (v := 24) hG dX8_layOut_41 (by decide) ?_
      refine pm_icmp_ge (tgt := 63) hG dX8_layOut_43 rfl (fun q => absurd q (by decide)) (fun _ => ?_)
      refine pm_aloadn hG dX8_layOut_46 rfl ?_
      refine pm_getf hG dX8_layOut_47 (flX8_23 _ rfl) rfl rfl ?_
      refine pm_iloadn hG dX8_layOut_50 rfl ?_
      refine pm_iloadi hG dX8_layOut_51 rfl ?_
      refine pm_iconst (v := 0) hG dX8_layOut_53 (by decide) ?_
      refine pm_callV (As := [.int za, .int 7, .int 0]) (rest := []) hG hR dX8_layOut_54 (lkX8_31 _ rfl) okV_X9_set rfl rfl (tb_set (d := 1) rfl rfl (pm_tw_of 4 24 (by decide) (by decide) (by decide)) (by decide)) rfl rfl hdd (by decide) (by decide) (by decide) (pm_kv (fun σ' cnt' hq => ?_))
      obtain ⟨rfl, rfl⟩ := hq
      refine pm_iincX (v := 8) (loc' := [some (.ref (B + 48)), some (.int za), some (.int zb), some (.int zc), some (.int 8)]) hG dX8_layOut_57 rfl (by rfl) (by decide) (pm_c1b rfl) rfl ?_
      refine pm_goto (tgt := 39) hG dX8_layOut_60 rfl ?_
      refine pm_iloadi hG dX8_layOut_39 rfl ?_
      refine pm_bipush (v := 24) hG dX8_layOut_41 (by decide) ?_
      refine pm_icmp_ge (tgt := 63) hG dX8_layOut_43 rfl (fun q => absurd q (by decide)) (fun _ => ?_)
      refine pm_aloadn hG dX8_layOut_46 rfl ?_
      refine pm_getf hG dX8_layOut_47 (flX8_23 _ rfl) rfl rfl ?_
      refine pm_iloadn hG dX8_layOut_50 rfl ?_
      refine pm_iloadi hG dX8_layOut_51 rfl ?_
      refine pm_iconst (v := 0) hG dX8_layOut_53 (by decide) ?_
      refine pm_callV (As := [.int za, .int 8, .int 0]) (rest := []) hG hR dX8_layOut_54 (lkX8_31 _ rfl) okV_X9_set rfl rfl (tb_set (d := 1) rfl rfl (pm_tw_of 4 24 (by decide) (by decide) (by decide)) (by decide)) rfl rfl hdd (by decide) (by decide) (by decide) (pm_kv (fun σ' cnt' hq => ?_))
      obtain ⟨rfl, rfl⟩ := hq
      refine pm_iincX (v := 9) (loc' := [some (.ref (B + 48)), some (.int za), some (.int zb), some (.int zc), some (.int 9)]) hG dX8_layOut_57 rfl (by rfl) (by decide) (pm_c1b rfl) rfl ?_
      refine pm_goto (tgt := 39) hG dX8_layOut_60 rfl ?_
      refine pm_iloadi hG dX8_layOut_39 rfl ?_
      refine pm_bipush (v := 24) hG dX8_layOut_41 (by decide) ?_
      refine pm_icmp_ge (tgt := 63) hG dX8_layOut_43 rfl (fun q => absurd q (by decide)) (fun _ => ?_)
      refine pm_aloadn hG dX8_layOut_46 rfl ?_
      refine pm_getf hG dX8_layOut_47 (flX8_23 _ rfl) rfl rfl ?_
      refine pm_iloadn hG dX8_layOut_50 rfl ?_
      refine pm_iloadi hG dX8_layOut_51 rfl ?_
      refine pm_iconst (v := 0) hG dX8_layOut_53 (by decide) ?_
      refine pm_callV (As := [.int za, .int 9, .int 0]) (rest := []) hG hR dX8_layOut_54 (lkX8_31 _ rfl) okV_X9_set rfl rfl (tb_set (d := 1) rfl rfl (pm_tw_of 4 24 (by decide) (by decide) (by decide)) (by decide)) rfl rfl hdd (by decide) (by decide) (by decide) (pm_kv (fun σ' cnt' hq => ?_))
      obtain ⟨rfl, rfl⟩ := hq
      refine pm_iincX (v := 10) (loc' := [some (.ref (B + 48)), some (.int za), some (.int zb), some (.int zc), some (.int 10)]) hG dX8_layOut_57 rfl (by rfl) (by decide) (pm_c1b rfl) rfl ?_
      refine pm_goto (tgt := 39) hG dX8_layOut_60 rfl ?_
      refine pm_iloadi hG dX8_layOut_39 rfl ?_
      refine pm_bipush (v := 24) hG dX8_layOut_41 (by decide) ?_
      refine pm_icmp_ge (tgt := 63) hG dX8_layOut_43 rfl (fun q => absurd q (by decide)) (fun _ => ?_)
      refine pm_aloadn hG dX8_layOut_46 rfl ?_
      refine pm_getf hG dX8_layOut_47 (flX8_23 _ rfl) rfl rfl ?_
      refine pm_iloadn hG dX8_layOut_50 rfl ?_
      refine pm_iloadi hG dX8_layOut_51 rfl ?_
      refine pm_iconst (v := 0) hG dX8_layOut_53 (by decide) ?_
      refine pm_callV (As := [.int za, .int 10, .int 0]) (rest := []) hG hR dX8_layOut_54 (lkX8_31 _ rfl) okV_X9_set rfl rfl (tb_set (d := 1) rfl rfl (pm_tw_of 4 24 (by decide) (by decide) (by decide)) (by decide)) rfl rfl hdd (by decide) (by decide) (by decide) (pm_kv (fun σ' cnt' hq => ?_))
      obtain ⟨rfl, rfl⟩ := hq
      refine pm_iincX (v := 11) (loc' := [some (.ref (B + 48)), some (.int za), some (.int zb), some (.int zc), some (.int 11)]) hG dX8_layOut_57 rfl (by rfl) (by decide) (pm_c1b rfl) rfl ?_
      refine pm_goto (tgt := 39) hG dX8_layOut_60 rfl ?_
      refine pm_iloadi hG dX8_layOut_39 rfl ?_
      refine pm_bipush (v := 24) hG dX8_layOut_41 (by decide) ?_
      refine pm_icmp_ge (tgt := 63) hG dX8_layOut_43 rfl (fun q => absurd q (by decide)) (fun _ => ?_)
      refine pm_aloadn hG dX8_layOut_46 rfl ?_
      refine pm_getf hG dX8_layOut_47 (flX8_23 _ rfl) rfl rfl ?_
      refine pm_iloadn hG dX8_layOut_50 rfl ?_
      refine pm_iloadi hG dX8_layOut_51 rfl ?_
      refine pm_iconst (v := 0) hG dX8_layOut_53 (by decide) ?_
      refine pm_callV (As := [.int za, .int 11, .int 0]) (rest := []) hG hR dX8_layOut_54 (lkX8_31 _ rfl) okV_X9_set rfl rfl (tb_set (d := 1) rfl rfl (pm_tw_of 4 24 (by decide) (by decide) (by decide)) (by decide)) rfl rfl hdd (by decide) (by decide) (by decide) (pm_kv (fun σ' cnt' hq => ?_))
      obtain ⟨rfl, rfl⟩ := hq
      refine pm_iincX (v := 12) (loc' := [some (.ref (B + 48)), some (.int za), some (.int zb), some (.int zc), some (.int 12)]) hG dX8_layOut_57 rfl (by rfl) (by decide) (pm_c1b rfl) rfl ?_
      refine pm_goto (tgt := 39) hG dX8_layOut_60 rfl ?_
      refine pm_iloadi hG dX8_layOut_39 rfl ?_
      refine pm_bipush (v := 24) hG dX8_layOut_41 (by decide) ?_
      refine pm_icmp_ge (tgt := 63) hG dX8_layOut_43 rfl (fun q => absurd q (by decide)) (fun _ => ?_)
      refine pm_aloadn hG dX8_layOut_46 rfl ?_
      refine pm_getf hG dX8_layOut_47 (flX8_23 _ rfl) rfl rfl ?_
      refine pm_iloadn hG dX8_layOut_50 rfl ?_
      refine pm_iloadi hG dX8_layOut_51 rfl ?_
      refine pm_iconst (v := 0) hG dX8_layOut_53 (by decide) ?_
      refine pm_callV (As := [.int za, .int 12, .int 0]) (rest := []) hG hR dX8_layOut_54 (lkX8_31 _ rfl) okV_X9_set rfl rfl (tb_set (d := 1) rfl rfl (pm_tw_of 4 24 (by decide) (by decide) (by decide)) (by decide)) rfl rfl hdd (by decide) (by decide) (by decide) (pm_kv (fun σ' cnt' hq => ?_))
      obtain ⟨rfl, rfl⟩ := hq
      refine pm_iincX (v := 13) (loc' := [some (.ref (B + 48)), some (.int za), some (.int zb), some (.int zc), some (.int 13)]) hG dX8_layOut_57 rfl (by rfl) (by decide) (pm_c1b rfl) rfl ?_
      refine pm_goto (tgt := 39) hG dX8_layOut_60 rfl ?_
      refine pm_iloadi hG dX8_layOut_39 rfl ?_
      refine pm_bipush (v := 24) hG dX8_layOut_41 (by decide) ?_
      refine pm_icmp_ge (tgt := 63) hG dX8_layOut_43 rfl (fun q => absurd q (by decide)) (fun _ => ?_)
      refine pm_aloadn hG dX8_layOut_46 rfl ?_
      refine pm_getf hG dX8_layOut_47 (flX8_23 _ rfl) rfl rfl ?_
      refine pm_iloadn hG dX8_layOut_50 rfl ?_
      refine pm_iloadi hG dX8_layOut_51 rfl ?_
      refine pm_iconst (v := 0) hG dX8_layOut_53 (by decide) ?_
      refine pm_callV (As := [.int za, .int 13, .int 0]) (rest := []) hG hR dX8_layOut_54 (lkX8_31 _ rfl) okV_X9_set rfl rfl (tb_set (d := 1) rfl rfl (pm_tw_of 4 24 (by decide) (by decide) (by decide)) (by decide)) rfl rfl hdd (by decide) (by decide) (by decide) (pm_kv (fun σ' cnt' hq => ?_))
      obtain ⟨rfl, rfl⟩ := hq
      refine pm_iincX (v := 14) (loc' := [some (.ref (B + 48)), some (.int za), some (.int zb), some (.int zc), some (.int 14)]) hG dX8_layOut_57 rfl (by rfl) (by decide) (pm_c1b rfl) rfl ?_
      refine pm_goto (tgt := 39) hG dX8_layOut_60 rfl ?_
      refine pm_iloadi hG dX8_layOut_39 rfl ?_
      refine pm_bipush (v := 24) hG dX8_layOut_41 (by decide) ?_
      refine pm_icmp_ge (tgt := 63) hG dX8_layOut_43 rfl (fun q => absurd q (by decide)) (fun _ => ?_)
      refine pm_aloadn hG dX8_layOut_46 rfl ?_
      refine pm_getf hG dX8_layOut_47 (flX8_23 _ rfl) rfl rfl ?_
      refine pm_iloadn hG dX8_layOut_50 rfl ?_
      refine pm_iloadi hG dX8_layOut_51 rfl ?_
      refine pm_iconst (v := 0) hG dX8_layOut_53 (by decide) ?_
      refine pm_callV (As := [.int za, .int 14, .int 0]) (rest := []) hG hR dX8_layOut_54 (lkX8_31 _ rfl) okV_X9_set rfl rfl (tb_set (d := 1) rfl rfl (pm_tw_of 4 24 (by decide) (by decide) (by decide)) (by decide)) rfl rfl hdd (by decide) (by decide) (by decide) (pm_kv (fun σ' cnt' hq => ?_))
      obtain ⟨rfl, rfl⟩ := hq
      refine pm_iincX (v := 15) (loc' := [some (.ref (B + 48)), some (.int za), some (.int zb), some (.int zc), some (.int 15)]) hG dX8_layOut_57 rfl (by rfl) (by decide) (pm_c1b rfl) rfl ?_
      refine pm_goto (tgt := 39) hG dX8_layOut_60 rfl ?_
      refine pm_iloadi hG dX8_layOut_39 rfl ?_
      refine pm_bipush (v := 24) hG dX8_layOut_41 (by decide) ?_
      refine pm_icmp_ge (tgt := 63) hG dX8_layOut_43 rfl (fun q => absurd q (by decide)) (fun _ => ?_)
      refine pm_aloadn hG dX8_layOut_46 rfl ?_
      refine pm_getf hG dX8_layOut_47 (flX8_23 _ rfl) rfl rfl ?_
      refine pm_iloadn hG dX8_layOut_50 rfl ?_
      refine pm_iloadi hG dX8_layOut_51 rfl ?_
      refine pm_iconst (v := 0) hG dX8_layOut_53 (by decide) ?_
      refine pm_callV (As := [.int za, .int 15, .int 0]) (rest := []) hG hR dX8_layOut_54 (lkX8_31 _ rfl) okV_X9_set rfl rfl (tb_set (d := 1) rfl rfl (pm_tw_of 4 24 (by decide) (by decide) (by decide)) (by decide)) rfl rfl hdd (by decide) (by decide) (by decide) (pm_kv (fun σ' cnt' hq => ?_))
      obtain ⟨rfl, rfl⟩ := hq
      refine pm_iincX (v := 16) (loc' := [some (.ref (B + 48)), some (.int za), some (.int zb), some (.int zc), some (.int 16)]) hG dX8_layOut_57 rfl (by rfl) (by decide) (pm_c1b rfl) rfl ?_
      refine pm_goto (tgt := 39) hG dX8_layOut_60 rfl ?_
      refine pm_iloadi hG dX8_layOut_39 rfl ?_
      refine pm_bipush (v := 24) hG dX8_layOut_41 (by decide) ?_
      refine pm_icmp_ge (tgt := 63) hG dX8_layOut_43 rfl (fun q => absurd q (by decide)) (fun _ => ?_)
      refine pm_aloadn hG dX8_layOut_46 rfl ?_
      refine pm_getf hG dX8_layOut_47 (flX8_23 _ rfl) rfl rfl ?_
      refine pm_iloadn hG dX8_layOut_50 rfl ?_
      refine pm_iloadi hG dX8_layOut_51 rfl ?_
      refine pm_iconst (v := 0) hG dX8_layOut_53 (by decide) ?_
      refine pm_callV (As := [.int za, .int 16, .int 0]) (rest := []) hG hR dX8_layOut_54 (lkX8_31 _ rfl) okV_X9_set rfl rfl (tb_set (d := 1) rfl rfl (pm_tw_of 4 24 (by decide) (by decide) (by decide)) (by decide)) rfl rfl hdd (by decide) (by decide) (by decide) (pm_kv (fun σ' cnt' hq => ?_))
      obtain ⟨rfl, rfl⟩ := hq
      refine pm_iincX (v := 17) (loc' := [some (.ref (B + 48)), some (.int za), some (.int zb), some (.int zc), some (.int 17)]) hG dX8_layOut_57 rfl (by rfl) (by decide) (pm_c1b rfl) rfl ?_
      refine pm_goto (tgt := 39) hG dX8_layOut_60 rfl ?_
      refine pm_iloadi hG dX8_layOut_39 rfl ?_
      refine pm_bipush (v := 24) hG dX8_layOut_41 (by decide) ?_
      refine pm_icmp_ge (tgt := 63) hG dX8_layOut_43 rfl (fun q => absurd q (by decide)) (fun _ => ?_)
      refine pm_aloadn hG dX8_layOut_46 rfl ?_
      refine pm_getf hG dX8_layOut_47 (flX8_23 _ rfl) rfl rfl ?_
      refine pm_iloadn hG dX8_layOut_50 rfl ?_
      refine pm_iloadi hG dX8_layOut_51 rfl ?_
      refine pm_iconst (v := 0) hG dX8_layOut_53 (by decide) ?_
      refine pm_callV (As := [.int za, .int 17, .int 0]) (rest := []) hG hR dX8_layOut_54 (lkX8_31 _ rfl) okV_X9_set rfl rfl (tb_set (d := 1) rfl rfl (pm_tw_of 4 24 (by decide) (by decide) (by decide)) (by decide)) rfl rfl hdd (by decide) (by decide) (by decide) (pm_kv (fun σ' cnt' hq => ?_))
      obtain ⟨rfl, rfl⟩ := hq
      refine pm_iincX (v := 18) (loc' := [some (.ref (B + 48)), some (.int za), some (.int zb), some (.int zc), some (.int 18)]) hG dX8_layOut_57 rfl (by rfl) (by decide) (pm_c1b rfl) rfl ?_
      refine pm_goto (tgt := 39) hG dX8_layOut_60 rfl ?_
      refine pm_iloadi hG dX8_layOut_39 rfl ?_
      refine pm_bipush (v := 24) hG dX8_layOut_41 (by decide) ?_
      refine pm_icmp_ge (tgt := 63) hG dX8_layOut_43 rfl (fun q => absurd q (by decide)) (fun _ => ?_)
      refine pm_aloadn hG dX8_layOut_46 rfl ?_
      refine pm_getf hG dX8_layOut_47 (flX8_23 _ rfl) rfl rfl ?_
      refine pm_iloadn hG dX8_layOut_50 rfl ?_
      refine pm_iloadi hG dX8_layOut_51 rfl ?_
      refine pm_iconst (v := 0) hG dX8_layOut_53 (by decide) ?_
      refine pm_callV (As := [.int za, .int 18, .int 0]) (rest := []) hG hR dX8_layOut_54 (lkX8_31 _ rfl) okV_X9_set rfl rfl (tb_set (d := 1) rfl rfl (pm_tw_of 4 24 (by decide) (by decide) (by decide)) (by decide)) rfl rfl hdd (by decide) (by decide) (by decide) (pm_kv (fun σ' cnt' hq => ?_))
      obtain ⟨rfl, rfl⟩ := hq
      refine pm_iincX (v := 19) (loc' := [some (.ref (B + 48)), some (.int za), some (.int zb), some (.int zc), some (.int 19)]) hG dX8_layOut_57 rfl (by rfl) (by decide) (pm_c1b rfl) rfl ?_
      refine pm_goto (tgt := 39) hG dX8_layOut_60 rfl ?_
      refine pm_iloadi hG dX8_layOut_39 rfl ?_
      refine pm_bipush (v := 24) hG dX8_layOut_41 (by decide) ?_
      refine pm_icmp_ge (tgt := 63) hG dX8_layOut_43 rfl (fun q => absurd q (by decide)) (fun _ => ?_)
      refine pm_aloadn hG dX8_layOut_46 rfl ?_
      refine pm_getf hG dX8_layOut_47 (flX8_23 _ rfl) rfl rfl ?_
      refine pm_iloadn hG dX8_layOut_50 rfl ?_
      refine pm_iloadi hG dX8_layOut_51 rfl ?_
      refine pm_iconst (v := 0) hG dX8_layOut_53 (by decide) ?_
      refine pm_callV (As := [.int za, .int 19, .int 0]) (rest := []) hG hR dX8_layOut_54 (lkX8_31 _ rfl) okV_X9_set rfl rfl (tb_set (d := 1) rfl rfl (pm_tw_of 4 24 (by decide) (by decide) (by decide)) (by decide)) rfl rfl hdd (by decide) (by decide) (by decide) (pm_kv (fun σ' cnt' hq => ?_))
      obtain ⟨rfl, rfl⟩ := hq
      refine pm_iincX (v := 20) (loc' := [some (.ref (B + 48)), some (.int za), some (.int zb), some (.int zc), some (.int 20)]) hG dX8_layOut_57 rfl (by rfl) (by decide) (pm_c1b rfl) rfl ?_
      refine pm_goto (tgt := 39) hG dX8_layOut_60 rfl ?_
      refine pm_iloadi hG dX8_layOut_39 rfl ?_
      refine pm_bipush (v := 24) hG dX8_layOut_41 (by decide) ?_
      refine pm_icmp_ge (tgt := 63) hG dX8_layOut_43 rfl (fun q => absurd q (by decide)) (fun _ => ?_)
      refine pm_aloadn hG dX8_layOut_46 rfl ?_
      refine pm_getf hG dX8_layOut_47 (flX8_23 _ rfl) rfl rfl ?_
      refine pm_iloadn hG dX8_layOut_50 rfl ?_
      refine pm_iloadi hG dX8_layOut_51 rfl ?_
      refine pm_iconst (v := 0) hG dX8_layOut_53 (by decide) ?_
      refine pm_callV (As := [.int za, .int 20, .int 0]) (rest := []) hG hR dX8_layOut_54 (lkX8_31 _ rfl) okV_X9_set rfl rfl (tb_set (d := 1) rfl rfl (pm_tw_of 4 24 (by decide) (by decide) (by decide)) (by decide)) rfl rfl hdd (by decide) (by decide) (by decide) (pm_kv (fun σ' cnt' hq => ?_))
      obtain ⟨rfl, rfl⟩ := hq
      refine pm_iincX (v := 21) (loc' := [some (.ref (B + 48)), some (.int za), some (.int zb), some (.int zc), some (.int 21)]) hG dX8_layOut_57 rfl (by rfl) (by decide) (pm_c1b rfl) rfl ?_
      refine pm_goto (tgt := 39) hG dX8_layOut_60 rfl ?_
      refine pm_iloadi hG dX8_layOut_39 rfl ?_
      refine pm_bipush (v := 24) hG dX8_layOut_41 (by decide) ?_
      refine pm_icmp_ge (tgt := 63) hG dX8_layOut_43 rfl (fun q => absurd q (by decide)) (fun _ => ?_)
      refine pm_aloadn hG dX8_layOut_46 rfl ?_
      refine pm_getf hG dX8_layOut_47 (flX8_23 _ rfl) rfl rfl ?_
      refine pm_iloadn hG dX8_layOut_50 rfl ?_
      refine pm_iloadi hG dX8_layOut_51 rfl ?_
      refine pm_iconst (v := 0) hG dX8_layOut_53 (by decide) ?_
      refine pm_callV (As := [.int za, .int 21, .int 0]) (rest := []) hG hR dX8_layOut_54 (lkX8_31 _ rfl) okV_X9_set rfl rfl (tb_set (d := 1) rfl rfl (pm_tw_of 4 24 (by decide) (by decide) (by decide)) (by decide)) rfl rfl hdd (by decide) (by decide) (by decide) (pm_kv (fun σ' cnt' hq => ?_))
      obtain ⟨rfl, rfl⟩ := hq
      refine pm_iincX (v := 22) (loc' := [some (.ref (B + 48)), some (.int za), some (.int zb), some (.int zc), some (.int 22)]) hG dX8_layOut_57 rfl (by rfl) (by decide) (pm_c1b rfl) rfl ?_
      refine pm_goto (tgt := 39) hG dX8_layOut_60 rfl ?_
      refine pm_iloadi hG dX8_layOut_39 rfl ?_
      refine pm_bipush (v := 24) hG dX8_layOut_41 (by decide) ?_
      refine pm_icmp_ge (tgt := 63) hG dX8_layOut_43 rfl (fun q => absurd q (by decide)) (fun _ => ?_)
      refine pm_aloadn hG dX8_layOut_46 rfl ?_
      refine pm_getf hG dX8_layOut_47 (flX8_23 _ rfl) rfl rfl ?_
      refine pm_iloadn hG dX8_layOut_50 rfl ?_
      refine pm_iloadi hG dX8_layOut_51 rfl ?_
      refine pm_iconst (v := 0) hG dX8_layOut_53 (by decide) ?_
      refine pm_callV (As := [.int za, .int 22, .int 0]) (rest := []) hG hR dX8_layOut_54 (lkX8_31 _ rfl) okV_X9_set rfl rfl (tb_set (d := 1) rfl rfl (pm_tw_of 4 24 (by decide) (by decide) (by decide)) (by decide)) rfl rfl hdd (by decide) (by decide) (by decide) (pm_kv (fun σ' cnt' hq => ?_))
      obtain ⟨rfl, rfl⟩ := hq
      refine pm_iincX (v := 23) (loc' := [some (.ref (B + 48)), some (.int za), some (.int zb), some (.int zc), some (.int 23)]) hG dX8_layOut_57 rfl (by rfl) (by decide) (pm_c1b rfl) rfl ?_
      refine pm_goto (tgt := 39) hG dX8_layOut_60 rfl ?_
      refine pm_iloadi hG dX8_layOut_39 rfl ?_
      refine pm_bipush (v := 24) hG dX8_layOut_41 (by decide) ?_
      refine pm_icmp_ge (tgt := 63) hG dX8_layOut_43 rfl (fun q => absurd q (by decide)) (fun _ => ?_)
      refine pm_aloadn hG dX8_layOut_46 rfl ?_
      refine pm_getf hG dX8_layOut_47 (flX8_23 _ rfl) rfl rfl ?_
      refine pm_iloadn hG dX8_layOut_50 rfl ?_
      refine pm_iloadi hG dX8_layOut_51 rfl ?_
      refine pm_iconst (v := 0) hG dX8_layOut_53 (by decide) ?_
      refine pm_callV (As := [.int za, .int 23, .int 0]) (rest := []) hG hR dX8_layOut_54 (lkX8_31 _ rfl) okV_X9_set rfl rfl (tb_set (d := 1) rfl rfl (pm_tw_of 4 24 (by decide) (by decide) (by decide)) (by decide)) rfl rfl hdd (by decide) (by decide) (by decide) (pm_kv (fun σ' cnt' hq => ?_))
      obtain ⟨rfl, rfl⟩ := hq
      refine pm_iincX (v := 24) (loc' := [some (.ref (B + 48)), some (.int za), some (.int zb), some (.int zc), some (.int 24)]) hG dX8_layOut_57 rfl (by rfl) (by decide) (pm_c1b rfl) rfl ?_
      refine pm_goto (tgt := 39) hG dX8_layOut_60 rfl ?_
      refine pm_iloadi hG dX8_layOut_39 rfl ?_
      refine pm_bipush (v := 24) hG dX8_layOut_41 (by decide) ?_
      refine pm_icmp_ge (tgt := 63) hG dX8_layOut_43 rfl (fun _ => ?_) (fun q => absurd q (by decide))
      exact pm_vret hG hF dX8_layOut_63 rfl (by decide) (by decide) ⟨rfl, (Or.inr (Or.inr ⟨c1, c2, rfl, rfl⟩))⟩

set_option maxRecDepth 100000 in
set_option maxHeartbeats 8000000 in
theorem oc_sheet {B : Nat} {fw : Nat → Int32} {R : List pm_C} {za zb zc : Int32} {d : Nat} (hdd : 3 ≤ d) : pm_met mX11_sheet d 0 0 B [.ref (B + 0), .int za, .int zb, .int zc] 74 (pm_cat (pm_ofL (l_k_class B fw)) 54 R) (pm_Qi (fun v σ' cnt' => v = v_sheet za zb zc ∧ pm_lies σ' 54 R ∧ cnt' = 74)) := by
  refine pm_enter 0 (by decide) (Nat.le_of_ble_eq_true rfl) rfl (fun G hG hR hF => ?_)
  refine pm_aloadn hG dX11_sheet_0 rfl ?_
  refine pm_getf hG dX11_sheet_1 (flX11_74 _ rfl) rfl rfl ?_
  refine pm_iloadn hG dX11_sheet_4 rfl ?_
  refine pm_callV (As := [.int za]) (rest := []) hG hR dX11_sheet_5 (lkX11_251 _ rfl) okV_X8_has rfl rfl (fc_X8_has_31 (d := 2) (by decide)) rfl rfl hdd (by decide) (by decide) (by decide) (pm_ki (fun v σ' cnt' hq => ?_))
  rcases hq with ⟨c1, rfl, rfl, rfl⟩ | ⟨c2, c3, rfl, rfl, rfl⟩ | ⟨c4, c5, rfl, rfl, rfl⟩
  · refine pm_if_eq (tgt := 26) hG dX11_sheet_8 rfl (fun _ => ?_) (fun q => absurd q (by decide))
    refine pm_aloadn hG dX11_sheet_26 rfl ?_
    refine pm_ldc hG dX11_sheet_27 (ctX11_109 _ rfl) ?_
    refine pm_callV (As := [.int (-1000001)]) (rest := []) hG hR dX11_sheet_29 (lkX11_97 _ rfl) okV_X11_told rfl rfl (sx_told (d := 2) (by decide) rfl rfl) rfl rfl hdd (by decide) (by decide) (by decide) (pm_ki (fun v σ' cnt' hq => ?_))
    obtain ⟨rfl, ⟨g, rfl⟩, rfl⟩ := hq
    exact pm_iret hG hF dX11_sheet_32 rfl (by decide) (by decide) ⟨_, rfl, (by clear hF hR hG; first | rfl | (unfold v_sheet; (repeat' split) <;> first | rfl | (exfalso; simp only [Int32.lt_iff_toInt_lt, Int32.le_iff_toInt_le, ← Int32.toInt_inj, Int32.toInt_zero, L_1, L_16, L_24, L_3, L_32, L_8, L_m1000001, L_m1000003] at *; omega) | (apply Int32.toInt_inj.mp; simp only [Int32.lt_iff_toInt_lt, Int32.le_iff_toInt_le, ← Int32.toInt_inj, Int32.toInt_zero, L_1, L_16, L_24, L_3, L_32, L_8, L_m1000001, L_m1000003] at *; omega))), (by repeat (first | exact pm_lies_cat | refine pm_lies.up0 (by decide) ?_)), rfl⟩
  · refine pm_if_eq (tgt := 26) hG dX11_sheet_8 rfl (fun _ => ?_) (fun q => absurd q (by decide))
    refine pm_aloadn hG dX11_sheet_26 rfl ?_
    refine pm_ldc hG dX11_sheet_27 (ctX11_109 _ rfl) ?_
    refine pm_callV (As := [.int (-1000001)]) (rest := []) hG hR dX11_sheet_29 (lkX11_97 _ rfl) okV_X11_told rfl rfl (sx_told (d := 2) (by decide) rfl rfl) rfl rfl hdd (by decide) (by decide) (by decide) (pm_ki (fun v σ' cnt' hq => ?_))
    obtain ⟨rfl, ⟨g, rfl⟩, rfl⟩ := hq
    exact pm_iret hG hF dX11_sheet_32 rfl (by decide) (by decide) ⟨_, rfl, (by clear hF hR hG; first | rfl | (unfold v_sheet; (repeat' split) <;> first | rfl | (exfalso; simp only [Int32.lt_iff_toInt_lt, Int32.le_iff_toInt_le, ← Int32.toInt_inj, Int32.toInt_zero, L_1, L_16, L_24, L_3, L_32, L_4, L_8, L_m1000001, L_m1000003] at *; omega) | (apply Int32.toInt_inj.mp; simp only [Int32.lt_iff_toInt_lt, Int32.le_iff_toInt_le, ← Int32.toInt_inj, Int32.toInt_zero, L_1, L_16, L_24, L_3, L_32, L_4, L_8, L_m1000001, L_m1000003] at *; omega))), (by repeat (first | exact pm_lies_cat | refine pm_lies.up0 (by decide) ?_)), rfl⟩
  · refine pm_if_eq (tgt := 26) hG dX11_sheet_8 rfl (fun q => absurd q (by decide)) (fun _ => ?_)
    refine pm_iloadn hG dX11_sheet_11 rfl ?_
    refine pm_if_eq (tgt := 33) hG dX11_sheet_12 rfl (fun c6 => ?_) (fun c6 => ?_)
    · refine pm_iloadn hG dX11_sheet_33 rfl ?_
      refine pm_if_eq (tgt := 48) hG dX11_sheet_34 rfl (fun _ => ?_) (fun q => False.elim (by revert c6 q; simp only [Int32.lt_iff_toInt_lt, Int32.le_iff_toInt_le, ← Int32.toInt_inj, Int32.toInt_zero]; omega))
      refine pm_iloadn hG dX11_sheet_48 rfl ?_
      refine pm_if_eq (tgt := 65) hG dX11_sheet_49 rfl (fun _ => ?_) (fun q => False.elim (by revert c6 q; simp only [Int32.lt_iff_toInt_lt, Int32.le_iff_toInt_le, ← Int32.toInt_inj, Int32.toInt_zero]; omega))
      refine pm_aloadn hG dX11_sheet_65 rfl ?_
      refine pm_getf hG dX11_sheet_66 (flX11_74 _ rfl) rfl rfl ?_
      refine pm_iloadn hG dX11_sheet_69 rfl ?_
      refine pm_iloadn hG dX11_sheet_70 rfl ?_
      refine pm_iloadn hG dX11_sheet_71 rfl ?_
      refine pm_if_ne (tgt := 79) hG dX11_sheet_72 rfl (fun q => False.elim (by revert c6 q; simp only [Int32.lt_iff_toInt_lt, Int32.le_iff_toInt_le, ← Int32.toInt_inj, Int32.toInt_zero]; omega)) (fun _ => ?_)
      refine pm_iconst (v := 0) hG dX11_sheet_75 (by decide) ?_
      refine pm_goto (tgt := 80) hG dX11_sheet_76 rfl ?_
      refine pm_callV (As := [.int za, .int zb, .int 0]) (rest := []) hG hR dX11_sheet_80 (lkX11_364 _ rfl) okV_X8_layOut rfl rfl (fc_X8_layOut_47 (d := 2) (by decide)) rfl rfl hdd (by decide) (by decide) (by decide) (pm_kv (fun σ' cnt' hq => ?_))
      rcases hq with ⟨c7, rfl, rfl⟩ | ⟨c8, c9, rfl, rfl⟩ | ⟨c10, c11, rfl, rfl⟩
      · refine pm_iconst (v := 1) hG dX11_sheet_83 (by decide) ?_
        exact pm_iret hG hF dX11_sheet_84 rfl (by decide) (by decide) ⟨_, rfl, (by clear hF hR hG; first | rfl | (unfold v_sheet; (repeat' split) <;> first | rfl | (exfalso; simp only [Int32.lt_iff_toInt_lt, Int32.le_iff_toInt_le, ← Int32.toInt_inj, Int32.toInt_zero, L_1, L_16, L_24, L_3, L_32, L_4, L_8, L_m1000001, L_m1000003] at *; omega) | (apply Int32.toInt_inj.mp; simp only [Int32.lt_iff_toInt_lt, Int32.le_iff_toInt_le, ← Int32.toInt_inj, Int32.toInt_zero, L_1, L_16, L_24, L_3, L_32, L_4, L_8, L_m1000001, L_m1000003] at *; omega))), (by repeat (first | exact pm_lies_cat | refine pm_lies.up0 (by decide) ?_)), rfl⟩
      · refine pm_iconst (v := 1) hG dX11_sheet_83 (by decide) ?_
        exact pm_iret hG hF dX11_sheet_84 rfl (by decide) (by decide) ⟨_, rfl, (by clear hF hR hG; first | rfl | (unfold v_sheet; (repeat' split) <;> first | rfl | (exfalso; simp only [Int32.lt_iff_toInt_lt, Int32.le_iff_toInt_le, ← Int32.toInt_inj, Int32.toInt_zero, L_1, L_16, L_24, L_3, L_32, L_4, L_8, L_m1000001, L_m1000003] at *; omega) | (apply Int32.toInt_inj.mp; simp only [Int32.lt_iff_toInt_lt, Int32.le_iff_toInt_le, ← Int32.toInt_inj, Int32.toInt_zero, L_1, L_16, L_24, L_3, L_32, L_4, L_8, L_m1000001, L_m1000003] at *; omega))), (by repeat (first | exact pm_lies_cat | refine pm_lies.up0 (by decide) ?_)), rfl⟩
      · refine pm_iconst (v := 1) hG dX11_sheet_83 (by decide) ?_
        exact pm_iret hG hF dX11_sheet_84 rfl (by decide) (by decide) ⟨_, rfl, (by clear hF hR hG; first | rfl | (unfold v_sheet; (repeat' split) <;> first | rfl | (exfalso; simp only [Int32.lt_iff_toInt_lt, Int32.le_iff_toInt_le, ← Int32.toInt_inj, Int32.toInt_zero, L_1, L_16, L_24, L_3, L_32, L_4, L_8, L_m1000001, L_m1000003] at *; omega) | (apply Int32.toInt_inj.mp; simp only [Int32.lt_iff_toInt_lt, Int32.le_iff_toInt_le, ← Int32.toInt_inj, Int32.toInt_zero, L_1, L_16, L_24, L_3, L_32, L_4, L_8, L_m1000001, L_m1000003] at *; omega))), (by repeat (first | exact pm_lies_cat | refine pm_lies.up0 (by decide) ?_)), rfl⟩
    · refine pm_aloadn hG dX11_sheet_15 rfl ?_
      refine pm_getf hG dX11_sheet_16 (flX11_74 _ rfl) rfl rfl ?_
      refine pm_iloadn hG dX11_sheet_19 rfl ?_
      refine pm_callV (As := [.int zb]) (rest := []) hG hR dX11_sheet_20 (lkX11_252 _ rfl) okV_X8_isWidth rfl rfl (fc_X8_isWidth_32 (d := 2) (by decide)) rfl rfl hdd (by decide) (by decide) (by decide) (pm_ki (fun v σ' cnt' hq => ?_))
      rcases hq with ⟨c12, rfl, rfl, rfl⟩ | ⟨c13, c14, rfl, rfl, rfl⟩ | ⟨c15, c16, c17, rfl, rfl, rfl⟩ | ⟨c18, c19, c20, rfl, rfl, rfl⟩
      · refine pm_if_ne (tgt := 33) hG dX11_sheet_23 rfl (fun _ => ?_) (fun q => absurd q (by decide))
        refine pm_iloadn hG dX11_sheet_33 rfl ?_
        refine pm_if_eq (tgt := 48) hG dX11_sheet_34 rfl (fun q => False.elim (by revert c6 c12 q; simp only [Int32.lt_iff_toInt_lt, Int32.le_iff_toInt_le, ← Int32.toInt_inj, Int32.toInt_zero, L_8]; omega)) (fun _ => ?_)
        refine pm_iloadn hG dX11_sheet_37 rfl ?_
        refine pm_if_ge (tgt := 48) hG dX11_sheet_38 rfl (fun c21 => ?_) (fun c21 => ?_)
        · refine pm_iloadn hG dX11_sheet_48 rfl ?_
          refine pm_if_eq (tgt := 65) hG dX11_sheet_49 rfl (fun q => False.elim (by revert c6 c12 q; simp only [Int32.lt_iff_toInt_lt, Int32.le_iff_toInt_le, ← Int32.toInt_inj, Int32.toInt_zero, L_8]; omega)) (fun _ => ?_)
          refine pm_iloadn hG dX11_sheet_52 rfl ?_
          refine pm_bipush (v := 24) hG dX11_sheet_53 (by decide) ?_
          refine pm_icmp_le (tgt := 65) hG dX11_sheet_55 rfl (fun c22 => ?_) (fun c22 => ?_)
          · refine pm_aloadn hG dX11_sheet_65 rfl ?_
            refine pm_getf hG dX11_sheet_66 (flX11_74 _ rfl) rfl rfl ?_
            refine pm_iloadn hG dX11_sheet_69 rfl ?_
            refine pm_iloadn hG dX11_sheet_70 rfl ?_
            refine pm_iloadn hG dX11_sheet_71 rfl ?_
            refine pm_if_ne (tgt := 79) hG dX11_sheet_72 rfl (fun _ => ?_) (fun q => False.elim (by revert c6 c12 q; simp only [Int32.lt_iff_toInt_lt, Int32.le_iff_toInt_le, ← Int32.toInt_inj, Int32.toInt_zero, L_8]; omega))
            refine pm_iloadn hG dX11_sheet_79 rfl ?_
            refine pm_callV (As := [.int za, .int zb, .int zc]) (rest := []) hG hR dX11_sheet_80 (lkX11_364 _ rfl) okV_X8_layOut rfl rfl (fc_X8_layOut_48 (d := 2) (by decide)) rfl rfl hdd (by decide) (by decide) (by decide) (pm_kv (fun σ' cnt' hq => ?_))
            rcases hq with ⟨c23, rfl, rfl⟩ | ⟨c24, c25, rfl, rfl⟩ | ⟨c26, c27, rfl, rfl⟩
            · refine pm_iconst (v := 1) hG dX11_sheet_83 (by decide) ?_
              exact pm_iret hG hF dX11_sheet_84 rfl (by decide) (by decide) ⟨_, rfl, (by clear hF hR hG; first | rfl | (unfold v_sheet; (repeat' split) <;> first | rfl | (exfalso; simp only [Int32.lt_iff_toInt_lt, Int32.le_iff_toInt_le, ← Int32.toInt_inj, Int32.toInt_zero, L_1, L_16, L_24, L_3, L_32, L_4, L_8, L_m1000001, L_m1000003] at *; omega) | (apply Int32.toInt_inj.mp; simp only [Int32.lt_iff_toInt_lt, Int32.le_iff_toInt_le, ← Int32.toInt_inj, Int32.toInt_zero, L_1, L_16, L_24, L_3, L_32, L_4, L_8, L_m1000001, L_m1000003] at *; omega))), (by repeat (first | exact pm_lies_cat | refine pm_lies.up0 (by decide) ?_)), rfl⟩
            · refine pm_iconst (v := 1) hG dX11_sheet_83 (by decide) ?_
              exact pm_iret hG hF dX11_sheet_84 rfl (by decide) (by decide) ⟨_, rfl, (by clear hF hR hG; first | rfl | (unfold v_sheet; (repeat' split) <;> first | rfl | (exfalso; simp only [Int32.lt_iff_toInt_lt, Int32.le_iff_toInt_le, ← Int32.toInt_inj, Int32.toInt_zero, L_1, L_16, L_24, L_3, L_32, L_4, L_8, L_m1000001, L_m1000003] at *; omega) | (apply Int32.toInt_inj.mp; simp only [Int32.lt_iff_toInt_lt, Int32.le_iff_toInt_le, ← Int32.toInt_inj, Int32.toInt_zero, L_1, L_16, L_24, L_3, L_32, L_4, L_8, L_m1000001, L_m1000003] at *; omega))), (by repeat (first | exact pm_lies_cat | refine pm_lies.up0 (by decide) ?_)), rfl⟩
            · refine pm_iconst (v := 1) hG dX11_sheet_83 (by decide) ?_
              exact pm_iret hG hF dX11_sheet_84 rfl (by decide) (by decide) ⟨_, rfl, (by clear hF hR hG; first | rfl | (unfold v_sheet; (repeat' split) <;> first | rfl | (exfalso; simp only [Int32.lt_iff_toInt_lt, Int32.le_iff_toInt_le, ← Int32.toInt_inj, Int32.toInt_zero, L_1, L_16, L_24, L_3, L_32, L_4, L_8, L_m1000001, L_m1000003] at *; omega) | (apply Int32.toInt_inj.mp; simp only [Int32.lt_iff_toInt_lt, Int32.le_iff_toInt_le, ← Int32.toInt_inj, Int32.toInt_zero, L_1, L_16, L_24, L_3, L_32, L_4, L_8, L_m1000001, L_m1000003] at *; omega))), (by repeat (first | exact pm_lies_cat | refine pm_lies.up0 (by decide) ?_)), rfl⟩
          · refine pm_aloadn hG dX11_sheet_58 rfl ?_
            refine pm_ldc hG dX11_sheet_59 (ctX11_109 _ rfl) ?_
            refine pm_callV (As := [.int (-1000001)]) (rest := []) hG hR dX11_sheet_61 (lkX11_97 _ rfl) okV_X11_told rfl rfl (sx_told (d := 2) (by decide) rfl rfl) rfl rfl hdd (by decide) (by decide) (by decide) (pm_ki (fun v σ' cnt' hq => ?_))
            obtain ⟨rfl, ⟨g, rfl⟩, rfl⟩ := hq
            exact pm_iret hG hF dX11_sheet_64 rfl (by decide) (by decide) ⟨_, rfl, (by clear hF hR hG; first | rfl | (unfold v_sheet; (repeat' split) <;> first | rfl | (exfalso; simp only [Int32.lt_iff_toInt_lt, Int32.le_iff_toInt_le, ← Int32.toInt_inj, Int32.toInt_zero, L_1, L_16, L_24, L_3, L_32, L_4, L_8, L_m1000001, L_m1000003] at *; omega) | (apply Int32.toInt_inj.mp; simp only [Int32.lt_iff_toInt_lt, Int32.le_iff_toInt_le, ← Int32.toInt_inj, Int32.toInt_zero, L_1, L_16, L_24, L_3, L_32, L_4, L_8, L_m1000001, L_m1000003] at *; omega))), (by repeat (first | exact pm_lies_cat | refine pm_lies.up0 (by decide) ?_)), rfl⟩
        · refine pm_aloadn hG dX11_sheet_41 rfl ?_
          refine pm_ldc hG dX11_sheet_42 (ctX11_138 _ rfl) ?_
          refine pm_callV (As := [.int (-1000003)]) (rest := []) hG hR dX11_sheet_44 (lkX11_97 _ rfl) okV_X11_told rfl rfl (sx_told (d := 2) (by decide) rfl rfl) rfl rfl hdd (by decide) (by decide) (by decide) (pm_ki (fun v σ' cnt' hq => ?_))
          obtain ⟨rfl, ⟨g, rfl⟩, rfl⟩ := hq
          exact pm_iret hG hF dX11_sheet_47 rfl (by decide) (by decide) ⟨_, rfl, (by clear hF hR hG; first | rfl | (unfold v_sheet; (repeat' split) <;> first | rfl | (exfalso; simp only [Int32.lt_iff_toInt_lt, Int32.le_iff_toInt_le, ← Int32.toInt_inj, Int32.toInt_zero, L_1, L_16, L_24, L_3, L_32, L_4, L_8, L_m1000001, L_m1000003] at *; omega) | (apply Int32.toInt_inj.mp; simp only [Int32.lt_iff_toInt_lt, Int32.le_iff_toInt_le, ← Int32.toInt_inj, Int32.toInt_zero, L_1, L_16, L_24, L_3, L_32, L_4, L_8, L_m1000001, L_m1000003] at *; omega))), (by repeat (first | exact pm_lies_cat | refine pm_lies.up0 (by decide) ?_)), rfl⟩
      · refine pm_if_ne (tgt := 33) hG dX11_sheet_23 rfl (fun _ => ?_) (fun q => absurd q (by decide))
        refine pm_iloadn hG dX11_sheet_33 rfl ?_
        refine pm_if_eq (tgt := 48) hG dX11_sheet_34 rfl (fun q => False.elim (by revert c6 c13 c14 q; simp only [Int32.lt_iff_toInt_lt, Int32.le_iff_toInt_le, ← Int32.toInt_inj, Int32.toInt_zero, L_16, L_8]; omega)) (fun _ => ?_)
        refine pm_iloadn hG dX11_sheet_37 rfl ?_
        refine pm_if_ge (tgt := 48) hG dX11_sheet_38 rfl (fun c28 => ?_) (fun c28 => ?_)
        · refine pm_iloadn hG dX11_sheet_48 rfl ?_
          refine pm_if_eq (tgt := 65) hG dX11_sheet_49 rfl (fun q => False.elim (by revert c6 c13 c14 q; simp only [Int32.lt_iff_toInt_lt, Int32.le_iff_toInt_le, ← Int32.toInt_inj, Int32.toInt_zero, L_16, L_8]; omega)) (fun _ => ?_)
          refine pm_iloadn hG dX11_sheet_52 rfl ?_
          refine pm_bipush (v := 24) hG dX11_sheet_53 (by decide) ?_
          refine pm_icmp_le (tgt := 65) hG dX11_sheet_55 rfl (fun c29 => ?_) (fun c29 => ?_)
          · refine pm_aloadn hG dX11_sheet_65 rfl ?_
            refine pm_getf hG dX11_sheet_66 (flX11_74 _ rfl) rfl rfl ?_
            refine pm_iloadn hG dX11_sheet_69 rfl ?_
            refine pm_iloadn hG dX11_sheet_70 rfl ?_
            refine pm_iloadn hG dX11_sheet_71 rfl ?_
            refine pm_if_ne (tgt := 79) hG dX11_sheet_72 rfl (fun _ => ?_) (fun q => False.elim (by revert c6 c13 c14 q; simp only [Int32.lt_iff_toInt_lt, Int32.le_iff_toInt_le, ← Int32.toInt_inj, Int32.toInt_zero, L_16, L_8]; omega))
            refine pm_iloadn hG dX11_sheet_79 rfl ?_
            refine pm_callV (As := [.int za, .int zb, .int zc]) (rest := []) hG hR dX11_sheet_80 (lkX11_364 _ rfl) okV_X8_layOut rfl rfl (fc_X8_layOut_48 (d := 2) (by decide)) rfl rfl hdd (by decide) (by decide) (by decide) (pm_kv (fun σ' cnt' hq => ?_))
            rcases hq with ⟨c30, rfl, rfl⟩ | ⟨c31, c32, rfl, rfl⟩ | ⟨c33, c34, rfl, rfl⟩
            · refine pm_iconst (v := 1) hG dX11_sheet_83 (by decide) ?_
              exact pm_iret hG hF dX11_sheet_84 rfl (by decide) (by decide) ⟨_, rfl, (by clear hF hR hG; first | rfl | (unfold v_sheet; (repeat' split) <;> first | rfl | (exfalso; simp only [Int32.lt_iff_toInt_lt, Int32.le_iff_toInt_le, ← Int32.toInt_inj, Int32.toInt_zero, L_1, L_16, L_24, L_3, L_32, L_4, L_8, L_m1000001, L_m1000003] at *; omega) | (apply Int32.toInt_inj.mp; simp only [Int32.lt_iff_toInt_lt, Int32.le_iff_toInt_le, ← Int32.toInt_inj, Int32.toInt_zero, L_1, L_16, L_24, L_3, L_32, L_4, L_8, L_m1000001, L_m1000003] at *; omega))), (by repeat (first | exact pm_lies_cat | refine pm_lies.up0 (by decide) ?_)), rfl⟩
            · refine pm_iconst (v := 1) hG dX11_sheet_83 (by decide) ?_
              exact pm_iret hG hF dX11_sheet_84 rfl (by decide) (by decide) ⟨_, rfl, (by clear hF hR hG; first | rfl | (unfold v_sheet; (repeat' split) <;> first | rfl | (exfalso; simp only [Int32.lt_iff_toInt_lt, Int32.le_iff_toInt_le, ← Int32.toInt_inj, Int32.toInt_zero, L_1, L_16, L_24, L_3, L_32, L_4, L_8, L_m1000001, L_m1000003] at *; omega) | (apply Int32.toInt_inj.mp; simp only [Int32.lt_iff_toInt_lt, Int32.le_iff_toInt_le, ← Int32.toInt_inj, Int32.toInt_zero, L_1, L_16, L_24, L_3, L_32, L_4, L_8, L_m1000001, L_m1000003] at *; omega))), (by repeat (first | exact pm_lies_cat | refine pm_lies.up0 (by decide) ?_)), rfl⟩
            · refine pm_iconst (v := 1) hG dX11_sheet_83 (by decide) ?_
              exact pm_iret hG hF dX11_sheet_84 rfl (by decide) (by decide) ⟨_, rfl, (by clear hF hR hG; first | rfl | (unfold v_sheet; (repeat' split) <;> first | rfl | (exfalso; simp only [Int32.lt_iff_toInt_lt, Int32.le_iff_toInt_le, ← Int32.toInt_inj, Int32.toInt_zero, L_1, L_16, L_24, L_3, L_32, L_4, L_8, L_m1000001, L_m1000003] at *; omega) | (apply Int32.toInt_inj.mp; simp only [Int32.lt_iff_toInt_lt, Int32.le_iff_toInt_le, ← Int32.toInt_inj, Int32.toInt_zero, L_1, L_16, L_24, L_3, L_32, L_4, L_8, L_m1000001, L_m1000003] at *; omega))), (by repeat (first | exact pm_lies_cat | refine pm_lies.up0 (by decide) ?_)), rfl⟩
          · refine pm_aloadn hG dX11_sheet_58 rfl ?_
            refine pm_ldc hG dX11_sheet_59 (ctX11_109 _ rfl) ?_
            refine pm_callV (As := [.int (-1000001)]) (rest := []) hG hR dX11_sheet_61 (lkX11_97 _ rfl) okV_X11_told rfl rfl (sx_told (d := 2) (by decide) rfl rfl) rfl rfl hdd (by decide) (by decide) (by decide) (pm_ki (fun v σ' cnt' hq => ?_))
            obtain ⟨rfl, ⟨g, rfl⟩, rfl⟩ := hq
            exact pm_iret hG hF dX11_sheet_64 rfl (by decide) (by decide) ⟨_, rfl, (by clear hF hR hG; first | rfl | (unfold v_sheet; (repeat' split) <;> first | rfl | (exfalso; simp only [Int32.lt_iff_toInt_lt, Int32.le_iff_toInt_le, ← Int32.toInt_inj, Int32.toInt_zero, L_1, L_16, L_24, L_3, L_32, L_4, L_8, L_m1000001, L_m1000003] at *; omega) | (apply Int32.toInt_inj.mp; simp only [Int32.lt_iff_toInt_lt, Int32.le_iff_toInt_le, ← Int32.toInt_inj, Int32.toInt_zero, L_1, L_16, L_24, L_3, L_32, L_4, L_8, L_m1000001, L_m1000003] at *; omega))), (by repeat (first | exact pm_lies_cat | refine pm_lies.up0 (by decide) ?_)), rfl⟩
        · refine pm_aloadn hG dX11_sheet_41 rfl ?_
          refine pm_ldc hG dX11_sheet_42 (ctX11_138 _ rfl) ?_
          refine pm_callV (As := [.int (-1000003)]) (rest := []) hG hR dX11_sheet_44 (lkX11_97 _ rfl) okV_X11_told rfl rfl (sx_told (d := 2) (by decide) rfl rfl) rfl rfl hdd (by decide) (by decide) (by decide) (pm_ki (fun v σ' cnt' hq => ?_))
          obtain ⟨rfl, ⟨g, rfl⟩, rfl⟩ := hq
          exact pm_iret hG hF dX11_sheet_47 rfl (by decide) (by decide) ⟨_, rfl, (by clear hF hR hG; first | rfl | (unfold v_sheet; (repeat' split) <;> first | rfl | (exfalso; simp only [Int32.lt_iff_toInt_lt, Int32.le_iff_toInt_le, ← Int32.toInt_inj, Int32.toInt_zero, L_1, L_16, L_24, L_3, L_32, L_4, L_8, L_m1000001, L_m1000003] at *; omega) | (apply Int32.toInt_inj.mp; simp only [Int32.lt_iff_toInt_lt, Int32.le_iff_toInt_le, ← Int32.toInt_inj, Int32.toInt_zero, L_1, L_16, L_24, L_3, L_32, L_4, L_8, L_m1000001, L_m1000003] at *; omega))), (by repeat (first | exact pm_lies_cat | refine pm_lies.up0 (by decide) ?_)), rfl⟩
      · refine pm_if_ne (tgt := 33) hG dX11_sheet_23 rfl (fun q => absurd q (by decide)) (fun _ => ?_)
        refine pm_aloadn hG dX11_sheet_26 rfl ?_
        refine pm_ldc hG dX11_sheet_27 (ctX11_109 _ rfl) ?_
        refine pm_callV (As := [.int (-1000001)]) (rest := []) hG hR dX11_sheet_29 (lkX11_97 _ rfl) okV_X11_told rfl rfl (sx_told (d := 2) (by decide) rfl rfl) rfl rfl hdd (by decide) (by decide) (by decide) (pm_ki (fun v σ' cnt' hq => ?_))
        obtain ⟨rfl, ⟨g, rfl⟩, rfl⟩ := hq
        exact pm_iret hG hF dX11_sheet_32 rfl (by decide) (by decide) ⟨_, rfl, (by clear hF hR hG; first | rfl | (unfold v_sheet; (repeat' split) <;> first | rfl | (exfalso; simp only [Int32.lt_iff_toInt_lt, Int32.le_iff_toInt_le, ← Int32.toInt_inj, Int32.toInt_zero, L_1, L_16, L_24, L_3, L_32, L_4, L_8, L_m1000001, L_m1000003] at *; omega) | (apply Int32.toInt_inj.mp; simp only [Int32.lt_iff_toInt_lt, Int32.le_iff_toInt_le, ← Int32.toInt_inj, Int32.toInt_zero, L_1, L_16, L_24, L_3, L_32, L_4, L_8, L_m1000001, L_m1000003] at *; omega))), (by repeat (first | exact pm_lies_cat | refine pm_lies.up0 (by decide) ?_)), rfl⟩
      · refine pm_if_ne (tgt := 33) hG dX11_sheet_23 rfl (fun _ => ?_) (fun q => absurd q (by decide))
        refine pm_iloadn hG dX11_sheet_33 rfl ?_
        refine pm_if_eq (tgt := 48) hG dX11_sheet_34 rfl (fun q => False.elim (by revert c6 c18 c19 c20 q; simp only [Int32.lt_iff_toInt_lt, Int32.le_iff_toInt_le, ← Int32.toInt_inj, Int32.toInt_zero, L_16, L_32, L_8]; omega)) (fun _ => ?_)
        refine pm_iloadn hG dX11_sheet_37 rfl ?_
        refine pm_if_ge (tgt := 48) hG dX11_sheet_38 rfl (fun c35 => ?_) (fun c35 => ?_)
        · refine pm_iloadn hG dX11_sheet_48 rfl ?_
          refine pm_if_eq (tgt := 65) hG dX11_sheet_49 rfl (fun q => False.elim (by revert c6 c18 c19 c20 q; simp only [Int32.lt_iff_toInt_lt, Int32.le_iff_toInt_le, ← Int32.toInt_inj, Int32.toInt_zero, L_16, L_32, L_8]; omega)) (fun _ => ?_)
          refine pm_iloadn hG dX11_sheet_52 rfl ?_
          refine pm_bipush (v := 24) hG dX11_sheet_53 (by decide) ?_
          refine pm_icmp_le (tgt := 65) hG dX11_sheet_55 rfl (fun c36 => ?_) (fun c36 => ?_)
          · refine pm_aloadn hG dX11_sheet_65 rfl ?_
            refine pm_getf hG dX11_sheet_66 (flX11_74 _ rfl) rfl rfl ?_
            refine pm_iloadn hG dX11_sheet_69 rfl ?_
            refine pm_iloadn hG dX11_sheet_70 rfl ?_
            refine pm_iloadn hG dX11_sheet_71 rfl ?_
            refine pm_if_ne (tgt := 79) hG dX11_sheet_72 rfl (fun _ => ?_) (fun q => False.elim (by revert c6 c18 c19 c20 q; simp only [Int32.lt_iff_toInt_lt, Int32.le_iff_toInt_le, ← Int32.toInt_inj, Int32.toInt_zero, L_16, L_32, L_8]; omega))
            refine pm_iloadn hG dX11_sheet_79 rfl ?_
            refine pm_callV (As := [.int za, .int zb, .int zc]) (rest := []) hG hR dX11_sheet_80 (lkX11_364 _ rfl) okV_X8_layOut rfl rfl (fc_X8_layOut_48 (d := 2) (by decide)) rfl rfl hdd (by decide) (by decide) (by decide) (pm_kv (fun σ' cnt' hq => ?_))
            rcases hq with ⟨c37, rfl, rfl⟩ | ⟨c38, c39, rfl, rfl⟩ | ⟨c40, c41, rfl, rfl⟩
            · refine pm_iconst (v := 1) hG dX11_sheet_83 (by decide) ?_
              exact pm_iret hG hF dX11_sheet_84 rfl (by decide) (by decide) ⟨_, rfl, (by clear hF hR hG; first | rfl | (unfold v_sheet; (repeat' split) <;> first | rfl | (exfalso; simp only [Int32.lt_iff_toInt_lt, Int32.le_iff_toInt_le, ← Int32.toInt_inj, Int32.toInt_zero, L_1, L_16, L_24, L_3, L_32, L_4, L_8, L_m1000001, L_m1000003] at *; omega) | (apply Int32.toInt_inj.mp; simp only [Int32.lt_iff_toInt_lt, Int32.le_iff_toInt_le, ← Int32.toInt_inj, Int32.toInt_zero, L_1, L_16, L_24, L_3, L_32, L_4, L_8, L_m1000001, L_m1000003] at *; omega))), (by repeat (first | exact pm_lies_cat | refine pm_lies.up0 (by decide) ?_)), rfl⟩
            · refine pm_iconst (v := 1) hG dX11_sheet_83 (by decide) ?_
              exact pm_iret hG hF dX11_sheet_84 rfl (by decide) (by decide) ⟨_, rfl, (by clear hF hR hG; first | rfl | (unfold v_sheet; (repeat' split) <;> first | rfl | (exfalso; simp only [Int32.lt_iff_toInt_lt, Int32.le_iff_toInt_le, ← Int32.toInt_inj, Int32.toInt_zero, L_1, L_16, L_24, L_3, L_32, L_4, L_8, L_m1000001, L_m1000003] at *; omega) | (apply Int32.toInt_inj.mp; simp only [Int32.lt_iff_toInt_lt, Int32.le_iff_toInt_le, ← Int32.toInt_inj, Int32.toInt_zero, L_1, L_16, L_24, L_3, L_32, L_4, L_8, L_m1000001, L_m1000003] at *; omega))), (by repeat (first | exact pm_lies_cat | refine pm_lies.up0 (by decide) ?_)), rfl⟩
            · refine pm_iconst (v := 1) hG dX11_sheet_83 (by decide) ?_
              exact pm_iret hG hF dX11_sheet_84 rfl (by decide) (by decide) ⟨_, rfl, (by clear hF hR hG; first | rfl | (unfold v_sheet; (repeat' split) <;> first | rfl | (exfalso; simp only [Int32.lt_iff_toInt_lt, Int32.le_iff_toInt_le, ← Int32.toInt_inj, Int32.toInt_zero, L_1, L_16, L_24, L_3, L_32, L_4, L_8, L_m1000001, L_m1000003] at *; omega) | (apply Int32.toInt_inj.mp; simp only [Int32.lt_iff_toInt_lt, Int32.le_iff_toInt_le, ← Int32.toInt_inj, Int32.toInt_zero, L_1, L_16, L_24, L_3, L_32, L_4, L_8, L_m1000001, L_m1000003] at *; omega))), (by repeat (first | exact pm_lies_cat | refine pm_lies.up0 (by decide) ?_)), rfl⟩
          · refine pm_aloadn hG dX11_sheet_58 rfl ?_
            refine pm_ldc hG dX11_sheet_59 (ctX11_109 _ rfl) ?_
            refine pm_callV (As := [.int (-1000001)]) (rest := []) hG hR dX11_sheet_61 (lkX11_97 _ rfl) okV_X11_told rfl rfl (sx_told (d := 2) (by decide) rfl rfl) rfl rfl hdd (by decide) (by decide) (by decide) (pm_ki (fun v σ' cnt' hq => ?_))
            obtain ⟨rfl, ⟨g, rfl⟩, rfl⟩ := hq
            exact pm_iret hG hF dX11_sheet_64 rfl (by decide) (by decide) ⟨_, rfl, (by clear hF hR hG; first | rfl | (unfold v_sheet; (repeat' split) <;> first | rfl | (exfalso; simp only [Int32.lt_iff_toInt_lt, Int32.le_iff_toInt_le, ← Int32.toInt_inj, Int32.toInt_zero, L_1, L_16, L_24, L_3, L_32, L_4, L_8, L_m1000001, L_m1000003] at *; omega) | (apply Int32.toInt_inj.mp; simp only [Int32.lt_iff_toInt_lt, Int32.le_iff_toInt_le, ← Int32.toInt_inj, Int32.toInt_zero, L_1, L_16, L_24, L_3, L_32, L_4, L_8, L_m1000001, L_m1000003] at *; omega))), (by repeat (first | exact pm_lies_cat | refine pm_lies.up0 (by decide) ?_)), rfl⟩
        · refine pm_aloadn hG dX11_sheet_41 rfl ?_
          refine pm_ldc hG dX11_sheet_42 (ctX11_138 _ rfl) ?_
          refine pm_callV (As := [.int (-1000003)]) (rest := []) hG hR dX11_sheet_44 (lkX11_97 _ rfl) okV_X11_told rfl rfl (sx_told (d := 2) (by decide) rfl rfl) rfl rfl hdd (by decide) (by decide) (by decide) (pm_ki (fun v σ' cnt' hq => ?_))
          obtain ⟨rfl, ⟨g, rfl⟩, rfl⟩ := hq
          exact pm_iret hG hF dX11_sheet_47 rfl (by decide) (by decide) ⟨_, rfl, (by clear hF hR hG; first | rfl | (unfold v_sheet; (repeat' split) <;> first | rfl | (exfalso; simp only [Int32.lt_iff_toInt_lt, Int32.le_iff_toInt_le, ← Int32.toInt_inj, Int32.toInt_zero, L_1, L_16, L_24, L_3, L_32, L_4, L_8, L_m1000001, L_m1000003] at *; omega) | (apply Int32.toInt_inj.mp; simp only [Int32.lt_iff_toInt_lt, Int32.le_iff_toInt_le, ← Int32.toInt_inj, Int32.toInt_zero, L_1, L_16, L_24, L_3, L_32, L_4, L_8, L_m1000001, L_m1000003] at *; omega))), (by repeat (first | exact pm_lies_cat | refine pm_lies.up0 (by decide) ?_)), rfl⟩

set_option maxRecDepth 100000 in
set_option maxHeartbeats 8000000 in
theorem oc_put {B : Nat} {fw : Nat → Int32} {R : List pm_C} {za zb zc : Int32} {d : Nat} (hdd : 3 ≤ d) : pm_met mX11_put d 0 0 B [.ref (B + 0), .int za, .int zb, .int zc] 74 (pm_cat (pm_ofL (l_k_class B fw)) 54 R) (pm_Qi (fun v σ' cnt' => v = v_put za zb zc ∧ pm_lies σ' 54 R ∧ cnt' = 74)) := by
  refine pm_enter 0 (by decide) (Nat.le_of_ble_eq_true rfl) rfl (fun G hG hR hF => ?_)
  refine pm_aloadn hG dX11_put_0 rfl ?_
  refine pm_getf hG dX11_put_1 (flX11_74 _ rfl) rfl rfl ?_
  refine pm_iloadn hG dX11_put_4 rfl ?_
  refine pm_callV (As := [.int za]) (rest := []) hG hR dX11_put_5 (lkX11_251 _ rfl) okV_X8_has rfl rfl (fc_X8_has_31 (d := 2) (by decide)) rfl rfl hdd (by decide) (by decide) (by decide) (pm_ki (fun v σ' cnt' hq => ?_))
  rcases hq with ⟨c1, rfl, rfl, rfl⟩ | ⟨c2, c3, rfl, rfl, rfl⟩ | ⟨c4, c5, rfl, rfl, rfl⟩
  · refine pm_if_ne (tgt := 18) hG dX11_put_8 rfl (fun q => absurd q (by decide)) (fun _ => ?_)
    refine pm_aloadn hG dX11_put_11 rfl ?_
    refine pm_ldc hG dX11_put_12 (ctX11_109 _ rfl) ?_
    refine pm_callV (As := [.int (-1000001)]) (rest := []) hG hR dX11_put_14 (lkX11_97 _ rfl) okV_X11_told rfl rfl (sx_told (d := 2) (by decide) rfl rfl) rfl rfl hdd (by decide) (by decide) (by decide) (pm_ki (fun v σ' cnt' hq => ?_))
    obtain ⟨rfl, ⟨g, rfl⟩, rfl⟩ := hq
    exact pm_iret hG hF dX11_put_17 rfl (by decide) (by decide) ⟨_, rfl, (by clear hF hR hG; first | rfl | (unfold v_put; (repeat' split) <;> first | rfl | (exfalso; simp only [Int32.lt_iff_toInt_lt, Int32.le_iff_toInt_le, ← Int32.toInt_inj, Int32.toInt_zero, L_3, L_m1000001, L_m1000002] at *; omega) | (apply Int32.toInt_inj.mp; simp only [Int32.lt_iff_toInt_lt, Int32.le_iff_toInt_le, ← Int32.toInt_inj, Int32.toInt_zero, L_3, L_m1000001, L_m1000002] at *; omega))), (by repeat (first | exact pm_lies_cat | refine pm_lies.up0 (by decide) ?_)), rfl⟩
  · refine pm_if_ne (tgt := 18) hG dX11_put_8 rfl (fun q => absurd q (by decide)) (fun _ => ?_)
    refine pm_aloadn hG dX11_put_11 rfl ?_
    refine pm_ldc hG dX11_put_12 (ctX11_109 _ rfl) ?_
    refine pm_callV (As := [.int (-1000001)]) (rest := []) hG hR dX11_put_14 (lkX11_97 _ rfl) okV_X11_told rfl rfl (sx_told (d := 2) (by decide) rfl rfl) rfl rfl hdd (by decide) (by decide) (by decide) (pm_ki (fun v σ' cnt' hq => ?_))
    obtain ⟨rfl, ⟨g, rfl⟩, rfl⟩ := hq
    exact pm_iret hG hF dX11_put_17 rfl (by decide) (by decide) ⟨_, rfl, (by clear hF hR hG; first | rfl | (unfold v_put; (repeat' split) <;> first | rfl | (exfalso; simp only [Int32.lt_iff_toInt_lt, Int32.le_iff_toInt_le, ← Int32.toInt_inj, Int32.toInt_zero, L_3, L_4, L_m1000001, L_m1000002] at *; omega) | (apply Int32.toInt_inj.mp; simp only [Int32.lt_iff_toInt_lt, Int32.le_iff_toInt_le, ← Int32.toInt_inj, Int32.toInt_zero, L_3, L_4, L_m1000001, L_m1000002] at *; omega))), (by repeat (first | exact pm_lies_cat | refine pm_lies.up0 (by decide) ?_)), rfl⟩
  · refine pm_if_ne (tgt := 18) hG dX11_put_8 rfl (fun _ => ?_) (fun q => absurd q (by decide))
    refine pm_aloadn hG dX11_put_18 rfl ?_
    refine pm_getf hG dX11_put_19 (flX11_74 _ rfl) rfl rfl ?_
    refine pm_iloadn hG dX11_put_22 rfl ?_
    refine pm_callV (As := [.int za]) (rest := []) hG hR dX11_put_23 (lkX11_255 _ rfl) okV_X8_isMissing rfl rfl (fc_X8_isMissing_33 (d := 2) (by decide)) rfl rfl hdd (by decide) (by decide) (by decide) (pm_ki (fun v σ' cnt' hq => ?_))
    rcases hq with ⟨c6, rfl, rfl, rfl⟩ | ⟨c7, c8, rfl, rfl, rfl⟩ | ⟨c9, c10, rfl, rfl, rfl⟩
    · refine pm_if_eq (tgt := 36) hG dX11_put_26 rfl (fun q => absurd q (by decide)) (fun _ => ?_)
      refine pm_aloadn hG dX11_put_29 rfl ?_
      refine pm_ldc hG dX11_put_30 (ctX11_223 _ rfl) ?_
      refine pm_callV (As := [.int (-1000002)]) (rest := []) hG hR dX11_put_32 (lkX11_97 _ rfl) okV_X11_told rfl rfl (sx_told (d := 2) (by decide) rfl rfl) rfl rfl hdd (by decide) (by decide) (by decide) (pm_ki (fun v σ' cnt' hq => ?_))
      obtain ⟨rfl, ⟨g, rfl⟩, rfl⟩ := hq
      exact pm_iret hG hF dX11_put_35 rfl (by decide) (by decide) ⟨_, rfl, (by clear hF hR hG; first | rfl | (unfold v_put; (repeat' split) <;> first | rfl | (exfalso; simp only [Int32.lt_iff_toInt_lt, Int32.le_iff_toInt_le, ← Int32.toInt_inj, Int32.toInt_zero, L_3, L_4, L_m1000001, L_m1000002] at *; omega) | (apply Int32.toInt_inj.mp; simp only [Int32.lt_iff_toInt_lt, Int32.le_iff_toInt_le, ← Int32.toInt_inj, Int32.toInt_zero, L_3, L_4, L_m1000001, L_m1000002] at *; omega))), (by repeat (first | exact pm_lies_cat | refine pm_lies.up0 (by decide) ?_)), rfl⟩
    · refine pm_if_eq (tgt := 36) hG dX11_put_26 rfl (fun q => absurd q (by decide)) (fun _ => ?_)
      refine pm_aloadn hG dX11_put_29 rfl ?_
      refine pm_ldc hG dX11_put_30 (ctX11_223 _ rfl) ?_
      refine pm_callV (As := [.int (-1000002)]) (rest := []) hG hR dX11_put_32 (lkX11_97 _ rfl) okV_X11_told rfl rfl (sx_told (d := 2) (by decide) rfl rfl) rfl rfl hdd (by decide) (by decide) (by decide) (pm_ki (fun v σ' cnt' hq => ?_))
      obtain ⟨rfl, ⟨g, rfl⟩, rfl⟩ := hq
      exact pm_iret hG hF dX11_put_35 rfl (by decide) (by decide) ⟨_, rfl, (by clear hF hR hG; first | rfl | (unfold v_put; (repeat' split) <;> first | rfl | (exfalso; simp only [Int32.lt_iff_toInt_lt, Int32.le_iff_toInt_le, ← Int32.toInt_inj, Int32.toInt_zero, L_3, L_4, L_m1000001, L_m1000002] at *; omega) | (apply Int32.toInt_inj.mp; simp only [Int32.lt_iff_toInt_lt, Int32.le_iff_toInt_le, ← Int32.toInt_inj, Int32.toInt_zero, L_3, L_4, L_m1000001, L_m1000002] at *; omega))), (by repeat (first | exact pm_lies_cat | refine pm_lies.up0 (by decide) ?_)), rfl⟩
    · refine pm_if_eq (tgt := 36) hG dX11_put_26 rfl (fun q => absurd q (by decide)) (fun _ => ?_)
      refine pm_aloadn hG dX11_put_29 rfl ?_
      refine pm_ldc hG dX11_put_30 (ctX11_223 _ rfl) ?_
      refine pm_callV (As := [.int (-1000002)]) (rest := []) hG hR dX11_put_32 (lkX11_97 _ rfl) okV_X11_told rfl rfl (sx_told (d := 2) (by decide) rfl rfl) rfl rfl hdd (by decide) (by decide) (by decide) (pm_ki (fun v σ' cnt' hq => ?_))
      obtain ⟨rfl, ⟨g, rfl⟩, rfl⟩ := hq
      exact pm_iret hG hF dX11_put_35 rfl (by decide) (by decide) ⟨_, rfl, (by clear hF hR hG; first | rfl | (unfold v_put; (repeat' split) <;> first | rfl | (exfalso; simp only [Int32.lt_iff_toInt_lt, Int32.le_iff_toInt_le, ← Int32.toInt_inj, Int32.toInt_zero, L_3, L_4, L_m1000001, L_m1000002] at *; omega) | (apply Int32.toInt_inj.mp; simp only [Int32.lt_iff_toInt_lt, Int32.le_iff_toInt_le, ← Int32.toInt_inj, Int32.toInt_zero, L_3, L_4, L_m1000001, L_m1000002] at *; omega))), (by repeat (first | exact pm_lies_cat | refine pm_lies.up0 (by decide) ?_)), rfl⟩

set_option maxRecDepth 100000 in
set_option maxHeartbeats 4000000 in
theorem fc_X8_has_49 {B : Nat} {fw : Nat → Int32} {R : List pm_C} {zc : Int32} {d : Nat} (hdd : 1 ≤ d) : pm_met mX8_has d 0 0 B [.ref (B + 48), .int zc] 74 (pm_cat (pm_ofL (l_k_class B fw)) 54 R) (pm_Qi (fun v σ' cnt' => ((zc < 0) ∧ v = 0 ∧ σ' = (pm_cat (pm_ofL (l_k_class B fw)) 54 R) ∧ cnt' = 74) ∨ ((¬ (zc < 0)) ∧ (4 ≤ zc) ∧ v = 0 ∧ σ' = (pm_cat (pm_ofL (l_k_class B fw)) 54 R) ∧ cnt' = 74) ∨ ((¬ (zc < 0)) ∧ (¬ (4 ≤ zc)) ∧ v = 1 ∧ σ' = (pm_cat (pm_ofL (l_k_class B fw)) 54 R) ∧ cnt' = 74))) := by
  refine pm_enter 0 (by decide) (Nat.le_of_ble_eq_true rfl) rfl (fun G hG hR hF => ?_)
  refine pm_iloadn hG dX8_has_0 rfl ?_
  refine pm_if_lt (tgt := 13) hG dX8_has_1 rfl (fun c1 => ?_) (fun c1 => ?_)
  · refine pm_iconst (v := 0) hG dX8_has_13 (by decide) ?_
    exact pm_zret hG hF dX8_has_14 rfl (by rfl) (by decide) (by decide) ⟨_, rfl, (Or.inl ⟨c1, rfl, rfl, rfl⟩)⟩
  · refine pm_iloadn hG dX8_has_4 rfl ?_
    refine pm_iconst (v := 4) hG dX8_has_5 (by decide) ?_
    refine pm_icmp_ge (tgt := 13) hG dX8_has_6 rfl (fun c2 => ?_) (fun c2 => ?_)
    · refine pm_iconst (v := 0) hG dX8_has_13 (by decide) ?_
      exact pm_zret hG hF dX8_has_14 rfl (by rfl) (by decide) (by decide) ⟨_, rfl, (Or.inr (Or.inl ⟨c1, c2, rfl, rfl, rfl⟩))⟩
    · refine pm_iconst (v := 1) hG dX8_has_9 (by decide) ?_
      refine pm_goto (tgt := 14) hG dX8_has_10 rfl ?_
      exact pm_zret hG hF dX8_has_14 rfl (by rfl) (by decide) (by decide) ⟨_, rfl, (Or.inr (Or.inr ⟨c1, c2, rfl, rfl, rfl⟩))⟩

set_option maxRecDepth 100000 in
set_option maxHeartbeats 8000000 in
theorem oc_move {B : Nat} {fw : Nat → Int32} {R : List pm_C} {za zb zc zd ze : Int32} {d : Nat} (hdd : 3 ≤ d) : pm_met mX11_move d 0 0 B [.ref (B + 0), .int za, .int zb, .int zc, .int zd, .int ze] 74 (pm_cat (pm_ofL (l_k_class B fw)) 54 R) (pm_Qi (fun v σ' cnt' => v = v_move za zb zc zd ze ∧ pm_lies σ' 54 R ∧ cnt' = 74)) := by
  refine pm_enter 0 (by decide) (Nat.le_of_ble_eq_true rfl) rfl (fun G hG hR hF => ?_)
  refine pm_aloadn hG dX11_move_0 rfl ?_
  refine pm_getf hG dX11_move_1 (flX11_74 _ rfl) rfl rfl ?_
  refine pm_iloadn hG dX11_move_4 rfl ?_
  refine pm_callV (As := [.int za]) (rest := []) hG hR dX11_move_5 (lkX11_251 _ rfl) okV_X8_has rfl rfl (fc_X8_has_31 (d := 2) (by decide)) rfl rfl hdd (by decide) (by decide) (by decide) (pm_ki (fun v σ' cnt' hq => ?_))
  rcases hq with ⟨c1, rfl, rfl, rfl⟩ | ⟨c2, c3, rfl, rfl, rfl⟩ | ⟨c4, c5, rfl, rfl, rfl⟩
  · refine pm_if_eq (tgt := 22) hG dX11_move_8 rfl (fun _ => ?_) (fun q => absurd q (by decide))
    refine pm_aloadn hG dX11_move_22 rfl ?_
    refine pm_ldc hG dX11_move_23 (ctX11_109 _ rfl) ?_
    refine pm_callV (As := [.int (-1000001)]) (rest := []) hG hR dX11_move_25 (lkX11_97 _ rfl) okV_X11_told rfl rfl (sx_told (d := 2) (by decide) rfl rfl) rfl rfl hdd (by decide) (by decide) (by decide) (pm_ki (fun v σ' cnt' hq => ?_))
    obtain ⟨rfl, ⟨g, rfl⟩, rfl⟩ := hq
    exact pm_iret hG hF dX11_move_28 rfl (by decide) (by decide) ⟨_, rfl, (by clear hF hR hG; first | rfl | (unfold v_move; (repeat' split) <;> first | rfl | (exfalso; simp only [Int32.lt_iff_toInt_lt, Int32.le_iff_toInt_le, ← Int32.toInt_inj, Int32.toInt_zero, L_3, L_m1000001, L_m1000002] at *; omega) | (apply Int32.toInt_inj.mp; simp only [Int32.lt_iff_toInt_lt, Int32.le_iff_toInt_le, ← Int32.toInt_inj, Int32.toInt_zero, L_3, L_m1000001, L_m1000002] at *; omega))), (by repeat (first | exact pm_lies_cat | refine pm_lies.up0 (by decide) ?_)), rfl⟩
  · refine pm_if_eq (tgt := 22) hG dX11_move_8 rfl (fun _ => ?_) (fun q => absurd q (by decide))
    refine pm_aloadn hG dX11_move_22 rfl ?_
    refine pm_ldc hG dX11_move_23 (ctX11_109 _ rfl) ?_
    refine pm_callV (As := [.int (-1000001)]) (rest := []) hG hR dX11_move_25 (lkX11_97 _ rfl) okV_X11_told rfl rfl (sx_told (d := 2) (by decide) rfl rfl) rfl rfl hdd (by decide) (by decide) (by decide) (pm_ki (fun v σ' cnt' hq => ?_))
    obtain ⟨rfl, ⟨g, rfl⟩, rfl⟩ := hq
    exact pm_iret hG hF dX11_move_28 rfl (by decide) (by decide) ⟨_, rfl, (by clear hF hR hG; first | rfl | (unfold v_move; (repeat' split) <;> first | rfl | (exfalso; simp only [Int32.lt_iff_toInt_lt, Int32.le_iff_toInt_le, ← Int32.toInt_inj, Int32.toInt_zero, L_3, L_4, L_m1000001, L_m1000002] at *; omega) | (apply Int32.toInt_inj.mp; simp only [Int32.lt_iff_toInt_lt, Int32.le_iff_toInt_le, ← Int32.toInt_inj, Int32.toInt_zero, L_3, L_4, L_m1000001, L_m1000002] at *; omega))), (by repeat (first | exact pm_lies_cat | refine pm_lies.up0 (by decide) ?_)), rfl⟩
  · refine pm_if_eq (tgt := 22) hG dX11_move_8 rfl (fun q => absurd q (by decide)) (fun _ => ?_)
    refine pm_aloadn hG dX11_move_11 rfl ?_
    refine pm_getf hG dX11_move_12 (flX11_74 _ rfl) rfl rfl ?_
    refine pm_iloadn hG dX11_move_15 rfl ?_
    refine pm_callV (As := [.int zc]) (rest := []) hG hR dX11_move_16 (lkX11_251 _ rfl) okV_X8_has rfl rfl (fc_X8_has_49 (d := 2) (by decide)) rfl rfl hdd (by decide) (by decide) (by decide) (pm_ki (fun v σ' cnt' hq => ?_))
    rcases hq with ⟨c6, rfl, rfl, rfl⟩ | ⟨c7, c8, rfl, rfl, rfl⟩ | ⟨c9, c10, rfl, rfl, rfl⟩
    · refine pm_if_ne (tgt := 29) hG dX11_move_19 rfl (fun q => absurd q (by decide)) (fun _ => ?_)
      refine pm_aloadn hG dX11_move_22 rfl ?_
      refine pm_ldc hG dX11_move_23 (ctX11_109 _ rfl) ?_
      refine pm_callV (As := [.int (-1000001)]) (rest := []) hG hR dX11_move_25 (lkX11_97 _ rfl) okV_X11_told rfl rfl (sx_told (d := 2) (by decide) rfl rfl) rfl rfl hdd (by decide) (by decide) (by decide) (pm_ki (fun v σ' cnt' hq => ?_))
      obtain ⟨rfl, ⟨g, rfl⟩, rfl⟩ := hq
      exact pm_iret hG hF dX11_move_28 rfl (by decide) (by decide) ⟨_, rfl, (by clear hF hR hG; first | rfl | (unfold v_move; (repeat' split) <;> first | rfl | (exfalso; simp only [Int32.lt_iff_toInt_lt, Int32.le_iff_toInt_le, ← Int32.toInt_inj, Int32.toInt_zero, L_3, L_4, L_m1000001, L_m1000002] at *; omega) | (apply Int32.toInt_inj.mp; simp only [Int32.lt_iff_toInt_lt, Int32.le_iff_toInt_le, ← Int32.toInt_inj, Int32.toInt_zero, L_3, L_4, L_m1000001, L_m1000002] at *; omega))), (by repeat (first | exact pm_lies_cat | refine pm_lies.up0 (by decide) ?_)), rfl⟩
    · refine pm_if_ne (tgt := 29) hG dX11_move_19 rfl (fun q => absurd q (by decide)) (fun _ => ?_)
      refine pm_aloadn hG dX11_move_22 rfl ?_
      refine pm_ldc hG dX11_move_23 (ctX11_109 _ rfl) ?_
      refine pm_callV (As := [.int (-1000001)]) (rest := []) hG hR dX11_move_25 (lkX11_97 _ rfl) okV_X11_told rfl rfl (sx_told (d := 2) (by decide) rfl rfl) rfl rfl hdd (by decide) (by decide) (by decide) (pm_ki (fun v σ' cnt' hq => ?_))
      obtain ⟨rfl, ⟨g, rfl⟩, rfl⟩ := hq
      exact pm_iret hG hF dX11_move_28 rfl (by decide) (by decide) ⟨_, rfl, (by clear hF hR hG; first | rfl | (unfold v_move; (repeat' split) <;> first | rfl | (exfalso; simp only [Int32.lt_iff_toInt_lt, Int32.le_iff_toInt_le, ← Int32.toInt_inj, Int32.toInt_zero, L_3, L_4, L_m1000001, L_m1000002] at *; omega) | (apply Int32.toInt_inj.mp; simp only [Int32.lt_iff_toInt_lt, Int32.le_iff_toInt_le, ← Int32.toInt_inj, Int32.toInt_zero, L_3, L_4, L_m1000001, L_m1000002] at *; omega))), (by repeat (first | exact pm_lies_cat | refine pm_lies.up0 (by decide) ?_)), rfl⟩
    · refine pm_if_ne (tgt := 29) hG dX11_move_19 rfl (fun _ => ?_) (fun q => absurd q (by decide))
      refine pm_aloadn hG dX11_move_29 rfl ?_
      refine pm_getf hG dX11_move_30 (flX11_74 _ rfl) rfl rfl ?_
      refine pm_iloadn hG dX11_move_33 rfl ?_
      refine pm_callV (As := [.int za]) (rest := []) hG hR dX11_move_34 (lkX11_255 _ rfl) okV_X8_isMissing rfl rfl (fc_X8_isMissing_33 (d := 2) (by decide)) rfl rfl hdd (by decide) (by decide) (by decide) (pm_ki (fun v σ' cnt' hq => ?_))
      rcases hq with ⟨c11, rfl, rfl, rfl⟩ | ⟨c12, c13, rfl, rfl, rfl⟩ | ⟨c14, c15, rfl, rfl, rfl⟩
      · refine pm_if_ne (tgt := 51) hG dX11_move_37 rfl (fun _ => ?_) (fun q => absurd q (by decide))
        refine pm_aloadn hG dX11_move_51 rfl ?_
        refine pm_ldc hG dX11_move_52 (ctX11_223 _ rfl) ?_
        refine pm_callV (As := [.int (-1000002)]) (rest := []) hG hR dX11_move_54 (lkX11_97 _ rfl) okV_X11_told rfl rfl (sx_told (d := 2) (by decide) rfl rfl) rfl rfl hdd (by decide) (by decide) (by decide) (pm_ki (fun v σ' cnt' hq => ?_))
        obtain ⟨rfl, ⟨g, rfl⟩, rfl⟩ := hq
        exact pm_iret hG hF dX11_move_57 rfl (by decide) (by decide) ⟨_, rfl, (by clear hF hR hG; first | rfl | (unfold v_move; (repeat' split) <;> first | rfl | (exfalso; simp only [Int32.lt_iff_toInt_lt, Int32.le_iff_toInt_le, ← Int32.toInt_inj, Int32.toInt_zero, L_3, L_4, L_m1000001, L_m1000002] at *; omega) | (apply Int32.toInt_inj.mp; simp only [Int32.lt_iff_toInt_lt, Int32.le_iff_toInt_le, ← Int32.toInt_inj, Int32.toInt_zero, L_3, L_4, L_m1000001, L_m1000002] at *; omega))), (by repeat (first | exact pm_lies_cat | refine pm_lies.up0 (by decide) ?_)), rfl⟩
      · refine pm_if_ne (tgt := 51) hG dX11_move_37 rfl (fun _ => ?_) (fun q => absurd q (by decide))
        refine pm_aloadn hG dX11_move_51 rfl ?_
        refine pm_ldc hG dX11_move_52 (ctX11_223 _ rfl) ?_
        refine pm_callV (As := [.int (-1000002)]) (rest := []) hG hR dX11_move_54 (lkX11_97 _ rfl) okV_X11_told rfl rfl (sx_told (d := 2) (by decide) rfl rfl) rfl rfl hdd (by decide) (by decide) (by decide) (pm_ki (fun v σ' cnt' hq => ?_))
        obtain ⟨rfl, ⟨g, rfl⟩, rfl⟩ := hq
        exact pm_iret hG hF dX11_move_57 rfl (by decide) (by decide) ⟨_, rfl, (by clear hF hR hG; first | rfl | (unfold v_move; (repeat' split) <;> first | rfl | (exfalso; simp only [Int32.lt_iff_toInt_lt, Int32.le_iff_toInt_le, ← Int32.toInt_inj, Int32.toInt_zero, L_3, L_4, L_m1000001, L_m1000002] at *; omega) | (apply Int32.toInt_inj.mp; simp only [Int32.lt_iff_toInt_lt, Int32.le_iff_toInt_le, ← Int32.toInt_inj, Int32.toInt_zero, L_3, L_4, L_m1000001, L_m1000002] at *; omega))), (by repeat (first | exact pm_lies_cat | refine pm_lies.up0 (by decide) ?_)), rfl⟩
      · refine pm_if_ne (tgt := 51) hG dX11_move_37 rfl (fun _ => ?_) (fun q => absurd q (by decide))
        refine pm_aloadn hG dX11_move_51 rfl ?_
        refine pm_ldc hG dX11_move_52 (ctX11_223 _ rfl) ?_
        refine pm_callV (As := [.int (-1000002)]) (rest := []) hG hR dX11_move_54 (lkX11_97 _ rfl) okV_X11_told rfl rfl (sx_told (d := 2) (by decide) rfl rfl) rfl rfl hdd (by decide) (by decide) (by decide) (pm_ki (fun v σ' cnt' hq => ?_))
        obtain ⟨rfl, ⟨g, rfl⟩, rfl⟩ := hq
        exact pm_iret hG hF dX11_move_57 rfl (by decide) (by decide) ⟨_, rfl, (by clear hF hR hG; first | rfl | (unfold v_move; (repeat' split) <;> first | rfl | (exfalso; simp only [Int32.lt_iff_toInt_lt, Int32.le_iff_toInt_le, ← Int32.toInt_inj, Int32.toInt_zero, L_3, L_4, L_m1000001, L_m1000002] at *; omega) | (apply Int32.toInt_inj.mp; simp only [Int32.lt_iff_toInt_lt, Int32.le_iff_toInt_le, ← Int32.toInt_inj, Int32.toInt_zero, L_3, L_4, L_m1000001, L_m1000002] at *; omega))), (by repeat (first | exact pm_lies_cat | refine pm_lies.up0 (by decide) ?_)), rfl⟩

set_option maxRecDepth 100000 in
set_option maxHeartbeats 8000000 in
theorem oc_restore {B : Nat} {fw : Nat → Int32} {R : List pm_C} {d : Nat} (hdd : 2 ≤ d) : pm_met mX11_restore d 0 0 B [.ref (B + 0)] 74 (pm_cat (pm_ofL (l_k_class B fw)) 54 R) (pm_Qi (fun v σ' cnt' => v = v_restore ∧ pm_lies σ' 54 R ∧ cnt' = 74)) := by
  refine pm_enter 0 (by decide) (Nat.le_of_ble_eq_true rfl) rfl (fun G hG hR hF => ?_)
  refine pm_aloadn hG dX11_restore_0 rfl ?_
  refine pm_getf hG dX11_restore_1 (flX11_377 _ rfl) rfl rfl ?_
  refine pm_ifnonnullN hG dX11_restore_4 ?_
  refine pm_aloadn hG dX11_restore_7 rfl ?_
  refine pm_ldc hG dX11_restore_8 (ctX11_223 _ rfl) ?_
  refine pm_callV (As := [.int (-1000002)]) (rest := []) hG hR dX11_restore_10 (lkX11_97 _ rfl) okV_X11_told rfl rfl (sx_told (d := 1) (by decide) rfl rfl) rfl rfl hdd (by decide) (by decide) (by decide) (pm_ki (fun v σ' cnt' hq => ?_))
  obtain ⟨rfl, ⟨g, rfl⟩, rfl⟩ := hq
  exact pm_iret hG hF dX11_restore_13 rfl (by decide) (by decide) ⟨_, rfl, (by clear hF hR hG; first | rfl | (unfold v_restore; (repeat' split) <;> first | rfl | (exfalso; simp only [Int32.lt_iff_toInt_lt, Int32.le_iff_toInt_le, ← Int32.toInt_inj, Int32.toInt_zero, L_m1000002] at *; omega) | (apply Int32.toInt_inj.mp; simp only [Int32.lt_iff_toInt_lt, Int32.le_iff_toInt_le, ← Int32.toInt_inj, Int32.toInt_zero, L_m1000002] at *; omega))), (by repeat (first | exact pm_lies_cat | refine pm_lies.up0 (by decide) ?_)), rfl⟩

set_option maxRecDepth 100000 in
set_option maxHeartbeats 4000000 in
theorem fc_X9_append_50 {B : Nat} {fw : Nat → Int32} {R : List pm_C} {za : Int32} {d : Nat} (hdd : 2 ≤ d) : pm_met mX9_append d 0 0 B [.ref (B + 22), .int za] 74 (pm_cat (pm_ofL (l_k_class B fw)) 54 R) (pm_Qi (fun v σ' cnt' => v = 0 ∧ σ' = (pm_up (pm_up (pm_cat (pm_ofL (l_k_class B fw)) 54 R) 22 (.inr (9, [.int 20, .int 1, .ref (B + 23), .int 1]))) 23 (.inl (20, pm_ts 20 1 (fun _ => 0) 0 0 za))) ∧ cnt' = 74)) := by
  refine pm_enter 2 (by decide) (Nat.le_of_ble_eq_true rfl) rfl (fun G hG hR hF => ?_)
  refine pm_aloadn hG dX9_append_0 rfl ?_
  refine pm_callV (As := []) (rest := []) hG hR dX9_append_1 (lkX9_39 _ rfl) okV_X9_isFull rfl rfl (tb_isFull (d := 1) rfl) rfl rfl hdd (by decide) (by decide) (by decide) (pm_ki (fun v σ' cnt' hq => ?_))
  obtain ⟨rfl, rfl, rfl⟩ := hq
  refine pm_top (v := 0) (by decide) ?_
  refine pm_if_eq (tgt := 9) hG dX9_append_4 rfl (fun _ => ?_) (fun q => absurd q (by decide))
  refine pm_aloadn hG dX9_append_9 rfl ?_
  refine pm_getf hG dX9_append_10 (flX9_29 _ rfl) rfl rfl ?_
  refine pm_istoreXn (loc' := [some (.ref (B + 22)), some (.int za), some (.int 0), none]) hG dX9_append_13 (by decide) (pm_c1b rfl) rfl ?_
  refine pm_aloadn hG dX9_append_14 rfl ?_
  refine pm_dup hG dX9_append_15 rfl ?_
  refine pm_getf hG dX9_append_16 (flX9_29 _ rfl) rfl rfl ?_
  refine pm_iconst (v := 1) hG dX9_append_19 (by decide) ?_
  refine pm_iadd hG dX9_append_20 ?_
  refine pm_top (v := 1) (by decide) ?_
  refine pm_putf hG dX9_append_21 (fwX9_29 _ rfl) rfl rfl rfl ?_
  refine pm_iconst (v := 1) hG dX9_append_24 (by decide) ?_
  refine pm_istoreXn (loc' := [some (.ref (B + 22)), some (.int za), some (.int 0), some (.int 1)]) hG dX9_append_25 (by decide) (pm_c1b rfl) rfl ?_
  refine pm_iloadn hG dX9_append_26 rfl ?_
  refine pm_aloadn hG dX9_append_27 rfl ?_
  refine pm_getf hG dX9_append_28 (flX9_22 _ rfl) rfl rfl ?_
  refine pm_icmp_ge (tgt := 47) hG dX9_append_31 rfl (fun _ => ?_) (fun q => absurd q (by decide))
  refine pm_aloadn hG dX9_append_47 rfl ?_
  refine pm_iloadn hG dX9_append_48 rfl ?_
  refine pm_iconst (v := 0) hG dX9_append_49 (by decide) ?_
  refine pm_iloadn hG dX9_append_50 rfl ?_
  refine pm_callV (As := [.int 0, .int 0, .int za]) (rest := []) hG hR dX9_append_51 (lkX9_35 _ rfl) okV_X9_set rfl rfl (tb_set (d := 1) rfl rfl (pm_tw_of 20 1 (by decide) (by decide) (by decide)) (by decide)) rfl rfl hdd (by decide) (by decide) (by decide) (pm_kv (fun σ' cnt' hq => ?_))
  obtain ⟨rfl, rfl⟩ := hq
  refine pm_iloadn hG dX9_append_54 rfl ?_
  exact pm_iret hG hF dX9_append_55 rfl (by decide) (by decide) ⟨_, rfl, ⟨rfl, rfl, rfl⟩⟩

set_option maxRecDepth 100000 in
set_option maxHeartbeats 8000000 in
theorem oc_tell {B : Nat} {fw : Nat → Int32} {R : List pm_C} {za : Int32} {d : Nat} (hdd : 3 ≤ d) : pm_met mX11_tell d 0 0 B [.ref (B + 0), .int za] 74 (pm_cat (pm_ofL (l_k_class B fw)) 54 R) (pm_Qi (fun v σ' cnt' => v = v_tell za ∧ pm_lies σ' 54 R ∧ cnt' = 74)) := by
  refine pm_enter 0 (by decide) (Nat.le_of_ble_eq_true rfl) rfl (fun G hG hR hF => ?_)
  refine pm_aloadn hG dX11_tell_0 rfl ?_
  refine pm_getf hG dX11_tell_1 (flX11_12 _ rfl) rfl rfl ?_
  refine pm_getf hG dX11_tell_4 (flX11_386 _ rfl) rfl rfl ?_
  refine pm_callV (As := []) (rest := []) hG hR dX11_tell_7 (lkX11_86 _ rfl) okV_X9_isFull rfl rfl (tb_isFull (d := 2) rfl) rfl rfl hdd (by decide) (by decide) (by decide) (pm_ki (fun v σ' cnt' hq => ?_))
  obtain ⟨rfl, rfl, rfl⟩ := hq
  refine pm_top (v := 0) (by decide) ?_
  refine pm_if_eq (tgt := 20) hG dX11_tell_10 rfl (fun _ => ?_) (fun q => absurd q (by decide))
  refine pm_aloadn hG dX11_tell_20 rfl ?_
  refine pm_getf hG dX11_tell_21 (flX11_12 _ rfl) rfl rfl ?_
  refine pm_getf hG dX11_tell_24 (flX11_386 _ rfl) rfl rfl ?_
  refine pm_iloadn hG dX11_tell_27 rfl ?_
  refine pm_callV (As := [.int za]) (rest := []) hG hR dX11_tell_28 (lkX11_206 _ rfl) okV_X9_append rfl rfl (fc_X9_append_50 (d := 2) (by decide)) rfl rfl hdd (by decide) (by decide) (by decide) (pm_ki (fun v σ' cnt' hq => ?_))
  obtain ⟨rfl, rfl, rfl⟩ := hq
  refine pm_pop hG dX11_tell_31 rfl ?_
  refine pm_aloadn hG dX11_tell_32 rfl ?_
  refine pm_getf hG dX11_tell_33 (flX11_12 _ rfl) rfl rfl ?_
  refine pm_getf hG dX11_tell_36 (flX11_386 _ rfl) rfl rfl ?_
  refine pm_callV (As := []) (rest := []) hG hR dX11_tell_39 (lkX11_203 _ rfl) okV_X9_used rfl rfl (tb_used (d := 2) rfl) rfl rfl hdd (by decide) (by decide) (by decide) (pm_ki (fun v σ' cnt' hq => ?_))
  obtain ⟨rfl, rfl, rfl⟩ := hq
  exact pm_iret hG hF dX11_tell_42 rfl (by decide) (by decide) ⟨_, rfl, (by clear hF hR hG; first | rfl | (unfold v_tell; (repeat' split) <;> first | rfl | (exfalso; simp only [Int32.lt_iff_toInt_lt, Int32.le_iff_toInt_le, ← Int32.toInt_inj, Int32.toInt_zero, L_1] at *; omega) | (apply Int32.toInt_inj.mp; simp only [Int32.lt_iff_toInt_lt, Int32.le_iff_toInt_le, ← Int32.toInt_inj, Int32.toInt_zero, L_1] at *; omega))), (by repeat (first | exact pm_lies_cat | refine pm_lies.up0 (by decide) ?_)), rfl⟩

set_option maxRecDepth 100000 in
set_option maxHeartbeats 4000000 in
theorem fc_X9_clear_51 {B : Nat} {fw : Nat → Int32} {R : List pm_C} {d : Nat} (hdd : 1 ≤ d) : pm_met mX9_clear d 0 0 B [.ref (B + 22)] 74 (pm_cat (pm_ofL (l_k_class B fw)) 54 R) (pm_Qv (fun σ' cnt' => σ' = (pm_up (pm_cat (pm_ofL (l_k_class B fw)) 54 R) 22 (.inr (9, [.int 20, .int 1, .ref (B + 23), .int 0]))) ∧ cnt' = 74)) := by
  refine pm_enter 0 (by decide) (Nat.le_of_ble_eq_true rfl) rfl (fun G hG hR hF => ?_)
  refine pm_aloadn hG dX9_clear_0 rfl ?_
  refine pm_iconst (v := 0) hG dX9_clear_1 (by decide) ?_
  refine pm_putf hG dX9_clear_2 (fwX9_29 _ rfl) rfl rfl rfl ?_
  exact pm_vret hG hF dX9_clear_5 rfl (by decide) (by decide) ⟨rfl, ⟨rfl, rfl⟩⟩

set_option maxRecDepth 100000 in
set_option maxHeartbeats 8000000 in
theorem oc_check {B : Nat} {fw : Nat → Int32} {R : List pm_C} {d : Nat} (hdd : 2 ≤ d) : pm_met mX11_check d 0 0 B [.ref (B + 0)] 74 (pm_cat (pm_ofL (l_k_class B fw)) 54 R) (pm_Qi (fun v σ' cnt' => v = v_check ∧ pm_lies σ' 54 R ∧ cnt' = 74)) := by
  refine pm_enter 3 (by decide) (Nat.le_of_ble_eq_true rfl) rfl (fun G hG hR hF => ?_)
  refine pm_aloadn hG dX11_check_0 rfl ?_
  refine pm_getf hG dX11_check_1 (flX11_12 _ rfl) rfl rfl ?_
  refine pm_getf hG dX11_check_4 (flX11_386 _ rfl) rfl rfl ?_
  refine pm_callV (As := []) (rest := []) hG hR dX11_check_7 (lkX11_203 _ rfl) okV_X9_used rfl rfl (tb_used (d := 1) rfl) rfl rfl hdd (by decide) (by decide) (by decide) (pm_ki (fun v σ' cnt' hq => ?_))
  obtain ⟨rfl, rfl, rfl⟩ := hq
  refine pm_istoreXn (loc' := [some (.ref (B + 0)), some (.int 0), none, none]) hG dX11_check_10 (by decide) (pm_c1b rfl) rfl ?_
  refine pm_iconst (v := 0) hG dX11_check_11 (by decide) ?_
  refine pm_istoreXn (loc' := [some (.ref (B + 0)), some (.int 0), some (.int 0), none]) hG dX11_check_12 (by decide) (pm_c1b rfl) rfl ?_
  refine pm_iconst (v := 0) hG dX11_check_13 (by decide) ?_
  refine pm_istoreXn (loc' := [some (.ref (B + 0)), some (.int 0), some (.int 0), some (.int 0)]) hG dX11_check_14 (by decide) (pm_c1b rfl) rfl ?_
  refine pm_iloadn hG dX11_check_15 rfl ?_
  refine pm_iloadn hG dX11_check_16 rfl ?_
  refine pm_icmp_ge (tgt := 57) hG dX11_check_17 rfl (fun _ => ?_) (fun q => absurd q (by decide))
  refine pm_aloadn hG dX11_check_57 rfl ?_
  refine pm_getf hG dX11_check_58 (flX11_12 _ rfl) rfl rfl ?_
  refine pm_getf hG dX11_check_61 (flX11_386 _ rfl) rfl rfl ?_
  refine pm_callV (As := []) (rest := []) hG hR dX11_check_64 (lkX11_392 _ rfl) okV_X9_clear rfl rfl (fc_X9_clear_51 (d := 1) (by decide)) rfl rfl hdd (by decide) (by decide) (by decide) (pm_kv (fun σ' cnt' hq => ?_))
  obtain ⟨rfl, rfl⟩ := hq
  refine pm_iloadn hG dX11_check_67 rfl ?_
  exact pm_iret hG hF dX11_check_68 rfl (by decide) (by decide) ⟨_, rfl, (by clear hF hR hG; first | rfl | (unfold v_check; (repeat' split) <;> first | rfl | (exfalso; simp only [Int32.lt_iff_toInt_lt, Int32.le_iff_toInt_le, ← Int32.toInt_inj, Int32.toInt_zero] at *; omega) | (apply Int32.toInt_inj.mp; simp only [Int32.lt_iff_toInt_lt, Int32.le_iff_toInt_le, ← Int32.toInt_inj, Int32.toInt_zero] at *; omega))), (by repeat (first | exact pm_lies_cat | refine pm_lies.up0 (by decide) ?_)), rfl⟩

set_option maxRecDepth 100000 in
set_option maxHeartbeats 4000000 in
theorem fc_X9_rowsWith_52 {B : Nat} {fw : Nat → Int32} {R : List pm_C} {d : Nat} (hdd : 1 ≤ d) : pm_met mX9_rowsWith d 0 0 B [.ref (B + 6), .int 13, .int 1] 74 (pm_cat (pm_ofL (l_k_class B fw)) 54 R) (pm_Qi (fun v σ' cnt' => v = 0 ∧ σ' = (pm_cat (pm_ofL (l_k_class B fw)) 54 R) ∧ cnt' = 74)) := by
  refine pm_enter 2 (by decide) (Nat.le_of_ble_eq_true rfl) rfl (fun G hG hR hF => ?_)
  refine pm_iconst (v := 0) hG dX9_rowsWith_0 (by decide) ?_
  refine pm_istoreXn (loc' := [some (.ref (B + 6)), some (.int 13), some (.int 1), some (.int 0), none]) hG dX9_rowsWith_1 (by decide) (pm_c1b rfl) rfl ?_
  refine pm_iconst (v := 0) hG dX9_rowsWith_2 (by decide) ?_
  refine pm_istoreXi (loc' := [some (.ref (B + 6)), some (.int 13), some (.int 1), some (.int 0), some (.int 0)]) hG dX9_rowsWith_3 (by decide) (pm_c1b rfl) rfl ?_
  refine pm_iloadi hG dX9_rowsWith_5 rfl ?_
  refine pm_aloadn hG dX9_rowsWith_7 rfl ?_
  refine pm_getf hG dX9_rowsWith_8 (flX9_29 _ rfl) rfl rfl ?_
  refine pm_icmp_ge (tgt := 53) hG dX9_rowsWith_11 rfl (fun _ => ?_) (fun q => absurd q (by decide))
  refine pm_iloadn hG dX9_rowsWith_53 rfl ?_
  exact pm_iret hG hF dX9_rowsWith_54 rfl (by decide) (by decide) ⟨_, rfl, ⟨rfl, rfl, rfl⟩⟩

set_option maxRecDepth 100000 in
set_option maxHeartbeats 4000000 in
theorem fc_X9_sumOf_53 {B : Nat} {fw : Nat → Int32} {R : List pm_C} {d : Nat} (hdd : 1 ≤ d) : pm_met mX9_sumOf d 0 0 B [.ref (B + 6), .int 7] 74 (pm_cat (pm_ofL (l_k_class B fw)) 54 R) (pm_Qi (fun v σ' cnt' => v = 0 ∧ σ' = (pm_cat (pm_ofL (l_k_class B fw)) 54 R) ∧ cnt' = 74)) := by
  refine pm_enter 2 (by decide) (Nat.le_of_ble_eq_true rfl) rfl (fun G hG hR hF => ?_)
  refine pm_iconst (v := 0) hG dX9_sumOf_0 (by decide) ?_
  refine pm_istoreXn (loc' := [some (.ref (B + 6)), some (.int 7), some (.int 0), none]) hG dX9_sumOf_1 (by decide) (pm_c1b rfl) rfl ?_
  refine pm_iconst (v := 0) hG dX9_sumOf_2 (by decide) ?_
  refine pm_istoreXn (loc' := [some (.ref (B + 6)), some (.int 7), some (.int 0), some (.int 0)]) hG dX9_sumOf_3 (by decide) (pm_c1b rfl) rfl ?_
  refine pm_iloadn hG dX9_sumOf_4 rfl ?_
  refine pm_aloadn hG dX9_sumOf_5 rfl ?_
  refine pm_getf hG dX9_sumOf_6 (flX9_29 _ rfl) rfl rfl ?_
  refine pm_icmp_ge (tgt := 27) hG dX9_sumOf_9 rfl (fun _ => ?_) (fun q => absurd q (by decide))
  refine pm_iloadn hG dX9_sumOf_27 rfl ?_
  exact pm_iret hG hF dX9_sumOf_28 rfl (by decide) (by decide) ⟨_, rfl, ⟨rfl, rfl, rfl⟩⟩

set_option maxRecDepth 100000 in
set_option maxHeartbeats 4000000 in
theorem fc_X3_onTheirWay_54 {B : Nat} {fw : Nat → Int32} {R : List pm_C} {d : Nat} (hdd : 2 ≤ d) : pm_met mX3_onTheirWay d 0 0 B [.ref (B + 36)] 74 (pm_cat (pm_ofL (l_k_class B fw)) 54 R) (pm_Qi (fun v σ' cnt' => v = 0 ∧ σ' = (pm_cat (pm_ofL (l_k_class B fw)) 54 R) ∧ cnt' = 74)) := by
  refine pm_enter 3 (by decide) (Nat.le_of_ble_eq_true rfl) rfl (fun G hG hR hF => ?_)
  refine pm_iconst (v := 0) hG dX3_onTheirWay_0 (by decide) ?_
  refine pm_istoreXn (loc' := [some (.ref (B + 36)), some (.int 0), none, none]) hG dX3_onTheirWay_1 (by decide) (pm_c1b rfl) rfl ?_
  refine pm_aloadn hG dX3_onTheirWay_2 rfl ?_
  refine pm_getf hG dX3_onTheirWay_3 (flX3_29 _ rfl) rfl rfl ?_
  refine pm_callV (As := []) (rest := []) hG hR dX3_onTheirWay_6 (lkX3_74 _ rfl) okV_X9_used rfl rfl (tb_used (d := 1) rfl) rfl rfl hdd (by decide) (by decide) (by decide) (pm_ki (fun v σ' cnt' hq => ?_))
  obtain ⟨rfl, rfl, rfl⟩ := hq
  refine pm_istoreXn (loc' := [some (.ref (B + 36)), some (.int 0), some (.int 0), none]) hG dX3_onTheirWay_9 (by decide) (pm_c1b rfl) rfl ?_
  refine pm_iconst (v := 0) hG dX3_onTheirWay_10 (by decide) ?_
  refine pm_istoreXn (loc' := [some (.ref (B + 36)), some (.int 0), some (.int 0), some (.int 0)]) hG dX3_onTheirWay_11 (by decide) (pm_c1b rfl) rfl ?_
  refine pm_iloadn hG dX3_onTheirWay_12 rfl ?_
  refine pm_iloadn hG dX3_onTheirWay_13 rfl ?_
  refine pm_icmp_ge (tgt := 54) hG dX3_onTheirWay_14 rfl (fun _ => ?_) (fun q => absurd q (by decide))
  refine pm_iloadn hG dX3_onTheirWay_54 rfl ?_
  exact pm_iret hG hF dX3_onTheirWay_55 rfl (by decide) (by decide) ⟨_, rfl, ⟨rfl, rfl, rfl⟩⟩

set_option maxRecDepth 100000 in
set_option maxHeartbeats 8000000 in
theorem oc_count {B : Nat} {fw : Nat → Int32} {R : List pm_C} {za : Int32} {d : Nat} (hdd : 3 ≤ d) : pm_met mX11_count d 0 0 B [.ref (B + 0), .int za] 74 (pm_cat (pm_ofL (l_k_class B fw)) 54 R) (pm_Qi (fun v σ' cnt' => v = v_count za ∧ pm_lies σ' 54 R ∧ cnt' = 74)) := by
  refine pm_enter 0 (by decide) (Nat.le_of_ble_eq_true rfl) rfl (fun G hG hR hF => ?_)
  refine pm_iloadn hG dX11_count_0 rfl ?_
  by_cases c1 : za = 0
  · refine pm_top (v := 0) c1 ?_
    refine pm_tswIn (tgt := 80) hG dX11_count_1 (by decide) (by decide) rfl rfl ?_
    refine pm_aloadn hG dX11_count_80 rfl ?_
    refine pm_getf hG dX11_count_81 (flX11_12 _ rfl) rfl rfl ?_
    refine pm_getf hG dX11_count_84 (flX11_82 _ rfl) rfl rfl ?_
    refine pm_callV (As := []) (rest := []) hG hR dX11_count_87 (lkX11_203 _ rfl) okV_X9_used rfl rfl (tb_used (d := 2) rfl) rfl rfl hdd (by decide) (by decide) (by decide) (pm_ki (fun v σ' cnt' hq => ?_))
    obtain ⟨rfl, rfl, rfl⟩ := hq
    exact pm_iret hG hF dX11_count_90 rfl (by decide) (by decide) ⟨_, rfl, (by clear hF hR hG; first | rfl | (unfold v_count; (repeat' split) <;> first | rfl | (exfalso; simp only [Int32.lt_iff_toInt_lt, Int32.le_iff_toInt_le, ← Int32.toInt_inj, Int32.toInt_zero, L_1000, L_15, L_9, L_m1000001] at *; omega) | (apply Int32.toInt_inj.mp; simp only [Int32.lt_iff_toInt_lt, Int32.le_iff_toInt_le, ← Int32.toInt_inj, Int32.toInt_zero, L_1000, L_15, L_9, L_m1000001] at *; omega))), (by repeat (first | exact pm_lies_cat | refine pm_lies.up0 (by decide) ?_)), rfl⟩
  by_cases c2 : za = 1
  · refine pm_top (v := 1) c2 ?_
    refine pm_tswIn (tgt := 91) hG dX11_count_1 (by decide) (by decide) rfl rfl ?_
    refine pm_aloadn hG dX11_count_91 rfl ?_
    refine pm_getf hG dX11_count_92 (flX11_12 _ rfl) rfl rfl ?_
    refine pm_getf hG dX11_count_95 (flX11_110 _ rfl) rfl rfl ?_
    exact pm_iret hG hF dX11_count_98 rfl (by decide) (by decide) ⟨_, rfl, (by clear hF hR hG; first | rfl | (unfold v_count; (repeat' split) <;> first | rfl | (exfalso; simp only [Int32.lt_iff_toInt_lt, Int32.le_iff_toInt_le, ← Int32.toInt_inj, Int32.toInt_zero, L_1, L_1000, L_15, L_9, L_m1000001] at *; omega) | (apply Int32.toInt_inj.mp; simp only [Int32.lt_iff_toInt_lt, Int32.le_iff_toInt_le, ← Int32.toInt_inj, Int32.toInt_zero, L_1, L_1000, L_15, L_9, L_m1000001] at *; omega))), (by repeat (first | exact pm_lies_cat | refine pm_lies.up0 (by decide) ?_)), rfl⟩
  by_cases c3 : za = 2
  · refine pm_top (v := 2) c3 ?_
    refine pm_tswIn (tgt := 99) hG dX11_count_1 (by decide) (by decide) rfl rfl ?_
    refine pm_aloadn hG dX11_count_99 rfl ?_
    refine pm_getf hG dX11_count_100 (flX11_12 _ rfl) rfl rfl ?_
    refine pm_getf hG dX11_count_103 (flX11_128 _ rfl) rfl rfl ?_
    refine pm_callV (As := []) (rest := []) hG hR dX11_count_106 (lkX11_203 _ rfl) okV_X9_used rfl rfl (tb_used (d := 2) rfl) rfl rfl hdd (by decide) (by decide) (by decide) (pm_ki (fun v σ' cnt' hq => ?_))
    obtain ⟨rfl, rfl, rfl⟩ := hq
    exact pm_iret hG hF dX11_count_109 rfl (by decide) (by decide) ⟨_, rfl, (by clear hF hR hG; first | rfl | (unfold v_count; (repeat' split) <;> first | rfl | (exfalso; simp only [Int32.lt_iff_toInt_lt, Int32.le_iff_toInt_le, ← Int32.toInt_inj, Int32.toInt_zero, L_1, L_1000, L_15, L_2, L_9, L_m1000001] at *; omega) | (apply Int32.toInt_inj.mp; simp only [Int32.lt_iff_toInt_lt, Int32.le_iff_toInt_le, ← Int32.toInt_inj, Int32.toInt_zero, L_1, L_1000, L_15, L_2, L_9, L_m1000001] at *; omega))), (by repeat (first | exact pm_lies_cat | refine pm_lies.up0 (by decide) ?_)), rfl⟩
  by_cases c4 : za = 3
  · refine pm_top (v := 3) c4 ?_
    refine pm_tswIn (tgt := 110) hG dX11_count_1 (by decide) (by decide) rfl rfl ?_
    refine pm_aloadn hG dX11_count_110 rfl ?_
    refine pm_getf hG dX11_count_111 (flX11_12 _ rfl) rfl rfl ?_
    refine pm_getf hG dX11_count_114 (flX11_161 _ rfl) rfl rfl ?_
    refine pm_callV (As := []) (rest := []) hG hR dX11_count_117 (lkX11_203 _ rfl) okV_X9_used rfl rfl (tb_used (d := 2) rfl) rfl rfl hdd (by decide) (by decide) (by decide) (pm_ki (fun v σ' cnt' hq => ?_))
    obtain ⟨rfl, rfl, rfl⟩ := hq
    exact pm_iret hG hF dX11_count_120 rfl (by decide) (by decide) ⟨_, rfl, (by clear hF hR hG; first | rfl | (unfold v_count; (repeat' split) <;> first | rfl | (exfalso; simp only [Int32.lt_iff_toInt_lt, Int32.le_iff_toInt_le, ← Int32.toInt_inj, Int32.toInt_zero, L_1, L_1000, L_15, L_2, L_3, L_9, L_m1000001] at *; omega) | (apply Int32.toInt_inj.mp; simp only [Int32.lt_iff_toInt_lt, Int32.le_iff_toInt_le, ← Int32.toInt_inj, Int32.toInt_zero, L_1, L_1000, L_15, L_2, L_3, L_9, L_m1000001] at *; omega))), (by repeat (first | exact pm_lies_cat | refine pm_lies.up0 (by decide) ?_)), rfl⟩
  by_cases c5 : za = 4
  · refine pm_top (v := 4) c5 ?_
    refine pm_tswIn (tgt := 121) hG dX11_count_1 (by decide) (by decide) rfl rfl ?_
    refine pm_aloadn hG dX11_count_121 rfl ?_
    refine pm_getf hG dX11_count_122 (flX11_12 _ rfl) rfl rfl ?_
    refine pm_getf hG dX11_count_125 (flX11_209 _ rfl) rfl rfl ?_
    refine pm_callV (As := []) (rest := []) hG hR dX11_count_128 (lkX11_203 _ rfl) okV_X9_used rfl rfl (tb_used (d := 2) rfl) rfl rfl hdd (by decide) (by decide) (by decide) (pm_ki (fun v σ' cnt' hq => ?_))
    obtain ⟨rfl, rfl, rfl⟩ := hq
    exact pm_iret hG hF dX11_count_131 rfl (by decide) (by decide) ⟨_, rfl, (by clear hF hR hG; first | rfl | (unfold v_count; (repeat' split) <;> first | rfl | (exfalso; simp only [Int32.lt_iff_toInt_lt, Int32.le_iff_toInt_le, ← Int32.toInt_inj, Int32.toInt_zero, L_1, L_1000, L_15, L_2, L_3, L_4, L_9, L_m1000001] at *; omega) | (apply Int32.toInt_inj.mp; simp only [Int32.lt_iff_toInt_lt, Int32.le_iff_toInt_le, ← Int32.toInt_inj, Int32.toInt_zero, L_1, L_1000, L_15, L_2, L_3, L_4, L_9, L_m1000001] at *; omega))), (by repeat (first | exact pm_lies_cat | refine pm_lies.up0 (by decide) ?_)), rfl⟩
  by_cases c6 : za = 5
  · refine pm_top (v := 5) c6 ?_
    refine pm_tswIn (tgt := 132) hG dX11_count_1 (by decide) (by decide) rfl rfl ?_
    refine pm_aloadn hG dX11_count_132 rfl ?_
    refine pm_getf hG dX11_count_133 (flX11_12 _ rfl) rfl rfl ?_
    refine pm_getf hG dX11_count_136 (flX11_224 _ rfl) rfl rfl ?_
    refine pm_callV (As := []) (rest := []) hG hR dX11_count_139 (lkX11_203 _ rfl) okV_X9_used rfl rfl (tb_used (d := 2) rfl) rfl rfl hdd (by decide) (by decide) (by decide) (pm_ki (fun v σ' cnt' hq => ?_))
    obtain ⟨rfl, rfl, rfl⟩ := hq
    exact pm_iret hG hF dX11_count_142 rfl (by decide) (by decide) ⟨_, rfl, (by clear hF hR hG; first | rfl | (unfold v_count; (repeat' split) <;> first | rfl | (exfalso; simp only [Int32.lt_iff_toInt_lt, Int32.le_iff_toInt_le, ← Int32.toInt_inj, Int32.toInt_zero, L_1, L_1000, L_15, L_2, L_3, L_4, L_5, L_9, L_m1000001] at *; omega) | (apply Int32.toInt_inj.mp; simp only [Int32.lt_iff_toInt_lt, Int32.le_iff_toInt_le, ← Int32.toInt_inj, Int32.toInt_zero, L_1, L_1000, L_15, L_2, L_3, L_4, L_5, L_9, L_m1000001] at *; omega))), (by repeat (first | exact pm_lies_cat | refine pm_lies.up0 (by decide) ?_)), rfl⟩
  by_cases c7 : za = 6
  · refine pm_top (v := 6) c7 ?_
    refine pm_tswIn (tgt := 143) hG dX11_count_1 (by decide) (by decide) rfl rfl ?_
    refine pm_aloadn hG dX11_count_143 rfl ?_
    refine pm_getf hG dX11_count_144 (flX11_12 _ rfl) rfl rfl ?_
    refine pm_getf hG dX11_count_147 (flX11_271 _ rfl) rfl rfl ?_
    refine pm_callV (As := []) (rest := []) hG hR dX11_count_150 (lkX11_203 _ rfl) okV_X9_used rfl rfl (tb_used (d := 2) rfl) rfl rfl hdd (by decide) (by decide) (by decide) (pm_ki (fun v σ' cnt' hq => ?_))
    obtain ⟨rfl, rfl, rfl⟩ := hq
    exact pm_iret hG hF dX11_count_153 rfl (by decide) (by decide) ⟨_, rfl, (by clear hF hR hG; first | rfl | (unfold v_count; (repeat' split) <;> first | rfl | (exfalso; simp only [Int32.lt_iff_toInt_lt, Int32.le_iff_toInt_le, ← Int32.toInt_inj, Int32.toInt_zero, L_1, L_1000, L_15, L_2, L_3, L_4, L_5, L_6, L_9, L_m1000001] at *; omega) | (apply Int32.toInt_inj.mp; simp only [Int32.lt_iff_toInt_lt, Int32.le_iff_toInt_le, ← Int32.toInt_inj, Int32.toInt_zero, L_1, L_1000, L_15, L_2, L_3, L_4, L_5, L_6, L_9, L_m1000001] at *; omega))), (by repeat (first | exact pm_lies_cat | refine pm_lies.up0 (by decide) ?_)), rfl⟩
  by_cases c8 : za = 7
  · refine pm_top (v := 7) c8 ?_
    refine pm_tswIn (tgt := 154) hG dX11_count_1 (by decide) (by decide) rfl rfl ?_
    refine pm_aloadn hG dX11_count_154 rfl ?_
    refine pm_getf hG dX11_count_155 (flX11_12 _ rfl) rfl rfl ?_
    refine pm_getf hG dX11_count_158 (flX11_277 _ rfl) rfl rfl ?_
    refine pm_callV (As := []) (rest := []) hG hR dX11_count_161 (lkX11_203 _ rfl) okV_X9_used rfl rfl (tb_used (d := 2) rfl) rfl rfl hdd (by decide) (by decide) (by decide) (pm_ki (fun v σ' cnt' hq => ?_))
    obtain ⟨rfl, rfl, rfl⟩ := hq
    exact pm_iret hG hF dX11_count_164 rfl (by decide) (by decide) ⟨_, rfl, (by clear hF hR hG; first | rfl | (unfold v_count; (repeat' split) <;> first | rfl | (exfalso; simp only [Int32.lt_iff_toInt_lt, Int32.le_iff_toInt_le, ← Int32.toInt_inj, Int32.toInt_zero, L_1, L_1000, L_15, L_2, L_3, L_4, L_5, L_6, L_7, L_9, L_m1000001] at *; omega) | (apply Int32.toInt_inj.mp; simp only [Int32.lt_iff_toInt_lt, Int32.le_iff_toInt_le, ← Int32.toInt_inj, Int32.toInt_zero, L_1, L_1000, L_15, L_2, L_3, L_4, L_5, L_6, L_7, L_9, L_m1000001] at *; omega))), (by repeat (first | exact pm_lies_cat | refine pm_lies.up0 (by decide) ?_)), rfl⟩
  by_cases c9 : za = 8
  · refine pm_top (v := 8) c9 ?_
    refine pm_tswIn (tgt := 165) hG dX11_count_1 (by decide) (by decide) rfl rfl ?_
    refine pm_aloadn hG dX11_count_165 rfl ?_
    refine pm_getf hG dX11_count_166 (flX11_12 _ rfl) rfl rfl ?_
    refine pm_getf hG dX11_count_169 (flX11_122 _ rfl) rfl rfl ?_
    exact pm_iret hG hF dX11_count_172 rfl (by decide) (by decide) ⟨_, rfl, (by clear hF hR hG; first | rfl | (unfold v_count; (repeat' split) <;> first | rfl | (exfalso; simp only [Int32.lt_iff_toInt_lt, Int32.le_iff_toInt_le, ← Int32.toInt_inj, Int32.toInt_zero, L_1, L_1000, L_15, L_2, L_3, L_4, L_5, L_6, L_7, L_8, L_9, L_m1000001] at *; omega) | (apply Int32.toInt_inj.mp; simp only [Int32.lt_iff_toInt_lt, Int32.le_iff_toInt_le, ← Int32.toInt_inj, Int32.toInt_zero, L_1, L_1000, L_15, L_2, L_3, L_4, L_5, L_6, L_7, L_8, L_9, L_m1000001] at *; omega))), (by repeat (first | exact pm_lies_cat | refine pm_lies.up0 (by decide) ?_)), rfl⟩
  by_cases c10 : za = 9
  · refine pm_top (v := 9) c10 ?_
    refine pm_tswIn (tgt := 173) hG dX11_count_1 (by decide) (by decide) rfl rfl ?_
    refine pm_aloadn hG dX11_count_173 rfl ?_
    refine pm_getf hG dX11_count_174 (flX11_12 _ rfl) rfl rfl ?_
    refine pm_getf hG dX11_count_177 (flX11_395 _ rfl) rfl rfl ?_
    exact pm_iret hG hF dX11_count_180 rfl (by decide) (by decide) ⟨_, rfl, (by clear hF hR hG; first | rfl | (unfold v_count; (repeat' split) <;> first | rfl | (exfalso; simp only [Int32.lt_iff_toInt_lt, Int32.le_iff_toInt_le, ← Int32.toInt_inj, Int32.toInt_zero, L_1, L_1000, L_15, L_2, L_3, L_4, L_5, L_6, L_7, L_8, L_9, L_m1000001] at *; omega) | (apply Int32.toInt_inj.mp; simp only [Int32.lt_iff_toInt_lt, Int32.le_iff_toInt_le, ← Int32.toInt_inj, Int32.toInt_zero, L_1, L_1000, L_15, L_2, L_3, L_4, L_5, L_6, L_7, L_8, L_9, L_m1000001] at *; omega))), (by repeat (first | exact pm_lies_cat | refine pm_lies.up0 (by decide) ?_)), rfl⟩
  by_cases c11 : za = 10
  · refine pm_top (v := 10) c11 ?_
    refine pm_tswIn (tgt := 181) hG dX11_count_1 (by decide) (by decide) rfl rfl ?_
    refine pm_aloadn hG dX11_count_181 rfl ?_
    refine pm_getf hG dX11_count_182 (flX11_12 _ rfl) rfl rfl ?_
    refine pm_getf hG dX11_count_185 (flX11_200 _ rfl) rfl rfl ?_
    refine pm_callV (As := []) (rest := []) hG hR dX11_count_188 (lkX11_203 _ rfl) okV_X9_used rfl rfl (tb_used (d := 2) rfl) rfl rfl hdd (by decide) (by decide) (by decide) (pm_ki (fun v σ' cnt' hq => ?_))
    obtain ⟨rfl, rfl, rfl⟩ := hq
    exact pm_iret hG hF dX11_count_191 rfl (by decide) (by decide) ⟨_, rfl, (by clear hF hR hG; first | rfl | (unfold v_count; (repeat' split) <;> first | rfl | (exfalso; simp only [Int32.lt_iff_toInt_lt, Int32.le_iff_toInt_le, ← Int32.toInt_inj, Int32.toInt_zero, L_1, L_10, L_1000, L_15, L_2, L_3, L_4, L_5, L_6, L_7, L_8, L_9, L_m1000001] at *; omega) | (apply Int32.toInt_inj.mp; simp only [Int32.lt_iff_toInt_lt, Int32.le_iff_toInt_le, ← Int32.toInt_inj, Int32.toInt_zero, L_1, L_10, L_1000, L_15, L_2, L_3, L_4, L_5, L_6, L_7, L_8, L_9, L_m1000001] at *; omega))), (by repeat (first | exact pm_lies_cat | refine pm_lies.up0 (by decide) ?_)), rfl⟩
  by_cases c12 : za = 11
  · refine pm_top (v := 11) c12 ?_
    refine pm_tswIn (tgt := 192) hG dX11_count_1 (by decide) (by decide) rfl rfl ?_
    refine pm_aloadn hG dX11_count_192 rfl ?_
    refine pm_getf hG dX11_count_193 (flX11_12 _ rfl) rfl rfl ?_
    refine pm_getf hG dX11_count_196 (flX11_128 _ rfl) rfl rfl ?_
    refine pm_bipush (v := 13) hG dX11_count_199 (by decide) ?_
    refine pm_iconst (v := 1) hG dX11_count_201 (by decide) ?_
    refine pm_callV (As := [.int 13, .int 1]) (rest := []) hG hR dX11_count_202 (lkX11_164 _ rfl) okV_X9_rowsWith rfl rfl (fc_X9_rowsWith_52 (d := 2) (by decide)) rfl rfl hdd (by decide) (by decide) (by decide) (pm_ki (fun v σ' cnt' hq => ?_))
    obtain ⟨rfl, rfl, rfl⟩ := hq
    exact pm_iret hG hF dX11_count_205 rfl (by decide) (by decide) ⟨_, rfl, (by clear hF hR hG; first | rfl | (unfold v_count; (repeat' split) <;> first | rfl | (exfalso; simp only [Int32.lt_iff_toInt_lt, Int32.le_iff_toInt_le, ← Int32.toInt_inj, Int32.toInt_zero, L_1, L_10, L_1000, L_11, L_15, L_2, L_3, L_4, L_5, L_6, L_7, L_8, L_9, L_m1000001] at *; omega) | (apply Int32.toInt_inj.mp; simp only [Int32.lt_iff_toInt_lt, Int32.le_iff_toInt_le, ← Int32.toInt_inj, Int32.toInt_zero, L_1, L_10, L_1000, L_11, L_15, L_2, L_3, L_4, L_5, L_6, L_7, L_8, L_9, L_m1000001] at *; omega))), (by repeat (first | exact pm_lies_cat | refine pm_lies.up0 (by decide) ?_)), rfl⟩
  by_cases c13 : za = 12
  · refine pm_top (v := 12) c13 ?_
    refine pm_tswIn (tgt := 206) hG dX11_count_1 (by decide) (by decide) rfl rfl ?_
    refine pm_aloadn hG dX11_count_206 rfl ?_
    refine pm_getf hG dX11_count_207 (flX11_67 _ rfl) rfl rfl ?_
    refine pm_getf hG dX11_count_210 (flX11_358 _ rfl) rfl rfl ?_
    exact pm_iret hG hF dX11_count_213 rfl (by decide) (by decide) ⟨_, rfl, (by clear hF hR hG; first | rfl | (unfold v_count; (repeat' split) <;> first | rfl | (exfalso; simp only [Int32.lt_iff_toInt_lt, Int32.le_iff_toInt_le, ← Int32.toInt_inj, Int32.toInt_zero, L_1, L_10, L_1000, L_11, L_12, L_15, L_2, L_3, L_4, L_5, L_6, L_7, L_8, L_9, L_m1000001] at *; omega) | (apply Int32.toInt_inj.mp; simp only [Int32.lt_iff_toInt_lt, Int32.le_iff_toInt_le, ← Int32.toInt_inj, Int32.toInt_zero, L_1, L_10, L_1000, L_11, L_12, L_15, L_2, L_3, L_4, L_5, L_6, L_7, L_8, L_9, L_m1000001] at *; omega))), (by repeat (first | exact pm_lies_cat | refine pm_lies.up0 (by decide) ?_)), rfl⟩
  by_cases c14 : za = 13
  · refine pm_top (v := 13) c14 ?_
    refine pm_tswIn (tgt := 214) hG dX11_count_1 (by decide) (by decide) rfl rfl ?_
    refine pm_aloadn hG dX11_count_214 rfl ?_
    refine pm_getf hG dX11_count_215 (flX11_12 _ rfl) rfl rfl ?_
    refine pm_getf hG dX11_count_218 (flX11_386 _ rfl) rfl rfl ?_
    refine pm_callV (As := []) (rest := []) hG hR dX11_count_221 (lkX11_203 _ rfl) okV_X9_used rfl rfl (tb_used (d := 2) rfl) rfl rfl hdd (by decide) (by decide) (by decide) (pm_ki (fun v σ' cnt' hq => ?_))
    obtain ⟨rfl, rfl, rfl⟩ := hq
    exact pm_iret hG hF dX11_count_224 rfl (by decide) (by decide) ⟨_, rfl, (by clear hF hR hG; first | rfl | (unfold v_count; (repeat' split) <;> first | rfl | (exfalso; simp only [Int32.lt_iff_toInt_lt, Int32.le_iff_toInt_le, ← Int32.toInt_inj, Int32.toInt_zero, L_1, L_10, L_1000, L_11, L_12, L_13, L_15, L_2, L_3, L_4, L_5, L_6, L_7, L_8, L_9, L_m1000001] at *; omega) | (apply Int32.toInt_inj.mp; simp only [Int32.lt_iff_toInt_lt, Int32.le_iff_toInt_le, ← Int32.toInt_inj, Int32.toInt_zero, L_1, L_10, L_1000, L_11, L_12, L_13, L_15, L_2, L_3, L_4, L_5, L_6, L_7, L_8, L_9, L_m1000001] at *; omega))), (by repeat (first | exact pm_lies_cat | refine pm_lies.up0 (by decide) ?_)), rfl⟩
  by_cases c15 : za = 14
  · refine pm_top (v := 14) c15 ?_
    refine pm_tswIn (tgt := 225) hG dX11_count_1 (by decide) (by decide) rfl rfl ?_
    refine pm_aloadn hG dX11_count_225 rfl ?_
    refine pm_getf hG dX11_count_226 (flX11_12 _ rfl) rfl rfl ?_
    refine pm_getf hG dX11_count_229 (flX11_128 _ rfl) rfl rfl ?_
    refine pm_bipush (v := 7) hG dX11_count_232 (by decide) ?_
    refine pm_callV (As := [.int 7]) (rest := []) hG hR dX11_count_234 (lkX11_398 _ rfl) okV_X9_sumOf rfl rfl (fc_X9_sumOf_53 (d := 2) (by decide)) rfl rfl hdd (by decide) (by decide) (by decide) (pm_ki (fun v σ' cnt' hq => ?_))
    obtain ⟨rfl, rfl, rfl⟩ := hq
    exact pm_iret hG hF dX11_count_237 rfl (by decide) (by decide) ⟨_, rfl, (by clear hF hR hG; first | rfl | (unfold v_count; (repeat' split) <;> first | rfl | (exfalso; simp only [Int32.lt_iff_toInt_lt, Int32.le_iff_toInt_le, ← Int32.toInt_inj, Int32.toInt_zero, L_1, L_10, L_1000, L_11, L_12, L_13, L_14, L_15, L_2, L_3, L_4, L_5, L_6, L_7, L_8, L_9, L_m1000001] at *; omega) | (apply Int32.toInt_inj.mp; simp only [Int32.lt_iff_toInt_lt, Int32.le_iff_toInt_le, ← Int32.toInt_inj, Int32.toInt_zero, L_1, L_10, L_1000, L_11, L_12, L_13, L_14, L_15, L_2, L_3, L_4, L_5, L_6, L_7, L_8, L_9, L_m1000001] at *; omega))), (by repeat (first | exact pm_lies_cat | refine pm_lies.up0 (by decide) ?_)), rfl⟩
  by_cases c16 : za = 15
  · refine pm_top (v := 15) c16 ?_
    refine pm_tswIn (tgt := 238) hG dX11_count_1 (by decide) (by decide) rfl rfl ?_
    refine pm_aloadn hG dX11_count_238 rfl ?_
    refine pm_getf hG dX11_count_239 (flX11_39 _ rfl) rfl rfl ?_
    refine pm_callV (As := []) (rest := []) hG hR dX11_count_242 (lkX11_401 _ rfl) okV_X3_onTheirWay rfl rfl (fc_X3_onTheirWay_54 (d := 2) (by decide)) rfl rfl hdd (by decide) (by decide) (by decide) (pm_ki (fun v σ' cnt' hq => ?_))
    obtain ⟨rfl, rfl, rfl⟩ := hq
    exact pm_iret hG hF dX11_count_245 rfl (by decide) (by decide) ⟨_, rfl, (by clear hF hR hG; first | rfl | (unfold v_count; (repeat' split) <;> first | rfl | (exfalso; simp only [Int32.lt_iff_toInt_lt, Int32.le_iff_toInt_le, ← Int32.toInt_inj, Int32.toInt_zero, L_1, L_10, L_1000, L_11, L_12, L_13, L_14, L_15, L_2, L_3, L_4, L_5, L_6, L_7, L_8, L_9, L_m1000001] at *; omega) | (apply Int32.toInt_inj.mp; simp only [Int32.lt_iff_toInt_lt, Int32.le_iff_toInt_le, ← Int32.toInt_inj, Int32.toInt_zero, L_1, L_10, L_1000, L_11, L_12, L_13, L_14, L_15, L_2, L_3, L_4, L_5, L_6, L_7, L_8, L_9, L_m1000001] at *; omega))), (by repeat (first | exact pm_lies_cat | refine pm_lies.up0 (by decide) ?_)), rfl⟩
  refine pm_tswOut (tgt := 246) hG dX11_count_1 (pm_so (by revert c1 c2 c3 c4 c5 c6 c7 c8 c9 c10 c11 c12 c13 c14 c15 c16; simp only [Int32.lt_iff_toInt_lt, Int32.le_iff_toInt_le, ← Int32.toInt_inj, Int32.toInt_zero, L_1, L_10, L_11, L_12, L_13, L_14, L_15, L_2, L_3, L_4, L_5, L_6, L_7, L_8, L_9]; omega)) rfl ?_
  refine pm_aloadn hG dX11_count_246 rfl ?_
  refine pm_ldc hG dX11_count_247 (ctX11_109 _ rfl) ?_
  refine pm_callV (As := [.int (-1000001)]) (rest := []) hG hR dX11_count_249 (lkX11_97 _ rfl) okV_X11_told rfl rfl (sx_told (d := 2) (by decide) rfl rfl) rfl rfl hdd (by decide) (by decide) (by decide) (pm_ki (fun v σ' cnt' hq => ?_))
  obtain ⟨rfl, ⟨g, rfl⟩, rfl⟩ := hq
  exact pm_iret hG hF dX11_count_252 rfl (by decide) (by decide) ⟨_, rfl, (by clear hF hR hG; first | rfl | (unfold v_count; (repeat' split) <;> first | rfl | (exfalso; simp only [Int32.lt_iff_toInt_lt, Int32.le_iff_toInt_le, ← Int32.toInt_inj, Int32.toInt_zero, L_1, L_10, L_1000, L_11, L_12, L_13, L_14, L_15, L_2, L_3, L_4, L_5, L_6, L_7, L_8, L_9, L_m1000001] at *; omega) | (apply Int32.toInt_inj.mp; simp only [Int32.lt_iff_toInt_lt, Int32.le_iff_toInt_le, ← Int32.toInt_inj, Int32.toInt_zero, L_1, L_10, L_1000, L_11, L_12, L_13, L_14, L_15, L_2, L_3, L_4, L_5, L_6, L_7, L_8, L_9, L_m1000001] at *; omega))), (by repeat (first | exact pm_lies_cat | refine pm_lies.up0 (by decide) ?_)), rfl⟩

set_option maxRecDepth 100000 in
set_option maxHeartbeats 8000000 in
theorem oc_found {B : Nat} {fw : Nat → Int32} {R : List pm_C} {za : Int32} {d : Nat} (hdd : 2 ≤ d) : pm_met mX11_found d 0 0 B [.ref (B + 0), .int za] 74 (pm_cat (pm_ofL (l_k_class B fw)) 54 R) (pm_Qi (fun v σ' cnt' => v = v_found za ∧ pm_lies σ' 54 R ∧ cnt' = 74)) := by
  refine pm_enter 0 (by decide) (Nat.le_of_ble_eq_true rfl) rfl (fun G hG hR hF => ?_)
  refine pm_iloadn hG dX11_found_0 rfl ?_
  refine pm_iconst (v := 1) hG dX11_found_1 (by decide) ?_
  refine pm_icmp_lt (tgt := 28) hG dX11_found_2 rfl (fun c1 => ?_) (fun c1 => ?_)
  · refine pm_aloadn hG dX11_found_28 rfl ?_
    refine pm_ldc hG dX11_found_29 (ctX11_109 _ rfl) ?_
    refine pm_callV (As := [.int (-1000001)]) (rest := []) hG hR dX11_found_31 (lkX11_97 _ rfl) okV_X11_told rfl rfl (sx_told (d := 1) (by decide) rfl rfl) rfl rfl hdd (by decide) (by decide) (by decide) (pm_ki (fun v σ' cnt' hq => ?_))
    obtain ⟨rfl, ⟨g, rfl⟩, rfl⟩ := hq
    exact pm_iret hG hF dX11_found_34 rfl (by decide) (by decide) ⟨_, rfl, (by clear hF hR hG; first | rfl | (unfold v_found; (repeat' split) <;> first | rfl | (exfalso; simp only [Int32.lt_iff_toInt_lt, Int32.le_iff_toInt_le, ← Int32.toInt_inj, Int32.toInt_zero, L_1, L_5, L_m1000001] at *; omega) | (apply Int32.toInt_inj.mp; simp only [Int32.lt_iff_toInt_lt, Int32.le_iff_toInt_le, ← Int32.toInt_inj, Int32.toInt_zero, L_1, L_5, L_m1000001] at *; omega))), (by repeat (first | exact pm_lies_cat | refine pm_lies.up0 (by decide) ?_)), rfl⟩
  · refine pm_iloadn hG dX11_found_5 rfl ?_
    refine pm_iconst (v := 5) hG dX11_found_6 (by decide) ?_
    refine pm_icmp_gt (tgt := 28) hG dX11_found_7 rfl (fun c2 => ?_) (fun c2 => ?_)
    · refine pm_aloadn hG dX11_found_28 rfl ?_
      refine pm_ldc hG dX11_found_29 (ctX11_109 _ rfl) ?_
      refine pm_callV (As := [.int (-1000001)]) (rest := []) hG hR dX11_found_31 (lkX11_97 _ rfl) okV_X11_told rfl rfl (sx_told (d := 1) (by decide) rfl rfl) rfl rfl hdd (by decide) (by decide) (by decide) (pm_ki (fun v σ' cnt' hq => ?_))
      obtain ⟨rfl, ⟨g, rfl⟩, rfl⟩ := hq
      exact pm_iret hG hF dX11_found_34 rfl (by decide) (by decide) ⟨_, rfl, (by clear hF hR hG; first | rfl | (unfold v_found; (repeat' split) <;> first | rfl | (exfalso; simp only [Int32.lt_iff_toInt_lt, Int32.le_iff_toInt_le, ← Int32.toInt_inj, Int32.toInt_zero, L_1, L_5, L_m1000001] at *; omega) | (apply Int32.toInt_inj.mp; simp only [Int32.lt_iff_toInt_lt, Int32.le_iff_toInt_le, ← Int32.toInt_inj, Int32.toInt_zero, L_1, L_5, L_m1000001] at *; omega))), (by repeat (first | exact pm_lies_cat | refine pm_lies.up0 (by decide) ?_)), rfl⟩
    · refine pm_iloadn hG dX11_found_10 rfl ?_
      refine pm_aloadn hG dX11_found_11 rfl ?_
      refine pm_getf hG dX11_found_12 (flX11_78 _ rfl) rfl rfl ?_
      refine pm_alen (v := 6) hG dX11_found_15 rfl (by decide) ?_
      refine pm_icmp_ge (tgt := 28) hG dX11_found_16 rfl (fun q => False.elim (by revert c1 c2 q; simp only [Int32.lt_iff_toInt_lt, Int32.le_iff_toInt_le, ← Int32.toInt_inj, Int32.toInt_zero, L_1, L_5, L_6]; omega)) (fun _ => ?_)
      refine pm_aloadn hG dX11_found_19 rfl ?_
      refine pm_getf hG dX11_found_20 (flX11_78 _ rfl) rfl rfl ?_
      refine pm_iloadn hG dX11_found_23 rfl ?_
      refine pm_ialdX (v := 0) hG dX11_found_24 rfl (vp_in_iff.mpr (by revert c1 c2; simp only [Int32.lt_iff_toInt_lt, Int32.le_iff_toInt_le, ← Int32.toInt_inj, Int32.toInt_zero, Int32.toInt_add, Int32.toInt_mul, Int32.toInt_sub, Int.bmod_def, L_1, L_5]; omega)) (by rfl) ?_
      refine pm_goto (tgt := 34) hG dX11_found_25 rfl ?_
      exact pm_iret hG hF dX11_found_34 rfl (by decide) (by decide) ⟨_, rfl, (by clear hF hR hG; first | rfl | (unfold v_found; (repeat' split) <;> first | rfl | (exfalso; simp only [Int32.lt_iff_toInt_lt, Int32.le_iff_toInt_le, ← Int32.toInt_inj, Int32.toInt_zero, L_1, L_5, L_m1000001] at *; omega) | (apply Int32.toInt_inj.mp; simp only [Int32.lt_iff_toInt_lt, Int32.le_iff_toInt_le, ← Int32.toInt_inj, Int32.toInt_zero, L_1, L_5, L_m1000001] at *; omega))), (by repeat (first | exact pm_lies_cat | refine pm_lies.up0 (by decide) ?_)), rfl⟩
