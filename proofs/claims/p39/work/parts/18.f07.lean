set_option maxRecDepth 100000 in
set_option maxHeartbeats 4000000 in
theorem c_X3_write {d : Nat} {B cnt : Nat} {kp : Value} {ρ : pm_S} {S : FS} {za : Int32} {zb : Int32} {zc : Int32} {R : Int32 × FS} (hdd : 3 ≤ d) (hE : f_X3_write S za zb zc = some R) : pm_met mX3_write d 0 0 B [.ref (B + 36), .int za, .int zb, .int zc] cnt (cst B kp S ρ) (pm_Qi (fun v σ' cnt' => v = R.1 ∧ σ' = (cst B kp R.2 ρ) ∧ cnt' = cnt)) := by
  refine pm_enter 2 (by decide) (Nat.le_of_ble_eq_true rfl) rfl (fun G hG hR hF => ?_)
  unfold f_X3_write at hE
  refine pm_aloadn hG dX3_write_0 rfl ?_
  refine pm_getf hG dX3_write_1 (flX3_9 _ rfl) rfl rfl ?_
  refine pm_getf hG dX3_write_4 (flX3_32 _ rfl) rfl rfl ?_
  refine pm_iloadn hG dX3_write_7 rfl ?_
  refine pm_iconst (v := 4) hG dX3_write_8 (by decide) ?_
  refine pm_callV (As := [.int za, .int 4]) (rest := []) hG hR dX3_write_9 (lkX3_35 _ rfl) okV_X9_get rfl rfl (tget_6 (d := 2)) rfl rfl hdd (Nat.le_refl _) (Nat.le_refl _) (by decide) (fx_ki ?_)
  refine fx_letv hE (fun x1 hE => ?_)
  refine pm_istoreXi (loc' := [some (.ref (B + 36)), some (.int za), some (.int zb), some (.int zc), some (.int x1), none]) hG dX3_write_12 (by decide) (pm_c1b rfl) rfl ?_
  refine pm_aloadn hG dX3_write_14 rfl ?_
  refine pm_getf hG dX3_write_15 (flX3_29 _ rfl) rfl rfl ?_
  refine pm_iloadn hG dX3_write_18 rfl ?_
  obtain ⟨r3, h2, hE⟩ := fb_some hE
  refine pm_callV (As := [.int za]) (rest := []) hG hR dX3_write_19 (lkX3_41 _ rfl) okV_X9_append rfl rfl (tappend_14 (d := 2) (by decide) h2) rfl rfl hdd (Nat.le_refl _) (Nat.le_refl _) (by decide) (fx_ki ?_)
  refine pm_istoreXi (loc' := [some (.ref (B + 36)), some (.int za), some (.int zb), some (.int zc), some (.int x1), some (.int r3.1)]) hG dX3_write_22 (by decide) (pm_c1b rfl) rfl ?_
  refine pm_aloadn hG dX3_write_24 rfl ?_
  refine pm_getf hG dX3_write_25 (flX3_29 _ rfl) rfl rfl ?_
  refine pm_iloadi hG dX3_write_28 rfl ?_
  refine pm_iconst (v := 1) hG dX3_write_30 (by decide) ?_
  refine pm_iloadn hG dX3_write_31 rfl ?_
  refine pm_callV (As := [.int r3.1, .int 1, .int zb]) (rest := []) hG hR dX3_write_32 (lkX3_45 _ rfl) okV_X9_set rfl rfl (tset_14 (d := 2)) rfl rfl hdd (Nat.le_refl _) (Nat.le_refl _) (by decide) (fx_kv ?_)
  refine fx_letc hE (fun S4 hE => ?_)
  refine pm_aloadn hG dX3_write_35 rfl ?_
  refine pm_getf hG dX3_write_36 (flX3_29 _ rfl) rfl rfl ?_
  refine pm_iloadi hG dX3_write_39 rfl ?_
  refine pm_iconst (v := 2) hG dX3_write_41 (by decide) ?_
  refine pm_iloadn hG dX3_write_42 rfl ?_
  refine pm_callV (As := [.int r3.1, .int 2, .int zc]) (rest := []) hG hR dX3_write_43 (lkX3_45 _ rfl) okV_X9_set rfl rfl (tset_14 (d := 2)) rfl rfl hdd (Nat.le_refl _) (Nat.le_refl _) (by decide) (fx_kv ?_)
  refine fx_letc hE (fun S5 hE => ?_)
  refine pm_aloadn hG dX3_write_46 rfl ?_
  refine pm_getf hG dX3_write_47 (flX3_29 _ rfl) rfl rfl ?_
  refine pm_iloadi hG dX3_write_50 rfl ?_
  refine pm_iconst (v := 3) hG dX3_write_52 (by decide) ?_
  refine pm_iloadi hG dX3_write_53 rfl ?_
  refine pm_callV (As := [.int r3.1, .int 3, .int x1]) (rest := []) hG hR dX3_write_55 (lkX3_45 _ rfl) okV_X9_set rfl rfl (tset_14 (d := 2)) rfl rfl hdd (Nat.le_refl _) (Nat.le_refl _) (by decide) (fx_kv ?_)
  refine fx_letc hE (fun S6 hE => ?_)
  refine pm_aloadn hG dX3_write_58 rfl ?_
  refine pm_getf hG dX3_write_59 (flX3_29 _ rfl) rfl rfl ?_
  refine pm_iloadi hG dX3_write_62 rfl ?_
  refine pm_iconst (v := 5) hG dX3_write_64 (by decide) ?_
  refine pm_aloadn hG dX3_write_65 rfl ?_
  refine pm_getf hG dX3_write_66 (flX3_9 _ rfl) rfl rfl ?_
  refine pm_iloadi hG dX3_write_69 rfl ?_
  obtain ⟨x8, h7, hE⟩ := fb_some hE
  refine pm_callV (As := [.int x1]) (rest := [.int 5, .int r3.1, .ref (B + 14)]) hG hR dX3_write_71 (lkX3_49 _ rfl) okV_X7_livingIn rfl rfl (c_X7_livingIn (d := 2) (by decide) h7) rfl rfl hdd (Nat.le_refl _) (Nat.le_refl _) (by first | decide | exact Nat.le_of_ble_eq_true rfl) (fx_ki ?_)
  refine pm_callV (As := [.int r3.1, .int 5, .int x8]) (rest := []) hG hR dX3_write_74 (lkX3_45 _ rfl) okV_X9_set rfl rfl (tset_14 (d := 2)) rfl rfl hdd (Nat.le_refl _) (Nat.le_refl _) (by decide) (fx_kv ?_)
  refine fx_letc hE (fun S9 hE => ?_)
  refine pm_aloadn hG dX3_write_77 rfl ?_
  refine pm_getf hG dX3_write_78 (flX3_29 _ rfl) rfl rfl ?_
  refine pm_iloadi hG dX3_write_81 rfl ?_
  refine pm_bipush (v := 6) hG dX3_write_83 (by decide) ?_
  refine pm_iconst (v := (-1)) hG dX3_write_85 (by decide) ?_
  refine pm_callV (As := [.int r3.1, .int 6, .int (-1)]) (rest := []) hG hR dX3_write_86 (lkX3_45 _ rfl) okV_X9_set rfl rfl (tset_14 (d := 2)) rfl rfl hdd (Nat.le_refl _) (Nat.le_refl _) (by decide) (fx_kv ?_)
  refine fx_letc hE (fun S10 hE => ?_)
  refine pm_aloadn hG dX3_write_89 rfl ?_
  refine pm_getf hG dX3_write_90 (flX3_29 _ rfl) rfl rfl ?_
  refine pm_iloadi hG dX3_write_93 rfl ?_
  refine pm_bipush (v := 8) hG dX3_write_95 (by decide) ?_
  refine pm_iconst (v := (-1)) hG dX3_write_97 (by decide) ?_
  refine pm_callV (As := [.int r3.1, .int 8, .int (-1)]) (rest := []) hG hR dX3_write_98 (lkX3_45 _ rfl) okV_X9_set rfl rfl (tset_14 (d := 2)) rfl rfl hdd (Nat.le_refl _) (Nat.le_refl _) (by decide) (fx_kv ?_)
  refine fx_letc hE (fun S11 hE => ?_)
  refine pm_aloadn hG dX3_write_101 rfl ?_
  refine pm_getf hG dX3_write_102 (flX3_29 _ rfl) rfl rfl ?_
  refine pm_iloadi hG dX3_write_105 rfl ?_
  refine pm_bipush (v := 9) hG dX3_write_107 (by decide) ?_
  refine pm_iconst (v := (-1)) hG dX3_write_109 (by decide) ?_
  refine pm_callV (As := [.int r3.1, .int 9, .int (-1)]) (rest := []) hG hR dX3_write_110 (lkX3_45 _ rfl) okV_X9_set rfl rfl (tset_14 (d := 2)) rfl rfl hdd (Nat.le_refl _) (Nat.le_refl _) (by decide) (fx_kv ?_)
  refine fx_letc hE (fun S12 hE => ?_)
  refine pm_aloadn hG dX3_write_113 rfl ?_
  refine pm_getf hG dX3_write_114 (flX3_29 _ rfl) rfl rfl ?_
  refine pm_iloadi hG dX3_write_117 rfl ?_
  refine pm_bipush (v := 10) hG dX3_write_119 (by decide) ?_
  refine pm_iconst (v := (-1)) hG dX3_write_121 (by decide) ?_
  refine pm_callV (As := [.int r3.1, .int 10, .int (-1)]) (rest := []) hG hR dX3_write_122 (lkX3_45 _ rfl) okV_X9_set rfl rfl (tset_14 (d := 2)) rfl rfl hdd (Nat.le_refl _) (Nat.le_refl _) (by decide) (fx_kv ?_)
  refine fx_letc hE (fun S13 hE => ?_)
  refine pm_iloadi hG dX3_write_125 rfl ?_
  exact pm_iret hG hF dX3_write_127 rfl (Nat.le_refl _) (Nat.le_refl _) (fx_ric hE)

set_option maxRecDepth 100000 in
set_option maxHeartbeats 4000000 in
theorem c_X11_draw {d : Nat} {B cnt : Nat} {kp : Value} {ρ : pm_S} {S : FS} {za : Int32} {zb : Int32} {zc : Int32} {R : Int32 × FS} (hdd : 4 ≤ d) (hE : f_X11_draw S za zb zc = some R) : pm_met mX11_draw d 0 0 B [.ref (B + 0), .int za, .int zb, .int zc] cnt (cst B kp S ρ) (pm_Qi (fun v σ' cnt' => v = R.1 ∧ σ' = (cst B kp R.2 ρ) ∧ cnt' = cnt)) := by
  refine pm_enter 0 (by decide) (Nat.le_of_ble_eq_true rfl) rfl (fun G hG hR hF => ?_)
  unfold f_X11_draw at hE
  refine pm_aloadn hG dX11_draw_0 rfl ?_
  refine pm_getf hG dX11_draw_1 (flX11_12 _ rfl) rfl rfl ?_
  refine pm_getf hG dX11_draw_4 (flX11_128 _ rfl) rfl rfl ?_
  refine pm_iloadn hG dX11_draw_7 rfl ?_
  refine pm_callV (As := [.int za]) (rest := []) hG hR dX11_draw_8 (lkX11_101 _ rfl) okV_X9_has rfl rfl (thas_6 (d := 3)) rfl rfl hdd (Nat.le_refl _) (Nat.le_refl _) (by decide) (fx_ki ?_)
  refine pm_if_eq (tgt := 34) hG dX11_draw_11 rfl (fun c1 => ?_) (fun c1 => ?_)
  · replace hE := fx_t c1 hE
    refine pm_aloadn hG dX11_draw_34 rfl ?_
    refine pm_ldc hG dX11_draw_35 (ctX11_109 _ rfl) ?_
    obtain ⟨r3, h2, hE⟩ := fb_some hE
    refine pm_callV (As := [.int (-1000001)]) (rest := []) hG hR dX11_draw_37 (lkX11_97 _ rfl) okV_X11_told rfl rfl (c_X11_told (d := 3) (by decide) h2) rfl rfl hdd (Nat.le_refl _) (Nat.le_refl _) (by decide) (fx_ki ?_)
    exact pm_iret hG hF dX11_draw_40 rfl (Nat.le_refl _) (Nat.le_refl _) (fx_ric hE)
  · replace hE := fx_f c1 hE
    refine pm_iloadn hG dX11_draw_14 rfl ?_
    refine pm_iconst (v := 0) hG dX11_draw_15 (by decide) ?_
    refine pm_iconst (v := 4) hG dX11_draw_16 (by decide) ?_
    refine pm_callS (As := [.int zb, .int 0, .int 4]) (rest := []) hG hR dX11_draw_17 (lkX11_105 _ rfl) okS_X11_isOutside (tOut (d := 3)) rfl rfl hdd (Nat.le_refl _) (Nat.le_refl _) (by decide) (fx_ki ?_)
    refine pm_if_ne (tgt := 34) hG dX11_draw_20 rfl (fun c4 => ?_) (fun c4 => ?_)
    · replace hE := fx_f c4 hE
      refine pm_aloadn hG dX11_draw_34 rfl ?_
      refine pm_ldc hG dX11_draw_35 (ctX11_109 _ rfl) ?_
      obtain ⟨r6, h5, hE⟩ := fb_some hE
      refine pm_callV (As := [.int (-1000001)]) (rest := []) hG hR dX11_draw_37 (lkX11_97 _ rfl) okV_X11_told rfl rfl (c_X11_told (d := 3) (by decide) h5) rfl rfl hdd (Nat.le_refl _) (Nat.le_refl _) (by decide) (fx_ki ?_)
      exact pm_iret hG hF dX11_draw_40 rfl (Nat.le_refl _) (Nat.le_refl _) (fx_ric hE)
    · replace hE := fx_t c4 hE
      refine pm_iloadn hG dX11_draw_23 rfl ?_
      refine pm_iconst (v := 0) hG dX11_draw_24 (by decide) ?_
      refine pm_sipush (v := 999) hG dX11_draw_25 (by decide) ?_
      refine pm_callS (As := [.int zc, .int 0, .int 999]) (rest := []) hG hR dX11_draw_28 (lkX11_105 _ rfl) okS_X11_isOutside (tOut (d := 3)) rfl rfl hdd (Nat.le_refl _) (Nat.le_refl _) (by decide) (fx_ki ?_)
      refine pm_if_eq (tgt := 41) hG dX11_draw_31 rfl (fun c7 => ?_) (fun c7 => ?_)
      · replace hE := fx_t c7 hE
        refine pm_aloadn hG dX11_draw_41 rfl ?_
        refine pm_getf hG dX11_draw_42 (flX11_12 _ rfl) rfl rfl ?_
        refine pm_iloadn hG dX11_draw_45 rfl ?_
        refine pm_callV (As := [.int za]) (rest := []) hG hR dX11_draw_46 (lkX11_146 _ rfl) okV_X7_isInTown rfl rfl (c_X7_isInTown (d := 3) (by decide) rfl) rfl rfl hdd (Nat.le_refl _) (Nat.le_refl _) (by decide) (fx_ki ?_)
        refine pm_if_ne (tgt := 59) hG dX11_draw_49 rfl (fun c8 => ?_) (fun c8 => ?_)
        · replace hE := fx_f c8 hE
          refine pm_aloadn hG dX11_draw_59 rfl ?_
          refine pm_aloadn hG dX11_draw_60 rfl ?_
          refine pm_getf hG dX11_draw_61 (flX11_12 _ rfl) rfl rfl ?_
          refine pm_getf hG dX11_draw_64 (flX11_224 _ rfl) rfl rfl ?_
          refine pm_callV (As := []) (rest := [.ref (B + 0)]) hG hR dX11_draw_67 (lkX11_86 _ rfl) okV_X9_isFull rfl rfl (tisFull_14 (d := 3)) rfl rfl hdd (Nat.le_refl _) (Nat.le_refl _) (by first | decide | exact Nat.le_of_ble_eq_true rfl) (fx_ki ?_)
          refine pm_if_eq (tgt := 78) hG dX11_draw_70 rfl (fun c9 => ?_) (fun c9 => ?_)
          · replace hE := fx_t c9 hE
            refine pm_aloadn hG dX11_draw_78 rfl ?_
            refine pm_getf hG dX11_draw_79 (flX11_39 _ rfl) rfl rfl ?_
            refine pm_iloadn hG dX11_draw_82 rfl ?_
            refine pm_iloadn hG dX11_draw_83 rfl ?_
            refine pm_iloadn hG dX11_draw_84 rfl ?_
            obtain ⟨r11, h10, hE⟩ := fb_some hE
            refine pm_callV (As := [.int za, .int zb, .int zc]) (rest := [.ref (B + 0)]) hG hR dX11_draw_85 (lkX11_230 _ rfl) okV_X3_write rfl rfl (c_X3_write (d := 3) (by decide) h10) rfl rfl hdd (Nat.le_refl _) (Nat.le_refl _) (by first | decide | exact Nat.le_of_ble_eq_true rfl) (fx_ki ?_)
            obtain ⟨r13, h12, hE⟩ := fb_some hE
            refine pm_callV (As := [.int r11.1]) (rest := []) hG hR dX11_draw_88 (lkX11_97 _ rfl) okV_X11_told rfl rfl (c_X11_told (d := 3) (by decide) h12) rfl rfl hdd (Nat.le_refl _) (Nat.le_refl _) (by decide) (fx_ki ?_)
            exact pm_iret hG hF dX11_draw_91 rfl (Nat.le_refl _) (Nat.le_refl _) (fx_ric hE)
          · replace hE := fx_f c9 hE
            refine pm_ldc hG dX11_draw_73 (ctX11_92 _ rfl) ?_
            refine pm_goto (tgt := 88) hG dX11_draw_75 rfl ?_
            obtain ⟨r15, h14, hE⟩ := fb_some hE
            refine pm_callV (As := [.int (-1000004)]) (rest := []) hG hR dX11_draw_88 (lkX11_97 _ rfl) okV_X11_told rfl rfl (c_X11_told (d := 3) (by decide) h14) rfl rfl hdd (Nat.le_refl _) (Nat.le_refl _) (by decide) (fx_ki ?_)
            exact pm_iret hG hF dX11_draw_91 rfl (Nat.le_refl _) (Nat.le_refl _) (fx_ric hE)
        · replace hE := fx_t c8 hE
          refine pm_aloadn hG dX11_draw_52 rfl ?_
          refine pm_ldc hG dX11_draw_53 (ctX11_138 _ rfl) ?_
          obtain ⟨r17, h16, hE⟩ := fb_some hE
          refine pm_callV (As := [.int (-1000003)]) (rest := []) hG hR dX11_draw_55 (lkX11_97 _ rfl) okV_X11_told rfl rfl (c_X11_told (d := 3) (by decide) h16) rfl rfl hdd (Nat.le_refl _) (Nat.le_refl _) (by decide) (fx_ki ?_)
          exact pm_iret hG hF dX11_draw_58 rfl (Nat.le_refl _) (Nat.le_refl _) (fx_ric hE)
      · replace hE := fx_f c7 hE
        refine pm_aloadn hG dX11_draw_34 rfl ?_
        refine pm_ldc hG dX11_draw_35 (ctX11_109 _ rfl) ?_
        obtain ⟨r19, h18, hE⟩ := fb_some hE
        refine pm_callV (As := [.int (-1000001)]) (rest := []) hG hR dX11_draw_37 (lkX11_97 _ rfl) okV_X11_told rfl rfl (c_X11_told (d := 3) (by decide) h18) rfl rfl hdd (Nat.le_refl _) (Nat.le_refl _) (by decide) (fx_ki ?_)
        exact pm_iret hG hF dX11_draw_40 rfl (Nat.le_refl _) (Nat.le_refl _) (fx_ric hE)

set_option maxRecDepth 100000 in
set_option maxHeartbeats 4000000 in
theorem c_X7_wayBetween {d : Nat} {B cnt : Nat} {kp : Value} {ρ : pm_S} {S : FS} {za : Int32} {zb : Int32} {R : Int32} (hdd : 1 ≤ d) (hE : p_X7_wayBetween S za zb = R) : pm_met mX7_wayBetween d 0 0 B [.ref (B + 1), .int za, .int zb] cnt (cst B kp S ρ) (pm_Qi (fun v σ' cnt' => v = R ∧ σ' = (cst B kp S ρ) ∧ cnt' = cnt)) := by
  refine pm_enter 1 (by decide) (Nat.le_of_ble_eq_true rfl) rfl (fun G hG hR hF => ?_)
  unfold p_X7_wayBetween at hE
  refine pm_aloadn hG dX7_wayBetween_0 rfl ?_
  refine pm_getf hG dX7_wayBetween_1 (flX7_20 _ rfl) rfl rfl ?_
  refine pm_iloadn hG dX7_wayBetween_4 rfl ?_
  refine pm_iloadn hG dX7_wayBetween_5 rfl ?_
  refine pm_callV (As := [.int za, .int zb]) (rest := []) hG hR dX7_wayBetween_6 (lkX7_83 _ rfl) okV_X9_get rfl rfl (tget_4 (d := 0)) rfl rfl hdd (Nat.le_refl _) (Nat.le_refl _) (by decide) (fx_ki ?_)
  refine fx_letv hE (fun x1 hE => ?_)
  refine pm_istoreXn (loc' := [some (.ref (B + 1)), some (.int za), some (.int zb), some (.int x1)]) hG dX7_wayBetween_9 (by decide) (pm_c1b rfl) rfl ?_
  refine pm_iloadn hG dX7_wayBetween_10 rfl ?_
  refine pm_sipush (v := 1000) hG dX7_wayBetween_11 (by decide) ?_
  refine pm_icmp_lt (tgt := 22) hG dX7_wayBetween_14 rfl (fun c2 => ?_) (fun c2 => ?_)
  · replace hE := fx_t c2 hE
    refine pm_iloadn hG dX7_wayBetween_22 rfl ?_
    exact pm_iret hG hF dX7_wayBetween_23 rfl  (Nat.le_refl _) (Nat.le_refl _) (fx_pi hE)
  · replace hE := fx_f c2 hE
    refine pm_ldc hG dX7_wayBetween_17 (ctX7_92 _ rfl) ?_
    refine pm_goto (tgt := 23) hG dX7_wayBetween_19 rfl ?_
    exact pm_iret hG hF dX7_wayBetween_23 rfl  (Nat.le_refl _) (Nat.le_refl _) (fx_pi hE)

set_option maxRecDepth 100000 in
set_option maxHeartbeats 4000000 in
theorem c_X11_far {d : Nat} {B cnt : Nat} {kp : Value} {ρ : pm_S} {S : FS} {za : Int32} {zb : Int32} {R : Int32 × FS} (hdd : 2 ≤ d) (hE : f_X11_far S za zb = some R) : pm_met mX11_far d 0 0 B [.ref (B + 0), .int za, .int zb] cnt (cst B kp S ρ) (pm_Qi (fun v σ' cnt' => v = R.1 ∧ σ' = (cst B kp R.2 ρ) ∧ cnt' = cnt)) := by
  refine pm_enter 0 (by decide) (Nat.le_of_ble_eq_true rfl) rfl (fun G hG hR hF => ?_)
  unfold f_X11_far at hE
  refine pm_aloadn hG dX11_far_0 rfl ?_
  refine pm_getf hG dX11_far_1 (flX11_12 _ rfl) rfl rfl ?_
  refine pm_getf hG dX11_far_4 (flX11_82 _ rfl) rfl rfl ?_
  refine pm_iloadn hG dX11_far_7 rfl ?_
  refine pm_callV (As := [.int za]) (rest := []) hG hR dX11_far_8 (lkX11_101 _ rfl) okV_X9_has rfl rfl (thas_2 (d := 1)) rfl rfl hdd (Nat.le_refl _) (Nat.le_refl _) (by decide) (fx_ki ?_)
  refine pm_if_eq (tgt := 28) hG dX11_far_11 rfl (fun c1 => ?_) (fun c1 => ?_)
  · replace hE := fx_t c1 hE
    refine pm_aloadn hG dX11_far_28 rfl ?_
    refine pm_ldc hG dX11_far_29 (ctX11_109 _ rfl) ?_
    obtain ⟨r3, h2, hE⟩ := fb_some hE
    refine pm_callV (As := [.int (-1000001)]) (rest := []) hG hR dX11_far_31 (lkX11_97 _ rfl) okV_X11_told rfl rfl (c_X11_told (d := 1) (by decide) h2) rfl rfl hdd (Nat.le_refl _) (Nat.le_refl _) (by decide) (fx_ki ?_)
    exact pm_iret hG hF dX11_far_34 rfl (Nat.le_refl _) (Nat.le_refl _) (fx_ric hE)
  · replace hE := fx_f c1 hE
    refine pm_aloadn hG dX11_far_14 rfl ?_
    refine pm_getf hG dX11_far_15 (flX11_12 _ rfl) rfl rfl ?_
    refine pm_getf hG dX11_far_18 (flX11_82 _ rfl) rfl rfl ?_
    refine pm_iloadn hG dX11_far_21 rfl ?_
    refine pm_callV (As := [.int zb]) (rest := []) hG hR dX11_far_22 (lkX11_101 _ rfl) okV_X9_has rfl rfl (thas_2 (d := 1)) rfl rfl hdd (Nat.le_refl _) (Nat.le_refl _) (by decide) (fx_ki ?_)
    refine pm_if_ne (tgt := 35) hG dX11_far_25 rfl (fun c4 => ?_) (fun c4 => ?_)
    · replace hE := fx_f c4 hE
      refine pm_aloadn hG dX11_far_35 rfl ?_
      refine pm_aloadn hG dX11_far_36 rfl ?_
      refine pm_getf hG dX11_far_37 (flX11_12 _ rfl) rfl rfl ?_
      refine pm_iloadn hG dX11_far_40 rfl ?_
      refine pm_iloadn hG dX11_far_41 rfl ?_
      refine pm_callV (As := [.int za, .int zb]) (rest := [.ref (B + 0)]) hG hR dX11_far_42 (lkX11_118 _ rfl) okV_X7_wayBetween rfl rfl (c_X7_wayBetween (d := 1) (by decide) rfl) rfl rfl hdd (Nat.le_refl _) (Nat.le_refl _) (by first | decide | exact Nat.le_of_ble_eq_true rfl) (fx_ki ?_)
      obtain ⟨r6, h5, hE⟩ := fb_some hE
      refine pm_callV (As := [.int (p_X7_wayBetween S za zb)]) (rest := []) hG hR dX11_far_45 (lkX11_97 _ rfl) okV_X11_told rfl rfl (c_X11_told (d := 1) (by decide) h5) rfl rfl hdd (Nat.le_refl _) (Nat.le_refl _) (by decide) (fx_ki ?_)
      exact pm_iret hG hF dX11_far_48 rfl (Nat.le_refl _) (Nat.le_refl _) (fx_ric hE)
    · replace hE := fx_t c4 hE
      refine pm_aloadn hG dX11_far_28 rfl ?_
      refine pm_ldc hG dX11_far_29 (ctX11_109 _ rfl) ?_
      obtain ⟨r8, h7, hE⟩ := fb_some hE
      refine pm_callV (As := [.int (-1000001)]) (rest := []) hG hR dX11_far_31 (lkX11_97 _ rfl) okV_X11_told rfl rfl (c_X11_told (d := 1) (by decide) h7) rfl rfl hdd (Nat.le_refl _) (Nat.le_refl _) (by decide) (fx_ki ?_)
      exact pm_iret hG hF dX11_far_34 rfl (Nat.le_refl _) (Nat.le_refl _) (fx_ric hE)

set_option maxRecDepth 100000 in
set_option maxHeartbeats 4000000 in
theorem c_X11_feed {d : Nat} {B cnt : Nat} {kp : Value} {ρ : pm_S} {S : FS} {za : Int64} {zb : Int32} {R : Int32 × FS} (hdd : 2 ≤ d) (hE : f_X11_feed S za zb = some R) : pm_met mX11_feed d 0 0 B [.ref (B + 0), .long za, .int zb] cnt (cst B kp S ρ) (pm_Qi (fun v σ' cnt' => v = R.1 ∧ σ' = (cst B kp R.2 ρ) ∧ cnt' = cnt)) := by
  refine pm_enter 1 (by decide) (Nat.le_of_ble_eq_true rfl) rfl (fun G hG hR hF => ?_)
  unfold f_X11_feed at hE
  refine pm_iloadn hG dX11_feed_0 rfl ?_
  refine pm_iconst (v := 1) hG dX11_feed_1 (by decide) ?_
  refine pm_bipush (v := 8) hG dX11_feed_2 (by decide) ?_
  refine pm_callS (As := [.int zb, .int 1, .int 8]) (rest := []) hG hR dX11_feed_4 (lkX11_105 _ rfl) okS_X11_isOutside (tOut (d := 1)) rfl rfl hdd (Nat.le_refl _) (Nat.le_refl _) (by decide) (fx_ki ?_)
  refine pm_if_eq (tgt := 17) hG dX11_feed_7 rfl (fun c1 => ?_) (fun c1 => ?_)
  · replace hE := fx_t c1 hE
    refine pm_aloadn hG dX11_feed_17 rfl ?_
    refine pm_getf hG dX11_feed_18 (flX11_12 _ rfl) rfl rfl ?_
    refine pm_getf hG dX11_feed_21 (flX11_200 _ rfl) rfl rfl ?_
    refine pm_callV (As := []) (rest := []) hG hR dX11_feed_24 (lkX11_203 _ rfl) okV_X9_used rfl rfl (tused_24 (d := 1)) rfl rfl hdd (Nat.le_refl _) (Nat.le_refl _) (by decide) (fx_ki ?_)
    refine pm_iloadn hG dX11_feed_27 rfl ?_
    refine pm_iadd hG dX11_feed_28 ?_
    refine pm_bipush (v := 60) hG dX11_feed_29 (by decide) ?_
    refine pm_icmp_le (tgt := 41) hG dX11_feed_31 rfl (fun c2 => ?_) (fun c2 => ?_)
    · replace c2 := Int32.not_lt.mpr c2
      replace hE := fx_f c2 hE
      refine pm_iconst (v := 0) hG dX11_feed_41 (by decide) ?_
      refine pm_istoreXi (loc' := [some (.ref (B + 0)), some (.long za), none, some (.int zb), some (.int 0)]) hG dX11_feed_42 (by decide) (pm_c1b rfl) rfl ?_
      have loop44 : ∀ (k44 : FS → Int32 → Option (Int32 × FS)), (∀ (S3 : FS) (x3_4 : Int32), k44 S3  x3_4 = some R → pm_wp mX11_feed G B 79 [some (.ref (B + 0)), some (.long za), none, some (.int zb), some (.int x3_4)] [] 0 0 cnt (cst B kp S3 ρ)) → ∀ (m44 : Nat) (S3 : FS) (x3_4 : Int32), l_X11_feed_44 za zb k44 m44 S3  x3_4 = some R → pm_wp mX11_feed G B 44 [some (.ref (B + 0)), some (.long za), none, some (.int zb), some (.int x3_4)] [] 0 0 cnt (cst B kp S3 ρ) := by
        intro k44 hk44 m44
        induction m44 with
        | zero => intro S3  x3_4 hE; exact fx_no hE
        | succ m44 ih44 =>
          intro S3  x3_4 hE
          rw [l_X11_feed_44] at hE
          refine pm_iloadi hG dX11_feed_44 rfl ?_
          refine pm_iloadn hG dX11_feed_46 rfl ?_
          refine pm_icmp_ge (tgt := 79) hG dX11_feed_47 rfl (fun c4 => ?_) (fun c4 => ?_)
          · replace c4 := Int32.not_lt.mpr c4
            replace hE := fx_f c4 hE
            exact hk44 _ _ hE
          · replace c4 := Int32.not_le.mp c4
            replace hE := fx_t c4 hE
            refine pm_aloadn hG dX11_feed_50 rfl ?_
            refine pm_getf hG dX11_feed_51 (flX11_12 _ rfl) rfl rfl ?_
            refine pm_getf hG dX11_feed_54 (flX11_200 _ rfl) rfl rfl ?_
            refine pm_lloadn hG dX11_feed_57 rfl ?_
            refine pm_bipush (v := 8) hG dX11_feed_58 (by decide) ?_
            refine pm_iloadi hG dX11_feed_60 rfl ?_
            refine pm_imul hG dX11_feed_62 ?_
            refine pm_lushr hG dX11_feed_63 rfl ?_
            refine pm_l2i hG dX11_feed_64 rfl ?_
            refine pm_sipush (v := 255) hG dX11_feed_65 (by decide) ?_
            refine pm_iand hG dX11_feed_68 ?_
            obtain ⟨r6, h5, hE⟩ := fb_some hE
            refine pm_callV (As := [.int ((((za.toUInt64 >>> ((8 * x3_4 : Int32).toInt64.toUInt64 &&& Int64.toUInt64 63)).toInt64).toInt32) &&& 255)]) (rest := []) hG hR dX11_feed_69 (lkX11_206 _ rfl) okV_X9_append rfl rfl (tappend_24 (d := 1) (by decide) h5) rfl rfl hdd (Nat.le_refl _) (Nat.le_refl _) (by decide) (fx_ki ?_)
            refine pm_pop hG dX11_feed_72 rfl ?_
            refine pm_iincX (v := x3_4 + 1) (loc' := [some (.ref (B + 0)), some (.long za), none, some (.int zb), some (.int (x3_4 + 1))]) hG dX11_feed_73 rfl (by rfl) (by decide) (pm_c1b rfl) rfl ?_
            refine pm_goto (tgt := 44) hG dX11_feed_76 rfl ?_
            exact ih44 _ _ hE
      refine loop44 _ (fun S7 x7_4 hE => ?_) _ _ _ hE
      refine pm_aloadn hG dX11_feed_79 rfl ?_
      refine pm_getf hG dX11_feed_80 (flX11_12 _ rfl) rfl rfl ?_
      refine pm_getf hG dX11_feed_83 (flX11_200 _ rfl) rfl rfl ?_
      refine pm_callV (As := []) (rest := []) hG hR dX11_feed_86 (lkX11_203 _ rfl) okV_X9_used rfl rfl (tused_24 (d := 1)) rfl rfl hdd (Nat.le_refl _) (Nat.le_refl _) (by decide) (fx_ki ?_)
      exact pm_iret hG hF dX11_feed_89 rfl (Nat.le_refl _) (Nat.le_refl _) (fx_ric hE)
    · replace c2 := Int32.not_le.mp c2
      replace hE := fx_t c2 hE
      refine pm_aloadn hG dX11_feed_34 rfl ?_
      refine pm_ldc hG dX11_feed_35 (ctX11_92 _ rfl) ?_
      obtain ⟨r9, h8, hE⟩ := fb_some hE
      refine pm_callV (As := [.int (-1000004)]) (rest := []) hG hR dX11_feed_37 (lkX11_97 _ rfl) okV_X11_told rfl rfl (c_X11_told (d := 1) (by decide) h8) rfl rfl hdd (Nat.le_refl _) (Nat.le_refl _) (by decide) (fx_ki ?_)
      exact pm_iret hG hF dX11_feed_40 rfl (Nat.le_refl _) (Nat.le_refl _) (fx_ric hE)
  · replace hE := fx_f c1 hE
    refine pm_aloadn hG dX11_feed_10 rfl ?_
    refine pm_ldc hG dX11_feed_11 (ctX11_109 _ rfl) ?_
    obtain ⟨r11, h10, hE⟩ := fb_some hE
    refine pm_callV (As := [.int (-1000001)]) (rest := []) hG hR dX11_feed_13 (lkX11_97 _ rfl) okV_X11_told rfl rfl (c_X11_told (d := 1) (by decide) h10) rfl rfl hdd (Nat.le_refl _) (Nat.le_refl _) (by decide) (fx_ki ?_)
    exact pm_iret hG hF dX11_feed_16 rfl (Nat.le_refl _) (Nat.le_refl _) (fx_ric hE)

set_option maxRecDepth 100000 in
set_option maxHeartbeats 4000000 in
theorem c_X11_force {d : Nat} {B cnt : Nat} {kp : Value} {ρ : pm_S} {S : FS} {za : Int32} {zb : Int32} {zc : Int32} {R : Int32 × FS} (hdd : 2 ≤ d) (hE : f_X11_force S za zb zc = some R) : pm_met mX11_force d 0 0 B [.ref (B + 0), .int za, .int zb, .int zc] cnt (cst B kp S ρ) (pm_Qi (fun v σ' cnt' => v = R.1 ∧ σ' = (cst B kp R.2 ρ) ∧ cnt' = cnt)) := by
  refine pm_enter 1 (by decide) (Nat.le_of_ble_eq_true rfl) rfl (fun G hG hR hF => ?_)
  unfold f_X11_force at hE
  refine pm_iloadn hG dX11_force_0 rfl ?_
  refine pm_iconst (v := 0) hG dX11_force_1 (by decide) ?_
  refine pm_iconst (v := 4) hG dX11_force_2 (by decide) ?_
  refine pm_callS (As := [.int za, .int 0, .int 4]) (rest := []) hG hR dX11_force_3 (lkX11_105 _ rfl) okS_X11_isOutside (tOut (d := 1)) rfl rfl hdd (Nat.le_refl _) (Nat.le_refl _) (by decide) (fx_ki ?_)
  refine pm_if_ne (tgt := 31) hG dX11_force_6 rfl (fun c1 => ?_) (fun c1 => ?_)
  · replace hE := fx_f c1 hE
    refine pm_aloadn hG dX11_force_31 rfl ?_
    refine pm_ldc hG dX11_force_32 (ctX11_109 _ rfl) ?_
    obtain ⟨r3, h2, hE⟩ := fb_some hE
    refine pm_callV (As := [.int (-1000001)]) (rest := []) hG hR dX11_force_34 (lkX11_97 _ rfl) okV_X11_told rfl rfl (c_X11_told (d := 1) (by decide) h2) rfl rfl hdd (Nat.le_refl _) (Nat.le_refl _) (by decide) (fx_ki ?_)
    exact pm_iret hG hF dX11_force_37 rfl (Nat.le_refl _) (Nat.le_refl _) (fx_ric hE)
  · replace hE := fx_t c1 hE
    refine pm_iloadn hG dX11_force_9 rfl ?_
    refine pm_iconst (v := 0) hG dX11_force_10 (by decide) ?_
    refine pm_sipush (v := 2000) hG dX11_force_11 (by decide) ?_
    refine pm_callS (As := [.int zb, .int 0, .int 2000]) (rest := []) hG hR dX11_force_14 (lkX11_105 _ rfl) okS_X11_isOutside (tOut (d := 1)) rfl rfl hdd (Nat.le_refl _) (Nat.le_refl _) (by decide) (fx_ki ?_)
    refine pm_if_ne (tgt := 31) hG dX11_force_17 rfl (fun c4 => ?_) (fun c4 => ?_)
    · replace hE := fx_f c4 hE
      refine pm_aloadn hG dX11_force_31 rfl ?_
      refine pm_ldc hG dX11_force_32 (ctX11_109 _ rfl) ?_
      obtain ⟨r6, h5, hE⟩ := fb_some hE
      refine pm_callV (As := [.int (-1000001)]) (rest := []) hG hR dX11_force_34 (lkX11_97 _ rfl) okV_X11_told rfl rfl (c_X11_told (d := 1) (by decide) h5) rfl rfl hdd (Nat.le_refl _) (Nat.le_refl _) (by decide) (fx_ki ?_)
      exact pm_iret hG hF dX11_force_37 rfl (Nat.le_refl _) (Nat.le_refl _) (fx_ric hE)
    · replace hE := fx_t c4 hE
      refine pm_iloadn hG dX11_force_20 rfl ?_
      refine pm_iconst (v := (-1)) hG dX11_force_21 (by decide) ?_
      refine pm_sipush (v := 2000) hG dX11_force_22 (by decide) ?_
      refine pm_callS (As := [.int zc, .int (-1), .int 2000]) (rest := []) hG hR dX11_force_25 (lkX11_105 _ rfl) okS_X11_isOutside (tOut (d := 1)) rfl rfl hdd (Nat.le_refl _) (Nat.le_refl _) (by decide) (fx_ki ?_)
      refine pm_if_eq (tgt := 38) hG dX11_force_28 rfl (fun c7 => ?_) (fun c7 => ?_)
      · replace hE := fx_t c7 hE
        refine pm_aloadn hG dX11_force_38 rfl ?_
        refine pm_getf hG dX11_force_39 (flX11_21 _ rfl) rfl rfl ?_
        refine pm_iloadn hG dX11_force_42 rfl ?_
        refine pm_iloadn hG dX11_force_43 rfl ?_
        refine pm_iloadn hG dX11_force_44 rfl ?_
        obtain ⟨x9, h8, hE⟩ := fb_some hE
        refine pm_callV (As := [.int za, .int zb, .int zc]) (rest := []) hG hR dX11_force_45 (lkX11_220 _ rfl) okV_X2_inForce rfl rfl (c_X2_inForce (d := 1) (by decide) h8) rfl rfl hdd (Nat.le_refl _) (Nat.le_refl _) (by decide) (fx_ki ?_)
        refine pm_istoreXi (loc' := [some (.ref (B + 0)), some (.int za), some (.int zb), some (.int zc), some (.int x9)]) hG dX11_force_48 (by decide) (pm_c1b rfl) rfl ?_
        refine pm_aloadn hG dX11_force_50 rfl ?_
        refine pm_iloadi hG dX11_force_51 rfl ?_
        refine pm_if_ge (tgt := 61) hG dX11_force_53 rfl (fun c10 => ?_) (fun c10 => ?_)
        · replace c10 := Int32.not_lt.mpr c10
          replace hE := fx_f c10 hE
          refine pm_iloadi hG dX11_force_61 rfl ?_
          obtain ⟨r12, h11, hE⟩ := fb_some hE
          refine pm_callV (As := [.int x9]) (rest := []) hG hR dX11_force_63 (lkX11_97 _ rfl) okV_X11_told rfl rfl (c_X11_told (d := 1) (by decide) h11) rfl rfl hdd (Nat.le_refl _) (Nat.le_refl _) (by decide) (fx_ki ?_)
          exact pm_iret hG hF dX11_force_66 rfl (Nat.le_refl _) (Nat.le_refl _) (fx_ric hE)
        · replace c10 := Int32.not_le.mp c10
          replace hE := fx_t c10 hE
          refine pm_ldc hG dX11_force_56 (ctX11_223 _ rfl) ?_
          refine pm_goto (tgt := 63) hG dX11_force_58 rfl ?_
          obtain ⟨r14, h13, hE⟩ := fb_some hE
          refine pm_callV (As := [.int (-1000002)]) (rest := []) hG hR dX11_force_63 (lkX11_97 _ rfl) okV_X11_told rfl rfl (c_X11_told (d := 1) (by decide) h13) rfl rfl hdd (Nat.le_refl _) (Nat.le_refl _) (by decide) (fx_ki ?_)
          exact pm_iret hG hF dX11_force_66 rfl (Nat.le_refl _) (Nat.le_refl _) (fx_ric hE)
      · replace hE := fx_f c7 hE
        refine pm_aloadn hG dX11_force_31 rfl ?_
        refine pm_ldc hG dX11_force_32 (ctX11_109 _ rfl) ?_
        obtain ⟨r16, h15, hE⟩ := fb_some hE
        refine pm_callV (As := [.int (-1000001)]) (rest := []) hG hR dX11_force_34 (lkX11_97 _ rfl) okV_X11_told rfl rfl (c_X11_told (d := 1) (by decide) h15) rfl rfl hdd (Nat.le_refl _) (Nat.le_refl _) (by decide) (fx_ki ?_)
        exact pm_iret hG hF dX11_force_37 rfl (Nat.le_refl _) (Nat.le_refl _) (fx_ric hE)

set_option maxRecDepth 100000 in
set_option maxHeartbeats 4000000 in
theorem c_X11_found {d : Nat} {B cnt : Nat} {kp : Value} {ρ : pm_S} {S : FS} {za : Int32} {R : Int32 × FS} (hdd : 2 ≤ d) (hE : f_X11_found S za = some R) : pm_met mX11_found d 0 0 B [.ref (B + 0), .int za] cnt (cst B kp S ρ) (pm_Qi (fun v σ' cnt' => v = R.1 ∧ σ' = (cst B kp R.2 ρ) ∧ cnt' = cnt)) := by
  refine pm_enter 0 (by decide) (Nat.le_of_ble_eq_true rfl) rfl (fun G hG hR hF => ?_)
  unfold f_X11_found at hE
  refine pm_iloadn hG dX11_found_0 rfl ?_
  refine pm_iconst (v := 1) hG dX11_found_1 (by decide) ?_
  refine pm_icmp_lt (tgt := 28) hG dX11_found_2 rfl (fun c1 => ?_) (fun c1 => ?_)
  · replace hE := fx_t c1 hE
    refine pm_aloadn hG dX11_found_28 rfl ?_
    refine pm_ldc hG dX11_found_29 (ctX11_109 _ rfl) ?_
    obtain ⟨r3, h2, hE⟩ := fb_some hE
    refine pm_callV (As := [.int (-1000001)]) (rest := []) hG hR dX11_found_31 (lkX11_97 _ rfl) okV_X11_told rfl rfl (c_X11_told (d := 1) (by decide) h2) rfl rfl hdd (Nat.le_refl _) (Nat.le_refl _) (by decide) (fx_ki ?_)
    exact pm_iret hG hF dX11_found_34 rfl (Nat.le_refl _) (Nat.le_refl _) (fx_ric hE)
  · replace hE := fx_f c1 hE
    refine pm_iloadn hG dX11_found_5 rfl ?_
    refine pm_iconst (v := 5) hG dX11_found_6 (by decide) ?_
    refine pm_icmp_gt (tgt := 28) hG dX11_found_7 rfl (fun c4 => ?_) (fun c4 => ?_)
    · replace hE := fx_t c4 hE
      refine pm_aloadn hG dX11_found_28 rfl ?_
      refine pm_ldc hG dX11_found_29 (ctX11_109 _ rfl) ?_
      obtain ⟨r6, h5, hE⟩ := fb_some hE
      refine pm_callV (As := [.int (-1000001)]) (rest := []) hG hR dX11_found_31 (lkX11_97 _ rfl) okV_X11_told rfl rfl (c_X11_told (d := 1) (by decide) h5) rfl rfl hdd (Nat.le_refl _) (Nat.le_refl _) (by decide) (fx_ki ?_)
      exact pm_iret hG hF dX11_found_34 rfl (Nat.le_refl _) (Nat.le_refl _) (fx_ric hE)
    · replace hE := fx_f c4 hE
      refine pm_iloadn hG dX11_found_10 rfl ?_
      refine pm_aloadn hG dX11_found_11 rfl ?_
      refine pm_getf hG dX11_found_12 (flX11_78 _ rfl) rfl rfl ?_
      refine pm_alen (v := 6) hG dX11_found_15 rfl (by decide) ?_
      refine pm_icmp_ge (tgt := 28) hG dX11_found_16 rfl (fun c7 => ?_) (fun c7 => ?_)
      · replace c7 := Int32.not_lt.mpr c7
        replace hE := fx_f c7 hE
        refine pm_aloadn hG dX11_found_28 rfl ?_
        refine pm_ldc hG dX11_found_29 (ctX11_109 _ rfl) ?_
        obtain ⟨r9, h8, hE⟩ := fb_some hE
        refine pm_callV (As := [.int (-1000001)]) (rest := []) hG hR dX11_found_31 (lkX11_97 _ rfl) okV_X11_told rfl rfl (c_X11_told (d := 1) (by decide) h8) rfl rfl hdd (Nat.le_refl _) (Nat.le_refl _) (by decide) (fx_ki ?_)
        exact pm_iret hG hF dX11_found_34 rfl (Nat.le_refl _) (Nat.le_refl _) (fx_ric hE)
      · replace c7 := Int32.not_le.mp c7
        replace hE := fx_t c7 hE
        refine pm_aloadn hG dX11_found_19 rfl ?_
        refine pm_getf hG dX11_found_20 (flX11_78 _ rfl) rfl rfl ?_
        refine pm_iloadn hG dX11_found_23 rfl ?_
        obtain ⟨j10, hj10, hE⟩ := fb_some hE
        refine fx_iald hG dX11_found_24 rfl hj10 ?_
        refine pm_goto (tgt := 34) hG dX11_found_25 rfl ?_
        exact pm_iret hG hF dX11_found_34 rfl (Nat.le_refl _) (Nat.le_refl _) (fx_ric hE)

set_option maxRecDepth 100000 in
set_option maxHeartbeats 4000000 in
theorem c_X7_isLivingOrNobody {d : Nat} {B cnt : Nat} {kp : Value} {ρ : pm_S} {S : FS} {za : Int32} {R : Int32} (hdd : 2 ≤ d) (hE : p_X7_isLivingOrNobody S za = R) : pm_met mX7_isLivingOrNobody d 0 0 B [.ref (B + 1), .int za] cnt (cst B kp S ρ) (pm_Qi (fun v σ' cnt' => v = R ∧ σ' = (cst B kp S ρ) ∧ cnt' = cnt)) := by
  refine pm_enter 0 (by decide) (Nat.le_of_ble_eq_true rfl) rfl (fun G hG hR hF => ?_)
  unfold p_X7_isLivingOrNobody at hE
  refine pm_iloadn hG dX7_isLivingOrNobody_0 rfl ?_
  refine pm_iconst (v := (-1)) hG dX7_isLivingOrNobody_1 (by decide) ?_
  refine pm_icmp_eq (tgt := 13) hG dX7_isLivingOrNobody_2 rfl (fun c1 => ?_) (fun c1 => ?_)
  · replace hE := fx_t c1 hE
    refine pm_iconst (v := 1) hG dX7_isLivingOrNobody_13 (by decide) ?_
    refine pm_goto (tgt := 18) hG dX7_isLivingOrNobody_14 rfl ?_
    exact pm_zret hG hF dX7_isLivingOrNobody_18 rfl (by rfl) (Nat.le_refl _) (Nat.le_refl _) (fx_pi hE)
  · replace hE := fx_f c1 hE
    refine pm_aloadn hG dX7_isLivingOrNobody_5 rfl ?_
    refine pm_iloadn hG dX7_isLivingOrNobody_6 rfl ?_
    refine pm_callV (As := [.int za]) (rest := []) hG hR dX7_isLivingOrNobody_7 (lkX7_103 _ rfl) okV_X7_isLiving rfl rfl (c_X7_isLiving (d := 1) (by decide) rfl) rfl rfl hdd (Nat.le_refl _) (Nat.le_refl _) (by decide) (fx_ki ?_)
    refine pm_if_eq (tgt := 17) hG dX7_isLivingOrNobody_10 rfl (fun c2 => ?_) (fun c2 => ?_)
    · replace hE := fx_t c2 hE
      refine pm_iconst (v := 0) hG dX7_isLivingOrNobody_17 (by decide) ?_
      exact pm_zret hG hF dX7_isLivingOrNobody_18 rfl (by rfl) (Nat.le_refl _) (Nat.le_refl _) (fx_pi hE)
    · replace hE := fx_f c2 hE
      refine pm_iconst (v := 1) hG dX7_isLivingOrNobody_13 (by decide) ?_
      refine pm_goto (tgt := 18) hG dX7_isLivingOrNobody_14 rfl ?_
      exact pm_zret hG hF dX7_isLivingOrNobody_18 rfl (by rfl) (Nat.le_refl _) (Nat.le_refl _) (fx_pi hE)

set_option maxRecDepth 100000 in
set_option maxHeartbeats 4000000 in
theorem c_X11_give {d : Nat} {B cnt : Nat} {kp : Value} {ρ : pm_S} {S : FS} {za : Int32} {zb : Int32} {R : Int32 × FS} (hdd : 3 ≤ d) (hE : f_X11_give S za zb = some R) : pm_met mX11_give d 0 0 B [.ref (B + 0), .int za, .int zb] cnt (cst B kp S ρ) (pm_Qi (fun v σ' cnt' => v = R.1 ∧ σ' = (cst B kp R.2 ρ) ∧ cnt' = cnt)) := by
  refine pm_enter 0 (by decide) (Nat.le_of_ble_eq_true rfl) rfl (fun G hG hR hF => ?_)
  unfold f_X11_give at hE
  refine pm_aloadn hG dX11_give_0 rfl ?_
  refine pm_getf hG dX11_give_1 (flX11_12 _ rfl) rfl rfl ?_
  refine pm_getf hG dX11_give_4 (flX11_161 _ rfl) rfl rfl ?_
  refine pm_iloadn hG dX11_give_7 rfl ?_
  refine pm_callV (As := [.int za]) (rest := []) hG hR dX11_give_8 (lkX11_101 _ rfl) okV_X9_has rfl rfl (thas_8 (d := 2)) rfl rfl hdd (Nat.le_refl _) (Nat.le_refl _) (by decide) (fx_ki ?_)
  refine pm_if_eq (tgt := 25) hG dX11_give_11 rfl (fun c1 => ?_) (fun c1 => ?_)
  · replace hE := fx_t c1 hE
    refine pm_aloadn hG dX11_give_25 rfl ?_
    refine pm_ldc hG dX11_give_26 (ctX11_109 _ rfl) ?_
    obtain ⟨r3, h2, hE⟩ := fb_some hE
    refine pm_callV (As := [.int (-1000001)]) (rest := []) hG hR dX11_give_28 (lkX11_97 _ rfl) okV_X11_told rfl rfl (c_X11_told (d := 2) (by decide) h2) rfl rfl hdd (Nat.le_refl _) (Nat.le_refl _) (by decide) (fx_ki ?_)
    exact pm_iret hG hF dX11_give_31 rfl (Nat.le_refl _) (Nat.le_refl _) (fx_ric hE)
  · replace hE := fx_f c1 hE
    refine pm_aloadn hG dX11_give_14 rfl ?_
    refine pm_getf hG dX11_give_15 (flX11_12 _ rfl) rfl rfl ?_
    refine pm_iloadn hG dX11_give_18 rfl ?_
    refine pm_callV (As := [.int zb]) (rest := []) hG hR dX11_give_19 (lkX11_174 _ rfl) okV_X7_isLivingOrNobody rfl rfl (c_X7_isLivingOrNobody (d := 2) (by decide) rfl) rfl rfl hdd (Nat.le_refl _) (Nat.le_refl _) (by decide) (fx_ki ?_)
    refine pm_if_ne (tgt := 32) hG dX11_give_22 rfl (fun c4 => ?_) (fun c4 => ?_)
    · replace hE := fx_f c4 hE
      refine pm_aloadn hG dX11_give_32 rfl ?_
      refine pm_aloadn hG dX11_give_33 rfl ?_
      refine pm_getf hG dX11_give_34 (flX11_12 _ rfl) rfl rfl ?_
      refine pm_iloadn hG dX11_give_37 rfl ?_
      refine pm_callV (As := [.int za]) (rest := [.ref (B + 0)]) hG hR dX11_give_38 (lkX11_188 _ rfl) okV_X7_isLent rfl rfl (c_X7_isLent (d := 2) (by decide) rfl) rfl rfl hdd (Nat.le_refl _) (Nat.le_refl _) (by first | decide | exact Nat.le_of_ble_eq_true rfl) (fx_ki ?_)
      refine pm_if_eq (tgt := 49) hG dX11_give_41 rfl (fun c5 => ?_) (fun c5 => ?_)
      · replace hE := fx_t c5 hE
        refine pm_aloadn hG dX11_give_49 rfl ?_
        refine pm_getf hG dX11_give_50 (flX11_12 _ rfl) rfl rfl ?_
        refine pm_iloadn hG dX11_give_53 rfl ?_
        refine pm_iloadn hG dX11_give_54 rfl ?_
        obtain ⟨r7, h6, hE⟩ := fb_some hE
        refine pm_callV (As := [.int za, .int zb]) (rest := [.ref (B + 0)]) hG hR dX11_give_55 (lkX11_191 _ rfl) okV_X7_handOver rfl rfl (c_X7_handOver (d := 2) (by decide) h6) rfl rfl hdd (Nat.le_refl _) (Nat.le_refl _) (by first | decide | exact Nat.le_of_ble_eq_true rfl) (fx_ki ?_)
        obtain ⟨r9, h8, hE⟩ := fb_some hE
        refine pm_callV (As := [.int r7.1]) (rest := []) hG hR dX11_give_58 (lkX11_97 _ rfl) okV_X11_told rfl rfl (c_X11_told (d := 2) (by decide) h8) rfl rfl hdd (Nat.le_refl _) (Nat.le_refl _) (by decide) (fx_ki ?_)
        exact pm_iret hG hF dX11_give_61 rfl (Nat.le_refl _) (Nat.le_refl _) (fx_ric hE)
      · replace hE := fx_f c5 hE
        refine pm_ldc hG dX11_give_44 (ctX11_138 _ rfl) ?_
        refine pm_goto (tgt := 58) hG dX11_give_46 rfl ?_
        obtain ⟨r11, h10, hE⟩ := fb_some hE
        refine pm_callV (As := [.int (-1000003)]) (rest := []) hG hR dX11_give_58 (lkX11_97 _ rfl) okV_X11_told rfl rfl (c_X11_told (d := 2) (by decide) h10) rfl rfl hdd (Nat.le_refl _) (Nat.le_refl _) (by decide) (fx_ki ?_)
        exact pm_iret hG hF dX11_give_61 rfl (Nat.le_refl _) (Nat.le_refl _) (fx_ric hE)
    · replace hE := fx_t c4 hE
      refine pm_aloadn hG dX11_give_25 rfl ?_
      refine pm_ldc hG dX11_give_26 (ctX11_109 _ rfl) ?_
      obtain ⟨r13, h12, hE⟩ := fb_some hE
      refine pm_callV (As := [.int (-1000001)]) (rest := []) hG hR dX11_give_28 (lkX11_97 _ rfl) okV_X11_told rfl rfl (c_X11_told (d := 2) (by decide) h12) rfl rfl hdd (Nat.le_refl _) (Nat.le_refl _) (by decide) (fx_ki ?_)
      exact pm_iret hG hF dX11_give_31 rfl (Nat.le_refl _) (Nat.le_refl _) (fx_ric hE)

set_option maxRecDepth 100000 in
set_option maxHeartbeats 4000000 in
theorem c_X7_setOut {d : Nat} {B cnt : Nat} {kp : Value} {ρ : pm_S} {S : FS} {za : Int32} {zb : Int32} {R : Int32 × FS} (hdd : 2 ≤ d) (hE : f_X7_setOut S za zb = some R) : pm_met mX7_setOut d 0 0 B [.ref (B + 1), .int za, .int zb] cnt (cst B kp S ρ) (pm_Qi (fun v σ' cnt' => v = R.1 ∧ σ' = (cst B kp R.2 ρ) ∧ cnt' = cnt)) := by
  refine pm_enter 1 (by decide) (Nat.le_of_ble_eq_true rfl) rfl (fun G hG hR hF => ?_)
  unfold f_X7_setOut at hE
  refine pm_aloadn hG dX7_setOut_0 rfl ?_
  refine pm_aloadn hG dX7_setOut_1 rfl ?_
  refine pm_getf hG dX7_setOut_2 (flX7_23 _ rfl) rfl rfl ?_
  refine pm_iloadn hG dX7_setOut_5 rfl ?_
  refine pm_iconst (v := 4) hG dX7_setOut_6 (by decide) ?_
  refine pm_callV (As := [.int za, .int 4]) (rest := [.ref (B + 1)]) hG hR dX7_setOut_7 (lkX7_83 _ rfl) okV_X9_get rfl rfl (tget_6 (d := 1)) rfl rfl hdd (Nat.le_refl _) (Nat.le_refl _) (by first | decide | exact Nat.le_of_ble_eq_true rfl) (fx_ki ?_)
  refine pm_iloadn hG dX7_setOut_10 rfl ?_
  refine pm_callV (As := [.int (fG 6 20 14 S za 4), .int zb]) (rest := []) hG hR dX7_setOut_11 (lkX7_109 _ rfl) okV_X7_wayBetween rfl rfl (c_X7_wayBetween (d := 1) (by decide) rfl) rfl rfl hdd (Nat.le_refl _) (Nat.le_refl _) (by decide) (fx_ki ?_)
  refine fx_letv hE (fun x1 hE => ?_)
  refine pm_istoreXn (loc' := [some (.ref (B + 1)), some (.int za), some (.int zb), some (.int x1)]) hG dX7_setOut_14 (by decide) (pm_c1b rfl) rfl ?_
  refine pm_iloadn hG dX7_setOut_15 rfl ?_
  refine pm_if_ge (tgt := 22) hG dX7_setOut_16 rfl (fun c2 => ?_) (fun c2 => ?_)
  · replace c2 := Int32.not_lt.mpr c2
    replace hE := fx_f c2 hE
    refine pm_iloadn hG dX7_setOut_22 rfl ?_
    refine pm_if_le (tgt := 77) hG dX7_setOut_23 rfl (fun c3 => ?_) (fun c3 => ?_)
    · replace c3 := Int32.not_lt.mpr c3
      replace hE := fx_f c3 hE
      refine pm_aloadn hG dX7_setOut_77 rfl ?_
      refine pm_getf hG dX7_setOut_78 (flX7_72 _ rfl) rfl rfl ?_
      refine pm_iloadn hG dX7_setOut_81 rfl ?_
      refine pm_iadd hG dX7_setOut_82 ?_
      exact pm_iret hG hF dX7_setOut_83 rfl (Nat.le_refl _) (Nat.le_refl _) (fx_ric hE)
    · replace c3 := Int32.not_le.mp c3
      replace hE := fx_t c3 hE
      refine pm_aloadn hG dX7_setOut_26 rfl ?_
      refine pm_getf hG dX7_setOut_27 (flX7_23 _ rfl) rfl rfl ?_
      refine pm_iloadn hG dX7_setOut_30 rfl ?_
      refine pm_bipush (v := 10) hG dX7_setOut_31 (by decide) ?_
      refine pm_aloadn hG dX7_setOut_33 rfl ?_
      refine pm_iloadn hG dX7_setOut_34 rfl ?_
      refine pm_callV (As := [.int za]) (rest := [.int 10, .int za, .ref (B + 6)]) hG hR dX7_setOut_35 (lkX7_112 _ rfl) okV_X7_knownTo rfl rfl (c_X7_knownTo (d := 1) (by decide) rfl) rfl rfl hdd (Nat.le_refl _) (Nat.le_refl _) (by first | decide | exact Nat.le_of_ble_eq_true rfl) (fx_ki ?_)
      refine pm_callV (As := [.int za, .int 10, .int (p_X7_knownTo S za)]) (rest := []) hG hR dX7_setOut_38 (lkX7_61 _ rfl) okV_X9_set rfl rfl (tset_6 (d := 1)) rfl rfl hdd (Nat.le_refl _) (Nat.le_refl _) (by decide) (fx_kv ?_)
      refine fx_letc hE (fun S4 hE => ?_)
      refine pm_aloadn hG dX7_setOut_41 rfl ?_
      refine pm_getf hG dX7_setOut_42 (flX7_23 _ rfl) rfl rfl ?_
      refine pm_iloadn hG dX7_setOut_45 rfl ?_
      refine pm_iconst (v := 4) hG dX7_setOut_46 (by decide) ?_
      refine pm_iconst (v := (-1)) hG dX7_setOut_47 (by decide) ?_
      refine pm_callV (As := [.int za, .int 4, .int (-1)]) (rest := []) hG hR dX7_setOut_48 (lkX7_61 _ rfl) okV_X9_set rfl rfl (tset_6 (d := 1)) rfl rfl hdd (Nat.le_refl _) (Nat.le_refl _) (by decide) (fx_kv ?_)
      refine fx_letc hE (fun S5 hE => ?_)
      refine pm_aloadn hG dX7_setOut_51 rfl ?_
      refine pm_getf hG dX7_setOut_52 (flX7_23 _ rfl) rfl rfl ?_
      refine pm_iloadn hG dX7_setOut_55 rfl ?_
      refine pm_iconst (v := 5) hG dX7_setOut_56 (by decide) ?_
      refine pm_iloadn hG dX7_setOut_57 rfl ?_
      refine pm_callV (As := [.int za, .int 5, .int zb]) (rest := []) hG hR dX7_setOut_58 (lkX7_61 _ rfl) okV_X9_set rfl rfl (tset_6 (d := 1)) rfl rfl hdd (Nat.le_refl _) (Nat.le_refl _) (by decide) (fx_kv ?_)
      refine fx_letc hE (fun S6 hE => ?_)
      refine pm_aloadn hG dX7_setOut_61 rfl ?_
      refine pm_getf hG dX7_setOut_62 (flX7_23 _ rfl) rfl rfl ?_
      refine pm_iloadn hG dX7_setOut_65 rfl ?_
      refine pm_bipush (v := 6) hG dX7_setOut_66 (by decide) ?_
      refine pm_aloadn hG dX7_setOut_68 rfl ?_
      refine pm_getf hG dX7_setOut_69 (flX7_72 _ rfl) rfl rfl ?_
      refine pm_iloadn hG dX7_setOut_72 rfl ?_
      refine pm_iadd hG dX7_setOut_73 ?_
      refine pm_callV (As := [.int za, .int 6, .int ((S6.1 102) + x1)]) (rest := []) hG hR dX7_setOut_74 (lkX7_61 _ rfl) okV_X9_set rfl rfl (tset_6 (d := 1)) rfl rfl hdd (Nat.le_refl _) (Nat.le_refl _) (by decide) (fx_kv ?_)
      refine fx_letc hE (fun S7 hE => ?_)
      refine pm_aloadn hG dX7_setOut_77 rfl ?_
      refine pm_getf hG dX7_setOut_78 (flX7_72 _ rfl) rfl rfl ?_
      refine pm_iloadn hG dX7_setOut_81 rfl ?_
      refine pm_iadd hG dX7_setOut_82 ?_
      exact pm_iret hG hF dX7_setOut_83 rfl (Nat.le_refl _) (Nat.le_refl _) (fx_ric hE)
  · replace c2 := Int32.not_le.mp c2
    replace hE := fx_t c2 hE
    refine pm_ldc hG dX7_setOut_19 (ctX7_92 _ rfl) ?_
    exact pm_iret hG hF dX7_setOut_21 rfl (Nat.le_refl _) (Nat.le_refl _) (fx_ric hE)

set_option maxRecDepth 100000 in
set_option maxHeartbeats 4000000 in
theorem c_X11_go {d : Nat} {B cnt : Nat} {kp : Value} {ρ : pm_S} {S : FS} {za : Int32} {zb : Int32} {R : Int32 × FS} (hdd : 3 ≤ d) (hE : f_X11_go S za zb = some R) : pm_met mX11_go d 0 0 B [.ref (B + 0), .int za, .int zb] cnt (cst B kp S ρ) (pm_Qi (fun v σ' cnt' => v = R.1 ∧ σ' = (cst B kp R.2 ρ) ∧ cnt' = cnt)) := by
  refine pm_enter 0 (by decide) (Nat.le_of_ble_eq_true rfl) rfl (fun G hG hR hF => ?_)
  unfold f_X11_go at hE
  refine pm_aloadn hG dX11_go_0 rfl ?_
  refine pm_getf hG dX11_go_1 (flX11_12 _ rfl) rfl rfl ?_
  refine pm_getf hG dX11_go_4 (flX11_128 _ rfl) rfl rfl ?_
  refine pm_iloadn hG dX11_go_7 rfl ?_
  refine pm_callV (As := [.int za]) (rest := []) hG hR dX11_go_8 (lkX11_101 _ rfl) okV_X9_has rfl rfl (thas_6 (d := 2)) rfl rfl hdd (Nat.le_refl _) (Nat.le_refl _) (by decide) (fx_ki ?_)
  refine pm_if_eq (tgt := 28) hG dX11_go_11 rfl (fun c1 => ?_) (fun c1 => ?_)
  · replace hE := fx_t c1 hE
    refine pm_aloadn hG dX11_go_28 rfl ?_
    refine pm_ldc hG dX11_go_29 (ctX11_109 _ rfl) ?_
    obtain ⟨r3, h2, hE⟩ := fb_some hE
    refine pm_callV (As := [.int (-1000001)]) (rest := []) hG hR dX11_go_31 (lkX11_97 _ rfl) okV_X11_told rfl rfl (c_X11_told (d := 2) (by decide) h2) rfl rfl hdd (Nat.le_refl _) (Nat.le_refl _) (by decide) (fx_ki ?_)
    exact pm_iret hG hF dX11_go_34 rfl (Nat.le_refl _) (Nat.le_refl _) (fx_ric hE)
  · replace hE := fx_f c1 hE
    refine pm_aloadn hG dX11_go_14 rfl ?_
    refine pm_getf hG dX11_go_15 (flX11_12 _ rfl) rfl rfl ?_
    refine pm_getf hG dX11_go_18 (flX11_82 _ rfl) rfl rfl ?_
    refine pm_iloadn hG dX11_go_21 rfl ?_
    refine pm_callV (As := [.int zb]) (rest := []) hG hR dX11_go_22 (lkX11_101 _ rfl) okV_X9_has rfl rfl (thas_2 (d := 2)) rfl rfl hdd (Nat.le_refl _) (Nat.le_refl _) (by decide) (fx_ki ?_)
    refine pm_if_ne (tgt := 35) hG dX11_go_25 rfl (fun c4 => ?_) (fun c4 => ?_)
    · replace hE := fx_f c4 hE
      refine pm_aloadn hG dX11_go_35 rfl ?_
      refine pm_aloadn hG dX11_go_36 rfl ?_
      refine pm_getf hG dX11_go_37 (flX11_12 _ rfl) rfl rfl ?_
      refine pm_iloadn hG dX11_go_40 rfl ?_
      refine pm_callV (As := [.int za]) (rest := [.ref (B + 0)]) hG hR dX11_go_41 (lkX11_146 _ rfl) okV_X7_isInTown rfl rfl (c_X7_isInTown (d := 2) (by decide) rfl) rfl rfl hdd (Nat.le_refl _) (Nat.le_refl _) (by first | decide | exact Nat.le_of_ble_eq_true rfl) (fx_ki ?_)
      refine pm_if_eq (tgt := 59) hG dX11_go_44 rfl (fun c5 => ?_) (fun c5 => ?_)
      · replace hE := fx_t c5 hE
        refine pm_ldc hG dX11_go_59 (ctX11_138 _ rfl) ?_
        obtain ⟨r7, h6, hE⟩ := fb_some hE
        refine pm_callV (As := [.int (-1000003)]) (rest := []) hG hR dX11_go_61 (lkX11_97 _ rfl) okV_X11_told rfl rfl (c_X11_told (d := 2) (by decide) h6) rfl rfl hdd (Nat.le_refl _) (Nat.le_refl _) (by decide) (fx_ki ?_)
        exact pm_iret hG hF dX11_go_64 rfl (Nat.le_refl _) (Nat.le_refl _) (fx_ric hE)
      · replace hE := fx_f c5 hE
        refine pm_aloadn hG dX11_go_47 rfl ?_
        refine pm_getf hG dX11_go_48 (flX11_12 _ rfl) rfl rfl ?_
        refine pm_iloadn hG dX11_go_51 rfl ?_
        refine pm_iloadn hG dX11_go_52 rfl ?_
        obtain ⟨r9, h8, hE⟩ := fb_some hE
        refine pm_callV (As := [.int za, .int zb]) (rest := [.ref (B + 0)]) hG hR dX11_go_53 (lkX11_149 _ rfl) okV_X7_setOut rfl rfl (c_X7_setOut (d := 2) (by decide) h8) rfl rfl hdd (Nat.le_refl _) (Nat.le_refl _) (by first | decide | exact Nat.le_of_ble_eq_true rfl) (fx_ki ?_)
        refine pm_goto (tgt := 61) hG dX11_go_56 rfl ?_
        obtain ⟨r11, h10, hE⟩ := fb_some hE
        refine pm_callV (As := [.int r9.1]) (rest := []) hG hR dX11_go_61 (lkX11_97 _ rfl) okV_X11_told rfl rfl (c_X11_told (d := 2) (by decide) h10) rfl rfl hdd (Nat.le_refl _) (Nat.le_refl _) (by decide) (fx_ki ?_)
        exact pm_iret hG hF dX11_go_64 rfl (Nat.le_refl _) (Nat.le_refl _) (fx_ric hE)
    · replace hE := fx_t c4 hE
      refine pm_aloadn hG dX11_go_28 rfl ?_
      refine pm_ldc hG dX11_go_29 (ctX11_109 _ rfl) ?_
      obtain ⟨r13, h12, hE⟩ := fb_some hE
      refine pm_callV (As := [.int (-1000001)]) (rest := []) hG hR dX11_go_31 (lkX11_97 _ rfl) okV_X11_told rfl rfl (c_X11_told (d := 2) (by decide) h12) rfl rfl hdd (Nat.le_refl _) (Nat.le_refl _) (by decide) (fx_ki ?_)
      exact pm_iret hG hF dX11_go_34 rfl (Nat.le_refl _) (Nat.le_refl _) (fx_ric hE)

set_option maxRecDepth 100000 in
set_option maxHeartbeats 4000000 in
theorem c_X11_guard {d : Nat} {B cnt : Nat} {kp : Value} {ρ : pm_S} {S : FS} {za : Int32} {zb : Int32} {R : Int32 × FS} (hdd : 2 ≤ d) (hE : f_X11_guard S za zb = some R) : pm_met mX11_guard d 0 0 B [.ref (B + 0), .int za, .int zb] cnt (cst B kp S ρ) (pm_Qi (fun v σ' cnt' => v = R.1 ∧ σ' = (cst B kp R.2 ρ) ∧ cnt' = cnt)) := by
  refine pm_enter 0 (by decide) (Nat.le_of_ble_eq_true rfl) rfl (fun G hG hR hF => ?_)
  unfold f_X11_guard at hE
  refine pm_iloadn hG dX11_guard_0 rfl ?_
  refine pm_iconst (v := 0) hG dX11_guard_1 (by decide) ?_
  refine pm_iconst (v := 4) hG dX11_guard_2 (by decide) ?_
  refine pm_callS (As := [.int za, .int 0, .int 4]) (rest := []) hG hR dX11_guard_3 (lkX11_105 _ rfl) okS_X11_isOutside (tOut (d := 1)) rfl rfl hdd (Nat.le_refl _) (Nat.le_refl _) (by decide) (fx_ki ?_)
  refine pm_if_ne (tgt := 19) hG dX11_guard_6 rfl (fun c1 => ?_) (fun c1 => ?_)
  · replace hE := fx_f c1 hE
    refine pm_aloadn hG dX11_guard_19 rfl ?_
    refine pm_ldc hG dX11_guard_20 (ctX11_109 _ rfl) ?_
    obtain ⟨r3, h2, hE⟩ := fb_some hE
    refine pm_callV (As := [.int (-1000001)]) (rest := []) hG hR dX11_guard_22 (lkX11_97 _ rfl) okV_X11_told rfl rfl (c_X11_told (d := 1) (by decide) h2) rfl rfl hdd (Nat.le_refl _) (Nat.le_refl _) (by decide) (fx_ki ?_)
    exact pm_iret hG hF dX11_guard_25 rfl (Nat.le_refl _) (Nat.le_refl _) (fx_ric hE)
  · replace hE := fx_t c1 hE
    refine pm_iloadn hG dX11_guard_9 rfl ?_
    refine pm_iconst (v := 0) hG dX11_guard_10 (by decide) ?_
    refine pm_bipush (v := 6) hG dX11_guard_11 (by decide) ?_
    refine pm_callS (As := [.int zb, .int 0, .int 6]) (rest := []) hG hR dX11_guard_13 (lkX11_105 _ rfl) okS_X11_isOutside (tOut (d := 1)) rfl rfl hdd (Nat.le_refl _) (Nat.le_refl _) (by decide) (fx_ki ?_)
    refine pm_if_eq (tgt := 26) hG dX11_guard_16 rfl (fun c4 => ?_) (fun c4 => ?_)
    · replace hE := fx_t c4 hE
      refine pm_aloadn hG dX11_guard_26 rfl ?_
      refine pm_getf hG dX11_guard_27 (flX11_12 _ rfl) rfl rfl ?_
      refine pm_getf hG dX11_guard_30 (flX11_311 _ rfl) rfl rfl ?_
      refine pm_iloadn hG dX11_guard_33 rfl ?_
      refine pm_iconst (v := 0) hG dX11_guard_34 (by decide) ?_
      refine pm_iloadn hG dX11_guard_35 rfl ?_
      refine pm_callV (As := [.int za, .int 0, .int zb]) (rest := []) hG hR dX11_guard_36 (lkX11_248 _ rfl) okV_X9_swap rfl rfl (tswap_20 (d := 1) (by decide)) rfl rfl hdd (Nat.le_refl _) (Nat.le_refl _) (by decide) (fx_ki ?_)
      refine fx_letc hE (fun S5 hE => ?_)
      exact pm_iret hG hF dX11_guard_39 rfl (Nat.le_refl _) (Nat.le_refl _) (fx_ric hE)
    · replace hE := fx_f c4 hE
      refine pm_aloadn hG dX11_guard_19 rfl ?_
      refine pm_ldc hG dX11_guard_20 (ctX11_109 _ rfl) ?_
      obtain ⟨r7, h6, hE⟩ := fb_some hE
      refine pm_callV (As := [.int (-1000001)]) (rest := []) hG hR dX11_guard_22 (lkX11_97 _ rfl) okV_X11_told rfl rfl (c_X11_told (d := 1) (by decide) h6) rfl rfl hdd (Nat.le_refl _) (Nat.le_refl _) (by decide) (fx_ki ?_)
      exact pm_iret hG hF dX11_guard_25 rfl (Nat.le_refl _) (Nat.le_refl _) (fx_ric hE)

set_option maxRecDepth 100000 in
set_option maxHeartbeats 4000000 in
theorem c_X4_isFollower {d : Nat} {B cnt : Nat} {kp : Value} {ρ : pm_S} {S : FS} {za : Int32} {R : Int32 × FS} (hdd : 5 ≤ d) (hE : f_X4_isFollower S za = some R) : pm_met mX4_isFollower d 0 0 B [.ref (B + 37), .int za] cnt (cst B kp S ρ) (pm_Qi (fun v σ' cnt' => v = R.1 ∧ σ' = (cst B kp R.2 ρ) ∧ cnt' = cnt)) := by
  refine pm_enter 0 (by decide) (Nat.le_of_ble_eq_true rfl) rfl (fun G hG hR hF => ?_)
  unfold f_X4_isFollower at hE
  refine pm_aloadn hG dX4_isFollower_0 rfl ?_
  refine pm_getf hG dX4_isFollower_1 (flX4_9 _ rfl) rfl rfl ?_
  refine pm_iloadn hG dX4_isFollower_4 rfl ?_
  refine pm_callV (As := [.int za]) (rest := []) hG hR dX4_isFollower_5 (lkX4_56 _ rfl) okV_X7_isLiving rfl rfl (c_X7_isLiving (d := 4) (by decide) rfl) rfl rfl hdd (Nat.le_refl _) (Nat.le_refl _) (by decide) (fx_ki ?_)
  refine pm_if_eq (tgt := 60) hG dX4_isFollower_8 rfl (fun c1 => ?_) (fun c1 => ?_)
  · replace hE := fx_t c1 hE
    refine pm_iconst (v := 0) hG dX4_isFollower_60 (by decide) ?_
    exact pm_zret hG hF dX4_isFollower_61 rfl (by rfl) (Nat.le_refl _) (Nat.le_refl _) (fx_ric hE)
  · replace hE := fx_f c1 hE
    refine pm_aloadn hG dX4_isFollower_11 rfl ?_
    refine pm_getf hG dX4_isFollower_12 (flX4_9 _ rfl) rfl rfl ?_
    refine pm_getf hG dX4_isFollower_15 (flX4_31 _ rfl) rfl rfl ?_
    refine pm_iloadn hG dX4_isFollower_18 rfl ?_
    refine pm_bipush (v := 11) hG dX4_isFollower_19 (by decide) ?_
    refine pm_callV (As := [.int za, .int 11]) (rest := []) hG hR dX4_isFollower_21 (lkX4_51 _ rfl) okV_X9_get rfl rfl (tget_6 (d := 4)) rfl rfl hdd (Nat.le_refl _) (Nat.le_refl _) (by decide) (fx_ki ?_)
    refine pm_bipush (v := 99) hG dX4_isFollower_24 (by decide) ?_
    refine pm_icmp_eq (tgt := 60) hG dX4_isFollower_26 rfl (fun c2 => ?_) (fun c2 => ?_)
    · replace hE := fx_t c2 hE
      refine pm_iconst (v := 0) hG dX4_isFollower_60 (by decide) ?_
      exact pm_zret hG hF dX4_isFollower_61 rfl (by rfl) (Nat.le_refl _) (Nat.le_refl _) (fx_ric hE)
    · replace hE := fx_f c2 hE
      refine pm_aloadn hG dX4_isFollower_29 rfl ?_
      refine pm_getf hG dX4_isFollower_30 (flX4_15 _ rfl) rfl rfl ?_
      refine pm_iconst (v := 2) hG dX4_isFollower_33 (by decide) ?_
      refine pm_aloadn hG dX4_isFollower_34 rfl ?_
      refine pm_getf hG dX4_isFollower_35 (flX4_9 _ rfl) rfl rfl ?_
      refine pm_getf hG dX4_isFollower_38 (flX4_59 _ rfl) rfl rfl ?_
      refine pm_aloadn hG dX4_isFollower_41 rfl ?_
      refine pm_getf hG dX4_isFollower_42 (flX4_9 _ rfl) rfl rfl ?_
      refine pm_getf hG dX4_isFollower_45 (flX4_59 _ rfl) rfl rfl ?_
      refine pm_iloadn hG dX4_isFollower_48 rfl ?_
      refine pm_iconst (v := (-1)) hG dX4_isFollower_49 (by decide) ?_
      obtain ⟨r4, h3, hE⟩ := fb_some hE
      refine pm_callV (As := [.int 2, .int (S.1 102), .int (S.1 102), .int za, .int (-1)]) (rest := []) hG hR dX4_isFollower_50 (lkX4_63 _ rfl) okV_X2_ruling rfl rfl (c_X2_ruling (d := 4) (by decide) h3) rfl rfl hdd (Nat.le_refl _) (Nat.le_refl _) (by decide) (fx_ki ?_)
      refine pm_if_eq (tgt := 60) hG dX4_isFollower_53 rfl (fun c5 => ?_) (fun c5 => ?_)
      · replace hE := fx_t c5 hE
        refine pm_iconst (v := 0) hG dX4_isFollower_60 (by decide) ?_
        exact pm_zret hG hF dX4_isFollower_61 rfl (by rfl) (Nat.le_refl _) (Nat.le_refl _) (fx_ric hE)
      · replace hE := fx_f c5 hE
        refine pm_iconst (v := 1) hG dX4_isFollower_56 (by decide) ?_
        refine pm_goto (tgt := 61) hG dX4_isFollower_57 rfl ?_
        exact pm_zret hG hF dX4_isFollower_61 rfl (by rfl) (Nat.le_refl _) (Nat.le_refl _) (fx_ric hE)

set_option maxRecDepth 100000 in
set_option maxHeartbeats 4000000 in
theorem c_X4_isAhead {d : Nat} {B cnt : Nat} {kp : Value} {ρ : pm_S} {S : FS} {za : Int32} {zb : Int32} {R : Int32} (hdd : 1 ≤ d) (hE : p_X4_isAhead S za zb = R) : pm_met mX4_isAhead d 0 0 B [.ref (B + 37), .int za, .int zb] cnt (cst B kp S ρ) (pm_Qi (fun v σ' cnt' => v = R ∧ σ' = (cst B kp S ρ) ∧ cnt' = cnt)) := by
  refine pm_enter 2 (by decide) (Nat.le_of_ble_eq_true rfl) rfl (fun G hG hR hF => ?_)
  unfold p_X4_isAhead at hE
  refine pm_aloadn hG dX4_isAhead_0 rfl ?_
  refine pm_getf hG dX4_isAhead_1 (flX4_9 _ rfl) rfl rfl ?_
  refine pm_getf hG dX4_isAhead_4 (flX4_31 _ rfl) rfl rfl ?_
  refine pm_iloadn hG dX4_isAhead_7 rfl ?_
  refine pm_bipush (v := 11) hG dX4_isAhead_8 (by decide) ?_
  refine pm_callV (As := [.int za, .int 11]) (rest := []) hG hR dX4_isAhead_10 (lkX4_51 _ rfl) okV_X9_get rfl rfl (tget_6 (d := 0)) rfl rfl hdd (Nat.le_refl _) (Nat.le_refl _) (by decide) (fx_ki ?_)
  refine pm_aloadn hG dX4_isAhead_13 rfl ?_
  refine pm_getf hG dX4_isAhead_14 (flX4_9 _ rfl) rfl rfl ?_
  refine pm_getf hG dX4_isAhead_17 (flX4_31 _ rfl) rfl rfl ?_
  refine pm_iloadn hG dX4_isAhead_20 rfl ?_
  refine pm_bipush (v := 11) hG dX4_isAhead_21 (by decide) ?_
  refine pm_callV (As := [.int zb, .int 11]) (rest := [.int (fG 6 20 14 S za 11)]) hG hR dX4_isAhead_23 (lkX4_51 _ rfl) okV_X9_get rfl rfl (tget_6 (d := 0)) rfl rfl hdd (Nat.le_refl _) (Nat.le_refl _) (by first | decide | exact Nat.le_of_ble_eq_true rfl) (fx_ki ?_)
  refine pm_isub hG dX4_isAhead_26 ?_
  refine fx_letv hE (fun x1 hE => ?_)
  refine pm_istoreXn (loc' := [some (.ref (B + 37)), some (.int za), some (.int zb), some (.int x1), none]) hG dX4_isAhead_27 (by decide) (pm_c1b rfl) rfl ?_
  refine pm_aloadn hG dX4_isAhead_28 rfl ?_
  refine pm_getf hG dX4_isAhead_29 (flX4_9 _ rfl) rfl rfl ?_
  refine pm_getf hG dX4_isAhead_32 (flX4_31 _ rfl) rfl rfl ?_
  refine pm_iloadn hG dX4_isAhead_35 rfl ?_
  refine pm_iconst (v := 1) hG dX4_isAhead_36 (by decide) ?_
  refine pm_callV (As := [.int za, .int 1]) (rest := []) hG hR dX4_isAhead_37 (lkX4_51 _ rfl) okV_X9_get rfl rfl (tget_6 (d := 0)) rfl rfl hdd (Nat.le_refl _) (Nat.le_refl _) (by decide) (fx_ki ?_)
  refine pm_aloadn hG dX4_isAhead_40 rfl ?_
  refine pm_getf hG dX4_isAhead_41 (flX4_9 _ rfl) rfl rfl ?_
  refine pm_getf hG dX4_isAhead_44 (flX4_31 _ rfl) rfl rfl ?_
  refine pm_iloadn hG dX4_isAhead_47 rfl ?_
  refine pm_iconst (v := 1) hG dX4_isAhead_48 (by decide) ?_
  refine pm_callV (As := [.int zb, .int 1]) (rest := [.int (fG 6 20 14 S za 1)]) hG hR dX4_isAhead_49 (lkX4_51 _ rfl) okV_X9_get rfl rfl (tget_6 (d := 0)) rfl rfl hdd (Nat.le_refl _) (Nat.le_refl _) (by first | decide | exact Nat.le_of_ble_eq_true rfl) (fx_ki ?_)
  refine pm_isub hG dX4_isAhead_52 ?_
  refine fx_letv hE (fun x2 hE => ?_)
  refine pm_istoreXi (loc' := [some (.ref (B + 37)), some (.int za), some (.int zb), some (.int x1), some (.int x2)]) hG dX4_isAhead_53 (by decide) (pm_c1b rfl) rfl ?_
  refine pm_iloadn hG dX4_isAhead_55 rfl ?_
  refine pm_if_lt (tgt := 68) hG dX4_isAhead_56 rfl (fun c3 => ?_) (fun c3 => ?_)
  · replace hE := fx_t c3 hE
    refine pm_iconst (v := 1) hG dX4_isAhead_68 (by decide) ?_
    refine pm_goto (tgt := 73) hG dX4_isAhead_69 rfl ?_
    exact pm_zret hG hF dX4_isAhead_73 rfl (by rfl) (Nat.le_refl _) (Nat.le_refl _) (fx_pi hE)
  · replace hE := fx_f c3 hE
    refine pm_iloadn hG dX4_isAhead_59 rfl ?_
    refine pm_if_ne (tgt := 72) hG dX4_isAhead_60 rfl (fun c4 => ?_) (fun c4 => ?_)
    · replace hE := fx_f c4 hE
      refine pm_iconst (v := 0) hG dX4_isAhead_72 (by decide) ?_
      exact pm_zret hG hF dX4_isAhead_73 rfl (by rfl) (Nat.le_refl _) (Nat.le_refl _) (fx_pi hE)
    · replace hE := fx_t c4 hE
      refine pm_iloadi hG dX4_isAhead_63 rfl ?_
      refine pm_if_ge (tgt := 72) hG dX4_isAhead_65 rfl (fun c5 => ?_) (fun c5 => ?_)
      · replace c5 := Int32.not_lt.mpr c5
        replace hE := fx_f c5 hE
        refine pm_iconst (v := 0) hG dX4_isAhead_72 (by decide) ?_
        exact pm_zret hG hF dX4_isAhead_73 rfl (by rfl) (Nat.le_refl _) (Nat.le_refl _) (fx_pi hE)
      · replace c5 := Int32.not_le.mp c5
        replace hE := fx_t c5 hE
        refine pm_iconst (v := 1) hG dX4_isAhead_68 (by decide) ?_
        refine pm_goto (tgt := 73) hG dX4_isAhead_69 rfl ?_
        exact pm_zret hG hF dX4_isAhead_73 rfl (by rfl) (Nat.le_refl _) (Nat.le_refl _) (fx_pi hE)

set_option maxRecDepth 100000 in
set_option maxHeartbeats 4000000 in
theorem c_X4_enqueue {d : Nat} {B cnt : Nat} {kp : Value} {ρ : pm_S} {S : FS} {za : Int32} {R : Int32 × FS} (hdd : 2 ≤ d) (hE : f_X4_enqueue S za = some R) : pm_met mX4_enqueue d 0 0 B [.ref (B + 37), .int za] cnt (cst B kp S ρ) (pm_Qv (fun σ' cnt' => σ' = (cst B kp R.2 ρ) ∧ cnt' = cnt)) := by
  refine pm_enter 2 (by decide) (Nat.le_of_ble_eq_true rfl) rfl (fun G hG hR hF => ?_)
  unfold f_X4_enqueue at hE
  refine pm_aloadn hG dX4_enqueue_0 rfl ?_
  refine pm_getf hG dX4_enqueue_1 (flX4_24 _ rfl) rfl rfl ?_
  refine pm_iloadn hG dX4_enqueue_4 rfl ?_
  obtain ⟨r2, h1, hE⟩ := fb_some hE
  refine pm_callV (As := [.int za]) (rest := []) hG hR dX4_enqueue_5 (lkX4_69 _ rfl) okV_X9_append rfl rfl (tappend_38 (d := 1) (by decide) h1) rfl rfl hdd (Nat.le_refl _) (Nat.le_refl _) (by decide) (fx_ki ?_)
  refine pm_istoreXn (loc' := [some (.ref (B + 37)), some (.int za), some (.int r2.1), none]) hG dX4_enqueue_8 (by decide) (pm_c1b rfl) rfl ?_
  refine pm_iloadn hG dX4_enqueue_9 rfl ?_
  refine pm_istoreXn (loc' := [some (.ref (B + 37)), some (.int za), some (.int r2.1), some (.int r2.1)]) hG dX4_enqueue_10 (by decide) (pm_c1b rfl) rfl ?_
  have loop11 : ∀ (k11 : FS → Int32 → Option (Int32 × FS)), (∀ (S3 : FS) (x3_3 : Int32), k11 S3  x3_3 = some R → pm_wp mX4_enqueue G B 72 [some (.ref (B + 37)), some (.int za), some (.int r2.1), some (.int x3_3)] [] 0 0 cnt (cst B kp S3 ρ)) → ∀ (m11 : Nat) (S3 : FS) (x3_3 : Int32), l_X4_enqueue_11 za k11 m11 S3  x3_3 = some R → pm_wp mX4_enqueue G B 11 [some (.ref (B + 37)), some (.int za), some (.int r2.1), some (.int x3_3)] [] 0 0 cnt (cst B kp S3 ρ) := by
    intro k11 hk11 m11
    induction m11 with
    | zero => intro S3  x3_3 hE; exact fx_no hE
    | succ m11 ih11 =>
      intro S3  x3_3 hE
      rw [l_X4_enqueue_11] at hE
      refine pm_iloadn hG dX4_enqueue_11 rfl ?_
      refine pm_if_le (tgt := 72) hG dX4_enqueue_12 rfl (fun c4 => ?_) (fun c4 => ?_)
      · replace c4 := Int32.not_lt.mpr c4
        replace hE := fx_f c4 hE
        exact hk11 _ _ hE
      · replace c4 := Int32.not_le.mp c4
        replace hE := fx_t c4 hE
        refine pm_aloadn hG dX4_enqueue_15 rfl ?_
        refine pm_iloadn hG dX4_enqueue_16 rfl ?_
        refine pm_aloadn hG dX4_enqueue_17 rfl ?_
        refine pm_getf hG dX4_enqueue_18 (flX4_24 _ rfl) rfl rfl ?_
        refine pm_iloadn hG dX4_enqueue_21 rfl ?_
        refine pm_iconst (v := 1) hG dX4_enqueue_22 (by decide) ?_
        refine pm_isub hG dX4_enqueue_23 ?_
        refine pm_iconst (v := 0) hG dX4_enqueue_24 (by decide) ?_
        refine pm_callV (As := [.int (x3_3 - 1), .int 0]) (rest := [.int za, .ref (B + 37)]) hG hR dX4_enqueue_25 (lkX4_51 _ rfl) okV_X9_get rfl rfl (tget_38 (d := 1)) rfl rfl hdd (Nat.le_refl _) (Nat.le_refl _) (by first | decide | exact Nat.le_of_ble_eq_true rfl) (fx_ki ?_)
        refine pm_callV (As := [.int za, .int (fG 38 20 1 S3 (x3_3 - 1) 0)]) (rest := []) hG hR dX4_enqueue_28 (lkX4_73 _ rfl) okV_X4_isAhead rfl rfl (c_X4_isAhead (d := 1) (by decide) rfl) rfl rfl hdd (Nat.le_refl _) (Nat.le_refl _) (by decide) (fx_ki ?_)
        refine pm_if_eq (tgt := 72) hG dX4_enqueue_31 rfl (fun c5 => ?_) (fun c5 => ?_)
        · replace hE := fx_t c5 hE
          exact hk11 _ _ hE
        · replace hE := fx_f c5 hE
          refine pm_aloadn hG dX4_enqueue_34 rfl ?_
          refine pm_getf hG dX4_enqueue_35 (flX4_24 _ rfl) rfl rfl ?_
          refine pm_iloadn hG dX4_enqueue_38 rfl ?_
          refine pm_iconst (v := 0) hG dX4_enqueue_39 (by decide) ?_
          refine pm_aloadn hG dX4_enqueue_40 rfl ?_
          refine pm_getf hG dX4_enqueue_41 (flX4_24 _ rfl) rfl rfl ?_
          refine pm_iloadn hG dX4_enqueue_44 rfl ?_
          refine pm_iconst (v := 1) hG dX4_enqueue_45 (by decide) ?_
          refine pm_isub hG dX4_enqueue_46 ?_
          refine pm_iconst (v := 0) hG dX4_enqueue_47 (by decide) ?_
          refine pm_callV (As := [.int (x3_3 - 1), .int 0]) (rest := [.int 0, .int x3_3, .ref (B + 38)]) hG hR dX4_enqueue_48 (lkX4_51 _ rfl) okV_X9_get rfl rfl (tget_38 (d := 1)) rfl rfl hdd (Nat.le_refl _) (Nat.le_refl _) (by first | decide | exact Nat.le_of_ble_eq_true rfl) (fx_ki ?_)
          refine pm_callV (As := [.int x3_3, .int 0, .int (fG 38 20 1 S3 (x3_3 - 1) 0)]) (rest := []) hG hR dX4_enqueue_51 (lkX4_77 _ rfl) okV_X9_set rfl rfl (tset_38 (d := 1)) rfl rfl hdd (Nat.le_refl _) (Nat.le_refl _) (by decide) (fx_kv ?_)
          refine fx_letc hE (fun S6 hE => ?_)
          refine pm_aloadn hG dX4_enqueue_54 rfl ?_
          refine pm_getf hG dX4_enqueue_55 (flX4_24 _ rfl) rfl rfl ?_
          refine pm_iloadn hG dX4_enqueue_58 rfl ?_
          refine pm_iconst (v := 1) hG dX4_enqueue_59 (by decide) ?_
          refine pm_isub hG dX4_enqueue_60 ?_
          refine pm_iconst (v := 0) hG dX4_enqueue_61 (by decide) ?_
          refine pm_iloadn hG dX4_enqueue_62 rfl ?_
          refine pm_callV (As := [.int (x3_3 - 1), .int 0, .int za]) (rest := []) hG hR dX4_enqueue_63 (lkX4_77 _ rfl) okV_X9_set rfl rfl (tset_38 (d := 1)) rfl rfl hdd (Nat.le_refl _) (Nat.le_refl _) (by decide) (fx_kv ?_)
          refine fx_letc hE (fun S7 hE => ?_)
          refine pm_iincX (v := x3_3 + (-1)) (loc' := [some (.ref (B + 37)), some (.int za), some (.int r2.1), some (.int (x3_3 + (-1)))]) hG dX4_enqueue_66 rfl (by rfl) (by decide) (pm_c1b rfl) rfl ?_
          refine pm_goto (tgt := 11) hG dX4_enqueue_69 rfl ?_
          exact ih11 _ _ hE
  refine loop11 _ (fun S8 x8_3 hE => ?_) _ _ _ hE
  exact pm_vret hG hF dX4_enqueue_72 rfl (Nat.le_refl _) (Nat.le_refl _) (fx_rvc hE)
