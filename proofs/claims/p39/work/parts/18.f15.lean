set_option maxRecDepth 100000 in
set_option maxHeartbeats 4000000 in
theorem c_X11_open {d : Nat} {B cnt : Nat} {kp : Value} {ρ : pm_S} {S : FS} {za : Int32} {R : Int32 × FS} (hdd : 6 ≤ d) (hE : f_X11_open S za = some R) : pm_met mX11_open d 0 0 B [.ref (B + 0), .int za] cnt (cst B kp S ρ) (pm_Qi (fun v σ' cnt' => v = R.1 ∧ σ' = (cst B kp R.2 ρ) ∧ cnt' = cnt)) := by
  refine pm_enter 0 (by decide) (Nat.le_of_ble_eq_true rfl) rfl (fun G hG hR hF => ?_)
  unfold f_X11_open at hE
  refine pm_aloadn hG dX11_open_0 rfl ?_
  refine pm_aloadn hG dX11_open_1 rfl ?_
  refine pm_getf hG dX11_open_2 (flX11_12 _ rfl) rfl rfl ?_
  refine pm_getf hG dX11_open_5 (flX11_224 _ rfl) rfl rfl ?_
  refine pm_iloadn hG dX11_open_8 rfl ?_
  refine pm_callV (As := [.int za]) (rest := [.ref (B + 0)]) hG hR dX11_open_9 (lkX11_101 _ rfl) okV_X9_has rfl rfl (thas_14 (d := 5)) rfl rfl hdd (Nat.le_refl _) (Nat.le_refl _) (by first | decide | exact Nat.le_of_ble_eq_true rfl) (fx_ki ?_)
  refine pm_if_eq (tgt := 26) hG dX11_open_12 rfl (fun c1 => ?_) (fun c1 => ?_)
  · replace hE := fx_t c1 hE
    refine pm_ldc hG dX11_open_26 (ctX11_109 _ rfl) ?_
    obtain ⟨r3, h2, hE⟩ := fb_some hE
    refine pm_callV (As := [.int (-1000001)]) (rest := []) hG hR dX11_open_28 (lkX11_97 _ rfl) okV_X11_told rfl rfl (c_X11_told (d := 5) (by decide) h2) rfl rfl hdd (Nat.le_refl _) (Nat.le_refl _) (by decide) (fx_ki ?_)
    exact pm_iret hG hF dX11_open_31 rfl (Nat.le_refl _) (Nat.le_refl _) (fx_ric hE)
  · replace hE := fx_f c1 hE
    refine pm_aloadn hG dX11_open_15 rfl ?_
    refine pm_getf hG dX11_open_16 (flX11_39 _ rfl) rfl rfl ?_
    refine pm_iloadn hG dX11_open_19 rfl ?_
    obtain ⟨r5, h4, hE⟩ := fb_some hE
    refine pm_callV (As := [.int za]) (rest := [.ref (B + 0)]) hG hR dX11_open_20 (lkX11_239 _ rfl) okV_X3_unfold rfl rfl (c_X3_unfold (d := 5) (by decide) h4) rfl rfl hdd (Nat.le_refl _) (Nat.le_refl _) (by first | decide | exact Nat.le_of_ble_eq_true rfl) (fx_ki ?_)
    refine pm_goto (tgt := 28) hG dX11_open_23 rfl ?_
    obtain ⟨r7, h6, hE⟩ := fb_some hE
    refine pm_callV (As := [.int r5.1]) (rest := []) hG hR dX11_open_28 (lkX11_97 _ rfl) okV_X11_told rfl rfl (c_X11_told (d := 5) (by decide) h6) rfl rfl hdd (Nat.le_refl _) (Nat.le_refl _) (by decide) (fx_ki ?_)
    exact pm_iret hG hF dX11_open_31 rfl (Nat.le_refl _) (Nat.le_refl _) (fx_ric hE)

set_option maxRecDepth 100000 in
set_option maxHeartbeats 4000000 in
theorem c_X11_owed {d : Nat} {B cnt : Nat} {kp : Value} {ρ : pm_S} {S : FS} {za : Int32} {zb : Int32} {R : Int32 × FS} (hdd : 2 ≤ d) (hE : f_X11_owed S za zb = some R) : pm_met mX11_owed d 0 0 B [.ref (B + 0), .int za, .int zb] cnt (cst B kp S ρ) (pm_Qi (fun v σ' cnt' => v = R.1 ∧ σ' = (cst B kp R.2 ρ) ∧ cnt' = cnt)) := by
  refine pm_enter 1 (by decide) (Nat.le_of_ble_eq_true rfl) rfl (fun G hG hR hF => ?_)
  unfold f_X11_owed at hE
  refine pm_aloadn hG dX11_owed_0 rfl ?_
  refine pm_getf hG dX11_owed_1 (flX11_12 _ rfl) rfl rfl ?_
  refine pm_getf hG dX11_owed_4 (flX11_271 _ rfl) rfl rfl ?_
  refine pm_iloadn hG dX11_owed_7 rfl ?_
  refine pm_callV (As := [.int za]) (rest := []) hG hR dX11_owed_8 (lkX11_101 _ rfl) okV_X9_has rfl rfl (thas_16 (d := 1)) rfl rfl hdd (Nat.le_refl _) (Nat.le_refl _) (by decide) (fx_ki ?_)
  refine pm_if_ne (tgt := 21) hG dX11_owed_11 rfl (fun c1 => ?_) (fun c1 => ?_)
  · replace hE := fx_f c1 hE
    refine pm_aloadn hG dX11_owed_21 rfl ?_
    refine pm_getf hG dX11_owed_22 (flX11_12 _ rfl) rfl rfl ?_
    refine pm_getf hG dX11_owed_25 (flX11_271 _ rfl) rfl rfl ?_
    refine pm_iloadn hG dX11_owed_28 rfl ?_
    refine pm_iconst (v := 3) hG dX11_owed_29 (by decide) ?_
    refine pm_callV (As := [.int za, .int 3]) (rest := []) hG hR dX11_owed_30 (lkX11_152 _ rfl) okV_X9_get rfl rfl (tget_16 (d := 1)) rfl rfl hdd (Nat.le_refl _) (Nat.le_refl _) (by decide) (fx_ki ?_)
    refine fx_letv hE (fun x2 hE => ?_)
    refine pm_istoreXn (loc' := [some (.ref (B + 0)), some (.int za), some (.int zb), some (.int x2)]) hG dX11_owed_33 (by decide) (pm_c1b rfl) rfl ?_
    refine pm_iloadn hG dX11_owed_34 rfl ?_
    by_cases c3 : zb = 0
    · replace hE := fx_t c3 hE
      refine pm_top (v := 0) c3 ?_
      refine pm_tswIn (tgt := 64) hG dX11_owed_35 (by decide) (by decide) rfl rfl ?_
      refine pm_aloadn hG dX11_owed_64 rfl ?_
      refine pm_getf hG dX11_owed_65 (flX11_12 _ rfl) rfl rfl ?_
      refine pm_getf hG dX11_owed_68 (flX11_271 _ rfl) rfl rfl ?_
      refine pm_iloadn hG dX11_owed_71 rfl ?_
      refine pm_iconst (v := 0) hG dX11_owed_72 (by decide) ?_
      refine pm_callV (As := [.int za, .int 0]) (rest := []) hG hR dX11_owed_73 (lkX11_152 _ rfl) okV_X9_get rfl rfl (tget_16 (d := 1)) rfl rfl hdd (Nat.le_refl _) (Nat.le_refl _) (by decide) (fx_ki ?_)
      exact pm_iret hG hF dX11_owed_76 rfl (Nat.le_refl _) (Nat.le_refl _) (fx_ric hE)
    replace hE := fx_f c3 hE
    by_cases c4 : zb = 1
    · replace hE := fx_t c4 hE
      refine pm_top (v := 1) c4 ?_
      refine pm_tswIn (tgt := 77) hG dX11_owed_35 (by decide) (by decide) rfl rfl ?_
      refine pm_aloadn hG dX11_owed_77 rfl ?_
      refine pm_getf hG dX11_owed_78 (flX11_12 _ rfl) rfl rfl ?_
      refine pm_getf hG dX11_owed_81 (flX11_271 _ rfl) rfl rfl ?_
      refine pm_iloadn hG dX11_owed_84 rfl ?_
      refine pm_iconst (v := 4) hG dX11_owed_85 (by decide) ?_
      refine pm_callV (As := [.int za, .int 4]) (rest := []) hG hR dX11_owed_86 (lkX11_152 _ rfl) okV_X9_get rfl rfl (tget_16 (d := 1)) rfl rfl hdd (Nat.le_refl _) (Nat.le_refl _) (by decide) (fx_ki ?_)
      exact pm_iret hG hF dX11_owed_89 rfl (Nat.le_refl _) (Nat.le_refl _) (fx_ric hE)
    replace hE := fx_f c4 hE
    by_cases c5 : zb = 2
    · replace hE := fx_t c5 hE
      refine pm_top (v := 2) c5 ?_
      refine pm_tswIn (tgt := 90) hG dX11_owed_35 (by decide) (by decide) rfl rfl ?_
      refine pm_aloadn hG dX11_owed_90 rfl ?_
      refine pm_getf hG dX11_owed_91 (flX11_12 _ rfl) rfl rfl ?_
      refine pm_getf hG dX11_owed_94 (flX11_82 _ rfl) rfl rfl ?_
      refine pm_iloadn hG dX11_owed_97 rfl ?_
      refine pm_iconst (v := 2) hG dX11_owed_98 (by decide) ?_
      refine pm_callV (As := [.int x2, .int 2]) (rest := []) hG hR dX11_owed_99 (lkX11_152 _ rfl) okV_X9_get rfl rfl (tget_2 (d := 1)) rfl rfl hdd (Nat.le_refl _) (Nat.le_refl _) (by decide) (fx_ki ?_)
      exact pm_iret hG hF dX11_owed_102 rfl (Nat.le_refl _) (Nat.le_refl _) (fx_ric hE)
    replace hE := fx_f c5 hE
    by_cases c6 : zb = 3
    · replace hE := fx_t c6 hE
      refine pm_top (v := 3) c6 ?_
      refine pm_tswIn (tgt := 103) hG dX11_owed_35 (by decide) (by decide) rfl rfl ?_
      refine pm_aloadn hG dX11_owed_103 rfl ?_
      refine pm_getf hG dX11_owed_104 (flX11_12 _ rfl) rfl rfl ?_
      refine pm_getf hG dX11_owed_107 (flX11_271 _ rfl) rfl rfl ?_
      refine pm_iconst (v := 3) hG dX11_owed_110 (by decide) ?_
      refine pm_iloadn hG dX11_owed_111 rfl ?_
      obtain ⟨x8, h7, hE⟩ := fb_some hE
      refine pm_callV (As := [.int 3, .int x2]) (rest := []) hG hR dX11_owed_112 (lkX11_164 _ rfl) okV_X9_rowsWith rfl rfl (trowsWith_16 (d := 1) (k := 3) (by decide) rfl h7) rfl rfl hdd (Nat.le_refl _) (Nat.le_refl _) (by decide) (fx_ki ?_)
      exact pm_iret hG hF dX11_owed_115 rfl (Nat.le_refl _) (Nat.le_refl _) (fx_ric hE)
    replace hE := fx_f c6 hE
    have tc3 : ¬ zb.toInt = 0 := fun q => c3 (Int32.toInt_inj.mp q)
    have tc4 : ¬ zb.toInt = 1 := fun q => c4 (Int32.toInt_inj.mp q)
    have tc5 : ¬ zb.toInt = 2 := fun q => c5 (Int32.toInt_inj.mp q)
    have tc6 : ¬ zb.toInt = 3 := fun q => c6 (Int32.toInt_inj.mp q)
    refine pm_tswOut (tgt := 116) hG dX11_owed_35 (by omega) rfl ?_
    refine pm_aloadn hG dX11_owed_116 rfl ?_
    refine pm_ldc hG dX11_owed_117 (ctX11_109 _ rfl) ?_
    obtain ⟨r10, h9, hE⟩ := fb_some hE
    refine pm_callV (As := [.int (-1000001)]) (rest := []) hG hR dX11_owed_119 (lkX11_97 _ rfl) okV_X11_told rfl rfl (c_X11_told (d := 1) (by decide) h9) rfl rfl hdd (Nat.le_refl _) (Nat.le_refl _) (by decide) (fx_ki ?_)
    exact pm_iret hG hF dX11_owed_122 rfl (Nat.le_refl _) (Nat.le_refl _) (fx_ric hE)
  · replace hE := fx_t c1 hE
    refine pm_aloadn hG dX11_owed_14 rfl ?_
    refine pm_ldc hG dX11_owed_15 (ctX11_109 _ rfl) ?_
    obtain ⟨r12, h11, hE⟩ := fb_some hE
    refine pm_callV (As := [.int (-1000001)]) (rest := []) hG hR dX11_owed_17 (lkX11_97 _ rfl) okV_X11_told rfl rfl (c_X11_told (d := 1) (by decide) h11) rfl rfl hdd (Nat.le_refl _) (Nat.le_refl _) (by decide) (fx_ki ?_)
    exact pm_iret hG hF dX11_owed_20 rfl (Nat.le_refl _) (Nat.le_refl _) (fx_ric hE)

set_option maxRecDepth 100000 in
set_option maxHeartbeats 4000000 in
theorem c_X11_own {d : Nat} {B cnt : Nat} {kp : Value} {ρ : pm_S} {S : FS} {za : Int32} {zb : Int32} {R : Int32 × FS} (hdd : 3 ≤ d) (hE : f_X11_own S za zb = some R) : pm_met mX11_own d 0 0 B [.ref (B + 0), .int za, .int zb] cnt (cst B kp S ρ) (pm_Qi (fun v σ' cnt' => v = R.1 ∧ σ' = (cst B kp R.2 ρ) ∧ cnt' = cnt)) := by
  refine pm_enter 0 (by decide) (Nat.le_of_ble_eq_true rfl) rfl (fun G hG hR hF => ?_)
  unfold f_X11_own at hE
  refine pm_aloadn hG dX11_own_0 rfl ?_
  refine pm_getf hG dX11_own_1 (flX11_12 _ rfl) rfl rfl ?_
  refine pm_getf hG dX11_own_4 (flX11_82 _ rfl) rfl rfl ?_
  refine pm_iloadn hG dX11_own_7 rfl ?_
  refine pm_callV (As := [.int za]) (rest := []) hG hR dX11_own_8 (lkX11_101 _ rfl) okV_X9_has rfl rfl (thas_2 (d := 2)) rfl rfl hdd (Nat.le_refl _) (Nat.le_refl _) (by decide) (fx_ki ?_)
  refine pm_if_eq (tgt := 25) hG dX11_own_11 rfl (fun c1 => ?_) (fun c1 => ?_)
  · replace hE := fx_t c1 hE
    refine pm_aloadn hG dX11_own_25 rfl ?_
    refine pm_ldc hG dX11_own_26 (ctX11_109 _ rfl) ?_
    obtain ⟨r3, h2, hE⟩ := fb_some hE
    refine pm_callV (As := [.int (-1000001)]) (rest := []) hG hR dX11_own_28 (lkX11_97 _ rfl) okV_X11_told rfl rfl (c_X11_told (d := 2) (by decide) h2) rfl rfl hdd (Nat.le_refl _) (Nat.le_refl _) (by decide) (fx_ki ?_)
    exact pm_iret hG hF dX11_own_31 rfl (Nat.le_refl _) (Nat.le_refl _) (fx_ric hE)
  · replace hE := fx_f c1 hE
    refine pm_aloadn hG dX11_own_14 rfl ?_
    refine pm_getf hG dX11_own_15 (flX11_12 _ rfl) rfl rfl ?_
    refine pm_iloadn hG dX11_own_18 rfl ?_
    refine pm_callV (As := [.int zb]) (rest := []) hG hR dX11_own_19 (lkX11_174 _ rfl) okV_X7_isLivingOrNobody rfl rfl (c_X7_isLivingOrNobody (d := 2) (by decide) rfl) rfl rfl hdd (Nat.le_refl _) (Nat.le_refl _) (by decide) (fx_ki ?_)
    refine pm_if_ne (tgt := 32) hG dX11_own_22 rfl (fun c4 => ?_) (fun c4 => ?_)
    · replace hE := fx_f c4 hE
      refine pm_aloadn hG dX11_own_32 rfl ?_
      refine pm_getf hG dX11_own_33 (flX11_12 _ rfl) rfl rfl ?_
      refine pm_getf hG dX11_own_36 (flX11_82 _ rfl) rfl rfl ?_
      refine pm_iloadn hG dX11_own_39 rfl ?_
      refine pm_iconst (v := 2) hG dX11_own_40 (by decide) ?_
      refine pm_callV (As := [.int za, .int 2]) (rest := []) hG hR dX11_own_41 (lkX11_152 _ rfl) okV_X9_get rfl rfl (tget_2 (d := 2)) rfl rfl hdd (Nat.le_refl _) (Nat.le_refl _) (by decide) (fx_ki ?_)
      refine pm_if_eq (tgt := 54) hG dX11_own_44 rfl (fun c5 => ?_) (fun c5 => ?_)
      · replace hE := fx_t c5 hE
        refine pm_aloadn hG dX11_own_54 rfl ?_
        refine pm_getf hG dX11_own_55 (flX11_12 _ rfl) rfl rfl ?_
        refine pm_getf hG dX11_own_58 (flX11_82 _ rfl) rfl rfl ?_
        refine pm_iloadn hG dX11_own_61 rfl ?_
        refine pm_iconst (v := 1) hG dX11_own_62 (by decide) ?_
        refine pm_iloadn hG dX11_own_63 rfl ?_
        refine pm_callV (As := [.int za, .int 1, .int zb]) (rest := []) hG hR dX11_own_64 (lkX11_248 _ rfl) okV_X9_swap rfl rfl (tswap_2 (d := 2) (by decide)) rfl rfl hdd (Nat.le_refl _) (Nat.le_refl _) (by decide) (fx_ki ?_)
        refine fx_letc hE (fun S6 hE => ?_)
        exact pm_iret hG hF dX11_own_67 rfl (Nat.le_refl _) (Nat.le_refl _) (fx_ric hE)
      · replace hE := fx_f c5 hE
        refine pm_aloadn hG dX11_own_47 rfl ?_
        refine pm_ldc hG dX11_own_48 (ctX11_138 _ rfl) ?_
        obtain ⟨r8, h7, hE⟩ := fb_some hE
        refine pm_callV (As := [.int (-1000003)]) (rest := []) hG hR dX11_own_50 (lkX11_97 _ rfl) okV_X11_told rfl rfl (c_X11_told (d := 2) (by decide) h7) rfl rfl hdd (Nat.le_refl _) (Nat.le_refl _) (by decide) (fx_ki ?_)
        exact pm_iret hG hF dX11_own_53 rfl (Nat.le_refl _) (Nat.le_refl _) (fx_ric hE)
    · replace hE := fx_t c4 hE
      refine pm_aloadn hG dX11_own_25 rfl ?_
      refine pm_ldc hG dX11_own_26 (ctX11_109 _ rfl) ?_
      obtain ⟨r10, h9, hE⟩ := fb_some hE
      refine pm_callV (As := [.int (-1000001)]) (rest := []) hG hR dX11_own_28 (lkX11_97 _ rfl) okV_X11_told rfl rfl (c_X11_told (d := 2) (by decide) h9) rfl rfl hdd (Nat.le_refl _) (Nat.le_refl _) (by decide) (fx_ki ?_)
      exact pm_iret hG hF dX11_own_31 rfl (Nat.le_refl _) (Nat.le_refl _) (fx_ric hE)

set_option maxRecDepth 100000 in
set_option maxHeartbeats 4000000 in
theorem c_X11_pay {d : Nat} {B cnt : Nat} {kp : Value} {ρ : pm_S} {S : FS} {za : Int32} {zb : Int32} {R : Int32 × FS} (hdd : 3 ≤ d) (hE : f_X11_pay S za zb = some R) : pm_met mX11_pay d 0 0 B [.ref (B + 0), .int za, .int zb] cnt (cst B kp S ρ) (pm_Qi (fun v σ' cnt' => v = R.1 ∧ σ' = (cst B kp R.2 ρ) ∧ cnt' = cnt)) := by
  refine pm_enter 0 (by decide) (Nat.le_of_ble_eq_true rfl) rfl (fun G hG hR hF => ?_)
  unfold f_X11_pay at hE
  refine pm_aloadn hG dX11_pay_0 rfl ?_
  refine pm_getf hG dX11_pay_1 (flX11_12 _ rfl) rfl rfl ?_
  refine pm_getf hG dX11_pay_4 (flX11_128 _ rfl) rfl rfl ?_
  refine pm_iloadn hG dX11_pay_7 rfl ?_
  refine pm_callV (As := [.int za]) (rest := []) hG hR dX11_pay_8 (lkX11_101 _ rfl) okV_X9_has rfl rfl (thas_6 (d := 2)) rfl rfl hdd (Nat.le_refl _) (Nat.le_refl _) (by decide) (fx_ki ?_)
  refine pm_if_eq (tgt := 25) hG dX11_pay_11 rfl (fun c1 => ?_) (fun c1 => ?_)
  · replace hE := fx_t c1 hE
    refine pm_aloadn hG dX11_pay_25 rfl ?_
    refine pm_ldc hG dX11_pay_26 (ctX11_109 _ rfl) ?_
    obtain ⟨r3, h2, hE⟩ := fb_some hE
    refine pm_callV (As := [.int (-1000001)]) (rest := []) hG hR dX11_pay_28 (lkX11_97 _ rfl) okV_X11_told rfl rfl (c_X11_told (d := 2) (by decide) h2) rfl rfl hdd (Nat.le_refl _) (Nat.le_refl _) (by decide) (fx_ki ?_)
    exact pm_iret hG hF dX11_pay_31 rfl (Nat.le_refl _) (Nat.le_refl _) (fx_ric hE)
  · replace hE := fx_f c1 hE
    refine pm_iloadn hG dX11_pay_14 rfl ?_
    refine pm_iconst (v := 1) hG dX11_pay_15 (by decide) ?_
    refine pm_sipush (v := 9999) hG dX11_pay_16 (by decide) ?_
    refine pm_callS (As := [.int zb, .int 1, .int 9999]) (rest := []) hG hR dX11_pay_19 (lkX11_105 _ rfl) okS_X11_isOutside (tOut (d := 2)) rfl rfl hdd (Nat.le_refl _) (Nat.le_refl _) (by decide) (fx_ki ?_)
    refine pm_if_eq (tgt := 32) hG dX11_pay_22 rfl (fun c4 => ?_) (fun c4 => ?_)
    · replace hE := fx_t c4 hE
      refine pm_aloadn hG dX11_pay_32 rfl ?_
      refine pm_aloadn hG dX11_pay_33 rfl ?_
      refine pm_getf hG dX11_pay_34 (flX11_12 _ rfl) rfl rfl ?_
      refine pm_iloadn hG dX11_pay_37 rfl ?_
      refine pm_callV (As := [.int za]) (rest := [.ref (B + 0)]) hG hR dX11_pay_38 (lkX11_135 _ rfl) okV_X7_isLiving rfl rfl (c_X7_isLiving (d := 2) (by decide) rfl) rfl rfl hdd (Nat.le_refl _) (Nat.le_refl _) (by first | decide | exact Nat.le_of_ble_eq_true rfl) (fx_ki ?_)
      refine pm_if_eq (tgt := 56) hG dX11_pay_41 rfl (fun c5 => ?_) (fun c5 => ?_)
      · replace hE := fx_t c5 hE
        refine pm_ldc hG dX11_pay_56 (ctX11_138 _ rfl) ?_
        obtain ⟨r7, h6, hE⟩ := fb_some hE
        refine pm_callV (As := [.int (-1000003)]) (rest := []) hG hR dX11_pay_58 (lkX11_97 _ rfl) okV_X11_told rfl rfl (c_X11_told (d := 2) (by decide) h6) rfl rfl hdd (Nat.le_refl _) (Nat.le_refl _) (by decide) (fx_ki ?_)
        exact pm_iret hG hF dX11_pay_61 rfl (Nat.le_refl _) (Nat.le_refl _) (fx_ric hE)
      · replace hE := fx_f c5 hE
        refine pm_aloadn hG dX11_pay_44 rfl ?_
        refine pm_getf hG dX11_pay_45 (flX11_12 _ rfl) rfl rfl ?_
        refine pm_iloadn hG dX11_pay_48 rfl ?_
        refine pm_iloadn hG dX11_pay_49 rfl ?_
        obtain ⟨r9, h8, hE⟩ := fb_some hE
        refine pm_callV (As := [.int za, .int zb]) (rest := [.ref (B + 0)]) hG hR dX11_pay_50 (lkX11_167 _ rfl) okV_X7_payFromChest rfl rfl (c_X7_payFromChest (d := 2) (by decide) h8) rfl rfl hdd (Nat.le_refl _) (Nat.le_refl _) (by first | decide | exact Nat.le_of_ble_eq_true rfl) (fx_ki ?_)
        refine pm_goto (tgt := 58) hG dX11_pay_53 rfl ?_
        obtain ⟨r11, h10, hE⟩ := fb_some hE
        refine pm_callV (As := [.int r9.1]) (rest := []) hG hR dX11_pay_58 (lkX11_97 _ rfl) okV_X11_told rfl rfl (c_X11_told (d := 2) (by decide) h10) rfl rfl hdd (Nat.le_refl _) (Nat.le_refl _) (by decide) (fx_ki ?_)
        exact pm_iret hG hF dX11_pay_61 rfl (Nat.le_refl _) (Nat.le_refl _) (fx_ric hE)
    · replace hE := fx_f c4 hE
      refine pm_aloadn hG dX11_pay_25 rfl ?_
      refine pm_ldc hG dX11_pay_26 (ctX11_109 _ rfl) ?_
      obtain ⟨r13, h12, hE⟩ := fb_some hE
      refine pm_callV (As := [.int (-1000001)]) (rest := []) hG hR dX11_pay_28 (lkX11_97 _ rfl) okV_X11_told rfl rfl (c_X11_told (d := 2) (by decide) h12) rfl rfl hdd (Nat.le_refl _) (Nat.le_refl _) (by decide) (fx_ki ?_)
      exact pm_iret hG hF dX11_pay_31 rfl (Nat.le_refl _) (Nat.le_refl _) (fx_ric hE)

set_option maxRecDepth 100000 in
set_option maxHeartbeats 4000000 in
theorem c_X7_mayBeParent {d : Nat} {B cnt : Nat} {kp : Value} {ρ : pm_S} {S : FS} {za : Int32} {zb : Int32} {zc : Int32} {R : Int32} (hdd : 1 ≤ d) (hE : p_X7_mayBeParent S za zb zc = R) : pm_met mX7_mayBeParent d 0 0 B [.ref (B + 1), .int za, .int zb, .int zc] cnt (cst B kp S ρ) (pm_Qi (fun v σ' cnt' => v = R ∧ σ' = (cst B kp S ρ) ∧ cnt' = cnt)) := by
  refine pm_enter 0 (by decide) (Nat.le_of_ble_eq_true rfl) rfl (fun G hG hR hF => ?_)
  unfold p_X7_mayBeParent at hE
  refine pm_iloadn hG dX7_mayBeParent_0 rfl ?_
  refine pm_iconst (v := (-1)) hG dX7_mayBeParent_1 (by decide) ?_
  refine pm_icmp_eq (tgt := 42) hG dX7_mayBeParent_2 rfl (fun c1 => ?_) (fun c1 => ?_)
  · replace hE := fx_t c1 hE
    refine pm_iconst (v := 1) hG dX7_mayBeParent_42 (by decide) ?_
    refine pm_goto (tgt := 47) hG dX7_mayBeParent_43 rfl ?_
    exact pm_zret hG hF dX7_mayBeParent_47 rfl (by rfl) (Nat.le_refl _) (Nat.le_refl _) (fx_pi hE)
  · replace hE := fx_f c1 hE
    refine pm_aloadn hG dX7_mayBeParent_5 rfl ?_
    refine pm_getf hG dX7_mayBeParent_6 (flX7_23 _ rfl) rfl rfl ?_
    refine pm_iloadn hG dX7_mayBeParent_9 rfl ?_
    refine pm_callV (As := [.int za]) (rest := []) hG hR dX7_mayBeParent_10 (lkX7_93 _ rfl) okV_X9_has rfl rfl (thas_6 (d := 0)) rfl rfl hdd (Nat.le_refl _) (Nat.le_refl _) (by decide) (fx_ki ?_)
    refine pm_if_eq (tgt := 46) hG dX7_mayBeParent_13 rfl (fun c2 => ?_) (fun c2 => ?_)
    · replace hE := fx_t c2 hE
      refine pm_iconst (v := 0) hG dX7_mayBeParent_46 (by decide) ?_
      exact pm_zret hG hF dX7_mayBeParent_47 rfl (by rfl) (Nat.le_refl _) (Nat.le_refl _) (fx_pi hE)
    · replace hE := fx_f c2 hE
      refine pm_aloadn hG dX7_mayBeParent_16 rfl ?_
      refine pm_getf hG dX7_mayBeParent_17 (flX7_23 _ rfl) rfl rfl ?_
      refine pm_iloadn hG dX7_mayBeParent_20 rfl ?_
      refine pm_iconst (v := 0) hG dX7_mayBeParent_21 (by decide) ?_
      refine pm_callV (As := [.int za, .int 0]) (rest := []) hG hR dX7_mayBeParent_22 (lkX7_83 _ rfl) okV_X9_get rfl rfl (tget_6 (d := 0)) rfl rfl hdd (Nat.le_refl _) (Nat.le_refl _) (by decide) (fx_ki ?_)
      refine pm_iloadn hG dX7_mayBeParent_25 rfl ?_
      refine pm_icmp_ne (tgt := 46) hG dX7_mayBeParent_26 rfl (fun c3 => ?_) (fun c3 => ?_)
      · replace hE := fx_f c3 hE
        refine pm_iconst (v := 0) hG dX7_mayBeParent_46 (by decide) ?_
        exact pm_zret hG hF dX7_mayBeParent_47 rfl (by rfl) (Nat.le_refl _) (Nat.le_refl _) (fx_pi hE)
      · replace hE := fx_t c3 hE
        refine pm_aloadn hG dX7_mayBeParent_29 rfl ?_
        refine pm_getf hG dX7_mayBeParent_30 (flX7_23 _ rfl) rfl rfl ?_
        refine pm_iloadn hG dX7_mayBeParent_33 rfl ?_
        refine pm_iconst (v := 1) hG dX7_mayBeParent_34 (by decide) ?_
        refine pm_callV (As := [.int za, .int 1]) (rest := []) hG hR dX7_mayBeParent_35 (lkX7_83 _ rfl) okV_X9_get rfl rfl (tget_6 (d := 0)) rfl rfl hdd (Nat.le_refl _) (Nat.le_refl _) (by decide) (fx_ki ?_)
        refine pm_iloadn hG dX7_mayBeParent_38 rfl ?_
        refine pm_icmp_ge (tgt := 46) hG dX7_mayBeParent_39 rfl (fun c4 => ?_) (fun c4 => ?_)
        · replace c4 := Int32.not_lt.mpr c4
          replace hE := fx_f c4 hE
          refine pm_iconst (v := 0) hG dX7_mayBeParent_46 (by decide) ?_
          exact pm_zret hG hF dX7_mayBeParent_47 rfl (by rfl) (Nat.le_refl _) (Nat.le_refl _) (fx_pi hE)
        · replace c4 := Int32.not_le.mp c4
          replace hE := fx_t c4 hE
          refine pm_iconst (v := 1) hG dX7_mayBeParent_42 (by decide) ?_
          refine pm_goto (tgt := 47) hG dX7_mayBeParent_43 rfl ?_
          exact pm_zret hG hF dX7_mayBeParent_47 rfl (by rfl) (Nat.le_refl _) (Nat.le_refl _) (fx_pi hE)

set_option maxRecDepth 100000 in
set_option maxHeartbeats 4000000 in
theorem c_X7_bringNearer {d : Nat} {B cnt : Nat} {kp : Value} {ρ : pm_S} {S : FS} {za : Int32} {zb : Int32} {R : Int32 × FS} (hdd : 1 ≤ d) (hE : f_X7_bringNearer S za zb = some R) : pm_met mX7_bringNearer d 0 0 B [.ref (B + 1), .int za, .int zb] cnt (cst B kp S ρ) (pm_Qv (fun σ' cnt' => σ' = (cst B kp R.2 ρ) ∧ cnt' = cnt)) := by
  refine pm_enter 2 (by decide) (Nat.le_of_ble_eq_true rfl) rfl (fun G hG hR hF => ?_)
  unfold f_X7_bringNearer at hE
  refine pm_iloadn hG dX7_bringNearer_0 rfl ?_
  refine pm_iconst (v := (-1)) hG dX7_bringNearer_1 (by decide) ?_
  refine pm_icmp_eq (tgt := 64) hG dX7_bringNearer_2 rfl (fun c1 => ?_) (fun c1 => ?_)
  · replace hE := fx_t c1 hE
    exact pm_vret hG hF dX7_bringNearer_64 rfl (Nat.le_refl _) (Nat.le_refl _) (fx_rvc hE)
  · replace hE := fx_f c1 hE
    refine pm_aloadn hG dX7_bringNearer_5 rfl ?_
    refine pm_getf hG dX7_bringNearer_6 (flX7_23 _ rfl) rfl rfl ?_
    refine pm_iloadn hG dX7_bringNearer_9 rfl ?_
    refine pm_bipush (v := 11) hG dX7_bringNearer_10 (by decide) ?_
    refine pm_callV (As := [.int za, .int 11]) (rest := []) hG hR dX7_bringNearer_12 (lkX7_83 _ rfl) okV_X9_get rfl rfl (tget_6 (d := 0)) rfl rfl hdd (Nat.le_refl _) (Nat.le_refl _) (by decide) (fx_ki ?_)
    refine fx_letv hE (fun x2 hE => ?_)
    refine pm_istoreXn (loc' := [some (.ref (B + 1)), some (.int za), some (.int zb), some (.int x2), none]) hG dX7_bringNearer_15 (by decide) (pm_c1b rfl) rfl ?_
    refine pm_aloadn hG dX7_bringNearer_16 rfl ?_
    refine pm_getf hG dX7_bringNearer_17 (flX7_23 _ rfl) rfl rfl ?_
    refine pm_iloadn hG dX7_bringNearer_20 rfl ?_
    refine pm_bipush (v := 11) hG dX7_bringNearer_21 (by decide) ?_
    refine pm_callV (As := [.int zb, .int 11]) (rest := []) hG hR dX7_bringNearer_23 (lkX7_83 _ rfl) okV_X9_get rfl rfl (tget_6 (d := 0)) rfl rfl hdd (Nat.le_refl _) (Nat.le_refl _) (by decide) (fx_ki ?_)
    refine fx_letv hE (fun x3 hE => ?_)
    refine pm_istoreXi (loc' := [some (.ref (B + 1)), some (.int za), some (.int zb), some (.int x2), some (.int x3)]) hG dX7_bringNearer_26 (by decide) (pm_c1b rfl) rfl ?_
    refine pm_aloadn hG dX7_bringNearer_28 rfl ?_
    refine pm_getf hG dX7_bringNearer_29 (flX7_23 _ rfl) rfl rfl ?_
    refine pm_iloadn hG dX7_bringNearer_32 rfl ?_
    refine pm_bipush (v := 11) hG dX7_bringNearer_33 (by decide) ?_
    refine pm_iloadn hG dX7_bringNearer_35 rfl ?_
    refine pm_iloadi hG dX7_bringNearer_36 rfl ?_
    refine pm_iconst (v := 1) hG dX7_bringNearer_38 (by decide) ?_
    refine pm_iadd hG dX7_bringNearer_39 ?_
    refine pm_mmin hG hR dX7_bringNearer_40 (mmX7_87 _ rfl) pm_mwmin (by omega) (by first | decide | exact Nat.le_of_ble_eq_true rfl) (Nat.le_refl _) (Nat.le_refl _) ?_
    refine pm_top (v := imin x2 (x3 + 1)) rfl ?_
    refine pm_callV (As := [.int za, .int 11, .int (imin x2 (x3 + 1))]) (rest := []) hG hR dX7_bringNearer_43 (lkX7_61 _ rfl) okV_X9_set rfl rfl (tset_6 (d := 0)) rfl rfl hdd (Nat.le_refl _) (Nat.le_refl _) (by decide) (fx_kv ?_)
    refine fx_letc hE (fun S4 hE => ?_)
    refine pm_aloadn hG dX7_bringNearer_46 rfl ?_
    refine pm_getf hG dX7_bringNearer_47 (flX7_23 _ rfl) rfl rfl ?_
    refine pm_iloadn hG dX7_bringNearer_50 rfl ?_
    refine pm_bipush (v := 11) hG dX7_bringNearer_51 (by decide) ?_
    refine pm_iloadi hG dX7_bringNearer_53 rfl ?_
    refine pm_iloadn hG dX7_bringNearer_55 rfl ?_
    refine pm_iconst (v := 1) hG dX7_bringNearer_56 (by decide) ?_
    refine pm_iadd hG dX7_bringNearer_57 ?_
    refine pm_mmin hG hR dX7_bringNearer_58 (mmX7_87 _ rfl) pm_mwmin (by omega) (by first | decide | exact Nat.le_of_ble_eq_true rfl) (Nat.le_refl _) (Nat.le_refl _) ?_
    refine pm_top (v := imin x3 (x2 + 1)) rfl ?_
    refine pm_callV (As := [.int zb, .int 11, .int (imin x3 (x2 + 1))]) (rest := []) hG hR dX7_bringNearer_61 (lkX7_61 _ rfl) okV_X9_set rfl rfl (tset_6 (d := 0)) rfl rfl hdd (Nat.le_refl _) (Nat.le_refl _) (by decide) (fx_kv ?_)
    refine fx_letc hE (fun S5 hE => ?_)
    exact pm_vret hG hF dX7_bringNearer_64 rfl (Nat.le_refl _) (Nat.le_refl _) (fx_rvc hE)

set_option maxRecDepth 100000 in
set_option maxHeartbeats 4000000 in
theorem c_X7_findSteps {d : Nat} {B cnt : Nat} {kp : Value} {ρ : pm_S} {S : FS} {R : Int32 × FS} (hdd : 2 ≤ d) (hE : f_X7_findSteps S = some R) : pm_met mX7_findSteps d 0 0 B [.ref (B + 1)] cnt (cst B kp S ρ) (pm_Qv (fun σ' cnt' => σ' = (cst B kp R.2 ρ) ∧ cnt' = cnt)) := by
  refine pm_enter 3 (by decide) (Nat.le_of_ble_eq_true rfl) rfl (fun G hG hR hF => ?_)
  unfold f_X7_findSteps at hE
  refine pm_aloadn hG dX7_findSteps_0 rfl ?_
  refine pm_getf hG dX7_findSteps_1 (flX7_23 _ rfl) rfl rfl ?_
  refine pm_callV (As := []) (rest := []) hG hR dX7_findSteps_4 (lkX7_79 _ rfl) okV_X9_used rfl rfl (tused_6 (d := 1)) rfl rfl hdd (Nat.le_refl _) (Nat.le_refl _) (by decide) (fx_ki ?_)
  refine fx_letv hE (fun x1 hE => ?_)
  refine pm_istoreXn (loc' := [some (.ref (B + 1)), some (.int x1), none, none]) hG dX7_findSteps_7 (by decide) (pm_c1b rfl) rfl ?_
  refine pm_iconst (v := 0) hG dX7_findSteps_8 (by decide) ?_
  refine pm_istoreXn (loc' := [some (.ref (B + 1)), some (.int x1), some (.int 0), none]) hG dX7_findSteps_9 (by decide) (pm_c1b rfl) rfl ?_
  have loop10 : ∀ (k10 : FS → Int32 → Option (Int32 × FS)), (∀ (S2 : FS) (x2_2 : Int32), k10 S2  x2_2 = some R → pm_wp mX7_findSteps G B 62 [some (.ref (B + 1)), some (.int x1), some (.int x2_2), none] [] 0 0 cnt (cst B kp S2 ρ)) → ∀ (m10 : Nat) (S2 : FS) (x2_2 : Int32), l_X7_findSteps_10 x1 k10 m10 S2  x2_2 = some R → pm_wp mX7_findSteps G B 10 [some (.ref (B + 1)), some (.int x1), some (.int x2_2), none] [] 0 0 cnt (cst B kp S2 ρ) := by
    intro k10 hk10 m10
    induction m10 with
    | zero => intro S2  x2_2 hE; exact fx_no hE
    | succ m10 ih10 =>
      intro S2  x2_2 hE
      rw [l_X7_findSteps_10] at hE
      refine pm_iloadn hG dX7_findSteps_10 rfl ?_
      refine pm_iloadn hG dX7_findSteps_11 rfl ?_
      refine pm_icmp_ge (tgt := 62) hG dX7_findSteps_12 rfl (fun c3 => ?_) (fun c3 => ?_)
      · replace c3 := Int32.not_lt.mpr c3
        replace hE := fx_f c3 hE
        exact hk10 _ _ hE
      · replace c3 := Int32.not_le.mp c3
        replace hE := fx_t c3 hE
        refine pm_iconst (v := 0) hG dX7_findSteps_15 (by decide) ?_
        refine pm_istoreXn (loc' := [some (.ref (B + 1)), some (.int x1), some (.int x2_2), some (.int 0)]) hG dX7_findSteps_16 (by decide) (pm_c1b rfl) rfl ?_
        have loop17 : ∀ (k17 : FS → Int32 → Option (Int32 × FS)), (∀ (S4 : FS) (x4_3 : Int32), k17 S4  x4_3 = some R → pm_wp mX7_findSteps G B 56 [some (.ref (B + 1)), some (.int x1), some (.int x2_2), some (.int x4_3)] [] 0 0 cnt (cst B kp S4 ρ)) → ∀ (m17 : Nat) (S4 : FS) (x4_3 : Int32), l_X7_findSteps_17 x1 k17 m17 S4  x4_3 = some R → pm_wp mX7_findSteps G B 17 [some (.ref (B + 1)), some (.int x1), some (.int x2_2), some (.int x4_3)] [] 0 0 cnt (cst B kp S4 ρ) := by
          intro k17 hk17 m17
          induction m17 with
          | zero => intro S4  x4_3 hE; exact fx_no hE
          | succ m17 ih17 =>
            intro S4  x4_3 hE
            rw [l_X7_findSteps_17] at hE
            refine pm_iloadn hG dX7_findSteps_17 rfl ?_
            refine pm_iloadn hG dX7_findSteps_18 rfl ?_
            refine pm_icmp_ge (tgt := 56) hG dX7_findSteps_19 rfl (fun c5 => ?_) (fun c5 => ?_)
            · replace c5 := Int32.not_lt.mpr c5
              replace hE := fx_f c5 hE
              exact hk17 _ _ hE
            · replace c5 := Int32.not_le.mp c5
              replace hE := fx_t c5 hE
              refine pm_aloadn hG dX7_findSteps_22 rfl ?_
              refine pm_iloadn hG dX7_findSteps_23 rfl ?_
              refine pm_aloadn hG dX7_findSteps_24 rfl ?_
              refine pm_getf hG dX7_findSteps_25 (flX7_23 _ rfl) rfl rfl ?_
              refine pm_iloadn hG dX7_findSteps_28 rfl ?_
              refine pm_iconst (v := 2) hG dX7_findSteps_29 (by decide) ?_
              refine pm_callV (As := [.int x4_3, .int 2]) (rest := [.int x4_3, .ref (B + 1)]) hG hR dX7_findSteps_30 (lkX7_83 _ rfl) okV_X9_get rfl rfl (tget_6 (d := 1)) rfl rfl hdd (Nat.le_refl _) (Nat.le_refl _) (by first | decide | exact Nat.le_of_ble_eq_true rfl) (fx_ki ?_)
              obtain ⟨r7, h6, hE⟩ := fb_some hE
              refine pm_callV (As := [.int x4_3, .int (fG 6 20 14 S4 x4_3 2)]) (rest := []) hG hR dX7_findSteps_33 (lkX7_100 _ rfl) okV_X7_bringNearer rfl rfl (c_X7_bringNearer (d := 1) (by decide) h6) rfl rfl hdd (Nat.le_refl _) (Nat.le_refl _) (by decide) (fx_kv ?_)
              refine pm_aloadn hG dX7_findSteps_36 rfl ?_
              refine pm_iloadn hG dX7_findSteps_37 rfl ?_
              refine pm_aloadn hG dX7_findSteps_38 rfl ?_
              refine pm_getf hG dX7_findSteps_39 (flX7_23 _ rfl) rfl rfl ?_
              refine pm_iloadn hG dX7_findSteps_42 rfl ?_
              refine pm_iconst (v := 3) hG dX7_findSteps_43 (by decide) ?_
              refine pm_callV (As := [.int x4_3, .int 3]) (rest := [.int x4_3, .ref (B + 1)]) hG hR dX7_findSteps_44 (lkX7_83 _ rfl) okV_X9_get rfl rfl (tget_6 (d := 1)) rfl rfl hdd (Nat.le_refl _) (Nat.le_refl _) (by first | decide | exact Nat.le_of_ble_eq_true rfl) (fx_ki ?_)
              obtain ⟨r9, h8, hE⟩ := fb_some hE
              refine pm_callV (As := [.int x4_3, .int (fG 6 20 14 r7.2 x4_3 3)]) (rest := []) hG hR dX7_findSteps_47 (lkX7_100 _ rfl) okV_X7_bringNearer rfl rfl (c_X7_bringNearer (d := 1) (by decide) h8) rfl rfl hdd (Nat.le_refl _) (Nat.le_refl _) (by decide) (fx_kv ?_)
              refine pm_iincX (v := x4_3 + 1) (loc' := [some (.ref (B + 1)), some (.int x1), some (.int x2_2), some (.int (x4_3 + 1))]) hG dX7_findSteps_50 rfl (by rfl) (by decide) (pm_c1b rfl) rfl ?_
              refine pm_goto (tgt := 17) hG dX7_findSteps_53 rfl ?_
              exact ih17 _ _ hE
        refine loop17 _ (fun S10 x10_3 hE => ?_) _ _ _ hE
        refine pm_iincX (v := x2_2 + 1) (loc' := [some (.ref (B + 1)), some (.int x1), some (.int (x2_2 + 1)), some (.int x10_3)]) hG dX7_findSteps_56 rfl (by rfl) (by decide) (pm_c1b rfl) rfl ?_
        refine pm_goto (tgt := 10) hG dX7_findSteps_59 rfl ?_
        refine pm_fg 3 (loc' := [some (.ref (B + 1)), some (.int x1), some (.int (x2_2 + 1)), none]) rfl ?_
        exact ih10 _ _ hE
  refine loop10 _ (fun S11 x11_2 hE => ?_) _ _ _ hE
  exact pm_vret hG hF dX7_findSteps_62 rfl (Nat.le_refl _) (Nat.le_refl _) (fx_rvc hE)

set_option maxRecDepth 100000 in
set_option maxHeartbeats 4000000 in
theorem c_X7_addPerson {d : Nat} {B cnt : Nat} {kp : Value} {ρ : pm_S} {S : FS} {za : Int32} {zb : Int32} {zc : Int32} {zd : Int32} {ze : Int32} {R : Int32 × FS} (hdd : 3 ≤ d) (hE : f_X7_addPerson S za zb zc zd ze = some R) : pm_met mX7_addPerson d 0 0 B [.ref (B + 1), .int za, .int zb, .int zc, .int zd, .int ze] cnt (cst B kp S ρ) (pm_Qi (fun v σ' cnt' => v = R.1 ∧ σ' = (cst B kp R.2 ρ) ∧ cnt' = cnt)) := by
  refine pm_enter 1 (by decide) (Nat.le_of_ble_eq_true rfl) rfl (fun G hG hR hF => ?_)
  unfold f_X7_addPerson at hE
  refine pm_aloadn hG dX7_addPerson_0 rfl ?_
  refine pm_getf hG dX7_addPerson_1 (flX7_23 _ rfl) rfl rfl ?_
  refine pm_iloadn hG dX7_addPerson_4 rfl ?_
  obtain ⟨r2, h1, hE⟩ := fb_some hE
  refine pm_callV (As := [.int za]) (rest := []) hG hR dX7_addPerson_5 (lkX7_75 _ rfl) okV_X9_append rfl rfl (tappend_6 (d := 2) (by decide) h1) rfl rfl hdd (Nat.le_refl _) (Nat.le_refl _) (by decide) (fx_ki ?_)
  refine pm_istoreXi (loc' := [some (.ref (B + 1)), some (.int za), some (.int zb), some (.int zc), some (.int zd), some (.int ze), some (.int r2.1)]) hG dX7_addPerson_8 (by decide) (pm_c1b rfl) rfl ?_
  refine pm_aloadn hG dX7_addPerson_10 rfl ?_
  refine pm_getf hG dX7_addPerson_11 (flX7_23 _ rfl) rfl rfl ?_
  refine pm_iloadi hG dX7_addPerson_14 rfl ?_
  refine pm_iconst (v := 1) hG dX7_addPerson_16 (by decide) ?_
  refine pm_iloadn hG dX7_addPerson_17 rfl ?_
  refine pm_callV (As := [.int r2.1, .int 1, .int zb]) (rest := []) hG hR dX7_addPerson_18 (lkX7_61 _ rfl) okV_X9_set rfl rfl (tset_6 (d := 2)) rfl rfl hdd (Nat.le_refl _) (Nat.le_refl _) (by decide) (fx_kv ?_)
  refine fx_letc hE (fun S3 hE => ?_)
  refine pm_aloadn hG dX7_addPerson_21 rfl ?_
  refine pm_getf hG dX7_addPerson_22 (flX7_23 _ rfl) rfl rfl ?_
  refine pm_iloadi hG dX7_addPerson_25 rfl ?_
  refine pm_iconst (v := 2) hG dX7_addPerson_27 (by decide) ?_
  refine pm_iloadn hG dX7_addPerson_28 rfl ?_
  refine pm_callV (As := [.int r2.1, .int 2, .int zc]) (rest := []) hG hR dX7_addPerson_29 (lkX7_61 _ rfl) okV_X9_set rfl rfl (tset_6 (d := 2)) rfl rfl hdd (Nat.le_refl _) (Nat.le_refl _) (by decide) (fx_kv ?_)
  refine fx_letc hE (fun S4 hE => ?_)
  refine pm_aloadn hG dX7_addPerson_32 rfl ?_
  refine pm_getf hG dX7_addPerson_33 (flX7_23 _ rfl) rfl rfl ?_
  refine pm_iloadi hG dX7_addPerson_36 rfl ?_
  refine pm_iconst (v := 3) hG dX7_addPerson_38 (by decide) ?_
  refine pm_iloadi hG dX7_addPerson_39 rfl ?_
  refine pm_callV (As := [.int r2.1, .int 3, .int zd]) (rest := []) hG hR dX7_addPerson_41 (lkX7_61 _ rfl) okV_X9_set rfl rfl (tset_6 (d := 2)) rfl rfl hdd (Nat.le_refl _) (Nat.le_refl _) (by decide) (fx_kv ?_)
  refine fx_letc hE (fun S5 hE => ?_)
  refine pm_aloadn hG dX7_addPerson_44 rfl ?_
  refine pm_getf hG dX7_addPerson_45 (flX7_23 _ rfl) rfl rfl ?_
  refine pm_iloadi hG dX7_addPerson_48 rfl ?_
  refine pm_iconst (v := 4) hG dX7_addPerson_50 (by decide) ?_
  refine pm_iloadi hG dX7_addPerson_51 rfl ?_
  refine pm_callV (As := [.int r2.1, .int 4, .int ze]) (rest := []) hG hR dX7_addPerson_53 (lkX7_61 _ rfl) okV_X9_set rfl rfl (tset_6 (d := 2)) rfl rfl hdd (Nat.le_refl _) (Nat.le_refl _) (by decide) (fx_kv ?_)
  refine fx_letc hE (fun S6 hE => ?_)
  refine pm_aloadn hG dX7_addPerson_56 rfl ?_
  refine pm_getf hG dX7_addPerson_57 (flX7_23 _ rfl) rfl rfl ?_
  refine pm_iloadi hG dX7_addPerson_60 rfl ?_
  refine pm_bipush (v := 10) hG dX7_addPerson_62 (by decide) ?_
  refine pm_iconst (v := (-1)) hG dX7_addPerson_64 (by decide) ?_
  refine pm_callV (As := [.int r2.1, .int 10, .int (-1)]) (rest := []) hG hR dX7_addPerson_65 (lkX7_61 _ rfl) okV_X9_set rfl rfl (tset_6 (d := 2)) rfl rfl hdd (Nat.le_refl _) (Nat.le_refl _) (by decide) (fx_kv ?_)
  refine fx_letc hE (fun S7 hE => ?_)
  refine pm_aloadn hG dX7_addPerson_68 rfl ?_
  refine pm_getf hG dX7_addPerson_69 (flX7_23 _ rfl) rfl rfl ?_
  refine pm_iloadi hG dX7_addPerson_72 rfl ?_
  refine pm_bipush (v := 11) hG dX7_addPerson_74 (by decide) ?_
  refine pm_iloadi hG dX7_addPerson_76 rfl ?_
  refine pm_if_ne (tgt := 85) hG dX7_addPerson_78 rfl (fun c8 => ?_) (fun c8 => ?_)
  · replace hE := fx_f c8 hE
    refine pm_bipush (v := 99) hG dX7_addPerson_85 (by decide) ?_
    refine pm_callV (As := [.int r2.1, .int 11, .int 99]) (rest := []) hG hR dX7_addPerson_87 (lkX7_61 _ rfl) okV_X9_set rfl rfl (tset_6 (d := 2)) rfl rfl hdd (Nat.le_refl _) (Nat.le_refl _) (by decide) (fx_kv ?_)
    refine fx_letc hE (fun S9 hE => ?_)
    refine pm_aloadn hG dX7_addPerson_90 rfl ?_
    refine pm_getf hG dX7_addPerson_91 (flX7_23 _ rfl) rfl rfl ?_
    refine pm_iloadi hG dX7_addPerson_94 rfl ?_
    refine pm_bipush (v := 12) hG dX7_addPerson_96 (by decide) ?_
    refine pm_iconst (v := 1) hG dX7_addPerson_98 (by decide) ?_
    refine pm_callV (As := [.int r2.1, .int 12, .int 1]) (rest := []) hG hR dX7_addPerson_99 (lkX7_61 _ rfl) okV_X9_set rfl rfl (tset_6 (d := 2)) rfl rfl hdd (Nat.le_refl _) (Nat.le_refl _) (by decide) (fx_kv ?_)
    refine fx_letc hE (fun S10 hE => ?_)
    refine pm_aloadn hG dX7_addPerson_102 rfl ?_
    obtain ⟨r12, h11, hE⟩ := fb_some hE
    refine pm_callV (As := []) (rest := []) hG hR dX7_addPerson_103 (lkX7_97 _ rfl) okV_X7_findSteps rfl rfl (c_X7_findSteps (d := 2) (by decide) h11) rfl rfl hdd (Nat.le_refl _) (Nat.le_refl _) (by decide) (fx_kv ?_)
    refine pm_iloadi hG dX7_addPerson_106 rfl ?_
    exact pm_iret hG hF dX7_addPerson_108 rfl (Nat.le_refl _) (Nat.le_refl _) (fx_ric hE)
  · replace hE := fx_t c8 hE
    refine pm_iconst (v := 0) hG dX7_addPerson_81 (by decide) ?_
    refine pm_goto (tgt := 87) hG dX7_addPerson_82 rfl ?_
    refine pm_callV (As := [.int r2.1, .int 11, .int 0]) (rest := []) hG hR dX7_addPerson_87 (lkX7_61 _ rfl) okV_X9_set rfl rfl (tset_6 (d := 2)) rfl rfl hdd (Nat.le_refl _) (Nat.le_refl _) (by decide) (fx_kv ?_)
    refine fx_letc hE (fun S13 hE => ?_)
    refine pm_aloadn hG dX7_addPerson_90 rfl ?_
    refine pm_getf hG dX7_addPerson_91 (flX7_23 _ rfl) rfl rfl ?_
    refine pm_iloadi hG dX7_addPerson_94 rfl ?_
    refine pm_bipush (v := 12) hG dX7_addPerson_96 (by decide) ?_
    refine pm_iconst (v := 1) hG dX7_addPerson_98 (by decide) ?_
    refine pm_callV (As := [.int r2.1, .int 12, .int 1]) (rest := []) hG hR dX7_addPerson_99 (lkX7_61 _ rfl) okV_X9_set rfl rfl (tset_6 (d := 2)) rfl rfl hdd (Nat.le_refl _) (Nat.le_refl _) (by decide) (fx_kv ?_)
    refine fx_letc hE (fun S14 hE => ?_)
    refine pm_aloadn hG dX7_addPerson_102 rfl ?_
    obtain ⟨r16, h15, hE⟩ := fb_some hE
    refine pm_callV (As := []) (rest := []) hG hR dX7_addPerson_103 (lkX7_97 _ rfl) okV_X7_findSteps rfl rfl (c_X7_findSteps (d := 2) (by decide) h15) rfl rfl hdd (Nat.le_refl _) (Nat.le_refl _) (by decide) (fx_kv ?_)
    refine pm_iloadi hG dX7_addPerson_106 rfl ?_
    exact pm_iret hG hF dX7_addPerson_108 rfl (Nat.le_refl _) (Nat.le_refl _) (fx_ric hE)

set_option maxRecDepth 100000 in
set_option maxHeartbeats 4000000 in
theorem c_X11_person {d : Nat} {B cnt : Nat} {kp : Value} {ρ : pm_S} {S : FS} {za : Int32} {zb : Int32} {zc : Int32} {zd : Int32} {R : Int32 × FS} (hdd : 4 ≤ d) (hE : f_X11_person S za zb zc zd = some R) : pm_met mX11_person d 0 0 B [.ref (B + 0), .int za, .int zb, .int zc, .int zd] cnt (cst B kp S ρ) (pm_Qi (fun v σ' cnt' => v = R.1 ∧ σ' = (cst B kp R.2 ρ) ∧ cnt' = cnt)) := by
  refine pm_enter 2 (by decide) (Nat.le_of_ble_eq_true rfl) rfl (fun G hG hR hF => ?_)
  unfold f_X11_person at hE
  refine pm_iloadn hG dX11_person_0 rfl ?_
  refine pm_bipush (v := 100) hG dX11_person_1 (by decide) ?_
  refine pm_idiv hG dX11_person_3 (by decide) ?_
  refine pm_iconst (v := 1) hG dX11_person_4 (by decide) ?_
  refine pm_isub hG dX11_person_5 ?_
  refine fx_letv hE (fun x1 hE => ?_)
  refine pm_istoreXi (loc' := [some (.ref (B + 0)), some (.int za), some (.int zb), some (.int zc), some (.int zd), some (.int x1), none]) hG dX11_person_6 (by decide) (pm_c1b rfl) rfl ?_
  refine pm_iloadn hG dX11_person_8 rfl ?_
  refine pm_bipush (v := 100) hG dX11_person_9 (by decide) ?_
  refine pm_irem hG dX11_person_11 (by decide) ?_
  refine pm_iconst (v := 1) hG dX11_person_12 (by decide) ?_
  refine pm_isub hG dX11_person_13 ?_
  refine fx_letv hE (fun x2 hE => ?_)
  refine pm_istoreXi (loc' := [some (.ref (B + 0)), some (.int za), some (.int zb), some (.int zc), some (.int zd), some (.int x1), some (.int x2)]) hG dX11_person_14 (by decide) (pm_c1b rfl) rfl ?_
  refine pm_iloadn hG dX11_person_16 rfl ?_
  refine pm_iconst (v := 0) hG dX11_person_17 (by decide) ?_
  refine pm_iconst (v := 1) hG dX11_person_18 (by decide) ?_
  refine pm_callS (As := [.int za, .int 0, .int 1]) (rest := []) hG hR dX11_person_19 (lkX11_105 _ rfl) okS_X11_isOutside (tOut (d := 3)) rfl rfl hdd (Nat.le_refl _) (Nat.le_refl _) (by decide) (fx_ki ?_)
  refine pm_if_ne (tgt := 89) hG dX11_person_22 rfl (fun c3 => ?_) (fun c3 => ?_)
  · replace hE := fx_f c3 hE
    refine pm_aloadn hG dX11_person_89 rfl ?_
    refine pm_ldc hG dX11_person_90 (ctX11_109 _ rfl) ?_
    obtain ⟨r5, h4, hE⟩ := fb_some hE
    refine pm_callV (As := [.int (-1000001)]) (rest := []) hG hR dX11_person_92 (lkX11_97 _ rfl) okV_X11_told rfl rfl (c_X11_told (d := 3) (by decide) h4) rfl rfl hdd (Nat.le_refl _) (Nat.le_refl _) (by decide) (fx_ki ?_)
    exact pm_iret hG hF dX11_person_95 rfl (Nat.le_refl _) (Nat.le_refl _) (fx_ric hE)
  · replace hE := fx_t c3 hE
    refine pm_iloadn hG dX11_person_25 rfl ?_
    refine pm_sipush (v := (-20000)) hG dX11_person_26 (by decide) ?_
    refine pm_aloadn hG dX11_person_29 rfl ?_
    refine pm_getf hG dX11_person_30 (flX11_12 _ rfl) rfl rfl ?_
    refine pm_getf hG dX11_person_33 (flX11_122 _ rfl) rfl rfl ?_
    refine pm_callS (As := [.int zb, .int (-20000), .int (S.1 102)]) (rest := []) hG hR dX11_person_36 (lkX11_105 _ rfl) okS_X11_isOutside (tOut (d := 3)) rfl rfl hdd (Nat.le_refl _) (Nat.le_refl _) (by decide) (fx_ki ?_)
    refine pm_if_ne (tgt := 89) hG dX11_person_39 rfl (fun c6 => ?_) (fun c6 => ?_)
    · replace hE := fx_f c6 hE
      refine pm_aloadn hG dX11_person_89 rfl ?_
      refine pm_ldc hG dX11_person_90 (ctX11_109 _ rfl) ?_
      obtain ⟨r8, h7, hE⟩ := fb_some hE
      refine pm_callV (As := [.int (-1000001)]) (rest := []) hG hR dX11_person_92 (lkX11_97 _ rfl) okV_X11_told rfl rfl (c_X11_told (d := 3) (by decide) h7) rfl rfl hdd (Nat.le_refl _) (Nat.le_refl _) (by decide) (fx_ki ?_)
      exact pm_iret hG hF dX11_person_95 rfl (Nat.le_refl _) (Nat.le_refl _) (fx_ric hE)
    · replace hE := fx_t c6 hE
      refine pm_iloadn hG dX11_person_42 rfl ?_
      refine pm_if_lt (tgt := 89) hG dX11_person_43 rfl (fun c9 => ?_) (fun c9 => ?_)
      · replace hE := fx_t c9 hE
        refine pm_aloadn hG dX11_person_89 rfl ?_
        refine pm_ldc hG dX11_person_90 (ctX11_109 _ rfl) ?_
        obtain ⟨r11, h10, hE⟩ := fb_some hE
        refine pm_callV (As := [.int (-1000001)]) (rest := []) hG hR dX11_person_92 (lkX11_97 _ rfl) okV_X11_told rfl rfl (c_X11_told (d := 3) (by decide) h10) rfl rfl hdd (Nat.le_refl _) (Nat.le_refl _) (by decide) (fx_ki ?_)
        exact pm_iret hG hF dX11_person_95 rfl (Nat.le_refl _) (Nat.le_refl _) (fx_ric hE)
      · replace hE := fx_f c9 hE
        refine pm_aloadn hG dX11_person_46 rfl ?_
        refine pm_getf hG dX11_person_47 (flX11_12 _ rfl) rfl rfl ?_
        refine pm_getf hG dX11_person_50 (flX11_82 _ rfl) rfl rfl ?_
        refine pm_iloadi hG dX11_person_53 rfl ?_
        refine pm_callV (As := [.int zd]) (rest := []) hG hR dX11_person_55 (lkX11_101 _ rfl) okV_X9_has rfl rfl (thas_2 (d := 3)) rfl rfl hdd (Nat.le_refl _) (Nat.le_refl _) (by decide) (fx_ki ?_)
        refine pm_if_eq (tgt := 89) hG dX11_person_58 rfl (fun c12 => ?_) (fun c12 => ?_)
        · replace hE := fx_t c12 hE
          refine pm_aloadn hG dX11_person_89 rfl ?_
          refine pm_ldc hG dX11_person_90 (ctX11_109 _ rfl) ?_
          obtain ⟨r14, h13, hE⟩ := fb_some hE
          refine pm_callV (As := [.int (-1000001)]) (rest := []) hG hR dX11_person_92 (lkX11_97 _ rfl) okV_X11_told rfl rfl (c_X11_told (d := 3) (by decide) h13) rfl rfl hdd (Nat.le_refl _) (Nat.le_refl _) (by decide) (fx_ki ?_)
          exact pm_iret hG hF dX11_person_95 rfl (Nat.le_refl _) (Nat.le_refl _) (fx_ric hE)
        · replace hE := fx_f c12 hE
          refine pm_aloadn hG dX11_person_61 rfl ?_
          refine pm_getf hG dX11_person_62 (flX11_12 _ rfl) rfl rfl ?_
          refine pm_iloadi hG dX11_person_65 rfl ?_
          refine pm_iconst (v := 1) hG dX11_person_67 (by decide) ?_
          refine pm_iloadn hG dX11_person_68 rfl ?_
          refine pm_callV (As := [.int x1, .int 1, .int zb]) (rest := []) hG hR dX11_person_69 (lkX11_125 _ rfl) okV_X7_mayBeParent rfl rfl (c_X7_mayBeParent (d := 3) (by decide) rfl) rfl rfl hdd (Nat.le_refl _) (Nat.le_refl _) (by decide) (fx_ki ?_)
          refine pm_if_eq (tgt := 89) hG dX11_person_72 rfl (fun c15 => ?_) (fun c15 => ?_)
          · replace hE := fx_t c15 hE
            refine pm_aloadn hG dX11_person_89 rfl ?_
            refine pm_ldc hG dX11_person_90 (ctX11_109 _ rfl) ?_
            obtain ⟨r17, h16, hE⟩ := fb_some hE
            refine pm_callV (As := [.int (-1000001)]) (rest := []) hG hR dX11_person_92 (lkX11_97 _ rfl) okV_X11_told rfl rfl (c_X11_told (d := 3) (by decide) h16) rfl rfl hdd (Nat.le_refl _) (Nat.le_refl _) (by decide) (fx_ki ?_)
            exact pm_iret hG hF dX11_person_95 rfl (Nat.le_refl _) (Nat.le_refl _) (fx_ric hE)
          · replace hE := fx_f c15 hE
            refine pm_aloadn hG dX11_person_75 rfl ?_
            refine pm_getf hG dX11_person_76 (flX11_12 _ rfl) rfl rfl ?_
            refine pm_iloadi hG dX11_person_79 rfl ?_
            refine pm_iconst (v := 0) hG dX11_person_81 (by decide) ?_
            refine pm_iloadn hG dX11_person_82 rfl ?_
            refine pm_callV (As := [.int x2, .int 0, .int zb]) (rest := []) hG hR dX11_person_83 (lkX11_125 _ rfl) okV_X7_mayBeParent rfl rfl (c_X7_mayBeParent (d := 3) (by decide) rfl) rfl rfl hdd (Nat.le_refl _) (Nat.le_refl _) (by decide) (fx_ki ?_)
            refine pm_if_ne (tgt := 96) hG dX11_person_86 rfl (fun c18 => ?_) (fun c18 => ?_)
            · replace hE := fx_f c18 hE
              refine pm_aloadn hG dX11_person_96 rfl ?_
              refine pm_aloadn hG dX11_person_97 rfl ?_
              refine pm_getf hG dX11_person_98 (flX11_12 _ rfl) rfl rfl ?_
              refine pm_getf hG dX11_person_101 (flX11_128 _ rfl) rfl rfl ?_
              refine pm_callV (As := []) (rest := [.ref (B + 0)]) hG hR dX11_person_104 (lkX11_86 _ rfl) okV_X9_isFull rfl rfl (tisFull_6 (d := 3)) rfl rfl hdd (Nat.le_refl _) (Nat.le_refl _) (by first | decide | exact Nat.le_of_ble_eq_true rfl) (fx_ki ?_)
              refine pm_if_eq (tgt := 115) hG dX11_person_107 rfl (fun c19 => ?_) (fun c19 => ?_)
              · replace hE := fx_t c19 hE
                refine pm_aloadn hG dX11_person_115 rfl ?_
                refine pm_getf hG dX11_person_116 (flX11_12 _ rfl) rfl rfl ?_
                refine pm_iloadn hG dX11_person_119 rfl ?_
                refine pm_iloadn hG dX11_person_120 rfl ?_
                refine pm_iloadi hG dX11_person_121 rfl ?_
                refine pm_iloadi hG dX11_person_123 rfl ?_
                refine pm_iloadi hG dX11_person_125 rfl ?_
                obtain ⟨r21, h20, hE⟩ := fb_some hE
                refine pm_callV (As := [.int za, .int zb, .int x1, .int x2, .int zd]) (rest := [.ref (B + 0)]) hG hR dX11_person_127 (lkX11_131 _ rfl) okV_X7_addPerson rfl rfl (c_X7_addPerson (d := 3) (by decide) h20) rfl rfl hdd (Nat.le_refl _) (Nat.le_refl _) (by first | decide | exact Nat.le_of_ble_eq_true rfl) (fx_ki ?_)
                obtain ⟨r23, h22, hE⟩ := fb_some hE
                refine pm_callV (As := [.int r21.1]) (rest := []) hG hR dX11_person_130 (lkX11_97 _ rfl) okV_X11_told rfl rfl (c_X11_told (d := 3) (by decide) h22) rfl rfl hdd (Nat.le_refl _) (Nat.le_refl _) (by decide) (fx_ki ?_)
                exact pm_iret hG hF dX11_person_133 rfl (Nat.le_refl _) (Nat.le_refl _) (fx_ric hE)
              · replace hE := fx_f c19 hE
                refine pm_ldc hG dX11_person_110 (ctX11_92 _ rfl) ?_
                refine pm_goto (tgt := 130) hG dX11_person_112 rfl ?_
                obtain ⟨r25, h24, hE⟩ := fb_some hE
                refine pm_callV (As := [.int (-1000004)]) (rest := []) hG hR dX11_person_130 (lkX11_97 _ rfl) okV_X11_told rfl rfl (c_X11_told (d := 3) (by decide) h24) rfl rfl hdd (Nat.le_refl _) (Nat.le_refl _) (by decide) (fx_ki ?_)
                exact pm_iret hG hF dX11_person_133 rfl (Nat.le_refl _) (Nat.le_refl _) (fx_ric hE)
            · replace hE := fx_t c18 hE
              refine pm_aloadn hG dX11_person_89 rfl ?_
              refine pm_ldc hG dX11_person_90 (ctX11_109 _ rfl) ?_
              obtain ⟨r27, h26, hE⟩ := fb_some hE
              refine pm_callV (As := [.int (-1000001)]) (rest := []) hG hR dX11_person_92 (lkX11_97 _ rfl) okV_X11_told rfl rfl (c_X11_told (d := 3) (by decide) h26) rfl rfl hdd (Nat.le_refl _) (Nat.le_refl _) (by decide) (fx_ki ?_)
              exact pm_iret hG hF dX11_person_95 rfl (Nat.le_refl _) (Nat.le_refl _) (fx_ric hE)

set_option maxRecDepth 100000 in
set_option maxHeartbeats 4000000 in
theorem c_X8_numberAt {d : Nat} {B cnt : Nat} {kp : Value} {ρ : pm_S} {S : FS} {za : Int32} {zb : Int32} {R : Int32} (hdd : 1 ≤ d) (hE : p_X8_numberAt S za zb = R) : pm_met mX8_numberAt d 0 0 B [.ref (B + 48), .int za, .int zb] cnt (cst B kp S ρ) (pm_Qi (fun v σ' cnt' => v = R ∧ σ' = (cst B kp S ρ) ∧ cnt' = cnt)) := by
  refine pm_enter 0 (by decide) (Nat.le_of_ble_eq_true rfl) rfl (fun G hG hR hF => ?_)
  unfold p_X8_numberAt at hE
  refine pm_aloadn hG dX8_numberAt_0 rfl ?_
  refine pm_getf hG dX8_numberAt_1 (flX8_23 _ rfl) rfl rfl ?_
  refine pm_iloadn hG dX8_numberAt_4 rfl ?_
  refine pm_iloadn hG dX8_numberAt_5 rfl ?_
  refine pm_callV (As := [.int za, .int zb]) (rest := []) hG hR dX8_numberAt_6 (lkX8_35 _ rfl) okV_X9_get rfl rfl (tget_51 (d := 0)) rfl rfl hdd (Nat.le_refl _) (Nat.le_refl _) (by decide) (fx_ki ?_)
  exact pm_iret hG hF dX8_numberAt_9 rfl  (Nat.le_refl _) (Nat.le_refl _) (fx_pi hE)

set_option maxRecDepth 100000 in
set_option maxHeartbeats 4000000 in
theorem c_X8_areAllWithin {d : Nat} {B cnt : Nat} {kp : Value} {ρ : pm_S} {S : FS} {za : Int32} {zb : Int32} {zc : Int32} {R : Int32} (hdd : 2 ≤ d) (hE : q_X8_areAllWithin S za zb zc = some R) : pm_met mX8_areAllWithin d 0 0 B [.ref (B + 48), .int za, .int zb, .int zc] cnt (cst B kp S ρ) (pm_Qi (fun v σ' cnt' => v = R ∧ σ' = (cst B kp S ρ) ∧ cnt' = cnt)) := by
  refine pm_enter 2 (by decide) (Nat.le_of_ble_eq_true rfl) rfl (fun G hG hR hF => ?_)
  unfold q_X8_areAllWithin at hE
  refine pm_aloadn hG dX8_areAllWithin_0 rfl ?_
  refine pm_iloadn hG dX8_areAllWithin_1 rfl ?_
  obtain ⟨x2, h1, hE⟩ := fb_some hE
  refine pm_callV (As := [.int za]) (rest := []) hG hR dX8_areAllWithin_2 (lkX8_39 _ rfl) okV_X8_sizeOf rfl rfl (c_X8_sizeOf (d := 1) (by decide) h1) rfl rfl hdd (Nat.le_refl _) (Nat.le_refl _) (by decide) (fx_ki ?_)
  refine pm_istoreXi (loc' := [some (.ref (B + 48)), some (.int za), some (.int zb), some (.int zc), some (.int x2), none]) hG dX8_areAllWithin_5 (by decide) (pm_c1b rfl) rfl ?_
  refine pm_iconst (v := 0) hG dX8_areAllWithin_7 (by decide) ?_
  refine pm_istoreXi (loc' := [some (.ref (B + 48)), some (.int za), some (.int zb), some (.int zc), some (.int x2), some (.int 0)]) hG dX8_areAllWithin_8 (by decide) (pm_c1b rfl) rfl ?_
  have loop10 : ∀ (k10 : Int32 → Option Int32), (∀  (x3_5 : Int32), k10  x3_5 = some R → pm_wp mX8_areAllWithin G B 40 [some (.ref (B + 48)), some (.int za), some (.int zb), some (.int zc), some (.int x2), some (.int x3_5)] [] 0 0 cnt (cst B kp S ρ)) → ∀ (m10 : Nat)  (x3_5 : Int32), l_X8_areAllWithin_10 za zb zc S x2 k10 m10  x3_5 = some R → pm_wp mX8_areAllWithin G B 10 [some (.ref (B + 48)), some (.int za), some (.int zb), some (.int zc), some (.int x2), some (.int x3_5)] [] 0 0 cnt (cst B kp S ρ) := by
    intro k10 hk10 m10
    induction m10 with
    | zero => intro  x3_5 hE; exact fx_no hE
    | succ m10 ih10 =>
      intro  x3_5 hE
      rw [l_X8_areAllWithin_10] at hE
      refine pm_iloadi hG dX8_areAllWithin_10 rfl ?_
      refine pm_iloadi hG dX8_areAllWithin_12 rfl ?_
      refine pm_icmp_ge (tgt := 40) hG dX8_areAllWithin_14 rfl (fun c4 => ?_) (fun c4 => ?_)
      · replace c4 := Int32.not_lt.mpr c4
        replace hE := fx_f c4 hE
        exact hk10 _ hE
      · replace c4 := Int32.not_le.mp c4
        replace hE := fx_t c4 hE
        refine pm_aloadn hG dX8_areAllWithin_17 rfl ?_
        refine pm_iloadn hG dX8_areAllWithin_18 rfl ?_
        refine pm_iloadi hG dX8_areAllWithin_19 rfl ?_
        refine pm_callV (As := [.int za, .int x3_5]) (rest := []) hG hR dX8_areAllWithin_21 (lkX8_42 _ rfl) okV_X8_numberAt rfl rfl (c_X8_numberAt (d := 1) (by decide) rfl) rfl rfl hdd (Nat.le_refl _) (Nat.le_refl _) (by decide) (fx_ki ?_)
        refine pm_iloadn hG dX8_areAllWithin_24 rfl ?_
        refine pm_iloadn hG dX8_areAllWithin_25 rfl ?_
        refine pm_callS (As := [.int (p_X8_numberAt S za x3_5), .int zb, .int zc]) (rest := []) hG hR dX8_areAllWithin_26 (lkX8_45 _ rfl) okS_X11_isOutside (tOut (d := 1)) rfl rfl hdd (Nat.le_refl _) (Nat.le_refl _) (by decide) (fx_ki ?_)
        refine pm_if_eq (tgt := 34) hG dX8_areAllWithin_29 rfl (fun c5 => ?_) (fun c5 => ?_)
        · replace hE := fx_t c5 hE
          refine pm_iincX (v := x3_5 + 1) (loc' := [some (.ref (B + 48)), some (.int za), some (.int zb), some (.int zc), some (.int x2), some (.int (x3_5 + 1))]) hG dX8_areAllWithin_34 rfl (by rfl) (by decide) (pm_c1b rfl) rfl ?_
          refine pm_goto (tgt := 10) hG dX8_areAllWithin_37 rfl ?_
          exact ih10 _ hE
        · replace hE := fx_f c5 hE
          refine pm_iconst (v := 0) hG dX8_areAllWithin_32 (by decide) ?_
          exact pm_zret hG hF dX8_areAllWithin_33 rfl (by rfl) (Nat.le_refl _) (Nat.le_refl _) (fx_pi (Option.some.inj hE))
  refine loop10 _ (fun  x6_5 hE => ?_) _ _ hE
  refine pm_iconst (v := 1) hG dX8_areAllWithin_40 (by decide) ?_
  exact pm_zret hG hF dX8_areAllWithin_41 rfl (by rfl) (Nat.le_refl _) (Nat.le_refl _) (fx_pi (Option.some.inj hE))

set_option maxRecDepth 100000 in
set_option maxHeartbeats 4000000 in
theorem c_X5_rentsBut {d : Nat} {B cnt : Nat} {kp : Value} {ρ : pm_S} {S : FS} {za : Int32} {R : Int32} (hdd : 1 ≤ d) (hE : q_X5_rentsBut S za = some R) : pm_met mX5_rentsBut d 0 0 B [.ref (B + 42), .int za] cnt (cst B kp S ρ) (pm_Qi (fun v σ' cnt' => v = R ∧ σ' = (cst B kp S ρ) ∧ cnt' = cnt)) := by
  refine pm_enter 2 (by decide) (Nat.le_of_ble_eq_true rfl) rfl (fun G hG hR hF => ?_)
  unfold q_X5_rentsBut at hE
  refine pm_iconst (v := 0) hG dX5_rentsBut_0 (by decide) ?_
  refine pm_istoreXn (loc' := [some (.ref (B + 42)), some (.int za), some (.int 0), none]) hG dX5_rentsBut_1 (by decide) (pm_c1b rfl) rfl ?_
  refine pm_iconst (v := 0) hG dX5_rentsBut_2 (by decide) ?_
  refine pm_istoreXn (loc' := [some (.ref (B + 42)), some (.int za), some (.int 0), some (.int 0)]) hG dX5_rentsBut_3 (by decide) (pm_c1b rfl) rfl ?_
  have loop4 : ∀ (k4 : Int32 → Int32 → Option Int32), (∀  (x1_2 : Int32) (x1_3 : Int32), k4  x1_2 x1_3 = some R → pm_wp mX5_rentsBut G B 46 [some (.ref (B + 42)), some (.int za), some (.int x1_2), some (.int x1_3)] [] 0 0 cnt (cst B kp S ρ)) → ∀ (m4 : Nat)  (x1_2 : Int32) (x1_3 : Int32), l_X5_rentsBut_4 za S k4 m4  x1_2 x1_3 = some R → pm_wp mX5_rentsBut G B 4 [some (.ref (B + 42)), some (.int za), some (.int x1_2), some (.int x1_3)] [] 0 0 cnt (cst B kp S ρ) := by
    intro k4 hk4 m4
    induction m4 with
    | zero => intro  x1_2 x1_3 hE; exact fx_no hE
    | succ m4 ih4 =>
      intro  x1_2 x1_3 hE
      rw [l_X5_rentsBut_4] at hE
      refine pm_iloadn hG dX5_rentsBut_4 rfl ?_
      refine pm_bipush (v := 6) hG dX5_rentsBut_5 (by decide) ?_
      refine pm_icmp_ge (tgt := 46) hG dX5_rentsBut_7 rfl (fun c2 => ?_) (fun c2 => ?_)
      · replace c2 := Int32.not_lt.mpr c2
        replace hE := fx_f c2 hE
        exact hk4 _ _ hE
      · replace c2 := Int32.not_le.mp c2
        replace hE := fx_t c2 hE
        refine pm_aloadn hG dX5_rentsBut_10 rfl ?_
        refine pm_getf hG dX5_rentsBut_11 (flX5_37 _ rfl) rfl rfl ?_
        refine pm_iloadn hG dX5_rentsBut_14 rfl ?_
        refine pm_iconst (v := (-1)) hG dX5_rentsBut_15 (by decide) ?_
        refine pm_ixor hG dX5_rentsBut_16 ?_
        refine pm_iand hG dX5_rentsBut_17 ?_
        refine pm_iconst (v := 1) hG dX5_rentsBut_18 (by decide) ?_
        refine pm_iloadn hG dX5_rentsBut_19 rfl ?_
        refine pm_ishl hG dX5_rentsBut_20 ?_
        refine pm_iand hG dX5_rentsBut_21 ?_
        refine pm_if_eq (tgt := 40) hG dX5_rentsBut_22 rfl (fun c3 => ?_) (fun c3 => ?_)
        · replace hE := fx_t c3 hE
          refine pm_iincX (v := x1_3 + 1) (loc' := [some (.ref (B + 42)), some (.int za), some (.int x1_2), some (.int (x1_3 + 1))]) hG dX5_rentsBut_40 rfl (by rfl) (by decide) (pm_c1b rfl) rfl ?_
          refine pm_goto (tgt := 4) hG dX5_rentsBut_43 rfl ?_
          exact ih4 _ _ hE
        · replace hE := fx_f c3 hE
          refine pm_iloadn hG dX5_rentsBut_25 rfl ?_
          refine pm_aloadn hG dX5_rentsBut_26 rfl ?_
          refine pm_getf hG dX5_rentsBut_27 (flX5_21 _ rfl) rfl rfl ?_
          refine pm_getf hG dX5_rentsBut_30 (flX5_40 _ rfl) rfl rfl ?_
          refine pm_iloadn hG dX5_rentsBut_33 rfl ?_
          refine pm_iconst (v := 0) hG dX5_rentsBut_34 (by decide) ?_
          refine pm_callV (As := [.int x1_3, .int 0]) (rest := [.int x1_2]) hG hR dX5_rentsBut_35 (lkX5_50 _ rfl) okV_X9_get rfl rfl (tget_2 (d := 0)) rfl rfl hdd (Nat.le_refl _) (Nat.le_refl _) (by first | decide | exact Nat.le_of_ble_eq_true rfl) (fx_ki ?_)
          refine pm_iadd hG dX5_rentsBut_38 ?_
          refine fx_letv hE (fun x4 hE => ?_)
          refine pm_istoreXn (loc' := [some (.ref (B + 42)), some (.int za), some (.int x4), some (.int x1_3)]) hG dX5_rentsBut_39 (by decide) (pm_c1b rfl) rfl ?_
          refine pm_iincX (v := x1_3 + 1) (loc' := [some (.ref (B + 42)), some (.int za), some (.int x4), some (.int (x1_3 + 1))]) hG dX5_rentsBut_40 rfl (by rfl) (by decide) (pm_c1b rfl) rfl ?_
          refine pm_goto (tgt := 4) hG dX5_rentsBut_43 rfl ?_
          exact ih4 _ _ hE
  refine loop4 _ (fun  x5_2 x5_3 hE => ?_) _ _ _ hE
  refine pm_iloadn hG dX5_rentsBut_46 rfl ?_
  exact pm_iret hG hF dX5_rentsBut_47 rfl (Nat.le_refl _) (Nat.le_refl _) (fx_pi (Option.some.inj hE))

set_option maxRecDepth 100000 in
set_option maxHeartbeats 4000000 in
theorem c_X5_begin {d : Nat} {B cnt : Nat} {kp : Value} {ρ : pm_S} {S : FS} {R : Int32 × FS} (hdd : 2 ≤ d) (hE : f_X5_begin S = some R) : pm_met mX5_begin d 0 0 B [.ref (B + 42)] cnt (cst B kp S ρ) (pm_Qv (fun σ' cnt' => σ' = (cst B kp R.2 ρ) ∧ cnt' = cnt)) := by
  refine pm_enter 2 (by decide) (Nat.le_of_ble_eq_true rfl) rfl (fun G hG hR hF => ?_)
  unfold f_X5_begin at hE
  refine pm_aloadn hG dX5_begin_0 rfl ?_
  refine pm_getf hG dX5_begin_1 (flX5_11 _ rfl) rfl rfl ?_
  refine pm_iconst (v := (-1)) hG dX5_begin_4 (by decide) ?_
  refine pm_callS (As := [.ref (B + 43), .int (-1)]) (rest := []) hG hR dX5_begin_5 (lkX5_25 _ rfl) okS_J7_fill_53178 (tfill_43 (d := 1)) rfl rfl hdd (Nat.le_refl _) (Nat.le_refl _) (by decide) (fx_kv ?_)
  refine fx_letc hE (fun S1 hE => ?_)
  refine pm_aloadn hG dX5_begin_8 rfl ?_
  refine pm_getf hG dX5_begin_9 (flX5_11 _ rfl) rfl rfl ?_
  refine pm_iconst (v := 0) hG dX5_begin_12 (by decide) ?_
  refine pm_aloadn hG dX5_begin_13 rfl ?_
  refine pm_getf hG dX5_begin_14 (flX5_21 _ rfl) rfl rfl ?_
  refine pm_getf hG dX5_begin_17 (flX5_31 _ rfl) rfl rfl ?_
  refine fx_iast hG dX5_begin_20 rfl (ix_lit (by decide) rfl) ?_
  refine ca_43 ?_
  refine fx_letc hE (fun S2 hE => ?_)
  refine pm_aloadn hG dX5_begin_21 rfl ?_
  refine pm_getf hG dX5_begin_22 (flX5_15 _ rfl) rfl rfl ?_
  refine pm_iconst (v := 0) hG dX5_begin_25 (by decide) ?_
  refine pm_iconst (v := 0) hG dX5_begin_26 (by decide) ?_
  refine fx_iast hG dX5_begin_27 rfl (ix_lit (by decide) rfl) ?_
  refine ca_44 ?_
  refine fx_letc hE (fun S3 hE => ?_)
  refine pm_aloadn hG dX5_begin_28 rfl ?_
  refine pm_iconst (v := 0) hG dX5_begin_29 (by decide) ?_
  refine pm_putf hG dX5_begin_30 (fwX5_37 _ rfl) rfl rfl rfl ?_
  refine ci_112 ?_
  refine fx_letc hE (fun S4 hE => ?_)
  refine pm_iconst (v := 0) hG dX5_begin_33 (by decide) ?_
  refine pm_istoreXn (loc' := [some (.ref (B + 42)), some (.int 0), none]) hG dX5_begin_34 (by decide) (pm_c1b rfl) rfl ?_
  have loop35 : ∀ (k35 : FS → Int32 → Option (Int32 × FS)), (∀ (S5 : FS) (x5_1 : Int32), k35 S5  x5_1 = some R → pm_wp mX5_begin G B 118 [some (.ref (B + 42)), some (.int x5_1), none] [] 0 0 cnt (cst B kp S5 ρ)) → ∀ (m35 : Nat) (S5 : FS) (x5_1 : Int32), l_X5_begin_35 k35 m35 S5  x5_1 = some R → pm_wp mX5_begin G B 35 [some (.ref (B + 42)), some (.int x5_1), none] [] 0 0 cnt (cst B kp S5 ρ) := by
    intro k35 hk35 m35
    induction m35 with
    | zero => intro S5  x5_1 hE; exact fx_no hE
    | succ m35 ih35 =>
      intro S5  x5_1 hE
      rw [l_X5_begin_35] at hE
      refine pm_iloadn hG dX5_begin_35 rfl ?_
      refine pm_bipush (v := 6) hG dX5_begin_36 (by decide) ?_
      refine pm_icmp_ge (tgt := 118) hG dX5_begin_38 rfl (fun c6 => ?_) (fun c6 => ?_)
      · replace c6 := Int32.not_lt.mpr c6
        replace hE := fx_f c6 hE
        exact hk35 _ _ hE
      · replace c6 := Int32.not_le.mp c6
        replace hE := fx_t c6 hE
        refine pm_aloadn hG dX5_begin_41 rfl ?_
        refine pm_getf hG dX5_begin_42 (flX5_21 _ rfl) rfl rfl ?_
        refine pm_getf hG dX5_begin_45 (flX5_40 _ rfl) rfl rfl ?_
        refine pm_iloadn hG dX5_begin_48 rfl ?_
        refine pm_callV (As := [.int x5_1]) (rest := []) hG hR dX5_begin_49 (lkX5_44 _ rfl) okV_X9_has rfl rfl (thas_2 (d := 1)) rfl rfl hdd (Nat.le_refl _) (Nat.le_refl _) (by decide) (fx_ki ?_)
        refine pm_if_eq (tgt := 90) hG dX5_begin_52 rfl (fun c7 => ?_) (fun c7 => ?_)
        · replace hE := fx_t c7 hE
          refine pm_iconst (v := 0) hG dX5_begin_90 (by decide) ?_
          refine pm_istoreXn (loc' := [some (.ref (B + 42)), some (.int x5_1), some (.int 0)]) hG dX5_begin_91 (by decide) (pm_c1b rfl) rfl ?_
          refine pm_aloadn hG dX5_begin_92 rfl ?_
          refine pm_dup hG dX5_begin_93 rfl ?_
          refine pm_getf hG dX5_begin_94 (flX5_37 _ rfl) rfl rfl ?_
          refine pm_iloadn hG dX5_begin_97 rfl ?_
          refine pm_if_eq (tgt := 107) hG dX5_begin_98 rfl (fun _ => ?_) (fun q => absurd q (by decide))
          refine pm_iconst (v := 0) hG dX5_begin_107 (by decide) ?_
          refine pm_ior hG dX5_begin_108 ?_
          refine pm_putf hG dX5_begin_109 (fwX5_37 _ rfl) rfl rfl rfl ?_
          refine ci_112 ?_
          refine fx_letc hE (fun S8 hE => ?_)
          refine pm_iincX (v := x5_1 + 1) (loc' := [some (.ref (B + 42)), some (.int (x5_1 + 1)), some (.int 0)]) hG dX5_begin_112 rfl (by rfl) (by decide) (pm_c1b rfl) rfl ?_
          refine pm_goto (tgt := 35) hG dX5_begin_115 rfl ?_
          refine pm_fg 2 (loc' := [some (.ref (B + 42)), some (.int (x5_1 + 1)), none]) rfl ?_
          exact ih35 _ _ hE
        · replace hE := fx_f c7 hE
          refine pm_aloadn hG dX5_begin_55 rfl ?_
          refine pm_getf hG dX5_begin_56 (flX5_21 _ rfl) rfl rfl ?_
          refine pm_getf hG dX5_begin_59 (flX5_40 _ rfl) rfl rfl ?_
          refine pm_iloadn hG dX5_begin_62 rfl ?_
          refine pm_iconst (v := 1) hG dX5_begin_63 (by decide) ?_
          refine pm_callV (As := [.int x5_1, .int 1]) (rest := []) hG hR dX5_begin_64 (lkX5_50 _ rfl) okV_X9_get rfl rfl (tget_2 (d := 1)) rfl rfl hdd (Nat.le_refl _) (Nat.le_refl _) (by decide) (fx_ki ?_)
          refine pm_iconst (v := (-1)) hG dX5_begin_67 (by decide) ?_
          refine pm_icmp_ne (tgt := 90) hG dX5_begin_68 rfl (fun c9 => ?_) (fun c9 => ?_)
          · replace hE := fx_f c9 hE
            refine pm_iconst (v := 0) hG dX5_begin_90 (by decide) ?_
            refine pm_istoreXn (loc' := [some (.ref (B + 42)), some (.int x5_1), some (.int 0)]) hG dX5_begin_91 (by decide) (pm_c1b rfl) rfl ?_
            refine pm_aloadn hG dX5_begin_92 rfl ?_
            refine pm_dup hG dX5_begin_93 rfl ?_
            refine pm_getf hG dX5_begin_94 (flX5_37 _ rfl) rfl rfl ?_
            refine pm_iloadn hG dX5_begin_97 rfl ?_
            refine pm_if_eq (tgt := 107) hG dX5_begin_98 rfl (fun _ => ?_) (fun q => absurd q (by decide))
            refine pm_iconst (v := 0) hG dX5_begin_107 (by decide) ?_
            refine pm_ior hG dX5_begin_108 ?_
            refine pm_putf hG dX5_begin_109 (fwX5_37 _ rfl) rfl rfl rfl ?_
            refine ci_112 ?_
            refine fx_letc hE (fun S10 hE => ?_)
            refine pm_iincX (v := x5_1 + 1) (loc' := [some (.ref (B + 42)), some (.int (x5_1 + 1)), some (.int 0)]) hG dX5_begin_112 rfl (by rfl) (by decide) (pm_c1b rfl) rfl ?_
            refine pm_goto (tgt := 35) hG dX5_begin_115 rfl ?_
            refine pm_fg 2 (loc' := [some (.ref (B + 42)), some (.int (x5_1 + 1)), none]) rfl ?_
            exact ih35 _ _ hE
          · replace hE := fx_t c9 hE
            refine pm_aloadn hG dX5_begin_71 rfl ?_
            refine pm_getf hG dX5_begin_72 (flX5_21 _ rfl) rfl rfl ?_
            refine pm_getf hG dX5_begin_75 (flX5_40 _ rfl) rfl rfl ?_
            refine pm_iloadn hG dX5_begin_78 rfl ?_
            refine pm_iconst (v := 2) hG dX5_begin_79 (by decide) ?_
            refine pm_callV (As := [.int x5_1, .int 2]) (rest := []) hG hR dX5_begin_80 (lkX5_50 _ rfl) okV_X9_get rfl rfl (tget_2 (d := 1)) rfl rfl hdd (Nat.le_refl _) (Nat.le_refl _) (by decide) (fx_ki ?_)
            refine pm_if_ne (tgt := 90) hG dX5_begin_83 rfl (fun c11 => ?_) (fun c11 => ?_)
            · replace hE := fx_f c11 hE
              refine pm_iconst (v := 0) hG dX5_begin_90 (by decide) ?_
              refine pm_istoreXn (loc' := [some (.ref (B + 42)), some (.int x5_1), some (.int 0)]) hG dX5_begin_91 (by decide) (pm_c1b rfl) rfl ?_
              refine pm_aloadn hG dX5_begin_92 rfl ?_
              refine pm_dup hG dX5_begin_93 rfl ?_
              refine pm_getf hG dX5_begin_94 (flX5_37 _ rfl) rfl rfl ?_
              refine pm_iloadn hG dX5_begin_97 rfl ?_
              refine pm_if_eq (tgt := 107) hG dX5_begin_98 rfl (fun _ => ?_) (fun q => absurd q (by decide))
              refine pm_iconst (v := 0) hG dX5_begin_107 (by decide) ?_
              refine pm_ior hG dX5_begin_108 ?_
              refine pm_putf hG dX5_begin_109 (fwX5_37 _ rfl) rfl rfl rfl ?_
              refine ci_112 ?_
              refine fx_letc hE (fun S12 hE => ?_)
              refine pm_iincX (v := x5_1 + 1) (loc' := [some (.ref (B + 42)), some (.int (x5_1 + 1)), some (.int 0)]) hG dX5_begin_112 rfl (by rfl) (by decide) (pm_c1b rfl) rfl ?_
              refine pm_goto (tgt := 35) hG dX5_begin_115 rfl ?_
              refine pm_fg 2 (loc' := [some (.ref (B + 42)), some (.int (x5_1 + 1)), none]) rfl ?_
              exact ih35 _ _ hE
            · replace hE := fx_t c11 hE
              refine pm_iconst (v := 1) hG dX5_begin_86 (by decide) ?_
              refine pm_goto (tgt := 91) hG dX5_begin_87 rfl ?_
              refine pm_istoreXn (loc' := [some (.ref (B + 42)), some (.int x5_1), some (.int 1)]) hG dX5_begin_91 (by decide) (pm_c1b rfl) rfl ?_
              refine pm_aloadn hG dX5_begin_92 rfl ?_
              refine pm_dup hG dX5_begin_93 rfl ?_
              refine pm_getf hG dX5_begin_94 (flX5_37 _ rfl) rfl rfl ?_
              refine pm_iloadn hG dX5_begin_97 rfl ?_
              refine pm_if_eq (tgt := 107) hG dX5_begin_98 rfl (fun q => absurd q (by decide)) (fun _ => ?_)
              refine pm_iconst (v := 1) hG dX5_begin_101 (by decide) ?_
              refine pm_iloadn hG dX5_begin_102 rfl ?_
              refine pm_ishl hG dX5_begin_103 ?_
              refine pm_goto (tgt := 108) hG dX5_begin_104 rfl ?_
              refine pm_ior hG dX5_begin_108 ?_
              refine pm_putf hG dX5_begin_109 (fwX5_37 _ rfl) rfl rfl rfl ?_
              refine ci_112 ?_
              refine fx_letc hE (fun S13 hE => ?_)
              refine pm_iincX (v := x5_1 + 1) (loc' := [some (.ref (B + 42)), some (.int (x5_1 + 1)), some (.int 1)]) hG dX5_begin_112 rfl (by rfl) (by decide) (pm_c1b rfl) rfl ?_
              refine pm_goto (tgt := 35) hG dX5_begin_115 rfl ?_
              refine pm_fg 2 (loc' := [some (.ref (B + 42)), some (.int (x5_1 + 1)), none]) rfl ?_
              exact ih35 _ _ hE
  refine loop35 _ (fun S14 x14_1 hE => ?_) _ _ _ hE
  refine pm_iconst (v := 0) hG dX5_begin_118 (by decide) ?_
  refine pm_istoreXn (loc' := [some (.ref (B + 42)), some (.int 0), none]) hG dX5_begin_119 (by decide) (pm_c1b rfl) rfl ?_
  have loop120 : ∀ (k120 : FS → Int32 → Option (Int32 × FS)), (∀ (S15 : FS) (x15_1 : Int32), k120 S15  x15_1 = some R → pm_wp mX5_begin G B 143 [some (.ref (B + 42)), some (.int x15_1), none] [] 0 0 cnt (cst B kp S15 ρ)) → ∀ (m120 : Nat) (S15 : FS) (x15_1 : Int32), l_X5_begin_120 k120 m120 S15  x15_1 = some R → pm_wp mX5_begin G B 120 [some (.ref (B + 42)), some (.int x15_1), none] [] 0 0 cnt (cst B kp S15 ρ) := by
    intro k120 hk120 m120
    induction m120 with
    | zero => intro S15  x15_1 hE; exact fx_no hE
    | succ m120 ih120 =>
      intro S15  x15_1 hE
      rw [l_X5_begin_120] at hE
      refine pm_iloadn hG dX5_begin_120 rfl ?_
      refine pm_bipush (v := 64) hG dX5_begin_121 (by decide) ?_
      refine pm_icmp_ge (tgt := 143) hG dX5_begin_123 rfl (fun c16 => ?_) (fun c16 => ?_)
      · replace c16 := Int32.not_lt.mpr c16
        replace hE := fx_f c16 hE
        exact hk120 _ _ hE
      · replace c16 := Int32.not_le.mp c16
        replace hE := fx_t c16 hE
        refine pm_aloadn hG dX5_begin_126 rfl ?_
        refine pm_getf hG dX5_begin_127 (flX5_18 _ rfl) rfl rfl ?_
        refine pm_iloadn hG dX5_begin_130 rfl ?_
        refine pm_aloadn hG dX5_begin_131 rfl ?_
        refine pm_iloadn hG dX5_begin_132 rfl ?_
        obtain ⟨x18, h17, hE⟩ := fb_some hE
        refine pm_callV (As := [.int x15_1]) (rest := [.int x15_1, .ref (B + 45)]) hG hR dX5_begin_133 (lkX5_54 _ rfl) okV_X5_rentsBut rfl rfl (c_X5_rentsBut (d := 1) (by decide) h17) rfl rfl hdd (Nat.le_refl _) (Nat.le_refl _) (by first | decide | exact Nat.le_of_ble_eq_true rfl) (fx_ki ?_)
        obtain ⟨j19, hj19, hE⟩ := fb_some hE
        refine fx_iast hG dX5_begin_136 rfl hj19 ?_
        refine ca_45 ?_
        refine fx_letc hE (fun S20 hE => ?_)
        refine pm_iincX (v := x15_1 + 1) (loc' := [some (.ref (B + 42)), some (.int (x15_1 + 1)), none]) hG dX5_begin_137 rfl (by rfl) (by decide) (pm_c1b rfl) rfl ?_
        refine pm_goto (tgt := 120) hG dX5_begin_140 rfl ?_
        exact ih120 _ _ hE
  refine loop120 _ (fun S21 x21_1 hE => ?_) _ _ _ hE
  exact pm_vret hG hF dX5_begin_143 rfl (Nat.le_refl _) (Nat.le_refl _) (fx_rvc hE)
