section
set_option maxRecDepth 100000 in
set_option maxHeartbeats 4000000 in
theorem c_X11_cause {d : Nat} {B cnt : Nat} {kp : Value} {ρ : pm_S} {S : FS} {za : Int32} {zb : Int32} {R : Int32 × FS} (hdd : 6 ≤ d) (hE : f_X11_cause S za zb = some R) : pm_met mX11_cause d 0 0 B [.ref (B + 0), .int za, .int zb] cnt (cst B kp S ρ) (pm_Qi (fun v σ' cnt' => v = R.1 ∧ σ' = (cst B kp R.2 ρ) ∧ cnt' = cnt)) := by
  refine pm_enter 0 (by decide) (Nat.le_of_ble_eq_true rfl) rfl (fun G hG hR hF => ?_)
  unfold f_X11_cause at hE
  refine pm_iloadn hG dX11_cause_0 rfl ?_
  refine pm_iconst (v := 0) hG dX11_cause_1 (by decide) ?_
  refine pm_iconst (v := 5) hG dX11_cause_2 (by decide) ?_
  refine pm_callS (As := [.int za, .int 0, .int 5]) (rest := []) hG hR dX11_cause_3 (lkX11_105 _ rfl) okS_X11_isOutside (tOut (d := 5)) rfl rfl hdd (Nat.le_refl _) (Nat.le_refl _) (by decide) (fx_ki ?_)
  refine pm_if_ne (tgt := 18) hG dX11_cause_6 rfl (fun c1 => ?_) (fun c1 => ?_)
  · replace hE := fx_f c1 hE
    refine pm_aloadn hG dX11_cause_18 rfl ?_
    refine pm_ldc hG dX11_cause_19 (ctX11_109 _ rfl) ?_
    obtain ⟨r3, h2, hE⟩ := fb_some hE
    refine pm_callV (As := [.int (-1000001)]) (rest := []) hG hR dX11_cause_21 (lkX11_97 _ rfl) okV_X11_told rfl rfl (c_X11_told (d := 5) (by decide) h2) rfl rfl hdd (Nat.le_refl _) (Nat.le_refl _) (by decide) (fx_ki ?_)
    exact pm_iret hG hF dX11_cause_24 rfl (Nat.le_refl _) (Nat.le_refl _) (fx_ric hE)
  · replace hE := fx_t c1 hE
    refine pm_iloadn hG dX11_cause_9 rfl ?_
    refine pm_iconst (v := 0) hG dX11_cause_10 (by decide) ?_
    refine pm_iconst (v := 3) hG dX11_cause_11 (by decide) ?_
    refine pm_callS (As := [.int zb, .int 0, .int 3]) (rest := []) hG hR dX11_cause_12 (lkX11_105 _ rfl) okS_X11_isOutside (tOut (d := 5)) rfl rfl hdd (Nat.le_refl _) (Nat.le_refl _) (by decide) (fx_ki ?_)
    refine pm_if_eq (tgt := 25) hG dX11_cause_15 rfl (fun c4 => ?_) (fun c4 => ?_)
    · replace hE := fx_t c4 hE
      refine pm_iloadn hG dX11_cause_25 rfl ?_
      refine pm_iconst (v := 3) hG dX11_cause_26 (by decide) ?_
      refine pm_icmp_ne (tgt := 39) hG dX11_cause_27 rfl (fun c5 => ?_) (fun c5 => ?_)
      · replace hE := fx_f c5 hE
        refine pm_aloadn hG dX11_cause_39 rfl ?_
        refine pm_getf hG dX11_cause_40 (flX11_30 _ rfl) rfl rfl ?_
        refine pm_iloadn hG dX11_cause_43 rfl ?_
        obtain ⟨r7, h6, hE⟩ := fb_some hE
        refine pm_callV (As := [.int za]) (rest := []) hG hR dX11_cause_44 (lkX11_290 _ rfl) okV_X0_weigh rfl rfl (c_X0_weigh (d := 5) (by decide) h6) rfl rfl hdd (Nat.le_refl _) (Nat.le_refl _) (by decide) (fx_kv ?_)
        refine pm_iloadn hG dX11_cause_47 rfl ?_
        by_cases c8 : zb = 0
        · replace hE := fx_t c8 hE
          refine pm_top (v := 0) c8 ?_
          refine pm_lsw (off := 28) (tgt := 76) hG dX11_cause_48 (by decide) (by decide) rfl ?_
          refine pm_aloadn hG dX11_cause_76 rfl ?_
          refine pm_getf hG dX11_cause_77 (flX11_30 _ rfl) rfl rfl ?_
          refine pm_getf hG dX11_cause_80 (flX11_293 _ rfl) rfl rfl ?_
          exact pm_iret hG hF dX11_cause_83 rfl (Nat.le_refl _) (Nat.le_refl _) (fx_ric hE)
        replace hE := fx_f c8 hE
        by_cases c9 : zb = 1
        · replace hE := fx_t c9 hE
          refine pm_top (v := 1) c9 ?_
          refine pm_lsw (off := 36) (tgt := 84) hG dX11_cause_48 (by decide) (by decide) rfl ?_
          refine pm_aloadn hG dX11_cause_84 rfl ?_
          refine pm_getf hG dX11_cause_85 (flX11_30 _ rfl) rfl rfl ?_
          refine pm_getf hG dX11_cause_88 (flX11_296 _ rfl) rfl rfl ?_
          exact pm_iret hG hF dX11_cause_91 rfl (Nat.le_refl _) (Nat.le_refl _) (fx_ric hE)
        replace hE := fx_f c9 hE
        have tc8 : ¬ zb.toInt = 0 := fun q => c8 (Int32.toInt_inj.mp q)
        have tc9 : ¬ zb.toInt = 1 := fun q => c9 (Int32.toInt_inj.mp q)
        refine pm_lsw (off := 44) (tgt := 92) hG dX11_cause_48 (by decide) (by simp [Op.lookupswitch.offset, tc8, Ne.symm tc8, tc9, Ne.symm tc9]) rfl ?_
        refine pm_aloadn hG dX11_cause_92 rfl ?_
        refine pm_getf hG dX11_cause_93 (flX11_30 _ rfl) rfl rfl ?_
        refine pm_iconst (v := 0) hG dX11_cause_96 (by decide) ?_
        refine pm_callV (As := [.int 0]) (rest := []) hG hR dX11_cause_97 (lkX11_299 _ rfl) okV_X0_isCarriedWith rfl rfl (c_X0_isCarriedWith (d := 5) (by decide) rfl) rfl rfl hdd (Nat.le_refl _) (Nat.le_refl _) (by decide) (fx_ki ?_)
        refine pm_if_eq (tgt := 107) hG dX11_cause_100 rfl (fun c10 => ?_) (fun c10 => ?_)
        · replace hE := fx_t c10 hE
          refine pm_iconst (v := 0) hG dX11_cause_107 (by decide) ?_
          exact pm_iret hG hF dX11_cause_108 rfl (Nat.le_refl _) (Nat.le_refl _) (fx_ric hE)
        · replace hE := fx_f c10 hE
          refine pm_iconst (v := 1) hG dX11_cause_103 (by decide) ?_
          refine pm_goto (tgt := 108) hG dX11_cause_104 rfl ?_
          exact pm_iret hG hF dX11_cause_108 rfl (Nat.le_refl _) (Nat.le_refl _) (fx_ric hE)
      · replace hE := fx_t c5 hE
        refine pm_aloadn hG dX11_cause_30 rfl ?_
        refine pm_getf hG dX11_cause_31 (flX11_30 _ rfl) rfl rfl ?_
        refine pm_iloadn hG dX11_cause_34 rfl ?_
        obtain ⟨x12, h11, hE⟩ := fb_some hE
        refine pm_callV (As := [.int za]) (rest := []) hG hR dX11_cause_35 (lkX11_287 _ rfl) okV_X0_firstBroken rfl rfl (c_X0_firstBroken (d := 5) (by decide) h11) rfl rfl hdd (Nat.le_refl _) (Nat.le_refl _) (by decide) (fx_ki ?_)
        exact pm_iret hG hF dX11_cause_38 rfl (Nat.le_refl _) (Nat.le_refl _) (fx_ric hE)
    · replace hE := fx_f c4 hE
      refine pm_aloadn hG dX11_cause_18 rfl ?_
      refine pm_ldc hG dX11_cause_19 (ctX11_109 _ rfl) ?_
      obtain ⟨r14, h13, hE⟩ := fb_some hE
      refine pm_callV (As := [.int (-1000001)]) (rest := []) hG hR dX11_cause_21 (lkX11_97 _ rfl) okV_X11_told rfl rfl (c_X11_told (d := 5) (by decide) h13) rfl rfl hdd (Nat.le_refl _) (Nat.le_refl _) (by decide) (fx_ki ?_)
      exact pm_iret hG hF dX11_cause_24 rfl (Nat.le_refl _) (Nat.le_refl _) (fx_ric hE)

set_option maxRecDepth 100000 in
set_option maxHeartbeats 4000000 in
theorem c_X7_isCoinOf {d : Nat} {B cnt : Nat} {kp : Value} {ρ : pm_S} {S : FS} {za : Int32} {zb : Int32} {R : Int32} (hdd : 1 ≤ d) (hE : p_X7_isCoinOf S za zb = R) : pm_met mX7_isCoinOf d 0 0 B [.ref (B + 1), .int za, .int zb] cnt (cst B kp S ρ) (pm_Qi (fun v σ' cnt' => v = R ∧ σ' = (cst B kp S ρ) ∧ cnt' = cnt)) := by
  refine pm_enter 0 (by decide) (Nat.le_of_ble_eq_true rfl) rfl (fun G hG hR hF => ?_)
  unfold p_X7_isCoinOf at hE
  refine pm_aloadn hG dX7_isCoinOf_0 rfl ?_
  refine pm_getf hG dX7_isCoinOf_1 (flX7_23 _ rfl) rfl rfl ?_
  refine pm_iloadn hG dX7_isCoinOf_4 rfl ?_
  refine pm_callV (As := [.int za]) (rest := []) hG hR dX7_isCoinOf_5 (lkX7_93 _ rfl) okV_X9_has rfl rfl (thas_6 (d := 0)) rfl rfl hdd (Nat.le_refl _) (Nat.le_refl _) (by decide) (fx_ki ?_)
  refine pm_if_eq (tgt := 31) hG dX7_isCoinOf_8 rfl (fun c1 => ?_) (fun c1 => ?_)
  · replace hE := fx_t c1 hE
    refine pm_iloadn hG dX7_isCoinOf_31 rfl ?_
    refine pm_aloadn hG dX7_isCoinOf_32 rfl ?_
    refine pm_getf hG dX7_isCoinOf_33 (flX7_23 _ rfl) rfl rfl ?_
    refine pm_callV (As := []) (rest := [.int za]) hG hR dX7_isCoinOf_36 (lkX7_79 _ rfl) okV_X9_used rfl rfl (tused_6 (d := 0)) rfl rfl hdd (Nat.le_refl _) (Nat.le_refl _) (by first | decide | exact Nat.le_of_ble_eq_true rfl) (fx_ki ?_)
    refine pm_icmp_ne (tgt := 54) hG dX7_isCoinOf_39 rfl (fun c2 => ?_) (fun c2 => ?_)
    · replace hE := fx_f c2 hE
      refine pm_iconst (v := 0) hG dX7_isCoinOf_54 (by decide) ?_
      exact pm_zret hG hF dX7_isCoinOf_55 rfl (by rfl) (Nat.le_refl _) (Nat.le_refl _) (fx_pi hE)
    · replace hE := fx_t c2 hE
      refine pm_aloadn hG dX7_isCoinOf_42 rfl ?_
      refine pm_getf hG dX7_isCoinOf_43 (flX7_53 _ rfl) rfl rfl ?_
      refine pm_iloadn hG dX7_isCoinOf_46 rfl ?_
      refine pm_icmp_ne (tgt := 54) hG dX7_isCoinOf_47 rfl (fun c3 => ?_) (fun c3 => ?_)
      · replace hE := fx_f c3 hE
        refine pm_iconst (v := 0) hG dX7_isCoinOf_54 (by decide) ?_
        exact pm_zret hG hF dX7_isCoinOf_55 rfl (by rfl) (Nat.le_refl _) (Nat.le_refl _) (fx_pi hE)
      · replace hE := fx_t c3 hE
        refine pm_iconst (v := 1) hG dX7_isCoinOf_50 (by decide) ?_
        refine pm_goto (tgt := 55) hG dX7_isCoinOf_51 rfl ?_
        exact pm_zret hG hF dX7_isCoinOf_55 rfl (by rfl) (Nat.le_refl _) (Nat.le_refl _) (fx_pi hE)
  · replace hE := fx_f c1 hE
    refine pm_aloadn hG dX7_isCoinOf_11 rfl ?_
    refine pm_getf hG dX7_isCoinOf_12 (flX7_23 _ rfl) rfl rfl ?_
    refine pm_iloadn hG dX7_isCoinOf_15 rfl ?_
    refine pm_bipush (v := 7) hG dX7_isCoinOf_16 (by decide) ?_
    refine pm_callV (As := [.int za, .int 7]) (rest := []) hG hR dX7_isCoinOf_18 (lkX7_83 _ rfl) okV_X9_get rfl rfl (tget_6 (d := 0)) rfl rfl hdd (Nat.le_refl _) (Nat.le_refl _) (by decide) (fx_ki ?_)
    refine pm_iloadn hG dX7_isCoinOf_21 rfl ?_
    refine pm_icmp_ne (tgt := 29) hG dX7_isCoinOf_22 rfl (fun c4 => ?_) (fun c4 => ?_)
    · replace hE := fx_f c4 hE
      refine pm_iconst (v := 0) hG dX7_isCoinOf_29 (by decide) ?_
      exact pm_zret hG hF dX7_isCoinOf_30 rfl (by rfl) (Nat.le_refl _) (Nat.le_refl _) (fx_pi hE)
    · replace hE := fx_t c4 hE
      refine pm_iconst (v := 1) hG dX7_isCoinOf_25 (by decide) ?_
      refine pm_goto (tgt := 30) hG dX7_isCoinOf_26 rfl ?_
      exact pm_zret hG hF dX7_isCoinOf_30 rfl (by rfl) (Nat.le_refl _) (Nat.le_refl _) (fx_pi hE)

set_option maxRecDepth 100000 in
set_option maxHeartbeats 4000000 in
theorem c_X11_check {d : Nat} {B cnt : Nat} {kp : Value} {ρ : pm_S} {S : FS} {R : Int32 × FS} (hdd : 2 ≤ d) (hE : f_X11_check S = some R) : pm_met mX11_check d 0 0 B [.ref (B + 0)] cnt (cst B kp S ρ) (pm_Qi (fun v σ' cnt' => v = R.1 ∧ σ' = (cst B kp R.2 ρ) ∧ cnt' = cnt)) := by
  refine pm_enter 3 (by decide) (Nat.le_of_ble_eq_true rfl) rfl (fun G hG hR hF => ?_)
  unfold f_X11_check at hE
  refine pm_aloadn hG dX11_check_0 rfl ?_
  refine pm_getf hG dX11_check_1 (flX11_12 _ rfl) rfl rfl ?_
  refine pm_getf hG dX11_check_4 (flX11_386 _ rfl) rfl rfl ?_
  refine pm_callV (As := []) (rest := []) hG hR dX11_check_7 (lkX11_203 _ rfl) okV_X9_used rfl rfl (tused_22 (d := 1)) rfl rfl hdd (Nat.le_refl _) (Nat.le_refl _) (by decide) (fx_ki ?_)
  refine fx_letv hE (fun x1 hE => ?_)
  refine pm_istoreXn (loc' := [some (.ref (B + 0)), some (.int x1), none, none]) hG dX11_check_10 (by decide) (pm_c1b rfl) rfl ?_
  refine pm_iconst (v := 0) hG dX11_check_11 (by decide) ?_
  refine pm_istoreXn (loc' := [some (.ref (B + 0)), some (.int x1), some (.int 0), none]) hG dX11_check_12 (by decide) (pm_c1b rfl) rfl ?_
  refine pm_iconst (v := 0) hG dX11_check_13 (by decide) ?_
  refine pm_istoreXn (loc' := [some (.ref (B + 0)), some (.int x1), some (.int 0), some (.int 0)]) hG dX11_check_14 (by decide) (pm_c1b rfl) rfl ?_
  have loop15 : ∀ (k15 : FS → Int32 → Int32 → Option (Int32 × FS)), (∀ (S2 : FS) (x2_2 : Int32) (x2_3 : Int32), k15 S2  x2_2 x2_3 = some R → pm_wp mX11_check G B 57 [some (.ref (B + 0)), some (.int x1), some (.int x2_2), some (.int x2_3)] [] 0 0 cnt (cst B kp S2 ρ)) → ∀ (m15 : Nat) (S2 : FS) (x2_2 : Int32) (x2_3 : Int32), l_X11_check_15 x1 k15 m15 S2  x2_2 x2_3 = some R → pm_wp mX11_check G B 15 [some (.ref (B + 0)), some (.int x1), some (.int x2_2), some (.int x2_3)] [] 0 0 cnt (cst B kp S2 ρ) := by
    intro k15 hk15 m15
    induction m15 with
    | zero => intro S2  x2_2 x2_3 hE; exact fx_no hE
    | succ m15 ih15 =>
      intro S2  x2_2 x2_3 hE
      rw [l_X11_check_15] at hE
      refine pm_iloadn hG dX11_check_15 rfl ?_
      refine pm_iloadn hG dX11_check_16 rfl ?_
      refine pm_icmp_ge (tgt := 57) hG dX11_check_17 rfl (fun c3 => ?_) (fun c3 => ?_)
      · replace c3 := Int32.not_lt.mpr c3
        replace hE := fx_f c3 hE
        exact hk15 _ _ _ hE
      · replace c3 := Int32.not_le.mp c3
        replace hE := fx_t c3 hE
        refine pm_iloadn hG dX11_check_20 rfl ?_
        refine pm_if_ne (tgt := 57) hG dX11_check_21 rfl (fun c4 => ?_) (fun c4 => ?_)
        · replace hE := fx_f c4 hE
          exact hk15 _ _ _ hE
        · replace hE := fx_t c4 hE
          refine pm_aloadn hG dX11_check_24 rfl ?_
          refine pm_getf hG dX11_check_25 (flX11_12 _ rfl) rfl rfl ?_
          refine pm_iloadn hG dX11_check_28 rfl ?_
          refine pm_aloadn hG dX11_check_29 rfl ?_
          refine pm_getf hG dX11_check_30 (flX11_12 _ rfl) rfl rfl ?_
          refine pm_getf hG dX11_check_33 (flX11_386 _ rfl) rfl rfl ?_
          refine pm_iloadn hG dX11_check_36 rfl ?_
          refine pm_iconst (v := 0) hG dX11_check_37 (by decide) ?_
          refine pm_callV (As := [.int x2_3, .int 0]) (rest := [.int x2_3, .ref (B + 1)]) hG hR dX11_check_38 (lkX11_152 _ rfl) okV_X9_get rfl rfl (tget_22 (d := 1)) rfl rfl hdd (Nat.le_refl _) (Nat.le_refl _) (by first | decide | exact Nat.le_of_ble_eq_true rfl) (fx_ki ?_)
          refine pm_callV (As := [.int x2_3, .int (fG 22 20 1 S2 x2_3 0)]) (rest := []) hG hR dX11_check_41 (lkX11_389 _ rfl) okV_X7_isCoinOf rfl rfl (c_X7_isCoinOf (d := 1) (by decide) rfl) rfl rfl hdd (Nat.le_refl _) (Nat.le_refl _) (by decide) (fx_ki ?_)
          refine pm_if_ne (tgt := 51) hG dX11_check_44 rfl (fun c5 => ?_) (fun c5 => ?_)
          · replace hE := fx_f c5 hE
            refine pm_iincX (v := x2_3 + 1) (loc' := [some (.ref (B + 0)), some (.int x1), some (.int x2_2), some (.int (x2_3 + 1))]) hG dX11_check_51 rfl (by rfl) (by decide) (pm_c1b rfl) rfl ?_
            refine pm_goto (tgt := 15) hG dX11_check_54 rfl ?_
            exact ih15 _ _ _ hE
          · replace hE := fx_t c5 hE
            refine pm_iloadn hG dX11_check_47 rfl ?_
            refine pm_iconst (v := 1) hG dX11_check_48 (by decide) ?_
            refine pm_iadd hG dX11_check_49 ?_
            refine fx_letv hE (fun x6 hE => ?_)
            refine pm_istoreXn (loc' := [some (.ref (B + 0)), some (.int x1), some (.int x6), some (.int x2_3)]) hG dX11_check_50 (by decide) (pm_c1b rfl) rfl ?_
            refine pm_iincX (v := x2_3 + 1) (loc' := [some (.ref (B + 0)), some (.int x1), some (.int x6), some (.int (x2_3 + 1))]) hG dX11_check_51 rfl (by rfl) (by decide) (pm_c1b rfl) rfl ?_
            refine pm_goto (tgt := 15) hG dX11_check_54 rfl ?_
            exact ih15 _ _ _ hE
  refine loop15 _ (fun S7 x7_2 x7_3 hE => ?_) _ _ _ _ hE
  refine pm_aloadn hG dX11_check_57 rfl ?_
  refine pm_getf hG dX11_check_58 (flX11_12 _ rfl) rfl rfl ?_
  refine pm_getf hG dX11_check_61 (flX11_386 _ rfl) rfl rfl ?_
  refine pm_callV (As := []) (rest := []) hG hR dX11_check_64 (lkX11_392 _ rfl) okV_X9_clear rfl rfl (tclear_22 (d := 1)) rfl rfl hdd (Nat.le_refl _) (Nat.le_refl _) (by decide) (fx_kv ?_)
  refine fx_letc hE (fun S8 hE => ?_)
  refine pm_iloadn hG dX11_check_67 rfl ?_
  exact pm_iret hG hF dX11_check_68 rfl (Nat.le_refl _) (Nat.le_refl _) (fx_ric hE)

set_option maxRecDepth 100000 in
set_option maxHeartbeats 4000000 in
theorem c_X7_isLent {d : Nat} {B cnt : Nat} {kp : Value} {ρ : pm_S} {S : FS} {za : Int32} {R : Int32} (hdd : 1 ≤ d) (hE : p_X7_isLent S za = R) : pm_met mX7_isLent d 0 0 B [.ref (B + 1), .int za] cnt (cst B kp S ρ) (pm_Qi (fun v σ' cnt' => v = R ∧ σ' = (cst B kp S ρ) ∧ cnt' = cnt)) := by
  refine pm_enter 0 (by decide) (Nat.le_of_ble_eq_true rfl) rfl (fun G hG hR hF => ?_)
  unfold p_X7_isLent at hE
  refine pm_aloadn hG dX7_isLent_0 rfl ?_
  refine pm_getf hG dX7_isLent_1 (flX7_26 _ rfl) rfl rfl ?_
  refine pm_iloadn hG dX7_isLent_4 rfl ?_
  refine pm_iconst (v := 3) hG dX7_isLent_5 (by decide) ?_
  refine pm_callV (As := [.int za, .int 3]) (rest := []) hG hR dX7_isLent_6 (lkX7_83 _ rfl) okV_X9_get rfl rfl (tget_8 (d := 0)) rfl rfl hdd (Nat.le_refl _) (Nat.le_refl _) (by decide) (fx_ki ?_)
  refine pm_iconst (v := (-1)) hG dX7_isLent_9 (by decide) ?_
  refine pm_icmp_eq (tgt := 17) hG dX7_isLent_10 rfl (fun c1 => ?_) (fun c1 => ?_)
  · replace hE := fx_t c1 hE
    refine pm_iconst (v := 0) hG dX7_isLent_17 (by decide) ?_
    exact pm_zret hG hF dX7_isLent_18 rfl (by rfl) (Nat.le_refl _) (Nat.le_refl _) (fx_pi hE)
  · replace hE := fx_f c1 hE
    refine pm_iconst (v := 1) hG dX7_isLent_13 (by decide) ?_
    refine pm_goto (tgt := 18) hG dX7_isLent_14 rfl ?_
    exact pm_zret hG hF dX7_isLent_18 rfl (by rfl) (Nat.le_refl _) (Nat.le_refl _) (fx_pi hE)

set_option maxRecDepth 100000 in
set_option maxHeartbeats 4000000 in
theorem c_X7_whoHas {d : Nat} {B cnt : Nat} {kp : Value} {ρ : pm_S} {S : FS} {za : Int32} {R : Int32} (hdd : 2 ≤ d) (hE : p_X7_whoHas S za = R) : pm_met mX7_whoHas d 0 0 B [.ref (B + 1), .int za] cnt (cst B kp S ρ) (pm_Qi (fun v σ' cnt' => v = R ∧ σ' = (cst B kp S ρ) ∧ cnt' = cnt)) := by
  refine pm_enter 0 (by decide) (Nat.le_of_ble_eq_true rfl) rfl (fun G hG hR hF => ?_)
  unfold p_X7_whoHas at hE
  refine pm_aloadn hG dX7_whoHas_0 rfl ?_
  refine pm_iloadn hG dX7_whoHas_1 rfl ?_
  refine pm_callV (As := [.int za]) (rest := []) hG hR dX7_whoHas_2 (lkX7_138 _ rfl) okV_X7_isLent rfl rfl (c_X7_isLent (d := 1) (by decide) rfl) rfl rfl hdd (Nat.le_refl _) (Nat.le_refl _) (by decide) (fx_ki ?_)
  refine pm_if_eq (tgt := 20) hG dX7_whoHas_5 rfl (fun c1 => ?_) (fun c1 => ?_)
  · replace hE := fx_t c1 hE
    refine pm_aloadn hG dX7_whoHas_20 rfl ?_
    refine pm_getf hG dX7_whoHas_21 (flX7_26 _ rfl) rfl rfl ?_
    refine pm_iloadn hG dX7_whoHas_24 rfl ?_
    refine pm_iconst (v := 2) hG dX7_whoHas_25 (by decide) ?_
    refine pm_callV (As := [.int za, .int 2]) (rest := []) hG hR dX7_whoHas_26 (lkX7_83 _ rfl) okV_X9_get rfl rfl (tget_8 (d := 1)) rfl rfl hdd (Nat.le_refl _) (Nat.le_refl _) (by decide) (fx_ki ?_)
    exact pm_iret hG hF dX7_whoHas_29 rfl  (Nat.le_refl _) (Nat.le_refl _) (fx_pi hE)
  · replace hE := fx_f c1 hE
    refine pm_aloadn hG dX7_whoHas_8 rfl ?_
    refine pm_getf hG dX7_whoHas_9 (flX7_26 _ rfl) rfl rfl ?_
    refine pm_iloadn hG dX7_whoHas_12 rfl ?_
    refine pm_iconst (v := 3) hG dX7_whoHas_13 (by decide) ?_
    refine pm_callV (As := [.int za, .int 3]) (rest := []) hG hR dX7_whoHas_14 (lkX7_83 _ rfl) okV_X9_get rfl rfl (tget_8 (d := 1)) rfl rfl hdd (Nat.le_refl _) (Nat.le_refl _) (by decide) (fx_ki ?_)
    refine pm_goto (tgt := 29) hG dX7_whoHas_17 rfl ?_
    exact pm_iret hG hF dX7_whoHas_29 rfl  (Nat.le_refl _) (Nat.le_refl _) (fx_pi hE)

set_option maxRecDepth 100000 in
set_option maxHeartbeats 4000000 in
theorem c_X7_setLent {d : Nat} {B cnt : Nat} {kp : Value} {ρ : pm_S} {S : FS} {za : Int32} {zb : Int32} {zc : Int32} {R : Int32 × FS} (hdd : 1 ≤ d) (hE : f_X7_setLent S za zb zc = some R) : pm_met mX7_setLent d 0 0 B [.ref (B + 1), .int za, .int zb, .int zc] cnt (cst B kp S ρ) (pm_Qv (fun σ' cnt' => σ' = (cst B kp R.2 ρ) ∧ cnt' = cnt)) := by
  refine pm_enter 0 (by decide) (Nat.le_of_ble_eq_true rfl) rfl (fun G hG hR hF => ?_)
  unfold f_X7_setLent at hE
  refine pm_aloadn hG dX7_setLent_0 rfl ?_
  refine pm_getf hG dX7_setLent_1 (flX7_26 _ rfl) rfl rfl ?_
  refine pm_iloadn hG dX7_setLent_4 rfl ?_
  refine pm_iconst (v := 3) hG dX7_setLent_5 (by decide) ?_
  refine pm_iloadn hG dX7_setLent_6 rfl ?_
  refine pm_callV (As := [.int za, .int 3, .int zb]) (rest := []) hG hR dX7_setLent_7 (lkX7_61 _ rfl) okV_X9_set rfl rfl (tset_8 (d := 0)) rfl rfl hdd (Nat.le_refl _) (Nat.le_refl _) (by decide) (fx_kv ?_)
  refine fx_letc hE (fun S1 hE => ?_)
  refine pm_aloadn hG dX7_setLent_10 rfl ?_
  refine pm_getf hG dX7_setLent_11 (flX7_26 _ rfl) rfl rfl ?_
  refine pm_iloadn hG dX7_setLent_14 rfl ?_
  refine pm_iconst (v := 4) hG dX7_setLent_15 (by decide) ?_
  refine pm_iloadn hG dX7_setLent_16 rfl ?_
  refine pm_callV (As := [.int za, .int 4, .int zc]) (rest := []) hG hR dX7_setLent_17 (lkX7_61 _ rfl) okV_X9_set rfl rfl (tset_8 (d := 0)) rfl rfl hdd (Nat.le_refl _) (Nat.le_refl _) (by decide) (fx_kv ?_)
  refine fx_letc hE (fun S2 hE => ?_)
  exact pm_vret hG hF dX7_setLent_20 rfl (Nat.le_refl _) (Nat.le_refl _) (fx_rvc hE)

set_option maxRecDepth 100000 in
set_option maxHeartbeats 4000000 in
theorem c_X7_addPower {d : Nat} {B cnt : Nat} {kp : Value} {ρ : pm_S} {S : FS} {za : Int32} {zb : Int32} {zc : Int32} {R : Int32 × FS} (hdd : 2 ≤ d) (hE : f_X7_addPower S za zb zc = some R) : pm_met mX7_addPower d 0 0 B [.ref (B + 1), .int za, .int zb, .int zc] cnt (cst B kp S ρ) (pm_Qi (fun v σ' cnt' => v = R.1 ∧ σ' = (cst B kp R.2 ρ) ∧ cnt' = cnt)) := by
  refine pm_enter 1 (by decide) (Nat.le_of_ble_eq_true rfl) rfl (fun G hG hR hF => ?_)
  unfold f_X7_addPower at hE
  refine pm_aloadn hG dX7_addPower_0 rfl ?_
  refine pm_getf hG dX7_addPower_1 (flX7_26 _ rfl) rfl rfl ?_
  refine pm_iloadn hG dX7_addPower_4 rfl ?_
  obtain ⟨r2, h1, hE⟩ := fb_some hE
  refine pm_callV (As := [.int za]) (rest := []) hG hR dX7_addPower_5 (lkX7_75 _ rfl) okV_X9_append rfl rfl (tappend_8 (d := 1) (by decide) h1) rfl rfl hdd (Nat.le_refl _) (Nat.le_refl _) (by decide) (fx_ki ?_)
  refine pm_istoreXi (loc' := [some (.ref (B + 1)), some (.int za), some (.int zb), some (.int zc), some (.int r2.1)]) hG dX7_addPower_8 (by decide) (pm_c1b rfl) rfl ?_
  refine pm_aloadn hG dX7_addPower_10 rfl ?_
  refine pm_getf hG dX7_addPower_11 (flX7_26 _ rfl) rfl rfl ?_
  refine pm_iloadi hG dX7_addPower_14 rfl ?_
  refine pm_iconst (v := 1) hG dX7_addPower_16 (by decide) ?_
  refine pm_iloadn hG dX7_addPower_17 rfl ?_
  refine pm_callV (As := [.int r2.1, .int 1, .int zc]) (rest := []) hG hR dX7_addPower_18 (lkX7_61 _ rfl) okV_X9_set rfl rfl (tset_8 (d := 1)) rfl rfl hdd (Nat.le_refl _) (Nat.le_refl _) (by decide) (fx_kv ?_)
  refine fx_letc hE (fun S3 hE => ?_)
  refine pm_aloadn hG dX7_addPower_21 rfl ?_
  refine pm_getf hG dX7_addPower_22 (flX7_26 _ rfl) rfl rfl ?_
  refine pm_iloadi hG dX7_addPower_25 rfl ?_
  refine pm_iconst (v := 2) hG dX7_addPower_27 (by decide) ?_
  refine pm_iloadn hG dX7_addPower_28 rfl ?_
  refine pm_callV (As := [.int r2.1, .int 2, .int zb]) (rest := []) hG hR dX7_addPower_29 (lkX7_61 _ rfl) okV_X9_set rfl rfl (tset_8 (d := 1)) rfl rfl hdd (Nat.le_refl _) (Nat.le_refl _) (by decide) (fx_kv ?_)
  refine fx_letc hE (fun S4 hE => ?_)
  refine pm_aloadn hG dX7_addPower_32 rfl ?_
  refine pm_getf hG dX7_addPower_33 (flX7_26 _ rfl) rfl rfl ?_
  refine pm_iloadi hG dX7_addPower_36 rfl ?_
  refine pm_iconst (v := 5) hG dX7_addPower_38 (by decide) ?_
  refine pm_iloadn hG dX7_addPower_39 rfl ?_
  refine pm_iconst (v := 2) hG dX7_addPower_40 (by decide) ?_
  refine pm_icmp_ne (tgt := 49) hG dX7_addPower_41 rfl (fun c5 => ?_) (fun c5 => ?_)
  · replace hE := fx_f c5 hE
    refine pm_iconst (v := (-1)) hG dX7_addPower_49 (by decide) ?_
    refine pm_callV (As := [.int r2.1, .int 5, .int (-1)]) (rest := []) hG hR dX7_addPower_50 (lkX7_61 _ rfl) okV_X9_set rfl rfl (tset_8 (d := 1)) rfl rfl hdd (Nat.le_refl _) (Nat.le_refl _) (by decide) (fx_kv ?_)
    refine fx_letc hE (fun S6 hE => ?_)
    refine pm_aloadn hG dX7_addPower_53 rfl ?_
    refine pm_iloadi hG dX7_addPower_54 rfl ?_
    refine pm_iconst (v := (-1)) hG dX7_addPower_56 (by decide) ?_
    refine pm_iconst (v := (-1)) hG dX7_addPower_57 (by decide) ?_
    obtain ⟨r8, h7, hE⟩ := fb_some hE
    refine pm_callV (As := [.int r2.1, .int (-1), .int (-1)]) (rest := []) hG hR dX7_addPower_58 (lkX7_122 _ rfl) okV_X7_setLent rfl rfl (c_X7_setLent (d := 1) (by decide) h7) rfl rfl hdd (Nat.le_refl _) (Nat.le_refl _) (by decide) (fx_kv ?_)
    refine pm_iloadi hG dX7_addPower_61 rfl ?_
    exact pm_iret hG hF dX7_addPower_63 rfl (Nat.le_refl _) (Nat.le_refl _) (fx_ric hE)
  · replace hE := fx_t c5 hE
    refine pm_iloadi hG dX7_addPower_44 rfl ?_
    refine pm_goto (tgt := 50) hG dX7_addPower_46 rfl ?_
    refine pm_callV (As := [.int r2.1, .int 5, .int r2.1]) (rest := []) hG hR dX7_addPower_50 (lkX7_61 _ rfl) okV_X9_set rfl rfl (tset_8 (d := 1)) rfl rfl hdd (Nat.le_refl _) (Nat.le_refl _) (by decide) (fx_kv ?_)
    refine fx_letc hE (fun S9 hE => ?_)
    refine pm_aloadn hG dX7_addPower_53 rfl ?_
    refine pm_iloadi hG dX7_addPower_54 rfl ?_
    refine pm_iconst (v := (-1)) hG dX7_addPower_56 (by decide) ?_
    refine pm_iconst (v := (-1)) hG dX7_addPower_57 (by decide) ?_
    obtain ⟨r11, h10, hE⟩ := fb_some hE
    refine pm_callV (As := [.int r2.1, .int (-1), .int (-1)]) (rest := []) hG hR dX7_addPower_58 (lkX7_122 _ rfl) okV_X7_setLent rfl rfl (c_X7_setLent (d := 1) (by decide) h10) rfl rfl hdd (Nat.le_refl _) (Nat.le_refl _) (by decide) (fx_kv ?_)
    refine pm_iloadi hG dX7_addPower_61 rfl ?_
    exact pm_iret hG hF dX7_addPower_63 rfl (Nat.le_refl _) (Nat.le_refl _) (fx_ric hE)

set_option maxRecDepth 100000 in
set_option maxHeartbeats 4000000 in
theorem c_X7_addCopy {d : Nat} {B cnt : Nat} {kp : Value} {ρ : pm_S} {S : FS} {za : Int32} {R : Int32 × FS} (hdd : 3 ≤ d) (hE : f_X7_addCopy S za = some R) : pm_met mX7_addCopy d 0 0 B [.ref (B + 1), .int za] cnt (cst B kp S ρ) (pm_Qi (fun v σ' cnt' => v = R.1 ∧ σ' = (cst B kp R.2 ρ) ∧ cnt' = cnt)) := by
  refine pm_enter 1 (by decide) (Nat.le_of_ble_eq_true rfl) rfl (fun G hG hR hF => ?_)
  unfold f_X7_addCopy at hE
  refine pm_aloadn hG dX7_addCopy_0 rfl ?_
  refine pm_iconst (v := 2) hG dX7_addCopy_1 (by decide) ?_
  refine pm_aloadn hG dX7_addCopy_2 rfl ?_
  refine pm_iloadn hG dX7_addCopy_3 rfl ?_
  refine pm_callV (As := [.int za]) (rest := [.int 2, .ref (B + 1)]) hG hR dX7_addCopy_4 (lkX7_128 _ rfl) okV_X7_whoHas rfl rfl (c_X7_whoHas (d := 2) (by decide) rfl) rfl rfl hdd (Nat.le_refl _) (Nat.le_refl _) (by first | decide | exact Nat.le_of_ble_eq_true rfl) (fx_ki ?_)
  refine pm_iconst (v := 0) hG dX7_addCopy_7 (by decide) ?_
  obtain ⟨r2, h1, hE⟩ := fb_some hE
  refine pm_callV (As := [.int 2, .int (p_X7_whoHas S za), .int 0]) (rest := []) hG hR dX7_addCopy_8 (lkX7_131 _ rfl) okV_X7_addPower rfl rfl (c_X7_addPower (d := 2) (by decide) h1) rfl rfl hdd (Nat.le_refl _) (Nat.le_refl _) (by decide) (fx_ki ?_)
  refine pm_istoreXn (loc' := [some (.ref (B + 1)), some (.int za), some (.int r2.1)]) hG dX7_addCopy_11 (by decide) (pm_c1b rfl) rfl ?_
  refine pm_aloadn hG dX7_addCopy_12 rfl ?_
  refine pm_getf hG dX7_addCopy_13 (flX7_26 _ rfl) rfl rfl ?_
  refine pm_iloadn hG dX7_addCopy_16 rfl ?_
  refine pm_iconst (v := 5) hG dX7_addCopy_17 (by decide) ?_
  refine pm_aloadn hG dX7_addCopy_18 rfl ?_
  refine pm_getf hG dX7_addCopy_19 (flX7_26 _ rfl) rfl rfl ?_
  refine pm_iloadn hG dX7_addCopy_22 rfl ?_
  refine pm_iconst (v := 5) hG dX7_addCopy_23 (by decide) ?_
  refine pm_callV (As := [.int za, .int 5]) (rest := [.int 5, .int r2.1, .ref (B + 8)]) hG hR dX7_addCopy_24 (lkX7_83 _ rfl) okV_X9_get rfl rfl (tget_8 (d := 2)) rfl rfl hdd (Nat.le_refl _) (Nat.le_refl _) (by first | decide | exact Nat.le_of_ble_eq_true rfl) (fx_ki ?_)
  refine pm_callV (As := [.int r2.1, .int 5, .int (fG 8 20 6 r2.2 za 5)]) (rest := []) hG hR dX7_addCopy_27 (lkX7_61 _ rfl) okV_X9_set rfl rfl (tset_8 (d := 2)) rfl rfl hdd (Nat.le_refl _) (Nat.le_refl _) (by decide) (fx_kv ?_)
  refine fx_letc hE (fun S3 hE => ?_)
  refine pm_iloadn hG dX7_addCopy_30 rfl ?_
  exact pm_iret hG hF dX7_addCopy_31 rfl (Nat.le_refl _) (Nat.le_refl _) (fx_ric hE)

set_option maxRecDepth 100000 in
set_option maxHeartbeats 4000000 in
theorem c_X11_copy {d : Nat} {B cnt : Nat} {kp : Value} {ρ : pm_S} {S : FS} {za : Int32} {R : Int32 × FS} (hdd : 4 ≤ d) (hE : f_X11_copy S za = some R) : pm_met mX11_copy d 0 0 B [.ref (B + 0), .int za] cnt (cst B kp S ρ) (pm_Qi (fun v σ' cnt' => v = R.1 ∧ σ' = (cst B kp R.2 ρ) ∧ cnt' = cnt)) := by
  refine pm_enter 0 (by decide) (Nat.le_of_ble_eq_true rfl) rfl (fun G hG hR hF => ?_)
  unfold f_X11_copy at hE
  refine pm_aloadn hG dX11_copy_0 rfl ?_
  refine pm_getf hG dX11_copy_1 (flX11_12 _ rfl) rfl rfl ?_
  refine pm_getf hG dX11_copy_4 (flX11_161 _ rfl) rfl rfl ?_
  refine pm_iloadn hG dX11_copy_7 rfl ?_
  refine pm_callV (As := [.int za]) (rest := []) hG hR dX11_copy_8 (lkX11_101 _ rfl) okV_X9_has rfl rfl (thas_8 (d := 3)) rfl rfl hdd (Nat.le_refl _) (Nat.le_refl _) (by decide) (fx_ki ?_)
  refine pm_if_ne (tgt := 21) hG dX11_copy_11 rfl (fun c1 => ?_) (fun c1 => ?_)
  · replace hE := fx_f c1 hE
    refine pm_aloadn hG dX11_copy_21 rfl ?_
    refine pm_getf hG dX11_copy_22 (flX11_12 _ rfl) rfl rfl ?_
    refine pm_iloadn hG dX11_copy_25 rfl ?_
    refine pm_iconst (v := 2) hG dX11_copy_26 (by decide) ?_
    obtain ⟨x3, h2, hE⟩ := fb_some hE
    refine pm_callV (As := [.int za, .int 2]) (rest := []) hG hR dX11_copy_27 (lkX11_180 _ rfl) okV_X7_isOfKind rfl rfl (c_X7_isOfKind (d := 3) (by decide) h2) rfl rfl hdd (Nat.le_refl _) (Nat.le_refl _) (by decide) (fx_ki ?_)
    refine pm_if_ne (tgt := 40) hG dX11_copy_30 rfl (fun c4 => ?_) (fun c4 => ?_)
    · replace hE := fx_f c4 hE
      refine pm_aloadn hG dX11_copy_40 rfl ?_
      refine pm_getf hG dX11_copy_41 (flX11_12 _ rfl) rfl rfl ?_
      refine pm_iloadn hG dX11_copy_44 rfl ?_
      refine pm_callV (As := [.int za]) (rest := []) hG hR dX11_copy_45 (lkX11_185 _ rfl) okV_X7_whoHas rfl rfl (c_X7_whoHas (d := 3) (by decide) rfl) rfl rfl hdd (Nat.le_refl _) (Nat.le_refl _) (by decide) (fx_ki ?_)
      refine pm_iconst (v := (-1)) hG dX11_copy_48 (by decide) ?_
      refine pm_icmp_ne (tgt := 59) hG dX11_copy_49 rfl (fun c5 => ?_) (fun c5 => ?_)
      · replace hE := fx_f c5 hE
        refine pm_aloadn hG dX11_copy_59 rfl ?_
        refine pm_aloadn hG dX11_copy_60 rfl ?_
        refine pm_getf hG dX11_copy_61 (flX11_12 _ rfl) rfl rfl ?_
        refine pm_getf hG dX11_copy_64 (flX11_161 _ rfl) rfl rfl ?_
        refine pm_callV (As := []) (rest := [.ref (B + 0)]) hG hR dX11_copy_67 (lkX11_86 _ rfl) okV_X9_isFull rfl rfl (tisFull_8 (d := 3)) rfl rfl hdd (Nat.le_refl _) (Nat.le_refl _) (by first | decide | exact Nat.le_of_ble_eq_true rfl) (fx_ki ?_)
        refine pm_if_eq (tgt := 78) hG dX11_copy_70 rfl (fun c6 => ?_) (fun c6 => ?_)
        · replace hE := fx_t c6 hE
          refine pm_aloadn hG dX11_copy_78 rfl ?_
          refine pm_getf hG dX11_copy_79 (flX11_12 _ rfl) rfl rfl ?_
          refine pm_iloadn hG dX11_copy_82 rfl ?_
          obtain ⟨r8, h7, hE⟩ := fb_some hE
          refine pm_callV (As := [.int za]) (rest := [.ref (B + 0)]) hG hR dX11_copy_83 (lkX11_197 _ rfl) okV_X7_addCopy rfl rfl (c_X7_addCopy (d := 3) (by decide) h7) rfl rfl hdd (Nat.le_refl _) (Nat.le_refl _) (by first | decide | exact Nat.le_of_ble_eq_true rfl) (fx_ki ?_)
          obtain ⟨r10, h9, hE⟩ := fb_some hE
          refine pm_callV (As := [.int r8.1]) (rest := []) hG hR dX11_copy_86 (lkX11_97 _ rfl) okV_X11_told rfl rfl (c_X11_told (d := 3) (by decide) h9) rfl rfl hdd (Nat.le_refl _) (Nat.le_refl _) (by decide) (fx_ki ?_)
          exact pm_iret hG hF dX11_copy_89 rfl (Nat.le_refl _) (Nat.le_refl _) (fx_ric hE)
        · replace hE := fx_f c6 hE
          refine pm_ldc hG dX11_copy_73 (ctX11_92 _ rfl) ?_
          refine pm_goto (tgt := 86) hG dX11_copy_75 rfl ?_
          obtain ⟨r12, h11, hE⟩ := fb_some hE
          refine pm_callV (As := [.int (-1000004)]) (rest := []) hG hR dX11_copy_86 (lkX11_97 _ rfl) okV_X11_told rfl rfl (c_X11_told (d := 3) (by decide) h11) rfl rfl hdd (Nat.le_refl _) (Nat.le_refl _) (by decide) (fx_ki ?_)
          exact pm_iret hG hF dX11_copy_89 rfl (Nat.le_refl _) (Nat.le_refl _) (fx_ric hE)
      · replace hE := fx_t c5 hE
        refine pm_aloadn hG dX11_copy_52 rfl ?_
        refine pm_ldc hG dX11_copy_53 (ctX11_138 _ rfl) ?_
        obtain ⟨r14, h13, hE⟩ := fb_some hE
        refine pm_callV (As := [.int (-1000003)]) (rest := []) hG hR dX11_copy_55 (lkX11_97 _ rfl) okV_X11_told rfl rfl (c_X11_told (d := 3) (by decide) h13) rfl rfl hdd (Nat.le_refl _) (Nat.le_refl _) (by decide) (fx_ki ?_)
        exact pm_iret hG hF dX11_copy_58 rfl (Nat.le_refl _) (Nat.le_refl _) (fx_ric hE)
    · replace hE := fx_t c4 hE
      refine pm_aloadn hG dX11_copy_33 rfl ?_
      refine pm_ldc hG dX11_copy_34 (ctX11_184 _ rfl) ?_
      obtain ⟨r16, h15, hE⟩ := fb_some hE
      refine pm_callV (As := [.int (-1000005)]) (rest := []) hG hR dX11_copy_36 (lkX11_97 _ rfl) okV_X11_told rfl rfl (c_X11_told (d := 3) (by decide) h15) rfl rfl hdd (Nat.le_refl _) (Nat.le_refl _) (by decide) (fx_ki ?_)
      exact pm_iret hG hF dX11_copy_39 rfl (Nat.le_refl _) (Nat.le_refl _) (fx_ric hE)
  · replace hE := fx_t c1 hE
    refine pm_aloadn hG dX11_copy_14 rfl ?_
    refine pm_ldc hG dX11_copy_15 (ctX11_109 _ rfl) ?_
    obtain ⟨r18, h17, hE⟩ := fb_some hE
    refine pm_callV (As := [.int (-1000001)]) (rest := []) hG hR dX11_copy_17 (lkX11_97 _ rfl) okV_X11_told rfl rfl (c_X11_told (d := 3) (by decide) h17) rfl rfl hdd (Nat.le_refl _) (Nat.le_refl _) (by decide) (fx_ki ?_)
    exact pm_iret hG hF dX11_copy_20 rfl (Nat.le_refl _) (Nat.le_refl _) (fx_ric hE)

set_option maxRecDepth 100000 in
set_option maxHeartbeats 4000000 in
theorem c_X3_isSent {d : Nat} {B cnt : Nat} {kp : Value} {ρ : pm_S} {S : FS} {za : Int32} {R : Int32} (hdd : 1 ≤ d) (hE : p_X3_isSent S za = R) : pm_met mX3_isSent d 0 0 B [.ref (B + 36), .int za] cnt (cst B kp S ρ) (pm_Qi (fun v σ' cnt' => v = R ∧ σ' = (cst B kp S ρ) ∧ cnt' = cnt)) := by
  refine pm_enter 0 (by decide) (Nat.le_of_ble_eq_true rfl) rfl (fun G hG hR hF => ?_)
  unfold p_X3_isSent at hE
  refine pm_aloadn hG dX3_isSent_0 rfl ?_
  refine pm_getf hG dX3_isSent_1 (flX3_29 _ rfl) rfl rfl ?_
  refine pm_iloadn hG dX3_isSent_4 rfl ?_
  refine pm_bipush (v := 6) hG dX3_isSent_5 (by decide) ?_
  refine pm_callV (As := [.int za, .int 6]) (rest := []) hG hR dX3_isSent_7 (lkX3_35 _ rfl) okV_X9_get rfl rfl (tget_14 (d := 0)) rfl rfl hdd (Nat.le_refl _) (Nat.le_refl _) (by decide) (fx_ki ?_)
  refine pm_iconst (v := (-1)) hG dX3_isSent_10 (by decide) ?_
  refine pm_icmp_eq (tgt := 18) hG dX3_isSent_11 rfl (fun c1 => ?_) (fun c1 => ?_)
  · replace hE := fx_t c1 hE
    refine pm_iconst (v := 0) hG dX3_isSent_18 (by decide) ?_
    exact pm_zret hG hF dX3_isSent_19 rfl (by rfl) (Nat.le_refl _) (Nat.le_refl _) (fx_pi hE)
  · replace hE := fx_f c1 hE
    refine pm_iconst (v := 1) hG dX3_isSent_14 (by decide) ?_
    refine pm_goto (tgt := 19) hG dX3_isSent_15 rfl ?_
    exact pm_zret hG hF dX3_isSent_19 rfl (by rfl) (Nat.le_refl _) (Nat.le_refl _) (fx_pi hE)

set_option maxRecDepth 100000 in
set_option maxHeartbeats 4000000 in
theorem c_X3_onTheirWay {d : Nat} {B cnt : Nat} {kp : Value} {ρ : pm_S} {S : FS} {R : Int32} (hdd : 2 ≤ d) (hE : q_X3_onTheirWay S = some R) : pm_met mX3_onTheirWay d 0 0 B [.ref (B + 36)] cnt (cst B kp S ρ) (pm_Qi (fun v σ' cnt' => v = R ∧ σ' = (cst B kp S ρ) ∧ cnt' = cnt)) := by
  refine pm_enter 3 (by decide) (Nat.le_of_ble_eq_true rfl) rfl (fun G hG hR hF => ?_)
  unfold q_X3_onTheirWay at hE
  refine pm_iconst (v := 0) hG dX3_onTheirWay_0 (by decide) ?_
  refine pm_istoreXn (loc' := [some (.ref (B + 36)), some (.int 0), none, none]) hG dX3_onTheirWay_1 (by decide) (pm_c1b rfl) rfl ?_
  refine pm_aloadn hG dX3_onTheirWay_2 rfl ?_
  refine pm_getf hG dX3_onTheirWay_3 (flX3_29 _ rfl) rfl rfl ?_
  refine pm_callV (As := []) (rest := []) hG hR dX3_onTheirWay_6 (lkX3_74 _ rfl) okV_X9_used rfl rfl (tused_14 (d := 1)) rfl rfl hdd (Nat.le_refl _) (Nat.le_refl _) (by decide) (fx_ki ?_)
  refine fx_letv hE (fun x1 hE => ?_)
  refine pm_istoreXn (loc' := [some (.ref (B + 36)), some (.int 0), some (.int x1), none]) hG dX3_onTheirWay_9 (by decide) (pm_c1b rfl) rfl ?_
  refine pm_iconst (v := 0) hG dX3_onTheirWay_10 (by decide) ?_
  refine pm_istoreXn (loc' := [some (.ref (B + 36)), some (.int 0), some (.int x1), some (.int 0)]) hG dX3_onTheirWay_11 (by decide) (pm_c1b rfl) rfl ?_
  have loop12 : ∀ (k12 : Int32 → Int32 → Option Int32), (∀  (x2_1 : Int32) (x2_3 : Int32), k12  x2_1 x2_3 = some R → pm_wp mX3_onTheirWay G B 54 [some (.ref (B + 36)), some (.int x2_1), some (.int x1), some (.int x2_3)] [] 0 0 cnt (cst B kp S ρ)) → ∀ (m12 : Nat)  (x2_1 : Int32) (x2_3 : Int32), l_X3_onTheirWay_12 S x1 k12 m12  x2_1 x2_3 = some R → pm_wp mX3_onTheirWay G B 12 [some (.ref (B + 36)), some (.int x2_1), some (.int x1), some (.int x2_3)] [] 0 0 cnt (cst B kp S ρ) := by
    intro k12 hk12 m12
    induction m12 with
    | zero => intro  x2_1 x2_3 hE; exact fx_no hE
    | succ m12 ih12 =>
      intro  x2_1 x2_3 hE
      rw [l_X3_onTheirWay_12] at hE
      refine pm_iloadn hG dX3_onTheirWay_12 rfl ?_
      refine pm_iloadn hG dX3_onTheirWay_13 rfl ?_
      refine pm_icmp_ge (tgt := 54) hG dX3_onTheirWay_14 rfl (fun c3 => ?_) (fun c3 => ?_)
      · replace c3 := Int32.not_lt.mpr c3
        replace hE := fx_f c3 hE
        exact hk12 _ _ hE
      · replace c3 := Int32.not_le.mp c3
        replace hE := fx_t c3 hE
        refine pm_aloadn hG dX3_onTheirWay_17 rfl ?_
        refine pm_iloadn hG dX3_onTheirWay_18 rfl ?_
        refine pm_callV (As := [.int x2_3]) (rest := []) hG hR dX3_onTheirWay_19 (lkX3_55 _ rfl) okV_X3_isSent rfl rfl (c_X3_isSent (d := 1) (by decide) rfl) rfl rfl hdd (Nat.le_refl _) (Nat.le_refl _) (by decide) (fx_ki ?_)
        refine pm_if_eq (tgt := 48) hG dX3_onTheirWay_22 rfl (fun c4 => ?_) (fun c4 => ?_)
        · replace hE := fx_t c4 hE
          refine pm_iincX (v := x2_3 + 1) (loc' := [some (.ref (B + 36)), some (.int x2_1), some (.int x1), some (.int (x2_3 + 1))]) hG dX3_onTheirWay_48 rfl (by rfl) (by decide) (pm_c1b rfl) rfl ?_
          refine pm_goto (tgt := 12) hG dX3_onTheirWay_51 rfl ?_
          exact ih12 _ _ hE
        · replace hE := fx_f c4 hE
          refine pm_aloadn hG dX3_onTheirWay_25 rfl ?_
          refine pm_getf hG dX3_onTheirWay_26 (flX3_29 _ rfl) rfl rfl ?_
          refine pm_iloadn hG dX3_onTheirWay_29 rfl ?_
          refine pm_bipush (v := 8) hG dX3_onTheirWay_30 (by decide) ?_
          refine pm_callV (As := [.int x2_3, .int 8]) (rest := []) hG hR dX3_onTheirWay_32 (lkX3_35 _ rfl) okV_X9_get rfl rfl (tget_14 (d := 1)) rfl rfl hdd (Nat.le_refl _) (Nat.le_refl _) (by decide) (fx_ki ?_)
          refine pm_aloadn hG dX3_onTheirWay_35 rfl ?_
          refine pm_getf hG dX3_onTheirWay_36 (flX3_9 _ rfl) rfl rfl ?_
          refine pm_getf hG dX3_onTheirWay_39 (flX3_82 _ rfl) rfl rfl ?_
          refine pm_icmp_le (tgt := 48) hG dX3_onTheirWay_42 rfl (fun c5 => ?_) (fun c5 => ?_)
          · replace c5 := Int32.not_lt.mpr c5
            replace hE := fx_f c5 hE
            refine pm_iincX (v := x2_3 + 1) (loc' := [some (.ref (B + 36)), some (.int x2_1), some (.int x1), some (.int (x2_3 + 1))]) hG dX3_onTheirWay_48 rfl (by rfl) (by decide) (pm_c1b rfl) rfl ?_
            refine pm_goto (tgt := 12) hG dX3_onTheirWay_51 rfl ?_
            exact ih12 _ _ hE
          · replace c5 := Int32.not_le.mp c5
            replace hE := fx_t c5 hE
            refine pm_iincX (v := x2_1 + 1) (loc' := [some (.ref (B + 36)), some (.int (x2_1 + 1)), some (.int x1), some (.int x2_3)]) hG dX3_onTheirWay_45 rfl (by rfl) (by decide) (pm_c1b rfl) rfl ?_
            refine pm_iincX (v := x2_3 + 1) (loc' := [some (.ref (B + 36)), some (.int (x2_1 + 1)), some (.int x1), some (.int (x2_3 + 1))]) hG dX3_onTheirWay_48 rfl (by rfl) (by decide) (pm_c1b rfl) rfl ?_
            refine pm_goto (tgt := 12) hG dX3_onTheirWay_51 rfl ?_
            exact ih12 _ _ hE
  refine loop12 _ (fun  x6_1 x6_3 hE => ?_) _ _ _ hE
  refine pm_iloadn hG dX3_onTheirWay_54 rfl ?_
  exact pm_iret hG hF dX3_onTheirWay_55 rfl (Nat.le_refl _) (Nat.le_refl _) (fx_pi (Option.some.inj hE))

set_option maxRecDepth 100000 in
set_option maxHeartbeats 4000000 in
theorem c_X11_count {d : Nat} {B cnt : Nat} {kp : Value} {ρ : pm_S} {S : FS} {za : Int32} {R : Int32 × FS} (hdd : 3 ≤ d) (hE : f_X11_count S za = some R) : pm_met mX11_count d 0 0 B [.ref (B + 0), .int za] cnt (cst B kp S ρ) (pm_Qi (fun v σ' cnt' => v = R.1 ∧ σ' = (cst B kp R.2 ρ) ∧ cnt' = cnt)) := by
  refine pm_enter 0 (by decide) (Nat.le_of_ble_eq_true rfl) rfl (fun G hG hR hF => ?_)
  unfold f_X11_count at hE
  refine pm_iloadn hG dX11_count_0 rfl ?_
  by_cases c1 : za = 0
  · replace hE := fx_t c1 hE
    refine pm_top (v := 0) c1 ?_
    refine pm_tswIn (tgt := 80) hG dX11_count_1 (by decide) (by decide) rfl rfl ?_
    refine pm_aloadn hG dX11_count_80 rfl ?_
    refine pm_getf hG dX11_count_81 (flX11_12 _ rfl) rfl rfl ?_
    refine pm_getf hG dX11_count_84 (flX11_82 _ rfl) rfl rfl ?_
    refine pm_callV (As := []) (rest := []) hG hR dX11_count_87 (lkX11_203 _ rfl) okV_X9_used rfl rfl (tused_2 (d := 2)) rfl rfl hdd (Nat.le_refl _) (Nat.le_refl _) (by decide) (fx_ki ?_)
    exact pm_iret hG hF dX11_count_90 rfl (Nat.le_refl _) (Nat.le_refl _) (fx_ric hE)
  replace hE := fx_f c1 hE
  by_cases c2 : za = 1
  · replace hE := fx_t c2 hE
    refine pm_top (v := 1) c2 ?_
    refine pm_tswIn (tgt := 91) hG dX11_count_1 (by decide) (by decide) rfl rfl ?_
    refine pm_aloadn hG dX11_count_91 rfl ?_
    refine pm_getf hG dX11_count_92 (flX11_12 _ rfl) rfl rfl ?_
    refine pm_getf hG dX11_count_95 (flX11_110 _ rfl) rfl rfl ?_
    exact pm_iret hG hF dX11_count_98 rfl (Nat.le_refl _) (Nat.le_refl _) (fx_ric hE)
  replace hE := fx_f c2 hE
  by_cases c3 : za = 2
  · replace hE := fx_t c3 hE
    refine pm_top (v := 2) c3 ?_
    refine pm_tswIn (tgt := 99) hG dX11_count_1 (by decide) (by decide) rfl rfl ?_
    refine pm_aloadn hG dX11_count_99 rfl ?_
    refine pm_getf hG dX11_count_100 (flX11_12 _ rfl) rfl rfl ?_
    refine pm_getf hG dX11_count_103 (flX11_128 _ rfl) rfl rfl ?_
    refine pm_callV (As := []) (rest := []) hG hR dX11_count_106 (lkX11_203 _ rfl) okV_X9_used rfl rfl (tused_6 (d := 2)) rfl rfl hdd (Nat.le_refl _) (Nat.le_refl _) (by decide) (fx_ki ?_)
    exact pm_iret hG hF dX11_count_109 rfl (Nat.le_refl _) (Nat.le_refl _) (fx_ric hE)
  replace hE := fx_f c3 hE
  by_cases c4 : za = 3
  · replace hE := fx_t c4 hE
    refine pm_top (v := 3) c4 ?_
    refine pm_tswIn (tgt := 110) hG dX11_count_1 (by decide) (by decide) rfl rfl ?_
    refine pm_aloadn hG dX11_count_110 rfl ?_
    refine pm_getf hG dX11_count_111 (flX11_12 _ rfl) rfl rfl ?_
    refine pm_getf hG dX11_count_114 (flX11_161 _ rfl) rfl rfl ?_
    refine pm_callV (As := []) (rest := []) hG hR dX11_count_117 (lkX11_203 _ rfl) okV_X9_used rfl rfl (tused_8 (d := 2)) rfl rfl hdd (Nat.le_refl _) (Nat.le_refl _) (by decide) (fx_ki ?_)
    exact pm_iret hG hF dX11_count_120 rfl (Nat.le_refl _) (Nat.le_refl _) (fx_ric hE)
  replace hE := fx_f c4 hE
  by_cases c5 : za = 4
  · replace hE := fx_t c5 hE
    refine pm_top (v := 4) c5 ?_
    refine pm_tswIn (tgt := 121) hG dX11_count_1 (by decide) (by decide) rfl rfl ?_
    refine pm_aloadn hG dX11_count_121 rfl ?_
    refine pm_getf hG dX11_count_122 (flX11_12 _ rfl) rfl rfl ?_
    refine pm_getf hG dX11_count_125 (flX11_209 _ rfl) rfl rfl ?_
    refine pm_callV (As := []) (rest := []) hG hR dX11_count_128 (lkX11_203 _ rfl) okV_X9_used rfl rfl (tused_10 (d := 2)) rfl rfl hdd (Nat.le_refl _) (Nat.le_refl _) (by decide) (fx_ki ?_)
    exact pm_iret hG hF dX11_count_131 rfl (Nat.le_refl _) (Nat.le_refl _) (fx_ric hE)
  replace hE := fx_f c5 hE
  by_cases c6 : za = 5
  · replace hE := fx_t c6 hE
    refine pm_top (v := 5) c6 ?_
    refine pm_tswIn (tgt := 132) hG dX11_count_1 (by decide) (by decide) rfl rfl ?_
    refine pm_aloadn hG dX11_count_132 rfl ?_
    refine pm_getf hG dX11_count_133 (flX11_12 _ rfl) rfl rfl ?_
    refine pm_getf hG dX11_count_136 (flX11_224 _ rfl) rfl rfl ?_
    refine pm_callV (As := []) (rest := []) hG hR dX11_count_139 (lkX11_203 _ rfl) okV_X9_used rfl rfl (tused_14 (d := 2)) rfl rfl hdd (Nat.le_refl _) (Nat.le_refl _) (by decide) (fx_ki ?_)
    exact pm_iret hG hF dX11_count_142 rfl (Nat.le_refl _) (Nat.le_refl _) (fx_ric hE)
  replace hE := fx_f c6 hE
  by_cases c7 : za = 6
  · replace hE := fx_t c7 hE
    refine pm_top (v := 6) c7 ?_
    refine pm_tswIn (tgt := 143) hG dX11_count_1 (by decide) (by decide) rfl rfl ?_
    refine pm_aloadn hG dX11_count_143 rfl ?_
    refine pm_getf hG dX11_count_144 (flX11_12 _ rfl) rfl rfl ?_
    refine pm_getf hG dX11_count_147 (flX11_271 _ rfl) rfl rfl ?_
    refine pm_callV (As := []) (rest := []) hG hR dX11_count_150 (lkX11_203 _ rfl) okV_X9_used rfl rfl (tused_16 (d := 2)) rfl rfl hdd (Nat.le_refl _) (Nat.le_refl _) (by decide) (fx_ki ?_)
    exact pm_iret hG hF dX11_count_153 rfl (Nat.le_refl _) (Nat.le_refl _) (fx_ric hE)
  replace hE := fx_f c7 hE
  by_cases c8 : za = 7
  · replace hE := fx_t c8 hE
    refine pm_top (v := 7) c8 ?_
    refine pm_tswIn (tgt := 154) hG dX11_count_1 (by decide) (by decide) rfl rfl ?_
    refine pm_aloadn hG dX11_count_154 rfl ?_
    refine pm_getf hG dX11_count_155 (flX11_12 _ rfl) rfl rfl ?_
    refine pm_getf hG dX11_count_158 (flX11_277 _ rfl) rfl rfl ?_
    refine pm_callV (As := []) (rest := []) hG hR dX11_count_161 (lkX11_203 _ rfl) okV_X9_used rfl rfl (tused_18 (d := 2)) rfl rfl hdd (Nat.le_refl _) (Nat.le_refl _) (by decide) (fx_ki ?_)
    exact pm_iret hG hF dX11_count_164 rfl (Nat.le_refl _) (Nat.le_refl _) (fx_ric hE)
  replace hE := fx_f c8 hE
  by_cases c9 : za = 8
  · replace hE := fx_t c9 hE
    refine pm_top (v := 8) c9 ?_
    refine pm_tswIn (tgt := 165) hG dX11_count_1 (by decide) (by decide) rfl rfl ?_
    refine pm_aloadn hG dX11_count_165 rfl ?_
    refine pm_getf hG dX11_count_166 (flX11_12 _ rfl) rfl rfl ?_
    refine pm_getf hG dX11_count_169 (flX11_122 _ rfl) rfl rfl ?_
    exact pm_iret hG hF dX11_count_172 rfl (Nat.le_refl _) (Nat.le_refl _) (fx_ric hE)
  replace hE := fx_f c9 hE
  by_cases c10 : za = 9
  · replace hE := fx_t c10 hE
    refine pm_top (v := 9) c10 ?_
    refine pm_tswIn (tgt := 173) hG dX11_count_1 (by decide) (by decide) rfl rfl ?_
    refine pm_aloadn hG dX11_count_173 rfl ?_
    refine pm_getf hG dX11_count_174 (flX11_12 _ rfl) rfl rfl ?_
    refine pm_getf hG dX11_count_177 (flX11_395 _ rfl) rfl rfl ?_
    exact pm_iret hG hF dX11_count_180 rfl (Nat.le_refl _) (Nat.le_refl _) (fx_ric hE)
  replace hE := fx_f c10 hE
  by_cases c11 : za = 10
  · replace hE := fx_t c11 hE
    refine pm_top (v := 10) c11 ?_
    refine pm_tswIn (tgt := 181) hG dX11_count_1 (by decide) (by decide) rfl rfl ?_
    refine pm_aloadn hG dX11_count_181 rfl ?_
    refine pm_getf hG dX11_count_182 (flX11_12 _ rfl) rfl rfl ?_
    refine pm_getf hG dX11_count_185 (flX11_200 _ rfl) rfl rfl ?_
    refine pm_callV (As := []) (rest := []) hG hR dX11_count_188 (lkX11_203 _ rfl) okV_X9_used rfl rfl (tused_24 (d := 2)) rfl rfl hdd (Nat.le_refl _) (Nat.le_refl _) (by decide) (fx_ki ?_)
    exact pm_iret hG hF dX11_count_191 rfl (Nat.le_refl _) (Nat.le_refl _) (fx_ric hE)
  replace hE := fx_f c11 hE
  by_cases c12 : za = 11
  · replace hE := fx_t c12 hE
    refine pm_top (v := 11) c12 ?_
    refine pm_tswIn (tgt := 192) hG dX11_count_1 (by decide) (by decide) rfl rfl ?_
    refine pm_aloadn hG dX11_count_192 rfl ?_
    refine pm_getf hG dX11_count_193 (flX11_12 _ rfl) rfl rfl ?_
    refine pm_getf hG dX11_count_196 (flX11_128 _ rfl) rfl rfl ?_
    refine pm_bipush (v := 13) hG dX11_count_199 (by decide) ?_
    refine pm_iconst (v := 1) hG dX11_count_201 (by decide) ?_
    obtain ⟨x14, h13, hE⟩ := fb_some hE
    refine pm_callV (As := [.int 13, .int 1]) (rest := []) hG hR dX11_count_202 (lkX11_164 _ rfl) okV_X9_rowsWith rfl rfl (trowsWith_6 (d := 2) (k := 13) (by decide) rfl h13) rfl rfl hdd (Nat.le_refl _) (Nat.le_refl _) (by decide) (fx_ki ?_)
    exact pm_iret hG hF dX11_count_205 rfl (Nat.le_refl _) (Nat.le_refl _) (fx_ric hE)
  replace hE := fx_f c12 hE
  by_cases c15 : za = 12
  · replace hE := fx_t c15 hE
    refine pm_top (v := 12) c15 ?_
    refine pm_tswIn (tgt := 206) hG dX11_count_1 (by decide) (by decide) rfl rfl ?_
    refine pm_aloadn hG dX11_count_206 rfl ?_
    refine pm_getf hG dX11_count_207 (flX11_67 _ rfl) rfl rfl ?_
    refine pm_getf hG dX11_count_210 (flX11_358 _ rfl) rfl rfl ?_
    exact pm_iret hG hF dX11_count_213 rfl (Nat.le_refl _) (Nat.le_refl _) (fx_ric hE)
  replace hE := fx_f c15 hE
  by_cases c16 : za = 13
  · replace hE := fx_t c16 hE
    refine pm_top (v := 13) c16 ?_
    refine pm_tswIn (tgt := 214) hG dX11_count_1 (by decide) (by decide) rfl rfl ?_
    refine pm_aloadn hG dX11_count_214 rfl ?_
    refine pm_getf hG dX11_count_215 (flX11_12 _ rfl) rfl rfl ?_
    refine pm_getf hG dX11_count_218 (flX11_386 _ rfl) rfl rfl ?_
    refine pm_callV (As := []) (rest := []) hG hR dX11_count_221 (lkX11_203 _ rfl) okV_X9_used rfl rfl (tused_22 (d := 2)) rfl rfl hdd (Nat.le_refl _) (Nat.le_refl _) (by decide) (fx_ki ?_)
    exact pm_iret hG hF dX11_count_224 rfl (Nat.le_refl _) (Nat.le_refl _) (fx_ric hE)
  replace hE := fx_f c16 hE
  by_cases c17 : za = 14
  · replace hE := fx_t c17 hE
    refine pm_top (v := 14) c17 ?_
    refine pm_tswIn (tgt := 225) hG dX11_count_1 (by decide) (by decide) rfl rfl ?_
    refine pm_aloadn hG dX11_count_225 rfl ?_
    refine pm_getf hG dX11_count_226 (flX11_12 _ rfl) rfl rfl ?_
    refine pm_getf hG dX11_count_229 (flX11_128 _ rfl) rfl rfl ?_
    refine pm_bipush (v := 7) hG dX11_count_232 (by decide) ?_
    obtain ⟨x19, h18, hE⟩ := fb_some hE
    refine pm_callV (As := [.int 7]) (rest := []) hG hR dX11_count_234 (lkX11_398 _ rfl) okV_X9_sumOf rfl rfl (tsumOf_6 (d := 2) (by decide) (k := 7) (by decide) rfl h18) rfl rfl hdd (Nat.le_refl _) (Nat.le_refl _) (by decide) (fx_ki ?_)
    exact pm_iret hG hF dX11_count_237 rfl (Nat.le_refl _) (Nat.le_refl _) (fx_ric hE)
  replace hE := fx_f c17 hE
  by_cases c20 : za = 15
  · replace hE := fx_t c20 hE
    refine pm_top (v := 15) c20 ?_
    refine pm_tswIn (tgt := 238) hG dX11_count_1 (by decide) (by decide) rfl rfl ?_
    refine pm_aloadn hG dX11_count_238 rfl ?_
    refine pm_getf hG dX11_count_239 (flX11_39 _ rfl) rfl rfl ?_
    obtain ⟨x22, h21, hE⟩ := fb_some hE
    refine pm_callV (As := []) (rest := []) hG hR dX11_count_242 (lkX11_401 _ rfl) okV_X3_onTheirWay rfl rfl (c_X3_onTheirWay (d := 2) (by decide) h21) rfl rfl hdd (Nat.le_refl _) (Nat.le_refl _) (by decide) (fx_ki ?_)
    exact pm_iret hG hF dX11_count_245 rfl (Nat.le_refl _) (Nat.le_refl _) (fx_ric hE)
  replace hE := fx_f c20 hE
  have tc1 : ¬ za.toInt = 0 := fun q => c1 (Int32.toInt_inj.mp q)
  have tc2 : ¬ za.toInt = 1 := fun q => c2 (Int32.toInt_inj.mp q)
  have tc3 : ¬ za.toInt = 2 := fun q => c3 (Int32.toInt_inj.mp q)
  have tc4 : ¬ za.toInt = 3 := fun q => c4 (Int32.toInt_inj.mp q)
  have tc5 : ¬ za.toInt = 4 := fun q => c5 (Int32.toInt_inj.mp q)
  have tc6 : ¬ za.toInt = 5 := fun q => c6 (Int32.toInt_inj.mp q)
  have tc7 : ¬ za.toInt = 6 := fun q => c7 (Int32.toInt_inj.mp q)
  have tc8 : ¬ za.toInt = 7 := fun q => c8 (Int32.toInt_inj.mp q)
  have tc9 : ¬ za.toInt = 8 := fun q => c9 (Int32.toInt_inj.mp q)
  have tc10 : ¬ za.toInt = 9 := fun q => c10 (Int32.toInt_inj.mp q)
  have tc11 : ¬ za.toInt = 10 := fun q => c11 (Int32.toInt_inj.mp q)
  have tc12 : ¬ za.toInt = 11 := fun q => c12 (Int32.toInt_inj.mp q)
  have tc15 : ¬ za.toInt = 12 := fun q => c15 (Int32.toInt_inj.mp q)
  have tc16 : ¬ za.toInt = 13 := fun q => c16 (Int32.toInt_inj.mp q)
  have tc17 : ¬ za.toInt = 14 := fun q => c17 (Int32.toInt_inj.mp q)
  have tc20 : ¬ za.toInt = 15 := fun q => c20 (Int32.toInt_inj.mp q)
  refine pm_tswOut (tgt := 246) hG dX11_count_1 (by omega) rfl ?_
  refine pm_aloadn hG dX11_count_246 rfl ?_
  refine pm_ldc hG dX11_count_247 (ctX11_109 _ rfl) ?_
  obtain ⟨r24, h23, hE⟩ := fb_some hE
  refine pm_callV (As := [.int (-1000001)]) (rest := []) hG hR dX11_count_249 (lkX11_97 _ rfl) okV_X11_told rfl rfl (c_X11_told (d := 2) (by decide) h23) rfl rfl hdd (Nat.le_refl _) (Nat.le_refl _) (by decide) (fx_ki ?_)
  exact pm_iret hG hF dX11_count_252 rfl (Nat.le_refl _) (Nat.le_refl _) (fx_ric hE)

set_option maxRecDepth 100000 in
set_option maxHeartbeats 4000000 in
theorem c_X7_bringTravellers {d : Nat} {B cnt : Nat} {kp : Value} {ρ : pm_S} {S : FS} {R : Int32 × FS} (hdd : 1 ≤ d) (hE : f_X7_bringTravellers S = some R) : pm_met mX7_bringTravellers d 0 0 B [.ref (B + 1)] cnt (cst B kp S ρ) (pm_Qv (fun σ' cnt' => σ' = (cst B kp R.2 ρ) ∧ cnt' = cnt)) := by
  refine pm_enter 2 (by decide) (Nat.le_of_ble_eq_true rfl) rfl (fun G hG hR hF => ?_)
  unfold f_X7_bringTravellers at hE
  refine pm_aloadn hG dX7_bringTravellers_0 rfl ?_
  refine pm_getf hG dX7_bringTravellers_1 (flX7_23 _ rfl) rfl rfl ?_
  refine pm_callV (As := []) (rest := []) hG hR dX7_bringTravellers_4 (lkX7_79 _ rfl) okV_X9_used rfl rfl (tused_6 (d := 0)) rfl rfl hdd (Nat.le_refl _) (Nat.le_refl _) (by decide) (fx_ki ?_)
  refine fx_letv hE (fun x1 hE => ?_)
  refine pm_istoreXn (loc' := [some (.ref (B + 1)), some (.int x1), none]) hG dX7_bringTravellers_7 (by decide) (pm_c1b rfl) rfl ?_
  refine pm_iconst (v := 0) hG dX7_bringTravellers_8 (by decide) ?_
  refine pm_istoreXn (loc' := [some (.ref (B + 1)), some (.int x1), some (.int 0)]) hG dX7_bringTravellers_9 (by decide) (pm_c1b rfl) rfl ?_
  have loop10 : ∀ (k10 : FS → Int32 → Option (Int32 × FS)), (∀ (S2 : FS) (x2_2 : Int32), k10 S2  x2_2 = some R → pm_wp mX7_bringTravellers G B 68 [some (.ref (B + 1)), some (.int x1), some (.int x2_2)] [] 0 0 cnt (cst B kp S2 ρ)) → ∀ (m10 : Nat) (S2 : FS) (x2_2 : Int32), l_X7_bringTravellers_10 x1 k10 m10 S2  x2_2 = some R → pm_wp mX7_bringTravellers G B 10 [some (.ref (B + 1)), some (.int x1), some (.int x2_2)] [] 0 0 cnt (cst B kp S2 ρ) := by
    intro k10 hk10 m10
    induction m10 with
    | zero => intro S2  x2_2 hE; exact fx_no hE
    | succ m10 ih10 =>
      intro S2  x2_2 hE
      rw [l_X7_bringTravellers_10] at hE
      refine pm_iloadn hG dX7_bringTravellers_10 rfl ?_
      refine pm_iloadn hG dX7_bringTravellers_11 rfl ?_
      refine pm_icmp_ge (tgt := 68) hG dX7_bringTravellers_12 rfl (fun c3 => ?_) (fun c3 => ?_)
      · replace c3 := Int32.not_lt.mpr c3
        replace hE := fx_f c3 hE
        exact hk10 _ _ hE
      · replace c3 := Int32.not_le.mp c3
        replace hE := fx_t c3 hE
        refine pm_aloadn hG dX7_bringTravellers_15 rfl ?_
        refine pm_getf hG dX7_bringTravellers_16 (flX7_23 _ rfl) rfl rfl ?_
        refine pm_iloadn hG dX7_bringTravellers_19 rfl ?_
        refine pm_iconst (v := 4) hG dX7_bringTravellers_20 (by decide) ?_
        refine pm_callV (As := [.int x2_2, .int 4]) (rest := []) hG hR dX7_bringTravellers_21 (lkX7_83 _ rfl) okV_X9_get rfl rfl (tget_6 (d := 0)) rfl rfl hdd (Nat.le_refl _) (Nat.le_refl _) (by decide) (fx_ki ?_)
        refine pm_if_ge (tgt := 62) hG dX7_bringTravellers_24 rfl (fun c4 => ?_) (fun c4 => ?_)
        · replace c4 := Int32.not_lt.mpr c4
          replace hE := fx_f c4 hE
          refine pm_iincX (v := x2_2 + 1) (loc' := [some (.ref (B + 1)), some (.int x1), some (.int (x2_2 + 1))]) hG dX7_bringTravellers_62 rfl (by rfl) (by decide) (pm_c1b rfl) rfl ?_
          refine pm_goto (tgt := 10) hG dX7_bringTravellers_65 rfl ?_
          exact ih10 _ _ hE
        · replace c4 := Int32.not_le.mp c4
          replace hE := fx_t c4 hE
          refine pm_aloadn hG dX7_bringTravellers_27 rfl ?_
          refine pm_getf hG dX7_bringTravellers_28 (flX7_23 _ rfl) rfl rfl ?_
          refine pm_iloadn hG dX7_bringTravellers_31 rfl ?_
          refine pm_bipush (v := 6) hG dX7_bringTravellers_32 (by decide) ?_
          refine pm_callV (As := [.int x2_2, .int 6]) (rest := []) hG hR dX7_bringTravellers_34 (lkX7_83 _ rfl) okV_X9_get rfl rfl (tget_6 (d := 0)) rfl rfl hdd (Nat.le_refl _) (Nat.le_refl _) (by decide) (fx_ki ?_)
          refine pm_aloadn hG dX7_bringTravellers_37 rfl ?_
          refine pm_getf hG dX7_bringTravellers_38 (flX7_72 _ rfl) rfl rfl ?_
          refine pm_icmp_gt (tgt := 62) hG dX7_bringTravellers_41 rfl (fun c5 => ?_) (fun c5 => ?_)
          · replace hE := fx_t c5 hE
            refine pm_iincX (v := x2_2 + 1) (loc' := [some (.ref (B + 1)), some (.int x1), some (.int (x2_2 + 1))]) hG dX7_bringTravellers_62 rfl (by rfl) (by decide) (pm_c1b rfl) rfl ?_
            refine pm_goto (tgt := 10) hG dX7_bringTravellers_65 rfl ?_
            exact ih10 _ _ hE
          · replace hE := fx_f c5 hE
            refine pm_aloadn hG dX7_bringTravellers_44 rfl ?_
            refine pm_getf hG dX7_bringTravellers_45 (flX7_23 _ rfl) rfl rfl ?_
            refine pm_iloadn hG dX7_bringTravellers_48 rfl ?_
            refine pm_iconst (v := 4) hG dX7_bringTravellers_49 (by decide) ?_
            refine pm_aloadn hG dX7_bringTravellers_50 rfl ?_
            refine pm_getf hG dX7_bringTravellers_51 (flX7_23 _ rfl) rfl rfl ?_
            refine pm_iloadn hG dX7_bringTravellers_54 rfl ?_
            refine pm_iconst (v := 5) hG dX7_bringTravellers_55 (by decide) ?_
            refine pm_callV (As := [.int x2_2, .int 5]) (rest := [.int 4, .int x2_2, .ref (B + 6)]) hG hR dX7_bringTravellers_56 (lkX7_83 _ rfl) okV_X9_get rfl rfl (tget_6 (d := 0)) rfl rfl hdd (Nat.le_refl _) (Nat.le_refl _) (by first | decide | exact Nat.le_of_ble_eq_true rfl) (fx_ki ?_)
            refine pm_callV (As := [.int x2_2, .int 4, .int (fG 6 20 14 S2 x2_2 5)]) (rest := []) hG hR dX7_bringTravellers_59 (lkX7_61 _ rfl) okV_X9_set rfl rfl (tset_6 (d := 0)) rfl rfl hdd (Nat.le_refl _) (Nat.le_refl _) (by decide) (fx_kv ?_)
            refine fx_letc hE (fun S6 hE => ?_)
            refine pm_iincX (v := x2_2 + 1) (loc' := [some (.ref (B + 1)), some (.int x1), some (.int (x2_2 + 1))]) hG dX7_bringTravellers_62 rfl (by rfl) (by decide) (pm_c1b rfl) rfl ?_
            refine pm_goto (tgt := 10) hG dX7_bringTravellers_65 rfl ?_
            exact ih10 _ _ hE
  refine loop10 _ (fun S7 x7_2 hE => ?_) _ _ _ hE
  exact pm_vret hG hF dX7_bringTravellers_68 rfl (Nat.le_refl _) (Nat.le_refl _) (fx_rvc hE)

set_option maxRecDepth 100000 in
set_option maxHeartbeats 4000000 in
theorem c_X7_takeBackLent {d : Nat} {B cnt : Nat} {kp : Value} {ρ : pm_S} {S : FS} {R : Int32 × FS} (hdd : 2 ≤ d) (hE : f_X7_takeBackLent S = some R) : pm_met mX7_takeBackLent d 0 0 B [.ref (B + 1)] cnt (cst B kp S ρ) (pm_Qv (fun σ' cnt' => σ' = (cst B kp R.2 ρ) ∧ cnt' = cnt)) := by
  refine pm_enter 2 (by decide) (Nat.le_of_ble_eq_true rfl) rfl (fun G hG hR hF => ?_)
  unfold f_X7_takeBackLent at hE
  refine pm_aloadn hG dX7_takeBackLent_0 rfl ?_
  refine pm_getf hG dX7_takeBackLent_1 (flX7_26 _ rfl) rfl rfl ?_
  refine pm_callV (As := []) (rest := []) hG hR dX7_takeBackLent_4 (lkX7_79 _ rfl) okV_X9_used rfl rfl (tused_8 (d := 1)) rfl rfl hdd (Nat.le_refl _) (Nat.le_refl _) (by decide) (fx_ki ?_)
  refine fx_letv hE (fun x1 hE => ?_)
  refine pm_istoreXn (loc' := [some (.ref (B + 1)), some (.int x1), none]) hG dX7_takeBackLent_7 (by decide) (pm_c1b rfl) rfl ?_
  refine pm_iconst (v := 0) hG dX7_takeBackLent_8 (by decide) ?_
  refine pm_istoreXn (loc' := [some (.ref (B + 1)), some (.int x1), some (.int 0)]) hG dX7_takeBackLent_9 (by decide) (pm_c1b rfl) rfl ?_
  have loop10 : ∀ (k10 : FS → Int32 → Option (Int32 × FS)), (∀ (S2 : FS) (x2_2 : Int32), k10 S2  x2_2 = some R → pm_wp mX7_takeBackLent G B 52 [some (.ref (B + 1)), some (.int x1), some (.int x2_2)] [] 0 0 cnt (cst B kp S2 ρ)) → ∀ (m10 : Nat) (S2 : FS) (x2_2 : Int32), l_X7_takeBackLent_10 x1 k10 m10 S2  x2_2 = some R → pm_wp mX7_takeBackLent G B 10 [some (.ref (B + 1)), some (.int x1), some (.int x2_2)] [] 0 0 cnt (cst B kp S2 ρ) := by
    intro k10 hk10 m10
    induction m10 with
    | zero => intro S2  x2_2 hE; exact fx_no hE
    | succ m10 ih10 =>
      intro S2  x2_2 hE
      rw [l_X7_takeBackLent_10] at hE
      refine pm_iloadn hG dX7_takeBackLent_10 rfl ?_
      refine pm_iloadn hG dX7_takeBackLent_11 rfl ?_
      refine pm_icmp_ge (tgt := 52) hG dX7_takeBackLent_12 rfl (fun c3 => ?_) (fun c3 => ?_)
      · replace c3 := Int32.not_lt.mpr c3
        replace hE := fx_f c3 hE
        exact hk10 _ _ hE
      · replace c3 := Int32.not_le.mp c3
        replace hE := fx_t c3 hE
        refine pm_aloadn hG dX7_takeBackLent_15 rfl ?_
        refine pm_iloadn hG dX7_takeBackLent_16 rfl ?_
        refine pm_callV (As := [.int x2_2]) (rest := []) hG hR dX7_takeBackLent_17 (lkX7_138 _ rfl) okV_X7_isLent rfl rfl (c_X7_isLent (d := 1) (by decide) rfl) rfl rfl hdd (Nat.le_refl _) (Nat.le_refl _) (by decide) (fx_ki ?_)
        refine pm_if_eq (tgt := 46) hG dX7_takeBackLent_20 rfl (fun c4 => ?_) (fun c4 => ?_)
        · replace hE := fx_t c4 hE
          refine pm_iincX (v := x2_2 + 1) (loc' := [some (.ref (B + 1)), some (.int x1), some (.int (x2_2 + 1))]) hG dX7_takeBackLent_46 rfl (by rfl) (by decide) (pm_c1b rfl) rfl ?_
          refine pm_goto (tgt := 10) hG dX7_takeBackLent_49 rfl ?_
          exact ih10 _ _ hE
        · replace hE := fx_f c4 hE
          refine pm_aloadn hG dX7_takeBackLent_23 rfl ?_
          refine pm_getf hG dX7_takeBackLent_24 (flX7_26 _ rfl) rfl rfl ?_
          refine pm_iloadn hG dX7_takeBackLent_27 rfl ?_
          refine pm_iconst (v := 4) hG dX7_takeBackLent_28 (by decide) ?_
          refine pm_callV (As := [.int x2_2, .int 4]) (rest := []) hG hR dX7_takeBackLent_29 (lkX7_83 _ rfl) okV_X9_get rfl rfl (tget_8 (d := 1)) rfl rfl hdd (Nat.le_refl _) (Nat.le_refl _) (by decide) (fx_ki ?_)
          refine pm_aloadn hG dX7_takeBackLent_32 rfl ?_
          refine pm_getf hG dX7_takeBackLent_33 (flX7_72 _ rfl) rfl rfl ?_
          refine pm_icmp_ge (tgt := 46) hG dX7_takeBackLent_36 rfl (fun c5 => ?_) (fun c5 => ?_)
          · replace c5 := Int32.not_lt.mpr c5
            replace hE := fx_f c5 hE
            refine pm_iincX (v := x2_2 + 1) (loc' := [some (.ref (B + 1)), some (.int x1), some (.int (x2_2 + 1))]) hG dX7_takeBackLent_46 rfl (by rfl) (by decide) (pm_c1b rfl) rfl ?_
            refine pm_goto (tgt := 10) hG dX7_takeBackLent_49 rfl ?_
            exact ih10 _ _ hE
          · replace c5 := Int32.not_le.mp c5
            replace hE := fx_t c5 hE
            refine pm_aloadn hG dX7_takeBackLent_39 rfl ?_
            refine pm_iloadn hG dX7_takeBackLent_40 rfl ?_
            refine pm_iconst (v := (-1)) hG dX7_takeBackLent_41 (by decide) ?_
            refine pm_iconst (v := (-1)) hG dX7_takeBackLent_42 (by decide) ?_
            obtain ⟨r7, h6, hE⟩ := fb_some hE
            refine pm_callV (As := [.int x2_2, .int (-1), .int (-1)]) (rest := []) hG hR dX7_takeBackLent_43 (lkX7_122 _ rfl) okV_X7_setLent rfl rfl (c_X7_setLent (d := 1) (by decide) h6) rfl rfl hdd (Nat.le_refl _) (Nat.le_refl _) (by decide) (fx_kv ?_)
            refine pm_iincX (v := x2_2 + 1) (loc' := [some (.ref (B + 1)), some (.int x1), some (.int (x2_2 + 1))]) hG dX7_takeBackLent_46 rfl (by rfl) (by decide) (pm_c1b rfl) rfl ?_
            refine pm_goto (tgt := 10) hG dX7_takeBackLent_49 rfl ?_
            exact ih10 _ _ hE
  refine loop10 _ (fun S8 x8_2 hE => ?_) _ _ _ hE
  exact pm_vret hG hF dX7_takeBackLent_52 rfl (Nat.le_refl _) (Nat.le_refl _) (fx_rvc hE)
end
section
set_option maxRecDepth 100000 in
set_option maxHeartbeats 4000000 in
theorem c_X7_isLiving {d : Nat} {B cnt : Nat} {kp : Value} {ρ : pm_S} {S : FS} {za : Int32} {R : Int32} (hdd : 1 ≤ d) (hE : p_X7_isLiving S za = R) : pm_met mX7_isLiving d 0 0 B [.ref (B + 1), .int za] cnt (cst B kp S ρ) (pm_Qi (fun v σ' cnt' => v = R ∧ σ' = (cst B kp S ρ) ∧ cnt' = cnt)) := by
  refine pm_enter 0 (by decide) (Nat.le_of_ble_eq_true rfl) rfl (fun G hG hR hF => ?_)
  unfold p_X7_isLiving at hE
  refine pm_aloadn hG dX7_isLiving_0 rfl ?_
  refine pm_getf hG dX7_isLiving_1 (flX7_23 _ rfl) rfl rfl ?_
  refine pm_iloadn hG dX7_isLiving_4 rfl ?_
  refine pm_callV (As := [.int za]) (rest := []) hG hR dX7_isLiving_5 (lkX7_93 _ rfl) okV_X9_has rfl rfl (thas_6 (d := 0)) rfl rfl hdd (Nat.le_refl _) (Nat.le_refl _) (by decide) (fx_ki ?_)
  refine pm_if_eq (tgt := 28) hG dX7_isLiving_8 rfl (fun c1 => ?_) (fun c1 => ?_)
  · replace hE := fx_t c1 hE
    refine pm_iconst (v := 0) hG dX7_isLiving_28 (by decide) ?_
    exact pm_zret hG hF dX7_isLiving_29 rfl (by rfl) (Nat.le_refl _) (Nat.le_refl _) (fx_pi hE)
  · replace hE := fx_f c1 hE
    refine pm_aloadn hG dX7_isLiving_11 rfl ?_
    refine pm_getf hG dX7_isLiving_12 (flX7_23 _ rfl) rfl rfl ?_
    refine pm_iloadn hG dX7_isLiving_15 rfl ?_
    refine pm_bipush (v := 9) hG dX7_isLiving_16 (by decide) ?_
    refine pm_callV (As := [.int za, .int 9]) (rest := []) hG hR dX7_isLiving_18 (lkX7_83 _ rfl) okV_X9_get rfl rfl (tget_6 (d := 0)) rfl rfl hdd (Nat.le_refl _) (Nat.le_refl _) (by decide) (fx_ki ?_)
    refine pm_if_ne (tgt := 28) hG dX7_isLiving_21 rfl (fun c2 => ?_) (fun c2 => ?_)
    · replace hE := fx_f c2 hE
      refine pm_iconst (v := 0) hG dX7_isLiving_28 (by decide) ?_
      exact pm_zret hG hF dX7_isLiving_29 rfl (by rfl) (Nat.le_refl _) (Nat.le_refl _) (fx_pi hE)
    · replace hE := fx_t c2 hE
      refine pm_iconst (v := 1) hG dX7_isLiving_24 (by decide) ?_
      refine pm_goto (tgt := 29) hG dX7_isLiving_25 rfl ?_
      exact pm_zret hG hF dX7_isLiving_29 rfl (by rfl) (Nat.le_refl _) (Nat.le_refl _) (fx_pi hE)

set_option maxRecDepth 100000 in
set_option maxHeartbeats 4000000 in
theorem c_X7_collectRents {d : Nat} {B cnt : Nat} {kp : Value} {ρ : pm_S} {S : FS} {R : Int32 × FS} (hdd : 2 ≤ d) (hE : f_X7_collectRents S = some R) : pm_met mX7_collectRents d 0 0 B [.ref (B + 1)] cnt (cst B kp S ρ) (pm_Qv (fun σ' cnt' => σ' = (cst B kp R.2 ρ) ∧ cnt' = cnt)) := by
  refine pm_enter 4 (by decide) (Nat.le_of_ble_eq_true rfl) rfl (fun G hG hR hF => ?_)
  unfold f_X7_collectRents at hE
  refine pm_aloadn hG dX7_collectRents_0 rfl ?_
  refine pm_getf hG dX7_collectRents_1 (flX7_14 _ rfl) rfl rfl ?_
  refine pm_callV (As := []) (rest := []) hG hR dX7_collectRents_4 (lkX7_79 _ rfl) okV_X9_used rfl rfl (tused_2 (d := 1)) rfl rfl hdd (Nat.le_refl _) (Nat.le_refl _) (by decide) (fx_ki ?_)
  refine fx_letv hE (fun x1 hE => ?_)
  refine pm_istoreXn (loc' := [some (.ref (B + 1)), some (.int x1), none, none, none]) hG dX7_collectRents_7 (by decide) (pm_c1b rfl) rfl ?_
  refine pm_iconst (v := 0) hG dX7_collectRents_8 (by decide) ?_
  refine pm_istoreXn (loc' := [some (.ref (B + 1)), some (.int x1), some (.int 0), none, none]) hG dX7_collectRents_9 (by decide) (pm_c1b rfl) rfl ?_
  have loop10 : ∀ (k10 : FS → Int32 → Option (Int32 × FS)), (∀ (S2 : FS) (x2_2 : Int32), k10 S2  x2_2 = some R → pm_wp mX7_collectRents G B 91 [some (.ref (B + 1)), some (.int x1), some (.int x2_2), none, none] [] 0 0 cnt (cst B kp S2 ρ)) → ∀ (m10 : Nat) (S2 : FS) (x2_2 : Int32), l_X7_collectRents_10 x1 k10 m10 S2  x2_2 = some R → pm_wp mX7_collectRents G B 10 [some (.ref (B + 1)), some (.int x1), some (.int x2_2), none, none] [] 0 0 cnt (cst B kp S2 ρ) := by
    intro k10 hk10 m10
    induction m10 with
    | zero => intro S2  x2_2 hE; exact fx_no hE
    | succ m10 ih10 =>
      intro S2  x2_2 hE
      rw [l_X7_collectRents_10] at hE
      refine pm_iloadn hG dX7_collectRents_10 rfl ?_
      refine pm_iloadn hG dX7_collectRents_11 rfl ?_
      refine pm_icmp_ge (tgt := 91) hG dX7_collectRents_12 rfl (fun c3 => ?_) (fun c3 => ?_)
      · replace c3 := Int32.not_lt.mpr c3
        replace hE := fx_f c3 hE
        exact hk10 _ _ hE
      · replace c3 := Int32.not_le.mp c3
        replace hE := fx_t c3 hE
        refine pm_aloadn hG dX7_collectRents_15 rfl ?_
        refine pm_getf hG dX7_collectRents_16 (flX7_14 _ rfl) rfl rfl ?_
        refine pm_iloadn hG dX7_collectRents_19 rfl ?_
        refine pm_iconst (v := 0) hG dX7_collectRents_20 (by decide) ?_
        refine pm_callV (As := [.int x2_2, .int 0]) (rest := []) hG hR dX7_collectRents_21 (lkX7_83 _ rfl) okV_X9_get rfl rfl (tget_2 (d := 1)) rfl rfl hdd (Nat.le_refl _) (Nat.le_refl _) (by decide) (fx_ki ?_)
        refine fx_letv hE (fun x4 hE => ?_)
        refine pm_istoreXn (loc' := [some (.ref (B + 1)), some (.int x1), some (.int x2_2), some (.int x4), none]) hG dX7_collectRents_24 (by decide) (pm_c1b rfl) rfl ?_
        refine pm_aloadn hG dX7_collectRents_25 rfl ?_
        refine pm_getf hG dX7_collectRents_26 (flX7_14 _ rfl) rfl rfl ?_
        refine pm_iloadn hG dX7_collectRents_29 rfl ?_
        refine pm_iconst (v := 1) hG dX7_collectRents_30 (by decide) ?_
        refine pm_callV (As := [.int x2_2, .int 1]) (rest := []) hG hR dX7_collectRents_31 (lkX7_83 _ rfl) okV_X9_get rfl rfl (tget_2 (d := 1)) rfl rfl hdd (Nat.le_refl _) (Nat.le_refl _) (by decide) (fx_ki ?_)
        refine fx_letv hE (fun x5 hE => ?_)
        refine pm_istoreXi (loc' := [some (.ref (B + 1)), some (.int x1), some (.int x2_2), some (.int x4), some (.int x5)]) hG dX7_collectRents_34 (by decide) (pm_c1b rfl) rfl ?_
        refine pm_aloadn hG dX7_collectRents_36 rfl ?_
        refine pm_getf hG dX7_collectRents_37 (flX7_14 _ rfl) rfl rfl ?_
        refine pm_iloadn hG dX7_collectRents_40 rfl ?_
        refine pm_iconst (v := 2) hG dX7_collectRents_41 (by decide) ?_
        refine pm_callV (As := [.int x2_2, .int 2]) (rest := []) hG hR dX7_collectRents_42 (lkX7_83 _ rfl) okV_X9_get rfl rfl (tget_2 (d := 1)) rfl rfl hdd (Nat.le_refl _) (Nat.le_refl _) (by decide) (fx_ki ?_)
        refine pm_if_eq (tgt := 51) hG dX7_collectRents_45 rfl (fun c6 => ?_) (fun c6 => ?_)
        · replace hE := fx_t c6 hE
          refine pm_aloadn hG dX7_collectRents_51 rfl ?_
          refine pm_iloadi hG dX7_collectRents_52 rfl ?_
          refine pm_callV (As := [.int x5]) (rest := []) hG hR dX7_collectRents_54 (lkX7_103 _ rfl) okV_X7_isLiving rfl rfl (c_X7_isLiving (d := 1) (by decide) rfl) rfl rfl hdd (Nat.le_refl _) (Nat.le_refl _) (by decide) (fx_ki ?_)
          refine pm_if_eq (tgt := 75) hG dX7_collectRents_57 rfl (fun c7 => ?_) (fun c7 => ?_)
          · replace hE := fx_t c7 hE
            refine pm_aloadn hG dX7_collectRents_75 rfl ?_
            refine pm_dup hG dX7_collectRents_76 rfl ?_
            refine pm_getf hG dX7_collectRents_77 (flX7_53 _ rfl) rfl rfl ?_
            refine pm_iloadn hG dX7_collectRents_80 rfl ?_
            refine pm_iadd hG dX7_collectRents_81 ?_
            refine pm_putf hG dX7_collectRents_82 (fwX7_53 _ rfl) rfl rfl rfl ?_
            refine ci_103 ?_
            refine fx_letc hE (fun S8 hE => ?_)
            refine pm_iincX (v := x2_2 + 1) (loc' := [some (.ref (B + 1)), some (.int x1), some (.int (x2_2 + 1)), some (.int x4), some (.int x5)]) hG dX7_collectRents_85 rfl (by rfl) (by decide) (pm_c1b rfl) rfl ?_
            refine pm_goto (tgt := 10) hG dX7_collectRents_88 rfl ?_
            refine pm_fg 3 (loc' := [some (.ref (B + 1)), some (.int x1), some (.int (x2_2 + 1)), none, some (.int x5)]) rfl ?_
            refine pm_fg 4 (loc' := [some (.ref (B + 1)), some (.int x1), some (.int (x2_2 + 1)), none, none]) rfl ?_
            exact ih10 _ _ hE
          · replace hE := fx_f c7 hE
            refine pm_aloadn hG dX7_collectRents_60 rfl ?_
            refine pm_getf hG dX7_collectRents_61 (flX7_23 _ rfl) rfl rfl ?_
            refine pm_iloadi hG dX7_collectRents_64 rfl ?_
            refine pm_bipush (v := 7) hG dX7_collectRents_66 (by decide) ?_
            refine pm_iloadn hG dX7_collectRents_68 rfl ?_
            refine pm_callV (As := [.int x5, .int 7, .int x4]) (rest := []) hG hR dX7_collectRents_69 (lkX7_125 _ rfl) okV_X9_add rfl rfl (tadd_6 (d := 1) (by decide)) rfl rfl hdd (Nat.le_refl _) (Nat.le_refl _) (by decide) (fx_kv ?_)
            refine fx_letc hE (fun S9 hE => ?_)
            refine pm_goto (tgt := 85) hG dX7_collectRents_72 rfl ?_
            refine pm_iincX (v := x2_2 + 1) (loc' := [some (.ref (B + 1)), some (.int x1), some (.int (x2_2 + 1)), some (.int x4), some (.int x5)]) hG dX7_collectRents_85 rfl (by rfl) (by decide) (pm_c1b rfl) rfl ?_
            refine pm_goto (tgt := 10) hG dX7_collectRents_88 rfl ?_
            refine pm_fg 3 (loc' := [some (.ref (B + 1)), some (.int x1), some (.int (x2_2 + 1)), none, some (.int x5)]) rfl ?_
            refine pm_fg 4 (loc' := [some (.ref (B + 1)), some (.int x1), some (.int (x2_2 + 1)), none, none]) rfl ?_
            exact ih10 _ _ hE
        · replace hE := fx_f c6 hE
          refine pm_goto (tgt := 85) hG dX7_collectRents_48 rfl ?_
          refine pm_iincX (v := x2_2 + 1) (loc' := [some (.ref (B + 1)), some (.int x1), some (.int (x2_2 + 1)), some (.int x4), some (.int x5)]) hG dX7_collectRents_85 rfl (by rfl) (by decide) (pm_c1b rfl) rfl ?_
          refine pm_goto (tgt := 10) hG dX7_collectRents_88 rfl ?_
          refine pm_fg 3 (loc' := [some (.ref (B + 1)), some (.int x1), some (.int (x2_2 + 1)), none, some (.int x5)]) rfl ?_
          refine pm_fg 4 (loc' := [some (.ref (B + 1)), some (.int x1), some (.int (x2_2 + 1)), none, none]) rfl ?_
          exact ih10 _ _ hE
  refine loop10 _ (fun S10 x10_2 hE => ?_) _ _ _ hE
  exact pm_vret hG hF dX7_collectRents_91 rfl (Nat.le_refl _) (Nat.le_refl _) (fx_rvc hE)

set_option maxRecDepth 100000 in
set_option maxHeartbeats 4000000 in
theorem c_X7_payMen {d : Nat} {B cnt : Nat} {kp : Value} {ρ : pm_S} {S : FS} {R : Int32 × FS} (hdd : 2 ≤ d) (hE : f_X7_payMen S = some R) : pm_met mX7_payMen d 0 0 B [.ref (B + 1)] cnt (cst B kp S ρ) (pm_Qv (fun σ' cnt' => σ' = (cst B kp R.2 ρ) ∧ cnt' = cnt)) := by
  refine pm_enter 3 (by decide) (Nat.le_of_ble_eq_true rfl) rfl (fun G hG hR hF => ?_)
  unfold f_X7_payMen at hE
  refine pm_aloadn hG dX7_payMen_0 rfl ?_
  refine pm_getf hG dX7_payMen_1 (flX7_23 _ rfl) rfl rfl ?_
  refine pm_callV (As := []) (rest := []) hG hR dX7_payMen_4 (lkX7_79 _ rfl) okV_X9_used rfl rfl (tused_6 (d := 1)) rfl rfl hdd (Nat.le_refl _) (Nat.le_refl _) (by decide) (fx_ki ?_)
  refine fx_letv hE (fun x1 hE => ?_)
  refine pm_istoreXn (loc' := [some (.ref (B + 1)), some (.int x1), none, none]) hG dX7_payMen_7 (by decide) (pm_c1b rfl) rfl ?_
  refine pm_iconst (v := 0) hG dX7_payMen_8 (by decide) ?_
  refine pm_istoreXn (loc' := [some (.ref (B + 1)), some (.int x1), some (.int 0), none]) hG dX7_payMen_9 (by decide) (pm_c1b rfl) rfl ?_
  have loop10 : ∀ (k10 : FS → Int32 → Option (Int32 × FS)), (∀ (S2 : FS) (x2_2 : Int32), k10 S2  x2_2 = some R → pm_wp mX7_payMen G B 68 [some (.ref (B + 1)), some (.int x1), some (.int x2_2), none] [] 0 0 cnt (cst B kp S2 ρ)) → ∀ (m10 : Nat) (S2 : FS) (x2_2 : Int32), l_X7_payMen_10 x1 k10 m10 S2  x2_2 = some R → pm_wp mX7_payMen G B 10 [some (.ref (B + 1)), some (.int x1), some (.int x2_2), none] [] 0 0 cnt (cst B kp S2 ρ) := by
    intro k10 hk10 m10
    induction m10 with
    | zero => intro S2  x2_2 hE; exact fx_no hE
    | succ m10 ih10 =>
      intro S2  x2_2 hE
      rw [l_X7_payMen_10] at hE
      refine pm_iloadn hG dX7_payMen_10 rfl ?_
      refine pm_iloadn hG dX7_payMen_11 rfl ?_
      refine pm_icmp_ge (tgt := 68) hG dX7_payMen_12 rfl (fun c3 => ?_) (fun c3 => ?_)
      · replace c3 := Int32.not_lt.mpr c3
        replace hE := fx_f c3 hE
        exact hk10 _ _ hE
      · replace c3 := Int32.not_le.mp c3
        replace hE := fx_t c3 hE
        refine pm_aloadn hG dX7_payMen_15 rfl ?_
        refine pm_getf hG dX7_payMen_16 (flX7_23 _ rfl) rfl rfl ?_
        refine pm_iloadn hG dX7_payMen_19 rfl ?_
        refine pm_bipush (v := 8) hG dX7_payMen_20 (by decide) ?_
        refine pm_callV (As := [.int x2_2, .int 8]) (rest := []) hG hR dX7_payMen_22 (lkX7_83 _ rfl) okV_X9_get rfl rfl (tget_6 (d := 1)) rfl rfl hdd (Nat.le_refl _) (Nat.le_refl _) (by decide) (fx_ki ?_)
        refine pm_aloadn hG dX7_payMen_25 rfl ?_
        refine pm_getf hG dX7_payMen_26 (flX7_23 _ rfl) rfl rfl ?_
        refine pm_iloadn hG dX7_payMen_29 rfl ?_
        refine pm_bipush (v := 7) hG dX7_payMen_30 (by decide) ?_
        refine pm_callV (As := [.int x2_2, .int 7]) (rest := [.int (fG 6 20 14 S2 x2_2 8)]) hG hR dX7_payMen_32 (lkX7_83 _ rfl) okV_X9_get rfl rfl (tget_6 (d := 1)) rfl rfl hdd (Nat.le_refl _) (Nat.le_refl _) (by first | decide | exact Nat.le_of_ble_eq_true rfl) (fx_ki ?_)
        refine pm_mmin hG hR dX7_payMen_35 (mmX7_87 _ rfl) pm_mwmin (by omega) (by first | decide | exact Nat.le_of_ble_eq_true rfl) (Nat.le_refl _) (Nat.le_refl _) ?_
        refine pm_top (v := imin (fG 6 20 14 S2 x2_2 8) (fG 6 20 14 S2 x2_2 7)) rfl ?_
        refine fx_letv hE (fun x4 hE => ?_)
        refine pm_istoreXn (loc' := [some (.ref (B + 1)), some (.int x1), some (.int x2_2), some (.int x4)]) hG dX7_payMen_38 (by decide) (pm_c1b rfl) rfl ?_
        refine pm_aloadn hG dX7_payMen_39 rfl ?_
        refine pm_getf hG dX7_payMen_40 (flX7_23 _ rfl) rfl rfl ?_
        refine pm_iloadn hG dX7_payMen_43 rfl ?_
        refine pm_bipush (v := 7) hG dX7_payMen_44 (by decide) ?_
        refine pm_iloadn hG dX7_payMen_46 rfl ?_
        refine pm_ineg hG dX7_payMen_47 ?_
        refine pm_callV (As := [.int x2_2, .int 7, .int (-x4)]) (rest := []) hG hR dX7_payMen_48 (lkX7_125 _ rfl) okV_X9_add rfl rfl (tadd_6 (d := 1) (by decide)) rfl rfl hdd (Nat.le_refl _) (Nat.le_refl _) (by decide) (fx_kv ?_)
        refine fx_letc hE (fun S5 hE => ?_)
        refine pm_aloadn hG dX7_payMen_51 rfl ?_
        refine pm_getf hG dX7_payMen_52 (flX7_23 _ rfl) rfl rfl ?_
        refine pm_iloadn hG dX7_payMen_55 rfl ?_
        refine pm_bipush (v := 8) hG dX7_payMen_56 (by decide) ?_
        refine pm_iloadn hG dX7_payMen_58 rfl ?_
        refine pm_callV (As := [.int x2_2, .int 8, .int x4]) (rest := []) hG hR dX7_payMen_59 (lkX7_61 _ rfl) okV_X9_set rfl rfl (tset_6 (d := 1)) rfl rfl hdd (Nat.le_refl _) (Nat.le_refl _) (by decide) (fx_kv ?_)
        refine fx_letc hE (fun S6 hE => ?_)
        refine pm_iincX (v := x2_2 + 1) (loc' := [some (.ref (B + 1)), some (.int x1), some (.int (x2_2 + 1)), some (.int x4)]) hG dX7_payMen_62 rfl (by rfl) (by decide) (pm_c1b rfl) rfl ?_
        refine pm_goto (tgt := 10) hG dX7_payMen_65 rfl ?_
        refine pm_fg 3 (loc' := [some (.ref (B + 1)), some (.int x1), some (.int (x2_2 + 1)), none]) rfl ?_
        exact ih10 _ _ hE
  refine loop10 _ (fun S7 x7_2 hE => ?_) _ _ _ hE
  exact pm_vret hG hF dX7_payMen_68 rfl (Nat.le_refl _) (Nat.le_refl _) (fx_rvc hE)

set_option maxRecDepth 100000 in
set_option maxHeartbeats 4000000 in
theorem c_X7_missOnce {d : Nat} {B cnt : Nat} {kp : Value} {ρ : pm_S} {S : FS} {za : Int32} {R : Int32 × FS} (hdd : 2 ≤ d) (hE : f_X7_missOnce S za = some R) : pm_met mX7_missOnce d 0 0 B [.ref (B + 1), .int za] cnt (cst B kp S ρ) (pm_Qv (fun σ' cnt' => σ' = (cst B kp R.2 ρ) ∧ cnt' = cnt)) := by
  refine pm_enter 0 (by decide) (Nat.le_of_ble_eq_true rfl) rfl (fun G hG hR hF => ?_)
  unfold f_X7_missOnce at hE
  refine pm_aloadn hG dX7_missOnce_0 rfl ?_
  refine pm_getf hG dX7_missOnce_1 (flX7_38 _ rfl) rfl rfl ?_
  refine pm_iloadn hG dX7_missOnce_4 rfl ?_
  refine pm_iconst (v := 4) hG dX7_missOnce_5 (by decide) ?_
  refine pm_iconst (v := 1) hG dX7_missOnce_6 (by decide) ?_
  refine pm_callV (As := [.int za, .int 4, .int 1]) (rest := []) hG hR dX7_missOnce_7 (lkX7_125 _ rfl) okV_X9_add rfl rfl (tadd_16 (d := 1) (by decide)) rfl rfl hdd (Nat.le_refl _) (Nat.le_refl _) (by decide) (fx_kv ?_)
  refine fx_letc hE (fun S1 hE => ?_)
  refine pm_aloadn hG dX7_missOnce_10 rfl ?_
  refine pm_getf hG dX7_missOnce_11 (flX7_38 _ rfl) rfl rfl ?_
  refine pm_iloadn hG dX7_missOnce_14 rfl ?_
  refine pm_iconst (v := 4) hG dX7_missOnce_15 (by decide) ?_
  refine pm_callV (As := [.int za, .int 4]) (rest := []) hG hR dX7_missOnce_16 (lkX7_83 _ rfl) okV_X9_get rfl rfl (tget_16 (d := 1)) rfl rfl hdd (Nat.le_refl _) (Nat.le_refl _) (by decide) (fx_ki ?_)
  refine pm_iconst (v := 2) hG dX7_missOnce_19 (by decide) ?_
  refine pm_icmp_lt (tgt := 41) hG dX7_missOnce_20 rfl (fun c2 => ?_) (fun c2 => ?_)
  · replace hE := fx_t c2 hE
    exact pm_vret hG hF dX7_missOnce_41 rfl (Nat.le_refl _) (Nat.le_refl _) (fx_rvc hE)
  · replace hE := fx_f c2 hE
    refine pm_aloadn hG dX7_missOnce_23 rfl ?_
    refine pm_getf hG dX7_missOnce_24 (flX7_14 _ rfl) rfl rfl ?_
    refine pm_aloadn hG dX7_missOnce_27 rfl ?_
    refine pm_getf hG dX7_missOnce_28 (flX7_38 _ rfl) rfl rfl ?_
    refine pm_iloadn hG dX7_missOnce_31 rfl ?_
    refine pm_iconst (v := 3) hG dX7_missOnce_32 (by decide) ?_
    refine pm_callV (As := [.int za, .int 3]) (rest := [.ref (B + 2)]) hG hR dX7_missOnce_33 (lkX7_83 _ rfl) okV_X9_get rfl rfl (tget_16 (d := 1)) rfl rfl hdd (Nat.le_refl _) (Nat.le_refl _) (by first | decide | exact Nat.le_of_ble_eq_true rfl) (fx_ki ?_)
    refine pm_iconst (v := 2) hG dX7_missOnce_36 (by decide) ?_
    refine pm_iconst (v := 1) hG dX7_missOnce_37 (by decide) ?_
    refine pm_callV (As := [.int (fG 16 6 5 S1 za 3), .int 2, .int 1]) (rest := []) hG hR dX7_missOnce_38 (lkX7_61 _ rfl) okV_X9_set rfl rfl (tset_2 (d := 1)) rfl rfl hdd (Nat.le_refl _) (Nat.le_refl _) (by decide) (fx_kv ?_)
    refine fx_letc hE (fun S3 hE => ?_)
    exact pm_vret hG hF dX7_missOnce_41 rfl (Nat.le_refl _) (Nat.le_refl _) (fx_rvc hE)

set_option maxRecDepth 100000 in
set_option maxHeartbeats 4000000 in
theorem c_X7_serveDebts {d : Nat} {B cnt : Nat} {kp : Value} {ρ : pm_S} {S : FS} {R : Int32 × FS} (hdd : 3 ≤ d) (hE : f_X7_serveDebts S = some R) : pm_met mX7_serveDebts d 0 0 B [.ref (B + 1)] cnt (cst B kp S ρ) (pm_Qv (fun σ' cnt' => σ' = (cst B kp R.2 ρ) ∧ cnt' = cnt)) := by
  refine pm_enter 5 (by decide) (Nat.le_of_ble_eq_true rfl) rfl (fun G hG hR hF => ?_)
  unfold f_X7_serveDebts at hE
  refine pm_aloadn hG dX7_serveDebts_0 rfl ?_
  refine pm_getf hG dX7_serveDebts_1 (flX7_38 _ rfl) rfl rfl ?_
  refine pm_callV (As := []) (rest := []) hG hR dX7_serveDebts_4 (lkX7_79 _ rfl) okV_X9_used rfl rfl (tused_16 (d := 2)) rfl rfl hdd (Nat.le_refl _) (Nat.le_refl _) (by decide) (fx_ki ?_)
  refine fx_letv hE (fun x1 hE => ?_)
  refine pm_istoreXn (loc' := [some (.ref (B + 1)), some (.int x1), none, none, none, none]) hG dX7_serveDebts_7 (by decide) (pm_c1b rfl) rfl ?_
  refine pm_iconst (v := 0) hG dX7_serveDebts_8 (by decide) ?_
  refine pm_istoreXn (loc' := [some (.ref (B + 1)), some (.int x1), some (.int 0), none, none, none]) hG dX7_serveDebts_9 (by decide) (pm_c1b rfl) rfl ?_
  have loop10 : ∀ (k10 : FS → Int32 → Option (Int32 × FS)), (∀ (S2 : FS) (x2_2 : Int32), k10 S2  x2_2 = some R → pm_wp mX7_serveDebts G B 123 [some (.ref (B + 1)), some (.int x1), some (.int x2_2), none, none, none] [] 0 0 cnt (cst B kp S2 ρ)) → ∀ (m10 : Nat) (S2 : FS) (x2_2 : Int32), l_X7_serveDebts_10 x1 k10 m10 S2  x2_2 = some R → pm_wp mX7_serveDebts G B 10 [some (.ref (B + 1)), some (.int x1), some (.int x2_2), none, none, none] [] 0 0 cnt (cst B kp S2 ρ) := by
    intro k10 hk10 m10
    induction m10 with
    | zero => intro S2  x2_2 hE; exact fx_no hE
    | succ m10 ih10 =>
      intro S2  x2_2 hE
      rw [l_X7_serveDebts_10] at hE
      refine pm_iloadn hG dX7_serveDebts_10 rfl ?_
      refine pm_iloadn hG dX7_serveDebts_11 rfl ?_
      refine pm_icmp_ge (tgt := 123) hG dX7_serveDebts_12 rfl (fun c3 => ?_) (fun c3 => ?_)
      · replace c3 := Int32.not_lt.mpr c3
        replace hE := fx_f c3 hE
        exact hk10 _ _ hE
      · replace c3 := Int32.not_le.mp c3
        replace hE := fx_t c3 hE
        refine pm_aloadn hG dX7_serveDebts_15 rfl ?_
        refine pm_getf hG dX7_serveDebts_16 (flX7_38 _ rfl) rfl rfl ?_
        refine pm_iloadn hG dX7_serveDebts_19 rfl ?_
        refine pm_iconst (v := 0) hG dX7_serveDebts_20 (by decide) ?_
        refine pm_callV (As := [.int x2_2, .int 0]) (rest := []) hG hR dX7_serveDebts_21 (lkX7_83 _ rfl) okV_X9_get rfl rfl (tget_16 (d := 2)) rfl rfl hdd (Nat.le_refl _) (Nat.le_refl _) (by decide) (fx_ki ?_)
        refine fx_letv hE (fun x4 hE => ?_)
        refine pm_istoreXn (loc' := [some (.ref (B + 1)), some (.int x1), some (.int x2_2), some (.int x4), none, none]) hG dX7_serveDebts_24 (by decide) (pm_c1b rfl) rfl ?_
        refine pm_ldc hG dX7_serveDebts_25 (ctX7_156 _ rfl) ?_
        refine pm_iloadn hG dX7_serveDebts_27 rfl ?_
        refine pm_iloadn hG dX7_serveDebts_28 rfl ?_
        refine pm_aloadn hG dX7_serveDebts_29 rfl ?_
        refine pm_getf hG dX7_serveDebts_30 (flX7_38 _ rfl) rfl rfl ?_
        refine pm_iloadn hG dX7_serveDebts_33 rfl ?_
        refine pm_iconst (v := 1) hG dX7_serveDebts_34 (by decide) ?_
        refine pm_callV (As := [.int x2_2, .int 1]) (rest := [.int x4, .int x4, .int 999999]) hG hR dX7_serveDebts_35 (lkX7_83 _ rfl) okV_X9_get rfl rfl (tget_16 (d := 2)) rfl rfl hdd (Nat.le_refl _) (Nat.le_refl _) (by first | decide | exact Nat.le_of_ble_eq_true rfl) (fx_ki ?_)
        refine pm_imul hG dX7_serveDebts_38 ?_
        refine pm_bipush (v := 100) hG dX7_serveDebts_39 (by decide) ?_
        refine pm_idiv hG dX7_serveDebts_41 (by decide) ?_
        refine pm_iadd hG dX7_serveDebts_42 ?_
        refine pm_mmin hG hR dX7_serveDebts_43 (mmX7_87 _ rfl) pm_mwmin (by omega) (by first | decide | exact Nat.le_of_ble_eq_true rfl) (Nat.le_refl _) (Nat.le_refl _) ?_
        refine pm_top (v := imin 999999 (x4 + ((x4 * (fG 16 6 5 S2 x2_2 1)) / 100))) rfl ?_
        refine fx_letv hE (fun x5 hE => ?_)
        refine pm_istoreXi (loc' := [some (.ref (B + 1)), some (.int x1), some (.int x2_2), some (.int x4), some (.int x5), none]) hG dX7_serveDebts_46 (by decide) (pm_c1b rfl) rfl ?_
        refine pm_iloadi hG dX7_serveDebts_48 rfl ?_
        refine pm_aloadn hG dX7_serveDebts_50 rfl ?_
        refine pm_getf hG dX7_serveDebts_51 (flX7_38 _ rfl) rfl rfl ?_
        refine pm_iloadn hG dX7_serveDebts_54 rfl ?_
        refine pm_iconst (v := 2) hG dX7_serveDebts_55 (by decide) ?_
        refine pm_callV (As := [.int x2_2, .int 2]) (rest := [.int x5]) hG hR dX7_serveDebts_56 (lkX7_83 _ rfl) okV_X9_get rfl rfl (tget_16 (d := 2)) rfl rfl hdd (Nat.le_refl _) (Nat.le_refl _) (by first | decide | exact Nat.le_of_ble_eq_true rfl) (fx_ki ?_)
        refine pm_mmin hG hR dX7_serveDebts_59 (mmX7_87 _ rfl) pm_mwmin (by omega) (by first | decide | exact Nat.le_of_ble_eq_true rfl) (Nat.le_refl _) (Nat.le_refl _) ?_
        refine pm_top (v := imin x5 (fG 16 6 5 S2 x2_2 2)) rfl ?_
        refine fx_letv hE (fun x6 hE => ?_)
        refine pm_istoreXi (loc' := [some (.ref (B + 1)), some (.int x1), some (.int x2_2), some (.int x4), some (.int x5), some (.int x6)]) hG dX7_serveDebts_62 (by decide) (pm_c1b rfl) rfl ?_
        refine pm_aloadn hG dX7_serveDebts_64 rfl ?_
        refine pm_getf hG dX7_serveDebts_65 (flX7_53 _ rfl) rfl rfl ?_
        refine pm_iloadi hG dX7_serveDebts_68 rfl ?_
        refine pm_icmp_lt (tgt := 101) hG dX7_serveDebts_70 rfl (fun c7 => ?_) (fun c7 => ?_)
        · replace hE := fx_t c7 hE
          refine pm_aloadn hG dX7_serveDebts_101 rfl ?_
          refine pm_getf hG dX7_serveDebts_102 (flX7_38 _ rfl) rfl rfl ?_
          refine pm_iloadn hG dX7_serveDebts_105 rfl ?_
          refine pm_iconst (v := 0) hG dX7_serveDebts_106 (by decide) ?_
          refine pm_iloadi hG dX7_serveDebts_107 rfl ?_
          refine pm_callV (As := [.int x2_2, .int 0, .int x5]) (rest := []) hG hR dX7_serveDebts_109 (lkX7_61 _ rfl) okV_X9_set rfl rfl (tset_16 (d := 2)) rfl rfl hdd (Nat.le_refl _) (Nat.le_refl _) (by decide) (fx_kv ?_)
          refine fx_letc hE (fun S8 hE => ?_)
          refine pm_aloadn hG dX7_serveDebts_112 rfl ?_
          refine pm_iloadn hG dX7_serveDebts_113 rfl ?_
          obtain ⟨r10, h9, hE⟩ := fb_some hE
          refine pm_callV (As := [.int x2_2]) (rest := []) hG hR dX7_serveDebts_114 (lkX7_157 _ rfl) okV_X7_missOnce rfl rfl (c_X7_missOnce (d := 2) (by decide) h9) rfl rfl hdd (Nat.le_refl _) (Nat.le_refl _) (by decide) (fx_kv ?_)
          refine pm_iincX (v := x2_2 + 1) (loc' := [some (.ref (B + 1)), some (.int x1), some (.int (x2_2 + 1)), some (.int x4), some (.int x5), some (.int x6)]) hG dX7_serveDebts_117 rfl (by rfl) (by decide) (pm_c1b rfl) rfl ?_
          refine pm_goto (tgt := 10) hG dX7_serveDebts_120 rfl ?_
          refine pm_fg 3 (loc' := [some (.ref (B + 1)), some (.int x1), some (.int (x2_2 + 1)), none, some (.int x5), some (.int x6)]) rfl ?_
          refine pm_fg 4 (loc' := [some (.ref (B + 1)), some (.int x1), some (.int (x2_2 + 1)), none, none, some (.int x6)]) rfl ?_
          refine pm_fg 5 (loc' := [some (.ref (B + 1)), some (.int x1), some (.int (x2_2 + 1)), none, none, none]) rfl ?_
          exact ih10 _ _ hE
        · replace hE := fx_f c7 hE
          refine pm_aloadn hG dX7_serveDebts_73 rfl ?_
          refine pm_dup hG dX7_serveDebts_74 rfl ?_
          refine pm_getf hG dX7_serveDebts_75 (flX7_53 _ rfl) rfl rfl ?_
          refine pm_iloadi hG dX7_serveDebts_78 rfl ?_
          refine pm_isub hG dX7_serveDebts_80 ?_
          refine pm_putf hG dX7_serveDebts_81 (fwX7_53 _ rfl) rfl rfl rfl ?_
          refine ci_103 ?_
          refine fx_letc hE (fun S11 hE => ?_)
          refine pm_aloadn hG dX7_serveDebts_84 rfl ?_
          refine pm_getf hG dX7_serveDebts_85 (flX7_38 _ rfl) rfl rfl ?_
          refine pm_iloadn hG dX7_serveDebts_88 rfl ?_
          refine pm_iconst (v := 0) hG dX7_serveDebts_89 (by decide) ?_
          refine pm_iloadi hG dX7_serveDebts_90 rfl ?_
          refine pm_iloadi hG dX7_serveDebts_92 rfl ?_
          refine pm_isub hG dX7_serveDebts_94 ?_
          refine pm_callV (As := [.int x2_2, .int 0, .int (x5 - x6)]) (rest := []) hG hR dX7_serveDebts_95 (lkX7_61 _ rfl) okV_X9_set rfl rfl (tset_16 (d := 2)) rfl rfl hdd (Nat.le_refl _) (Nat.le_refl _) (by decide) (fx_kv ?_)
          refine fx_letc hE (fun S12 hE => ?_)
          refine pm_goto (tgt := 117) hG dX7_serveDebts_98 rfl ?_
          refine pm_iincX (v := x2_2 + 1) (loc' := [some (.ref (B + 1)), some (.int x1), some (.int (x2_2 + 1)), some (.int x4), some (.int x5), some (.int x6)]) hG dX7_serveDebts_117 rfl (by rfl) (by decide) (pm_c1b rfl) rfl ?_
          refine pm_goto (tgt := 10) hG dX7_serveDebts_120 rfl ?_
          refine pm_fg 3 (loc' := [some (.ref (B + 1)), some (.int x1), some (.int (x2_2 + 1)), none, some (.int x5), some (.int x6)]) rfl ?_
          refine pm_fg 4 (loc' := [some (.ref (B + 1)), some (.int x1), some (.int (x2_2 + 1)), none, none, some (.int x6)]) rfl ?_
          refine pm_fg 5 (loc' := [some (.ref (B + 1)), some (.int x1), some (.int (x2_2 + 1)), none, none, none]) rfl ?_
          exact ih10 _ _ hE
  refine loop10 _ (fun S13 x13_2 hE => ?_) _ _ _ hE
  exact pm_vret hG hF dX7_serveDebts_123 rfl (Nat.le_refl _) (Nat.le_refl _) (fx_rvc hE)

set_option maxRecDepth 100000 in
set_option maxHeartbeats 4000000 in
theorem c_X7_endDay {d : Nat} {B cnt : Nat} {kp : Value} {ρ : pm_S} {S : FS} {R : Int32 × FS} (hdd : 4 ≤ d) (hE : f_X7_endDay S = some R) : pm_met mX7_endDay d 0 0 B [.ref (B + 1)] cnt (cst B kp S ρ) (pm_Qv (fun σ' cnt' => σ' = (cst B kp R.2 ρ) ∧ cnt' = cnt)) := by
  refine pm_enter 0 (by decide) (Nat.le_of_ble_eq_true rfl) rfl (fun G hG hR hF => ?_)
  unfold f_X7_endDay at hE
  refine pm_aloadn hG dX7_endDay_0 rfl ?_
  refine pm_dup hG dX7_endDay_1 rfl ?_
  refine pm_getf hG dX7_endDay_2 (flX7_72 _ rfl) rfl rfl ?_
  refine pm_iconst (v := 1) hG dX7_endDay_5 (by decide) ?_
  refine pm_iadd hG dX7_endDay_6 ?_
  refine pm_putf hG dX7_endDay_7 (fwX7_72 _ rfl) rfl rfl rfl ?_
  refine ci_102 ?_
  refine fx_letc hE (fun S1 hE => ?_)
  refine pm_aloadn hG dX7_endDay_10 rfl ?_
  obtain ⟨r3, h2, hE⟩ := fb_some hE
  refine pm_callV (As := []) (rest := []) hG hR dX7_endDay_11 (lkX7_141 _ rfl) okV_X7_bringTravellers rfl rfl (c_X7_bringTravellers (d := 3) (by decide) h2) rfl rfl hdd (Nat.le_refl _) (Nat.le_refl _) (by decide) (fx_kv ?_)
  refine pm_aloadn hG dX7_endDay_14 rfl ?_
  obtain ⟨r5, h4, hE⟩ := fb_some hE
  refine pm_callV (As := []) (rest := []) hG hR dX7_endDay_15 (lkX7_144 _ rfl) okV_X7_takeBackLent rfl rfl (c_X7_takeBackLent (d := 3) (by decide) h4) rfl rfl hdd (Nat.le_refl _) (Nat.le_refl _) (by decide) (fx_kv ?_)
  refine pm_aloadn hG dX7_endDay_18 rfl ?_
  refine pm_getf hG dX7_endDay_19 (flX7_72 _ rfl) rfl rfl ?_
  refine pm_bipush (v := 90) hG dX7_endDay_22 (by decide) ?_
  refine pm_irem hG dX7_endDay_24 (by decide) ?_
  refine pm_if_ne (tgt := 40) hG dX7_endDay_25 rfl (fun c6 => ?_) (fun c6 => ?_)
  · replace hE := fx_f c6 hE
    exact pm_vret hG hF dX7_endDay_40 rfl (Nat.le_refl _) (Nat.le_refl _) (fx_rvc hE)
  · replace hE := fx_t c6 hE
    refine pm_aloadn hG dX7_endDay_28 rfl ?_
    obtain ⟨r8, h7, hE⟩ := fb_some hE
    refine pm_callV (As := []) (rest := []) hG hR dX7_endDay_29 (lkX7_147 _ rfl) okV_X7_collectRents rfl rfl (c_X7_collectRents (d := 3) (by decide) h7) rfl rfl hdd (Nat.le_refl _) (Nat.le_refl _) (by decide) (fx_kv ?_)
    refine pm_aloadn hG dX7_endDay_32 rfl ?_
    obtain ⟨r10, h9, hE⟩ := fb_some hE
    refine pm_callV (As := []) (rest := []) hG hR dX7_endDay_33 (lkX7_150 _ rfl) okV_X7_payMen rfl rfl (c_X7_payMen (d := 3) (by decide) h9) rfl rfl hdd (Nat.le_refl _) (Nat.le_refl _) (by decide) (fx_kv ?_)
    refine pm_aloadn hG dX7_endDay_36 rfl ?_
    obtain ⟨r12, h11, hE⟩ := fb_some hE
    refine pm_callV (As := []) (rest := []) hG hR dX7_endDay_37 (lkX7_153 _ rfl) okV_X7_serveDebts rfl rfl (c_X7_serveDebts (d := 3) (by decide) h11) rfl rfl hdd (Nat.le_refl _) (Nat.le_refl _) (by decide) (fx_kv ?_)
    exact pm_vret hG hF dX7_endDay_40 rfl (Nat.le_refl _) (Nat.le_refl _) (fx_rvc hE)

set_option maxRecDepth 100000 in
set_option maxHeartbeats 4000000 in
theorem c_X11_days {d : Nat} {B cnt : Nat} {kp : Value} {ρ : pm_S} {S : FS} {za : Int32} {R : Int32 × FS} (hdd : 5 ≤ d) (hE : f_X11_days S za = some R) : pm_met mX11_days d 0 0 B [.ref (B + 0), .int za] cnt (cst B kp S ρ) (pm_Qi (fun v σ' cnt' => v = R.1 ∧ σ' = (cst B kp R.2 ρ) ∧ cnt' = cnt)) := by
  refine pm_enter 1 (by decide) (Nat.le_of_ble_eq_true rfl) rfl (fun G hG hR hF => ?_)
  unfold f_X11_days at hE
  refine pm_iloadn hG dX11_days_0 rfl ?_
  refine pm_iconst (v := 1) hG dX11_days_1 (by decide) ?_
  refine pm_sipush (v := 400) hG dX11_days_2 (by decide) ?_
  refine pm_callS (As := [.int za, .int 1, .int 400]) (rest := []) hG hR dX11_days_5 (lkX11_105 _ rfl) okS_X11_isOutside (tOut (d := 4)) rfl rfl hdd (Nat.le_refl _) (Nat.le_refl _) (by decide) (fx_ki ?_)
  refine pm_if_ne (tgt := 26) hG dX11_days_8 rfl (fun c1 => ?_) (fun c1 => ?_)
  · replace hE := fx_f c1 hE
    refine pm_aloadn hG dX11_days_26 rfl ?_
    refine pm_ldc hG dX11_days_27 (ctX11_109 _ rfl) ?_
    obtain ⟨r3, h2, hE⟩ := fb_some hE
    refine pm_callV (As := [.int (-1000001)]) (rest := []) hG hR dX11_days_29 (lkX11_97 _ rfl) okV_X11_told rfl rfl (c_X11_told (d := 4) (by decide) h2) rfl rfl hdd (Nat.le_refl _) (Nat.le_refl _) (by decide) (fx_ki ?_)
    exact pm_iret hG hF dX11_days_32 rfl (Nat.le_refl _) (Nat.le_refl _) (fx_ric hE)
  · replace hE := fx_t c1 hE
    refine pm_aloadn hG dX11_days_11 rfl ?_
    refine pm_getf hG dX11_days_12 (flX11_12 _ rfl) rfl rfl ?_
    refine pm_getf hG dX11_days_15 (flX11_122 _ rfl) rfl rfl ?_
    refine pm_iloadn hG dX11_days_18 rfl ?_
    refine pm_iadd hG dX11_days_19 ?_
    refine pm_sipush (v := 2000) hG dX11_days_20 (by decide) ?_
    refine pm_icmp_le (tgt := 33) hG dX11_days_23 rfl (fun c4 => ?_) (fun c4 => ?_)
    · replace c4 := Int32.not_lt.mpr c4
      replace hE := fx_f c4 hE
      refine pm_iconst (v := 0) hG dX11_days_33 (by decide) ?_
      refine pm_istoreXn (loc' := [some (.ref (B + 0)), some (.int za), some (.int 0)]) hG dX11_days_34 (by decide) (pm_c1b rfl) rfl ?_
      have loop35 : ∀ (k35 : FS → Int32 → Option (Int32 × FS)), (∀ (S5 : FS) (x5_2 : Int32), k35 S5  x5_2 = some R → pm_wp mX11_days G B 53 [some (.ref (B + 0)), some (.int za), some (.int x5_2)] [] 0 0 cnt (cst B kp S5 ρ)) → ∀ (m35 : Nat) (S5 : FS) (x5_2 : Int32), l_X11_days_35 za k35 m35 S5  x5_2 = some R → pm_wp mX11_days G B 35 [some (.ref (B + 0)), some (.int za), some (.int x5_2)] [] 0 0 cnt (cst B kp S5 ρ) := by
        intro k35 hk35 m35
        induction m35 with
        | zero => intro S5  x5_2 hE; exact fx_no hE
        | succ m35 ih35 =>
          intro S5  x5_2 hE
          rw [l_X11_days_35] at hE
          refine pm_iloadn hG dX11_days_35 rfl ?_
          refine pm_iloadn hG dX11_days_36 rfl ?_
          refine pm_icmp_ge (tgt := 53) hG dX11_days_37 rfl (fun c6 => ?_) (fun c6 => ?_)
          · replace c6 := Int32.not_lt.mpr c6
            replace hE := fx_f c6 hE
            exact hk35 _ _ hE
          · replace c6 := Int32.not_le.mp c6
            replace hE := fx_t c6 hE
            refine pm_aloadn hG dX11_days_40 rfl ?_
            refine pm_getf hG dX11_days_41 (flX11_12 _ rfl) rfl rfl ?_
            obtain ⟨r8, h7, hE⟩ := fb_some hE
            refine pm_callV (As := []) (rest := []) hG hR dX11_days_44 (lkX11_245 _ rfl) okV_X7_endDay rfl rfl (c_X7_endDay (d := 4) (by decide) h7) rfl rfl hdd (Nat.le_refl _) (Nat.le_refl _) (by decide) (fx_kv ?_)
            refine pm_iincX (v := x5_2 + 1) (loc' := [some (.ref (B + 0)), some (.int za), some (.int (x5_2 + 1))]) hG dX11_days_47 rfl (by rfl) (by decide) (pm_c1b rfl) rfl ?_
            refine pm_goto (tgt := 35) hG dX11_days_50 rfl ?_
            exact ih35 _ _ hE
      refine loop35 _ (fun S9 x9_2 hE => ?_) _ _ _ hE
      refine pm_aloadn hG dX11_days_53 rfl ?_
      refine pm_getf hG dX11_days_54 (flX11_12 _ rfl) rfl rfl ?_
      refine pm_getf hG dX11_days_57 (flX11_122 _ rfl) rfl rfl ?_
      exact pm_iret hG hF dX11_days_60 rfl (Nat.le_refl _) (Nat.le_refl _) (fx_ric hE)
    · replace c4 := Int32.not_le.mp c4
      replace hE := fx_t c4 hE
      refine pm_aloadn hG dX11_days_26 rfl ?_
      refine pm_ldc hG dX11_days_27 (ctX11_109 _ rfl) ?_
      obtain ⟨r11, h10, hE⟩ := fb_some hE
      refine pm_callV (As := [.int (-1000001)]) (rest := []) hG hR dX11_days_29 (lkX11_97 _ rfl) okV_X11_told rfl rfl (c_X11_told (d := 4) (by decide) h10) rfl rfl hdd (Nat.le_refl _) (Nat.le_refl _) (by decide) (fx_ki ?_)
      exact pm_iret hG hF dX11_days_32 rfl (Nat.le_refl _) (Nat.le_refl _) (fx_ric hE)

set_option maxRecDepth 100000 in
set_option maxHeartbeats 4000000 in
theorem c_X7_addDebt {d : Nat} {B cnt : Nat} {kp : Value} {ρ : pm_S} {S : FS} {za : Int32} {zb : Int32} {zc : Int32} {zd : Int32} {R : Int32 × FS} (hdd : 2 ≤ d) (hE : f_X7_addDebt S za zb zc zd = some R) : pm_met mX7_addDebt d 0 0 B [.ref (B + 1), .int za, .int zb, .int zc, .int zd] cnt (cst B kp S ρ) (pm_Qi (fun v σ' cnt' => v = R.1 ∧ σ' = (cst B kp R.2 ρ) ∧ cnt' = cnt)) := by
  refine pm_enter 1 (by decide) (Nat.le_of_ble_eq_true rfl) rfl (fun G hG hR hF => ?_)
  unfold f_X7_addDebt at hE
  refine pm_aloadn hG dX7_addDebt_0 rfl ?_
  refine pm_getf hG dX7_addDebt_1 (flX7_38 _ rfl) rfl rfl ?_
  refine pm_iloadn hG dX7_addDebt_4 rfl ?_
  obtain ⟨r2, h1, hE⟩ := fb_some hE
  refine pm_callV (As := [.int za]) (rest := []) hG hR dX7_addDebt_5 (lkX7_75 _ rfl) okV_X9_append rfl rfl (tappend_16 (d := 1) (by decide) h1) rfl rfl hdd (Nat.le_refl _) (Nat.le_refl _) (by decide) (fx_ki ?_)
  refine pm_istoreXi (loc' := [some (.ref (B + 1)), some (.int za), some (.int zb), some (.int zc), some (.int zd), some (.int r2.1)]) hG dX7_addDebt_8 (by decide) (pm_c1b rfl) rfl ?_
  refine pm_aloadn hG dX7_addDebt_10 rfl ?_
  refine pm_getf hG dX7_addDebt_11 (flX7_38 _ rfl) rfl rfl ?_
  refine pm_iloadi hG dX7_addDebt_14 rfl ?_
  refine pm_iconst (v := 1) hG dX7_addDebt_16 (by decide) ?_
  refine pm_iloadn hG dX7_addDebt_17 rfl ?_
  refine pm_callV (As := [.int r2.1, .int 1, .int zb]) (rest := []) hG hR dX7_addDebt_18 (lkX7_61 _ rfl) okV_X9_set rfl rfl (tset_16 (d := 1)) rfl rfl hdd (Nat.le_refl _) (Nat.le_refl _) (by decide) (fx_kv ?_)
  refine fx_letc hE (fun S3 hE => ?_)
  refine pm_aloadn hG dX7_addDebt_21 rfl ?_
  refine pm_getf hG dX7_addDebt_22 (flX7_38 _ rfl) rfl rfl ?_
  refine pm_iloadi hG dX7_addDebt_25 rfl ?_
  refine pm_iconst (v := 2) hG dX7_addDebt_27 (by decide) ?_
  refine pm_iloadn hG dX7_addDebt_28 rfl ?_
  refine pm_callV (As := [.int r2.1, .int 2, .int zc]) (rest := []) hG hR dX7_addDebt_29 (lkX7_61 _ rfl) okV_X9_set rfl rfl (tset_16 (d := 1)) rfl rfl hdd (Nat.le_refl _) (Nat.le_refl _) (by decide) (fx_kv ?_)
  refine fx_letc hE (fun S4 hE => ?_)
  refine pm_aloadn hG dX7_addDebt_32 rfl ?_
  refine pm_getf hG dX7_addDebt_33 (flX7_38 _ rfl) rfl rfl ?_
  refine pm_iloadi hG dX7_addDebt_36 rfl ?_
  refine pm_iconst (v := 3) hG dX7_addDebt_38 (by decide) ?_
  refine pm_iloadi hG dX7_addDebt_39 rfl ?_
  refine pm_callV (As := [.int r2.1, .int 3, .int zd]) (rest := []) hG hR dX7_addDebt_41 (lkX7_61 _ rfl) okV_X9_set rfl rfl (tset_16 (d := 1)) rfl rfl hdd (Nat.le_refl _) (Nat.le_refl _) (by decide) (fx_kv ?_)
  refine fx_letc hE (fun S5 hE => ?_)
  refine pm_aloadn hG dX7_addDebt_44 rfl ?_
  refine pm_dup hG dX7_addDebt_45 rfl ?_
  refine pm_getf hG dX7_addDebt_46 (flX7_53 _ rfl) rfl rfl ?_
  refine pm_iloadn hG dX7_addDebt_49 rfl ?_
  refine pm_iadd hG dX7_addDebt_50 ?_
  refine pm_putf hG dX7_addDebt_51 (fwX7_53 _ rfl) rfl rfl rfl ?_
  refine ci_103 ?_
  refine fx_letc hE (fun S6 hE => ?_)
  refine pm_iloadi hG dX7_addDebt_54 rfl ?_
  exact pm_iret hG hF dX7_addDebt_56 rfl (Nat.le_refl _) (Nat.le_refl _) (fx_ric hE)

set_option maxRecDepth 100000 in
set_option maxHeartbeats 4000000 in
theorem c_X11_debt {d : Nat} {B cnt : Nat} {kp : Value} {ρ : pm_S} {S : FS} {za : Int32} {zb : Int32} {zc : Int32} {R : Int32 × FS} (hdd : 3 ≤ d) (hE : f_X11_debt S za zb zc = some R) : pm_met mX11_debt d 0 0 B [.ref (B + 0), .int za, .int zb, .int zc] cnt (cst B kp S ρ) (pm_Qi (fun v σ' cnt' => v = R.1 ∧ σ' = (cst B kp R.2 ρ) ∧ cnt' = cnt)) := by
  refine pm_enter 2 (by decide) (Nat.le_of_ble_eq_true rfl) rfl (fun G hG hR hF => ?_)
  unfold f_X11_debt at hE
  refine pm_iloadn hG dX11_debt_0 rfl ?_
  refine pm_sipush (v := 10000) hG dX11_debt_1 (by decide) ?_
  refine pm_idiv hG dX11_debt_4 (by decide) ?_
  refine fx_letv hE (fun x1 hE => ?_)
  refine pm_istoreXi (loc' := [some (.ref (B + 0)), some (.int za), some (.int zb), some (.int zc), some (.int x1), none]) hG dX11_debt_5 (by decide) (pm_c1b rfl) rfl ?_
  refine pm_iloadn hG dX11_debt_7 rfl ?_
  refine pm_sipush (v := 10000) hG dX11_debt_8 (by decide) ?_
  refine pm_irem hG dX11_debt_11 (by decide) ?_
  refine fx_letv hE (fun x2 hE => ?_)
  refine pm_istoreXi (loc' := [some (.ref (B + 0)), some (.int za), some (.int zb), some (.int zc), some (.int x1), some (.int x2)]) hG dX11_debt_12 (by decide) (pm_c1b rfl) rfl ?_
  refine pm_iloadn hG dX11_debt_14 rfl ?_
  refine pm_iconst (v := 0) hG dX11_debt_15 (by decide) ?_
  refine pm_ldcw hG dX11_debt_16 (ctX11_270 _ rfl) ?_
  refine pm_callS (As := [.int za, .int 0, .int 99999]) (rest := []) hG hR dX11_debt_19 (lkX11_105 _ rfl) okS_X11_isOutside (tOut (d := 2)) rfl rfl hdd (Nat.le_refl _) (Nat.le_refl _) (by decide) (fx_ki ?_)
  refine pm_if_ne (tgt := 56) hG dX11_debt_22 rfl (fun c3 => ?_) (fun c3 => ?_)
  · replace hE := fx_f c3 hE
    refine pm_aloadn hG dX11_debt_56 rfl ?_
    refine pm_ldc hG dX11_debt_57 (ctX11_109 _ rfl) ?_
    obtain ⟨r5, h4, hE⟩ := fb_some hE
    refine pm_callV (As := [.int (-1000001)]) (rest := []) hG hR dX11_debt_59 (lkX11_97 _ rfl) okV_X11_told rfl rfl (c_X11_told (d := 2) (by decide) h4) rfl rfl hdd (Nat.le_refl _) (Nat.le_refl _) (by decide) (fx_ki ?_)
    exact pm_iret hG hF dX11_debt_62 rfl (Nat.le_refl _) (Nat.le_refl _) (fx_ric hE)
  · replace hE := fx_t c3 hE
    refine pm_iloadi hG dX11_debt_25 rfl ?_
    refine pm_iconst (v := 0) hG dX11_debt_27 (by decide) ?_
    refine pm_bipush (v := 99) hG dX11_debt_28 (by decide) ?_
    refine pm_callS (As := [.int x1, .int 0, .int 99]) (rest := []) hG hR dX11_debt_30 (lkX11_105 _ rfl) okS_X11_isOutside (tOut (d := 2)) rfl rfl hdd (Nat.le_refl _) (Nat.le_refl _) (by decide) (fx_ki ?_)
    refine pm_if_ne (tgt := 56) hG dX11_debt_33 rfl (fun c6 => ?_) (fun c6 => ?_)
    · replace hE := fx_f c6 hE
      refine pm_aloadn hG dX11_debt_56 rfl ?_
      refine pm_ldc hG dX11_debt_57 (ctX11_109 _ rfl) ?_
      obtain ⟨r8, h7, hE⟩ := fb_some hE
      refine pm_callV (As := [.int (-1000001)]) (rest := []) hG hR dX11_debt_59 (lkX11_97 _ rfl) okV_X11_told rfl rfl (c_X11_told (d := 2) (by decide) h7) rfl rfl hdd (Nat.le_refl _) (Nat.le_refl _) (by decide) (fx_ki ?_)
      exact pm_iret hG hF dX11_debt_62 rfl (Nat.le_refl _) (Nat.le_refl _) (fx_ric hE)
    · replace hE := fx_t c6 hE
      refine pm_iloadi hG dX11_debt_36 rfl ?_
      refine pm_iconst (v := 1) hG dX11_debt_38 (by decide) ?_
      refine pm_icmp_lt (tgt := 56) hG dX11_debt_39 rfl (fun c9 => ?_) (fun c9 => ?_)
      · replace hE := fx_t c9 hE
        refine pm_aloadn hG dX11_debt_56 rfl ?_
        refine pm_ldc hG dX11_debt_57 (ctX11_109 _ rfl) ?_
        obtain ⟨r11, h10, hE⟩ := fb_some hE
        refine pm_callV (As := [.int (-1000001)]) (rest := []) hG hR dX11_debt_59 (lkX11_97 _ rfl) okV_X11_told rfl rfl (c_X11_told (d := 2) (by decide) h10) rfl rfl hdd (Nat.le_refl _) (Nat.le_refl _) (by decide) (fx_ki ?_)
        exact pm_iret hG hF dX11_debt_62 rfl (Nat.le_refl _) (Nat.le_refl _) (fx_ric hE)
      · replace hE := fx_f c9 hE
        refine pm_aloadn hG dX11_debt_42 rfl ?_
        refine pm_getf hG dX11_debt_43 (flX11_12 _ rfl) rfl rfl ?_
        refine pm_getf hG dX11_debt_46 (flX11_82 _ rfl) rfl rfl ?_
        refine pm_iloadn hG dX11_debt_49 rfl ?_
        refine pm_callV (As := [.int zc]) (rest := []) hG hR dX11_debt_50 (lkX11_101 _ rfl) okV_X9_has rfl rfl (thas_2 (d := 2)) rfl rfl hdd (Nat.le_refl _) (Nat.le_refl _) (by decide) (fx_ki ?_)
        refine pm_if_ne (tgt := 63) hG dX11_debt_53 rfl (fun c12 => ?_) (fun c12 => ?_)
        · replace hE := fx_f c12 hE
          refine pm_aloadn hG dX11_debt_63 rfl ?_
          refine pm_aloadn hG dX11_debt_64 rfl ?_
          refine pm_getf hG dX11_debt_65 (flX11_12 _ rfl) rfl rfl ?_
          refine pm_getf hG dX11_debt_68 (flX11_271 _ rfl) rfl rfl ?_
          refine pm_callV (As := []) (rest := [.ref (B + 0)]) hG hR dX11_debt_71 (lkX11_86 _ rfl) okV_X9_isFull rfl rfl (tisFull_16 (d := 2)) rfl rfl hdd (Nat.le_refl _) (Nat.le_refl _) (by first | decide | exact Nat.le_of_ble_eq_true rfl) (fx_ki ?_)
          refine pm_if_eq (tgt := 82) hG dX11_debt_74 rfl (fun c13 => ?_) (fun c13 => ?_)
          · replace hE := fx_t c13 hE
            refine pm_aloadn hG dX11_debt_82 rfl ?_
            refine pm_getf hG dX11_debt_83 (flX11_12 _ rfl) rfl rfl ?_
            refine pm_iloadn hG dX11_debt_86 rfl ?_
            refine pm_iloadi hG dX11_debt_87 rfl ?_
            refine pm_iloadi hG dX11_debt_89 rfl ?_
            refine pm_iloadn hG dX11_debt_91 rfl ?_
            obtain ⟨r15, h14, hE⟩ := fb_some hE
            refine pm_callV (As := [.int za, .int x1, .int x2, .int zc]) (rest := [.ref (B + 0)]) hG hR dX11_debt_92 (lkX11_274 _ rfl) okV_X7_addDebt rfl rfl (c_X7_addDebt (d := 2) (by decide) h14) rfl rfl hdd (Nat.le_refl _) (Nat.le_refl _) (by first | decide | exact Nat.le_of_ble_eq_true rfl) (fx_ki ?_)
            obtain ⟨r17, h16, hE⟩ := fb_some hE
            refine pm_callV (As := [.int r15.1]) (rest := []) hG hR dX11_debt_95 (lkX11_97 _ rfl) okV_X11_told rfl rfl (c_X11_told (d := 2) (by decide) h16) rfl rfl hdd (Nat.le_refl _) (Nat.le_refl _) (by decide) (fx_ki ?_)
            exact pm_iret hG hF dX11_debt_98 rfl (Nat.le_refl _) (Nat.le_refl _) (fx_ric hE)
          · replace hE := fx_f c13 hE
            refine pm_ldc hG dX11_debt_77 (ctX11_92 _ rfl) ?_
            refine pm_goto (tgt := 95) hG dX11_debt_79 rfl ?_
            obtain ⟨r19, h18, hE⟩ := fb_some hE
            refine pm_callV (As := [.int (-1000004)]) (rest := []) hG hR dX11_debt_95 (lkX11_97 _ rfl) okV_X11_told rfl rfl (c_X11_told (d := 2) (by decide) h18) rfl rfl hdd (Nat.le_refl _) (Nat.le_refl _) (by decide) (fx_ki ?_)
            exact pm_iret hG hF dX11_debt_98 rfl (Nat.le_refl _) (Nat.le_refl _) (fx_ric hE)
        · replace hE := fx_t c12 hE
          refine pm_aloadn hG dX11_debt_56 rfl ?_
          refine pm_ldc hG dX11_debt_57 (ctX11_109 _ rfl) ?_
          obtain ⟨r21, h20, hE⟩ := fb_some hE
          refine pm_callV (As := [.int (-1000001)]) (rest := []) hG hR dX11_debt_59 (lkX11_97 _ rfl) okV_X11_told rfl rfl (c_X11_told (d := 2) (by decide) h20) rfl rfl hdd (Nat.le_refl _) (Nat.le_refl _) (by decide) (fx_ki ?_)
          exact pm_iret hG hF dX11_debt_62 rfl (Nat.le_refl _) (Nat.le_refl _) (fx_ric hE)

set_option maxRecDepth 100000 in
set_option maxHeartbeats 4000000 in
theorem c_X7_handOver {d : Nat} {B cnt : Nat} {kp : Value} {ρ : pm_S} {S : FS} {za : Int32} {zb : Int32} {R : Int32 × FS} (hdd : 2 ≤ d) (hE : f_X7_handOver S za zb = some R) : pm_met mX7_handOver d 0 0 B [.ref (B + 1), .int za, .int zb] cnt (cst B kp S ρ) (pm_Qi (fun v σ' cnt' => v = R.1 ∧ σ' = (cst B kp R.2 ρ) ∧ cnt' = cnt)) := by
  refine pm_enter 0 (by decide) (Nat.le_of_ble_eq_true rfl) rfl (fun G hG hR hF => ?_)
  unfold f_X7_handOver at hE
  refine pm_aloadn hG dX7_handOver_0 rfl ?_
  refine pm_iloadn hG dX7_handOver_1 rfl ?_
  refine pm_iconst (v := (-1)) hG dX7_handOver_2 (by decide) ?_
  refine pm_iconst (v := (-1)) hG dX7_handOver_3 (by decide) ?_
  obtain ⟨r2, h1, hE⟩ := fb_some hE
  refine pm_callV (As := [.int za, .int (-1), .int (-1)]) (rest := []) hG hR dX7_handOver_4 (lkX7_122 _ rfl) okV_X7_setLent rfl rfl (c_X7_setLent (d := 1) (by decide) h1) rfl rfl hdd (Nat.le_refl _) (Nat.le_refl _) (by decide) (fx_kv ?_)
  refine pm_aloadn hG dX7_handOver_7 rfl ?_
  refine pm_getf hG dX7_handOver_8 (flX7_26 _ rfl) rfl rfl ?_
  refine pm_iloadn hG dX7_handOver_11 rfl ?_
  refine pm_iconst (v := 2) hG dX7_handOver_12 (by decide) ?_
  refine pm_iloadn hG dX7_handOver_13 rfl ?_
  refine pm_callV (As := [.int za, .int 2, .int zb]) (rest := []) hG hR dX7_handOver_14 (lkX7_115 _ rfl) okV_X9_swap rfl rfl (tswap_8 (d := 1) (by decide)) rfl rfl hdd (Nat.le_refl _) (Nat.le_refl _) (by decide) (fx_ki ?_)
  refine fx_letc hE (fun S3 hE => ?_)
  exact pm_iret hG hF dX7_handOver_17 rfl (Nat.le_refl _) (Nat.le_refl _) (fx_ric hE)

set_option maxRecDepth 100000 in
set_option maxHeartbeats 4000000 in
theorem c_X7_bury {d : Nat} {B cnt : Nat} {kp : Value} {ρ : pm_S} {S : FS} {za : Int32} {R : Int32 × FS} (hdd : 3 ≤ d) (hE : f_X7_bury S za = some R) : pm_met mX7_bury d 0 0 B [.ref (B + 1), .int za] cnt (cst B kp S ρ) (pm_Qi (fun v σ' cnt' => v = R.1 ∧ σ' = (cst B kp R.2 ρ) ∧ cnt' = cnt)) := by
  refine pm_enter 3 (by decide) (Nat.le_of_ble_eq_true rfl) rfl (fun G hG hR hF => ?_)
  unfold f_X7_bury at hE
  refine pm_aloadn hG dX7_bury_0 rfl ?_
  refine pm_getf hG dX7_bury_1 (flX7_23 _ rfl) rfl rfl ?_
  refine pm_iloadn hG dX7_bury_4 rfl ?_
  refine pm_bipush (v := 7) hG dX7_bury_5 (by decide) ?_
  refine pm_iconst (v := 0) hG dX7_bury_7 (by decide) ?_
  refine pm_callV (As := [.int za, .int 7, .int 0]) (rest := []) hG hR dX7_bury_8 (lkX7_115 _ rfl) okV_X9_swap rfl rfl (tswap_6 (d := 2) (by decide)) rfl rfl hdd (Nat.le_refl _) (Nat.le_refl _) (by decide) (fx_ki ?_)
  refine fx_letc hE (fun S1 hE => ?_)
  refine fx_letv hE (fun x2 hE => ?_)
  refine pm_istoreXn (loc' := [some (.ref (B + 1)), some (.int za), some (.int x2), none, none]) hG dX7_bury_11 (by decide) (pm_c1b rfl) rfl ?_
  refine pm_aloadn hG dX7_bury_12 rfl ?_
  refine pm_dup hG dX7_bury_13 rfl ?_
  refine pm_getf hG dX7_bury_14 (flX7_53 _ rfl) rfl rfl ?_
  refine pm_iloadn hG dX7_bury_17 rfl ?_
  refine pm_iadd hG dX7_bury_18 ?_
  refine pm_putf hG dX7_bury_19 (fwX7_53 _ rfl) rfl rfl rfl ?_
  refine ci_103 ?_
  refine fx_letc hE (fun S3 hE => ?_)
  refine pm_aloadn hG dX7_bury_22 rfl ?_
  refine pm_getf hG dX7_bury_23 (flX7_23 _ rfl) rfl rfl ?_
  refine pm_iloadn hG dX7_bury_26 rfl ?_
  refine pm_bipush (v := 8) hG dX7_bury_27 (by decide) ?_
  refine pm_iconst (v := 0) hG dX7_bury_29 (by decide) ?_
  refine pm_callV (As := [.int za, .int 8, .int 0]) (rest := []) hG hR dX7_bury_30 (lkX7_61 _ rfl) okV_X9_set rfl rfl (tset_6 (d := 2)) rfl rfl hdd (Nat.le_refl _) (Nat.le_refl _) (by decide) (fx_kv ?_)
  refine fx_letc hE (fun S4 hE => ?_)
  refine pm_aloadn hG dX7_bury_33 rfl ?_
  refine pm_getf hG dX7_bury_34 (flX7_23 _ rfl) rfl rfl ?_
  refine pm_iloadn hG dX7_bury_37 rfl ?_
  refine pm_bipush (v := 10) hG dX7_bury_38 (by decide) ?_
  refine pm_aloadn hG dX7_bury_40 rfl ?_
  refine pm_iloadn hG dX7_bury_41 rfl ?_
  refine pm_callV (As := [.int za]) (rest := [.int 10, .int za, .ref (B + 6)]) hG hR dX7_bury_42 (lkX7_112 _ rfl) okV_X7_knownTo rfl rfl (c_X7_knownTo (d := 2) (by decide) rfl) rfl rfl hdd (Nat.le_refl _) (Nat.le_refl _) (by first | decide | exact Nat.le_of_ble_eq_true rfl) (fx_ki ?_)
  refine pm_callV (As := [.int za, .int 10, .int (p_X7_knownTo S4 za)]) (rest := []) hG hR dX7_bury_45 (lkX7_61 _ rfl) okV_X9_set rfl rfl (tset_6 (d := 2)) rfl rfl hdd (Nat.le_refl _) (Nat.le_refl _) (by decide) (fx_kv ?_)
  refine fx_letc hE (fun S5 hE => ?_)
  refine pm_aloadn hG dX7_bury_48 rfl ?_
  refine pm_getf hG dX7_bury_49 (flX7_23 _ rfl) rfl rfl ?_
  refine pm_iloadn hG dX7_bury_52 rfl ?_
  refine pm_bipush (v := 9) hG dX7_bury_53 (by decide) ?_
  refine pm_iconst (v := 1) hG dX7_bury_55 (by decide) ?_
  refine pm_callV (As := [.int za, .int 9, .int 1]) (rest := []) hG hR dX7_bury_56 (lkX7_61 _ rfl) okV_X9_set rfl rfl (tset_6 (d := 2)) rfl rfl hdd (Nat.le_refl _) (Nat.le_refl _) (by decide) (fx_kv ?_)
  refine fx_letc hE (fun S6 hE => ?_)
  refine pm_aloadn hG dX7_bury_59 rfl ?_
  refine pm_getf hG dX7_bury_60 (flX7_26 _ rfl) rfl rfl ?_
  refine pm_callV (As := []) (rest := []) hG hR dX7_bury_63 (lkX7_79 _ rfl) okV_X9_used rfl rfl (tused_8 (d := 2)) rfl rfl hdd (Nat.le_refl _) (Nat.le_refl _) (by decide) (fx_ki ?_)
  refine fx_letv hE (fun x7 hE => ?_)
  refine pm_istoreXn (loc' := [some (.ref (B + 1)), some (.int za), some (.int x2), some (.int x7), none]) hG dX7_bury_66 (by decide) (pm_c1b rfl) rfl ?_
  refine pm_iconst (v := 0) hG dX7_bury_67 (by decide) ?_
  refine pm_istoreXi (loc' := [some (.ref (B + 1)), some (.int za), some (.int x2), some (.int x7), some (.int 0)]) hG dX7_bury_68 (by decide) (pm_c1b rfl) rfl ?_
  have loop70 : ∀ (k70 : FS → Int32 → Option (Int32 × FS)), (∀ (S8 : FS) (x8_4 : Int32), k70 S8  x8_4 = some R → pm_wp mX7_bury G B 129 [some (.ref (B + 1)), some (.int za), some (.int x2), some (.int x7), some (.int x8_4)] [] 0 0 cnt (cst B kp S8 ρ)) → ∀ (m70 : Nat) (S8 : FS) (x8_4 : Int32), l_X7_bury_70 za x7 k70 m70 S8  x8_4 = some R → pm_wp mX7_bury G B 70 [some (.ref (B + 1)), some (.int za), some (.int x2), some (.int x7), some (.int x8_4)] [] 0 0 cnt (cst B kp S8 ρ) := by
    intro k70 hk70 m70
    induction m70 with
    | zero => intro S8  x8_4 hE; exact fx_no hE
    | succ m70 ih70 =>
      intro S8  x8_4 hE
      rw [l_X7_bury_70] at hE
      refine pm_iloadi hG dX7_bury_70 rfl ?_
      refine pm_iloadn hG dX7_bury_72 rfl ?_
      refine pm_icmp_ge (tgt := 129) hG dX7_bury_73 rfl (fun c9 => ?_) (fun c9 => ?_)
      · replace c9 := Int32.not_lt.mpr c9
        replace hE := fx_f c9 hE
        exact hk70 _ _ hE
      · replace c9 := Int32.not_le.mp c9
        replace hE := fx_t c9 hE
        refine pm_aloadn hG dX7_bury_76 rfl ?_
        refine pm_getf hG dX7_bury_77 (flX7_26 _ rfl) rfl rfl ?_
        refine pm_iloadi hG dX7_bury_80 rfl ?_
        refine pm_iconst (v := 2) hG dX7_bury_82 (by decide) ?_
        refine pm_callV (As := [.int x8_4, .int 2]) (rest := []) hG hR dX7_bury_83 (lkX7_83 _ rfl) okV_X9_get rfl rfl (tget_8 (d := 2)) rfl rfl hdd (Nat.le_refl _) (Nat.le_refl _) (by decide) (fx_ki ?_)
        refine pm_iloadn hG dX7_bury_86 rfl ?_
        refine pm_icmp_ne (tgt := 101) hG dX7_bury_87 rfl (fun c10 => ?_) (fun c10 => ?_)
        · replace hE := fx_f c10 hE
          refine pm_aloadn hG dX7_bury_101 rfl ?_
          refine pm_getf hG dX7_bury_102 (flX7_26 _ rfl) rfl rfl ?_
          refine pm_iloadi hG dX7_bury_105 rfl ?_
          refine pm_iconst (v := 3) hG dX7_bury_107 (by decide) ?_
          refine pm_callV (As := [.int x8_4, .int 3]) (rest := []) hG hR dX7_bury_108 (lkX7_83 _ rfl) okV_X9_get rfl rfl (tget_8 (d := 2)) rfl rfl hdd (Nat.le_refl _) (Nat.le_refl _) (by decide) (fx_ki ?_)
          refine pm_iloadn hG dX7_bury_111 rfl ?_
          refine pm_icmp_ne (tgt := 123) hG dX7_bury_112 rfl (fun c11 => ?_) (fun c11 => ?_)
          · replace hE := fx_f c11 hE
            refine pm_iincX (v := x8_4 + 1) (loc' := [some (.ref (B + 1)), some (.int za), some (.int x2), some (.int x7), some (.int (x8_4 + 1))]) hG dX7_bury_123 rfl (by rfl) (by decide) (pm_c1b rfl) rfl ?_
            refine pm_goto (tgt := 70) hG dX7_bury_126 rfl ?_
            exact ih70 _ _ hE
          · replace hE := fx_t c11 hE
            refine pm_aloadn hG dX7_bury_115 rfl ?_
            refine pm_iloadi hG dX7_bury_116 rfl ?_
            refine pm_iconst (v := (-1)) hG dX7_bury_118 (by decide) ?_
            refine pm_iconst (v := (-1)) hG dX7_bury_119 (by decide) ?_
            obtain ⟨r13, h12, hE⟩ := fb_some hE
            refine pm_callV (As := [.int x8_4, .int (-1), .int (-1)]) (rest := []) hG hR dX7_bury_120 (lkX7_122 _ rfl) okV_X7_setLent rfl rfl (c_X7_setLent (d := 2) (by decide) h12) rfl rfl hdd (Nat.le_refl _) (Nat.le_refl _) (by decide) (fx_kv ?_)
            refine pm_iincX (v := x8_4 + 1) (loc' := [some (.ref (B + 1)), some (.int za), some (.int x2), some (.int x7), some (.int (x8_4 + 1))]) hG dX7_bury_123 rfl (by rfl) (by decide) (pm_c1b rfl) rfl ?_
            refine pm_goto (tgt := 70) hG dX7_bury_126 rfl ?_
            exact ih70 _ _ hE
        · replace hE := fx_t c10 hE
          refine pm_aloadn hG dX7_bury_90 rfl ?_
          refine pm_iloadi hG dX7_bury_91 rfl ?_
          refine pm_iconst (v := (-1)) hG dX7_bury_93 (by decide) ?_
          obtain ⟨r15, h14, hE⟩ := fb_some hE
          refine pm_callV (As := [.int x8_4, .int (-1)]) (rest := []) hG hR dX7_bury_94 (lkX7_119 _ rfl) okV_X7_handOver rfl rfl (c_X7_handOver (d := 2) (by decide) h14) rfl rfl hdd (Nat.le_refl _) (Nat.le_refl _) (by decide) (fx_ki ?_)
          refine pm_pop hG dX7_bury_97 rfl ?_
          refine pm_goto (tgt := 123) hG dX7_bury_98 rfl ?_
          refine pm_iincX (v := x8_4 + 1) (loc' := [some (.ref (B + 1)), some (.int za), some (.int x2), some (.int x7), some (.int (x8_4 + 1))]) hG dX7_bury_123 rfl (by rfl) (by decide) (pm_c1b rfl) rfl ?_
          refine pm_goto (tgt := 70) hG dX7_bury_126 rfl ?_
          exact ih70 _ _ hE
  refine loop70 _ (fun S16 x16_4 hE => ?_) _ _ _ hE
  refine pm_iloadn hG dX7_bury_129 rfl ?_
  exact pm_iret hG hF dX7_bury_130 rfl (Nat.le_refl _) (Nat.le_refl _) (fx_ric hE)

set_option maxRecDepth 100000 in
set_option maxHeartbeats 4000000 in
theorem c_X11_die {d : Nat} {B cnt : Nat} {kp : Value} {ρ : pm_S} {S : FS} {za : Int32} {R : Int32 × FS} (hdd : 4 ≤ d) (hE : f_X11_die S za = some R) : pm_met mX11_die d 0 0 B [.ref (B + 0), .int za] cnt (cst B kp S ρ) (pm_Qi (fun v σ' cnt' => v = R.1 ∧ σ' = (cst B kp R.2 ρ) ∧ cnt' = cnt)) := by
  refine pm_enter 0 (by decide) (Nat.le_of_ble_eq_true rfl) rfl (fun G hG hR hF => ?_)
  unfold f_X11_die at hE
  refine pm_aloadn hG dX11_die_0 rfl ?_
  refine pm_getf hG dX11_die_1 (flX11_12 _ rfl) rfl rfl ?_
  refine pm_getf hG dX11_die_4 (flX11_128 _ rfl) rfl rfl ?_
  refine pm_iloadn hG dX11_die_7 rfl ?_
  refine pm_callV (As := [.int za]) (rest := []) hG hR dX11_die_8 (lkX11_101 _ rfl) okV_X9_has rfl rfl (thas_6 (d := 3)) rfl rfl hdd (Nat.le_refl _) (Nat.le_refl _) (by decide) (fx_ki ?_)
  refine pm_if_ne (tgt := 21) hG dX11_die_11 rfl (fun c1 => ?_) (fun c1 => ?_)
  · replace hE := fx_f c1 hE
    refine pm_aloadn hG dX11_die_21 rfl ?_
    refine pm_getf hG dX11_die_22 (flX11_12 _ rfl) rfl rfl ?_
    refine pm_iloadn hG dX11_die_25 rfl ?_
    refine pm_callV (As := [.int za]) (rest := []) hG hR dX11_die_26 (lkX11_135 _ rfl) okV_X7_isLiving rfl rfl (c_X7_isLiving (d := 3) (by decide) rfl) rfl rfl hdd (Nat.le_refl _) (Nat.le_refl _) (by decide) (fx_ki ?_)
    refine pm_if_ne (tgt := 39) hG dX11_die_29 rfl (fun c2 => ?_) (fun c2 => ?_)
    · replace hE := fx_f c2 hE
      refine pm_aloadn hG dX11_die_39 rfl ?_
      refine pm_getf hG dX11_die_40 (flX11_30 _ rfl) rfl rfl ?_
      refine pm_iloadn hG dX11_die_43 rfl ?_
      obtain ⟨r4, h3, hE⟩ := fb_some hE
      refine pm_callV (As := [.int za]) (rest := []) hG hR dX11_die_44 (lkX11_139 _ rfl) okV_X0_unseat rfl rfl (c_X0_unseat (d := 3) (by decide) h3) rfl rfl hdd (Nat.le_refl _) (Nat.le_refl _) (by decide) (fx_kv ?_)
      refine pm_aloadn hG dX11_die_47 rfl ?_
      refine pm_aloadn hG dX11_die_48 rfl ?_
      refine pm_getf hG dX11_die_49 (flX11_12 _ rfl) rfl rfl ?_
      refine pm_iloadn hG dX11_die_52 rfl ?_
      obtain ⟨r6, h5, hE⟩ := fb_some hE
      refine pm_callV (As := [.int za]) (rest := [.ref (B + 0)]) hG hR dX11_die_53 (lkX11_143 _ rfl) okV_X7_bury rfl rfl (c_X7_bury (d := 3) (by decide) h5) rfl rfl hdd (Nat.le_refl _) (Nat.le_refl _) (by first | decide | exact Nat.le_of_ble_eq_true rfl) (fx_ki ?_)
      obtain ⟨r8, h7, hE⟩ := fb_some hE
      refine pm_callV (As := [.int r6.1]) (rest := []) hG hR dX11_die_56 (lkX11_97 _ rfl) okV_X11_told rfl rfl (c_X11_told (d := 3) (by decide) h7) rfl rfl hdd (Nat.le_refl _) (Nat.le_refl _) (by decide) (fx_ki ?_)
      exact pm_iret hG hF dX11_die_59 rfl (Nat.le_refl _) (Nat.le_refl _) (fx_ric hE)
    · replace hE := fx_t c2 hE
      refine pm_aloadn hG dX11_die_32 rfl ?_
      refine pm_ldc hG dX11_die_33 (ctX11_138 _ rfl) ?_
      obtain ⟨r10, h9, hE⟩ := fb_some hE
      refine pm_callV (As := [.int (-1000003)]) (rest := []) hG hR dX11_die_35 (lkX11_97 _ rfl) okV_X11_told rfl rfl (c_X11_told (d := 3) (by decide) h9) rfl rfl hdd (Nat.le_refl _) (Nat.le_refl _) (by decide) (fx_ki ?_)
      exact pm_iret hG hF dX11_die_38 rfl (Nat.le_refl _) (Nat.le_refl _) (fx_ric hE)
  · replace hE := fx_t c1 hE
    refine pm_aloadn hG dX11_die_14 rfl ?_
    refine pm_ldc hG dX11_die_15 (ctX11_109 _ rfl) ?_
    obtain ⟨r12, h11, hE⟩ := fb_some hE
    refine pm_callV (As := [.int (-1000001)]) (rest := []) hG hR dX11_die_17 (lkX11_97 _ rfl) okV_X11_told rfl rfl (c_X11_told (d := 3) (by decide) h11) rfl rfl hdd (Nat.le_refl _) (Nat.le_refl _) (by decide) (fx_ki ?_)
    exact pm_iret hG hF dX11_die_20 rfl (Nat.le_refl _) (Nat.le_refl _) (fx_ric hE)

set_option maxRecDepth 100000 in
set_option maxHeartbeats 4000000 in
theorem c_X7_isInTown {d : Nat} {B cnt : Nat} {kp : Value} {ρ : pm_S} {S : FS} {za : Int32} {R : Int32} (hdd : 2 ≤ d) (hE : p_X7_isInTown S za = R) : pm_met mX7_isInTown d 0 0 B [.ref (B + 1), .int za] cnt (cst B kp S ρ) (pm_Qi (fun v σ' cnt' => v = R ∧ σ' = (cst B kp S ρ) ∧ cnt' = cnt)) := by
  refine pm_enter 0 (by decide) (Nat.le_of_ble_eq_true rfl) rfl (fun G hG hR hF => ?_)
  unfold p_X7_isInTown at hE
  refine pm_aloadn hG dX7_isInTown_0 rfl ?_
  refine pm_iloadn hG dX7_isInTown_1 rfl ?_
  refine pm_callV (As := [.int za]) (rest := []) hG hR dX7_isInTown_2 (lkX7_103 _ rfl) okV_X7_isLiving rfl rfl (c_X7_isLiving (d := 1) (by decide) rfl) rfl rfl hdd (Nat.le_refl _) (Nat.le_refl _) (by decide) (fx_ki ?_)
  refine pm_if_eq (tgt := 24) hG dX7_isInTown_5 rfl (fun c1 => ?_) (fun c1 => ?_)
  · replace hE := fx_t c1 hE
    refine pm_iconst (v := 0) hG dX7_isInTown_24 (by decide) ?_
    exact pm_zret hG hF dX7_isInTown_25 rfl (by rfl) (Nat.le_refl _) (Nat.le_refl _) (fx_pi hE)
  · replace hE := fx_f c1 hE
    refine pm_aloadn hG dX7_isInTown_8 rfl ?_
    refine pm_getf hG dX7_isInTown_9 (flX7_23 _ rfl) rfl rfl ?_
    refine pm_iloadn hG dX7_isInTown_12 rfl ?_
    refine pm_iconst (v := 4) hG dX7_isInTown_13 (by decide) ?_
    refine pm_callV (As := [.int za, .int 4]) (rest := []) hG hR dX7_isInTown_14 (lkX7_83 _ rfl) okV_X9_get rfl rfl (tget_6 (d := 1)) rfl rfl hdd (Nat.le_refl _) (Nat.le_refl _) (by decide) (fx_ki ?_)
    refine pm_if_lt (tgt := 24) hG dX7_isInTown_17 rfl (fun c2 => ?_) (fun c2 => ?_)
    · replace hE := fx_t c2 hE
      refine pm_iconst (v := 0) hG dX7_isInTown_24 (by decide) ?_
      exact pm_zret hG hF dX7_isInTown_25 rfl (by rfl) (Nat.le_refl _) (Nat.le_refl _) (fx_pi hE)
    · replace hE := fx_f c2 hE
      refine pm_iconst (v := 1) hG dX7_isInTown_20 (by decide) ?_
      refine pm_goto (tgt := 25) hG dX7_isInTown_21 rfl ?_
      exact pm_zret hG hF dX7_isInTown_25 rfl (by rfl) (Nat.le_refl _) (Nat.le_refl _) (fx_pi hE)

set_option maxRecDepth 100000 in
set_option maxHeartbeats 4000000 in
theorem c_X7_livingIn {d : Nat} {B cnt : Nat} {kp : Value} {ρ : pm_S} {S : FS} {za : Int32} {R : Int32} (hdd : 2 ≤ d) (hE : q_X7_livingIn S za = some R) : pm_met mX7_livingIn d 0 0 B [.ref (B + 1), .int za] cnt (cst B kp S ρ) (pm_Qi (fun v σ' cnt' => v = R ∧ σ' = (cst B kp S ρ) ∧ cnt' = cnt)) := by
  refine pm_enter 3 (by decide) (Nat.le_of_ble_eq_true rfl) rfl (fun G hG hR hF => ?_)
  unfold q_X7_livingIn at hE
  refine pm_iconst (v := 0) hG dX7_livingIn_0 (by decide) ?_
  refine pm_istoreXn (loc' := [some (.ref (B + 1)), some (.int za), some (.int 0), none, none]) hG dX7_livingIn_1 (by decide) (pm_c1b rfl) rfl ?_
  refine pm_aloadn hG dX7_livingIn_2 rfl ?_
  refine pm_getf hG dX7_livingIn_3 (flX7_23 _ rfl) rfl rfl ?_
  refine pm_callV (As := []) (rest := []) hG hR dX7_livingIn_6 (lkX7_79 _ rfl) okV_X9_used rfl rfl (tused_6 (d := 1)) rfl rfl hdd (Nat.le_refl _) (Nat.le_refl _) (by decide) (fx_ki ?_)
  refine fx_letv hE (fun x1 hE => ?_)
  refine pm_istoreXn (loc' := [some (.ref (B + 1)), some (.int za), some (.int 0), some (.int x1), none]) hG dX7_livingIn_9 (by decide) (pm_c1b rfl) rfl ?_
  refine pm_iconst (v := 0) hG dX7_livingIn_10 (by decide) ?_
  refine pm_istoreXi (loc' := [some (.ref (B + 1)), some (.int za), some (.int 0), some (.int x1), some (.int 0)]) hG dX7_livingIn_11 (by decide) (pm_c1b rfl) rfl ?_
  have loop13 : ∀ (k13 : Int32 → Int32 → Option Int32), (∀  (x2_2 : Int32) (x2_4 : Int32), k13  x2_2 x2_4 = some R → pm_wp mX7_livingIn G B 55 [some (.ref (B + 1)), some (.int za), some (.int x2_2), some (.int x1), some (.int x2_4)] [] 0 0 cnt (cst B kp S ρ)) → ∀ (m13 : Nat)  (x2_2 : Int32) (x2_4 : Int32), l_X7_livingIn_13 za S x1 k13 m13  x2_2 x2_4 = some R → pm_wp mX7_livingIn G B 13 [some (.ref (B + 1)), some (.int za), some (.int x2_2), some (.int x1), some (.int x2_4)] [] 0 0 cnt (cst B kp S ρ) := by
    intro k13 hk13 m13
    induction m13 with
    | zero => intro  x2_2 x2_4 hE; exact fx_no hE
    | succ m13 ih13 =>
      intro  x2_2 x2_4 hE
      rw [l_X7_livingIn_13] at hE
      refine pm_iloadi hG dX7_livingIn_13 rfl ?_
      refine pm_iloadn hG dX7_livingIn_15 rfl ?_
      refine pm_icmp_ge (tgt := 55) hG dX7_livingIn_16 rfl (fun c3 => ?_) (fun c3 => ?_)
      · replace c3 := Int32.not_lt.mpr c3
        replace hE := fx_f c3 hE
        exact hk13 _ _ hE
      · replace c3 := Int32.not_le.mp c3
        replace hE := fx_t c3 hE
        refine pm_aloadn hG dX7_livingIn_19 rfl ?_
        refine pm_iloadi hG dX7_livingIn_20 rfl ?_
        refine pm_callV (As := [.int x2_4]) (rest := []) hG hR dX7_livingIn_22 (lkX7_103 _ rfl) okV_X7_isLiving rfl rfl (c_X7_isLiving (d := 1) (by decide) rfl) rfl rfl hdd (Nat.le_refl _) (Nat.le_refl _) (by decide) (fx_ki ?_)
        refine pm_if_eq (tgt := 49) hG dX7_livingIn_25 rfl (fun c4 => ?_) (fun c4 => ?_)
        · replace hE := fx_t c4 hE
          refine pm_iincX (v := x2_4 + 1) (loc' := [some (.ref (B + 1)), some (.int za), some (.int x2_2), some (.int x1), some (.int (x2_4 + 1))]) hG dX7_livingIn_49 rfl (by rfl) (by decide) (pm_c1b rfl) rfl ?_
          refine pm_goto (tgt := 13) hG dX7_livingIn_52 rfl ?_
          exact ih13 _ _ hE
        · replace hE := fx_f c4 hE
          refine pm_aloadn hG dX7_livingIn_28 rfl ?_
          refine pm_getf hG dX7_livingIn_29 (flX7_23 _ rfl) rfl rfl ?_
          refine pm_iloadi hG dX7_livingIn_32 rfl ?_
          refine pm_iconst (v := 4) hG dX7_livingIn_34 (by decide) ?_
          refine pm_callV (As := [.int x2_4, .int 4]) (rest := []) hG hR dX7_livingIn_35 (lkX7_83 _ rfl) okV_X9_get rfl rfl (tget_6 (d := 1)) rfl rfl hdd (Nat.le_refl _) (Nat.le_refl _) (by decide) (fx_ki ?_)
          refine pm_iloadn hG dX7_livingIn_38 rfl ?_
          refine pm_icmp_ne (tgt := 49) hG dX7_livingIn_39 rfl (fun c5 => ?_) (fun c5 => ?_)
          · replace hE := fx_f c5 hE
            refine pm_iincX (v := x2_4 + 1) (loc' := [some (.ref (B + 1)), some (.int za), some (.int x2_2), some (.int x1), some (.int (x2_4 + 1))]) hG dX7_livingIn_49 rfl (by rfl) (by decide) (pm_c1b rfl) rfl ?_
            refine pm_goto (tgt := 13) hG dX7_livingIn_52 rfl ?_
            exact ih13 _ _ hE
          · replace hE := fx_t c5 hE
            refine pm_iloadn hG dX7_livingIn_42 rfl ?_
            refine pm_iconst (v := 1) hG dX7_livingIn_43 (by decide) ?_
            refine pm_iloadi hG dX7_livingIn_44 rfl ?_
            refine pm_ishl hG dX7_livingIn_46 ?_
            refine pm_ior hG dX7_livingIn_47 ?_
            refine fx_letv hE (fun x6 hE => ?_)
            refine pm_istoreXn (loc' := [some (.ref (B + 1)), some (.int za), some (.int x6), some (.int x1), some (.int x2_4)]) hG dX7_livingIn_48 (by decide) (pm_c1b rfl) rfl ?_
            refine pm_iincX (v := x2_4 + 1) (loc' := [some (.ref (B + 1)), some (.int za), some (.int x6), some (.int x1), some (.int (x2_4 + 1))]) hG dX7_livingIn_49 rfl (by rfl) (by decide) (pm_c1b rfl) rfl ?_
            refine pm_goto (tgt := 13) hG dX7_livingIn_52 rfl ?_
            exact ih13 _ _ hE
  refine loop13 _ (fun  x7_2 x7_4 hE => ?_) _ _ _ hE
  refine pm_iloadn hG dX7_livingIn_55 rfl ?_
  exact pm_iret hG hF dX7_livingIn_56 rfl (Nat.le_refl _) (Nat.le_refl _) (fx_pi (Option.some.inj hE))
end
section
set_option maxRecDepth 100000 in
set_option maxHeartbeats 4000000 in
theorem c_X3_write {d : Nat} {B cnt : Nat} {kp : Value} {ρ : pm_S} {S : FS} {za : Int32} {zb : Int32} {zc : Int32} {R : Int32 × FS} (hdd : 3 ≤ d) (hE : f_X3_write S za zb zc = some R) : pm_met mX3_write d 0 0 B [.ref (B + 36), .int za, .int zb, .int zc] cnt (cst B kp S ρ) (pm_Qi (fun v σ' cnt' => v = R.1 ∧ σ' = (cst B kp R.2 ρ) ∧ cnt' = cnt)) := by
  refine pm_enter 2 (by decide) (Nat.le_of_ble_eq_true rfl) rfl (fun G hG hR hF => ?_)
  unfold f_X3_write at hE
  refine pm_aloadn hG dX3_write_0 rfl ?_
  refine pm_getf hG dX3_write_1 (flX3_9 _ rfl) rfl rfl ?_
  refine pm_getf hG dX3_write_4 (flX3_32 _ rfl) rfl rfl ?_
  refine pm_iloadn hG dX3_write_7 rfl ?_
  refine pm_iconst (v := 4) hG dX3_write_8 (by decide) ?_
  refine pm_callV (As := [.int za, .int 4]) (rest := []) hG hR dX3_write_9 (lkX3_35 _ rfl) okV_X9_get rfl rfl (tget_6 (d := 2)) rfl rfl hdd (Nat.le_refl _) (Nat.le_refl _) (by decide) (fx_ki ?_)
  refine fx_letv hE (fun x1 hE => ?_)
  refine pm_istoreXi (loc' := [some (.ref (B + 36)), some (.int za), some (.int zb), some (.int zc), some (.int x1), none]) hG dX3_write_12 (by decide) (pm_c1b rfl) rfl ?_
  refine pm_aloadn hG dX3_write_14 rfl ?_
  refine pm_getf hG dX3_write_15 (flX3_29 _ rfl) rfl rfl ?_
  refine pm_iloadn hG dX3_write_18 rfl ?_
  obtain ⟨r3, h2, hE⟩ := fb_some hE
  refine pm_callV (As := [.int za]) (rest := []) hG hR dX3_write_19 (lkX3_41 _ rfl) okV_X9_append rfl rfl (tappend_14 (d := 2) (by decide) h2) rfl rfl hdd (Nat.le_refl _) (Nat.le_refl _) (by decide) (fx_ki ?_)
  refine pm_istoreXi (loc' := [some (.ref (B + 36)), some (.int za), some (.int zb), some (.int zc), some (.int x1), some (.int r3.1)]) hG dX3_write_22 (by decide) (pm_c1b rfl) rfl ?_
  refine pm_aloadn hG dX3_write_24 rfl ?_
  refine pm_getf hG dX3_write_25 (flX3_29 _ rfl) rfl rfl ?_
  refine pm_iloadi hG dX3_write_28 rfl ?_
  refine pm_iconst (v := 1) hG dX3_write_30 (by decide) ?_
  refine pm_iloadn hG dX3_write_31 rfl ?_
  refine pm_callV (As := [.int r3.1, .int 1, .int zb]) (rest := []) hG hR dX3_write_32 (lkX3_45 _ rfl) okV_X9_set rfl rfl (tset_14 (d := 2)) rfl rfl hdd (Nat.le_refl _) (Nat.le_refl _) (by decide) (fx_kv ?_)
  refine fx_letc hE (fun S4 hE => ?_)
  refine pm_aloadn hG dX3_write_35 rfl ?_
  refine pm_getf hG dX3_write_36 (flX3_29 _ rfl) rfl rfl ?_
  refine pm_iloadi hG dX3_write_39 rfl ?_
  refine pm_iconst (v := 2) hG dX3_write_41 (by decide) ?_
  refine pm_iloadn hG dX3_write_42 rfl ?_
  refine pm_callV (As := [.int r3.1, .int 2, .int zc]) (rest := []) hG hR dX3_write_43 (lkX3_45 _ rfl) okV_X9_set rfl rfl (tset_14 (d := 2)) rfl rfl hdd (Nat.le_refl _) (Nat.le_refl _) (by decide) (fx_kv ?_)
  refine fx_letc hE (fun S5 hE => ?_)
  refine pm_aloadn hG dX3_write_46 rfl ?_
  refine pm_getf hG dX3_write_47 (flX3_29 _ rfl) rfl rfl ?_
  refine pm_iloadi hG dX3_write_50 rfl ?_
  refine pm_iconst (v := 3) hG dX3_write_52 (by decide) ?_
  refine pm_iloadi hG dX3_write_53 rfl ?_
  refine pm_callV (As := [.int r3.1, .int 3, .int x1]) (rest := []) hG hR dX3_write_55 (lkX3_45 _ rfl) okV_X9_set rfl rfl (tset_14 (d := 2)) rfl rfl hdd (Nat.le_refl _) (Nat.le_refl _) (by decide) (fx_kv ?_)
  refine fx_letc hE (fun S6 hE => ?_)
  refine pm_aloadn hG dX3_write_58 rfl ?_
  refine pm_getf hG dX3_write_59 (flX3_29 _ rfl) rfl rfl ?_
  refine pm_iloadi hG dX3_write_62 rfl ?_
  refine pm_iconst (v := 5) hG dX3_write_64 (by decide) ?_
  refine pm_aloadn hG dX3_write_65 rfl ?_
  refine pm_getf hG dX3_write_66 (flX3_9 _ rfl) rfl rfl ?_
  refine pm_iloadi hG dX3_write_69 rfl ?_
  obtain ⟨x8, h7, hE⟩ := fb_some hE
  refine pm_callV (As := [.int x1]) (rest := [.int 5, .int r3.1, .ref (B + 14)]) hG hR dX3_write_71 (lkX3_49 _ rfl) okV_X7_livingIn rfl rfl (c_X7_livingIn (d := 2) (by decide) h7) rfl rfl hdd (Nat.le_refl _) (Nat.le_refl _) (by first | decide | exact Nat.le_of_ble_eq_true rfl) (fx_ki ?_)
  refine pm_callV (As := [.int r3.1, .int 5, .int x8]) (rest := []) hG hR dX3_write_74 (lkX3_45 _ rfl) okV_X9_set rfl rfl (tset_14 (d := 2)) rfl rfl hdd (Nat.le_refl _) (Nat.le_refl _) (by decide) (fx_kv ?_)
  refine fx_letc hE (fun S9 hE => ?_)
  refine pm_aloadn hG dX3_write_77 rfl ?_
  refine pm_getf hG dX3_write_78 (flX3_29 _ rfl) rfl rfl ?_
  refine pm_iloadi hG dX3_write_81 rfl ?_
  refine pm_bipush (v := 6) hG dX3_write_83 (by decide) ?_
  refine pm_iconst (v := (-1)) hG dX3_write_85 (by decide) ?_
  refine pm_callV (As := [.int r3.1, .int 6, .int (-1)]) (rest := []) hG hR dX3_write_86 (lkX3_45 _ rfl) okV_X9_set rfl rfl (tset_14 (d := 2)) rfl rfl hdd (Nat.le_refl _) (Nat.le_refl _) (by decide) (fx_kv ?_)
  refine fx_letc hE (fun S10 hE => ?_)
  refine pm_aloadn hG dX3_write_89 rfl ?_
  refine pm_getf hG dX3_write_90 (flX3_29 _ rfl) rfl rfl ?_
  refine pm_iloadi hG dX3_write_93 rfl ?_
  refine pm_bipush (v := 8) hG dX3_write_95 (by decide) ?_
  refine pm_iconst (v := (-1)) hG dX3_write_97 (by decide) ?_
  refine pm_callV (As := [.int r3.1, .int 8, .int (-1)]) (rest := []) hG hR dX3_write_98 (lkX3_45 _ rfl) okV_X9_set rfl rfl (tset_14 (d := 2)) rfl rfl hdd (Nat.le_refl _) (Nat.le_refl _) (by decide) (fx_kv ?_)
  refine fx_letc hE (fun S11 hE => ?_)
  refine pm_aloadn hG dX3_write_101 rfl ?_
  refine pm_getf hG dX3_write_102 (flX3_29 _ rfl) rfl rfl ?_
  refine pm_iloadi hG dX3_write_105 rfl ?_
  refine pm_bipush (v := 9) hG dX3_write_107 (by decide) ?_
  refine pm_iconst (v := (-1)) hG dX3_write_109 (by decide) ?_
  refine pm_callV (As := [.int r3.1, .int 9, .int (-1)]) (rest := []) hG hR dX3_write_110 (lkX3_45 _ rfl) okV_X9_set rfl rfl (tset_14 (d := 2)) rfl rfl hdd (Nat.le_refl _) (Nat.le_refl _) (by decide) (fx_kv ?_)
  refine fx_letc hE (fun S12 hE => ?_)
  refine pm_aloadn hG dX3_write_113 rfl ?_
  refine pm_getf hG dX3_write_114 (flX3_29 _ rfl) rfl rfl ?_
  refine pm_iloadi hG dX3_write_117 rfl ?_
  refine pm_bipush (v := 10) hG dX3_write_119 (by decide) ?_
  refine pm_iconst (v := (-1)) hG dX3_write_121 (by decide) ?_
  refine pm_callV (As := [.int r3.1, .int 10, .int (-1)]) (rest := []) hG hR dX3_write_122 (lkX3_45 _ rfl) okV_X9_set rfl rfl (tset_14 (d := 2)) rfl rfl hdd (Nat.le_refl _) (Nat.le_refl _) (by decide) (fx_kv ?_)
  refine fx_letc hE (fun S13 hE => ?_)
  refine pm_iloadi hG dX3_write_125 rfl ?_
  exact pm_iret hG hF dX3_write_127 rfl (Nat.le_refl _) (Nat.le_refl _) (fx_ric hE)

set_option maxRecDepth 100000 in
set_option maxHeartbeats 4000000 in
theorem c_X11_draw {d : Nat} {B cnt : Nat} {kp : Value} {ρ : pm_S} {S : FS} {za : Int32} {zb : Int32} {zc : Int32} {R : Int32 × FS} (hdd : 4 ≤ d) (hE : f_X11_draw S za zb zc = some R) : pm_met mX11_draw d 0 0 B [.ref (B + 0), .int za, .int zb, .int zc] cnt (cst B kp S ρ) (pm_Qi (fun v σ' cnt' => v = R.1 ∧ σ' = (cst B kp R.2 ρ) ∧ cnt' = cnt)) := by
  refine pm_enter 0 (by decide) (Nat.le_of_ble_eq_true rfl) rfl (fun G hG hR hF => ?_)
  unfold f_X11_draw at hE
  refine pm_aloadn hG dX11_draw_0 rfl ?_
  refine pm_getf hG dX11_draw_1 (flX11_12 _ rfl) rfl rfl ?_
  refine pm_getf hG dX11_draw_4 (flX11_128 _ rfl) rfl rfl ?_
  refine pm_iloadn hG dX11_draw_7 rfl ?_
  refine pm_callV (As := [.int za]) (rest := []) hG hR dX11_draw_8 (lkX11_101 _ rfl) okV_X9_has rfl rfl (thas_6 (d := 3)) rfl rfl hdd (Nat.le_refl _) (Nat.le_refl _) (by decide) (fx_ki ?_)
  refine pm_if_eq (tgt := 34) hG dX11_draw_11 rfl (fun c1 => ?_) (fun c1 => ?_)
  · replace hE := fx_t c1 hE
    refine pm_aloadn hG dX11_draw_34 rfl ?_
    refine pm_ldc hG dX11_draw_35 (ctX11_109 _ rfl) ?_
    obtain ⟨r3, h2, hE⟩ := fb_some hE
    refine pm_callV (As := [.int (-1000001)]) (rest := []) hG hR dX11_draw_37 (lkX11_97 _ rfl) okV_X11_told rfl rfl (c_X11_told (d := 3) (by decide) h2) rfl rfl hdd (Nat.le_refl _) (Nat.le_refl _) (by decide) (fx_ki ?_)
    exact pm_iret hG hF dX11_draw_40 rfl (Nat.le_refl _) (Nat.le_refl _) (fx_ric hE)
  · replace hE := fx_f c1 hE
    refine pm_iloadn hG dX11_draw_14 rfl ?_
    refine pm_iconst (v := 0) hG dX11_draw_15 (by decide) ?_
    refine pm_iconst (v := 4) hG dX11_draw_16 (by decide) ?_
    refine pm_callS (As := [.int zb, .int 0, .int 4]) (rest := []) hG hR dX11_draw_17 (lkX11_105 _ rfl) okS_X11_isOutside (tOut (d := 3)) rfl rfl hdd (Nat.le_refl _) (Nat.le_refl _) (by decide) (fx_ki ?_)
    refine pm_if_ne (tgt := 34) hG dX11_draw_20 rfl (fun c4 => ?_) (fun c4 => ?_)
    · replace hE := fx_f c4 hE
      refine pm_aloadn hG dX11_draw_34 rfl ?_
      refine pm_ldc hG dX11_draw_35 (ctX11_109 _ rfl) ?_
      obtain ⟨r6, h5, hE⟩ := fb_some hE
      refine pm_callV (As := [.int (-1000001)]) (rest := []) hG hR dX11_draw_37 (lkX11_97 _ rfl) okV_X11_told rfl rfl (c_X11_told (d := 3) (by decide) h5) rfl rfl hdd (Nat.le_refl _) (Nat.le_refl _) (by decide) (fx_ki ?_)
      exact pm_iret hG hF dX11_draw_40 rfl (Nat.le_refl _) (Nat.le_refl _) (fx_ric hE)
    · replace hE := fx_t c4 hE
      refine pm_iloadn hG dX11_draw_23 rfl ?_
      refine pm_iconst (v := 0) hG dX11_draw_24 (by decide) ?_
      refine pm_sipush (v := 999) hG dX11_draw_25 (by decide) ?_
      refine pm_callS (As := [.int zc, .int 0, .int 999]) (rest := []) hG hR dX11_draw_28 (lkX11_105 _ rfl) okS_X11_isOutside (tOut (d := 3)) rfl rfl hdd (Nat.le_refl _) (Nat.le_refl _) (by decide) (fx_ki ?_)
      refine pm_if_eq (tgt := 41) hG dX11_draw_31 rfl (fun c7 => ?_) (fun c7 => ?_)
      · replace hE := fx_t c7 hE
        refine pm_aloadn hG dX11_draw_41 rfl ?_
        refine pm_getf hG dX11_draw_42 (flX11_12 _ rfl) rfl rfl ?_
        refine pm_iloadn hG dX11_draw_45 rfl ?_
        refine pm_callV (As := [.int za]) (rest := []) hG hR dX11_draw_46 (lkX11_146 _ rfl) okV_X7_isInTown rfl rfl (c_X7_isInTown (d := 3) (by decide) rfl) rfl rfl hdd (Nat.le_refl _) (Nat.le_refl _) (by decide) (fx_ki ?_)
        refine pm_if_ne (tgt := 59) hG dX11_draw_49 rfl (fun c8 => ?_) (fun c8 => ?_)
        · replace hE := fx_f c8 hE
          refine pm_aloadn hG dX11_draw_59 rfl ?_
          refine pm_aloadn hG dX11_draw_60 rfl ?_
          refine pm_getf hG dX11_draw_61 (flX11_12 _ rfl) rfl rfl ?_
          refine pm_getf hG dX11_draw_64 (flX11_224 _ rfl) rfl rfl ?_
          refine pm_callV (As := []) (rest := [.ref (B + 0)]) hG hR dX11_draw_67 (lkX11_86 _ rfl) okV_X9_isFull rfl rfl (tisFull_14 (d := 3)) rfl rfl hdd (Nat.le_refl _) (Nat.le_refl _) (by first | decide | exact Nat.le_of_ble_eq_true rfl) (fx_ki ?_)
          refine pm_if_eq (tgt := 78) hG dX11_draw_70 rfl (fun c9 => ?_) (fun c9 => ?_)
          · replace hE := fx_t c9 hE
            refine pm_aloadn hG dX11_draw_78 rfl ?_
            refine pm_getf hG dX11_draw_79 (flX11_39 _ rfl) rfl rfl ?_
            refine pm_iloadn hG dX11_draw_82 rfl ?_
            refine pm_iloadn hG dX11_draw_83 rfl ?_
            refine pm_iloadn hG dX11_draw_84 rfl ?_
            obtain ⟨r11, h10, hE⟩ := fb_some hE
            refine pm_callV (As := [.int za, .int zb, .int zc]) (rest := [.ref (B + 0)]) hG hR dX11_draw_85 (lkX11_230 _ rfl) okV_X3_write rfl rfl (c_X3_write (d := 3) (by decide) h10) rfl rfl hdd (Nat.le_refl _) (Nat.le_refl _) (by first | decide | exact Nat.le_of_ble_eq_true rfl) (fx_ki ?_)
            obtain ⟨r13, h12, hE⟩ := fb_some hE
            refine pm_callV (As := [.int r11.1]) (rest := []) hG hR dX11_draw_88 (lkX11_97 _ rfl) okV_X11_told rfl rfl (c_X11_told (d := 3) (by decide) h12) rfl rfl hdd (Nat.le_refl _) (Nat.le_refl _) (by decide) (fx_ki ?_)
            exact pm_iret hG hF dX11_draw_91 rfl (Nat.le_refl _) (Nat.le_refl _) (fx_ric hE)
          · replace hE := fx_f c9 hE
            refine pm_ldc hG dX11_draw_73 (ctX11_92 _ rfl) ?_
            refine pm_goto (tgt := 88) hG dX11_draw_75 rfl ?_
            obtain ⟨r15, h14, hE⟩ := fb_some hE
            refine pm_callV (As := [.int (-1000004)]) (rest := []) hG hR dX11_draw_88 (lkX11_97 _ rfl) okV_X11_told rfl rfl (c_X11_told (d := 3) (by decide) h14) rfl rfl hdd (Nat.le_refl _) (Nat.le_refl _) (by decide) (fx_ki ?_)
            exact pm_iret hG hF dX11_draw_91 rfl (Nat.le_refl _) (Nat.le_refl _) (fx_ric hE)
        · replace hE := fx_t c8 hE
          refine pm_aloadn hG dX11_draw_52 rfl ?_
          refine pm_ldc hG dX11_draw_53 (ctX11_138 _ rfl) ?_
          obtain ⟨r17, h16, hE⟩ := fb_some hE
          refine pm_callV (As := [.int (-1000003)]) (rest := []) hG hR dX11_draw_55 (lkX11_97 _ rfl) okV_X11_told rfl rfl (c_X11_told (d := 3) (by decide) h16) rfl rfl hdd (Nat.le_refl _) (Nat.le_refl _) (by decide) (fx_ki ?_)
          exact pm_iret hG hF dX11_draw_58 rfl (Nat.le_refl _) (Nat.le_refl _) (fx_ric hE)
      · replace hE := fx_f c7 hE
        refine pm_aloadn hG dX11_draw_34 rfl ?_
        refine pm_ldc hG dX11_draw_35 (ctX11_109 _ rfl) ?_
        obtain ⟨r19, h18, hE⟩ := fb_some hE
        refine pm_callV (As := [.int (-1000001)]) (rest := []) hG hR dX11_draw_37 (lkX11_97 _ rfl) okV_X11_told rfl rfl (c_X11_told (d := 3) (by decide) h18) rfl rfl hdd (Nat.le_refl _) (Nat.le_refl _) (by decide) (fx_ki ?_)
        exact pm_iret hG hF dX11_draw_40 rfl (Nat.le_refl _) (Nat.le_refl _) (fx_ric hE)

set_option maxRecDepth 100000 in
set_option maxHeartbeats 4000000 in
theorem c_X7_wayBetween {d : Nat} {B cnt : Nat} {kp : Value} {ρ : pm_S} {S : FS} {za : Int32} {zb : Int32} {R : Int32} (hdd : 1 ≤ d) (hE : p_X7_wayBetween S za zb = R) : pm_met mX7_wayBetween d 0 0 B [.ref (B + 1), .int za, .int zb] cnt (cst B kp S ρ) (pm_Qi (fun v σ' cnt' => v = R ∧ σ' = (cst B kp S ρ) ∧ cnt' = cnt)) := by
  refine pm_enter 1 (by decide) (Nat.le_of_ble_eq_true rfl) rfl (fun G hG hR hF => ?_)
  unfold p_X7_wayBetween at hE
  refine pm_aloadn hG dX7_wayBetween_0 rfl ?_
  refine pm_getf hG dX7_wayBetween_1 (flX7_20 _ rfl) rfl rfl ?_
  refine pm_iloadn hG dX7_wayBetween_4 rfl ?_
  refine pm_iloadn hG dX7_wayBetween_5 rfl ?_
  refine pm_callV (As := [.int za, .int zb]) (rest := []) hG hR dX7_wayBetween_6 (lkX7_83 _ rfl) okV_X9_get rfl rfl (tget_4 (d := 0)) rfl rfl hdd (Nat.le_refl _) (Nat.le_refl _) (by decide) (fx_ki ?_)
  refine fx_letv hE (fun x1 hE => ?_)
  refine pm_istoreXn (loc' := [some (.ref (B + 1)), some (.int za), some (.int zb), some (.int x1)]) hG dX7_wayBetween_9 (by decide) (pm_c1b rfl) rfl ?_
  refine pm_iloadn hG dX7_wayBetween_10 rfl ?_
  refine pm_sipush (v := 1000) hG dX7_wayBetween_11 (by decide) ?_
  refine pm_icmp_lt (tgt := 22) hG dX7_wayBetween_14 rfl (fun c2 => ?_) (fun c2 => ?_)
  · replace hE := fx_t c2 hE
    refine pm_iloadn hG dX7_wayBetween_22 rfl ?_
    exact pm_iret hG hF dX7_wayBetween_23 rfl  (Nat.le_refl _) (Nat.le_refl _) (fx_pi hE)
  · replace hE := fx_f c2 hE
    refine pm_ldc hG dX7_wayBetween_17 (ctX7_92 _ rfl) ?_
    refine pm_goto (tgt := 23) hG dX7_wayBetween_19 rfl ?_
    exact pm_iret hG hF dX7_wayBetween_23 rfl  (Nat.le_refl _) (Nat.le_refl _) (fx_pi hE)

set_option maxRecDepth 100000 in
set_option maxHeartbeats 4000000 in
theorem c_X11_far {d : Nat} {B cnt : Nat} {kp : Value} {ρ : pm_S} {S : FS} {za : Int32} {zb : Int32} {R : Int32 × FS} (hdd : 2 ≤ d) (hE : f_X11_far S za zb = some R) : pm_met mX11_far d 0 0 B [.ref (B + 0), .int za, .int zb] cnt (cst B kp S ρ) (pm_Qi (fun v σ' cnt' => v = R.1 ∧ σ' = (cst B kp R.2 ρ) ∧ cnt' = cnt)) := by
  refine pm_enter 0 (by decide) (Nat.le_of_ble_eq_true rfl) rfl (fun G hG hR hF => ?_)
  unfold f_X11_far at hE
  refine pm_aloadn hG dX11_far_0 rfl ?_
  refine pm_getf hG dX11_far_1 (flX11_12 _ rfl) rfl rfl ?_
  refine pm_getf hG dX11_far_4 (flX11_82 _ rfl) rfl rfl ?_
  refine pm_iloadn hG dX11_far_7 rfl ?_
  refine pm_callV (As := [.int za]) (rest := []) hG hR dX11_far_8 (lkX11_101 _ rfl) okV_X9_has rfl rfl (thas_2 (d := 1)) rfl rfl hdd (Nat.le_refl _) (Nat.le_refl _) (by decide) (fx_ki ?_)
  refine pm_if_eq (tgt := 28) hG dX11_far_11 rfl (fun c1 => ?_) (fun c1 => ?_)
  · replace hE := fx_t c1 hE
    refine pm_aloadn hG dX11_far_28 rfl ?_
    refine pm_ldc hG dX11_far_29 (ctX11_109 _ rfl) ?_
    obtain ⟨r3, h2, hE⟩ := fb_some hE
    refine pm_callV (As := [.int (-1000001)]) (rest := []) hG hR dX11_far_31 (lkX11_97 _ rfl) okV_X11_told rfl rfl (c_X11_told (d := 1) (by decide) h2) rfl rfl hdd (Nat.le_refl _) (Nat.le_refl _) (by decide) (fx_ki ?_)
    exact pm_iret hG hF dX11_far_34 rfl (Nat.le_refl _) (Nat.le_refl _) (fx_ric hE)
  · replace hE := fx_f c1 hE
    refine pm_aloadn hG dX11_far_14 rfl ?_
    refine pm_getf hG dX11_far_15 (flX11_12 _ rfl) rfl rfl ?_
    refine pm_getf hG dX11_far_18 (flX11_82 _ rfl) rfl rfl ?_
    refine pm_iloadn hG dX11_far_21 rfl ?_
    refine pm_callV (As := [.int zb]) (rest := []) hG hR dX11_far_22 (lkX11_101 _ rfl) okV_X9_has rfl rfl (thas_2 (d := 1)) rfl rfl hdd (Nat.le_refl _) (Nat.le_refl _) (by decide) (fx_ki ?_)
    refine pm_if_ne (tgt := 35) hG dX11_far_25 rfl (fun c4 => ?_) (fun c4 => ?_)
    · replace hE := fx_f c4 hE
      refine pm_aloadn hG dX11_far_35 rfl ?_
      refine pm_aloadn hG dX11_far_36 rfl ?_
      refine pm_getf hG dX11_far_37 (flX11_12 _ rfl) rfl rfl ?_
      refine pm_iloadn hG dX11_far_40 rfl ?_
      refine pm_iloadn hG dX11_far_41 rfl ?_
      refine pm_callV (As := [.int za, .int zb]) (rest := [.ref (B + 0)]) hG hR dX11_far_42 (lkX11_118 _ rfl) okV_X7_wayBetween rfl rfl (c_X7_wayBetween (d := 1) (by decide) rfl) rfl rfl hdd (Nat.le_refl _) (Nat.le_refl _) (by first | decide | exact Nat.le_of_ble_eq_true rfl) (fx_ki ?_)
      obtain ⟨r6, h5, hE⟩ := fb_some hE
      refine pm_callV (As := [.int (p_X7_wayBetween S za zb)]) (rest := []) hG hR dX11_far_45 (lkX11_97 _ rfl) okV_X11_told rfl rfl (c_X11_told (d := 1) (by decide) h5) rfl rfl hdd (Nat.le_refl _) (Nat.le_refl _) (by decide) (fx_ki ?_)
      exact pm_iret hG hF dX11_far_48 rfl (Nat.le_refl _) (Nat.le_refl _) (fx_ric hE)
    · replace hE := fx_t c4 hE
      refine pm_aloadn hG dX11_far_28 rfl ?_
      refine pm_ldc hG dX11_far_29 (ctX11_109 _ rfl) ?_
      obtain ⟨r8, h7, hE⟩ := fb_some hE
      refine pm_callV (As := [.int (-1000001)]) (rest := []) hG hR dX11_far_31 (lkX11_97 _ rfl) okV_X11_told rfl rfl (c_X11_told (d := 1) (by decide) h7) rfl rfl hdd (Nat.le_refl _) (Nat.le_refl _) (by decide) (fx_ki ?_)
      exact pm_iret hG hF dX11_far_34 rfl (Nat.le_refl _) (Nat.le_refl _) (fx_ric hE)

set_option maxRecDepth 100000 in
set_option maxHeartbeats 4000000 in
theorem c_X11_feed {d : Nat} {B cnt : Nat} {kp : Value} {ρ : pm_S} {S : FS} {za : Int64} {zb : Int32} {R : Int32 × FS} (hdd : 2 ≤ d) (hE : f_X11_feed S za zb = some R) : pm_met mX11_feed d 0 0 B [.ref (B + 0), .long za, .int zb] cnt (cst B kp S ρ) (pm_Qi (fun v σ' cnt' => v = R.1 ∧ σ' = (cst B kp R.2 ρ) ∧ cnt' = cnt)) := by
  refine pm_enter 1 (by decide) (Nat.le_of_ble_eq_true rfl) rfl (fun G hG hR hF => ?_)
  unfold f_X11_feed at hE
  refine pm_iloadn hG dX11_feed_0 rfl ?_
  refine pm_iconst (v := 1) hG dX11_feed_1 (by decide) ?_
  refine pm_bipush (v := 8) hG dX11_feed_2 (by decide) ?_
  refine pm_callS (As := [.int zb, .int 1, .int 8]) (rest := []) hG hR dX11_feed_4 (lkX11_105 _ rfl) okS_X11_isOutside (tOut (d := 1)) rfl rfl hdd (Nat.le_refl _) (Nat.le_refl _) (by decide) (fx_ki ?_)
  refine pm_if_eq (tgt := 17) hG dX11_feed_7 rfl (fun c1 => ?_) (fun c1 => ?_)
  · replace hE := fx_t c1 hE
    refine pm_aloadn hG dX11_feed_17 rfl ?_
    refine pm_getf hG dX11_feed_18 (flX11_12 _ rfl) rfl rfl ?_
    refine pm_getf hG dX11_feed_21 (flX11_200 _ rfl) rfl rfl ?_
    refine pm_callV (As := []) (rest := []) hG hR dX11_feed_24 (lkX11_203 _ rfl) okV_X9_used rfl rfl (tused_24 (d := 1)) rfl rfl hdd (Nat.le_refl _) (Nat.le_refl _) (by decide) (fx_ki ?_)
    refine pm_iloadn hG dX11_feed_27 rfl ?_
    refine pm_iadd hG dX11_feed_28 ?_
    refine pm_bipush (v := 60) hG dX11_feed_29 (by decide) ?_
    refine pm_icmp_le (tgt := 41) hG dX11_feed_31 rfl (fun c2 => ?_) (fun c2 => ?_)
    · replace c2 := Int32.not_lt.mpr c2
      replace hE := fx_f c2 hE
      refine pm_iconst (v := 0) hG dX11_feed_41 (by decide) ?_
      refine pm_istoreXi (loc' := [some (.ref (B + 0)), some (.long za), none, some (.int zb), some (.int 0)]) hG dX11_feed_42 (by decide) (pm_c1b rfl) rfl ?_
      have loop44 : ∀ (k44 : FS → Int32 → Option (Int32 × FS)), (∀ (S3 : FS) (x3_4 : Int32), k44 S3  x3_4 = some R → pm_wp mX11_feed G B 79 [some (.ref (B + 0)), some (.long za), none, some (.int zb), some (.int x3_4)] [] 0 0 cnt (cst B kp S3 ρ)) → ∀ (m44 : Nat) (S3 : FS) (x3_4 : Int32), l_X11_feed_44 za zb k44 m44 S3  x3_4 = some R → pm_wp mX11_feed G B 44 [some (.ref (B + 0)), some (.long za), none, some (.int zb), some (.int x3_4)] [] 0 0 cnt (cst B kp S3 ρ) := by
        intro k44 hk44 m44
        induction m44 with
        | zero => intro S3  x3_4 hE; exact fx_no hE
        | succ m44 ih44 =>
          intro S3  x3_4 hE
          rw [l_X11_feed_44] at hE
          refine pm_iloadi hG dX11_feed_44 rfl ?_
          refine pm_iloadn hG dX11_feed_46 rfl ?_
          refine pm_icmp_ge (tgt := 79) hG dX11_feed_47 rfl (fun c4 => ?_) (fun c4 => ?_)
          · replace c4 := Int32.not_lt.mpr c4
            replace hE := fx_f c4 hE
            exact hk44 _ _ hE
          · replace c4 := Int32.not_le.mp c4
            replace hE := fx_t c4 hE
            refine pm_aloadn hG dX11_feed_50 rfl ?_
            refine pm_getf hG dX11_feed_51 (flX11_12 _ rfl) rfl rfl ?_
            refine pm_getf hG dX11_feed_54 (flX11_200 _ rfl) rfl rfl ?_
            refine pm_lloadn hG dX11_feed_57 rfl ?_
            refine pm_bipush (v := 8) hG dX11_feed_58 (by decide) ?_
            refine pm_iloadi hG dX11_feed_60 rfl ?_
            refine pm_imul hG dX11_feed_62 ?_
            refine pm_lushr hG dX11_feed_63 rfl ?_
            refine pm_l2i hG dX11_feed_64 rfl ?_
            refine pm_sipush (v := 255) hG dX11_feed_65 (by decide) ?_
            refine pm_iand hG dX11_feed_68 ?_
            obtain ⟨r6, h5, hE⟩ := fb_some hE
            refine pm_callV (As := [.int ((((za.toUInt64 >>> ((8 * x3_4 : Int32).toInt64.toUInt64 &&& Int64.toUInt64 63)).toInt64).toInt32) &&& 255)]) (rest := []) hG hR dX11_feed_69 (lkX11_206 _ rfl) okV_X9_append rfl rfl (tappend_24 (d := 1) (by decide) h5) rfl rfl hdd (Nat.le_refl _) (Nat.le_refl _) (by decide) (fx_ki ?_)
            refine pm_pop hG dX11_feed_72 rfl ?_
            refine pm_iincX (v := x3_4 + 1) (loc' := [some (.ref (B + 0)), some (.long za), none, some (.int zb), some (.int (x3_4 + 1))]) hG dX11_feed_73 rfl (by rfl) (by decide) (pm_c1b rfl) rfl ?_
            refine pm_goto (tgt := 44) hG dX11_feed_76 rfl ?_
            exact ih44 _ _ hE
      refine loop44 _ (fun S7 x7_4 hE => ?_) _ _ _ hE
      refine pm_aloadn hG dX11_feed_79 rfl ?_
      refine pm_getf hG dX11_feed_80 (flX11_12 _ rfl) rfl rfl ?_
      refine pm_getf hG dX11_feed_83 (flX11_200 _ rfl) rfl rfl ?_
      refine pm_callV (As := []) (rest := []) hG hR dX11_feed_86 (lkX11_203 _ rfl) okV_X9_used rfl rfl (tused_24 (d := 1)) rfl rfl hdd (Nat.le_refl _) (Nat.le_refl _) (by decide) (fx_ki ?_)
      exact pm_iret hG hF dX11_feed_89 rfl (Nat.le_refl _) (Nat.le_refl _) (fx_ric hE)
    · replace c2 := Int32.not_le.mp c2
      replace hE := fx_t c2 hE
      refine pm_aloadn hG dX11_feed_34 rfl ?_
      refine pm_ldc hG dX11_feed_35 (ctX11_92 _ rfl) ?_
      obtain ⟨r9, h8, hE⟩ := fb_some hE
      refine pm_callV (As := [.int (-1000004)]) (rest := []) hG hR dX11_feed_37 (lkX11_97 _ rfl) okV_X11_told rfl rfl (c_X11_told (d := 1) (by decide) h8) rfl rfl hdd (Nat.le_refl _) (Nat.le_refl _) (by decide) (fx_ki ?_)
      exact pm_iret hG hF dX11_feed_40 rfl (Nat.le_refl _) (Nat.le_refl _) (fx_ric hE)
  · replace hE := fx_f c1 hE
    refine pm_aloadn hG dX11_feed_10 rfl ?_
    refine pm_ldc hG dX11_feed_11 (ctX11_109 _ rfl) ?_
    obtain ⟨r11, h10, hE⟩ := fb_some hE
    refine pm_callV (As := [.int (-1000001)]) (rest := []) hG hR dX11_feed_13 (lkX11_97 _ rfl) okV_X11_told rfl rfl (c_X11_told (d := 1) (by decide) h10) rfl rfl hdd (Nat.le_refl _) (Nat.le_refl _) (by decide) (fx_ki ?_)
    exact pm_iret hG hF dX11_feed_16 rfl (Nat.le_refl _) (Nat.le_refl _) (fx_ric hE)

set_option maxRecDepth 100000 in
set_option maxHeartbeats 4000000 in
theorem c_X11_force {d : Nat} {B cnt : Nat} {kp : Value} {ρ : pm_S} {S : FS} {za : Int32} {zb : Int32} {zc : Int32} {R : Int32 × FS} (hdd : 2 ≤ d) (hE : f_X11_force S za zb zc = some R) : pm_met mX11_force d 0 0 B [.ref (B + 0), .int za, .int zb, .int zc] cnt (cst B kp S ρ) (pm_Qi (fun v σ' cnt' => v = R.1 ∧ σ' = (cst B kp R.2 ρ) ∧ cnt' = cnt)) := by
  refine pm_enter 1 (by decide) (Nat.le_of_ble_eq_true rfl) rfl (fun G hG hR hF => ?_)
  unfold f_X11_force at hE
  refine pm_iloadn hG dX11_force_0 rfl ?_
  refine pm_iconst (v := 0) hG dX11_force_1 (by decide) ?_
  refine pm_iconst (v := 4) hG dX11_force_2 (by decide) ?_
  refine pm_callS (As := [.int za, .int 0, .int 4]) (rest := []) hG hR dX11_force_3 (lkX11_105 _ rfl) okS_X11_isOutside (tOut (d := 1)) rfl rfl hdd (Nat.le_refl _) (Nat.le_refl _) (by decide) (fx_ki ?_)
  refine pm_if_ne (tgt := 31) hG dX11_force_6 rfl (fun c1 => ?_) (fun c1 => ?_)
  · replace hE := fx_f c1 hE
    refine pm_aloadn hG dX11_force_31 rfl ?_
    refine pm_ldc hG dX11_force_32 (ctX11_109 _ rfl) ?_
    obtain ⟨r3, h2, hE⟩ := fb_some hE
    refine pm_callV (As := [.int (-1000001)]) (rest := []) hG hR dX11_force_34 (lkX11_97 _ rfl) okV_X11_told rfl rfl (c_X11_told (d := 1) (by decide) h2) rfl rfl hdd (Nat.le_refl _) (Nat.le_refl _) (by decide) (fx_ki ?_)
    exact pm_iret hG hF dX11_force_37 rfl (Nat.le_refl _) (Nat.le_refl _) (fx_ric hE)
  · replace hE := fx_t c1 hE
    refine pm_iloadn hG dX11_force_9 rfl ?_
    refine pm_iconst (v := 0) hG dX11_force_10 (by decide) ?_
    refine pm_sipush (v := 2000) hG dX11_force_11 (by decide) ?_
    refine pm_callS (As := [.int zb, .int 0, .int 2000]) (rest := []) hG hR dX11_force_14 (lkX11_105 _ rfl) okS_X11_isOutside (tOut (d := 1)) rfl rfl hdd (Nat.le_refl _) (Nat.le_refl _) (by decide) (fx_ki ?_)
    refine pm_if_ne (tgt := 31) hG dX11_force_17 rfl (fun c4 => ?_) (fun c4 => ?_)
    · replace hE := fx_f c4 hE
      refine pm_aloadn hG dX11_force_31 rfl ?_
      refine pm_ldc hG dX11_force_32 (ctX11_109 _ rfl) ?_
      obtain ⟨r6, h5, hE⟩ := fb_some hE
      refine pm_callV (As := [.int (-1000001)]) (rest := []) hG hR dX11_force_34 (lkX11_97 _ rfl) okV_X11_told rfl rfl (c_X11_told (d := 1) (by decide) h5) rfl rfl hdd (Nat.le_refl _) (Nat.le_refl _) (by decide) (fx_ki ?_)
      exact pm_iret hG hF dX11_force_37 rfl (Nat.le_refl _) (Nat.le_refl _) (fx_ric hE)
    · replace hE := fx_t c4 hE
      refine pm_iloadn hG dX11_force_20 rfl ?_
      refine pm_iconst (v := (-1)) hG dX11_force_21 (by decide) ?_
      refine pm_sipush (v := 2000) hG dX11_force_22 (by decide) ?_
      refine pm_callS (As := [.int zc, .int (-1), .int 2000]) (rest := []) hG hR dX11_force_25 (lkX11_105 _ rfl) okS_X11_isOutside (tOut (d := 1)) rfl rfl hdd (Nat.le_refl _) (Nat.le_refl _) (by decide) (fx_ki ?_)
      refine pm_if_eq (tgt := 38) hG dX11_force_28 rfl (fun c7 => ?_) (fun c7 => ?_)
      · replace hE := fx_t c7 hE
        refine pm_aloadn hG dX11_force_38 rfl ?_
        refine pm_getf hG dX11_force_39 (flX11_21 _ rfl) rfl rfl ?_
        refine pm_iloadn hG dX11_force_42 rfl ?_
        refine pm_iloadn hG dX11_force_43 rfl ?_
        refine pm_iloadn hG dX11_force_44 rfl ?_
        obtain ⟨x9, h8, hE⟩ := fb_some hE
        refine pm_callV (As := [.int za, .int zb, .int zc]) (rest := []) hG hR dX11_force_45 (lkX11_220 _ rfl) okV_X2_inForce rfl rfl (c_X2_inForce (d := 1) (by decide) h8) rfl rfl hdd (Nat.le_refl _) (Nat.le_refl _) (by decide) (fx_ki ?_)
        refine pm_istoreXi (loc' := [some (.ref (B + 0)), some (.int za), some (.int zb), some (.int zc), some (.int x9)]) hG dX11_force_48 (by decide) (pm_c1b rfl) rfl ?_
        refine pm_aloadn hG dX11_force_50 rfl ?_
        refine pm_iloadi hG dX11_force_51 rfl ?_
        refine pm_if_ge (tgt := 61) hG dX11_force_53 rfl (fun c10 => ?_) (fun c10 => ?_)
        · replace c10 := Int32.not_lt.mpr c10
          replace hE := fx_f c10 hE
          refine pm_iloadi hG dX11_force_61 rfl ?_
          obtain ⟨r12, h11, hE⟩ := fb_some hE
          refine pm_callV (As := [.int x9]) (rest := []) hG hR dX11_force_63 (lkX11_97 _ rfl) okV_X11_told rfl rfl (c_X11_told (d := 1) (by decide) h11) rfl rfl hdd (Nat.le_refl _) (Nat.le_refl _) (by decide) (fx_ki ?_)
          exact pm_iret hG hF dX11_force_66 rfl (Nat.le_refl _) (Nat.le_refl _) (fx_ric hE)
        · replace c10 := Int32.not_le.mp c10
          replace hE := fx_t c10 hE
          refine pm_ldc hG dX11_force_56 (ctX11_223 _ rfl) ?_
          refine pm_goto (tgt := 63) hG dX11_force_58 rfl ?_
          obtain ⟨r14, h13, hE⟩ := fb_some hE
          refine pm_callV (As := [.int (-1000002)]) (rest := []) hG hR dX11_force_63 (lkX11_97 _ rfl) okV_X11_told rfl rfl (c_X11_told (d := 1) (by decide) h13) rfl rfl hdd (Nat.le_refl _) (Nat.le_refl _) (by decide) (fx_ki ?_)
          exact pm_iret hG hF dX11_force_66 rfl (Nat.le_refl _) (Nat.le_refl _) (fx_ric hE)
      · replace hE := fx_f c7 hE
        refine pm_aloadn hG dX11_force_31 rfl ?_
        refine pm_ldc hG dX11_force_32 (ctX11_109 _ rfl) ?_
        obtain ⟨r16, h15, hE⟩ := fb_some hE
        refine pm_callV (As := [.int (-1000001)]) (rest := []) hG hR dX11_force_34 (lkX11_97 _ rfl) okV_X11_told rfl rfl (c_X11_told (d := 1) (by decide) h15) rfl rfl hdd (Nat.le_refl _) (Nat.le_refl _) (by decide) (fx_ki ?_)
        exact pm_iret hG hF dX11_force_37 rfl (Nat.le_refl _) (Nat.le_refl _) (fx_ric hE)

set_option maxRecDepth 100000 in
set_option maxHeartbeats 4000000 in
theorem c_X11_found {d : Nat} {B cnt : Nat} {kp : Value} {ρ : pm_S} {S : FS} {za : Int32} {R : Int32 × FS} (hdd : 2 ≤ d) (hE : f_X11_found S za = some R) : pm_met mX11_found d 0 0 B [.ref (B + 0), .int za] cnt (cst B kp S ρ) (pm_Qi (fun v σ' cnt' => v = R.1 ∧ σ' = (cst B kp R.2 ρ) ∧ cnt' = cnt)) := by
  refine pm_enter 0 (by decide) (Nat.le_of_ble_eq_true rfl) rfl (fun G hG hR hF => ?_)
  unfold f_X11_found at hE
  refine pm_iloadn hG dX11_found_0 rfl ?_
  refine pm_iconst (v := 1) hG dX11_found_1 (by decide) ?_
  refine pm_icmp_lt (tgt := 28) hG dX11_found_2 rfl (fun c1 => ?_) (fun c1 => ?_)
  · replace hE := fx_t c1 hE
    refine pm_aloadn hG dX11_found_28 rfl ?_
    refine pm_ldc hG dX11_found_29 (ctX11_109 _ rfl) ?_
    obtain ⟨r3, h2, hE⟩ := fb_some hE
    refine pm_callV (As := [.int (-1000001)]) (rest := []) hG hR dX11_found_31 (lkX11_97 _ rfl) okV_X11_told rfl rfl (c_X11_told (d := 1) (by decide) h2) rfl rfl hdd (Nat.le_refl _) (Nat.le_refl _) (by decide) (fx_ki ?_)
    exact pm_iret hG hF dX11_found_34 rfl (Nat.le_refl _) (Nat.le_refl _) (fx_ric hE)
  · replace hE := fx_f c1 hE
    refine pm_iloadn hG dX11_found_5 rfl ?_
    refine pm_iconst (v := 5) hG dX11_found_6 (by decide) ?_
    refine pm_icmp_gt (tgt := 28) hG dX11_found_7 rfl (fun c4 => ?_) (fun c4 => ?_)
    · replace hE := fx_t c4 hE
      refine pm_aloadn hG dX11_found_28 rfl ?_
      refine pm_ldc hG dX11_found_29 (ctX11_109 _ rfl) ?_
      obtain ⟨r6, h5, hE⟩ := fb_some hE
      refine pm_callV (As := [.int (-1000001)]) (rest := []) hG hR dX11_found_31 (lkX11_97 _ rfl) okV_X11_told rfl rfl (c_X11_told (d := 1) (by decide) h5) rfl rfl hdd (Nat.le_refl _) (Nat.le_refl _) (by decide) (fx_ki ?_)
      exact pm_iret hG hF dX11_found_34 rfl (Nat.le_refl _) (Nat.le_refl _) (fx_ric hE)
    · replace hE := fx_f c4 hE
      refine pm_iloadn hG dX11_found_10 rfl ?_
      refine pm_aloadn hG dX11_found_11 rfl ?_
      refine pm_getf hG dX11_found_12 (flX11_78 _ rfl) rfl rfl ?_
      refine pm_alen (v := 6) hG dX11_found_15 rfl (by decide) ?_
      refine pm_icmp_ge (tgt := 28) hG dX11_found_16 rfl (fun c7 => ?_) (fun c7 => ?_)
      · replace c7 := Int32.not_lt.mpr c7
        replace hE := fx_f c7 hE
        refine pm_aloadn hG dX11_found_28 rfl ?_
        refine pm_ldc hG dX11_found_29 (ctX11_109 _ rfl) ?_
        obtain ⟨r9, h8, hE⟩ := fb_some hE
        refine pm_callV (As := [.int (-1000001)]) (rest := []) hG hR dX11_found_31 (lkX11_97 _ rfl) okV_X11_told rfl rfl (c_X11_told (d := 1) (by decide) h8) rfl rfl hdd (Nat.le_refl _) (Nat.le_refl _) (by decide) (fx_ki ?_)
        exact pm_iret hG hF dX11_found_34 rfl (Nat.le_refl _) (Nat.le_refl _) (fx_ric hE)
      · replace c7 := Int32.not_le.mp c7
        replace hE := fx_t c7 hE
        refine pm_aloadn hG dX11_found_19 rfl ?_
        refine pm_getf hG dX11_found_20 (flX11_78 _ rfl) rfl rfl ?_
        refine pm_iloadn hG dX11_found_23 rfl ?_
        obtain ⟨j10, hj10, hE⟩ := fb_some hE
        refine fx_iald hG dX11_found_24 rfl hj10 ?_
        refine pm_goto (tgt := 34) hG dX11_found_25 rfl ?_
        exact pm_iret hG hF dX11_found_34 rfl (Nat.le_refl _) (Nat.le_refl _) (fx_ric hE)

set_option maxRecDepth 100000 in
set_option maxHeartbeats 4000000 in
theorem c_X7_isLivingOrNobody {d : Nat} {B cnt : Nat} {kp : Value} {ρ : pm_S} {S : FS} {za : Int32} {R : Int32} (hdd : 2 ≤ d) (hE : p_X7_isLivingOrNobody S za = R) : pm_met mX7_isLivingOrNobody d 0 0 B [.ref (B + 1), .int za] cnt (cst B kp S ρ) (pm_Qi (fun v σ' cnt' => v = R ∧ σ' = (cst B kp S ρ) ∧ cnt' = cnt)) := by
  refine pm_enter 0 (by decide) (Nat.le_of_ble_eq_true rfl) rfl (fun G hG hR hF => ?_)
  unfold p_X7_isLivingOrNobody at hE
  refine pm_iloadn hG dX7_isLivingOrNobody_0 rfl ?_
  refine pm_iconst (v := (-1)) hG dX7_isLivingOrNobody_1 (by decide) ?_
  refine pm_icmp_eq (tgt := 13) hG dX7_isLivingOrNobody_2 rfl (fun c1 => ?_) (fun c1 => ?_)
  · replace hE := fx_t c1 hE
    refine pm_iconst (v := 1) hG dX7_isLivingOrNobody_13 (by decide) ?_
    refine pm_goto (tgt := 18) hG dX7_isLivingOrNobody_14 rfl ?_
    exact pm_zret hG hF dX7_isLivingOrNobody_18 rfl (by rfl) (Nat.le_refl _) (Nat.le_refl _) (fx_pi hE)
  · replace hE := fx_f c1 hE
    refine pm_aloadn hG dX7_isLivingOrNobody_5 rfl ?_
    refine pm_iloadn hG dX7_isLivingOrNobody_6 rfl ?_
    refine pm_callV (As := [.int za]) (rest := []) hG hR dX7_isLivingOrNobody_7 (lkX7_103 _ rfl) okV_X7_isLiving rfl rfl (c_X7_isLiving (d := 1) (by decide) rfl) rfl rfl hdd (Nat.le_refl _) (Nat.le_refl _) (by decide) (fx_ki ?_)
    refine pm_if_eq (tgt := 17) hG dX7_isLivingOrNobody_10 rfl (fun c2 => ?_) (fun c2 => ?_)
    · replace hE := fx_t c2 hE
      refine pm_iconst (v := 0) hG dX7_isLivingOrNobody_17 (by decide) ?_
      exact pm_zret hG hF dX7_isLivingOrNobody_18 rfl (by rfl) (Nat.le_refl _) (Nat.le_refl _) (fx_pi hE)
    · replace hE := fx_f c2 hE
      refine pm_iconst (v := 1) hG dX7_isLivingOrNobody_13 (by decide) ?_
      refine pm_goto (tgt := 18) hG dX7_isLivingOrNobody_14 rfl ?_
      exact pm_zret hG hF dX7_isLivingOrNobody_18 rfl (by rfl) (Nat.le_refl _) (Nat.le_refl _) (fx_pi hE)

set_option maxRecDepth 100000 in
set_option maxHeartbeats 4000000 in
theorem c_X11_give {d : Nat} {B cnt : Nat} {kp : Value} {ρ : pm_S} {S : FS} {za : Int32} {zb : Int32} {R : Int32 × FS} (hdd : 3 ≤ d) (hE : f_X11_give S za zb = some R) : pm_met mX11_give d 0 0 B [.ref (B + 0), .int za, .int zb] cnt (cst B kp S ρ) (pm_Qi (fun v σ' cnt' => v = R.1 ∧ σ' = (cst B kp R.2 ρ) ∧ cnt' = cnt)) := by
  refine pm_enter 0 (by decide) (Nat.le_of_ble_eq_true rfl) rfl (fun G hG hR hF => ?_)
  unfold f_X11_give at hE
  refine pm_aloadn hG dX11_give_0 rfl ?_
  refine pm_getf hG dX11_give_1 (flX11_12 _ rfl) rfl rfl ?_
  refine pm_getf hG dX11_give_4 (flX11_161 _ rfl) rfl rfl ?_
  refine pm_iloadn hG dX11_give_7 rfl ?_
  refine pm_callV (As := [.int za]) (rest := []) hG hR dX11_give_8 (lkX11_101 _ rfl) okV_X9_has rfl rfl (thas_8 (d := 2)) rfl rfl hdd (Nat.le_refl _) (Nat.le_refl _) (by decide) (fx_ki ?_)
  refine pm_if_eq (tgt := 25) hG dX11_give_11 rfl (fun c1 => ?_) (fun c1 => ?_)
  · replace hE := fx_t c1 hE
    refine pm_aloadn hG dX11_give_25 rfl ?_
    refine pm_ldc hG dX11_give_26 (ctX11_109 _ rfl) ?_
    obtain ⟨r3, h2, hE⟩ := fb_some hE
    refine pm_callV (As := [.int (-1000001)]) (rest := []) hG hR dX11_give_28 (lkX11_97 _ rfl) okV_X11_told rfl rfl (c_X11_told (d := 2) (by decide) h2) rfl rfl hdd (Nat.le_refl _) (Nat.le_refl _) (by decide) (fx_ki ?_)
    exact pm_iret hG hF dX11_give_31 rfl (Nat.le_refl _) (Nat.le_refl _) (fx_ric hE)
  · replace hE := fx_f c1 hE
    refine pm_aloadn hG dX11_give_14 rfl ?_
    refine pm_getf hG dX11_give_15 (flX11_12 _ rfl) rfl rfl ?_
    refine pm_iloadn hG dX11_give_18 rfl ?_
    refine pm_callV (As := [.int zb]) (rest := []) hG hR dX11_give_19 (lkX11_174 _ rfl) okV_X7_isLivingOrNobody rfl rfl (c_X7_isLivingOrNobody (d := 2) (by decide) rfl) rfl rfl hdd (Nat.le_refl _) (Nat.le_refl _) (by decide) (fx_ki ?_)
    refine pm_if_ne (tgt := 32) hG dX11_give_22 rfl (fun c4 => ?_) (fun c4 => ?_)
    · replace hE := fx_f c4 hE
      refine pm_aloadn hG dX11_give_32 rfl ?_
      refine pm_aloadn hG dX11_give_33 rfl ?_
      refine pm_getf hG dX11_give_34 (flX11_12 _ rfl) rfl rfl ?_
      refine pm_iloadn hG dX11_give_37 rfl ?_
      refine pm_callV (As := [.int za]) (rest := [.ref (B + 0)]) hG hR dX11_give_38 (lkX11_188 _ rfl) okV_X7_isLent rfl rfl (c_X7_isLent (d := 2) (by decide) rfl) rfl rfl hdd (Nat.le_refl _) (Nat.le_refl _) (by first | decide | exact Nat.le_of_ble_eq_true rfl) (fx_ki ?_)
      refine pm_if_eq (tgt := 49) hG dX11_give_41 rfl (fun c5 => ?_) (fun c5 => ?_)
      · replace hE := fx_t c5 hE
        refine pm_aloadn hG dX11_give_49 rfl ?_
        refine pm_getf hG dX11_give_50 (flX11_12 _ rfl) rfl rfl ?_
        refine pm_iloadn hG dX11_give_53 rfl ?_
        refine pm_iloadn hG dX11_give_54 rfl ?_
        obtain ⟨r7, h6, hE⟩ := fb_some hE
        refine pm_callV (As := [.int za, .int zb]) (rest := [.ref (B + 0)]) hG hR dX11_give_55 (lkX11_191 _ rfl) okV_X7_handOver rfl rfl (c_X7_handOver (d := 2) (by decide) h6) rfl rfl hdd (Nat.le_refl _) (Nat.le_refl _) (by first | decide | exact Nat.le_of_ble_eq_true rfl) (fx_ki ?_)
        obtain ⟨r9, h8, hE⟩ := fb_some hE
        refine pm_callV (As := [.int r7.1]) (rest := []) hG hR dX11_give_58 (lkX11_97 _ rfl) okV_X11_told rfl rfl (c_X11_told (d := 2) (by decide) h8) rfl rfl hdd (Nat.le_refl _) (Nat.le_refl _) (by decide) (fx_ki ?_)
        exact pm_iret hG hF dX11_give_61 rfl (Nat.le_refl _) (Nat.le_refl _) (fx_ric hE)
      · replace hE := fx_f c5 hE
        refine pm_ldc hG dX11_give_44 (ctX11_138 _ rfl) ?_
        refine pm_goto (tgt := 58) hG dX11_give_46 rfl ?_
        obtain ⟨r11, h10, hE⟩ := fb_some hE
        refine pm_callV (As := [.int (-1000003)]) (rest := []) hG hR dX11_give_58 (lkX11_97 _ rfl) okV_X11_told rfl rfl (c_X11_told (d := 2) (by decide) h10) rfl rfl hdd (Nat.le_refl _) (Nat.le_refl _) (by decide) (fx_ki ?_)
        exact pm_iret hG hF dX11_give_61 rfl (Nat.le_refl _) (Nat.le_refl _) (fx_ric hE)
    · replace hE := fx_t c4 hE
      refine pm_aloadn hG dX11_give_25 rfl ?_
      refine pm_ldc hG dX11_give_26 (ctX11_109 _ rfl) ?_
      obtain ⟨r13, h12, hE⟩ := fb_some hE
      refine pm_callV (As := [.int (-1000001)]) (rest := []) hG hR dX11_give_28 (lkX11_97 _ rfl) okV_X11_told rfl rfl (c_X11_told (d := 2) (by decide) h12) rfl rfl hdd (Nat.le_refl _) (Nat.le_refl _) (by decide) (fx_ki ?_)
      exact pm_iret hG hF dX11_give_31 rfl (Nat.le_refl _) (Nat.le_refl _) (fx_ric hE)

set_option maxRecDepth 100000 in
set_option maxHeartbeats 4000000 in
theorem c_X7_setOut {d : Nat} {B cnt : Nat} {kp : Value} {ρ : pm_S} {S : FS} {za : Int32} {zb : Int32} {R : Int32 × FS} (hdd : 2 ≤ d) (hE : f_X7_setOut S za zb = some R) : pm_met mX7_setOut d 0 0 B [.ref (B + 1), .int za, .int zb] cnt (cst B kp S ρ) (pm_Qi (fun v σ' cnt' => v = R.1 ∧ σ' = (cst B kp R.2 ρ) ∧ cnt' = cnt)) := by
  refine pm_enter 1 (by decide) (Nat.le_of_ble_eq_true rfl) rfl (fun G hG hR hF => ?_)
  unfold f_X7_setOut at hE
  refine pm_aloadn hG dX7_setOut_0 rfl ?_
  refine pm_aloadn hG dX7_setOut_1 rfl ?_
  refine pm_getf hG dX7_setOut_2 (flX7_23 _ rfl) rfl rfl ?_
  refine pm_iloadn hG dX7_setOut_5 rfl ?_
  refine pm_iconst (v := 4) hG dX7_setOut_6 (by decide) ?_
  refine pm_callV (As := [.int za, .int 4]) (rest := [.ref (B + 1)]) hG hR dX7_setOut_7 (lkX7_83 _ rfl) okV_X9_get rfl rfl (tget_6 (d := 1)) rfl rfl hdd (Nat.le_refl _) (Nat.le_refl _) (by first | decide | exact Nat.le_of_ble_eq_true rfl) (fx_ki ?_)
  refine pm_iloadn hG dX7_setOut_10 rfl ?_
  refine pm_callV (As := [.int (fG 6 20 14 S za 4), .int zb]) (rest := []) hG hR dX7_setOut_11 (lkX7_109 _ rfl) okV_X7_wayBetween rfl rfl (c_X7_wayBetween (d := 1) (by decide) rfl) rfl rfl hdd (Nat.le_refl _) (Nat.le_refl _) (by decide) (fx_ki ?_)
  refine fx_letv hE (fun x1 hE => ?_)
  refine pm_istoreXn (loc' := [some (.ref (B + 1)), some (.int za), some (.int zb), some (.int x1)]) hG dX7_setOut_14 (by decide) (pm_c1b rfl) rfl ?_
  refine pm_iloadn hG dX7_setOut_15 rfl ?_
  refine pm_if_ge (tgt := 22) hG dX7_setOut_16 rfl (fun c2 => ?_) (fun c2 => ?_)
  · replace c2 := Int32.not_lt.mpr c2
    replace hE := fx_f c2 hE
    refine pm_iloadn hG dX7_setOut_22 rfl ?_
    refine pm_if_le (tgt := 77) hG dX7_setOut_23 rfl (fun c3 => ?_) (fun c3 => ?_)
    · replace c3 := Int32.not_lt.mpr c3
      replace hE := fx_f c3 hE
      refine pm_aloadn hG dX7_setOut_77 rfl ?_
      refine pm_getf hG dX7_setOut_78 (flX7_72 _ rfl) rfl rfl ?_
      refine pm_iloadn hG dX7_setOut_81 rfl ?_
      refine pm_iadd hG dX7_setOut_82 ?_
      exact pm_iret hG hF dX7_setOut_83 rfl (Nat.le_refl _) (Nat.le_refl _) (fx_ric hE)
    · replace c3 := Int32.not_le.mp c3
      replace hE := fx_t c3 hE
      refine pm_aloadn hG dX7_setOut_26 rfl ?_
      refine pm_getf hG dX7_setOut_27 (flX7_23 _ rfl) rfl rfl ?_
      refine pm_iloadn hG dX7_setOut_30 rfl ?_
      refine pm_bipush (v := 10) hG dX7_setOut_31 (by decide) ?_
      refine pm_aloadn hG dX7_setOut_33 rfl ?_
      refine pm_iloadn hG dX7_setOut_34 rfl ?_
      refine pm_callV (As := [.int za]) (rest := [.int 10, .int za, .ref (B + 6)]) hG hR dX7_setOut_35 (lkX7_112 _ rfl) okV_X7_knownTo rfl rfl (c_X7_knownTo (d := 1) (by decide) rfl) rfl rfl hdd (Nat.le_refl _) (Nat.le_refl _) (by first | decide | exact Nat.le_of_ble_eq_true rfl) (fx_ki ?_)
      refine pm_callV (As := [.int za, .int 10, .int (p_X7_knownTo S za)]) (rest := []) hG hR dX7_setOut_38 (lkX7_61 _ rfl) okV_X9_set rfl rfl (tset_6 (d := 1)) rfl rfl hdd (Nat.le_refl _) (Nat.le_refl _) (by decide) (fx_kv ?_)
      refine fx_letc hE (fun S4 hE => ?_)
      refine pm_aloadn hG dX7_setOut_41 rfl ?_
      refine pm_getf hG dX7_setOut_42 (flX7_23 _ rfl) rfl rfl ?_
      refine pm_iloadn hG dX7_setOut_45 rfl ?_
      refine pm_iconst (v := 4) hG dX7_setOut_46 (by decide) ?_
      refine pm_iconst (v := (-1)) hG dX7_setOut_47 (by decide) ?_
      refine pm_callV (As := [.int za, .int 4, .int (-1)]) (rest := []) hG hR dX7_setOut_48 (lkX7_61 _ rfl) okV_X9_set rfl rfl (tset_6 (d := 1)) rfl rfl hdd (Nat.le_refl _) (Nat.le_refl _) (by decide) (fx_kv ?_)
      refine fx_letc hE (fun S5 hE => ?_)
      refine pm_aloadn hG dX7_setOut_51 rfl ?_
      refine pm_getf hG dX7_setOut_52 (flX7_23 _ rfl) rfl rfl ?_
      refine pm_iloadn hG dX7_setOut_55 rfl ?_
      refine pm_iconst (v := 5) hG dX7_setOut_56 (by decide) ?_
      refine pm_iloadn hG dX7_setOut_57 rfl ?_
      refine pm_callV (As := [.int za, .int 5, .int zb]) (rest := []) hG hR dX7_setOut_58 (lkX7_61 _ rfl) okV_X9_set rfl rfl (tset_6 (d := 1)) rfl rfl hdd (Nat.le_refl _) (Nat.le_refl _) (by decide) (fx_kv ?_)
      refine fx_letc hE (fun S6 hE => ?_)
      refine pm_aloadn hG dX7_setOut_61 rfl ?_
      refine pm_getf hG dX7_setOut_62 (flX7_23 _ rfl) rfl rfl ?_
      refine pm_iloadn hG dX7_setOut_65 rfl ?_
      refine pm_bipush (v := 6) hG dX7_setOut_66 (by decide) ?_
      refine pm_aloadn hG dX7_setOut_68 rfl ?_
      refine pm_getf hG dX7_setOut_69 (flX7_72 _ rfl) rfl rfl ?_
      refine pm_iloadn hG dX7_setOut_72 rfl ?_
      refine pm_iadd hG dX7_setOut_73 ?_
      refine pm_callV (As := [.int za, .int 6, .int ((S6.1 102) + x1)]) (rest := []) hG hR dX7_setOut_74 (lkX7_61 _ rfl) okV_X9_set rfl rfl (tset_6 (d := 1)) rfl rfl hdd (Nat.le_refl _) (Nat.le_refl _) (by decide) (fx_kv ?_)
      refine fx_letc hE (fun S7 hE => ?_)
      refine pm_aloadn hG dX7_setOut_77 rfl ?_
      refine pm_getf hG dX7_setOut_78 (flX7_72 _ rfl) rfl rfl ?_
      refine pm_iloadn hG dX7_setOut_81 rfl ?_
      refine pm_iadd hG dX7_setOut_82 ?_
      exact pm_iret hG hF dX7_setOut_83 rfl (Nat.le_refl _) (Nat.le_refl _) (fx_ric hE)
  · replace c2 := Int32.not_le.mp c2
    replace hE := fx_t c2 hE
    refine pm_ldc hG dX7_setOut_19 (ctX7_92 _ rfl) ?_
    exact pm_iret hG hF dX7_setOut_21 rfl (Nat.le_refl _) (Nat.le_refl _) (fx_ric hE)

set_option maxRecDepth 100000 in
set_option maxHeartbeats 4000000 in
theorem c_X11_go {d : Nat} {B cnt : Nat} {kp : Value} {ρ : pm_S} {S : FS} {za : Int32} {zb : Int32} {R : Int32 × FS} (hdd : 3 ≤ d) (hE : f_X11_go S za zb = some R) : pm_met mX11_go d 0 0 B [.ref (B + 0), .int za, .int zb] cnt (cst B kp S ρ) (pm_Qi (fun v σ' cnt' => v = R.1 ∧ σ' = (cst B kp R.2 ρ) ∧ cnt' = cnt)) := by
  refine pm_enter 0 (by decide) (Nat.le_of_ble_eq_true rfl) rfl (fun G hG hR hF => ?_)
  unfold f_X11_go at hE
  refine pm_aloadn hG dX11_go_0 rfl ?_
  refine pm_getf hG dX11_go_1 (flX11_12 _ rfl) rfl rfl ?_
  refine pm_getf hG dX11_go_4 (flX11_128 _ rfl) rfl rfl ?_
  refine pm_iloadn hG dX11_go_7 rfl ?_
  refine pm_callV (As := [.int za]) (rest := []) hG hR dX11_go_8 (lkX11_101 _ rfl) okV_X9_has rfl rfl (thas_6 (d := 2)) rfl rfl hdd (Nat.le_refl _) (Nat.le_refl _) (by decide) (fx_ki ?_)
  refine pm_if_eq (tgt := 28) hG dX11_go_11 rfl (fun c1 => ?_) (fun c1 => ?_)
  · replace hE := fx_t c1 hE
    refine pm_aloadn hG dX11_go_28 rfl ?_
    refine pm_ldc hG dX11_go_29 (ctX11_109 _ rfl) ?_
    obtain ⟨r3, h2, hE⟩ := fb_some hE
    refine pm_callV (As := [.int (-1000001)]) (rest := []) hG hR dX11_go_31 (lkX11_97 _ rfl) okV_X11_told rfl rfl (c_X11_told (d := 2) (by decide) h2) rfl rfl hdd (Nat.le_refl _) (Nat.le_refl _) (by decide) (fx_ki ?_)
    exact pm_iret hG hF dX11_go_34 rfl (Nat.le_refl _) (Nat.le_refl _) (fx_ric hE)
  · replace hE := fx_f c1 hE
    refine pm_aloadn hG dX11_go_14 rfl ?_
    refine pm_getf hG dX11_go_15 (flX11_12 _ rfl) rfl rfl ?_
    refine pm_getf hG dX11_go_18 (flX11_82 _ rfl) rfl rfl ?_
    refine pm_iloadn hG dX11_go_21 rfl ?_
    refine pm_callV (As := [.int zb]) (rest := []) hG hR dX11_go_22 (lkX11_101 _ rfl) okV_X9_has rfl rfl (thas_2 (d := 2)) rfl rfl hdd (Nat.le_refl _) (Nat.le_refl _) (by decide) (fx_ki ?_)
    refine pm_if_ne (tgt := 35) hG dX11_go_25 rfl (fun c4 => ?_) (fun c4 => ?_)
    · replace hE := fx_f c4 hE
      refine pm_aloadn hG dX11_go_35 rfl ?_
      refine pm_aloadn hG dX11_go_36 rfl ?_
      refine pm_getf hG dX11_go_37 (flX11_12 _ rfl) rfl rfl ?_
      refine pm_iloadn hG dX11_go_40 rfl ?_
      refine pm_callV (As := [.int za]) (rest := [.ref (B + 0)]) hG hR dX11_go_41 (lkX11_146 _ rfl) okV_X7_isInTown rfl rfl (c_X7_isInTown (d := 2) (by decide) rfl) rfl rfl hdd (Nat.le_refl _) (Nat.le_refl _) (by first | decide | exact Nat.le_of_ble_eq_true rfl) (fx_ki ?_)
      refine pm_if_eq (tgt := 59) hG dX11_go_44 rfl (fun c5 => ?_) (fun c5 => ?_)
      · replace hE := fx_t c5 hE
        refine pm_ldc hG dX11_go_59 (ctX11_138 _ rfl) ?_
        obtain ⟨r7, h6, hE⟩ := fb_some hE
        refine pm_callV (As := [.int (-1000003)]) (rest := []) hG hR dX11_go_61 (lkX11_97 _ rfl) okV_X11_told rfl rfl (c_X11_told (d := 2) (by decide) h6) rfl rfl hdd (Nat.le_refl _) (Nat.le_refl _) (by decide) (fx_ki ?_)
        exact pm_iret hG hF dX11_go_64 rfl (Nat.le_refl _) (Nat.le_refl _) (fx_ric hE)
      · replace hE := fx_f c5 hE
        refine pm_aloadn hG dX11_go_47 rfl ?_
        refine pm_getf hG dX11_go_48 (flX11_12 _ rfl) rfl rfl ?_
        refine pm_iloadn hG dX11_go_51 rfl ?_
        refine pm_iloadn hG dX11_go_52 rfl ?_
        obtain ⟨r9, h8, hE⟩ := fb_some hE
        refine pm_callV (As := [.int za, .int zb]) (rest := [.ref (B + 0)]) hG hR dX11_go_53 (lkX11_149 _ rfl) okV_X7_setOut rfl rfl (c_X7_setOut (d := 2) (by decide) h8) rfl rfl hdd (Nat.le_refl _) (Nat.le_refl _) (by first | decide | exact Nat.le_of_ble_eq_true rfl) (fx_ki ?_)
        refine pm_goto (tgt := 61) hG dX11_go_56 rfl ?_
        obtain ⟨r11, h10, hE⟩ := fb_some hE
        refine pm_callV (As := [.int r9.1]) (rest := []) hG hR dX11_go_61 (lkX11_97 _ rfl) okV_X11_told rfl rfl (c_X11_told (d := 2) (by decide) h10) rfl rfl hdd (Nat.le_refl _) (Nat.le_refl _) (by decide) (fx_ki ?_)
        exact pm_iret hG hF dX11_go_64 rfl (Nat.le_refl _) (Nat.le_refl _) (fx_ric hE)
    · replace hE := fx_t c4 hE
      refine pm_aloadn hG dX11_go_28 rfl ?_
      refine pm_ldc hG dX11_go_29 (ctX11_109 _ rfl) ?_
      obtain ⟨r13, h12, hE⟩ := fb_some hE
      refine pm_callV (As := [.int (-1000001)]) (rest := []) hG hR dX11_go_31 (lkX11_97 _ rfl) okV_X11_told rfl rfl (c_X11_told (d := 2) (by decide) h12) rfl rfl hdd (Nat.le_refl _) (Nat.le_refl _) (by decide) (fx_ki ?_)
      exact pm_iret hG hF dX11_go_34 rfl (Nat.le_refl _) (Nat.le_refl _) (fx_ric hE)

set_option maxRecDepth 100000 in
set_option maxHeartbeats 4000000 in
theorem c_X11_guard {d : Nat} {B cnt : Nat} {kp : Value} {ρ : pm_S} {S : FS} {za : Int32} {zb : Int32} {R : Int32 × FS} (hdd : 2 ≤ d) (hE : f_X11_guard S za zb = some R) : pm_met mX11_guard d 0 0 B [.ref (B + 0), .int za, .int zb] cnt (cst B kp S ρ) (pm_Qi (fun v σ' cnt' => v = R.1 ∧ σ' = (cst B kp R.2 ρ) ∧ cnt' = cnt)) := by
  refine pm_enter 0 (by decide) (Nat.le_of_ble_eq_true rfl) rfl (fun G hG hR hF => ?_)
  unfold f_X11_guard at hE
  refine pm_iloadn hG dX11_guard_0 rfl ?_
  refine pm_iconst (v := 0) hG dX11_guard_1 (by decide) ?_
  refine pm_iconst (v := 4) hG dX11_guard_2 (by decide) ?_
  refine pm_callS (As := [.int za, .int 0, .int 4]) (rest := []) hG hR dX11_guard_3 (lkX11_105 _ rfl) okS_X11_isOutside (tOut (d := 1)) rfl rfl hdd (Nat.le_refl _) (Nat.le_refl _) (by decide) (fx_ki ?_)
  refine pm_if_ne (tgt := 19) hG dX11_guard_6 rfl (fun c1 => ?_) (fun c1 => ?_)
  · replace hE := fx_f c1 hE
    refine pm_aloadn hG dX11_guard_19 rfl ?_
    refine pm_ldc hG dX11_guard_20 (ctX11_109 _ rfl) ?_
    obtain ⟨r3, h2, hE⟩ := fb_some hE
    refine pm_callV (As := [.int (-1000001)]) (rest := []) hG hR dX11_guard_22 (lkX11_97 _ rfl) okV_X11_told rfl rfl (c_X11_told (d := 1) (by decide) h2) rfl rfl hdd (Nat.le_refl _) (Nat.le_refl _) (by decide) (fx_ki ?_)
    exact pm_iret hG hF dX11_guard_25 rfl (Nat.le_refl _) (Nat.le_refl _) (fx_ric hE)
  · replace hE := fx_t c1 hE
    refine pm_iloadn hG dX11_guard_9 rfl ?_
    refine pm_iconst (v := 0) hG dX11_guard_10 (by decide) ?_
    refine pm_bipush (v := 6) hG dX11_guard_11 (by decide) ?_
    refine pm_callS (As := [.int zb, .int 0, .int 6]) (rest := []) hG hR dX11_guard_13 (lkX11_105 _ rfl) okS_X11_isOutside (tOut (d := 1)) rfl rfl hdd (Nat.le_refl _) (Nat.le_refl _) (by decide) (fx_ki ?_)
    refine pm_if_eq (tgt := 26) hG dX11_guard_16 rfl (fun c4 => ?_) (fun c4 => ?_)
    · replace hE := fx_t c4 hE
      refine pm_aloadn hG dX11_guard_26 rfl ?_
      refine pm_getf hG dX11_guard_27 (flX11_12 _ rfl) rfl rfl ?_
      refine pm_getf hG dX11_guard_30 (flX11_311 _ rfl) rfl rfl ?_
      refine pm_iloadn hG dX11_guard_33 rfl ?_
      refine pm_iconst (v := 0) hG dX11_guard_34 (by decide) ?_
      refine pm_iloadn hG dX11_guard_35 rfl ?_
      refine pm_callV (As := [.int za, .int 0, .int zb]) (rest := []) hG hR dX11_guard_36 (lkX11_248 _ rfl) okV_X9_swap rfl rfl (tswap_20 (d := 1) (by decide)) rfl rfl hdd (Nat.le_refl _) (Nat.le_refl _) (by decide) (fx_ki ?_)
      refine fx_letc hE (fun S5 hE => ?_)
      exact pm_iret hG hF dX11_guard_39 rfl (Nat.le_refl _) (Nat.le_refl _) (fx_ric hE)
    · replace hE := fx_f c4 hE
      refine pm_aloadn hG dX11_guard_19 rfl ?_
      refine pm_ldc hG dX11_guard_20 (ctX11_109 _ rfl) ?_
      obtain ⟨r7, h6, hE⟩ := fb_some hE
      refine pm_callV (As := [.int (-1000001)]) (rest := []) hG hR dX11_guard_22 (lkX11_97 _ rfl) okV_X11_told rfl rfl (c_X11_told (d := 1) (by decide) h6) rfl rfl hdd (Nat.le_refl _) (Nat.le_refl _) (by decide) (fx_ki ?_)
      exact pm_iret hG hF dX11_guard_25 rfl (Nat.le_refl _) (Nat.le_refl _) (fx_ric hE)

set_option maxRecDepth 100000 in
set_option maxHeartbeats 4000000 in
theorem c_X4_isFollower {d : Nat} {B cnt : Nat} {kp : Value} {ρ : pm_S} {S : FS} {za : Int32} {R : Int32 × FS} (hdd : 5 ≤ d) (hE : f_X4_isFollower S za = some R) : pm_met mX4_isFollower d 0 0 B [.ref (B + 37), .int za] cnt (cst B kp S ρ) (pm_Qi (fun v σ' cnt' => v = R.1 ∧ σ' = (cst B kp R.2 ρ) ∧ cnt' = cnt)) := by
  refine pm_enter 0 (by decide) (Nat.le_of_ble_eq_true rfl) rfl (fun G hG hR hF => ?_)
  unfold f_X4_isFollower at hE
  refine pm_aloadn hG dX4_isFollower_0 rfl ?_
  refine pm_getf hG dX4_isFollower_1 (flX4_9 _ rfl) rfl rfl ?_
  refine pm_iloadn hG dX4_isFollower_4 rfl ?_
  refine pm_callV (As := [.int za]) (rest := []) hG hR dX4_isFollower_5 (lkX4_56 _ rfl) okV_X7_isLiving rfl rfl (c_X7_isLiving (d := 4) (by decide) rfl) rfl rfl hdd (Nat.le_refl _) (Nat.le_refl _) (by decide) (fx_ki ?_)
  refine pm_if_eq (tgt := 60) hG dX4_isFollower_8 rfl (fun c1 => ?_) (fun c1 => ?_)
  · replace hE := fx_t c1 hE
    refine pm_iconst (v := 0) hG dX4_isFollower_60 (by decide) ?_
    exact pm_zret hG hF dX4_isFollower_61 rfl (by rfl) (Nat.le_refl _) (Nat.le_refl _) (fx_ric hE)
  · replace hE := fx_f c1 hE
    refine pm_aloadn hG dX4_isFollower_11 rfl ?_
    refine pm_getf hG dX4_isFollower_12 (flX4_9 _ rfl) rfl rfl ?_
    refine pm_getf hG dX4_isFollower_15 (flX4_31 _ rfl) rfl rfl ?_
    refine pm_iloadn hG dX4_isFollower_18 rfl ?_
    refine pm_bipush (v := 11) hG dX4_isFollower_19 (by decide) ?_
    refine pm_callV (As := [.int za, .int 11]) (rest := []) hG hR dX4_isFollower_21 (lkX4_51 _ rfl) okV_X9_get rfl rfl (tget_6 (d := 4)) rfl rfl hdd (Nat.le_refl _) (Nat.le_refl _) (by decide) (fx_ki ?_)
    refine pm_bipush (v := 99) hG dX4_isFollower_24 (by decide) ?_
    refine pm_icmp_eq (tgt := 60) hG dX4_isFollower_26 rfl (fun c2 => ?_) (fun c2 => ?_)
    · replace hE := fx_t c2 hE
      refine pm_iconst (v := 0) hG dX4_isFollower_60 (by decide) ?_
      exact pm_zret hG hF dX4_isFollower_61 rfl (by rfl) (Nat.le_refl _) (Nat.le_refl _) (fx_ric hE)
    · replace hE := fx_f c2 hE
      refine pm_aloadn hG dX4_isFollower_29 rfl ?_
      refine pm_getf hG dX4_isFollower_30 (flX4_15 _ rfl) rfl rfl ?_
      refine pm_iconst (v := 2) hG dX4_isFollower_33 (by decide) ?_
      refine pm_aloadn hG dX4_isFollower_34 rfl ?_
      refine pm_getf hG dX4_isFollower_35 (flX4_9 _ rfl) rfl rfl ?_
      refine pm_getf hG dX4_isFollower_38 (flX4_59 _ rfl) rfl rfl ?_
      refine pm_aloadn hG dX4_isFollower_41 rfl ?_
      refine pm_getf hG dX4_isFollower_42 (flX4_9 _ rfl) rfl rfl ?_
      refine pm_getf hG dX4_isFollower_45 (flX4_59 _ rfl) rfl rfl ?_
      refine pm_iloadn hG dX4_isFollower_48 rfl ?_
      refine pm_iconst (v := (-1)) hG dX4_isFollower_49 (by decide) ?_
      obtain ⟨r4, h3, hE⟩ := fb_some hE
      refine pm_callV (As := [.int 2, .int (S.1 102), .int (S.1 102), .int za, .int (-1)]) (rest := []) hG hR dX4_isFollower_50 (lkX4_63 _ rfl) okV_X2_ruling rfl rfl (c_X2_ruling (d := 4) (by decide) h3) rfl rfl hdd (Nat.le_refl _) (Nat.le_refl _) (by decide) (fx_ki ?_)
      refine pm_if_eq (tgt := 60) hG dX4_isFollower_53 rfl (fun c5 => ?_) (fun c5 => ?_)
      · replace hE := fx_t c5 hE
        refine pm_iconst (v := 0) hG dX4_isFollower_60 (by decide) ?_
        exact pm_zret hG hF dX4_isFollower_61 rfl (by rfl) (Nat.le_refl _) (Nat.le_refl _) (fx_ric hE)
      · replace hE := fx_f c5 hE
        refine pm_iconst (v := 1) hG dX4_isFollower_56 (by decide) ?_
        refine pm_goto (tgt := 61) hG dX4_isFollower_57 rfl ?_
        exact pm_zret hG hF dX4_isFollower_61 rfl (by rfl) (Nat.le_refl _) (Nat.le_refl _) (fx_ric hE)

set_option maxRecDepth 100000 in
set_option maxHeartbeats 4000000 in
theorem c_X4_isAhead {d : Nat} {B cnt : Nat} {kp : Value} {ρ : pm_S} {S : FS} {za : Int32} {zb : Int32} {R : Int32} (hdd : 1 ≤ d) (hE : p_X4_isAhead S za zb = R) : pm_met mX4_isAhead d 0 0 B [.ref (B + 37), .int za, .int zb] cnt (cst B kp S ρ) (pm_Qi (fun v σ' cnt' => v = R ∧ σ' = (cst B kp S ρ) ∧ cnt' = cnt)) := by
  refine pm_enter 2 (by decide) (Nat.le_of_ble_eq_true rfl) rfl (fun G hG hR hF => ?_)
  unfold p_X4_isAhead at hE
  refine pm_aloadn hG dX4_isAhead_0 rfl ?_
  refine pm_getf hG dX4_isAhead_1 (flX4_9 _ rfl) rfl rfl ?_
  refine pm_getf hG dX4_isAhead_4 (flX4_31 _ rfl) rfl rfl ?_
  refine pm_iloadn hG dX4_isAhead_7 rfl ?_
  refine pm_bipush (v := 11) hG dX4_isAhead_8 (by decide) ?_
  refine pm_callV (As := [.int za, .int 11]) (rest := []) hG hR dX4_isAhead_10 (lkX4_51 _ rfl) okV_X9_get rfl rfl (tget_6 (d := 0)) rfl rfl hdd (Nat.le_refl _) (Nat.le_refl _) (by decide) (fx_ki ?_)
  refine pm_aloadn hG dX4_isAhead_13 rfl ?_
  refine pm_getf hG dX4_isAhead_14 (flX4_9 _ rfl) rfl rfl ?_
  refine pm_getf hG dX4_isAhead_17 (flX4_31 _ rfl) rfl rfl ?_
  refine pm_iloadn hG dX4_isAhead_20 rfl ?_
  refine pm_bipush (v := 11) hG dX4_isAhead_21 (by decide) ?_
  refine pm_callV (As := [.int zb, .int 11]) (rest := [.int (fG 6 20 14 S za 11)]) hG hR dX4_isAhead_23 (lkX4_51 _ rfl) okV_X9_get rfl rfl (tget_6 (d := 0)) rfl rfl hdd (Nat.le_refl _) (Nat.le_refl _) (by first | decide | exact Nat.le_of_ble_eq_true rfl) (fx_ki ?_)
  refine pm_isub hG dX4_isAhead_26 ?_
  refine fx_letv hE (fun x1 hE => ?_)
  refine pm_istoreXn (loc' := [some (.ref (B + 37)), some (.int za), some (.int zb), some (.int x1), none]) hG dX4_isAhead_27 (by decide) (pm_c1b rfl) rfl ?_
  refine pm_aloadn hG dX4_isAhead_28 rfl ?_
  refine pm_getf hG dX4_isAhead_29 (flX4_9 _ rfl) rfl rfl ?_
  refine pm_getf hG dX4_isAhead_32 (flX4_31 _ rfl) rfl rfl ?_
  refine pm_iloadn hG dX4_isAhead_35 rfl ?_
  refine pm_iconst (v := 1) hG dX4_isAhead_36 (by decide) ?_
  refine pm_callV (As := [.int za, .int 1]) (rest := []) hG hR dX4_isAhead_37 (lkX4_51 _ rfl) okV_X9_get rfl rfl (tget_6 (d := 0)) rfl rfl hdd (Nat.le_refl _) (Nat.le_refl _) (by decide) (fx_ki ?_)
  refine pm_aloadn hG dX4_isAhead_40 rfl ?_
  refine pm_getf hG dX4_isAhead_41 (flX4_9 _ rfl) rfl rfl ?_
  refine pm_getf hG dX4_isAhead_44 (flX4_31 _ rfl) rfl rfl ?_
  refine pm_iloadn hG dX4_isAhead_47 rfl ?_
  refine pm_iconst (v := 1) hG dX4_isAhead_48 (by decide) ?_
  refine pm_callV (As := [.int zb, .int 1]) (rest := [.int (fG 6 20 14 S za 1)]) hG hR dX4_isAhead_49 (lkX4_51 _ rfl) okV_X9_get rfl rfl (tget_6 (d := 0)) rfl rfl hdd (Nat.le_refl _) (Nat.le_refl _) (by first | decide | exact Nat.le_of_ble_eq_true rfl) (fx_ki ?_)
  refine pm_isub hG dX4_isAhead_52 ?_
  refine fx_letv hE (fun x2 hE => ?_)
  refine pm_istoreXi (loc' := [some (.ref (B + 37)), some (.int za), some (.int zb), some (.int x1), some (.int x2)]) hG dX4_isAhead_53 (by decide) (pm_c1b rfl) rfl ?_
  refine pm_iloadn hG dX4_isAhead_55 rfl ?_
  refine pm_if_lt (tgt := 68) hG dX4_isAhead_56 rfl (fun c3 => ?_) (fun c3 => ?_)
  · replace hE := fx_t c3 hE
    refine pm_iconst (v := 1) hG dX4_isAhead_68 (by decide) ?_
    refine pm_goto (tgt := 73) hG dX4_isAhead_69 rfl ?_
    exact pm_zret hG hF dX4_isAhead_73 rfl (by rfl) (Nat.le_refl _) (Nat.le_refl _) (fx_pi hE)
  · replace hE := fx_f c3 hE
    refine pm_iloadn hG dX4_isAhead_59 rfl ?_
    refine pm_if_ne (tgt := 72) hG dX4_isAhead_60 rfl (fun c4 => ?_) (fun c4 => ?_)
    · replace hE := fx_f c4 hE
      refine pm_iconst (v := 0) hG dX4_isAhead_72 (by decide) ?_
      exact pm_zret hG hF dX4_isAhead_73 rfl (by rfl) (Nat.le_refl _) (Nat.le_refl _) (fx_pi hE)
    · replace hE := fx_t c4 hE
      refine pm_iloadi hG dX4_isAhead_63 rfl ?_
      refine pm_if_ge (tgt := 72) hG dX4_isAhead_65 rfl (fun c5 => ?_) (fun c5 => ?_)
      · replace c5 := Int32.not_lt.mpr c5
        replace hE := fx_f c5 hE
        refine pm_iconst (v := 0) hG dX4_isAhead_72 (by decide) ?_
        exact pm_zret hG hF dX4_isAhead_73 rfl (by rfl) (Nat.le_refl _) (Nat.le_refl _) (fx_pi hE)
      · replace c5 := Int32.not_le.mp c5
        replace hE := fx_t c5 hE
        refine pm_iconst (v := 1) hG dX4_isAhead_68 (by decide) ?_
        refine pm_goto (tgt := 73) hG dX4_isAhead_69 rfl ?_
        exact pm_zret hG hF dX4_isAhead_73 rfl (by rfl) (Nat.le_refl _) (Nat.le_refl _) (fx_pi hE)

set_option maxRecDepth 100000 in
set_option maxHeartbeats 4000000 in
theorem c_X4_enqueue {d : Nat} {B cnt : Nat} {kp : Value} {ρ : pm_S} {S : FS} {za : Int32} {R : Int32 × FS} (hdd : 2 ≤ d) (hE : f_X4_enqueue S za = some R) : pm_met mX4_enqueue d 0 0 B [.ref (B + 37), .int za] cnt (cst B kp S ρ) (pm_Qv (fun σ' cnt' => σ' = (cst B kp R.2 ρ) ∧ cnt' = cnt)) := by
  refine pm_enter 2 (by decide) (Nat.le_of_ble_eq_true rfl) rfl (fun G hG hR hF => ?_)
  unfold f_X4_enqueue at hE
  refine pm_aloadn hG dX4_enqueue_0 rfl ?_
  refine pm_getf hG dX4_enqueue_1 (flX4_24 _ rfl) rfl rfl ?_
  refine pm_iloadn hG dX4_enqueue_4 rfl ?_
  obtain ⟨r2, h1, hE⟩ := fb_some hE
  refine pm_callV (As := [.int za]) (rest := []) hG hR dX4_enqueue_5 (lkX4_69 _ rfl) okV_X9_append rfl rfl (tappend_38 (d := 1) (by decide) h1) rfl rfl hdd (Nat.le_refl _) (Nat.le_refl _) (by decide) (fx_ki ?_)
  refine pm_istoreXn (loc' := [some (.ref (B + 37)), some (.int za), some (.int r2.1), none]) hG dX4_enqueue_8 (by decide) (pm_c1b rfl) rfl ?_
  refine pm_iloadn hG dX4_enqueue_9 rfl ?_
  refine pm_istoreXn (loc' := [some (.ref (B + 37)), some (.int za), some (.int r2.1), some (.int r2.1)]) hG dX4_enqueue_10 (by decide) (pm_c1b rfl) rfl ?_
  have loop11 : ∀ (k11 : FS → Int32 → Option (Int32 × FS)), (∀ (S3 : FS) (x3_3 : Int32), k11 S3  x3_3 = some R → pm_wp mX4_enqueue G B 72 [some (.ref (B + 37)), some (.int za), some (.int r2.1), some (.int x3_3)] [] 0 0 cnt (cst B kp S3 ρ)) → ∀ (m11 : Nat) (S3 : FS) (x3_3 : Int32), l_X4_enqueue_11 za k11 m11 S3  x3_3 = some R → pm_wp mX4_enqueue G B 11 [some (.ref (B + 37)), some (.int za), some (.int r2.1), some (.int x3_3)] [] 0 0 cnt (cst B kp S3 ρ) := by
    intro k11 hk11 m11
    induction m11 with
    | zero => intro S3  x3_3 hE; exact fx_no hE
    | succ m11 ih11 =>
      intro S3  x3_3 hE
      rw [l_X4_enqueue_11] at hE
      refine pm_iloadn hG dX4_enqueue_11 rfl ?_
      refine pm_if_le (tgt := 72) hG dX4_enqueue_12 rfl (fun c4 => ?_) (fun c4 => ?_)
      · replace c4 := Int32.not_lt.mpr c4
        replace hE := fx_f c4 hE
        exact hk11 _ _ hE
      · replace c4 := Int32.not_le.mp c4
        replace hE := fx_t c4 hE
        refine pm_aloadn hG dX4_enqueue_15 rfl ?_
        refine pm_iloadn hG dX4_enqueue_16 rfl ?_
        refine pm_aloadn hG dX4_enqueue_17 rfl ?_
        refine pm_getf hG dX4_enqueue_18 (flX4_24 _ rfl) rfl rfl ?_
        refine pm_iloadn hG dX4_enqueue_21 rfl ?_
        refine pm_iconst (v := 1) hG dX4_enqueue_22 (by decide) ?_
        refine pm_isub hG dX4_enqueue_23 ?_
        refine pm_iconst (v := 0) hG dX4_enqueue_24 (by decide) ?_
        refine pm_callV (As := [.int (x3_3 - 1), .int 0]) (rest := [.int za, .ref (B + 37)]) hG hR dX4_enqueue_25 (lkX4_51 _ rfl) okV_X9_get rfl rfl (tget_38 (d := 1)) rfl rfl hdd (Nat.le_refl _) (Nat.le_refl _) (by first | decide | exact Nat.le_of_ble_eq_true rfl) (fx_ki ?_)
        refine pm_callV (As := [.int za, .int (fG 38 20 1 S3 (x3_3 - 1) 0)]) (rest := []) hG hR dX4_enqueue_28 (lkX4_73 _ rfl) okV_X4_isAhead rfl rfl (c_X4_isAhead (d := 1) (by decide) rfl) rfl rfl hdd (Nat.le_refl _) (Nat.le_refl _) (by decide) (fx_ki ?_)
        refine pm_if_eq (tgt := 72) hG dX4_enqueue_31 rfl (fun c5 => ?_) (fun c5 => ?_)
        · replace hE := fx_t c5 hE
          exact hk11 _ _ hE
        · replace hE := fx_f c5 hE
          refine pm_aloadn hG dX4_enqueue_34 rfl ?_
          refine pm_getf hG dX4_enqueue_35 (flX4_24 _ rfl) rfl rfl ?_
          refine pm_iloadn hG dX4_enqueue_38 rfl ?_
          refine pm_iconst (v := 0) hG dX4_enqueue_39 (by decide) ?_
          refine pm_aloadn hG dX4_enqueue_40 rfl ?_
          refine pm_getf hG dX4_enqueue_41 (flX4_24 _ rfl) rfl rfl ?_
          refine pm_iloadn hG dX4_enqueue_44 rfl ?_
          refine pm_iconst (v := 1) hG dX4_enqueue_45 (by decide) ?_
          refine pm_isub hG dX4_enqueue_46 ?_
          refine pm_iconst (v := 0) hG dX4_enqueue_47 (by decide) ?_
          refine pm_callV (As := [.int (x3_3 - 1), .int 0]) (rest := [.int 0, .int x3_3, .ref (B + 38)]) hG hR dX4_enqueue_48 (lkX4_51 _ rfl) okV_X9_get rfl rfl (tget_38 (d := 1)) rfl rfl hdd (Nat.le_refl _) (Nat.le_refl _) (by first | decide | exact Nat.le_of_ble_eq_true rfl) (fx_ki ?_)
          refine pm_callV (As := [.int x3_3, .int 0, .int (fG 38 20 1 S3 (x3_3 - 1) 0)]) (rest := []) hG hR dX4_enqueue_51 (lkX4_77 _ rfl) okV_X9_set rfl rfl (tset_38 (d := 1)) rfl rfl hdd (Nat.le_refl _) (Nat.le_refl _) (by decide) (fx_kv ?_)
          refine fx_letc hE (fun S6 hE => ?_)
          refine pm_aloadn hG dX4_enqueue_54 rfl ?_
          refine pm_getf hG dX4_enqueue_55 (flX4_24 _ rfl) rfl rfl ?_
          refine pm_iloadn hG dX4_enqueue_58 rfl ?_
          refine pm_iconst (v := 1) hG dX4_enqueue_59 (by decide) ?_
          refine pm_isub hG dX4_enqueue_60 ?_
          refine pm_iconst (v := 0) hG dX4_enqueue_61 (by decide) ?_
          refine pm_iloadn hG dX4_enqueue_62 rfl ?_
          refine pm_callV (As := [.int (x3_3 - 1), .int 0, .int za]) (rest := []) hG hR dX4_enqueue_63 (lkX4_77 _ rfl) okV_X9_set rfl rfl (tset_38 (d := 1)) rfl rfl hdd (Nat.le_refl _) (Nat.le_refl _) (by decide) (fx_kv ?_)
          refine fx_letc hE (fun S7 hE => ?_)
          refine pm_iincX (v := x3_3 + (-1)) (loc' := [some (.ref (B + 37)), some (.int za), some (.int r2.1), some (.int (x3_3 + (-1)))]) hG dX4_enqueue_66 rfl (by rfl) (by decide) (pm_c1b rfl) rfl ?_
          refine pm_goto (tgt := 11) hG dX4_enqueue_69 rfl ?_
          exact ih11 _ _ hE
  refine loop11 _ (fun S8 x8_3 hE => ?_) _ _ _ hE
  exact pm_vret hG hF dX4_enqueue_72 rfl (Nat.le_refl _) (Nat.le_refl _) (fx_rvc hE)
end
