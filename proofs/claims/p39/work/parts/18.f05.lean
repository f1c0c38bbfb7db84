set_option maxRecDepth 100000 in
set_option maxHeartbeats 4000000 in
theorem c_X11_cause {d : Nat} {B cnt : Nat} {kp : Value} {ρ : pm_S} {S : FS} {za : Int32} {zb : Int32} {R : Int32 × FS} (hdd : 6 ≤ d) (hE : f_X11_cause S za zb = some R) : pm_met mX11_cause d 0 0 B [.ref (B + 0), .int za, .int zb] cnt (cst B kp S ρ) (pm_Qi (fun v σ' cnt' => v = R.1 ∧ σ' = (cst B kp R.2 ρ) ∧ cnt' = cnt)) := by
  refine pm_enter 0 (by decide) (Nat.le_of_ble_eq_true rfl) rfl (fun G hG hR hF => ?_)
  unfold f_X11_cause at hE
  refine pm_iloadn hG dX11_cause_0 rfl ?_
  refine pm_iconst (v := 0) hG dX11_cause_1 (by decide) ?_
  refine pm_iconst (v := 5) hG dX11_cause_2 (by decide) ?_
  refine pm_callS (As := [.int za, .int 0, .int 5]) (rest := []) hG hR dX11_cause_3 (lkX11_105 _ rfl) okS_X11_isOutside (tOut (d := 5)) rfl rfl hdd (Nat.le_refl _) (Nat.le_refl _) (by decide) (fx_ki ?_)
  refine pm_if_ne (tgt := 18) hG dX11_cause_6 rfl (fun c1 => ?_) (fun c1 => ?_)
  · replace hE := fx_f c1 hE
    refine pm_aloadn hG dX11_cause_18 rfl ?_
    refine pm_ldc hG dX11_cause_19 (ctX11_109 _ rfl) ?_
    obtain ⟨r3, h2, hE⟩ := fb_some hE
    refine pm_callV (As := [.int (-1000001)]) (rest := []) hG hR dX11_cause_21 (lkX11_97 _ rfl) okV_X11_told rfl rfl (c_X11_told (d := 5) (by decide) h2) rfl rfl hdd (Nat.le_refl _) (Nat.le_refl _) (by decide) (fx_ki ?_)
    exact pm_iret hG hF dX11_cause_24 rfl (Nat.le_refl _) (Nat.le_refl _) (fx_ric hE)
  · replace hE := fx_t c1 hE
    refine pm_iloadn hG dX11_cause_9 rfl ?_
    refine pm_iconst (v := 0) hG dX11_cause_10 (by decide) ?_
    refine pm_iconst (v := 3) hG dX11_cause_11 (by decide) ?_
    refine pm_callS (As := [.int zb, .int 0, .int 3]) (rest := []) hG hR dX11_cause_12 (lkX11_105 _ rfl) okS_X11_isOutside (tOut (d := 5)) rfl rfl hdd (Nat.le_refl _) (Nat.le_refl _) (by decide) (fx_ki ?_)
    refine pm_if_eq (tgt := 25) hG dX11_cause_15 rfl (fun c4 => ?_) (fun c4 => ?_)
    · replace hE := fx_t c4 hE
      refine pm_iloadn hG dX11_cause_25 rfl ?_
      refine pm_iconst (v := 3) hG dX11_cause_26 (by decide) ?_
      refine pm_icmp_ne (tgt := 39) hG dX11_cause_27 rfl (fun c5 => ?_) (fun c5 => ?_)
      · replace hE := fx_f c5 hE
        refine pm_aloadn hG dX11_cause_39 rfl ?_
        refine pm_getf hG dX11_cause_40 (flX11_30 _ rfl) rfl rfl ?_
        refine pm_iloadn hG dX11_cause_43 rfl ?_
        obtain ⟨r7, h6, hE⟩ := fb_some hE
        refine pm_callV (As := [.int za]) (rest := []) hG hR dX11_cause_44 (lkX11_290 _ rfl) okV_X0_weigh rfl rfl (c_X0_weigh (d := 5) (by decide) h6) rfl rfl hdd (Nat.le_refl _) (Nat.le_refl _) (by decide) (fx_kv ?_)
        refine pm_iloadn hG dX11_cause_47 rfl ?_
        by_cases c8 : zb = 0
        · replace hE := fx_t c8 hE
          refine pm_top (v := 0) c8 ?_
          refine pm_lsw (off := 28) (tgt := 76) hG dX11_cause_48 (by decide) (by decide) rfl ?_
          refine pm_aloadn hG dX11_cause_76 rfl ?_
          refine pm_getf hG dX11_cause_77 (flX11_30 _ rfl) rfl rfl ?_
          refine pm_getf hG dX11_cause_80 (flX11_293 _ rfl) rfl rfl ?_
          exact pm_iret hG hF dX11_cause_83 rfl (Nat.le_refl _) (Nat.le_refl _) (fx_ric hE)
        replace hE := fx_f c8 hE
        by_cases c9 : zb = 1
        · replace hE := fx_t c9 hE
          refine pm_top (v := 1) c9 ?_
          refine pm_lsw (off := 36) (tgt := 84) hG dX11_cause_48 (by decide) (by decide) rfl ?_
          refine pm_aloadn hG dX11_cause_84 rfl ?_
          refine pm_getf hG dX11_cause_85 (flX11_30 _ rfl) rfl rfl ?_
          refine pm_getf hG dX11_cause_88 (flX11_296 _ rfl) rfl rfl ?_
          exact pm_iret hG hF dX11_cause_91 rfl (Nat.le_refl _) (Nat.le_refl _) (fx_ric hE)
        replace hE := fx_f c9 hE
        have tc8 : ¬ zb.toInt = 0 := fun q => c8 (Int32.toInt_inj.mp q)
        have tc9 : ¬ zb.toInt = 1 := fun q => c9 (Int32.toInt_inj.mp q)
        refine pm_lsw (off := 44) (tgt := 92) hG dX11_cause_48 (by decide) (by simp [Op.lookupswitch.offset, tc8, Ne.symm tc8, tc9, Ne.symm tc9]) rfl ?_
        refine pm_aloadn hG dX11_cause_92 rfl ?_
        refine pm_getf hG dX11_cause_93 (flX11_30 _ rfl) rfl rfl ?_
        refine pm_iconst (v := 0) hG dX11_cause_96 (by decide) ?_
        refine pm_callV (As := [.int 0]) (rest := []) hG hR dX11_cause_97 (lkX11_299 _ rfl) okV_X0_isCarriedWith rfl rfl (c_X0_isCarriedWith (d := 5) (by decide) rfl) rfl rfl hdd (Nat.le_refl _) (Nat.le_refl _) (by decide) (fx_ki ?_)
        refine pm_if_eq (tgt := 107) hG dX11_cause_100 rfl (fun c10 => ?_) (fun c10 => ?_)
        · replace hE := fx_t c10 hE
          refine pm_iconst (v := 0) hG dX11_cause_107 (by decide) ?_
          exact pm_iret hG hF dX11_cause_108 rfl (Nat.le_refl _) (Nat.le_refl _) (fx_ric hE)
        · replace hE := fx_f c10 hE
          refine pm_iconst (v := 1) hG dX11_cause_103 (by decide) ?_
          refine pm_goto (tgt := 108) hG dX11_cause_104 rfl ?_
          exact pm_iret hG hF dX11_cause_108 rfl (Nat.le_refl _) (Nat.le_refl _) (fx_ric hE)
      · replace hE := fx_t c5 hE
        refine pm_aloadn hG dX11_cause_30 rfl ?_
        refine pm_getf hG dX11_cause_31 (flX11_30 _ rfl) rfl rfl ?_
        refine pm_iloadn hG dX11_cause_34 rfl ?_
        obtain ⟨x12, h11, hE⟩ := fb_some hE
        refine pm_callV (As := [.int za]) (rest := []) hG hR dX11_cause_35 (lkX11_287 _ rfl) okV_X0_firstBroken rfl rfl (c_X0_firstBroken (d := 5) (by decide) h11) rfl rfl hdd (Nat.le_refl _) (Nat.le_refl _) (by decide) (fx_ki ?_)
        exact pm_iret hG hF dX11_cause_38 rfl (Nat.le_refl _) (Nat.le_refl _) (fx_ric hE)
    · replace hE := fx_f c4 hE
      refine pm_aloadn hG dX11_cause_18 rfl ?_
      refine pm_ldc hG dX11_cause_19 (ctX11_109 _ rfl) ?_
      obtain ⟨r14, h13, hE⟩ := fb_some hE
      refine pm_callV (As := [.int (-1000001)]) (rest := []) hG hR dX11_cause_21 (lkX11_97 _ rfl) okV_X11_told rfl rfl (c_X11_told (d := 5) (by decide) h13) rfl rfl hdd (Nat.le_refl _) (Nat.le_refl _) (by decide) (fx_ki ?_)
      exact pm_iret hG hF dX11_cause_24 rfl (Nat.le_refl _) (Nat.le_refl _) (fx_ric hE)

set_option maxRecDepth 100000 in
set_option maxHeartbeats 4000000 in
theorem c_X7_isCoinOf {d : Nat} {B cnt : Nat} {kp : Value} {ρ : pm_S} {S : FS} {za : Int32} {zb : Int32} {R : Int32} (hdd : 1 ≤ d) (hE : p_X7_isCoinOf S za zb = R) : pm_met mX7_isCoinOf d 0 0 B [.ref (B + 1), .int za, .int zb] cnt (cst B kp S ρ) (pm_Qi (fun v σ' cnt' => v = R ∧ σ' = (cst B kp S ρ) ∧ cnt' = cnt)) := by
  refine pm_enter 0 (by decide) (Nat.le_of_ble_eq_true rfl) rfl (fun G hG hR hF => ?_)
  unfold p_X7_isCoinOf at hE
  refine pm_aloadn hG dX7_isCoinOf_0 rfl ?_
  refine pm_getf hG dX7_isCoinOf_1 (flX7_23 _ rfl) rfl rfl ?_
  refine pm_iloadn hG dX7_isCoinOf_4 rfl ?_
  refine pm_callV (As := [.int za]) (rest := []) hG hR dX7_isCoinOf_5 (lkX7_93 _ rfl) okV_X9_has rfl rfl (thas_6 (d := 0)) rfl rfl hdd (Nat.le_refl _) (Nat.le_refl _) (by decide) (fx_ki ?_)
  refine pm_if_eq (tgt := 31) hG dX7_isCoinOf_8 rfl (fun c1 => ?_) (fun c1 => ?_)
  · replace hE := fx_t c1 hE
    refine pm_iloadn hG dX7_isCoinOf_31 rfl ?_
    refine pm_aloadn hG dX7_isCoinOf_32 rfl ?_
    refine pm_getf hG dX7_isCoinOf_33 (flX7_23 _ rfl) rfl rfl ?_
    refine pm_callV (As := []) (rest := [.int za]) hG hR dX7_isCoinOf_36 (lkX7_79 _ rfl) okV_X9_used rfl rfl (tused_6 (d := 0)) rfl rfl hdd (Nat.le_refl _) (Nat.le_refl _) (by first | decide | exact Nat.le_of_ble_eq_true rfl) (fx_ki ?_)
    refine pm_icmp_ne (tgt := 54) hG dX7_isCoinOf_39 rfl (fun c2 => ?_) (fun c2 => ?_)
    · replace hE := fx_f c2 hE
      refine pm_iconst (v := 0) hG dX7_isCoinOf_54 (by decide) ?_
      exact pm_zret hG hF dX7_isCoinOf_55 rfl (by rfl) (Nat.le_refl _) (Nat.le_refl _) (fx_pi hE)
    · replace hE := fx_t c2 hE
      refine pm_aloadn hG dX7_isCoinOf_42 rfl ?_
      refine pm_getf hG dX7_isCoinOf_43 (flX7_53 _ rfl) rfl rfl ?_
      refine pm_iloadn hG dX7_isCoinOf_46 rfl ?_
      refine pm_icmp_ne (tgt := 54) hG dX7_isCoinOf_47 rfl (fun c3 => ?_) (fun c3 => ?_)
      · replace hE := fx_f c3 hE
        refine pm_iconst (v := 0) hG dX7_isCoinOf_54 (by decide) ?_
        exact pm_zret hG hF dX7_isCoinOf_55 rfl (by rfl) (Nat.le_refl _) (Nat.le_refl _) (fx_pi hE)
      · replace hE := fx_t c3 hE
        refine pm_iconst (v := 1) hG dX7_isCoinOf_50 (by decide) ?_
        refine pm_goto (tgt := 55) hG dX7_isCoinOf_51 rfl ?_
        exact pm_zret hG hF dX7_isCoinOf_55 rfl (by rfl) (Nat.le_refl _) (Nat.le_refl _) (fx_pi hE)
  · replace hE := fx_f c1 hE
    refine pm_aloadn hG dX7_isCoinOf_11 rfl ?_
    refine pm_getf hG dX7_isCoinOf_12 (flX7_23 _ rfl) rfl rfl ?_
    refine pm_iloadn hG dX7_isCoinOf_15 rfl ?_
    refine pm_bipush (v := 7) hG dX7_isCoinOf_16 (by decide) ?_
    refine pm_callV (As := [.int za, .int 7]) (rest := []) hG hR dX7_isCoinOf_18 (lkX7_83 _ rfl) okV_X9_get rfl rfl (tget_6 (d := 0)) rfl rfl hdd (Nat.le_refl _) (Nat.le_refl _) (by decide) (fx_ki ?_)
    refine pm_iloadn hG dX7_isCoinOf_21 rfl ?_
    refine pm_icmp_ne (tgt := 29) hG dX7_isCoinOf_22 rfl (fun c4 => ?_) (fun c4 => ?_)
    · replace hE := fx_f c4 hE
      refine pm_iconst (v := 0) hG dX7_isCoinOf_29 (by decide) ?_
      exact pm_zret hG hF dX7_isCoinOf_30 rfl (by rfl) (Nat.le_refl _) (Nat.le_refl _) (fx_pi hE)
    · replace hE := fx_t c4 hE
      refine pm_iconst (v := 1) hG dX7_isCoinOf_25 (by decide) ?_
      refine pm_goto (tgt := 30) hG dX7_isCoinOf_26 rfl ?_
      exact pm_zret hG hF dX7_isCoinOf_30 rfl (by rfl) (Nat.le_refl _) (Nat.le_refl _) (fx_pi hE)

set_option maxRecDepth 100000 in
set_option maxHeartbeats 4000000 in
theorem c_X11_check {d : Nat} {B cnt : Nat} {kp : Value} {ρ : pm_S} {S : FS} {R : Int32 × FS} (hdd : 2 ≤ d) (hE : f_X11_check S = some R) : pm_met mX11_check d 0 0 B [.ref (B + 0)] cnt (cst B kp S ρ) (pm_Qi (fun v σ' cnt' => v = R.1 ∧ σ' = (cst B kp R.2 ρ) ∧ cnt' = cnt)) := by
  refine pm_enter 3 (by decide) (Nat.le_of_ble_eq_true rfl) rfl (fun G hG hR hF => ?_)
  unfold f_X11_check at hE
  refine pm_aloadn hG dX11_check_0 rfl ?_
  refine pm_getf hG dX11_check_1 (flX11_12 _ rfl) rfl rfl ?_
  refine pm_getf hG dX11_check_4 (flX11_386 _ rfl) rfl rfl ?_
  refine pm_callV (As := []) (rest := []) hG hR dX11_check_7 (lkX11_203 _ rfl) okV_X9_used rfl rfl (tused_22 (d := 1)) rfl rfl hdd (Nat.le_refl _) (Nat.le_refl _) (by decide) (fx_ki ?_)
  refine fx_letv hE (fun x1 hE => ?_)
  refine pm_istoreXn (loc' := [some (.ref (B + 0)), some (.int x1), none, none]) hG dX11_check_10 (by decide) (pm_c1b rfl) rfl ?_
  refine pm_iconst (v := 0) hG dX11_check_11 (by decide) ?_
  refine pm_istoreXn (loc' := [some (.ref (B + 0)), some (.int x1), some (.int 0), none]) hG dX11_check_12 (by decide) (pm_c1b rfl) rfl ?_
  refine pm_iconst (v := 0) hG dX11_check_13 (by decide) ?_
  refine pm_istoreXn (loc' := [some (.ref (B + 0)), some (.int x1), some (.int 0), some (.int 0)]) hG dX11_check_14 (by decide) (pm_c1b rfl) rfl ?_
  have loop15 : ∀ (k15 : FS → Int32 → Int32 → Option (Int32 × FS)), (∀ (S2 : FS) (x2_2 : Int32) (x2_3 : Int32), k15 S2  x2_2 x2_3 = some R → pm_wp mX11_check G B 57 [some (.ref (B + 0)), some (.int x1), some (.int x2_2), some (.int x2_3)] [] 0 0 cnt (cst B kp S2 ρ)) → ∀ (m15 : Nat) (S2 : FS) (x2_2 : Int32) (x2_3 : Int32), l_X11_check_15 x1 k15 m15 S2  x2_2 x2_3 = some R → pm_wp mX11_check G B 15 [some (.ref (B + 0)), some (.int x1), some (.int x2_2), some (.int x2_3)] [] 0 0 cnt (cst B kp S2 ρ) := by
    intro k15 hk15 m15
    induction m15 with
    | zero => intro S2  x2_2 x2_3 hE; exact fx_no hE
    | succ m15 ih15 =>
      intro S2  x2_2 x2_3 hE
      rw [l_X11_check_15] at hE
      refine pm_iloadn hG dX11_check_15 rfl ?_
      refine pm_iloadn hG dX11_check_16 rfl ?_
      refine pm_icmp_ge (tgt := 57) hG dX11_check_17 rfl (fun c3 => ?_) (fun c3 => ?_)
      · replace c3 := Int32.not_lt.mpr c3
        replace hE := fx_f c3 hE
        exact hk15 _ _ _ hE
      · replace c3 := Int32.not_le.mp c3
        replace hE := fx_t c3 hE
        refine pm_iloadn hG dX11_check_20 rfl ?_
        refine pm_if_ne (tgt := 57) hG dX11_check_21 rfl (fun c4 => ?_) (fun c4 => ?_)
        · replace hE := fx_f c4 hE
          exact hk15 _ _ _ hE
        · replace hE := fx_t c4 hE
          refine pm_aloadn hG dX11_check_24 rfl ?_
          refine pm_getf hG dX11_check_25 (flX11_12 _ rfl) rfl rfl ?_
          refine pm_iloadn hG dX11_check_28 rfl ?_
          refine pm_aloadn hG dX11_check_29 rfl ?_
          refine pm_getf hG dX11_check_30 (flX11_12 _ rfl) rfl rfl ?_
          refine pm_getf hG dX11_check_33 (flX11_386 _ rfl) rfl rfl ?_
          refine pm_iloadn hG dX11_check_36 rfl ?_
          refine pm_iconst (v := 0) hG dX11_check_37 (by decide) ?_
          refine pm_callV (As := [.int x2_3, .int 0]) (rest := [.int x2_3, .ref (B + 1)]) hG hR dX11_check_38 (lkX11_152 _ rfl) okV_X9_get rfl rfl (tget_22 (d := 1)) rfl rfl hdd (Nat.le_refl _) (Nat.le_refl _) (by first | decide | exact Nat.le_of_ble_eq_true rfl) (fx_ki ?_)
          refine pm_callV (As := [.int x2_3, .int (fG 22 20 1 S2 x2_3 0)]) (rest := []) hG hR dX11_check_41 (lkX11_389 _ rfl) okV_X7_isCoinOf rfl rfl (c_X7_isCoinOf (d := 1) (by decide) rfl) rfl rfl hdd (Nat.le_refl _) (Nat.le_refl _) (by decide) (fx_ki ?_)
          refine pm_if_ne (tgt := 51) hG dX11_check_44 rfl (fun c5 => ?_) (fun c5 => ?_)
          · replace hE := fx_f c5 hE
            refine pm_iincX (v := x2_3 + 1) (loc' := [some (.ref (B + 0)), some (.int x1), some (.int x2_2), some (.int (x2_3 + 1))]) hG dX11_check_51 rfl (by rfl) (by decide) (pm_c1b rfl) rfl ?_
            refine pm_goto (tgt := 15) hG dX11_check_54 rfl ?_
            exact ih15 _ _ _ hE
          · replace hE := fx_t c5 hE
            refine pm_iloadn hG dX11_check_47 rfl ?_
            refine pm_iconst (v := 1) hG dX11_check_48 (by decide) ?_
            refine pm_iadd hG dX11_check_49 ?_
            refine fx_letv hE (fun x6 hE => ?_)
            refine pm_istoreXn (loc' := [some (.ref (B + 0)), some (.int x1), some (.int x6), some (.int x2_3)]) hG dX11_check_50 (by decide) (pm_c1b rfl) rfl ?_
            refine pm_iincX (v := x2_3 + 1) (loc' := [some (.ref (B + 0)), some (.int x1), some (.int x6), some (.int (x2_3 + 1))]) hG dX11_check_51 rfl (by rfl) (by decide) (pm_c1b rfl) rfl ?_
            refine pm_goto (tgt := 15) hG dX11_check_54 rfl ?_
            exact ih15 _ _ _ hE
  refine loop15 _ (fun S7 x7_2 x7_3 hE => ?_) _ _ _ _ hE
  refine pm_aloadn hG dX11_check_57 rfl ?_
  refine pm_getf hG dX11_check_58 (flX11_12 _ rfl) rfl rfl ?_
  refine pm_getf hG dX11_check_61 (flX11_386 _ rfl) rfl rfl ?_
  refine pm_callV (As := []) (rest := []) hG hR dX11_check_64 (lkX11_392 _ rfl) okV_X9_clear rfl rfl (tclear_22 (d := 1)) rfl rfl hdd (Nat.le_refl _) (Nat.le_refl _) (by decide) (fx_kv ?_)
  refine fx_letc hE (fun S8 hE => ?_)
  refine pm_iloadn hG dX11_check_67 rfl ?_
  exact pm_iret hG hF dX11_check_68 rfl (Nat.le_refl _) (Nat.le_refl _) (fx_ric hE)

set_option maxRecDepth 100000 in
set_option maxHeartbeats 4000000 in
theorem c_X7_isLent {d : Nat} {B cnt : Nat} {kp : Value} {ρ : pm_S} {S : FS} {za : Int32} {R : Int32} (hdd : 1 ≤ d) (hE : p_X7_isLent S za = R) : pm_met mX7_isLent d 0 0 B [.ref (B + 1), .int za] cnt (cst B kp S ρ) (pm_Qi (fun v σ' cnt' => v = R ∧ σ' = (cst B kp S ρ) ∧ cnt' = cnt)) := by
  refine pm_enter 0 (by decide) (Nat.le_of_ble_eq_true rfl) rfl (fun G hG hR hF => ?_)
  unfold p_X7_isLent at hE
  refine pm_aloadn hG dX7_isLent_0 rfl ?_
  refine pm_getf hG dX7_isLent_1 (flX7_26 _ rfl) rfl rfl ?_
  refine pm_iloadn hG dX7_isLent_4 rfl ?_
  refine pm_iconst (v := 3) hG dX7_isLent_5 (by decide) ?_
  refine pm_callV (As := [.int za, .int 3]) (rest := []) hG hR dX7_isLent_6 (lkX7_83 _ rfl) okV_X9_get rfl rfl (tget_8 (d := 0)) rfl rfl hdd (Nat.le_refl _) (Nat.le_refl _) (by decide) (fx_ki ?_)
  refine pm_iconst (v := (-1)) hG dX7_isLent_9 (by decide) ?_
  refine pm_icmp_eq (tgt := 17) hG dX7_isLent_10 rfl (fun c1 => ?_) (fun c1 => ?_)
  · replace hE := fx_t c1 hE
    refine pm_iconst (v := 0) hG dX7_isLent_17 (by decide) ?_
    exact pm_zret hG hF dX7_isLent_18 rfl (by rfl) (Nat.le_refl _) (Nat.le_refl _) (fx_pi hE)
  · replace hE := fx_f c1 hE
    refine pm_iconst (v := 1) hG dX7_isLent_13 (by decide) ?_
    refine pm_goto (tgt := 18) hG dX7_isLent_14 rfl ?_
    exact pm_zret hG hF dX7_isLent_18 rfl (by rfl) (Nat.le_refl _) (Nat.le_refl _) (fx_pi hE)

set_option maxRecDepth 100000 in
set_option maxHeartbeats 4000000 in
theorem c_X7_whoHas {d : Nat} {B cnt : Nat} {kp : Value} {ρ : pm_S} {S : FS} {za : Int32} {R : Int32} (hdd : 2 ≤ d) (hE : p_X7_whoHas S za = R) : pm_met mX7_whoHas d 0 0 B [.ref (B + 1), .int za] cnt (cst B kp S ρ) (pm_Qi (fun v σ' cnt' => v = R ∧ σ' = (cst B kp S ρ) ∧ cnt' = cnt)) := by
  refine pm_enter 0 (by decide) (Nat.le_of_ble_eq_true rfl) rfl (fun G hG hR hF => ?_)
  unfold p_X7_whoHas at hE
  refine pm_aloadn hG dX7_whoHas_0 rfl ?_
  refine pm_iloadn hG dX7_whoHas_1 rfl ?_
  refine pm_callV (As := [.int za]) (rest := []) hG hR dX7_whoHas_2 (lkX7_138 _ rfl) okV_X7_isLent rfl rfl (c_X7_isLent (d := 1) (by decide) rfl) rfl rfl hdd (Nat.le_refl _) (Nat.le_refl _) (by decide) (fx_ki ?_)
  refine pm_if_eq (tgt := 20) hG dX7_whoHas_5 rfl (fun c1 => ?_) (fun c1 => ?_)
  · replace hE := fx_t c1 hE
    refine pm_aloadn hG dX7_whoHas_20 rfl ?_
    refine pm_getf hG dX7_whoHas_21 (flX7_26 _ rfl) rfl rfl ?_
    refine pm_iloadn hG dX7_whoHas_24 rfl ?_
    refine pm_iconst (v := 2) hG dX7_whoHas_25 (by decide) ?_
    refine pm_callV (As := [.int za, .int 2]) (rest := []) hG hR dX7_whoHas_26 (lkX7_83 _ rfl) okV_X9_get rfl rfl (tget_8 (d := 1)) rfl rfl hdd (Nat.le_refl _) (Nat.le_refl _) (by decide) (fx_ki ?_)
    exact pm_iret hG hF dX7_whoHas_29 rfl  (Nat.le_refl _) (Nat.le_refl _) (fx_pi hE)
  · replace hE := fx_f c1 hE
    refine pm_aloadn hG dX7_whoHas_8 rfl ?_
    refine pm_getf hG dX7_whoHas_9 (flX7_26 _ rfl) rfl rfl ?_
    refine pm_iloadn hG dX7_whoHas_12 rfl ?_
    refine pm_iconst (v := 3) hG dX7_whoHas_13 (by decide) ?_
    refine pm_callV (As := [.int za, .int 3]) (rest := []) hG hR dX7_whoHas_14 (lkX7_83 _ rfl) okV_X9_get rfl rfl (tget_8 (d := 1)) rfl rfl hdd (Nat.le_refl _) (Nat.le_refl _) (by decide) (fx_ki ?_)
    refine pm_goto (tgt := 29) hG dX7_whoHas_17 rfl ?_
    exact pm_iret hG hF dX7_whoHas_29 rfl  (Nat.le_refl _) (Nat.le_refl _) (fx_pi hE)

set_option maxRecDepth 100000 in
set_option maxHeartbeats 4000000 in
theorem c_X7_setLent {d : Nat} {B cnt : Nat} {kp : Value} {ρ : pm_S} {S : FS} {za : Int32} {zb : Int32} {zc : Int32} {R : Int32 × FS} (hdd : 1 ≤ d) (hE : f_X7_setLent S za zb zc = some R) : pm_met mX7_setLent d 0 0 B [.ref (B + 1), .int za, .int zb, .int zc] cnt (cst B kp S ρ) (pm_Qv (fun σ' cnt' => σ' = (cst B kp R.2 ρ) ∧ cnt' = cnt)) := by
  refine pm_enter 0 (by decide) (Nat.le_of_ble_eq_true rfl) rfl (fun G hG hR hF => ?_)
  unfold f_X7_setLent at hE
  refine pm_aloadn hG dX7_setLent_0 rfl ?_
  refine pm_getf hG dX7_setLent_1 (flX7_26 _ rfl) rfl rfl ?_
  refine pm_iloadn hG dX7_setLent_4 rfl ?_
  refine pm_iconst (v := 3) hG dX7_setLent_5 (by decide) ?_
  refine pm_iloadn hG dX7_setLent_6 rfl ?_
  refine pm_callV (As := [.int za, .int 3, .int zb]) (rest := []) hG hR dX7_setLent_7 (lkX7_61 _ rfl) okV_X9_set rfl rfl (tset_8 (d := 0)) rfl rfl hdd (Nat.le_refl _) (Nat.le_refl _) (by decide) (fx_kv ?_)
  refine fx_letc hE (fun S1 hE => ?_)
  refine pm_aloadn hG dX7_setLent_10 rfl ?_
  refine pm_getf hG dX7_setLent_11 (flX7_26 _ rfl) rfl rfl ?_
  refine pm_iloadn hG dX7_setLent_14 rfl ?_
  refine pm_iconst (v := 4) hG dX7_setLent_15 (by decide) ?_
  refine pm_iloadn hG dX7_setLent_16 rfl ?_
  refine pm_callV (As := [.int za, .int 4, .int zc]) (rest := []) hG hR dX7_setLent_17 (lkX7_61 _ rfl) okV_X9_set rfl rfl (tset_8 (d := 0)) rfl rfl hdd (Nat.le_refl _) (Nat.le_refl _) (by decide) (fx_kv ?_)
  refine fx_letc hE (fun S2 hE => ?_)
  exact pm_vret hG hF dX7_setLent_20 rfl (Nat.le_refl _) (Nat.le_refl _) (fx_rvc hE)

set_option maxRecDepth 100000 in
set_option maxHeartbeats 4000000 in
theorem c_X7_addPower {d : Nat} {B cnt : Nat} {kp : Value} {ρ : pm_S} {S : FS} {za : Int32} {zb : Int32} {zc : Int32} {R : Int32 × FS} (hdd : 2 ≤ d) (hE : f_X7_addPower S za zb zc = some R) : pm_met mX7_addPower d 0 0 B [.ref (B + 1), .int za, .int zb, .int zc] cnt (cst B kp S ρ) (pm_Qi (fun v σ' cnt' => v = R.1 ∧ σ' = (cst B kp R.2 ρ) ∧ cnt' = cnt)) := by
  refine pm_enter 1 (by decide) (Nat.le_of_ble_eq_true rfl) rfl (fun G hG hR hF => ?_)
  unfold f_X7_addPower at hE
  refine pm_aloadn hG dX7_addPower_0 rfl ?_
  refine pm_getf hG dX7_addPower_1 (flX7_26 _ rfl) rfl rfl ?_
  refine pm_iloadn hG dX7_addPower_4 rfl ?_
  obtain ⟨r2, h1, hE⟩ := fb_some hE
  refine pm_callV (As := [.int za]) (rest := []) hG hR dX7_addPower_5 (lkX7_75 _ rfl) okV_X9_append rfl rfl (tappend_8 (d := 1) (by decide) h1) rfl rfl hdd (Nat.le_refl _) (Nat.le_refl _) (by decide) (fx_ki ?_)
  refine pm_istoreXi (loc' := [some (.ref (B + 1)), some (.int za), some (.int zb), some (.int zc), some (.int r2.1)]) hG dX7_addPower_8 (by decide) (pm_c1b rfl) rfl ?_
  refine pm_aloadn hG dX7_addPower_10 rfl ?_
  refine pm_getf hG dX7_addPower_11 (flX7_26 _ rfl) rfl rfl ?_
  refine pm_iloadi hG dX7_addPower_14 rfl ?_
  refine pm_iconst (v := 1) hG dX7_addPower_16 (by decide) ?_
  refine pm_iloadn hG dX7_addPower_17 rfl ?_
  refine pm_callV (As := [.int r2.1, .int 1, .int zc]) (rest := []) hG hR dX7_addPower_18 (lkX7_61 _ rfl) okV_X9_set rfl rfl (tset_8 (d := 1)) rfl rfl hdd (Nat.le_refl _) (Nat.le_refl _) (by decide) (fx_kv ?_)
  refine fx_letc hE (fun S3 hE => ?_)
  refine pm_aloadn hG dX7_addPower_21 rfl ?_
  refine pm_getf hG dX7_addPower_22 (flX7_26 _ rfl) rfl rfl ?_
  refine pm_iloadi hG dX7_addPower_25 rfl ?_
  refine pm_iconst (v := 2) hG dX7_addPower_27 (by decide) ?_
  refine pm_iloadn hG dX7_addPower_28 rfl ?_
  refine pm_callV (As := [.int r2.1, .int 2, .int zb]) (rest := []) hG hR dX7_addPower_29 (lkX7_61 _ rfl) okV_X9_set rfl rfl (tset_8 (d := 1)) rfl rfl hdd (Nat.le_refl _) (Nat.le_refl _) (by decide) (fx_kv ?_)
  refine fx_letc hE (fun S4 hE => ?_)
  refine pm_aloadn hG dX7_addPower_32 rfl ?_
  refine pm_getf hG dX7_addPower_33 (flX7_26 _ rfl) rfl rfl ?_
  refine pm_iloadi hG dX7_addPower_36 rfl ?_
  refine pm_iconst (v := 5) hG dX7_addPower_38 (by decide) ?_
  refine pm_iloadn hG dX7_addPower_39 rfl ?_
  refine pm_iconst (v := 2) hG dX7_addPower_40 (by decide) ?_
  refine pm_icmp_ne (tgt := 49) hG dX7_addPower_41 rfl (fun c5 => ?_) (fun c5 => ?_)
  · replace hE := fx_f c5 hE
    refine pm_iconst (v := (-1)) hG dX7_addPower_49 (by decide) ?_
    refine pm_callV (As := [.int r2.1, .int 5, .int (-1)]) (rest := []) hG hR dX7_addPower_50 (lkX7_61 _ rfl) okV_X9_set rfl rfl (tset_8 (d := 1)) rfl rfl hdd (Nat.le_refl _) (Nat.le_refl _) (by decide) (fx_kv ?_)
    refine fx_letc hE (fun S6 hE => ?_)
    refine pm_aloadn hG dX7_addPower_53 rfl ?_
    refine pm_iloadi hG dX7_addPower_54 rfl ?_
    refine pm_iconst (v := (-1)) hG dX7_addPower_56 (by decide) ?_
    refine pm_iconst (v := (-1)) hG dX7_addPower_57 (by decide) ?_
    obtain ⟨r8, h7, hE⟩ := fb_some hE
    refine pm_callV (As := [.int r2.1, .int (-1), .int (-1)]) (rest := []) hG hR dX7_addPower_58 (lkX7_122 _ rfl) okV_X7_setLent rfl rfl (c_X7_setLent (d := 1) (by decide) h7) rfl rfl hdd (Nat.le_refl _) (Nat.le_refl _) (by decide) (fx_kv ?_)
    refine pm_iloadi hG dX7_addPower_61 rfl ?_
    exact pm_iret hG hF dX7_addPower_63 rfl (Nat.le_refl _) (Nat.le_refl _) (fx_ric hE)
  · replace hE := fx_t c5 hE
    refine pm_iloadi hG dX7_addPower_44 rfl ?_
    refine pm_goto (tgt := 50) hG dX7_addPower_46 rfl ?_
    refine pm_callV (As := [.int r2.1, .int 5, .int r2.1]) (rest := []) hG hR dX7_addPower_50 (lkX7_61 _ rfl) okV_X9_set rfl rfl (tset_8 (d := 1)) rfl rfl hdd (Nat.le_refl _) (Nat.le_refl _) (by decide) (fx_kv ?_)
    refine fx_letc hE (fun S9 hE => ?_)
    refine pm_aloadn hG dX7_addPower_53 rfl ?_
    refine pm_iloadi hG dX7_addPower_54 rfl ?_
    refine pm_iconst (v := (-1)) hG dX7_addPower_56 (by decide) ?_
    refine pm_iconst (v := (-1)) hG dX7_addPower_57 (by decide) ?_
    obtain ⟨r11, h10, hE⟩ := fb_some hE
    refine pm_callV (As := [.int r2.1, .int (-1), .int (-1)]) (rest := []) hG hR dX7_addPower_58 (lkX7_122 _ rfl) okV_X7_setLent rfl rfl (c_X7_setLent (d := 1) (by decide) h10) rfl rfl hdd (Nat.le_refl _) (Nat.le_refl _) (by decide) (fx_kv ?_)
    refine pm_iloadi hG dX7_addPower_61 rfl ?_
    exact pm_iret hG hF dX7_addPower_63 rfl (Nat.le_refl _) (Nat.le_refl _) (fx_ric hE)

set_option maxRecDepth 100000 in
set_option maxHeartbeats 4000000 in
theorem c_X7_addCopy {d : Nat} {B cnt : Nat} {kp : Value} {ρ : pm_S} {S : FS} {za : Int32} {R : Int32 × FS} (hdd : 3 ≤ d) (hE : f_X7_addCopy S za = some R) : pm_met mX7_addCopy d 0 0 B [.ref (B + 1), .int za] cnt (cst B kp S ρ) (pm_Qi (fun v σ' cnt' => v = R.1 ∧ σ' = (cst B kp R.2 ρ) ∧ cnt' = cnt)) := by
  refine pm_enter 1 (by decide) (Nat.le_of_ble_eq_true rfl) rfl (fun G hG hR hF => ?_)
  unfold f_X7_addCopy at hE
  refine pm_aloadn hG dX7_addCopy_0 rfl ?_
  refine pm_iconst (v := 2) hG dX7_addCopy_1 (by decide) ?_
  refine pm_aloadn hG dX7_addCopy_2 rfl ?_
  refine pm_iloadn hG dX7_addCopy_3 rfl ?_
  refine pm_callV (As := [.int za]) (rest := [.int 2, .ref (B + 1)]) hG hR dX7_addCopy_4 (lkX7_128 _ rfl) okV_X7_whoHas rfl rfl (c_X7_whoHas (d := 2) (by decide) rfl) rfl rfl hdd (Nat.le_refl _) (Nat.le_refl _) (by first | decide | exact Nat.le_of_ble_eq_true rfl) (fx_ki ?_)
  refine pm_iconst (v := 0) hG dX7_addCopy_7 (by decide) ?_
  obtain ⟨r2, h1, hE⟩ := fb_some hE
  refine pm_callV (As := [.int 2, .int (p_X7_whoHas S za), .int 0]) (rest := []) hG hR dX7_addCopy_8 (lkX7_131 _ rfl) okV_X7_addPower rfl rfl (c_X7_addPower (d := 2) (by decide) h1) rfl rfl hdd (Nat.le_refl _) (Nat.le_refl _) (by decide) (fx_ki ?_)
  refine pm_istoreXn (loc' := [some (.ref (B + 1)), some (.int za), some (.int r2.1)]) hG dX7_addCopy_11 (by decide) (pm_c1b rfl) rfl ?_
  refine pm_aloadn hG dX7_addCopy_12 rfl ?_
  refine pm_getf hG dX7_addCopy_13 (flX7_26 _ rfl) rfl rfl ?_
  refine pm_iloadn hG dX7_addCopy_16 rfl ?_
  refine pm_iconst (v := 5) hG dX7_addCopy_17 (by decide) ?_
  refine pm_aloadn hG dX7_addCopy_18 rfl ?_
  refine pm_getf hG dX7_addCopy_19 (flX7_26 _ rfl) rfl rfl ?_
  refine pm_iloadn hG dX7_addCopy_22 rfl ?_
  refine pm_iconst (v := 5) hG dX7_addCopy_23 (by decide) ?_
  refine pm_callV (As := [.int za, .int 5]) (rest := [.int 5, .int r2.1, .ref (B + 8)]) hG hR dX7_addCopy_24 (lkX7_83 _ rfl) okV_X9_get rfl rfl (tget_8 (d := 2)) rfl rfl hdd (Nat.le_refl _) (Nat.le_refl _) (by first | decide | exact Nat.le_of_ble_eq_true rfl) (fx_ki ?_)
  refine pm_callV (As := [.int r2.1, .int 5, .int (fG 8 20 6 r2.2 za 5)]) (rest := []) hG hR dX7_addCopy_27 (lkX7_61 _ rfl) okV_X9_set rfl rfl (tset_8 (d := 2)) rfl rfl hdd (Nat.le_refl _) (Nat.le_refl _) (by decide) (fx_kv ?_)
  refine fx_letc hE (fun S3 hE => ?_)
  refine pm_iloadn hG dX7_addCopy_30 rfl ?_
  exact pm_iret hG hF dX7_addCopy_31 rfl (Nat.le_refl _) (Nat.le_refl _) (fx_ric hE)

set_option maxRecDepth 100000 in
set_option maxHeartbeats 4000000 in
theorem c_X11_copy {d : Nat} {B cnt : Nat} {kp : Value} {ρ : pm_S} {S : FS} {za : Int32} {R : Int32 × FS} (hdd : 4 ≤ d) (hE : f_X11_copy S za = some R) : pm_met mX11_copy d 0 0 B [.ref (B + 0), .int za] cnt (cst B kp S ρ) (pm_Qi (fun v σ' cnt' => v = R.1 ∧ σ' = (cst B kp R.2 ρ) ∧ cnt' = cnt)) := by
  refine pm_enter 0 (by decide) (Nat.le_of_ble_eq_true rfl) rfl (fun G hG hR hF => ?_)
  unfold f_X11_copy at hE
  refine pm_aloadn hG dX11_copy_0 rfl ?_
  refine pm_getf hG dX11_copy_1 (flX11_12 _ rfl) rfl rfl ?_
  refine pm_getf hG dX11_copy_4 (flX11_161 _ rfl) rfl rfl ?_
  refine pm_iloadn hG dX11_copy_7 rfl ?_
  refine pm_callV (As := [.int za]) (rest := []) hG hR dX11_copy_8 (lkX11_101 _ rfl) okV_X9_has rfl rfl (thas_8 (d := 3)) rfl rfl hdd (Nat.le_refl _) (Nat.le_refl _) (by decide) (fx_ki ?_)
  refine pm_if_ne (tgt := 21) hG dX11_copy_11 rfl (fun c1 => ?_) (fun c1 => ?_)
  · replace hE := fx_f c1 hE
    refine pm_aloadn hG dX11_copy_21 rfl ?_
    refine pm_getf hG dX11_copy_22 (flX11_12 _ rfl) rfl rfl ?_
    refine pm_iloadn hG dX11_copy_25 rfl ?_
    refine pm_iconst (v := 2) hG dX11_copy_26 (by decide) ?_
    obtain ⟨x3, h2, hE⟩ := fb_some hE
    refine pm_callV (As := [.int za, .int 2]) (rest := []) hG hR dX11_copy_27 (lkX11_180 _ rfl) okV_X7_isOfKind rfl rfl (c_X7_isOfKind (d := 3) (by decide) h2) rfl rfl hdd (Nat.le_refl _) (Nat.le_refl _) (by decide) (fx_ki ?_)
    refine pm_if_ne (tgt := 40) hG dX11_copy_30 rfl (fun c4 => ?_) (fun c4 => ?_)
    · replace hE := fx_f c4 hE
      refine pm_aloadn hG dX11_copy_40 rfl ?_
      refine pm_getf hG dX11_copy_41 (flX11_12 _ rfl) rfl rfl ?_
      refine pm_iloadn hG dX11_copy_44 rfl ?_
      refine pm_callV (As := [.int za]) (rest := []) hG hR dX11_copy_45 (lkX11_185 _ rfl) okV_X7_whoHas rfl rfl (c_X7_whoHas (d := 3) (by decide) rfl) rfl rfl hdd (Nat.le_refl _) (Nat.le_refl _) (by decide) (fx_ki ?_)
      refine pm_iconst (v := (-1)) hG dX11_copy_48 (by decide) ?_
      refine pm_icmp_ne (tgt := 59) hG dX11_copy_49 rfl (fun c5 => ?_) (fun c5 => ?_)
      · replace hE := fx_f c5 hE
        refine pm_aloadn hG dX11_copy_59 rfl ?_
        refine pm_aloadn hG dX11_copy_60 rfl ?_
        refine pm_getf hG dX11_copy_61 (flX11_12 _ rfl) rfl rfl ?_
        refine pm_getf hG dX11_copy_64 (flX11_161 _ rfl) rfl rfl ?_
        refine pm_callV (As := []) (rest := [.ref (B + 0)]) hG hR dX11_copy_67 (lkX11_86 _ rfl) okV_X9_isFull rfl rfl (tisFull_8 (d := 3)) rfl rfl hdd (Nat.le_refl _) (Nat.le_refl _) (by first | decide | exact Nat.le_of_ble_eq_true rfl) (fx_ki ?_)
        refine pm_if_eq (tgt := 78) hG dX11_copy_70 rfl (fun c6 => ?_) (fun c6 => ?_)
        · replace hE := fx_t c6 hE
          refine pm_aloadn hG dX11_copy_78 rfl ?_
          refine pm_getf hG dX11_copy_79 (flX11_12 _ rfl) rfl rfl ?_
          refine pm_iloadn hG dX11_copy_82 rfl ?_
          obtain ⟨r8, h7, hE⟩ := fb_some hE
          refine pm_callV (As := [.int za]) (rest := [.ref (B + 0)]) hG hR dX11_copy_83 (lkX11_197 _ rfl) okV_X7_addCopy rfl rfl (c_X7_addCopy (d := 3) (by decide) h7) rfl rfl hdd (Nat.le_refl _) (Nat.le_refl _) (by first | decide | exact Nat.le_of_ble_eq_true rfl) (fx_ki ?_)
          obtain ⟨r10, h9, hE⟩ := fb_some hE
          refine pm_callV (As := [.int r8.1]) (rest := []) hG hR dX11_copy_86 (lkX11_97 _ rfl) okV_X11_told rfl rfl (c_X11_told (d := 3) (by decide) h9) rfl rfl hdd (Nat.le_refl _) (Nat.le_refl _) (by decide) (fx_ki ?_)
          exact pm_iret hG hF dX11_copy_89 rfl (Nat.le_refl _) (Nat.le_refl _) (fx_ric hE)
        · replace hE := fx_f c6 hE
          refine pm_ldc hG dX11_copy_73 (ctX11_92 _ rfl) ?_
          refine pm_goto (tgt := 86) hG dX11_copy_75 rfl ?_
          obtain ⟨r12, h11, hE⟩ := fb_some hE
          refine pm_callV (As := [.int (-1000004)]) (rest := []) hG hR dX11_copy_86 (lkX11_97 _ rfl) okV_X11_told rfl rfl (c_X11_told (d := 3) (by decide) h11) rfl rfl hdd (Nat.le_refl _) (Nat.le_refl _) (by decide) (fx_ki ?_)
          exact pm_iret hG hF dX11_copy_89 rfl (Nat.le_refl _) (Nat.le_refl _) (fx_ric hE)
      · replace hE := fx_t c5 hE
        refine pm_aloadn hG dX11_copy_52 rfl ?_
        refine pm_ldc hG dX11_copy_53 (ctX11_138 _ rfl) ?_
        obtain ⟨r14, h13, hE⟩ := fb_some hE
        refine pm_callV (As := [.int (-1000003)]) (rest := []) hG hR dX11_copy_55 (lkX11_97 _ rfl) okV_X11_told rfl rfl (c_X11_told (d := 3) (by decide) h13) rfl rfl hdd (Nat.le_refl _) (Nat.le_refl _) (by decide) (fx_ki ?_)
        exact pm_iret hG hF dX11_copy_58 rfl (Nat.le_refl _) (Nat.le_refl _) (fx_ric hE)
    · replace hE := fx_t c4 hE
      refine pm_aloadn hG dX11_copy_33 rfl ?_
      refine pm_ldc hG dX11_copy_34 (ctX11_184 _ rfl) ?_
      obtain ⟨r16, h15, hE⟩ := fb_some hE
      refine pm_callV (As := [.int (-1000005)]) (rest := []) hG hR dX11_copy_36 (lkX11_97 _ rfl) okV_X11_told rfl rfl (c_X11_told (d := 3) (by decide) h15) rfl rfl hdd (Nat.le_refl _) (Nat.le_refl _) (by decide) (fx_ki ?_)
      exact pm_iret hG hF dX11_copy_39 rfl (Nat.le_refl _) (Nat.le_refl _) (fx_ric hE)
  · replace hE := fx_t c1 hE
    refine pm_aloadn hG dX11_copy_14 rfl ?_
    refine pm_ldc hG dX11_copy_15 (ctX11_109 _ rfl) ?_
    obtain ⟨r18, h17, hE⟩ := fb_some hE
    refine pm_callV (As := [.int (-1000001)]) (rest := []) hG hR dX11_copy_17 (lkX11_97 _ rfl) okV_X11_told rfl rfl (c_X11_told (d := 3) (by decide) h17) rfl rfl hdd (Nat.le_refl _) (Nat.le_refl _) (by decide) (fx_ki ?_)
    exact pm_iret hG hF dX11_copy_20 rfl (Nat.le_refl _) (Nat.le_refl _) (fx_ric hE)

set_option maxRecDepth 100000 in
set_option maxHeartbeats 4000000 in
theorem c_X3_isSent {d : Nat} {B cnt : Nat} {kp : Value} {ρ : pm_S} {S : FS} {za : Int32} {R : Int32} (hdd : 1 ≤ d) (hE : p_X3_isSent S za = R) : pm_met mX3_isSent d 0 0 B [.ref (B + 36), .int za] cnt (cst B kp S ρ) (pm_Qi (fun v σ' cnt' => v = R ∧ σ' = (cst B kp S ρ) ∧ cnt' = cnt)) := by
  refine pm_enter 0 (by decide) (Nat.le_of_ble_eq_true rfl) rfl (fun G hG hR hF => ?_)
  unfold p_X3_isSent at hE
  refine pm_aloadn hG dX3_isSent_0 rfl ?_
  refine pm_getf hG dX3_isSent_1 (flX3_29 _ rfl) rfl rfl ?_
  refine pm_iloadn hG dX3_isSent_4 rfl ?_
  refine pm_bipush (v := 6) hG dX3_isSent_5 (by decide) ?_
  refine pm_callV (As := [.int za, .int 6]) (rest := []) hG hR dX3_isSent_7 (lkX3_35 _ rfl) okV_X9_get rfl rfl (tget_14 (d := 0)) rfl rfl hdd (Nat.le_refl _) (Nat.le_refl _) (by decide) (fx_ki ?_)
  refine pm_iconst (v := (-1)) hG dX3_isSent_10 (by decide) ?_
  refine pm_icmp_eq (tgt := 18) hG dX3_isSent_11 rfl (fun c1 => ?_) (fun c1 => ?_)
  · replace hE := fx_t c1 hE
    refine pm_iconst (v := 0) hG dX3_isSent_18 (by decide) ?_
    exact pm_zret hG hF dX3_isSent_19 rfl (by rfl) (Nat.le_refl _) (Nat.le_refl _) (fx_pi hE)
  · replace hE := fx_f c1 hE
    refine pm_iconst (v := 1) hG dX3_isSent_14 (by decide) ?_
    refine pm_goto (tgt := 19) hG dX3_isSent_15 rfl ?_
    exact pm_zret hG hF dX3_isSent_19 rfl (by rfl) (Nat.le_refl _) (Nat.le_refl _) (fx_pi hE)

set_option maxRecDepth 100000 in
set_option maxHeartbeats 4000000 in
theorem c_X3_onTheirWay {d : Nat} {B cnt : Nat} {kp : Value} {ρ : pm_S} {S : FS} {R : Int32} (hdd : 2 ≤ d) (hE : q_X3_onTheirWay S = some R) : pm_met mX3_onTheirWay d 0 0 B [.ref (B + 36)] cnt (cst B kp S ρ) (pm_Qi (fun v σ' cnt' => v = R ∧ σ' = (cst B kp S ρ) ∧ cnt' = cnt)) := by
  refine pm_enter 3 (by decide) (Nat.le_of_ble_eq_true rfl) rfl (fun G hG hR hF => ?_)
  unfold q_X3_onTheirWay at hE
  refine pm_iconst (v := 0) hG dX3_onTheirWay_0 (by decide) ?_
  refine pm_istoreXn (loc' := [some (.ref (B + 36)), some (.int 0), none, none]) hG dX3_onTheirWay_1 (by decide) (pm_c1b rfl) rfl ?_
  refine pm_aloadn hG dX3_onTheirWay_2 rfl ?_
  refine pm_getf hG dX3_onTheirWay_3 (flX3_29 _ rfl) rfl rfl ?_
  refine pm_callV (As := []) (rest := []) hG hR dX3_onTheirWay_6 (lkX3_74 _ rfl) okV_X9_used rfl rfl (tused_14 (d := 1)) rfl rfl hdd (Nat.le_refl _) (Nat.le_refl _) (by decide) (fx_ki ?_)
  refine fx_letv hE (fun x1 hE => ?_)
  refine pm_istoreXn (loc' := [some (.ref (B + 36)), some (.int 0), some (.int x1), none]) hG dX3_onTheirWay_9 (by decide) (pm_c1b rfl) rfl ?_
  refine pm_iconst (v := 0) hG dX3_onTheirWay_10 (by decide) ?_
  refine pm_istoreXn (loc' := [some (.ref (B + 36)), some (.int 0), some (.int x1), some (.int 0)]) hG dX3_onTheirWay_11 (by decide) (pm_c1b rfl) rfl ?_
  have loop12 : ∀ (k12 : Int32 → Int32 → Option Int32), (∀  (x2_1 : Int32) (x2_3 : Int32), k12  x2_1 x2_3 = some R → pm_wp mX3_onTheirWay G B 54 [some (.ref (B + 36)), some (.int x2_1), some (.int x1), some (.int x2_3)] [] 0 0 cnt (cst B kp S ρ)) → ∀ (m12 : Nat)  (x2_1 : Int32) (x2_3 : Int32), l_X3_onTheirWay_12 S x1 k12 m12  x2_1 x2_3 = some R → pm_wp mX3_onTheirWay G B 12 [some (.ref (B + 36)), some (.int x2_1), some (.int x1), some (.int x2_3)] [] 0 0 cnt (cst B kp S ρ) := by
    intro k12 hk12 m12
    induction m12 with
    | zero => intro  x2_1 x2_3 hE; exact fx_no hE
    | succ m12 ih12 =>
      intro  x2_1 x2_3 hE
      rw [l_X3_onTheirWay_12] at hE
      refine pm_iloadn hG dX3_onTheirWay_12 rfl ?_
      refine pm_iloadn hG dX3_onTheirWay_13 rfl ?_
      refine pm_icmp_ge (tgt := 54) hG dX3_onTheirWay_14 rfl (fun c3 => ?_) (fun c3 => ?_)
      · replace c3 := Int32.not_lt.mpr c3
        replace hE := fx_f c3 hE
        exact hk12 _ _ hE
      · replace c3 := Int32.not_le.mp c3
        replace hE := fx_t c3 hE
        refine pm_aloadn hG dX3_onTheirWay_17 rfl ?_
        refine pm_iloadn hG dX3_onTheirWay_18 rfl ?_
        refine pm_callV (As := [.int x2_3]) (rest := []) hG hR dX3_onTheirWay_19 (lkX3_55 _ rfl) okV_X3_isSent rfl rfl (c_X3_isSent (d := 1) (by decide) rfl) rfl rfl hdd (Nat.le_refl _) (Nat.le_refl _) (by decide) (fx_ki ?_)
        refine pm_if_eq (tgt := 48) hG dX3_onTheirWay_22 rfl (fun c4 => ?_) (fun c4 => ?_)
        · replace hE := fx_t c4 hE
          refine pm_iincX (v := x2_3 + 1) (loc' := [some (.ref (B + 36)), some (.int x2_1), some (.int x1), some (.int (x2_3 + 1))]) hG dX3_onTheirWay_48 rfl (by rfl) (by decide) (pm_c1b rfl) rfl ?_
          refine pm_goto (tgt := 12) hG dX3_onTheirWay_51 rfl ?_
          exact ih12 _ _ hE
        · replace hE := fx_f c4 hE
          refine pm_aloadn hG dX3_onTheirWay_25 rfl ?_
          refine pm_getf hG dX3_onTheirWay_26 (flX3_29 _ rfl) rfl rfl ?_
          refine pm_iloadn hG dX3_onTheirWay_29 rfl ?_
          refine pm_bipush (v := 8) hG dX3_onTheirWay_30 (by decide) ?_
          refine pm_callV (As := [.int x2_3, .int 8]) (rest := []) hG hR dX3_onTheirWay_32 (lkX3_35 _ rfl) okV_X9_get rfl rfl (tget_14 (d := 1)) rfl rfl hdd (Nat.le_refl _) (Nat.le_refl _) (by decide) (fx_ki ?_)
          refine pm_aloadn hG dX3_onTheirWay_35 rfl ?_
          refine pm_getf hG dX3_onTheirWay_36 (flX3_9 _ rfl) rfl rfl ?_
          refine pm_getf hG dX3_onTheirWay_39 (flX3_82 _ rfl) rfl rfl ?_
          refine pm_icmp_le (tgt := 48) hG dX3_onTheirWay_42 rfl (fun c5 => ?_) (fun c5 => ?_)
          · replace c5 := Int32.not_lt.mpr c5
            replace hE := fx_f c5 hE
            refine pm_iincX (v := x2_3 + 1) (loc' := [some (.ref (B + 36)), some (.int x2_1), some (.int x1), some (.int (x2_3 + 1))]) hG dX3_onTheirWay_48 rfl (by rfl) (by decide) (pm_c1b rfl) rfl ?_
            refine pm_goto (tgt := 12) hG dX3_onTheirWay_51 rfl ?_
            exact ih12 _ _ hE
          · replace c5 := Int32.not_le.mp c5
            replace hE := fx_t c5 hE
            refine pm_iincX (v := x2_1 + 1) (loc' := [some (.ref (B + 36)), some (.int (x2_1 + 1)), some (.int x1), some (.int x2_3)]) hG dX3_onTheirWay_45 rfl (by rfl) (by decide) (pm_c1b rfl) rfl ?_
            refine pm_iincX (v := x2_3 + 1) (loc' := [some (.ref (B + 36)), some (.int (x2_1 + 1)), some (.int x1), some (.int (x2_3 + 1))]) hG dX3_onTheirWay_48 rfl (by rfl) (by decide) (pm_c1b rfl) rfl ?_
            refine pm_goto (tgt := 12) hG dX3_onTheirWay_51 rfl ?_
            exact ih12 _ _ hE
  refine loop12 _ (fun  x6_1 x6_3 hE => ?_) _ _ _ hE
  refine pm_iloadn hG dX3_onTheirWay_54 rfl ?_
  exact pm_iret hG hF dX3_onTheirWay_55 rfl (Nat.le_refl _) (Nat.le_refl _) (fx_pi (Option.some.inj hE))

set_option maxRecDepth 100000 in
set_option maxHeartbeats 4000000 in
theorem c_X11_count {d : Nat} {B cnt : Nat} {kp : Value} {ρ : pm_S} {S : FS} {za : Int32} {R : Int32 × FS} (hdd : 3 ≤ d) (hE : f_X11_count S za = some R) : pm_met mX11_count d 0 0 B [.ref (B + 0), .int za] cnt (cst B kp S ρ) (pm_Qi (fun v σ' cnt' => v = R.1 ∧ σ' = (cst B kp R.2 ρ) ∧ cnt' = cnt)) := by
  refine pm_enter 0 (by decide) (Nat.le_of_ble_eq_true rfl) rfl (fun G hG hR hF => ?_)
  unfold f_X11_count at hE
  refine pm_iloadn hG dX11_count_0 rfl ?_
  by_cases c1 : za = 0
  · replace hE := fx_t c1 hE
    refine pm_top (v := 0) c1 ?_
    refine pm_tswIn (tgt := 80) hG dX11_count_1 (by decide) (by decide) rfl rfl ?_
    refine pm_aloadn hG dX11_count_80 rfl ?_
    refine pm_getf hG dX11_count_81 (flX11_12 _ rfl) rfl rfl ?_
    refine pm_getf hG dX11_count_84 (flX11_82 _ rfl) rfl rfl ?_
    refine pm_callV (As := []) (rest := []) hG hR dX11_count_87 (lkX11_203 _ rfl) okV_X9_used rfl rfl (tused_2 (d := 2)) rfl rfl hdd (Nat.le_refl _) (Nat.le_refl _) (by decide) (fx_ki ?_)
    exact pm_iret hG hF dX11_count_90 rfl (Nat.le_refl _) (Nat.le_refl _) (fx_ric hE)
  replace hE := fx_f c1 hE
  by_cases c2 : za = 1
  · replace hE := fx_t c2 hE
    refine pm_top (v := 1) c2 ?_
    refine pm_tswIn (tgt := 91) hG dX11_count_1 (by decide) (by decide) rfl rfl ?_
    refine pm_aloadn hG dX11_count_91 rfl ?_
    refine pm_getf hG dX11_count_92 (flX11_12 _ rfl) rfl rfl ?_
    refine pm_getf hG dX11_count_95 (flX11_110 _ rfl) rfl rfl ?_
    exact pm_iret hG hF dX11_count_98 rfl (Nat.le_refl _) (Nat.le_refl _) (fx_ric hE)
  replace hE := fx_f c2 hE
  by_cases c3 : za = 2
  · replace hE := fx_t c3 hE
    refine pm_top (v := 2) c3 ?_
    refine pm_tswIn (tgt := 99) hG dX11_count_1 (by decide) (by decide) rfl rfl ?_
    refine pm_aloadn hG dX11_count_99 rfl ?_
    refine pm_getf hG dX11_count_100 (flX11_12 _ rfl) rfl rfl ?_
    refine pm_getf hG dX11_count_103 (flX11_128 _ rfl) rfl rfl ?_
    refine pm_callV (As := []) (rest := []) hG hR dX11_count_106 (lkX11_203 _ rfl) okV_X9_used rfl rfl (tused_6 (d := 2)) rfl rfl hdd (Nat.le_refl _) (Nat.le_refl _) (by decide) (fx_ki ?_)
    exact pm_iret hG hF dX11_count_109 rfl (Nat.le_refl _) (Nat.le_refl _) (fx_ric hE)
  replace hE := fx_f c3 hE
  by_cases c4 : za = 3
  · replace hE := fx_t c4 hE
    refine pm_top (v := 3) c4 ?_
    refine pm_tswIn (tgt := 110) hG dX11_count_1 (by decide) (by decide) rfl rfl ?_
    refine pm_aloadn hG dX11_count_110 rfl ?_
    refine pm_getf hG dX11_count_111 (flX11_12 _ rfl) rfl rfl ?_
    refine pm_getf hG dX11_count_114 (flX11_161 _ rfl) rfl rfl ?_
    refine pm_callV (As := []) (rest := []) hG hR dX11_count_117 (lkX11_203 _ rfl) okV_X9_used rfl rfl (tused_8 (d := 2)) rfl rfl hdd (Nat.le_refl _) (Nat.le_refl _) (by decide) (fx_ki ?_)
    exact pm_iret hG hF dX11_count_120 rfl (Nat.le_refl _) (Nat.le_refl _) (fx_ric hE)
  replace hE := fx_f c4 hE
  by_cases c5 : za = 4
  · replace hE := fx_t c5 hE
    refine pm_top (v := 4) c5 ?_
    refine pm_tswIn (tgt := 121) hG dX11_count_1 (by decide) (by decide) rfl rfl ?_
    refine pm_aloadn hG dX11_count_121 rfl ?_
    refine pm_getf hG dX11_count_122 (flX11_12 _ rfl) rfl rfl ?_
    refine pm_getf hG dX11_count_125 (flX11_209 _ rfl) rfl rfl ?_
    refine pm_callV (As := []) (rest := []) hG hR dX11_count_128 (lkX11_203 _ rfl) okV_X9_used rfl rfl (tused_10 (d := 2)) rfl rfl hdd (Nat.le_refl _) (Nat.le_refl _) (by decide) (fx_ki ?_)
    exact pm_iret hG hF dX11_count_131 rfl (Nat.le_refl _) (Nat.le_refl _) (fx_ric hE)
  replace hE := fx_f c5 hE
  by_cases c6 : za = 5
  · replace hE := fx_t c6 hE
    refine pm_top (v := 5) c6 ?_
    refine pm_tswIn (tgt := 132) hG dX11_count_1 (by decide) (by decide) rfl rfl ?_
    refine pm_aloadn hG dX11_count_132 rfl ?_
    refine pm_getf hG dX11_count_133 (flX11_12 _ rfl) rfl rfl ?_
    refine pm_getf hG dX11_count_136 (flX11_224 _ rfl) rfl rfl ?_
    refine pm_callV (As := []) (rest := []) hG hR dX11_count_139 (lkX11_203 _ rfl) okV_X9_used rfl rfl (tused_14 (d := 2)) rfl rfl hdd (Nat.le_refl _) (Nat.le_refl _) (by decide) (fx_ki ?_)
    exact pm_iret hG hF dX11_count_142 rfl (Nat.le_refl _) (Nat.le_refl _) (fx_ric hE)
  replace hE := fx_f c6 hE
  by_cases c7 : za = 6
  · replace hE := fx_t c7 hE
    refine pm_top (v := 6) c7 ?_
    refine pm_tswIn (tgt := 143) hG dX11_count_1 (by decide) (by decide) rfl rfl ?_
    refine pm_aloadn hG dX11_count_143 rfl ?_
    refine pm_getf hG dX11_count_144 (flX11_12 _ rfl) rfl rfl ?_
    refine pm_getf hG dX11_count_147 (flX11_271 _ rfl) rfl rfl ?_
    refine pm_callV (As := []) (rest := []) hG hR dX11_count_150 (lkX11_203 _ rfl) okV_X9_used rfl rfl (tused_16 (d := 2)) rfl rfl hdd (Nat.le_refl _) (Nat.le_refl _) (by decide) (fx_ki ?_)
    exact pm_iret hG hF dX11_count_153 rfl (Nat.le_refl _) (Nat.le_refl _) (fx_ric hE)
  replace hE := fx_f c7 hE
  by_cases c8 : za = 7
  · replace hE := fx_t c8 hE
    refine pm_top (v := 7) c8 ?_
    refine pm_tswIn (tgt := 154) hG dX11_count_1 (by decide) (by decide) rfl rfl ?_
    refine pm_aloadn hG dX11_count_154 rfl ?_
    refine pm_getf hG dX11_count_155 (flX11_12 _ rfl) rfl rfl ?_
    refine pm_getf hG dX11_count_158 (flX11_277 _ rfl) rfl rfl ?_
    refine pm_callV (As := []) (rest := []) hG hR dX11_count_161 (lkX11_203 _ rfl) okV_X9_used rfl rfl (tused_18 (d := 2)) rfl rfl hdd (Nat.le_refl _) (Nat.le_refl _) (by decide) (fx_ki ?_)
    exact pm_iret hG hF dX11_count_164 rfl (Nat.le_refl _) (Nat.le_refl _) (fx_ric hE)
  replace hE := fx_f c8 hE
  by_cases c9 : za = 8
  · replace hE := fx_t c9 hE
    refine pm_top (v := 8) c9 ?_
    refine pm_tswIn (tgt := 165) hG dX11_count_1 (by decide) (by decide) rfl rfl ?_
    refine pm_aloadn hG dX11_count_165 rfl ?_
    refine pm_getf hG dX11_count_166 (flX11_12 _ rfl) rfl rfl ?_
    refine pm_getf hG dX11_count_169 (flX11_122 _ rfl) rfl rfl ?_
    exact pm_iret hG hF dX11_count_172 rfl (Nat.le_refl _) (Nat.le_refl _) (fx_ric hE)
  replace hE := fx_f c9 hE
  by_cases c10 : za = 9
  · replace hE := fx_t c10 hE
    refine pm_top (v := 9) c10 ?_
    refine pm_tswIn (tgt := 173) hG dX11_count_1 (by decide) (by decide) rfl rfl ?_
    refine pm_aloadn hG dX11_count_173 rfl ?_
    refine pm_getf hG dX11_count_174 (flX11_12 _ rfl) rfl rfl ?_
    refine pm_getf hG dX11_count_177 (flX11_395 _ rfl) rfl rfl ?_
    exact pm_iret hG hF dX11_count_180 rfl (Nat.le_refl _) (Nat.le_refl _) (fx_ric hE)
  replace hE := fx_f c10 hE
  by_cases c11 : za = 10
  · replace hE := fx_t c11 hE
    refine pm_top (v := 10) c11 ?_
    refine pm_tswIn (tgt := 181) hG dX11_count_1 (by decide) (by decide) rfl rfl ?_
    refine pm_aloadn hG dX11_count_181 rfl ?_
    refine pm_getf hG dX11_count_182 (flX11_12 _ rfl) rfl rfl ?_
    refine pm_getf hG dX11_count_185 (flX11_200 _ rfl) rfl rfl ?_
    refine pm_callV (As := []) (rest := []) hG hR dX11_count_188 (lkX11_203 _ rfl) okV_X9_used rfl rfl (tused_24 (d := 2)) rfl rfl hdd (Nat.le_refl _) (Nat.le_refl _) (by decide) (fx_ki ?_)
    exact pm_iret hG hF dX11_count_191 rfl (Nat.le_refl _) (Nat.le_refl _) (fx_ric hE)
  replace hE := fx_f c11 hE
  by_cases c12 : za = 11
  · replace hE := fx_t c12 hE
    refine pm_top (v := 11) c12 ?_
    refine pm_tswIn (tgt := 192) hG dX11_count_1 (by decide) (by decide) rfl rfl ?_
    refine pm_aloadn hG dX11_count_192 rfl ?_
    refine pm_getf hG dX11_count_193 (flX11_12 _ rfl) rfl rfl ?_
    refine pm_getf hG dX11_count_196 (flX11_128 _ rfl) rfl rfl ?_
    refine pm_bipush (v := 13) hG dX11_count_199 (by decide) ?_
    refine pm_iconst (v := 1) hG dX11_count_201 (by decide) ?_
    obtain ⟨x14, h13, hE⟩ := fb_some hE
    refine pm_callV (As := [.int 13, .int 1]) (rest := []) hG hR dX11_count_202 (lkX11_164 _ rfl) okV_X9_rowsWith rfl rfl (trowsWith_6 (d := 2) (k := 13) (by decide) rfl h13) rfl rfl hdd (Nat.le_refl _) (Nat.le_refl _) (by decide) (fx_ki ?_)
    exact pm_iret hG hF dX11_count_205 rfl (Nat.le_refl _) (Nat.le_refl _) (fx_ric hE)
  replace hE := fx_f c12 hE
  by_cases c15 : za = 12
  · replace hE := fx_t c15 hE
    refine pm_top (v := 12) c15 ?_
    refine pm_tswIn (tgt := 206) hG dX11_count_1 (by decide) (by decide) rfl rfl ?_
    refine pm_aloadn hG dX11_count_206 rfl ?_
    refine pm_getf hG dX11_count_207 (flX11_67 _ rfl) rfl rfl ?_
    refine pm_getf hG dX11_count_210 (flX11_358 _ rfl) rfl rfl ?_
    exact pm_iret hG hF dX11_count_213 rfl (Nat.le_refl _) (Nat.le_refl _) (fx_ric hE)
  replace hE := fx_f c15 hE
  by_cases c16 : za = 13
  · replace hE := fx_t c16 hE
    refine pm_top (v := 13) c16 ?_
    refine pm_tswIn (tgt := 214) hG dX11_count_1 (by decide) (by decide) rfl rfl ?_
    refine pm_aloadn hG dX11_count_214 rfl ?_
    refine pm_getf hG dX11_count_215 (flX11_12 _ rfl) rfl rfl ?_
    refine pm_getf hG dX11_count_218 (flX11_386 _ rfl) rfl rfl ?_
    refine pm_callV (As := []) (rest := []) hG hR dX11_count_221 (lkX11_203 _ rfl) okV_X9_used rfl rfl (tused_22 (d := 2)) rfl rfl hdd (Nat.le_refl _) (Nat.le_refl _) (by decide) (fx_ki ?_)
    exact pm_iret hG hF dX11_count_224 rfl (Nat.le_refl _) (Nat.le_refl _) (fx_ric hE)
  replace hE := fx_f c16 hE
  by_cases c17 : za = 14
  · replace hE := fx_t c17 hE
    refine pm_top (v := 14) c17 ?_
    refine pm_tswIn (tgt := 225) hG dX11_count_1 (by decide) (by decide) rfl rfl ?_
    refine pm_aloadn hG dX11_count_225 rfl ?_
    refine pm_getf hG dX11_count_226 (flX11_12 _ rfl) rfl rfl ?_
    refine pm_getf hG dX11_count_229 (flX11_128 _ rfl) rfl rfl ?_
    refine pm_bipush (v := 7) hG dX11_count_232 (by decide) ?_
    obtain ⟨x19, h18, hE⟩ := fb_some hE
    refine pm_callV (As := [.int 7]) (rest := []) hG hR dX11_count_234 (lkX11_398 _ rfl) okV_X9_sumOf rfl rfl (tsumOf_6 (d := 2) (by decide) (k := 7) (by decide) rfl h18) rfl rfl hdd (Nat.le_refl _) (Nat.le_refl _) (by decide) (fx_ki ?_)
    exact pm_iret hG hF dX11_count_237 rfl (Nat.le_refl _) (Nat.le_refl _) (fx_ric hE)
  replace hE := fx_f c17 hE
  by_cases c20 : za = 15
  · replace hE := fx_t c20 hE
    refine pm_top (v := 15) c20 ?_
    refine pm_tswIn (tgt := 238) hG dX11_count_1 (by decide) (by decide) rfl rfl ?_
    refine pm_aloadn hG dX11_count_238 rfl ?_
    refine pm_getf hG dX11_count_239 (flX11_39 _ rfl) rfl rfl ?_
    obtain ⟨x22, h21, hE⟩ := fb_some hE
    refine pm_callV (As := []) (rest := []) hG hR dX11_count_242 (lkX11_401 _ rfl) okV_X3_onTheirWay rfl rfl (c_X3_onTheirWay (d := 2) (by decide) h21) rfl rfl hdd (Nat.le_refl _) (Nat.le_refl _) (by decide) (fx_ki ?_)
    exact pm_iret hG hF dX11_count_245 rfl (Nat.le_refl _) (Nat.le_refl _) (fx_ric hE)
  replace hE := fx_f c20 hE
  have tc1 : ¬ za.toInt = 0 := fun q => c1 (Int32.toInt_inj.mp q)
  have tc2 : ¬ za.toInt = 1 := fun q => c2 (Int32.toInt_inj.mp q)
  have tc3 : ¬ za.toInt = 2 := fun q => c3 (Int32.toInt_inj.mp q)
  have tc4 : ¬ za.toInt = 3 := fun q => c4 (Int32.toInt_inj.mp q)
  have tc5 : ¬ za.toInt = 4 := fun q => c5 (Int32.toInt_inj.mp q)
  have tc6 : ¬ za.toInt = 5 := fun q => c6 (Int32.toInt_inj.mp q)
  have tc7 : ¬ za.toInt = 6 := fun q => c7 (Int32.toInt_inj.mp q)
  have tc8 : ¬ za.toInt = 7 := fun q => c8 (Int32.toInt_inj.mp q)
  have tc9 : ¬ za.toInt = 8 := fun q => c9 (Int32.toInt_inj.mp q)
  have tc10 : ¬ za.toInt = 9 := fun q => c10 (Int32.toInt_inj.mp q)
  have tc11 : ¬ za.toInt = 10 := fun q => c11 (Int32.toInt_inj.mp q)
  have tc12 : ¬ za.toInt = 11 := fun q => c12 (Int32.toInt_inj.mp q)
  have tc15 : ¬ za.toInt = 12 := fun q => c15 (Int32.toInt_inj.mp q)
  have tc16 : ¬ za.toInt = 13 := fun q => c16 (Int32.toInt_inj.mp q)
  have tc17 : ¬ za.toInt = 14 := fun q => c17 (Int32.toInt_inj.mp q)
  have tc20 : ¬ za.toInt = 15 := fun q => c20 (Int32.toInt_inj.mp q)
  refine pm_tswOut (tgt := 246) hG dX11_count_1 (by omega) rfl ?_
  refine pm_aloadn hG dX11_count_246 rfl ?_
  refine pm_ldc hG dX11_count_247 (ctX11_109 _ rfl) ?_
  obtain ⟨r24, h23, hE⟩ := fb_some hE
  refine pm_callV (As := [.int (-1000001)]) (rest := []) hG hR dX11_count_249 (lkX11_97 _ rfl) okV_X11_told rfl rfl (c_X11_told (d := 2) (by decide) h23) rfl rfl hdd (Nat.le_refl _) (Nat.le_refl _) (by decide) (fx_ki ?_)
  exact pm_iret hG hF dX11_count_252 rfl (Nat.le_refl _) (Nat.le_refl _) (fx_ric hE)

set_option maxRecDepth 100000 in
set_option maxHeartbeats 4000000 in
theorem c_X7_bringTravellers {d : Nat} {B cnt : Nat} {kp : Value} {ρ : pm_S} {S : FS} {R : Int32 × FS} (hdd : 1 ≤ d) (hE : f_X7_bringTravellers S = some R) : pm_met mX7_bringTravellers d 0 0 B [.ref (B + 1)] cnt (cst B kp S ρ) (pm_Qv (fun σ' cnt' => σ' = (cst B kp R.2 ρ) ∧ cnt' = cnt)) := by
  refine pm_enter 2 (by decide) (Nat.le_of_ble_eq_true rfl) rfl (fun G hG hR hF => ?_)
  unfold f_X7_bringTravellers at hE
  refine pm_aloadn hG dX7_bringTravellers_0 rfl ?_
  refine pm_getf hG dX7_bringTravellers_1 (flX7_23 _ rfl) rfl rfl ?_
  refine pm_callV (As := []) (rest := []) hG hR dX7_bringTravellers_4 (lkX7_79 _ rfl) okV_X9_used rfl rfl (tused_6 (d := 0)) rfl rfl hdd (Nat.le_refl _) (Nat.le_refl _) (by decide) (fx_ki ?_)
  refine fx_letv hE (fun x1 hE => ?_)
  refine pm_istoreXn (loc' := [some (.ref (B + 1)), some (.int x1), none]) hG dX7_bringTravellers_7 (by decide) (pm_c1b rfl) rfl ?_
  refine pm_iconst (v := 0) hG dX7_bringTravellers_8 (by decide) ?_
  refine pm_istoreXn (loc' := [some (.ref (B + 1)), some (.int x1), some (.int 0)]) hG dX7_bringTravellers_9 (by decide) (pm_c1b rfl) rfl ?_
  have loop10 : ∀ (k10 : FS → Int32 → Option (Int32 × FS)), (∀ (S2 : FS) (x2_2 : Int32), k10 S2  x2_2 = some R → pm_wp mX7_bringTravellers G B 68 [some (.ref (B + 1)), some (.int x1), some (.int x2_2)] [] 0 0 cnt (cst B kp S2 ρ)) → ∀ (m10 : Nat) (S2 : FS) (x2_2 : Int32), l_X7_bringTravellers_10 x1 k10 m10 S2  x2_2 = some R → pm_wp mX7_bringTravellers G B 10 [some (.ref (B + 1)), some (.int x1), some (.int x2_2)] [] 0 0 cnt (cst B kp S2 ρ) := by
    intro k10 hk10 m10
    induction m10 with
    | zero => intro S2  x2_2 hE; exact fx_no hE
    | succ m10 ih10 =>
      intro S2  x2_2 hE
      rw [l_X7_bringTravellers_10] at hE
      refine pm_iloadn hG dX7_bringTravellers_10 rfl ?_
      refine pm_iloadn hG dX7_bringTravellers_11 rfl ?_
      refine pm_icmp_ge (tgt := 68) hG dX7_bringTravellers_12 rfl (fun c3 => ?_) (fun c3 => ?_)
      · replace c3 := Int32.not_lt.mpr c3
        replace hE := fx_f c3 hE
        exact hk10 _ _ hE
      · replace c3 := Int32.not_le.mp c3
        replace hE := fx_t c3 hE
        refine pm_aloadn hG dX7_bringTravellers_15 rfl ?_
        refine pm_getf hG dX7_bringTravellers_16 (flX7_23 _ rfl) rfl rfl ?_
        refine pm_iloadn hG dX7_bringTravellers_19 rfl ?_
        refine pm_iconst (v := 4) hG dX7_bringTravellers_20 (by decide) ?_
        refine pm_callV (As := [.int x2_2, .int 4]) (rest := []) hG hR dX7_bringTravellers_21 (lkX7_83 _ rfl) okV_X9_get rfl rfl (tget_6 (d := 0)) rfl rfl hdd (Nat.le_refl _) (Nat.le_refl _) (by decide) (fx_ki ?_)
        refine pm_if_ge (tgt := 62) hG dX7_bringTravellers_24 rfl (fun c4 => ?_) (fun c4 => ?_)
        · replace c4 := Int32.not_lt.mpr c4
          replace hE := fx_f c4 hE
          refine pm_iincX (v := x2_2 + 1) (loc' := [some (.ref (B + 1)), some (.int x1), some (.int (x2_2 + 1))]) hG dX7_bringTravellers_62 rfl (by rfl) (by decide) (pm_c1b rfl) rfl ?_
          refine pm_goto (tgt := 10) hG dX7_bringTravellers_65 rfl ?_
          exact ih10 _ _ hE
        · replace c4 := Int32.not_le.mp c4
          replace hE := fx_t c4 hE
          refine pm_aloadn hG dX7_bringTravellers_27 rfl ?_
          refine pm_getf hG dX7_bringTravellers_28 (flX7_23 _ rfl) rfl rfl ?_
          refine pm_iloadn hG dX7_bringTravellers_31 rfl ?_
          refine pm_bipush (v := 6) hG dX7_bringTravellers_32 (by decide) ?_
          refine pm_callV (As := [.int x2_2, .int 6]) (rest := []) hG hR dX7_bringTravellers_34 (lkX7_83 _ rfl) okV_X9_get rfl rfl (tget_6 (d := 0)) rfl rfl hdd (Nat.le_refl _) (Nat.le_refl _) (by decide) (fx_ki ?_)
          refine pm_aloadn hG dX7_bringTravellers_37 rfl ?_
          refine pm_getf hG dX7_bringTravellers_38 (flX7_72 _ rfl) rfl rfl ?_
          refine pm_icmp_gt (tgt := 62) hG dX7_bringTravellers_41 rfl (fun c5 => ?_) (fun c5 => ?_)
          · replace hE := fx_t c5 hE
            refine pm_iincX (v := x2_2 + 1) (loc' := [some (.ref (B + 1)), some (.int x1), some (.int (x2_2 + 1))]) hG dX7_bringTravellers_62 rfl (by rfl) (by decide) (pm_c1b rfl) rfl ?_
            refine pm_goto (tgt := 10) hG dX7_bringTravellers_65 rfl ?_
            exact ih10 _ _ hE
          · replace hE := fx_f c5 hE
            refine pm_aloadn hG dX7_bringTravellers_44 rfl ?_
            refine pm_getf hG dX7_bringTravellers_45 (flX7_23 _ rfl) rfl rfl ?_
            refine pm_iloadn hG dX7_bringTravellers_48 rfl ?_
            refine pm_iconst (v := 4) hG dX7_bringTravellers_49 (by decide) ?_
            refine pm_aloadn hG dX7_bringTravellers_50 rfl ?_
            refine pm_getf hG dX7_bringTravellers_51 (flX7_23 _ rfl) rfl rfl ?_
            refine pm_iloadn hG dX7_bringTravellers_54 rfl ?_
            refine pm_iconst (v := 5) hG dX7_bringTravellers_55 (by decide) ?_
            refine pm_callV (As := [.int x2_2, .int 5]) (rest := [.int 4, .int x2_2, .ref (B + 6)]) hG hR dX7_bringTravellers_56 (lkX7_83 _ rfl) okV_X9_get rfl rfl (tget_6 (d := 0)) rfl rfl hdd (Nat.le_refl _) (Nat.le_refl _) (by first | decide | exact Nat.le_of_ble_eq_true rfl) (fx_ki ?_)
            refine pm_callV (As := [.int x2_2, .int 4, .int (fG 6 20 14 S2 x2_2 5)]) (rest := []) hG hR dX7_bringTravellers_59 (lkX7_61 _ rfl) okV_X9_set rfl rfl (tset_6 (d := 0)) rfl rfl hdd (Nat.le_refl _) (Nat.le_refl _) (by decide) (fx_kv ?_)
            refine fx_letc hE (fun S6 hE => ?_)
            refine pm_iincX (v := x2_2 + 1) (loc' := [some (.ref (B + 1)), some (.int x1), some (.int (x2_2 + 1))]) hG dX7_bringTravellers_62 rfl (by rfl) (by decide) (pm_c1b rfl) rfl ?_
            refine pm_goto (tgt := 10) hG dX7_bringTravellers_65 rfl ?_
            exact ih10 _ _ hE
  refine loop10 _ (fun S7 x7_2 hE => ?_) _ _ _ hE
  exact pm_vret hG hF dX7_bringTravellers_68 rfl (Nat.le_refl _) (Nat.le_refl _) (fx_rvc hE)

set_option maxRecDepth 100000 in
set_option maxHeartbeats 4000000 in
theorem c_X7_takeBackLent {d : Nat} {B cnt : Nat} {kp : Value} {ρ : pm_S} {S : FS} {R : Int32 × FS} (hdd : 2 ≤ d) (hE : f_X7_takeBackLent S = some R) : pm_met mX7_takeBackLent d 0 0 B [.ref (B + 1)] cnt (cst B kp S ρ) (pm_Qv (fun σ' cnt' => σ' = (cst B kp R.2 ρ) ∧ cnt' = cnt)) := by
  refine pm_enter 2 (by decide) (Nat.le_of_ble_eq_true rfl) rfl (fun G hG hR hF => ?_)
  unfold f_X7_takeBackLent at hE
  refine pm_aloadn hG dX7_takeBackLent_0 rfl ?_
  refine pm_getf hG dX7_takeBackLent_1 (flX7_26 _ rfl) rfl rfl ?_
  refine pm_callV (As := []) (rest := []) hG hR dX7_takeBackLent_4 (lkX7_79 _ rfl) okV_X9_used rfl rfl (tused_8 (d := 1)) rfl rfl hdd (Nat.le_refl _) (Nat.le_refl _) (by decide) (fx_ki ?_)
  refine fx_letv hE (fun x1 hE => ?_)
  refine pm_istoreXn (loc' := [some (.ref (B + 1)), some (.int x1), none]) hG dX7_takeBackLent_7 (by decide) (pm_c1b rfl) rfl ?_
  refine pm_iconst (v := 0) hG dX7_takeBackLent_8 (by decide) ?_
  refine pm_istoreXn (loc' := [some (.ref (B + 1)), some (.int x1), some (.int 0)]) hG dX7_takeBackLent_9 (by decide) (pm_c1b rfl) rfl ?_
  have loop10 : ∀ (k10 : FS → Int32 → Option (Int32 × FS)), (∀ (S2 : FS) (x2_2 : Int32), k10 S2  x2_2 = some R → pm_wp mX7_takeBackLent G B 52 [some (.ref (B + 1)), some (.int x1), some (.int x2_2)] [] 0 0 cnt (cst B kp S2 ρ)) → ∀ (m10 : Nat) (S2 : FS) (x2_2 : Int32), l_X7_takeBackLent_10 x1 k10 m10 S2  x2_2 = some R → pm_wp mX7_takeBackLent G B 10 [some (.ref (B + 1)), some (.int x1), some (.int x2_2)] [] 0 0 cnt (cst B kp S2 ρ) := by
    intro k10 hk10 m10
    induction m10 with
    | zero => intro S2  x2_2 hE; exact fx_no hE
    | succ m10 ih10 =>
      intro S2  x2_2 hE
      rw [l_X7_takeBackLent_10] at hE
      refine pm_iloadn hG dX7_takeBackLent_10 rfl ?_
      refine pm_iloadn hG dX7_takeBackLent_11 rfl ?_
      refine pm_icmp_ge (tgt := 52) hG dX7_takeBackLent_12 rfl (fun c3 => ?_) (fun c3 => ?_)
      · replace c3 := Int32.not_lt.mpr c3
        replace hE := fx_f c3 hE
        exact hk10 _ _ hE
      · replace c3 := Int32.not_le.mp c3
        replace hE := fx_t c3 hE
        refine pm_aloadn hG dX7_takeBackLent_15 rfl ?_
        refine pm_iloadn hG dX7_takeBackLent_16 rfl ?_
        refine pm_callV (As := [.int x2_2]) (rest := []) hG hR dX7_takeBackLent_17 (lkX7_138 _ rfl) okV_X7_isLent rfl rfl (c_X7_isLent (d := 1) (by decide) rfl) rfl rfl hdd (Nat.le_refl _) (Nat.le_refl _) (by decide) (fx_ki ?_)
        refine pm_if_eq (tgt := 46) hG dX7_takeBackLent_20 rfl (fun c4 => ?_) (fun c4 => ?_)
        · replace hE := fx_t c4 hE
          refine pm_iincX (v := x2_2 + 1) (loc' := [some (.ref (B + 1)), some (.int x1), some (.int (x2_2 + 1))]) hG dX7_takeBackLent_46 rfl (by rfl) (by decide) (pm_c1b rfl) rfl ?_
          refine pm_goto (tgt := 10) hG dX7_takeBackLent_49 rfl ?_
          exact ih10 _ _ hE
        · replace hE := fx_f c4 hE
          refine pm_aloadn hG dX7_takeBackLent_23 rfl ?_
          refine pm_getf hG dX7_takeBackLent_24 (flX7_26 _ rfl) rfl rfl ?_
          refine pm_iloadn hG dX7_takeBackLent_27 rfl ?_
          refine pm_iconst (v := 4) hG dX7_takeBackLent_28 (by decide) ?_
          refine pm_callV (As := [.int x2_2, .int 4]) (rest := []) hG hR dX7_takeBackLent_29 (lkX7_83 _ rfl) okV_X9_get rfl rfl (tget_8 (d := 1)) rfl rfl hdd (Nat.le_refl _) (Nat.le_refl _) (by decide) (fx_ki ?_)
          refine pm_aloadn hG dX7_takeBackLent_32 rfl ?_
          refine pm_getf hG dX7_takeBackLent_33 (flX7_72 _ rfl) rfl rfl ?_
          refine pm_icmp_ge (tgt := 46) hG dX7_takeBackLent_36 rfl (fun c5 => ?_) (fun c5 => ?_)
          · replace c5 := Int32.not_lt.mpr c5
            replace hE := fx_f c5 hE
            refine pm_iincX (v := x2_2 + 1) (loc' := [some (.ref (B + 1)), some (.int x1), some (.int (x2_2 + 1))]) hG dX7_takeBackLent_46 rfl (by rfl) (by decide) (pm_c1b rfl) rfl ?_
            refine pm_goto (tgt := 10) hG dX7_takeBackLent_49 rfl ?_
            exact ih10 _ _ hE
          · replace c5 := Int32.not_le.mp c5
            replace hE := fx_t c5 hE
            refine pm_aloadn hG dX7_takeBackLent_39 rfl ?_
            refine pm_iloadn hG dX7_takeBackLent_40 rfl ?_
            refine pm_iconst (v := (-1)) hG dX7_takeBackLent_41 (by decide) ?_
            refine pm_iconst (v := (-1)) hG dX7_takeBackLent_42 (by decide) ?_
            obtain ⟨r7, h6, hE⟩ := fb_some hE
            refine pm_callV (As := [.int x2_2, .int (-1), .int (-1)]) (rest := []) hG hR dX7_takeBackLent_43 (lkX7_122 _ rfl) okV_X7_setLent rfl rfl (c_X7_setLent (d := 1) (by decide) h6) rfl rfl hdd (Nat.le_refl _) (Nat.le_refl _) (by decide) (fx_kv ?_)
            refine pm_iincX (v := x2_2 + 1) (loc' := [some (.ref (B + 1)), some (.int x1), some (.int (x2_2 + 1))]) hG dX7_takeBackLent_46 rfl (by rfl) (by decide) (pm_c1b rfl) rfl ?_
            refine pm_goto (tgt := 10) hG dX7_takeBackLent_49 rfl ?_
            exact ih10 _ _ hE
  refine loop10 _ (fun S8 x8_2 hE => ?_) _ _ _ hE
  exact pm_vret hG hF dX7_takeBackLent_52 rfl (Nat.le_refl _) (Nat.le_refl _) (fx_rvc hE)
