section
set_option maxRecDepth 100000 in
set_option maxHeartbeats 4000000 in
theorem c_X4_follower {d : Nat} {B cnt : Nat} {kp : Value} {ρ : pm_S} {S : FS} {za : Int32} {R : Int32 × FS} (hdd : 6 ≤ d) (hE : f_X4_follower S za = some R) : pm_met mX4_follower d 0 0 B [.ref (B + 37), .int za] cnt (cst B kp S ρ) (pm_Qi (fun v σ' cnt' => v = R.1 ∧ σ' = (cst B kp R.2 ρ) ∧ cnt' = cnt)) := by
  refine pm_enter 2 (by decide) (Nat.le_of_ble_eq_true rfl) rfl (fun G hG hR hF => ?_)
  unfold f_X4_follower at hE
  refine pm_aloadn hG dX4_follower_0 rfl ?_
  refine pm_getf hG dX4_follower_1 (flX4_24 _ rfl) rfl rfl ?_
  refine pm_callV (As := []) (rest := []) hG hR dX4_follower_4 (lkX4_28 _ rfl) okV_X9_clear rfl rfl (tclear_38 (d := 5)) rfl rfl hdd (Nat.le_refl _) (Nat.le_refl _) (by decide) (fx_kv ?_)
  refine fx_letc hE (fun S1 hE => ?_)
  refine pm_aloadn hG dX4_follower_7 rfl ?_
  refine pm_getf hG dX4_follower_8 (flX4_9 _ rfl) rfl rfl ?_
  refine pm_getf hG dX4_follower_11 (flX4_31 _ rfl) rfl rfl ?_
  refine pm_callV (As := []) (rest := []) hG hR dX4_follower_14 (lkX4_36 _ rfl) okV_X9_used rfl rfl (tused_6 (d := 5)) rfl rfl hdd (Nat.le_refl _) (Nat.le_refl _) (by decide) (fx_ki ?_)
  refine fx_letv hE (fun x2 hE => ?_)
  refine pm_istoreXn (loc' := [some (.ref (B + 37)), some (.int za), some (.int x2), none]) hG dX4_follower_17 (by decide) (pm_c1b rfl) rfl ?_
  refine pm_iconst (v := 0) hG dX4_follower_18 (by decide) ?_
  refine pm_istoreXn (loc' := [some (.ref (B + 37)), some (.int za), some (.int x2), some (.int 0)]) hG dX4_follower_19 (by decide) (pm_c1b rfl) rfl ?_
  have loop20 : ∀ (k20 : FS → Int32 → Option (Int32 × FS)), (∀ (S3 : FS) (x3_3 : Int32), k20 S3  x3_3 = some R → pm_wp mX4_follower G B 48 [some (.ref (B + 37)), some (.int za), some (.int x2), some (.int x3_3)] [] 0 0 cnt (cst B kp S3 ρ)) → ∀ (m20 : Nat) (S3 : FS) (x3_3 : Int32), l_X4_follower_20 x2 k20 m20 S3  x3_3 = some R → pm_wp mX4_follower G B 20 [some (.ref (B + 37)), some (.int za), some (.int x2), some (.int x3_3)] [] 0 0 cnt (cst B kp S3 ρ) := by
    intro k20 hk20 m20
    induction m20 with
    | zero => intro S3  x3_3 hE; exact fx_no hE
    | succ m20 ih20 =>
      intro S3  x3_3 hE
      rw [l_X4_follower_20] at hE
      refine pm_iloadn hG dX4_follower_20 rfl ?_
      refine pm_iloadn hG dX4_follower_21 rfl ?_
      refine pm_icmp_ge (tgt := 48) hG dX4_follower_22 rfl (fun c4 => ?_) (fun c4 => ?_)
      · replace c4 := Int32.not_lt.mpr c4
        replace hE := fx_f c4 hE
        exact hk20 _ _ hE
      · replace c4 := Int32.not_le.mp c4
        replace hE := fx_t c4 hE
        refine pm_iloadn hG dX4_follower_25 rfl ?_
        refine pm_if_eq (tgt := 42) hG dX4_follower_26 rfl (fun c5 => ?_) (fun c5 => ?_)
        · replace hE := fx_t c5 hE
          refine pm_iincX (v := x3_3 + 1) (loc' := [some (.ref (B + 37)), some (.int za), some (.int x2), some (.int (x3_3 + 1))]) hG dX4_follower_42 rfl (by rfl) (by decide) (pm_c1b rfl) rfl ?_
          refine pm_goto (tgt := 20) hG dX4_follower_45 rfl ?_
          exact ih20 _ _ hE
        · replace hE := fx_f c5 hE
          refine pm_aloadn hG dX4_follower_29 rfl ?_
          refine pm_iloadn hG dX4_follower_30 rfl ?_
          obtain ⟨r7, h6, hE⟩ := fb_some hE
          refine pm_callV (As := [.int x3_3]) (rest := []) hG hR dX4_follower_31 (lkX4_40 _ rfl) okV_X4_isFollower rfl rfl (c_X4_isFollower (d := 5) (by decide) h6) rfl rfl hdd (Nat.le_refl _) (Nat.le_refl _) (by decide) (fx_ki ?_)
          refine pm_if_eq (tgt := 42) hG dX4_follower_34 rfl (fun c8 => ?_) (fun c8 => ?_)
          · replace hE := fx_t c8 hE
            refine pm_iincX (v := x3_3 + 1) (loc' := [some (.ref (B + 37)), some (.int za), some (.int x2), some (.int (x3_3 + 1))]) hG dX4_follower_42 rfl (by rfl) (by decide) (pm_c1b rfl) rfl ?_
            refine pm_goto (tgt := 20) hG dX4_follower_45 rfl ?_
            exact ih20 _ _ hE
          · replace hE := fx_f c8 hE
            refine pm_aloadn hG dX4_follower_37 rfl ?_
            refine pm_iloadn hG dX4_follower_38 rfl ?_
            obtain ⟨r10, h9, hE⟩ := fb_some hE
            refine pm_callV (As := [.int x3_3]) (rest := []) hG hR dX4_follower_39 (lkX4_44 _ rfl) okV_X4_enqueue rfl rfl (c_X4_enqueue (d := 5) (by decide) h9) rfl rfl hdd (Nat.le_refl _) (Nat.le_refl _) (by decide) (fx_kv ?_)
            refine pm_iincX (v := x3_3 + 1) (loc' := [some (.ref (B + 37)), some (.int za), some (.int x2), some (.int (x3_3 + 1))]) hG dX4_follower_42 rfl (by rfl) (by decide) (pm_c1b rfl) rfl ?_
            refine pm_goto (tgt := 20) hG dX4_follower_45 rfl ?_
            exact ih20 _ _ hE
  refine loop20 _ (fun S11 x11_3 hE => ?_) _ _ _ hE
  refine pm_aloadn hG dX4_follower_48 rfl ?_
  refine pm_getf hG dX4_follower_49 (flX4_24 _ rfl) rfl rfl ?_
  refine pm_iloadn hG dX4_follower_52 rfl ?_
  refine pm_callV (As := [.int za]) (rest := []) hG hR dX4_follower_53 (lkX4_48 _ rfl) okV_X9_has rfl rfl (thas_38 (d := 5)) rfl rfl hdd (Nat.le_refl _) (Nat.le_refl _) (by decide) (fx_ki ?_)
  refine pm_if_eq (tgt := 71) hG dX4_follower_56 rfl (fun c12 => ?_) (fun c12 => ?_)
  · replace hE := fx_t c12 hE
    refine pm_ldc hG dX4_follower_71 (ctX4_55 _ rfl) ?_
    exact pm_iret hG hF dX4_follower_73 rfl (Nat.le_refl _) (Nat.le_refl _) (fx_ric hE)
  · replace hE := fx_f c12 hE
    refine pm_aloadn hG dX4_follower_59 rfl ?_
    refine pm_getf hG dX4_follower_60 (flX4_24 _ rfl) rfl rfl ?_
    refine pm_iloadn hG dX4_follower_63 rfl ?_
    refine pm_iconst (v := 0) hG dX4_follower_64 (by decide) ?_
    refine pm_callV (As := [.int za, .int 0]) (rest := []) hG hR dX4_follower_65 (lkX4_51 _ rfl) okV_X9_get rfl rfl (tget_38 (d := 5)) rfl rfl hdd (Nat.le_refl _) (Nat.le_refl _) (by decide) (fx_ki ?_)
    refine pm_goto (tgt := 73) hG dX4_follower_68 rfl ?_
    exact pm_iret hG hF dX4_follower_73 rfl (Nat.le_refl _) (Nat.le_refl _) (fx_ric hE)

set_option maxRecDepth 100000 in
set_option maxHeartbeats 4000000 in
theorem c_X11_heir {d : Nat} {B cnt : Nat} {kp : Value} {ρ : pm_S} {S : FS} {za : Int32} {R : Int32 × FS} (hdd : 7 ≤ d) (hE : f_X11_heir S za = some R) : pm_met mX11_heir d 0 0 B [.ref (B + 0), .int za] cnt (cst B kp S ρ) (pm_Qi (fun v σ' cnt' => v = R.1 ∧ σ' = (cst B kp R.2 ρ) ∧ cnt' = cnt)) := by
  refine pm_enter 0 (by decide) (Nat.le_of_ble_eq_true rfl) rfl (fun G hG hR hF => ?_)
  unfold f_X11_heir at hE
  refine pm_aloadn hG dX11_heir_0 rfl ?_
  refine pm_iloadn hG dX11_heir_1 rfl ?_
  refine pm_if_ge (tgt := 10) hG dX11_heir_2 rfl (fun c1 => ?_) (fun c1 => ?_)
  · replace c1 := Int32.not_lt.mpr c1
    replace hE := fx_f c1 hE
    refine pm_aloadn hG dX11_heir_10 rfl ?_
    refine pm_getf hG dX11_heir_11 (flX11_46 _ rfl) rfl rfl ?_
    refine pm_iloadn hG dX11_heir_14 rfl ?_
    obtain ⟨r3, h2, hE⟩ := fb_some hE
    refine pm_callV (As := [.int za]) (rest := [.ref (B + 0)]) hG hR dX11_heir_15 (lkX11_326 _ rfl) okV_X4_follower rfl rfl (c_X4_follower (d := 6) (by decide) h2) rfl rfl hdd (Nat.le_refl _) (Nat.le_refl _) (by first | decide | exact Nat.le_of_ble_eq_true rfl) (fx_ki ?_)
    obtain ⟨r5, h4, hE⟩ := fb_some hE
    refine pm_callV (As := [.int r3.1]) (rest := []) hG hR dX11_heir_18 (lkX11_97 _ rfl) okV_X11_told rfl rfl (c_X11_told (d := 6) (by decide) h4) rfl rfl hdd (Nat.le_refl _) (Nat.le_refl _) (by decide) (fx_ki ?_)
    exact pm_iret hG hF dX11_heir_21 rfl (Nat.le_refl _) (Nat.le_refl _) (fx_ric hE)
  · replace c1 := Int32.not_le.mp c1
    replace hE := fx_t c1 hE
    refine pm_ldc hG dX11_heir_5 (ctX11_109 _ rfl) ?_
    refine pm_goto (tgt := 18) hG dX11_heir_7 rfl ?_
    obtain ⟨r7, h6, hE⟩ := fb_some hE
    refine pm_callV (As := [.int (-1000001)]) (rest := []) hG hR dX11_heir_18 (lkX11_97 _ rfl) okV_X11_told rfl rfl (c_X11_told (d := 6) (by decide) h6) rfl rfl hdd (Nat.le_refl _) (Nat.le_refl _) (by decide) (fx_ki ?_)
    exact pm_iret hG hF dX11_heir_21 rfl (Nat.le_refl _) (Nat.le_refl _) (fx_ric hE)

set_option maxRecDepth 100000 in
set_option maxHeartbeats 4000000 in
theorem c_X11_held {d : Nat} {B cnt : Nat} {kp : Value} {ρ : pm_S} {S : FS} {za : Int32} {zb : Int32} {R : Int32 × FS} (hdd : 3 ≤ d) (hE : f_X11_held S za zb = some R) : pm_met mX11_held d 0 0 B [.ref (B + 0), .int za, .int zb] cnt (cst B kp S ρ) (pm_Qi (fun v σ' cnt' => v = R.1 ∧ σ' = (cst B kp R.2 ρ) ∧ cnt' = cnt)) := by
  refine pm_enter 0 (by decide) (Nat.le_of_ble_eq_true rfl) rfl (fun G hG hR hF => ?_)
  unfold f_X11_held at hE
  refine pm_aloadn hG dX11_held_0 rfl ?_
  refine pm_getf hG dX11_held_1 (flX11_12 _ rfl) rfl rfl ?_
  refine pm_getf hG dX11_held_4 (flX11_161 _ rfl) rfl rfl ?_
  refine pm_iloadn hG dX11_held_7 rfl ?_
  refine pm_callV (As := [.int za]) (rest := []) hG hR dX11_held_8 (lkX11_101 _ rfl) okV_X9_has rfl rfl (thas_8 (d := 2)) rfl rfl hdd (Nat.le_refl _) (Nat.le_refl _) (by decide) (fx_ki ?_)
  refine pm_if_ne (tgt := 21) hG dX11_held_11 rfl (fun c1 => ?_) (fun c1 => ?_)
  · replace hE := fx_f c1 hE
    refine pm_iloadn hG dX11_held_21 rfl ?_
    by_cases c2 : zb = 0
    · replace hE := fx_t c2 hE
      refine pm_top (v := 0) c2 ?_
      refine pm_tswIn (tgt := 56) hG dX11_held_22 (by decide) (by decide) rfl rfl ?_
      refine pm_aloadn hG dX11_held_56 rfl ?_
      refine pm_getf hG dX11_held_57 (flX11_12 _ rfl) rfl rfl ?_
      refine pm_getf hG dX11_held_60 (flX11_161 _ rfl) rfl rfl ?_
      refine pm_iloadn hG dX11_held_63 rfl ?_
      refine pm_iconst (v := 0) hG dX11_held_64 (by decide) ?_
      refine pm_callV (As := [.int za, .int 0]) (rest := []) hG hR dX11_held_65 (lkX11_152 _ rfl) okV_X9_get rfl rfl (tget_8 (d := 2)) rfl rfl hdd (Nat.le_refl _) (Nat.le_refl _) (by decide) (fx_ki ?_)
      exact pm_iret hG hF dX11_held_68 rfl (Nat.le_refl _) (Nat.le_refl _) (fx_ric hE)
    replace hE := fx_f c2 hE
    by_cases c3 : zb = 1
    · replace hE := fx_t c3 hE
      refine pm_top (v := 1) c3 ?_
      refine pm_tswIn (tgt := 69) hG dX11_held_22 (by decide) (by decide) rfl rfl ?_
      refine pm_aloadn hG dX11_held_69 rfl ?_
      refine pm_getf hG dX11_held_70 (flX11_12 _ rfl) rfl rfl ?_
      refine pm_getf hG dX11_held_73 (flX11_161 _ rfl) rfl rfl ?_
      refine pm_iloadn hG dX11_held_76 rfl ?_
      refine pm_iconst (v := 2) hG dX11_held_77 (by decide) ?_
      refine pm_callV (As := [.int za, .int 2]) (rest := []) hG hR dX11_held_78 (lkX11_152 _ rfl) okV_X9_get rfl rfl (tget_8 (d := 2)) rfl rfl hdd (Nat.le_refl _) (Nat.le_refl _) (by decide) (fx_ki ?_)
      exact pm_iret hG hF dX11_held_81 rfl (Nat.le_refl _) (Nat.le_refl _) (fx_ric hE)
    replace hE := fx_f c3 hE
    by_cases c4 : zb = 2
    · replace hE := fx_t c4 hE
      refine pm_top (v := 2) c4 ?_
      refine pm_tswIn (tgt := 82) hG dX11_held_22 (by decide) (by decide) rfl rfl ?_
      refine pm_aloadn hG dX11_held_82 rfl ?_
      refine pm_getf hG dX11_held_83 (flX11_12 _ rfl) rfl rfl ?_
      refine pm_iloadn hG dX11_held_86 rfl ?_
      refine pm_callV (As := [.int za]) (rest := []) hG hR dX11_held_87 (lkX11_185 _ rfl) okV_X7_whoHas rfl rfl (c_X7_whoHas (d := 2) (by decide) rfl) rfl rfl hdd (Nat.le_refl _) (Nat.le_refl _) (by decide) (fx_ki ?_)
      exact pm_iret hG hF dX11_held_90 rfl (Nat.le_refl _) (Nat.le_refl _) (fx_ric hE)
    replace hE := fx_f c4 hE
    by_cases c5 : zb = 3
    · replace hE := fx_t c5 hE
      refine pm_top (v := 3) c5 ?_
      refine pm_tswIn (tgt := 91) hG dX11_held_22 (by decide) (by decide) rfl rfl ?_
      refine pm_aloadn hG dX11_held_91 rfl ?_
      refine pm_getf hG dX11_held_92 (flX11_12 _ rfl) rfl rfl ?_
      refine pm_getf hG dX11_held_95 (flX11_161 _ rfl) rfl rfl ?_
      refine pm_iloadn hG dX11_held_98 rfl ?_
      refine pm_iconst (v := 5) hG dX11_held_99 (by decide) ?_
      refine pm_callV (As := [.int za, .int 5]) (rest := []) hG hR dX11_held_100 (lkX11_152 _ rfl) okV_X9_get rfl rfl (tget_8 (d := 2)) rfl rfl hdd (Nat.le_refl _) (Nat.le_refl _) (by decide) (fx_ki ?_)
      exact pm_iret hG hF dX11_held_103 rfl (Nat.le_refl _) (Nat.le_refl _) (fx_ric hE)
    replace hE := fx_f c5 hE
    by_cases c6 : zb = 4
    · replace hE := fx_t c6 hE
      refine pm_top (v := 4) c6 ?_
      refine pm_tswIn (tgt := 104) hG dX11_held_22 (by decide) (by decide) rfl rfl ?_
      refine pm_aloadn hG dX11_held_104 rfl ?_
      refine pm_getf hG dX11_held_105 (flX11_12 _ rfl) rfl rfl ?_
      refine pm_getf hG dX11_held_108 (flX11_161 _ rfl) rfl rfl ?_
      refine pm_iloadn hG dX11_held_111 rfl ?_
      refine pm_iconst (v := 4) hG dX11_held_112 (by decide) ?_
      refine pm_callV (As := [.int za, .int 4]) (rest := []) hG hR dX11_held_113 (lkX11_152 _ rfl) okV_X9_get rfl rfl (tget_8 (d := 2)) rfl rfl hdd (Nat.le_refl _) (Nat.le_refl _) (by decide) (fx_ki ?_)
      exact pm_iret hG hF dX11_held_116 rfl (Nat.le_refl _) (Nat.le_refl _) (fx_ric hE)
    replace hE := fx_f c6 hE
    have tc2 : ¬ zb.toInt = 0 := fun q => c2 (Int32.toInt_inj.mp q)
    have tc3 : ¬ zb.toInt = 1 := fun q => c3 (Int32.toInt_inj.mp q)
    have tc4 : ¬ zb.toInt = 2 := fun q => c4 (Int32.toInt_inj.mp q)
    have tc5 : ¬ zb.toInt = 3 := fun q => c5 (Int32.toInt_inj.mp q)
    have tc6 : ¬ zb.toInt = 4 := fun q => c6 (Int32.toInt_inj.mp q)
    refine pm_tswOut (tgt := 117) hG dX11_held_22 (by omega) rfl ?_
    refine pm_aloadn hG dX11_held_117 rfl ?_
    refine pm_ldc hG dX11_held_118 (ctX11_109 _ rfl) ?_
    obtain ⟨r8, h7, hE⟩ := fb_some hE
    refine pm_callV (As := [.int (-1000001)]) (rest := []) hG hR dX11_held_120 (lkX11_97 _ rfl) okV_X11_told rfl rfl (c_X11_told (d := 2) (by decide) h7) rfl rfl hdd (Nat.le_refl _) (Nat.le_refl _) (by decide) (fx_ki ?_)
    exact pm_iret hG hF dX11_held_123 rfl (Nat.le_refl _) (Nat.le_refl _) (fx_ric hE)
  · replace hE := fx_t c1 hE
    refine pm_aloadn hG dX11_held_14 rfl ?_
    refine pm_ldc hG dX11_held_15 (ctX11_109 _ rfl) ?_
    obtain ⟨r10, h9, hE⟩ := fb_some hE
    refine pm_callV (As := [.int (-1000001)]) (rest := []) hG hR dX11_held_17 (lkX11_97 _ rfl) okV_X11_told rfl rfl (c_X11_told (d := 2) (by decide) h9) rfl rfl hdd (Nat.le_refl _) (Nat.le_refl _) (by decide) (fx_ki ?_)
    exact pm_iret hG hF dX11_held_20 rfl (Nat.le_refl _) (Nat.le_refl _) (fx_ric hE)

set_option maxRecDepth 100000 in
set_option maxHeartbeats 4000000 in
theorem c_X6_next {d : Nat} {B cnt : Nat} {kp : Value} {ρ : pm_S} {S : FS} {R : Int32} (hdd : 1 ≤ d) (hE : p_X6_next S = R) : pm_met mX6_next d 0 0 B [.ref (B + 27)] cnt (cst B kp S ρ) (pm_Qi (fun v σ' cnt' => v = R ∧ σ' = (cst B kp S ρ) ∧ cnt' = cnt)) := by
  refine pm_enter 0 (by decide) (Nat.le_of_ble_eq_true rfl) rfl (fun G hG hR hF => ?_)
  unfold p_X6_next at hE
  refine pm_aloadn hG dX6_next_0 rfl ?_
  refine pm_getf hG dX6_next_1 (flX6_30 _ rfl) rfl rfl ?_
  refine pm_if_ge (tgt := 36) hG dX6_next_4 rfl (fun c1 => ?_) (fun c1 => ?_)
  · replace c1 := Int32.not_lt.mpr c1
    replace hE := fx_f c1 hE
    refine pm_iconst (v := (-1)) hG dX6_next_36 (by decide) ?_
    exact pm_iret hG hF dX6_next_37 rfl  (Nat.le_refl _) (Nat.le_refl _) (fx_pi hE)
  · replace c1 := Int32.not_le.mp c1
    replace hE := fx_t c1 hE
    refine pm_aloadn hG dX6_next_7 rfl ?_
    refine pm_getf hG dX6_next_8 (flX6_26 _ rfl) rfl rfl ?_
    refine pm_aloadn hG dX6_next_11 rfl ?_
    refine pm_getf hG dX6_next_12 (flX6_9 _ rfl) rfl rfl ?_
    refine pm_callV (As := []) (rest := [.int (S.1 105)]) hG hR dX6_next_15 (lkX6_37 _ rfl) okV_X9_used rfl rfl (tused_24 (d := 0)) rfl rfl hdd (Nat.le_refl _) (Nat.le_refl _) (by first | decide | exact Nat.le_of_ble_eq_true rfl) (fx_ki ?_)
    refine pm_icmp_ge (tgt := 36) hG dX6_next_18 rfl (fun c2 => ?_) (fun c2 => ?_)
    · replace c2 := Int32.not_lt.mpr c2
      replace hE := fx_f c2 hE
      refine pm_iconst (v := (-1)) hG dX6_next_36 (by decide) ?_
      exact pm_iret hG hF dX6_next_37 rfl  (Nat.le_refl _) (Nat.le_refl _) (fx_pi hE)
    · replace c2 := Int32.not_le.mp c2
      replace hE := fx_t c2 hE
      refine pm_aloadn hG dX6_next_21 rfl ?_
      refine pm_getf hG dX6_next_22 (flX6_9 _ rfl) rfl rfl ?_
      refine pm_aloadn hG dX6_next_25 rfl ?_
      refine pm_getf hG dX6_next_26 (flX6_26 _ rfl) rfl rfl ?_
      refine pm_iconst (v := 0) hG dX6_next_29 (by decide) ?_
      refine pm_callV (As := [.int (S.1 105), .int 0]) (rest := []) hG hR dX6_next_30 (lkX6_80 _ rfl) okV_X9_get rfl rfl (tget_24 (d := 0)) rfl rfl hdd (Nat.le_refl _) (Nat.le_refl _) (by decide) (fx_ki ?_)
      refine pm_goto (tgt := 37) hG dX6_next_33 rfl ?_
      exact pm_iret hG hF dX6_next_37 rfl  (Nat.le_refl _) (Nat.le_refl _) (fx_pi hE)

set_option maxRecDepth 100000 in
set_option maxHeartbeats 4000000 in
theorem c_X6_isDigit {d : Nat} {B cnt : Nat} {kp : Value} {ρ : pm_S} {S : FS} {za : Int32} {R : Int32} (hdd : 1 ≤ d) (hE : p_X6_isDigit S za = R) : pm_met mX6_isDigit d 0 0 B [.int za] cnt (cst B kp S ρ) (pm_Qi (fun v σ' cnt' => v = R ∧ σ' = (cst B kp S ρ) ∧ cnt' = cnt)) := by
  refine pm_enter 0 (by decide) (Nat.le_of_ble_eq_true rfl) rfl (fun G hG hR hF => ?_)
  unfold p_X6_isDigit at hE
  refine pm_iloadn hG dX6_isDigit_0 rfl ?_
  refine pm_bipush (v := 48) hG dX6_isDigit_1 (by decide) ?_
  refine pm_icmp_lt (tgt := 16) hG dX6_isDigit_3 rfl (fun c1 => ?_) (fun c1 => ?_)
  · replace hE := fx_t c1 hE
    refine pm_iconst (v := 0) hG dX6_isDigit_16 (by decide) ?_
    exact pm_zret hG hF dX6_isDigit_17 rfl (by rfl) (Nat.le_refl _) (Nat.le_refl _) (fx_pi hE)
  · replace hE := fx_f c1 hE
    refine pm_iloadn hG dX6_isDigit_6 rfl ?_
    refine pm_bipush (v := 57) hG dX6_isDigit_7 (by decide) ?_
    refine pm_icmp_gt (tgt := 16) hG dX6_isDigit_9 rfl (fun c2 => ?_) (fun c2 => ?_)
    · replace hE := fx_t c2 hE
      refine pm_iconst (v := 0) hG dX6_isDigit_16 (by decide) ?_
      exact pm_zret hG hF dX6_isDigit_17 rfl (by rfl) (Nat.le_refl _) (Nat.le_refl _) (fx_pi hE)
    · replace hE := fx_f c2 hE
      refine pm_iconst (v := 1) hG dX6_isDigit_12 (by decide) ?_
      refine pm_goto (tgt := 17) hG dX6_isDigit_13 rfl ?_
      exact pm_zret hG hF dX6_isDigit_17 rfl (by rfl) (Nat.le_refl _) (Nat.le_refl _) (fx_pi hE)

set_option maxRecDepth 100000 in
set_option maxHeartbeats 4000000 in
theorem c_X6_fail {d : Nat} {B cnt : Nat} {kp : Value} {ρ : pm_S} {S : FS} {R : Int32 × FS} (hdd : 1 ≤ d) (hE : f_X6_fail S = some R) : pm_met mX6_fail d 0 0 B [.ref (B + 27)] cnt (cst B kp S ρ) (pm_Qv (fun σ' cnt' => σ' = (cst B kp R.2 ρ) ∧ cnt' = cnt)) := by
  refine pm_enter 0 (by decide) (Nat.le_of_ble_eq_true rfl) rfl (fun G hG hR hF => ?_)
  unfold f_X6_fail at hE
  refine pm_aloadn hG dX6_fail_0 rfl ?_
  refine pm_getf hG dX6_fail_1 (flX6_30 _ rfl) rfl rfl ?_
  refine pm_if_ge (tgt := 15) hG dX6_fail_4 rfl (fun c1 => ?_) (fun c1 => ?_)
  · replace c1 := Int32.not_lt.mpr c1
    replace hE := fx_f c1 hE
    exact pm_vret hG hF dX6_fail_15 rfl (Nat.le_refl _) (Nat.le_refl _) (fx_rvc hE)
  · replace c1 := Int32.not_le.mp c1
    replace hE := fx_t c1 hE
    refine pm_aloadn hG dX6_fail_7 rfl ?_
    refine pm_aloadn hG dX6_fail_8 rfl ?_
    refine pm_getf hG dX6_fail_9 (flX6_26 _ rfl) rfl rfl ?_
    refine pm_putf hG dX6_fail_12 (fwX6_30 _ rfl) rfl rfl rfl ?_
    refine ci_106 ?_
    refine fx_letc hE (fun S2 hE => ?_)
    exact pm_vret hG hF dX6_fail_15 rfl (Nat.le_refl _) (Nat.le_refl _) (fx_rvc hE)

set_option maxRecDepth 100000 in
set_option maxHeartbeats 4000000 in
theorem c_X6_readNumber {d : Nat} {B cnt : Nat} {kp : Value} {ρ : pm_S} {S : FS} {R : Int32 × FS} (hdd : 2 ≤ d) (hE : f_X6_readNumber S = some R) : pm_met mX6_readNumber d 0 0 B [.ref (B + 27)] cnt (cst B kp S ρ) (pm_Qv (fun σ' cnt' => σ' = (cst B kp R.2 ρ) ∧ cnt' = cnt)) := by
  refine pm_enter 2 (by decide) (Nat.le_of_ble_eq_true rfl) rfl (fun G hG hR hF => ?_)
  unfold f_X6_readNumber at hE
  refine pm_iconst (v := 0) hG dX6_readNumber_0 (by decide) ?_
  refine pm_istoreXn (loc' := [some (.ref (B + 27)), some (.int 0), none]) hG dX6_readNumber_1 (by decide) (pm_c1b rfl) rfl ?_
  refine pm_iconst (v := 0) hG dX6_readNumber_2 (by decide) ?_
  refine pm_istoreXn (loc' := [some (.ref (B + 27)), some (.int 0), some (.int 0)]) hG dX6_readNumber_3 (by decide) (pm_c1b rfl) rfl ?_
  have loop4 : ∀ (k4 : FS → Int32 → Int32 → Option (Int32 × FS)), (∀ (S1 : FS) (x1_1 : Int32) (x1_2 : Int32), k4 S1  x1_1 x1_2 = some R → pm_wp mX6_readNumber G B 48 [some (.ref (B + 27)), some (.int x1_1), some (.int x1_2)] [] 0 0 cnt (cst B kp S1 ρ)) → ∀ (m4 : Nat) (S1 : FS) (x1_1 : Int32) (x1_2 : Int32), l_X6_readNumber_4 k4 m4 S1  x1_1 x1_2 = some R → pm_wp mX6_readNumber G B 4 [some (.ref (B + 27)), some (.int x1_1), some (.int x1_2)] [] 0 0 cnt (cst B kp S1 ρ) := by
    intro k4 hk4 m4
    induction m4 with
    | zero => intro S1  x1_1 x1_2 hE; exact fx_no hE
    | succ m4 ih4 =>
      intro S1  x1_1 x1_2 hE
      rw [l_X6_readNumber_4] at hE
      refine pm_iloadn hG dX6_readNumber_4 rfl ?_
      refine pm_iconst (v := 4) hG dX6_readNumber_5 (by decide) ?_
      refine pm_icmp_ge (tgt := 48) hG dX6_readNumber_6 rfl (fun c2 => ?_) (fun c2 => ?_)
      · replace c2 := Int32.not_lt.mpr c2
        replace hE := fx_f c2 hE
        exact hk4 _ _ _ hE
      · replace c2 := Int32.not_le.mp c2
        replace hE := fx_t c2 hE
        refine pm_aloadn hG dX6_readNumber_9 rfl ?_
        refine pm_callV (As := []) (rest := []) hG hR dX6_readNumber_10 (lkX6_47 _ rfl) okV_X6_next rfl rfl (c_X6_next (d := 1) (by decide) rfl) rfl rfl hdd (Nat.le_refl _) (Nat.le_refl _) (by decide) (fx_ki ?_)
        refine pm_callS (As := [.int (p_X6_next S1)]) (rest := []) hG hR dX6_readNumber_13 (lkX6_70 _ rfl) okS_X6_isDigit (c_X6_isDigit (d := 1) (by decide) rfl) rfl rfl hdd (Nat.le_refl _) (Nat.le_refl _) (by decide) (fx_ki ?_)
        refine pm_if_eq (tgt := 48) hG dX6_readNumber_16 rfl (fun c3 => ?_) (fun c3 => ?_)
        · replace hE := fx_t c3 hE
          exact hk4 _ _ _ hE
        · replace hE := fx_f c3 hE
          refine pm_iloadn hG dX6_readNumber_19 rfl ?_
          refine pm_bipush (v := 10) hG dX6_readNumber_20 (by decide) ?_
          refine pm_imul hG dX6_readNumber_22 ?_
          refine pm_aloadn hG dX6_readNumber_23 rfl ?_
          refine pm_callV (As := []) (rest := [.int (x1_1 * 10)]) hG hR dX6_readNumber_24 (lkX6_47 _ rfl) okV_X6_next rfl rfl (c_X6_next (d := 1) (by decide) rfl) rfl rfl hdd (Nat.le_refl _) (Nat.le_refl _) (by first | decide | exact Nat.le_of_ble_eq_true rfl) (fx_ki ?_)
          refine pm_iadd hG dX6_readNumber_27 ?_
          refine pm_bipush (v := 48) hG dX6_readNumber_28 (by decide) ?_
          refine pm_isub hG dX6_readNumber_30 ?_
          refine fx_letv hE (fun x4 hE => ?_)
          refine pm_istoreXn (loc' := [some (.ref (B + 27)), some (.int x4), some (.int x1_2)]) hG dX6_readNumber_31 (by decide) (pm_c1b rfl) rfl ?_
          refine pm_aloadn hG dX6_readNumber_32 rfl ?_
          refine pm_dup hG dX6_readNumber_33 rfl ?_
          refine pm_getf hG dX6_readNumber_34 (flX6_26 _ rfl) rfl rfl ?_
          refine pm_iconst (v := 1) hG dX6_readNumber_37 (by decide) ?_
          refine pm_iadd hG dX6_readNumber_38 ?_
          refine pm_putf hG dX6_readNumber_39 (fwX6_26 _ rfl) rfl rfl rfl ?_
          refine ci_105 ?_
          refine fx_letc hE (fun S5 hE => ?_)
          refine pm_iincX (v := x1_2 + 1) (loc' := [some (.ref (B + 27)), some (.int x4), some (.int (x1_2 + 1))]) hG dX6_readNumber_42 rfl (by rfl) (by decide) (pm_c1b rfl) rfl ?_
          refine pm_goto (tgt := 4) hG dX6_readNumber_45 rfl ?_
          exact ih4 _ _ _ hE
  refine loop4 _ (fun S6 x6_1 x6_2 hE => ?_) _ _ _ _ hE
  refine pm_aloadn hG dX6_readNumber_48 rfl ?_
  refine pm_getf hG dX6_readNumber_49 (flX6_20 _ rfl) rfl rfl ?_
  refine pm_iloadn hG dX6_readNumber_52 rfl ?_
  obtain ⟨r8, h7, hE⟩ := fb_some hE
  refine pm_callV (As := [.int x6_1]) (rest := []) hG hR dX6_readNumber_53 (lkX6_50 _ rfl) okV_X9_append rfl rfl (tappend_28 (d := 1) (by decide) h7) rfl rfl hdd (Nat.le_refl _) (Nat.le_refl _) (by decide) (fx_ki ?_)
  refine pm_pop hG dX6_readNumber_56 rfl ?_
  exact pm_vret hG hF dX6_readNumber_57 rfl (Nat.le_refl _) (Nat.le_refl _) (fx_rvc hE)

set_option maxRecDepth 100000 in
set_option maxHeartbeats 4000000 in
theorem c_X6_readPart_k5 {d : Nat} {B cnt : Nat} {kp : Value} {ρ : pm_S} {S : FS} {R : Int32 × FS} (hdd : 4 ≤ d) (hE : f_X6_readPart_k5 S = some R) : pm_met mX6_readPart d 0 0 B [.ref (B + 27), .int 5] cnt (cst B kp S ρ) (pm_Qv (fun σ' cnt' => σ' = (cst B kp R.2 ρ) ∧ cnt' = cnt)) := by
  refine pm_enter 2 (by decide) (Nat.le_of_ble_eq_true rfl) rfl (fun G hG hR hF => ?_)
  unfold f_X6_readPart_k5 at hE
  refine pm_aloadn hG dX6_readPart_0 rfl ?_
  refine pm_callV (As := []) (rest := []) hG hR dX6_readPart_1 (lkX6_47 _ rfl) okV_X6_next rfl rfl (c_X6_next (d := 3) (by decide) rfl) rfl rfl hdd (Nat.le_refl _) (Nat.le_refl _) (by decide) (fx_ki ?_)
  refine fx_letv hE (fun x1 hE => ?_)
  refine pm_istoreXn (loc' := [some (.ref (B + 27)), some (.int 5), some (.int x1), none]) hG dX6_readPart_4 (by decide) (pm_c1b rfl) rfl ?_
  refine pm_iloadn hG dX6_readPart_5 rfl ?_
  refine pm_if_ge (tgt := 13) hG dX6_readPart_6 rfl (fun c2 => ?_) (fun c2 => ?_)
  · replace c2 := Int32.not_lt.mpr c2
    replace hE := fx_f c2 hE
    refine pm_ldcN hG rfl dX6_readPart_13 (fun q3 z3 hN3 => ?_)
    refine pm_iloadn hG dX6_readPart_15 rfl ?_
    refine pm_i2cE hG dX6_readPart_16 rfl ?_
    obtain ⟨x5, h4, hE⟩ := fb_some hE
    refine pm_callVN (As := [.int ((x1.toUInt32 % 65536).toInt32)]) (rest := []) hN3 hG hR dX6_readPart_17 (lpX6_65 _ rfl) okV_J0_indexOf_0f7a4 rfl (fj_iof (d := 3) (by decide) h4) rfl rfl hdd (Nat.le_refl _) (Nat.le_refl _) (by first | decide | exact Nat.le_of_ble_eq_true rfl) (fx_ki ?_)
    refine pm_istoreXn (loc' := [some (.ref (B + 27)), some (.int 5), some (.int x1), some (.int x5)]) hG dX6_readPart_20 (by decide) (pm_c1b rfl) rfl ?_
    refine pm_iloadn hG dX6_readPart_21 rfl ?_
    refine pm_callS (As := [.int x1]) (rest := []) hG hR dX6_readPart_22 (lkX6_70 _ rfl) okS_X6_isDigit (c_X6_isDigit (d := 3) (by decide) rfl) rfl rfl hdd (Nat.le_refl _) (Nat.le_refl _) (by decide) (fx_ki ?_)
    refine pm_if_eq (tgt := 35) hG dX6_readPart_25 rfl (fun c6 => ?_) (fun c6 => ?_)
    · replace hE := fx_t c6 hE
      refine pm_iloadn hG dX6_readPart_35 rfl ?_
      refine pm_if_lt (tgt := 64) hG dX6_readPart_36 rfl (fun c7 => ?_) (fun c7 => ?_)
      · replace hE := fx_t c7 hE
        refine pm_iloadn hG dX6_readPart_64 rfl ?_
        refine pm_bipush (v := 33) hG dX6_readPart_65 (by decide) ?_
        refine pm_icmp_ne (tgt := 104) hG dX6_readPart_67 rfl (fun c8 => ?_) (fun c8 => ?_)
        · replace hE := fx_f c8 hE
          refine pm_iloadn hG dX6_readPart_104 rfl ?_
          refine pm_bipush (v := 40) hG dX6_readPart_105 (by decide) ?_
          refine pm_icmp_ne (tgt := 139) hG dX6_readPart_107 rfl (fun c9 => ?_) (fun c9 => ?_)
          · replace hE := fx_f c9 hE
            refine pm_aloadn hG dX6_readPart_139 rfl ?_
            obtain ⟨r11, h10, hE⟩ := fb_some hE
            refine pm_callV (As := []) (rest := []) hG hR dX6_readPart_140 (lkX6_41 _ rfl) okV_X6_fail rfl rfl (c_X6_fail (d := 3) (by decide) h10) rfl rfl hdd (Nat.le_refl _) (Nat.le_refl _) (by decide) (fx_kv ?_)
            exact pm_vret hG hF dX6_readPart_143 rfl (Nat.le_refl _) (Nat.le_refl _) (fx_rvc hE)
          · replace hE := fx_t c9 hE
            refine pm_iloadn hG dX6_readPart_110 rfl ?_
            refine pm_iconst (v := 5) hG dX6_readPart_111 (by decide) ?_
            refine pm_icmp_ge (tgt := 139) hG dX6_readPart_112 rfl (fun _ => ?_) (fun q => absurd q (by decide))
            refine pm_aloadn hG dX6_readPart_139 rfl ?_
            obtain ⟨r13, h12, hE⟩ := fb_some hE
            refine pm_callV (As := []) (rest := []) hG hR dX6_readPart_140 (lkX6_41 _ rfl) okV_X6_fail rfl rfl (c_X6_fail (d := 3) (by decide) h12) rfl rfl hdd (Nat.le_refl _) (Nat.le_refl _) (by decide) (fx_kv ?_)
            exact pm_vret hG hF dX6_readPart_143 rfl (Nat.le_refl _) (Nat.le_refl _) (fx_rvc hE)
        · replace hE := fx_t c8 hE
          refine pm_iloadn hG dX6_readPart_70 rfl ?_
          refine pm_iconst (v := 5) hG dX6_readPart_71 (by decide) ?_
          refine pm_icmp_ge (tgt := 104) hG dX6_readPart_72 rfl (fun _ => ?_) (fun q => absurd q (by decide))
          refine pm_iloadn hG dX6_readPart_104 rfl ?_
          refine pm_bipush (v := 40) hG dX6_readPart_105 (by decide) ?_
          refine pm_icmp_ne (tgt := 139) hG dX6_readPart_107 rfl (fun c14 => ?_) (fun c14 => ?_)
          · replace hE := fx_f c14 hE
            refine pm_aloadn hG dX6_readPart_139 rfl ?_
            obtain ⟨r16, h15, hE⟩ := fb_some hE
            refine pm_callV (As := []) (rest := []) hG hR dX6_readPart_140 (lkX6_41 _ rfl) okV_X6_fail rfl rfl (c_X6_fail (d := 3) (by decide) h15) rfl rfl hdd (Nat.le_refl _) (Nat.le_refl _) (by decide) (fx_kv ?_)
            exact pm_vret hG hF dX6_readPart_143 rfl (Nat.le_refl _) (Nat.le_refl _) (fx_rvc hE)
          · replace hE := fx_t c14 hE
            refine pm_iloadn hG dX6_readPart_110 rfl ?_
            refine pm_iconst (v := 5) hG dX6_readPart_111 (by decide) ?_
            refine pm_icmp_ge (tgt := 139) hG dX6_readPart_112 rfl (fun _ => ?_) (fun q => absurd q (by decide))
            refine pm_aloadn hG dX6_readPart_139 rfl ?_
            obtain ⟨r18, h17, hE⟩ := fb_some hE
            refine pm_callV (As := []) (rest := []) hG hR dX6_readPart_140 (lkX6_41 _ rfl) okV_X6_fail rfl rfl (c_X6_fail (d := 3) (by decide) h17) rfl rfl hdd (Nat.le_refl _) (Nat.le_refl _) (by decide) (fx_kv ?_)
            exact pm_vret hG hF dX6_readPart_143 rfl (Nat.le_refl _) (Nat.le_refl _) (fx_rvc hE)
      · replace hE := fx_f c7 hE
        refine pm_aloadn hG dX6_readPart_39 rfl ?_
        refine pm_dup hG dX6_readPart_40 rfl ?_
        refine pm_getf hG dX6_readPart_41 (flX6_26 _ rfl) rfl rfl ?_
        refine pm_iconst (v := 1) hG dX6_readPart_44 (by decide) ?_
        refine pm_iadd hG dX6_readPart_45 ?_
        refine pm_putf hG dX6_readPart_46 (fwX6_26 _ rfl) rfl rfl rfl ?_
        refine ci_105 ?_
        refine fx_letc hE (fun S19 hE => ?_)
        refine pm_aloadn hG dX6_readPart_49 rfl ?_
        refine pm_getf hG dX6_readPart_50 (flX6_20 _ rfl) rfl rfl ?_
        refine pm_bipush (v := (-20)) hG dX6_readPart_53 (by decide) ?_
        refine pm_iloadn hG dX6_readPart_55 rfl ?_
        refine pm_isub hG dX6_readPart_56 ?_
        obtain ⟨r21, h20, hE⟩ := fb_some hE
        refine pm_callV (As := [.int ((-20) - x5)]) (rest := []) hG hR dX6_readPart_57 (lkX6_50 _ rfl) okV_X9_append rfl rfl (tappend_28 (d := 3) (by decide) h20) rfl rfl hdd (Nat.le_refl _) (Nat.le_refl _) (by decide) (fx_ki ?_)
        refine pm_pop hG dX6_readPart_60 rfl ?_
        refine pm_goto (tgt := 143) hG dX6_readPart_61 rfl ?_
        exact pm_vret hG hF dX6_readPart_143 rfl (Nat.le_refl _) (Nat.le_refl _) (fx_rvc hE)
    · replace hE := fx_f c6 hE
      refine pm_aloadn hG dX6_readPart_28 rfl ?_
      obtain ⟨r23, h22, hE⟩ := fb_some hE
      refine pm_callV (As := []) (rest := []) hG hR dX6_readPart_29 (lkX6_74 _ rfl) okV_X6_readNumber rfl rfl (c_X6_readNumber (d := 3) (by decide) h22) rfl rfl hdd (Nat.le_refl _) (Nat.le_refl _) (by decide) (fx_kv ?_)
      refine pm_goto (tgt := 143) hG dX6_readPart_32 rfl ?_
      exact pm_vret hG hF dX6_readPart_143 rfl (Nat.le_refl _) (Nat.le_refl _) (fx_rvc hE)
  · replace c2 := Int32.not_le.mp c2
    replace hE := fx_t c2 hE
    refine pm_iconst (v := (-1)) hG dX6_readPart_9 (by decide) ?_
    refine pm_goto (tgt := 20) hG dX6_readPart_10 rfl ?_
    refine pm_istoreXn (loc' := [some (.ref (B + 27)), some (.int 5), some (.int x1), some (.int (-1))]) hG dX6_readPart_20 (by decide) (pm_c1b rfl) rfl ?_
    refine pm_iloadn hG dX6_readPart_21 rfl ?_
    refine pm_callS (As := [.int x1]) (rest := []) hG hR dX6_readPart_22 (lkX6_70 _ rfl) okS_X6_isDigit (c_X6_isDigit (d := 3) (by decide) rfl) rfl rfl hdd (Nat.le_refl _) (Nat.le_refl _) (by decide) (fx_ki ?_)
    refine pm_if_eq (tgt := 35) hG dX6_readPart_25 rfl (fun c24 => ?_) (fun c24 => ?_)
    · replace hE := fx_t c24 hE
      refine pm_iloadn hG dX6_readPart_35 rfl ?_
      refine pm_if_lt (tgt := 64) hG dX6_readPart_36 rfl (fun _ => ?_) (fun q => absurd q (by decide))
      refine pm_iloadn hG dX6_readPart_64 rfl ?_
      refine pm_bipush (v := 33) hG dX6_readPart_65 (by decide) ?_
      refine pm_icmp_ne (tgt := 104) hG dX6_readPart_67 rfl (fun c25 => ?_) (fun c25 => ?_)
      · replace hE := fx_f c25 hE
        refine pm_iloadn hG dX6_readPart_104 rfl ?_
        refine pm_bipush (v := 40) hG dX6_readPart_105 (by decide) ?_
        refine pm_icmp_ne (tgt := 139) hG dX6_readPart_107 rfl (fun c26 => ?_) (fun c26 => ?_)
        · replace hE := fx_f c26 hE
          refine pm_aloadn hG dX6_readPart_139 rfl ?_
          obtain ⟨r28, h27, hE⟩ := fb_some hE
          refine pm_callV (As := []) (rest := []) hG hR dX6_readPart_140 (lkX6_41 _ rfl) okV_X6_fail rfl rfl (c_X6_fail (d := 3) (by decide) h27) rfl rfl hdd (Nat.le_refl _) (Nat.le_refl _) (by decide) (fx_kv ?_)
          exact pm_vret hG hF dX6_readPart_143 rfl (Nat.le_refl _) (Nat.le_refl _) (fx_rvc hE)
        · replace hE := fx_t c26 hE
          refine pm_iloadn hG dX6_readPart_110 rfl ?_
          refine pm_iconst (v := 5) hG dX6_readPart_111 (by decide) ?_
          refine pm_icmp_ge (tgt := 139) hG dX6_readPart_112 rfl (fun _ => ?_) (fun q => absurd q (by decide))
          refine pm_aloadn hG dX6_readPart_139 rfl ?_
          obtain ⟨r30, h29, hE⟩ := fb_some hE
          refine pm_callV (As := []) (rest := []) hG hR dX6_readPart_140 (lkX6_41 _ rfl) okV_X6_fail rfl rfl (c_X6_fail (d := 3) (by decide) h29) rfl rfl hdd (Nat.le_refl _) (Nat.le_refl _) (by decide) (fx_kv ?_)
          exact pm_vret hG hF dX6_readPart_143 rfl (Nat.le_refl _) (Nat.le_refl _) (fx_rvc hE)
      · replace hE := fx_t c25 hE
        refine pm_iloadn hG dX6_readPart_70 rfl ?_
        refine pm_iconst (v := 5) hG dX6_readPart_71 (by decide) ?_
        refine pm_icmp_ge (tgt := 104) hG dX6_readPart_72 rfl (fun _ => ?_) (fun q => absurd q (by decide))
        refine pm_iloadn hG dX6_readPart_104 rfl ?_
        refine pm_bipush (v := 40) hG dX6_readPart_105 (by decide) ?_
        refine pm_icmp_ne (tgt := 139) hG dX6_readPart_107 rfl (fun c31 => ?_) (fun c31 => ?_)
        · replace hE := fx_f c31 hE
          refine pm_aloadn hG dX6_readPart_139 rfl ?_
          obtain ⟨r33, h32, hE⟩ := fb_some hE
          refine pm_callV (As := []) (rest := []) hG hR dX6_readPart_140 (lkX6_41 _ rfl) okV_X6_fail rfl rfl (c_X6_fail (d := 3) (by decide) h32) rfl rfl hdd (Nat.le_refl _) (Nat.le_refl _) (by decide) (fx_kv ?_)
          exact pm_vret hG hF dX6_readPart_143 rfl (Nat.le_refl _) (Nat.le_refl _) (fx_rvc hE)
        · replace hE := fx_t c31 hE
          refine pm_iloadn hG dX6_readPart_110 rfl ?_
          refine pm_iconst (v := 5) hG dX6_readPart_111 (by decide) ?_
          refine pm_icmp_ge (tgt := 139) hG dX6_readPart_112 rfl (fun _ => ?_) (fun q => absurd q (by decide))
          refine pm_aloadn hG dX6_readPart_139 rfl ?_
          obtain ⟨r35, h34, hE⟩ := fb_some hE
          refine pm_callV (As := []) (rest := []) hG hR dX6_readPart_140 (lkX6_41 _ rfl) okV_X6_fail rfl rfl (c_X6_fail (d := 3) (by decide) h34) rfl rfl hdd (Nat.le_refl _) (Nat.le_refl _) (by decide) (fx_kv ?_)
          exact pm_vret hG hF dX6_readPart_143 rfl (Nat.le_refl _) (Nat.le_refl _) (fx_rvc hE)
    · replace hE := fx_f c24 hE
      refine pm_aloadn hG dX6_readPart_28 rfl ?_
      obtain ⟨r37, h36, hE⟩ := fb_some hE
      refine pm_callV (As := []) (rest := []) hG hR dX6_readPart_29 (lkX6_74 _ rfl) okV_X6_readNumber rfl rfl (c_X6_readNumber (d := 3) (by decide) h36) rfl rfl hdd (Nat.le_refl _) (Nat.le_refl _) (by decide) (fx_kv ?_)
      refine pm_goto (tgt := 143) hG dX6_readPart_32 rfl ?_
      exact pm_vret hG hF dX6_readPart_143 rfl (Nat.le_refl _) (Nat.le_refl _) (fx_rvc hE)

set_option maxRecDepth 100000 in
set_option maxHeartbeats 4000000 in
theorem c_X6_readSum_k5 {d : Nat} {B cnt : Nat} {kp : Value} {ρ : pm_S} {S : FS} {R : Int32 × FS} (hdd : 5 ≤ d) (hE : f_X6_readSum_k5 S = some R) : pm_met mX6_readSum d 0 0 B [.ref (B + 27), .int 5] cnt (cst B kp S ρ) (pm_Qv (fun σ' cnt' => σ' = (cst B kp R.2 ρ) ∧ cnt' = cnt)) := by
  refine pm_enter 2 (by decide) (Nat.le_of_ble_eq_true rfl) rfl (fun G hG hR hF => ?_)
  unfold f_X6_readSum_k5 at hE
  refine pm_aloadn hG dX6_readSum_0 rfl ?_
  refine pm_iloadn hG dX6_readSum_1 rfl ?_
  obtain ⟨r2, h1, hE⟩ := fb_some hE
  refine pm_callV (As := [.int 5]) (rest := []) hG hR dX6_readSum_2 (lkX6_60 _ rfl) okV_X6_readPart rfl rfl (c_X6_readPart_k5 (d := 4) (by decide) h1) rfl rfl hdd (Nat.le_refl _) (Nat.le_refl _) (by decide) (fx_kv ?_)
  refine pm_iconst (v := 0) hG dX6_readSum_5 (by decide) ?_
  refine pm_istoreXn (loc' := [some (.ref (B + 27)), some (.int 5), some (.int 0), none]) hG dX6_readSum_6 (by decide) (pm_c1b rfl) rfl ?_
  have loop7 : ∀ (k7 : FS → Int32 → Option (Int32 × FS)), (∀ (S3 : FS) (x3_2 : Int32), k7 S3  x3_2 = some R → pm_wp mX6_readSum G B 78 [some (.ref (B + 27)), some (.int 5), some (.int x3_2), none] [] 0 0 cnt (cst B kp S3 ρ)) → ∀ (m7 : Nat) (S3 : FS) (x3_2 : Int32), l_X6_readSum_k5_7 k7 m7 S3  x3_2 = some R → pm_wp mX6_readSum G B 7 [some (.ref (B + 27)), some (.int 5), some (.int x3_2), none] [] 0 0 cnt (cst B kp S3 ρ) := by
    intro k7 hk7 m7
    induction m7 with
    | zero => intro S3  x3_2 hE; exact fx_no hE
    | succ m7 ih7 =>
      intro S3  x3_2 hE
      rw [l_X6_readSum_k5_7] at hE
      refine pm_iloadn hG dX6_readSum_7 rfl ?_
      refine pm_bipush (v := 60) hG dX6_readSum_8 (by decide) ?_
      refine pm_icmp_ge (tgt := 78) hG dX6_readSum_10 rfl (fun c4 => ?_) (fun c4 => ?_)
      · replace c4 := Int32.not_lt.mpr c4
        replace hE := fx_f c4 hE
        exact hk7 _ _ hE
      · replace c4 := Int32.not_le.mp c4
        replace hE := fx_t c4 hE
        refine pm_aloadn hG dX6_readSum_13 rfl ?_
        refine pm_callV (As := []) (rest := []) hG hR dX6_readSum_14 (lkX6_47 _ rfl) okV_X6_next rfl rfl (c_X6_next (d := 4) (by decide) rfl) rfl rfl hdd (Nat.le_refl _) (Nat.le_refl _) (by decide) (fx_ki ?_)
        refine pm_bipush (v := 43) hG dX6_readSum_17 (by decide) ?_
        refine pm_icmp_eq (tgt := 31) hG dX6_readSum_19 rfl (fun c5 => ?_) (fun c5 => ?_)
        · replace hE := fx_t c5 hE
          refine pm_aloadn hG dX6_readSum_31 rfl ?_
          refine pm_callV (As := []) (rest := []) hG hR dX6_readSum_32 (lkX6_47 _ rfl) okV_X6_next rfl rfl (c_X6_next (d := 4) (by decide) rfl) rfl rfl hdd (Nat.le_refl _) (Nat.le_refl _) (by decide) (fx_ki ?_)
          refine pm_bipush (v := 43) hG dX6_readSum_35 (by decide) ?_
          refine pm_icmp_ne (tgt := 45) hG dX6_readSum_37 rfl (fun q => absurd c5 q) (fun _ => ?_)
          refine pm_bipush (v := (-7)) hG dX6_readSum_40 (by decide) ?_
          refine pm_goto (tgt := 47) hG dX6_readSum_42 rfl ?_
          refine pm_istoreXn (loc' := [some (.ref (B + 27)), some (.int 5), some (.int x3_2), some (.int (-7))]) hG dX6_readSum_47 (by decide) (pm_c1b rfl) rfl ?_
          refine pm_aloadn hG dX6_readSum_48 rfl ?_
          refine pm_dup hG dX6_readSum_49 rfl ?_
          refine pm_getf hG dX6_readSum_50 (flX6_26 _ rfl) rfl rfl ?_
          refine pm_iconst (v := 1) hG dX6_readSum_53 (by decide) ?_
          refine pm_iadd hG dX6_readSum_54 ?_
          refine pm_putf hG dX6_readSum_55 (fwX6_26 _ rfl) rfl rfl rfl ?_
          refine ci_105 ?_
          refine fx_letc hE (fun S6 hE => ?_)
          refine pm_aloadn hG dX6_readSum_58 rfl ?_
          refine pm_iloadn hG dX6_readSum_59 rfl ?_
          obtain ⟨r8, h7, hE⟩ := fb_some hE
          refine pm_callV (As := [.int 5]) (rest := []) hG hR dX6_readSum_60 (lkX6_60 _ rfl) okV_X6_readPart rfl rfl (c_X6_readPart_k5 (d := 4) (by decide) h7) rfl rfl hdd (Nat.le_refl _) (Nat.le_refl _) (by decide) (fx_kv ?_)
          refine pm_aloadn hG dX6_readSum_63 rfl ?_
          refine pm_getf hG dX6_readSum_64 (flX6_20 _ rfl) rfl rfl ?_
          refine pm_iloadn hG dX6_readSum_67 rfl ?_
          obtain ⟨r10, h9, hE⟩ := fb_some hE
          refine pm_callV (As := [.int (-7)]) (rest := []) hG hR dX6_readSum_68 (lkX6_50 _ rfl) okV_X9_append rfl rfl (tappend_28 (d := 4) (by decide) h9) rfl rfl hdd (Nat.le_refl _) (Nat.le_refl _) (by decide) (fx_ki ?_)
          refine pm_pop hG dX6_readSum_71 rfl ?_
          refine pm_iincX (v := x3_2 + 1) (loc' := [some (.ref (B + 27)), some (.int 5), some (.int (x3_2 + 1)), some (.int (-7))]) hG dX6_readSum_72 rfl (by rfl) (by decide) (pm_c1b rfl) rfl ?_
          refine pm_goto (tgt := 7) hG dX6_readSum_75 rfl ?_
          refine pm_fg 3 (loc' := [some (.ref (B + 27)), some (.int 5), some (.int (x3_2 + 1)), none]) rfl ?_
          exact ih7 _ _ hE
        · replace hE := fx_f c5 hE
          refine pm_aloadn hG dX6_readSum_22 rfl ?_
          refine pm_callV (As := []) (rest := []) hG hR dX6_readSum_23 (lkX6_47 _ rfl) okV_X6_next rfl rfl (c_X6_next (d := 4) (by decide) rfl) rfl rfl hdd (Nat.le_refl _) (Nat.le_refl _) (by decide) (fx_ki ?_)
          refine pm_bipush (v := 45) hG dX6_readSum_26 (by decide) ?_
          refine pm_icmp_ne (tgt := 78) hG dX6_readSum_28 rfl (fun c11 => ?_) (fun c11 => ?_)
          · replace hE := fx_f c11 hE
            exact hk7 _ _ hE
          · replace hE := fx_t c11 hE
            refine pm_aloadn hG dX6_readSum_31 rfl ?_
            refine pm_callV (As := []) (rest := []) hG hR dX6_readSum_32 (lkX6_47 _ rfl) okV_X6_next rfl rfl (c_X6_next (d := 4) (by decide) rfl) rfl rfl hdd (Nat.le_refl _) (Nat.le_refl _) (by decide) (fx_ki ?_)
            refine pm_bipush (v := 43) hG dX6_readSum_35 (by decide) ?_
            refine pm_icmp_ne (tgt := 45) hG dX6_readSum_37 rfl (fun _ => ?_) (fun q => absurd q c5)
            refine pm_bipush (v := (-8)) hG dX6_readSum_45 (by decide) ?_
            refine pm_istoreXn (loc' := [some (.ref (B + 27)), some (.int 5), some (.int x3_2), some (.int (-8))]) hG dX6_readSum_47 (by decide) (pm_c1b rfl) rfl ?_
            refine pm_aloadn hG dX6_readSum_48 rfl ?_
            refine pm_dup hG dX6_readSum_49 rfl ?_
            refine pm_getf hG dX6_readSum_50 (flX6_26 _ rfl) rfl rfl ?_
            refine pm_iconst (v := 1) hG dX6_readSum_53 (by decide) ?_
            refine pm_iadd hG dX6_readSum_54 ?_
            refine pm_putf hG dX6_readSum_55 (fwX6_26 _ rfl) rfl rfl rfl ?_
            refine ci_105 ?_
            refine fx_letc hE (fun S12 hE => ?_)
            refine pm_aloadn hG dX6_readSum_58 rfl ?_
            refine pm_iloadn hG dX6_readSum_59 rfl ?_
            obtain ⟨r14, h13, hE⟩ := fb_some hE
            refine pm_callV (As := [.int 5]) (rest := []) hG hR dX6_readSum_60 (lkX6_60 _ rfl) okV_X6_readPart rfl rfl (c_X6_readPart_k5 (d := 4) (by decide) h13) rfl rfl hdd (Nat.le_refl _) (Nat.le_refl _) (by decide) (fx_kv ?_)
            refine pm_aloadn hG dX6_readSum_63 rfl ?_
            refine pm_getf hG dX6_readSum_64 (flX6_20 _ rfl) rfl rfl ?_
            refine pm_iloadn hG dX6_readSum_67 rfl ?_
            obtain ⟨r16, h15, hE⟩ := fb_some hE
            refine pm_callV (As := [.int (-8)]) (rest := []) hG hR dX6_readSum_68 (lkX6_50 _ rfl) okV_X9_append rfl rfl (tappend_28 (d := 4) (by decide) h15) rfl rfl hdd (Nat.le_refl _) (Nat.le_refl _) (by decide) (fx_ki ?_)
            refine pm_pop hG dX6_readSum_71 rfl ?_
            refine pm_iincX (v := x3_2 + 1) (loc' := [some (.ref (B + 27)), some (.int 5), some (.int (x3_2 + 1)), some (.int (-8))]) hG dX6_readSum_72 rfl (by rfl) (by decide) (pm_c1b rfl) rfl ?_
            refine pm_goto (tgt := 7) hG dX6_readSum_75 rfl ?_
            refine pm_fg 3 (loc' := [some (.ref (B + 27)), some (.int 5), some (.int (x3_2 + 1)), none]) rfl ?_
            exact ih7 _ _ hE
  refine loop7 _ (fun S17 x17_2 hE => ?_) _ _ _ hE
  exact pm_vret hG hF dX6_readSum_78 rfl (Nat.le_refl _) (Nat.le_refl _) (fx_rvc hE)

set_option maxRecDepth 100000 in
set_option maxHeartbeats 4000000 in
theorem c_X6_readComparison_k5 {d : Nat} {B cnt : Nat} {kp : Value} {ρ : pm_S} {S : FS} {R : Int32 × FS} (hdd : 6 ≤ d) (hE : f_X6_readComparison_k5 S = some R) : pm_met mX6_readComparison d 0 0 B [.ref (B + 27), .int 5] cnt (cst B kp S ρ) (pm_Qv (fun σ' cnt' => σ' = (cst B kp R.2 ρ) ∧ cnt' = cnt)) := by
  refine pm_enter 1 (by decide) (Nat.le_of_ble_eq_true rfl) rfl (fun G hG hR hF => ?_)
  unfold f_X6_readComparison_k5 at hE
  refine pm_aloadn hG dX6_readComparison_0 rfl ?_
  refine pm_iloadn hG dX6_readComparison_1 rfl ?_
  obtain ⟨r2, h1, hE⟩ := fb_some hE
  refine pm_callV (As := [.int 5]) (rest := []) hG hR dX6_readComparison_2 (lkX6_57 _ rfl) okV_X6_readSum rfl rfl (c_X6_readSum_k5 (d := 5) (by decide) h1) rfl rfl hdd (Nat.le_refl _) (Nat.le_refl _) (by decide) (fx_kv ?_)
  refine pm_aloadn hG dX6_readComparison_5 rfl ?_
  refine pm_callV (As := []) (rest := []) hG hR dX6_readComparison_6 (lkX6_47 _ rfl) okV_X6_next rfl rfl (c_X6_next (d := 5) (by decide) rfl) rfl rfl hdd (Nat.le_refl _) (Nat.le_refl _) (by decide) (fx_ki ?_)
  refine fx_letv hE (fun x3 hE => ?_)
  refine pm_istoreXn (loc' := [some (.ref (B + 27)), some (.int 5), some (.int x3)]) hG dX6_readComparison_9 (by decide) (pm_c1b rfl) rfl ?_
  refine pm_iloadn hG dX6_readComparison_10 rfl ?_
  refine pm_bipush (v := 60) hG dX6_readComparison_11 (by decide) ?_
  refine pm_icmp_eq (tgt := 28) hG dX6_readComparison_13 rfl (fun c4 => ?_) (fun c4 => ?_)
  · replace hE := fx_t c4 hE
    refine pm_aloadn hG dX6_readComparison_28 rfl ?_
    refine pm_dup hG dX6_readComparison_29 rfl ?_
    refine pm_getf hG dX6_readComparison_30 (flX6_26 _ rfl) rfl rfl ?_
    refine pm_iconst (v := 1) hG dX6_readComparison_33 (by decide) ?_
    refine pm_iadd hG dX6_readComparison_34 ?_
    refine pm_putf hG dX6_readComparison_35 (fwX6_26 _ rfl) rfl rfl rfl ?_
    refine ci_105 ?_
    refine fx_letc hE (fun S5 hE => ?_)
    refine pm_aloadn hG dX6_readComparison_38 rfl ?_
    refine pm_iloadn hG dX6_readComparison_39 rfl ?_
    obtain ⟨r7, h6, hE⟩ := fb_some hE
    refine pm_callV (As := [.int 5]) (rest := []) hG hR dX6_readComparison_40 (lkX6_57 _ rfl) okV_X6_readSum rfl rfl (c_X6_readSum_k5 (d := 5) (by decide) h6) rfl rfl hdd (Nat.le_refl _) (Nat.le_refl _) (by decide) (fx_kv ?_)
    refine pm_aloadn hG dX6_readComparison_43 rfl ?_
    refine pm_getf hG dX6_readComparison_44 (flX6_20 _ rfl) rfl rfl ?_
    refine pm_iloadn hG dX6_readComparison_47 rfl ?_
    refine pm_bipush (v := 60) hG dX6_readComparison_48 (by decide) ?_
    refine pm_icmp_ne (tgt := 58) hG dX6_readComparison_50 rfl (fun q => absurd c4 q) (fun _ => ?_)
    refine pm_bipush (v := (-4)) hG dX6_readComparison_53 (by decide) ?_
    refine pm_goto (tgt := 71) hG dX6_readComparison_55 rfl ?_
    obtain ⟨r9, h8, hE⟩ := fb_some hE
    refine pm_callV (As := [.int (-4)]) (rest := []) hG hR dX6_readComparison_71 (lkX6_50 _ rfl) okV_X9_append rfl rfl (tappend_28 (d := 5) (by decide) h8) rfl rfl hdd (Nat.le_refl _) (Nat.le_refl _) (by decide) (fx_ki ?_)
    refine pm_pop hG dX6_readComparison_74 rfl ?_
    exact pm_vret hG hF dX6_readComparison_75 rfl (Nat.le_refl _) (Nat.le_refl _) (fx_rvc hE)
  · replace hE := fx_f c4 hE
    refine pm_iloadn hG dX6_readComparison_16 rfl ?_
    refine pm_bipush (v := 61) hG dX6_readComparison_17 (by decide) ?_
    refine pm_icmp_eq (tgt := 28) hG dX6_readComparison_19 rfl (fun c10 => ?_) (fun c10 => ?_)
    · replace hE := fx_t c10 hE
      refine pm_aloadn hG dX6_readComparison_28 rfl ?_
      refine pm_dup hG dX6_readComparison_29 rfl ?_
      refine pm_getf hG dX6_readComparison_30 (flX6_26 _ rfl) rfl rfl ?_
      refine pm_iconst (v := 1) hG dX6_readComparison_33 (by decide) ?_
      refine pm_iadd hG dX6_readComparison_34 ?_
      refine pm_putf hG dX6_readComparison_35 (fwX6_26 _ rfl) rfl rfl rfl ?_
      refine ci_105 ?_
      refine fx_letc hE (fun S11 hE => ?_)
      refine pm_aloadn hG dX6_readComparison_38 rfl ?_
      refine pm_iloadn hG dX6_readComparison_39 rfl ?_
      obtain ⟨r13, h12, hE⟩ := fb_some hE
      refine pm_callV (As := [.int 5]) (rest := []) hG hR dX6_readComparison_40 (lkX6_57 _ rfl) okV_X6_readSum rfl rfl (c_X6_readSum_k5 (d := 5) (by decide) h12) rfl rfl hdd (Nat.le_refl _) (Nat.le_refl _) (by decide) (fx_kv ?_)
      refine pm_aloadn hG dX6_readComparison_43 rfl ?_
      refine pm_getf hG dX6_readComparison_44 (flX6_20 _ rfl) rfl rfl ?_
      refine pm_iloadn hG dX6_readComparison_47 rfl ?_
      refine pm_bipush (v := 60) hG dX6_readComparison_48 (by decide) ?_
      refine pm_icmp_ne (tgt := 58) hG dX6_readComparison_50 rfl (fun _ => ?_) (fun q => absurd q c4)
      refine pm_iloadn hG dX6_readComparison_58 rfl ?_
      refine pm_bipush (v := 61) hG dX6_readComparison_59 (by decide) ?_
      refine pm_icmp_ne (tgt := 69) hG dX6_readComparison_61 rfl (fun q => absurd c10 q) (fun _ => ?_)
      refine pm_bipush (v := (-5)) hG dX6_readComparison_64 (by decide) ?_
      refine pm_goto (tgt := 71) hG dX6_readComparison_66 rfl ?_
      obtain ⟨r15, h14, hE⟩ := fb_some hE
      refine pm_callV (As := [.int (-5)]) (rest := []) hG hR dX6_readComparison_71 (lkX6_50 _ rfl) okV_X9_append rfl rfl (tappend_28 (d := 5) (by decide) h14) rfl rfl hdd (Nat.le_refl _) (Nat.le_refl _) (by decide) (fx_ki ?_)
      refine pm_pop hG dX6_readComparison_74 rfl ?_
      exact pm_vret hG hF dX6_readComparison_75 rfl (Nat.le_refl _) (Nat.le_refl _) (fx_rvc hE)
    · replace hE := fx_f c10 hE
      refine pm_iloadn hG dX6_readComparison_22 rfl ?_
      refine pm_bipush (v := 62) hG dX6_readComparison_23 (by decide) ?_
      refine pm_icmp_ne (tgt := 75) hG dX6_readComparison_25 rfl (fun c16 => ?_) (fun c16 => ?_)
      · replace hE := fx_f c16 hE
        exact pm_vret hG hF dX6_readComparison_75 rfl (Nat.le_refl _) (Nat.le_refl _) (fx_rvc hE)
      · replace hE := fx_t c16 hE
        refine pm_aloadn hG dX6_readComparison_28 rfl ?_
        refine pm_dup hG dX6_readComparison_29 rfl ?_
        refine pm_getf hG dX6_readComparison_30 (flX6_26 _ rfl) rfl rfl ?_
        refine pm_iconst (v := 1) hG dX6_readComparison_33 (by decide) ?_
        refine pm_iadd hG dX6_readComparison_34 ?_
        refine pm_putf hG dX6_readComparison_35 (fwX6_26 _ rfl) rfl rfl rfl ?_
        refine ci_105 ?_
        refine fx_letc hE (fun S17 hE => ?_)
        refine pm_aloadn hG dX6_readComparison_38 rfl ?_
        refine pm_iloadn hG dX6_readComparison_39 rfl ?_
        obtain ⟨r19, h18, hE⟩ := fb_some hE
        refine pm_callV (As := [.int 5]) (rest := []) hG hR dX6_readComparison_40 (lkX6_57 _ rfl) okV_X6_readSum rfl rfl (c_X6_readSum_k5 (d := 5) (by decide) h18) rfl rfl hdd (Nat.le_refl _) (Nat.le_refl _) (by decide) (fx_kv ?_)
        refine pm_aloadn hG dX6_readComparison_43 rfl ?_
        refine pm_getf hG dX6_readComparison_44 (flX6_20 _ rfl) rfl rfl ?_
        refine pm_iloadn hG dX6_readComparison_47 rfl ?_
        refine pm_bipush (v := 60) hG dX6_readComparison_48 (by decide) ?_
        refine pm_icmp_ne (tgt := 58) hG dX6_readComparison_50 rfl (fun _ => ?_) (fun q => absurd q c4)
        refine pm_iloadn hG dX6_readComparison_58 rfl ?_
        refine pm_bipush (v := 61) hG dX6_readComparison_59 (by decide) ?_
        refine pm_icmp_ne (tgt := 69) hG dX6_readComparison_61 rfl (fun _ => ?_) (fun q => absurd q c10)
        refine pm_bipush (v := (-6)) hG dX6_readComparison_69 (by decide) ?_
        obtain ⟨r21, h20, hE⟩ := fb_some hE
        refine pm_callV (As := [.int (-6)]) (rest := []) hG hR dX6_readComparison_71 (lkX6_50 _ rfl) okV_X9_append rfl rfl (tappend_28 (d := 5) (by decide) h20) rfl rfl hdd (Nat.le_refl _) (Nat.le_refl _) (by decide) (fx_ki ?_)
        refine pm_pop hG dX6_readComparison_74 rfl ?_
        exact pm_vret hG hF dX6_readComparison_75 rfl (Nat.le_refl _) (Nat.le_refl _) (fx_rvc hE)

set_option maxRecDepth 100000 in
set_option maxHeartbeats 4000000 in
theorem c_X6_readConjunction_k5 {d : Nat} {B cnt : Nat} {kp : Value} {ρ : pm_S} {S : FS} {R : Int32 × FS} (hdd : 7 ≤ d) (hE : f_X6_readConjunction_k5 S = some R) : pm_met mX6_readConjunction d 0 0 B [.ref (B + 27), .int 5] cnt (cst B kp S ρ) (pm_Qv (fun σ' cnt' => σ' = (cst B kp R.2 ρ) ∧ cnt' = cnt)) := by
  refine pm_enter 1 (by decide) (Nat.le_of_ble_eq_true rfl) rfl (fun G hG hR hF => ?_)
  unfold f_X6_readConjunction_k5 at hE
  refine pm_aloadn hG dX6_readConjunction_0 rfl ?_
  refine pm_iloadn hG dX6_readConjunction_1 rfl ?_
  obtain ⟨r2, h1, hE⟩ := fb_some hE
  refine pm_callV (As := [.int 5]) (rest := []) hG hR dX6_readConjunction_2 (lkX6_54 _ rfl) okV_X6_readComparison rfl rfl (c_X6_readComparison_k5 (d := 6) (by decide) h1) rfl rfl hdd (Nat.le_refl _) (Nat.le_refl _) (by decide) (fx_kv ?_)
  refine pm_iconst (v := 0) hG dX6_readConjunction_5 (by decide) ?_
  refine pm_istoreXn (loc' := [some (.ref (B + 27)), some (.int 5), some (.int 0)]) hG dX6_readConjunction_6 (by decide) (pm_c1b rfl) rfl ?_
  have loop7 : ∀ (k7 : FS → Int32 → Option (Int32 × FS)), (∀ (S3 : FS) (x3_2 : Int32), k7 S3  x3_2 = some R → pm_wp mX6_readConjunction G B 53 [some (.ref (B + 27)), some (.int 5), some (.int x3_2)] [] 0 0 cnt (cst B kp S3 ρ)) → ∀ (m7 : Nat) (S3 : FS) (x3_2 : Int32), l_X6_readConjunction_k5_7 k7 m7 S3  x3_2 = some R → pm_wp mX6_readConjunction G B 7 [some (.ref (B + 27)), some (.int 5), some (.int x3_2)] [] 0 0 cnt (cst B kp S3 ρ) := by
    intro k7 hk7 m7
    induction m7 with
    | zero => intro S3  x3_2 hE; exact fx_no hE
    | succ m7 ih7 =>
      intro S3  x3_2 hE
      rw [l_X6_readConjunction_k5_7] at hE
      refine pm_iloadn hG dX6_readConjunction_7 rfl ?_
      refine pm_bipush (v := 60) hG dX6_readConjunction_8 (by decide) ?_
      refine pm_icmp_ge (tgt := 53) hG dX6_readConjunction_10 rfl (fun c4 => ?_) (fun c4 => ?_)
      · replace c4 := Int32.not_lt.mpr c4
        replace hE := fx_f c4 hE
        exact hk7 _ _ hE
      · replace c4 := Int32.not_le.mp c4
        replace hE := fx_t c4 hE
        refine pm_aloadn hG dX6_readConjunction_13 rfl ?_
        refine pm_callV (As := []) (rest := []) hG hR dX6_readConjunction_14 (lkX6_47 _ rfl) okV_X6_next rfl rfl (c_X6_next (d := 6) (by decide) rfl) rfl rfl hdd (Nat.le_refl _) (Nat.le_refl _) (by decide) (fx_ki ?_)
        refine pm_bipush (v := 38) hG dX6_readConjunction_17 (by decide) ?_
        refine pm_icmp_ne (tgt := 53) hG dX6_readConjunction_19 rfl (fun c5 => ?_) (fun c5 => ?_)
        · replace hE := fx_f c5 hE
          exact hk7 _ _ hE
        · replace hE := fx_t c5 hE
          refine pm_aloadn hG dX6_readConjunction_22 rfl ?_
          refine pm_dup hG dX6_readConjunction_23 rfl ?_
          refine pm_getf hG dX6_readConjunction_24 (flX6_26 _ rfl) rfl rfl ?_
          refine pm_iconst (v := 1) hG dX6_readConjunction_27 (by decide) ?_
          refine pm_iadd hG dX6_readConjunction_28 ?_
          refine pm_putf hG dX6_readConjunction_29 (fwX6_26 _ rfl) rfl rfl rfl ?_
          refine ci_105 ?_
          refine fx_letc hE (fun S6 hE => ?_)
          refine pm_aloadn hG dX6_readConjunction_32 rfl ?_
          refine pm_iloadn hG dX6_readConjunction_33 rfl ?_
          obtain ⟨r8, h7, hE⟩ := fb_some hE
          refine pm_callV (As := [.int 5]) (rest := []) hG hR dX6_readConjunction_34 (lkX6_54 _ rfl) okV_X6_readComparison rfl rfl (c_X6_readComparison_k5 (d := 6) (by decide) h7) rfl rfl hdd (Nat.le_refl _) (Nat.le_refl _) (by decide) (fx_kv ?_)
          refine pm_aloadn hG dX6_readConjunction_37 rfl ?_
          refine pm_getf hG dX6_readConjunction_38 (flX6_20 _ rfl) rfl rfl ?_
          refine pm_bipush (v := (-3)) hG dX6_readConjunction_41 (by decide) ?_
          obtain ⟨r10, h9, hE⟩ := fb_some hE
          refine pm_callV (As := [.int (-3)]) (rest := []) hG hR dX6_readConjunction_43 (lkX6_50 _ rfl) okV_X9_append rfl rfl (tappend_28 (d := 6) (by decide) h9) rfl rfl hdd (Nat.le_refl _) (Nat.le_refl _) (by decide) (fx_ki ?_)
          refine pm_pop hG dX6_readConjunction_46 rfl ?_
          refine pm_iincX (v := x3_2 + 1) (loc' := [some (.ref (B + 27)), some (.int 5), some (.int (x3_2 + 1))]) hG dX6_readConjunction_47 rfl (by rfl) (by decide) (pm_c1b rfl) rfl ?_
          refine pm_goto (tgt := 7) hG dX6_readConjunction_50 rfl ?_
          exact ih7 _ _ hE
  refine loop7 _ (fun S11 x11_2 hE => ?_) _ _ _ hE
  exact pm_vret hG hF dX6_readConjunction_53 rfl (Nat.le_refl _) (Nat.le_refl _) (fx_rvc hE)

set_option maxRecDepth 100000 in
set_option maxHeartbeats 4000000 in
theorem c_X6_readText_k5 {d : Nat} {B cnt : Nat} {kp : Value} {ρ : pm_S} {S : FS} {R : Int32 × FS} (hdd : 8 ≤ d) (hE : f_X6_readText_k5 S = some R) : pm_met mX6_readText d 0 0 B [.ref (B + 27), .int 5] cnt (cst B kp S ρ) (pm_Qv (fun σ' cnt' => σ' = (cst B kp R.2 ρ) ∧ cnt' = cnt)) := by
  refine pm_enter 1 (by decide) (Nat.le_of_ble_eq_true rfl) rfl (fun G hG hR hF => ?_)
  unfold f_X6_readText_k5 at hE
  refine pm_aloadn hG dX6_readText_0 rfl ?_
  refine pm_iloadn hG dX6_readText_1 rfl ?_
  obtain ⟨r2, h1, hE⟩ := fb_some hE
  refine pm_callV (As := [.int 5]) (rest := []) hG hR dX6_readText_2 (lkX6_44 _ rfl) okV_X6_readConjunction rfl rfl (c_X6_readConjunction_k5 (d := 7) (by decide) h1) rfl rfl hdd (Nat.le_refl _) (Nat.le_refl _) (by decide) (fx_kv ?_)
  refine pm_iconst (v := 0) hG dX6_readText_5 (by decide) ?_
  refine pm_istoreXn (loc' := [some (.ref (B + 27)), some (.int 5), some (.int 0)]) hG dX6_readText_6 (by decide) (pm_c1b rfl) rfl ?_
  have loop7 : ∀ (k7 : FS → Int32 → Option (Int32 × FS)), (∀ (S3 : FS) (x3_2 : Int32), k7 S3  x3_2 = some R → pm_wp mX6_readText G B 53 [some (.ref (B + 27)), some (.int 5), some (.int x3_2)] [] 0 0 cnt (cst B kp S3 ρ)) → ∀ (m7 : Nat) (S3 : FS) (x3_2 : Int32), l_X6_readText_k5_7 k7 m7 S3  x3_2 = some R → pm_wp mX6_readText G B 7 [some (.ref (B + 27)), some (.int 5), some (.int x3_2)] [] 0 0 cnt (cst B kp S3 ρ) := by
    intro k7 hk7 m7
    induction m7 with
    | zero => intro S3  x3_2 hE; exact fx_no hE
    | succ m7 ih7 =>
      intro S3  x3_2 hE
      rw [l_X6_readText_k5_7] at hE
      refine pm_iloadn hG dX6_readText_7 rfl ?_
      refine pm_bipush (v := 60) hG dX6_readText_8 (by decide) ?_
      refine pm_icmp_ge (tgt := 53) hG dX6_readText_10 rfl (fun c4 => ?_) (fun c4 => ?_)
      · replace c4 := Int32.not_lt.mpr c4
        replace hE := fx_f c4 hE
        exact hk7 _ _ hE
      · replace c4 := Int32.not_le.mp c4
        replace hE := fx_t c4 hE
        refine pm_aloadn hG dX6_readText_13 rfl ?_
        refine pm_callV (As := []) (rest := []) hG hR dX6_readText_14 (lkX6_47 _ rfl) okV_X6_next rfl rfl (c_X6_next (d := 7) (by decide) rfl) rfl rfl hdd (Nat.le_refl _) (Nat.le_refl _) (by decide) (fx_ki ?_)
        refine pm_bipush (v := 124) hG dX6_readText_17 (by decide) ?_
        refine pm_icmp_ne (tgt := 53) hG dX6_readText_19 rfl (fun c5 => ?_) (fun c5 => ?_)
        · replace hE := fx_f c5 hE
          exact hk7 _ _ hE
        · replace hE := fx_t c5 hE
          refine pm_aloadn hG dX6_readText_22 rfl ?_
          refine pm_dup hG dX6_readText_23 rfl ?_
          refine pm_getf hG dX6_readText_24 (flX6_26 _ rfl) rfl rfl ?_
          refine pm_iconst (v := 1) hG dX6_readText_27 (by decide) ?_
          refine pm_iadd hG dX6_readText_28 ?_
          refine pm_putf hG dX6_readText_29 (fwX6_26 _ rfl) rfl rfl rfl ?_
          refine ci_105 ?_
          refine fx_letc hE (fun S6 hE => ?_)
          refine pm_aloadn hG dX6_readText_32 rfl ?_
          refine pm_iloadn hG dX6_readText_33 rfl ?_
          obtain ⟨r8, h7, hE⟩ := fb_some hE
          refine pm_callV (As := [.int 5]) (rest := []) hG hR dX6_readText_34 (lkX6_44 _ rfl) okV_X6_readConjunction rfl rfl (c_X6_readConjunction_k5 (d := 7) (by decide) h7) rfl rfl hdd (Nat.le_refl _) (Nat.le_refl _) (by decide) (fx_kv ?_)
          refine pm_aloadn hG dX6_readText_37 rfl ?_
          refine pm_getf hG dX6_readText_38 (flX6_20 _ rfl) rfl rfl ?_
          refine pm_bipush (v := (-2)) hG dX6_readText_41 (by decide) ?_
          obtain ⟨r10, h9, hE⟩ := fb_some hE
          refine pm_callV (As := [.int (-2)]) (rest := []) hG hR dX6_readText_43 (lkX6_50 _ rfl) okV_X9_append rfl rfl (tappend_28 (d := 7) (by decide) h9) rfl rfl hdd (Nat.le_refl _) (Nat.le_refl _) (by decide) (fx_ki ?_)
          refine pm_pop hG dX6_readText_46 rfl ?_
          refine pm_iincX (v := x3_2 + 1) (loc' := [some (.ref (B + 27)), some (.int 5), some (.int (x3_2 + 1))]) hG dX6_readText_47 rfl (by rfl) (by decide) (pm_c1b rfl) rfl ?_
          refine pm_goto (tgt := 7) hG dX6_readText_50 rfl ?_
          exact ih7 _ _ hE
  refine loop7 _ (fun S11 x11_2 hE => ?_) _ _ _ hE
  exact pm_vret hG hF dX6_readText_53 rfl (Nat.le_refl _) (Nat.le_refl _) (fx_rvc hE)

set_option maxRecDepth 100000 in
set_option maxHeartbeats 4000000 in
theorem c_X6_readClosing {d : Nat} {B cnt : Nat} {kp : Value} {ρ : pm_S} {S : FS} {R : Int32 × FS} (hdd : 2 ≤ d) (hE : f_X6_readClosing S = some R) : pm_met mX6_readClosing d 0 0 B [.ref (B + 27)] cnt (cst B kp S ρ) (pm_Qv (fun σ' cnt' => σ' = (cst B kp R.2 ρ) ∧ cnt' = cnt)) := by
  refine pm_enter 0 (by decide) (Nat.le_of_ble_eq_true rfl) rfl (fun G hG hR hF => ?_)
  unfold f_X6_readClosing at hE
  refine pm_aloadn hG dX6_readClosing_0 rfl ?_
  refine pm_callV (As := []) (rest := []) hG hR dX6_readClosing_1 (lkX6_47 _ rfl) okV_X6_next rfl rfl (c_X6_next (d := 1) (by decide) rfl) rfl rfl hdd (Nat.le_refl _) (Nat.le_refl _) (by decide) (fx_ki ?_)
  refine pm_bipush (v := 41) hG dX6_readClosing_4 (by decide) ?_
  refine pm_icmp_ne (tgt := 22) hG dX6_readClosing_6 rfl (fun c1 => ?_) (fun c1 => ?_)
  · replace hE := fx_f c1 hE
    refine pm_aloadn hG dX6_readClosing_22 rfl ?_
    obtain ⟨r3, h2, hE⟩ := fb_some hE
    refine pm_callV (As := []) (rest := []) hG hR dX6_readClosing_23 (lkX6_41 _ rfl) okV_X6_fail rfl rfl (c_X6_fail (d := 1) (by decide) h2) rfl rfl hdd (Nat.le_refl _) (Nat.le_refl _) (by decide) (fx_kv ?_)
    exact pm_vret hG hF dX6_readClosing_26 rfl (Nat.le_refl _) (Nat.le_refl _) (fx_rvc hE)
  · replace hE := fx_t c1 hE
    refine pm_aloadn hG dX6_readClosing_9 rfl ?_
    refine pm_dup hG dX6_readClosing_10 rfl ?_
    refine pm_getf hG dX6_readClosing_11 (flX6_26 _ rfl) rfl rfl ?_
    refine pm_iconst (v := 1) hG dX6_readClosing_14 (by decide) ?_
    refine pm_iadd hG dX6_readClosing_15 ?_
    refine pm_putf hG dX6_readClosing_16 (fwX6_26 _ rfl) rfl rfl rfl ?_
    refine ci_105 ?_
    refine fx_letc hE (fun S4 hE => ?_)
    refine pm_goto (tgt := 26) hG dX6_readClosing_19 rfl ?_
    exact pm_vret hG hF dX6_readClosing_26 rfl (Nat.le_refl _) (Nat.le_refl _) (fx_rvc hE)
end
section
set_option maxRecDepth 100000 in
set_option maxHeartbeats 4000000 in
theorem c_X6_readPart_k4 {d : Nat} {B cnt : Nat} {kp : Value} {ρ : pm_S} {S : FS} {R : Int32 × FS} (hdd : 9 ≤ d) (hE : f_X6_readPart_k4 S = some R) : pm_met mX6_readPart d 0 0 B [.ref (B + 27), .int 4] cnt (cst B kp S ρ) (pm_Qv (fun σ' cnt' => σ' = (cst B kp R.2 ρ) ∧ cnt' = cnt)) := by
  refine pm_enter 2 (by decide) (Nat.le_of_ble_eq_true rfl) rfl (fun G hG hR hF => ?_)
  unfold f_X6_readPart_k4 at hE
  refine pm_aloadn hG dX6_readPart_0 rfl ?_
  refine pm_callV (As := []) (rest := []) hG hR dX6_readPart_1 (lkX6_47 _ rfl) okV_X6_next rfl rfl (c_X6_next (d := 8) (by decide) rfl) rfl rfl hdd (Nat.le_refl _) (Nat.le_refl _) (by decide) (fx_ki ?_)
  refine fx_letv hE (fun x1 hE => ?_)
  refine pm_istoreXn (loc' := [some (.ref (B + 27)), some (.int 4), some (.int x1), none]) hG dX6_readPart_4 (by decide) (pm_c1b rfl) rfl ?_
  refine pm_iloadn hG dX6_readPart_5 rfl ?_
  refine pm_if_ge (tgt := 13) hG dX6_readPart_6 rfl (fun c2 => ?_) (fun c2 => ?_)
  · replace c2 := Int32.not_lt.mpr c2
    replace hE := fx_f c2 hE
    refine pm_ldcN hG rfl dX6_readPart_13 (fun q3 z3 hN3 => ?_)
    refine pm_iloadn hG dX6_readPart_15 rfl ?_
    refine pm_i2cE hG dX6_readPart_16 rfl ?_
    obtain ⟨x5, h4, hE⟩ := fb_some hE
    refine pm_callVN (As := [.int ((x1.toUInt32 % 65536).toInt32)]) (rest := []) hN3 hG hR dX6_readPart_17 (lpX6_65 _ rfl) okV_J0_indexOf_0f7a4 rfl (fj_iof (d := 8) (by decide) h4) rfl rfl hdd (Nat.le_refl _) (Nat.le_refl _) (by first | decide | exact Nat.le_of_ble_eq_true rfl) (fx_ki ?_)
    refine pm_istoreXn (loc' := [some (.ref (B + 27)), some (.int 4), some (.int x1), some (.int x5)]) hG dX6_readPart_20 (by decide) (pm_c1b rfl) rfl ?_
    refine pm_iloadn hG dX6_readPart_21 rfl ?_
    refine pm_callS (As := [.int x1]) (rest := []) hG hR dX6_readPart_22 (lkX6_70 _ rfl) okS_X6_isDigit (c_X6_isDigit (d := 8) (by decide) rfl) rfl rfl hdd (Nat.le_refl _) (Nat.le_refl _) (by decide) (fx_ki ?_)
    refine pm_if_eq (tgt := 35) hG dX6_readPart_25 rfl (fun c6 => ?_) (fun c6 => ?_)
    · replace hE := fx_t c6 hE
      refine pm_iloadn hG dX6_readPart_35 rfl ?_
      refine pm_if_lt (tgt := 64) hG dX6_readPart_36 rfl (fun c7 => ?_) (fun c7 => ?_)
      · replace hE := fx_t c7 hE
        refine pm_iloadn hG dX6_readPart_64 rfl ?_
        refine pm_bipush (v := 33) hG dX6_readPart_65 (by decide) ?_
        refine pm_icmp_ne (tgt := 104) hG dX6_readPart_67 rfl (fun c8 => ?_) (fun c8 => ?_)
        · replace hE := fx_f c8 hE
          refine pm_iloadn hG dX6_readPart_104 rfl ?_
          refine pm_bipush (v := 40) hG dX6_readPart_105 (by decide) ?_
          refine pm_icmp_ne (tgt := 139) hG dX6_readPart_107 rfl (fun c9 => ?_) (fun c9 => ?_)
          · replace hE := fx_f c9 hE
            refine pm_aloadn hG dX6_readPart_139 rfl ?_
            obtain ⟨r11, h10, hE⟩ := fb_some hE
            refine pm_callV (As := []) (rest := []) hG hR dX6_readPart_140 (lkX6_41 _ rfl) okV_X6_fail rfl rfl (c_X6_fail (d := 8) (by decide) h10) rfl rfl hdd (Nat.le_refl _) (Nat.le_refl _) (by decide) (fx_kv ?_)
            exact pm_vret hG hF dX6_readPart_143 rfl (Nat.le_refl _) (Nat.le_refl _) (fx_rvc hE)
          · replace hE := fx_t c9 hE
            refine pm_iloadn hG dX6_readPart_110 rfl ?_
            refine pm_iconst (v := 5) hG dX6_readPart_111 (by decide) ?_
            refine pm_icmp_ge (tgt := 139) hG dX6_readPart_112 rfl (fun q => absurd q (by decide)) (fun _ => ?_)
            refine pm_aloadn hG dX6_readPart_115 rfl ?_
            refine pm_dup hG dX6_readPart_116 rfl ?_
            refine pm_getf hG dX6_readPart_117 (flX6_26 _ rfl) rfl rfl ?_
            refine pm_iconst (v := 1) hG dX6_readPart_120 (by decide) ?_
            refine pm_iadd hG dX6_readPart_121 ?_
            refine pm_putf hG dX6_readPart_122 (fwX6_26 _ rfl) rfl rfl rfl ?_
            refine ci_105 ?_
            refine fx_letc hE (fun S12 hE => ?_)
            refine pm_aloadn hG dX6_readPart_125 rfl ?_
            refine pm_iloadn hG dX6_readPart_126 rfl ?_
            refine pm_iconst (v := 1) hG dX6_readPart_127 (by decide) ?_
            refine pm_iadd hG dX6_readPart_128 ?_
            refine pm_top (v := 5) (by decide) ?_
            obtain ⟨r14, h13, hE⟩ := fb_some hE
            refine pm_callV (As := [.int 5]) (rest := []) hG hR dX6_readPart_129 (lkX6_33 _ rfl) okV_X6_readText rfl rfl (c_X6_readText_k5 (d := 8) (by decide) h13) rfl rfl hdd (Nat.le_refl _) (Nat.le_refl _) (by decide) (fx_kv ?_)
            refine pm_aloadn hG dX6_readPart_132 rfl ?_
            obtain ⟨r16, h15, hE⟩ := fb_some hE
            refine pm_callV (As := []) (rest := []) hG hR dX6_readPart_133 (lkX6_77 _ rfl) okV_X6_readClosing rfl rfl (c_X6_readClosing (d := 8) (by decide) h15) rfl rfl hdd (Nat.le_refl _) (Nat.le_refl _) (by decide) (fx_kv ?_)
            refine pm_goto (tgt := 143) hG dX6_readPart_136 rfl ?_
            exact pm_vret hG hF dX6_readPart_143 rfl (Nat.le_refl _) (Nat.le_refl _) (fx_rvc hE)
        · replace hE := fx_t c8 hE
          refine pm_iloadn hG dX6_readPart_70 rfl ?_
          refine pm_iconst (v := 5) hG dX6_readPart_71 (by decide) ?_
          refine pm_icmp_ge (tgt := 104) hG dX6_readPart_72 rfl (fun q => absurd q (by decide)) (fun _ => ?_)
          refine pm_aloadn hG dX6_readPart_75 rfl ?_
          refine pm_dup hG dX6_readPart_76 rfl ?_
          refine pm_getf hG dX6_readPart_77 (flX6_26 _ rfl) rfl rfl ?_
          refine pm_iconst (v := 1) hG dX6_readPart_80 (by decide) ?_
          refine pm_iadd hG dX6_readPart_81 ?_
          refine pm_putf hG dX6_readPart_82 (fwX6_26 _ rfl) rfl rfl rfl ?_
          refine ci_105 ?_
          refine fx_letc hE (fun S17 hE => ?_)
          refine pm_aloadn hG dX6_readPart_85 rfl ?_
          refine pm_iloadn hG dX6_readPart_86 rfl ?_
          refine pm_iconst (v := 1) hG dX6_readPart_87 (by decide) ?_
          refine pm_iadd hG dX6_readPart_88 ?_
          refine pm_top (v := 5) (by decide) ?_
          obtain ⟨r19, h18, hE⟩ := fb_some hE
          refine pm_callV (As := [.int 5]) (rest := []) hG hR dX6_readPart_89 (lkX6_60 _ rfl) okV_X6_readPart rfl rfl (c_X6_readPart_k5 (d := 8) (by decide) h18) rfl rfl hdd (Nat.le_refl _) (Nat.le_refl _) (by decide) (fx_kv ?_)
          refine pm_aloadn hG dX6_readPart_92 rfl ?_
          refine pm_getf hG dX6_readPart_93 (flX6_20 _ rfl) rfl rfl ?_
          refine pm_iconst (v := (-1)) hG dX6_readPart_96 (by decide) ?_
          obtain ⟨r21, h20, hE⟩ := fb_some hE
          refine pm_callV (As := [.int (-1)]) (rest := []) hG hR dX6_readPart_97 (lkX6_50 _ rfl) okV_X9_append rfl rfl (tappend_28 (d := 8) (by decide) h20) rfl rfl hdd (Nat.le_refl _) (Nat.le_refl _) (by decide) (fx_ki ?_)
          refine pm_pop hG dX6_readPart_100 rfl ?_
          refine pm_goto (tgt := 143) hG dX6_readPart_101 rfl ?_
          exact pm_vret hG hF dX6_readPart_143 rfl (Nat.le_refl _) (Nat.le_refl _) (fx_rvc hE)
      · replace hE := fx_f c7 hE
        refine pm_aloadn hG dX6_readPart_39 rfl ?_
        refine pm_dup hG dX6_readPart_40 rfl ?_
        refine pm_getf hG dX6_readPart_41 (flX6_26 _ rfl) rfl rfl ?_
        refine pm_iconst (v := 1) hG dX6_readPart_44 (by decide) ?_
        refine pm_iadd hG dX6_readPart_45 ?_
        refine pm_putf hG dX6_readPart_46 (fwX6_26 _ rfl) rfl rfl rfl ?_
        refine ci_105 ?_
        refine fx_letc hE (fun S22 hE => ?_)
        refine pm_aloadn hG dX6_readPart_49 rfl ?_
        refine pm_getf hG dX6_readPart_50 (flX6_20 _ rfl) rfl rfl ?_
        refine pm_bipush (v := (-20)) hG dX6_readPart_53 (by decide) ?_
        refine pm_iloadn hG dX6_readPart_55 rfl ?_
        refine pm_isub hG dX6_readPart_56 ?_
        obtain ⟨r24, h23, hE⟩ := fb_some hE
        refine pm_callV (As := [.int ((-20) - x5)]) (rest := []) hG hR dX6_readPart_57 (lkX6_50 _ rfl) okV_X9_append rfl rfl (tappend_28 (d := 8) (by decide) h23) rfl rfl hdd (Nat.le_refl _) (Nat.le_refl _) (by decide) (fx_ki ?_)
        refine pm_pop hG dX6_readPart_60 rfl ?_
        refine pm_goto (tgt := 143) hG dX6_readPart_61 rfl ?_
        exact pm_vret hG hF dX6_readPart_143 rfl (Nat.le_refl _) (Nat.le_refl _) (fx_rvc hE)
    · replace hE := fx_f c6 hE
      refine pm_aloadn hG dX6_readPart_28 rfl ?_
      obtain ⟨r26, h25, hE⟩ := fb_some hE
      refine pm_callV (As := []) (rest := []) hG hR dX6_readPart_29 (lkX6_74 _ rfl) okV_X6_readNumber rfl rfl (c_X6_readNumber (d := 8) (by decide) h25) rfl rfl hdd (Nat.le_refl _) (Nat.le_refl _) (by decide) (fx_kv ?_)
      refine pm_goto (tgt := 143) hG dX6_readPart_32 rfl ?_
      exact pm_vret hG hF dX6_readPart_143 rfl (Nat.le_refl _) (Nat.le_refl _) (fx_rvc hE)
  · replace c2 := Int32.not_le.mp c2
    replace hE := fx_t c2 hE
    refine pm_iconst (v := (-1)) hG dX6_readPart_9 (by decide) ?_
    refine pm_goto (tgt := 20) hG dX6_readPart_10 rfl ?_
    refine pm_istoreXn (loc' := [some (.ref (B + 27)), some (.int 4), some (.int x1), some (.int (-1))]) hG dX6_readPart_20 (by decide) (pm_c1b rfl) rfl ?_
    refine pm_iloadn hG dX6_readPart_21 rfl ?_
    refine pm_callS (As := [.int x1]) (rest := []) hG hR dX6_readPart_22 (lkX6_70 _ rfl) okS_X6_isDigit (c_X6_isDigit (d := 8) (by decide) rfl) rfl rfl hdd (Nat.le_refl _) (Nat.le_refl _) (by decide) (fx_ki ?_)
    refine pm_if_eq (tgt := 35) hG dX6_readPart_25 rfl (fun c27 => ?_) (fun c27 => ?_)
    · replace hE := fx_t c27 hE
      refine pm_iloadn hG dX6_readPart_35 rfl ?_
      refine pm_if_lt (tgt := 64) hG dX6_readPart_36 rfl (fun _ => ?_) (fun q => absurd q (by decide))
      refine pm_iloadn hG dX6_readPart_64 rfl ?_
      refine pm_bipush (v := 33) hG dX6_readPart_65 (by decide) ?_
      refine pm_icmp_ne (tgt := 104) hG dX6_readPart_67 rfl (fun c28 => ?_) (fun c28 => ?_)
      · replace hE := fx_f c28 hE
        refine pm_iloadn hG dX6_readPart_104 rfl ?_
        refine pm_bipush (v := 40) hG dX6_readPart_105 (by decide) ?_
        refine pm_icmp_ne (tgt := 139) hG dX6_readPart_107 rfl (fun c29 => ?_) (fun c29 => ?_)
        · replace hE := fx_f c29 hE
          refine pm_aloadn hG dX6_readPart_139 rfl ?_
          obtain ⟨r31, h30, hE⟩ := fb_some hE
          refine pm_callV (As := []) (rest := []) hG hR dX6_readPart_140 (lkX6_41 _ rfl) okV_X6_fail rfl rfl (c_X6_fail (d := 8) (by decide) h30) rfl rfl hdd (Nat.le_refl _) (Nat.le_refl _) (by decide) (fx_kv ?_)
          exact pm_vret hG hF dX6_readPart_143 rfl (Nat.le_refl _) (Nat.le_refl _) (fx_rvc hE)
        · replace hE := fx_t c29 hE
          refine pm_iloadn hG dX6_readPart_110 rfl ?_
          refine pm_iconst (v := 5) hG dX6_readPart_111 (by decide) ?_
          refine pm_icmp_ge (tgt := 139) hG dX6_readPart_112 rfl (fun q => absurd q (by decide)) (fun _ => ?_)
          refine pm_aloadn hG dX6_readPart_115 rfl ?_
          refine pm_dup hG dX6_readPart_116 rfl ?_
          refine pm_getf hG dX6_readPart_117 (flX6_26 _ rfl) rfl rfl ?_
          refine pm_iconst (v := 1) hG dX6_readPart_120 (by decide) ?_
          refine pm_iadd hG dX6_readPart_121 ?_
          refine pm_putf hG dX6_readPart_122 (fwX6_26 _ rfl) rfl rfl rfl ?_
          refine ci_105 ?_
          refine fx_letc hE (fun S32 hE => ?_)
          refine pm_aloadn hG dX6_readPart_125 rfl ?_
          refine pm_iloadn hG dX6_readPart_126 rfl ?_
          refine pm_iconst (v := 1) hG dX6_readPart_127 (by decide) ?_
          refine pm_iadd hG dX6_readPart_128 ?_
          refine pm_top (v := 5) (by decide) ?_
          obtain ⟨r34, h33, hE⟩ := fb_some hE
          refine pm_callV (As := [.int 5]) (rest := []) hG hR dX6_readPart_129 (lkX6_33 _ rfl) okV_X6_readText rfl rfl (c_X6_readText_k5 (d := 8) (by decide) h33) rfl rfl hdd (Nat.le_refl _) (Nat.le_refl _) (by decide) (fx_kv ?_)
          refine pm_aloadn hG dX6_readPart_132 rfl ?_
          obtain ⟨r36, h35, hE⟩ := fb_some hE
          refine pm_callV (As := []) (rest := []) hG hR dX6_readPart_133 (lkX6_77 _ rfl) okV_X6_readClosing rfl rfl (c_X6_readClosing (d := 8) (by decide) h35) rfl rfl hdd (Nat.le_refl _) (Nat.le_refl _) (by decide) (fx_kv ?_)
          refine pm_goto (tgt := 143) hG dX6_readPart_136 rfl ?_
          exact pm_vret hG hF dX6_readPart_143 rfl (Nat.le_refl _) (Nat.le_refl _) (fx_rvc hE)
      · replace hE := fx_t c28 hE
        refine pm_iloadn hG dX6_readPart_70 rfl ?_
        refine pm_iconst (v := 5) hG dX6_readPart_71 (by decide) ?_
        refine pm_icmp_ge (tgt := 104) hG dX6_readPart_72 rfl (fun q => absurd q (by decide)) (fun _ => ?_)
        refine pm_aloadn hG dX6_readPart_75 rfl ?_
        refine pm_dup hG dX6_readPart_76 rfl ?_
        refine pm_getf hG dX6_readPart_77 (flX6_26 _ rfl) rfl rfl ?_
        refine pm_iconst (v := 1) hG dX6_readPart_80 (by decide) ?_
        refine pm_iadd hG dX6_readPart_81 ?_
        refine pm_putf hG dX6_readPart_82 (fwX6_26 _ rfl) rfl rfl rfl ?_
        refine ci_105 ?_
        refine fx_letc hE (fun S37 hE => ?_)
        refine pm_aloadn hG dX6_readPart_85 rfl ?_
        refine pm_iloadn hG dX6_readPart_86 rfl ?_
        refine pm_iconst (v := 1) hG dX6_readPart_87 (by decide) ?_
        refine pm_iadd hG dX6_readPart_88 ?_
        refine pm_top (v := 5) (by decide) ?_
        obtain ⟨r39, h38, hE⟩ := fb_some hE
        refine pm_callV (As := [.int 5]) (rest := []) hG hR dX6_readPart_89 (lkX6_60 _ rfl) okV_X6_readPart rfl rfl (c_X6_readPart_k5 (d := 8) (by decide) h38) rfl rfl hdd (Nat.le_refl _) (Nat.le_refl _) (by decide) (fx_kv ?_)
        refine pm_aloadn hG dX6_readPart_92 rfl ?_
        refine pm_getf hG dX6_readPart_93 (flX6_20 _ rfl) rfl rfl ?_
        refine pm_iconst (v := (-1)) hG dX6_readPart_96 (by decide) ?_
        obtain ⟨r41, h40, hE⟩ := fb_some hE
        refine pm_callV (As := [.int (-1)]) (rest := []) hG hR dX6_readPart_97 (lkX6_50 _ rfl) okV_X9_append rfl rfl (tappend_28 (d := 8) (by decide) h40) rfl rfl hdd (Nat.le_refl _) (Nat.le_refl _) (by decide) (fx_ki ?_)
        refine pm_pop hG dX6_readPart_100 rfl ?_
        refine pm_goto (tgt := 143) hG dX6_readPart_101 rfl ?_
        exact pm_vret hG hF dX6_readPart_143 rfl (Nat.le_refl _) (Nat.le_refl _) (fx_rvc hE)
    · replace hE := fx_f c27 hE
      refine pm_aloadn hG dX6_readPart_28 rfl ?_
      obtain ⟨r43, h42, hE⟩ := fb_some hE
      refine pm_callV (As := []) (rest := []) hG hR dX6_readPart_29 (lkX6_74 _ rfl) okV_X6_readNumber rfl rfl (c_X6_readNumber (d := 8) (by decide) h42) rfl rfl hdd (Nat.le_refl _) (Nat.le_refl _) (by decide) (fx_kv ?_)
      refine pm_goto (tgt := 143) hG dX6_readPart_32 rfl ?_
      exact pm_vret hG hF dX6_readPart_143 rfl (Nat.le_refl _) (Nat.le_refl _) (fx_rvc hE)

set_option maxRecDepth 100000 in
set_option maxHeartbeats 4000000 in
theorem c_X6_readSum_k4 {d : Nat} {B cnt : Nat} {kp : Value} {ρ : pm_S} {S : FS} {R : Int32 × FS} (hdd : 10 ≤ d) (hE : f_X6_readSum_k4 S = some R) : pm_met mX6_readSum d 0 0 B [.ref (B + 27), .int 4] cnt (cst B kp S ρ) (pm_Qv (fun σ' cnt' => σ' = (cst B kp R.2 ρ) ∧ cnt' = cnt)) := by
  refine pm_enter 2 (by decide) (Nat.le_of_ble_eq_true rfl) rfl (fun G hG hR hF => ?_)
  unfold f_X6_readSum_k4 at hE
  refine pm_aloadn hG dX6_readSum_0 rfl ?_
  refine pm_iloadn hG dX6_readSum_1 rfl ?_
  obtain ⟨r2, h1, hE⟩ := fb_some hE
  refine pm_callV (As := [.int 4]) (rest := []) hG hR dX6_readSum_2 (lkX6_60 _ rfl) okV_X6_readPart rfl rfl (c_X6_readPart_k4 (d := 9) (by decide) h1) rfl rfl hdd (Nat.le_refl _) (Nat.le_refl _) (by decide) (fx_kv ?_)
  refine pm_iconst (v := 0) hG dX6_readSum_5 (by decide) ?_
  refine pm_istoreXn (loc' := [some (.ref (B + 27)), some (.int 4), some (.int 0), none]) hG dX6_readSum_6 (by decide) (pm_c1b rfl) rfl ?_
  have loop7 : ∀ (k7 : FS → Int32 → Option (Int32 × FS)), (∀ (S3 : FS) (x3_2 : Int32), k7 S3  x3_2 = some R → pm_wp mX6_readSum G B 78 [some (.ref (B + 27)), some (.int 4), some (.int x3_2), none] [] 0 0 cnt (cst B kp S3 ρ)) → ∀ (m7 : Nat) (S3 : FS) (x3_2 : Int32), l_X6_readSum_k4_7 k7 m7 S3  x3_2 = some R → pm_wp mX6_readSum G B 7 [some (.ref (B + 27)), some (.int 4), some (.int x3_2), none] [] 0 0 cnt (cst B kp S3 ρ) := by
    intro k7 hk7 m7
    induction m7 with
    | zero => intro S3  x3_2 hE; exact fx_no hE
    | succ m7 ih7 =>
      intro S3  x3_2 hE
      rw [l_X6_readSum_k4_7] at hE
      refine pm_iloadn hG dX6_readSum_7 rfl ?_
      refine pm_bipush (v := 60) hG dX6_readSum_8 (by decide) ?_
      refine pm_icmp_ge (tgt := 78) hG dX6_readSum_10 rfl (fun c4 => ?_) (fun c4 => ?_)
      · replace c4 := Int32.not_lt.mpr c4
        replace hE := fx_f c4 hE
        exact hk7 _ _ hE
      · replace c4 := Int32.not_le.mp c4
        replace hE := fx_t c4 hE
        refine pm_aloadn hG dX6_readSum_13 rfl ?_
        refine pm_callV (As := []) (rest := []) hG hR dX6_readSum_14 (lkX6_47 _ rfl) okV_X6_next rfl rfl (c_X6_next (d := 9) (by decide) rfl) rfl rfl hdd (Nat.le_refl _) (Nat.le_refl _) (by decide) (fx_ki ?_)
        refine pm_bipush (v := 43) hG dX6_readSum_17 (by decide) ?_
        refine pm_icmp_eq (tgt := 31) hG dX6_readSum_19 rfl (fun c5 => ?_) (fun c5 => ?_)
        · replace hE := fx_t c5 hE
          refine pm_aloadn hG dX6_readSum_31 rfl ?_
          refine pm_callV (As := []) (rest := []) hG hR dX6_readSum_32 (lkX6_47 _ rfl) okV_X6_next rfl rfl (c_X6_next (d := 9) (by decide) rfl) rfl rfl hdd (Nat.le_refl _) (Nat.le_refl _) (by decide) (fx_ki ?_)
          refine pm_bipush (v := 43) hG dX6_readSum_35 (by decide) ?_
          refine pm_icmp_ne (tgt := 45) hG dX6_readSum_37 rfl (fun q => absurd c5 q) (fun _ => ?_)
          refine pm_bipush (v := (-7)) hG dX6_readSum_40 (by decide) ?_
          refine pm_goto (tgt := 47) hG dX6_readSum_42 rfl ?_
          refine pm_istoreXn (loc' := [some (.ref (B + 27)), some (.int 4), some (.int x3_2), some (.int (-7))]) hG dX6_readSum_47 (by decide) (pm_c1b rfl) rfl ?_
          refine pm_aloadn hG dX6_readSum_48 rfl ?_
          refine pm_dup hG dX6_readSum_49 rfl ?_
          refine pm_getf hG dX6_readSum_50 (flX6_26 _ rfl) rfl rfl ?_
          refine pm_iconst (v := 1) hG dX6_readSum_53 (by decide) ?_
          refine pm_iadd hG dX6_readSum_54 ?_
          refine pm_putf hG dX6_readSum_55 (fwX6_26 _ rfl) rfl rfl rfl ?_
          refine ci_105 ?_
          refine fx_letc hE (fun S6 hE => ?_)
          refine pm_aloadn hG dX6_readSum_58 rfl ?_
          refine pm_iloadn hG dX6_readSum_59 rfl ?_
          obtain ⟨r8, h7, hE⟩ := fb_some hE
          refine pm_callV (As := [.int 4]) (rest := []) hG hR dX6_readSum_60 (lkX6_60 _ rfl) okV_X6_readPart rfl rfl (c_X6_readPart_k4 (d := 9) (by decide) h7) rfl rfl hdd (Nat.le_refl _) (Nat.le_refl _) (by decide) (fx_kv ?_)
          refine pm_aloadn hG dX6_readSum_63 rfl ?_
          refine pm_getf hG dX6_readSum_64 (flX6_20 _ rfl) rfl rfl ?_
          refine pm_iloadn hG dX6_readSum_67 rfl ?_
          obtain ⟨r10, h9, hE⟩ := fb_some hE
          refine pm_callV (As := [.int (-7)]) (rest := []) hG hR dX6_readSum_68 (lkX6_50 _ rfl) okV_X9_append rfl rfl (tappend_28 (d := 9) (by decide) h9) rfl rfl hdd (Nat.le_refl _) (Nat.le_refl _) (by decide) (fx_ki ?_)
          refine pm_pop hG dX6_readSum_71 rfl ?_
          refine pm_iincX (v := x3_2 + 1) (loc' := [some (.ref (B + 27)), some (.int 4), some (.int (x3_2 + 1)), some (.int (-7))]) hG dX6_readSum_72 rfl (by rfl) (by decide) (pm_c1b rfl) rfl ?_
          refine pm_goto (tgt := 7) hG dX6_readSum_75 rfl ?_
          refine pm_fg 3 (loc' := [some (.ref (B + 27)), some (.int 4), some (.int (x3_2 + 1)), none]) rfl ?_
          exact ih7 _ _ hE
        · replace hE := fx_f c5 hE
          refine pm_aloadn hG dX6_readSum_22 rfl ?_
          refine pm_callV (As := []) (rest := []) hG hR dX6_readSum_23 (lkX6_47 _ rfl) okV_X6_next rfl rfl (c_X6_next (d := 9) (by decide) rfl) rfl rfl hdd (Nat.le_refl _) (Nat.le_refl _) (by decide) (fx_ki ?_)
          refine pm_bipush (v := 45) hG dX6_readSum_26 (by decide) ?_
          refine pm_icmp_ne (tgt := 78) hG dX6_readSum_28 rfl (fun c11 => ?_) (fun c11 => ?_)
          · replace hE := fx_f c11 hE
            exact hk7 _ _ hE
          · replace hE := fx_t c11 hE
            refine pm_aloadn hG dX6_readSum_31 rfl ?_
            refine pm_callV (As := []) (rest := []) hG hR dX6_readSum_32 (lkX6_47 _ rfl) okV_X6_next rfl rfl (c_X6_next (d := 9) (by decide) rfl) rfl rfl hdd (Nat.le_refl _) (Nat.le_refl _) (by decide) (fx_ki ?_)
            refine pm_bipush (v := 43) hG dX6_readSum_35 (by decide) ?_
            refine pm_icmp_ne (tgt := 45) hG dX6_readSum_37 rfl (fun _ => ?_) (fun q => absurd q c5)
            refine pm_bipush (v := (-8)) hG dX6_readSum_45 (by decide) ?_
            refine pm_istoreXn (loc' := [some (.ref (B + 27)), some (.int 4), some (.int x3_2), some (.int (-8))]) hG dX6_readSum_47 (by decide) (pm_c1b rfl) rfl ?_
            refine pm_aloadn hG dX6_readSum_48 rfl ?_
            refine pm_dup hG dX6_readSum_49 rfl ?_
            refine pm_getf hG dX6_readSum_50 (flX6_26 _ rfl) rfl rfl ?_
            refine pm_iconst (v := 1) hG dX6_readSum_53 (by decide) ?_
            refine pm_iadd hG dX6_readSum_54 ?_
            refine pm_putf hG dX6_readSum_55 (fwX6_26 _ rfl) rfl rfl rfl ?_
            refine ci_105 ?_
            refine fx_letc hE (fun S12 hE => ?_)
            refine pm_aloadn hG dX6_readSum_58 rfl ?_
            refine pm_iloadn hG dX6_readSum_59 rfl ?_
            obtain ⟨r14, h13, hE⟩ := fb_some hE
            refine pm_callV (As := [.int 4]) (rest := []) hG hR dX6_readSum_60 (lkX6_60 _ rfl) okV_X6_readPart rfl rfl (c_X6_readPart_k4 (d := 9) (by decide) h13) rfl rfl hdd (Nat.le_refl _) (Nat.le_refl _) (by decide) (fx_kv ?_)
            refine pm_aloadn hG dX6_readSum_63 rfl ?_
            refine pm_getf hG dX6_readSum_64 (flX6_20 _ rfl) rfl rfl ?_
            refine pm_iloadn hG dX6_readSum_67 rfl ?_
            obtain ⟨r16, h15, hE⟩ := fb_some hE
            refine pm_callV (As := [.int (-8)]) (rest := []) hG hR dX6_readSum_68 (lkX6_50 _ rfl) okV_X9_append rfl rfl (tappend_28 (d := 9) (by decide) h15) rfl rfl hdd (Nat.le_refl _) (Nat.le_refl _) (by decide) (fx_ki ?_)
            refine pm_pop hG dX6_readSum_71 rfl ?_
            refine pm_iincX (v := x3_2 + 1) (loc' := [some (.ref (B + 27)), some (.int 4), some (.int (x3_2 + 1)), some (.int (-8))]) hG dX6_readSum_72 rfl (by rfl) (by decide) (pm_c1b rfl) rfl ?_
            refine pm_goto (tgt := 7) hG dX6_readSum_75 rfl ?_
            refine pm_fg 3 (loc' := [some (.ref (B + 27)), some (.int 4), some (.int (x3_2 + 1)), none]) rfl ?_
            exact ih7 _ _ hE
  refine loop7 _ (fun S17 x17_2 hE => ?_) _ _ _ hE
  exact pm_vret hG hF dX6_readSum_78 rfl (Nat.le_refl _) (Nat.le_refl _) (fx_rvc hE)

set_option maxRecDepth 100000 in
set_option maxHeartbeats 4000000 in
theorem c_X6_readComparison_k4 {d : Nat} {B cnt : Nat} {kp : Value} {ρ : pm_S} {S : FS} {R : Int32 × FS} (hdd : 11 ≤ d) (hE : f_X6_readComparison_k4 S = some R) : pm_met mX6_readComparison d 0 0 B [.ref (B + 27), .int 4] cnt (cst B kp S ρ) (pm_Qv (fun σ' cnt' => σ' = (cst B kp R.2 ρ) ∧ cnt' = cnt)) := by
  refine pm_enter 1 (by decide) (Nat.le_of_ble_eq_true rfl) rfl (fun G hG hR hF => ?_)
  unfold f_X6_readComparison_k4 at hE
  refine pm_aloadn hG dX6_readComparison_0 rfl ?_
  refine pm_iloadn hG dX6_readComparison_1 rfl ?_
  obtain ⟨r2, h1, hE⟩ := fb_some hE
  refine pm_callV (As := [.int 4]) (rest := []) hG hR dX6_readComparison_2 (lkX6_57 _ rfl) okV_X6_readSum rfl rfl (c_X6_readSum_k4 (d := 10) (by decide) h1) rfl rfl hdd (Nat.le_refl _) (Nat.le_refl _) (by decide) (fx_kv ?_)
  refine pm_aloadn hG dX6_readComparison_5 rfl ?_
  refine pm_callV (As := []) (rest := []) hG hR dX6_readComparison_6 (lkX6_47 _ rfl) okV_X6_next rfl rfl (c_X6_next (d := 10) (by decide) rfl) rfl rfl hdd (Nat.le_refl _) (Nat.le_refl _) (by decide) (fx_ki ?_)
  refine fx_letv hE (fun x3 hE => ?_)
  refine pm_istoreXn (loc' := [some (.ref (B + 27)), some (.int 4), some (.int x3)]) hG dX6_readComparison_9 (by decide) (pm_c1b rfl) rfl ?_
  refine pm_iloadn hG dX6_readComparison_10 rfl ?_
  refine pm_bipush (v := 60) hG dX6_readComparison_11 (by decide) ?_
  refine pm_icmp_eq (tgt := 28) hG dX6_readComparison_13 rfl (fun c4 => ?_) (fun c4 => ?_)
  · replace hE := fx_t c4 hE
    refine pm_aloadn hG dX6_readComparison_28 rfl ?_
    refine pm_dup hG dX6_readComparison_29 rfl ?_
    refine pm_getf hG dX6_readComparison_30 (flX6_26 _ rfl) rfl rfl ?_
    refine pm_iconst (v := 1) hG dX6_readComparison_33 (by decide) ?_
    refine pm_iadd hG dX6_readComparison_34 ?_
    refine pm_putf hG dX6_readComparison_35 (fwX6_26 _ rfl) rfl rfl rfl ?_
    refine ci_105 ?_
    refine fx_letc hE (fun S5 hE => ?_)
    refine pm_aloadn hG dX6_readComparison_38 rfl ?_
    refine pm_iloadn hG dX6_readComparison_39 rfl ?_
    obtain ⟨r7, h6, hE⟩ := fb_some hE
    refine pm_callV (As := [.int 4]) (rest := []) hG hR dX6_readComparison_40 (lkX6_57 _ rfl) okV_X6_readSum rfl rfl (c_X6_readSum_k4 (d := 10) (by decide) h6) rfl rfl hdd (Nat.le_refl _) (Nat.le_refl _) (by decide) (fx_kv ?_)
    refine pm_aloadn hG dX6_readComparison_43 rfl ?_
    refine pm_getf hG dX6_readComparison_44 (flX6_20 _ rfl) rfl rfl ?_
    refine pm_iloadn hG dX6_readComparison_47 rfl ?_
    refine pm_bipush (v := 60) hG dX6_readComparison_48 (by decide) ?_
    refine pm_icmp_ne (tgt := 58) hG dX6_readComparison_50 rfl (fun q => absurd c4 q) (fun _ => ?_)
    refine pm_bipush (v := (-4)) hG dX6_readComparison_53 (by decide) ?_
    refine pm_goto (tgt := 71) hG dX6_readComparison_55 rfl ?_
    obtain ⟨r9, h8, hE⟩ := fb_some hE
    refine pm_callV (As := [.int (-4)]) (rest := []) hG hR dX6_readComparison_71 (lkX6_50 _ rfl) okV_X9_append rfl rfl (tappend_28 (d := 10) (by decide) h8) rfl rfl hdd (Nat.le_refl _) (Nat.le_refl _) (by decide) (fx_ki ?_)
    refine pm_pop hG dX6_readComparison_74 rfl ?_
    exact pm_vret hG hF dX6_readComparison_75 rfl (Nat.le_refl _) (Nat.le_refl _) (fx_rvc hE)
  · replace hE := fx_f c4 hE
    refine pm_iloadn hG dX6_readComparison_16 rfl ?_
    refine pm_bipush (v := 61) hG dX6_readComparison_17 (by decide) ?_
    refine pm_icmp_eq (tgt := 28) hG dX6_readComparison_19 rfl (fun c10 => ?_) (fun c10 => ?_)
    · replace hE := fx_t c10 hE
      refine pm_aloadn hG dX6_readComparison_28 rfl ?_
      refine pm_dup hG dX6_readComparison_29 rfl ?_
      refine pm_getf hG dX6_readComparison_30 (flX6_26 _ rfl) rfl rfl ?_
      refine pm_iconst (v := 1) hG dX6_readComparison_33 (by decide) ?_
      refine pm_iadd hG dX6_readComparison_34 ?_
      refine pm_putf hG dX6_readComparison_35 (fwX6_26 _ rfl) rfl rfl rfl ?_
      refine ci_105 ?_
      refine fx_letc hE (fun S11 hE => ?_)
      refine pm_aloadn hG dX6_readComparison_38 rfl ?_
      refine pm_iloadn hG dX6_readComparison_39 rfl ?_
      obtain ⟨r13, h12, hE⟩ := fb_some hE
      refine pm_callV (As := [.int 4]) (rest := []) hG hR dX6_readComparison_40 (lkX6_57 _ rfl) okV_X6_readSum rfl rfl (c_X6_readSum_k4 (d := 10) (by decide) h12) rfl rfl hdd (Nat.le_refl _) (Nat.le_refl _) (by decide) (fx_kv ?_)
      refine pm_aloadn hG dX6_readComparison_43 rfl ?_
      refine pm_getf hG dX6_readComparison_44 (flX6_20 _ rfl) rfl rfl ?_
      refine pm_iloadn hG dX6_readComparison_47 rfl ?_
      refine pm_bipush (v := 60) hG dX6_readComparison_48 (by decide) ?_
      refine pm_icmp_ne (tgt := 58) hG dX6_readComparison_50 rfl (fun _ => ?_) (fun q => absurd q c4)
      refine pm_iloadn hG dX6_readComparison_58 rfl ?_
      refine pm_bipush (v := 61) hG dX6_readComparison_59 (by decide) ?_
      refine pm_icmp_ne (tgt := 69) hG dX6_readComparison_61 rfl (fun q => absurd c10 q) (fun _ => ?_)
      refine pm_bipush (v := (-5)) hG dX6_readComparison_64 (by decide) ?_
      refine pm_goto (tgt := 71) hG dX6_readComparison_66 rfl ?_
      obtain ⟨r15, h14, hE⟩ := fb_some hE
      refine pm_callV (As := [.int (-5)]) (rest := []) hG hR dX6_readComparison_71 (lkX6_50 _ rfl) okV_X9_append rfl rfl (tappend_28 (d := 10) (by decide) h14) rfl rfl hdd (Nat.le_refl _) (Nat.le_refl _) (by decide) (fx_ki ?_)
      refine pm_pop hG dX6_readComparison_74 rfl ?_
      exact pm_vret hG hF dX6_readComparison_75 rfl (Nat.le_refl _) (Nat.le_refl _) (fx_rvc hE)
    · replace hE := fx_f c10 hE
      refine pm_iloadn hG dX6_readComparison_22 rfl ?_
      refine pm_bipush (v := 62) hG dX6_readComparison_23 (by decide) ?_
      refine pm_icmp_ne (tgt := 75) hG dX6_readComparison_25 rfl (fun c16 => ?_) (fun c16 => ?_)
      · replace hE := fx_f c16 hE
        exact pm_vret hG hF dX6_readComparison_75 rfl (Nat.le_refl _) (Nat.le_refl _) (fx_rvc hE)
      · replace hE := fx_t c16 hE
        refine pm_aloadn hG dX6_readComparison_28 rfl ?_
        refine pm_dup hG dX6_readComparison_29 rfl ?_
        refine pm_getf hG dX6_readComparison_30 (flX6_26 _ rfl) rfl rfl ?_
        refine pm_iconst (v := 1) hG dX6_readComparison_33 (by decide) ?_
        refine pm_iadd hG dX6_readComparison_34 ?_
        refine pm_putf hG dX6_readComparison_35 (fwX6_26 _ rfl) rfl rfl rfl ?_
        refine ci_105 ?_
        refine fx_letc hE (fun S17 hE => ?_)
        refine pm_aloadn hG dX6_readComparison_38 rfl ?_
        refine pm_iloadn hG dX6_readComparison_39 rfl ?_
        obtain ⟨r19, h18, hE⟩ := fb_some hE
        refine pm_callV (As := [.int 4]) (rest := []) hG hR dX6_readComparison_40 (lkX6_57 _ rfl) okV_X6_readSum rfl rfl (c_X6_readSum_k4 (d := 10) (by decide) h18) rfl rfl hdd (Nat.le_refl _) (Nat.le_refl _) (by decide) (fx_kv ?_)
        refine pm_aloadn hG dX6_readComparison_43 rfl ?_
        refine pm_getf hG dX6_readComparison_44 (flX6_20 _ rfl) rfl rfl ?_
        refine pm_iloadn hG dX6_readComparison_47 rfl ?_
        refine pm_bipush (v := 60) hG dX6_readComparison_48 (by decide) ?_
        refine pm_icmp_ne (tgt := 58) hG dX6_readComparison_50 rfl (fun _ => ?_) (fun q => absurd q c4)
        refine pm_iloadn hG dX6_readComparison_58 rfl ?_
        refine pm_bipush (v := 61) hG dX6_readComparison_59 (by decide) ?_
        refine pm_icmp_ne (tgt := 69) hG dX6_readComparison_61 rfl (fun _ => ?_) (fun q => absurd q c10)
        refine pm_bipush (v := (-6)) hG dX6_readComparison_69 (by decide) ?_
        obtain ⟨r21, h20, hE⟩ := fb_some hE
        refine pm_callV (As := [.int (-6)]) (rest := []) hG hR dX6_readComparison_71 (lkX6_50 _ rfl) okV_X9_append rfl rfl (tappend_28 (d := 10) (by decide) h20) rfl rfl hdd (Nat.le_refl _) (Nat.le_refl _) (by decide) (fx_ki ?_)
        refine pm_pop hG dX6_readComparison_74 rfl ?_
        exact pm_vret hG hF dX6_readComparison_75 rfl (Nat.le_refl _) (Nat.le_refl _) (fx_rvc hE)

set_option maxRecDepth 100000 in
set_option maxHeartbeats 4000000 in
theorem c_X6_readConjunction_k4 {d : Nat} {B cnt : Nat} {kp : Value} {ρ : pm_S} {S : FS} {R : Int32 × FS} (hdd : 12 ≤ d) (hE : f_X6_readConjunction_k4 S = some R) : pm_met mX6_readConjunction d 0 0 B [.ref (B + 27), .int 4] cnt (cst B kp S ρ) (pm_Qv (fun σ' cnt' => σ' = (cst B kp R.2 ρ) ∧ cnt' = cnt)) := by
  refine pm_enter 1 (by decide) (Nat.le_of_ble_eq_true rfl) rfl (fun G hG hR hF => ?_)
  unfold f_X6_readConjunction_k4 at hE
  refine pm_aloadn hG dX6_readConjunction_0 rfl ?_
  refine pm_iloadn hG dX6_readConjunction_1 rfl ?_
  obtain ⟨r2, h1, hE⟩ := fb_some hE
  refine pm_callV (As := [.int 4]) (rest := []) hG hR dX6_readConjunction_2 (lkX6_54 _ rfl) okV_X6_readComparison rfl rfl (c_X6_readComparison_k4 (d := 11) (by decide) h1) rfl rfl hdd (Nat.le_refl _) (Nat.le_refl _) (by decide) (fx_kv ?_)
  refine pm_iconst (v := 0) hG dX6_readConjunction_5 (by decide) ?_
  refine pm_istoreXn (loc' := [some (.ref (B + 27)), some (.int 4), some (.int 0)]) hG dX6_readConjunction_6 (by decide) (pm_c1b rfl) rfl ?_
  have loop7 : ∀ (k7 : FS → Int32 → Option (Int32 × FS)), (∀ (S3 : FS) (x3_2 : Int32), k7 S3  x3_2 = some R → pm_wp mX6_readConjunction G B 53 [some (.ref (B + 27)), some (.int 4), some (.int x3_2)] [] 0 0 cnt (cst B kp S3 ρ)) → ∀ (m7 : Nat) (S3 : FS) (x3_2 : Int32), l_X6_readConjunction_k4_7 k7 m7 S3  x3_2 = some R → pm_wp mX6_readConjunction G B 7 [some (.ref (B + 27)), some (.int 4), some (.int x3_2)] [] 0 0 cnt (cst B kp S3 ρ) := by
    intro k7 hk7 m7
    induction m7 with
    | zero => intro S3  x3_2 hE; exact fx_no hE
    | succ m7 ih7 =>
      intro S3  x3_2 hE
      rw [l_X6_readConjunction_k4_7] at hE
      refine pm_iloadn hG dX6_readConjunction_7 rfl ?_
      refine pm_bipush (v := 60) hG dX6_readConjunction_8 (by decide) ?_
      refine pm_icmp_ge (tgt := 53) hG dX6_readConjunction_10 rfl (fun c4 => ?_) (fun c4 => ?_)
      · replace c4 := Int32.not_lt.mpr c4
        replace hE := fx_f c4 hE
        exact hk7 _ _ hE
      · replace c4 := Int32.not_le.mp c4
        replace hE := fx_t c4 hE
        refine pm_aloadn hG dX6_readConjunction_13 rfl ?_
        refine pm_callV (As := []) (rest := []) hG hR dX6_readConjunction_14 (lkX6_47 _ rfl) okV_X6_next rfl rfl (c_X6_next (d := 11) (by decide) rfl) rfl rfl hdd (Nat.le_refl _) (Nat.le_refl _) (by decide) (fx_ki ?_)
        refine pm_bipush (v := 38) hG dX6_readConjunction_17 (by decide) ?_
        refine pm_icmp_ne (tgt := 53) hG dX6_readConjunction_19 rfl (fun c5 => ?_) (fun c5 => ?_)
        · replace hE := fx_f c5 hE
          exact hk7 _ _ hE
        · replace hE := fx_t c5 hE
          refine pm_aloadn hG dX6_readConjunction_22 rfl ?_
          refine pm_dup hG dX6_readConjunction_23 rfl ?_
          refine pm_getf hG dX6_readConjunction_24 (flX6_26 _ rfl) rfl rfl ?_
          refine pm_iconst (v := 1) hG dX6_readConjunction_27 (by decide) ?_
          refine pm_iadd hG dX6_readConjunction_28 ?_
          refine pm_putf hG dX6_readConjunction_29 (fwX6_26 _ rfl) rfl rfl rfl ?_
          refine ci_105 ?_
          refine fx_letc hE (fun S6 hE => ?_)
          refine pm_aloadn hG dX6_readConjunction_32 rfl ?_
          refine pm_iloadn hG dX6_readConjunction_33 rfl ?_
          obtain ⟨r8, h7, hE⟩ := fb_some hE
          refine pm_callV (As := [.int 4]) (rest := []) hG hR dX6_readConjunction_34 (lkX6_54 _ rfl) okV_X6_readComparison rfl rfl (c_X6_readComparison_k4 (d := 11) (by decide) h7) rfl rfl hdd (Nat.le_refl _) (Nat.le_refl _) (by decide) (fx_kv ?_)
          refine pm_aloadn hG dX6_readConjunction_37 rfl ?_
          refine pm_getf hG dX6_readConjunction_38 (flX6_20 _ rfl) rfl rfl ?_
          refine pm_bipush (v := (-3)) hG dX6_readConjunction_41 (by decide) ?_
          obtain ⟨r10, h9, hE⟩ := fb_some hE
          refine pm_callV (As := [.int (-3)]) (rest := []) hG hR dX6_readConjunction_43 (lkX6_50 _ rfl) okV_X9_append rfl rfl (tappend_28 (d := 11) (by decide) h9) rfl rfl hdd (Nat.le_refl _) (Nat.le_refl _) (by decide) (fx_ki ?_)
          refine pm_pop hG dX6_readConjunction_46 rfl ?_
          refine pm_iincX (v := x3_2 + 1) (loc' := [some (.ref (B + 27)), some (.int 4), some (.int (x3_2 + 1))]) hG dX6_readConjunction_47 rfl (by rfl) (by decide) (pm_c1b rfl) rfl ?_
          refine pm_goto (tgt := 7) hG dX6_readConjunction_50 rfl ?_
          exact ih7 _ _ hE
  refine loop7 _ (fun S11 x11_2 hE => ?_) _ _ _ hE
  exact pm_vret hG hF dX6_readConjunction_53 rfl (Nat.le_refl _) (Nat.le_refl _) (fx_rvc hE)

set_option maxRecDepth 100000 in
set_option maxHeartbeats 4000000 in
theorem c_X6_readText_k4 {d : Nat} {B cnt : Nat} {kp : Value} {ρ : pm_S} {S : FS} {R : Int32 × FS} (hdd : 13 ≤ d) (hE : f_X6_readText_k4 S = some R) : pm_met mX6_readText d 0 0 B [.ref (B + 27), .int 4] cnt (cst B kp S ρ) (pm_Qv (fun σ' cnt' => σ' = (cst B kp R.2 ρ) ∧ cnt' = cnt)) := by
  refine pm_enter 1 (by decide) (Nat.le_of_ble_eq_true rfl) rfl (fun G hG hR hF => ?_)
  unfold f_X6_readText_k4 at hE
  refine pm_aloadn hG dX6_readText_0 rfl ?_
  refine pm_iloadn hG dX6_readText_1 rfl ?_
  obtain ⟨r2, h1, hE⟩ := fb_some hE
  refine pm_callV (As := [.int 4]) (rest := []) hG hR dX6_readText_2 (lkX6_44 _ rfl) okV_X6_readConjunction rfl rfl (c_X6_readConjunction_k4 (d := 12) (by decide) h1) rfl rfl hdd (Nat.le_refl _) (Nat.le_refl _) (by decide) (fx_kv ?_)
  refine pm_iconst (v := 0) hG dX6_readText_5 (by decide) ?_
  refine pm_istoreXn (loc' := [some (.ref (B + 27)), some (.int 4), some (.int 0)]) hG dX6_readText_6 (by decide) (pm_c1b rfl) rfl ?_
  have loop7 : ∀ (k7 : FS → Int32 → Option (Int32 × FS)), (∀ (S3 : FS) (x3_2 : Int32), k7 S3  x3_2 = some R → pm_wp mX6_readText G B 53 [some (.ref (B + 27)), some (.int 4), some (.int x3_2)] [] 0 0 cnt (cst B kp S3 ρ)) → ∀ (m7 : Nat) (S3 : FS) (x3_2 : Int32), l_X6_readText_k4_7 k7 m7 S3  x3_2 = some R → pm_wp mX6_readText G B 7 [some (.ref (B + 27)), some (.int 4), some (.int x3_2)] [] 0 0 cnt (cst B kp S3 ρ) := by
    intro k7 hk7 m7
    induction m7 with
    | zero => intro S3  x3_2 hE; exact fx_no hE
    | succ m7 ih7 =>
      intro S3  x3_2 hE
      rw [l_X6_readText_k4_7] at hE
      refine pm_iloadn hG dX6_readText_7 rfl ?_
      refine pm_bipush (v := 60) hG dX6_readText_8 (by decide) ?_
      refine pm_icmp_ge (tgt := 53) hG dX6_readText_10 rfl (fun c4 => ?_) (fun c4 => ?_)
      · replace c4 := Int32.not_lt.mpr c4
        replace hE := fx_f c4 hE
        exact hk7 _ _ hE
      · replace c4 := Int32.not_le.mp c4
        replace hE := fx_t c4 hE
        refine pm_aloadn hG dX6_readText_13 rfl ?_
        refine pm_callV (As := []) (rest := []) hG hR dX6_readText_14 (lkX6_47 _ rfl) okV_X6_next rfl rfl (c_X6_next (d := 12) (by decide) rfl) rfl rfl hdd (Nat.le_refl _) (Nat.le_refl _) (by decide) (fx_ki ?_)
        refine pm_bipush (v := 124) hG dX6_readText_17 (by decide) ?_
        refine pm_icmp_ne (tgt := 53) hG dX6_readText_19 rfl (fun c5 => ?_) (fun c5 => ?_)
        · replace hE := fx_f c5 hE
          exact hk7 _ _ hE
        · replace hE := fx_t c5 hE
          refine pm_aloadn hG dX6_readText_22 rfl ?_
          refine pm_dup hG dX6_readText_23 rfl ?_
          refine pm_getf hG dX6_readText_24 (flX6_26 _ rfl) rfl rfl ?_
          refine pm_iconst (v := 1) hG dX6_readText_27 (by decide) ?_
          refine pm_iadd hG dX6_readText_28 ?_
          refine pm_putf hG dX6_readText_29 (fwX6_26 _ rfl) rfl rfl rfl ?_
          refine ci_105 ?_
          refine fx_letc hE (fun S6 hE => ?_)
          refine pm_aloadn hG dX6_readText_32 rfl ?_
          refine pm_iloadn hG dX6_readText_33 rfl ?_
          obtain ⟨r8, h7, hE⟩ := fb_some hE
          refine pm_callV (As := [.int 4]) (rest := []) hG hR dX6_readText_34 (lkX6_44 _ rfl) okV_X6_readConjunction rfl rfl (c_X6_readConjunction_k4 (d := 12) (by decide) h7) rfl rfl hdd (Nat.le_refl _) (Nat.le_refl _) (by decide) (fx_kv ?_)
          refine pm_aloadn hG dX6_readText_37 rfl ?_
          refine pm_getf hG dX6_readText_38 (flX6_20 _ rfl) rfl rfl ?_
          refine pm_bipush (v := (-2)) hG dX6_readText_41 (by decide) ?_
          obtain ⟨r10, h9, hE⟩ := fb_some hE
          refine pm_callV (As := [.int (-2)]) (rest := []) hG hR dX6_readText_43 (lkX6_50 _ rfl) okV_X9_append rfl rfl (tappend_28 (d := 12) (by decide) h9) rfl rfl hdd (Nat.le_refl _) (Nat.le_refl _) (by decide) (fx_ki ?_)
          refine pm_pop hG dX6_readText_46 rfl ?_
          refine pm_iincX (v := x3_2 + 1) (loc' := [some (.ref (B + 27)), some (.int 4), some (.int (x3_2 + 1))]) hG dX6_readText_47 rfl (by rfl) (by decide) (pm_c1b rfl) rfl ?_
          refine pm_goto (tgt := 7) hG dX6_readText_50 rfl ?_
          exact ih7 _ _ hE
  refine loop7 _ (fun S11 x11_2 hE => ?_) _ _ _ hE
  exact pm_vret hG hF dX6_readText_53 rfl (Nat.le_refl _) (Nat.le_refl _) (fx_rvc hE)

set_option maxRecDepth 100000 in
set_option maxHeartbeats 4000000 in
theorem c_X6_readPart_k3 {d : Nat} {B cnt : Nat} {kp : Value} {ρ : pm_S} {S : FS} {R : Int32 × FS} (hdd : 14 ≤ d) (hE : f_X6_readPart_k3 S = some R) : pm_met mX6_readPart d 0 0 B [.ref (B + 27), .int 3] cnt (cst B kp S ρ) (pm_Qv (fun σ' cnt' => σ' = (cst B kp R.2 ρ) ∧ cnt' = cnt)) := by
  refine pm_enter 2 (by decide) (Nat.le_of_ble_eq_true rfl) rfl (fun G hG hR hF => ?_)
  unfold f_X6_readPart_k3 at hE
  refine pm_aloadn hG dX6_readPart_0 rfl ?_
  refine pm_callV (As := []) (rest := []) hG hR dX6_readPart_1 (lkX6_47 _ rfl) okV_X6_next rfl rfl (c_X6_next (d := 13) (by decide) rfl) rfl rfl hdd (Nat.le_refl _) (Nat.le_refl _) (by decide) (fx_ki ?_)
  refine fx_letv hE (fun x1 hE => ?_)
  refine pm_istoreXn (loc' := [some (.ref (B + 27)), some (.int 3), some (.int x1), none]) hG dX6_readPart_4 (by decide) (pm_c1b rfl) rfl ?_
  refine pm_iloadn hG dX6_readPart_5 rfl ?_
  refine pm_if_ge (tgt := 13) hG dX6_readPart_6 rfl (fun c2 => ?_) (fun c2 => ?_)
  · replace c2 := Int32.not_lt.mpr c2
    replace hE := fx_f c2 hE
    refine pm_ldcN hG rfl dX6_readPart_13 (fun q3 z3 hN3 => ?_)
    refine pm_iloadn hG dX6_readPart_15 rfl ?_
    refine pm_i2cE hG dX6_readPart_16 rfl ?_
    obtain ⟨x5, h4, hE⟩ := fb_some hE
    refine pm_callVN (As := [.int ((x1.toUInt32 % 65536).toInt32)]) (rest := []) hN3 hG hR dX6_readPart_17 (lpX6_65 _ rfl) okV_J0_indexOf_0f7a4 rfl (fj_iof (d := 13) (by decide) h4) rfl rfl hdd (Nat.le_refl _) (Nat.le_refl _) (by first | decide | exact Nat.le_of_ble_eq_true rfl) (fx_ki ?_)
    refine pm_istoreXn (loc' := [some (.ref (B + 27)), some (.int 3), some (.int x1), some (.int x5)]) hG dX6_readPart_20 (by decide) (pm_c1b rfl) rfl ?_
    refine pm_iloadn hG dX6_readPart_21 rfl ?_
    refine pm_callS (As := [.int x1]) (rest := []) hG hR dX6_readPart_22 (lkX6_70 _ rfl) okS_X6_isDigit (c_X6_isDigit (d := 13) (by decide) rfl) rfl rfl hdd (Nat.le_refl _) (Nat.le_refl _) (by decide) (fx_ki ?_)
    refine pm_if_eq (tgt := 35) hG dX6_readPart_25 rfl (fun c6 => ?_) (fun c6 => ?_)
    · replace hE := fx_t c6 hE
      refine pm_iloadn hG dX6_readPart_35 rfl ?_
      refine pm_if_lt (tgt := 64) hG dX6_readPart_36 rfl (fun c7 => ?_) (fun c7 => ?_)
      · replace hE := fx_t c7 hE
        refine pm_iloadn hG dX6_readPart_64 rfl ?_
        refine pm_bipush (v := 33) hG dX6_readPart_65 (by decide) ?_
        refine pm_icmp_ne (tgt := 104) hG dX6_readPart_67 rfl (fun c8 => ?_) (fun c8 => ?_)
        · replace hE := fx_f c8 hE
          refine pm_iloadn hG dX6_readPart_104 rfl ?_
          refine pm_bipush (v := 40) hG dX6_readPart_105 (by decide) ?_
          refine pm_icmp_ne (tgt := 139) hG dX6_readPart_107 rfl (fun c9 => ?_) (fun c9 => ?_)
          · replace hE := fx_f c9 hE
            refine pm_aloadn hG dX6_readPart_139 rfl ?_
            obtain ⟨r11, h10, hE⟩ := fb_some hE
            refine pm_callV (As := []) (rest := []) hG hR dX6_readPart_140 (lkX6_41 _ rfl) okV_X6_fail rfl rfl (c_X6_fail (d := 13) (by decide) h10) rfl rfl hdd (Nat.le_refl _) (Nat.le_refl _) (by decide) (fx_kv ?_)
            exact pm_vret hG hF dX6_readPart_143 rfl (Nat.le_refl _) (Nat.le_refl _) (fx_rvc hE)
          · replace hE := fx_t c9 hE
            refine pm_iloadn hG dX6_readPart_110 rfl ?_
            refine pm_iconst (v := 5) hG dX6_readPart_111 (by decide) ?_
            refine pm_icmp_ge (tgt := 139) hG dX6_readPart_112 rfl (fun q => absurd q (by decide)) (fun _ => ?_)
            refine pm_aloadn hG dX6_readPart_115 rfl ?_
            refine pm_dup hG dX6_readPart_116 rfl ?_
            refine pm_getf hG dX6_readPart_117 (flX6_26 _ rfl) rfl rfl ?_
            refine pm_iconst (v := 1) hG dX6_readPart_120 (by decide) ?_
            refine pm_iadd hG dX6_readPart_121 ?_
            refine pm_putf hG dX6_readPart_122 (fwX6_26 _ rfl) rfl rfl rfl ?_
            refine ci_105 ?_
            refine fx_letc hE (fun S12 hE => ?_)
            refine pm_aloadn hG dX6_readPart_125 rfl ?_
            refine pm_iloadn hG dX6_readPart_126 rfl ?_
            refine pm_iconst (v := 1) hG dX6_readPart_127 (by decide) ?_
            refine pm_iadd hG dX6_readPart_128 ?_
            refine pm_top (v := 4) (by decide) ?_
            obtain ⟨r14, h13, hE⟩ := fb_some hE
            refine pm_callV (As := [.int 4]) (rest := []) hG hR dX6_readPart_129 (lkX6_33 _ rfl) okV_X6_readText rfl rfl (c_X6_readText_k4 (d := 13) (by decide) h13) rfl rfl hdd (Nat.le_refl _) (Nat.le_refl _) (by decide) (fx_kv ?_)
            refine pm_aloadn hG dX6_readPart_132 rfl ?_
            obtain ⟨r16, h15, hE⟩ := fb_some hE
            refine pm_callV (As := []) (rest := []) hG hR dX6_readPart_133 (lkX6_77 _ rfl) okV_X6_readClosing rfl rfl (c_X6_readClosing (d := 13) (by decide) h15) rfl rfl hdd (Nat.le_refl _) (Nat.le_refl _) (by decide) (fx_kv ?_)
            refine pm_goto (tgt := 143) hG dX6_readPart_136 rfl ?_
            exact pm_vret hG hF dX6_readPart_143 rfl (Nat.le_refl _) (Nat.le_refl _) (fx_rvc hE)
        · replace hE := fx_t c8 hE
          refine pm_iloadn hG dX6_readPart_70 rfl ?_
          refine pm_iconst (v := 5) hG dX6_readPart_71 (by decide) ?_
          refine pm_icmp_ge (tgt := 104) hG dX6_readPart_72 rfl (fun q => absurd q (by decide)) (fun _ => ?_)
          refine pm_aloadn hG dX6_readPart_75 rfl ?_
          refine pm_dup hG dX6_readPart_76 rfl ?_
          refine pm_getf hG dX6_readPart_77 (flX6_26 _ rfl) rfl rfl ?_
          refine pm_iconst (v := 1) hG dX6_readPart_80 (by decide) ?_
          refine pm_iadd hG dX6_readPart_81 ?_
          refine pm_putf hG dX6_readPart_82 (fwX6_26 _ rfl) rfl rfl rfl ?_
          refine ci_105 ?_
          refine fx_letc hE (fun S17 hE => ?_)
          refine pm_aloadn hG dX6_readPart_85 rfl ?_
          refine pm_iloadn hG dX6_readPart_86 rfl ?_
          refine pm_iconst (v := 1) hG dX6_readPart_87 (by decide) ?_
          refine pm_iadd hG dX6_readPart_88 ?_
          refine pm_top (v := 4) (by decide) ?_
          obtain ⟨r19, h18, hE⟩ := fb_some hE
          refine pm_callV (As := [.int 4]) (rest := []) hG hR dX6_readPart_89 (lkX6_60 _ rfl) okV_X6_readPart rfl rfl (c_X6_readPart_k4 (d := 13) (by decide) h18) rfl rfl hdd (Nat.le_refl _) (Nat.le_refl _) (by decide) (fx_kv ?_)
          refine pm_aloadn hG dX6_readPart_92 rfl ?_
          refine pm_getf hG dX6_readPart_93 (flX6_20 _ rfl) rfl rfl ?_
          refine pm_iconst (v := (-1)) hG dX6_readPart_96 (by decide) ?_
          obtain ⟨r21, h20, hE⟩ := fb_some hE
          refine pm_callV (As := [.int (-1)]) (rest := []) hG hR dX6_readPart_97 (lkX6_50 _ rfl) okV_X9_append rfl rfl (tappend_28 (d := 13) (by decide) h20) rfl rfl hdd (Nat.le_refl _) (Nat.le_refl _) (by decide) (fx_ki ?_)
          refine pm_pop hG dX6_readPart_100 rfl ?_
          refine pm_goto (tgt := 143) hG dX6_readPart_101 rfl ?_
          exact pm_vret hG hF dX6_readPart_143 rfl (Nat.le_refl _) (Nat.le_refl _) (fx_rvc hE)
      · replace hE := fx_f c7 hE
        refine pm_aloadn hG dX6_readPart_39 rfl ?_
        refine pm_dup hG dX6_readPart_40 rfl ?_
        refine pm_getf hG dX6_readPart_41 (flX6_26 _ rfl) rfl rfl ?_
        refine pm_iconst (v := 1) hG dX6_readPart_44 (by decide) ?_
        refine pm_iadd hG dX6_readPart_45 ?_
        refine pm_putf hG dX6_readPart_46 (fwX6_26 _ rfl) rfl rfl rfl ?_
        refine ci_105 ?_
        refine fx_letc hE (fun S22 hE => ?_)
        refine pm_aloadn hG dX6_readPart_49 rfl ?_
        refine pm_getf hG dX6_readPart_50 (flX6_20 _ rfl) rfl rfl ?_
        refine pm_bipush (v := (-20)) hG dX6_readPart_53 (by decide) ?_
        refine pm_iloadn hG dX6_readPart_55 rfl ?_
        refine pm_isub hG dX6_readPart_56 ?_
        obtain ⟨r24, h23, hE⟩ := fb_some hE
        refine pm_callV (As := [.int ((-20) - x5)]) (rest := []) hG hR dX6_readPart_57 (lkX6_50 _ rfl) okV_X9_append rfl rfl (tappend_28 (d := 13) (by decide) h23) rfl rfl hdd (Nat.le_refl _) (Nat.le_refl _) (by decide) (fx_ki ?_)
        refine pm_pop hG dX6_readPart_60 rfl ?_
        refine pm_goto (tgt := 143) hG dX6_readPart_61 rfl ?_
        exact pm_vret hG hF dX6_readPart_143 rfl (Nat.le_refl _) (Nat.le_refl _) (fx_rvc hE)
    · replace hE := fx_f c6 hE
      refine pm_aloadn hG dX6_readPart_28 rfl ?_
      obtain ⟨r26, h25, hE⟩ := fb_some hE
      refine pm_callV (As := []) (rest := []) hG hR dX6_readPart_29 (lkX6_74 _ rfl) okV_X6_readNumber rfl rfl (c_X6_readNumber (d := 13) (by decide) h25) rfl rfl hdd (Nat.le_refl _) (Nat.le_refl _) (by decide) (fx_kv ?_)
      refine pm_goto (tgt := 143) hG dX6_readPart_32 rfl ?_
      exact pm_vret hG hF dX6_readPart_143 rfl (Nat.le_refl _) (Nat.le_refl _) (fx_rvc hE)
  · replace c2 := Int32.not_le.mp c2
    replace hE := fx_t c2 hE
    refine pm_iconst (v := (-1)) hG dX6_readPart_9 (by decide) ?_
    refine pm_goto (tgt := 20) hG dX6_readPart_10 rfl ?_
    refine pm_istoreXn (loc' := [some (.ref (B + 27)), some (.int 3), some (.int x1), some (.int (-1))]) hG dX6_readPart_20 (by decide) (pm_c1b rfl) rfl ?_
    refine pm_iloadn hG dX6_readPart_21 rfl ?_
    refine pm_callS (As := [.int x1]) (rest := []) hG hR dX6_readPart_22 (lkX6_70 _ rfl) okS_X6_isDigit (c_X6_isDigit (d := 13) (by decide) rfl) rfl rfl hdd (Nat.le_refl _) (Nat.le_refl _) (by decide) (fx_ki ?_)
    refine pm_if_eq (tgt := 35) hG dX6_readPart_25 rfl (fun c27 => ?_) (fun c27 => ?_)
    · replace hE := fx_t c27 hE
      refine pm_iloadn hG dX6_readPart_35 rfl ?_
      refine pm_if_lt (tgt := 64) hG dX6_readPart_36 rfl (fun _ => ?_) (fun q => absurd q (by decide))
      refine pm_iloadn hG dX6_readPart_64 rfl ?_
      refine pm_bipush (v := 33) hG dX6_readPart_65 (by decide) ?_
      refine pm_icmp_ne (tgt := 104) hG dX6_readPart_67 rfl (fun c28 => ?_) (fun c28 => ?_)
      · replace hE := fx_f c28 hE
        refine pm_iloadn hG dX6_readPart_104 rfl ?_
        refine pm_bipush (v := 40) hG dX6_readPart_105 (by decide) ?_
        refine pm_icmp_ne (tgt := 139) hG dX6_readPart_107 rfl (fun c29 => ?_) (fun c29 => ?_)
        · replace hE := fx_f c29 hE
          refine pm_aloadn hG dX6_readPart_139 rfl ?_
          obtain ⟨r31, h30, hE⟩ := fb_some hE
          refine pm_callV (As := []) (rest := []) hG hR dX6_readPart_140 (lkX6_41 _ rfl) okV_X6_fail rfl rfl (c_X6_fail (d := 13) (by decide) h30) rfl rfl hdd (Nat.le_refl _) (Nat.le_refl _) (by decide) (fx_kv ?_)
          exact pm_vret hG hF dX6_readPart_143 rfl (Nat.le_refl _) (Nat.le_refl _) (fx_rvc hE)
        · replace hE := fx_t c29 hE
          refine pm_iloadn hG dX6_readPart_110 rfl ?_
          refine pm_iconst (v := 5) hG dX6_readPart_111 (by decide) ?_
          refine pm_icmp_ge (tgt := 139) hG dX6_readPart_112 rfl (fun q => absurd q (by decide)) (fun _ => ?_)
          refine pm_aloadn hG dX6_readPart_115 rfl ?_
          refine pm_dup hG dX6_readPart_116 rfl ?_
          refine pm_getf hG dX6_readPart_117 (flX6_26 _ rfl) rfl rfl ?_
          refine pm_iconst (v := 1) hG dX6_readPart_120 (by decide) ?_
          refine pm_iadd hG dX6_readPart_121 ?_
          refine pm_putf hG dX6_readPart_122 (fwX6_26 _ rfl) rfl rfl rfl ?_
          refine ci_105 ?_
          refine fx_letc hE (fun S32 hE => ?_)
          refine pm_aloadn hG dX6_readPart_125 rfl ?_
          refine pm_iloadn hG dX6_readPart_126 rfl ?_
          refine pm_iconst (v := 1) hG dX6_readPart_127 (by decide) ?_
          refine pm_iadd hG dX6_readPart_128 ?_
          refine pm_top (v := 4) (by decide) ?_
          obtain ⟨r34, h33, hE⟩ := fb_some hE
          refine pm_callV (As := [.int 4]) (rest := []) hG hR dX6_readPart_129 (lkX6_33 _ rfl) okV_X6_readText rfl rfl (c_X6_readText_k4 (d := 13) (by decide) h33) rfl rfl hdd (Nat.le_refl _) (Nat.le_refl _) (by decide) (fx_kv ?_)
          refine pm_aloadn hG dX6_readPart_132 rfl ?_
          obtain ⟨r36, h35, hE⟩ := fb_some hE
          refine pm_callV (As := []) (rest := []) hG hR dX6_readPart_133 (lkX6_77 _ rfl) okV_X6_readClosing rfl rfl (c_X6_readClosing (d := 13) (by decide) h35) rfl rfl hdd (Nat.le_refl _) (Nat.le_refl _) (by decide) (fx_kv ?_)
          refine pm_goto (tgt := 143) hG dX6_readPart_136 rfl ?_
          exact pm_vret hG hF dX6_readPart_143 rfl (Nat.le_refl _) (Nat.le_refl _) (fx_rvc hE)
      · replace hE := fx_t c28 hE
        refine pm_iloadn hG dX6_readPart_70 rfl ?_
        refine pm_iconst (v := 5) hG dX6_readPart_71 (by decide) ?_
        refine pm_icmp_ge (tgt := 104) hG dX6_readPart_72 rfl (fun q => absurd q (by decide)) (fun _ => ?_)
        refine pm_aloadn hG dX6_readPart_75 rfl ?_
        refine pm_dup hG dX6_readPart_76 rfl ?_
        refine pm_getf hG dX6_readPart_77 (flX6_26 _ rfl) rfl rfl ?_
        refine pm_iconst (v := 1) hG dX6_readPart_80 (by decide) ?_
        refine pm_iadd hG dX6_readPart_81 ?_
        refine pm_putf hG dX6_readPart_82 (fwX6_26 _ rfl) rfl rfl rfl ?_
        refine ci_105 ?_
        refine fx_letc hE (fun S37 hE => ?_)
        refine pm_aloadn hG dX6_readPart_85 rfl ?_
        refine pm_iloadn hG dX6_readPart_86 rfl ?_
        refine pm_iconst (v := 1) hG dX6_readPart_87 (by decide) ?_
        refine pm_iadd hG dX6_readPart_88 ?_
        refine pm_top (v := 4) (by decide) ?_
        obtain ⟨r39, h38, hE⟩ := fb_some hE
        refine pm_callV (As := [.int 4]) (rest := []) hG hR dX6_readPart_89 (lkX6_60 _ rfl) okV_X6_readPart rfl rfl (c_X6_readPart_k4 (d := 13) (by decide) h38) rfl rfl hdd (Nat.le_refl _) (Nat.le_refl _) (by decide) (fx_kv ?_)
        refine pm_aloadn hG dX6_readPart_92 rfl ?_
        refine pm_getf hG dX6_readPart_93 (flX6_20 _ rfl) rfl rfl ?_
        refine pm_iconst (v := (-1)) hG dX6_readPart_96 (by decide) ?_
        obtain ⟨r41, h40, hE⟩ := fb_some hE
        refine pm_callV (As := [.int (-1)]) (rest := []) hG hR dX6_readPart_97 (lkX6_50 _ rfl) okV_X9_append rfl rfl (tappend_28 (d := 13) (by decide) h40) rfl rfl hdd (Nat.le_refl _) (Nat.le_refl _) (by decide) (fx_ki ?_)
        refine pm_pop hG dX6_readPart_100 rfl ?_
        refine pm_goto (tgt := 143) hG dX6_readPart_101 rfl ?_
        exact pm_vret hG hF dX6_readPart_143 rfl (Nat.le_refl _) (Nat.le_refl _) (fx_rvc hE)
    · replace hE := fx_f c27 hE
      refine pm_aloadn hG dX6_readPart_28 rfl ?_
      obtain ⟨r43, h42, hE⟩ := fb_some hE
      refine pm_callV (As := []) (rest := []) hG hR dX6_readPart_29 (lkX6_74 _ rfl) okV_X6_readNumber rfl rfl (c_X6_readNumber (d := 13) (by decide) h42) rfl rfl hdd (Nat.le_refl _) (Nat.le_refl _) (by decide) (fx_kv ?_)
      refine pm_goto (tgt := 143) hG dX6_readPart_32 rfl ?_
      exact pm_vret hG hF dX6_readPart_143 rfl (Nat.le_refl _) (Nat.le_refl _) (fx_rvc hE)

set_option maxRecDepth 100000 in
set_option maxHeartbeats 4000000 in
theorem c_X6_readSum_k3 {d : Nat} {B cnt : Nat} {kp : Value} {ρ : pm_S} {S : FS} {R : Int32 × FS} (hdd : 15 ≤ d) (hE : f_X6_readSum_k3 S = some R) : pm_met mX6_readSum d 0 0 B [.ref (B + 27), .int 3] cnt (cst B kp S ρ) (pm_Qv (fun σ' cnt' => σ' = (cst B kp R.2 ρ) ∧ cnt' = cnt)) := by
  refine pm_enter 2 (by decide) (Nat.le_of_ble_eq_true rfl) rfl (fun G hG hR hF => ?_)
  unfold f_X6_readSum_k3 at hE
  refine pm_aloadn hG dX6_readSum_0 rfl ?_
  refine pm_iloadn hG dX6_readSum_1 rfl ?_
  obtain ⟨r2, h1, hE⟩ := fb_some hE
  refine pm_callV (As := [.int 3]) (rest := []) hG hR dX6_readSum_2 (lkX6_60 _ rfl) okV_X6_readPart rfl rfl (c_X6_readPart_k3 (d := 14) (by decide) h1) rfl rfl hdd (Nat.le_refl _) (Nat.le_refl _) (by decide) (fx_kv ?_)
  refine pm_iconst (v := 0) hG dX6_readSum_5 (by decide) ?_
  refine pm_istoreXn (loc' := [some (.ref (B + 27)), some (.int 3), some (.int 0), none]) hG dX6_readSum_6 (by decide) (pm_c1b rfl) rfl ?_
  have loop7 : ∀ (k7 : FS → Int32 → Option (Int32 × FS)), (∀ (S3 : FS) (x3_2 : Int32), k7 S3  x3_2 = some R → pm_wp mX6_readSum G B 78 [some (.ref (B + 27)), some (.int 3), some (.int x3_2), none] [] 0 0 cnt (cst B kp S3 ρ)) → ∀ (m7 : Nat) (S3 : FS) (x3_2 : Int32), l_X6_readSum_k3_7 k7 m7 S3  x3_2 = some R → pm_wp mX6_readSum G B 7 [some (.ref (B + 27)), some (.int 3), some (.int x3_2), none] [] 0 0 cnt (cst B kp S3 ρ) := by
    intro k7 hk7 m7
    induction m7 with
    | zero => intro S3  x3_2 hE; exact fx_no hE
    | succ m7 ih7 =>
      intro S3  x3_2 hE
      rw [l_X6_readSum_k3_7] at hE
      refine pm_iloadn hG dX6_readSum_7 rfl ?_
      refine pm_bipush (v := 60) hG dX6_readSum_8 (by decide) ?_
      refine pm_icmp_ge (tgt := 78) hG dX6_readSum_10 rfl (fun c4 => ?_) (fun c4 => ?_)
      · replace c4 := Int32.not_lt.mpr c4
        replace hE := fx_f c4 hE
        exact hk7 _ _ hE
      · replace c4 := Int32.not_le.mp c4
        replace hE := fx_t c4 hE
        refine pm_aloadn hG dX6_readSum_13 rfl ?_
        refine pm_callV (As := []) (rest := []) hG hR dX6_readSum_14 (lkX6_47 _ rfl) okV_X6_next rfl rfl (c_X6_next (d := 14) (by decide) rfl) rfl rfl hdd (Nat.le_refl _) (Nat.le_refl _) (by decide) (fx_ki ?_)
        refine pm_bipush (v := 43) hG dX6_readSum_17 (by decide) ?_
        refine pm_icmp_eq (tgt := 31) hG dX6_readSum_19 rfl (fun c5 => ?_) (fun c5 => ?_)
        · replace hE := fx_t c5 hE
          refine pm_aloadn hG dX6_readSum_31 rfl ?_
          refine pm_callV (As := []) (rest := []) hG hR dX6_readSum_32 (lkX6_47 _ rfl) okV_X6_next rfl rfl (c_X6_next (d := 14) (by decide) rfl) rfl rfl hdd (Nat.le_refl _) (Nat.le_refl _) (by decide) (fx_ki ?_)
          refine pm_bipush (v := 43) hG dX6_readSum_35 (by decide) ?_
          refine pm_icmp_ne (tgt := 45) hG dX6_readSum_37 rfl (fun q => absurd c5 q) (fun _ => ?_)
          refine pm_bipush (v := (-7)) hG dX6_readSum_40 (by decide) ?_
          refine pm_goto (tgt := 47) hG dX6_readSum_42 rfl ?_
          refine pm_istoreXn (loc' := [some (.ref (B + 27)), some (.int 3), some (.int x3_2), some (.int (-7))]) hG dX6_readSum_47 (by decide) (pm_c1b rfl) rfl ?_
          refine pm_aloadn hG dX6_readSum_48 rfl ?_
          refine pm_dup hG dX6_readSum_49 rfl ?_
          refine pm_getf hG dX6_readSum_50 (flX6_26 _ rfl) rfl rfl ?_
          refine pm_iconst (v := 1) hG dX6_readSum_53 (by decide) ?_
          refine pm_iadd hG dX6_readSum_54 ?_
          refine pm_putf hG dX6_readSum_55 (fwX6_26 _ rfl) rfl rfl rfl ?_
          refine ci_105 ?_
          refine fx_letc hE (fun S6 hE => ?_)
          refine pm_aloadn hG dX6_readSum_58 rfl ?_
          refine pm_iloadn hG dX6_readSum_59 rfl ?_
          obtain ⟨r8, h7, hE⟩ := fb_some hE
          refine pm_callV (As := [.int 3]) (rest := []) hG hR dX6_readSum_60 (lkX6_60 _ rfl) okV_X6_readPart rfl rfl (c_X6_readPart_k3 (d := 14) (by decide) h7) rfl rfl hdd (Nat.le_refl _) (Nat.le_refl _) (by decide) (fx_kv ?_)
          refine pm_aloadn hG dX6_readSum_63 rfl ?_
          refine pm_getf hG dX6_readSum_64 (flX6_20 _ rfl) rfl rfl ?_
          refine pm_iloadn hG dX6_readSum_67 rfl ?_
          obtain ⟨r10, h9, hE⟩ := fb_some hE
          refine pm_callV (As := [.int (-7)]) (rest := []) hG hR dX6_readSum_68 (lkX6_50 _ rfl) okV_X9_append rfl rfl (tappend_28 (d := 14) (by decide) h9) rfl rfl hdd (Nat.le_refl _) (Nat.le_refl _) (by decide) (fx_ki ?_)
          refine pm_pop hG dX6_readSum_71 rfl ?_
          refine pm_iincX (v := x3_2 + 1) (loc' := [some (.ref (B + 27)), some (.int 3), some (.int (x3_2 + 1)), some (.int (-7))]) hG dX6_readSum_72 rfl (by rfl) (by decide) (pm_c1b rfl) rfl ?_
          refine pm_goto (tgt := 7) hG dX6_readSum_75 rfl ?_
          refine pm_fg 3 (loc' := [some (.ref (B + 27)), some (.int 3), some (.int (x3_2 + 1)), none]) rfl ?_
          exact ih7 _ _ hE
        · replace hE := fx_f c5 hE
          refine pm_aloadn hG dX6_readSum_22 rfl ?_
          refine pm_callV (As := []) (rest := []) hG hR dX6_readSum_23 (lkX6_47 _ rfl) okV_X6_next rfl rfl (c_X6_next (d := 14) (by decide) rfl) rfl rfl hdd (Nat.le_refl _) (Nat.le_refl _) (by decide) (fx_ki ?_)
          refine pm_bipush (v := 45) hG dX6_readSum_26 (by decide) ?_
          refine pm_icmp_ne (tgt := 78) hG dX6_readSum_28 rfl (fun c11 => ?_) (fun c11 => ?_)
          · replace hE := fx_f c11 hE
            exact hk7 _ _ hE
          · replace hE := fx_t c11 hE
            refine pm_aloadn hG dX6_readSum_31 rfl ?_
            refine pm_callV (As := []) (rest := []) hG hR dX6_readSum_32 (lkX6_47 _ rfl) okV_X6_next rfl rfl (c_X6_next (d := 14) (by decide) rfl) rfl rfl hdd (Nat.le_refl _) (Nat.le_refl _) (by decide) (fx_ki ?_)
            refine pm_bipush (v := 43) hG dX6_readSum_35 (by decide) ?_
            refine pm_icmp_ne (tgt := 45) hG dX6_readSum_37 rfl (fun _ => ?_) (fun q => absurd q c5)
            refine pm_bipush (v := (-8)) hG dX6_readSum_45 (by decide) ?_
            refine pm_istoreXn (loc' := [some (.ref (B + 27)), some (.int 3), some (.int x3_2), some (.int (-8))]) hG dX6_readSum_47 (by decide) (pm_c1b rfl) rfl ?_
            refine pm_aloadn hG dX6_readSum_48 rfl ?_
            refine pm_dup hG dX6_readSum_49 rfl ?_
            refine pm_getf hG dX6_readSum_50 (flX6_26 _ rfl) rfl rfl ?_
            refine pm_iconst (v := 1) hG dX6_readSum_53 (by decide) ?_
            refine pm_iadd hG dX6_readSum_54 ?_
            refine pm_putf hG dX6_readSum_55 (fwX6_26 _ rfl) rfl rfl rfl ?_
            refine ci_105 ?_
            refine fx_letc hE (fun S12 hE => ?_)
            refine pm_aloadn hG dX6_readSum_58 rfl ?_
            refine pm_iloadn hG dX6_readSum_59 rfl ?_
            obtain ⟨r14, h13, hE⟩ := fb_some hE
            refine pm_callV (As := [.int 3]) (rest := []) hG hR dX6_readSum_60 (lkX6_60 _ rfl) okV_X6_readPart rfl rfl (c_X6_readPart_k3 (d := 14) (by decide) h13) rfl rfl hdd (Nat.le_refl _) (Nat.le_refl _) (by decide) (fx_kv ?_)
            refine pm_aloadn hG dX6_readSum_63 rfl ?_
            refine pm_getf hG dX6_readSum_64 (flX6_20 _ rfl) rfl rfl ?_
            refine pm_iloadn hG dX6_readSum_67 rfl ?_
            obtain ⟨r16, h15, hE⟩ := fb_some hE
            refine pm_callV (As := [.int (-8)]) (rest := []) hG hR dX6_readSum_68 (lkX6_50 _ rfl) okV_X9_append rfl rfl (tappend_28 (d := 14) (by decide) h15) rfl rfl hdd (Nat.le_refl _) (Nat.le_refl _) (by decide) (fx_ki ?_)
            refine pm_pop hG dX6_readSum_71 rfl ?_
            refine pm_iincX (v := x3_2 + 1) (loc' := [some (.ref (B + 27)), some (.int 3), some (.int (x3_2 + 1)), some (.int (-8))]) hG dX6_readSum_72 rfl (by rfl) (by decide) (pm_c1b rfl) rfl ?_
            refine pm_goto (tgt := 7) hG dX6_readSum_75 rfl ?_
            refine pm_fg 3 (loc' := [some (.ref (B + 27)), some (.int 3), some (.int (x3_2 + 1)), none]) rfl ?_
            exact ih7 _ _ hE
  refine loop7 _ (fun S17 x17_2 hE => ?_) _ _ _ hE
  exact pm_vret hG hF dX6_readSum_78 rfl (Nat.le_refl _) (Nat.le_refl _) (fx_rvc hE)

set_option maxRecDepth 100000 in
set_option maxHeartbeats 4000000 in
theorem c_X6_readComparison_k3 {d : Nat} {B cnt : Nat} {kp : Value} {ρ : pm_S} {S : FS} {R : Int32 × FS} (hdd : 16 ≤ d) (hE : f_X6_readComparison_k3 S = some R) : pm_met mX6_readComparison d 0 0 B [.ref (B + 27), .int 3] cnt (cst B kp S ρ) (pm_Qv (fun σ' cnt' => σ' = (cst B kp R.2 ρ) ∧ cnt' = cnt)) := by
  refine pm_enter 1 (by decide) (Nat.le_of_ble_eq_true rfl) rfl (fun G hG hR hF => ?_)
  unfold f_X6_readComparison_k3 at hE
  refine pm_aloadn hG dX6_readComparison_0 rfl ?_
  refine pm_iloadn hG dX6_readComparison_1 rfl ?_
  obtain ⟨r2, h1, hE⟩ := fb_some hE
  refine pm_callV (As := [.int 3]) (rest := []) hG hR dX6_readComparison_2 (lkX6_57 _ rfl) okV_X6_readSum rfl rfl (c_X6_readSum_k3 (d := 15) (by decide) h1) rfl rfl hdd (Nat.le_refl _) (Nat.le_refl _) (by decide) (fx_kv ?_)
  refine pm_aloadn hG dX6_readComparison_5 rfl ?_
  refine pm_callV (As := []) (rest := []) hG hR dX6_readComparison_6 (lkX6_47 _ rfl) okV_X6_next rfl rfl (c_X6_next (d := 15) (by decide) rfl) rfl rfl hdd (Nat.le_refl _) (Nat.le_refl _) (by decide) (fx_ki ?_)
  refine fx_letv hE (fun x3 hE => ?_)
  refine pm_istoreXn (loc' := [some (.ref (B + 27)), some (.int 3), some (.int x3)]) hG dX6_readComparison_9 (by decide) (pm_c1b rfl) rfl ?_
  refine pm_iloadn hG dX6_readComparison_10 rfl ?_
  refine pm_bipush (v := 60) hG dX6_readComparison_11 (by decide) ?_
  refine pm_icmp_eq (tgt := 28) hG dX6_readComparison_13 rfl (fun c4 => ?_) (fun c4 => ?_)
  · replace hE := fx_t c4 hE
    refine pm_aloadn hG dX6_readComparison_28 rfl ?_
    refine pm_dup hG dX6_readComparison_29 rfl ?_
    refine pm_getf hG dX6_readComparison_30 (flX6_26 _ rfl) rfl rfl ?_
    refine pm_iconst (v := 1) hG dX6_readComparison_33 (by decide) ?_
    refine pm_iadd hG dX6_readComparison_34 ?_
    refine pm_putf hG dX6_readComparison_35 (fwX6_26 _ rfl) rfl rfl rfl ?_
    refine ci_105 ?_
    refine fx_letc hE (fun S5 hE => ?_)
    refine pm_aloadn hG dX6_readComparison_38 rfl ?_
    refine pm_iloadn hG dX6_readComparison_39 rfl ?_
    obtain ⟨r7, h6, hE⟩ := fb_some hE
    refine pm_callV (As := [.int 3]) (rest := []) hG hR dX6_readComparison_40 (lkX6_57 _ rfl) okV_X6_readSum rfl rfl (c_X6_readSum_k3 (d := 15) (by decide) h6) rfl rfl hdd (Nat.le_refl _) (Nat.le_refl _) (by decide) (fx_kv ?_)
    refine pm_aloadn hG dX6_readComparison_43 rfl ?_
    refine pm_getf hG dX6_readComparison_44 (flX6_20 _ rfl) rfl rfl ?_
    refine pm_iloadn hG dX6_readComparison_47 rfl ?_
    refine pm_bipush (v := 60) hG dX6_readComparison_48 (by decide) ?_
    refine pm_icmp_ne (tgt := 58) hG dX6_readComparison_50 rfl (fun q => absurd c4 q) (fun _ => ?_)
    refine pm_bipush (v := (-4)) hG dX6_readComparison_53 (by decide) ?_
    refine pm_goto (tgt := 71) hG dX6_readComparison_55 rfl ?_
    obtain ⟨r9, h8, hE⟩ := fb_some hE
    refine pm_callV (As := [.int (-4)]) (rest := []) hG hR dX6_readComparison_71 (lkX6_50 _ rfl) okV_X9_append rfl rfl (tappend_28 (d := 15) (by decide) h8) rfl rfl hdd (Nat.le_refl _) (Nat.le_refl _) (by decide) (fx_ki ?_)
    refine pm_pop hG dX6_readComparison_74 rfl ?_
    exact pm_vret hG hF dX6_readComparison_75 rfl (Nat.le_refl _) (Nat.le_refl _) (fx_rvc hE)
  · replace hE := fx_f c4 hE
    refine pm_iloadn hG dX6_readComparison_16 rfl ?_
    refine pm_bipush (v := 61) hG dX6_readComparison_17 (by decide) ?_
    refine pm_icmp_eq (tgt := 28) hG dX6_readComparison_19 rfl (fun c10 => ?_) (fun c10 => ?_)
    · replace hE := fx_t c10 hE
      refine pm_aloadn hG dX6_readComparison_28 rfl ?_
      refine pm_dup hG dX6_readComparison_29 rfl ?_
      refine pm_getf hG dX6_readComparison_30 (flX6_26 _ rfl) rfl rfl ?_
      refine pm_iconst (v := 1) hG dX6_readComparison_33 (by decide) ?_
      refine pm_iadd hG dX6_readComparison_34 ?_
      refine pm_putf hG dX6_readComparison_35 (fwX6_26 _ rfl) rfl rfl rfl ?_
      refine ci_105 ?_
      refine fx_letc hE (fun S11 hE => ?_)
      refine pm_aloadn hG dX6_readComparison_38 rfl ?_
      refine pm_iloadn hG dX6_readComparison_39 rfl ?_
      obtain ⟨r13, h12, hE⟩ := fb_some hE
      refine pm_callV (As := [.int 3]) (rest := []) hG hR dX6_readComparison_40 (lkX6_57 _ rfl) okV_X6_readSum rfl rfl (c_X6_readSum_k3 (d := 15) (by decide) h12) rfl rfl hdd (Nat.le_refl _) (Nat.le_refl _) (by decide) (fx_kv ?_)
      refine pm_aloadn hG dX6_readComparison_43 rfl ?_
      refine pm_getf hG dX6_readComparison_44 (flX6_20 _ rfl) rfl rfl ?_
      refine pm_iloadn hG dX6_readComparison_47 rfl ?_
      refine pm_bipush (v := 60) hG dX6_readComparison_48 (by decide) ?_
      refine pm_icmp_ne (tgt := 58) hG dX6_readComparison_50 rfl (fun _ => ?_) (fun q => absurd q c4)
      refine pm_iloadn hG dX6_readComparison_58 rfl ?_
      refine pm_bipush (v := 61) hG dX6_readComparison_59 (by decide) ?_
      refine pm_icmp_ne (tgt := 69) hG dX6_readComparison_61 rfl (fun q => absurd c10 q) (fun _ => ?_)
      refine pm_bipush (v := (-5)) hG dX6_readComparison_64 (by decide) ?_
      refine pm_goto (tgt := 71) hG dX6_readComparison_66 rfl ?_
      obtain ⟨r15, h14, hE⟩ := fb_some hE
      refine pm_callV (As := [.int (-5)]) (rest := []) hG hR dX6_readComparison_71 (lkX6_50 _ rfl) okV_X9_append rfl rfl (tappend_28 (d := 15) (by decide) h14) rfl rfl hdd (Nat.le_refl _) (Nat.le_refl _) (by decide) (fx_ki ?_)
      refine pm_pop hG dX6_readComparison_74 rfl ?_
      exact pm_vret hG hF dX6_readComparison_75 rfl (Nat.le_refl _) (Nat.le_refl _) (fx_rvc hE)
    · replace hE := fx_f c10 hE
      refine pm_iloadn hG dX6_readComparison_22 rfl ?_
      refine pm_bipush (v := 62) hG dX6_readComparison_23 (by decide) ?_
      refine pm_icmp_ne (tgt := 75) hG dX6_readComparison_25 rfl (fun c16 => ?_) (fun c16 => ?_)
      · replace hE := fx_f c16 hE
        exact pm_vret hG hF dX6_readComparison_75 rfl (Nat.le_refl _) (Nat.le_refl _) (fx_rvc hE)
      · replace hE := fx_t c16 hE
        refine pm_aloadn hG dX6_readComparison_28 rfl ?_
        refine pm_dup hG dX6_readComparison_29 rfl ?_
        refine pm_getf hG dX6_readComparison_30 (flX6_26 _ rfl) rfl rfl ?_
        refine pm_iconst (v := 1) hG dX6_readComparison_33 (by decide) ?_
        refine pm_iadd hG dX6_readComparison_34 ?_
        refine pm_putf hG dX6_readComparison_35 (fwX6_26 _ rfl) rfl rfl rfl ?_
        refine ci_105 ?_
        refine fx_letc hE (fun S17 hE => ?_)
        refine pm_aloadn hG dX6_readComparison_38 rfl ?_
        refine pm_iloadn hG dX6_readComparison_39 rfl ?_
        obtain ⟨r19, h18, hE⟩ := fb_some hE
        refine pm_callV (As := [.int 3]) (rest := []) hG hR dX6_readComparison_40 (lkX6_57 _ rfl) okV_X6_readSum rfl rfl (c_X6_readSum_k3 (d := 15) (by decide) h18) rfl rfl hdd (Nat.le_refl _) (Nat.le_refl _) (by decide) (fx_kv ?_)
        refine pm_aloadn hG dX6_readComparison_43 rfl ?_
        refine pm_getf hG dX6_readComparison_44 (flX6_20 _ rfl) rfl rfl ?_
        refine pm_iloadn hG dX6_readComparison_47 rfl ?_
        refine pm_bipush (v := 60) hG dX6_readComparison_48 (by decide) ?_
        refine pm_icmp_ne (tgt := 58) hG dX6_readComparison_50 rfl (fun _ => ?_) (fun q => absurd q c4)
        refine pm_iloadn hG dX6_readComparison_58 rfl ?_
        refine pm_bipush (v := 61) hG dX6_readComparison_59 (by decide) ?_
        refine pm_icmp_ne (tgt := 69) hG dX6_readComparison_61 rfl (fun _ => ?_) (fun q => absurd q c10)
        refine pm_bipush (v := (-6)) hG dX6_readComparison_69 (by decide) ?_
        obtain ⟨r21, h20, hE⟩ := fb_some hE
        refine pm_callV (As := [.int (-6)]) (rest := []) hG hR dX6_readComparison_71 (lkX6_50 _ rfl) okV_X9_append rfl rfl (tappend_28 (d := 15) (by decide) h20) rfl rfl hdd (Nat.le_refl _) (Nat.le_refl _) (by decide) (fx_ki ?_)
        refine pm_pop hG dX6_readComparison_74 rfl ?_
        exact pm_vret hG hF dX6_readComparison_75 rfl (Nat.le_refl _) (Nat.le_refl _) (fx_rvc hE)
end
section
set_option maxRecDepth 100000 in
set_option maxHeartbeats 4000000 in
theorem c_X6_readConjunction_k3 {d : Nat} {B cnt : Nat} {kp : Value} {ρ : pm_S} {S : FS} {R : Int32 × FS} (hdd : 17 ≤ d) (hE : f_X6_readConjunction_k3 S = some R) : pm_met mX6_readConjunction d 0 0 B [.ref (B + 27), .int 3] cnt (cst B kp S ρ) (pm_Qv (fun σ' cnt' => σ' = (cst B kp R.2 ρ) ∧ cnt' = cnt)) := by
  refine pm_enter 1 (by decide) (Nat.le_of_ble_eq_true rfl) rfl (fun G hG hR hF => ?_)
  unfold f_X6_readConjunction_k3 at hE
  refine pm_aloadn hG dX6_readConjunction_0 rfl ?_
  refine pm_iloadn hG dX6_readConjunction_1 rfl ?_
  obtain ⟨r2, h1, hE⟩ := fb_some hE
  refine pm_callV (As := [.int 3]) (rest := []) hG hR dX6_readConjunction_2 (lkX6_54 _ rfl) okV_X6_readComparison rfl rfl (c_X6_readComparison_k3 (d := 16) (by decide) h1) rfl rfl hdd (Nat.le_refl _) (Nat.le_refl _) (by decide) (fx_kv ?_)
  refine pm_iconst (v := 0) hG dX6_readConjunction_5 (by decide) ?_
  refine pm_istoreXn (loc' := [some (.ref (B + 27)), some (.int 3), some (.int 0)]) hG dX6_readConjunction_6 (by decide) (pm_c1b rfl) rfl ?_
  have loop7 : ∀ (k7 : FS → Int32 → Option (Int32 × FS)), (∀ (S3 : FS) (x3_2 : Int32), k7 S3  x3_2 = some R → pm_wp mX6_readConjunction G B 53 [some (.ref (B + 27)), some (.int 3), some (.int x3_2)] [] 0 0 cnt (cst B kp S3 ρ)) → ∀ (m7 : Nat) (S3 : FS) (x3_2 : Int32), l_X6_readConjunction_k3_7 k7 m7 S3  x3_2 = some R → pm_wp mX6_readConjunction G B 7 [some (.ref (B + 27)), some (.int 3), some (.int x3_2)] [] 0 0 cnt (cst B kp S3 ρ) := by
    intro k7 hk7 m7
    induction m7 with
    | zero => intro S3  x3_2 hE; exact fx_no hE
    | succ m7 ih7 =>
      intro S3  x3_2 hE
      rw [l_X6_readConjunction_k3_7] at hE
      refine pm_iloadn hG dX6_readConjunction_7 rfl ?_
      refine pm_bipush (v := 60) hG dX6_readConjunction_8 (by decide) ?_
      refine pm_icmp_ge (tgt := 53) hG dX6_readConjunction_10 rfl (fun c4 => ?_) (fun c4 => ?_)
      · replace c4 := Int32.not_lt.mpr c4
        replace hE := fx_f c4 hE
        exact hk7 _ _ hE
      · replace c4 := Int32.not_le.mp c4
        replace hE := fx_t c4 hE
        refine pm_aloadn hG dX6_readConjunction_13 rfl ?_
        refine pm_callV (As := []) (rest := []) hG hR dX6_readConjunction_14 (lkX6_47 _ rfl) okV_X6_next rfl rfl (c_X6_next (d := 16) (by decide) rfl) rfl rfl hdd (Nat.le_refl _) (Nat.le_refl _) (by decide) (fx_ki ?_)
        refine pm_bipush (v := 38) hG dX6_readConjunction_17 (by decide) ?_
        refine pm_icmp_ne (tgt := 53) hG dX6_readConjunction_19 rfl (fun c5 => ?_) (fun c5 => ?_)
        · replace hE := fx_f c5 hE
          exact hk7 _ _ hE
        · replace hE := fx_t c5 hE
          refine pm_aloadn hG dX6_readConjunction_22 rfl ?_
          refine pm_dup hG dX6_readConjunction_23 rfl ?_
          refine pm_getf hG dX6_readConjunction_24 (flX6_26 _ rfl) rfl rfl ?_
          refine pm_iconst (v := 1) hG dX6_readConjunction_27 (by decide) ?_
          refine pm_iadd hG dX6_readConjunction_28 ?_
          refine pm_putf hG dX6_readConjunction_29 (fwX6_26 _ rfl) rfl rfl rfl ?_
          refine ci_105 ?_
          refine fx_letc hE (fun S6 hE => ?_)
          refine pm_aloadn hG dX6_readConjunction_32 rfl ?_
          refine pm_iloadn hG dX6_readConjunction_33 rfl ?_
          obtain ⟨r8, h7, hE⟩ := fb_some hE
          refine pm_callV (As := [.int 3]) (rest := []) hG hR dX6_readConjunction_34 (lkX6_54 _ rfl) okV_X6_readComparison rfl rfl (c_X6_readComparison_k3 (d := 16) (by decide) h7) rfl rfl hdd (Nat.le_refl _) (Nat.le_refl _) (by decide) (fx_kv ?_)
          refine pm_aloadn hG dX6_readConjunction_37 rfl ?_
          refine pm_getf hG dX6_readConjunction_38 (flX6_20 _ rfl) rfl rfl ?_
          refine pm_bipush (v := (-3)) hG dX6_readConjunction_41 (by decide) ?_
          obtain ⟨r10, h9, hE⟩ := fb_some hE
          refine pm_callV (As := [.int (-3)]) (rest := []) hG hR dX6_readConjunction_43 (lkX6_50 _ rfl) okV_X9_append rfl rfl (tappend_28 (d := 16) (by decide) h9) rfl rfl hdd (Nat.le_refl _) (Nat.le_refl _) (by decide) (fx_ki ?_)
          refine pm_pop hG dX6_readConjunction_46 rfl ?_
          refine pm_iincX (v := x3_2 + 1) (loc' := [some (.ref (B + 27)), some (.int 3), some (.int (x3_2 + 1))]) hG dX6_readConjunction_47 rfl (by rfl) (by decide) (pm_c1b rfl) rfl ?_
          refine pm_goto (tgt := 7) hG dX6_readConjunction_50 rfl ?_
          exact ih7 _ _ hE
  refine loop7 _ (fun S11 x11_2 hE => ?_) _ _ _ hE
  exact pm_vret hG hF dX6_readConjunction_53 rfl (Nat.le_refl _) (Nat.le_refl _) (fx_rvc hE)

set_option maxRecDepth 100000 in
set_option maxHeartbeats 4000000 in
theorem c_X6_readText_k3 {d : Nat} {B cnt : Nat} {kp : Value} {ρ : pm_S} {S : FS} {R : Int32 × FS} (hdd : 18 ≤ d) (hE : f_X6_readText_k3 S = some R) : pm_met mX6_readText d 0 0 B [.ref (B + 27), .int 3] cnt (cst B kp S ρ) (pm_Qv (fun σ' cnt' => σ' = (cst B kp R.2 ρ) ∧ cnt' = cnt)) := by
  refine pm_enter 1 (by decide) (Nat.le_of_ble_eq_true rfl) rfl (fun G hG hR hF => ?_)
  unfold f_X6_readText_k3 at hE
  refine pm_aloadn hG dX6_readText_0 rfl ?_
  refine pm_iloadn hG dX6_readText_1 rfl ?_
  obtain ⟨r2, h1, hE⟩ := fb_some hE
  refine pm_callV (As := [.int 3]) (rest := []) hG hR dX6_readText_2 (lkX6_44 _ rfl) okV_X6_readConjunction rfl rfl (c_X6_readConjunction_k3 (d := 17) (by decide) h1) rfl rfl hdd (Nat.le_refl _) (Nat.le_refl _) (by decide) (fx_kv ?_)
  refine pm_iconst (v := 0) hG dX6_readText_5 (by decide) ?_
  refine pm_istoreXn (loc' := [some (.ref (B + 27)), some (.int 3), some (.int 0)]) hG dX6_readText_6 (by decide) (pm_c1b rfl) rfl ?_
  have loop7 : ∀ (k7 : FS → Int32 → Option (Int32 × FS)), (∀ (S3 : FS) (x3_2 : Int32), k7 S3  x3_2 = some R → pm_wp mX6_readText G B 53 [some (.ref (B + 27)), some (.int 3), some (.int x3_2)] [] 0 0 cnt (cst B kp S3 ρ)) → ∀ (m7 : Nat) (S3 : FS) (x3_2 : Int32), l_X6_readText_k3_7 k7 m7 S3  x3_2 = some R → pm_wp mX6_readText G B 7 [some (.ref (B + 27)), some (.int 3), some (.int x3_2)] [] 0 0 cnt (cst B kp S3 ρ) := by
    intro k7 hk7 m7
    induction m7 with
    | zero => intro S3  x3_2 hE; exact fx_no hE
    | succ m7 ih7 =>
      intro S3  x3_2 hE
      rw [l_X6_readText_k3_7] at hE
      refine pm_iloadn hG dX6_readText_7 rfl ?_
      refine pm_bipush (v := 60) hG dX6_readText_8 (by decide) ?_
      refine pm_icmp_ge (tgt := 53) hG dX6_readText_10 rfl (fun c4 => ?_) (fun c4 => ?_)
      · replace c4 := Int32.not_lt.mpr c4
        replace hE := fx_f c4 hE
        exact hk7 _ _ hE
      · replace c4 := Int32.not_le.mp c4
        replace hE := fx_t c4 hE
        refine pm_aloadn hG dX6_readText_13 rfl ?_
        refine pm_callV (As := []) (rest := []) hG hR dX6_readText_14 (lkX6_47 _ rfl) okV_X6_next rfl rfl (c_X6_next (d := 17) (by decide) rfl) rfl rfl hdd (Nat.le_refl _) (Nat.le_refl _) (by decide) (fx_ki ?_)
        refine pm_bipush (v := 124) hG dX6_readText_17 (by decide) ?_
        refine pm_icmp_ne (tgt := 53) hG dX6_readText_19 rfl (fun c5 => ?_) (fun c5 => ?_)
        · replace hE := fx_f c5 hE
          exact hk7 _ _ hE
        · replace hE := fx_t c5 hE
          refine pm_aloadn hG dX6_readText_22 rfl ?_
          refine pm_dup hG dX6_readText_23 rfl ?_
          refine pm_getf hG dX6_readText_24 (flX6_26 _ rfl) rfl rfl ?_
          refine pm_iconst (v := 1) hG dX6_readText_27 (by decide) ?_
          refine pm_iadd hG dX6_readText_28 ?_
          refine pm_putf hG dX6_readText_29 (fwX6_26 _ rfl) rfl rfl rfl ?_
          refine ci_105 ?_
          refine fx_letc hE (fun S6 hE => ?_)
          refine pm_aloadn hG dX6_readText_32 rfl ?_
          refine pm_iloadn hG dX6_readText_33 rfl ?_
          obtain ⟨r8, h7, hE⟩ := fb_some hE
          refine pm_callV (As := [.int 3]) (rest := []) hG hR dX6_readText_34 (lkX6_44 _ rfl) okV_X6_readConjunction rfl rfl (c_X6_readConjunction_k3 (d := 17) (by decide) h7) rfl rfl hdd (Nat.le_refl _) (Nat.le_refl _) (by decide) (fx_kv ?_)
          refine pm_aloadn hG dX6_readText_37 rfl ?_
          refine pm_getf hG dX6_readText_38 (flX6_20 _ rfl) rfl rfl ?_
          refine pm_bipush (v := (-2)) hG dX6_readText_41 (by decide) ?_
          obtain ⟨r10, h9, hE⟩ := fb_some hE
          refine pm_callV (As := [.int (-2)]) (rest := []) hG hR dX6_readText_43 (lkX6_50 _ rfl) okV_X9_append rfl rfl (tappend_28 (d := 17) (by decide) h9) rfl rfl hdd (Nat.le_refl _) (Nat.le_refl _) (by decide) (fx_ki ?_)
          refine pm_pop hG dX6_readText_46 rfl ?_
          refine pm_iincX (v := x3_2 + 1) (loc' := [some (.ref (B + 27)), some (.int 3), some (.int (x3_2 + 1))]) hG dX6_readText_47 rfl (by rfl) (by decide) (pm_c1b rfl) rfl ?_
          refine pm_goto (tgt := 7) hG dX6_readText_50 rfl ?_
          exact ih7 _ _ hE
  refine loop7 _ (fun S11 x11_2 hE => ?_) _ _ _ hE
  exact pm_vret hG hF dX6_readText_53 rfl (Nat.le_refl _) (Nat.le_refl _) (fx_rvc hE)

set_option maxRecDepth 100000 in
set_option maxHeartbeats 4000000 in
theorem c_X6_readPart_k2 {d : Nat} {B cnt : Nat} {kp : Value} {ρ : pm_S} {S : FS} {R : Int32 × FS} (hdd : 19 ≤ d) (hE : f_X6_readPart_k2 S = some R) : pm_met mX6_readPart d 0 0 B [.ref (B + 27), .int 2] cnt (cst B kp S ρ) (pm_Qv (fun σ' cnt' => σ' = (cst B kp R.2 ρ) ∧ cnt' = cnt)) := by
  refine pm_enter 2 (by decide) (Nat.le_of_ble_eq_true rfl) rfl (fun G hG hR hF => ?_)
  unfold f_X6_readPart_k2 at hE
  refine pm_aloadn hG dX6_readPart_0 rfl ?_
  refine pm_callV (As := []) (rest := []) hG hR dX6_readPart_1 (lkX6_47 _ rfl) okV_X6_next rfl rfl (c_X6_next (d := 18) (by decide) rfl) rfl rfl hdd (Nat.le_refl _) (Nat.le_refl _) (by decide) (fx_ki ?_)
  refine fx_letv hE (fun x1 hE => ?_)
  refine pm_istoreXn (loc' := [some (.ref (B + 27)), some (.int 2), some (.int x1), none]) hG dX6_readPart_4 (by decide) (pm_c1b rfl) rfl ?_
  refine pm_iloadn hG dX6_readPart_5 rfl ?_
  refine pm_if_ge (tgt := 13) hG dX6_readPart_6 rfl (fun c2 => ?_) (fun c2 => ?_)
  · replace c2 := Int32.not_lt.mpr c2
    replace hE := fx_f c2 hE
    refine pm_ldcN hG rfl dX6_readPart_13 (fun q3 z3 hN3 => ?_)
    refine pm_iloadn hG dX6_readPart_15 rfl ?_
    refine pm_i2cE hG dX6_readPart_16 rfl ?_
    obtain ⟨x5, h4, hE⟩ := fb_some hE
    refine pm_callVN (As := [.int ((x1.toUInt32 % 65536).toInt32)]) (rest := []) hN3 hG hR dX6_readPart_17 (lpX6_65 _ rfl) okV_J0_indexOf_0f7a4 rfl (fj_iof (d := 18) (by decide) h4) rfl rfl hdd (Nat.le_refl _) (Nat.le_refl _) (by first | decide | exact Nat.le_of_ble_eq_true rfl) (fx_ki ?_)
    refine pm_istoreXn (loc' := [some (.ref (B + 27)), some (.int 2), some (.int x1), some (.int x5)]) hG dX6_readPart_20 (by decide) (pm_c1b rfl) rfl ?_
    refine pm_iloadn hG dX6_readPart_21 rfl ?_
    refine pm_callS (As := [.int x1]) (rest := []) hG hR dX6_readPart_22 (lkX6_70 _ rfl) okS_X6_isDigit (c_X6_isDigit (d := 18) (by decide) rfl) rfl rfl hdd (Nat.le_refl _) (Nat.le_refl _) (by decide) (fx_ki ?_)
    refine pm_if_eq (tgt := 35) hG dX6_readPart_25 rfl (fun c6 => ?_) (fun c6 => ?_)
    · replace hE := fx_t c6 hE
      refine pm_iloadn hG dX6_readPart_35 rfl ?_
      refine pm_if_lt (tgt := 64) hG dX6_readPart_36 rfl (fun c7 => ?_) (fun c7 => ?_)
      · replace hE := fx_t c7 hE
        refine pm_iloadn hG dX6_readPart_64 rfl ?_
        refine pm_bipush (v := 33) hG dX6_readPart_65 (by decide) ?_
        refine pm_icmp_ne (tgt := 104) hG dX6_readPart_67 rfl (fun c8 => ?_) (fun c8 => ?_)
        · replace hE := fx_f c8 hE
          refine pm_iloadn hG dX6_readPart_104 rfl ?_
          refine pm_bipush (v := 40) hG dX6_readPart_105 (by decide) ?_
          refine pm_icmp_ne (tgt := 139) hG dX6_readPart_107 rfl (fun c9 => ?_) (fun c9 => ?_)
          · replace hE := fx_f c9 hE
            refine pm_aloadn hG dX6_readPart_139 rfl ?_
            obtain ⟨r11, h10, hE⟩ := fb_some hE
            refine pm_callV (As := []) (rest := []) hG hR dX6_readPart_140 (lkX6_41 _ rfl) okV_X6_fail rfl rfl (c_X6_fail (d := 18) (by decide) h10) rfl rfl hdd (Nat.le_refl _) (Nat.le_refl _) (by decide) (fx_kv ?_)
            exact pm_vret hG hF dX6_readPart_143 rfl (Nat.le_refl _) (Nat.le_refl _) (fx_rvc hE)
          · replace hE := fx_t c9 hE
            refine pm_iloadn hG dX6_readPart_110 rfl ?_
            refine pm_iconst (v := 5) hG dX6_readPart_111 (by decide) ?_
            refine pm_icmp_ge (tgt := 139) hG dX6_readPart_112 rfl (fun q => absurd q (by decide)) (fun _ => ?_)
            refine pm_aloadn hG dX6_readPart_115 rfl ?_
            refine pm_dup hG dX6_readPart_116 rfl ?_
            refine pm_getf hG dX6_readPart_117 (flX6_26 _ rfl) rfl rfl ?_
            refine pm_iconst (v := 1) hG dX6_readPart_120 (by decide) ?_
            refine pm_iadd hG dX6_readPart_121 ?_
            refine pm_putf hG dX6_readPart_122 (fwX6_26 _ rfl) rfl rfl rfl ?_
            refine ci_105 ?_
            refine fx_letc hE (fun S12 hE => ?_)
            refine pm_aloadn hG dX6_readPart_125 rfl ?_
            refine pm_iloadn hG dX6_readPart_126 rfl ?_
            refine pm_iconst (v := 1) hG dX6_readPart_127 (by decide) ?_
            refine pm_iadd hG dX6_readPart_128 ?_
            refine pm_top (v := 3) (by decide) ?_
            obtain ⟨r14, h13, hE⟩ := fb_some hE
            refine pm_callV (As := [.int 3]) (rest := []) hG hR dX6_readPart_129 (lkX6_33 _ rfl) okV_X6_readText rfl rfl (c_X6_readText_k3 (d := 18) (by decide) h13) rfl rfl hdd (Nat.le_refl _) (Nat.le_refl _) (by decide) (fx_kv ?_)
            refine pm_aloadn hG dX6_readPart_132 rfl ?_
            obtain ⟨r16, h15, hE⟩ := fb_some hE
            refine pm_callV (As := []) (rest := []) hG hR dX6_readPart_133 (lkX6_77 _ rfl) okV_X6_readClosing rfl rfl (c_X6_readClosing (d := 18) (by decide) h15) rfl rfl hdd (Nat.le_refl _) (Nat.le_refl _) (by decide) (fx_kv ?_)
            refine pm_goto (tgt := 143) hG dX6_readPart_136 rfl ?_
            exact pm_vret hG hF dX6_readPart_143 rfl (Nat.le_refl _) (Nat.le_refl _) (fx_rvc hE)
        · replace hE := fx_t c8 hE
          refine pm_iloadn hG dX6_readPart_70 rfl ?_
          refine pm_iconst (v := 5) hG dX6_readPart_71 (by decide) ?_
          refine pm_icmp_ge (tgt := 104) hG dX6_readPart_72 rfl (fun q => absurd q (by decide)) (fun _ => ?_)
          refine pm_aloadn hG dX6_readPart_75 rfl ?_
          refine pm_dup hG dX6_readPart_76 rfl ?_
          refine pm_getf hG dX6_readPart_77 (flX6_26 _ rfl) rfl rfl ?_
          refine pm_iconst (v := 1) hG dX6_readPart_80 (by decide) ?_
          refine pm_iadd hG dX6_readPart_81 ?_
          refine pm_putf hG dX6_readPart_82 (fwX6_26 _ rfl) rfl rfl rfl ?_
          refine ci_105 ?_
          refine fx_letc hE (fun S17 hE => ?_)
          refine pm_aloadn hG dX6_readPart_85 rfl ?_
          refine pm_iloadn hG dX6_readPart_86 rfl ?_
          refine pm_iconst (v := 1) hG dX6_readPart_87 (by decide) ?_
          refine pm_iadd hG dX6_readPart_88 ?_
          refine pm_top (v := 3) (by decide) ?_
          obtain ⟨r19, h18, hE⟩ := fb_some hE
          refine pm_callV (As := [.int 3]) (rest := []) hG hR dX6_readPart_89 (lkX6_60 _ rfl) okV_X6_readPart rfl rfl (c_X6_readPart_k3 (d := 18) (by decide) h18) rfl rfl hdd (Nat.le_refl _) (Nat.le_refl _) (by decide) (fx_kv ?_)
          refine pm_aloadn hG dX6_readPart_92 rfl ?_
          refine pm_getf hG dX6_readPart_93 (flX6_20 _ rfl) rfl rfl ?_
          refine pm_iconst (v := (-1)) hG dX6_readPart_96 (by decide) ?_
          obtain ⟨r21, h20, hE⟩ := fb_some hE
          refine pm_callV (As := [.int (-1)]) (rest := []) hG hR dX6_readPart_97 (lkX6_50 _ rfl) okV_X9_append rfl rfl (tappend_28 (d := 18) (by decide) h20) rfl rfl hdd (Nat.le_refl _) (Nat.le_refl _) (by decide) (fx_ki ?_)
          refine pm_pop hG dX6_readPart_100 rfl ?_
          refine pm_goto (tgt := 143) hG dX6_readPart_101 rfl ?_
          exact pm_vret hG hF dX6_readPart_143 rfl (Nat.le_refl _) (Nat.le_refl _) (fx_rvc hE)
      · replace hE := fx_f c7 hE
        refine pm_aloadn hG dX6_readPart_39 rfl ?_
        refine pm_dup hG dX6_readPart_40 rfl ?_
        refine pm_getf hG dX6_readPart_41 (flX6_26 _ rfl) rfl rfl ?_
        refine pm_iconst (v := 1) hG dX6_readPart_44 (by decide) ?_
        refine pm_iadd hG dX6_readPart_45 ?_
        refine pm_putf hG dX6_readPart_46 (fwX6_26 _ rfl) rfl rfl rfl ?_
        refine ci_105 ?_
        refine fx_letc hE (fun S22 hE => ?_)
        refine pm_aloadn hG dX6_readPart_49 rfl ?_
        refine pm_getf hG dX6_readPart_50 (flX6_20 _ rfl) rfl rfl ?_
        refine pm_bipush (v := (-20)) hG dX6_readPart_53 (by decide) ?_
        refine pm_iloadn hG dX6_readPart_55 rfl ?_
        refine pm_isub hG dX6_readPart_56 ?_
        obtain ⟨r24, h23, hE⟩ := fb_some hE
        refine pm_callV (As := [.int ((-20) - x5)]) (rest := []) hG hR dX6_readPart_57 (lkX6_50 _ rfl) okV_X9_append rfl rfl (tappend_28 (d := 18) (by decide) h23) rfl rfl hdd (Nat.le_refl _) (Nat.le_refl _) (by decide) (fx_ki ?_)
        refine pm_pop hG dX6_readPart_60 rfl ?_
        refine pm_goto (tgt := 143) hG dX6_readPart_61 rfl ?_
        exact pm_vret hG hF dX6_readPart_143 rfl (Nat.le_refl _) (Nat.le_refl _) (fx_rvc hE)
    · replace hE := fx_f c6 hE
      refine pm_aloadn hG dX6_readPart_28 rfl ?_
      obtain ⟨r26, h25, hE⟩ := fb_some hE
      refine pm_callV (As := []) (rest := []) hG hR dX6_readPart_29 (lkX6_74 _ rfl) okV_X6_readNumber rfl rfl (c_X6_readNumber (d := 18) (by decide) h25) rfl rfl hdd (Nat.le_refl _) (Nat.le_refl _) (by decide) (fx_kv ?_)
      refine pm_goto (tgt := 143) hG dX6_readPart_32 rfl ?_
      exact pm_vret hG hF dX6_readPart_143 rfl (Nat.le_refl _) (Nat.le_refl _) (fx_rvc hE)
  · replace c2 := Int32.not_le.mp c2
    replace hE := fx_t c2 hE
    refine pm_iconst (v := (-1)) hG dX6_readPart_9 (by decide) ?_
    refine pm_goto (tgt := 20) hG dX6_readPart_10 rfl ?_
    refine pm_istoreXn (loc' := [some (.ref (B + 27)), some (.int 2), some (.int x1), some (.int (-1))]) hG dX6_readPart_20 (by decide) (pm_c1b rfl) rfl ?_
    refine pm_iloadn hG dX6_readPart_21 rfl ?_
    refine pm_callS (As := [.int x1]) (rest := []) hG hR dX6_readPart_22 (lkX6_70 _ rfl) okS_X6_isDigit (c_X6_isDigit (d := 18) (by decide) rfl) rfl rfl hdd (Nat.le_refl _) (Nat.le_refl _) (by decide) (fx_ki ?_)
    refine pm_if_eq (tgt := 35) hG dX6_readPart_25 rfl (fun c27 => ?_) (fun c27 => ?_)
    · replace hE := fx_t c27 hE
      refine pm_iloadn hG dX6_readPart_35 rfl ?_
      refine pm_if_lt (tgt := 64) hG dX6_readPart_36 rfl (fun _ => ?_) (fun q => absurd q (by decide))
      refine pm_iloadn hG dX6_readPart_64 rfl ?_
      refine pm_bipush (v := 33) hG dX6_readPart_65 (by decide) ?_
      refine pm_icmp_ne (tgt := 104) hG dX6_readPart_67 rfl (fun c28 => ?_) (fun c28 => ?_)
      · replace hE := fx_f c28 hE
        refine pm_iloadn hG dX6_readPart_104 rfl ?_
        refine pm_bipush (v := 40) hG dX6_readPart_105 (by decide) ?_
        refine pm_icmp_ne (tgt := 139) hG dX6_readPart_107 rfl (fun c29 => ?_) (fun c29 => ?_)
        · replace hE := fx_f c29 hE
          refine pm_aloadn hG dX6_readPart_139 rfl ?_
          obtain ⟨r31, h30, hE⟩ := fb_some hE
          refine pm_callV (As := []) (rest := []) hG hR dX6_readPart_140 (lkX6_41 _ rfl) okV_X6_fail rfl rfl (c_X6_fail (d := 18) (by decide) h30) rfl rfl hdd (Nat.le_refl _) (Nat.le_refl _) (by decide) (fx_kv ?_)
          exact pm_vret hG hF dX6_readPart_143 rfl (Nat.le_refl _) (Nat.le_refl _) (fx_rvc hE)
        · replace hE := fx_t c29 hE
          refine pm_iloadn hG dX6_readPart_110 rfl ?_
          refine pm_iconst (v := 5) hG dX6_readPart_111 (by decide) ?_
          refine pm_icmp_ge (tgt := 139) hG dX6_readPart_112 rfl (fun q => absurd q (by decide)) (fun _ => ?_)
          refine pm_aloadn hG dX6_readPart_115 rfl ?_
          refine pm_dup hG dX6_readPart_116 rfl ?_
          refine pm_getf hG dX6_readPart_117 (flX6_26 _ rfl) rfl rfl ?_
          refine pm_iconst (v := 1) hG dX6_readPart_120 (by decide) ?_
          refine pm_iadd hG dX6_readPart_121 ?_
          refine pm_putf hG dX6_readPart_122 (fwX6_26 _ rfl) rfl rfl rfl ?_
          refine ci_105 ?_
          refine fx_letc hE (fun S32 hE => ?_)
          refine pm_aloadn hG dX6_readPart_125 rfl ?_
          refine pm_iloadn hG dX6_readPart_126 rfl ?_
          refine pm_iconst (v := 1) hG dX6_readPart_127 (by decide) ?_
          refine pm_iadd hG dX6_readPart_128 ?_
          refine pm_top (v := 3) (by decide) ?_
          obtain ⟨r34, h33, hE⟩ := fb_some hE
          refine pm_callV (As := [.int 3]) (rest := []) hG hR dX6_readPart_129 (lkX6_33 _ rfl) okV_X6_readText rfl rfl (c_X6_readText_k3 (d := 18) (by decide) h33) rfl rfl hdd (Nat.le_refl _) (Nat.le_refl _) (by decide) (fx_kv ?_)
          refine pm_aloadn hG dX6_readPart_132 rfl ?_
          obtain ⟨r36, h35, hE⟩ := fb_some hE
          refine pm_callV (As := []) (rest := []) hG hR dX6_readPart_133 (lkX6_77 _ rfl) okV_X6_readClosing rfl rfl (c_X6_readClosing (d := 18) (by decide) h35) rfl rfl hdd (Nat.le_refl _) (Nat.le_refl _) (by decide) (fx_kv ?_)
          refine pm_goto (tgt := 143) hG dX6_readPart_136 rfl ?_
          exact pm_vret hG hF dX6_readPart_143 rfl (Nat.le_refl _) (Nat.le_refl _) (fx_rvc hE)
      · replace hE := fx_t c28 hE
        refine pm_iloadn hG dX6_readPart_70 rfl ?_
        refine pm_iconst (v := 5) hG dX6_readPart_71 (by decide) ?_
        refine pm_icmp_ge (tgt := 104) hG dX6_readPart_72 rfl (fun q => absurd q (by decide)) (fun _ => ?_)
        refine pm_aloadn hG dX6_readPart_75 rfl ?_
        refine pm_dup hG dX6_readPart_76 rfl ?_
        refine pm_getf hG dX6_readPart_77 (flX6_26 _ rfl) rfl rfl ?_
        refine pm_iconst (v := 1) hG dX6_readPart_80 (by decide) ?_
        refine pm_iadd hG dX6_readPart_81 ?_
        refine pm_putf hG dX6_readPart_82 (fwX6_26 _ rfl) rfl rfl rfl ?_
        refine ci_105 ?_
        refine fx_letc hE (fun S37 hE => ?_)
        refine pm_aloadn hG dX6_readPart_85 rfl ?_
        refine pm_iloadn hG dX6_readPart_86 rfl ?_
        refine pm_iconst (v := 1) hG dX6_readPart_87 (by decide) ?_
        refine pm_iadd hG dX6_readPart_88 ?_
        refine pm_top (v := 3) (by decide) ?_
        obtain ⟨r39, h38, hE⟩ := fb_some hE
        refine pm_callV (As := [.int 3]) (rest := []) hG hR dX6_readPart_89 (lkX6_60 _ rfl) okV_X6_readPart rfl rfl (c_X6_readPart_k3 (d := 18) (by decide) h38) rfl rfl hdd (Nat.le_refl _) (Nat.le_refl _) (by decide) (fx_kv ?_)
        refine pm_aloadn hG dX6_readPart_92 rfl ?_
        refine pm_getf hG dX6_readPart_93 (flX6_20 _ rfl) rfl rfl ?_
        refine pm_iconst (v := (-1)) hG dX6_readPart_96 (by decide) ?_
        obtain ⟨r41, h40, hE⟩ := fb_some hE
        refine pm_callV (As := [.int (-1)]) (rest := []) hG hR dX6_readPart_97 (lkX6_50 _ rfl) okV_X9_append rfl rfl (tappend_28 (d := 18) (by decide) h40) rfl rfl hdd (Nat.le_refl _) (Nat.le_refl _) (by decide) (fx_ki ?_)
        refine pm_pop hG dX6_readPart_100 rfl ?_
        refine pm_goto (tgt := 143) hG dX6_readPart_101 rfl ?_
        exact pm_vret hG hF dX6_readPart_143 rfl (Nat.le_refl _) (Nat.le_refl _) (fx_rvc hE)
    · replace hE := fx_f c27 hE
      refine pm_aloadn hG dX6_readPart_28 rfl ?_
      obtain ⟨r43, h42, hE⟩ := fb_some hE
      refine pm_callV (As := []) (rest := []) hG hR dX6_readPart_29 (lkX6_74 _ rfl) okV_X6_readNumber rfl rfl (c_X6_readNumber (d := 18) (by decide) h42) rfl rfl hdd (Nat.le_refl _) (Nat.le_refl _) (by decide) (fx_kv ?_)
      refine pm_goto (tgt := 143) hG dX6_readPart_32 rfl ?_
      exact pm_vret hG hF dX6_readPart_143 rfl (Nat.le_refl _) (Nat.le_refl _) (fx_rvc hE)

set_option maxRecDepth 100000 in
set_option maxHeartbeats 4000000 in
theorem c_X6_readSum_k2 {d : Nat} {B cnt : Nat} {kp : Value} {ρ : pm_S} {S : FS} {R : Int32 × FS} (hdd : 20 ≤ d) (hE : f_X6_readSum_k2 S = some R) : pm_met mX6_readSum d 0 0 B [.ref (B + 27), .int 2] cnt (cst B kp S ρ) (pm_Qv (fun σ' cnt' => σ' = (cst B kp R.2 ρ) ∧ cnt' = cnt)) := by
  refine pm_enter 2 (by decide) (Nat.le_of_ble_eq_true rfl) rfl (fun G hG hR hF => ?_)
  unfold f_X6_readSum_k2 at hE
  refine pm_aloadn hG dX6_readSum_0 rfl ?_
  refine pm_iloadn hG dX6_readSum_1 rfl ?_
  obtain ⟨r2, h1, hE⟩ := fb_some hE
  refine pm_callV (As := [.int 2]) (rest := []) hG hR dX6_readSum_2 (lkX6_60 _ rfl) okV_X6_readPart rfl rfl (c_X6_readPart_k2 (d := 19) (by decide) h1) rfl rfl hdd (Nat.le_refl _) (Nat.le_refl _) (by decide) (fx_kv ?_)
  refine pm_iconst (v := 0) hG dX6_readSum_5 (by decide) ?_
  refine pm_istoreXn (loc' := [some (.ref (B + 27)), some (.int 2), some (.int 0), none]) hG dX6_readSum_6 (by decide) (pm_c1b rfl) rfl ?_
  have loop7 : ∀ (k7 : FS → Int32 → Option (Int32 × FS)), (∀ (S3 : FS) (x3_2 : Int32), k7 S3  x3_2 = some R → pm_wp mX6_readSum G B 78 [some (.ref (B + 27)), some (.int 2), some (.int x3_2), none] [] 0 0 cnt (cst B kp S3 ρ)) → ∀ (m7 : Nat) (S3 : FS) (x3_2 : Int32), l_X6_readSum_k2_7 k7 m7 S3  x3_2 = some R → pm_wp mX6_readSum G B 7 [some (.ref (B + 27)), some (.int 2), some (.int x3_2), none] [] 0 0 cnt (cst B kp S3 ρ) := by
    intro k7 hk7 m7
    induction m7 with
    | zero => intro S3  x3_2 hE; exact fx_no hE
    | succ m7 ih7 =>
      intro S3  x3_2 hE
      rw [l_X6_readSum_k2_7] at hE
      refine pm_iloadn hG dX6_readSum_7 rfl ?_
      refine pm_bipush (v := 60) hG dX6_readSum_8 (by decide) ?_
      refine pm_icmp_ge (tgt := 78) hG dX6_readSum_10 rfl (fun c4 => ?_) (fun c4 => ?_)
      · replace c4 := Int32.not_lt.mpr c4
        replace hE := fx_f c4 hE
        exact hk7 _ _ hE
      · replace c4 := Int32.not_le.mp c4
        replace hE := fx_t c4 hE
        refine pm_aloadn hG dX6_readSum_13 rfl ?_
        refine pm_callV (As := []) (rest := []) hG hR dX6_readSum_14 (lkX6_47 _ rfl) okV_X6_next rfl rfl (c_X6_next (d := 19) (by decide) rfl) rfl rfl hdd (Nat.le_refl _) (Nat.le_refl _) (by decide) (fx_ki ?_)
        refine pm_bipush (v := 43) hG dX6_readSum_17 (by decide) ?_
        refine pm_icmp_eq (tgt := 31) hG dX6_readSum_19 rfl (fun c5 => ?_) (fun c5 => ?_)
        · replace hE := fx_t c5 hE
          refine pm_aloadn hG dX6_readSum_31 rfl ?_
          refine pm_callV (As := []) (rest := []) hG hR dX6_readSum_32 (lkX6_47 _ rfl) okV_X6_next rfl rfl (c_X6_next (d := 19) (by decide) rfl) rfl rfl hdd (Nat.le_refl _) (Nat.le_refl _) (by decide) (fx_ki ?_)
          refine pm_bipush (v := 43) hG dX6_readSum_35 (by decide) ?_
          refine pm_icmp_ne (tgt := 45) hG dX6_readSum_37 rfl (fun q => absurd c5 q) (fun _ => ?_)
          refine pm_bipush (v := (-7)) hG dX6_readSum_40 (by decide) ?_
          refine pm_goto (tgt := 47) hG dX6_readSum_42 rfl ?_
          refine pm_istoreXn (loc' := [some (.ref (B + 27)), some (.int 2), some (.int x3_2), some (.int (-7))]) hG dX6_readSum_47 (by decide) (pm_c1b rfl) rfl ?_
          refine pm_aloadn hG dX6_readSum_48 rfl ?_
          refine pm_dup hG dX6_readSum_49 rfl ?_
          refine pm_getf hG dX6_readSum_50 (flX6_26 _ rfl) rfl rfl ?_
          refine pm_iconst (v := 1) hG dX6_readSum_53 (by decide) ?_
          refine pm_iadd hG dX6_readSum_54 ?_
          refine pm_putf hG dX6_readSum_55 (fwX6_26 _ rfl) rfl rfl rfl ?_
          refine ci_105 ?_
          refine fx_letc hE (fun S6 hE => ?_)
          refine pm_aloadn hG dX6_readSum_58 rfl ?_
          refine pm_iloadn hG dX6_readSum_59 rfl ?_
          obtain ⟨r8, h7, hE⟩ := fb_some hE
          refine pm_callV (As := [.int 2]) (rest := []) hG hR dX6_readSum_60 (lkX6_60 _ rfl) okV_X6_readPart rfl rfl (c_X6_readPart_k2 (d := 19) (by decide) h7) rfl rfl hdd (Nat.le_refl _) (Nat.le_refl _) (by decide) (fx_kv ?_)
          refine pm_aloadn hG dX6_readSum_63 rfl ?_
          refine pm_getf hG dX6_readSum_64 (flX6_20 _ rfl) rfl rfl ?_
          refine pm_iloadn hG dX6_readSum_67 rfl ?_
          obtain ⟨r10, h9, hE⟩ := fb_some hE
          refine pm_callV (As := [.int (-7)]) (rest := []) hG hR dX6_readSum_68 (lkX6_50 _ rfl) okV_X9_append rfl rfl (tappend_28 (d := 19) (by decide) h9) rfl rfl hdd (Nat.le_refl _) (Nat.le_refl _) (by decide) (fx_ki ?_)
          refine pm_pop hG dX6_readSum_71 rfl ?_
          refine pm_iincX (v := x3_2 + 1) (loc' := [some (.ref (B + 27)), some (.int 2), some (.int (x3_2 + 1)), some (.int (-7))]) hG dX6_readSum_72 rfl (by rfl) (by decide) (pm_c1b rfl) rfl ?_
          refine pm_goto (tgt := 7) hG dX6_readSum_75 rfl ?_
          refine pm_fg 3 (loc' := [some (.ref (B + 27)), some (.int 2), some (.int (x3_2 + 1)), none]) rfl ?_
          exact ih7 _ _ hE
        · replace hE := fx_f c5 hE
          refine pm_aloadn hG dX6_readSum_22 rfl ?_
          refine pm_callV (As := []) (rest := []) hG hR dX6_readSum_23 (lkX6_47 _ rfl) okV_X6_next rfl rfl (c_X6_next (d := 19) (by decide) rfl) rfl rfl hdd (Nat.le_refl _) (Nat.le_refl _) (by decide) (fx_ki ?_)
          refine pm_bipush (v := 45) hG dX6_readSum_26 (by decide) ?_
          refine pm_icmp_ne (tgt := 78) hG dX6_readSum_28 rfl (fun c11 => ?_) (fun c11 => ?_)
          · replace hE := fx_f c11 hE
            exact hk7 _ _ hE
          · replace hE := fx_t c11 hE
            refine pm_aloadn hG dX6_readSum_31 rfl ?_
            refine pm_callV (As := []) (rest := []) hG hR dX6_readSum_32 (lkX6_47 _ rfl) okV_X6_next rfl rfl (c_X6_next (d := 19) (by decide) rfl) rfl rfl hdd (Nat.le_refl _) (Nat.le_refl _) (by decide) (fx_ki ?_)
            refine pm_bipush (v := 43) hG dX6_readSum_35 (by decide) ?_
            refine pm_icmp_ne (tgt := 45) hG dX6_readSum_37 rfl (fun _ => ?_) (fun q => absurd q c5)
            refine pm_bipush (v := (-8)) hG dX6_readSum_45 (by decide) ?_
            refine pm_istoreXn (loc' := [some (.ref (B + 27)), some (.int 2), some (.int x3_2), some (.int (-8))]) hG dX6_readSum_47 (by decide) (pm_c1b rfl) rfl ?_
            refine pm_aloadn hG dX6_readSum_48 rfl ?_
            refine pm_dup hG dX6_readSum_49 rfl ?_
            refine pm_getf hG dX6_readSum_50 (flX6_26 _ rfl) rfl rfl ?_
            refine pm_iconst (v := 1) hG dX6_readSum_53 (by decide) ?_
            refine pm_iadd hG dX6_readSum_54 ?_
            refine pm_putf hG dX6_readSum_55 (fwX6_26 _ rfl) rfl rfl rfl ?_
            refine ci_105 ?_
            refine fx_letc hE (fun S12 hE => ?_)
            refine pm_aloadn hG dX6_readSum_58 rfl ?_
            refine pm_iloadn hG dX6_readSum_59 rfl ?_
            obtain ⟨r14, h13, hE⟩ := fb_some hE
            refine pm_callV (As := [.int 2]) (rest := []) hG hR dX6_readSum_60 (lkX6_60 _ rfl) okV_X6_readPart rfl rfl (c_X6_readPart_k2 (d := 19) (by decide) h13) rfl rfl hdd (Nat.le_refl _) (Nat.le_refl _) (by decide) (fx_kv ?_)
            refine pm_aloadn hG dX6_readSum_63 rfl ?_
            refine pm_getf hG dX6_readSum_64 (flX6_20 _ rfl) rfl rfl ?_
            refine pm_iloadn hG dX6_readSum_67 rfl ?_
            obtain ⟨r16, h15, hE⟩ := fb_some hE
            refine pm_callV (As := [.int (-8)]) (rest := []) hG hR dX6_readSum_68 (lkX6_50 _ rfl) okV_X9_append rfl rfl (tappend_28 (d := 19) (by decide) h15) rfl rfl hdd (Nat.le_refl _) (Nat.le_refl _) (by decide) (fx_ki ?_)
            refine pm_pop hG dX6_readSum_71 rfl ?_
            refine pm_iincX (v := x3_2 + 1) (loc' := [some (.ref (B + 27)), some (.int 2), some (.int (x3_2 + 1)), some (.int (-8))]) hG dX6_readSum_72 rfl (by rfl) (by decide) (pm_c1b rfl) rfl ?_
            refine pm_goto (tgt := 7) hG dX6_readSum_75 rfl ?_
            refine pm_fg 3 (loc' := [some (.ref (B + 27)), some (.int 2), some (.int (x3_2 + 1)), none]) rfl ?_
            exact ih7 _ _ hE
  refine loop7 _ (fun S17 x17_2 hE => ?_) _ _ _ hE
  exact pm_vret hG hF dX6_readSum_78 rfl (Nat.le_refl _) (Nat.le_refl _) (fx_rvc hE)

set_option maxRecDepth 100000 in
set_option maxHeartbeats 4000000 in
theorem c_X6_readComparison_k2 {d : Nat} {B cnt : Nat} {kp : Value} {ρ : pm_S} {S : FS} {R : Int32 × FS} (hdd : 21 ≤ d) (hE : f_X6_readComparison_k2 S = some R) : pm_met mX6_readComparison d 0 0 B [.ref (B + 27), .int 2] cnt (cst B kp S ρ) (pm_Qv (fun σ' cnt' => σ' = (cst B kp R.2 ρ) ∧ cnt' = cnt)) := by
  refine pm_enter 1 (by decide) (Nat.le_of_ble_eq_true rfl) rfl (fun G hG hR hF => ?_)
  unfold f_X6_readComparison_k2 at hE
  refine pm_aloadn hG dX6_readComparison_0 rfl ?_
  refine pm_iloadn hG dX6_readComparison_1 rfl ?_
  obtain ⟨r2, h1, hE⟩ := fb_some hE
  refine pm_callV (As := [.int 2]) (rest := []) hG hR dX6_readComparison_2 (lkX6_57 _ rfl) okV_X6_readSum rfl rfl (c_X6_readSum_k2 (d := 20) (by decide) h1) rfl rfl hdd (Nat.le_refl _) (Nat.le_refl _) (by decide) (fx_kv ?_)
  refine pm_aloadn hG dX6_readComparison_5 rfl ?_
  refine pm_callV (As := []) (rest := []) hG hR dX6_readComparison_6 (lkX6_47 _ rfl) okV_X6_next rfl rfl (c_X6_next (d := 20) (by decide) rfl) rfl rfl hdd (Nat.le_refl _) (Nat.le_refl _) (by decide) (fx_ki ?_)
  refine fx_letv hE (fun x3 hE => ?_)
  refine pm_istoreXn (loc' := [some (.ref (B + 27)), some (.int 2), some (.int x3)]) hG dX6_readComparison_9 (by decide) (pm_c1b rfl) rfl ?_
  refine pm_iloadn hG dX6_readComparison_10 rfl ?_
  refine pm_bipush (v := 60) hG dX6_readComparison_11 (by decide) ?_
  refine pm_icmp_eq (tgt := 28) hG dX6_readComparison_13 rfl (fun c4 => ?_) (fun c4 => ?_)
  · replace hE := fx_t c4 hE
    refine pm_aloadn hG dX6_readComparison_28 rfl ?_
    refine pm_dup hG dX6_readComparison_29 rfl ?_
    refine pm_getf hG dX6_readComparison_30 (flX6_26 _ rfl) rfl rfl ?_
    refine pm_iconst (v := 1) hG dX6_readComparison_33 (by decide) ?_
    refine pm_iadd hG dX6_readComparison_34 ?_
    refine pm_putf hG dX6_readComparison_35 (fwX6_26 _ rfl) rfl rfl rfl ?_
    refine ci_105 ?_
    refine fx_letc hE (fun S5 hE => ?_)
    refine pm_aloadn hG dX6_readComparison_38 rfl ?_
    refine pm_iloadn hG dX6_readComparison_39 rfl ?_
    obtain ⟨r7, h6, hE⟩ := fb_some hE
    refine pm_callV (As := [.int 2]) (rest := []) hG hR dX6_readComparison_40 (lkX6_57 _ rfl) okV_X6_readSum rfl rfl (c_X6_readSum_k2 (d := 20) (by decide) h6) rfl rfl hdd (Nat.le_refl _) (Nat.le_refl _) (by decide) (fx_kv ?_)
    refine pm_aloadn hG dX6_readComparison_43 rfl ?_
    refine pm_getf hG dX6_readComparison_44 (flX6_20 _ rfl) rfl rfl ?_
    refine pm_iloadn hG dX6_readComparison_47 rfl ?_
    refine pm_bipush (v := 60) hG dX6_readComparison_48 (by decide) ?_
    refine pm_icmp_ne (tgt := 58) hG dX6_readComparison_50 rfl (fun q => absurd c4 q) (fun _ => ?_)
    refine pm_bipush (v := (-4)) hG dX6_readComparison_53 (by decide) ?_
    refine pm_goto (tgt := 71) hG dX6_readComparison_55 rfl ?_
    obtain ⟨r9, h8, hE⟩ := fb_some hE
    refine pm_callV (As := [.int (-4)]) (rest := []) hG hR dX6_readComparison_71 (lkX6_50 _ rfl) okV_X9_append rfl rfl (tappend_28 (d := 20) (by decide) h8) rfl rfl hdd (Nat.le_refl _) (Nat.le_refl _) (by decide) (fx_ki ?_)
    refine pm_pop hG dX6_readComparison_74 rfl ?_
    exact pm_vret hG hF dX6_readComparison_75 rfl (Nat.le_refl _) (Nat.le_refl _) (fx_rvc hE)
  · replace hE := fx_f c4 hE
    refine pm_iloadn hG dX6_readComparison_16 rfl ?_
    refine pm_bipush (v := 61) hG dX6_readComparison_17 (by decide) ?_
    refine pm_icmp_eq (tgt := 28) hG dX6_readComparison_19 rfl (fun c10 => ?_) (fun c10 => ?_)
    · replace hE := fx_t c10 hE
      refine pm_aloadn hG dX6_readComparison_28 rfl ?_
      refine pm_dup hG dX6_readComparison_29 rfl ?_
      refine pm_getf hG dX6_readComparison_30 (flX6_26 _ rfl) rfl rfl ?_
      refine pm_iconst (v := 1) hG dX6_readComparison_33 (by decide) ?_
      refine pm_iadd hG dX6_readComparison_34 ?_
      refine pm_putf hG dX6_readComparison_35 (fwX6_26 _ rfl) rfl rfl rfl ?_
      refine ci_105 ?_
      refine fx_letc hE (fun S11 hE => ?_)
      refine pm_aloadn hG dX6_readComparison_38 rfl ?_
      refine pm_iloadn hG dX6_readComparison_39 rfl ?_
      obtain ⟨r13, h12, hE⟩ := fb_some hE
      refine pm_callV (As := [.int 2]) (rest := []) hG hR dX6_readComparison_40 (lkX6_57 _ rfl) okV_X6_readSum rfl rfl (c_X6_readSum_k2 (d := 20) (by decide) h12) rfl rfl hdd (Nat.le_refl _) (Nat.le_refl _) (by decide) (fx_kv ?_)
      refine pm_aloadn hG dX6_readComparison_43 rfl ?_
      refine pm_getf hG dX6_readComparison_44 (flX6_20 _ rfl) rfl rfl ?_
      refine pm_iloadn hG dX6_readComparison_47 rfl ?_
      refine pm_bipush (v := 60) hG dX6_readComparison_48 (by decide) ?_
      refine pm_icmp_ne (tgt := 58) hG dX6_readComparison_50 rfl (fun _ => ?_) (fun q => absurd q c4)
      refine pm_iloadn hG dX6_readComparison_58 rfl ?_
      refine pm_bipush (v := 61) hG dX6_readComparison_59 (by decide) ?_
      refine pm_icmp_ne (tgt := 69) hG dX6_readComparison_61 rfl (fun q => absurd c10 q) (fun _ => ?_)
      refine pm_bipush (v := (-5)) hG dX6_readComparison_64 (by decide) ?_
      refine pm_goto (tgt := 71) hG dX6_readComparison_66 rfl ?_
      obtain ⟨r15, h14, hE⟩ := fb_some hE
      refine pm_callV (As := [.int (-5)]) (rest := []) hG hR dX6_readComparison_71 (lkX6_50 _ rfl) okV_X9_append rfl rfl (tappend_28 (d := 20) (by decide) h14) rfl rfl hdd (Nat.le_refl _) (Nat.le_refl _) (by decide) (fx_ki ?_)
      refine pm_pop hG dX6_readComparison_74 rfl ?_
      exact pm_vret hG hF dX6_readComparison_75 rfl (Nat.le_refl _) (Nat.le_refl _) (fx_rvc hE)
    · replace hE := fx_f c10 hE
      refine pm_iloadn hG dX6_readComparison_22 rfl ?_
      refine pm_bipush (v := 62) hG dX6_readComparison_23 (by decide) ?_
      refine pm_icmp_ne (tgt := 75) hG dX6_readComparison_25 rfl (fun c16 => ?_) (fun c16 => ?_)
      · replace hE := fx_f c16 hE
        exact pm_vret hG hF dX6_readComparison_75 rfl (Nat.le_refl _) (Nat.le_refl _) (fx_rvc hE)
      · replace hE := fx_t c16 hE
        refine pm_aloadn hG dX6_readComparison_28 rfl ?_
        refine pm_dup hG dX6_readComparison_29 rfl ?_
        refine pm_getf hG dX6_readComparison_30 (flX6_26 _ rfl) rfl rfl ?_
        refine pm_iconst (v := 1) hG dX6_readComparison_33 (by decide) ?_
        refine pm_iadd hG dX6_readComparison_34 ?_
        refine pm_putf hG dX6_readComparison_35 (fwX6_26 _ rfl) rfl rfl rfl ?_
        refine ci_105 ?_
        refine fx_letc hE (fun S17 hE => ?_)
        refine pm_aloadn hG dX6_readComparison_38 rfl ?_
        refine pm_iloadn hG dX6_readComparison_39 rfl ?_
        obtain ⟨r19, h18, hE⟩ := fb_some hE
        refine pm_callV (As := [.int 2]) (rest := []) hG hR dX6_readComparison_40 (lkX6_57 _ rfl) okV_X6_readSum rfl rfl (c_X6_readSum_k2 (d := 20) (by decide) h18) rfl rfl hdd (Nat.le_refl _) (Nat.le_refl _) (by decide) (fx_kv ?_)
        refine pm_aloadn hG dX6_readComparison_43 rfl ?_
        refine pm_getf hG dX6_readComparison_44 (flX6_20 _ rfl) rfl rfl ?_
        refine pm_iloadn hG dX6_readComparison_47 rfl ?_
        refine pm_bipush (v := 60) hG dX6_readComparison_48 (by decide) ?_
        refine pm_icmp_ne (tgt := 58) hG dX6_readComparison_50 rfl (fun _ => ?_) (fun q => absurd q c4)
        refine pm_iloadn hG dX6_readComparison_58 rfl ?_
        refine pm_bipush (v := 61) hG dX6_readComparison_59 (by decide) ?_
        refine pm_icmp_ne (tgt := 69) hG dX6_readComparison_61 rfl (fun _ => ?_) (fun q => absurd q c10)
        refine pm_bipush (v := (-6)) hG dX6_readComparison_69 (by decide) ?_
        obtain ⟨r21, h20, hE⟩ := fb_some hE
        refine pm_callV (As := [.int (-6)]) (rest := []) hG hR dX6_readComparison_71 (lkX6_50 _ rfl) okV_X9_append rfl rfl (tappend_28 (d := 20) (by decide) h20) rfl rfl hdd (Nat.le_refl _) (Nat.le_refl _) (by decide) (fx_ki ?_)
        refine pm_pop hG dX6_readComparison_74 rfl ?_
        exact pm_vret hG hF dX6_readComparison_75 rfl (Nat.le_refl _) (Nat.le_refl _) (fx_rvc hE)

set_option maxRecDepth 100000 in
set_option maxHeartbeats 4000000 in
theorem c_X6_readConjunction_k2 {d : Nat} {B cnt : Nat} {kp : Value} {ρ : pm_S} {S : FS} {R : Int32 × FS} (hdd : 22 ≤ d) (hE : f_X6_readConjunction_k2 S = some R) : pm_met mX6_readConjunction d 0 0 B [.ref (B + 27), .int 2] cnt (cst B kp S ρ) (pm_Qv (fun σ' cnt' => σ' = (cst B kp R.2 ρ) ∧ cnt' = cnt)) := by
  refine pm_enter 1 (by decide) (Nat.le_of_ble_eq_true rfl) rfl (fun G hG hR hF => ?_)
  unfold f_X6_readConjunction_k2 at hE
  refine pm_aloadn hG dX6_readConjunction_0 rfl ?_
  refine pm_iloadn hG dX6_readConjunction_1 rfl ?_
  obtain ⟨r2, h1, hE⟩ := fb_some hE
  refine pm_callV (As := [.int 2]) (rest := []) hG hR dX6_readConjunction_2 (lkX6_54 _ rfl) okV_X6_readComparison rfl rfl (c_X6_readComparison_k2 (d := 21) (by decide) h1) rfl rfl hdd (Nat.le_refl _) (Nat.le_refl _) (by decide) (fx_kv ?_)
  refine pm_iconst (v := 0) hG dX6_readConjunction_5 (by decide) ?_
  refine pm_istoreXn (loc' := [some (.ref (B + 27)), some (.int 2), some (.int 0)]) hG dX6_readConjunction_6 (by decide) (pm_c1b rfl) rfl ?_
  have loop7 : ∀ (k7 : FS → Int32 → Option (Int32 × FS)), (∀ (S3 : FS) (x3_2 : Int32), k7 S3  x3_2 = some R → pm_wp mX6_readConjunction G B 53 [some (.ref (B + 27)), some (.int 2), some (.int x3_2)] [] 0 0 cnt (cst B kp S3 ρ)) → ∀ (m7 : Nat) (S3 : FS) (x3_2 : Int32), l_X6_readConjunction_k2_7 k7 m7 S3  x3_2 = some R → pm_wp mX6_readConjunction G B 7 [some (.ref (B + 27)), some (.int 2), some (.int x3_2)] [] 0 0 cnt (cst B kp S3 ρ) := by
    intro k7 hk7 m7
    induction m7 with
    | zero => intro S3  x3_2 hE; exact fx_no hE
    | succ m7 ih7 =>
      intro S3  x3_2 hE
      rw [l_X6_readConjunction_k2_7] at hE
      refine pm_iloadn hG dX6_readConjunction_7 rfl ?_
      refine pm_bipush (v := 60) hG dX6_readConjunction_8 (by decide) ?_
      refine pm_icmp_ge (tgt := 53) hG dX6_readConjunction_10 rfl (fun c4 => ?_) (fun c4 => ?_)
      · replace c4 := Int32.not_lt.mpr c4
        replace hE := fx_f c4 hE
        exact hk7 _ _ hE
      · replace c4 := Int32.not_le.mp c4
        replace hE := fx_t c4 hE
        refine pm_aloadn hG dX6_readConjunction_13 rfl ?_
        refine pm_callV (As := []) (rest := []) hG hR dX6_readConjunction_14 (lkX6_47 _ rfl) okV_X6_next rfl rfl (c_X6_next (d := 21) (by decide) rfl) rfl rfl hdd (Nat.le_refl _) (Nat.le_refl _) (by decide) (fx_ki ?_)
        refine pm_bipush (v := 38) hG dX6_readConjunction_17 (by decide) ?_
        refine pm_icmp_ne (tgt := 53) hG dX6_readConjunction_19 rfl (fun c5 => ?_) (fun c5 => ?_)
        · replace hE := fx_f c5 hE
          exact hk7 _ _ hE
        · replace hE := fx_t c5 hE
          refine pm_aloadn hG dX6_readConjunction_22 rfl ?_
          refine pm_dup hG dX6_readConjunction_23 rfl ?_
          refine pm_getf hG dX6_readConjunction_24 (flX6_26 _ rfl) rfl rfl ?_
          refine pm_iconst (v := 1) hG dX6_readConjunction_27 (by decide) ?_
          refine pm_iadd hG dX6_readConjunction_28 ?_
          refine pm_putf hG dX6_readConjunction_29 (fwX6_26 _ rfl) rfl rfl rfl ?_
          refine ci_105 ?_
          refine fx_letc hE (fun S6 hE => ?_)
          refine pm_aloadn hG dX6_readConjunction_32 rfl ?_
          refine pm_iloadn hG dX6_readConjunction_33 rfl ?_
          obtain ⟨r8, h7, hE⟩ := fb_some hE
          refine pm_callV (As := [.int 2]) (rest := []) hG hR dX6_readConjunction_34 (lkX6_54 _ rfl) okV_X6_readComparison rfl rfl (c_X6_readComparison_k2 (d := 21) (by decide) h7) rfl rfl hdd (Nat.le_refl _) (Nat.le_refl _) (by decide) (fx_kv ?_)
          refine pm_aloadn hG dX6_readConjunction_37 rfl ?_
          refine pm_getf hG dX6_readConjunction_38 (flX6_20 _ rfl) rfl rfl ?_
          refine pm_bipush (v := (-3)) hG dX6_readConjunction_41 (by decide) ?_
          obtain ⟨r10, h9, hE⟩ := fb_some hE
          refine pm_callV (As := [.int (-3)]) (rest := []) hG hR dX6_readConjunction_43 (lkX6_50 _ rfl) okV_X9_append rfl rfl (tappend_28 (d := 21) (by decide) h9) rfl rfl hdd (Nat.le_refl _) (Nat.le_refl _) (by decide) (fx_ki ?_)
          refine pm_pop hG dX6_readConjunction_46 rfl ?_
          refine pm_iincX (v := x3_2 + 1) (loc' := [some (.ref (B + 27)), some (.int 2), some (.int (x3_2 + 1))]) hG dX6_readConjunction_47 rfl (by rfl) (by decide) (pm_c1b rfl) rfl ?_
          refine pm_goto (tgt := 7) hG dX6_readConjunction_50 rfl ?_
          exact ih7 _ _ hE
  refine loop7 _ (fun S11 x11_2 hE => ?_) _ _ _ hE
  exact pm_vret hG hF dX6_readConjunction_53 rfl (Nat.le_refl _) (Nat.le_refl _) (fx_rvc hE)

set_option maxRecDepth 100000 in
set_option maxHeartbeats 4000000 in
theorem c_X6_readText_k2 {d : Nat} {B cnt : Nat} {kp : Value} {ρ : pm_S} {S : FS} {R : Int32 × FS} (hdd : 23 ≤ d) (hE : f_X6_readText_k2 S = some R) : pm_met mX6_readText d 0 0 B [.ref (B + 27), .int 2] cnt (cst B kp S ρ) (pm_Qv (fun σ' cnt' => σ' = (cst B kp R.2 ρ) ∧ cnt' = cnt)) := by
  refine pm_enter 1 (by decide) (Nat.le_of_ble_eq_true rfl) rfl (fun G hG hR hF => ?_)
  unfold f_X6_readText_k2 at hE
  refine pm_aloadn hG dX6_readText_0 rfl ?_
  refine pm_iloadn hG dX6_readText_1 rfl ?_
  obtain ⟨r2, h1, hE⟩ := fb_some hE
  refine pm_callV (As := [.int 2]) (rest := []) hG hR dX6_readText_2 (lkX6_44 _ rfl) okV_X6_readConjunction rfl rfl (c_X6_readConjunction_k2 (d := 22) (by decide) h1) rfl rfl hdd (Nat.le_refl _) (Nat.le_refl _) (by decide) (fx_kv ?_)
  refine pm_iconst (v := 0) hG dX6_readText_5 (by decide) ?_
  refine pm_istoreXn (loc' := [some (.ref (B + 27)), some (.int 2), some (.int 0)]) hG dX6_readText_6 (by decide) (pm_c1b rfl) rfl ?_
  have loop7 : ∀ (k7 : FS → Int32 → Option (Int32 × FS)), (∀ (S3 : FS) (x3_2 : Int32), k7 S3  x3_2 = some R → pm_wp mX6_readText G B 53 [some (.ref (B + 27)), some (.int 2), some (.int x3_2)] [] 0 0 cnt (cst B kp S3 ρ)) → ∀ (m7 : Nat) (S3 : FS) (x3_2 : Int32), l_X6_readText_k2_7 k7 m7 S3  x3_2 = some R → pm_wp mX6_readText G B 7 [some (.ref (B + 27)), some (.int 2), some (.int x3_2)] [] 0 0 cnt (cst B kp S3 ρ) := by
    intro k7 hk7 m7
    induction m7 with
    | zero => intro S3  x3_2 hE; exact fx_no hE
    | succ m7 ih7 =>
      intro S3  x3_2 hE
      rw [l_X6_readText_k2_7] at hE
      refine pm_iloadn hG dX6_readText_7 rfl ?_
      refine pm_bipush (v := 60) hG dX6_readText_8 (by decide) ?_
      refine pm_icmp_ge (tgt := 53) hG dX6_readText_10 rfl (fun c4 => ?_) (fun c4 => ?_)
      · replace c4 := Int32.not_lt.mpr c4
        replace hE := fx_f c4 hE
        exact hk7 _ _ hE
      · replace c4 := Int32.not_le.mp c4
        replace hE := fx_t c4 hE
        refine pm_aloadn hG dX6_readText_13 rfl ?_
        refine pm_callV (As := []) (rest := []) hG hR dX6_readText_14 (lkX6_47 _ rfl) okV_X6_next rfl rfl (c_X6_next (d := 22) (by decide) rfl) rfl rfl hdd (Nat.le_refl _) (Nat.le_refl _) (by decide) (fx_ki ?_)
        refine pm_bipush (v := 124) hG dX6_readText_17 (by decide) ?_
        refine pm_icmp_ne (tgt := 53) hG dX6_readText_19 rfl (fun c5 => ?_) (fun c5 => ?_)
        · replace hE := fx_f c5 hE
          exact hk7 _ _ hE
        · replace hE := fx_t c5 hE
          refine pm_aloadn hG dX6_readText_22 rfl ?_
          refine pm_dup hG dX6_readText_23 rfl ?_
          refine pm_getf hG dX6_readText_24 (flX6_26 _ rfl) rfl rfl ?_
          refine pm_iconst (v := 1) hG dX6_readText_27 (by decide) ?_
          refine pm_iadd hG dX6_readText_28 ?_
          refine pm_putf hG dX6_readText_29 (fwX6_26 _ rfl) rfl rfl rfl ?_
          refine ci_105 ?_
          refine fx_letc hE (fun S6 hE => ?_)
          refine pm_aloadn hG dX6_readText_32 rfl ?_
          refine pm_iloadn hG dX6_readText_33 rfl ?_
          obtain ⟨r8, h7, hE⟩ := fb_some hE
          refine pm_callV (As := [.int 2]) (rest := []) hG hR dX6_readText_34 (lkX6_44 _ rfl) okV_X6_readConjunction rfl rfl (c_X6_readConjunction_k2 (d := 22) (by decide) h7) rfl rfl hdd (Nat.le_refl _) (Nat.le_refl _) (by decide) (fx_kv ?_)
          refine pm_aloadn hG dX6_readText_37 rfl ?_
          refine pm_getf hG dX6_readText_38 (flX6_20 _ rfl) rfl rfl ?_
          refine pm_bipush (v := (-2)) hG dX6_readText_41 (by decide) ?_
          obtain ⟨r10, h9, hE⟩ := fb_some hE
          refine pm_callV (As := [.int (-2)]) (rest := []) hG hR dX6_readText_43 (lkX6_50 _ rfl) okV_X9_append rfl rfl (tappend_28 (d := 22) (by decide) h9) rfl rfl hdd (Nat.le_refl _) (Nat.le_refl _) (by decide) (fx_ki ?_)
          refine pm_pop hG dX6_readText_46 rfl ?_
          refine pm_iincX (v := x3_2 + 1) (loc' := [some (.ref (B + 27)), some (.int 2), some (.int (x3_2 + 1))]) hG dX6_readText_47 rfl (by rfl) (by decide) (pm_c1b rfl) rfl ?_
          refine pm_goto (tgt := 7) hG dX6_readText_50 rfl ?_
          exact ih7 _ _ hE
  refine loop7 _ (fun S11 x11_2 hE => ?_) _ _ _ hE
  exact pm_vret hG hF dX6_readText_53 rfl (Nat.le_refl _) (Nat.le_refl _) (fx_rvc hE)

set_option maxRecDepth 100000 in
set_option maxHeartbeats 4000000 in
theorem c_X6_readPart_k1 {d : Nat} {B cnt : Nat} {kp : Value} {ρ : pm_S} {S : FS} {R : Int32 × FS} (hdd : 24 ≤ d) (hE : f_X6_readPart_k1 S = some R) : pm_met mX6_readPart d 0 0 B [.ref (B + 27), .int 1] cnt (cst B kp S ρ) (pm_Qv (fun σ' cnt' => σ' = (cst B kp R.2 ρ) ∧ cnt' = cnt)) := by
  refine pm_enter 2 (by decide) (Nat.le_of_ble_eq_true rfl) rfl (fun G hG hR hF => ?_)
  unfold f_X6_readPart_k1 at hE
  refine pm_aloadn hG dX6_readPart_0 rfl ?_
  refine pm_callV (As := []) (rest := []) hG hR dX6_readPart_1 (lkX6_47 _ rfl) okV_X6_next rfl rfl (c_X6_next (d := 23) (by decide) rfl) rfl rfl hdd (Nat.le_refl _) (Nat.le_refl _) (by decide) (fx_ki ?_)
  refine fx_letv hE (fun x1 hE => ?_)
  refine pm_istoreXn (loc' := [some (.ref (B + 27)), some (.int 1), some (.int x1), none]) hG dX6_readPart_4 (by decide) (pm_c1b rfl) rfl ?_
  refine pm_iloadn hG dX6_readPart_5 rfl ?_
  refine pm_if_ge (tgt := 13) hG dX6_readPart_6 rfl (fun c2 => ?_) (fun c2 => ?_)
  · replace c2 := Int32.not_lt.mpr c2
    replace hE := fx_f c2 hE
    refine pm_ldcN hG rfl dX6_readPart_13 (fun q3 z3 hN3 => ?_)
    refine pm_iloadn hG dX6_readPart_15 rfl ?_
    refine pm_i2cE hG dX6_readPart_16 rfl ?_
    obtain ⟨x5, h4, hE⟩ := fb_some hE
    refine pm_callVN (As := [.int ((x1.toUInt32 % 65536).toInt32)]) (rest := []) hN3 hG hR dX6_readPart_17 (lpX6_65 _ rfl) okV_J0_indexOf_0f7a4 rfl (fj_iof (d := 23) (by decide) h4) rfl rfl hdd (Nat.le_refl _) (Nat.le_refl _) (by first | decide | exact Nat.le_of_ble_eq_true rfl) (fx_ki ?_)
    refine pm_istoreXn (loc' := [some (.ref (B + 27)), some (.int 1), some (.int x1), some (.int x5)]) hG dX6_readPart_20 (by decide) (pm_c1b rfl) rfl ?_
    refine pm_iloadn hG dX6_readPart_21 rfl ?_
    refine pm_callS (As := [.int x1]) (rest := []) hG hR dX6_readPart_22 (lkX6_70 _ rfl) okS_X6_isDigit (c_X6_isDigit (d := 23) (by decide) rfl) rfl rfl hdd (Nat.le_refl _) (Nat.le_refl _) (by decide) (fx_ki ?_)
    refine pm_if_eq (tgt := 35) hG dX6_readPart_25 rfl (fun c6 => ?_) (fun c6 => ?_)
    · replace hE := fx_t c6 hE
      refine pm_iloadn hG dX6_readPart_35 rfl ?_
      refine pm_if_lt (tgt := 64) hG dX6_readPart_36 rfl (fun c7 => ?_) (fun c7 => ?_)
      · replace hE := fx_t c7 hE
        refine pm_iloadn hG dX6_readPart_64 rfl ?_
        refine pm_bipush (v := 33) hG dX6_readPart_65 (by decide) ?_
        refine pm_icmp_ne (tgt := 104) hG dX6_readPart_67 rfl (fun c8 => ?_) (fun c8 => ?_)
        · replace hE := fx_f c8 hE
          refine pm_iloadn hG dX6_readPart_104 rfl ?_
          refine pm_bipush (v := 40) hG dX6_readPart_105 (by decide) ?_
          refine pm_icmp_ne (tgt := 139) hG dX6_readPart_107 rfl (fun c9 => ?_) (fun c9 => ?_)
          · replace hE := fx_f c9 hE
            refine pm_aloadn hG dX6_readPart_139 rfl ?_
            obtain ⟨r11, h10, hE⟩ := fb_some hE
            refine pm_callV (As := []) (rest := []) hG hR dX6_readPart_140 (lkX6_41 _ rfl) okV_X6_fail rfl rfl (c_X6_fail (d := 23) (by decide) h10) rfl rfl hdd (Nat.le_refl _) (Nat.le_refl _) (by decide) (fx_kv ?_)
            exact pm_vret hG hF dX6_readPart_143 rfl (Nat.le_refl _) (Nat.le_refl _) (fx_rvc hE)
          · replace hE := fx_t c9 hE
            refine pm_iloadn hG dX6_readPart_110 rfl ?_
            refine pm_iconst (v := 5) hG dX6_readPart_111 (by decide) ?_
            refine pm_icmp_ge (tgt := 139) hG dX6_readPart_112 rfl (fun q => absurd q (by decide)) (fun _ => ?_)
            refine pm_aloadn hG dX6_readPart_115 rfl ?_
            refine pm_dup hG dX6_readPart_116 rfl ?_
            refine pm_getf hG dX6_readPart_117 (flX6_26 _ rfl) rfl rfl ?_
            refine pm_iconst (v := 1) hG dX6_readPart_120 (by decide) ?_
            refine pm_iadd hG dX6_readPart_121 ?_
            refine pm_putf hG dX6_readPart_122 (fwX6_26 _ rfl) rfl rfl rfl ?_
            refine ci_105 ?_
            refine fx_letc hE (fun S12 hE => ?_)
            refine pm_aloadn hG dX6_readPart_125 rfl ?_
            refine pm_iloadn hG dX6_readPart_126 rfl ?_
            refine pm_iconst (v := 1) hG dX6_readPart_127 (by decide) ?_
            refine pm_iadd hG dX6_readPart_128 ?_
            refine pm_top (v := 2) (by decide) ?_
            obtain ⟨r14, h13, hE⟩ := fb_some hE
            refine pm_callV (As := [.int 2]) (rest := []) hG hR dX6_readPart_129 (lkX6_33 _ rfl) okV_X6_readText rfl rfl (c_X6_readText_k2 (d := 23) (by decide) h13) rfl rfl hdd (Nat.le_refl _) (Nat.le_refl _) (by decide) (fx_kv ?_)
            refine pm_aloadn hG dX6_readPart_132 rfl ?_
            obtain ⟨r16, h15, hE⟩ := fb_some hE
            refine pm_callV (As := []) (rest := []) hG hR dX6_readPart_133 (lkX6_77 _ rfl) okV_X6_readClosing rfl rfl (c_X6_readClosing (d := 23) (by decide) h15) rfl rfl hdd (Nat.le_refl _) (Nat.le_refl _) (by decide) (fx_kv ?_)
            refine pm_goto (tgt := 143) hG dX6_readPart_136 rfl ?_
            exact pm_vret hG hF dX6_readPart_143 rfl (Nat.le_refl _) (Nat.le_refl _) (fx_rvc hE)
        · replace hE := fx_t c8 hE
          refine pm_iloadn hG dX6_readPart_70 rfl ?_
          refine pm_iconst (v := 5) hG dX6_readPart_71 (by decide) ?_
          refine pm_icmp_ge (tgt := 104) hG dX6_readPart_72 rfl (fun q => absurd q (by decide)) (fun _ => ?_)
          refine pm_aloadn hG dX6_readPart_75 rfl ?_
          refine pm_dup hG dX6_readPart_76 rfl ?_
          refine pm_getf hG dX6_readPart_77 (flX6_26 _ rfl) rfl rfl ?_
          refine pm_iconst (v := 1) hG dX6_readPart_80 (by decide) ?_
          refine pm_iadd hG dX6_readPart_81 ?_
          refine pm_putf hG dX6_readPart_82 (fwX6_26 _ rfl) rfl rfl rfl ?_
          refine ci_105 ?_
          refine fx_letc hE (fun S17 hE => ?_)
          refine pm_aloadn hG dX6_readPart_85 rfl ?_
          refine pm_iloadn hG dX6_readPart_86 rfl ?_
          refine pm_iconst (v := 1) hG dX6_readPart_87 (by decide) ?_
          refine pm_iadd hG dX6_readPart_88 ?_
          refine pm_top (v := 2) (by decide) ?_
          obtain ⟨r19, h18, hE⟩ := fb_some hE
          refine pm_callV (As := [.int 2]) (rest := []) hG hR dX6_readPart_89 (lkX6_60 _ rfl) okV_X6_readPart rfl rfl (c_X6_readPart_k2 (d := 23) (by decide) h18) rfl rfl hdd (Nat.le_refl _) (Nat.le_refl _) (by decide) (fx_kv ?_)
          refine pm_aloadn hG dX6_readPart_92 rfl ?_
          refine pm_getf hG dX6_readPart_93 (flX6_20 _ rfl) rfl rfl ?_
          refine pm_iconst (v := (-1)) hG dX6_readPart_96 (by decide) ?_
          obtain ⟨r21, h20, hE⟩ := fb_some hE
          refine pm_callV (As := [.int (-1)]) (rest := []) hG hR dX6_readPart_97 (lkX6_50 _ rfl) okV_X9_append rfl rfl (tappend_28 (d := 23) (by decide) h20) rfl rfl hdd (Nat.le_refl _) (Nat.le_refl _) (by decide) (fx_ki ?_)
          refine pm_pop hG dX6_readPart_100 rfl ?_
          refine pm_goto (tgt := 143) hG dX6_readPart_101 rfl ?_
          exact pm_vret hG hF dX6_readPart_143 rfl (Nat.le_refl _) (Nat.le_refl _) (fx_rvc hE)
      · replace hE := fx_f c7 hE
        refine pm_aloadn hG dX6_readPart_39 rfl ?_
        refine pm_dup hG dX6_readPart_40 rfl ?_
        refine pm_getf hG dX6_readPart_41 (flX6_26 _ rfl) rfl rfl ?_
        refine pm_iconst (v := 1) hG dX6_readPart_44 (by decide) ?_
        refine pm_iadd hG dX6_readPart_45 ?_
        refine pm_putf hG dX6_readPart_46 (fwX6_26 _ rfl) rfl rfl rfl ?_
        refine ci_105 ?_
        refine fx_letc hE (fun S22 hE => ?_)
        refine pm_aloadn hG dX6_readPart_49 rfl ?_
        refine pm_getf hG dX6_readPart_50 (flX6_20 _ rfl) rfl rfl ?_
        refine pm_bipush (v := (-20)) hG dX6_readPart_53 (by decide) ?_
        refine pm_iloadn hG dX6_readPart_55 rfl ?_
        refine pm_isub hG dX6_readPart_56 ?_
        obtain ⟨r24, h23, hE⟩ := fb_some hE
        refine pm_callV (As := [.int ((-20) - x5)]) (rest := []) hG hR dX6_readPart_57 (lkX6_50 _ rfl) okV_X9_append rfl rfl (tappend_28 (d := 23) (by decide) h23) rfl rfl hdd (Nat.le_refl _) (Nat.le_refl _) (by decide) (fx_ki ?_)
        refine pm_pop hG dX6_readPart_60 rfl ?_
        refine pm_goto (tgt := 143) hG dX6_readPart_61 rfl ?_
        exact pm_vret hG hF dX6_readPart_143 rfl (Nat.le_refl _) (Nat.le_refl _) (fx_rvc hE)
    · replace hE := fx_f c6 hE
      refine pm_aloadn hG dX6_readPart_28 rfl ?_
      obtain ⟨r26, h25, hE⟩ := fb_some hE
      refine pm_callV (As := []) (rest := []) hG hR dX6_readPart_29 (lkX6_74 _ rfl) okV_X6_readNumber rfl rfl (c_X6_readNumber (d := 23) (by decide) h25) rfl rfl hdd (Nat.le_refl _) (Nat.le_refl _) (by decide) (fx_kv ?_)
      refine pm_goto (tgt := 143) hG dX6_readPart_32 rfl ?_
      exact pm_vret hG hF dX6_readPart_143 rfl (Nat.le_refl _) (Nat.le_refl _) (fx_rvc hE)
  · replace c2 := Int32.not_le.mp c2
    replace hE := fx_t c2 hE
    refine pm_iconst (v := (-1)) hG dX6_readPart_9 (by decide) ?_
    refine pm_goto (tgt := 20) hG dX6_readPart_10 rfl ?_
    refine pm_istoreXn (loc' := [some (.ref (B + 27)), some (.int 1), some (.int x1), some (.int (-1))]) hG dX6_readPart_20 (by decide) (pm_c1b rfl) rfl ?_
    refine pm_iloadn hG dX6_readPart_21 rfl ?_
    refine pm_callS (As := [.int x1]) (rest := []) hG hR dX6_readPart_22 (lkX6_70 _ rfl) okS_X6_isDigit (c_X6_isDigit (d := 23) (by decide) rfl) rfl rfl hdd (Nat.le_refl _) (Nat.le_refl _) (by decide) (fx_ki ?_)
    refine pm_if_eq (tgt := 35) hG dX6_readPart_25 rfl (fun c27 => ?_) (fun c27 => ?_)
    · replace hE := fx_t c27 hE
      refine pm_iloadn hG dX6_readPart_35 rfl ?_
      refine pm_if_lt (tgt := 64) hG dX6_readPart_36 rfl (fun _ => ?_) (fun q => absurd q (by decide))
      refine pm_iloadn hG dX6_readPart_64 rfl ?_
      refine pm_bipush (v := 33) hG dX6_readPart_65 (by decide) ?_
      refine pm_icmp_ne (tgt := 104) hG dX6_readPart_67 rfl (fun c28 => ?_) (fun c28 => ?_)
      · replace hE := fx_f c28 hE
        refine pm_iloadn hG dX6_readPart_104 rfl ?_
        refine pm_bipush (v := 40) hG dX6_readPart_105 (by decide) ?_
        refine pm_icmp_ne (tgt := 139) hG dX6_readPart_107 rfl (fun c29 => ?_) (fun c29 => ?_)
        · replace hE := fx_f c29 hE
          refine pm_aloadn hG dX6_readPart_139 rfl ?_
          obtain ⟨r31, h30, hE⟩ := fb_some hE
          refine pm_callV (As := []) (rest := []) hG hR dX6_readPart_140 (lkX6_41 _ rfl) okV_X6_fail rfl rfl (c_X6_fail (d := 23) (by decide) h30) rfl rfl hdd (Nat.le_refl _) (Nat.le_refl _) (by decide) (fx_kv ?_)
          exact pm_vret hG hF dX6_readPart_143 rfl (Nat.le_refl _) (Nat.le_refl _) (fx_rvc hE)
        · replace hE := fx_t c29 hE
          refine pm_iloadn hG dX6_readPart_110 rfl ?_
          refine pm_iconst (v := 5) hG dX6_readPart_111 (by decide) ?_
          refine pm_icmp_ge (tgt := 139) hG dX6_readPart_112 rfl (fun q => absurd q (by decide)) (fun _ => ?_)
          refine pm_aloadn hG dX6_readPart_115 rfl ?_
          refine pm_dup hG dX6_readPart_116 rfl ?_
          refine pm_getf hG dX6_readPart_117 (flX6_26 _ rfl) rfl rfl ?_
          refine pm_iconst (v := 1) hG dX6_readPart_120 (by decide) ?_
          refine pm_iadd hG dX6_readPart_121 ?_
          refine pm_putf hG dX6_readPart_122 (fwX6_26 _ rfl) rfl rfl rfl ?_
          refine ci_105 ?_
          refine fx_letc hE (fun S32 hE => ?_)
          refine pm_aloadn hG dX6_readPart_125 rfl ?_
          refine pm_iloadn hG dX6_readPart_126 rfl ?_
          refine pm_iconst (v := 1) hG dX6_readPart_127 (by decide) ?_
          refine pm_iadd hG dX6_readPart_128 ?_
          refine pm_top (v := 2) (by decide) ?_
          obtain ⟨r34, h33, hE⟩ := fb_some hE
          refine pm_callV (As := [.int 2]) (rest := []) hG hR dX6_readPart_129 (lkX6_33 _ rfl) okV_X6_readText rfl rfl (c_X6_readText_k2 (d := 23) (by decide) h33) rfl rfl hdd (Nat.le_refl _) (Nat.le_refl _) (by decide) (fx_kv ?_)
          refine pm_aloadn hG dX6_readPart_132 rfl ?_
          obtain ⟨r36, h35, hE⟩ := fb_some hE
          refine pm_callV (As := []) (rest := []) hG hR dX6_readPart_133 (lkX6_77 _ rfl) okV_X6_readClosing rfl rfl (c_X6_readClosing (d := 23) (by decide) h35) rfl rfl hdd (Nat.le_refl _) (Nat.le_refl _) (by decide) (fx_kv ?_)
          refine pm_goto (tgt := 143) hG dX6_readPart_136 rfl ?_
          exact pm_vret hG hF dX6_readPart_143 rfl (Nat.le_refl _) (Nat.le_refl _) (fx_rvc hE)
      · replace hE := fx_t c28 hE
        refine pm_iloadn hG dX6_readPart_70 rfl ?_
        refine pm_iconst (v := 5) hG dX6_readPart_71 (by decide) ?_
        refine pm_icmp_ge (tgt := 104) hG dX6_readPart_72 rfl (fun q => absurd q (by decide)) (fun _ => ?_)
        refine pm_aloadn hG dX6_readPart_75 rfl ?_
        refine pm_dup hG dX6_readPart_76 rfl ?_
        refine pm_getf hG dX6_readPart_77 (flX6_26 _ rfl) rfl rfl ?_
        refine pm_iconst (v := 1) hG dX6_readPart_80 (by decide) ?_
        refine pm_iadd hG dX6_readPart_81 ?_
        refine pm_putf hG dX6_readPart_82 (fwX6_26 _ rfl) rfl rfl rfl ?_
        refine ci_105 ?_
        refine fx_letc hE (fun S37 hE => ?_)
        refine pm_aloadn hG dX6_readPart_85 rfl ?_
        refine pm_iloadn hG dX6_readPart_86 rfl ?_
        refine pm_iconst (v := 1) hG dX6_readPart_87 (by decide) ?_
        refine pm_iadd hG dX6_readPart_88 ?_
        refine pm_top (v := 2) (by decide) ?_
        obtain ⟨r39, h38, hE⟩ := fb_some hE
        refine pm_callV (As := [.int 2]) (rest := []) hG hR dX6_readPart_89 (lkX6_60 _ rfl) okV_X6_readPart rfl rfl (c_X6_readPart_k2 (d := 23) (by decide) h38) rfl rfl hdd (Nat.le_refl _) (Nat.le_refl _) (by decide) (fx_kv ?_)
        refine pm_aloadn hG dX6_readPart_92 rfl ?_
        refine pm_getf hG dX6_readPart_93 (flX6_20 _ rfl) rfl rfl ?_
        refine pm_iconst (v := (-1)) hG dX6_readPart_96 (by decide) ?_
        obtain ⟨r41, h40, hE⟩ := fb_some hE
        refine pm_callV (As := [.int (-1)]) (rest := []) hG hR dX6_readPart_97 (lkX6_50 _ rfl) okV_X9_append rfl rfl (tappend_28 (d := 23) (by decide) h40) rfl rfl hdd (Nat.le_refl _) (Nat.le_refl _) (by decide) (fx_ki ?_)
        refine pm_pop hG dX6_readPart_100 rfl ?_
        refine pm_goto (tgt := 143) hG dX6_readPart_101 rfl ?_
        exact pm_vret hG hF dX6_readPart_143 rfl (Nat.le_refl _) (Nat.le_refl _) (fx_rvc hE)
    · replace hE := fx_f c27 hE
      refine pm_aloadn hG dX6_readPart_28 rfl ?_
      obtain ⟨r43, h42, hE⟩ := fb_some hE
      refine pm_callV (As := []) (rest := []) hG hR dX6_readPart_29 (lkX6_74 _ rfl) okV_X6_readNumber rfl rfl (c_X6_readNumber (d := 23) (by decide) h42) rfl rfl hdd (Nat.le_refl _) (Nat.le_refl _) (by decide) (fx_kv ?_)
      refine pm_goto (tgt := 143) hG dX6_readPart_32 rfl ?_
      exact pm_vret hG hF dX6_readPart_143 rfl (Nat.le_refl _) (Nat.le_refl _) (fx_rvc hE)
end
