set_option maxRecDepth 100000 in
set_option maxHeartbeats 4000000 in
theorem c_X12_far {d : Nat} {B cnt : Nat} {σ : pm_S} {S : FS} {za : Int32} {zb : Int32} {R : Int32 × FS} (hdd : 3 ≤ d) (hE : f_X12_far S za zb = some R) : pm_met mX12_far d 0 0 B [.ref (B + 54), .int za, .int zb] cnt (mst B S σ) (pm_Qi (fun v σ' cnt' => v = R.1 ∧ σ' = (mst B R.2 σ) ∧ cnt' = cnt)) := by
  refine pm_enter 1 (by decide) (Nat.le_of_ble_eq_true rfl) rfl (fun G hG hR hF => ?_)
  unfold f_X12_far at hE
  refine pm_aloadn hG dX12_far_0 rfl ?_
  refine pm_iloadn hG dX12_far_1 rfl ?_
  refine pm_callV (As := [.int za]) (rest := []) hG hR dX12_far_2 (lkX12_84 _ rfl) okV_X12_isTown rfl rfl (c_X12_isTown (d := 2) (by decide) rfl) rfl rfl hdd (Nat.le_refl _) (Nat.le_refl _) (by decide) (fx_ki ?_)
  refine pm_if_eq (tgt := 16) hG dX12_far_5 rfl (fun c1 => ?_) (fun c1 => ?_)
  · replace hE := fx_t c1 hE
    refine pm_aloadn hG dX12_far_16 rfl ?_
    refine pm_iconst (v := 1) hG dX12_far_17 (by decide) ?_
    obtain ⟨r3, h2, hE⟩ := fb_some hE
    refine pm_callV (As := [.int 1]) (rest := []) hG hR dX12_far_18 (lkX12_80 _ rfl) okV_X12_finds rfl rfl (c_X12_finds (d := 2) (by decide) h2) rfl rfl hdd (Nat.le_refl _) (Nat.le_refl _) (by decide) (fx_ki ?_)
    exact pm_iret hG hF dX12_far_21 rfl (Nat.le_refl _) (Nat.le_refl _) (fx_rim hE)
  · replace hE := fx_f c1 hE
    refine pm_aloadn hG dX12_far_8 rfl ?_
    refine pm_iloadn hG dX12_far_9 rfl ?_
    refine pm_callV (As := [.int zb]) (rest := []) hG hR dX12_far_10 (lkX12_84 _ rfl) okV_X12_isTown rfl rfl (c_X12_isTown (d := 2) (by decide) rfl) rfl rfl hdd (Nat.le_refl _) (Nat.le_refl _) (by decide) (fx_ki ?_)
    refine pm_if_ne (tgt := 22) hG dX12_far_13 rfl (fun c4 => ?_) (fun c4 => ?_)
    · replace hE := fx_f c4 hE
      refine pm_aloadn hG dX12_far_22 rfl ?_
      refine pm_iloadn hG dX12_far_23 rfl ?_
      refine pm_iloadn hG dX12_far_24 rfl ?_
      obtain ⟨r6, h5, hE⟩ := fb_some hE
      refine pm_callV (As := [.int za, .int zb]) (rest := []) hG hR dX12_far_25 (lkX12_88 _ rfl) okV_X12_farOf rfl rfl (c_X12_farOf (d := 2) (by decide) h5) rfl rfl hdd (Nat.le_refl _) (Nat.le_refl _) (by decide) (fx_ki ?_)
      refine pm_istoreXn (loc' := [some (.ref (B + 54)), some (.int za), some (.int zb), some (.int r6.1)]) hG dX12_far_28 (by decide) (pm_c1b rfl) rfl ?_
      refine pm_iloadn hG dX12_far_29 rfl ?_
      refine pm_if_ge (tgt := 41) hG dX12_far_30 rfl (fun c7 => ?_) (fun c7 => ?_)
      · replace c7 := Int32.not_lt.mpr c7
        replace hE := fx_f c7 hE
        refine pm_iloadn hG dX12_far_41 rfl ?_
        exact pm_iret hG hF dX12_far_42 rfl (Nat.le_refl _) (Nat.le_refl _) (fx_rim hE)
      · replace c7 := Int32.not_le.mp c7
        replace hE := fx_t c7 hE
        refine pm_aloadn hG dX12_far_33 rfl ?_
        refine pm_iconst (v := 2) hG dX12_far_34 (by decide) ?_
        obtain ⟨r9, h8, hE⟩ := fb_some hE
        refine pm_callV (As := [.int 2]) (rest := []) hG hR dX12_far_35 (lkX12_80 _ rfl) okV_X12_finds rfl rfl (c_X12_finds (d := 2) (by decide) h8) rfl rfl hdd (Nat.le_refl _) (Nat.le_refl _) (by decide) (fx_ki ?_)
        refine pm_goto (tgt := 42) hG dX12_far_38 rfl ?_
        exact pm_iret hG hF dX12_far_42 rfl (Nat.le_refl _) (Nat.le_refl _) (fx_rim hE)
    · replace hE := fx_t c4 hE
      refine pm_aloadn hG dX12_far_16 rfl ?_
      refine pm_iconst (v := 1) hG dX12_far_17 (by decide) ?_
      obtain ⟨r11, h10, hE⟩ := fb_some hE
      refine pm_callV (As := [.int 1]) (rest := []) hG hR dX12_far_18 (lkX12_80 _ rfl) okV_X12_finds rfl rfl (c_X12_finds (d := 2) (by decide) h10) rfl rfl hdd (Nat.le_refl _) (Nat.le_refl _) (by decide) (fx_ki ?_)
      exact pm_iret hG hF dX12_far_21 rfl (Nat.le_refl _) (Nat.le_refl _) (fx_rim hE)

set_option maxRecDepth 100000 in
set_option maxHeartbeats 4000000 in
theorem c_X12_feed {d : Nat} {B cnt : Nat} {σ : pm_S} {S : FS} {za : Int64} {zb : Int32} {R : Int32 × FS} (hdd : 2 ≤ d) (hE : f_X12_feed S za zb = some R) : pm_met mX12_feed d 0 0 B [.ref (B + 54), .long za, .int zb] cnt (mst B S σ) (pm_Qi (fun v σ' cnt' => v = R.1 ∧ σ' = (mst B R.2 σ) ∧ cnt' = cnt)) := by
  refine pm_enter 1 (by decide) (Nat.le_of_ble_eq_true rfl) rfl (fun G hG hR hF => ?_)
  unfold f_X12_feed at hE
  refine pm_iloadn hG dX12_feed_0 rfl ?_
  refine pm_iconst (v := 1) hG dX12_feed_1 (by decide) ?_
  refine pm_bipush (v := 8) hG dX12_feed_2 (by decide) ?_
  refine pm_callS (As := [.int zb, .int 1, .int 8]) (rest := []) hG hR dX12_feed_4 (lkX12_68 _ rfl) okS_X12_in (c_X12_in (d := 1) (by decide) rfl) rfl rfl hdd (Nat.le_refl _) (Nat.le_refl _) (by decide) (fx_ki ?_)
  refine pm_if_ne (tgt := 16) hG dX12_feed_7 rfl (fun c1 => ?_) (fun c1 => ?_)
  · replace hE := fx_f c1 hE
    refine pm_aloadn hG dX12_feed_16 rfl ?_
    refine pm_getf hG dX12_feed_17 (flX12_7 _ rfl) rfl rfl ?_
    refine pm_bipush (v := 10) hG dX12_feed_20 (by decide) ?_
    refine fx_iald hG dX12_feed_22 rfl (ix_lit (by decide) rfl) ?_
    refine pm_iloadn hG dX12_feed_23 rfl ?_
    refine pm_iadd hG dX12_feed_24 ?_
    refine pm_bipush (v := 60) hG dX12_feed_25 (by decide) ?_
    refine pm_icmp_le (tgt := 36) hG dX12_feed_27 rfl (fun c2 => ?_) (fun c2 => ?_)
    · replace c2 := Int32.not_lt.mpr c2
      replace hE := fx_f c2 hE
      refine pm_iconst (v := 0) hG dX12_feed_36 (by decide) ?_
      refine pm_istoreXi (loc' := [some (.ref (B + 54)), some (.long za), none, some (.int zb), some (.int 0)]) hG dX12_feed_37 (by decide) (pm_c1b rfl) rfl ?_
      have loop39 : ∀ (k39 : FS → Int32 → Option (Int32 × FS)), (∀ (S3 : FS) (x3_4 : Int32), k39 S3  x3_4 = some R → pm_wp mX12_feed G B 90 [some (.ref (B + 54)), some (.long za), none, some (.int zb), some (.int x3_4)] [] 0 0 cnt (mst B S3 σ)) → ∀ (m39 : Nat) (S3 : FS) (x3_4 : Int32), l_X12_feed_39 za zb k39 m39 S3  x3_4 = some R → pm_wp mX12_feed G B 39 [some (.ref (B + 54)), some (.long za), none, some (.int zb), some (.int x3_4)] [] 0 0 cnt (mst B S3 σ) := by
        intro k39 hk39 m39
        induction m39 with
        | zero => intro S3  x3_4 hE; exact fx_no hE
        | succ m39 ih39 =>
          intro S3  x3_4 hE
          rw [l_X12_feed_39] at hE
          refine pm_iloadi hG dX12_feed_39 rfl ?_
          refine pm_iloadn hG dX12_feed_41 rfl ?_
          refine pm_icmp_ge (tgt := 90) hG dX12_feed_42 rfl (fun c4 => ?_) (fun c4 => ?_)
          · replace c4 := Int32.not_lt.mpr c4
            replace hE := fx_f c4 hE
            exact hk39 _ _ hE
          · replace c4 := Int32.not_le.mp c4
            replace hE := fx_t c4 hE
            refine pm_aloadn hG dX12_feed_45 rfl ?_
            refine pm_getf hG dX12_feed_46 (flX12_7 _ rfl) rfl rfl ?_
            refine pm_sipush (v := 1991) hG dX12_feed_49 (by decide) ?_
            refine pm_aloadn hG dX12_feed_52 rfl ?_
            refine pm_getf hG dX12_feed_53 (flX12_7 _ rfl) rfl rfl ?_
            refine pm_bipush (v := 10) hG dX12_feed_56 (by decide) ?_
            refine fx_iald hG dX12_feed_58 rfl (ix_lit (by decide) rfl) ?_
            refine pm_iadd hG dX12_feed_59 ?_
            refine pm_lloadn hG dX12_feed_60 rfl ?_
            refine pm_bipush (v := 8) hG dX12_feed_61 (by decide) ?_
            refine pm_iloadi hG dX12_feed_63 rfl ?_
            refine pm_imul hG dX12_feed_65 ?_
            refine pm_lshr hG dX12_feed_66 rfl ?_
            refine pm_ldc2 hG dX12_feed_67 (ctX12_142 _ rfl) ?_
            refine pm_land hG dX12_feed_70 ?_
            refine pm_l2i hG dX12_feed_71 rfl ?_
            obtain ⟨j5, hj5, hE⟩ := fb_some hE
            refine fx_iast hG dX12_feed_72 rfl hj5 ?_
            refine ma_55 ?_
            refine fx_letm hE (fun S6 hE => ?_)
            refine pm_aloadn hG dX12_feed_73 rfl ?_
            refine pm_getf hG dX12_feed_74 (flX12_7 _ rfl) rfl rfl ?_
            refine pm_bipush (v := 10) hG dX12_feed_77 (by decide) ?_
            refine pm_dup2 hG dX12_feed_79 rfl rfl ?_
            refine fx_iald hG dX12_feed_80 rfl (ix_lit (by decide) rfl) ?_
            refine pm_iconst (v := 1) hG dX12_feed_81 (by decide) ?_
            refine pm_iadd hG dX12_feed_82 ?_
            refine fx_iast hG dX12_feed_83 rfl (ix_lit (by decide) rfl) ?_
            refine ma_55 ?_
            refine fx_letm hE (fun S7 hE => ?_)
            refine pm_iincX (v := x3_4 + 1) (loc' := [some (.ref (B + 54)), some (.long za), none, some (.int zb), some (.int (x3_4 + 1))]) hG dX12_feed_84 rfl (by rfl) (by decide) (pm_c1b rfl) rfl ?_
            refine pm_goto (tgt := 39) hG dX12_feed_87 rfl ?_
            exact ih39 _ _ hE
      refine loop39 _ (fun S8 x8_4 hE => ?_) _ _ _ hE
      refine pm_aloadn hG dX12_feed_90 rfl ?_
      refine pm_getf hG dX12_feed_91 (flX12_7 _ rfl) rfl rfl ?_
      refine pm_bipush (v := 10) hG dX12_feed_94 (by decide) ?_
      refine fx_iald hG dX12_feed_96 rfl (ix_lit (by decide) rfl) ?_
      exact pm_iret hG hF dX12_feed_97 rfl (Nat.le_refl _) (Nat.le_refl _) (fx_rim hE)
    · replace c2 := Int32.not_le.mp c2
      replace hE := fx_t c2 hE
      refine pm_aloadn hG dX12_feed_30 rfl ?_
      refine pm_iconst (v := 4) hG dX12_feed_31 (by decide) ?_
      obtain ⟨r10, h9, hE⟩ := fb_some hE
      refine pm_callV (As := [.int 4]) (rest := []) hG hR dX12_feed_32 (lkX12_80 _ rfl) okV_X12_finds rfl rfl (c_X12_finds (d := 1) (by decide) h9) rfl rfl hdd (Nat.le_refl _) (Nat.le_refl _) (by decide) (fx_ki ?_)
      exact pm_iret hG hF dX12_feed_35 rfl (Nat.le_refl _) (Nat.le_refl _) (fx_rim hE)
  · replace hE := fx_t c1 hE
    refine pm_aloadn hG dX12_feed_10 rfl ?_
    refine pm_iconst (v := 1) hG dX12_feed_11 (by decide) ?_
    obtain ⟨r12, h11, hE⟩ := fb_some hE
    refine pm_callV (As := [.int 1]) (rest := []) hG hR dX12_feed_12 (lkX12_80 _ rfl) okV_X12_finds rfl rfl (c_X12_finds (d := 1) (by decide) h11) rfl rfl hdd (Nat.le_refl _) (Nat.le_refl _) (by decide) (fx_ki ?_)
    exact pm_iret hG hF dX12_feed_15 rfl (Nat.le_refl _) (Nat.le_refl _) (fx_rim hE)

set_option maxRecDepth 100000 in
set_option maxHeartbeats 4000000 in
theorem c_X12_isDay {d : Nat} {B cnt : Nat} {σ : pm_S} {S : FS} {za : Int32} {R : Int32} (hdd : 2 ≤ d) (hE : p_X12_isDay S za = R) : pm_met mX12_isDay d 0 0 B [.int za] cnt (mst B S σ) (pm_Qi (fun v σ' cnt' => v = R ∧ σ' = (mst B S σ) ∧ cnt' = cnt)) := by
  refine pm_enter 0 (by decide) (Nat.le_of_ble_eq_true rfl) rfl (fun G hG hR hF => ?_)
  unfold p_X12_isDay at hE
  refine pm_iloadn hG dX12_isDay_0 rfl ?_
  refine pm_iconst (v := 0) hG dX12_isDay_1 (by decide) ?_
  refine pm_sipush (v := 2000) hG dX12_isDay_2 (by decide) ?_
  refine pm_callS (As := [.int za, .int 0, .int 2000]) (rest := []) hG hR dX12_isDay_5 (lkX12_68 _ rfl) okS_X12_in (c_X12_in (d := 1) (by decide) rfl) rfl rfl hdd (Nat.le_refl _) (Nat.le_refl _) (by decide) (fx_ki ?_)
  exact pm_zret hG hF dX12_isDay_8 rfl (pm_nz pb_X12_in) (Nat.le_refl _) (Nat.le_refl _) (fx_pi hE)

set_option maxRecDepth 100000 in
set_option maxHeartbeats 4000000 in
theorem c_X12_force {d : Nat} {B cnt : Nat} {σ : pm_S} {S : FS} {za : Int32} {zb : Int32} {zc : Int32} {R : Int32 × FS} (hdd : 3 ≤ d) (hE : f_X12_force S za zb zc = some R) : pm_met mX12_force d 0 0 B [.ref (B + 54), .int za, .int zb, .int zc] cnt (mst B S σ) (pm_Qi (fun v σ' cnt' => v = R.1 ∧ σ' = (mst B R.2 σ) ∧ cnt' = cnt)) := by
  refine pm_enter 1 (by decide) (Nat.le_of_ble_eq_true rfl) rfl (fun G hG hR hF => ?_)
  unfold f_X12_force at hE
  refine pm_iloadn hG dX12_force_0 rfl ?_
  refine pm_iconst (v := 0) hG dX12_force_1 (by decide) ?_
  refine pm_iconst (v := 4) hG dX12_force_2 (by decide) ?_
  refine pm_callS (As := [.int za, .int 0, .int 4]) (rest := []) hG hR dX12_force_3 (lkX12_68 _ rfl) okS_X12_in (c_X12_in (d := 2) (by decide) rfl) rfl rfl hdd (Nat.le_refl _) (Nat.le_refl _) (by decide) (fx_ki ?_)
  refine pm_if_eq (tgt := 27) hG dX12_force_6 rfl (fun c1 => ?_) (fun c1 => ?_)
  · replace hE := fx_t c1 hE
    refine pm_aloadn hG dX12_force_27 rfl ?_
    refine pm_iconst (v := 1) hG dX12_force_28 (by decide) ?_
    obtain ⟨r3, h2, hE⟩ := fb_some hE
    refine pm_callV (As := [.int 1]) (rest := []) hG hR dX12_force_29 (lkX12_80 _ rfl) okV_X12_finds rfl rfl (c_X12_finds (d := 2) (by decide) h2) rfl rfl hdd (Nat.le_refl _) (Nat.le_refl _) (by decide) (fx_ki ?_)
    exact pm_iret hG hF dX12_force_32 rfl (Nat.le_refl _) (Nat.le_refl _) (fx_rim hE)
  · replace hE := fx_f c1 hE
    refine pm_iloadn hG dX12_force_9 rfl ?_
    refine pm_callS (As := [.int zb]) (rest := []) hG hR dX12_force_10 (lkX12_186 _ rfl) okS_X12_isDay (c_X12_isDay (d := 2) (by decide) rfl) rfl rfl hdd (Nat.le_refl _) (Nat.le_refl _) (by decide) (fx_ki ?_)
    refine pm_if_eq (tgt := 27) hG dX12_force_13 rfl (fun c4 => ?_) (fun c4 => ?_)
    · replace hE := fx_t c4 hE
      refine pm_aloadn hG dX12_force_27 rfl ?_
      refine pm_iconst (v := 1) hG dX12_force_28 (by decide) ?_
      obtain ⟨r6, h5, hE⟩ := fb_some hE
      refine pm_callV (As := [.int 1]) (rest := []) hG hR dX12_force_29 (lkX12_80 _ rfl) okV_X12_finds rfl rfl (c_X12_finds (d := 2) (by decide) h5) rfl rfl hdd (Nat.le_refl _) (Nat.le_refl _) (by decide) (fx_ki ?_)
      exact pm_iret hG hF dX12_force_32 rfl (Nat.le_refl _) (Nat.le_refl _) (fx_rim hE)
    · replace hE := fx_f c4 hE
      refine pm_iloadn hG dX12_force_16 rfl ?_
      refine pm_iconst (v := (-1)) hG dX12_force_17 (by decide) ?_
      refine pm_sipush (v := 2000) hG dX12_force_18 (by decide) ?_
      refine pm_callS (As := [.int zc, .int (-1), .int 2000]) (rest := []) hG hR dX12_force_21 (lkX12_68 _ rfl) okS_X12_in (c_X12_in (d := 2) (by decide) rfl) rfl rfl hdd (Nat.le_refl _) (Nat.le_refl _) (by decide) (fx_ki ?_)
      refine pm_if_ne (tgt := 33) hG dX12_force_24 rfl (fun c7 => ?_) (fun c7 => ?_)
      · replace hE := fx_f c7 hE
        refine pm_aloadn hG dX12_force_33 rfl ?_
        refine pm_iloadn hG dX12_force_34 rfl ?_
        refine pm_iloadn hG dX12_force_35 rfl ?_
        refine pm_iloadn hG dX12_force_36 rfl ?_
        obtain ⟨x9, h8, hE⟩ := fb_some hE
        refine pm_callV (As := [.int za, .int zb, .int zc]) (rest := []) hG hR dX12_force_37 (lkX12_195 _ rfl) okV_X12_inForce rfl rfl (c_X12_inForce (d := 2) (by decide) h8) rfl rfl hdd (Nat.le_refl _) (Nat.le_refl _) (by decide) (fx_ki ?_)
        refine pm_istoreXi (loc' := [some (.ref (B + 54)), some (.int za), some (.int zb), some (.int zc), some (.int x9)]) hG dX12_force_40 (by decide) (pm_c1b rfl) rfl ?_
        refine pm_iloadi hG dX12_force_42 rfl ?_
        refine pm_if_ge (tgt := 55) hG dX12_force_44 rfl (fun c10 => ?_) (fun c10 => ?_)
        · replace c10 := Int32.not_lt.mpr c10
          replace hE := fx_f c10 hE
          refine pm_iloadi hG dX12_force_55 rfl ?_
          exact pm_iret hG hF dX12_force_57 rfl (Nat.le_refl _) (Nat.le_refl _) (fx_rim hE)
        · replace c10 := Int32.not_le.mp c10
          replace hE := fx_t c10 hE
          refine pm_aloadn hG dX12_force_47 rfl ?_
          refine pm_iconst (v := 2) hG dX12_force_48 (by decide) ?_
          obtain ⟨r12, h11, hE⟩ := fb_some hE
          refine pm_callV (As := [.int 2]) (rest := []) hG hR dX12_force_49 (lkX12_80 _ rfl) okV_X12_finds rfl rfl (c_X12_finds (d := 2) (by decide) h11) rfl rfl hdd (Nat.le_refl _) (Nat.le_refl _) (by decide) (fx_ki ?_)
          refine pm_goto (tgt := 57) hG dX12_force_52 rfl ?_
          exact pm_iret hG hF dX12_force_57 rfl (Nat.le_refl _) (Nat.le_refl _) (fx_rim hE)
      · replace hE := fx_t c7 hE
        refine pm_aloadn hG dX12_force_27 rfl ?_
        refine pm_iconst (v := 1) hG dX12_force_28 (by decide) ?_
        obtain ⟨r14, h13, hE⟩ := fb_some hE
        refine pm_callV (As := [.int 1]) (rest := []) hG hR dX12_force_29 (lkX12_80 _ rfl) okV_X12_finds rfl rfl (c_X12_finds (d := 2) (by decide) h13) rfl rfl hdd (Nat.le_refl _) (Nat.le_refl _) (by decide) (fx_ki ?_)
        exact pm_iret hG hF dX12_force_32 rfl (Nat.le_refl _) (Nat.le_refl _) (fx_rim hE)

set_option maxRecDepth 100000 in
set_option maxHeartbeats 4000000 in
theorem c_X12_found {d : Nat} {B cnt : Nat} {σ : pm_S} {S : FS} {za : Int32} {R : Int32 × FS} (hdd : 2 ≤ d) (hE : f_X12_found S za = some R) : pm_met mX12_found d 0 0 B [.ref (B + 54), .int za] cnt (mst B S σ) (pm_Qi (fun v σ' cnt' => v = R.1 ∧ σ' = (mst B R.2 σ) ∧ cnt' = cnt)) := by
  refine pm_enter 0 (by decide) (Nat.le_of_ble_eq_true rfl) rfl (fun G hG hR hF => ?_)
  unfold f_X12_found at hE
  refine pm_iloadn hG dX12_found_0 rfl ?_
  refine pm_iconst (v := 1) hG dX12_found_1 (by decide) ?_
  refine pm_iconst (v := 5) hG dX12_found_2 (by decide) ?_
  refine pm_callS (As := [.int za, .int 1, .int 5]) (rest := []) hG hR dX12_found_3 (lkX12_68 _ rfl) okS_X12_in (c_X12_in (d := 1) (by decide) rfl) rfl rfl hdd (Nat.le_refl _) (Nat.le_refl _) (by decide) (fx_ki ?_)
  refine pm_if_eq (tgt := 18) hG dX12_found_6 rfl (fun c1 => ?_) (fun c1 => ?_)
  · replace hE := fx_t c1 hE
    refine pm_aloadn hG dX12_found_18 rfl ?_
    refine pm_iconst (v := 1) hG dX12_found_19 (by decide) ?_
    obtain ⟨r3, h2, hE⟩ := fb_some hE
    refine pm_callV (As := [.int 1]) (rest := []) hG hR dX12_found_20 (lkX12_80 _ rfl) okV_X12_finds rfl rfl (c_X12_finds (d := 1) (by decide) h2) rfl rfl hdd (Nat.le_refl _) (Nat.le_refl _) (by decide) (fx_ki ?_)
    exact pm_iret hG hF dX12_found_23 rfl (Nat.le_refl _) (Nat.le_refl _) (fx_rim hE)
  · replace hE := fx_f c1 hE
    refine pm_aloadn hG dX12_found_9 rfl ?_
    refine pm_getf hG dX12_found_10 (flX12_16 _ rfl) rfl rfl ?_
    refine pm_iloadn hG dX12_found_13 rfl ?_
    obtain ⟨j4, hj4, hE⟩ := fb_some hE
    refine fx_iald hG dX12_found_14 rfl hj4 ?_
    refine pm_goto (tgt := 23) hG dX12_found_15 rfl ?_
    exact pm_iret hG hF dX12_found_23 rfl (Nat.le_refl _) (Nat.le_refl _) (fx_rim hE)

set_option maxRecDepth 100000 in
set_option maxHeartbeats 4000000 in
theorem c_X12_give {d : Nat} {B cnt : Nat} {σ : pm_S} {S : FS} {za : Int32} {zb : Int32} {R : Int32 × FS} (hdd : 3 ≤ d) (hE : f_X12_give S za zb = some R) : pm_met mX12_give d 0 0 B [.ref (B + 54), .int za, .int zb] cnt (mst B S σ) (pm_Qi (fun v σ' cnt' => v = R.1 ∧ σ' = (mst B R.2 σ) ∧ cnt' = cnt)) := by
  refine pm_enter 1 (by decide) (Nat.le_of_ble_eq_true rfl) rfl (fun G hG hR hF => ?_)
  unfold f_X12_give at hE
  refine pm_aloadn hG dX12_give_0 rfl ?_
  refine pm_iloadn hG dX12_give_1 rfl ?_
  refine pm_callV (As := [.int za]) (rest := []) hG hR dX12_give_2 (lkX12_132 _ rfl) okV_X12_isPower rfl rfl (c_X12_isPower (d := 2) (by decide) rfl) rfl rfl hdd (Nat.le_refl _) (Nat.le_refl _) (by decide) (fx_ki ?_)
  refine pm_if_eq (tgt := 29) hG dX12_give_5 rfl (fun c1 => ?_) (fun c1 => ?_)
  · replace hE := fx_t c1 hE
    refine pm_aloadn hG dX12_give_29 rfl ?_
    refine pm_iconst (v := 1) hG dX12_give_30 (by decide) ?_
    obtain ⟨r3, h2, hE⟩ := fb_some hE
    refine pm_callV (As := [.int 1]) (rest := []) hG hR dX12_give_31 (lkX12_80 _ rfl) okV_X12_finds rfl rfl (c_X12_finds (d := 2) (by decide) h2) rfl rfl hdd (Nat.le_refl _) (Nat.le_refl _) (by decide) (fx_ki ?_)
    exact pm_iret hG hF dX12_give_34 rfl (Nat.le_refl _) (Nat.le_refl _) (fx_rim hE)
  · replace hE := fx_f c1 hE
    refine pm_iloadn hG dX12_give_8 rfl ?_
    refine pm_iconst (v := (-1)) hG dX12_give_9 (by decide) ?_
    refine pm_icmp_eq (tgt := 35) hG dX12_give_10 rfl (fun c4 => ?_) (fun c4 => ?_)
    · replace hE := fx_t c4 hE
      refine pm_aloadn hG dX12_give_35 rfl ?_
      refine pm_iloadn hG dX12_give_36 rfl ?_
      refine pm_iconst (v := 2) hG dX12_give_37 (by decide) ?_
      obtain ⟨x6, h5, hE⟩ := fb_some hE
      refine pm_callV (As := [.int za, .int 2]) (rest := []) hG hR dX12_give_38 (lkX12_110 _ rfl) okV_X12_its rfl rfl (c_X12_its (d := 2) (by decide) h5) rfl rfl hdd (Nat.le_refl _) (Nat.le_refl _) (by decide) (fx_ki ?_)
      refine pm_if_lt (tgt := 50) hG dX12_give_41 rfl (fun c7 => ?_) (fun c7 => ?_)
      · replace hE := fx_t c7 hE
        refine pm_aloadn hG dX12_give_50 rfl ?_
        refine pm_iloadn hG dX12_give_51 rfl ?_
        refine pm_iconst (v := 1) hG dX12_give_52 (by decide) ?_
        obtain ⟨x9, h8, hE⟩ := fb_some hE
        refine pm_callV (As := [.int za, .int 1]) (rest := []) hG hR dX12_give_53 (lkX12_110 _ rfl) okV_X12_its rfl rfl (c_X12_its (d := 2) (by decide) h8) rfl rfl hdd (Nat.le_refl _) (Nat.le_refl _) (by decide) (fx_ki ?_)
        refine pm_istoreXn (loc' := [some (.ref (B + 54)), some (.int za), some (.int zb), some (.int x9)]) hG dX12_give_56 (by decide) (pm_c1b rfl) rfl ?_
        refine pm_aloadn hG dX12_give_57 rfl ?_
        refine pm_iloadn hG dX12_give_58 rfl ?_
        refine pm_iconst (v := 1) hG dX12_give_59 (by decide) ?_
        refine pm_iloadn hG dX12_give_60 rfl ?_
        obtain ⟨r11, h10, hE⟩ := fb_some hE
        refine pm_callV (As := [.int za, .int 1, .int zb]) (rest := []) hG hR dX12_give_61 (lkX12_113 _ rfl) okV_X12_makes rfl rfl (c_X12_makes (d := 2) (by decide) h10) rfl rfl hdd (Nat.le_refl _) (Nat.le_refl _) (by decide) (fx_kv ?_)
        refine pm_iloadn hG dX12_give_64 rfl ?_
        exact pm_iret hG hF dX12_give_65 rfl (Nat.le_refl _) (Nat.le_refl _) (fx_rim hE)
      · replace hE := fx_f c7 hE
        refine pm_aloadn hG dX12_give_44 rfl ?_
        refine pm_iconst (v := 3) hG dX12_give_45 (by decide) ?_
        obtain ⟨r13, h12, hE⟩ := fb_some hE
        refine pm_callV (As := [.int 3]) (rest := []) hG hR dX12_give_46 (lkX12_80 _ rfl) okV_X12_finds rfl rfl (c_X12_finds (d := 2) (by decide) h12) rfl rfl hdd (Nat.le_refl _) (Nat.le_refl _) (by decide) (fx_ki ?_)
        exact pm_iret hG hF dX12_give_49 rfl (Nat.le_refl _) (Nat.le_refl _) (fx_rim hE)
    · replace hE := fx_f c4 hE
      refine pm_aloadn hG dX12_give_13 rfl ?_
      refine pm_iloadn hG dX12_give_14 rfl ?_
      refine pm_callV (As := [.int zb]) (rest := []) hG hR dX12_give_15 (lkX12_91 _ rfl) okV_X12_isPerson rfl rfl (c_X12_isPerson (d := 2) (by decide) rfl) rfl rfl hdd (Nat.le_refl _) (Nat.le_refl _) (by decide) (fx_ki ?_)
      refine pm_if_eq (tgt := 29) hG dX12_give_18 rfl (fun c14 => ?_) (fun c14 => ?_)
      · replace hE := fx_t c14 hE
        refine pm_aloadn hG dX12_give_29 rfl ?_
        refine pm_iconst (v := 1) hG dX12_give_30 (by decide) ?_
        obtain ⟨r16, h15, hE⟩ := fb_some hE
        refine pm_callV (As := [.int 1]) (rest := []) hG hR dX12_give_31 (lkX12_80 _ rfl) okV_X12_finds rfl rfl (c_X12_finds (d := 2) (by decide) h15) rfl rfl hdd (Nat.le_refl _) (Nat.le_refl _) (by decide) (fx_ki ?_)
        exact pm_iret hG hF dX12_give_34 rfl (Nat.le_refl _) (Nat.le_refl _) (fx_rim hE)
      · replace hE := fx_f c14 hE
        refine pm_aloadn hG dX12_give_21 rfl ?_
        refine pm_iloadn hG dX12_give_22 rfl ?_
        obtain ⟨x18, h17, hE⟩ := fb_some hE
        refine pm_callV (As := [.int zb]) (rest := []) hG hR dX12_give_23 (lkX12_101 _ rfl) okV_X12_lives rfl rfl (c_X12_lives (d := 2) (by decide) h17) rfl rfl hdd (Nat.le_refl _) (Nat.le_refl _) (by decide) (fx_ki ?_)
        refine pm_if_ne (tgt := 35) hG dX12_give_26 rfl (fun c19 => ?_) (fun c19 => ?_)
        · replace hE := fx_f c19 hE
          refine pm_aloadn hG dX12_give_35 rfl ?_
          refine pm_iloadn hG dX12_give_36 rfl ?_
          refine pm_iconst (v := 2) hG dX12_give_37 (by decide) ?_
          obtain ⟨x21, h20, hE⟩ := fb_some hE
          refine pm_callV (As := [.int za, .int 2]) (rest := []) hG hR dX12_give_38 (lkX12_110 _ rfl) okV_X12_its rfl rfl (c_X12_its (d := 2) (by decide) h20) rfl rfl hdd (Nat.le_refl _) (Nat.le_refl _) (by decide) (fx_ki ?_)
          refine pm_if_lt (tgt := 50) hG dX12_give_41 rfl (fun c22 => ?_) (fun c22 => ?_)
          · replace hE := fx_t c22 hE
            refine pm_aloadn hG dX12_give_50 rfl ?_
            refine pm_iloadn hG dX12_give_51 rfl ?_
            refine pm_iconst (v := 1) hG dX12_give_52 (by decide) ?_
            obtain ⟨x24, h23, hE⟩ := fb_some hE
            refine pm_callV (As := [.int za, .int 1]) (rest := []) hG hR dX12_give_53 (lkX12_110 _ rfl) okV_X12_its rfl rfl (c_X12_its (d := 2) (by decide) h23) rfl rfl hdd (Nat.le_refl _) (Nat.le_refl _) (by decide) (fx_ki ?_)
            refine pm_istoreXn (loc' := [some (.ref (B + 54)), some (.int za), some (.int zb), some (.int x24)]) hG dX12_give_56 (by decide) (pm_c1b rfl) rfl ?_
            refine pm_aloadn hG dX12_give_57 rfl ?_
            refine pm_iloadn hG dX12_give_58 rfl ?_
            refine pm_iconst (v := 1) hG dX12_give_59 (by decide) ?_
            refine pm_iloadn hG dX12_give_60 rfl ?_
            obtain ⟨r26, h25, hE⟩ := fb_some hE
            refine pm_callV (As := [.int za, .int 1, .int zb]) (rest := []) hG hR dX12_give_61 (lkX12_113 _ rfl) okV_X12_makes rfl rfl (c_X12_makes (d := 2) (by decide) h25) rfl rfl hdd (Nat.le_refl _) (Nat.le_refl _) (by decide) (fx_kv ?_)
            refine pm_iloadn hG dX12_give_64 rfl ?_
            exact pm_iret hG hF dX12_give_65 rfl (Nat.le_refl _) (Nat.le_refl _) (fx_rim hE)
          · replace hE := fx_f c22 hE
            refine pm_aloadn hG dX12_give_44 rfl ?_
            refine pm_iconst (v := 3) hG dX12_give_45 (by decide) ?_
            obtain ⟨r28, h27, hE⟩ := fb_some hE
            refine pm_callV (As := [.int 3]) (rest := []) hG hR dX12_give_46 (lkX12_80 _ rfl) okV_X12_finds rfl rfl (c_X12_finds (d := 2) (by decide) h27) rfl rfl hdd (Nat.le_refl _) (Nat.le_refl _) (by decide) (fx_ki ?_)
            exact pm_iret hG hF dX12_give_49 rfl (Nat.le_refl _) (Nat.le_refl _) (fx_rim hE)
        · replace hE := fx_t c19 hE
          refine pm_aloadn hG dX12_give_29 rfl ?_
          refine pm_iconst (v := 1) hG dX12_give_30 (by decide) ?_
          obtain ⟨r30, h29, hE⟩ := fb_some hE
          refine pm_callV (As := [.int 1]) (rest := []) hG hR dX12_give_31 (lkX12_80 _ rfl) okV_X12_finds rfl rfl (c_X12_finds (d := 2) (by decide) h29) rfl rfl hdd (Nat.le_refl _) (Nat.le_refl _) (by decide) (fx_ki ?_)
          exact pm_iret hG hF dX12_give_34 rfl (Nat.le_refl _) (Nat.le_refl _) (fx_rim hE)

set_option maxRecDepth 100000 in
set_option maxHeartbeats 4000000 in
theorem c_X12_goes {d : Nat} {B cnt : Nat} {σ : pm_S} {S : FS} {za : Int32} {zb : Int32} {R : Int32 × FS} (hdd : 4 ≤ d) (hE : f_X12_goes S za zb = some R) : pm_met mX12_goes d 0 0 B [.ref (B + 54), .int za, .int zb] cnt (mst B S σ) (pm_Qi (fun v σ' cnt' => v = R.1 ∧ σ' = (mst B R.2 σ) ∧ cnt' = cnt)) := by
  refine pm_enter 1 (by decide) (Nat.le_of_ble_eq_true rfl) rfl (fun G hG hR hF => ?_)
  unfold f_X12_goes at hE
  refine pm_aloadn hG dX12_goes_0 rfl ?_
  refine pm_aloadn hG dX12_goes_1 rfl ?_
  refine pm_iloadn hG dX12_goes_2 rfl ?_
  refine pm_iconst (v := 4) hG dX12_goes_3 (by decide) ?_
  obtain ⟨x2, h1, hE⟩ := fb_some hE
  refine pm_callV (As := [.int za, .int 4]) (rest := [.ref (B + 54)]) hG hR dX12_goes_4 (lkX12_72 _ rfl) okV_X12_man rfl rfl (c_X12_man (d := 3) (by decide) h1) rfl rfl hdd (Nat.le_refl _) (Nat.le_refl _) (by first | decide | exact Nat.le_of_ble_eq_true rfl) (fx_ki ?_)
  refine pm_iloadn hG dX12_goes_7 rfl ?_
  obtain ⟨r4, h3, hE⟩ := fb_some hE
  refine pm_callV (As := [.int x2, .int zb]) (rest := []) hG hR dX12_goes_8 (lkX12_88 _ rfl) okV_X12_farOf rfl rfl (c_X12_farOf (d := 3) (by decide) h3) rfl rfl hdd (Nat.le_refl _) (Nat.le_refl _) (by decide) (fx_ki ?_)
  refine pm_istoreXn (loc' := [some (.ref (B + 54)), some (.int za), some (.int zb), some (.int r4.1)]) hG dX12_goes_11 (by decide) (pm_c1b rfl) rfl ?_
  refine pm_iloadn hG dX12_goes_12 rfl ?_
  refine pm_if_ge (tgt := 18) hG dX12_goes_13 rfl (fun c5 => ?_) (fun c5 => ?_)
  · replace c5 := Int32.not_lt.mpr c5
    replace hE := fx_f c5 hE
    refine pm_iloadn hG dX12_goes_18 rfl ?_
    refine pm_if_le (tgt := 64) hG dX12_goes_19 rfl (fun c6 => ?_) (fun c6 => ?_)
    · replace c6 := Int32.not_lt.mpr c6
      replace hE := fx_f c6 hE
      refine pm_aloadn hG dX12_goes_64 rfl ?_
      refine pm_getf hG dX12_goes_65 (flX12_7 _ rfl) rfl rfl ?_
      refine pm_bipush (v := 8) hG dX12_goes_68 (by decide) ?_
      refine fx_iald hG dX12_goes_70 rfl (ix_lit (by decide) rfl) ?_
      refine pm_iloadn hG dX12_goes_71 rfl ?_
      refine pm_iadd hG dX12_goes_72 ?_
      exact pm_iret hG hF dX12_goes_73 rfl (Nat.le_refl _) (Nat.le_refl _) (fx_rim hE)
    · replace c6 := Int32.not_le.mp c6
      replace hE := fx_t c6 hE
      refine pm_aloadn hG dX12_goes_22 rfl ?_
      refine pm_iloadn hG dX12_goes_23 rfl ?_
      refine pm_bipush (v := 10) hG dX12_goes_24 (by decide) ?_
      refine pm_aloadn hG dX12_goes_26 rfl ?_
      refine pm_iloadn hG dX12_goes_27 rfl ?_
      obtain ⟨r8, h7, hE⟩ := fb_some hE
      refine pm_callV (As := [.int za]) (rest := [.int 10, .int za, .ref (B + 54)]) hG hR dX12_goes_28 (lkX12_104 _ rfl) okV_X12_knownTo rfl rfl (c_X12_knownTo (d := 3) (by decide) h7) rfl rfl hdd (Nat.le_refl _) (Nat.le_refl _) (by first | decide | exact Nat.le_of_ble_eq_true rfl) (fx_ki ?_)
      obtain ⟨r10, h9, hE⟩ := fb_some hE
      refine pm_callV (As := [.int za, .int 10, .int r8.1]) (rest := []) hG hR dX12_goes_31 (lkX12_97 _ rfl) okV_X12_sets rfl rfl (c_X12_sets (d := 3) (by decide) h9) rfl rfl hdd (Nat.le_refl _) (Nat.le_refl _) (by decide) (fx_kv ?_)
      refine pm_aloadn hG dX12_goes_34 rfl ?_
      refine pm_iloadn hG dX12_goes_35 rfl ?_
      refine pm_iconst (v := 4) hG dX12_goes_36 (by decide) ?_
      refine pm_iconst (v := (-1)) hG dX12_goes_37 (by decide) ?_
      obtain ⟨r12, h11, hE⟩ := fb_some hE
      refine pm_callV (As := [.int za, .int 4, .int (-1)]) (rest := []) hG hR dX12_goes_38 (lkX12_97 _ rfl) okV_X12_sets rfl rfl (c_X12_sets (d := 3) (by decide) h11) rfl rfl hdd (Nat.le_refl _) (Nat.le_refl _) (by decide) (fx_kv ?_)
      refine pm_aloadn hG dX12_goes_41 rfl ?_
      refine pm_iloadn hG dX12_goes_42 rfl ?_
      refine pm_iconst (v := 5) hG dX12_goes_43 (by decide) ?_
      refine pm_iloadn hG dX12_goes_44 rfl ?_
      obtain ⟨r14, h13, hE⟩ := fb_some hE
      refine pm_callV (As := [.int za, .int 5, .int zb]) (rest := []) hG hR dX12_goes_45 (lkX12_97 _ rfl) okV_X12_sets rfl rfl (c_X12_sets (d := 3) (by decide) h13) rfl rfl hdd (Nat.le_refl _) (Nat.le_refl _) (by decide) (fx_kv ?_)
      refine pm_aloadn hG dX12_goes_48 rfl ?_
      refine pm_iloadn hG dX12_goes_49 rfl ?_
      refine pm_bipush (v := 6) hG dX12_goes_50 (by decide) ?_
      refine pm_aloadn hG dX12_goes_52 rfl ?_
      refine pm_getf hG dX12_goes_53 (flX12_7 _ rfl) rfl rfl ?_
      refine pm_bipush (v := 8) hG dX12_goes_56 (by decide) ?_
      refine fx_iald hG dX12_goes_58 rfl (ix_lit (by decide) rfl) ?_
      refine pm_iloadn hG dX12_goes_59 rfl ?_
      refine pm_iadd hG dX12_goes_60 ?_
      obtain ⟨r16, h15, hE⟩ := fb_some hE
      refine pm_callV (As := [.int za, .int 6, .int ((r14.2.2 55 8) + r4.1)]) (rest := []) hG hR dX12_goes_61 (lkX12_97 _ rfl) okV_X12_sets rfl rfl (c_X12_sets (d := 3) (by decide) h15) rfl rfl hdd (Nat.le_refl _) (Nat.le_refl _) (by decide) (fx_kv ?_)
      refine pm_aloadn hG dX12_goes_64 rfl ?_
      refine pm_getf hG dX12_goes_65 (flX12_7 _ rfl) rfl rfl ?_
      refine pm_bipush (v := 8) hG dX12_goes_68 (by decide) ?_
      refine fx_iald hG dX12_goes_70 rfl (ix_lit (by decide) rfl) ?_
      refine pm_iloadn hG dX12_goes_71 rfl ?_
      refine pm_iadd hG dX12_goes_72 ?_
      exact pm_iret hG hF dX12_goes_73 rfl (Nat.le_refl _) (Nat.le_refl _) (fx_rim hE)
  · replace c5 := Int32.not_le.mp c5
    replace hE := fx_t c5 hE
    refine pm_iconst (v := (-1)) hG dX12_goes_16 (by decide) ?_
    exact pm_iret hG hF dX12_goes_17 rfl (Nat.le_refl _) (Nat.le_refl _) (fx_rim hE)

set_option maxRecDepth 100000 in
set_option maxHeartbeats 4000000 in
theorem c_X12_go {d : Nat} {B cnt : Nat} {σ : pm_S} {S : FS} {za : Int32} {zb : Int32} {R : Int32 × FS} (hdd : 5 ≤ d) (hE : f_X12_go S za zb = some R) : pm_met mX12_go d 0 0 B [.ref (B + 54), .int za, .int zb] cnt (mst B S σ) (pm_Qi (fun v σ' cnt' => v = R.1 ∧ σ' = (mst B R.2 σ) ∧ cnt' = cnt)) := by
  refine pm_enter 1 (by decide) (Nat.le_of_ble_eq_true rfl) rfl (fun G hG hR hF => ?_)
  unfold f_X12_go at hE
  refine pm_aloadn hG dX12_go_0 rfl ?_
  refine pm_iloadn hG dX12_go_1 rfl ?_
  refine pm_callV (As := [.int za]) (rest := []) hG hR dX12_go_2 (lkX12_91 _ rfl) okV_X12_isPerson rfl rfl (c_X12_isPerson (d := 4) (by decide) rfl) rfl rfl hdd (Nat.le_refl _) (Nat.le_refl _) (by decide) (fx_ki ?_)
  refine pm_if_eq (tgt := 16) hG dX12_go_5 rfl (fun c1 => ?_) (fun c1 => ?_)
  · replace hE := fx_t c1 hE
    refine pm_aloadn hG dX12_go_16 rfl ?_
    refine pm_iconst (v := 1) hG dX12_go_17 (by decide) ?_
    obtain ⟨r3, h2, hE⟩ := fb_some hE
    refine pm_callV (As := [.int 1]) (rest := []) hG hR dX12_go_18 (lkX12_80 _ rfl) okV_X12_finds rfl rfl (c_X12_finds (d := 4) (by decide) h2) rfl rfl hdd (Nat.le_refl _) (Nat.le_refl _) (by decide) (fx_ki ?_)
    exact pm_iret hG hF dX12_go_21 rfl (Nat.le_refl _) (Nat.le_refl _) (fx_rim hE)
  · replace hE := fx_f c1 hE
    refine pm_aloadn hG dX12_go_8 rfl ?_
    refine pm_iloadn hG dX12_go_9 rfl ?_
    refine pm_callV (As := [.int zb]) (rest := []) hG hR dX12_go_10 (lkX12_84 _ rfl) okV_X12_isTown rfl rfl (c_X12_isTown (d := 4) (by decide) rfl) rfl rfl hdd (Nat.le_refl _) (Nat.le_refl _) (by decide) (fx_ki ?_)
    refine pm_if_ne (tgt := 22) hG dX12_go_13 rfl (fun c4 => ?_) (fun c4 => ?_)
    · replace hE := fx_f c4 hE
      refine pm_aloadn hG dX12_go_22 rfl ?_
      refine pm_iloadn hG dX12_go_23 rfl ?_
      obtain ⟨x6, h5, hE⟩ := fb_some hE
      refine pm_callV (As := [.int za]) (rest := []) hG hR dX12_go_24 (lkX12_101 _ rfl) okV_X12_lives rfl rfl (c_X12_lives (d := 4) (by decide) h5) rfl rfl hdd (Nat.le_refl _) (Nat.le_refl _) (by decide) (fx_ki ?_)
      refine pm_if_eq (tgt := 39) hG dX12_go_27 rfl (fun c7 => ?_) (fun c7 => ?_)
      · replace hE := fx_t c7 hE
        refine pm_aloadn hG dX12_go_39 rfl ?_
        refine pm_iconst (v := 3) hG dX12_go_40 (by decide) ?_
        obtain ⟨r9, h8, hE⟩ := fb_some hE
        refine pm_callV (As := [.int 3]) (rest := []) hG hR dX12_go_41 (lkX12_80 _ rfl) okV_X12_finds rfl rfl (c_X12_finds (d := 4) (by decide) h8) rfl rfl hdd (Nat.le_refl _) (Nat.le_refl _) (by decide) (fx_ki ?_)
        exact pm_iret hG hF dX12_go_44 rfl (Nat.le_refl _) (Nat.le_refl _) (fx_rim hE)
      · replace hE := fx_f c7 hE
        refine pm_aloadn hG dX12_go_30 rfl ?_
        refine pm_iloadn hG dX12_go_31 rfl ?_
        refine pm_iconst (v := 4) hG dX12_go_32 (by decide) ?_
        obtain ⟨x11, h10, hE⟩ := fb_some hE
        refine pm_callV (As := [.int za, .int 4]) (rest := []) hG hR dX12_go_33 (lkX12_72 _ rfl) okV_X12_man rfl rfl (c_X12_man (d := 4) (by decide) h10) rfl rfl hdd (Nat.le_refl _) (Nat.le_refl _) (by decide) (fx_ki ?_)
        refine pm_if_ge (tgt := 45) hG dX12_go_36 rfl (fun c12 => ?_) (fun c12 => ?_)
        · replace c12 := Int32.not_lt.mpr c12
          replace hE := fx_f c12 hE
          refine pm_aloadn hG dX12_go_45 rfl ?_
          refine pm_iloadn hG dX12_go_46 rfl ?_
          refine pm_iloadn hG dX12_go_47 rfl ?_
          obtain ⟨r14, h13, hE⟩ := fb_some hE
          refine pm_callV (As := [.int za, .int zb]) (rest := []) hG hR dX12_go_48 (lkX12_119 _ rfl) okV_X12_goes rfl rfl (c_X12_goes (d := 4) (by decide) h13) rfl rfl hdd (Nat.le_refl _) (Nat.le_refl _) (by decide) (fx_ki ?_)
          refine pm_istoreXn (loc' := [some (.ref (B + 54)), some (.int za), some (.int zb), some (.int r14.1)]) hG dX12_go_51 (by decide) (pm_c1b rfl) rfl ?_
          refine pm_iloadn hG dX12_go_52 rfl ?_
          refine pm_if_ge (tgt := 64) hG dX12_go_53 rfl (fun c15 => ?_) (fun c15 => ?_)
          · replace c15 := Int32.not_lt.mpr c15
            replace hE := fx_f c15 hE
            refine pm_iloadn hG dX12_go_64 rfl ?_
            exact pm_iret hG hF dX12_go_65 rfl (Nat.le_refl _) (Nat.le_refl _) (fx_rim hE)
          · replace c15 := Int32.not_le.mp c15
            replace hE := fx_t c15 hE
            refine pm_aloadn hG dX12_go_56 rfl ?_
            refine pm_iconst (v := 2) hG dX12_go_57 (by decide) ?_
            obtain ⟨r17, h16, hE⟩ := fb_some hE
            refine pm_callV (As := [.int 2]) (rest := []) hG hR dX12_go_58 (lkX12_80 _ rfl) okV_X12_finds rfl rfl (c_X12_finds (d := 4) (by decide) h16) rfl rfl hdd (Nat.le_refl _) (Nat.le_refl _) (by decide) (fx_ki ?_)
            refine pm_goto (tgt := 65) hG dX12_go_61 rfl ?_
            exact pm_iret hG hF dX12_go_65 rfl (Nat.le_refl _) (Nat.le_refl _) (fx_rim hE)
        · replace c12 := Int32.not_le.mp c12
          replace hE := fx_t c12 hE
          refine pm_aloadn hG dX12_go_39 rfl ?_
          refine pm_iconst (v := 3) hG dX12_go_40 (by decide) ?_
          obtain ⟨r19, h18, hE⟩ := fb_some hE
          refine pm_callV (As := [.int 3]) (rest := []) hG hR dX12_go_41 (lkX12_80 _ rfl) okV_X12_finds rfl rfl (c_X12_finds (d := 4) (by decide) h18) rfl rfl hdd (Nat.le_refl _) (Nat.le_refl _) (by decide) (fx_ki ?_)
          exact pm_iret hG hF dX12_go_44 rfl (Nat.le_refl _) (Nat.le_refl _) (fx_rim hE)
    · replace hE := fx_t c4 hE
      refine pm_aloadn hG dX12_go_16 rfl ?_
      refine pm_iconst (v := 1) hG dX12_go_17 (by decide) ?_
      obtain ⟨r21, h20, hE⟩ := fb_some hE
      refine pm_callV (As := [.int 1]) (rest := []) hG hR dX12_go_18 (lkX12_80 _ rfl) okV_X12_finds rfl rfl (c_X12_finds (d := 4) (by decide) h20) rfl rfl hdd (Nat.le_refl _) (Nat.le_refl _) (by decide) (fx_ki ?_)
      exact pm_iret hG hF dX12_go_21 rfl (Nat.le_refl _) (Nat.le_refl _) (fx_rim hE)

set_option maxRecDepth 100000 in
set_option maxHeartbeats 4000000 in
theorem c_X12_guard {d : Nat} {B cnt : Nat} {σ : pm_S} {S : FS} {za : Int32} {zb : Int32} {R : Int32 × FS} (hdd : 2 ≤ d) (hE : f_X12_guard S za zb = some R) : pm_met mX12_guard d 0 0 B [.ref (B + 54), .int za, .int zb] cnt (mst B S σ) (pm_Qi (fun v σ' cnt' => v = R.1 ∧ σ' = (mst B R.2 σ) ∧ cnt' = cnt)) := by
  refine pm_enter 1 (by decide) (Nat.le_of_ble_eq_true rfl) rfl (fun G hG hR hF => ?_)
  unfold f_X12_guard at hE
  refine pm_iloadn hG dX12_guard_0 rfl ?_
  refine pm_iconst (v := 0) hG dX12_guard_1 (by decide) ?_
  refine pm_iconst (v := 4) hG dX12_guard_2 (by decide) ?_
  refine pm_callS (As := [.int za, .int 0, .int 4]) (rest := []) hG hR dX12_guard_3 (lkX12_68 _ rfl) okS_X12_in (c_X12_in (d := 1) (by decide) rfl) rfl rfl hdd (Nat.le_refl _) (Nat.le_refl _) (by decide) (fx_ki ?_)
  refine pm_if_eq (tgt := 19) hG dX12_guard_6 rfl (fun c1 => ?_) (fun c1 => ?_)
  · replace hE := fx_t c1 hE
    refine pm_aloadn hG dX12_guard_19 rfl ?_
    refine pm_iconst (v := 1) hG dX12_guard_20 (by decide) ?_
    obtain ⟨r3, h2, hE⟩ := fb_some hE
    refine pm_callV (As := [.int 1]) (rest := []) hG hR dX12_guard_21 (lkX12_80 _ rfl) okV_X12_finds rfl rfl (c_X12_finds (d := 1) (by decide) h2) rfl rfl hdd (Nat.le_refl _) (Nat.le_refl _) (by decide) (fx_ki ?_)
    exact pm_iret hG hF dX12_guard_24 rfl (Nat.le_refl _) (Nat.le_refl _) (fx_rim hE)
  · replace hE := fx_f c1 hE
    refine pm_iloadn hG dX12_guard_9 rfl ?_
    refine pm_iconst (v := 0) hG dX12_guard_10 (by decide) ?_
    refine pm_bipush (v := 6) hG dX12_guard_11 (by decide) ?_
    refine pm_callS (As := [.int zb, .int 0, .int 6]) (rest := []) hG hR dX12_guard_13 (lkX12_68 _ rfl) okS_X12_in (c_X12_in (d := 1) (by decide) rfl) rfl rfl hdd (Nat.le_refl _) (Nat.le_refl _) (by decide) (fx_ki ?_)
    refine pm_if_ne (tgt := 25) hG dX12_guard_16 rfl (fun c4 => ?_) (fun c4 => ?_)
    · replace hE := fx_f c4 hE
      refine pm_aloadn hG dX12_guard_25 rfl ?_
      refine pm_getf hG dX12_guard_26 (flX12_7 _ rfl) rfl rfl ?_
      refine pm_sipush (v := 1986) hG dX12_guard_29 (by decide) ?_
      refine pm_iloadn hG dX12_guard_32 rfl ?_
      refine pm_iadd hG dX12_guard_33 ?_
      obtain ⟨j5, hj5, hE⟩ := fb_some hE
      refine fx_iald hG dX12_guard_34 rfl hj5 ?_
      refine fx_letv hE (fun x6 hE => ?_)
      refine pm_istoreXn (loc' := [some (.ref (B + 54)), some (.int za), some (.int zb), some (.int x6)]) hG dX12_guard_35 (by decide) (pm_c1b rfl) rfl ?_
      refine pm_aloadn hG dX12_guard_36 rfl ?_
      refine pm_getf hG dX12_guard_37 (flX12_7 _ rfl) rfl rfl ?_
      refine pm_sipush (v := 1986) hG dX12_guard_40 (by decide) ?_
      refine pm_iloadn hG dX12_guard_43 rfl ?_
      refine pm_iadd hG dX12_guard_44 ?_
      refine pm_iloadn hG dX12_guard_45 rfl ?_
      refine fx_iast hG dX12_guard_46 rfl hj5 ?_
      refine ma_55 ?_
      refine fx_letm hE (fun S7 hE => ?_)
      refine pm_iloadn hG dX12_guard_47 rfl ?_
      exact pm_iret hG hF dX12_guard_48 rfl (Nat.le_refl _) (Nat.le_refl _) (fx_rim hE)
    · replace hE := fx_t c4 hE
      refine pm_aloadn hG dX12_guard_19 rfl ?_
      refine pm_iconst (v := 1) hG dX12_guard_20 (by decide) ?_
      obtain ⟨r9, h8, hE⟩ := fb_some hE
      refine pm_callV (As := [.int 1]) (rest := []) hG hR dX12_guard_21 (lkX12_80 _ rfl) okV_X12_finds rfl rfl (c_X12_finds (d := 1) (by decide) h8) rfl rfl hdd (Nat.le_refl _) (Nat.le_refl _) (by decide) (fx_ki ?_)
      exact pm_iret hG hF dX12_guard_24 rfl (Nat.le_refl _) (Nat.le_refl _) (fx_rim hE)

set_option maxRecDepth 100000 in
set_option maxHeartbeats 4000000 in
theorem c_X12_hasOpen {d : Nat} {B cnt : Nat} {σ : pm_S} {S : FS} {R : Int32} (hdd : 1 ≤ d) (hE : q_X12_hasOpen S = some R) : pm_met mX12_hasOpen d 0 0 B [.ref (B + 54)] cnt (mst B S σ) (pm_Qi (fun v σ' cnt' => v = R ∧ σ' = (mst B S σ) ∧ cnt' = cnt)) := by
  refine pm_enter 1 (by decide) (Nat.le_of_ble_eq_true rfl) rfl (fun G hG hR hF => ?_)
  unfold q_X12_hasOpen at hE
  refine pm_iconst (v := 0) hG dX12_hasOpen_0 (by decide) ?_
  refine pm_istoreXn (loc' := [some (.ref (B + 54)), some (.int 0)]) hG dX12_hasOpen_1 (by decide) (pm_c1b rfl) rfl ?_
  have loop2 : ∀ (k2 : Int32 → Option Int32), (∀  (x1_1 : Int32), k2  x1_1 = some R → pm_wp mX12_hasOpen G B 29 [some (.ref (B + 54)), some (.int x1_1)] [] 0 0 cnt (mst B S σ)) → ∀ (m2 : Nat)  (x1_1 : Int32), l_X12_hasOpen_2 S k2 m2  x1_1 = some R → pm_wp mX12_hasOpen G B 2 [some (.ref (B + 54)), some (.int x1_1)] [] 0 0 cnt (mst B S σ) := by
    intro k2 hk2 m2
    induction m2 with
    | zero => intro  x1_1 hE; exact fx_no hE
    | succ m2 ih2 =>
      intro  x1_1 hE
      rw [l_X12_hasOpen_2] at hE
      refine pm_iloadn hG dX12_hasOpen_2 rfl ?_
      refine pm_aloadn hG dX12_hasOpen_3 rfl ?_
      refine pm_getf hG dX12_hasOpen_4 (flX12_148 _ rfl) rfl rfl ?_
      refine pm_icmp_ge (tgt := 29) hG dX12_hasOpen_7 rfl (fun c2 => ?_) (fun c2 => ?_)
      · replace c2 := Int32.not_lt.mpr c2
        replace hE := fx_f c2 hE
        exact hk2 _ hE
      · replace c2 := Int32.not_le.mp c2
        replace hE := fx_t c2 hE
        refine pm_aloadn hG dX12_hasOpen_10 rfl ?_
        refine pm_getf hG dX12_hasOpen_11 (flX12_28 _ rfl) rfl rfl ?_
        refine pm_iloadn hG dX12_hasOpen_14 rfl ?_
        obtain ⟨j3, hj3, hE⟩ := fb_some hE
        refine fx_iald hG dX12_hasOpen_15 rfl hj3 ?_
        refine pm_bipush (v := 40) hG dX12_hasOpen_16 (by decide) ?_
        refine pm_icmp_ne (tgt := 23) hG dX12_hasOpen_18 rfl (fun c4 => ?_) (fun c4 => ?_)
        · replace hE := fx_f c4 hE
          refine pm_iincX (v := x1_1 + 1) (loc' := [some (.ref (B + 54)), some (.int (x1_1 + 1))]) hG dX12_hasOpen_23 rfl (by rfl) (by decide) (pm_c1b rfl) rfl ?_
          refine pm_goto (tgt := 2) hG dX12_hasOpen_26 rfl ?_
          exact ih2 _ hE
        · replace hE := fx_t c4 hE
          refine pm_iconst (v := 1) hG dX12_hasOpen_21 (by decide) ?_
          exact pm_zret hG hF dX12_hasOpen_22 rfl (by rfl) (Nat.le_refl _) (Nat.le_refl _) (fx_pi (Option.some.inj hE))
  refine loop2 _ (fun  x5_1 hE => ?_) _ _ hE
  refine pm_iconst (v := 0) hG dX12_hasOpen_29 (by decide) ?_
  exact pm_zret hG hF dX12_hasOpen_30 rfl (by rfl) (Nat.le_refl _) (Nat.le_refl _) (fx_pi (Option.some.inj hE))

set_option maxRecDepth 100000 in
set_option maxHeartbeats 4000000 in
theorem c_X12_heir {d : Nat} {B cnt : Nat} {σ : pm_S} {S : FS} {za : Int32} {R : Int32 × FS} (hdd : 5 ≤ d) (h74 : 74 ≤ cnt) (hE : f_X12_heir S za = some R) : pm_met mX12_heir d 2 40 B [.ref (B + 54), .int za] cnt (mst B S σ) (pm_Qi (fun v σ' cnt' => v = R.1 ∧ (∃ τ : pm_S, σ' = (mst B R.2 τ) ∧ ∀ j : Nat, j < cnt → τ j = σ j) ∧ cnt ≤ cnt')) := by
  refine pm_enter 7 (by decide) (Nat.le_of_ble_eq_true rfl) rfl (fun G hG hR hF => ?_)
  unfold f_X12_heir at hE
  refine pm_iloadn hG dX12_heir_0 rfl ?_
  refine pm_if_ge (tgt := 10) hG dX12_heir_1 rfl (fun c1 => ?_) (fun c1 => ?_)
  · replace c1 := Int32.not_lt.mpr c1
    replace hE := fx_f c1 hE
    refine pm_aloadn hG dX12_heir_10 rfl ?_
    refine pm_iconst (v := 2) hG dX12_heir_11 (by decide) ?_
    refine pm_aloadn hG dX12_heir_12 rfl ?_
    refine pm_getf hG dX12_heir_13 (flX12_7 _ rfl) rfl rfl ?_
    refine pm_bipush (v := 8) hG dX12_heir_16 (by decide) ?_
    refine fx_iald hG dX12_heir_18 rfl (ix_lit (by decide) rfl) ?_
    refine pm_aloadn hG dX12_heir_19 rfl ?_
    refine pm_getf hG dX12_heir_20 (flX12_7 _ rfl) rfl rfl ?_
    refine pm_bipush (v := 8) hG dX12_heir_23 (by decide) ?_
    refine fx_iald hG dX12_heir_25 rfl (ix_lit (by decide) rfl) ?_
    obtain ⟨x3, h2, hE⟩ := fb_some hE
    refine pm_callV (As := [.int 2, .int (S.2 55 8), .int (S.2 55 8)]) (rest := []) hG hR dX12_heir_26 (lkX12_195 _ rfl) okV_X12_inForce rfl rfl (c_X12_inForce (d := 4) (by decide) h2) rfl rfl hdd (by decide) (by decide) (by decide) (fx_ki ?_)
    refine pm_istoreXn (loc' := [some (.ref (B + 54)), some (.int za), some (.int x3), none, none, none, none, none, none]) hG dX12_heir_29 (by decide) (pm_c1b rfl) rfl ?_
    refine pm_bipush (v := 20) hG dX12_heir_30 (by decide) ?_
    refine pm_newi (N := 20) hG hR dX12_heir_32 (by decide) (by decide) (by decide) (by decide) (by decide) ?_
    refine pm_nrw (by omega) ?_
    refine fx_letw (F := fun q => (mst B S (pm_up σ cnt (.inl (20, q))))) hE (fun w4 hE => ?_)
    refine pm_nums (cs' := 1) (zs' := 20) (cnt' := cnt + 1) rfl rfl rfl ?_
    refine pm_astoreXn (loc' := [some (.ref (B + 54)), some (.int za), some (.int x3), some (.ref (B + cnt)), none, none, none, none, none]) hG dX12_heir_34 (by decide) (pm_c1b rfl) rfl ?_
    refine pm_bipush (v := 20) hG dX12_heir_35 (by decide) ?_
    refine pm_newi (N := 20) hG hR dX12_heir_37 (by decide) (by decide) (by decide) (by decide) (by decide) ?_
    refine pm_nrw (by omega) ?_
    refine fx_letw (F := fun q => (mst B S (pm_up (pm_up σ cnt (.inl (20, w4))) (cnt + 1) (.inl (20, q))))) hE (fun w5 hE => ?_)
    refine pm_nums (cs' := 2) (zs' := 40) (cnt' := cnt + 2) rfl rfl rfl ?_
    refine pm_astoreXi (loc' := [some (.ref (B + 54)), some (.int za), some (.int x3), some (.ref (B + cnt)), some (.ref (B + (cnt + 1))), none, none, none, none]) hG dX12_heir_39 (by decide) (pm_c1b rfl) rfl ?_
    refine pm_iconst (v := 0) hG dX12_heir_41 (by decide) ?_
    refine pm_istoreXi (loc' := [some (.ref (B + 54)), some (.int za), some (.int x3), some (.ref (B + cnt)), some (.ref (B + (cnt + 1))), some (.int 0), none, none, none]) hG dX12_heir_42 (by decide) (pm_c1b rfl) rfl ?_
    refine pm_iconst (v := 1) hG dX12_heir_44 (by decide) ?_
    refine pm_istoreXi (loc' := [some (.ref (B + 54)), some (.int za), some (.int x3), some (.ref (B + cnt)), some (.ref (B + (cnt + 1))), some (.int 0), some (.int 1), none, none]) hG dX12_heir_45 (by decide) (pm_c1b rfl) rfl ?_
    have loop47 : ∀ (k47 : FS → Int32 → Int32 → (Nat → Int32) → (Nat → Int32) → Option (Int32 × FS)), (∀ (S6 : FS) (x6_5 : Int32) (x6_6 : Int32) (w6_0 : (Nat → Int32)) (w6_1 : (Nat → Int32)), k47 S6  x6_5 x6_6 w6_0 w6_1 = some R → pm_wp mX12_heir G B 207 [some (.ref (B + 54)), some (.int za), some (.int x3), some (.ref (B + cnt)), some (.ref (B + (cnt + 1))), some (.int x6_5), some (.int x6_6), none, none] [] 2 40 (cnt + 2) (mst B S6 (pm_up (pm_up σ cnt (.inl (20, w6_0))) (cnt + 1) (.inl (20, w6_1))))) → ∀ (m47 : Nat) (S6 : FS) (x6_5 : Int32) (x6_6 : Int32) (w6_0 : (Nat → Int32)) (w6_1 : (Nat → Int32)), l_X12_heir_47 x3 k47 m47 S6  x6_5 x6_6 w6_0 w6_1 = some R → pm_wp mX12_heir G B 47 [some (.ref (B + 54)), some (.int za), some (.int x3), some (.ref (B + cnt)), some (.ref (B + (cnt + 1))), some (.int x6_5), some (.int x6_6), none, none] [] 2 40 (cnt + 2) (mst B S6 (pm_up (pm_up σ cnt (.inl (20, w6_0))) (cnt + 1) (.inl (20, w6_1)))) := by
      intro k47 hk47 m47
      induction m47 with
      | zero => intro S6  x6_5 x6_6 w6_0 w6_1 hE; exact fx_no hE
      | succ m47 ih47 =>
        intro S6  x6_5 x6_6 w6_0 w6_1 hE
        rw [l_X12_heir_47] at hE
        refine pm_iloadi hG dX12_heir_47 rfl ?_
        refine pm_aloadn hG dX12_heir_49 rfl ?_
        refine pm_getf hG dX12_heir_50 (flX12_7 _ rfl) rfl rfl ?_
        refine pm_iconst (v := 2) hG dX12_heir_53 (by decide) ?_
        refine fx_iald hG dX12_heir_54 rfl (ix_lit (by decide) rfl) ?_
        refine pm_icmp_ge (tgt := 207) hG dX12_heir_55 rfl (fun c7 => ?_) (fun c7 => ?_)
        · replace c7 := Int32.not_lt.mpr c7
          replace hE := fx_f c7 hE
          exact hk47 _ _ _ _ _ hE
        · replace c7 := Int32.not_le.mp c7
          replace hE := fx_t c7 hE
          refine pm_aloadn hG dX12_heir_58 rfl ?_
          refine pm_iloadi hG dX12_heir_59 rfl ?_
          obtain ⟨r9, h8, hE⟩ := fb_some hE
          refine pm_callV (As := [.int x6_6]) (rest := []) hG hR dX12_heir_61 (lkX12_125 _ rfl) okV_X12_stepsOf rfl rfl (c_X12_stepsOf (d := 4) (by decide) h8) rfl rfl hdd (by decide) (by decide) (by decide) (fx_ki ?_)
          refine pm_istoreXi (loc' := [some (.ref (B + 54)), some (.int za), some (.int x3), some (.ref (B + cnt)), some (.ref (B + (cnt + 1))), some (.int x6_5), some (.int x6_6), some (.int r9.1), none]) hG dX12_heir_64 (by decide) (pm_c1b rfl) rfl ?_
          refine pm_aloadn hG dX12_heir_66 rfl ?_
          refine pm_iloadi hG dX12_heir_67 rfl ?_
          obtain ⟨x11, h10, hE⟩ := fb_some hE
          refine pm_callV (As := [.int x6_6]) (rest := []) hG hR dX12_heir_69 (lkX12_101 _ rfl) okV_X12_lives rfl rfl (c_X12_lives (d := 4) (by decide) h10) rfl rfl hdd (by decide) (by decide) (by decide) (fx_ki ?_)
          refine pm_if_eq (tgt := 201) hG dX12_heir_72 rfl (fun c12 => ?_) (fun c12 => ?_)
          · replace hE := fx_t c12 hE
            refine pm_iincX (v := x6_6 + 1) (loc' := [some (.ref (B + 54)), some (.int za), some (.int x3), some (.ref (B + cnt)), some (.ref (B + (cnt + 1))), some (.int x6_5), some (.int (x6_6 + 1)), some (.int r9.1), none]) hG dX12_heir_201 rfl (by rfl) (by decide) (pm_c1b rfl) rfl ?_
            refine pm_goto (tgt := 47) hG dX12_heir_204 rfl ?_
            refine pm_fg 7 (loc' := [some (.ref (B + 54)), some (.int za), some (.int x3), some (.ref (B + cnt)), some (.ref (B + (cnt + 1))), some (.int x6_5), some (.int (x6_6 + 1)), none, none]) rfl ?_
            exact ih47 _ _ _ _ _ hE
          · replace hE := fx_f c12 hE
            refine pm_iloadi hG dX12_heir_75 rfl ?_
            refine pm_bipush (v := 99) hG dX12_heir_77 (by decide) ?_
            refine pm_icmp_eq (tgt := 201) hG dX12_heir_79 rfl (fun c13 => ?_) (fun c13 => ?_)
            · replace hE := fx_t c13 hE
              refine pm_iincX (v := x6_6 + 1) (loc' := [some (.ref (B + 54)), some (.int za), some (.int x3), some (.ref (B + cnt)), some (.ref (B + (cnt + 1))), some (.int x6_5), some (.int (x6_6 + 1)), some (.int r9.1), none]) hG dX12_heir_201 rfl (by rfl) (by decide) (pm_c1b rfl) rfl ?_
              refine pm_goto (tgt := 47) hG dX12_heir_204 rfl ?_
              refine pm_fg 7 (loc' := [some (.ref (B + 54)), some (.int za), some (.int x3), some (.ref (B + cnt)), some (.ref (B + (cnt + 1))), some (.int x6_5), some (.int (x6_6 + 1)), none, none]) rfl ?_
              exact ih47 _ _ _ _ _ hE
            · replace hE := fx_f c13 hE
              refine pm_aloadn hG dX12_heir_82 rfl ?_
              refine pm_iloadn hG dX12_heir_83 rfl ?_
              refine pm_iloadi hG dX12_heir_84 rfl ?_
              refine pm_iconst (v := (-1)) hG dX12_heir_86 (by decide) ?_
              refine pm_aloadn hG dX12_heir_87 rfl ?_
              refine pm_getf hG dX12_heir_88 (flX12_7 _ rfl) rfl rfl ?_
              refine pm_bipush (v := 8) hG dX12_heir_91 (by decide) ?_
              refine fx_iald hG dX12_heir_93 rfl (ix_lit (by decide) rfl) ?_
              obtain ⟨r15, h14, hE⟩ := fb_some hE
              refine pm_callV (As := [.int x3, .int x6_6, .int (-1), .int (r9.2.2 55 8)]) (rest := []) hG hR dX12_heir_94 (lkX12_214 _ rfl) okV_X12_comesTo rfl rfl (c_X12_comesTo (d := 4) (by decide) h14) rfl rfl hdd (by decide) (by decide) (by decide) (fx_ki ?_)
              refine pm_if_ne (tgt := 103) hG dX12_heir_97 rfl (fun c16 => ?_) (fun c16 => ?_)
              · replace hE := fx_f c16 hE
                refine pm_iloadi hG dX12_heir_103 rfl ?_
                refine pm_istoreXi (loc' := [some (.ref (B + 54)), some (.int za), some (.int x3), some (.ref (B + cnt)), some (.ref (B + (cnt + 1))), some (.int x6_5), some (.int x6_6), some (.int r9.1), some (.int x6_5)]) hG dX12_heir_105 (by decide) (pm_c1b rfl) rfl ?_
                have loop107 : ∀ (k107 : FS → Int32 → (Nat → Int32) → (Nat → Int32) → Option (Int32 × FS)), (∀ (S17 : FS) (x17_8 : Int32) (w17_0 : (Nat → Int32)) (w17_1 : (Nat → Int32)), k107 S17  x17_8 w17_0 w17_1 = some R → pm_wp mX12_heir G B 185 [some (.ref (B + 54)), some (.int za), some (.int x3), some (.ref (B + cnt)), some (.ref (B + (cnt + 1))), some (.int x6_5), some (.int x6_6), some (.int r9.1), some (.int x17_8)] [] 2 40 (cnt + 2) (mst B S17 (pm_up (pm_up σ cnt (.inl (20, w17_0))) (cnt + 1) (.inl (20, w17_1))))) → ∀ (m107 : Nat) (S17 : FS) (x17_8 : Int32) (w17_0 : (Nat → Int32)) (w17_1 : (Nat → Int32)), l_X12_heir_107 x6_6 r9 k107 m107 S17  x17_8 w17_0 w17_1 = some R → pm_wp mX12_heir G B 107 [some (.ref (B + 54)), some (.int za), some (.int x3), some (.ref (B + cnt)), some (.ref (B + (cnt + 1))), some (.int x6_5), some (.int x6_6), some (.int r9.1), some (.int x17_8)] [] 2 40 (cnt + 2) (mst B S17 (pm_up (pm_up σ cnt (.inl (20, w17_0))) (cnt + 1) (.inl (20, w17_1)))) := by
                  intro k107 hk107 m107
                  induction m107 with
                  | zero => intro S17  x17_8 w17_0 w17_1 hE; exact fx_no hE
                  | succ m107 ih107 =>
                    intro S17  x17_8 w17_0 w17_1 hE
                    rw [l_X12_heir_107] at hE
                    refine pm_iloadi hG dX12_heir_107 rfl ?_
                    refine pm_if_le (tgt := 185) hG dX12_heir_109 rfl (fun c18 => ?_) (fun c18 => ?_)
                    · replace c18 := Int32.not_lt.mpr c18
                      replace hE := fx_f c18 hE
                      exact hk107 _ _ _ _ hE
                    · replace c18 := Int32.not_le.mp c18
                      replace hE := fx_t c18 hE
                      refine pm_aloadi hG dX12_heir_112 rfl ?_
                      refine pm_iloadi hG dX12_heir_114 rfl ?_
                      refine pm_iconst (v := 1) hG dX12_heir_116 (by decide) ?_
                      refine pm_isub hG dX12_heir_117 ?_
                      obtain ⟨j19, hj19, hE⟩ := fb_some hE
                      refine fx_iald hG dX12_heir_118 (fxm_a2_1 h74) hj19 ?_
                      refine pm_iloadi hG dX12_heir_119 rfl ?_
                      refine pm_icmp_gt (tgt := 157) hG dX12_heir_121 rfl (fun c20 => ?_) (fun c20 => ?_)
                      · replace hE := fx_t c20 hE
                        refine pm_aloadn hG dX12_heir_157 rfl ?_
                        refine pm_iloadi hG dX12_heir_158 rfl ?_
                        refine pm_aloadn hG dX12_heir_160 rfl ?_
                        refine pm_iloadi hG dX12_heir_161 rfl ?_
                        refine pm_iconst (v := 1) hG dX12_heir_163 (by decide) ?_
                        refine pm_isub hG dX12_heir_164 ?_
                        refine fx_iald hG dX12_heir_165 (fxm_a2_0 h74) hj19 ?_
                        obtain ⟨j21, hj21, hE⟩ := fb_some hE
                        refine fx_iast hG dX12_heir_166 (fxm_a2_0 h74) hj21 ?_
                        refine fxm_w2_0 h74 ?_
                        refine fx_letw (F := fun q => (mst B S17 (pm_up (pm_up σ cnt (.inl (20, q))) (cnt + 1) (.inl (20, w17_1))))) hE (fun w22 hE => ?_)
                        refine pm_aloadi hG dX12_heir_167 rfl ?_
                        refine pm_iloadi hG dX12_heir_169 rfl ?_
                        refine pm_aloadi hG dX12_heir_171 rfl ?_
                        refine pm_iloadi hG dX12_heir_173 rfl ?_
                        refine pm_iconst (v := 1) hG dX12_heir_175 (by decide) ?_
                        refine pm_isub hG dX12_heir_176 ?_
                        refine fx_iald hG dX12_heir_177 (fxm_a2_1 h74) hj19 ?_
                        refine fx_iast hG dX12_heir_178 (fxm_a2_1 h74) hj21 ?_
                        refine fxm_w2_1 h74 ?_
                        refine fx_letw (F := fun q => (mst B S17 (pm_up (pm_up σ cnt (.inl (20, w22))) (cnt + 1) (.inl (20, q))))) hE (fun w23 hE => ?_)
                        refine pm_iincX (v := x17_8 + (-1)) (loc' := [some (.ref (B + 54)), some (.int za), some (.int x3), some (.ref (B + cnt)), some (.ref (B + (cnt + 1))), some (.int x6_5), some (.int x6_6), some (.int r9.1), some (.int (x17_8 + (-1)))]) hG dX12_heir_179 rfl (by rfl) (by decide) (pm_c1b rfl) rfl ?_
                        refine pm_goto (tgt := 107) hG dX12_heir_182 rfl ?_
                        exact ih107 _ _ _ _ hE
                      · replace hE := fx_f c20 hE
                        refine pm_aloadi hG dX12_heir_124 rfl ?_
                        refine pm_iloadi hG dX12_heir_126 rfl ?_
                        refine pm_iconst (v := 1) hG dX12_heir_128 (by decide) ?_
                        refine pm_isub hG dX12_heir_129 ?_
                        refine fx_iald hG dX12_heir_130 (fxm_a2_1 h74) hj19 ?_
                        refine pm_iloadi hG dX12_heir_131 rfl ?_
                        refine pm_icmp_ne (tgt := 185) hG dX12_heir_133 rfl (fun c24 => ?_) (fun c24 => ?_)
                        · replace hE := fx_f c24 hE
                          exact hk107 _ _ _ _ hE
                        · replace hE := fx_t c24 hE
                          refine pm_aloadn hG dX12_heir_136 rfl ?_
                          refine pm_aloadn hG dX12_heir_137 rfl ?_
                          refine pm_iloadi hG dX12_heir_138 rfl ?_
                          refine pm_iconst (v := 1) hG dX12_heir_140 (by decide) ?_
                          refine pm_isub hG dX12_heir_141 ?_
                          refine fx_iald hG dX12_heir_142 (fxm_a2_0 h74) hj19 ?_
                          refine pm_iconst (v := 1) hG dX12_heir_143 (by decide) ?_
                          obtain ⟨x26, h25, hE⟩ := fb_some hE
                          refine pm_callV (As := [.int (w17_0 j19), .int 1]) (rest := []) hG hR dX12_heir_144 (lkX12_72 _ rfl) okV_X12_man rfl rfl (c_X12_man (d := 4) (by decide) h25) rfl rfl hdd (by decide) (by decide) (by decide) (fx_ki ?_)
                          refine pm_aloadn hG dX12_heir_147 rfl ?_
                          refine pm_iloadi hG dX12_heir_148 rfl ?_
                          refine pm_iconst (v := 1) hG dX12_heir_150 (by decide) ?_
                          obtain ⟨x28, h27, hE⟩ := fb_some hE
                          refine pm_callV (As := [.int x6_6, .int 1]) (rest := [.int x26]) hG hR dX12_heir_151 (lkX12_72 _ rfl) okV_X12_man rfl rfl (c_X12_man (d := 4) (by decide) h27) rfl rfl hdd (by decide) (by decide) (by first | decide | exact Nat.le_of_ble_eq_true rfl) (fx_ki ?_)
                          refine pm_icmp_le (tgt := 185) hG dX12_heir_154 rfl (fun c29 => ?_) (fun c29 => ?_)
                          · replace c29 := Int32.not_lt.mpr c29
                            replace hE := fx_f c29 hE
                            exact hk107 _ _ _ _ hE
                          · replace c29 := Int32.not_le.mp c29
                            replace hE := fx_t c29 hE
                            refine pm_aloadn hG dX12_heir_157 rfl ?_
                            refine pm_iloadi hG dX12_heir_158 rfl ?_
                            refine pm_aloadn hG dX12_heir_160 rfl ?_
                            refine pm_iloadi hG dX12_heir_161 rfl ?_
                            refine pm_iconst (v := 1) hG dX12_heir_163 (by decide) ?_
                            refine pm_isub hG dX12_heir_164 ?_
                            refine fx_iald hG dX12_heir_165 (fxm_a2_0 h74) hj19 ?_
                            obtain ⟨j30, hj30, hE⟩ := fb_some hE
                            refine fx_iast hG dX12_heir_166 (fxm_a2_0 h74) hj30 ?_
                            refine fxm_w2_0 h74 ?_
                            refine fx_letw (F := fun q => (mst B S17 (pm_up (pm_up σ cnt (.inl (20, q))) (cnt + 1) (.inl (20, w17_1))))) hE (fun w31 hE => ?_)
                            refine pm_aloadi hG dX12_heir_167 rfl ?_
                            refine pm_iloadi hG dX12_heir_169 rfl ?_
                            refine pm_aloadi hG dX12_heir_171 rfl ?_
                            refine pm_iloadi hG dX12_heir_173 rfl ?_
                            refine pm_iconst (v := 1) hG dX12_heir_175 (by decide) ?_
                            refine pm_isub hG dX12_heir_176 ?_
                            refine fx_iald hG dX12_heir_177 (fxm_a2_1 h74) hj19 ?_
                            refine fx_iast hG dX12_heir_178 (fxm_a2_1 h74) hj30 ?_
                            refine fxm_w2_1 h74 ?_
                            refine fx_letw (F := fun q => (mst B S17 (pm_up (pm_up σ cnt (.inl (20, w31))) (cnt + 1) (.inl (20, q))))) hE (fun w32 hE => ?_)
                            refine pm_iincX (v := x17_8 + (-1)) (loc' := [some (.ref (B + 54)), some (.int za), some (.int x3), some (.ref (B + cnt)), some (.ref (B + (cnt + 1))), some (.int x6_5), some (.int x6_6), some (.int r9.1), some (.int (x17_8 + (-1)))]) hG dX12_heir_179 rfl (by rfl) (by decide) (pm_c1b rfl) rfl ?_
                            refine pm_goto (tgt := 107) hG dX12_heir_182 rfl ?_
                            exact ih107 _ _ _ _ hE
                refine loop107 _ (fun S33 x33_8 w33_0 w33_1 hE => ?_) _ _ _ _ _ hE
                refine pm_aloadn hG dX12_heir_185 rfl ?_
                refine pm_iloadi hG dX12_heir_186 rfl ?_
                refine pm_iloadi hG dX12_heir_188 rfl ?_
                obtain ⟨j34, hj34, hE⟩ := fb_some hE
                refine fx_iast hG dX12_heir_190 (fxm_a2_0 h74) hj34 ?_
                refine fxm_w2_0 h74 ?_
                refine fx_letw (F := fun q => (mst B S33 (pm_up (pm_up σ cnt (.inl (20, q))) (cnt + 1) (.inl (20, w33_1))))) hE (fun w35 hE => ?_)
                refine pm_aloadi hG dX12_heir_191 rfl ?_
                refine pm_iloadi hG dX12_heir_193 rfl ?_
                refine pm_iloadi hG dX12_heir_195 rfl ?_
                refine fx_iast hG dX12_heir_197 (fxm_a2_1 h74) hj34 ?_
                refine fxm_w2_1 h74 ?_
                refine fx_letw (F := fun q => (mst B S33 (pm_up (pm_up σ cnt (.inl (20, w35))) (cnt + 1) (.inl (20, q))))) hE (fun w36 hE => ?_)
                refine pm_iincX (v := x6_5 + 1) (loc' := [some (.ref (B + 54)), some (.int za), some (.int x3), some (.ref (B + cnt)), some (.ref (B + (cnt + 1))), some (.int (x6_5 + 1)), some (.int x6_6), some (.int r9.1), some (.int x33_8)]) hG dX12_heir_198 rfl (by rfl) (by decide) (pm_c1b rfl) rfl ?_
                refine pm_iincX (v := x6_6 + 1) (loc' := [some (.ref (B + 54)), some (.int za), some (.int x3), some (.ref (B + cnt)), some (.ref (B + (cnt + 1))), some (.int (x6_5 + 1)), some (.int (x6_6 + 1)), some (.int r9.1), some (.int x33_8)]) hG dX12_heir_201 rfl (by rfl) (by decide) (pm_c1b rfl) rfl ?_
                refine pm_goto (tgt := 47) hG dX12_heir_204 rfl ?_
                refine pm_fg 7 (loc' := [some (.ref (B + 54)), some (.int za), some (.int x3), some (.ref (B + cnt)), some (.ref (B + (cnt + 1))), some (.int (x6_5 + 1)), some (.int (x6_6 + 1)), none, some (.int x33_8)]) rfl ?_
                refine pm_fg 8 (loc' := [some (.ref (B + 54)), some (.int za), some (.int x3), some (.ref (B + cnt)), some (.ref (B + (cnt + 1))), some (.int (x6_5 + 1)), some (.int (x6_6 + 1)), none, none]) rfl ?_
                exact ih47 _ _ _ _ _ hE
              · replace hE := fx_t c16 hE
                refine pm_goto (tgt := 201) hG dX12_heir_100 rfl ?_
                refine pm_iincX (v := x6_6 + 1) (loc' := [some (.ref (B + 54)), some (.int za), some (.int x3), some (.ref (B + cnt)), some (.ref (B + (cnt + 1))), some (.int x6_5), some (.int (x6_6 + 1)), some (.int r9.1), none]) hG dX12_heir_201 rfl (by rfl) (by decide) (pm_c1b rfl) rfl ?_
                refine pm_goto (tgt := 47) hG dX12_heir_204 rfl ?_
                refine pm_fg 7 (loc' := [some (.ref (B + 54)), some (.int za), some (.int x3), some (.ref (B + cnt)), some (.ref (B + (cnt + 1))), some (.int x6_5), some (.int (x6_6 + 1)), none, none]) rfl ?_
                exact ih47 _ _ _ _ _ hE
    refine loop47 _ (fun S37 x37_5 x37_6 w37_0 w37_1 hE => ?_) _ _ _ _ _ _ hE
    refine pm_iloadn hG dX12_heir_207 rfl ?_
    refine pm_iloadi hG dX12_heir_208 rfl ?_
    refine pm_icmp_ge (tgt := 219) hG dX12_heir_210 rfl (fun c38 => ?_) (fun c38 => ?_)
    · replace c38 := Int32.not_lt.mpr c38
      replace hE := fx_f c38 hE
      refine pm_aloadn hG dX12_heir_219 rfl ?_
      refine pm_iconst (v := 2) hG dX12_heir_220 (by decide) ?_
      obtain ⟨r40, h39, hE⟩ := fb_some hE
      refine pm_callV (As := [.int 2]) (rest := []) hG hR dX12_heir_221 (lkX12_80 _ rfl) okV_X12_finds rfl rfl (c_X12_finds (d := 4) (by decide) h39) rfl rfl hdd (by decide) (by decide) (by decide) (fx_ki ?_)
      exact pm_iret hG hF dX12_heir_224 rfl (by decide) (by decide) (fx_rix hE (fun j hj => (pm_up_ne _ _ (by omega)).trans (pm_up_ne _ _ (by omega))) (by omega))
    · replace c38 := Int32.not_le.mp c38
      replace hE := fx_t c38 hE
      refine pm_aloadn hG dX12_heir_213 rfl ?_
      refine pm_iloadn hG dX12_heir_214 rfl ?_
      obtain ⟨j41, hj41, hE⟩ := fb_some hE
      refine fx_iald hG dX12_heir_215 (fxm_a2_0 h74) hj41 ?_
      refine pm_goto (tgt := 224) hG dX12_heir_216 rfl ?_
      exact pm_iret hG hF dX12_heir_224 rfl (by decide) (by decide) (fx_rix hE (fun j hj => (pm_up_ne _ _ (by omega)).trans (pm_up_ne _ _ (by omega))) (by omega))
  · replace c1 := Int32.not_le.mp c1
    replace hE := fx_t c1 hE
    refine pm_aloadn hG dX12_heir_4 rfl ?_
    refine pm_iconst (v := 1) hG dX12_heir_5 (by decide) ?_
    obtain ⟨r43, h42, hE⟩ := fb_some hE
    refine pm_callV (As := [.int 1]) (rest := []) hG hR dX12_heir_6 (lkX12_80 _ rfl) okV_X12_finds rfl rfl (c_X12_finds (d := 4) (by decide) h42) rfl rfl hdd (by decide) (by decide) (by decide) (fx_ki ?_)
    exact pm_iret hG hF dX12_heir_9 rfl (by decide) (by decide) (fx_rix hE (fun j hj => rfl) (by omega))
