set_option maxRecDepth 100000 in
set_option maxHeartbeats 4000000 in
theorem c_X12_ran {d : Nat} {B cnt : Nat} {σ : pm_S} {S : FS} {za : Int32} {R : Int32 × FS} (hdd : 1 ≤ d) (hE : f_X12_ran S za = some R) : pm_met mX12_ran d 0 0 B [.ref (B + 54), .int za] cnt (mst B S σ) (pm_Qv (fun σ' cnt' => σ' = (mst B R.2 σ) ∧ cnt' = cnt)) := by
  refine pm_enter 0 (by decide) (Nat.le_of_ble_eq_true rfl) rfl (fun G hG hR hF => ?_)
  unfold f_X12_ran at hE
  refine pm_aloadn hG dX12_ran_0 rfl ?_
  refine pm_getf hG dX12_ran_1 (flX12_283 _ rfl) rfl rfl ?_
  refine pm_bipush (v := 40) hG dX12_ran_4 (by decide) ?_
  refine pm_icmp_ge (tgt := 29) hG dX12_ran_6 rfl (fun c1 => ?_) (fun c1 => ?_)
  · replace c1 := Int32.not_lt.mpr c1
    replace hE := fx_f c1 hE
    exact pm_vret hG hF dX12_ran_29 rfl (Nat.le_refl _) (Nat.le_refl _) (fx_rvm hE)
  · replace c1 := Int32.not_le.mp c1
    replace hE := fx_t c1 hE
    refine pm_aloadn hG dX12_ran_9 rfl ?_
    refine pm_getf hG dX12_ran_10 (flX12_52 _ rfl) rfl rfl ?_
    refine pm_aloadn hG dX12_ran_13 rfl ?_
    refine pm_getf hG dX12_ran_14 (flX12_283 _ rfl) rfl rfl ?_
    refine pm_iloadn hG dX12_ran_17 rfl ?_
    obtain ⟨j2, hj2, hE⟩ := fb_some hE
    refine fx_iast hG dX12_ran_18 rfl hj2 ?_
    refine ma_69 ?_
    refine fx_letm hE (fun S3 hE => ?_)
    refine pm_aloadn hG dX12_ran_19 rfl ?_
    refine pm_dup hG dX12_ran_20 rfl ?_
    refine pm_getf hG dX12_ran_21 (flX12_283 _ rfl) rfl rfl ?_
    refine pm_iconst (v := 1) hG dX12_ran_24 (by decide) ?_
    refine pm_iadd hG dX12_ran_25 ?_
    refine pm_putf hG dX12_ran_26 (fwX12_283 _ rfl) rfl rfl rfl ?_
    refine mi_22 ?_
    refine fx_letm hE (fun S4 hE => ?_)
    exact pm_vret hG hF dX12_ran_29 rfl (Nat.le_refl _) (Nat.le_refl _) (fx_rvm hE)

set_option maxRecDepth 100000 in
set_option maxHeartbeats 4000000 in
theorem c_X12_actsPower {d : Nat} {B cnt : Nat} {σ : pm_S} {S : FS} {za : Int32} {zb : Int32} {R : Int32 × FS} (hdd : 2 ≤ d) (hE : f_X12_actsPower S za zb = some R) : pm_met mX12_actsPower d 0 0 B [.ref (B + 54), .int za, .int zb] cnt (mst B S σ) (pm_Qi (fun v σ' cnt' => v = R.1 ∧ σ' = (mst B R.2 σ) ∧ cnt' = cnt)) := by
  refine pm_enter 0 (by decide) (Nat.le_of_ble_eq_true rfl) rfl (fun G hG hR hF => ?_)
  unfold f_X12_actsPower at hE
  refine pm_aloadn hG dX12_actsPower_0 rfl ?_
  refine pm_bipush (v := 10) hG dX12_actsPower_1 (by decide) ?_
  obtain ⟨r2, h1, hE⟩ := fb_some hE
  refine pm_callV (As := [.int 10]) (rest := []) hG hR dX12_actsPower_3 (lkX12_286 _ rfl) okV_X12_ran rfl rfl (c_X12_ran (d := 1) (by decide) h1) rfl rfl hdd (Nat.le_refl _) (Nat.le_refl _) (by decide) (fx_kv ?_)
  refine pm_iloadn hG dX12_actsPower_6 rfl ?_
  refine pm_aloadn hG dX12_actsPower_7 rfl ?_
  refine pm_iloadn hG dX12_actsPower_8 rfl ?_
  refine pm_iconst (v := 4) hG dX12_actsPower_9 (by decide) ?_
  obtain ⟨x4, h3, hE⟩ := fb_some hE
  refine pm_callV (As := [.int za, .int 4]) (rest := [.int zb]) hG hR dX12_actsPower_10 (lkX12_110 _ rfl) okV_X12_its rfl rfl (c_X12_its (d := 1) (by decide) h3) rfl rfl hdd (Nat.le_refl _) (Nat.le_refl _) (by first | decide | exact Nat.le_of_ble_eq_true rfl) (fx_ki ?_)
  refine pm_iadd hG dX12_actsPower_13 ?_
  exact pm_iret hG hF dX12_actsPower_14 rfl (Nat.le_refl _) (Nat.le_refl _) (fx_rim hE)

set_option maxRecDepth 100000 in
set_option maxHeartbeats 4000000 in
theorem c_X12_actsOffice {d : Nat} {B cnt : Nat} {σ : pm_S} {S : FS} {za : Int32} {zb : Int32} {R : Int32 × FS} (hdd : 3 ≤ d) (hE : f_X12_actsOffice S za zb = some R) : pm_met mX12_actsOffice d 0 0 B [.ref (B + 54), .int za, .int zb] cnt (mst B S σ) (pm_Qi (fun v σ' cnt' => v = R.1 ∧ σ' = (mst B R.2 σ) ∧ cnt' = cnt)) := by
  refine pm_enter 0 (by decide) (Nat.le_of_ble_eq_true rfl) rfl (fun G hG hR hF => ?_)
  unfold f_X12_actsOffice at hE
  refine pm_aloadn hG dX12_actsOffice_0 rfl ?_
  refine pm_bipush (v := 20) hG dX12_actsOffice_1 (by decide) ?_
  obtain ⟨r2, h1, hE⟩ := fb_some hE
  refine pm_callV (As := [.int 20]) (rest := []) hG hR dX12_actsOffice_3 (lkX12_286 _ rfl) okV_X12_ran rfl rfl (c_X12_ran (d := 2) (by decide) h1) rfl rfl hdd (Nat.le_refl _) (Nat.le_refl _) (by decide) (fx_kv ?_)
  refine pm_aloadn hG dX12_actsOffice_6 rfl ?_
  refine pm_iloadn hG dX12_actsOffice_7 rfl ?_
  refine pm_iloadn hG dX12_actsOffice_8 rfl ?_
  obtain ⟨r4, h3, hE⟩ := fb_some hE
  refine pm_callV (As := [.int za, .int zb]) (rest := []) hG hR dX12_actsOffice_9 (lkX12_289 _ rfl) okV_X12_actsPower rfl rfl (c_X12_actsPower (d := 2) (by decide) h3) rfl rfl hdd (Nat.le_refl _) (Nat.le_refl _) (by decide) (fx_ki ?_)
  refine pm_iloadn hG dX12_actsOffice_12 rfl ?_
  refine pm_iadd hG dX12_actsOffice_13 ?_
  exact pm_iret hG hF dX12_actsOffice_14 rfl (Nat.le_refl _) (Nat.le_refl _) (fx_rim hE)

set_option maxRecDepth 100000 in
set_option maxHeartbeats 4000000 in
theorem c_X12_actsOf {d : Nat} {B cnt : Nat} {σ : pm_S} {S : FS} {za : Int32} {zb : Int32} {R : Int32 × FS} (hdd : 4 ≤ d) (hE : f_X12_actsOf S za zb = some R) : pm_met mX12_actsOf d 0 0 B [.ref (B + 54), .int za, .int zb] cnt (mst B S σ) (pm_Qi (fun v σ' cnt' => v = R.1 ∧ σ' = (mst B R.2 σ) ∧ cnt' = cnt)) := by
  refine pm_enter 1 (by decide) (Nat.le_of_ble_eq_true rfl) rfl (fun G hG hR hF => ?_)
  unfold f_X12_actsOf at hE
  refine pm_aloadn hG dX12_actsOf_0 rfl ?_
  refine pm_iloadn hG dX12_actsOf_1 rfl ?_
  refine pm_iconst (v := 0) hG dX12_actsOf_2 (by decide) ?_
  obtain ⟨x2, h1, hE⟩ := fb_some hE
  refine pm_callV (As := [.int za, .int 0]) (rest := []) hG hR dX12_actsOf_3 (lkX12_110 _ rfl) okV_X12_its rfl rfl (c_X12_its (d := 3) (by decide) h1) rfl rfl hdd (Nat.le_refl _) (Nat.le_refl _) (by decide) (fx_ki ?_)
  refine pm_istoreXn (loc' := [some (.ref (B + 54)), some (.int za), some (.int zb), some (.int x2)]) hG dX12_actsOf_6 (by decide) (pm_c1b rfl) rfl ?_
  refine pm_iloadn hG dX12_actsOf_7 rfl ?_
  refine pm_iconst (v := 1) hG dX12_actsOf_8 (by decide) ?_
  refine pm_icmp_eq (tgt := 17) hG dX12_actsOf_9 rfl (fun c3 => ?_) (fun c3 => ?_)
  · replace hE := fx_t c3 hE
    refine pm_aloadn hG dX12_actsOf_17 rfl ?_
    refine pm_iloadn hG dX12_actsOf_18 rfl ?_
    refine pm_iloadn hG dX12_actsOf_19 rfl ?_
    obtain ⟨r5, h4, hE⟩ := fb_some hE
    refine pm_callV (As := [.int za, .int zb]) (rest := []) hG hR dX12_actsOf_20 (lkX12_292 _ rfl) okV_X12_actsOffice rfl rfl (c_X12_actsOffice (d := 3) (by decide) h4) rfl rfl hdd (Nat.le_refl _) (Nat.le_refl _) (by decide) (fx_ki ?_)
    exact pm_iret hG hF dX12_actsOf_23 rfl (Nat.le_refl _) (Nat.le_refl _) (fx_rim hE)
  · replace hE := fx_f c3 hE
    refine pm_iloadn hG dX12_actsOf_12 rfl ?_
    refine pm_iconst (v := 3) hG dX12_actsOf_13 (by decide) ?_
    refine pm_icmp_ne (tgt := 24) hG dX12_actsOf_14 rfl (fun c6 => ?_) (fun c6 => ?_)
    · replace hE := fx_f c6 hE
      refine pm_iloadn hG dX12_actsOf_24 rfl ?_
      refine pm_iconst (v := 4) hG dX12_actsOf_25 (by decide) ?_
      refine pm_icmp_eq (tgt := 36) hG dX12_actsOf_26 rfl (fun c7 => ?_) (fun c7 => ?_)
      · replace hE := fx_t c7 hE
        refine pm_aloadn hG dX12_actsOf_36 rfl ?_
        refine pm_bipush (v := 50) hG dX12_actsOf_37 (by decide) ?_
        obtain ⟨r9, h8, hE⟩ := fb_some hE
        refine pm_callV (As := [.int 50]) (rest := []) hG hR dX12_actsOf_39 (lkX12_286 _ rfl) okV_X12_ran rfl rfl (c_X12_ran (d := 3) (by decide) h8) rfl rfl hdd (Nat.le_refl _) (Nat.le_refl _) (by decide) (fx_kv ?_)
        refine pm_aloadn hG dX12_actsOf_42 rfl ?_
        refine pm_iloadn hG dX12_actsOf_43 rfl ?_
        refine pm_iloadn hG dX12_actsOf_44 rfl ?_
        refine pm_aloadn hG dX12_actsOf_45 rfl ?_
        refine pm_iloadn hG dX12_actsOf_46 rfl ?_
        refine pm_iconst (v := 4) hG dX12_actsOf_47 (by decide) ?_
        obtain ⟨x11, h10, hE⟩ := fb_some hE
        refine pm_callV (As := [.int za, .int 4]) (rest := [.int zb, .int za, .ref (B + 54)]) hG hR dX12_actsOf_48 (lkX12_110 _ rfl) okV_X12_its rfl rfl (c_X12_its (d := 3) (by decide) h10) rfl rfl hdd (Nat.le_refl _) (Nat.le_refl _) (by first | decide | exact Nat.le_of_ble_eq_true rfl) (fx_ki ?_)
        refine pm_isub hG dX12_actsOf_51 ?_
        obtain ⟨r13, h12, hE⟩ := fb_some hE
        refine pm_callV (As := [.int za, .int (zb - x11)]) (rest := []) hG hR dX12_actsOf_52 (lkX12_292 _ rfl) okV_X12_actsOffice rfl rfl (c_X12_actsOffice (d := 3) (by decide) h12) rfl rfl hdd (Nat.le_refl _) (Nat.le_refl _) (by decide) (fx_ki ?_)
        exact pm_iret hG hF dX12_actsOf_55 rfl (Nat.le_refl _) (Nat.le_refl _) (fx_rim hE)
      · replace hE := fx_f c7 hE
        refine pm_aloadn hG dX12_actsOf_29 rfl ?_
        refine pm_iloadn hG dX12_actsOf_30 rfl ?_
        refine pm_iloadn hG dX12_actsOf_31 rfl ?_
        obtain ⟨r15, h14, hE⟩ := fb_some hE
        refine pm_callV (As := [.int za, .int zb]) (rest := []) hG hR dX12_actsOf_32 (lkX12_289 _ rfl) okV_X12_actsPower rfl rfl (c_X12_actsPower (d := 3) (by decide) h14) rfl rfl hdd (Nat.le_refl _) (Nat.le_refl _) (by decide) (fx_ki ?_)
        exact pm_iret hG hF dX12_actsOf_35 rfl (Nat.le_refl _) (Nat.le_refl _) (fx_rim hE)
    · replace hE := fx_t c6 hE
      refine pm_aloadn hG dX12_actsOf_17 rfl ?_
      refine pm_iloadn hG dX12_actsOf_18 rfl ?_
      refine pm_iloadn hG dX12_actsOf_19 rfl ?_
      obtain ⟨r17, h16, hE⟩ := fb_some hE
      refine pm_callV (As := [.int za, .int zb]) (rest := []) hG hR dX12_actsOf_20 (lkX12_292 _ rfl) okV_X12_actsOffice rfl rfl (c_X12_actsOffice (d := 3) (by decide) h16) rfl rfl hdd (Nat.le_refl _) (Nat.le_refl _) (by decide) (fx_ki ?_)
      exact pm_iret hG hF dX12_actsOf_23 rfl (Nat.le_refl _) (Nat.le_refl _) (fx_rim hE)

set_option maxRecDepth 100000 in
set_option maxHeartbeats 4000000 in
theorem c_X12_isPower {d : Nat} {B cnt : Nat} {σ : pm_S} {S : FS} {za : Int32} {R : Int32} (hdd : 2 ≤ d) (hE : p_X12_isPower S za = R) : pm_met mX12_isPower d 0 0 B [.ref (B + 54), .int za] cnt (mst B S σ) (pm_Qi (fun v σ' cnt' => v = R ∧ σ' = (mst B S σ) ∧ cnt' = cnt)) := by
  refine pm_enter 0 (by decide) (Nat.le_of_ble_eq_true rfl) rfl (fun G hG hR hF => ?_)
  unfold p_X12_isPower at hE
  refine pm_iloadn hG dX12_isPower_0 rfl ?_
  refine pm_iconst (v := 0) hG dX12_isPower_1 (by decide) ?_
  refine pm_aloadn hG dX12_isPower_2 rfl ?_
  refine pm_getf hG dX12_isPower_3 (flX12_7 _ rfl) rfl rfl ?_
  refine pm_iconst (v := 3) hG dX12_isPower_6 (by decide) ?_
  refine fx_iald hG dX12_isPower_7 rfl (ix_lit (by decide) rfl) ?_
  refine pm_iconst (v := 1) hG dX12_isPower_8 (by decide) ?_
  refine pm_isub hG dX12_isPower_9 ?_
  refine pm_callS (As := [.int za, .int 0, .int ((S.2 55 3) - 1)]) (rest := []) hG hR dX12_isPower_10 (lkX12_68 _ rfl) okS_X12_in (c_X12_in (d := 1) (by decide) rfl) rfl rfl hdd (Nat.le_refl _) (Nat.le_refl _) (by decide) (fx_ki ?_)
  exact pm_zret hG hF dX12_isPower_13 rfl (pm_nz pb_X12_in) (Nat.le_refl _) (Nat.le_refl _) (fx_pi hE)

set_option maxRecDepth 100000 in
set_option maxHeartbeats 4000000 in
theorem c_X12_inForce {d : Nat} {B cnt : Nat} {σ : pm_S} {S : FS} {za : Int32} {zb : Int32} {zc : Int32} {R : Int32} (hdd : 2 ≤ d) (hE : q_X12_inForce S za zb zc = some R) : pm_met mX12_inForce d 0 0 B [.ref (B + 54), .int za, .int zb, .int zc] cnt (mst B S σ) (pm_Qi (fun v σ' cnt' => v = R ∧ σ' = (mst B S σ) ∧ cnt' = cnt)) := by
  refine pm_enter 4 (by decide) (Nat.le_of_ble_eq_true rfl) rfl (fun G hG hR hF => ?_)
  unfold q_X12_inForce at hE
  refine pm_iconst (v := (-1)) hG dX12_inForce_0 (by decide) ?_
  refine pm_istoreXi (loc' := [some (.ref (B + 54)), some (.int za), some (.int zb), some (.int zc), some (.int (-1)), none, none, none]) hG dX12_inForce_1 (by decide) (pm_c1b rfl) rfl ?_
  refine pm_iconst (v := 0) hG dX12_inForce_3 (by decide) ?_
  refine pm_istoreXi (loc' := [some (.ref (B + 54)), some (.int za), some (.int zb), some (.int zc), some (.int (-1)), some (.int 0), none, none]) hG dX12_inForce_4 (by decide) (pm_c1b rfl) rfl ?_
  have loop6 : ∀ (k6 : Int32 → Int32 → Option Int32), (∀  (x1_4 : Int32) (x1_5 : Int32), k6  x1_4 x1_5 = some R → pm_wp mX12_inForce G B 137 [some (.ref (B + 54)), some (.int za), some (.int zb), some (.int zc), some (.int x1_4), some (.int x1_5), none, none] [] 0 0 cnt (mst B S σ)) → ∀ (m6 : Nat)  (x1_4 : Int32) (x1_5 : Int32), l_X12_inForce_6 za zb zc S k6 m6  x1_4 x1_5 = some R → pm_wp mX12_inForce G B 6 [some (.ref (B + 54)), some (.int za), some (.int zb), some (.int zc), some (.int x1_4), some (.int x1_5), none, none] [] 0 0 cnt (mst B S σ) := by
    intro k6 hk6 m6
    induction m6 with
    | zero => intro  x1_4 x1_5 hE; exact fx_no hE
    | succ m6 ih6 =>
      intro  x1_4 x1_5 hE
      rw [l_X12_inForce_6] at hE
      refine pm_iloadi hG dX12_inForce_6 rfl ?_
      refine pm_aloadn hG dX12_inForce_8 rfl ?_
      refine pm_getf hG dX12_inForce_9 (flX12_7 _ rfl) rfl rfl ?_
      refine pm_iconst (v := 4) hG dX12_inForce_12 (by decide) ?_
      refine fx_iald hG dX12_inForce_13 rfl (ix_lit (by decide) rfl) ?_
      refine pm_icmp_ge (tgt := 137) hG dX12_inForce_14 rfl (fun c2 => ?_) (fun c2 => ?_)
      · replace c2 := Int32.not_lt.mpr c2
        replace hE := fx_f c2 hE
        exact hk6 _ _ hE
      · replace c2 := Int32.not_le.mp c2
        replace hE := fx_t c2 hE
        refine pm_sipush (v := 510) hG dX12_inForce_17 (by decide) ?_
        refine pm_bipush (v := 65) hG dX12_inForce_20 (by decide) ?_
        refine pm_iloadi hG dX12_inForce_22 rfl ?_
        refine pm_imul hG dX12_inForce_24 ?_
        refine pm_iadd hG dX12_inForce_25 ?_
        refine fx_letv hE (fun x3 hE => ?_)
        refine pm_istoreXi (loc' := [some (.ref (B + 54)), some (.int za), some (.int zb), some (.int zc), some (.int x1_4), some (.int x1_5), some (.int x3), none]) hG dX12_inForce_26 (by decide) (pm_c1b rfl) rfl ?_
        refine pm_aloadn hG dX12_inForce_28 rfl ?_
        refine pm_getf hG dX12_inForce_29 (flX12_7 _ rfl) rfl rfl ?_
        refine pm_iloadi hG dX12_inForce_32 rfl ?_
        refine pm_iconst (v := 3) hG dX12_inForce_34 (by decide) ?_
        refine pm_iadd hG dX12_inForce_35 ?_
        obtain ⟨j4, hj4, hE⟩ := fb_some hE
        refine fx_iald hG dX12_inForce_36 rfl hj4 ?_
        refine pm_iconst (v := 0) hG dX12_inForce_37 (by decide) ?_
        refine pm_iloadn hG dX12_inForce_38 rfl ?_
        refine pm_callS (As := [.int (S.2 55 j4), .int 0, .int zc]) (rest := []) hG hR dX12_inForce_39 (lkX12_68 _ rfl) okS_X12_in (c_X12_in (d := 1) (by decide) rfl) rfl rfl hdd (Nat.le_refl _) (Nat.le_refl _) (by decide) (fx_ki ?_)
        refine fx_letv hE (fun x5 hE => ?_)
        refine pm_istoreXi (loc' := [some (.ref (B + 54)), some (.int za), some (.int zb), some (.int zc), some (.int x1_4), some (.int x1_5), some (.int x3), some (.int x5)]) hG dX12_inForce_42 (by decide) (pm_c1b rfl) rfl ?_
        refine pm_aloadn hG dX12_inForce_44 rfl ?_
        refine pm_getf hG dX12_inForce_45 (flX12_7 _ rfl) rfl rfl ?_
        refine pm_iloadi hG dX12_inForce_48 rfl ?_
        obtain ⟨j6, hj6, hE⟩ := fb_some hE
        refine fx_iald hG dX12_inForce_50 rfl hj6 ?_
        refine pm_iloadn hG dX12_inForce_51 rfl ?_
        refine pm_icmp_ne (tgt := 131) hG dX12_inForce_52 rfl (fun c7 => ?_) (fun c7 => ?_)
        · replace hE := fx_f c7 hE
          refine pm_iincX (v := x1_5 + 1) (loc' := [some (.ref (B + 54)), some (.int za), some (.int zb), some (.int zc), some (.int x1_4), some (.int (x1_5 + 1)), some (.int x3), some (.int x5)]) hG dX12_inForce_131 rfl (by rfl) (by decide) (pm_c1b rfl) rfl ?_
          refine pm_goto (tgt := 6) hG dX12_inForce_134 rfl ?_
          refine pm_fg 6 (loc' := [some (.ref (B + 54)), some (.int za), some (.int zb), some (.int zc), some (.int x1_4), some (.int (x1_5 + 1)), none, some (.int x5)]) rfl ?_
          refine pm_fg 7 (loc' := [some (.ref (B + 54)), some (.int za), some (.int zb), some (.int zc), some (.int x1_4), some (.int (x1_5 + 1)), none, none]) rfl ?_
          exact ih6 _ _ hE
        · replace hE := fx_t c7 hE
          refine pm_aloadn hG dX12_inForce_55 rfl ?_
          refine pm_getf hG dX12_inForce_56 (flX12_7 _ rfl) rfl rfl ?_
          refine pm_iloadi hG dX12_inForce_59 rfl ?_
          refine pm_iconst (v := 1) hG dX12_inForce_61 (by decide) ?_
          refine pm_iadd hG dX12_inForce_62 ?_
          obtain ⟨j8, hj8, hE⟩ := fb_some hE
          refine fx_iald hG dX12_inForce_63 rfl hj8 ?_
          refine pm_iloadn hG dX12_inForce_64 rfl ?_
          refine pm_icmp_gt (tgt := 131) hG dX12_inForce_65 rfl (fun c9 => ?_) (fun c9 => ?_)
          · replace hE := fx_t c9 hE
            refine pm_iincX (v := x1_5 + 1) (loc' := [some (.ref (B + 54)), some (.int za), some (.int zb), some (.int zc), some (.int x1_4), some (.int (x1_5 + 1)), some (.int x3), some (.int x5)]) hG dX12_inForce_131 rfl (by rfl) (by decide) (pm_c1b rfl) rfl ?_
            refine pm_goto (tgt := 6) hG dX12_inForce_134 rfl ?_
            refine pm_fg 6 (loc' := [some (.ref (B + 54)), some (.int za), some (.int zb), some (.int zc), some (.int x1_4), some (.int (x1_5 + 1)), none, some (.int x5)]) rfl ?_
            refine pm_fg 7 (loc' := [some (.ref (B + 54)), some (.int za), some (.int zb), some (.int zc), some (.int x1_4), some (.int (x1_5 + 1)), none, none]) rfl ?_
            exact ih6 _ _ hE
          · replace hE := fx_f c9 hE
            refine pm_aloadn hG dX12_inForce_68 rfl ?_
            refine pm_getf hG dX12_inForce_69 (flX12_7 _ rfl) rfl rfl ?_
            refine pm_iloadi hG dX12_inForce_72 rfl ?_
            refine pm_iconst (v := 2) hG dX12_inForce_74 (by decide) ?_
            refine pm_iadd hG dX12_inForce_75 ?_
            obtain ⟨j10, hj10, hE⟩ := fb_some hE
            refine fx_iald hG dX12_inForce_76 rfl hj10 ?_
            refine pm_iloadn hG dX12_inForce_77 rfl ?_
            refine pm_icmp_gt (tgt := 131) hG dX12_inForce_78 rfl (fun c11 => ?_) (fun c11 => ?_)
            · replace hE := fx_t c11 hE
              refine pm_iincX (v := x1_5 + 1) (loc' := [some (.ref (B + 54)), some (.int za), some (.int zb), some (.int zc), some (.int x1_4), some (.int (x1_5 + 1)), some (.int x3), some (.int x5)]) hG dX12_inForce_131 rfl (by rfl) (by decide) (pm_c1b rfl) rfl ?_
              refine pm_goto (tgt := 6) hG dX12_inForce_134 rfl ?_
              refine pm_fg 6 (loc' := [some (.ref (B + 54)), some (.int za), some (.int zb), some (.int zc), some (.int x1_4), some (.int (x1_5 + 1)), none, some (.int x5)]) rfl ?_
              refine pm_fg 7 (loc' := [some (.ref (B + 54)), some (.int za), some (.int zb), some (.int zc), some (.int x1_4), some (.int (x1_5 + 1)), none, none]) rfl ?_
              exact ih6 _ _ hE
            · replace hE := fx_f c11 hE
              refine pm_iloadi hG dX12_inForce_81 rfl ?_
              refine pm_if_eq (tgt := 89) hG dX12_inForce_83 rfl (fun c12 => ?_) (fun c12 => ?_)
              · replace hE := fx_t c12 hE
                refine pm_iloadi hG dX12_inForce_89 rfl ?_
                refine pm_if_lt (tgt := 122) hG dX12_inForce_91 rfl (fun c13 => ?_) (fun c13 => ?_)
                · replace hE := fx_t c13 hE
                  refine pm_iloadi hG dX12_inForce_122 rfl ?_
                  refine pm_goto (tgt := 129) hG dX12_inForce_124 rfl ?_
                  refine pm_istoreXi (loc' := [some (.ref (B + 54)), some (.int za), some (.int zb), some (.int zc), some (.int x1_5), some (.int x1_5), some (.int x3), some (.int x5)]) hG dX12_inForce_129 (by decide) (pm_c1b rfl) rfl ?_
                  refine pm_iincX (v := x1_5 + 1) (loc' := [some (.ref (B + 54)), some (.int za), some (.int zb), some (.int zc), some (.int x1_5), some (.int (x1_5 + 1)), some (.int x3), some (.int x5)]) hG dX12_inForce_131 rfl (by rfl) (by decide) (pm_c1b rfl) rfl ?_
                  refine pm_goto (tgt := 6) hG dX12_inForce_134 rfl ?_
                  refine pm_fg 6 (loc' := [some (.ref (B + 54)), some (.int za), some (.int zb), some (.int zc), some (.int x1_5), some (.int (x1_5 + 1)), none, some (.int x5)]) rfl ?_
                  refine pm_fg 7 (loc' := [some (.ref (B + 54)), some (.int za), some (.int zb), some (.int zc), some (.int x1_5), some (.int (x1_5 + 1)), none, none]) rfl ?_
                  exact ih6 _ _ hE
                · replace hE := fx_f c13 hE
                  refine pm_aloadn hG dX12_inForce_94 rfl ?_
                  refine pm_getf hG dX12_inForce_95 (flX12_7 _ rfl) rfl rfl ?_
                  refine pm_iloadi hG dX12_inForce_98 rfl ?_
                  refine pm_iconst (v := 2) hG dX12_inForce_100 (by decide) ?_
                  refine pm_iadd hG dX12_inForce_101 ?_
                  refine fx_iald hG dX12_inForce_102 rfl hj10 ?_
                  refine pm_aloadn hG dX12_inForce_103 rfl ?_
                  refine pm_getf hG dX12_inForce_104 (flX12_7 _ rfl) rfl rfl ?_
                  refine pm_sipush (v := 510) hG dX12_inForce_107 (by decide) ?_
                  refine pm_bipush (v := 65) hG dX12_inForce_110 (by decide) ?_
                  refine pm_iloadi hG dX12_inForce_112 rfl ?_
                  refine pm_imul hG dX12_inForce_114 ?_
                  refine pm_iadd hG dX12_inForce_115 ?_
                  refine pm_iconst (v := 2) hG dX12_inForce_116 (by decide) ?_
                  refine pm_iadd hG dX12_inForce_117 ?_
                  obtain ⟨j14, hj14, hE⟩ := fb_some hE
                  refine fx_iald hG dX12_inForce_118 rfl hj14 ?_
                  refine pm_icmp_lt (tgt := 127) hG dX12_inForce_119 rfl (fun c15 => ?_) (fun c15 => ?_)
                  · replace hE := fx_t c15 hE
                    refine pm_iloadi hG dX12_inForce_127 rfl ?_
                    refine pm_istoreXi (loc' := [some (.ref (B + 54)), some (.int za), some (.int zb), some (.int zc), some (.int x1_4), some (.int x1_5), some (.int x3), some (.int x5)]) hG dX12_inForce_129 (by decide) (pm_c1b rfl) rfl ?_
                    refine pm_iincX (v := x1_5 + 1) (loc' := [some (.ref (B + 54)), some (.int za), some (.int zb), some (.int zc), some (.int x1_4), some (.int (x1_5 + 1)), some (.int x3), some (.int x5)]) hG dX12_inForce_131 rfl (by rfl) (by decide) (pm_c1b rfl) rfl ?_
                    refine pm_goto (tgt := 6) hG dX12_inForce_134 rfl ?_
                    refine pm_fg 6 (loc' := [some (.ref (B + 54)), some (.int za), some (.int zb), some (.int zc), some (.int x1_4), some (.int (x1_5 + 1)), none, some (.int x5)]) rfl ?_
                    refine pm_fg 7 (loc' := [some (.ref (B + 54)), some (.int za), some (.int zb), some (.int zc), some (.int x1_4), some (.int (x1_5 + 1)), none, none]) rfl ?_
                    exact ih6 _ _ hE
                  · replace hE := fx_f c15 hE
                    refine pm_iloadi hG dX12_inForce_122 rfl ?_
                    refine pm_goto (tgt := 129) hG dX12_inForce_124 rfl ?_
                    refine pm_istoreXi (loc' := [some (.ref (B + 54)), some (.int za), some (.int zb), some (.int zc), some (.int x1_5), some (.int x1_5), some (.int x3), some (.int x5)]) hG dX12_inForce_129 (by decide) (pm_c1b rfl) rfl ?_
                    refine pm_iincX (v := x1_5 + 1) (loc' := [some (.ref (B + 54)), some (.int za), some (.int zb), some (.int zc), some (.int x1_5), some (.int (x1_5 + 1)), some (.int x3), some (.int x5)]) hG dX12_inForce_131 rfl (by rfl) (by decide) (pm_c1b rfl) rfl ?_
                    refine pm_goto (tgt := 6) hG dX12_inForce_134 rfl ?_
                    refine pm_fg 6 (loc' := [some (.ref (B + 54)), some (.int za), some (.int zb), some (.int zc), some (.int x1_5), some (.int (x1_5 + 1)), none, some (.int x5)]) rfl ?_
                    refine pm_fg 7 (loc' := [some (.ref (B + 54)), some (.int za), some (.int zb), some (.int zc), some (.int x1_5), some (.int (x1_5 + 1)), none, none]) rfl ?_
                    exact ih6 _ _ hE
              · replace hE := fx_f c12 hE
                refine pm_goto (tgt := 131) hG dX12_inForce_86 rfl ?_
                refine pm_iincX (v := x1_5 + 1) (loc' := [some (.ref (B + 54)), some (.int za), some (.int zb), some (.int zc), some (.int x1_4), some (.int (x1_5 + 1)), some (.int x3), some (.int x5)]) hG dX12_inForce_131 rfl (by rfl) (by decide) (pm_c1b rfl) rfl ?_
                refine pm_goto (tgt := 6) hG dX12_inForce_134 rfl ?_
                refine pm_fg 6 (loc' := [some (.ref (B + 54)), some (.int za), some (.int zb), some (.int zc), some (.int x1_4), some (.int (x1_5 + 1)), none, some (.int x5)]) rfl ?_
                refine pm_fg 7 (loc' := [some (.ref (B + 54)), some (.int za), some (.int zb), some (.int zc), some (.int x1_4), some (.int (x1_5 + 1)), none, none]) rfl ?_
                exact ih6 _ _ hE
  refine loop6 _ (fun  x16_4 x16_5 hE => ?_) _ _ _ hE
  refine pm_iloadi hG dX12_inForce_137 rfl ?_
  exact pm_iret hG hF dX12_inForce_139 rfl (Nat.le_refl _) (Nat.le_refl _) (fx_pi (Option.some.inj hE))

set_option maxRecDepth 100000 in
set_option maxHeartbeats 4000000 in
theorem c_X12_of {d : Nat} {B cnt : Nat} {σ : pm_S} {S : FS} {za : Int32} {zb : Int32} {R : Int32} (hdd : 1 ≤ d) (hE : q_X12_of S za zb = some R) : pm_met mX12_of d 0 0 B [.ref (B + 54), .int za, .int zb] cnt (mst B S σ) (pm_Qi (fun v σ' cnt' => v = R ∧ σ' = (mst B S σ) ∧ cnt' = cnt)) := by
  refine pm_enter 0 (by decide) (Nat.le_of_ble_eq_true rfl) rfl (fun G hG hR hF => ?_)
  unfold q_X12_of at hE
  refine pm_aloadn hG dX12_of_0 rfl ?_
  refine pm_getf hG dX12_of_1 (flX12_7 _ rfl) rfl rfl ?_
  refine pm_sipush (v := 1290) hG dX12_of_4 (by decide) ?_
  refine pm_bipush (v := 12) hG dX12_of_7 (by decide) ?_
  refine pm_iloadn hG dX12_of_9 rfl ?_
  refine pm_imul hG dX12_of_10 ?_
  refine pm_iadd hG dX12_of_11 ?_
  refine pm_iloadn hG dX12_of_12 rfl ?_
  refine pm_iadd hG dX12_of_13 ?_
  obtain ⟨j1, hj1, hE⟩ := fb_some hE
  refine fx_iald hG dX12_of_14 rfl hj1 ?_
  exact pm_iret hG hF dX12_of_15 rfl (Nat.le_refl _) (Nat.le_refl _) (fx_pi (Option.some.inj hE))

set_option maxRecDepth 100000 in
set_option maxHeartbeats 4000000 in
theorem c_X12_bits {d : Nat} {B cnt : Nat} {σ : pm_S} {S : FS} {za : Int32} {R : Int32} (hdd : 1 ≤ d) (hE : q_X12_bits S za = some R) : pm_met mX12_bits d 0 0 B [.int za] cnt (mst B S σ) (pm_Qi (fun v σ' cnt' => v = R ∧ σ' = (mst B S σ) ∧ cnt' = cnt)) := by
  refine pm_enter 2 (by decide) (Nat.le_of_ble_eq_true rfl) rfl (fun G hG hR hF => ?_)
  unfold q_X12_bits at hE
  refine pm_iconst (v := 0) hG dX12_bits_0 (by decide) ?_
  refine pm_istoreXn (loc' := [some (.int za), some (.int 0), none]) hG dX12_bits_1 (by decide) (pm_c1b rfl) rfl ?_
  refine pm_iloadn hG dX12_bits_2 rfl ?_
  refine pm_istoreXn (loc' := [some (.int za), some (.int 0), some (.int za)]) hG dX12_bits_3 (by decide) (pm_c1b rfl) rfl ?_
  have loop4 : ∀ (k4 : Int32 → Int32 → Option Int32), (∀  (x1_1 : Int32) (x1_2 : Int32), k4  x1_1 x1_2 = some R → pm_wp mX12_bits G B 20 [some (.int za), some (.int x1_1), some (.int x1_2)] [] 0 0 cnt (mst B S σ)) → ∀ (m4 : Nat)  (x1_1 : Int32) (x1_2 : Int32), l_X12_bits_4 k4 m4  x1_1 x1_2 = some R → pm_wp mX12_bits G B 4 [some (.int za), some (.int x1_1), some (.int x1_2)] [] 0 0 cnt (mst B S σ) := by
    intro k4 hk4 m4
    induction m4 with
    | zero => intro  x1_1 x1_2 hE; exact fx_no hE
    | succ m4 ih4 =>
      intro  x1_1 x1_2 hE
      rw [l_X12_bits_4] at hE
      refine pm_iloadn hG dX12_bits_4 rfl ?_
      refine pm_if_eq (tgt := 20) hG dX12_bits_5 rfl (fun c2 => ?_) (fun c2 => ?_)
      · replace hE := fx_t c2 hE
        exact hk4 _ _ hE
      · replace hE := fx_f c2 hE
        refine pm_iincX (v := x1_1 + 1) (loc' := [some (.int za), some (.int (x1_1 + 1)), some (.int x1_2)]) hG dX12_bits_8 rfl (by rfl) (by decide) (pm_c1b rfl) rfl ?_
        refine pm_iloadn hG dX12_bits_11 rfl ?_
        refine pm_iloadn hG dX12_bits_12 rfl ?_
        refine pm_iconst (v := 1) hG dX12_bits_13 (by decide) ?_
        refine pm_isub hG dX12_bits_14 ?_
        refine pm_iand hG dX12_bits_15 ?_
        refine fx_letv hE (fun x3 hE => ?_)
        refine pm_istoreXn (loc' := [some (.int za), some (.int (x1_1 + 1)), some (.int x3)]) hG dX12_bits_16 (by decide) (pm_c1b rfl) rfl ?_
        refine pm_goto (tgt := 4) hG dX12_bits_17 rfl ?_
        exact ih4 _ _ hE
  refine loop4 _ (fun  x4_1 x4_2 hE => ?_) _ _ _ hE
  refine pm_iloadn hG dX12_bits_20 rfl ?_
  exact pm_iret hG hF dX12_bits_21 rfl (Nat.le_refl _) (Nat.le_refl _) (fx_pi (Option.some.inj hE))

set_option maxRecDepth 100000 in
set_option maxHeartbeats 4000000 in
theorem c_X12_setNames {d : Nat} {B cnt : Nat} {σ : pm_S} {S : FS} {za : Int32} {zb : Int32} {zc : Int32} {R : Int32 × FS} (hdd : 3 ≤ d) (hE : f_X12_setNames S za zb zc = some R) : pm_met mX12_setNames d 0 0 B [.ref (B + 54), .int za, .int zb, .int zc] cnt (mst B S σ) (pm_Qv (fun σ' cnt' => σ' = (mst B R.2 σ) ∧ cnt' = cnt)) := by
  refine pm_enter 0 (by decide) (Nat.le_of_ble_eq_true rfl) rfl (fun G hG hR hF => ?_)
  unfold f_X12_setNames at hE
  refine pm_aloadn hG dX12_setNames_0 rfl ?_
  refine pm_getf hG dX12_setNames_1 (flX12_34 _ rfl) rfl rfl ?_
  refine pm_iconst (v := 0) hG dX12_setNames_4 (by decide) ?_
  refine pm_iloadn hG dX12_setNames_5 rfl ?_
  refine pm_if_ge (tgt := 13) hG dX12_setNames_6 rfl (fun c1 => ?_) (fun c1 => ?_)
  · replace c1 := Int32.not_lt.mpr c1
    replace hE := fx_f c1 hE
    refine pm_iloadn hG dX12_setNames_13 rfl ?_
    refine pm_aloadn hG dX12_setNames_14 rfl ?_
    refine pm_iloadn hG dX12_setNames_15 rfl ?_
    refine pm_iconst (v := 1) hG dX12_setNames_16 (by decide) ?_
    obtain ⟨x3, h2, hE⟩ := fb_some hE
    refine pm_callV (As := [.int za, .int 1]) (rest := [.int zc, .int 0, .ref (B + 63)]) hG hR dX12_setNames_17 (lkX12_72 _ rfl) okV_X12_man rfl rfl (c_X12_man (d := 2) (by decide) h2) rfl rfl hdd (Nat.le_refl _) (Nat.le_refl _) (by first | decide | exact Nat.le_of_ble_eq_true rfl) (fx_ki ?_)
    refine pm_isub hG dX12_setNames_20 ?_
    refine pm_sipush (v := 360) hG dX12_setNames_21 (by decide) ?_
    refine pm_idiv hG dX12_setNames_24 (by decide) ?_
    refine fx_iast hG dX12_setNames_25 rfl (ix_lit (by decide) rfl) ?_
    refine ma_63 ?_
    refine fx_letm hE (fun S4 hE => ?_)
    refine pm_aloadn hG dX12_setNames_26 rfl ?_
    refine pm_getf hG dX12_setNames_27 (flX12_34 _ rfl) rfl rfl ?_
    refine pm_iconst (v := 1) hG dX12_setNames_30 (by decide) ?_
    refine pm_iloadn hG dX12_setNames_31 rfl ?_
    refine pm_if_ge (tgt := 39) hG dX12_setNames_32 rfl (fun _ => ?_) (fun q => absurd (Int32.not_le.mp q) c1)
    refine pm_aloadn hG dX12_setNames_39 rfl ?_
    refine pm_iloadn hG dX12_setNames_40 rfl ?_
    refine pm_iconst (v := 0) hG dX12_setNames_41 (by decide) ?_
    obtain ⟨x6, h5, hE⟩ := fb_some hE
    refine pm_callV (As := [.int za, .int 0]) (rest := [.int 1, .ref (B + 63)]) hG hR dX12_setNames_42 (lkX12_72 _ rfl) okV_X12_man rfl rfl (c_X12_man (d := 2) (by decide) h5) rfl rfl hdd (Nat.le_refl _) (Nat.le_refl _) (by first | decide | exact Nat.le_of_ble_eq_true rfl) (fx_ki ?_)
    refine fx_iast hG dX12_setNames_45 rfl (ix_lit (by decide) rfl) ?_
    refine ma_63 ?_
    refine fx_letm hE (fun S7 hE => ?_)
    refine pm_aloadn hG dX12_setNames_46 rfl ?_
    refine pm_getf hG dX12_setNames_47 (flX12_34 _ rfl) rfl rfl ?_
    refine pm_iconst (v := 2) hG dX12_setNames_50 (by decide) ?_
    refine pm_iloadn hG dX12_setNames_51 rfl ?_
    refine pm_if_ge (tgt := 59) hG dX12_setNames_52 rfl (fun _ => ?_) (fun q => absurd (Int32.not_le.mp q) c1)
    refine pm_aloadn hG dX12_setNames_59 rfl ?_
    refine pm_iloadn hG dX12_setNames_60 rfl ?_
    obtain ⟨x9, h8, hE⟩ := fb_some hE
    refine pm_callV (As := [.int za]) (rest := [.int 2, .ref (B + 63)]) hG hR dX12_setNames_61 (lkX12_122 _ rfl) okV_X12_holdsMany rfl rfl (c_X12_holdsMany (d := 2) (by decide) h8) rfl rfl hdd (Nat.le_refl _) (Nat.le_refl _) (by first | decide | exact Nat.le_of_ble_eq_true rfl) (fx_ki ?_)
    refine fx_iast hG dX12_setNames_64 rfl (ix_lit (by decide) rfl) ?_
    refine ma_63 ?_
    refine fx_letm hE (fun S10 hE => ?_)
    refine pm_aloadn hG dX12_setNames_65 rfl ?_
    refine pm_getf hG dX12_setNames_66 (flX12_34 _ rfl) rfl rfl ?_
    refine pm_iconst (v := 3) hG dX12_setNames_69 (by decide) ?_
    refine pm_iloadn hG dX12_setNames_70 rfl ?_
    refine pm_if_ge (tgt := 78) hG dX12_setNames_71 rfl (fun _ => ?_) (fun q => absurd (Int32.not_le.mp q) c1)
    refine pm_aloadn hG dX12_setNames_78 rfl ?_
    refine pm_iloadn hG dX12_setNames_79 rfl ?_
    refine pm_bipush (v := 7) hG dX12_setNames_80 (by decide) ?_
    obtain ⟨x12, h11, hE⟩ := fb_some hE
    refine pm_callV (As := [.int za, .int 7]) (rest := [.int 3, .ref (B + 63)]) hG hR dX12_setNames_82 (lkX12_72 _ rfl) okV_X12_man rfl rfl (c_X12_man (d := 2) (by decide) h11) rfl rfl hdd (Nat.le_refl _) (Nat.le_refl _) (by first | decide | exact Nat.le_of_ble_eq_true rfl) (fx_ki ?_)
    refine fx_iast hG dX12_setNames_85 rfl (ix_lit (by decide) rfl) ?_
    refine ma_63 ?_
    refine fx_letm hE (fun S13 hE => ?_)
    refine pm_aloadn hG dX12_setNames_86 rfl ?_
    refine pm_getf hG dX12_setNames_87 (flX12_34 _ rfl) rfl rfl ?_
    refine pm_iconst (v := 4) hG dX12_setNames_90 (by decide) ?_
    refine pm_iloadn hG dX12_setNames_91 rfl ?_
    refine pm_if_ge (tgt := 99) hG dX12_setNames_92 rfl (fun _ => ?_) (fun q => absurd (Int32.not_le.mp q) c1)
    refine pm_aloadn hG dX12_setNames_99 rfl ?_
    refine pm_iloadn hG dX12_setNames_100 rfl ?_
    refine pm_bipush (v := 8) hG dX12_setNames_101 (by decide) ?_
    obtain ⟨x15, h14, hE⟩ := fb_some hE
    refine pm_callV (As := [.int za, .int 8]) (rest := [.int 4, .ref (B + 63)]) hG hR dX12_setNames_103 (lkX12_72 _ rfl) okV_X12_man rfl rfl (c_X12_man (d := 2) (by decide) h14) rfl rfl hdd (Nat.le_refl _) (Nat.le_refl _) (by first | decide | exact Nat.le_of_ble_eq_true rfl) (fx_ki ?_)
    refine fx_iast hG dX12_setNames_106 rfl (ix_lit (by decide) rfl) ?_
    refine ma_63 ?_
    refine fx_letm hE (fun S16 hE => ?_)
    refine pm_aloadn hG dX12_setNames_107 rfl ?_
    refine pm_getf hG dX12_setNames_108 (flX12_34 _ rfl) rfl rfl ?_
    refine pm_iconst (v := 5) hG dX12_setNames_111 (by decide) ?_
    refine pm_iloadn hG dX12_setNames_112 rfl ?_
    refine pm_if_ge (tgt := 120) hG dX12_setNames_113 rfl (fun _ => ?_) (fun q => absurd (Int32.not_le.mp q) c1)
    refine pm_aloadn hG dX12_setNames_120 rfl ?_
    refine pm_iloadn hG dX12_setNames_121 rfl ?_
    refine pm_iconst (v := 4) hG dX12_setNames_122 (by decide) ?_
    obtain ⟨x18, h17, hE⟩ := fb_some hE
    refine pm_callV (As := [.int za, .int 4]) (rest := [.int 5, .ref (B + 63)]) hG hR dX12_setNames_123 (lkX12_72 _ rfl) okV_X12_man rfl rfl (c_X12_man (d := 2) (by decide) h17) rfl rfl hdd (Nat.le_refl _) (Nat.le_refl _) (by first | decide | exact Nat.le_of_ble_eq_true rfl) (fx_ki ?_)
    refine pm_if_ge (tgt := 134) hG dX12_setNames_126 rfl (fun c19 => ?_) (fun c19 => ?_)
    · replace c19 := Int32.not_lt.mpr c19
      replace hE := fx_f c19 hE
      refine pm_aloadn hG dX12_setNames_134 rfl ?_
      refine pm_iloadn hG dX12_setNames_135 rfl ?_
      refine pm_iconst (v := 4) hG dX12_setNames_136 (by decide) ?_
      obtain ⟨x21, h20, hE⟩ := fb_some hE
      refine pm_callV (As := [.int za, .int 4]) (rest := [.int 5, .ref (B + 63)]) hG hR dX12_setNames_137 (lkX12_72 _ rfl) okV_X12_man rfl rfl (c_X12_man (d := 2) (by decide) h20) rfl rfl hdd (Nat.le_refl _) (Nat.le_refl _) (by first | decide | exact Nat.le_of_ble_eq_true rfl) (fx_ki ?_)
      refine fx_iast hG dX12_setNames_140 rfl (ix_lit (by decide) rfl) ?_
      refine ma_63 ?_
      refine fx_letm hE (fun S22 hE => ?_)
      refine pm_aloadn hG dX12_setNames_141 rfl ?_
      refine pm_getf hG dX12_setNames_142 (flX12_34 _ rfl) rfl rfl ?_
      refine pm_bipush (v := 6) hG dX12_setNames_145 (by decide) ?_
      refine pm_iloadn hG dX12_setNames_147 rfl ?_
      refine pm_if_ge (tgt := 155) hG dX12_setNames_148 rfl (fun _ => ?_) (fun q => absurd (Int32.not_le.mp q) c1)
      refine pm_aloadn hG dX12_setNames_155 rfl ?_
      refine pm_iloadn hG dX12_setNames_156 rfl ?_
      obtain ⟨r24, h23, hE⟩ := fb_some hE
      refine pm_callV (As := [.int za]) (rest := [.int 6, .ref (B + 63)]) hG hR dX12_setNames_157 (lkX12_125 _ rfl) okV_X12_stepsOf rfl rfl (c_X12_stepsOf (d := 2) (by decide) h23) rfl rfl hdd (Nat.le_refl _) (Nat.le_refl _) (by first | decide | exact Nat.le_of_ble_eq_true rfl) (fx_ki ?_)
      refine fx_iast hG dX12_setNames_160 rfl (ix_lit (by decide) rfl) ?_
      refine ma_63 ?_
      refine fx_letm hE (fun S25 hE => ?_)
      refine pm_aloadn hG dX12_setNames_161 rfl ?_
      refine pm_getf hG dX12_setNames_162 (flX12_34 _ rfl) rfl rfl ?_
      refine pm_bipush (v := 7) hG dX12_setNames_165 (by decide) ?_
      refine pm_iloadn hG dX12_setNames_167 rfl ?_
      refine pm_if_ge (tgt := 175) hG dX12_setNames_168 rfl (fun c26 => ?_) (fun c26 => ?_)
      · replace c26 := Int32.not_lt.mpr c26
        replace hE := fx_f c26 hE
        refine pm_aloadn hG dX12_setNames_175 rfl ?_
        refine pm_iloadn hG dX12_setNames_176 rfl ?_
        refine pm_iconst (v := 3) hG dX12_setNames_177 (by decide) ?_
        obtain ⟨x28, h27, hE⟩ := fb_some hE
        refine pm_callV (As := [.int zb, .int 3]) (rest := [.int 7, .ref (B + 63)]) hG hR dX12_setNames_178 (lkX12_199 _ rfl) okV_X12_of rfl rfl (c_X12_of (d := 2) (by decide) h27) rfl rfl hdd (Nat.le_refl _) (Nat.le_refl _) (by first | decide | exact Nat.le_of_ble_eq_true rfl) (fx_ki ?_)
        obtain ⟨x30, h29, hE⟩ := fb_some hE
        refine pm_callS (As := [.int x28]) (rest := [.int 7, .ref (B + 63)]) hG hR dX12_setNames_181 (lkX12_202 _ rfl) okS_X12_bits (c_X12_bits (d := 2) (by decide) h29) rfl rfl hdd (Nat.le_refl _) (Nat.le_refl _) (by first | decide | exact Nat.le_of_ble_eq_true rfl) (fx_ki ?_)
        refine fx_iast hG dX12_setNames_184 rfl (ix_lit (by decide) rfl) ?_
        refine ma_63 ?_
        refine fx_letm hE (fun S31 hE => ?_)
        refine pm_aloadn hG dX12_setNames_185 rfl ?_
        refine pm_getf hG dX12_setNames_186 (flX12_34 _ rfl) rfl rfl ?_
        refine pm_bipush (v := 8) hG dX12_setNames_189 (by decide) ?_
        refine pm_iloadn hG dX12_setNames_191 rfl ?_
        refine pm_if_ge (tgt := 199) hG dX12_setNames_192 rfl (fun _ => ?_) (fun q => absurd (Int32.not_le.mp q) c26)
        refine pm_aloadn hG dX12_setNames_199 rfl ?_
        refine pm_iloadn hG dX12_setNames_200 rfl ?_
        refine pm_iconst (v := 1) hG dX12_setNames_201 (by decide) ?_
        obtain ⟨x33, h32, hE⟩ := fb_some hE
        refine pm_callV (As := [.int zb, .int 1]) (rest := [.int 8, .ref (B + 63)]) hG hR dX12_setNames_202 (lkX12_199 _ rfl) okV_X12_of rfl rfl (c_X12_of (d := 2) (by decide) h32) rfl rfl hdd (Nat.le_refl _) (Nat.le_refl _) (by first | decide | exact Nat.le_of_ble_eq_true rfl) (fx_ki ?_)
        refine fx_iast hG dX12_setNames_205 rfl (ix_lit (by decide) rfl) ?_
        refine ma_63 ?_
        refine fx_letm hE (fun S34 hE => ?_)
        refine pm_aloadn hG dX12_setNames_206 rfl ?_
        refine pm_getf hG dX12_setNames_207 (flX12_34 _ rfl) rfl rfl ?_
        refine pm_bipush (v := 9) hG dX12_setNames_210 (by decide) ?_
        refine pm_iloadn hG dX12_setNames_212 rfl ?_
        refine pm_if_ge (tgt := 220) hG dX12_setNames_213 rfl (fun _ => ?_) (fun q => absurd (Int32.not_le.mp q) c26)
        refine pm_aloadn hG dX12_setNames_220 rfl ?_
        refine pm_iloadn hG dX12_setNames_221 rfl ?_
        refine pm_iconst (v := 2) hG dX12_setNames_222 (by decide) ?_
        obtain ⟨x36, h35, hE⟩ := fb_some hE
        refine pm_callV (As := [.int zb, .int 2]) (rest := [.int 9, .ref (B + 63)]) hG hR dX12_setNames_223 (lkX12_199 _ rfl) okV_X12_of rfl rfl (c_X12_of (d := 2) (by decide) h35) rfl rfl hdd (Nat.le_refl _) (Nat.le_refl _) (by first | decide | exact Nat.le_of_ble_eq_true rfl) (fx_ki ?_)
        refine fx_iast hG dX12_setNames_226 rfl (ix_lit (by decide) rfl) ?_
        refine ma_63 ?_
        refine fx_letm hE (fun S37 hE => ?_)
        refine pm_aloadn hG dX12_setNames_227 rfl ?_
        refine pm_getf hG dX12_setNames_228 (flX12_34 _ rfl) rfl rfl ?_
        refine pm_bipush (v := 10) hG dX12_setNames_231 (by decide) ?_
        refine pm_iloadn hG dX12_setNames_233 rfl ?_
        refine fx_iast hG dX12_setNames_234 rfl (ix_lit (by decide) rfl) ?_
        refine ma_63 ?_
        refine fx_letm hE (fun S38 hE => ?_)
        exact pm_vret hG hF dX12_setNames_235 rfl (Nat.le_refl _) (Nat.le_refl _) (fx_rvm hE)
      · replace c26 := Int32.not_le.mp c26
        replace hE := fx_t c26 hE
        refine pm_iconst (v := 0) hG dX12_setNames_171 (by decide) ?_
        refine pm_goto (tgt := 184) hG dX12_setNames_172 rfl ?_
        refine fx_iast hG dX12_setNames_184 rfl (ix_lit (by decide) rfl) ?_
        refine ma_63 ?_
        refine fx_letm hE (fun S39 hE => ?_)
        refine pm_aloadn hG dX12_setNames_185 rfl ?_
        refine pm_getf hG dX12_setNames_186 (flX12_34 _ rfl) rfl rfl ?_
        refine pm_bipush (v := 8) hG dX12_setNames_189 (by decide) ?_
        refine pm_iloadn hG dX12_setNames_191 rfl ?_
        refine pm_if_ge (tgt := 199) hG dX12_setNames_192 rfl (fun q => absurd c26 (Int32.not_lt.mpr q)) (fun _ => ?_)
        refine pm_iconst (v := 0) hG dX12_setNames_195 (by decide) ?_
        refine pm_goto (tgt := 205) hG dX12_setNames_196 rfl ?_
        refine fx_iast hG dX12_setNames_205 rfl (ix_lit (by decide) rfl) ?_
        refine ma_63 ?_
        refine fx_letm hE (fun S40 hE => ?_)
        refine pm_aloadn hG dX12_setNames_206 rfl ?_
        refine pm_getf hG dX12_setNames_207 (flX12_34 _ rfl) rfl rfl ?_
        refine pm_bipush (v := 9) hG dX12_setNames_210 (by decide) ?_
        refine pm_iloadn hG dX12_setNames_212 rfl ?_
        refine pm_if_ge (tgt := 220) hG dX12_setNames_213 rfl (fun q => absurd c26 (Int32.not_lt.mpr q)) (fun _ => ?_)
        refine pm_iconst (v := 0) hG dX12_setNames_216 (by decide) ?_
        refine pm_goto (tgt := 226) hG dX12_setNames_217 rfl ?_
        refine fx_iast hG dX12_setNames_226 rfl (ix_lit (by decide) rfl) ?_
        refine ma_63 ?_
        refine fx_letm hE (fun S41 hE => ?_)
        refine pm_aloadn hG dX12_setNames_227 rfl ?_
        refine pm_getf hG dX12_setNames_228 (flX12_34 _ rfl) rfl rfl ?_
        refine pm_bipush (v := 10) hG dX12_setNames_231 (by decide) ?_
        refine pm_iloadn hG dX12_setNames_233 rfl ?_
        refine fx_iast hG dX12_setNames_234 rfl (ix_lit (by decide) rfl) ?_
        refine ma_63 ?_
        refine fx_letm hE (fun S42 hE => ?_)
        exact pm_vret hG hF dX12_setNames_235 rfl (Nat.le_refl _) (Nat.le_refl _) (fx_rvm hE)
    · replace c19 := Int32.not_le.mp c19
      replace hE := fx_t c19 hE
      refine pm_bipush (v := 10) hG dX12_setNames_129 (by decide) ?_
      refine pm_goto (tgt := 140) hG dX12_setNames_131 rfl ?_
      refine fx_iast hG dX12_setNames_140 rfl (ix_lit (by decide) rfl) ?_
      refine ma_63 ?_
      refine fx_letm hE (fun S43 hE => ?_)
      refine pm_aloadn hG dX12_setNames_141 rfl ?_
      refine pm_getf hG dX12_setNames_142 (flX12_34 _ rfl) rfl rfl ?_
      refine pm_bipush (v := 6) hG dX12_setNames_145 (by decide) ?_
      refine pm_iloadn hG dX12_setNames_147 rfl ?_
      refine pm_if_ge (tgt := 155) hG dX12_setNames_148 rfl (fun _ => ?_) (fun q => absurd (Int32.not_le.mp q) c1)
      refine pm_aloadn hG dX12_setNames_155 rfl ?_
      refine pm_iloadn hG dX12_setNames_156 rfl ?_
      obtain ⟨r45, h44, hE⟩ := fb_some hE
      refine pm_callV (As := [.int za]) (rest := [.int 6, .ref (B + 63)]) hG hR dX12_setNames_157 (lkX12_125 _ rfl) okV_X12_stepsOf rfl rfl (c_X12_stepsOf (d := 2) (by decide) h44) rfl rfl hdd (Nat.le_refl _) (Nat.le_refl _) (by first | decide | exact Nat.le_of_ble_eq_true rfl) (fx_ki ?_)
      refine fx_iast hG dX12_setNames_160 rfl (ix_lit (by decide) rfl) ?_
      refine ma_63 ?_
      refine fx_letm hE (fun S46 hE => ?_)
      refine pm_aloadn hG dX12_setNames_161 rfl ?_
      refine pm_getf hG dX12_setNames_162 (flX12_34 _ rfl) rfl rfl ?_
      refine pm_bipush (v := 7) hG dX12_setNames_165 (by decide) ?_
      refine pm_iloadn hG dX12_setNames_167 rfl ?_
      refine pm_if_ge (tgt := 175) hG dX12_setNames_168 rfl (fun c47 => ?_) (fun c47 => ?_)
      · replace c47 := Int32.not_lt.mpr c47
        replace hE := fx_f c47 hE
        refine pm_aloadn hG dX12_setNames_175 rfl ?_
        refine pm_iloadn hG dX12_setNames_176 rfl ?_
        refine pm_iconst (v := 3) hG dX12_setNames_177 (by decide) ?_
        obtain ⟨x49, h48, hE⟩ := fb_some hE
        refine pm_callV (As := [.int zb, .int 3]) (rest := [.int 7, .ref (B + 63)]) hG hR dX12_setNames_178 (lkX12_199 _ rfl) okV_X12_of rfl rfl (c_X12_of (d := 2) (by decide) h48) rfl rfl hdd (Nat.le_refl _) (Nat.le_refl _) (by first | decide | exact Nat.le_of_ble_eq_true rfl) (fx_ki ?_)
        obtain ⟨x51, h50, hE⟩ := fb_some hE
        refine pm_callS (As := [.int x49]) (rest := [.int 7, .ref (B + 63)]) hG hR dX12_setNames_181 (lkX12_202 _ rfl) okS_X12_bits (c_X12_bits (d := 2) (by decide) h50) rfl rfl hdd (Nat.le_refl _) (Nat.le_refl _) (by first | decide | exact Nat.le_of_ble_eq_true rfl) (fx_ki ?_)
        refine fx_iast hG dX12_setNames_184 rfl (ix_lit (by decide) rfl) ?_
        refine ma_63 ?_
        refine fx_letm hE (fun S52 hE => ?_)
        refine pm_aloadn hG dX12_setNames_185 rfl ?_
        refine pm_getf hG dX12_setNames_186 (flX12_34 _ rfl) rfl rfl ?_
        refine pm_bipush (v := 8) hG dX12_setNames_189 (by decide) ?_
        refine pm_iloadn hG dX12_setNames_191 rfl ?_
        refine pm_if_ge (tgt := 199) hG dX12_setNames_192 rfl (fun _ => ?_) (fun q => absurd (Int32.not_le.mp q) c47)
        refine pm_aloadn hG dX12_setNames_199 rfl ?_
        refine pm_iloadn hG dX12_setNames_200 rfl ?_
        refine pm_iconst (v := 1) hG dX12_setNames_201 (by decide) ?_
        obtain ⟨x54, h53, hE⟩ := fb_some hE
        refine pm_callV (As := [.int zb, .int 1]) (rest := [.int 8, .ref (B + 63)]) hG hR dX12_setNames_202 (lkX12_199 _ rfl) okV_X12_of rfl rfl (c_X12_of (d := 2) (by decide) h53) rfl rfl hdd (Nat.le_refl _) (Nat.le_refl _) (by first | decide | exact Nat.le_of_ble_eq_true rfl) (fx_ki ?_)
        refine fx_iast hG dX12_setNames_205 rfl (ix_lit (by decide) rfl) ?_
        refine ma_63 ?_
        refine fx_letm hE (fun S55 hE => ?_)
        refine pm_aloadn hG dX12_setNames_206 rfl ?_
        refine pm_getf hG dX12_setNames_207 (flX12_34 _ rfl) rfl rfl ?_
        refine pm_bipush (v := 9) hG dX12_setNames_210 (by decide) ?_
        refine pm_iloadn hG dX12_setNames_212 rfl ?_
        refine pm_if_ge (tgt := 220) hG dX12_setNames_213 rfl (fun _ => ?_) (fun q => absurd (Int32.not_le.mp q) c47)
        refine pm_aloadn hG dX12_setNames_220 rfl ?_
        refine pm_iloadn hG dX12_setNames_221 rfl ?_
        refine pm_iconst (v := 2) hG dX12_setNames_222 (by decide) ?_
        obtain ⟨x57, h56, hE⟩ := fb_some hE
        refine pm_callV (As := [.int zb, .int 2]) (rest := [.int 9, .ref (B + 63)]) hG hR dX12_setNames_223 (lkX12_199 _ rfl) okV_X12_of rfl rfl (c_X12_of (d := 2) (by decide) h56) rfl rfl hdd (Nat.le_refl _) (Nat.le_refl _) (by first | decide | exact Nat.le_of_ble_eq_true rfl) (fx_ki ?_)
        refine fx_iast hG dX12_setNames_226 rfl (ix_lit (by decide) rfl) ?_
        refine ma_63 ?_
        refine fx_letm hE (fun S58 hE => ?_)
        refine pm_aloadn hG dX12_setNames_227 rfl ?_
        refine pm_getf hG dX12_setNames_228 (flX12_34 _ rfl) rfl rfl ?_
        refine pm_bipush (v := 10) hG dX12_setNames_231 (by decide) ?_
        refine pm_iloadn hG dX12_setNames_233 rfl ?_
        refine fx_iast hG dX12_setNames_234 rfl (ix_lit (by decide) rfl) ?_
        refine ma_63 ?_
        refine fx_letm hE (fun S59 hE => ?_)
        exact pm_vret hG hF dX12_setNames_235 rfl (Nat.le_refl _) (Nat.le_refl _) (fx_rvm hE)
      · replace c47 := Int32.not_le.mp c47
        replace hE := fx_t c47 hE
        refine pm_iconst (v := 0) hG dX12_setNames_171 (by decide) ?_
        refine pm_goto (tgt := 184) hG dX12_setNames_172 rfl ?_
        refine fx_iast hG dX12_setNames_184 rfl (ix_lit (by decide) rfl) ?_
        refine ma_63 ?_
        refine fx_letm hE (fun S60 hE => ?_)
        refine pm_aloadn hG dX12_setNames_185 rfl ?_
        refine pm_getf hG dX12_setNames_186 (flX12_34 _ rfl) rfl rfl ?_
        refine pm_bipush (v := 8) hG dX12_setNames_189 (by decide) ?_
        refine pm_iloadn hG dX12_setNames_191 rfl ?_
        refine pm_if_ge (tgt := 199) hG dX12_setNames_192 rfl (fun q => absurd c47 (Int32.not_lt.mpr q)) (fun _ => ?_)
        refine pm_iconst (v := 0) hG dX12_setNames_195 (by decide) ?_
        refine pm_goto (tgt := 205) hG dX12_setNames_196 rfl ?_
        refine fx_iast hG dX12_setNames_205 rfl (ix_lit (by decide) rfl) ?_
        refine ma_63 ?_
        refine fx_letm hE (fun S61 hE => ?_)
        refine pm_aloadn hG dX12_setNames_206 rfl ?_
        refine pm_getf hG dX12_setNames_207 (flX12_34 _ rfl) rfl rfl ?_
        refine pm_bipush (v := 9) hG dX12_setNames_210 (by decide) ?_
        refine pm_iloadn hG dX12_setNames_212 rfl ?_
        refine pm_if_ge (tgt := 220) hG dX12_setNames_213 rfl (fun q => absurd c47 (Int32.not_lt.mpr q)) (fun _ => ?_)
        refine pm_iconst (v := 0) hG dX12_setNames_216 (by decide) ?_
        refine pm_goto (tgt := 226) hG dX12_setNames_217 rfl ?_
        refine fx_iast hG dX12_setNames_226 rfl (ix_lit (by decide) rfl) ?_
        refine ma_63 ?_
        refine fx_letm hE (fun S62 hE => ?_)
        refine pm_aloadn hG dX12_setNames_227 rfl ?_
        refine pm_getf hG dX12_setNames_228 (flX12_34 _ rfl) rfl rfl ?_
        refine pm_bipush (v := 10) hG dX12_setNames_231 (by decide) ?_
        refine pm_iloadn hG dX12_setNames_233 rfl ?_
        refine fx_iast hG dX12_setNames_234 rfl (ix_lit (by decide) rfl) ?_
        refine ma_63 ?_
        refine fx_letm hE (fun S63 hE => ?_)
        exact pm_vret hG hF dX12_setNames_235 rfl (Nat.le_refl _) (Nat.le_refl _) (fx_rvm hE)
  · replace c1 := Int32.not_le.mp c1
    replace hE := fx_t c1 hE
    refine pm_iconst (v := 0) hG dX12_setNames_9 (by decide) ?_
    refine pm_goto (tgt := 25) hG dX12_setNames_10 rfl ?_
    refine fx_iast hG dX12_setNames_25 rfl (ix_lit (by decide) rfl) ?_
    refine ma_63 ?_
    refine fx_letm hE (fun S64 hE => ?_)
    refine pm_aloadn hG dX12_setNames_26 rfl ?_
    refine pm_getf hG dX12_setNames_27 (flX12_34 _ rfl) rfl rfl ?_
    refine pm_iconst (v := 1) hG dX12_setNames_30 (by decide) ?_
    refine pm_iloadn hG dX12_setNames_31 rfl ?_
    refine pm_if_ge (tgt := 39) hG dX12_setNames_32 rfl (fun q => absurd c1 (Int32.not_lt.mpr q)) (fun _ => ?_)
    refine pm_iconst (v := 0) hG dX12_setNames_35 (by decide) ?_
    refine pm_goto (tgt := 45) hG dX12_setNames_36 rfl ?_
    refine fx_iast hG dX12_setNames_45 rfl (ix_lit (by decide) rfl) ?_
    refine ma_63 ?_
    refine fx_letm hE (fun S65 hE => ?_)
    refine pm_aloadn hG dX12_setNames_46 rfl ?_
    refine pm_getf hG dX12_setNames_47 (flX12_34 _ rfl) rfl rfl ?_
    refine pm_iconst (v := 2) hG dX12_setNames_50 (by decide) ?_
    refine pm_iloadn hG dX12_setNames_51 rfl ?_
    refine pm_if_ge (tgt := 59) hG dX12_setNames_52 rfl (fun q => absurd c1 (Int32.not_lt.mpr q)) (fun _ => ?_)
    refine pm_iconst (v := 0) hG dX12_setNames_55 (by decide) ?_
    refine pm_goto (tgt := 64) hG dX12_setNames_56 rfl ?_
    refine fx_iast hG dX12_setNames_64 rfl (ix_lit (by decide) rfl) ?_
    refine ma_63 ?_
    refine fx_letm hE (fun S66 hE => ?_)
    refine pm_aloadn hG dX12_setNames_65 rfl ?_
    refine pm_getf hG dX12_setNames_66 (flX12_34 _ rfl) rfl rfl ?_
    refine pm_iconst (v := 3) hG dX12_setNames_69 (by decide) ?_
    refine pm_iloadn hG dX12_setNames_70 rfl ?_
    refine pm_if_ge (tgt := 78) hG dX12_setNames_71 rfl (fun q => absurd c1 (Int32.not_lt.mpr q)) (fun _ => ?_)
    refine pm_iconst (v := 0) hG dX12_setNames_74 (by decide) ?_
    refine pm_goto (tgt := 85) hG dX12_setNames_75 rfl ?_
    refine fx_iast hG dX12_setNames_85 rfl (ix_lit (by decide) rfl) ?_
    refine ma_63 ?_
    refine fx_letm hE (fun S67 hE => ?_)
    refine pm_aloadn hG dX12_setNames_86 rfl ?_
    refine pm_getf hG dX12_setNames_87 (flX12_34 _ rfl) rfl rfl ?_
    refine pm_iconst (v := 4) hG dX12_setNames_90 (by decide) ?_
    refine pm_iloadn hG dX12_setNames_91 rfl ?_
    refine pm_if_ge (tgt := 99) hG dX12_setNames_92 rfl (fun q => absurd c1 (Int32.not_lt.mpr q)) (fun _ => ?_)
    refine pm_iconst (v := 0) hG dX12_setNames_95 (by decide) ?_
    refine pm_goto (tgt := 106) hG dX12_setNames_96 rfl ?_
    refine fx_iast hG dX12_setNames_106 rfl (ix_lit (by decide) rfl) ?_
    refine ma_63 ?_
    refine fx_letm hE (fun S68 hE => ?_)
    refine pm_aloadn hG dX12_setNames_107 rfl ?_
    refine pm_getf hG dX12_setNames_108 (flX12_34 _ rfl) rfl rfl ?_
    refine pm_iconst (v := 5) hG dX12_setNames_111 (by decide) ?_
    refine pm_iloadn hG dX12_setNames_112 rfl ?_
    refine pm_if_ge (tgt := 120) hG dX12_setNames_113 rfl (fun q => absurd c1 (Int32.not_lt.mpr q)) (fun _ => ?_)
    refine pm_iconst (v := 0) hG dX12_setNames_116 (by decide) ?_
    refine pm_goto (tgt := 140) hG dX12_setNames_117 rfl ?_
    refine fx_iast hG dX12_setNames_140 rfl (ix_lit (by decide) rfl) ?_
    refine ma_63 ?_
    refine fx_letm hE (fun S69 hE => ?_)
    refine pm_aloadn hG dX12_setNames_141 rfl ?_
    refine pm_getf hG dX12_setNames_142 (flX12_34 _ rfl) rfl rfl ?_
    refine pm_bipush (v := 6) hG dX12_setNames_145 (by decide) ?_
    refine pm_iloadn hG dX12_setNames_147 rfl ?_
    refine pm_if_ge (tgt := 155) hG dX12_setNames_148 rfl (fun q => absurd c1 (Int32.not_lt.mpr q)) (fun _ => ?_)
    refine pm_iconst (v := 0) hG dX12_setNames_151 (by decide) ?_
    refine pm_goto (tgt := 160) hG dX12_setNames_152 rfl ?_
    refine fx_iast hG dX12_setNames_160 rfl (ix_lit (by decide) rfl) ?_
    refine ma_63 ?_
    refine fx_letm hE (fun S70 hE => ?_)
    refine pm_aloadn hG dX12_setNames_161 rfl ?_
    refine pm_getf hG dX12_setNames_162 (flX12_34 _ rfl) rfl rfl ?_
    refine pm_bipush (v := 7) hG dX12_setNames_165 (by decide) ?_
    refine pm_iloadn hG dX12_setNames_167 rfl ?_
    refine pm_if_ge (tgt := 175) hG dX12_setNames_168 rfl (fun c71 => ?_) (fun c71 => ?_)
    · replace c71 := Int32.not_lt.mpr c71
      replace hE := fx_f c71 hE
      refine pm_aloadn hG dX12_setNames_175 rfl ?_
      refine pm_iloadn hG dX12_setNames_176 rfl ?_
      refine pm_iconst (v := 3) hG dX12_setNames_177 (by decide) ?_
      obtain ⟨x73, h72, hE⟩ := fb_some hE
      refine pm_callV (As := [.int zb, .int 3]) (rest := [.int 7, .ref (B + 63)]) hG hR dX12_setNames_178 (lkX12_199 _ rfl) okV_X12_of rfl rfl (c_X12_of (d := 2) (by decide) h72) rfl rfl hdd (Nat.le_refl _) (Nat.le_refl _) (by first | decide | exact Nat.le_of_ble_eq_true rfl) (fx_ki ?_)
      obtain ⟨x75, h74, hE⟩ := fb_some hE
      refine pm_callS (As := [.int x73]) (rest := [.int 7, .ref (B + 63)]) hG hR dX12_setNames_181 (lkX12_202 _ rfl) okS_X12_bits (c_X12_bits (d := 2) (by decide) h74) rfl rfl hdd (Nat.le_refl _) (Nat.le_refl _) (by first | decide | exact Nat.le_of_ble_eq_true rfl) (fx_ki ?_)
      refine fx_iast hG dX12_setNames_184 rfl (ix_lit (by decide) rfl) ?_
      refine ma_63 ?_
      refine fx_letm hE (fun S76 hE => ?_)
      refine pm_aloadn hG dX12_setNames_185 rfl ?_
      refine pm_getf hG dX12_setNames_186 (flX12_34 _ rfl) rfl rfl ?_
      refine pm_bipush (v := 8) hG dX12_setNames_189 (by decide) ?_
      refine pm_iloadn hG dX12_setNames_191 rfl ?_
      refine pm_if_ge (tgt := 199) hG dX12_setNames_192 rfl (fun _ => ?_) (fun q => absurd (Int32.not_le.mp q) c71)
      refine pm_aloadn hG dX12_setNames_199 rfl ?_
      refine pm_iloadn hG dX12_setNames_200 rfl ?_
      refine pm_iconst (v := 1) hG dX12_setNames_201 (by decide) ?_
      obtain ⟨x78, h77, hE⟩ := fb_some hE
      refine pm_callV (As := [.int zb, .int 1]) (rest := [.int 8, .ref (B + 63)]) hG hR dX12_setNames_202 (lkX12_199 _ rfl) okV_X12_of rfl rfl (c_X12_of (d := 2) (by decide) h77) rfl rfl hdd (Nat.le_refl _) (Nat.le_refl _) (by first | decide | exact Nat.le_of_ble_eq_true rfl) (fx_ki ?_)
      refine fx_iast hG dX12_setNames_205 rfl (ix_lit (by decide) rfl) ?_
      refine ma_63 ?_
      refine fx_letm hE (fun S79 hE => ?_)
      refine pm_aloadn hG dX12_setNames_206 rfl ?_
      refine pm_getf hG dX12_setNames_207 (flX12_34 _ rfl) rfl rfl ?_
      refine pm_bipush (v := 9) hG dX12_setNames_210 (by decide) ?_
      refine pm_iloadn hG dX12_setNames_212 rfl ?_
      refine pm_if_ge (tgt := 220) hG dX12_setNames_213 rfl (fun _ => ?_) (fun q => absurd (Int32.not_le.mp q) c71)
      refine pm_aloadn hG dX12_setNames_220 rfl ?_
      refine pm_iloadn hG dX12_setNames_221 rfl ?_
      refine pm_iconst (v := 2) hG dX12_setNames_222 (by decide) ?_
      obtain ⟨x81, h80, hE⟩ := fb_some hE
      refine pm_callV (As := [.int zb, .int 2]) (rest := [.int 9, .ref (B + 63)]) hG hR dX12_setNames_223 (lkX12_199 _ rfl) okV_X12_of rfl rfl (c_X12_of (d := 2) (by decide) h80) rfl rfl hdd (Nat.le_refl _) (Nat.le_refl _) (by first | decide | exact Nat.le_of_ble_eq_true rfl) (fx_ki ?_)
      refine fx_iast hG dX12_setNames_226 rfl (ix_lit (by decide) rfl) ?_
      refine ma_63 ?_
      refine fx_letm hE (fun S82 hE => ?_)
      refine pm_aloadn hG dX12_setNames_227 rfl ?_
      refine pm_getf hG dX12_setNames_228 (flX12_34 _ rfl) rfl rfl ?_
      refine pm_bipush (v := 10) hG dX12_setNames_231 (by decide) ?_
      refine pm_iloadn hG dX12_setNames_233 rfl ?_
      refine fx_iast hG dX12_setNames_234 rfl (ix_lit (by decide) rfl) ?_
      refine ma_63 ?_
      refine fx_letm hE (fun S83 hE => ?_)
      exact pm_vret hG hF dX12_setNames_235 rfl (Nat.le_refl _) (Nat.le_refl _) (fx_rvm hE)
    · replace c71 := Int32.not_le.mp c71
      replace hE := fx_t c71 hE
      refine pm_iconst (v := 0) hG dX12_setNames_171 (by decide) ?_
      refine pm_goto (tgt := 184) hG dX12_setNames_172 rfl ?_
      refine fx_iast hG dX12_setNames_184 rfl (ix_lit (by decide) rfl) ?_
      refine ma_63 ?_
      refine fx_letm hE (fun S84 hE => ?_)
      refine pm_aloadn hG dX12_setNames_185 rfl ?_
      refine pm_getf hG dX12_setNames_186 (flX12_34 _ rfl) rfl rfl ?_
      refine pm_bipush (v := 8) hG dX12_setNames_189 (by decide) ?_
      refine pm_iloadn hG dX12_setNames_191 rfl ?_
      refine pm_if_ge (tgt := 199) hG dX12_setNames_192 rfl (fun q => absurd c71 (Int32.not_lt.mpr q)) (fun _ => ?_)
      refine pm_iconst (v := 0) hG dX12_setNames_195 (by decide) ?_
      refine pm_goto (tgt := 205) hG dX12_setNames_196 rfl ?_
      refine fx_iast hG dX12_setNames_205 rfl (ix_lit (by decide) rfl) ?_
      refine ma_63 ?_
      refine fx_letm hE (fun S85 hE => ?_)
      refine pm_aloadn hG dX12_setNames_206 rfl ?_
      refine pm_getf hG dX12_setNames_207 (flX12_34 _ rfl) rfl rfl ?_
      refine pm_bipush (v := 9) hG dX12_setNames_210 (by decide) ?_
      refine pm_iloadn hG dX12_setNames_212 rfl ?_
      refine pm_if_ge (tgt := 220) hG dX12_setNames_213 rfl (fun q => absurd c71 (Int32.not_lt.mpr q)) (fun _ => ?_)
      refine pm_iconst (v := 0) hG dX12_setNames_216 (by decide) ?_
      refine pm_goto (tgt := 226) hG dX12_setNames_217 rfl ?_
      refine fx_iast hG dX12_setNames_226 rfl (ix_lit (by decide) rfl) ?_
      refine ma_63 ?_
      refine fx_letm hE (fun S86 hE => ?_)
      refine pm_aloadn hG dX12_setNames_227 rfl ?_
      refine pm_getf hG dX12_setNames_228 (flX12_34 _ rfl) rfl rfl ?_
      refine pm_bipush (v := 10) hG dX12_setNames_231 (by decide) ?_
      refine pm_iloadn hG dX12_setNames_233 rfl ?_
      refine fx_iast hG dX12_setNames_234 rfl (ix_lit (by decide) rfl) ?_
      refine ma_63 ?_
      refine fx_letm hE (fun S87 hE => ?_)
      exact pm_vret hG hF dX12_setNames_235 rfl (Nat.le_refl _) (Nat.le_refl _) (fx_rvm hE)

set_option maxRecDepth 100000 in
set_option maxHeartbeats 4000000 in
theorem c_X12_done {d : Nat} {B cnt : Nat} {σ : pm_S} {S : FS} {za : Int32} {zb : Int32} {zc : Int32} {R : Int32} (hdd : 1 ≤ d) (hE : p_X12_done S za zb zc = R) : pm_met mX12_done d 0 0 B [.int za, .int zb, .int zc] cnt (mst B S σ) (pm_Qi (fun v σ' cnt' => v = R ∧ σ' = (mst B S σ) ∧ cnt' = cnt)) := by
  refine pm_enter 0 (by decide) (Nat.le_of_ble_eq_true rfl) rfl (fun G hG hR hF => ?_)
  unfold p_X12_done at hE
  refine pm_iloadn hG dX12_done_0 rfl ?_
  by_cases c1 : za = 38
  · replace hE := fx_t c1 hE
    refine pm_top (v := 38) c1 ?_
    refine pm_lsw (off := 73) (tgt := 74) hG dX12_done_1 (by decide) (by decide) rfl ?_
    refine pm_iloadn hG dX12_done_74 rfl ?_
    refine pm_if_eq (tgt := 86) hG dX12_done_75 rfl (fun c2 => ?_) (fun c2 => ?_)
    · replace hE := fx_t c2 hE
      refine pm_iconst (v := 0) hG dX12_done_86 (by decide) ?_
      exact pm_iret hG hF dX12_done_87 rfl  (Nat.le_refl _) (Nat.le_refl _) (fx_pi hE)
    · replace hE := fx_f c2 hE
      refine pm_iloadn hG dX12_done_78 rfl ?_
      refine pm_if_eq (tgt := 86) hG dX12_done_79 rfl (fun c3 => ?_) (fun c3 => ?_)
      · replace hE := fx_t c3 hE
        refine pm_iconst (v := 0) hG dX12_done_86 (by decide) ?_
        exact pm_iret hG hF dX12_done_87 rfl  (Nat.le_refl _) (Nat.le_refl _) (fx_pi hE)
      · replace hE := fx_f c3 hE
        refine pm_iconst (v := 1) hG dX12_done_82 (by decide) ?_
        refine pm_goto (tgt := 87) hG dX12_done_83 rfl ?_
        exact pm_iret hG hF dX12_done_87 rfl  (Nat.le_refl _) (Nat.le_refl _) (fx_pi hE)
  replace hE := fx_f c1 hE
  by_cases c4 : za = 43
  · replace hE := fx_t c4 hE
    refine pm_top (v := 43) c4 ?_
    refine pm_lsw (off := 120) (tgt := 121) hG dX12_done_1 (by decide) (by decide) rfl ?_
    refine pm_iloadn hG dX12_done_121 rfl ?_
    refine pm_iloadn hG dX12_done_122 rfl ?_
    refine pm_iadd hG dX12_done_123 ?_
    exact pm_iret hG hF dX12_done_124 rfl  (Nat.le_refl _) (Nat.le_refl _) (fx_pi hE)
  replace hE := fx_f c4 hE
  by_cases c5 : za = 60
  · replace hE := fx_t c5 hE
    refine pm_top (v := 60) c5 ?_
    refine pm_lsw (off := 87) (tgt := 88) hG dX12_done_1 (by decide) (by decide) rfl ?_
    refine pm_iloadn hG dX12_done_88 rfl ?_
    refine pm_iloadn hG dX12_done_89 rfl ?_
    refine pm_icmp_ge (tgt := 97) hG dX12_done_90 rfl (fun c6 => ?_) (fun c6 => ?_)
    · replace c6 := Int32.not_lt.mpr c6
      replace hE := fx_f c6 hE
      refine pm_iconst (v := 0) hG dX12_done_97 (by decide) ?_
      exact pm_iret hG hF dX12_done_98 rfl  (Nat.le_refl _) (Nat.le_refl _) (fx_pi hE)
    · replace c6 := Int32.not_le.mp c6
      replace hE := fx_t c6 hE
      refine pm_iconst (v := 1) hG dX12_done_93 (by decide) ?_
      refine pm_goto (tgt := 98) hG dX12_done_94 rfl ?_
      exact pm_iret hG hF dX12_done_98 rfl  (Nat.le_refl _) (Nat.le_refl _) (fx_pi hE)
  replace hE := fx_f c5 hE
  by_cases c7 : za = 61
  · replace hE := fx_t c7 hE
    refine pm_top (v := 61) c7 ?_
    refine pm_lsw (off := 98) (tgt := 99) hG dX12_done_1 (by decide) (by decide) rfl ?_
    refine pm_iloadn hG dX12_done_99 rfl ?_
    refine pm_iloadn hG dX12_done_100 rfl ?_
    refine pm_icmp_ne (tgt := 108) hG dX12_done_101 rfl (fun c8 => ?_) (fun c8 => ?_)
    · replace hE := fx_f c8 hE
      refine pm_iconst (v := 0) hG dX12_done_108 (by decide) ?_
      exact pm_iret hG hF dX12_done_109 rfl  (Nat.le_refl _) (Nat.le_refl _) (fx_pi hE)
    · replace hE := fx_t c8 hE
      refine pm_iconst (v := 1) hG dX12_done_104 (by decide) ?_
      refine pm_goto (tgt := 109) hG dX12_done_105 rfl ?_
      exact pm_iret hG hF dX12_done_109 rfl  (Nat.le_refl _) (Nat.le_refl _) (fx_pi hE)
  replace hE := fx_f c7 hE
  by_cases c9 : za = 62
  · replace hE := fx_t c9 hE
    refine pm_top (v := 62) c9 ?_
    refine pm_lsw (off := 109) (tgt := 110) hG dX12_done_1 (by decide) (by decide) rfl ?_
    refine pm_iloadn hG dX12_done_110 rfl ?_
    refine pm_iloadn hG dX12_done_111 rfl ?_
    refine pm_icmp_le (tgt := 119) hG dX12_done_112 rfl (fun c10 => ?_) (fun c10 => ?_)
    · replace c10 := Int32.not_lt.mpr c10
      replace hE := fx_f c10 hE
      refine pm_iconst (v := 0) hG dX12_done_119 (by decide) ?_
      exact pm_iret hG hF dX12_done_120 rfl  (Nat.le_refl _) (Nat.le_refl _) (fx_pi hE)
    · replace c10 := Int32.not_le.mp c10
      replace hE := fx_t c10 hE
      refine pm_iconst (v := 1) hG dX12_done_115 (by decide) ?_
      refine pm_goto (tgt := 120) hG dX12_done_116 rfl ?_
      exact pm_iret hG hF dX12_done_120 rfl  (Nat.le_refl _) (Nat.le_refl _) (fx_pi hE)
  replace hE := fx_f c9 hE
  by_cases c11 : za = 124
  · replace hE := fx_t c11 hE
    refine pm_top (v := 124) c11 ?_
    refine pm_lsw (off := 59) (tgt := 60) hG dX12_done_1 (by decide) (by decide) rfl ?_
    refine pm_iloadn hG dX12_done_60 rfl ?_
    refine pm_if_ne (tgt := 68) hG dX12_done_61 rfl (fun c12 => ?_) (fun c12 => ?_)
    · replace hE := fx_f c12 hE
      refine pm_iconst (v := 1) hG dX12_done_68 (by decide) ?_
      refine pm_goto (tgt := 73) hG dX12_done_69 rfl ?_
      exact pm_iret hG hF dX12_done_73 rfl  (Nat.le_refl _) (Nat.le_refl _) (fx_pi hE)
    · replace hE := fx_t c12 hE
      refine pm_iloadn hG dX12_done_64 rfl ?_
      refine pm_if_eq (tgt := 72) hG dX12_done_65 rfl (fun c13 => ?_) (fun c13 => ?_)
      · replace hE := fx_t c13 hE
        refine pm_iconst (v := 0) hG dX12_done_72 (by decide) ?_
        exact pm_iret hG hF dX12_done_73 rfl  (Nat.le_refl _) (Nat.le_refl _) (fx_pi hE)
      · replace hE := fx_f c13 hE
        refine pm_iconst (v := 1) hG dX12_done_68 (by decide) ?_
        refine pm_goto (tgt := 73) hG dX12_done_69 rfl ?_
        exact pm_iret hG hF dX12_done_73 rfl  (Nat.le_refl _) (Nat.le_refl _) (fx_pi hE)
  replace hE := fx_f c11 hE
  have tc1 : ¬ za.toInt = 38 := fun q => c1 (Int32.toInt_inj.mp q)
  have tc4 : ¬ za.toInt = 43 := fun q => c4 (Int32.toInt_inj.mp q)
  have tc5 : ¬ za.toInt = 60 := fun q => c5 (Int32.toInt_inj.mp q)
  have tc7 : ¬ za.toInt = 61 := fun q => c7 (Int32.toInt_inj.mp q)
  have tc9 : ¬ za.toInt = 62 := fun q => c9 (Int32.toInt_inj.mp q)
  have tc11 : ¬ za.toInt = 124 := fun q => c11 (Int32.toInt_inj.mp q)
  refine pm_lsw (off := 124) (tgt := 125) hG dX12_done_1 (by decide) (by simp [Op.lookupswitch.offset, tc1, Ne.symm tc1, tc4, Ne.symm tc4, tc5, Ne.symm tc5, tc7, Ne.symm tc7, tc9, Ne.symm tc9, tc11, Ne.symm tc11]) rfl ?_
  refine pm_iloadn hG dX12_done_125 rfl ?_
  refine pm_iloadn hG dX12_done_126 rfl ?_
  refine pm_isub hG dX12_done_127 ?_
  exact pm_iret hG hF dX12_done_128 rfl  (Nat.le_refl _) (Nat.le_refl _) (fx_pi hE)
