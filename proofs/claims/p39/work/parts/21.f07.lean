set_option maxRecDepth 100000 in
set_option maxHeartbeats 4000000 in
theorem c_X12_held {d : Nat} {B cnt : Nat} {σ : pm_S} {S : FS} {za : Int32} {zb : Int32} {R : Int32 × FS} (hdd : 3 ≤ d) (hE : f_X12_held S za zb = some R) : pm_met mX12_held d 0 0 B [.ref (B + 54), .int za, .int zb] cnt (mst B S σ) (pm_Qi (fun v σ' cnt' => v = R.1 ∧ σ' = (mst B R.2 σ) ∧ cnt' = cnt)) := by
  refine pm_enter 0 (by decide) (Nat.le_of_ble_eq_true rfl) rfl (fun G hG hR hF => ?_)
  unfold f_X12_held at hE
  refine pm_aloadn hG dX12_held_0 rfl ?_
  refine pm_iloadn hG dX12_held_1 rfl ?_
  refine pm_callV (As := [.int za]) (rest := []) hG hR dX12_held_2 (lkX12_132 _ rfl) okV_X12_isPower rfl rfl (c_X12_isPower (d := 2) (by decide) rfl) rfl rfl hdd (Nat.le_refl _) (Nat.le_refl _) (by decide) (fx_ki ?_)
  refine pm_if_ne (tgt := 14) hG dX12_held_5 rfl (fun c1 => ?_) (fun c1 => ?_)
  · replace hE := fx_f c1 hE
    refine pm_iloadn hG dX12_held_14 rfl ?_
    by_cases c2 : zb = 0
    · replace hE := fx_t c2 hE
      refine pm_top (v := 0) c2 ?_
      refine pm_tswIn (tgt := 48) hG dX12_held_15 (by decide) (by decide) rfl rfl ?_
      refine pm_aloadn hG dX12_held_48 rfl ?_
      refine pm_iloadn hG dX12_held_49 rfl ?_
      refine pm_iconst (v := 0) hG dX12_held_50 (by decide) ?_
      obtain ⟨x4, h3, hE⟩ := fb_some hE
      refine pm_callV (As := [.int za, .int 0]) (rest := []) hG hR dX12_held_51 (lkX12_110 _ rfl) okV_X12_its rfl rfl (c_X12_its (d := 2) (by decide) h3) rfl rfl hdd (Nat.le_refl _) (Nat.le_refl _) (by decide) (fx_ki ?_)
      exact pm_iret hG hF dX12_held_54 rfl (Nat.le_refl _) (Nat.le_refl _) (fx_rim hE)
    replace hE := fx_f c2 hE
    by_cases c5 : zb = 1
    · replace hE := fx_t c5 hE
      refine pm_top (v := 1) c5 ?_
      refine pm_tswIn (tgt := 55) hG dX12_held_15 (by decide) (by decide) rfl rfl ?_
      refine pm_aloadn hG dX12_held_55 rfl ?_
      refine pm_iloadn hG dX12_held_56 rfl ?_
      refine pm_iconst (v := 1) hG dX12_held_57 (by decide) ?_
      obtain ⟨x7, h6, hE⟩ := fb_some hE
      refine pm_callV (As := [.int za, .int 1]) (rest := []) hG hR dX12_held_58 (lkX12_110 _ rfl) okV_X12_its rfl rfl (c_X12_its (d := 2) (by decide) h6) rfl rfl hdd (Nat.le_refl _) (Nat.le_refl _) (by decide) (fx_ki ?_)
      exact pm_iret hG hF dX12_held_61 rfl (Nat.le_refl _) (Nat.le_refl _) (fx_rim hE)
    replace hE := fx_f c5 hE
    by_cases c8 : zb = 2
    · replace hE := fx_t c8 hE
      refine pm_top (v := 2) c8 ?_
      refine pm_tswIn (tgt := 62) hG dX12_held_15 (by decide) (by decide) rfl rfl ?_
      refine pm_aloadn hG dX12_held_62 rfl ?_
      refine pm_iloadn hG dX12_held_63 rfl ?_
      obtain ⟨x10, h9, hE⟩ := fb_some hE
      refine pm_callV (As := [.int za]) (rest := []) hG hR dX12_held_64 (lkX12_139 _ rfl) okV_X12_whoHas rfl rfl (c_X12_whoHas (d := 2) (by decide) h9) rfl rfl hdd (Nat.le_refl _) (Nat.le_refl _) (by decide) (fx_ki ?_)
      exact pm_iret hG hF dX12_held_67 rfl (Nat.le_refl _) (Nat.le_refl _) (fx_rim hE)
    replace hE := fx_f c8 hE
    by_cases c11 : zb = 3
    · replace hE := fx_t c11 hE
      refine pm_top (v := 3) c11 ?_
      refine pm_tswIn (tgt := 68) hG dX12_held_15 (by decide) (by decide) rfl rfl ?_
      refine pm_aloadn hG dX12_held_68 rfl ?_
      refine pm_iloadn hG dX12_held_69 rfl ?_
      refine pm_iconst (v := 0) hG dX12_held_70 (by decide) ?_
      obtain ⟨x13, h12, hE⟩ := fb_some hE
      refine pm_callV (As := [.int za, .int 0]) (rest := []) hG hR dX12_held_71 (lkX12_110 _ rfl) okV_X12_its rfl rfl (c_X12_its (d := 2) (by decide) h12) rfl rfl hdd (Nat.le_refl _) (Nat.le_refl _) (by decide) (fx_ki ?_)
      refine pm_iconst (v := 2) hG dX12_held_74 (by decide) ?_
      refine pm_icmp_ne (tgt := 87) hG dX12_held_75 rfl (fun c14 => ?_) (fun c14 => ?_)
      · replace hE := fx_f c14 hE
        refine pm_iconst (v := (-1)) hG dX12_held_87 (by decide) ?_
        exact pm_iret hG hF dX12_held_88 rfl (Nat.le_refl _) (Nat.le_refl _) (fx_rim hE)
      · replace hE := fx_t c14 hE
        refine pm_aloadn hG dX12_held_78 rfl ?_
        refine pm_iloadn hG dX12_held_79 rfl ?_
        refine pm_iconst (v := 5) hG dX12_held_80 (by decide) ?_
        obtain ⟨x16, h15, hE⟩ := fb_some hE
        refine pm_callV (As := [.int za, .int 5]) (rest := []) hG hR dX12_held_81 (lkX12_110 _ rfl) okV_X12_its rfl rfl (c_X12_its (d := 2) (by decide) h15) rfl rfl hdd (Nat.le_refl _) (Nat.le_refl _) (by decide) (fx_ki ?_)
        refine pm_goto (tgt := 88) hG dX12_held_84 rfl ?_
        exact pm_iret hG hF dX12_held_88 rfl (Nat.le_refl _) (Nat.le_refl _) (fx_rim hE)
    replace hE := fx_f c11 hE
    by_cases c17 : zb = 4
    · replace hE := fx_t c17 hE
      refine pm_top (v := 4) c17 ?_
      refine pm_tswIn (tgt := 89) hG dX12_held_15 (by decide) (by decide) rfl rfl ?_
      refine pm_aloadn hG dX12_held_89 rfl ?_
      refine pm_iloadn hG dX12_held_90 rfl ?_
      refine pm_iconst (v := 3) hG dX12_held_91 (by decide) ?_
      obtain ⟨x19, h18, hE⟩ := fb_some hE
      refine pm_callV (As := [.int za, .int 3]) (rest := []) hG hR dX12_held_92 (lkX12_110 _ rfl) okV_X12_its rfl rfl (c_X12_its (d := 2) (by decide) h18) rfl rfl hdd (Nat.le_refl _) (Nat.le_refl _) (by decide) (fx_ki ?_)
      exact pm_iret hG hF dX12_held_95 rfl (Nat.le_refl _) (Nat.le_refl _) (fx_rim hE)
    replace hE := fx_f c17 hE
    have tc2 : ¬ zb.toInt = 0 := fun q => c2 (Int32.toInt_inj.mp q)
    have tc5 : ¬ zb.toInt = 1 := fun q => c5 (Int32.toInt_inj.mp q)
    have tc8 : ¬ zb.toInt = 2 := fun q => c8 (Int32.toInt_inj.mp q)
    have tc11 : ¬ zb.toInt = 3 := fun q => c11 (Int32.toInt_inj.mp q)
    have tc17 : ¬ zb.toInt = 4 := fun q => c17 (Int32.toInt_inj.mp q)
    refine pm_tswOut (tgt := 96) hG dX12_held_15 (by omega) rfl ?_
    refine pm_aloadn hG dX12_held_96 rfl ?_
    refine pm_iconst (v := 1) hG dX12_held_97 (by decide) ?_
    obtain ⟨r21, h20, hE⟩ := fb_some hE
    refine pm_callV (As := [.int 1]) (rest := []) hG hR dX12_held_98 (lkX12_80 _ rfl) okV_X12_finds rfl rfl (c_X12_finds (d := 2) (by decide) h20) rfl rfl hdd (Nat.le_refl _) (Nat.le_refl _) (by decide) (fx_ki ?_)
    exact pm_iret hG hF dX12_held_101 rfl (Nat.le_refl _) (Nat.le_refl _) (fx_rim hE)
  · replace hE := fx_t c1 hE
    refine pm_aloadn hG dX12_held_8 rfl ?_
    refine pm_iconst (v := 1) hG dX12_held_9 (by decide) ?_
    obtain ⟨r23, h22, hE⟩ := fb_some hE
    refine pm_callV (As := [.int 1]) (rest := []) hG hR dX12_held_10 (lkX12_80 _ rfl) okV_X12_finds rfl rfl (c_X12_finds (d := 2) (by decide) h22) rfl rfl hdd (Nat.le_refl _) (Nat.le_refl _) (by decide) (fx_ki ?_)
    exact pm_iret hG hF dX12_held_13 rfl (Nat.le_refl _) (Nat.le_refl _) (fx_rim hE)

set_option maxRecDepth 100000 in
set_option maxHeartbeats 4000000 in
theorem c_X12_image {d : Nat} {B cnt : Nat} {σ : pm_S} {S : FS} {R : Int32 × FS} (hdd : 1 ≤ d) (hE : f_X12_image S = some R) : pm_met mX12_image d 0 0 B [.ref (B + 54)] cnt (mst B S σ) (pm_Qi (fun v σ' cnt' => v = R.1 ∧ σ' = (mst B R.2 σ) ∧ cnt' = cnt)) := by
  refine pm_enter 1 (by decide) (Nat.le_of_ble_eq_true rfl) rfl (fun G hG hR hF => ?_)
  unfold f_X12_image at hE
  refine pm_iconst (v := 0) hG dX12_image_0 (by decide) ?_
  refine pm_istoreXn (loc' := [some (.ref (B + 54)), some (.int 0)]) hG dX12_image_1 (by decide) (pm_c1b rfl) rfl ?_
  have loop2 : ∀ (k2 : FS → Int32 → Option (Int32 × FS)), (∀ (S1 : FS) (x1_1 : Int32), k2 S1  x1_1 = some R → pm_wp mX12_image G B 27 [some (.ref (B + 54)), some (.int x1_1)] [] 0 0 cnt (mst B S1 σ)) → ∀ (m2 : Nat) (S1 : FS) (x1_1 : Int32), l_X12_image_2 k2 m2 S1  x1_1 = some R → pm_wp mX12_image G B 2 [some (.ref (B + 54)), some (.int x1_1)] [] 0 0 cnt (mst B S1 σ) := by
    intro k2 hk2 m2
    induction m2 with
    | zero => intro S1  x1_1 hE; exact fx_no hE
    | succ m2 ih2 =>
      intro S1  x1_1 hE
      rw [l_X12_image_2] at hE
      refine pm_iloadn hG dX12_image_2 rfl ?_
      refine pm_sipush (v := 2071) hG dX12_image_3 (by decide) ?_
      refine pm_icmp_ge (tgt := 27) hG dX12_image_6 rfl (fun c2 => ?_) (fun c2 => ?_)
      · replace c2 := Int32.not_lt.mpr c2
        replace hE := fx_f c2 hE
        exact hk2 _ _ hE
      · replace c2 := Int32.not_le.mp c2
        replace hE := fx_t c2 hE
        refine pm_aloadn hG dX12_image_9 rfl ?_
        refine pm_getf hG dX12_image_10 (flX12_13 _ rfl) rfl rfl ?_
        refine pm_iloadn hG dX12_image_13 rfl ?_
        refine pm_aloadn hG dX12_image_14 rfl ?_
        refine pm_getf hG dX12_image_15 (flX12_7 _ rfl) rfl rfl ?_
        refine pm_iloadn hG dX12_image_18 rfl ?_
        obtain ⟨j3, hj3, hE⟩ := fb_some hE
        refine fx_iald hG dX12_image_19 rfl hj3 ?_
        refine fx_iast hG dX12_image_20 rfl hj3 ?_
        refine ma_56 ?_
        refine fx_letm hE (fun S4 hE => ?_)
        refine pm_iincX (v := x1_1 + 1) (loc' := [some (.ref (B + 54)), some (.int (x1_1 + 1))]) hG dX12_image_21 rfl (by rfl) (by decide) (pm_c1b rfl) rfl ?_
        refine pm_goto (tgt := 2) hG dX12_image_24 rfl ?_
        exact ih2 _ _ hE
  refine loop2 _ (fun S5 x5_1 hE => ?_) _ _ _ hE
  refine pm_aloadn hG dX12_image_27 rfl ?_
  refine pm_dup hG dX12_image_28 rfl ?_
  refine pm_getf hG dX12_image_29 (flX12_319 _ rfl) rfl rfl ?_
  refine pm_iconst (v := 1) hG dX12_image_32 (by decide) ?_
  refine pm_iadd hG dX12_image_33 ?_
  refine pm_putf hG dX12_image_34 (fwX12_319 _ rfl) rfl rfl rfl ?_
  refine mi_3 ?_
  refine fx_letm hE (fun S6 hE => ?_)
  refine pm_aloadn hG dX12_image_37 rfl ?_
  refine pm_getf hG dX12_image_38 (flX12_319 _ rfl) rfl rfl ?_
  exact pm_iret hG hF dX12_image_41 rfl (Nat.le_refl _) (Nat.le_refl _) (fx_rim hE)

set_option maxRecDepth 100000 in
set_option maxHeartbeats 4000000 in
theorem c_X12_isDigit {d : Nat} {B cnt : Nat} {σ : pm_S} {S : FS} {za : Int32} {R : Int32} (hdd : 1 ≤ d) (hE : p_X12_isDigit S za = R) : pm_met mX12_isDigit d 0 0 B [.int za] cnt (mst B S σ) (pm_Qi (fun v σ' cnt' => v = R ∧ σ' = (mst B S σ) ∧ cnt' = cnt)) := by
  refine pm_enter 0 (by decide) (Nat.le_of_ble_eq_true rfl) rfl (fun G hG hR hF => ?_)
  unfold p_X12_isDigit at hE
  refine pm_iloadn hG dX12_isDigit_0 rfl ?_
  refine pm_bipush (v := 48) hG dX12_isDigit_1 (by decide) ?_
  refine pm_icmp_lt (tgt := 16) hG dX12_isDigit_3 rfl (fun c1 => ?_) (fun c1 => ?_)
  · replace hE := fx_t c1 hE
    refine pm_iconst (v := 0) hG dX12_isDigit_16 (by decide) ?_
    exact pm_zret hG hF dX12_isDigit_17 rfl (by rfl) (Nat.le_refl _) (Nat.le_refl _) (fx_pi hE)
  · replace hE := fx_f c1 hE
    refine pm_iloadn hG dX12_isDigit_6 rfl ?_
    refine pm_bipush (v := 57) hG dX12_isDigit_7 (by decide) ?_
    refine pm_icmp_gt (tgt := 16) hG dX12_isDigit_9 rfl (fun c2 => ?_) (fun c2 => ?_)
    · replace hE := fx_t c2 hE
      refine pm_iconst (v := 0) hG dX12_isDigit_16 (by decide) ?_
      exact pm_zret hG hF dX12_isDigit_17 rfl (by rfl) (Nat.le_refl _) (Nat.le_refl _) (fx_pi hE)
    · replace hE := fx_f c2 hE
      refine pm_iconst (v := 1) hG dX12_isDigit_12 (by decide) ?_
      refine pm_goto (tgt := 17) hG dX12_isDigit_13 rfl ?_
      exact pm_zret hG hF dX12_isDigit_17 rfl (by rfl) (Nat.le_refl _) (Nat.le_refl _) (fx_pi hE)

set_option maxRecDepth 100000 in
set_option maxHeartbeats 4000000 in
theorem c_X12_isLetter {d : Nat} {B cnt : Nat} {σ : pm_S} {S : FS} {za : Int32} {R : Int32} (hdd : 2 ≤ d) (hE : p_X12_isLetter S za = R) : pm_met mX12_isLetter d 0 0 B [.ref (B + 54), .int za] cnt (mst B S σ) (pm_Qi (fun v σ' cnt' => v = R ∧ σ' = (mst B S σ) ∧ cnt' = cnt)) := by
  refine pm_enter 0 (by decide) (Nat.le_of_ble_eq_true rfl) rfl (fun G hG hR hF => ?_)
  unfold p_X12_isLetter at hE
  refine pm_iloadn hG dX12_isLetter_0 rfl ?_
  refine pm_iconst (v := 0) hG dX12_isLetter_1 (by decide) ?_
  refine pm_aloadn hG dX12_isLetter_2 rfl ?_
  refine pm_getf hG dX12_isLetter_3 (flX12_7 _ rfl) rfl rfl ?_
  refine pm_iconst (v := 5) hG dX12_isLetter_6 (by decide) ?_
  refine fx_iald hG dX12_isLetter_7 rfl (ix_lit (by decide) rfl) ?_
  refine pm_iconst (v := 1) hG dX12_isLetter_8 (by decide) ?_
  refine pm_isub hG dX12_isLetter_9 ?_
  refine pm_callS (As := [.int za, .int 0, .int ((S.2 55 5) - 1)]) (rest := []) hG hR dX12_isLetter_10 (lkX12_68 _ rfl) okS_X12_in (c_X12_in (d := 1) (by decide) rfl) rfl rfl hdd (Nat.le_refl _) (Nat.le_refl _) (by decide) (fx_ki ?_)
  exact pm_zret hG hF dX12_isLetter_13 rfl (pm_nz pb_X12_in) (Nat.le_refl _) (Nat.le_refl _) (fx_pi hE)

set_option maxRecDepth 100000 in
set_option maxHeartbeats 4000000 in
theorem c_X12_isParent {d : Nat} {B cnt : Nat} {σ : pm_S} {S : FS} {za : Int32} {zb : Int32} {zc : Int32} {R : Int32} (hdd : 3 ≤ d) (hE : q_X12_isParent S za zb zc = some R) : pm_met mX12_isParent d 0 0 B [.ref (B + 54), .int za, .int zb, .int zc] cnt (mst B S σ) (pm_Qi (fun v σ' cnt' => v = R ∧ σ' = (mst B S σ) ∧ cnt' = cnt)) := by
  refine pm_enter 0 (by decide) (Nat.le_of_ble_eq_true rfl) rfl (fun G hG hR hF => ?_)
  unfold q_X12_isParent at hE
  refine pm_iloadn hG dX12_isParent_0 rfl ?_
  refine pm_iconst (v := (-1)) hG dX12_isParent_1 (by decide) ?_
  refine pm_icmp_eq (tgt := 33) hG dX12_isParent_2 rfl (fun c1 => ?_) (fun c1 => ?_)
  · replace hE := fx_t c1 hE
    refine pm_iconst (v := 1) hG dX12_isParent_33 (by decide) ?_
    refine pm_goto (tgt := 38) hG dX12_isParent_34 rfl ?_
    exact pm_zret hG hF dX12_isParent_38 rfl (by rfl) (Nat.le_refl _) (Nat.le_refl _) (fx_pi (Option.some.inj hE))
  · replace hE := fx_f c1 hE
    refine pm_aloadn hG dX12_isParent_5 rfl ?_
    refine pm_iloadn hG dX12_isParent_6 rfl ?_
    refine pm_callV (As := [.int za]) (rest := []) hG hR dX12_isParent_7 (lkX12_91 _ rfl) okV_X12_isPerson rfl rfl (c_X12_isPerson (d := 2) (by decide) rfl) rfl rfl hdd (Nat.le_refl _) (Nat.le_refl _) (by decide) (fx_ki ?_)
    refine pm_if_eq (tgt := 37) hG dX12_isParent_10 rfl (fun c2 => ?_) (fun c2 => ?_)
    · replace hE := fx_t c2 hE
      refine pm_iconst (v := 0) hG dX12_isParent_37 (by decide) ?_
      exact pm_zret hG hF dX12_isParent_38 rfl (by rfl) (Nat.le_refl _) (Nat.le_refl _) (fx_pi (Option.some.inj hE))
    · replace hE := fx_f c2 hE
      refine pm_aloadn hG dX12_isParent_13 rfl ?_
      refine pm_iloadn hG dX12_isParent_14 rfl ?_
      refine pm_iconst (v := 0) hG dX12_isParent_15 (by decide) ?_
      obtain ⟨x4, h3, hE⟩ := fb_some hE
      refine pm_callV (As := [.int za, .int 0]) (rest := []) hG hR dX12_isParent_16 (lkX12_72 _ rfl) okV_X12_man rfl rfl (c_X12_man (d := 2) (by decide) h3) rfl rfl hdd (Nat.le_refl _) (Nat.le_refl _) (by decide) (fx_ki ?_)
      refine pm_iloadn hG dX12_isParent_19 rfl ?_
      refine pm_icmp_ne (tgt := 37) hG dX12_isParent_20 rfl (fun c5 => ?_) (fun c5 => ?_)
      · replace hE := fx_f c5 hE
        refine pm_iconst (v := 0) hG dX12_isParent_37 (by decide) ?_
        exact pm_zret hG hF dX12_isParent_38 rfl (by rfl) (Nat.le_refl _) (Nat.le_refl _) (fx_pi (Option.some.inj hE))
      · replace hE := fx_t c5 hE
        refine pm_aloadn hG dX12_isParent_23 rfl ?_
        refine pm_iloadn hG dX12_isParent_24 rfl ?_
        refine pm_iconst (v := 1) hG dX12_isParent_25 (by decide) ?_
        obtain ⟨x7, h6, hE⟩ := fb_some hE
        refine pm_callV (As := [.int za, .int 1]) (rest := []) hG hR dX12_isParent_26 (lkX12_72 _ rfl) okV_X12_man rfl rfl (c_X12_man (d := 2) (by decide) h6) rfl rfl hdd (Nat.le_refl _) (Nat.le_refl _) (by decide) (fx_ki ?_)
        refine pm_iloadn hG dX12_isParent_29 rfl ?_
        refine pm_icmp_ge (tgt := 37) hG dX12_isParent_30 rfl (fun c8 => ?_) (fun c8 => ?_)
        · replace c8 := Int32.not_lt.mpr c8
          replace hE := fx_f c8 hE
          refine pm_iconst (v := 0) hG dX12_isParent_37 (by decide) ?_
          exact pm_zret hG hF dX12_isParent_38 rfl (by rfl) (Nat.le_refl _) (Nat.le_refl _) (fx_pi (Option.some.inj hE))
        · replace c8 := Int32.not_le.mp c8
          replace hE := fx_t c8 hE
          refine pm_iconst (v := 1) hG dX12_isParent_33 (by decide) ?_
          refine pm_goto (tgt := 38) hG dX12_isParent_34 rfl ?_
          exact pm_zret hG hF dX12_isParent_38 rfl (by rfl) (Nat.le_refl _) (Nat.le_refl _) (fx_pi (Option.some.inj hE))

set_option maxRecDepth 100000 in
set_option maxHeartbeats 4000000 in
theorem c_X12_isSheet {d : Nat} {B cnt : Nat} {σ : pm_S} {S : FS} {za : Int32} {R : Int32} (hdd : 2 ≤ d) (hE : p_X12_isSheet S za = R) : pm_met mX12_isSheet d 0 0 B [.int za] cnt (mst B S σ) (pm_Qi (fun v σ' cnt' => v = R ∧ σ' = (mst B S σ) ∧ cnt' = cnt)) := by
  refine pm_enter 0 (by decide) (Nat.le_of_ble_eq_true rfl) rfl (fun G hG hR hF => ?_)
  unfold p_X12_isSheet at hE
  refine pm_iloadn hG dX12_isSheet_0 rfl ?_
  refine pm_iconst (v := 0) hG dX12_isSheet_1 (by decide) ?_
  refine pm_iconst (v := 3) hG dX12_isSheet_2 (by decide) ?_
  refine pm_callS (As := [.int za, .int 0, .int 3]) (rest := []) hG hR dX12_isSheet_3 (lkX12_68 _ rfl) okS_X12_in (c_X12_in (d := 1) (by decide) rfl) rfl rfl hdd (Nat.le_refl _) (Nat.le_refl _) (by decide) (fx_ki ?_)
  exact pm_zret hG hF dX12_isSheet_6 rfl (pm_nz pb_X12_in) (Nat.le_refl _) (Nat.le_refl _) (fx_pi hE)

set_option maxRecDepth 100000 in
set_option maxHeartbeats 4000000 in
theorem c_X12_rankOf {d : Nat} {B cnt : Nat} {σ : pm_S} {S : FS} {za : Int32} {R : Int32} (hdd : 1 ≤ d) (hE : p_X12_rankOf S za = R) : pm_met mX12_rankOf d 0 0 B [.int za] cnt (mst B S σ) (pm_Qi (fun v σ' cnt' => v = R ∧ σ' = (mst B S σ) ∧ cnt' = cnt)) := by
  refine pm_enter 0 (by decide) (Nat.le_of_ble_eq_true rfl) rfl (fun G hG hR hF => ?_)
  unfold p_X12_rankOf at hE
  refine pm_iloadn hG dX12_rankOf_0 rfl ?_
  refine pm_bipush (v := 124) hG dX12_rankOf_1 (by decide) ?_
  refine pm_icmp_ne (tgt := 10) hG dX12_rankOf_3 rfl (fun c1 => ?_) (fun c1 => ?_)
  · replace hE := fx_f c1 hE
    refine pm_iloadn hG dX12_rankOf_10 rfl ?_
    refine pm_bipush (v := 38) hG dX12_rankOf_11 (by decide) ?_
    refine pm_icmp_ne (tgt := 20) hG dX12_rankOf_13 rfl (fun c2 => ?_) (fun c2 => ?_)
    · replace hE := fx_f c2 hE
      refine pm_iloadn hG dX12_rankOf_20 rfl ?_
      refine pm_bipush (v := 60) hG dX12_rankOf_21 (by decide) ?_
      refine pm_icmp_eq (tgt := 38) hG dX12_rankOf_23 rfl (fun c3 => ?_) (fun c3 => ?_)
      · replace hE := fx_t c3 hE
        refine pm_iconst (v := 3) hG dX12_rankOf_38 (by decide) ?_
        refine pm_goto (tgt := 69) hG dX12_rankOf_39 rfl ?_
        exact pm_iret hG hF dX12_rankOf_69 rfl  (Nat.le_refl _) (Nat.le_refl _) (fx_pi hE)
      · replace hE := fx_f c3 hE
        refine pm_iloadn hG dX12_rankOf_26 rfl ?_
        refine pm_bipush (v := 61) hG dX12_rankOf_27 (by decide) ?_
        refine pm_icmp_eq (tgt := 38) hG dX12_rankOf_29 rfl (fun c4 => ?_) (fun c4 => ?_)
        · replace hE := fx_t c4 hE
          refine pm_iconst (v := 3) hG dX12_rankOf_38 (by decide) ?_
          refine pm_goto (tgt := 69) hG dX12_rankOf_39 rfl ?_
          exact pm_iret hG hF dX12_rankOf_69 rfl  (Nat.le_refl _) (Nat.le_refl _) (fx_pi hE)
        · replace hE := fx_f c4 hE
          refine pm_iloadn hG dX12_rankOf_32 rfl ?_
          refine pm_bipush (v := 62) hG dX12_rankOf_33 (by decide) ?_
          refine pm_icmp_ne (tgt := 42) hG dX12_rankOf_35 rfl (fun c5 => ?_) (fun c5 => ?_)
          · replace hE := fx_f c5 hE
            refine pm_iloadn hG dX12_rankOf_42 rfl ?_
            refine pm_bipush (v := 43) hG dX12_rankOf_43 (by decide) ?_
            refine pm_icmp_eq (tgt := 54) hG dX12_rankOf_45 rfl (fun c6 => ?_) (fun c6 => ?_)
            · replace hE := fx_t c6 hE
              refine pm_iconst (v := 4) hG dX12_rankOf_54 (by decide) ?_
              refine pm_goto (tgt := 69) hG dX12_rankOf_55 rfl ?_
              exact pm_iret hG hF dX12_rankOf_69 rfl  (Nat.le_refl _) (Nat.le_refl _) (fx_pi hE)
            · replace hE := fx_f c6 hE
              refine pm_iloadn hG dX12_rankOf_48 rfl ?_
              refine pm_bipush (v := 45) hG dX12_rankOf_49 (by decide) ?_
              refine pm_icmp_ne (tgt := 58) hG dX12_rankOf_51 rfl (fun c7 => ?_) (fun c7 => ?_)
              · replace hE := fx_f c7 hE
                refine pm_iloadn hG dX12_rankOf_58 rfl ?_
                refine pm_bipush (v := 33) hG dX12_rankOf_59 (by decide) ?_
                refine pm_icmp_ne (tgt := 68) hG dX12_rankOf_61 rfl (fun c8 => ?_) (fun c8 => ?_)
                · replace hE := fx_f c8 hE
                  refine pm_iconst (v := 0) hG dX12_rankOf_68 (by decide) ?_
                  exact pm_iret hG hF dX12_rankOf_69 rfl  (Nat.le_refl _) (Nat.le_refl _) (fx_pi hE)
                · replace hE := fx_t c8 hE
                  refine pm_iconst (v := 5) hG dX12_rankOf_64 (by decide) ?_
                  refine pm_goto (tgt := 69) hG dX12_rankOf_65 rfl ?_
                  exact pm_iret hG hF dX12_rankOf_69 rfl  (Nat.le_refl _) (Nat.le_refl _) (fx_pi hE)
              · replace hE := fx_t c7 hE
                refine pm_iconst (v := 4) hG dX12_rankOf_54 (by decide) ?_
                refine pm_goto (tgt := 69) hG dX12_rankOf_55 rfl ?_
                exact pm_iret hG hF dX12_rankOf_69 rfl  (Nat.le_refl _) (Nat.le_refl _) (fx_pi hE)
          · replace hE := fx_t c5 hE
            refine pm_iconst (v := 3) hG dX12_rankOf_38 (by decide) ?_
            refine pm_goto (tgt := 69) hG dX12_rankOf_39 rfl ?_
            exact pm_iret hG hF dX12_rankOf_69 rfl  (Nat.le_refl _) (Nat.le_refl _) (fx_pi hE)
    · replace hE := fx_t c2 hE
      refine pm_iconst (v := 2) hG dX12_rankOf_16 (by decide) ?_
      refine pm_goto (tgt := 69) hG dX12_rankOf_17 rfl ?_
      exact pm_iret hG hF dX12_rankOf_69 rfl  (Nat.le_refl _) (Nat.le_refl _) (fx_pi hE)
  · replace hE := fx_t c1 hE
    refine pm_iconst (v := 1) hG dX12_rankOf_6 (by decide) ?_
    refine pm_goto (tgt := 69) hG dX12_rankOf_7 rfl ?_
    exact pm_iret hG hF dX12_rankOf_69 rfl  (Nat.le_refl _) (Nat.le_refl _) (fx_pi hE)

set_option maxRecDepth 100000 in
set_option maxHeartbeats 4000000 in
theorem c_X12_isTested {d : Nat} {B cnt : Nat} {σ : pm_S} {S : FS} {R : Int32} (hdd : 2 ≤ d) (hE : q_X12_isTested S = some R) : pm_met mX12_isTested d 0 0 B [.ref (B + 54)] cnt (mst B S σ) (pm_Qi (fun v σ' cnt' => v = R ∧ σ' = (mst B S σ) ∧ cnt' = cnt)) := by
  refine pm_enter 1 (by decide) (Nat.le_of_ble_eq_true rfl) rfl (fun G hG hR hF => ?_)
  unfold q_X12_isTested at hE
  refine pm_aloadn hG dX12_isTested_0 rfl ?_
  refine pm_getf hG dX12_isTested_1 (flX12_148 _ rfl) rfl rfl ?_
  refine pm_iconst (v := 1) hG dX12_isTested_4 (by decide) ?_
  refine pm_isub hG dX12_isTested_5 ?_
  refine fx_letv hE (fun x1 hE => ?_)
  refine pm_istoreXn (loc' := [some (.ref (B + 54)), some (.int x1)]) hG dX12_isTested_6 (by decide) (pm_c1b rfl) rfl ?_
  have loop7 : ∀ (k7 : Int32 → Option Int32), (∀  (x2_1 : Int32), k7  x2_1 = some R → pm_wp mX12_isTested G B 30 [some (.ref (B + 54)), some (.int x2_1)] [] 0 0 cnt (mst B S σ)) → ∀ (m7 : Nat)  (x2_1 : Int32), l_X12_isTested_7 S k7 m7  x2_1 = some R → pm_wp mX12_isTested G B 7 [some (.ref (B + 54)), some (.int x2_1)] [] 0 0 cnt (mst B S σ) := by
    intro k7 hk7 m7
    induction m7 with
    | zero => intro  x2_1 hE; exact fx_no hE
    | succ m7 ih7 =>
      intro  x2_1 hE
      rw [l_X12_isTested_7] at hE
      refine pm_iloadn hG dX12_isTested_7 rfl ?_
      refine pm_if_lt (tgt := 30) hG dX12_isTested_8 rfl (fun c3 => ?_) (fun c3 => ?_)
      · replace hE := fx_t c3 hE
        exact hk7 _ hE
      · replace hE := fx_f c3 hE
        refine pm_aloadn hG dX12_isTested_11 rfl ?_
        refine pm_getf hG dX12_isTested_12 (flX12_28 _ rfl) rfl rfl ?_
        refine pm_iloadn hG dX12_isTested_15 rfl ?_
        obtain ⟨j4, hj4, hE⟩ := fb_some hE
        refine fx_iald hG dX12_isTested_16 rfl hj4 ?_
        refine pm_callS (As := [.int (S.2 61 j4)]) (rest := []) hG hR dX12_isTested_17 (lkX12_151 _ rfl) okS_X12_rankOf (c_X12_rankOf (d := 1) (by decide) rfl) rfl rfl hdd (Nat.le_refl _) (Nat.le_refl _) (by decide) (fx_ki ?_)
        refine pm_iconst (v := 3) hG dX12_isTested_20 (by decide) ?_
        refine pm_icmp_le (tgt := 30) hG dX12_isTested_21 rfl (fun c5 => ?_) (fun c5 => ?_)
        · replace c5 := Int32.not_lt.mpr c5
          replace hE := fx_f c5 hE
          exact hk7 _ hE
        · replace c5 := Int32.not_le.mp c5
          replace hE := fx_t c5 hE
          refine pm_iincX (v := x2_1 + (-1)) (loc' := [some (.ref (B + 54)), some (.int (x2_1 + (-1)))]) hG dX12_isTested_24 rfl (by rfl) (by decide) (pm_c1b rfl) rfl ?_
          refine pm_goto (tgt := 7) hG dX12_isTested_27 rfl ?_
          exact ih7 _ hE
  refine loop7 _ (fun  x6_1 hE => ?_) _ _ hE
  refine pm_iloadn hG dX12_isTested_30 rfl ?_
  refine pm_if_lt (tgt := 51) hG dX12_isTested_31 rfl (fun c7 => ?_) (fun c7 => ?_)
  · replace hE := fx_t c7 hE
    refine pm_iconst (v := 0) hG dX12_isTested_51 (by decide) ?_
    exact pm_zret hG hF dX12_isTested_52 rfl (by rfl) (Nat.le_refl _) (Nat.le_refl _) (fx_pi (Option.some.inj hE))
  · replace hE := fx_f c7 hE
    refine pm_aloadn hG dX12_isTested_34 rfl ?_
    refine pm_getf hG dX12_isTested_35 (flX12_28 _ rfl) rfl rfl ?_
    refine pm_iloadn hG dX12_isTested_38 rfl ?_
    obtain ⟨j8, hj8, hE⟩ := fb_some hE
    refine fx_iald hG dX12_isTested_39 rfl hj8 ?_
    refine pm_callS (As := [.int (S.2 61 j8)]) (rest := []) hG hR dX12_isTested_40 (lkX12_151 _ rfl) okS_X12_rankOf (c_X12_rankOf (d := 1) (by decide) rfl) rfl rfl hdd (Nat.le_refl _) (Nat.le_refl _) (by decide) (fx_ki ?_)
    refine pm_iconst (v := 3) hG dX12_isTested_43 (by decide) ?_
    refine pm_icmp_ne (tgt := 51) hG dX12_isTested_44 rfl (fun c9 => ?_) (fun c9 => ?_)
    · replace hE := fx_f c9 hE
      refine pm_iconst (v := 0) hG dX12_isTested_51 (by decide) ?_
      exact pm_zret hG hF dX12_isTested_52 rfl (by rfl) (Nat.le_refl _) (Nat.le_refl _) (fx_pi (Option.some.inj hE))
    · replace hE := fx_t c9 hE
      refine pm_iconst (v := 1) hG dX12_isTested_47 (by decide) ?_
      refine pm_goto (tgt := 52) hG dX12_isTested_48 rfl ?_
      exact pm_zret hG hF dX12_isTested_52 rfl (by rfl) (Nat.le_refl _) (Nat.le_refl _) (fx_pi (Option.some.inj hE))

set_option maxRecDepth 100000 in
set_option maxHeartbeats 4000000 in
theorem c_X12_lays {d : Nat} {B cnt : Nat} {σ : pm_S} {S : FS} {za : Int32} {R : Int32 × FS} (hdd : 1 ≤ d) (hE : f_X12_lays S za = some R) : pm_met mX12_lays d 0 0 B [.ref (B + 54), .int za] cnt (mst B S σ) (pm_Qv (fun σ' cnt' => σ' = (mst B R.2 σ) ∧ cnt' = cnt)) := by
  refine pm_enter 0 (by decide) (Nat.le_of_ble_eq_true rfl) rfl (fun G hG hR hF => ?_)
  unfold f_X12_lays at hE
  refine pm_aloadn hG dX12_lays_0 rfl ?_
  refine pm_getf hG dX12_lays_1 (flX12_25 _ rfl) rfl rfl ?_
  refine pm_aloadn hG dX12_lays_4 rfl ?_
  refine pm_getf hG dX12_lays_5 (flX12_144 _ rfl) rfl rfl ?_
  refine pm_iloadn hG dX12_lays_8 rfl ?_
  obtain ⟨j1, hj1, hE⟩ := fb_some hE
  refine fx_iast hG dX12_lays_9 rfl hj1 ?_
  refine ma_60 ?_
  refine fx_letm hE (fun S2 hE => ?_)
  refine pm_aloadn hG dX12_lays_10 rfl ?_
  refine pm_dup hG dX12_lays_11 rfl ?_
  refine pm_getf hG dX12_lays_12 (flX12_144 _ rfl) rfl rfl ?_
  refine pm_iconst (v := 1) hG dX12_lays_15 (by decide) ?_
  refine pm_iadd hG dX12_lays_16 ?_
  refine pm_putf hG dX12_lays_17 (fwX12_144 _ rfl) rfl rfl rfl ?_
  refine mi_10 ?_
  refine fx_letm hE (fun S3 hE => ?_)
  exact pm_vret hG hF dX12_lays_20 rfl (Nat.le_refl _) (Nat.le_refl _) (fx_rvm hE)

set_option maxRecDepth 100000 in
set_option maxHeartbeats 4000000 in
theorem c_X12_settles {d : Nat} {B cnt : Nat} {σ : pm_S} {S : FS} {za : Int32} {R : Int32 × FS} (hdd : 2 ≤ d) (hE : f_X12_settles S za = some R) : pm_met mX12_settles d 0 0 B [.ref (B + 54), .int za] cnt (mst B S σ) (pm_Qv (fun σ' cnt' => σ' = (mst B R.2 σ) ∧ cnt' = cnt)) := by
  refine pm_enter 0 (by decide) (Nat.le_of_ble_eq_true rfl) rfl (fun G hG hR hF => ?_)
  unfold f_X12_settles at hE
  have loop0 : ∀ (k0 : FS → Option (Int32 × FS)), (∀ (S1 : FS), k0 S1  = some R → pm_wp mX12_settles G B 54 [some (.ref (B + 54)), some (.int za)] [] 0 0 cnt (mst B S1 σ)) → ∀ (m0 : Nat) (S1 : FS), l_X12_settles_0 za k0 m0 S1  = some R → pm_wp mX12_settles G B 0 [some (.ref (B + 54)), some (.int za)] [] 0 0 cnt (mst B S1 σ) := by
    intro k0 hk0 m0
    induction m0 with
    | zero => intro S1  hE; exact fx_no hE
    | succ m0 ih0 =>
      intro S1  hE
      rw [l_X12_settles_0] at hE
      refine pm_aloadn hG dX12_settles_0 rfl ?_
      refine pm_getf hG dX12_settles_1 (flX12_148 _ rfl) rfl rfl ?_
      refine pm_if_le (tgt := 54) hG dX12_settles_4 rfl (fun c2 => ?_) (fun c2 => ?_)
      · replace c2 := Int32.not_lt.mpr c2
        replace hE := fx_f c2 hE
        exact hk0 _ hE
      · replace c2 := Int32.not_le.mp c2
        replace hE := fx_t c2 hE
        refine pm_aloadn hG dX12_settles_7 rfl ?_
        refine pm_getf hG dX12_settles_8 (flX12_28 _ rfl) rfl rfl ?_
        refine pm_aloadn hG dX12_settles_11 rfl ?_
        refine pm_getf hG dX12_settles_12 (flX12_148 _ rfl) rfl rfl ?_
        refine pm_iconst (v := 1) hG dX12_settles_15 (by decide) ?_
        refine pm_isub hG dX12_settles_16 ?_
        obtain ⟨j3, hj3, hE⟩ := fb_some hE
        refine fx_iald hG dX12_settles_17 rfl hj3 ?_
        refine pm_callS (As := [.int (S1.2 61 j3)]) (rest := []) hG hR dX12_settles_18 (lkX12_151 _ rfl) okS_X12_rankOf (c_X12_rankOf (d := 1) (by decide) rfl) rfl rfl hdd (Nat.le_refl _) (Nat.le_refl _) (by decide) (fx_ki ?_)
        refine pm_iloadn hG dX12_settles_21 rfl ?_
        refine pm_icmp_lt (tgt := 54) hG dX12_settles_22 rfl (fun c4 => ?_) (fun c4 => ?_)
        · replace hE := fx_t c4 hE
          exact hk0 _ hE
        · replace hE := fx_f c4 hE
          refine pm_aloadn hG dX12_settles_25 rfl ?_
          refine pm_dup hG dX12_settles_26 rfl ?_
          refine pm_getf hG dX12_settles_27 (flX12_148 _ rfl) rfl rfl ?_
          refine pm_iconst (v := 1) hG dX12_settles_30 (by decide) ?_
          refine pm_isub hG dX12_settles_31 ?_
          refine pm_putf hG dX12_settles_32 (fwX12_148 _ rfl) rfl rfl rfl ?_
          refine mi_11 ?_
          refine fx_letm hE (fun S5 hE => ?_)
          refine pm_aloadn hG dX12_settles_35 rfl ?_
          refine pm_bipush (v := (-100)) hG dX12_settles_36 (by decide) ?_
          refine pm_aloadn hG dX12_settles_38 rfl ?_
          refine pm_getf hG dX12_settles_39 (flX12_28 _ rfl) rfl rfl ?_
          refine pm_aloadn hG dX12_settles_42 rfl ?_
          refine pm_getf hG dX12_settles_43 (flX12_148 _ rfl) rfl rfl ?_
          obtain ⟨j6, hj6, hE⟩ := fb_some hE
          refine fx_iald hG dX12_settles_46 rfl hj6 ?_
          refine pm_isub hG dX12_settles_47 ?_
          obtain ⟨r8, h7, hE⟩ := fb_some hE
          refine pm_callV (As := [.int ((-100) - (S5.2 61 j6))]) (rest := []) hG hR dX12_settles_48 (lkX12_154 _ rfl) okV_X12_lays rfl rfl (c_X12_lays (d := 1) (by decide) h7) rfl rfl hdd (Nat.le_refl _) (Nat.le_refl _) (by decide) (fx_kv ?_)
          refine pm_goto (tgt := 0) hG dX12_settles_51 rfl ?_
          exact ih0 _ hE
  refine loop0 _ (fun S9 hE => ?_) _ _ hE
  exact pm_vret hG hF dX12_settles_54 rfl (Nat.le_refl _) (Nat.le_refl _) (fx_rvm hE)

set_option maxRecDepth 100000 in
set_option maxHeartbeats 4000000 in
theorem c_X12_openMany {d : Nat} {B cnt : Nat} {σ : pm_S} {S : FS} {R : Int32} (hdd : 1 ≤ d) (hE : q_X12_openMany S = some R) : pm_met mX12_openMany d 0 0 B [.ref (B + 54)] cnt (mst B S σ) (pm_Qi (fun v σ' cnt' => v = R ∧ σ' = (mst B S σ) ∧ cnt' = cnt)) := by
  refine pm_enter 2 (by decide) (Nat.le_of_ble_eq_true rfl) rfl (fun G hG hR hF => ?_)
  unfold q_X12_openMany at hE
  refine pm_iconst (v := 0) hG dX12_openMany_0 (by decide) ?_
  refine pm_istoreXn (loc' := [some (.ref (B + 54)), some (.int 0), none]) hG dX12_openMany_1 (by decide) (pm_c1b rfl) rfl ?_
  refine pm_iconst (v := 0) hG dX12_openMany_2 (by decide) ?_
  refine pm_istoreXn (loc' := [some (.ref (B + 54)), some (.int 0), some (.int 0)]) hG dX12_openMany_3 (by decide) (pm_c1b rfl) rfl ?_
  have loop4 : ∀ (k4 : Int32 → Int32 → Option Int32), (∀  (x1_1 : Int32) (x1_2 : Int32), k4  x1_1 x1_2 = some R → pm_wp mX12_openMany G B 48 [some (.ref (B + 54)), some (.int x1_1), some (.int x1_2)] [] 0 0 cnt (mst B S σ)) → ∀ (m4 : Nat)  (x1_1 : Int32) (x1_2 : Int32), l_X12_openMany_4 S k4 m4  x1_1 x1_2 = some R → pm_wp mX12_openMany G B 4 [some (.ref (B + 54)), some (.int x1_1), some (.int x1_2)] [] 0 0 cnt (mst B S σ) := by
    intro k4 hk4 m4
    induction m4 with
    | zero => intro  x1_1 x1_2 hE; exact fx_no hE
    | succ m4 ih4 =>
      intro  x1_1 x1_2 hE
      rw [l_X12_openMany_4] at hE
      refine pm_iloadn hG dX12_openMany_4 rfl ?_
      refine pm_aloadn hG dX12_openMany_5 rfl ?_
      refine pm_getf hG dX12_openMany_6 (flX12_148 _ rfl) rfl rfl ?_
      refine pm_icmp_ge (tgt := 48) hG dX12_openMany_9 rfl (fun c2 => ?_) (fun c2 => ?_)
      · replace c2 := Int32.not_lt.mpr c2
        replace hE := fx_f c2 hE
        exact hk4 _ _ hE
      · replace c2 := Int32.not_le.mp c2
        replace hE := fx_t c2 hE
        refine pm_iloadn hG dX12_openMany_12 rfl ?_
        refine pm_aloadn hG dX12_openMany_13 rfl ?_
        refine pm_getf hG dX12_openMany_14 (flX12_28 _ rfl) rfl rfl ?_
        refine pm_iloadn hG dX12_openMany_17 rfl ?_
        obtain ⟨j3, hj3, hE⟩ := fb_some hE
        refine fx_iald hG dX12_openMany_18 rfl hj3 ?_
        refine pm_bipush (v := 33) hG dX12_openMany_19 (by decide) ?_
        refine pm_icmp_eq (tgt := 35) hG dX12_openMany_21 rfl (fun c4 => ?_) (fun c4 => ?_)
        · replace hE := fx_t c4 hE
          refine pm_iconst (v := 1) hG dX12_openMany_35 (by decide) ?_
          refine pm_goto (tgt := 40) hG dX12_openMany_36 rfl ?_
          refine pm_iadd hG dX12_openMany_40 ?_
          refine fx_letv hE (fun x5 hE => ?_)
          refine pm_istoreXn (loc' := [some (.ref (B + 54)), some (.int x5), some (.int x1_2)]) hG dX12_openMany_41 (by decide) (pm_c1b rfl) rfl ?_
          refine pm_iincX (v := x1_2 + 1) (loc' := [some (.ref (B + 54)), some (.int x5), some (.int (x1_2 + 1))]) hG dX12_openMany_42 rfl (by rfl) (by decide) (pm_c1b rfl) rfl ?_
          refine pm_goto (tgt := 4) hG dX12_openMany_45 rfl ?_
          exact ih4 _ _ hE
        · replace hE := fx_f c4 hE
          refine pm_aloadn hG dX12_openMany_24 rfl ?_
          refine pm_getf hG dX12_openMany_25 (flX12_28 _ rfl) rfl rfl ?_
          refine pm_iloadn hG dX12_openMany_28 rfl ?_
          refine fx_iald hG dX12_openMany_29 rfl hj3 ?_
          refine pm_bipush (v := 40) hG dX12_openMany_30 (by decide) ?_
          refine pm_icmp_ne (tgt := 39) hG dX12_openMany_32 rfl (fun c6 => ?_) (fun c6 => ?_)
          · replace hE := fx_f c6 hE
            refine pm_iconst (v := 0) hG dX12_openMany_39 (by decide) ?_
            refine pm_iadd hG dX12_openMany_40 ?_
            refine fx_letv hE (fun x7 hE => ?_)
            refine pm_istoreXn (loc' := [some (.ref (B + 54)), some (.int x7), some (.int x1_2)]) hG dX12_openMany_41 (by decide) (pm_c1b rfl) rfl ?_
            refine pm_iincX (v := x1_2 + 1) (loc' := [some (.ref (B + 54)), some (.int x7), some (.int (x1_2 + 1))]) hG dX12_openMany_42 rfl (by rfl) (by decide) (pm_c1b rfl) rfl ?_
            refine pm_goto (tgt := 4) hG dX12_openMany_45 rfl ?_
            exact ih4 _ _ hE
          · replace hE := fx_t c6 hE
            refine pm_iconst (v := 1) hG dX12_openMany_35 (by decide) ?_
            refine pm_goto (tgt := 40) hG dX12_openMany_36 rfl ?_
            refine pm_iadd hG dX12_openMany_40 ?_
            refine fx_letv hE (fun x8 hE => ?_)
            refine pm_istoreXn (loc' := [some (.ref (B + 54)), some (.int x8), some (.int x1_2)]) hG dX12_openMany_41 (by decide) (pm_c1b rfl) rfl ?_
            refine pm_iincX (v := x1_2 + 1) (loc' := [some (.ref (B + 54)), some (.int x8), some (.int (x1_2 + 1))]) hG dX12_openMany_42 rfl (by rfl) (by decide) (pm_c1b rfl) rfl ?_
            refine pm_goto (tgt := 4) hG dX12_openMany_45 rfl ?_
            exact ih4 _ _ hE
  refine loop4 _ (fun  x9_1 x9_2 hE => ?_) _ _ _ hE
  refine pm_iloadn hG dX12_openMany_48 rfl ?_
  exact pm_iret hG hF dX12_openMany_49 rfl (Nat.le_refl _) (Nat.le_refl _) (fx_pi (Option.some.inj hE))

set_option maxRecDepth 100000 in
set_option maxHeartbeats 4000000 in
theorem c_X12_nameOf {d : Nat} {B cnt : Nat} {σ : pm_S} {S : FS} {za : Int32} {R : Int32} (hdd : 1 ≤ d) (hE : p_X12_nameOf S za = R) : pm_met mX12_nameOf d 0 0 B [.int za] cnt (mst B S σ) (pm_Qi (fun v σ' cnt' => v = R ∧ σ' = (mst B S σ) ∧ cnt' = cnt)) := by
  refine pm_enter 0 (by decide) (Nat.le_of_ble_eq_true rfl) rfl (fun G hG hR hF => ?_)
  unfold p_X12_nameOf at hE
  refine pm_iloadn hG dX12_nameOf_0 rfl ?_
  by_cases c1 : za = 97
  · replace hE := fx_t c1 hE
    refine pm_top (v := 97) c1 ?_
    refine pm_tswIn (tgt := 116) hG dX12_nameOf_1 (by decide) (by decide) rfl rfl ?_
    refine pm_iconst (v := 1) hG dX12_nameOf_116 (by decide) ?_
    exact pm_iret hG hF dX12_nameOf_117 rfl  (Nat.le_refl _) (Nat.le_refl _) (fx_pi hE)
  replace hE := fx_f c1 hE
  by_cases c2 : za = 98
  · replace hE := fx_t c2 hE
    refine pm_top (v := 98) c2 ?_
    refine pm_tswIn (tgt := 129) hG dX12_nameOf_1 (by decide) (by decide) rfl rfl ?_
    refine pm_bipush (v := 7) hG dX12_nameOf_129 (by decide) ?_
    exact pm_iret hG hF dX12_nameOf_131 rfl  (Nat.le_refl _) (Nat.le_refl _) (fx_pi hE)
  replace hE := fx_f c2 hE
  by_cases c3 : za = 99
  · replace hE := fx_t c3 hE
    refine pm_top (v := 99) c3 ?_
    refine pm_tswIn (tgt := 122) hG dX12_nameOf_1 (by decide) (by decide) rfl rfl ?_
    refine pm_iconst (v := 4) hG dX12_nameOf_122 (by decide) ?_
    exact pm_iret hG hF dX12_nameOf_123 rfl  (Nat.le_refl _) (Nat.le_refl _) (fx_pi hE)
  replace hE := fx_f c3 hE
  by_cases c4 : za = 100
  · replace hE := fx_t c4 hE
    refine pm_top (v := 100) c4 ?_
    refine pm_tswIn (tgt := 141) hG dX12_nameOf_1 (by decide) (by decide) rfl rfl ?_
    refine pm_iloadn hG dX12_nameOf_141 rfl ?_
    refine pm_bipush (v := 100) hG dX12_nameOf_142 (by decide) ?_
    refine pm_icmp_ne (tgt := 152) hG dX12_nameOf_144 rfl (fun q => absurd c4 q) (fun _ => ?_)
    refine pm_bipush (v := 11) hG dX12_nameOf_147 (by decide) ?_
    refine pm_goto (tgt := 153) hG dX12_nameOf_149 rfl ?_
    exact pm_iret hG hF dX12_nameOf_153 rfl  (Nat.le_refl _) (Nat.le_refl _) (fx_pi hE)
  replace hE := fx_f c4 hE
  by_cases c5 : za = 101
  · replace hE := fx_t c5 hE
    refine pm_top (v := 101) c5 ?_
    refine pm_tswIn (tgt := 141) hG dX12_nameOf_1 (by decide) (by decide) rfl rfl ?_
    refine pm_iloadn hG dX12_nameOf_141 rfl ?_
    refine pm_bipush (v := 100) hG dX12_nameOf_142 (by decide) ?_
    refine pm_icmp_ne (tgt := 152) hG dX12_nameOf_144 rfl (fun _ => ?_) (fun q => absurd q c4)
    refine pm_iconst (v := 0) hG dX12_nameOf_152 (by decide) ?_
    exact pm_iret hG hF dX12_nameOf_153 rfl  (Nat.le_refl _) (Nat.le_refl _) (fx_pi hE)
  replace hE := fx_f c5 hE
  by_cases c6 : za = 102
  · replace hE := fx_t c6 hE
    refine pm_top (v := 102) c6 ?_
    refine pm_tswIn (tgt := 141) hG dX12_nameOf_1 (by decide) (by decide) rfl rfl ?_
    refine pm_iloadn hG dX12_nameOf_141 rfl ?_
    refine pm_bipush (v := 100) hG dX12_nameOf_142 (by decide) ?_
    refine pm_icmp_ne (tgt := 152) hG dX12_nameOf_144 rfl (fun _ => ?_) (fun q => absurd q c4)
    refine pm_iconst (v := 0) hG dX12_nameOf_152 (by decide) ?_
    exact pm_iret hG hF dX12_nameOf_153 rfl  (Nat.le_refl _) (Nat.le_refl _) (fx_pi hE)
  replace hE := fx_f c6 hE
  by_cases c7 : za = 103
  · replace hE := fx_t c7 hE
    refine pm_top (v := 103) c7 ?_
    refine pm_tswIn (tgt := 141) hG dX12_nameOf_1 (by decide) (by decide) rfl rfl ?_
    refine pm_iloadn hG dX12_nameOf_141 rfl ?_
    refine pm_bipush (v := 100) hG dX12_nameOf_142 (by decide) ?_
    refine pm_icmp_ne (tgt := 152) hG dX12_nameOf_144 rfl (fun _ => ?_) (fun q => absurd q c4)
    refine pm_iconst (v := 0) hG dX12_nameOf_152 (by decide) ?_
    exact pm_iret hG hF dX12_nameOf_153 rfl  (Nat.le_refl _) (Nat.le_refl _) (fx_pi hE)
  replace hE := fx_f c7 hE
  by_cases c8 : za = 104
  · replace hE := fx_t c8 hE
    refine pm_top (v := 104) c8 ?_
    refine pm_tswIn (tgt := 141) hG dX12_nameOf_1 (by decide) (by decide) rfl rfl ?_
    refine pm_iloadn hG dX12_nameOf_141 rfl ?_
    refine pm_bipush (v := 100) hG dX12_nameOf_142 (by decide) ?_
    refine pm_icmp_ne (tgt := 152) hG dX12_nameOf_144 rfl (fun _ => ?_) (fun q => absurd q c4)
    refine pm_iconst (v := 0) hG dX12_nameOf_152 (by decide) ?_
    exact pm_iret hG hF dX12_nameOf_153 rfl  (Nat.le_refl _) (Nat.le_refl _) (fx_pi hE)
  replace hE := fx_f c8 hE
  by_cases c9 : za = 105
  · replace hE := fx_t c9 hE
    refine pm_top (v := 105) c9 ?_
    refine pm_tswIn (tgt := 141) hG dX12_nameOf_1 (by decide) (by decide) rfl rfl ?_
    refine pm_iloadn hG dX12_nameOf_141 rfl ?_
    refine pm_bipush (v := 100) hG dX12_nameOf_142 (by decide) ?_
    refine pm_icmp_ne (tgt := 152) hG dX12_nameOf_144 rfl (fun _ => ?_) (fun q => absurd q c4)
    refine pm_iconst (v := 0) hG dX12_nameOf_152 (by decide) ?_
    exact pm_iret hG hF dX12_nameOf_153 rfl  (Nat.le_refl _) (Nat.le_refl _) (fx_pi hE)
  replace hE := fx_f c9 hE
  by_cases c10 : za = 106
  · replace hE := fx_t c10 hE
    refine pm_top (v := 106) c10 ?_
    refine pm_tswIn (tgt := 141) hG dX12_nameOf_1 (by decide) (by decide) rfl rfl ?_
    refine pm_iloadn hG dX12_nameOf_141 rfl ?_
    refine pm_bipush (v := 100) hG dX12_nameOf_142 (by decide) ?_
    refine pm_icmp_ne (tgt := 152) hG dX12_nameOf_144 rfl (fun _ => ?_) (fun q => absurd q c4)
    refine pm_iconst (v := 0) hG dX12_nameOf_152 (by decide) ?_
    exact pm_iret hG hF dX12_nameOf_153 rfl  (Nat.le_refl _) (Nat.le_refl _) (fx_pi hE)
  replace hE := fx_f c10 hE
  by_cases c11 : za = 107
  · replace hE := fx_t c11 hE
    refine pm_top (v := 107) c11 ?_
    refine pm_tswIn (tgt := 120) hG dX12_nameOf_1 (by decide) (by decide) rfl rfl ?_
    refine pm_iconst (v := 3) hG dX12_nameOf_120 (by decide) ?_
    exact pm_iret hG hF dX12_nameOf_121 rfl  (Nat.le_refl _) (Nat.le_refl _) (fx_pi hE)
  replace hE := fx_f c11 hE
  by_cases c12 : za = 108
  · replace hE := fx_t c12 hE
    refine pm_top (v := 108) c12 ?_
    refine pm_tswIn (tgt := 141) hG dX12_nameOf_1 (by decide) (by decide) rfl rfl ?_
    refine pm_iloadn hG dX12_nameOf_141 rfl ?_
    refine pm_bipush (v := 100) hG dX12_nameOf_142 (by decide) ?_
    refine pm_icmp_ne (tgt := 152) hG dX12_nameOf_144 rfl (fun _ => ?_) (fun q => absurd q c4)
    refine pm_iconst (v := 0) hG dX12_nameOf_152 (by decide) ?_
    exact pm_iret hG hF dX12_nameOf_153 rfl  (Nat.le_refl _) (Nat.le_refl _) (fx_pi hE)
  replace hE := fx_f c12 hE
  by_cases c13 : za = 109
  · replace hE := fx_t c13 hE
    refine pm_top (v := 109) c13 ?_
    refine pm_tswIn (tgt := 124) hG dX12_nameOf_1 (by decide) (by decide) rfl rfl ?_
    refine pm_iconst (v := 5) hG dX12_nameOf_124 (by decide) ?_
    exact pm_iret hG hF dX12_nameOf_125 rfl  (Nat.le_refl _) (Nat.le_refl _) (fx_pi hE)
  replace hE := fx_f c13 hE
  by_cases c14 : za = 110
  · replace hE := fx_t c14 hE
    refine pm_top (v := 110) c14 ?_
    refine pm_tswIn (tgt := 141) hG dX12_nameOf_1 (by decide) (by decide) rfl rfl ?_
    refine pm_iloadn hG dX12_nameOf_141 rfl ?_
    refine pm_bipush (v := 100) hG dX12_nameOf_142 (by decide) ?_
    refine pm_icmp_ne (tgt := 152) hG dX12_nameOf_144 rfl (fun _ => ?_) (fun q => absurd q c4)
    refine pm_iconst (v := 0) hG dX12_nameOf_152 (by decide) ?_
    exact pm_iret hG hF dX12_nameOf_153 rfl  (Nat.le_refl _) (Nat.le_refl _) (fx_pi hE)
  replace hE := fx_f c14 hE
  by_cases c15 : za = 111
  · replace hE := fx_t c15 hE
    refine pm_top (v := 111) c15 ?_
    refine pm_tswIn (tgt := 135) hG dX12_nameOf_1 (by decide) (by decide) rfl rfl ?_
    refine pm_bipush (v := 9) hG dX12_nameOf_135 (by decide) ?_
    exact pm_iret hG hF dX12_nameOf_137 rfl  (Nat.le_refl _) (Nat.le_refl _) (fx_pi hE)
  replace hE := fx_f c15 hE
  by_cases c16 : za = 112
  · replace hE := fx_t c16 hE
    refine pm_top (v := 112) c16 ?_
    refine pm_tswIn (tgt := 141) hG dX12_nameOf_1 (by decide) (by decide) rfl rfl ?_
    refine pm_iloadn hG dX12_nameOf_141 rfl ?_
    refine pm_bipush (v := 100) hG dX12_nameOf_142 (by decide) ?_
    refine pm_icmp_ne (tgt := 152) hG dX12_nameOf_144 rfl (fun _ => ?_) (fun q => absurd q c4)
    refine pm_iconst (v := 0) hG dX12_nameOf_152 (by decide) ?_
    exact pm_iret hG hF dX12_nameOf_153 rfl  (Nat.le_refl _) (Nat.le_refl _) (fx_pi hE)
  replace hE := fx_f c16 hE
  by_cases c17 : za = 113
  · replace hE := fx_t c17 hE
    refine pm_top (v := 113) c17 ?_
    refine pm_tswIn (tgt := 141) hG dX12_nameOf_1 (by decide) (by decide) rfl rfl ?_
    refine pm_iloadn hG dX12_nameOf_141 rfl ?_
    refine pm_bipush (v := 100) hG dX12_nameOf_142 (by decide) ?_
    refine pm_icmp_ne (tgt := 152) hG dX12_nameOf_144 rfl (fun _ => ?_) (fun q => absurd q c4)
    refine pm_iconst (v := 0) hG dX12_nameOf_152 (by decide) ?_
    exact pm_iret hG hF dX12_nameOf_153 rfl  (Nat.le_refl _) (Nat.le_refl _) (fx_pi hE)
  replace hE := fx_f c17 hE
  by_cases c18 : za = 114
  · replace hE := fx_t c18 hE
    refine pm_top (v := 114) c18 ?_
    refine pm_tswIn (tgt := 141) hG dX12_nameOf_1 (by decide) (by decide) rfl rfl ?_
    refine pm_iloadn hG dX12_nameOf_141 rfl ?_
    refine pm_bipush (v := 100) hG dX12_nameOf_142 (by decide) ?_
    refine pm_icmp_ne (tgt := 152) hG dX12_nameOf_144 rfl (fun _ => ?_) (fun q => absurd q c4)
    refine pm_iconst (v := 0) hG dX12_nameOf_152 (by decide) ?_
    exact pm_iret hG hF dX12_nameOf_153 rfl  (Nat.le_refl _) (Nat.le_refl _) (fx_pi hE)
  replace hE := fx_f c18 hE
  by_cases c19 : za = 115
  · replace hE := fx_t c19 hE
    refine pm_top (v := 115) c19 ?_
    refine pm_tswIn (tgt := 118) hG dX12_nameOf_1 (by decide) (by decide) rfl rfl ?_
    refine pm_iconst (v := 2) hG dX12_nameOf_118 (by decide) ?_
    exact pm_iret hG hF dX12_nameOf_119 rfl  (Nat.le_refl _) (Nat.le_refl _) (fx_pi hE)
  replace hE := fx_f c19 hE
  by_cases c20 : za = 116
  · replace hE := fx_t c20 hE
    refine pm_top (v := 116) c20 ?_
    refine pm_tswIn (tgt := 126) hG dX12_nameOf_1 (by decide) (by decide) rfl rfl ?_
    refine pm_bipush (v := 6) hG dX12_nameOf_126 (by decide) ?_
    exact pm_iret hG hF dX12_nameOf_128 rfl  (Nat.le_refl _) (Nat.le_refl _) (fx_pi hE)
  replace hE := fx_f c20 hE
  by_cases c21 : za = 117
  · replace hE := fx_t c21 hE
    refine pm_top (v := 117) c21 ?_
    refine pm_tswIn (tgt := 141) hG dX12_nameOf_1 (by decide) (by decide) rfl rfl ?_
    refine pm_iloadn hG dX12_nameOf_141 rfl ?_
    refine pm_bipush (v := 100) hG dX12_nameOf_142 (by decide) ?_
    refine pm_icmp_ne (tgt := 152) hG dX12_nameOf_144 rfl (fun _ => ?_) (fun q => absurd q c4)
    refine pm_iconst (v := 0) hG dX12_nameOf_152 (by decide) ?_
    exact pm_iret hG hF dX12_nameOf_153 rfl  (Nat.le_refl _) (Nat.le_refl _) (fx_pi hE)
  replace hE := fx_f c21 hE
  by_cases c22 : za = 118
  · replace hE := fx_t c22 hE
    refine pm_top (v := 118) c22 ?_
    refine pm_tswIn (tgt := 141) hG dX12_nameOf_1 (by decide) (by decide) rfl rfl ?_
    refine pm_iloadn hG dX12_nameOf_141 rfl ?_
    refine pm_bipush (v := 100) hG dX12_nameOf_142 (by decide) ?_
    refine pm_icmp_ne (tgt := 152) hG dX12_nameOf_144 rfl (fun _ => ?_) (fun q => absurd q c4)
    refine pm_iconst (v := 0) hG dX12_nameOf_152 (by decide) ?_
    exact pm_iret hG hF dX12_nameOf_153 rfl  (Nat.le_refl _) (Nat.le_refl _) (fx_pi hE)
  replace hE := fx_f c22 hE
  by_cases c23 : za = 119
  · replace hE := fx_t c23 hE
    refine pm_top (v := 119) c23 ?_
    refine pm_tswIn (tgt := 138) hG dX12_nameOf_1 (by decide) (by decide) rfl rfl ?_
    refine pm_bipush (v := 10) hG dX12_nameOf_138 (by decide) ?_
    exact pm_iret hG hF dX12_nameOf_140 rfl  (Nat.le_refl _) (Nat.le_refl _) (fx_pi hE)
  replace hE := fx_f c23 hE
  by_cases c24 : za = 120
  · replace hE := fx_t c24 hE
    refine pm_top (v := 120) c24 ?_
    refine pm_tswIn (tgt := 141) hG dX12_nameOf_1 (by decide) (by decide) rfl rfl ?_
    refine pm_iloadn hG dX12_nameOf_141 rfl ?_
    refine pm_bipush (v := 100) hG dX12_nameOf_142 (by decide) ?_
    refine pm_icmp_ne (tgt := 152) hG dX12_nameOf_144 rfl (fun _ => ?_) (fun q => absurd q c4)
    refine pm_iconst (v := 0) hG dX12_nameOf_152 (by decide) ?_
    exact pm_iret hG hF dX12_nameOf_153 rfl  (Nat.le_refl _) (Nat.le_refl _) (fx_pi hE)
  replace hE := fx_f c24 hE
  by_cases c25 : za = 121
  · replace hE := fx_t c25 hE
    refine pm_top (v := 121) c25 ?_
    refine pm_tswIn (tgt := 132) hG dX12_nameOf_1 (by decide) (by decide) rfl rfl ?_
    refine pm_bipush (v := 8) hG dX12_nameOf_132 (by decide) ?_
    exact pm_iret hG hF dX12_nameOf_134 rfl  (Nat.le_refl _) (Nat.le_refl _) (fx_pi hE)
  replace hE := fx_f c25 hE
  have tc1 : ¬ za.toInt = 97 := fun q => c1 (Int32.toInt_inj.mp q)
  have tc2 : ¬ za.toInt = 98 := fun q => c2 (Int32.toInt_inj.mp q)
  have tc3 : ¬ za.toInt = 99 := fun q => c3 (Int32.toInt_inj.mp q)
  have tc4 : ¬ za.toInt = 100 := fun q => c4 (Int32.toInt_inj.mp q)
  have tc5 : ¬ za.toInt = 101 := fun q => c5 (Int32.toInt_inj.mp q)
  have tc6 : ¬ za.toInt = 102 := fun q => c6 (Int32.toInt_inj.mp q)
  have tc7 : ¬ za.toInt = 103 := fun q => c7 (Int32.toInt_inj.mp q)
  have tc8 : ¬ za.toInt = 104 := fun q => c8 (Int32.toInt_inj.mp q)
  have tc9 : ¬ za.toInt = 105 := fun q => c9 (Int32.toInt_inj.mp q)
  have tc10 : ¬ za.toInt = 106 := fun q => c10 (Int32.toInt_inj.mp q)
  have tc11 : ¬ za.toInt = 107 := fun q => c11 (Int32.toInt_inj.mp q)
  have tc12 : ¬ za.toInt = 108 := fun q => c12 (Int32.toInt_inj.mp q)
  have tc13 : ¬ za.toInt = 109 := fun q => c13 (Int32.toInt_inj.mp q)
  have tc14 : ¬ za.toInt = 110 := fun q => c14 (Int32.toInt_inj.mp q)
  have tc15 : ¬ za.toInt = 111 := fun q => c15 (Int32.toInt_inj.mp q)
  have tc16 : ¬ za.toInt = 112 := fun q => c16 (Int32.toInt_inj.mp q)
  have tc17 : ¬ za.toInt = 113 := fun q => c17 (Int32.toInt_inj.mp q)
  have tc18 : ¬ za.toInt = 114 := fun q => c18 (Int32.toInt_inj.mp q)
  have tc19 : ¬ za.toInt = 115 := fun q => c19 (Int32.toInt_inj.mp q)
  have tc20 : ¬ za.toInt = 116 := fun q => c20 (Int32.toInt_inj.mp q)
  have tc21 : ¬ za.toInt = 117 := fun q => c21 (Int32.toInt_inj.mp q)
  have tc22 : ¬ za.toInt = 118 := fun q => c22 (Int32.toInt_inj.mp q)
  have tc23 : ¬ za.toInt = 119 := fun q => c23 (Int32.toInt_inj.mp q)
  have tc24 : ¬ za.toInt = 120 := fun q => c24 (Int32.toInt_inj.mp q)
  have tc25 : ¬ za.toInt = 121 := fun q => c25 (Int32.toInt_inj.mp q)
  refine pm_tswOut (tgt := 141) hG dX12_nameOf_1 (by omega) rfl ?_
  refine pm_iloadn hG dX12_nameOf_141 rfl ?_
  refine pm_bipush (v := 100) hG dX12_nameOf_142 (by decide) ?_
  refine pm_icmp_ne (tgt := 152) hG dX12_nameOf_144 rfl (fun _ => ?_) (fun q => absurd q c4)
  refine pm_iconst (v := 0) hG dX12_nameOf_152 (by decide) ?_
  exact pm_iret hG hF dX12_nameOf_153 rfl  (Nat.le_refl _) (Nat.le_refl _) (fx_pi hE)

set_option maxRecDepth 100000 in
set_option maxHeartbeats 4000000 in
theorem c_X12_readsOne {d : Nat} {B cnt : Nat} {σ : pm_S} {S : FS} {R : Int32 × FS} (hdd : 2 ≤ d) (hE : f_X12_readsOne S = some R) : pm_met mX12_readsOne d 0 0 B [.ref (B + 54)] cnt (mst B S σ) (pm_Qi (fun v σ' cnt' => v = R.1 ∧ σ' = (mst B R.2 σ) ∧ cnt' = cnt)) := by
  refine pm_enter 3 (by decide) (Nat.le_of_ble_eq_true rfl) rfl (fun G hG hR hF => ?_)
  unfold f_X12_readsOne at hE
  refine pm_aloadn hG dX12_readsOne_0 rfl ?_
  refine pm_aloadn hG dX12_readsOne_1 rfl ?_
  refine pm_getf hG dX12_readsOne_2 (flX12_157 _ rfl) rfl rfl ?_
  obtain ⟨x2, h1, hE⟩ := fb_some hE
  refine pm_callV (As := [.int (S.1 12)]) (rest := []) hG hR dX12_readsOne_5 (lkX12_160 _ rfl) okV_X12_byteAt rfl rfl (c_X12_byteAt (d := 1) (by decide) h1) rfl rfl hdd (Nat.le_refl _) (Nat.le_refl _) (by decide) (fx_ki ?_)
  refine pm_istoreXn (loc' := [some (.ref (B + 54)), some (.int x2), none, none]) hG dX12_readsOne_8 (by decide) (pm_c1b rfl) rfl ?_
  refine pm_iloadn hG dX12_readsOne_9 rfl ?_
  refine pm_bipush (v := 33) hG dX12_readsOne_10 (by decide) ?_
  refine pm_icmp_eq (tgt := 21) hG dX12_readsOne_12 rfl (fun c3 => ?_) (fun c3 => ?_)
  · replace hE := fx_t c3 hE
    refine pm_aloadn hG dX12_readsOne_21 rfl ?_
    obtain ⟨x5, h4, hE⟩ := fb_some hE
    refine pm_callV (As := []) (rest := []) hG hR dX12_readsOne_22 (lkX12_163 _ rfl) okV_X12_openMany rfl rfl (c_X12_openMany (d := 1) (by decide) h4) rfl rfl hdd (Nat.le_refl _) (Nat.le_refl _) (by decide) (fx_ki ?_)
    refine pm_iconst (v := 5) hG dX12_readsOne_25 (by decide) ?_
    refine pm_icmp_ne (tgt := 31) hG dX12_readsOne_26 rfl (fun c6 => ?_) (fun c6 => ?_)
    · replace hE := fx_f c6 hE
      refine pm_aloadn hG dX12_readsOne_31 rfl ?_
      refine pm_getf hG dX12_readsOne_32 (flX12_28 _ rfl) rfl rfl ?_
      refine pm_aloadn hG dX12_readsOne_35 rfl ?_
      refine pm_getf hG dX12_readsOne_36 (flX12_148 _ rfl) rfl rfl ?_
      refine pm_iloadn hG dX12_readsOne_39 rfl ?_
      obtain ⟨j7, hj7, hE⟩ := fb_some hE
      refine fx_iast hG dX12_readsOne_40 rfl hj7 ?_
      refine ma_61 ?_
      refine fx_letm hE (fun S8 hE => ?_)
      refine pm_aloadn hG dX12_readsOne_41 rfl ?_
      refine pm_dup hG dX12_readsOne_42 rfl ?_
      refine pm_getf hG dX12_readsOne_43 (flX12_148 _ rfl) rfl rfl ?_
      refine pm_iconst (v := 1) hG dX12_readsOne_46 (by decide) ?_
      refine pm_iadd hG dX12_readsOne_47 ?_
      refine pm_putf hG dX12_readsOne_48 (fwX12_148 _ rfl) rfl rfl rfl ?_
      refine mi_11 ?_
      refine fx_letm hE (fun S9 hE => ?_)
      refine pm_aloadn hG dX12_readsOne_51 rfl ?_
      refine pm_dup hG dX12_readsOne_52 rfl ?_
      refine pm_getf hG dX12_readsOne_53 (flX12_157 _ rfl) rfl rfl ?_
      refine pm_iconst (v := 1) hG dX12_readsOne_56 (by decide) ?_
      refine pm_iadd hG dX12_readsOne_57 ?_
      refine pm_putf hG dX12_readsOne_58 (fwX12_157 _ rfl) rfl rfl rfl ?_
      refine mi_12 ?_
      refine fx_letm hE (fun S10 hE => ?_)
      refine pm_iconst (v := 2) hG dX12_readsOne_61 (by decide) ?_
      exact pm_iret hG hF dX12_readsOne_62 rfl (Nat.le_refl _) (Nat.le_refl _) (fx_rim hE)
    · replace hE := fx_t c6 hE
      refine pm_iconst (v := 0) hG dX12_readsOne_29 (by decide) ?_
      exact pm_iret hG hF dX12_readsOne_30 rfl (Nat.le_refl _) (Nat.le_refl _) (fx_rim hE)
  · replace hE := fx_f c3 hE
    refine pm_iloadn hG dX12_readsOne_15 rfl ?_
    refine pm_bipush (v := 40) hG dX12_readsOne_16 (by decide) ?_
    refine pm_icmp_ne (tgt := 63) hG dX12_readsOne_18 rfl (fun c11 => ?_) (fun c11 => ?_)
    · replace hE := fx_f c11 hE
      refine pm_iloadn hG dX12_readsOne_63 rfl ?_
      refine pm_callS (As := [.int x2]) (rest := []) hG hR dX12_readsOne_64 (lkX12_167 _ rfl) okS_X12_nameOf (c_X12_nameOf (d := 1) (by decide) rfl) rfl rfl hdd (Nat.le_refl _) (Nat.le_refl _) (by decide) (fx_ki ?_)
      refine pm_if_le (tgt := 91) hG dX12_readsOne_67 rfl (fun c12 => ?_) (fun c12 => ?_)
      · replace c12 := Int32.not_lt.mpr c12
        replace hE := fx_f c12 hE
        refine pm_iconst (v := 0) hG dX12_readsOne_91 (by decide) ?_
        refine pm_istoreXn (loc' := [some (.ref (B + 54)), some (.int x2), some (.int 0), none]) hG dX12_readsOne_92 (by decide) (pm_c1b rfl) rfl ?_
        refine pm_aloadn hG dX12_readsOne_93 rfl ?_
        refine pm_getf hG dX12_readsOne_94 (flX12_157 _ rfl) rfl rfl ?_
        refine fx_letv hE (fun x13 hE => ?_)
        refine pm_istoreXn (loc' := [some (.ref (B + 54)), some (.int x2), some (.int 0), some (.int x13)]) hG dX12_readsOne_97 (by decide) (pm_c1b rfl) rfl ?_
        have loop98 : ∀ (k98 : FS → Int32 → Option (Int32 × FS)), (∀ (S14 : FS) (x14_2 : Int32), k98 S14  x14_2 = some R → pm_wp mX12_readsOne G B 152 [some (.ref (B + 54)), some (.int x2), some (.int x14_2), some (.int x13)] [] 0 0 cnt (mst B S14 σ)) → ∀ (m98 : Nat) (S14 : FS) (x14_2 : Int32), l_X12_readsOne_98 x13 k98 m98 S14  x14_2 = some R → pm_wp mX12_readsOne G B 98 [some (.ref (B + 54)), some (.int x2), some (.int x14_2), some (.int x13)] [] 0 0 cnt (mst B S14 σ) := by
          intro k98 hk98 m98
          induction m98 with
          | zero => intro S14  x14_2 hE; exact fx_no hE
          | succ m98 ih98 =>
            intro S14  x14_2 hE
            rw [l_X12_readsOne_98] at hE
            refine pm_aloadn hG dX12_readsOne_98 rfl ?_
            refine pm_aloadn hG dX12_readsOne_99 rfl ?_
            refine pm_getf hG dX12_readsOne_100 (flX12_157 _ rfl) rfl rfl ?_
            obtain ⟨x16, h15, hE⟩ := fb_some hE
            refine pm_callV (As := [.int (S14.1 12)]) (rest := []) hG hR dX12_readsOne_103 (lkX12_160 _ rfl) okV_X12_byteAt rfl rfl (c_X12_byteAt (d := 1) (by decide) h15) rfl rfl hdd (Nat.le_refl _) (Nat.le_refl _) (by decide) (fx_ki ?_)
            refine pm_callS (As := [.int x16]) (rest := []) hG hR dX12_readsOne_106 (lkX12_170 _ rfl) okS_X12_isDigit (c_X12_isDigit (d := 1) (by decide) rfl) rfl rfl hdd (Nat.le_refl _) (Nat.le_refl _) (by decide) (fx_ki ?_)
            refine pm_if_eq (tgt := 152) hG dX12_readsOne_109 rfl (fun c17 => ?_) (fun c17 => ?_)
            · replace hE := fx_t c17 hE
              exact hk98 _ _ hE
            · replace hE := fx_f c17 hE
              refine pm_aloadn hG dX12_readsOne_112 rfl ?_
              refine pm_getf hG dX12_readsOne_113 (flX12_157 _ rfl) rfl rfl ?_
              refine pm_iloadn hG dX12_readsOne_116 rfl ?_
              refine pm_isub hG dX12_readsOne_117 ?_
              refine pm_iconst (v := 4) hG dX12_readsOne_118 (by decide) ?_
              refine pm_icmp_ge (tgt := 152) hG dX12_readsOne_119 rfl (fun c18 => ?_) (fun c18 => ?_)
              · replace c18 := Int32.not_lt.mpr c18
                replace hE := fx_f c18 hE
                exact hk98 _ _ hE
              · replace c18 := Int32.not_le.mp c18
                replace hE := fx_t c18 hE
                refine pm_bipush (v := 10) hG dX12_readsOne_122 (by decide) ?_
                refine pm_iloadn hG dX12_readsOne_124 rfl ?_
                refine pm_imul hG dX12_readsOne_125 ?_
                refine pm_aloadn hG dX12_readsOne_126 rfl ?_
                refine pm_aloadn hG dX12_readsOne_127 rfl ?_
                refine pm_getf hG dX12_readsOne_128 (flX12_157 _ rfl) rfl rfl ?_
                obtain ⟨x20, h19, hE⟩ := fb_some hE
                refine pm_callV (As := [.int (S14.1 12)]) (rest := [.int (10 * x14_2)]) hG hR dX12_readsOne_131 (lkX12_160 _ rfl) okV_X12_byteAt rfl rfl (c_X12_byteAt (d := 1) (by decide) h19) rfl rfl hdd (Nat.le_refl _) (Nat.le_refl _) (by first | decide | exact Nat.le_of_ble_eq_true rfl) (fx_ki ?_)
                refine pm_iadd hG dX12_readsOne_134 ?_
                refine pm_bipush (v := 48) hG dX12_readsOne_135 (by decide) ?_
                refine pm_isub hG dX12_readsOne_137 ?_
                refine fx_letv hE (fun x21 hE => ?_)
                refine pm_istoreXn (loc' := [some (.ref (B + 54)), some (.int x2), some (.int x21), some (.int x13)]) hG dX12_readsOne_138 (by decide) (pm_c1b rfl) rfl ?_
                refine pm_aloadn hG dX12_readsOne_139 rfl ?_
                refine pm_dup hG dX12_readsOne_140 rfl ?_
                refine pm_getf hG dX12_readsOne_141 (flX12_157 _ rfl) rfl rfl ?_
                refine pm_iconst (v := 1) hG dX12_readsOne_144 (by decide) ?_
                refine pm_iadd hG dX12_readsOne_145 ?_
                refine pm_putf hG dX12_readsOne_146 (fwX12_157 _ rfl) rfl rfl rfl ?_
                refine mi_12 ?_
                refine fx_letm hE (fun S22 hE => ?_)
                refine pm_goto (tgt := 98) hG dX12_readsOne_149 rfl ?_
                exact ih98 _ _ hE
        refine loop98 _ (fun S23 x23_2 hE => ?_) _ _ _ hE
        refine pm_aloadn hG dX12_readsOne_152 rfl ?_
        refine pm_iloadn hG dX12_readsOne_153 rfl ?_
        obtain ⟨r25, h24, hE⟩ := fb_some hE
        refine pm_callV (As := [.int x23_2]) (rest := []) hG hR dX12_readsOne_154 (lkX12_154 _ rfl) okV_X12_lays rfl rfl (c_X12_lays (d := 1) (by decide) h24) rfl rfl hdd (Nat.le_refl _) (Nat.le_refl _) (by decide) (fx_kv ?_)
        refine pm_aloadn hG dX12_readsOne_157 rfl ?_
        refine pm_getf hG dX12_readsOne_158 (flX12_157 _ rfl) rfl rfl ?_
        refine pm_iloadn hG dX12_readsOne_161 rfl ?_
        refine pm_icmp_le (tgt := 183) hG dX12_readsOne_162 rfl (fun c26 => ?_) (fun c26 => ?_)
        · replace c26 := Int32.not_lt.mpr c26
          replace hE := fx_f c26 hE
          refine pm_iconst (v := 0) hG dX12_readsOne_183 (by decide) ?_
          exact pm_iret hG hF dX12_readsOne_184 rfl (Nat.le_refl _) (Nat.le_refl _) (fx_rim hE)
        · replace c26 := Int32.not_le.mp c26
          replace hE := fx_t c26 hE
          refine pm_aloadn hG dX12_readsOne_165 rfl ?_
          refine pm_aloadn hG dX12_readsOne_166 rfl ?_
          refine pm_getf hG dX12_readsOne_167 (flX12_157 _ rfl) rfl rfl ?_
          obtain ⟨x28, h27, hE⟩ := fb_some hE
          refine pm_callV (As := [.int (r25.2.1 12)]) (rest := []) hG hR dX12_readsOne_170 (lkX12_160 _ rfl) okV_X12_byteAt rfl rfl (c_X12_byteAt (d := 1) (by decide) h27) rfl rfl hdd (Nat.le_refl _) (Nat.le_refl _) (by decide) (fx_ki ?_)
          refine pm_callS (As := [.int x28]) (rest := []) hG hR dX12_readsOne_173 (lkX12_170 _ rfl) okS_X12_isDigit (c_X12_isDigit (d := 1) (by decide) rfl) rfl rfl hdd (Nat.le_refl _) (Nat.le_refl _) (by decide) (fx_ki ?_)
          refine pm_if_ne (tgt := 183) hG dX12_readsOne_176 rfl (fun c29 => ?_) (fun c29 => ?_)
          · replace hE := fx_f c29 hE
            refine pm_iconst (v := 0) hG dX12_readsOne_183 (by decide) ?_
            exact pm_iret hG hF dX12_readsOne_184 rfl (Nat.le_refl _) (Nat.le_refl _) (fx_rim hE)
          · replace hE := fx_t c29 hE
            refine pm_iconst (v := 1) hG dX12_readsOne_179 (by decide) ?_
            refine pm_goto (tgt := 184) hG dX12_readsOne_180 rfl ?_
            exact pm_iret hG hF dX12_readsOne_184 rfl (Nat.le_refl _) (Nat.le_refl _) (fx_rim hE)
      · replace c12 := Int32.not_le.mp c12
        replace hE := fx_t c12 hE
        refine pm_aloadn hG dX12_readsOne_70 rfl ?_
        refine pm_iloadn hG dX12_readsOne_71 rfl ?_
        refine pm_callS (As := [.int x2]) (rest := [.ref (B + 54)]) hG hR dX12_readsOne_72 (lkX12_167 _ rfl) okS_X12_nameOf (c_X12_nameOf (d := 1) (by decide) rfl) rfl rfl hdd (Nat.le_refl _) (Nat.le_refl _) (by first | decide | exact Nat.le_of_ble_eq_true rfl) (fx_ki ?_)
        refine pm_ineg hG dX12_readsOne_75 ?_
        obtain ⟨r31, h30, hE⟩ := fb_some hE
        refine pm_callV (As := [.int (-(p_X12_nameOf S x2))]) (rest := []) hG hR dX12_readsOne_76 (lkX12_154 _ rfl) okV_X12_lays rfl rfl (c_X12_lays (d := 1) (by decide) h30) rfl rfl hdd (Nat.le_refl _) (Nat.le_refl _) (by decide) (fx_kv ?_)
        refine pm_aloadn hG dX12_readsOne_79 rfl ?_
        refine pm_dup hG dX12_readsOne_80 rfl ?_
        refine pm_getf hG dX12_readsOne_81 (flX12_157 _ rfl) rfl rfl ?_
        refine pm_iconst (v := 1) hG dX12_readsOne_84 (by decide) ?_
        refine pm_iadd hG dX12_readsOne_85 ?_
        refine pm_putf hG dX12_readsOne_86 (fwX12_157 _ rfl) rfl rfl rfl ?_
        refine mi_12 ?_
        refine fx_letm hE (fun S32 hE => ?_)
        refine pm_iconst (v := 1) hG dX12_readsOne_89 (by decide) ?_
        exact pm_iret hG hF dX12_readsOne_90 rfl (Nat.le_refl _) (Nat.le_refl _) (fx_rim hE)
    · replace hE := fx_t c11 hE
      refine pm_aloadn hG dX12_readsOne_21 rfl ?_
      obtain ⟨x34, h33, hE⟩ := fb_some hE
      refine pm_callV (As := []) (rest := []) hG hR dX12_readsOne_22 (lkX12_163 _ rfl) okV_X12_openMany rfl rfl (c_X12_openMany (d := 1) (by decide) h33) rfl rfl hdd (Nat.le_refl _) (Nat.le_refl _) (by decide) (fx_ki ?_)
      refine pm_iconst (v := 5) hG dX12_readsOne_25 (by decide) ?_
      refine pm_icmp_ne (tgt := 31) hG dX12_readsOne_26 rfl (fun c35 => ?_) (fun c35 => ?_)
      · replace hE := fx_f c35 hE
        refine pm_aloadn hG dX12_readsOne_31 rfl ?_
        refine pm_getf hG dX12_readsOne_32 (flX12_28 _ rfl) rfl rfl ?_
        refine pm_aloadn hG dX12_readsOne_35 rfl ?_
        refine pm_getf hG dX12_readsOne_36 (flX12_148 _ rfl) rfl rfl ?_
        refine pm_iloadn hG dX12_readsOne_39 rfl ?_
        obtain ⟨j36, hj36, hE⟩ := fb_some hE
        refine fx_iast hG dX12_readsOne_40 rfl hj36 ?_
        refine ma_61 ?_
        refine fx_letm hE (fun S37 hE => ?_)
        refine pm_aloadn hG dX12_readsOne_41 rfl ?_
        refine pm_dup hG dX12_readsOne_42 rfl ?_
        refine pm_getf hG dX12_readsOne_43 (flX12_148 _ rfl) rfl rfl ?_
        refine pm_iconst (v := 1) hG dX12_readsOne_46 (by decide) ?_
        refine pm_iadd hG dX12_readsOne_47 ?_
        refine pm_putf hG dX12_readsOne_48 (fwX12_148 _ rfl) rfl rfl rfl ?_
        refine mi_11 ?_
        refine fx_letm hE (fun S38 hE => ?_)
        refine pm_aloadn hG dX12_readsOne_51 rfl ?_
        refine pm_dup hG dX12_readsOne_52 rfl ?_
        refine pm_getf hG dX12_readsOne_53 (flX12_157 _ rfl) rfl rfl ?_
        refine pm_iconst (v := 1) hG dX12_readsOne_56 (by decide) ?_
        refine pm_iadd hG dX12_readsOne_57 ?_
        refine pm_putf hG dX12_readsOne_58 (fwX12_157 _ rfl) rfl rfl rfl ?_
        refine mi_12 ?_
        refine fx_letm hE (fun S39 hE => ?_)
        refine pm_iconst (v := 2) hG dX12_readsOne_61 (by decide) ?_
        exact pm_iret hG hF dX12_readsOne_62 rfl (Nat.le_refl _) (Nat.le_refl _) (fx_rim hE)
      · replace hE := fx_t c35 hE
        refine pm_iconst (v := 0) hG dX12_readsOne_29 (by decide) ?_
        exact pm_iret hG hF dX12_readsOne_30 rfl (Nat.le_refl _) (Nat.le_refl _) (fx_rim hE)
