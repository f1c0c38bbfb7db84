set_option maxRecDepth 100000 in
set_option maxHeartbeats 4000000 in
theorem c_X5_before {d : Nat} {B cnt : Nat} {kp : Value} {ρ : pm_S} {S : FS} {za : Int32} {zb : Int32} {R : Int32} (hdd : 1 ≤ d) (hE : p_X5_before S za zb = R) : pm_met mX5_before d 0 0 B [.int za, .int zb] cnt (cst B kp S ρ) (pm_Qi (fun v σ' cnt' => v = R ∧ σ' = (cst B kp S ρ) ∧ cnt' = cnt)) := by
  refine pm_enter 1 (by decide) (Nat.le_of_ble_eq_true rfl) rfl (fun G hG hR hF => ?_)
  unfold p_X5_before at hE
  refine pm_iloadn hG dX5_before_0 rfl ?_
  refine pm_if_ne (tgt := 8) hG dX5_before_1 rfl (fun c1 => ?_) (fun c1 => ?_)
  · replace hE := fx_f c1 hE
    refine pm_iloadn hG dX5_before_8 rfl ?_
    refine pm_iconst (v := 1) hG dX5_before_9 (by decide) ?_
    refine pm_iloadn hG dX5_before_10 rfl ?_
    refine pm_iconst (v := 1) hG dX5_before_11 (by decide) ?_
    refine pm_isub hG dX5_before_12 ?_
    refine pm_ishl hG dX5_before_13 ?_
    refine pm_iconst (v := (-1)) hG dX5_before_14 (by decide) ?_
    refine pm_ixor hG dX5_before_15 ?_
    refine pm_iand hG dX5_before_16 ?_
    refine fx_letv hE (fun x2 hE => ?_)
    refine pm_istoreXn (loc' := [some (.int za), some (.int zb), some (.int x2)]) hG dX5_before_17 (by decide) (pm_c1b rfl) rfl ?_
    refine pm_iloadn hG dX5_before_18 rfl ?_
    refine pm_bipush (v := 63) hG dX5_before_19 (by decide) ?_
    refine pm_iand hG dX5_before_21 ?_
    exact pm_iret hG hF dX5_before_22 rfl  (Nat.le_refl _) (Nat.le_refl _) (fx_pi hE)
  · replace hE := fx_t c1 hE
    refine pm_iloadn hG dX5_before_4 rfl ?_
    refine pm_goto (tgt := 17) hG dX5_before_5 rfl ?_
    refine pm_istoreXn (loc' := [some (.int za), some (.int zb), some (.int za)]) hG dX5_before_17 (by decide) (pm_c1b rfl) rfl ?_
    refine pm_iloadn hG dX5_before_18 rfl ?_
    refine pm_bipush (v := 63) hG dX5_before_19 (by decide) ?_
    refine pm_iand hG dX5_before_21 ?_
    exact pm_iret hG hF dX5_before_22 rfl  (Nat.le_refl _) (Nat.le_refl _) (fx_pi hE)

set_option maxRecDepth 100000 in
set_option maxHeartbeats 4000000 in
theorem c_X5_leftBy {d : Nat} {B cnt : Nat} {kp : Value} {ρ : pm_S} {S : FS} {za : Int32} {zb : Int32} {zc : Int32} {R : Int32} (hdd : 2 ≤ d) (hE : q_X5_leftBy S za zb zc = some R) : pm_met mX5_leftBy d 0 0 B [.ref (B + 42), .int za, .int zb, .int zc] cnt (cst B kp S ρ) (pm_Qi (fun v σ' cnt' => v = R ∧ σ' = (cst B kp S ρ) ∧ cnt' = cnt)) := by
  refine pm_enter 3 (by decide) (Nat.le_of_ble_eq_true rfl) rfl (fun G hG hR hF => ?_)
  unfold q_X5_leftBy at hE
  refine pm_iloadn hG dX5_leftBy_0 rfl ?_
  refine pm_iloadn hG dX5_leftBy_1 rfl ?_
  refine pm_callS (As := [.int za, .int zb]) (rest := []) hG hR dX5_leftBy_2 (lkX5_62 _ rfl) okS_X5_before (c_X5_before (d := 1) (by decide) rfl) rfl rfl hdd (Nat.le_refl _) (Nat.le_refl _) (by decide) (fx_ki ?_)
  refine fx_letv hE (fun x1 hE => ?_)
  refine pm_istoreXi (loc' := [some (.ref (B + 42)), some (.int za), some (.int zb), some (.int zc), some (.int x1), none, none]) hG dX5_leftBy_5 (by decide) (pm_c1b rfl) rfl ?_
  refine pm_iloadn hG dX5_leftBy_7 rfl ?_
  refine pm_if_eq (tgt := 30) hG dX5_leftBy_8 rfl (fun c2 => ?_) (fun c2 => ?_)
  · replace hE := fx_t c2 hE
    refine pm_iconst (v := 1) hG dX5_leftBy_30 (by decide) ?_
    refine pm_goto (tgt := 35) hG dX5_leftBy_31 rfl ?_
    refine pm_istoreXi (loc' := [some (.ref (B + 42)), some (.int za), some (.int zb), some (.int zc), some (.int x1), some (.int 1), none]) hG dX5_leftBy_35 (by decide) (pm_c1b rfl) rfl ?_
    refine pm_iloadi hG dX5_leftBy_37 rfl ?_
    refine pm_if_eq (tgt := 52) hG dX5_leftBy_39 rfl (fun q => absurd q (by decide)) (fun _ => ?_)
    refine pm_aloadn hG dX5_leftBy_42 rfl ?_
    refine pm_getf hG dX5_leftBy_43 (flX5_11 _ rfl) rfl rfl ?_
    refine pm_iloadi hG dX5_leftBy_46 rfl ?_
    obtain ⟨j3, hj3, hE⟩ := fb_some hE
    refine fx_iald hG dX5_leftBy_48 rfl hj3 ?_
    refine pm_if_ge (tgt := 54) hG dX5_leftBy_49 rfl (fun c4 => ?_) (fun c4 => ?_)
    · replace c4 := Int32.not_lt.mpr c4
      replace hE := fx_f c4 hE
      refine pm_iloadn hG dX5_leftBy_54 rfl ?_
      refine pm_if_ne (tgt := 62) hG dX5_leftBy_55 rfl (fun q => absurd c2 q) (fun _ => ?_)
      refine pm_iconst (v := 0) hG dX5_leftBy_58 (by decide) ?_
      refine pm_goto (tgt := 78) hG dX5_leftBy_59 rfl ?_
      refine pm_istoreXi (loc' := [some (.ref (B + 42)), some (.int za), some (.int zb), some (.int zc), some (.int x1), some (.int 1), some (.int 0)]) hG dX5_leftBy_78 (by decide) (pm_c1b rfl) rfl ?_
      refine pm_iconst (v := (-1)) hG dX5_leftBy_80 (by decide) ?_
      refine pm_aloadn hG dX5_leftBy_81 rfl ?_
      refine pm_getf hG dX5_leftBy_82 (flX5_11 _ rfl) rfl rfl ?_
      refine pm_iloadi hG dX5_leftBy_85 rfl ?_
      refine fx_iald hG dX5_leftBy_87 rfl hj3 ?_
      refine pm_aloadn hG dX5_leftBy_88 rfl ?_
      refine pm_getf hG dX5_leftBy_89 (flX5_18 _ rfl) rfl rfl ?_
      refine pm_iloadi hG dX5_leftBy_92 rfl ?_
      refine fx_iald hG dX5_leftBy_94 rfl hj3 ?_
      refine pm_iadd hG dX5_leftBy_95 ?_
      refine pm_iloadi hG dX5_leftBy_96 rfl ?_
      refine pm_iadd hG dX5_leftBy_98 ?_
      refine pm_iloadn hG dX5_leftBy_99 rfl ?_
      refine pm_isub hG dX5_leftBy_100 ?_
      refine pm_mmax hG hR dX5_leftBy_101 (mmX5_65 _ rfl) pm_mwmax (by omega) (by first | decide | exact Nat.le_of_ble_eq_true rfl) (Nat.le_refl _) (Nat.le_refl _) ?_
      refine pm_top (v := imax (-1) ((((S.2 43 j3) + (S.2 45 j3)) + 0) - zc)) rfl ?_
      exact pm_iret hG hF dX5_leftBy_104 rfl (Nat.le_refl _) (Nat.le_refl _) (fx_pi (Option.some.inj hE))
    · replace c4 := Int32.not_le.mp c4
      replace hE := fx_t c4 hE
      refine pm_iconst (v := (-1)) hG dX5_leftBy_52 (by decide) ?_
      exact pm_iret hG hF dX5_leftBy_53 rfl (Nat.le_refl _) (Nat.le_refl _) (fx_pi (Option.some.inj hE))
  · replace hE := fx_f c2 hE
    refine pm_iloadi hG dX5_leftBy_11 rfl ?_
    refine pm_iloadn hG dX5_leftBy_13 rfl ?_
    refine pm_icmp_eq (tgt := 34) hG dX5_leftBy_14 rfl (fun c5 => ?_) (fun c5 => ?_)
    · replace hE := fx_t c5 hE
      refine pm_iconst (v := 0) hG dX5_leftBy_34 (by decide) ?_
      refine pm_istoreXi (loc' := [some (.ref (B + 42)), some (.int za), some (.int zb), some (.int zc), some (.int x1), some (.int 0), none]) hG dX5_leftBy_35 (by decide) (pm_c1b rfl) rfl ?_
      refine pm_iloadi hG dX5_leftBy_37 rfl ?_
      refine pm_if_eq (tgt := 52) hG dX5_leftBy_39 rfl (fun _ => ?_) (fun q => absurd q (by decide))
      refine pm_iconst (v := (-1)) hG dX5_leftBy_52 (by decide) ?_
      exact pm_iret hG hF dX5_leftBy_53 rfl (Nat.le_refl _) (Nat.le_refl _) (fx_pi (Option.some.inj hE))
    · replace hE := fx_f c5 hE
      refine pm_aloadn hG dX5_leftBy_17 rfl ?_
      refine pm_getf hG dX5_leftBy_18 (flX5_37 _ rfl) rfl rfl ?_
      refine pm_iloadn hG dX5_leftBy_21 rfl ?_
      refine pm_iconst (v := 1) hG dX5_leftBy_22 (by decide) ?_
      refine pm_isub hG dX5_leftBy_23 ?_
      refine pm_ishr hG dX5_leftBy_24 ?_
      refine pm_iconst (v := 1) hG dX5_leftBy_25 (by decide) ?_
      refine pm_iand hG dX5_leftBy_26 ?_
      refine pm_if_eq (tgt := 34) hG dX5_leftBy_27 rfl (fun c6 => ?_) (fun c6 => ?_)
      · replace hE := fx_t c6 hE
        refine pm_iconst (v := 0) hG dX5_leftBy_34 (by decide) ?_
        refine pm_istoreXi (loc' := [some (.ref (B + 42)), some (.int za), some (.int zb), some (.int zc), some (.int x1), some (.int 0), none]) hG dX5_leftBy_35 (by decide) (pm_c1b rfl) rfl ?_
        refine pm_iloadi hG dX5_leftBy_37 rfl ?_
        refine pm_if_eq (tgt := 52) hG dX5_leftBy_39 rfl (fun _ => ?_) (fun q => absurd q (by decide))
        refine pm_iconst (v := (-1)) hG dX5_leftBy_52 (by decide) ?_
        exact pm_iret hG hF dX5_leftBy_53 rfl (Nat.le_refl _) (Nat.le_refl _) (fx_pi (Option.some.inj hE))
      · replace hE := fx_f c6 hE
        refine pm_iconst (v := 1) hG dX5_leftBy_30 (by decide) ?_
        refine pm_goto (tgt := 35) hG dX5_leftBy_31 rfl ?_
        refine pm_istoreXi (loc' := [some (.ref (B + 42)), some (.int za), some (.int zb), some (.int zc), some (.int x1), some (.int 1), none]) hG dX5_leftBy_35 (by decide) (pm_c1b rfl) rfl ?_
        refine pm_iloadi hG dX5_leftBy_37 rfl ?_
        refine pm_if_eq (tgt := 52) hG dX5_leftBy_39 rfl (fun q => absurd q (by decide)) (fun _ => ?_)
        refine pm_aloadn hG dX5_leftBy_42 rfl ?_
        refine pm_getf hG dX5_leftBy_43 (flX5_11 _ rfl) rfl rfl ?_
        refine pm_iloadi hG dX5_leftBy_46 rfl ?_
        obtain ⟨j7, hj7, hE⟩ := fb_some hE
        refine fx_iald hG dX5_leftBy_48 rfl hj7 ?_
        refine pm_if_ge (tgt := 54) hG dX5_leftBy_49 rfl (fun c8 => ?_) (fun c8 => ?_)
        · replace c8 := Int32.not_lt.mpr c8
          replace hE := fx_f c8 hE
          refine pm_iloadn hG dX5_leftBy_54 rfl ?_
          refine pm_if_ne (tgt := 62) hG dX5_leftBy_55 rfl (fun _ => ?_) (fun q => absurd q c2)
          refine pm_iconst (v := 4) hG dX5_leftBy_62 (by decide) ?_
          refine pm_aloadn hG dX5_leftBy_63 rfl ?_
          refine pm_getf hG dX5_leftBy_64 (flX5_21 _ rfl) rfl rfl ?_
          refine pm_getf hG dX5_leftBy_67 (flX5_40 _ rfl) rfl rfl ?_
          refine pm_iloadn hG dX5_leftBy_70 rfl ?_
          refine pm_iconst (v := 1) hG dX5_leftBy_71 (by decide) ?_
          refine pm_isub hG dX5_leftBy_72 ?_
          refine pm_iconst (v := 0) hG dX5_leftBy_73 (by decide) ?_
          refine pm_callV (As := [.int (zb - 1), .int 0]) (rest := [.int 4]) hG hR dX5_leftBy_74 (lkX5_50 _ rfl) okV_X9_get rfl rfl (tget_2 (d := 1)) rfl rfl hdd (Nat.le_refl _) (Nat.le_refl _) (by first | decide | exact Nat.le_of_ble_eq_true rfl) (fx_ki ?_)
          refine pm_imul hG dX5_leftBy_77 ?_
          refine fx_letv hE (fun x9 hE => ?_)
          refine pm_istoreXi (loc' := [some (.ref (B + 42)), some (.int za), some (.int zb), some (.int zc), some (.int x1), some (.int 1), some (.int x9)]) hG dX5_leftBy_78 (by decide) (pm_c1b rfl) rfl ?_
          refine pm_iconst (v := (-1)) hG dX5_leftBy_80 (by decide) ?_
          refine pm_aloadn hG dX5_leftBy_81 rfl ?_
          refine pm_getf hG dX5_leftBy_82 (flX5_11 _ rfl) rfl rfl ?_
          refine pm_iloadi hG dX5_leftBy_85 rfl ?_
          refine fx_iald hG dX5_leftBy_87 rfl hj7 ?_
          refine pm_aloadn hG dX5_leftBy_88 rfl ?_
          refine pm_getf hG dX5_leftBy_89 (flX5_18 _ rfl) rfl rfl ?_
          refine pm_iloadi hG dX5_leftBy_92 rfl ?_
          refine fx_iald hG dX5_leftBy_94 rfl hj7 ?_
          refine pm_iadd hG dX5_leftBy_95 ?_
          refine pm_iloadi hG dX5_leftBy_96 rfl ?_
          refine pm_iadd hG dX5_leftBy_98 ?_
          refine pm_iloadn hG dX5_leftBy_99 rfl ?_
          refine pm_isub hG dX5_leftBy_100 ?_
          refine pm_mmax hG hR dX5_leftBy_101 (mmX5_65 _ rfl) pm_mwmax (by omega) (by first | decide | exact Nat.le_of_ble_eq_true rfl) (Nat.le_refl _) (Nat.le_refl _) ?_
          refine pm_top (v := imax (-1) ((((S.2 43 j7) + (S.2 45 j7)) + x9) - zc)) rfl ?_
          exact pm_iret hG hF dX5_leftBy_104 rfl (Nat.le_refl _) (Nat.le_refl _) (fx_pi (Option.some.inj hE))
        · replace c8 := Int32.not_le.mp c8
          replace hE := fx_t c8 hE
          refine pm_iconst (v := (-1)) hG dX5_leftBy_52 (by decide) ?_
          exact pm_iret hG hF dX5_leftBy_53 rfl (Nat.le_refl _) (Nat.le_refl _) (fx_pi (Option.some.inj hE))

set_option maxRecDepth 100000 in
set_option maxHeartbeats 4000000 in
theorem c_X5_passQuarter {d : Nat} {B cnt : Nat} {kp : Value} {ρ : pm_S} {S : FS} {za : Int32} {R : Int32 × FS} (hdd : 3 ≤ d) (hE : f_X5_passQuarter S za = some R) : pm_met mX5_passQuarter d 0 0 B [.ref (B + 42), .int za] cnt (cst B kp S ρ) (pm_Qv (fun σ' cnt' => σ' = (cst B kp R.2 ρ) ∧ cnt' = cnt)) := by
  refine pm_enter 6 (by decide) (Nat.le_of_ble_eq_true rfl) rfl (fun G hG hR hF => ?_)
  unfold f_X5_passQuarter at hE
  refine pm_bipush (v := 63) hG dX5_passQuarter_0 (by decide) ?_
  refine pm_istoreXn (loc' := [some (.ref (B + 42)), some (.int za), some (.int 63), none, none, none, none, none]) hG dX5_passQuarter_2 (by decide) (pm_c1b rfl) rfl ?_
  have loop3 : ∀ (k3 : FS → Int32 → Option (Int32 × FS)), (∀ (S1 : FS) (x1_2 : Int32), k3 S1  x1_2 = some R → pm_wp mX5_passQuarter G B 118 [some (.ref (B + 42)), some (.int za), some (.int x1_2), none, none, none, none, none] [] 0 0 cnt (cst B kp S1 ρ)) → ∀ (m3 : Nat) (S1 : FS) (x1_2 : Int32), l_X5_passQuarter_3 za k3 m3 S1  x1_2 = some R → pm_wp mX5_passQuarter G B 3 [some (.ref (B + 42)), some (.int za), some (.int x1_2), none, none, none, none, none] [] 0 0 cnt (cst B kp S1 ρ) := by
    intro k3 hk3 m3
    induction m3 with
    | zero => intro S1  x1_2 hE; exact fx_no hE
    | succ m3 ih3 =>
      intro S1  x1_2 hE
      rw [l_X5_passQuarter_3] at hE
      refine pm_iloadn hG dX5_passQuarter_3 rfl ?_
      refine pm_if_lt (tgt := 118) hG dX5_passQuarter_4 rfl (fun c2 => ?_) (fun c2 => ?_)
      · replace hE := fx_t c2 hE
        exact hk3 _ _ hE
      · replace hE := fx_f c2 hE
        refine pm_iconst (v := (-1)) hG dX5_passQuarter_7 (by decide) ?_
        refine pm_istoreXn (loc' := [some (.ref (B + 42)), some (.int za), some (.int x1_2), some (.int (-1)), none, none, none, none]) hG dX5_passQuarter_8 (by decide) (pm_c1b rfl) rfl ?_
        refine pm_iconst (v := 0) hG dX5_passQuarter_9 (by decide) ?_
        refine pm_istoreXi (loc' := [some (.ref (B + 42)), some (.int za), some (.int x1_2), some (.int (-1)), some (.int 0), none, none, none]) hG dX5_passQuarter_10 (by decide) (pm_c1b rfl) rfl ?_
        refine pm_iconst (v := 0) hG dX5_passQuarter_12 (by decide) ?_
        refine pm_istoreXi (loc' := [some (.ref (B + 42)), some (.int za), some (.int x1_2), some (.int (-1)), some (.int 0), some (.int 0), none, none]) hG dX5_passQuarter_13 (by decide) (pm_c1b rfl) rfl ?_
        have loop15 : ∀ (k15 : FS → Int32 → Int32 → Int32 → Option (Int32 × FS)), (∀ (S3 : FS) (x3_3 : Int32) (x3_4 : Int32) (x3_5 : Int32), k15 S3  x3_3 x3_4 x3_5 = some R → pm_wp mX5_passQuarter G B 97 [some (.ref (B + 42)), some (.int za), some (.int x1_2), some (.int x3_3), some (.int x3_4), some (.int x3_5), none, none] [] 0 0 cnt (cst B kp S3 ρ)) → ∀ (m15 : Nat) (S3 : FS) (x3_3 : Int32) (x3_4 : Int32) (x3_5 : Int32), l_X5_passQuarter_15 za x1_2 k15 m15 S3  x3_3 x3_4 x3_5 = some R → pm_wp mX5_passQuarter G B 15 [some (.ref (B + 42)), some (.int za), some (.int x1_2), some (.int x3_3), some (.int x3_4), some (.int x3_5), none, none] [] 0 0 cnt (cst B kp S3 ρ) := by
          intro k15 hk15 m15
          induction m15 with
          | zero => intro S3  x3_3 x3_4 x3_5 hE; exact fx_no hE
          | succ m15 ih15 =>
            intro S3  x3_3 x3_4 x3_5 hE
            rw [l_X5_passQuarter_15] at hE
            refine pm_iloadi hG dX5_passQuarter_15 rfl ?_
            refine pm_bipush (v := 7) hG dX5_passQuarter_17 (by decide) ?_
            refine pm_icmp_ge (tgt := 97) hG dX5_passQuarter_19 rfl (fun c4 => ?_) (fun c4 => ?_)
            · replace c4 := Int32.not_lt.mpr c4
              replace hE := fx_f c4 hE
              exact hk15 _ _ _ _ hE
            · replace c4 := Int32.not_le.mp c4
              replace hE := fx_t c4 hE
              refine pm_aloadn hG dX5_passQuarter_22 rfl ?_
              refine pm_iloadn hG dX5_passQuarter_23 rfl ?_
              refine pm_iloadi hG dX5_passQuarter_24 rfl ?_
              refine pm_iloadn hG dX5_passQuarter_26 rfl ?_
              obtain ⟨x6, h5, hE⟩ := fb_some hE
              refine pm_callV (As := [.int x1_2, .int x3_5, .int za]) (rest := []) hG hR dX5_passQuarter_27 (lkX5_58 _ rfl) okV_X5_leftBy rfl rfl (c_X5_leftBy (d := 2) (by decide) h5) rfl rfl hdd (Nat.le_refl _) (Nat.le_refl _) (by decide) (fx_ki ?_)
              refine pm_istoreXi (loc' := [some (.ref (B + 42)), some (.int za), some (.int x1_2), some (.int x3_3), some (.int x3_4), some (.int x3_5), some (.int x6), none]) hG dX5_passQuarter_30 (by decide) (pm_c1b rfl) rfl ?_
              refine pm_iloadi hG dX5_passQuarter_32 rfl ?_
              refine pm_if_ge (tgt := 41) hG dX5_passQuarter_34 rfl (fun c7 => ?_) (fun c7 => ?_)
              · replace c7 := Int32.not_lt.mpr c7
                replace hE := fx_f c7 hE
                refine pm_aloadn hG dX5_passQuarter_41 rfl ?_
                refine pm_getf hG dX5_passQuarter_42 (flX5_15 _ rfl) rfl rfl ?_
                refine pm_iloadn hG dX5_passQuarter_45 rfl ?_
                refine pm_iloadi hG dX5_passQuarter_46 rfl ?_
                refine pm_callS (As := [.int x1_2, .int x3_5]) (rest := [.ref (B + 44)]) hG hR dX5_passQuarter_48 (lkX5_62 _ rfl) okS_X5_before (c_X5_before (d := 2) (by decide) rfl) rfl rfl hdd (Nat.le_refl _) (Nat.le_refl _) (by first | decide | exact Nat.le_of_ble_eq_true rfl) (fx_ki ?_)
                obtain ⟨j8, hj8, hE⟩ := fb_some hE
                refine fx_iald hG dX5_passQuarter_51 rfl hj8 ?_
                refine pm_bipush (v := 7) hG dX5_passQuarter_52 (by decide) ?_
                refine pm_imul hG dX5_passQuarter_54 ?_
                refine pm_iloadi hG dX5_passQuarter_55 rfl ?_
                refine pm_iadd hG dX5_passQuarter_57 ?_
                refine fx_letv hE (fun x9 hE => ?_)
                refine pm_istoreXi (loc' := [some (.ref (B + 42)), some (.int za), some (.int x1_2), some (.int x3_3), some (.int x3_4), some (.int x3_5), some (.int x6), some (.int x9)]) hG dX5_passQuarter_58 (by decide) (pm_c1b rfl) rfl ?_
                refine pm_iloadi hG dX5_passQuarter_60 rfl ?_
                refine pm_iloadn hG dX5_passQuarter_62 rfl ?_
                refine pm_icmp_gt (tgt := 84) hG dX5_passQuarter_63 rfl (fun c10 => ?_) (fun c10 => ?_)
                · replace hE := fx_t c10 hE
                  refine pm_iloadi hG dX5_passQuarter_84 rfl ?_
                  refine pm_istoreXn (loc' := [some (.ref (B + 42)), some (.int za), some (.int x1_2), some (.int x6), some (.int x3_4), some (.int x3_5), some (.int x6), some (.int x9)]) hG dX5_passQuarter_86 (by decide) (pm_c1b rfl) rfl ?_
                  refine pm_iloadi hG dX5_passQuarter_87 rfl ?_
                  refine pm_istoreXi (loc' := [some (.ref (B + 42)), some (.int za), some (.int x1_2), some (.int x6), some (.int x9), some (.int x3_5), some (.int x6), some (.int x9)]) hG dX5_passQuarter_89 (by decide) (pm_c1b rfl) rfl ?_
                  refine pm_iincX (v := x3_5 + 1) (loc' := [some (.ref (B + 42)), some (.int za), some (.int x1_2), some (.int x6), some (.int x9), some (.int (x3_5 + 1)), some (.int x6), some (.int x9)]) hG dX5_passQuarter_91 rfl (by rfl) (by decide) (pm_c1b rfl) rfl ?_
                  refine pm_goto (tgt := 15) hG dX5_passQuarter_94 rfl ?_
                  refine pm_fg 6 (loc' := [some (.ref (B + 42)), some (.int za), some (.int x1_2), some (.int x6), some (.int x9), some (.int (x3_5 + 1)), none, some (.int x9)]) rfl ?_
                  refine pm_fg 7 (loc' := [some (.ref (B + 42)), some (.int za), some (.int x1_2), some (.int x6), some (.int x9), some (.int (x3_5 + 1)), none, none]) rfl ?_
                  exact ih15 _ _ _ _ hE
                · replace hE := fx_f c10 hE
                  refine pm_iloadi hG dX5_passQuarter_66 rfl ?_
                  refine pm_if_lt (tgt := 91) hG dX5_passQuarter_68 rfl (fun q => absurd q c7) (fun _ => ?_)
                  refine pm_iloadi hG dX5_passQuarter_71 rfl ?_
                  refine pm_iloadn hG dX5_passQuarter_73 rfl ?_
                  refine pm_icmp_ne (tgt := 91) hG dX5_passQuarter_74 rfl (fun c11 => ?_) (fun c11 => ?_)
                  · replace hE := fx_f c11 hE
                    refine pm_iincX (v := x3_5 + 1) (loc' := [some (.ref (B + 42)), some (.int za), some (.int x1_2), some (.int x3_3), some (.int x3_4), some (.int (x3_5 + 1)), some (.int x6), some (.int x9)]) hG dX5_passQuarter_91 rfl (by rfl) (by decide) (pm_c1b rfl) rfl ?_
                    refine pm_goto (tgt := 15) hG dX5_passQuarter_94 rfl ?_
                    refine pm_fg 6 (loc' := [some (.ref (B + 42)), some (.int za), some (.int x1_2), some (.int x3_3), some (.int x3_4), some (.int (x3_5 + 1)), none, some (.int x9)]) rfl ?_
                    refine pm_fg 7 (loc' := [some (.ref (B + 42)), some (.int za), some (.int x1_2), some (.int x3_3), some (.int x3_4), some (.int (x3_5 + 1)), none, none]) rfl ?_
                    exact ih15 _ _ _ _ hE
                  · replace hE := fx_t c11 hE
                    refine pm_iloadi hG dX5_passQuarter_77 rfl ?_
                    refine pm_iloadi hG dX5_passQuarter_79 rfl ?_
                    refine pm_icmp_ge (tgt := 91) hG dX5_passQuarter_81 rfl (fun c12 => ?_) (fun c12 => ?_)
                    · replace c12 := Int32.not_lt.mpr c12
                      replace hE := fx_f c12 hE
                      refine pm_iincX (v := x3_5 + 1) (loc' := [some (.ref (B + 42)), some (.int za), some (.int x1_2), some (.int x3_3), some (.int x3_4), some (.int (x3_5 + 1)), some (.int x6), some (.int x9)]) hG dX5_passQuarter_91 rfl (by rfl) (by decide) (pm_c1b rfl) rfl ?_
                      refine pm_goto (tgt := 15) hG dX5_passQuarter_94 rfl ?_
                      refine pm_fg 6 (loc' := [some (.ref (B + 42)), some (.int za), some (.int x1_2), some (.int x3_3), some (.int x3_4), some (.int (x3_5 + 1)), none, some (.int x9)]) rfl ?_
                      refine pm_fg 7 (loc' := [some (.ref (B + 42)), some (.int za), some (.int x1_2), some (.int x3_3), some (.int x3_4), some (.int (x3_5 + 1)), none, none]) rfl ?_
                      exact ih15 _ _ _ _ hE
                    · replace c12 := Int32.not_le.mp c12
                      replace hE := fx_t c12 hE
                      refine pm_iloadi hG dX5_passQuarter_84 rfl ?_
                      refine pm_istoreXn (loc' := [some (.ref (B + 42)), some (.int za), some (.int x1_2), some (.int x6), some (.int x3_4), some (.int x3_5), some (.int x6), some (.int x9)]) hG dX5_passQuarter_86 (by decide) (pm_c1b rfl) rfl ?_
                      refine pm_iloadi hG dX5_passQuarter_87 rfl ?_
                      refine pm_istoreXi (loc' := [some (.ref (B + 42)), some (.int za), some (.int x1_2), some (.int x6), some (.int x9), some (.int x3_5), some (.int x6), some (.int x9)]) hG dX5_passQuarter_89 (by decide) (pm_c1b rfl) rfl ?_
                      refine pm_iincX (v := x3_5 + 1) (loc' := [some (.ref (B + 42)), some (.int za), some (.int x1_2), some (.int x6), some (.int x9), some (.int (x3_5 + 1)), some (.int x6), some (.int x9)]) hG dX5_passQuarter_91 rfl (by rfl) (by decide) (pm_c1b rfl) rfl ?_
                      refine pm_goto (tgt := 15) hG dX5_passQuarter_94 rfl ?_
                      refine pm_fg 6 (loc' := [some (.ref (B + 42)), some (.int za), some (.int x1_2), some (.int x6), some (.int x9), some (.int (x3_5 + 1)), none, some (.int x9)]) rfl ?_
                      refine pm_fg 7 (loc' := [some (.ref (B + 42)), some (.int za), some (.int x1_2), some (.int x6), some (.int x9), some (.int (x3_5 + 1)), none, none]) rfl ?_
                      exact ih15 _ _ _ _ hE
              · replace c7 := Int32.not_le.mp c7
                replace hE := fx_t c7 hE
                refine pm_iconst (v := 0) hG dX5_passQuarter_37 (by decide) ?_
                refine pm_goto (tgt := 58) hG dX5_passQuarter_38 rfl ?_
                refine pm_istoreXi (loc' := [some (.ref (B + 42)), some (.int za), some (.int x1_2), some (.int x3_3), some (.int x3_4), some (.int x3_5), some (.int x6), some (.int 0)]) hG dX5_passQuarter_58 (by decide) (pm_c1b rfl) rfl ?_
                refine pm_iloadi hG dX5_passQuarter_60 rfl ?_
                refine pm_iloadn hG dX5_passQuarter_62 rfl ?_
                refine pm_icmp_gt (tgt := 84) hG dX5_passQuarter_63 rfl (fun c13 => ?_) (fun c13 => ?_)
                · replace hE := fx_t c13 hE
                  refine pm_iloadi hG dX5_passQuarter_84 rfl ?_
                  refine pm_istoreXn (loc' := [some (.ref (B + 42)), some (.int za), some (.int x1_2), some (.int x6), some (.int x3_4), some (.int x3_5), some (.int x6), some (.int 0)]) hG dX5_passQuarter_86 (by decide) (pm_c1b rfl) rfl ?_
                  refine pm_iloadi hG dX5_passQuarter_87 rfl ?_
                  refine pm_istoreXi (loc' := [some (.ref (B + 42)), some (.int za), some (.int x1_2), some (.int x6), some (.int 0), some (.int x3_5), some (.int x6), some (.int 0)]) hG dX5_passQuarter_89 (by decide) (pm_c1b rfl) rfl ?_
                  refine pm_iincX (v := x3_5 + 1) (loc' := [some (.ref (B + 42)), some (.int za), some (.int x1_2), some (.int x6), some (.int 0), some (.int (x3_5 + 1)), some (.int x6), some (.int 0)]) hG dX5_passQuarter_91 rfl (by rfl) (by decide) (pm_c1b rfl) rfl ?_
                  refine pm_goto (tgt := 15) hG dX5_passQuarter_94 rfl ?_
                  refine pm_fg 6 (loc' := [some (.ref (B + 42)), some (.int za), some (.int x1_2), some (.int x6), some (.int 0), some (.int (x3_5 + 1)), none, some (.int 0)]) rfl ?_
                  refine pm_fg 7 (loc' := [some (.ref (B + 42)), some (.int za), some (.int x1_2), some (.int x6), some (.int 0), some (.int (x3_5 + 1)), none, none]) rfl ?_
                  exact ih15 _ _ _ _ hE
                · replace hE := fx_f c13 hE
                  refine pm_iloadi hG dX5_passQuarter_66 rfl ?_
                  refine pm_if_lt (tgt := 91) hG dX5_passQuarter_68 rfl (fun _ => ?_) (fun q => absurd c7 q)
                  refine pm_iincX (v := x3_5 + 1) (loc' := [some (.ref (B + 42)), some (.int za), some (.int x1_2), some (.int x3_3), some (.int x3_4), some (.int (x3_5 + 1)), some (.int x6), some (.int 0)]) hG dX5_passQuarter_91 rfl (by rfl) (by decide) (pm_c1b rfl) rfl ?_
                  refine pm_goto (tgt := 15) hG dX5_passQuarter_94 rfl ?_
                  refine pm_fg 6 (loc' := [some (.ref (B + 42)), some (.int za), some (.int x1_2), some (.int x3_3), some (.int x3_4), some (.int (x3_5 + 1)), none, some (.int 0)]) rfl ?_
                  refine pm_fg 7 (loc' := [some (.ref (B + 42)), some (.int za), some (.int x1_2), some (.int x3_3), some (.int x3_4), some (.int (x3_5 + 1)), none, none]) rfl ?_
                  exact ih15 _ _ _ _ hE
        refine loop15 _ (fun S14 x14_3 x14_4 x14_5 hE => ?_) _ _ _ _ _ hE
        refine pm_aloadn hG dX5_passQuarter_97 rfl ?_
        refine pm_getf hG dX5_passQuarter_98 (flX5_11 _ rfl) rfl rfl ?_
        refine pm_iloadn hG dX5_passQuarter_101 rfl ?_
        refine pm_iloadn hG dX5_passQuarter_102 rfl ?_
        obtain ⟨j15, hj15, hE⟩ := fb_some hE
        refine fx_iast hG dX5_passQuarter_103 rfl hj15 ?_
        refine ca_43 ?_
        refine fx_letc hE (fun S16 hE => ?_)
        refine pm_aloadn hG dX5_passQuarter_104 rfl ?_
        refine pm_getf hG dX5_passQuarter_105 (flX5_15 _ rfl) rfl rfl ?_
        refine pm_iloadn hG dX5_passQuarter_108 rfl ?_
        refine pm_iloadi hG dX5_passQuarter_109 rfl ?_
        refine fx_iast hG dX5_passQuarter_111 rfl hj15 ?_
        refine ca_44 ?_
        refine fx_letc hE (fun S17 hE => ?_)
        refine pm_iincX (v := x1_2 + (-1)) (loc' := [some (.ref (B + 42)), some (.int za), some (.int (x1_2 + (-1))), some (.int x14_3), some (.int x14_4), some (.int x14_5), none, none]) hG dX5_passQuarter_112 rfl (by rfl) (by decide) (pm_c1b rfl) rfl ?_
        refine pm_goto (tgt := 3) hG dX5_passQuarter_115 rfl ?_
        refine pm_fg 3 (loc' := [some (.ref (B + 42)), some (.int za), some (.int (x1_2 + (-1))), none, some (.int x14_4), some (.int x14_5), none, none]) rfl ?_
        refine pm_fg 4 (loc' := [some (.ref (B + 42)), some (.int za), some (.int (x1_2 + (-1))), none, none, some (.int x14_5), none, none]) rfl ?_
        refine pm_fg 5 (loc' := [some (.ref (B + 42)), some (.int za), some (.int (x1_2 + (-1))), none, none, none, none, none]) rfl ?_
        exact ih3 _ _ hE
  refine loop3 _ (fun S18 x18_2 hE => ?_) _ _ _ hE
  exact pm_vret hG hF dX5_passQuarter_118 rfl (Nat.le_refl _) (Nat.le_refl _) (fx_rvc hE)

set_option maxRecDepth 100000 in
set_option maxHeartbeats 4000000 in
theorem c_X5_findBest {d : Nat} {B cnt : Nat} {kp : Value} {ρ : pm_S} {S : FS} {R : Int32 × FS} (hdd : 1 ≤ d) (hE : f_X5_findBest S = some R) : pm_met mX5_findBest d 0 0 B [.ref (B + 42)] cnt (cst B kp S ρ) (pm_Qi (fun v σ' cnt' => v = R.1 ∧ σ' = (cst B kp R.2 ρ) ∧ cnt' = cnt)) := by
  refine pm_enter 4 (by decide) (Nat.le_of_ble_eq_true rfl) rfl (fun G hG hR hF => ?_)
  unfold f_X5_findBest at hE
  refine pm_iconst (v := 0) hG dX5_findBest_0 (by decide) ?_
  refine pm_istoreXn (loc' := [some (.ref (B + 42)), some (.int 0), none, none, none]) hG dX5_findBest_1 (by decide) (pm_c1b rfl) rfl ?_
  refine pm_iconst (v := 0) hG dX5_findBest_2 (by decide) ?_
  refine pm_istoreXn (loc' := [some (.ref (B + 42)), some (.int 0), some (.int 0), none, none]) hG dX5_findBest_3 (by decide) (pm_c1b rfl) rfl ?_
  have loop4 : ∀ (k4 : FS → Int32 → Int32 → Option (Int32 × FS)), (∀ (S1 : FS) (x1_1 : Int32) (x1_2 : Int32), k4 S1  x1_1 x1_2 = some R → pm_wp mX5_findBest G B 104 [some (.ref (B + 42)), some (.int x1_1), some (.int x1_2), none, none] [] 0 0 cnt (cst B kp S1 ρ)) → ∀ (m4 : Nat) (S1 : FS) (x1_1 : Int32) (x1_2 : Int32), l_X5_findBest_4 k4 m4 S1  x1_1 x1_2 = some R → pm_wp mX5_findBest G B 4 [some (.ref (B + 42)), some (.int x1_1), some (.int x1_2), none, none] [] 0 0 cnt (cst B kp S1 ρ) := by
    intro k4 hk4 m4
    induction m4 with
    | zero => intro S1  x1_1 x1_2 hE; exact fx_no hE
    | succ m4 ih4 =>
      intro S1  x1_1 x1_2 hE
      rw [l_X5_findBest_4] at hE
      refine pm_iloadn hG dX5_findBest_4 rfl ?_
      refine pm_bipush (v := 64) hG dX5_findBest_5 (by decide) ?_
      refine pm_icmp_ge (tgt := 104) hG dX5_findBest_7 rfl (fun c2 => ?_) (fun c2 => ?_)
      · replace c2 := Int32.not_lt.mpr c2
        replace hE := fx_f c2 hE
        exact hk4 _ _ _ hE
      · replace c2 := Int32.not_le.mp c2
        replace hE := fx_t c2 hE
        refine pm_aloadn hG dX5_findBest_10 rfl ?_
        refine pm_getf hG dX5_findBest_11 (flX5_11 _ rfl) rfl rfl ?_
        refine pm_iloadn hG dX5_findBest_14 rfl ?_
        obtain ⟨j3, hj3, hE⟩ := fb_some hE
        refine fx_iald hG dX5_findBest_15 rfl hj3 ?_
        refine pm_bipush (v := 8) hG dX5_findBest_16 (by decide) ?_
        refine pm_aloadn hG dX5_findBest_18 rfl ?_
        refine pm_getf hG dX5_findBest_19 (flX5_18 _ rfl) rfl rfl ?_
        refine pm_iloadn hG dX5_findBest_22 rfl ?_
        refine fx_iald hG dX5_findBest_23 rfl hj3 ?_
        refine pm_imul hG dX5_findBest_24 ?_
        refine pm_iadd hG dX5_findBest_25 ?_
        refine fx_letv hE (fun x4 hE => ?_)
        refine pm_istoreXn (loc' := [some (.ref (B + 42)), some (.int x1_1), some (.int x1_2), some (.int x4), none]) hG dX5_findBest_26 (by decide) (pm_c1b rfl) rfl ?_
        refine pm_iloadn hG dX5_findBest_27 rfl ?_
        refine pm_if_eq (tgt := 60) hG dX5_findBest_28 rfl (fun c5 => ?_) (fun c5 => ?_)
        · replace hE := fx_t c5 hE
          refine pm_iconst (v := 1) hG dX5_findBest_60 (by decide) ?_
          refine pm_goto (tgt := 65) hG dX5_findBest_61 rfl ?_
          refine pm_istoreXi (loc' := [some (.ref (B + 42)), some (.int x1_1), some (.int x1_2), some (.int x4), some (.int 1)]) hG dX5_findBest_65 (by decide) (pm_c1b rfl) rfl ?_
          refine pm_aloadn hG dX5_findBest_67 rfl ?_
          refine pm_getf hG dX5_findBest_68 (flX5_11 _ rfl) rfl rfl ?_
          refine pm_iloadn hG dX5_findBest_71 rfl ?_
          refine fx_iald hG dX5_findBest_72 rfl hj3 ?_
          refine pm_if_lt (tgt := 98) hG dX5_findBest_73 rfl (fun c6 => ?_) (fun c6 => ?_)
          · replace hE := fx_t c6 hE
            refine pm_iincX (v := x1_2 + 1) (loc' := [some (.ref (B + 42)), some (.int x1_1), some (.int (x1_2 + 1)), some (.int x4), some (.int 1)]) hG dX5_findBest_98 rfl (by rfl) (by decide) (pm_c1b rfl) rfl ?_
            refine pm_goto (tgt := 4) hG dX5_findBest_101 rfl ?_
            refine pm_fg 3 (loc' := [some (.ref (B + 42)), some (.int x1_1), some (.int (x1_2 + 1)), none, some (.int 1)]) rfl ?_
            refine pm_fg 4 (loc' := [some (.ref (B + 42)), some (.int x1_1), some (.int (x1_2 + 1)), none, none]) rfl ?_
            exact ih4 _ _ _ hE
          · replace hE := fx_f c6 hE
            refine pm_iloadi hG dX5_findBest_76 rfl ?_
            refine pm_if_eq (tgt := 98) hG dX5_findBest_78 rfl (fun q => absurd q (by decide)) (fun _ => ?_)
            refine pm_iconst (v := 1) hG dX5_findBest_81 (by decide) ?_
            refine pm_istoreXn (loc' := [some (.ref (B + 42)), some (.int 1), some (.int x1_2), some (.int x4), some (.int 1)]) hG dX5_findBest_82 (by decide) (pm_c1b rfl) rfl ?_
            refine pm_aloadn hG dX5_findBest_83 rfl ?_
            refine pm_iloadn hG dX5_findBest_84 rfl ?_
            refine pm_putf hG dX5_findBest_85 (fwX5_70 _ rfl) rfl rfl rfl ?_
            refine ci_113 ?_
            refine fx_letc hE (fun S7 hE => ?_)
            refine pm_aloadn hG dX5_findBest_88 rfl ?_
            refine pm_aloadn hG dX5_findBest_89 rfl ?_
            refine pm_getf hG dX5_findBest_90 (flX5_15 _ rfl) rfl rfl ?_
            refine pm_iloadn hG dX5_findBest_93 rfl ?_
            refine fx_iald hG dX5_findBest_94 rfl hj3 ?_
            refine pm_putf hG dX5_findBest_95 (fwX5_73 _ rfl) rfl rfl rfl ?_
            refine ci_114 ?_
            refine fx_letc hE (fun S8 hE => ?_)
            refine pm_iincX (v := x1_2 + 1) (loc' := [some (.ref (B + 42)), some (.int 1), some (.int (x1_2 + 1)), some (.int x4), some (.int 1)]) hG dX5_findBest_98 rfl (by rfl) (by decide) (pm_c1b rfl) rfl ?_
            refine pm_goto (tgt := 4) hG dX5_findBest_101 rfl ?_
            refine pm_fg 3 (loc' := [some (.ref (B + 42)), some (.int 1), some (.int (x1_2 + 1)), none, some (.int 1)]) rfl ?_
            refine pm_fg 4 (loc' := [some (.ref (B + 42)), some (.int 1), some (.int (x1_2 + 1)), none, none]) rfl ?_
            exact ih4 _ _ _ hE
        · replace hE := fx_f c5 hE
          refine pm_iloadn hG dX5_findBest_31 rfl ?_
          refine pm_aloadn hG dX5_findBest_32 rfl ?_
          refine pm_getf hG dX5_findBest_33 (flX5_70 _ rfl) rfl rfl ?_
          refine pm_icmp_gt (tgt := 60) hG dX5_findBest_36 rfl (fun c9 => ?_) (fun c9 => ?_)
          · replace hE := fx_t c9 hE
            refine pm_iconst (v := 1) hG dX5_findBest_60 (by decide) ?_
            refine pm_goto (tgt := 65) hG dX5_findBest_61 rfl ?_
            refine pm_istoreXi (loc' := [some (.ref (B + 42)), some (.int x1_1), some (.int x1_2), some (.int x4), some (.int 1)]) hG dX5_findBest_65 (by decide) (pm_c1b rfl) rfl ?_
            refine pm_aloadn hG dX5_findBest_67 rfl ?_
            refine pm_getf hG dX5_findBest_68 (flX5_11 _ rfl) rfl rfl ?_
            refine pm_iloadn hG dX5_findBest_71 rfl ?_
            refine fx_iald hG dX5_findBest_72 rfl hj3 ?_
            refine pm_if_lt (tgt := 98) hG dX5_findBest_73 rfl (fun c10 => ?_) (fun c10 => ?_)
            · replace hE := fx_t c10 hE
              refine pm_iincX (v := x1_2 + 1) (loc' := [some (.ref (B + 42)), some (.int x1_1), some (.int (x1_2 + 1)), some (.int x4), some (.int 1)]) hG dX5_findBest_98 rfl (by rfl) (by decide) (pm_c1b rfl) rfl ?_
              refine pm_goto (tgt := 4) hG dX5_findBest_101 rfl ?_
              refine pm_fg 3 (loc' := [some (.ref (B + 42)), some (.int x1_1), some (.int (x1_2 + 1)), none, some (.int 1)]) rfl ?_
              refine pm_fg 4 (loc' := [some (.ref (B + 42)), some (.int x1_1), some (.int (x1_2 + 1)), none, none]) rfl ?_
              exact ih4 _ _ _ hE
            · replace hE := fx_f c10 hE
              refine pm_iloadi hG dX5_findBest_76 rfl ?_
              refine pm_if_eq (tgt := 98) hG dX5_findBest_78 rfl (fun q => absurd q (by decide)) (fun _ => ?_)
              refine pm_iconst (v := 1) hG dX5_findBest_81 (by decide) ?_
              refine pm_istoreXn (loc' := [some (.ref (B + 42)), some (.int 1), some (.int x1_2), some (.int x4), some (.int 1)]) hG dX5_findBest_82 (by decide) (pm_c1b rfl) rfl ?_
              refine pm_aloadn hG dX5_findBest_83 rfl ?_
              refine pm_iloadn hG dX5_findBest_84 rfl ?_
              refine pm_putf hG dX5_findBest_85 (fwX5_70 _ rfl) rfl rfl rfl ?_
              refine ci_113 ?_
              refine fx_letc hE (fun S11 hE => ?_)
              refine pm_aloadn hG dX5_findBest_88 rfl ?_
              refine pm_aloadn hG dX5_findBest_89 rfl ?_
              refine pm_getf hG dX5_findBest_90 (flX5_15 _ rfl) rfl rfl ?_
              refine pm_iloadn hG dX5_findBest_93 rfl ?_
              refine fx_iald hG dX5_findBest_94 rfl hj3 ?_
              refine pm_putf hG dX5_findBest_95 (fwX5_73 _ rfl) rfl rfl rfl ?_
              refine ci_114 ?_
              refine fx_letc hE (fun S12 hE => ?_)
              refine pm_iincX (v := x1_2 + 1) (loc' := [some (.ref (B + 42)), some (.int 1), some (.int (x1_2 + 1)), some (.int x4), some (.int 1)]) hG dX5_findBest_98 rfl (by rfl) (by decide) (pm_c1b rfl) rfl ?_
              refine pm_goto (tgt := 4) hG dX5_findBest_101 rfl ?_
              refine pm_fg 3 (loc' := [some (.ref (B + 42)), some (.int 1), some (.int (x1_2 + 1)), none, some (.int 1)]) rfl ?_
              refine pm_fg 4 (loc' := [some (.ref (B + 42)), some (.int 1), some (.int (x1_2 + 1)), none, none]) rfl ?_
              exact ih4 _ _ _ hE
          · replace hE := fx_f c9 hE
            refine pm_iloadn hG dX5_findBest_39 rfl ?_
            refine pm_aloadn hG dX5_findBest_40 rfl ?_
            refine pm_getf hG dX5_findBest_41 (flX5_70 _ rfl) rfl rfl ?_
            refine pm_icmp_ne (tgt := 64) hG dX5_findBest_44 rfl (fun c13 => ?_) (fun c13 => ?_)
            · replace hE := fx_f c13 hE
              refine pm_iconst (v := 0) hG dX5_findBest_64 (by decide) ?_
              refine pm_istoreXi (loc' := [some (.ref (B + 42)), some (.int x1_1), some (.int x1_2), some (.int x4), some (.int 0)]) hG dX5_findBest_65 (by decide) (pm_c1b rfl) rfl ?_
              refine pm_aloadn hG dX5_findBest_67 rfl ?_
              refine pm_getf hG dX5_findBest_68 (flX5_11 _ rfl) rfl rfl ?_
              refine pm_iloadn hG dX5_findBest_71 rfl ?_
              refine fx_iald hG dX5_findBest_72 rfl hj3 ?_
              refine pm_if_lt (tgt := 98) hG dX5_findBest_73 rfl (fun c14 => ?_) (fun c14 => ?_)
              · replace hE := fx_t c14 hE
                refine pm_iincX (v := x1_2 + 1) (loc' := [some (.ref (B + 42)), some (.int x1_1), some (.int (x1_2 + 1)), some (.int x4), some (.int 0)]) hG dX5_findBest_98 rfl (by rfl) (by decide) (pm_c1b rfl) rfl ?_
                refine pm_goto (tgt := 4) hG dX5_findBest_101 rfl ?_
                refine pm_fg 3 (loc' := [some (.ref (B + 42)), some (.int x1_1), some (.int (x1_2 + 1)), none, some (.int 0)]) rfl ?_
                refine pm_fg 4 (loc' := [some (.ref (B + 42)), some (.int x1_1), some (.int (x1_2 + 1)), none, none]) rfl ?_
                exact ih4 _ _ _ hE
              · replace hE := fx_f c14 hE
                refine pm_iloadi hG dX5_findBest_76 rfl ?_
                refine pm_if_eq (tgt := 98) hG dX5_findBest_78 rfl (fun _ => ?_) (fun q => absurd q (by decide))
                refine pm_iincX (v := x1_2 + 1) (loc' := [some (.ref (B + 42)), some (.int x1_1), some (.int (x1_2 + 1)), some (.int x4), some (.int 0)]) hG dX5_findBest_98 rfl (by rfl) (by decide) (pm_c1b rfl) rfl ?_
                refine pm_goto (tgt := 4) hG dX5_findBest_101 rfl ?_
                refine pm_fg 3 (loc' := [some (.ref (B + 42)), some (.int x1_1), some (.int (x1_2 + 1)), none, some (.int 0)]) rfl ?_
                refine pm_fg 4 (loc' := [some (.ref (B + 42)), some (.int x1_1), some (.int (x1_2 + 1)), none, none]) rfl ?_
                exact ih4 _ _ _ hE
            · replace hE := fx_t c13 hE
              refine pm_aloadn hG dX5_findBest_47 rfl ?_
              refine pm_getf hG dX5_findBest_48 (flX5_15 _ rfl) rfl rfl ?_
              refine pm_iloadn hG dX5_findBest_51 rfl ?_
              refine fx_iald hG dX5_findBest_52 rfl hj3 ?_
              refine pm_aloadn hG dX5_findBest_53 rfl ?_
              refine pm_getf hG dX5_findBest_54 (flX5_73 _ rfl) rfl rfl ?_
              refine pm_icmp_ge (tgt := 64) hG dX5_findBest_57 rfl (fun c15 => ?_) (fun c15 => ?_)
              · replace c15 := Int32.not_lt.mpr c15
                replace hE := fx_f c15 hE
                refine pm_iconst (v := 0) hG dX5_findBest_64 (by decide) ?_
                refine pm_istoreXi (loc' := [some (.ref (B + 42)), some (.int x1_1), some (.int x1_2), some (.int x4), some (.int 0)]) hG dX5_findBest_65 (by decide) (pm_c1b rfl) rfl ?_
                refine pm_aloadn hG dX5_findBest_67 rfl ?_
                refine pm_getf hG dX5_findBest_68 (flX5_11 _ rfl) rfl rfl ?_
                refine pm_iloadn hG dX5_findBest_71 rfl ?_
                refine fx_iald hG dX5_findBest_72 rfl hj3 ?_
                refine pm_if_lt (tgt := 98) hG dX5_findBest_73 rfl (fun c16 => ?_) (fun c16 => ?_)
                · replace hE := fx_t c16 hE
                  refine pm_iincX (v := x1_2 + 1) (loc' := [some (.ref (B + 42)), some (.int x1_1), some (.int (x1_2 + 1)), some (.int x4), some (.int 0)]) hG dX5_findBest_98 rfl (by rfl) (by decide) (pm_c1b rfl) rfl ?_
                  refine pm_goto (tgt := 4) hG dX5_findBest_101 rfl ?_
                  refine pm_fg 3 (loc' := [some (.ref (B + 42)), some (.int x1_1), some (.int (x1_2 + 1)), none, some (.int 0)]) rfl ?_
                  refine pm_fg 4 (loc' := [some (.ref (B + 42)), some (.int x1_1), some (.int (x1_2 + 1)), none, none]) rfl ?_
                  exact ih4 _ _ _ hE
                · replace hE := fx_f c16 hE
                  refine pm_iloadi hG dX5_findBest_76 rfl ?_
                  refine pm_if_eq (tgt := 98) hG dX5_findBest_78 rfl (fun _ => ?_) (fun q => absurd q (by decide))
                  refine pm_iincX (v := x1_2 + 1) (loc' := [some (.ref (B + 42)), some (.int x1_1), some (.int (x1_2 + 1)), some (.int x4), some (.int 0)]) hG dX5_findBest_98 rfl (by rfl) (by decide) (pm_c1b rfl) rfl ?_
                  refine pm_goto (tgt := 4) hG dX5_findBest_101 rfl ?_
                  refine pm_fg 3 (loc' := [some (.ref (B + 42)), some (.int x1_1), some (.int (x1_2 + 1)), none, some (.int 0)]) rfl ?_
                  refine pm_fg 4 (loc' := [some (.ref (B + 42)), some (.int x1_1), some (.int (x1_2 + 1)), none, none]) rfl ?_
                  exact ih4 _ _ _ hE
              · replace c15 := Int32.not_le.mp c15
                replace hE := fx_t c15 hE
                refine pm_iconst (v := 1) hG dX5_findBest_60 (by decide) ?_
                refine pm_goto (tgt := 65) hG dX5_findBest_61 rfl ?_
                refine pm_istoreXi (loc' := [some (.ref (B + 42)), some (.int x1_1), some (.int x1_2), some (.int x4), some (.int 1)]) hG dX5_findBest_65 (by decide) (pm_c1b rfl) rfl ?_
                refine pm_aloadn hG dX5_findBest_67 rfl ?_
                refine pm_getf hG dX5_findBest_68 (flX5_11 _ rfl) rfl rfl ?_
                refine pm_iloadn hG dX5_findBest_71 rfl ?_
                refine fx_iald hG dX5_findBest_72 rfl hj3 ?_
                refine pm_if_lt (tgt := 98) hG dX5_findBest_73 rfl (fun c17 => ?_) (fun c17 => ?_)
                · replace hE := fx_t c17 hE
                  refine pm_iincX (v := x1_2 + 1) (loc' := [some (.ref (B + 42)), some (.int x1_1), some (.int (x1_2 + 1)), some (.int x4), some (.int 1)]) hG dX5_findBest_98 rfl (by rfl) (by decide) (pm_c1b rfl) rfl ?_
                  refine pm_goto (tgt := 4) hG dX5_findBest_101 rfl ?_
                  refine pm_fg 3 (loc' := [some (.ref (B + 42)), some (.int x1_1), some (.int (x1_2 + 1)), none, some (.int 1)]) rfl ?_
                  refine pm_fg 4 (loc' := [some (.ref (B + 42)), some (.int x1_1), some (.int (x1_2 + 1)), none, none]) rfl ?_
                  exact ih4 _ _ _ hE
                · replace hE := fx_f c17 hE
                  refine pm_iloadi hG dX5_findBest_76 rfl ?_
                  refine pm_if_eq (tgt := 98) hG dX5_findBest_78 rfl (fun q => absurd q (by decide)) (fun _ => ?_)
                  refine pm_iconst (v := 1) hG dX5_findBest_81 (by decide) ?_
                  refine pm_istoreXn (loc' := [some (.ref (B + 42)), some (.int 1), some (.int x1_2), some (.int x4), some (.int 1)]) hG dX5_findBest_82 (by decide) (pm_c1b rfl) rfl ?_
                  refine pm_aloadn hG dX5_findBest_83 rfl ?_
                  refine pm_iloadn hG dX5_findBest_84 rfl ?_
                  refine pm_putf hG dX5_findBest_85 (fwX5_70 _ rfl) rfl rfl rfl ?_
                  refine ci_113 ?_
                  refine fx_letc hE (fun S18 hE => ?_)
                  refine pm_aloadn hG dX5_findBest_88 rfl ?_
                  refine pm_aloadn hG dX5_findBest_89 rfl ?_
                  refine pm_getf hG dX5_findBest_90 (flX5_15 _ rfl) rfl rfl ?_
                  refine pm_iloadn hG dX5_findBest_93 rfl ?_
                  refine fx_iald hG dX5_findBest_94 rfl hj3 ?_
                  refine pm_putf hG dX5_findBest_95 (fwX5_73 _ rfl) rfl rfl rfl ?_
                  refine ci_114 ?_
                  refine fx_letc hE (fun S19 hE => ?_)
                  refine pm_iincX (v := x1_2 + 1) (loc' := [some (.ref (B + 42)), some (.int 1), some (.int (x1_2 + 1)), some (.int x4), some (.int 1)]) hG dX5_findBest_98 rfl (by rfl) (by decide) (pm_c1b rfl) rfl ?_
                  refine pm_goto (tgt := 4) hG dX5_findBest_101 rfl ?_
                  refine pm_fg 3 (loc' := [some (.ref (B + 42)), some (.int 1), some (.int (x1_2 + 1)), none, some (.int 1)]) rfl ?_
                  refine pm_fg 4 (loc' := [some (.ref (B + 42)), some (.int 1), some (.int (x1_2 + 1)), none, none]) rfl ?_
                  exact ih4 _ _ _ hE
  refine loop4 _ (fun S20 x20_1 x20_2 hE => ?_) _ _ _ _ hE
  refine pm_iloadn hG dX5_findBest_104 rfl ?_
  obtain ⟨b21, hb21, hE⟩ := fb_some hE
  exact pm_zret hG hF dX5_findBest_105 rfl (bz_n hb21) (Nat.le_refl _) (Nat.le_refl _) (fx_rbc hb21 hE)

set_option maxRecDepth 100000 in
set_option maxHeartbeats 4000000 in
theorem c_X5_pledgedIn {d : Nat} {B cnt : Nat} {kp : Value} {ρ : pm_S} {S : FS} {za : Int32} {zb : Int32} {R : Int32} (hdd : 1 ≤ d) (hE : q_X5_pledgedIn S za zb = some R) : pm_met mX5_pledgedIn d 0 0 B [.ref (B + 42), .int za, .int zb] cnt (cst B kp S ρ) (pm_Qi (fun v σ' cnt' => v = R ∧ σ' = (cst B kp S ρ) ∧ cnt' = cnt)) := by
  refine pm_enter 2 (by decide) (Nat.le_of_ble_eq_true rfl) rfl (fun G hG hR hF => ?_)
  unfold q_X5_pledgedIn at hE
  refine pm_aloadn hG dX5_pledgedIn_0 rfl ?_
  refine pm_getf hG dX5_pledgedIn_1 (flX5_73 _ rfl) rfl rfl ?_
  refine fx_letv hE (fun x1 hE => ?_)
  refine pm_istoreXn (loc' := [some (.ref (B + 42)), some (.int za), some (.int zb), some (.int x1), none]) hG dX5_pledgedIn_4 (by decide) (pm_c1b rfl) rfl ?_
  refine pm_iloadn hG dX5_pledgedIn_5 rfl ?_
  refine pm_iconst (v := 1) hG dX5_pledgedIn_6 (by decide) ?_
  refine pm_isub hG dX5_pledgedIn_7 ?_
  refine fx_letv hE (fun x2 hE => ?_)
  refine pm_istoreXi (loc' := [some (.ref (B + 42)), some (.int za), some (.int zb), some (.int x1), some (.int x2)]) hG dX5_pledgedIn_8 (by decide) (pm_c1b rfl) rfl ?_
  have loop10 : ∀ (k10 : Int32 → Int32 → Option Int32), (∀  (x3_3 : Int32) (x3_4 : Int32), k10  x3_3 x3_4 = some R → pm_wp mX5_pledgedIn G B 27 [some (.ref (B + 42)), some (.int za), some (.int zb), some (.int x3_3), some (.int x3_4)] [] 0 0 cnt (cst B kp S ρ)) → ∀ (m10 : Nat)  (x3_3 : Int32) (x3_4 : Int32), l_X5_pledgedIn_10 za k10 m10  x3_3 x3_4 = some R → pm_wp mX5_pledgedIn G B 10 [some (.ref (B + 42)), some (.int za), some (.int zb), some (.int x3_3), some (.int x3_4)] [] 0 0 cnt (cst B kp S ρ) := by
    intro k10 hk10 m10
    induction m10 with
    | zero => intro  x3_3 x3_4 hE; exact fx_no hE
    | succ m10 ih10 =>
      intro  x3_3 x3_4 hE
      rw [l_X5_pledgedIn_10] at hE
      refine pm_iloadi hG dX5_pledgedIn_10 rfl ?_
      refine pm_iloadn hG dX5_pledgedIn_12 rfl ?_
      refine pm_icmp_le (tgt := 27) hG dX5_pledgedIn_13 rfl (fun c4 => ?_) (fun c4 => ?_)
      · replace c4 := Int32.not_lt.mpr c4
        replace hE := fx_f c4 hE
        exact hk10 _ _ hE
      · replace c4 := Int32.not_le.mp c4
        replace hE := fx_t c4 hE
        refine pm_iloadn hG dX5_pledgedIn_16 rfl ?_
        refine pm_bipush (v := 7) hG dX5_pledgedIn_17 (by decide) ?_
        refine pm_idiv hG dX5_pledgedIn_19 (by decide) ?_
        refine fx_letv hE (fun x5 hE => ?_)
        refine pm_istoreXn (loc' := [some (.ref (B + 42)), some (.int za), some (.int zb), some (.int x5), some (.int x3_4)]) hG dX5_pledgedIn_20 (by decide) (pm_c1b rfl) rfl ?_
        refine pm_iincX (v := x3_4 + (-1)) (loc' := [some (.ref (B + 42)), some (.int za), some (.int zb), some (.int x5), some (.int (x3_4 + (-1)))]) hG dX5_pledgedIn_21 rfl (by rfl) (by decide) (pm_c1b rfl) rfl ?_
        refine pm_goto (tgt := 10) hG dX5_pledgedIn_24 rfl ?_
        exact ih10 _ _ hE
  refine loop10 _ (fun  x6_3 x6_4 hE => ?_) _ _ _ hE
  refine pm_iloadn hG dX5_pledgedIn_27 rfl ?_
  refine pm_bipush (v := 7) hG dX5_pledgedIn_28 (by decide) ?_
  refine pm_irem hG dX5_pledgedIn_30 (by decide) ?_
  refine pm_iconst (v := 1) hG dX5_pledgedIn_31 (by decide) ?_
  refine pm_isub hG dX5_pledgedIn_32 ?_
  exact pm_iret hG hF dX5_pledgedIn_33 rfl (Nat.le_refl _) (Nat.le_refl _) (fx_pi (Option.some.inj hE))

set_option maxRecDepth 100000 in
set_option maxHeartbeats 4000000 in
theorem c_X11_plan {d : Nat} {B cnt : Nat} {kp : Value} {ρ : pm_S} {S : FS} {za : Int32} {zb : Int32} {R : Int32 × FS} (hdd : 4 ≤ d) (hE : f_X11_plan S za zb = some R) : pm_met mX11_plan d 0 0 B [.ref (B + 0), .int za, .int zb] cnt (cst B kp S ρ) (pm_Qi (fun v σ' cnt' => v = R.1 ∧ σ' = (cst B kp R.2 ρ) ∧ cnt' = cnt)) := by
  refine pm_enter 2 (by decide) (Nat.le_of_ble_eq_true rfl) rfl (fun G hG hR hF => ?_)
  unfold f_X11_plan at hE
  refine pm_aloadn hG dX11_plan_0 rfl ?_
  refine pm_getf hG dX11_plan_1 (flX11_74 _ rfl) rfl rfl ?_
  refine pm_iloadn hG dX11_plan_4 rfl ?_
  refine pm_callV (As := [.int za]) (rest := []) hG hR dX11_plan_5 (lkX11_251 _ rfl) okV_X8_has rfl rfl (c_X8_has (d := 3) (by decide) rfl) rfl rfl hdd (Nat.le_refl _) (Nat.le_refl _) (by decide) (fx_ki ?_)
  refine pm_if_ne (tgt := 18) hG dX11_plan_8 rfl (fun c1 => ?_) (fun c1 => ?_)
  · replace hE := fx_f c1 hE
    refine pm_aloadn hG dX11_plan_18 rfl ?_
    refine pm_getf hG dX11_plan_19 (flX11_74 _ rfl) rfl rfl ?_
    refine pm_iloadn hG dX11_plan_22 rfl ?_
    obtain ⟨x3, h2, hE⟩ := fb_some hE
    refine pm_callV (As := [.int za]) (rest := []) hG hR dX11_plan_23 (lkX11_255 _ rfl) okV_X8_isMissing rfl rfl (c_X8_isMissing (d := 3) (by decide) h2) rfl rfl hdd (Nat.le_refl _) (Nat.le_refl _) (by decide) (fx_ki ?_)
    refine pm_if_eq (tgt := 36) hG dX11_plan_26 rfl (fun c4 => ?_) (fun c4 => ?_)
    · replace hE := fx_t c4 hE
      refine pm_aloadn hG dX11_plan_36 rfl ?_
      refine pm_getf hG dX11_plan_37 (flX11_74 _ rfl) rfl rfl ?_
      refine pm_iloadn hG dX11_plan_40 rfl ?_
      obtain ⟨x6, h5, hE⟩ := fb_some hE
      refine pm_callV (As := [.int za]) (rest := []) hG hR dX11_plan_41 (lkX11_261 _ rfl) okV_X8_sizeOf rfl rfl (c_X8_sizeOf (d := 3) (by decide) h5) rfl rfl hdd (Nat.le_refl _) (Nat.le_refl _) (by decide) (fx_ki ?_)
      refine pm_istoreXn (loc' := [some (.ref (B + 0)), some (.int za), some (.int zb), some (.int x6), none]) hG dX11_plan_44 (by decide) (pm_c1b rfl) rfl ?_
      refine pm_iloadn hG dX11_plan_45 rfl ?_
      refine pm_iconst (v := 1) hG dX11_plan_46 (by decide) ?_
      refine pm_bipush (v := 8) hG dX11_plan_47 (by decide) ?_
      refine pm_callS (As := [.int x6, .int 1, .int 8]) (rest := []) hG hR dX11_plan_49 (lkX11_105 _ rfl) okS_X11_isOutside (tOut (d := 3)) rfl rfl hdd (Nat.le_refl _) (Nat.le_refl _) (by decide) (fx_ki ?_)
      refine pm_if_ne (tgt := 81) hG dX11_plan_52 rfl (fun c7 => ?_) (fun c7 => ?_)
      · replace hE := fx_f c7 hE
        refine pm_aloadn hG dX11_plan_81 rfl ?_
        refine pm_ldc hG dX11_plan_82 (ctX11_109 _ rfl) ?_
        obtain ⟨r9, h8, hE⟩ := fb_some hE
        refine pm_callV (As := [.int (-1000001)]) (rest := []) hG hR dX11_plan_84 (lkX11_97 _ rfl) okV_X11_told rfl rfl (c_X11_told (d := 3) (by decide) h8) rfl rfl hdd (Nat.le_refl _) (Nat.le_refl _) (by decide) (fx_ki ?_)
        exact pm_iret hG hF dX11_plan_87 rfl (Nat.le_refl _) (Nat.le_refl _) (fx_ric hE)
      · replace hE := fx_t c7 hE
        refine pm_aloadn hG dX11_plan_55 rfl ?_
        refine pm_getf hG dX11_plan_56 (flX11_74 _ rfl) rfl rfl ?_
        refine pm_iloadn hG dX11_plan_59 rfl ?_
        refine pm_iconst (v := 0) hG dX11_plan_60 (by decide) ?_
        refine pm_sipush (v := 9999) hG dX11_plan_61 (by decide) ?_
        obtain ⟨x11, h10, hE⟩ := fb_some hE
        refine pm_callV (As := [.int za, .int 0, .int 9999]) (rest := []) hG hR dX11_plan_64 (lkX11_264 _ rfl) okV_X8_areAllWithin rfl rfl (c_X8_areAllWithin (d := 3) (by decide) h10) rfl rfl hdd (Nat.le_refl _) (Nat.le_refl _) (by decide) (fx_ki ?_)
        refine pm_if_eq (tgt := 81) hG dX11_plan_67 rfl (fun c12 => ?_) (fun c12 => ?_)
        · replace hE := fx_t c12 hE
          refine pm_aloadn hG dX11_plan_81 rfl ?_
          refine pm_ldc hG dX11_plan_82 (ctX11_109 _ rfl) ?_
          obtain ⟨r14, h13, hE⟩ := fb_some hE
          refine pm_callV (As := [.int (-1000001)]) (rest := []) hG hR dX11_plan_84 (lkX11_97 _ rfl) okV_X11_told rfl rfl (c_X11_told (d := 3) (by decide) h13) rfl rfl hdd (Nat.le_refl _) (Nat.le_refl _) (by decide) (fx_ki ?_)
          exact pm_iret hG hF dX11_plan_87 rfl (Nat.le_refl _) (Nat.le_refl _) (fx_ric hE)
        · replace hE := fx_f c12 hE
          refine pm_iloadn hG dX11_plan_70 rfl ?_
          refine pm_iconst (v := (-1)) hG dX11_plan_71 (by decide) ?_
          refine pm_iloadn hG dX11_plan_72 rfl ?_
          refine pm_iconst (v := 1) hG dX11_plan_73 (by decide) ?_
          refine pm_isub hG dX11_plan_74 ?_
          refine pm_callS (As := [.int zb, .int (-1), .int (x6 - 1)]) (rest := []) hG hR dX11_plan_75 (lkX11_105 _ rfl) okS_X11_isOutside (tOut (d := 3)) rfl rfl hdd (Nat.le_refl _) (Nat.le_refl _) (by decide) (fx_ki ?_)
          refine pm_if_eq (tgt := 88) hG dX11_plan_78 rfl (fun c15 => ?_) (fun c15 => ?_)
          · replace hE := fx_t c15 hE
            refine pm_aloadn hG dX11_plan_88 rfl ?_
            refine pm_getf hG dX11_plan_89 (flX11_60 _ rfl) rfl rfl ?_
            obtain ⟨r17, h16, hE⟩ := fb_some hE
            refine pm_callV (As := []) (rest := []) hG hR dX11_plan_92 (lkX11_335 _ rfl) okV_X5_begin rfl rfl (c_X5_begin (d := 3) (by decide) h16) rfl rfl hdd (Nat.le_refl _) (Nat.le_refl _) (by decide) (fx_kv ?_)
            refine pm_iconst (v := 0) hG dX11_plan_95 (by decide) ?_
            refine pm_istoreXi (loc' := [some (.ref (B + 0)), some (.int za), some (.int zb), some (.int x6), some (.int 0)]) hG dX11_plan_96 (by decide) (pm_c1b rfl) rfl ?_
            have loop98 : ∀ (k98 : FS → Int32 → Option (Int32 × FS)), (∀ (S18 : FS) (x18_4 : Int32), k98 S18  x18_4 = some R → pm_wp mX11_plan G B 127 [some (.ref (B + 0)), some (.int za), some (.int zb), some (.int x6), some (.int x18_4)] [] 0 0 cnt (cst B kp S18 ρ)) → ∀ (m98 : Nat) (S18 : FS) (x18_4 : Int32), l_X11_plan_98 za x6 k98 m98 S18  x18_4 = some R → pm_wp mX11_plan G B 98 [some (.ref (B + 0)), some (.int za), some (.int zb), some (.int x6), some (.int x18_4)] [] 0 0 cnt (cst B kp S18 ρ) := by
              intro k98 hk98 m98
              induction m98 with
              | zero => intro S18  x18_4 hE; exact fx_no hE
              | succ m98 ih98 =>
                intro S18  x18_4 hE
                rw [l_X11_plan_98] at hE
                refine pm_iloadi hG dX11_plan_98 rfl ?_
                refine pm_iloadn hG dX11_plan_100 rfl ?_
                refine pm_icmp_ge (tgt := 127) hG dX11_plan_101 rfl (fun c19 => ?_) (fun c19 => ?_)
                · replace c19 := Int32.not_lt.mpr c19
                  replace hE := fx_f c19 hE
                  exact hk98 _ _ hE
                · replace c19 := Int32.not_le.mp c19
                  replace hE := fx_t c19 hE
                  refine pm_aloadn hG dX11_plan_104 rfl ?_
                  refine pm_getf hG dX11_plan_105 (flX11_60 _ rfl) rfl rfl ?_
                  refine pm_aloadn hG dX11_plan_108 rfl ?_
                  refine pm_getf hG dX11_plan_109 (flX11_74 _ rfl) rfl rfl ?_
                  refine pm_iloadn hG dX11_plan_112 rfl ?_
                  refine pm_iloadi hG dX11_plan_113 rfl ?_
                  refine pm_callV (As := [.int za, .int x18_4]) (rest := [.ref (B + 42)]) hG hR dX11_plan_115 (lkX11_338 _ rfl) okV_X8_numberAt rfl rfl (c_X8_numberAt (d := 3) (by decide) rfl) rfl rfl hdd (Nat.le_refl _) (Nat.le_refl _) (by first | decide | exact Nat.le_of_ble_eq_true rfl) (fx_ki ?_)
                  obtain ⟨r21, h20, hE⟩ := fb_some hE
                  refine pm_callV (As := [.int (p_X8_numberAt S18 za x18_4)]) (rest := []) hG hR dX11_plan_118 (lkX11_341 _ rfl) okV_X5_passQuarter rfl rfl (c_X5_passQuarter (d := 3) (by decide) h20) rfl rfl hdd (Nat.le_refl _) (Nat.le_refl _) (by decide) (fx_kv ?_)
                  refine pm_iincX (v := x18_4 + 1) (loc' := [some (.ref (B + 0)), some (.int za), some (.int zb), some (.int x6), some (.int (x18_4 + 1))]) hG dX11_plan_121 rfl (by rfl) (by decide) (pm_c1b rfl) rfl ?_
                  refine pm_goto (tgt := 98) hG dX11_plan_124 rfl ?_
                  exact ih98 _ _ hE
            refine loop98 _ (fun S22 x22_4 hE => ?_) _ _ _ hE
            refine pm_aloadn hG dX11_plan_127 rfl ?_
            refine pm_getf hG dX11_plan_128 (flX11_60 _ rfl) rfl rfl ?_
            obtain ⟨r24, h23, hE⟩ := fb_some hE
            refine pm_callV (As := []) (rest := []) hG hR dX11_plan_131 (lkX11_344 _ rfl) okV_X5_findBest rfl rfl (c_X5_findBest (d := 3) (by decide) h23) rfl rfl hdd (Nat.le_refl _) (Nat.le_refl _) (by decide) (fx_ki ?_)
            refine pm_if_ne (tgt := 144) hG dX11_plan_134 rfl (fun c25 => ?_) (fun c25 => ?_)
            · replace hE := fx_f c25 hE
              refine pm_iloadn hG dX11_plan_144 rfl ?_
              refine pm_if_ge (tgt := 158) hG dX11_plan_145 rfl (fun c26 => ?_) (fun c26 => ?_)
              · replace c26 := Int32.not_lt.mpr c26
                replace hE := fx_f c26 hE
                refine pm_aloadn hG dX11_plan_158 rfl ?_
                refine pm_getf hG dX11_plan_159 (flX11_60 _ rfl) rfl rfl ?_
                refine pm_iloadn hG dX11_plan_162 rfl ?_
                refine pm_iloadn hG dX11_plan_163 rfl ?_
                obtain ⟨x28, h27, hE⟩ := fb_some hE
                refine pm_callV (As := [.int zb, .int x6]) (rest := []) hG hR dX11_plan_164 (lkX11_350 _ rfl) okV_X5_pledgedIn rfl rfl (c_X5_pledgedIn (d := 3) (by decide) h27) rfl rfl hdd (Nat.le_refl _) (Nat.le_refl _) (by decide) (fx_ki ?_)
                exact pm_iret hG hF dX11_plan_167 rfl (Nat.le_refl _) (Nat.le_refl _) (fx_ric hE)
              · replace c26 := Int32.not_le.mp c26
                replace hE := fx_t c26 hE
                refine pm_aloadn hG dX11_plan_148 rfl ?_
                refine pm_getf hG dX11_plan_149 (flX11_60 _ rfl) rfl rfl ?_
                refine pm_getf hG dX11_plan_152 (flX11_347 _ rfl) rfl rfl ?_
                refine pm_goto (tgt := 167) hG dX11_plan_155 rfl ?_
                exact pm_iret hG hF dX11_plan_167 rfl (Nat.le_refl _) (Nat.le_refl _) (fx_ric hE)
            · replace hE := fx_t c25 hE
              refine pm_aloadn hG dX11_plan_137 rfl ?_
              refine pm_ldc hG dX11_plan_138 (ctX11_138 _ rfl) ?_
              obtain ⟨r30, h29, hE⟩ := fb_some hE
              refine pm_callV (As := [.int (-1000003)]) (rest := []) hG hR dX11_plan_140 (lkX11_97 _ rfl) okV_X11_told rfl rfl (c_X11_told (d := 3) (by decide) h29) rfl rfl hdd (Nat.le_refl _) (Nat.le_refl _) (by decide) (fx_ki ?_)
              exact pm_iret hG hF dX11_plan_143 rfl (Nat.le_refl _) (Nat.le_refl _) (fx_ric hE)
          · replace hE := fx_f c15 hE
            refine pm_aloadn hG dX11_plan_81 rfl ?_
            refine pm_ldc hG dX11_plan_82 (ctX11_109 _ rfl) ?_
            obtain ⟨r32, h31, hE⟩ := fb_some hE
            refine pm_callV (As := [.int (-1000001)]) (rest := []) hG hR dX11_plan_84 (lkX11_97 _ rfl) okV_X11_told rfl rfl (c_X11_told (d := 3) (by decide) h31) rfl rfl hdd (Nat.le_refl _) (Nat.le_refl _) (by decide) (fx_ki ?_)
            exact pm_iret hG hF dX11_plan_87 rfl (Nat.le_refl _) (Nat.le_refl _) (fx_ric hE)
    · replace hE := fx_f c4 hE
      refine pm_aloadn hG dX11_plan_29 rfl ?_
      refine pm_ldc hG dX11_plan_30 (ctX11_223 _ rfl) ?_
      obtain ⟨r34, h33, hE⟩ := fb_some hE
      refine pm_callV (As := [.int (-1000002)]) (rest := []) hG hR dX11_plan_32 (lkX11_97 _ rfl) okV_X11_told rfl rfl (c_X11_told (d := 3) (by decide) h33) rfl rfl hdd (Nat.le_refl _) (Nat.le_refl _) (by decide) (fx_ki ?_)
      exact pm_iret hG hF dX11_plan_35 rfl (Nat.le_refl _) (Nat.le_refl _) (fx_ric hE)
  · replace hE := fx_t c1 hE
    refine pm_aloadn hG dX11_plan_11 rfl ?_
    refine pm_ldc hG dX11_plan_12 (ctX11_109 _ rfl) ?_
    obtain ⟨r36, h35, hE⟩ := fb_some hE
    refine pm_callV (As := [.int (-1000001)]) (rest := []) hG hR dX11_plan_14 (lkX11_97 _ rfl) okV_X11_told rfl rfl (c_X11_told (d := 3) (by decide) h35) rfl rfl hdd (Nat.le_refl _) (Nat.le_refl _) (by decide) (fx_ki ?_)
    exact pm_iret hG hF dX11_plan_17 rfl (Nat.le_refl _) (Nat.le_refl _) (fx_ric hE)

set_option maxRecDepth 100000 in
set_option maxHeartbeats 4000000 in
theorem c_X11_power {d : Nat} {B cnt : Nat} {kp : Value} {ρ : pm_S} {S : FS} {za : Int32} {zb : Int32} {zc : Int32} {R : Int32 × FS} (hdd : 3 ≤ d) (hE : f_X11_power S za zb zc = some R) : pm_met mX11_power d 0 0 B [.ref (B + 0), .int za, .int zb, .int zc] cnt (cst B kp S ρ) (pm_Qi (fun v σ' cnt' => v = R.1 ∧ σ' = (cst B kp R.2 ρ) ∧ cnt' = cnt)) := by
  refine pm_enter 0 (by decide) (Nat.le_of_ble_eq_true rfl) rfl (fun G hG hR hF => ?_)
  unfold f_X11_power at hE
  refine pm_iloadn hG dX11_power_0 rfl ?_
  refine pm_iconst (v := 0) hG dX11_power_1 (by decide) ?_
  refine pm_iconst (v := 5) hG dX11_power_2 (by decide) ?_
  refine pm_callS (As := [.int za, .int 0, .int 5]) (rest := []) hG hR dX11_power_3 (lkX11_105 _ rfl) okS_X11_isOutside (tOut (d := 2)) rfl rfl hdd (Nat.le_refl _) (Nat.le_refl _) (by decide) (fx_ki ?_)
  refine pm_if_ne (tgt := 30) hG dX11_power_6 rfl (fun c1 => ?_) (fun c1 => ?_)
  · replace hE := fx_f c1 hE
    refine pm_aloadn hG dX11_power_30 rfl ?_
    refine pm_ldc hG dX11_power_31 (ctX11_109 _ rfl) ?_
    obtain ⟨r3, h2, hE⟩ := fb_some hE
    refine pm_callV (As := [.int (-1000001)]) (rest := []) hG hR dX11_power_33 (lkX11_97 _ rfl) okV_X11_told rfl rfl (c_X11_told (d := 2) (by decide) h2) rfl rfl hdd (Nat.le_refl _) (Nat.le_refl _) (by decide) (fx_ki ?_)
    exact pm_iret hG hF dX11_power_36 rfl (Nat.le_refl _) (Nat.le_refl _) (fx_ric hE)
  · replace hE := fx_t c1 hE
    refine pm_aloadn hG dX11_power_9 rfl ?_
    refine pm_getf hG dX11_power_10 (flX11_12 _ rfl) rfl rfl ?_
    refine pm_iloadn hG dX11_power_13 rfl ?_
    refine pm_callV (As := [.int zb]) (rest := []) hG hR dX11_power_14 (lkX11_174 _ rfl) okV_X7_isLivingOrNobody rfl rfl (c_X7_isLivingOrNobody (d := 2) (by decide) rfl) rfl rfl hdd (Nat.le_refl _) (Nat.le_refl _) (by decide) (fx_ki ?_)
    refine pm_if_eq (tgt := 30) hG dX11_power_17 rfl (fun c4 => ?_) (fun c4 => ?_)
    · replace hE := fx_t c4 hE
      refine pm_aloadn hG dX11_power_30 rfl ?_
      refine pm_ldc hG dX11_power_31 (ctX11_109 _ rfl) ?_
      obtain ⟨r6, h5, hE⟩ := fb_some hE
      refine pm_callV (As := [.int (-1000001)]) (rest := []) hG hR dX11_power_33 (lkX11_97 _ rfl) okV_X11_told rfl rfl (c_X11_told (d := 2) (by decide) h5) rfl rfl hdd (Nat.le_refl _) (Nat.le_refl _) (by decide) (fx_ki ?_)
      exact pm_iret hG hF dX11_power_36 rfl (Nat.le_refl _) (Nat.le_refl _) (fx_ric hE)
    · replace hE := fx_f c4 hE
      refine pm_iloadn hG dX11_power_20 rfl ?_
      refine pm_iconst (v := 0) hG dX11_power_21 (by decide) ?_
      refine pm_bipush (v := 99) hG dX11_power_22 (by decide) ?_
      refine pm_callS (As := [.int zc, .int 0, .int 99]) (rest := []) hG hR dX11_power_24 (lkX11_105 _ rfl) okS_X11_isOutside (tOut (d := 2)) rfl rfl hdd (Nat.le_refl _) (Nat.le_refl _) (by decide) (fx_ki ?_)
      refine pm_if_eq (tgt := 37) hG dX11_power_27 rfl (fun c7 => ?_) (fun c7 => ?_)
      · replace hE := fx_t c7 hE
        refine pm_aloadn hG dX11_power_37 rfl ?_
        refine pm_aloadn hG dX11_power_38 rfl ?_
        refine pm_getf hG dX11_power_39 (flX11_12 _ rfl) rfl rfl ?_
        refine pm_getf hG dX11_power_42 (flX11_161 _ rfl) rfl rfl ?_
        refine pm_callV (As := []) (rest := [.ref (B + 0)]) hG hR dX11_power_45 (lkX11_86 _ rfl) okV_X9_isFull rfl rfl (tisFull_8 (d := 2)) rfl rfl hdd (Nat.le_refl _) (Nat.le_refl _) (by first | decide | exact Nat.le_of_ble_eq_true rfl) (fx_ki ?_)
        refine pm_if_eq (tgt := 56) hG dX11_power_48 rfl (fun c8 => ?_) (fun c8 => ?_)
        · replace hE := fx_t c8 hE
          refine pm_aloadn hG dX11_power_56 rfl ?_
          refine pm_getf hG dX11_power_57 (flX11_12 _ rfl) rfl rfl ?_
          refine pm_iloadn hG dX11_power_60 rfl ?_
          refine pm_iloadn hG dX11_power_61 rfl ?_
          refine pm_iloadn hG dX11_power_62 rfl ?_
          obtain ⟨r10, h9, hE⟩ := fb_some hE
          refine pm_callV (As := [.int za, .int zb, .int zc]) (rest := [.ref (B + 0)]) hG hR dX11_power_63 (lkX11_177 _ rfl) okV_X7_addPower rfl rfl (c_X7_addPower (d := 2) (by decide) h9) rfl rfl hdd (Nat.le_refl _) (Nat.le_refl _) (by first | decide | exact Nat.le_of_ble_eq_true rfl) (fx_ki ?_)
          obtain ⟨r12, h11, hE⟩ := fb_some hE
          refine pm_callV (As := [.int r10.1]) (rest := []) hG hR dX11_power_66 (lkX11_97 _ rfl) okV_X11_told rfl rfl (c_X11_told (d := 2) (by decide) h11) rfl rfl hdd (Nat.le_refl _) (Nat.le_refl _) (by decide) (fx_ki ?_)
          exact pm_iret hG hF dX11_power_69 rfl (Nat.le_refl _) (Nat.le_refl _) (fx_ric hE)
        · replace hE := fx_f c8 hE
          refine pm_ldc hG dX11_power_51 (ctX11_92 _ rfl) ?_
          refine pm_goto (tgt := 66) hG dX11_power_53 rfl ?_
          obtain ⟨r14, h13, hE⟩ := fb_some hE
          refine pm_callV (As := [.int (-1000004)]) (rest := []) hG hR dX11_power_66 (lkX11_97 _ rfl) okV_X11_told rfl rfl (c_X11_told (d := 2) (by decide) h13) rfl rfl hdd (Nat.le_refl _) (Nat.le_refl _) (by decide) (fx_ki ?_)
          exact pm_iret hG hF dX11_power_69 rfl (Nat.le_refl _) (Nat.le_refl _) (fx_ric hE)
      · replace hE := fx_f c7 hE
        refine pm_aloadn hG dX11_power_30 rfl ?_
        refine pm_ldc hG dX11_power_31 (ctX11_109 _ rfl) ?_
        obtain ⟨r16, h15, hE⟩ := fb_some hE
        refine pm_callV (As := [.int (-1000001)]) (rest := []) hG hR dX11_power_33 (lkX11_97 _ rfl) okV_X11_told rfl rfl (c_X11_told (d := 2) (by decide) h15) rfl rfl hdd (Nat.le_refl _) (Nat.le_refl _) (by decide) (fx_ki ?_)
        exact pm_iret hG hF dX11_power_36 rfl (Nat.le_refl _) (Nat.le_refl _) (fx_ric hE)

set_option maxRecDepth 100000 in
set_option maxHeartbeats 4000000 in
theorem c_X3_handsWith {d : Nat} {B cnt : Nat} {kp : Value} {ρ : pm_S} {S : FS} {za : Int32} {R : Int32} (hdd : 3 ≤ d) (hE : q_X3_handsWith S za = some R) : pm_met mX3_handsWith d 0 0 B [.ref (B + 36), .int za] cnt (cst B kp S ρ) (pm_Qi (fun v σ' cnt' => v = R ∧ σ' = (cst B kp S ρ) ∧ cnt' = cnt)) := by
  refine pm_enter 4 (by decide) (Nat.le_of_ble_eq_true rfl) rfl (fun G hG hR hF => ?_)
  unfold q_X3_handsWith at hE
  refine pm_iconst (v := 0) hG dX3_handsWith_0 (by decide) ?_
  refine pm_istoreXn (loc' := [some (.ref (B + 36)), some (.int za), some (.int 0), none, none, none]) hG dX3_handsWith_1 (by decide) (pm_c1b rfl) rfl ?_
  refine pm_aloadn hG dX3_handsWith_2 rfl ?_
  refine pm_getf hG dX3_handsWith_3 (flX3_9 _ rfl) rfl rfl ?_
  refine pm_getf hG dX3_handsWith_6 (flX3_63 _ rfl) rfl rfl ?_
  refine pm_callV (As := []) (rest := []) hG hR dX3_handsWith_9 (lkX3_74 _ rfl) okV_X9_used rfl rfl (tused_8 (d := 2)) rfl rfl hdd (Nat.le_refl _) (Nat.le_refl _) (by decide) (fx_ki ?_)
  refine fx_letv hE (fun x1 hE => ?_)
  refine pm_istoreXn (loc' := [some (.ref (B + 36)), some (.int za), some (.int 0), some (.int x1), none, none]) hG dX3_handsWith_12 (by decide) (pm_c1b rfl) rfl ?_
  refine pm_iconst (v := 0) hG dX3_handsWith_13 (by decide) ?_
  refine pm_istoreXi (loc' := [some (.ref (B + 36)), some (.int za), some (.int 0), some (.int x1), some (.int 0), none]) hG dX3_handsWith_14 (by decide) (pm_c1b rfl) rfl ?_
  have loop16 : ∀ (k16 : Int32 → Int32 → Option Int32), (∀  (x2_2 : Int32) (x2_4 : Int32), k16  x2_2 x2_4 = some R → pm_wp mX3_handsWith G B 68 [some (.ref (B + 36)), some (.int za), some (.int x2_2), some (.int x1), some (.int x2_4), none] [] 0 0 cnt (cst B kp S ρ)) → ∀ (m16 : Nat)  (x2_2 : Int32) (x2_4 : Int32), l_X3_handsWith_16 za S x1 k16 m16  x2_2 x2_4 = some R → pm_wp mX3_handsWith G B 16 [some (.ref (B + 36)), some (.int za), some (.int x2_2), some (.int x1), some (.int x2_4), none] [] 0 0 cnt (cst B kp S ρ) := by
    intro k16 hk16 m16
    induction m16 with
    | zero => intro  x2_2 x2_4 hE; exact fx_no hE
    | succ m16 ih16 =>
      intro  x2_2 x2_4 hE
      rw [l_X3_handsWith_16] at hE
      refine pm_iloadi hG dX3_handsWith_16 rfl ?_
      refine pm_iloadn hG dX3_handsWith_18 rfl ?_
      refine pm_icmp_ge (tgt := 68) hG dX3_handsWith_19 rfl (fun c3 => ?_) (fun c3 => ?_)
      · replace c3 := Int32.not_lt.mpr c3
        replace hE := fx_f c3 hE
        exact hk16 _ _ hE
      · replace c3 := Int32.not_le.mp c3
        replace hE := fx_t c3 hE
        refine pm_aloadn hG dX3_handsWith_22 rfl ?_
        refine pm_getf hG dX3_handsWith_23 (flX3_9 _ rfl) rfl rfl ?_
        refine pm_iloadi hG dX3_handsWith_26 rfl ?_
        refine pm_callV (As := [.int x2_4]) (rest := []) hG hR dX3_handsWith_28 (lkX3_52 _ rfl) okV_X7_whoHas rfl rfl (c_X7_whoHas (d := 2) (by decide) rfl) rfl rfl hdd (Nat.le_refl _) (Nat.le_refl _) (by decide) (fx_ki ?_)
        refine fx_letv hE (fun x4 hE => ?_)
        refine pm_istoreXi (loc' := [some (.ref (B + 36)), some (.int za), some (.int x2_2), some (.int x1), some (.int x2_4), some (.int x4)]) hG dX3_handsWith_31 (by decide) (pm_c1b rfl) rfl ?_
        refine pm_iloadi hG dX3_handsWith_33 rfl ?_
        refine pm_if_lt (tgt := 62) hG dX3_handsWith_35 rfl (fun c5 => ?_) (fun c5 => ?_)
        · replace hE := fx_t c5 hE
          refine pm_iincX (v := x2_4 + 1) (loc' := [some (.ref (B + 36)), some (.int za), some (.int x2_2), some (.int x1), some (.int (x2_4 + 1)), some (.int x4)]) hG dX3_handsWith_62 rfl (by rfl) (by decide) (pm_c1b rfl) rfl ?_
          refine pm_goto (tgt := 16) hG dX3_handsWith_65 rfl ?_
          refine pm_fg 5 (loc' := [some (.ref (B + 36)), some (.int za), some (.int x2_2), some (.int x1), some (.int (x2_4 + 1)), none]) rfl ?_
          exact ih16 _ _ hE
        · replace hE := fx_f c5 hE
          refine pm_aloadn hG dX3_handsWith_38 rfl ?_
          refine pm_getf hG dX3_handsWith_39 (flX3_9 _ rfl) rfl rfl ?_
          refine pm_getf hG dX3_handsWith_42 (flX3_63 _ rfl) rfl rfl ?_
          refine pm_iloadi hG dX3_handsWith_45 rfl ?_
          refine pm_iconst (v := 5) hG dX3_handsWith_47 (by decide) ?_
          refine pm_callV (As := [.int x2_4, .int 5]) (rest := []) hG hR dX3_handsWith_48 (lkX3_35 _ rfl) okV_X9_get rfl rfl (tget_8 (d := 2)) rfl rfl hdd (Nat.le_refl _) (Nat.le_refl _) (by decide) (fx_ki ?_)
          refine pm_iloadn hG dX3_handsWith_51 rfl ?_
          refine pm_icmp_ne (tgt := 62) hG dX3_handsWith_52 rfl (fun c6 => ?_) (fun c6 => ?_)
          · replace hE := fx_f c6 hE
            refine pm_iincX (v := x2_4 + 1) (loc' := [some (.ref (B + 36)), some (.int za), some (.int x2_2), some (.int x1), some (.int (x2_4 + 1)), some (.int x4)]) hG dX3_handsWith_62 rfl (by rfl) (by decide) (pm_c1b rfl) rfl ?_
            refine pm_goto (tgt := 16) hG dX3_handsWith_65 rfl ?_
            refine pm_fg 5 (loc' := [some (.ref (B + 36)), some (.int za), some (.int x2_2), some (.int x1), some (.int (x2_4 + 1)), none]) rfl ?_
            exact ih16 _ _ hE
          · replace hE := fx_t c6 hE
            refine pm_iloadn hG dX3_handsWith_55 rfl ?_
            refine pm_iconst (v := 1) hG dX3_handsWith_56 (by decide) ?_
            refine pm_iloadi hG dX3_handsWith_57 rfl ?_
            refine pm_ishl hG dX3_handsWith_59 ?_
            refine pm_ior hG dX3_handsWith_60 ?_
            refine fx_letv hE (fun x7 hE => ?_)
            refine pm_istoreXn (loc' := [some (.ref (B + 36)), some (.int za), some (.int x7), some (.int x1), some (.int x2_4), some (.int x4)]) hG dX3_handsWith_61 (by decide) (pm_c1b rfl) rfl ?_
            refine pm_iincX (v := x2_4 + 1) (loc' := [some (.ref (B + 36)), some (.int za), some (.int x7), some (.int x1), some (.int (x2_4 + 1)), some (.int x4)]) hG dX3_handsWith_62 rfl (by rfl) (by decide) (pm_c1b rfl) rfl ?_
            refine pm_goto (tgt := 16) hG dX3_handsWith_65 rfl ?_
            refine pm_fg 5 (loc' := [some (.ref (B + 36)), some (.int za), some (.int x7), some (.int x1), some (.int (x2_4 + 1)), none]) rfl ?_
            exact ih16 _ _ hE
  refine loop16 _ (fun  x8_2 x8_4 hE => ?_) _ _ _ hE
  refine pm_iloadn hG dX3_handsWith_68 rfl ?_
  exact pm_iret hG hF dX3_handsWith_69 rfl (Nat.le_refl _) (Nat.le_refl _) (fx_pi (Option.some.inj hE))
