set_option maxRecDepth 100000 in
set_option maxHeartbeats 4000000 in
theorem c_X1_prepare {d : Nat} {B cnt : Nat} {kp : Value} {ρ : pm_S} {S : FS} {za : Int32} {R : Int32 × FS} (hdd : 1 ≤ d) (hE : f_X1_prepare S za = some R) : pm_met mX1_prepare d 0 0 B [.ref (B + 40), .int za] cnt (cst B kp S ρ) (pm_Qv (fun σ' cnt' => σ' = (cst B kp R.2 ρ) ∧ cnt' = cnt)) := by
  refine pm_enter 1 (by decide) (Nat.le_of_ble_eq_true rfl) rfl (fun G hG hR hF => ?_)
  unfold f_X1_prepare at hE
  refine pm_aloadn hG dX1_prepare_0 rfl ?_
  refine pm_iloadn hG dX1_prepare_1 rfl ?_
  refine pm_putf hG dX1_prepare_2 (fwX1_19 _ rfl) rfl rfl rfl ?_
  refine ci_111 ?_
  refine fx_letc hE (fun S1 hE => ?_)
  refine pm_iconst (v := 0) hG dX1_prepare_5 (by decide) ?_
  refine pm_istoreXn (loc' := [some (.ref (B + 40)), some (.int za), some (.int 0)]) hG dX1_prepare_6 (by decide) (pm_c1b rfl) rfl ?_
  have loop7 : ∀ (k7 : FS → Int32 → Option (Int32 × FS)), (∀ (S2 : FS) (x2_2 : Int32), k7 S2  x2_2 = some R → pm_wp mX1_prepare G B 40 [some (.ref (B + 40)), some (.int za), some (.int x2_2)] [] 0 0 cnt (cst B kp S2 ρ)) → ∀ (m7 : Nat) (S2 : FS) (x2_2 : Int32), l_X1_prepare_7 k7 m7 S2  x2_2 = some R → pm_wp mX1_prepare G B 7 [some (.ref (B + 40)), some (.int za), some (.int x2_2)] [] 0 0 cnt (cst B kp S2 ρ) := by
    intro k7 hk7 m7
    induction m7 with
    | zero => intro S2  x2_2 hE; exact fx_no hE
    | succ m7 ih7 =>
      intro S2  x2_2 hE
      rw [l_X1_prepare_7] at hE
      refine pm_iloadn hG dX1_prepare_7 rfl ?_
      refine pm_aloadn hG dX1_prepare_8 rfl ?_
      refine pm_getf hG dX1_prepare_9 (flX1_15 _ rfl) rfl rfl ?_
      refine pm_alen (v := 5) hG dX1_prepare_12 rfl (by decide) ?_
      refine pm_icmp_ge (tgt := 40) hG dX1_prepare_13 rfl (fun c3 => ?_) (fun c3 => ?_)
      · replace c3 := Int32.not_lt.mpr c3
        replace hE := fx_f c3 hE
        exact hk7 _ _ hE
      · replace c3 := Int32.not_le.mp c3
        replace hE := fx_t c3 hE
        refine pm_aloadn hG dX1_prepare_16 rfl ?_
        refine pm_getf hG dX1_prepare_17 (flX1_15 _ rfl) rfl rfl ?_
        refine pm_iloadn hG dX1_prepare_20 rfl ?_
        refine pm_aloadn hG dX1_prepare_21 rfl ?_
        refine pm_getf hG dX1_prepare_22 (flX1_9 _ rfl) rfl rfl ?_
        refine pm_getf hG dX1_prepare_25 (flX1_23 _ rfl) rfl rfl ?_
        refine pm_iloadn hG dX1_prepare_28 rfl ?_
        refine pm_iconst (v := 0) hG dX1_prepare_29 (by decide) ?_
        refine pm_callV (As := [.int x2_2, .int 0]) (rest := [.int x2_2, .ref (B + 41)]) hG hR dX1_prepare_30 (lkX1_28 _ rfl) okV_X9_get rfl rfl (tget_20 (d := 0)) rfl rfl hdd (Nat.le_refl _) (Nat.le_refl _) (by first | decide | exact Nat.le_of_ble_eq_true rfl) (fx_ki ?_)
        obtain ⟨j4, hj4, hE⟩ := fb_some hE
        refine fx_iast hG dX1_prepare_33 rfl hj4 ?_
        refine ca_41 ?_
        refine fx_letc hE (fun S5 hE => ?_)
        refine pm_iincX (v := x2_2 + 1) (loc' := [some (.ref (B + 40)), some (.int za), some (.int (x2_2 + 1))]) hG dX1_prepare_34 rfl (by rfl) (by decide) (pm_c1b rfl) rfl ?_
        refine pm_goto (tgt := 7) hG dX1_prepare_37 rfl ?_
        exact ih7 _ _ hE
  refine loop7 _ (fun S6 x6_2 hE => ?_) _ _ _ hE
  exact pm_vret hG hF dX1_prepare_40 rfl (Nat.le_refl _) (Nat.le_refl _) (fx_rvc hE)

set_option maxRecDepth 100000 in
set_option maxHeartbeats 4000000 in
theorem c_X1_winsWithin_k0 {d : Nat} {B cnt : Nat} {kp : Value} {ρ : pm_S} {S : FS} {zb : Int32} {zc : Int32} {R : Int32} (hdd : 1 ≤ d) (hE : p_X1_winsWithin_k0 S zb zc = R) : pm_met mX1_winsWithin d 0 0 B [.ref (B + 40), .int 0, .int zb, .int zc] cnt (cst B kp S ρ) (pm_Qi (fun v σ' cnt' => v = R ∧ σ' = (cst B kp S ρ) ∧ cnt' = cnt)) := by
  refine pm_enter 0 (by decide) (Nat.le_of_ble_eq_true rfl) rfl (fun G hG hR hF => ?_)
  unfold p_X1_winsWithin_k0 at hE
  refine pm_iloadn hG dX1_winsWithin_0 rfl ?_
  refine pm_if_le (tgt := 28) hG dX1_winsWithin_1 rfl (fun _ => ?_) (fun q => absurd q (by decide))
  refine pm_iconst (v := 0) hG dX1_winsWithin_28 (by decide) ?_
  exact pm_zret hG hF dX1_winsWithin_29 rfl (by rfl) (Nat.le_refl _) (Nat.le_refl _) (fx_pi hE)

set_option maxRecDepth 100000 in
set_option maxHeartbeats 4000000 in
theorem c_X1_winsDespite_k0 {d : Nat} {B cnt : Nat} {kp : Value} {ρ : pm_S} {S : FS} {za : Int32} {zb : Int32} {zd : Int32} {ze : Int32} {R : Int32 × FS} (hdd : 2 ≤ d) (hE : f_X1_winsDespite_k0 S za zb zd ze = some R) : pm_met mX1_winsDespite d 0 0 B [.ref (B + 40), .int za, .int zb, .int 0, .int zd, .int ze] cnt (cst B kp S ρ) (pm_Qi (fun v σ' cnt' => v = R.1 ∧ σ' = (cst B kp R.2 ρ) ∧ cnt' = cnt)) := by
  refine pm_enter 2 (by decide) (Nat.le_of_ble_eq_true rfl) rfl (fun G hG hR hF => ?_)
  unfold f_X1_winsDespite_k0 at hE
  refine pm_iloadn hG dX1_winsDespite_0 rfl ?_
  refine pm_if_lt (tgt := 30) hG dX1_winsDespite_1 rfl (fun c1 => ?_) (fun c1 => ?_)
  · replace hE := fx_t c1 hE
    refine pm_iconst (v := 0) hG dX1_winsDespite_30 (by decide) ?_
    refine pm_istoreXi (loc' := [some (.ref (B + 40)), some (.int za), some (.int zb), some (.int 0), some (.int zd), some (.int ze), some (.int 0), none]) hG dX1_winsDespite_31 (by decide) (pm_c1b rfl) rfl ?_
    refine pm_iloadi hG dX1_winsDespite_33 rfl ?_
    refine pm_if_eq (tgt := 59) hG dX1_winsDespite_35 rfl (fun _ => ?_) (fun q => absurd q (by decide))
    refine pm_iconst (v := 1) hG dX1_winsDespite_59 (by decide) ?_
    exact pm_zret hG hF dX1_winsDespite_60 rfl (by rfl) (Nat.le_refl _) (Nat.le_refl _) (fx_ric hE)
  · replace hE := fx_f c1 hE
    refine pm_iloadn hG dX1_winsDespite_4 rfl ?_
    refine pm_aloadn hG dX1_winsDespite_5 rfl ?_
    refine pm_getf hG dX1_winsDespite_6 (flX1_15 _ rfl) rfl rfl ?_
    refine pm_alen (v := 5) hG dX1_winsDespite_9 rfl (by decide) ?_
    refine pm_icmp_ge (tgt := 30) hG dX1_winsDespite_10 rfl (fun c2 => ?_) (fun c2 => ?_)
    · replace c2 := Int32.not_lt.mpr c2
      replace hE := fx_f c2 hE
      refine pm_iconst (v := 0) hG dX1_winsDespite_30 (by decide) ?_
      refine pm_istoreXi (loc' := [some (.ref (B + 40)), some (.int za), some (.int zb), some (.int 0), some (.int zd), some (.int ze), some (.int 0), none]) hG dX1_winsDespite_31 (by decide) (pm_c1b rfl) rfl ?_
      refine pm_iloadi hG dX1_winsDespite_33 rfl ?_
      refine pm_if_eq (tgt := 59) hG dX1_winsDespite_35 rfl (fun _ => ?_) (fun q => absurd q (by decide))
      refine pm_iconst (v := 1) hG dX1_winsDespite_59 (by decide) ?_
      exact pm_zret hG hF dX1_winsDespite_60 rfl (by rfl) (Nat.le_refl _) (Nat.le_refl _) (fx_ric hE)
    · replace c2 := Int32.not_le.mp c2
      replace hE := fx_t c2 hE
      refine pm_iloadn hG dX1_winsDespite_13 rfl ?_
      refine pm_if_lt (tgt := 30) hG dX1_winsDespite_14 rfl (fun c3 => ?_) (fun c3 => ?_)
      · replace hE := fx_t c3 hE
        refine pm_iconst (v := 0) hG dX1_winsDespite_30 (by decide) ?_
        refine pm_istoreXi (loc' := [some (.ref (B + 40)), some (.int za), some (.int zb), some (.int 0), some (.int zd), some (.int ze), some (.int 0), none]) hG dX1_winsDespite_31 (by decide) (pm_c1b rfl) rfl ?_
        refine pm_iloadi hG dX1_winsDespite_33 rfl ?_
        refine pm_if_eq (tgt := 59) hG dX1_winsDespite_35 rfl (fun _ => ?_) (fun q => absurd q (by decide))
        refine pm_iconst (v := 1) hG dX1_winsDespite_59 (by decide) ?_
        exact pm_zret hG hF dX1_winsDespite_60 rfl (by rfl) (Nat.le_refl _) (Nat.le_refl _) (fx_ric hE)
      · replace hE := fx_f c3 hE
        refine pm_iloadn hG dX1_winsDespite_17 rfl ?_
        refine pm_aloadn hG dX1_winsDespite_18 rfl ?_
        refine pm_getf hG dX1_winsDespite_19 (flX1_15 _ rfl) rfl rfl ?_
        refine pm_alen (v := 5) hG dX1_winsDespite_22 rfl (by decide) ?_
        refine pm_icmp_ge (tgt := 30) hG dX1_winsDespite_23 rfl (fun c4 => ?_) (fun c4 => ?_)
        · replace c4 := Int32.not_lt.mpr c4
          replace hE := fx_f c4 hE
          refine pm_iconst (v := 0) hG dX1_winsDespite_30 (by decide) ?_
          refine pm_istoreXi (loc' := [some (.ref (B + 40)), some (.int za), some (.int zb), some (.int 0), some (.int zd), some (.int ze), some (.int 0), none]) hG dX1_winsDespite_31 (by decide) (pm_c1b rfl) rfl ?_
          refine pm_iloadi hG dX1_winsDespite_33 rfl ?_
          refine pm_if_eq (tgt := 59) hG dX1_winsDespite_35 rfl (fun _ => ?_) (fun q => absurd q (by decide))
          refine pm_iconst (v := 1) hG dX1_winsDespite_59 (by decide) ?_
          exact pm_zret hG hF dX1_winsDespite_60 rfl (by rfl) (Nat.le_refl _) (Nat.le_refl _) (fx_ric hE)
        · replace c4 := Int32.not_le.mp c4
          replace hE := fx_t c4 hE
          refine pm_iconst (v := 1) hG dX1_winsDespite_26 (by decide) ?_
          refine pm_goto (tgt := 31) hG dX1_winsDespite_27 rfl ?_
          refine pm_istoreXi (loc' := [some (.ref (B + 40)), some (.int za), some (.int zb), some (.int 0), some (.int zd), some (.int ze), some (.int 1), none]) hG dX1_winsDespite_31 (by decide) (pm_c1b rfl) rfl ?_
          refine pm_iloadi hG dX1_winsDespite_33 rfl ?_
          refine pm_if_eq (tgt := 59) hG dX1_winsDespite_35 rfl (fun q => absurd q (by decide)) (fun _ => ?_)
          refine pm_aloadn hG dX1_winsDespite_38 rfl ?_
          refine pm_getf hG dX1_winsDespite_39 (flX1_15 _ rfl) rfl rfl ?_
          refine pm_iloadn hG dX1_winsDespite_42 rfl ?_
          obtain ⟨j5, hj5, hE⟩ := fb_some hE
          refine fx_iald hG dX1_winsDespite_43 rfl hj5 ?_
          refine pm_iconst (v := 1) hG dX1_winsDespite_44 (by decide) ?_
          refine pm_icmp_lt (tgt := 59) hG dX1_winsDespite_45 rfl (fun c6 => ?_) (fun c6 => ?_)
          · replace hE := fx_t c6 hE
            refine pm_iconst (v := 1) hG dX1_winsDespite_59 (by decide) ?_
            exact pm_zret hG hF dX1_winsDespite_60 rfl (by rfl) (Nat.le_refl _) (Nat.le_refl _) (fx_ric hE)
          · replace hE := fx_f c6 hE
            refine pm_aloadn hG dX1_winsDespite_48 rfl ?_
            refine pm_getf hG dX1_winsDespite_49 (flX1_15 _ rfl) rfl rfl ?_
            refine pm_iloadn hG dX1_winsDespite_52 rfl ?_
            obtain ⟨j7, hj7, hE⟩ := fb_some hE
            refine fx_iald hG dX1_winsDespite_53 rfl hj7 ?_
            refine pm_bipush (v := 6) hG dX1_winsDespite_54 (by decide) ?_
            refine pm_icmp_lt (tgt := 61) hG dX1_winsDespite_56 rfl (fun c8 => ?_) (fun c8 => ?_)
            · replace hE := fx_t c8 hE
              refine pm_aloadn hG dX1_winsDespite_61 rfl ?_
              refine pm_getf hG dX1_winsDespite_62 (flX1_15 _ rfl) rfl rfl ?_
              refine pm_iloadn hG dX1_winsDespite_65 rfl ?_
              refine pm_dup2 hG dX1_winsDespite_66 rfl rfl ?_
              refine fx_iald hG dX1_winsDespite_67 rfl hj5 ?_
              refine pm_iconst (v := 1) hG dX1_winsDespite_68 (by decide) ?_
              refine pm_isub hG dX1_winsDespite_69 ?_
              refine fx_iast hG dX1_winsDespite_70 rfl hj5 ?_
              refine ca_41 ?_
              refine fx_letc hE (fun S9 hE => ?_)
              refine pm_aloadn hG dX1_winsDespite_71 rfl ?_
              refine pm_getf hG dX1_winsDespite_72 (flX1_15 _ rfl) rfl rfl ?_
              refine pm_iloadn hG dX1_winsDespite_75 rfl ?_
              refine pm_dup2 hG dX1_winsDespite_76 rfl rfl ?_
              refine fx_iald hG dX1_winsDespite_77 rfl hj7 ?_
              refine pm_iconst (v := 1) hG dX1_winsDespite_78 (by decide) ?_
              refine pm_iadd hG dX1_winsDespite_79 ?_
              refine fx_iast hG dX1_winsDespite_80 rfl hj7 ?_
              refine ca_41 ?_
              refine fx_letc hE (fun S10 hE => ?_)
              refine pm_aloadn hG dX1_winsDespite_81 rfl ?_
              refine pm_iloadn hG dX1_winsDespite_82 rfl ?_
              refine pm_iloadi hG dX1_winsDespite_83 rfl ?_
              refine pm_iloadi hG dX1_winsDespite_85 rfl ?_
              refine pm_callV (As := [.int 0, .int zd, .int ze]) (rest := []) hG hR dX1_winsDespite_87 (lkX1_44 _ rfl) okV_X1_winsWithin rfl rfl (c_X1_winsWithin_k0 (d := 1) (by decide) rfl) rfl rfl hdd (Nat.le_refl _) (Nat.le_refl _) (by decide) (fx_ki ?_)
              refine fx_letv hE (fun x11 hE => ?_)
              refine pm_istoreXi (loc' := [some (.ref (B + 40)), some (.int za), some (.int zb), some (.int 0), some (.int zd), some (.int ze), some (.int 1), some (.int x11)]) hG dX1_winsDespite_90 (by decide) (pm_c1b rfl) rfl ?_
              refine pm_aloadn hG dX1_winsDespite_92 rfl ?_
              refine pm_getf hG dX1_winsDespite_93 (flX1_15 _ rfl) rfl rfl ?_
              refine pm_iloadn hG dX1_winsDespite_96 rfl ?_
              refine pm_dup2 hG dX1_winsDespite_97 rfl rfl ?_
              refine fx_iald hG dX1_winsDespite_98 rfl hj5 ?_
              refine pm_iconst (v := 1) hG dX1_winsDespite_99 (by decide) ?_
              refine pm_iadd hG dX1_winsDespite_100 ?_
              refine fx_iast hG dX1_winsDespite_101 rfl hj5 ?_
              refine ca_41 ?_
              refine fx_letc hE (fun S12 hE => ?_)
              refine pm_aloadn hG dX1_winsDespite_102 rfl ?_
              refine pm_getf hG dX1_winsDespite_103 (flX1_15 _ rfl) rfl rfl ?_
              refine pm_iloadn hG dX1_winsDespite_106 rfl ?_
              refine pm_dup2 hG dX1_winsDespite_107 rfl rfl ?_
              refine fx_iald hG dX1_winsDespite_108 rfl hj7 ?_
              refine pm_iconst (v := 1) hG dX1_winsDespite_109 (by decide) ?_
              refine pm_isub hG dX1_winsDespite_110 ?_
              refine fx_iast hG dX1_winsDespite_111 rfl hj7 ?_
              refine ca_41 ?_
              refine fx_letc hE (fun S13 hE => ?_)
              refine pm_iloadi hG dX1_winsDespite_112 rfl ?_
              obtain ⟨b14, hb14, hE⟩ := fb_some hE
              exact pm_zret hG hF dX1_winsDespite_114 rfl (bz_n hb14) (Nat.le_refl _) (Nat.le_refl _) (fx_rbc hb14 hE)
            · replace hE := fx_f c8 hE
              refine pm_iconst (v := 1) hG dX1_winsDespite_59 (by decide) ?_
              exact pm_zret hG hF dX1_winsDespite_60 rfl (by rfl) (Nat.le_refl _) (Nat.le_refl _) (fx_ric hE)

set_option maxRecDepth 100000 in
set_option maxHeartbeats 4000000 in
theorem c_X1_winsWhatever_k0 {d : Nat} {B cnt : Nat} {kp : Value} {ρ : pm_S} {S : FS} {zb : Int32} {zc : Int32} {R : Int32 × FS} (hdd : 3 ≤ d) (hE : f_X1_winsWhatever_k0 S zb zc = some R) : pm_met mX1_winsWhatever d 0 0 B [.ref (B + 40), .int 0, .int zb, .int zc] cnt (cst B kp S ρ) (pm_Qi (fun v σ' cnt' => v = R.1 ∧ σ' = (cst B kp R.2 ρ) ∧ cnt' = cnt)) := by
  refine pm_enter 2 (by decide) (Nat.le_of_ble_eq_true rfl) rfl (fun G hG hR hF => ?_)
  unfold f_X1_winsWhatever_k0 at hE
  refine pm_aloadn hG dX1_winsWhatever_0 rfl ?_
  refine pm_iloadn hG dX1_winsWhatever_1 rfl ?_
  refine pm_iloadn hG dX1_winsWhatever_2 rfl ?_
  refine pm_iloadn hG dX1_winsWhatever_3 rfl ?_
  refine pm_callV (As := [.int 0, .int zb, .int zc]) (rest := []) hG hR dX1_winsWhatever_4 (lkX1_44 _ rfl) okV_X1_winsWithin rfl rfl (c_X1_winsWithin_k0 (d := 2) (by decide) rfl) rfl rfl hdd (Nat.le_refl _) (Nat.le_refl _) (by decide) (fx_ki ?_)
  refine fx_letv hE (fun x1 hE => ?_)
  refine pm_istoreXi (loc' := [some (.ref (B + 40)), some (.int 0), some (.int zb), some (.int zc), some (.int x1), none]) hG dX1_winsWhatever_7 (by decide) (pm_c1b rfl) rfl ?_
  refine pm_iconst (v := 0) hG dX1_winsWhatever_9 (by decide) ?_
  refine pm_iloadn hG dX1_winsWhatever_10 rfl ?_
  refine pm_mmax hG hR dX1_winsWhatever_11 (mmX1_47 _ rfl) pm_mwmax (by omega) (by first | decide | exact Nat.le_of_ble_eq_true rfl) (Nat.le_refl _) (Nat.le_refl _) ?_
  refine pm_top (v := imax 0 zb) rfl ?_
  refine fx_letv hE (fun x2 hE => ?_)
  refine pm_istoreXi (loc' := [some (.ref (B + 40)), some (.int 0), some (.int zb), some (.int zc), some (.int x1), some (.int x2)]) hG dX1_winsWhatever_14 (by decide) (pm_c1b rfl) rfl ?_
  have loop16 : ∀ (k16 : FS → Int32 → Int32 → Option (Int32 × FS)), (∀ (S3 : FS) (x3_4 : Int32) (x3_5 : Int32), k16 S3  x3_4 x3_5 = some R → pm_wp mX1_winsWhatever G B 78 [some (.ref (B + 40)), some (.int 0), some (.int zb), some (.int zc), some (.int x3_4), some (.int x3_5)] [] 0 0 cnt (cst B kp S3 ρ)) → ∀ (m16 : Nat) (S3 : FS) (x3_4 : Int32) (x3_5 : Int32), l_X1_winsWhatever_k0_16 zb zc k16 m16 S3  x3_4 x3_5 = some R → pm_wp mX1_winsWhatever G B 16 [some (.ref (B + 40)), some (.int 0), some (.int zb), some (.int zc), some (.int x3_4), some (.int x3_5)] [] 0 0 cnt (cst B kp S3 ρ) := by
    intro k16 hk16 m16
    induction m16 with
    | zero => intro S3  x3_4 x3_5 hE; exact fx_no hE
    | succ m16 ih16 =>
      intro S3  x3_4 x3_5 hE
      rw [l_X1_winsWhatever_k0_16] at hE
      refine pm_iloadi hG dX1_winsWhatever_16 rfl ?_
      refine pm_aloadn hG dX1_winsWhatever_18 rfl ?_
      refine pm_getf hG dX1_winsWhatever_19 (flX1_15 _ rfl) rfl rfl ?_
      refine pm_alen (v := 5) hG dX1_winsWhatever_22 rfl (by decide) ?_
      refine pm_iconst (v := 1) hG dX1_winsWhatever_23 (by decide) ?_
      refine pm_isub hG dX1_winsWhatever_24 ?_
      refine pm_top (v := 4) (by decide) ?_
      refine pm_icmp_ge (tgt := 78) hG dX1_winsWhatever_25 rfl (fun c4 => ?_) (fun c4 => ?_)
      · replace c4 := Int32.not_lt.mpr c4
        replace hE := fx_f c4 hE
        exact hk16 _ _ _ hE
      · replace c4 := Int32.not_le.mp c4
        replace hE := fx_t c4 hE
        refine pm_iloadi hG dX1_winsWhatever_28 rfl ?_
        refine pm_if_eq (tgt := 78) hG dX1_winsWhatever_30 rfl (fun c5 => ?_) (fun c5 => ?_)
        · replace hE := fx_t c5 hE
          exact hk16 _ _ _ hE
        · replace hE := fx_f c5 hE
          refine pm_aloadn hG dX1_winsWhatever_33 rfl ?_
          refine pm_iloadi hG dX1_winsWhatever_34 rfl ?_
          refine pm_iloadi hG dX1_winsWhatever_36 rfl ?_
          refine pm_iconst (v := 1) hG dX1_winsWhatever_38 (by decide) ?_
          refine pm_iadd hG dX1_winsWhatever_39 ?_
          refine pm_iloadn hG dX1_winsWhatever_40 rfl ?_
          refine pm_iloadn hG dX1_winsWhatever_41 rfl ?_
          refine pm_iloadn hG dX1_winsWhatever_42 rfl ?_
          obtain ⟨r7, h6, hE⟩ := fb_some hE
          refine pm_callV (As := [.int x3_5, .int (x3_5 + 1), .int 0, .int zb, .int zc]) (rest := []) hG hR dX1_winsWhatever_43 (lkX1_52 _ rfl) okV_X1_winsDespite rfl rfl (c_X1_winsDespite_k0 (d := 2) (by decide) h6) rfl rfl hdd (Nat.le_refl _) (Nat.le_refl _) (by decide) (fx_ki ?_)
          refine pm_if_eq (tgt := 69) hG dX1_winsWhatever_46 rfl (fun c8 => ?_) (fun c8 => ?_)
          · replace hE := fx_t c8 hE
            refine pm_iconst (v := 0) hG dX1_winsWhatever_69 (by decide) ?_
            refine pm_istoreXi (loc' := [some (.ref (B + 40)), some (.int 0), some (.int zb), some (.int zc), some (.int 0), some (.int x3_5)]) hG dX1_winsWhatever_70 (by decide) (pm_c1b rfl) rfl ?_
            refine pm_iincX (v := x3_5 + 1) (loc' := [some (.ref (B + 40)), some (.int 0), some (.int zb), some (.int zc), some (.int 0), some (.int (x3_5 + 1))]) hG dX1_winsWhatever_72 rfl (by rfl) (by decide) (pm_c1b rfl) rfl ?_
            refine pm_goto (tgt := 16) hG dX1_winsWhatever_75 rfl ?_
            exact ih16 _ _ _ hE
          · replace hE := fx_f c8 hE
            refine pm_aloadn hG dX1_winsWhatever_49 rfl ?_
            refine pm_iloadi hG dX1_winsWhatever_50 rfl ?_
            refine pm_iconst (v := 1) hG dX1_winsWhatever_52 (by decide) ?_
            refine pm_iadd hG dX1_winsWhatever_53 ?_
            refine pm_iloadi hG dX1_winsWhatever_54 rfl ?_
            refine pm_iloadn hG dX1_winsWhatever_56 rfl ?_
            refine pm_iloadn hG dX1_winsWhatever_57 rfl ?_
            refine pm_iloadn hG dX1_winsWhatever_58 rfl ?_
            obtain ⟨r10, h9, hE⟩ := fb_some hE
            refine pm_callV (As := [.int (x3_5 + 1), .int x3_5, .int 0, .int zb, .int zc]) (rest := []) hG hR dX1_winsWhatever_59 (lkX1_52 _ rfl) okV_X1_winsDespite rfl rfl (c_X1_winsDespite_k0 (d := 2) (by decide) h9) rfl rfl hdd (Nat.le_refl _) (Nat.le_refl _) (by decide) (fx_ki ?_)
            refine pm_if_eq (tgt := 69) hG dX1_winsWhatever_62 rfl (fun c11 => ?_) (fun c11 => ?_)
            · replace hE := fx_t c11 hE
              refine pm_iconst (v := 0) hG dX1_winsWhatever_69 (by decide) ?_
              refine pm_istoreXi (loc' := [some (.ref (B + 40)), some (.int 0), some (.int zb), some (.int zc), some (.int 0), some (.int x3_5)]) hG dX1_winsWhatever_70 (by decide) (pm_c1b rfl) rfl ?_
              refine pm_iincX (v := x3_5 + 1) (loc' := [some (.ref (B + 40)), some (.int 0), some (.int zb), some (.int zc), some (.int 0), some (.int (x3_5 + 1))]) hG dX1_winsWhatever_72 rfl (by rfl) (by decide) (pm_c1b rfl) rfl ?_
              refine pm_goto (tgt := 16) hG dX1_winsWhatever_75 rfl ?_
              exact ih16 _ _ _ hE
            · replace hE := fx_f c11 hE
              refine pm_iconst (v := 1) hG dX1_winsWhatever_65 (by decide) ?_
              refine pm_goto (tgt := 70) hG dX1_winsWhatever_66 rfl ?_
              refine pm_istoreXi (loc' := [some (.ref (B + 40)), some (.int 0), some (.int zb), some (.int zc), some (.int 1), some (.int x3_5)]) hG dX1_winsWhatever_70 (by decide) (pm_c1b rfl) rfl ?_
              refine pm_iincX (v := x3_5 + 1) (loc' := [some (.ref (B + 40)), some (.int 0), some (.int zb), some (.int zc), some (.int 1), some (.int (x3_5 + 1))]) hG dX1_winsWhatever_72 rfl (by rfl) (by decide) (pm_c1b rfl) rfl ?_
              refine pm_goto (tgt := 16) hG dX1_winsWhatever_75 rfl ?_
              exact ih16 _ _ _ hE
  refine loop16 _ (fun S12 x12_4 x12_5 hE => ?_) _ _ _ _ hE
  refine pm_iloadi hG dX1_winsWhatever_78 rfl ?_
  obtain ⟨b13, hb13, hE⟩ := fb_some hE
  exact pm_zret hG hF dX1_winsWhatever_80 rfl (bz_n hb13) (Nat.le_refl _) (Nat.le_refl _) (fx_rbc hb13 hE)

set_option maxRecDepth 100000 in
set_option maxHeartbeats 4000000 in
theorem c_X1_winsByTaking_k1 {d : Nat} {B cnt : Nat} {kp : Value} {ρ : pm_S} {S : FS} {zb : Int32} {zc : Int32} {R : Int32 × FS} (hdd : 4 ≤ d) (hE : f_X1_winsByTaking_k1 S zb zc = some R) : pm_met mX1_winsByTaking d 0 0 B [.ref (B + 40), .int 1, .int zb, .int zc] cnt (cst B kp S ρ) (pm_Qi (fun v σ' cnt' => v = R.1 ∧ σ' = (cst B kp R.2 ρ) ∧ cnt' = cnt)) := by
  refine pm_enter 0 (by decide) (Nat.le_of_ble_eq_true rfl) rfl (fun G hG hR hF => ?_)
  unfold f_X1_winsByTaking_k1 at hE
  refine pm_iloadn hG dX1_winsByTaking_0 rfl ?_
  refine pm_if_lt (tgt := 23) hG dX1_winsByTaking_1 rfl (fun c1 => ?_) (fun c1 => ?_)
  · replace hE := fx_t c1 hE
    refine pm_iconst (v := 0) hG dX1_winsByTaking_23 (by decide) ?_
    exact pm_zret hG hF dX1_winsByTaking_24 rfl (by rfl) (Nat.le_refl _) (Nat.le_refl _) (fx_ric hE)
  · replace hE := fx_f c1 hE
    refine pm_iloadn hG dX1_winsByTaking_4 rfl ?_
    refine pm_aloadn hG dX1_winsByTaking_5 rfl ?_
    refine pm_getf hG dX1_winsByTaking_6 (flX1_15 _ rfl) rfl rfl ?_
    refine pm_alen (v := 5) hG dX1_winsByTaking_9 rfl (by decide) ?_
    refine pm_icmp_ge (tgt := 23) hG dX1_winsByTaking_10 rfl (fun c2 => ?_) (fun c2 => ?_)
    · replace c2 := Int32.not_lt.mpr c2
      replace hE := fx_f c2 hE
      refine pm_iconst (v := 0) hG dX1_winsByTaking_23 (by decide) ?_
      exact pm_zret hG hF dX1_winsByTaking_24 rfl (by rfl) (Nat.le_refl _) (Nat.le_refl _) (fx_ric hE)
    · replace c2 := Int32.not_le.mp c2
      replace hE := fx_t c2 hE
      refine pm_iloadn hG dX1_winsByTaking_13 rfl ?_
      refine pm_aloadn hG dX1_winsByTaking_14 rfl ?_
      refine pm_getf hG dX1_winsByTaking_15 (flX1_15 _ rfl) rfl rfl ?_
      refine pm_iloadn hG dX1_winsByTaking_18 rfl ?_
      obtain ⟨j3, hj3, hE⟩ := fb_some hE
      refine fx_iald hG dX1_winsByTaking_19 rfl hj3 ?_
      refine pm_icmp_gt (tgt := 25) hG dX1_winsByTaking_20 rfl (fun c4 => ?_) (fun c4 => ?_)
      · replace hE := fx_t c4 hE
        refine pm_iloadn hG dX1_winsByTaking_25 rfl ?_
        refine pm_aloadn hG dX1_winsByTaking_26 rfl ?_
        refine pm_getf hG dX1_winsByTaking_27 (flX1_19 _ rfl) rfl rfl ?_
        refine pm_icmp_eq (tgt := 54) hG dX1_winsByTaking_30 rfl (fun c5 => ?_) (fun c5 => ?_)
        · replace hE := fx_t c5 hE
          refine pm_iconst (v := 1) hG dX1_winsByTaking_54 (by decide) ?_
          refine pm_goto (tgt := 59) hG dX1_winsByTaking_55 rfl ?_
          exact pm_zret hG hF dX1_winsByTaking_59 rfl (by rfl) (Nat.le_refl _) (Nat.le_refl _) (fx_ric hE)
        · replace hE := fx_f c5 hE
          refine pm_aloadn hG dX1_winsByTaking_33 rfl ?_
          refine pm_iloadn hG dX1_winsByTaking_34 rfl ?_
          refine pm_iconst (v := 1) hG dX1_winsByTaking_35 (by decide) ?_
          refine pm_isub hG dX1_winsByTaking_36 ?_
          refine pm_top (v := 0) (by decide) ?_
          refine pm_iloadn hG dX1_winsByTaking_37 rfl ?_
          refine pm_iconst (v := 1) hG dX1_winsByTaking_38 (by decide) ?_
          refine pm_iadd hG dX1_winsByTaking_39 ?_
          refine pm_iloadn hG dX1_winsByTaking_40 rfl ?_
          refine pm_aloadn hG dX1_winsByTaking_41 rfl ?_
          refine pm_getf hG dX1_winsByTaking_42 (flX1_15 _ rfl) rfl rfl ?_
          refine pm_iloadn hG dX1_winsByTaking_45 rfl ?_
          refine fx_iald hG dX1_winsByTaking_46 rfl hj3 ?_
          refine pm_isub hG dX1_winsByTaking_47 ?_
          obtain ⟨r7, h6, hE⟩ := fb_some hE
          refine pm_callV (As := [.int 0, .int (zb + 1), .int (zc - (S.2 41 j3))]) (rest := []) hG hR dX1_winsByTaking_48 (lkX1_41 _ rfl) okV_X1_winsWhatever rfl rfl (c_X1_winsWhatever_k0 (d := 3) (by decide) h6) rfl rfl hdd (Nat.le_refl _) (Nat.le_refl _) (by decide) (fx_ki ?_)
          refine pm_if_eq (tgt := 58) hG dX1_winsByTaking_51 rfl (fun c8 => ?_) (fun c8 => ?_)
          · replace hE := fx_t c8 hE
            refine pm_iconst (v := 0) hG dX1_winsByTaking_58 (by decide) ?_
            exact pm_zret hG hF dX1_winsByTaking_59 rfl (by rfl) (Nat.le_refl _) (Nat.le_refl _) (fx_ric hE)
          · replace hE := fx_f c8 hE
            refine pm_iconst (v := 1) hG dX1_winsByTaking_54 (by decide) ?_
            refine pm_goto (tgt := 59) hG dX1_winsByTaking_55 rfl ?_
            exact pm_zret hG hF dX1_winsByTaking_59 rfl (by rfl) (Nat.le_refl _) (Nat.le_refl _) (fx_ric hE)
      · replace hE := fx_f c4 hE
        refine pm_iconst (v := 0) hG dX1_winsByTaking_23 (by decide) ?_
        exact pm_zret hG hF dX1_winsByTaking_24 rfl (by rfl) (Nat.le_refl _) (Nat.le_refl _) (fx_ric hE)

set_option maxRecDepth 100000 in
set_option maxHeartbeats 4000000 in
theorem c_X1_winsByWaiting_k1 {d : Nat} {B cnt : Nat} {kp : Value} {ρ : pm_S} {S : FS} {zb : Int32} {zc : Int32} {R : Int32 × FS} (hdd : 4 ≤ d) (hE : f_X1_winsByWaiting_k1 S zb zc = some R) : pm_met mX1_winsByWaiting d 0 0 B [.ref (B + 40), .int 1, .int zb, .int zc] cnt (cst B kp S ρ) (pm_Qi (fun v σ' cnt' => v = R.1 ∧ σ' = (cst B kp R.2 ρ) ∧ cnt' = cnt)) := by
  refine pm_enter 0 (by decide) (Nat.le_of_ble_eq_true rfl) rfl (fun G hG hR hF => ?_)
  unfold f_X1_winsByWaiting_k1 at hE
  refine pm_aloadn hG dX1_winsByWaiting_0 rfl ?_
  refine pm_iloadn hG dX1_winsByWaiting_1 rfl ?_
  refine pm_iconst (v := 1) hG dX1_winsByWaiting_2 (by decide) ?_
  refine pm_isub hG dX1_winsByWaiting_3 ?_
  refine pm_top (v := 0) (by decide) ?_
  refine pm_iloadn hG dX1_winsByWaiting_4 rfl ?_
  refine pm_iloadn hG dX1_winsByWaiting_5 rfl ?_
  obtain ⟨r2, h1, hE⟩ := fb_some hE
  refine pm_callV (As := [.int 0, .int zb, .int zc]) (rest := []) hG hR dX1_winsByWaiting_6 (lkX1_41 _ rfl) okV_X1_winsWhatever rfl rfl (c_X1_winsWhatever_k0 (d := 3) (by decide) h1) rfl rfl hdd (Nat.le_refl _) (Nat.le_refl _) (by decide) (fx_ki ?_)
  obtain ⟨b3, hb3, hE⟩ := fb_some hE
  exact pm_zret hG hF dX1_winsByWaiting_9 rfl (bz_n hb3) (Nat.le_refl _) (Nat.le_refl _) (fx_rbc hb3 hE)

set_option maxRecDepth 100000 in
set_option maxHeartbeats 4000000 in
theorem c_X1_winsWithin_k1 {d : Nat} {B cnt : Nat} {kp : Value} {ρ : pm_S} {S : FS} {zb : Int32} {zc : Int32} {R : Int32 × FS} (hdd : 5 ≤ d) (hE : f_X1_winsWithin_k1 S zb zc = some R) : pm_met mX1_winsWithin d 0 0 B [.ref (B + 40), .int 1, .int zb, .int zc] cnt (cst B kp S ρ) (pm_Qi (fun v σ' cnt' => v = R.1 ∧ σ' = (cst B kp R.2 ρ) ∧ cnt' = cnt)) := by
  refine pm_enter 0 (by decide) (Nat.le_of_ble_eq_true rfl) rfl (fun G hG hR hF => ?_)
  unfold f_X1_winsWithin_k1 at hE
  refine pm_iloadn hG dX1_winsWithin_0 rfl ?_
  refine pm_if_le (tgt := 28) hG dX1_winsWithin_1 rfl (fun q => absurd q (by decide)) (fun _ => ?_)
  refine pm_aloadn hG dX1_winsWithin_4 rfl ?_
  refine pm_iloadn hG dX1_winsWithin_5 rfl ?_
  refine pm_iloadn hG dX1_winsWithin_6 rfl ?_
  refine pm_iloadn hG dX1_winsWithin_7 rfl ?_
  obtain ⟨r2, h1, hE⟩ := fb_some hE
  refine pm_callV (As := [.int 1, .int zb, .int zc]) (rest := []) hG hR dX1_winsWithin_8 (lkX1_34 _ rfl) okV_X1_winsByTaking rfl rfl (c_X1_winsByTaking_k1 (d := 4) (by decide) h1) rfl rfl hdd (Nat.le_refl _) (Nat.le_refl _) (by decide) (fx_ki ?_)
  refine pm_if_ne (tgt := 24) hG dX1_winsWithin_11 rfl (fun c3 => ?_) (fun c3 => ?_)
  · replace hE := fx_f c3 hE
    refine pm_iconst (v := 1) hG dX1_winsWithin_24 (by decide) ?_
    refine pm_goto (tgt := 29) hG dX1_winsWithin_25 rfl ?_
    exact pm_zret hG hF dX1_winsWithin_29 rfl (by rfl) (Nat.le_refl _) (Nat.le_refl _) (fx_ric hE)
  · replace hE := fx_t c3 hE
    refine pm_aloadn hG dX1_winsWithin_14 rfl ?_
    refine pm_iloadn hG dX1_winsWithin_15 rfl ?_
    refine pm_iloadn hG dX1_winsWithin_16 rfl ?_
    refine pm_iloadn hG dX1_winsWithin_17 rfl ?_
    obtain ⟨r5, h4, hE⟩ := fb_some hE
    refine pm_callV (As := [.int 1, .int zb, .int zc]) (rest := []) hG hR dX1_winsWithin_18 (lkX1_38 _ rfl) okV_X1_winsByWaiting rfl rfl (c_X1_winsByWaiting_k1 (d := 4) (by decide) h4) rfl rfl hdd (Nat.le_refl _) (Nat.le_refl _) (by decide) (fx_ki ?_)
    refine pm_if_eq (tgt := 28) hG dX1_winsWithin_21 rfl (fun c6 => ?_) (fun c6 => ?_)
    · replace hE := fx_t c6 hE
      refine pm_iconst (v := 0) hG dX1_winsWithin_28 (by decide) ?_
      exact pm_zret hG hF dX1_winsWithin_29 rfl (by rfl) (Nat.le_refl _) (Nat.le_refl _) (fx_ric hE)
    · replace hE := fx_f c6 hE
      refine pm_iconst (v := 1) hG dX1_winsWithin_24 (by decide) ?_
      refine pm_goto (tgt := 29) hG dX1_winsWithin_25 rfl ?_
      exact pm_zret hG hF dX1_winsWithin_29 rfl (by rfl) (Nat.le_refl _) (Nat.le_refl _) (fx_ric hE)

set_option maxRecDepth 100000 in
set_option maxHeartbeats 4000000 in
theorem c_X1_winsDespite_k1 {d : Nat} {B cnt : Nat} {kp : Value} {ρ : pm_S} {S : FS} {za : Int32} {zb : Int32} {zd : Int32} {ze : Int32} {R : Int32 × FS} (hdd : 6 ≤ d) (hE : f_X1_winsDespite_k1 S za zb zd ze = some R) : pm_met mX1_winsDespite d 0 0 B [.ref (B + 40), .int za, .int zb, .int 1, .int zd, .int ze] cnt (cst B kp S ρ) (pm_Qi (fun v σ' cnt' => v = R.1 ∧ σ' = (cst B kp R.2 ρ) ∧ cnt' = cnt)) := by
  refine pm_enter 2 (by decide) (Nat.le_of_ble_eq_true rfl) rfl (fun G hG hR hF => ?_)
  unfold f_X1_winsDespite_k1 at hE
  refine pm_iloadn hG dX1_winsDespite_0 rfl ?_
  refine pm_if_lt (tgt := 30) hG dX1_winsDespite_1 rfl (fun c1 => ?_) (fun c1 => ?_)
  · replace hE := fx_t c1 hE
    refine pm_iconst (v := 0) hG dX1_winsDespite_30 (by decide) ?_
    refine pm_istoreXi (loc' := [some (.ref (B + 40)), some (.int za), some (.int zb), some (.int 1), some (.int zd), some (.int ze), some (.int 0), none]) hG dX1_winsDespite_31 (by decide) (pm_c1b rfl) rfl ?_
    refine pm_iloadi hG dX1_winsDespite_33 rfl ?_
    refine pm_if_eq (tgt := 59) hG dX1_winsDespite_35 rfl (fun _ => ?_) (fun q => absurd q (by decide))
    refine pm_iconst (v := 1) hG dX1_winsDespite_59 (by decide) ?_
    exact pm_zret hG hF dX1_winsDespite_60 rfl (by rfl) (Nat.le_refl _) (Nat.le_refl _) (fx_ric hE)
  · replace hE := fx_f c1 hE
    refine pm_iloadn hG dX1_winsDespite_4 rfl ?_
    refine pm_aloadn hG dX1_winsDespite_5 rfl ?_
    refine pm_getf hG dX1_winsDespite_6 (flX1_15 _ rfl) rfl rfl ?_
    refine pm_alen (v := 5) hG dX1_winsDespite_9 rfl (by decide) ?_
    refine pm_icmp_ge (tgt := 30) hG dX1_winsDespite_10 rfl (fun c2 => ?_) (fun c2 => ?_)
    · replace c2 := Int32.not_lt.mpr c2
      replace hE := fx_f c2 hE
      refine pm_iconst (v := 0) hG dX1_winsDespite_30 (by decide) ?_
      refine pm_istoreXi (loc' := [some (.ref (B + 40)), some (.int za), some (.int zb), some (.int 1), some (.int zd), some (.int ze), some (.int 0), none]) hG dX1_winsDespite_31 (by decide) (pm_c1b rfl) rfl ?_
      refine pm_iloadi hG dX1_winsDespite_33 rfl ?_
      refine pm_if_eq (tgt := 59) hG dX1_winsDespite_35 rfl (fun _ => ?_) (fun q => absurd q (by decide))
      refine pm_iconst (v := 1) hG dX1_winsDespite_59 (by decide) ?_
      exact pm_zret hG hF dX1_winsDespite_60 rfl (by rfl) (Nat.le_refl _) (Nat.le_refl _) (fx_ric hE)
    · replace c2 := Int32.not_le.mp c2
      replace hE := fx_t c2 hE
      refine pm_iloadn hG dX1_winsDespite_13 rfl ?_
      refine pm_if_lt (tgt := 30) hG dX1_winsDespite_14 rfl (fun c3 => ?_) (fun c3 => ?_)
      · replace hE := fx_t c3 hE
        refine pm_iconst (v := 0) hG dX1_winsDespite_30 (by decide) ?_
        refine pm_istoreXi (loc' := [some (.ref (B + 40)), some (.int za), some (.int zb), some (.int 1), some (.int zd), some (.int ze), some (.int 0), none]) hG dX1_winsDespite_31 (by decide) (pm_c1b rfl) rfl ?_
        refine pm_iloadi hG dX1_winsDespite_33 rfl ?_
        refine pm_if_eq (tgt := 59) hG dX1_winsDespite_35 rfl (fun _ => ?_) (fun q => absurd q (by decide))
        refine pm_iconst (v := 1) hG dX1_winsDespite_59 (by decide) ?_
        exact pm_zret hG hF dX1_winsDespite_60 rfl (by rfl) (Nat.le_refl _) (Nat.le_refl _) (fx_ric hE)
      · replace hE := fx_f c3 hE
        refine pm_iloadn hG dX1_winsDespite_17 rfl ?_
        refine pm_aloadn hG dX1_winsDespite_18 rfl ?_
        refine pm_getf hG dX1_winsDespite_19 (flX1_15 _ rfl) rfl rfl ?_
        refine pm_alen (v := 5) hG dX1_winsDespite_22 rfl (by decide) ?_
        refine pm_icmp_ge (tgt := 30) hG dX1_winsDespite_23 rfl (fun c4 => ?_) (fun c4 => ?_)
        · replace c4 := Int32.not_lt.mpr c4
          replace hE := fx_f c4 hE
          refine pm_iconst (v := 0) hG dX1_winsDespite_30 (by decide) ?_
          refine pm_istoreXi (loc' := [some (.ref (B + 40)), some (.int za), some (.int zb), some (.int 1), some (.int zd), some (.int ze), some (.int 0), none]) hG dX1_winsDespite_31 (by decide) (pm_c1b rfl) rfl ?_
          refine pm_iloadi hG dX1_winsDespite_33 rfl ?_
          refine pm_if_eq (tgt := 59) hG dX1_winsDespite_35 rfl (fun _ => ?_) (fun q => absurd q (by decide))
          refine pm_iconst (v := 1) hG dX1_winsDespite_59 (by decide) ?_
          exact pm_zret hG hF dX1_winsDespite_60 rfl (by rfl) (Nat.le_refl _) (Nat.le_refl _) (fx_ric hE)
        · replace c4 := Int32.not_le.mp c4
          replace hE := fx_t c4 hE
          refine pm_iconst (v := 1) hG dX1_winsDespite_26 (by decide) ?_
          refine pm_goto (tgt := 31) hG dX1_winsDespite_27 rfl ?_
          refine pm_istoreXi (loc' := [some (.ref (B + 40)), some (.int za), some (.int zb), some (.int 1), some (.int zd), some (.int ze), some (.int 1), none]) hG dX1_winsDespite_31 (by decide) (pm_c1b rfl) rfl ?_
          refine pm_iloadi hG dX1_winsDespite_33 rfl ?_
          refine pm_if_eq (tgt := 59) hG dX1_winsDespite_35 rfl (fun q => absurd q (by decide)) (fun _ => ?_)
          refine pm_aloadn hG dX1_winsDespite_38 rfl ?_
          refine pm_getf hG dX1_winsDespite_39 (flX1_15 _ rfl) rfl rfl ?_
          refine pm_iloadn hG dX1_winsDespite_42 rfl ?_
          obtain ⟨j5, hj5, hE⟩ := fb_some hE
          refine fx_iald hG dX1_winsDespite_43 rfl hj5 ?_
          refine pm_iconst (v := 1) hG dX1_winsDespite_44 (by decide) ?_
          refine pm_icmp_lt (tgt := 59) hG dX1_winsDespite_45 rfl (fun c6 => ?_) (fun c6 => ?_)
          · replace hE := fx_t c6 hE
            refine pm_iconst (v := 1) hG dX1_winsDespite_59 (by decide) ?_
            exact pm_zret hG hF dX1_winsDespite_60 rfl (by rfl) (Nat.le_refl _) (Nat.le_refl _) (fx_ric hE)
          · replace hE := fx_f c6 hE
            refine pm_aloadn hG dX1_winsDespite_48 rfl ?_
            refine pm_getf hG dX1_winsDespite_49 (flX1_15 _ rfl) rfl rfl ?_
            refine pm_iloadn hG dX1_winsDespite_52 rfl ?_
            obtain ⟨j7, hj7, hE⟩ := fb_some hE
            refine fx_iald hG dX1_winsDespite_53 rfl hj7 ?_
            refine pm_bipush (v := 6) hG dX1_winsDespite_54 (by decide) ?_
            refine pm_icmp_lt (tgt := 61) hG dX1_winsDespite_56 rfl (fun c8 => ?_) (fun c8 => ?_)
            · replace hE := fx_t c8 hE
              refine pm_aloadn hG dX1_winsDespite_61 rfl ?_
              refine pm_getf hG dX1_winsDespite_62 (flX1_15 _ rfl) rfl rfl ?_
              refine pm_iloadn hG dX1_winsDespite_65 rfl ?_
              refine pm_dup2 hG dX1_winsDespite_66 rfl rfl ?_
              refine fx_iald hG dX1_winsDespite_67 rfl hj5 ?_
              refine pm_iconst (v := 1) hG dX1_winsDespite_68 (by decide) ?_
              refine pm_isub hG dX1_winsDespite_69 ?_
              refine fx_iast hG dX1_winsDespite_70 rfl hj5 ?_
              refine ca_41 ?_
              refine fx_letc hE (fun S9 hE => ?_)
              refine pm_aloadn hG dX1_winsDespite_71 rfl ?_
              refine pm_getf hG dX1_winsDespite_72 (flX1_15 _ rfl) rfl rfl ?_
              refine pm_iloadn hG dX1_winsDespite_75 rfl ?_
              refine pm_dup2 hG dX1_winsDespite_76 rfl rfl ?_
              refine fx_iald hG dX1_winsDespite_77 rfl hj7 ?_
              refine pm_iconst (v := 1) hG dX1_winsDespite_78 (by decide) ?_
              refine pm_iadd hG dX1_winsDespite_79 ?_
              refine fx_iast hG dX1_winsDespite_80 rfl hj7 ?_
              refine ca_41 ?_
              refine fx_letc hE (fun S10 hE => ?_)
              refine pm_aloadn hG dX1_winsDespite_81 rfl ?_
              refine pm_iloadn hG dX1_winsDespite_82 rfl ?_
              refine pm_iloadi hG dX1_winsDespite_83 rfl ?_
              refine pm_iloadi hG dX1_winsDespite_85 rfl ?_
              obtain ⟨r12, h11, hE⟩ := fb_some hE
              refine pm_callV (As := [.int 1, .int zd, .int ze]) (rest := []) hG hR dX1_winsDespite_87 (lkX1_44 _ rfl) okV_X1_winsWithin rfl rfl (c_X1_winsWithin_k1 (d := 5) (by decide) h11) rfl rfl hdd (Nat.le_refl _) (Nat.le_refl _) (by decide) (fx_ki ?_)
              refine pm_istoreXi (loc' := [some (.ref (B + 40)), some (.int za), some (.int zb), some (.int 1), some (.int zd), some (.int ze), some (.int 1), some (.int r12.1)]) hG dX1_winsDespite_90 (by decide) (pm_c1b rfl) rfl ?_
              refine pm_aloadn hG dX1_winsDespite_92 rfl ?_
              refine pm_getf hG dX1_winsDespite_93 (flX1_15 _ rfl) rfl rfl ?_
              refine pm_iloadn hG dX1_winsDespite_96 rfl ?_
              refine pm_dup2 hG dX1_winsDespite_97 rfl rfl ?_
              refine fx_iald hG dX1_winsDespite_98 rfl hj5 ?_
              refine pm_iconst (v := 1) hG dX1_winsDespite_99 (by decide) ?_
              refine pm_iadd hG dX1_winsDespite_100 ?_
              refine fx_iast hG dX1_winsDespite_101 rfl hj5 ?_
              refine ca_41 ?_
              refine fx_letc hE (fun S13 hE => ?_)
              refine pm_aloadn hG dX1_winsDespite_102 rfl ?_
              refine pm_getf hG dX1_winsDespite_103 (flX1_15 _ rfl) rfl rfl ?_
              refine pm_iloadn hG dX1_winsDespite_106 rfl ?_
              refine pm_dup2 hG dX1_winsDespite_107 rfl rfl ?_
              refine fx_iald hG dX1_winsDespite_108 rfl hj7 ?_
              refine pm_iconst (v := 1) hG dX1_winsDespite_109 (by decide) ?_
              refine pm_isub hG dX1_winsDespite_110 ?_
              refine fx_iast hG dX1_winsDespite_111 rfl hj7 ?_
              refine ca_41 ?_
              refine fx_letc hE (fun S14 hE => ?_)
              refine pm_iloadi hG dX1_winsDespite_112 rfl ?_
              obtain ⟨b15, hb15, hE⟩ := fb_some hE
              exact pm_zret hG hF dX1_winsDespite_114 rfl (bz_n hb15) (Nat.le_refl _) (Nat.le_refl _) (fx_rbc hb15 hE)
            · replace hE := fx_f c8 hE
              refine pm_iconst (v := 1) hG dX1_winsDespite_59 (by decide) ?_
              exact pm_zret hG hF dX1_winsDespite_60 rfl (by rfl) (Nat.le_refl _) (Nat.le_refl _) (fx_ric hE)

set_option maxRecDepth 100000 in
set_option maxHeartbeats 4000000 in
theorem c_X1_winsWhatever_k1 {d : Nat} {B cnt : Nat} {kp : Value} {ρ : pm_S} {S : FS} {zb : Int32} {zc : Int32} {R : Int32 × FS} (hdd : 7 ≤ d) (hE : f_X1_winsWhatever_k1 S zb zc = some R) : pm_met mX1_winsWhatever d 0 0 B [.ref (B + 40), .int 1, .int zb, .int zc] cnt (cst B kp S ρ) (pm_Qi (fun v σ' cnt' => v = R.1 ∧ σ' = (cst B kp R.2 ρ) ∧ cnt' = cnt)) := by
  refine pm_enter 2 (by decide) (Nat.le_of_ble_eq_true rfl) rfl (fun G hG hR hF => ?_)
  unfold f_X1_winsWhatever_k1 at hE
  refine pm_aloadn hG dX1_winsWhatever_0 rfl ?_
  refine pm_iloadn hG dX1_winsWhatever_1 rfl ?_
  refine pm_iloadn hG dX1_winsWhatever_2 rfl ?_
  refine pm_iloadn hG dX1_winsWhatever_3 rfl ?_
  obtain ⟨r2, h1, hE⟩ := fb_some hE
  refine pm_callV (As := [.int 1, .int zb, .int zc]) (rest := []) hG hR dX1_winsWhatever_4 (lkX1_44 _ rfl) okV_X1_winsWithin rfl rfl (c_X1_winsWithin_k1 (d := 6) (by decide) h1) rfl rfl hdd (Nat.le_refl _) (Nat.le_refl _) (by decide) (fx_ki ?_)
  refine pm_istoreXi (loc' := [some (.ref (B + 40)), some (.int 1), some (.int zb), some (.int zc), some (.int r2.1), none]) hG dX1_winsWhatever_7 (by decide) (pm_c1b rfl) rfl ?_
  refine pm_iconst (v := 0) hG dX1_winsWhatever_9 (by decide) ?_
  refine pm_iloadn hG dX1_winsWhatever_10 rfl ?_
  refine pm_mmax hG hR dX1_winsWhatever_11 (mmX1_47 _ rfl) pm_mwmax (by omega) (by first | decide | exact Nat.le_of_ble_eq_true rfl) (Nat.le_refl _) (Nat.le_refl _) ?_
  refine pm_top (v := imax 0 zb) rfl ?_
  refine fx_letv hE (fun x3 hE => ?_)
  refine pm_istoreXi (loc' := [some (.ref (B + 40)), some (.int 1), some (.int zb), some (.int zc), some (.int r2.1), some (.int x3)]) hG dX1_winsWhatever_14 (by decide) (pm_c1b rfl) rfl ?_
  have loop16 : ∀ (k16 : FS → Int32 → Int32 → Option (Int32 × FS)), (∀ (S4 : FS) (x4_4 : Int32) (x4_5 : Int32), k16 S4  x4_4 x4_5 = some R → pm_wp mX1_winsWhatever G B 78 [some (.ref (B + 40)), some (.int 1), some (.int zb), some (.int zc), some (.int x4_4), some (.int x4_5)] [] 0 0 cnt (cst B kp S4 ρ)) → ∀ (m16 : Nat) (S4 : FS) (x4_4 : Int32) (x4_5 : Int32), l_X1_winsWhatever_k1_16 zb zc k16 m16 S4  x4_4 x4_5 = some R → pm_wp mX1_winsWhatever G B 16 [some (.ref (B + 40)), some (.int 1), some (.int zb), some (.int zc), some (.int x4_4), some (.int x4_5)] [] 0 0 cnt (cst B kp S4 ρ) := by
    intro k16 hk16 m16
    induction m16 with
    | zero => intro S4  x4_4 x4_5 hE; exact fx_no hE
    | succ m16 ih16 =>
      intro S4  x4_4 x4_5 hE
      rw [l_X1_winsWhatever_k1_16] at hE
      refine pm_iloadi hG dX1_winsWhatever_16 rfl ?_
      refine pm_aloadn hG dX1_winsWhatever_18 rfl ?_
      refine pm_getf hG dX1_winsWhatever_19 (flX1_15 _ rfl) rfl rfl ?_
      refine pm_alen (v := 5) hG dX1_winsWhatever_22 rfl (by decide) ?_
      refine pm_iconst (v := 1) hG dX1_winsWhatever_23 (by decide) ?_
      refine pm_isub hG dX1_winsWhatever_24 ?_
      refine pm_top (v := 4) (by decide) ?_
      refine pm_icmp_ge (tgt := 78) hG dX1_winsWhatever_25 rfl (fun c5 => ?_) (fun c5 => ?_)
      · replace c5 := Int32.not_lt.mpr c5
        replace hE := fx_f c5 hE
        exact hk16 _ _ _ hE
      · replace c5 := Int32.not_le.mp c5
        replace hE := fx_t c5 hE
        refine pm_iloadi hG dX1_winsWhatever_28 rfl ?_
        refine pm_if_eq (tgt := 78) hG dX1_winsWhatever_30 rfl (fun c6 => ?_) (fun c6 => ?_)
        · replace hE := fx_t c6 hE
          exact hk16 _ _ _ hE
        · replace hE := fx_f c6 hE
          refine pm_aloadn hG dX1_winsWhatever_33 rfl ?_
          refine pm_iloadi hG dX1_winsWhatever_34 rfl ?_
          refine pm_iloadi hG dX1_winsWhatever_36 rfl ?_
          refine pm_iconst (v := 1) hG dX1_winsWhatever_38 (by decide) ?_
          refine pm_iadd hG dX1_winsWhatever_39 ?_
          refine pm_iloadn hG dX1_winsWhatever_40 rfl ?_
          refine pm_iloadn hG dX1_winsWhatever_41 rfl ?_
          refine pm_iloadn hG dX1_winsWhatever_42 rfl ?_
          obtain ⟨r8, h7, hE⟩ := fb_some hE
          refine pm_callV (As := [.int x4_5, .int (x4_5 + 1), .int 1, .int zb, .int zc]) (rest := []) hG hR dX1_winsWhatever_43 (lkX1_52 _ rfl) okV_X1_winsDespite rfl rfl (c_X1_winsDespite_k1 (d := 6) (by decide) h7) rfl rfl hdd (Nat.le_refl _) (Nat.le_refl _) (by decide) (fx_ki ?_)
          refine pm_if_eq (tgt := 69) hG dX1_winsWhatever_46 rfl (fun c9 => ?_) (fun c9 => ?_)
          · replace hE := fx_t c9 hE
            refine pm_iconst (v := 0) hG dX1_winsWhatever_69 (by decide) ?_
            refine pm_istoreXi (loc' := [some (.ref (B + 40)), some (.int 1), some (.int zb), some (.int zc), some (.int 0), some (.int x4_5)]) hG dX1_winsWhatever_70 (by decide) (pm_c1b rfl) rfl ?_
            refine pm_iincX (v := x4_5 + 1) (loc' := [some (.ref (B + 40)), some (.int 1), some (.int zb), some (.int zc), some (.int 0), some (.int (x4_5 + 1))]) hG dX1_winsWhatever_72 rfl (by rfl) (by decide) (pm_c1b rfl) rfl ?_
            refine pm_goto (tgt := 16) hG dX1_winsWhatever_75 rfl ?_
            exact ih16 _ _ _ hE
          · replace hE := fx_f c9 hE
            refine pm_aloadn hG dX1_winsWhatever_49 rfl ?_
            refine pm_iloadi hG dX1_winsWhatever_50 rfl ?_
            refine pm_iconst (v := 1) hG dX1_winsWhatever_52 (by decide) ?_
            refine pm_iadd hG dX1_winsWhatever_53 ?_
            refine pm_iloadi hG dX1_winsWhatever_54 rfl ?_
            refine pm_iloadn hG dX1_winsWhatever_56 rfl ?_
            refine pm_iloadn hG dX1_winsWhatever_57 rfl ?_
            refine pm_iloadn hG dX1_winsWhatever_58 rfl ?_
            obtain ⟨r11, h10, hE⟩ := fb_some hE
            refine pm_callV (As := [.int (x4_5 + 1), .int x4_5, .int 1, .int zb, .int zc]) (rest := []) hG hR dX1_winsWhatever_59 (lkX1_52 _ rfl) okV_X1_winsDespite rfl rfl (c_X1_winsDespite_k1 (d := 6) (by decide) h10) rfl rfl hdd (Nat.le_refl _) (Nat.le_refl _) (by decide) (fx_ki ?_)
            refine pm_if_eq (tgt := 69) hG dX1_winsWhatever_62 rfl (fun c12 => ?_) (fun c12 => ?_)
            · replace hE := fx_t c12 hE
              refine pm_iconst (v := 0) hG dX1_winsWhatever_69 (by decide) ?_
              refine pm_istoreXi (loc' := [some (.ref (B + 40)), some (.int 1), some (.int zb), some (.int zc), some (.int 0), some (.int x4_5)]) hG dX1_winsWhatever_70 (by decide) (pm_c1b rfl) rfl ?_
              refine pm_iincX (v := x4_5 + 1) (loc' := [some (.ref (B + 40)), some (.int 1), some (.int zb), some (.int zc), some (.int 0), some (.int (x4_5 + 1))]) hG dX1_winsWhatever_72 rfl (by rfl) (by decide) (pm_c1b rfl) rfl ?_
              refine pm_goto (tgt := 16) hG dX1_winsWhatever_75 rfl ?_
              exact ih16 _ _ _ hE
            · replace hE := fx_f c12 hE
              refine pm_iconst (v := 1) hG dX1_winsWhatever_65 (by decide) ?_
              refine pm_goto (tgt := 70) hG dX1_winsWhatever_66 rfl ?_
              refine pm_istoreXi (loc' := [some (.ref (B + 40)), some (.int 1), some (.int zb), some (.int zc), some (.int 1), some (.int x4_5)]) hG dX1_winsWhatever_70 (by decide) (pm_c1b rfl) rfl ?_
              refine pm_iincX (v := x4_5 + 1) (loc' := [some (.ref (B + 40)), some (.int 1), some (.int zb), some (.int zc), some (.int 1), some (.int (x4_5 + 1))]) hG dX1_winsWhatever_72 rfl (by rfl) (by decide) (pm_c1b rfl) rfl ?_
              refine pm_goto (tgt := 16) hG dX1_winsWhatever_75 rfl ?_
              exact ih16 _ _ _ hE
  refine loop16 _ (fun S13 x13_4 x13_5 hE => ?_) _ _ _ _ hE
  refine pm_iloadi hG dX1_winsWhatever_78 rfl ?_
  obtain ⟨b14, hb14, hE⟩ := fb_some hE
  exact pm_zret hG hF dX1_winsWhatever_80 rfl (bz_n hb14) (Nat.le_refl _) (Nat.le_refl _) (fx_rbc hb14 hE)

set_option maxRecDepth 100000 in
set_option maxHeartbeats 4000000 in
theorem c_X1_winsByTaking_k2 {d : Nat} {B cnt : Nat} {kp : Value} {ρ : pm_S} {S : FS} {zb : Int32} {zc : Int32} {R : Int32 × FS} (hdd : 8 ≤ d) (hE : f_X1_winsByTaking_k2 S zb zc = some R) : pm_met mX1_winsByTaking d 0 0 B [.ref (B + 40), .int 2, .int zb, .int zc] cnt (cst B kp S ρ) (pm_Qi (fun v σ' cnt' => v = R.1 ∧ σ' = (cst B kp R.2 ρ) ∧ cnt' = cnt)) := by
  refine pm_enter 0 (by decide) (Nat.le_of_ble_eq_true rfl) rfl (fun G hG hR hF => ?_)
  unfold f_X1_winsByTaking_k2 at hE
  refine pm_iloadn hG dX1_winsByTaking_0 rfl ?_
  refine pm_if_lt (tgt := 23) hG dX1_winsByTaking_1 rfl (fun c1 => ?_) (fun c1 => ?_)
  · replace hE := fx_t c1 hE
    refine pm_iconst (v := 0) hG dX1_winsByTaking_23 (by decide) ?_
    exact pm_zret hG hF dX1_winsByTaking_24 rfl (by rfl) (Nat.le_refl _) (Nat.le_refl _) (fx_ric hE)
  · replace hE := fx_f c1 hE
    refine pm_iloadn hG dX1_winsByTaking_4 rfl ?_
    refine pm_aloadn hG dX1_winsByTaking_5 rfl ?_
    refine pm_getf hG dX1_winsByTaking_6 (flX1_15 _ rfl) rfl rfl ?_
    refine pm_alen (v := 5) hG dX1_winsByTaking_9 rfl (by decide) ?_
    refine pm_icmp_ge (tgt := 23) hG dX1_winsByTaking_10 rfl (fun c2 => ?_) (fun c2 => ?_)
    · replace c2 := Int32.not_lt.mpr c2
      replace hE := fx_f c2 hE
      refine pm_iconst (v := 0) hG dX1_winsByTaking_23 (by decide) ?_
      exact pm_zret hG hF dX1_winsByTaking_24 rfl (by rfl) (Nat.le_refl _) (Nat.le_refl _) (fx_ric hE)
    · replace c2 := Int32.not_le.mp c2
      replace hE := fx_t c2 hE
      refine pm_iloadn hG dX1_winsByTaking_13 rfl ?_
      refine pm_aloadn hG dX1_winsByTaking_14 rfl ?_
      refine pm_getf hG dX1_winsByTaking_15 (flX1_15 _ rfl) rfl rfl ?_
      refine pm_iloadn hG dX1_winsByTaking_18 rfl ?_
      obtain ⟨j3, hj3, hE⟩ := fb_some hE
      refine fx_iald hG dX1_winsByTaking_19 rfl hj3 ?_
      refine pm_icmp_gt (tgt := 25) hG dX1_winsByTaking_20 rfl (fun c4 => ?_) (fun c4 => ?_)
      · replace hE := fx_t c4 hE
        refine pm_iloadn hG dX1_winsByTaking_25 rfl ?_
        refine pm_aloadn hG dX1_winsByTaking_26 rfl ?_
        refine pm_getf hG dX1_winsByTaking_27 (flX1_19 _ rfl) rfl rfl ?_
        refine pm_icmp_eq (tgt := 54) hG dX1_winsByTaking_30 rfl (fun c5 => ?_) (fun c5 => ?_)
        · replace hE := fx_t c5 hE
          refine pm_iconst (v := 1) hG dX1_winsByTaking_54 (by decide) ?_
          refine pm_goto (tgt := 59) hG dX1_winsByTaking_55 rfl ?_
          exact pm_zret hG hF dX1_winsByTaking_59 rfl (by rfl) (Nat.le_refl _) (Nat.le_refl _) (fx_ric hE)
        · replace hE := fx_f c5 hE
          refine pm_aloadn hG dX1_winsByTaking_33 rfl ?_
          refine pm_iloadn hG dX1_winsByTaking_34 rfl ?_
          refine pm_iconst (v := 1) hG dX1_winsByTaking_35 (by decide) ?_
          refine pm_isub hG dX1_winsByTaking_36 ?_
          refine pm_top (v := 1) (by decide) ?_
          refine pm_iloadn hG dX1_winsByTaking_37 rfl ?_
          refine pm_iconst (v := 1) hG dX1_winsByTaking_38 (by decide) ?_
          refine pm_iadd hG dX1_winsByTaking_39 ?_
          refine pm_iloadn hG dX1_winsByTaking_40 rfl ?_
          refine pm_aloadn hG dX1_winsByTaking_41 rfl ?_
          refine pm_getf hG dX1_winsByTaking_42 (flX1_15 _ rfl) rfl rfl ?_
          refine pm_iloadn hG dX1_winsByTaking_45 rfl ?_
          refine fx_iald hG dX1_winsByTaking_46 rfl hj3 ?_
          refine pm_isub hG dX1_winsByTaking_47 ?_
          obtain ⟨r7, h6, hE⟩ := fb_some hE
          refine pm_callV (As := [.int 1, .int (zb + 1), .int (zc - (S.2 41 j3))]) (rest := []) hG hR dX1_winsByTaking_48 (lkX1_41 _ rfl) okV_X1_winsWhatever rfl rfl (c_X1_winsWhatever_k1 (d := 7) (by decide) h6) rfl rfl hdd (Nat.le_refl _) (Nat.le_refl _) (by decide) (fx_ki ?_)
          refine pm_if_eq (tgt := 58) hG dX1_winsByTaking_51 rfl (fun c8 => ?_) (fun c8 => ?_)
          · replace hE := fx_t c8 hE
            refine pm_iconst (v := 0) hG dX1_winsByTaking_58 (by decide) ?_
            exact pm_zret hG hF dX1_winsByTaking_59 rfl (by rfl) (Nat.le_refl _) (Nat.le_refl _) (fx_ric hE)
          · replace hE := fx_f c8 hE
            refine pm_iconst (v := 1) hG dX1_winsByTaking_54 (by decide) ?_
            refine pm_goto (tgt := 59) hG dX1_winsByTaking_55 rfl ?_
            exact pm_zret hG hF dX1_winsByTaking_59 rfl (by rfl) (Nat.le_refl _) (Nat.le_refl _) (fx_ric hE)
      · replace hE := fx_f c4 hE
        refine pm_iconst (v := 0) hG dX1_winsByTaking_23 (by decide) ?_
        exact pm_zret hG hF dX1_winsByTaking_24 rfl (by rfl) (Nat.le_refl _) (Nat.le_refl _) (fx_ric hE)

set_option maxRecDepth 100000 in
set_option maxHeartbeats 4000000 in
theorem c_X1_winsByWaiting_k2 {d : Nat} {B cnt : Nat} {kp : Value} {ρ : pm_S} {S : FS} {zb : Int32} {zc : Int32} {R : Int32 × FS} (hdd : 8 ≤ d) (hE : f_X1_winsByWaiting_k2 S zb zc = some R) : pm_met mX1_winsByWaiting d 0 0 B [.ref (B + 40), .int 2, .int zb, .int zc] cnt (cst B kp S ρ) (pm_Qi (fun v σ' cnt' => v = R.1 ∧ σ' = (cst B kp R.2 ρ) ∧ cnt' = cnt)) := by
  refine pm_enter 0 (by decide) (Nat.le_of_ble_eq_true rfl) rfl (fun G hG hR hF => ?_)
  unfold f_X1_winsByWaiting_k2 at hE
  refine pm_aloadn hG dX1_winsByWaiting_0 rfl ?_
  refine pm_iloadn hG dX1_winsByWaiting_1 rfl ?_
  refine pm_iconst (v := 1) hG dX1_winsByWaiting_2 (by decide) ?_
  refine pm_isub hG dX1_winsByWaiting_3 ?_
  refine pm_top (v := 1) (by decide) ?_
  refine pm_iloadn hG dX1_winsByWaiting_4 rfl ?_
  refine pm_iloadn hG dX1_winsByWaiting_5 rfl ?_
  obtain ⟨r2, h1, hE⟩ := fb_some hE
  refine pm_callV (As := [.int 1, .int zb, .int zc]) (rest := []) hG hR dX1_winsByWaiting_6 (lkX1_41 _ rfl) okV_X1_winsWhatever rfl rfl (c_X1_winsWhatever_k1 (d := 7) (by decide) h1) rfl rfl hdd (Nat.le_refl _) (Nat.le_refl _) (by decide) (fx_ki ?_)
  obtain ⟨b3, hb3, hE⟩ := fb_some hE
  exact pm_zret hG hF dX1_winsByWaiting_9 rfl (bz_n hb3) (Nat.le_refl _) (Nat.le_refl _) (fx_rbc hb3 hE)

set_option maxRecDepth 100000 in
set_option maxHeartbeats 4000000 in
theorem c_X1_winsWithin_k2 {d : Nat} {B cnt : Nat} {kp : Value} {ρ : pm_S} {S : FS} {zb : Int32} {zc : Int32} {R : Int32 × FS} (hdd : 9 ≤ d) (hE : f_X1_winsWithin_k2 S zb zc = some R) : pm_met mX1_winsWithin d 0 0 B [.ref (B + 40), .int 2, .int zb, .int zc] cnt (cst B kp S ρ) (pm_Qi (fun v σ' cnt' => v = R.1 ∧ σ' = (cst B kp R.2 ρ) ∧ cnt' = cnt)) := by
  refine pm_enter 0 (by decide) (Nat.le_of_ble_eq_true rfl) rfl (fun G hG hR hF => ?_)
  unfold f_X1_winsWithin_k2 at hE
  refine pm_iloadn hG dX1_winsWithin_0 rfl ?_
  refine pm_if_le (tgt := 28) hG dX1_winsWithin_1 rfl (fun q => absurd q (by decide)) (fun _ => ?_)
  refine pm_aloadn hG dX1_winsWithin_4 rfl ?_
  refine pm_iloadn hG dX1_winsWithin_5 rfl ?_
  refine pm_iloadn hG dX1_winsWithin_6 rfl ?_
  refine pm_iloadn hG dX1_winsWithin_7 rfl ?_
  obtain ⟨r2, h1, hE⟩ := fb_some hE
  refine pm_callV (As := [.int 2, .int zb, .int zc]) (rest := []) hG hR dX1_winsWithin_8 (lkX1_34 _ rfl) okV_X1_winsByTaking rfl rfl (c_X1_winsByTaking_k2 (d := 8) (by decide) h1) rfl rfl hdd (Nat.le_refl _) (Nat.le_refl _) (by decide) (fx_ki ?_)
  refine pm_if_ne (tgt := 24) hG dX1_winsWithin_11 rfl (fun c3 => ?_) (fun c3 => ?_)
  · replace hE := fx_f c3 hE
    refine pm_iconst (v := 1) hG dX1_winsWithin_24 (by decide) ?_
    refine pm_goto (tgt := 29) hG dX1_winsWithin_25 rfl ?_
    exact pm_zret hG hF dX1_winsWithin_29 rfl (by rfl) (Nat.le_refl _) (Nat.le_refl _) (fx_ric hE)
  · replace hE := fx_t c3 hE
    refine pm_aloadn hG dX1_winsWithin_14 rfl ?_
    refine pm_iloadn hG dX1_winsWithin_15 rfl ?_
    refine pm_iloadn hG dX1_winsWithin_16 rfl ?_
    refine pm_iloadn hG dX1_winsWithin_17 rfl ?_
    obtain ⟨r5, h4, hE⟩ := fb_some hE
    refine pm_callV (As := [.int 2, .int zb, .int zc]) (rest := []) hG hR dX1_winsWithin_18 (lkX1_38 _ rfl) okV_X1_winsByWaiting rfl rfl (c_X1_winsByWaiting_k2 (d := 8) (by decide) h4) rfl rfl hdd (Nat.le_refl _) (Nat.le_refl _) (by decide) (fx_ki ?_)
    refine pm_if_eq (tgt := 28) hG dX1_winsWithin_21 rfl (fun c6 => ?_) (fun c6 => ?_)
    · replace hE := fx_t c6 hE
      refine pm_iconst (v := 0) hG dX1_winsWithin_28 (by decide) ?_
      exact pm_zret hG hF dX1_winsWithin_29 rfl (by rfl) (Nat.le_refl _) (Nat.le_refl _) (fx_ric hE)
    · replace hE := fx_f c6 hE
      refine pm_iconst (v := 1) hG dX1_winsWithin_24 (by decide) ?_
      refine pm_goto (tgt := 29) hG dX1_winsWithin_25 rfl ?_
      exact pm_zret hG hF dX1_winsWithin_29 rfl (by rfl) (Nat.le_refl _) (Nat.le_refl _) (fx_ric hE)

set_option maxRecDepth 100000 in
set_option maxHeartbeats 4000000 in
theorem c_X1_winsDespite_k2 {d : Nat} {B cnt : Nat} {kp : Value} {ρ : pm_S} {S : FS} {za : Int32} {zb : Int32} {zd : Int32} {ze : Int32} {R : Int32 × FS} (hdd : 10 ≤ d) (hE : f_X1_winsDespite_k2 S za zb zd ze = some R) : pm_met mX1_winsDespite d 0 0 B [.ref (B + 40), .int za, .int zb, .int 2, .int zd, .int ze] cnt (cst B kp S ρ) (pm_Qi (fun v σ' cnt' => v = R.1 ∧ σ' = (cst B kp R.2 ρ) ∧ cnt' = cnt)) := by
  refine pm_enter 2 (by decide) (Nat.le_of_ble_eq_true rfl) rfl (fun G hG hR hF => ?_)
  unfold f_X1_winsDespite_k2 at hE
  refine pm_iloadn hG dX1_winsDespite_0 rfl ?_
  refine pm_if_lt (tgt := 30) hG dX1_winsDespite_1 rfl (fun c1 => ?_) (fun c1 => ?_)
  · replace hE := fx_t c1 hE
    refine pm_iconst (v := 0) hG dX1_winsDespite_30 (by decide) ?_
    refine pm_istoreXi (loc' := [some (.ref (B + 40)), some (.int za), some (.int zb), some (.int 2), some (.int zd), some (.int ze), some (.int 0), none]) hG dX1_winsDespite_31 (by decide) (pm_c1b rfl) rfl ?_
    refine pm_iloadi hG dX1_winsDespite_33 rfl ?_
    refine pm_if_eq (tgt := 59) hG dX1_winsDespite_35 rfl (fun _ => ?_) (fun q => absurd q (by decide))
    refine pm_iconst (v := 1) hG dX1_winsDespite_59 (by decide) ?_
    exact pm_zret hG hF dX1_winsDespite_60 rfl (by rfl) (Nat.le_refl _) (Nat.le_refl _) (fx_ric hE)
  · replace hE := fx_f c1 hE
    refine pm_iloadn hG dX1_winsDespite_4 rfl ?_
    refine pm_aloadn hG dX1_winsDespite_5 rfl ?_
    refine pm_getf hG dX1_winsDespite_6 (flX1_15 _ rfl) rfl rfl ?_
    refine pm_alen (v := 5) hG dX1_winsDespite_9 rfl (by decide) ?_
    refine pm_icmp_ge (tgt := 30) hG dX1_winsDespite_10 rfl (fun c2 => ?_) (fun c2 => ?_)
    · replace c2 := Int32.not_lt.mpr c2
      replace hE := fx_f c2 hE
      refine pm_iconst (v := 0) hG dX1_winsDespite_30 (by decide) ?_
      refine pm_istoreXi (loc' := [some (.ref (B + 40)), some (.int za), some (.int zb), some (.int 2), some (.int zd), some (.int ze), some (.int 0), none]) hG dX1_winsDespite_31 (by decide) (pm_c1b rfl) rfl ?_
      refine pm_iloadi hG dX1_winsDespite_33 rfl ?_
      refine pm_if_eq (tgt := 59) hG dX1_winsDespite_35 rfl (fun _ => ?_) (fun q => absurd q (by decide))
      refine pm_iconst (v := 1) hG dX1_winsDespite_59 (by decide) ?_
      exact pm_zret hG hF dX1_winsDespite_60 rfl (by rfl) (Nat.le_refl _) (Nat.le_refl _) (fx_ric hE)
    · replace c2 := Int32.not_le.mp c2
      replace hE := fx_t c2 hE
      refine pm_iloadn hG dX1_winsDespite_13 rfl ?_
      refine pm_if_lt (tgt := 30) hG dX1_winsDespite_14 rfl (fun c3 => ?_) (fun c3 => ?_)
      · replace hE := fx_t c3 hE
        refine pm_iconst (v := 0) hG dX1_winsDespite_30 (by decide) ?_
        refine pm_istoreXi (loc' := [some (.ref (B + 40)), some (.int za), some (.int zb), some (.int 2), some (.int zd), some (.int ze), some (.int 0), none]) hG dX1_winsDespite_31 (by decide) (pm_c1b rfl) rfl ?_
        refine pm_iloadi hG dX1_winsDespite_33 rfl ?_
        refine pm_if_eq (tgt := 59) hG dX1_winsDespite_35 rfl (fun _ => ?_) (fun q => absurd q (by decide))
        refine pm_iconst (v := 1) hG dX1_winsDespite_59 (by decide) ?_
        exact pm_zret hG hF dX1_winsDespite_60 rfl (by rfl) (Nat.le_refl _) (Nat.le_refl _) (fx_ric hE)
      · replace hE := fx_f c3 hE
        refine pm_iloadn hG dX1_winsDespite_17 rfl ?_
        refine pm_aloadn hG dX1_winsDespite_18 rfl ?_
        refine pm_getf hG dX1_winsDespite_19 (flX1_15 _ rfl) rfl rfl ?_
        refine pm_alen (v := 5) hG dX1_winsDespite_22 rfl (by decide) ?_
        refine pm_icmp_ge (tgt := 30) hG dX1_winsDespite_23 rfl (fun c4 => ?_) (fun c4 => ?_)
        · replace c4 := Int32.not_lt.mpr c4
          replace hE := fx_f c4 hE
          refine pm_iconst (v := 0) hG dX1_winsDespite_30 (by decide) ?_
          refine pm_istoreXi (loc' := [some (.ref (B + 40)), some (.int za), some (.int zb), some (.int 2), some (.int zd), some (.int ze), some (.int 0), none]) hG dX1_winsDespite_31 (by decide) (pm_c1b rfl) rfl ?_
          refine pm_iloadi hG dX1_winsDespite_33 rfl ?_
          refine pm_if_eq (tgt := 59) hG dX1_winsDespite_35 rfl (fun _ => ?_) (fun q => absurd q (by decide))
          refine pm_iconst (v := 1) hG dX1_winsDespite_59 (by decide) ?_
          exact pm_zret hG hF dX1_winsDespite_60 rfl (by rfl) (Nat.le_refl _) (Nat.le_refl _) (fx_ric hE)
        · replace c4 := Int32.not_le.mp c4
          replace hE := fx_t c4 hE
          refine pm_iconst (v := 1) hG dX1_winsDespite_26 (by decide) ?_
          refine pm_goto (tgt := 31) hG dX1_winsDespite_27 rfl ?_
          refine pm_istoreXi (loc' := [some (.ref (B + 40)), some (.int za), some (.int zb), some (.int 2), some (.int zd), some (.int ze), some (.int 1), none]) hG dX1_winsDespite_31 (by decide) (pm_c1b rfl) rfl ?_
          refine pm_iloadi hG dX1_winsDespite_33 rfl ?_
          refine pm_if_eq (tgt := 59) hG dX1_winsDespite_35 rfl (fun q => absurd q (by decide)) (fun _ => ?_)
          refine pm_aloadn hG dX1_winsDespite_38 rfl ?_
          refine pm_getf hG dX1_winsDespite_39 (flX1_15 _ rfl) rfl rfl ?_
          refine pm_iloadn hG dX1_winsDespite_42 rfl ?_
          obtain ⟨j5, hj5, hE⟩ := fb_some hE
          refine fx_iald hG dX1_winsDespite_43 rfl hj5 ?_
          refine pm_iconst (v := 1) hG dX1_winsDespite_44 (by decide) ?_
          refine pm_icmp_lt (tgt := 59) hG dX1_winsDespite_45 rfl (fun c6 => ?_) (fun c6 => ?_)
          · replace hE := fx_t c6 hE
            refine pm_iconst (v := 1) hG dX1_winsDespite_59 (by decide) ?_
            exact pm_zret hG hF dX1_winsDespite_60 rfl (by rfl) (Nat.le_refl _) (Nat.le_refl _) (fx_ric hE)
          · replace hE := fx_f c6 hE
            refine pm_aloadn hG dX1_winsDespite_48 rfl ?_
            refine pm_getf hG dX1_winsDespite_49 (flX1_15 _ rfl) rfl rfl ?_
            refine pm_iloadn hG dX1_winsDespite_52 rfl ?_
            obtain ⟨j7, hj7, hE⟩ := fb_some hE
            refine fx_iald hG dX1_winsDespite_53 rfl hj7 ?_
            refine pm_bipush (v := 6) hG dX1_winsDespite_54 (by decide) ?_
            refine pm_icmp_lt (tgt := 61) hG dX1_winsDespite_56 rfl (fun c8 => ?_) (fun c8 => ?_)
            · replace hE := fx_t c8 hE
              refine pm_aloadn hG dX1_winsDespite_61 rfl ?_
              refine pm_getf hG dX1_winsDespite_62 (flX1_15 _ rfl) rfl rfl ?_
              refine pm_iloadn hG dX1_winsDespite_65 rfl ?_
              refine pm_dup2 hG dX1_winsDespite_66 rfl rfl ?_
              refine fx_iald hG dX1_winsDespite_67 rfl hj5 ?_
              refine pm_iconst (v := 1) hG dX1_winsDespite_68 (by decide) ?_
              refine pm_isub hG dX1_winsDespite_69 ?_
              refine fx_iast hG dX1_winsDespite_70 rfl hj5 ?_
              refine ca_41 ?_
              refine fx_letc hE (fun S9 hE => ?_)
              refine pm_aloadn hG dX1_winsDespite_71 rfl ?_
              refine pm_getf hG dX1_winsDespite_72 (flX1_15 _ rfl) rfl rfl ?_
              refine pm_iloadn hG dX1_winsDespite_75 rfl ?_
              refine pm_dup2 hG dX1_winsDespite_76 rfl rfl ?_
              refine fx_iald hG dX1_winsDespite_77 rfl hj7 ?_
              refine pm_iconst (v := 1) hG dX1_winsDespite_78 (by decide) ?_
              refine pm_iadd hG dX1_winsDespite_79 ?_
              refine fx_iast hG dX1_winsDespite_80 rfl hj7 ?_
              refine ca_41 ?_
              refine fx_letc hE (fun S10 hE => ?_)
              refine pm_aloadn hG dX1_winsDespite_81 rfl ?_
              refine pm_iloadn hG dX1_winsDespite_82 rfl ?_
              refine pm_iloadi hG dX1_winsDespite_83 rfl ?_
              refine pm_iloadi hG dX1_winsDespite_85 rfl ?_
              obtain ⟨r12, h11, hE⟩ := fb_some hE
              refine pm_callV (As := [.int 2, .int zd, .int ze]) (rest := []) hG hR dX1_winsDespite_87 (lkX1_44 _ rfl) okV_X1_winsWithin rfl rfl (c_X1_winsWithin_k2 (d := 9) (by decide) h11) rfl rfl hdd (Nat.le_refl _) (Nat.le_refl _) (by decide) (fx_ki ?_)
              refine pm_istoreXi (loc' := [some (.ref (B + 40)), some (.int za), some (.int zb), some (.int 2), some (.int zd), some (.int ze), some (.int 1), some (.int r12.1)]) hG dX1_winsDespite_90 (by decide) (pm_c1b rfl) rfl ?_
              refine pm_aloadn hG dX1_winsDespite_92 rfl ?_
              refine pm_getf hG dX1_winsDespite_93 (flX1_15 _ rfl) rfl rfl ?_
              refine pm_iloadn hG dX1_winsDespite_96 rfl ?_
              refine pm_dup2 hG dX1_winsDespite_97 rfl rfl ?_
              refine fx_iald hG dX1_winsDespite_98 rfl hj5 ?_
              refine pm_iconst (v := 1) hG dX1_winsDespite_99 (by decide) ?_
              refine pm_iadd hG dX1_winsDespite_100 ?_
              refine fx_iast hG dX1_winsDespite_101 rfl hj5 ?_
              refine ca_41 ?_
              refine fx_letc hE (fun S13 hE => ?_)
              refine pm_aloadn hG dX1_winsDespite_102 rfl ?_
              refine pm_getf hG dX1_winsDespite_103 (flX1_15 _ rfl) rfl rfl ?_
              refine pm_iloadn hG dX1_winsDespite_106 rfl ?_
              refine pm_dup2 hG dX1_winsDespite_107 rfl rfl ?_
              refine fx_iald hG dX1_winsDespite_108 rfl hj7 ?_
              refine pm_iconst (v := 1) hG dX1_winsDespite_109 (by decide) ?_
              refine pm_isub hG dX1_winsDespite_110 ?_
              refine fx_iast hG dX1_winsDespite_111 rfl hj7 ?_
              refine ca_41 ?_
              refine fx_letc hE (fun S14 hE => ?_)
              refine pm_iloadi hG dX1_winsDespite_112 rfl ?_
              obtain ⟨b15, hb15, hE⟩ := fb_some hE
              exact pm_zret hG hF dX1_winsDespite_114 rfl (bz_n hb15) (Nat.le_refl _) (Nat.le_refl _) (fx_rbc hb15 hE)
            · replace hE := fx_f c8 hE
              refine pm_iconst (v := 1) hG dX1_winsDespite_59 (by decide) ?_
              exact pm_zret hG hF dX1_winsDespite_60 rfl (by rfl) (Nat.le_refl _) (Nat.le_refl _) (fx_ric hE)
