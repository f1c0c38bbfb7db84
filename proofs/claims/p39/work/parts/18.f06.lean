set_option maxRecDepth 100000 in
set_option maxHeartbeats 4000000 in
theorem c_X7_isLiving {d : Nat} {B cnt : Nat} {kp : Value} {ρ : pm_S} {S : FS} {za : Int32} {R : Int32} (hdd : 1 ≤ d) (hE : p_X7_isLiving S za = R) : pm_met mX7_isLiving d 0 0 B [.ref (B + 1), .int za] cnt (cst B kp S ρ) (pm_Qi (fun v σ' cnt' => v = R ∧ σ' = (cst B kp S ρ) ∧ cnt' = cnt)) := by
  refine pm_enter 0 (by decide) (Nat.le_of_ble_eq_true rfl) rfl (fun G hG hR hF => ?_)
  unfold p_X7_isLiving at hE
  refine pm_aloadn hG dX7_isLiving_0 rfl ?_
  refine pm_getf hG dX7_isLiving_1 (flX7_23 _ rfl) rfl rfl ?_
  refine pm_iloadn hG dX7_isLiving_4 rfl ?_
  refine pm_callV (As := [.int za]) (rest := []) hG hR dX7_isLiving_5 (lkX7_93 _ rfl) okV_X9_has rfl rfl (thas_6 (d := 0)) rfl rfl hdd (Nat.le_refl _) (Nat.le_refl _) (by decide) (fx_ki ?_)
  refine pm_if_eq (tgt := 28) hG dX7_isLiving_8 rfl (fun c1 => ?_) (fun c1 => ?_)
  · replace hE := fx_t c1 hE
    refine pm_iconst (v := 0) hG dX7_isLiving_28 (by decide) ?_
    exact pm_zret hG hF dX7_isLiving_29 rfl (by rfl) (Nat.le_refl _) (Nat.le_refl _) (fx_pi hE)
  · replace hE := fx_f c1 hE
    refine pm_aloadn hG dX7_isLiving_11 rfl ?_
    refine pm_getf hG dX7_isLiving_12 (flX7_23 _ rfl) rfl rfl ?_
    refine pm_iloadn hG dX7_isLiving_15 rfl ?_
    refine pm_bipush (v := 9) hG dX7_isLiving_16 (by decide) ?_
    refine pm_callV (As := [.int za, .int 9]) (rest := []) hG hR dX7_isLiving_18 (lkX7_83 _ rfl) okV_X9_get rfl rfl (tget_6 (d := 0)) rfl rfl hdd (Nat.le_refl _) (Nat.le_refl _) (by decide) (fx_ki ?_)
    refine pm_if_ne (tgt := 28) hG dX7_isLiving_21 rfl (fun c2 => ?_) (fun c2 => ?_)
    · replace hE := fx_f c2 hE
      refine pm_iconst (v := 0) hG dX7_isLiving_28 (by decide) ?_
      exact pm_zret hG hF dX7_isLiving_29 rfl (by rfl) (Nat.le_refl _) (Nat.le_refl _) (fx_pi hE)
    · replace hE := fx_t c2 hE
      refine pm_iconst (v := 1) hG dX7_isLiving_24 (by decide) ?_
      refine pm_goto (tgt := 29) hG dX7_isLiving_25 rfl ?_
      exact pm_zret hG hF dX7_isLiving_29 rfl (by rfl) (Nat.le_refl _) (Nat.le_refl _) (fx_pi hE)

set_option maxRecDepth 100000 in
set_option maxHeartbeats 4000000 in
theorem c_X7_collectRents {d : Nat} {B cnt : Nat} {kp : Value} {ρ : pm_S} {S : FS} {R : Int32 × FS} (hdd : 2 ≤ d) (hE : f_X7_collectRents S = some R) : pm_met mX7_collectRents d 0 0 B [.ref (B + 1)] cnt (cst B kp S ρ) (pm_Qv (fun σ' cnt' => σ' = (cst B kp R.2 ρ) ∧ cnt' = cnt)) := by
  refine pm_enter 4 (by decide) (Nat.le_of_ble_eq_true rfl) rfl (fun G hG hR hF => ?_)
  unfold f_X7_collectRents at hE
  refine pm_aloadn hG dX7_collectRents_0 rfl ?_
  refine pm_getf hG dX7_collectRents_1 (flX7_14 _ rfl) rfl rfl ?_
  refine pm_callV (As := []) (rest := []) hG hR dX7_collectRents_4 (lkX7_79 _ rfl) okV_X9_used rfl rfl (tused_2 (d := 1)) rfl rfl hdd (Nat.le_refl _) (Nat.le_refl _) (by decide) (fx_ki ?_)
  refine fx_letv hE (fun x1 hE => ?_)
  refine pm_istoreXn (loc' := [some (.ref (B + 1)), some (.int x1), none, none, none]) hG dX7_collectRents_7 (by decide) (pm_c1b rfl) rfl ?_
  refine pm_iconst (v := 0) hG dX7_collectRents_8 (by decide) ?_
  refine pm_istoreXn (loc' := [some (.ref (B + 1)), some (.int x1), some (.int 0), none, none]) hG dX7_collectRents_9 (by decide) (pm_c1b rfl) rfl ?_
  have loop10 : ∀ (k10 : FS → Int32 → Option (Int32 × FS)), (∀ (S2 : FS) (x2_2 : Int32), k10 S2  x2_2 = some R → pm_wp mX7_collectRents G B 91 [some (.ref (B + 1)), some (.int x1), some (.int x2_2), none, none] [] 0 0 cnt (cst B kp S2 ρ)) → ∀ (m10 : Nat) (S2 : FS) (x2_2 : Int32), l_X7_collectRents_10 x1 k10 m10 S2  x2_2 = some R → pm_wp mX7_collectRents G B 10 [some (.ref (B + 1)), some (.int x1), some (.int x2_2), none, none] [] 0 0 cnt (cst B kp S2 ρ) := by
    intro k10 hk10 m10
    induction m10 with
    | zero => intro S2  x2_2 hE; exact fx_no hE
    | succ m10 ih10 =>
      intro S2  x2_2 hE
      rw [l_X7_collectRents_10] at hE
      refine pm_iloadn hG dX7_collectRents_10 rfl ?_
      refine pm_iloadn hG dX7_collectRents_11 rfl ?_
      refine pm_icmp_ge (tgt := 91) hG dX7_collectRents_12 rfl (fun c3 => ?_) (fun c3 => ?_)
      · replace c3 := Int32.not_lt.mpr c3
        replace hE := fx_f c3 hE
        exact hk10 _ _ hE
      · replace c3 := Int32.not_le.mp c3
        replace hE := fx_t c3 hE
        refine pm_aloadn hG dX7_collectRents_15 rfl ?_
        refine pm_getf hG dX7_collectRents_16 (flX7_14 _ rfl) rfl rfl ?_
        refine pm_iloadn hG dX7_collectRents_19 rfl ?_
        refine pm_iconst (v := 0) hG dX7_collectRents_20 (by decide) ?_
        refine pm_callV (As := [.int x2_2, .int 0]) (rest := []) hG hR dX7_collectRents_21 (lkX7_83 _ rfl) okV_X9_get rfl rfl (tget_2 (d := 1)) rfl rfl hdd (Nat.le_refl _) (Nat.le_refl _) (by decide) (fx_ki ?_)
        refine fx_letv hE (fun x4 hE => ?_)
        refine pm_istoreXn (loc' := [some (.ref (B + 1)), some (.int x1), some (.int x2_2), some (.int x4), none]) hG dX7_collectRents_24 (by decide) (pm_c1b rfl) rfl ?_
        refine pm_aloadn hG dX7_collectRents_25 rfl ?_
        refine pm_getf hG dX7_collectRents_26 (flX7_14 _ rfl) rfl rfl ?_
        refine pm_iloadn hG dX7_collectRents_29 rfl ?_
        refine pm_iconst (v := 1) hG dX7_collectRents_30 (by decide) ?_
        refine pm_callV (As := [.int x2_2, .int 1]) (rest := []) hG hR dX7_collectRents_31 (lkX7_83 _ rfl) okV_X9_get rfl rfl (tget_2 (d := 1)) rfl rfl hdd (Nat.le_refl _) (Nat.le_refl _) (by decide) (fx_ki ?_)
        refine fx_letv hE (fun x5 hE => ?_)
        refine pm_istoreXi (loc' := [some (.ref (B + 1)), some (.int x1), some (.int x2_2), some (.int x4), some (.int x5)]) hG dX7_collectRents_34 (by decide) (pm_c1b rfl) rfl ?_
        refine pm_aloadn hG dX7_collectRents_36 rfl ?_
        refine pm_getf hG dX7_collectRents_37 (flX7_14 _ rfl) rfl rfl ?_
        refine pm_iloadn hG dX7_collectRents_40 rfl ?_
        refine pm_iconst (v := 2) hG dX7_collectRents_41 (by decide) ?_
        refine pm_callV (As := [.int x2_2, .int 2]) (rest := []) hG hR dX7_collectRents_42 (lkX7_83 _ rfl) okV_X9_get rfl rfl (tget_2 (d := 1)) rfl rfl hdd (Nat.le_refl _) (Nat.le_refl _) (by decide) (fx_ki ?_)
        refine pm_if_eq (tgt := 51) hG dX7_collectRents_45 rfl (fun c6 => ?_) (fun c6 => ?_)
        · replace hE := fx_t c6 hE
          refine pm_aloadn hG dX7_collectRents_51 rfl ?_
          refine pm_iloadi hG dX7_collectRents_52 rfl ?_
          refine pm_callV (As := [.int x5]) (rest := []) hG hR dX7_collectRents_54 (lkX7_103 _ rfl) okV_X7_isLiving rfl rfl (c_X7_isLiving (d := 1) (by decide) rfl) rfl rfl hdd (Nat.le_refl _) (Nat.le_refl _) (by decide) (fx_ki ?_)
          refine pm_if_eq (tgt := 75) hG dX7_collectRents_57 rfl (fun c7 => ?_) (fun c7 => ?_)
          · replace hE := fx_t c7 hE
            refine pm_aloadn hG dX7_collectRents_75 rfl ?_
            refine pm_dup hG dX7_collectRents_76 rfl ?_
            refine pm_getf hG dX7_collectRents_77 (flX7_53 _ rfl) rfl rfl ?_
            refine pm_iloadn hG dX7_collectRents_80 rfl ?_
            refine pm_iadd hG dX7_collectRents_81 ?_
            refine pm_putf hG dX7_collectRents_82 (fwX7_53 _ rfl) rfl rfl rfl ?_
            refine ci_103 ?_
            refine fx_letc hE (fun S8 hE => ?_)
            refine pm_iincX (v := x2_2 + 1) (loc' := [some (.ref (B + 1)), some (.int x1), some (.int (x2_2 + 1)), some (.int x4), some (.int x5)]) hG dX7_collectRents_85 rfl (by rfl) (by decide) (pm_c1b rfl) rfl ?_
            refine pm_goto (tgt := 10) hG dX7_collectRents_88 rfl ?_
            refine pm_fg 3 (loc' := [some (.ref (B + 1)), some (.int x1), some (.int (x2_2 + 1)), none, some (.int x5)]) rfl ?_
            refine pm_fg 4 (loc' := [some (.ref (B + 1)), some (.int x1), some (.int (x2_2 + 1)), none, none]) rfl ?_
            exact ih10 _ _ hE
          · replace hE := fx_f c7 hE
            refine pm_aloadn hG dX7_collectRents_60 rfl ?_
            refine pm_getf hG dX7_collectRents_61 (flX7_23 _ rfl) rfl rfl ?_
            refine pm_iloadi hG dX7_collectRents_64 rfl ?_
            refine pm_bipush (v := 7) hG dX7_collectRents_66 (by decide) ?_
            refine pm_iloadn hG dX7_collectRents_68 rfl ?_
            refine pm_callV (As := [.int x5, .int 7, .int x4]) (rest := []) hG hR dX7_collectRents_69 (lkX7_125 _ rfl) okV_X9_add rfl rfl (tadd_6 (d := 1) (by decide)) rfl rfl hdd (Nat.le_refl _) (Nat.le_refl _) (by decide) (fx_kv ?_)
            refine fx_letc hE (fun S9 hE => ?_)
            refine pm_goto (tgt := 85) hG dX7_collectRents_72 rfl ?_
            refine pm_iincX (v := x2_2 + 1) (loc' := [some (.ref (B + 1)), some (.int x1), some (.int (x2_2 + 1)), some (.int x4), some (.int x5)]) hG dX7_collectRents_85 rfl (by rfl) (by decide) (pm_c1b rfl) rfl ?_
            refine pm_goto (tgt := 10) hG dX7_collectRents_88 rfl ?_
            refine pm_fg 3 (loc' := [some (.ref (B + 1)), some (.int x1), some (.int (x2_2 + 1)), none, some (.int x5)]) rfl ?_
            refine pm_fg 4 (loc' := [some (.ref (B + 1)), some (.int x1), some (.int (x2_2 + 1)), none, none]) rfl ?_
            exact ih10 _ _ hE
        · replace hE := fx_f c6 hE
          refine pm_goto (tgt := 85) hG dX7_collectRents_48 rfl ?_
          refine pm_iincX (v := x2_2 + 1) (loc' := [some (.ref (B + 1)), some (.int x1), some (.int (x2_2 + 1)), some (.int x4), some (.int x5)]) hG dX7_collectRents_85 rfl (by rfl) (by decide) (pm_c1b rfl) rfl ?_
          refine pm_goto (tgt := 10) hG dX7_collectRents_88 rfl ?_
          refine pm_fg 3 (loc' := [some (.ref (B + 1)), some (.int x1), some (.int (x2_2 + 1)), none, some (.int x5)]) rfl ?_
          refine pm_fg 4 (loc' := [some (.ref (B + 1)), some (.int x1), some (.int (x2_2 + 1)), none, none]) rfl ?_
          exact ih10 _ _ hE
  refine loop10 _ (fun S10 x10_2 hE => ?_) _ _ _ hE
  exact pm_vret hG hF dX7_collectRents_91 rfl (Nat.le_refl _) (Nat.le_refl _) (fx_rvc hE)

set_option maxRecDepth 100000 in
set_option maxHeartbeats 4000000 in
theorem c_X7_payMen {d : Nat} {B cnt : Nat} {kp : Value} {ρ : pm_S} {S : FS} {R : Int32 × FS} (hdd : 2 ≤ d) (hE : f_X7_payMen S = some R) : pm_met mX7_payMen d 0 0 B [.ref (B + 1)] cnt (cst B kp S ρ) (pm_Qv (fun σ' cnt' => σ' = (cst B kp R.2 ρ) ∧ cnt' = cnt)) := by
  refine pm_enter 3 (by decide) (Nat.le_of_ble_eq_true rfl) rfl (fun G hG hR hF => ?_)
  unfold f_X7_payMen at hE
  refine pm_aloadn hG dX7_payMen_0 rfl ?_
  refine pm_getf hG dX7_payMen_1 (flX7_23 _ rfl) rfl rfl ?_
  refine pm_callV (As := []) (rest := []) hG hR dX7_payMen_4 (lkX7_79 _ rfl) okV_X9_used rfl rfl (tused_6 (d := 1)) rfl rfl hdd (Nat.le_refl _) (Nat.le_refl _) (by decide) (fx_ki ?_)
  refine fx_letv hE (fun x1 hE => ?_)
  refine pm_istoreXn (loc' := [some (.ref (B + 1)), some (.int x1), none, none]) hG dX7_payMen_7 (by decide) (pm_c1b rfl) rfl ?_
  refine pm_iconst (v := 0) hG dX7_payMen_8 (by decide) ?_
  refine pm_istoreXn (loc' := [some (.ref (B + 1)), some (.int x1), some (.int 0), none]) hG dX7_payMen_9 (by decide) (pm_c1b rfl) rfl ?_
  have loop10 : ∀ (k10 : FS → Int32 → Option (Int32 × FS)), (∀ (S2 : FS) (x2_2 : Int32), k10 S2  x2_2 = some R → pm_wp mX7_payMen G B 68 [some (.ref (B + 1)), some (.int x1), some (.int x2_2), none] [] 0 0 cnt (cst B kp S2 ρ)) → ∀ (m10 : Nat) (S2 : FS) (x2_2 : Int32), l_X7_payMen_10 x1 k10 m10 S2  x2_2 = some R → pm_wp mX7_payMen G B 10 [some (.ref (B + 1)), some (.int x1), some (.int x2_2), none] [] 0 0 cnt (cst B kp S2 ρ) := by
    intro k10 hk10 m10
    induction m10 with
    | zero => intro S2  x2_2 hE; exact fx_no hE
    | succ m10 ih10 =>
      intro S2  x2_2 hE
      rw [l_X7_payMen_10] at hE
      refine pm_iloadn hG dX7_payMen_10 rfl ?_
      refine pm_iloadn hG dX7_payMen_11 rfl ?_
      refine pm_icmp_ge (tgt := 68) hG dX7_payMen_12 rfl (fun c3 => ?_) (fun c3 => ?_)
      · replace c3 := Int32.not_lt.mpr c3
        replace hE := fx_f c3 hE
        exact hk10 _ _ hE
      · replace c3 := Int32.not_le.mp c3
        replace hE := fx_t c3 hE
        refine pm_aloadn hG dX7_payMen_15 rfl ?_
        refine pm_getf hG dX7_payMen_16 (flX7_23 _ rfl) rfl rfl ?_
        refine pm_iloadn hG dX7_payMen_19 rfl ?_
        refine pm_bipush (v := 8) hG dX7_payMen_20 (by decide) ?_
        refine pm_callV (As := [.int x2_2, .int 8]) (rest := []) hG hR dX7_payMen_22 (lkX7_83 _ rfl) okV_X9_get rfl rfl (tget_6 (d := 1)) rfl rfl hdd (Nat.le_refl _) (Nat.le_refl _) (by decide) (fx_ki ?_)
        refine pm_aloadn hG dX7_payMen_25 rfl ?_
        refine pm_getf hG dX7_payMen_26 (flX7_23 _ rfl) rfl rfl ?_
        refine pm_iloadn hG dX7_payMen_29 rfl ?_
        refine pm_bipush (v := 7) hG dX7_payMen_30 (by decide) ?_
        refine pm_callV (As := [.int x2_2, .int 7]) (rest := [.int (fG 6 20 14 S2 x2_2 8)]) hG hR dX7_payMen_32 (lkX7_83 _ rfl) okV_X9_get rfl rfl (tget_6 (d := 1)) rfl rfl hdd (Nat.le_refl _) (Nat.le_refl _) (by first | decide | exact Nat.le_of_ble_eq_true rfl) (fx_ki ?_)
        refine pm_mmin hG hR dX7_payMen_35 (mmX7_87 _ rfl) pm_mwmin (by omega) (by first | decide | exact Nat.le_of_ble_eq_true rfl) (Nat.le_refl _) (Nat.le_refl _) ?_
        refine pm_top (v := imin (fG 6 20 14 S2 x2_2 8) (fG 6 20 14 S2 x2_2 7)) rfl ?_
        refine fx_letv hE (fun x4 hE => ?_)
        refine pm_istoreXn (loc' := [some (.ref (B + 1)), some (.int x1), some (.int x2_2), some (.int x4)]) hG dX7_payMen_38 (by decide) (pm_c1b rfl) rfl ?_
        refine pm_aloadn hG dX7_payMen_39 rfl ?_
        refine pm_getf hG dX7_payMen_40 (flX7_23 _ rfl) rfl rfl ?_
        refine pm_iloadn hG dX7_payMen_43 rfl ?_
        refine pm_bipush (v := 7) hG dX7_payMen_44 (by decide) ?_
        refine pm_iloadn hG dX7_payMen_46 rfl ?_
        refine pm_ineg hG dX7_payMen_47 ?_
        refine pm_callV (As := [.int x2_2, .int 7, .int (-x4)]) (rest := []) hG hR dX7_payMen_48 (lkX7_125 _ rfl) okV_X9_add rfl rfl (tadd_6 (d := 1) (by decide)) rfl rfl hdd (Nat.le_refl _) (Nat.le_refl _) (by decide) (fx_kv ?_)
        refine fx_letc hE (fun S5 hE => ?_)
        refine pm_aloadn hG dX7_payMen_51 rfl ?_
        refine pm_getf hG dX7_payMen_52 (flX7_23 _ rfl) rfl rfl ?_
        refine pm_iloadn hG dX7_payMen_55 rfl ?_
        refine pm_bipush (v := 8) hG dX7_payMen_56 (by decide) ?_
        refine pm_iloadn hG dX7_payMen_58 rfl ?_
        refine pm_callV (As := [.int x2_2, .int 8, .int x4]) (rest := []) hG hR dX7_payMen_59 (lkX7_61 _ rfl) okV_X9_set rfl rfl (tset_6 (d := 1)) rfl rfl hdd (Nat.le_refl _) (Nat.le_refl _) (by decide) (fx_kv ?_)
        refine fx_letc hE (fun S6 hE => ?_)
        refine pm_iincX (v := x2_2 + 1) (loc' := [some (.ref (B + 1)), some (.int x1), some (.int (x2_2 + 1)), some (.int x4)]) hG dX7_payMen_62 rfl (by rfl) (by decide) (pm_c1b rfl) rfl ?_
        refine pm_goto (tgt := 10) hG dX7_payMen_65 rfl ?_
        refine pm_fg 3 (loc' := [some (.ref (B + 1)), some (.int x1), some (.int (x2_2 + 1)), none]) rfl ?_
        exact ih10 _ _ hE
  refine loop10 _ (fun S7 x7_2 hE => ?_) _ _ _ hE
  exact pm_vret hG hF dX7_payMen_68 rfl (Nat.le_refl _) (Nat.le_refl _) (fx_rvc hE)

set_option maxRecDepth 100000 in
set_option maxHeartbeats 4000000 in
theorem c_X7_missOnce {d : Nat} {B cnt : Nat} {kp : Value} {ρ : pm_S} {S : FS} {za : Int32} {R : Int32 × FS} (hdd : 2 ≤ d) (hE : f_X7_missOnce S za = some R) : pm_met mX7_missOnce d 0 0 B [.ref (B + 1), .int za] cnt (cst B kp S ρ) (pm_Qv (fun σ' cnt' => σ' = (cst B kp R.2 ρ) ∧ cnt' = cnt)) := by
  refine pm_enter 0 (by decide) (Nat.le_of_ble_eq_true rfl) rfl (fun G hG hR hF => ?_)
  unfold f_X7_missOnce at hE
  refine pm_aloadn hG dX7_missOnce_0 rfl ?_
  refine pm_getf hG dX7_missOnce_1 (flX7_38 _ rfl) rfl rfl ?_
  refine pm_iloadn hG dX7_missOnce_4 rfl ?_
  refine pm_iconst (v := 4) hG dX7_missOnce_5 (by decide) ?_
  refine pm_iconst (v := 1) hG dX7_missOnce_6 (by decide) ?_
  refine pm_callV (As := [.int za, .int 4, .int 1]) (rest := []) hG hR dX7_missOnce_7 (lkX7_125 _ rfl) okV_X9_add rfl rfl (tadd_16 (d := 1) (by decide)) rfl rfl hdd (Nat.le_refl _) (Nat.le_refl _) (by decide) (fx_kv ?_)
  refine fx_letc hE (fun S1 hE => ?_)
  refine pm_aloadn hG dX7_missOnce_10 rfl ?_
  refine pm_getf hG dX7_missOnce_11 (flX7_38 _ rfl) rfl rfl ?_
  refine pm_iloadn hG dX7_missOnce_14 rfl ?_
  refine pm_iconst (v := 4) hG dX7_missOnce_15 (by decide) ?_
  refine pm_callV (As := [.int za, .int 4]) (rest := []) hG hR dX7_missOnce_16 (lkX7_83 _ rfl) okV_X9_get rfl rfl (tget_16 (d := 1)) rfl rfl hdd (Nat.le_refl _) (Nat.le_refl _) (by decide) (fx_ki ?_)
  refine pm_iconst (v := 2) hG dX7_missOnce_19 (by decide) ?_
  refine pm_icmp_lt (tgt := 41) hG dX7_missOnce_20 rfl (fun c2 => ?_) (fun c2 => ?_)
  · replace hE := fx_t c2 hE
    exact pm_vret hG hF dX7_missOnce_41 rfl (Nat.le_refl _) (Nat.le_refl _) (fx_rvc hE)
  · replace hE := fx_f c2 hE
    refine pm_aloadn hG dX7_missOnce_23 rfl ?_
    refine pm_getf hG dX7_missOnce_24 (flX7_14 _ rfl) rfl rfl ?_
    refine pm_aloadn hG dX7_missOnce_27 rfl ?_
    refine pm_getf hG dX7_missOnce_28 (flX7_38 _ rfl) rfl rfl ?_
    refine pm_iloadn hG dX7_missOnce_31 rfl ?_
    refine pm_iconst (v := 3) hG dX7_missOnce_32 (by decide) ?_
    refine pm_callV (As := [.int za, .int 3]) (rest := [.ref (B + 2)]) hG hR dX7_missOnce_33 (lkX7_83 _ rfl) okV_X9_get rfl rfl (tget_16 (d := 1)) rfl rfl hdd (Nat.le_refl _) (Nat.le_refl _) (by first | decide | exact Nat.le_of_ble_eq_true rfl) (fx_ki ?_)
    refine pm_iconst (v := 2) hG dX7_missOnce_36 (by decide) ?_
    refine pm_iconst (v := 1) hG dX7_missOnce_37 (by decide) ?_
    refine pm_callV (As := [.int (fG 16 6 5 S1 za 3), .int 2, .int 1]) (rest := []) hG hR dX7_missOnce_38 (lkX7_61 _ rfl) okV_X9_set rfl rfl (tset_2 (d := 1)) rfl rfl hdd (Nat.le_refl _) (Nat.le_refl _) (by decide) (fx_kv ?_)
    refine fx_letc hE (fun S3 hE => ?_)
    exact pm_vret hG hF dX7_missOnce_41 rfl (Nat.le_refl _) (Nat.le_refl _) (fx_rvc hE)

set_option maxRecDepth 100000 in
set_option maxHeartbeats 4000000 in
theorem c_X7_serveDebts {d : Nat} {B cnt : Nat} {kp : Value} {ρ : pm_S} {S : FS} {R : Int32 × FS} (hdd : 3 ≤ d) (hE : f_X7_serveDebts S = some R) : pm_met mX7_serveDebts d 0 0 B [.ref (B + 1)] cnt (cst B kp S ρ) (pm_Qv (fun σ' cnt' => σ' = (cst B kp R.2 ρ) ∧ cnt' = cnt)) := by
  refine pm_enter 5 (by decide) (Nat.le_of_ble_eq_true rfl) rfl (fun G hG hR hF => ?_)
  unfold f_X7_serveDebts at hE
  refine pm_aloadn hG dX7_serveDebts_0 rfl ?_
  refine pm_getf hG dX7_serveDebts_1 (flX7_38 _ rfl) rfl rfl ?_
  refine pm_callV (As := []) (rest := []) hG hR dX7_serveDebts_4 (lkX7_79 _ rfl) okV_X9_used rfl rfl (tused_16 (d := 2)) rfl rfl hdd (Nat.le_refl _) (Nat.le_refl _) (by decide) (fx_ki ?_)
  refine fx_letv hE (fun x1 hE => ?_)
  refine pm_istoreXn (loc' := [some (.ref (B + 1)), some (.int x1), none, none, none, none]) hG dX7_serveDebts_7 (by decide) (pm_c1b rfl) rfl ?_
  refine pm_iconst (v := 0) hG dX7_serveDebts_8 (by decide) ?_
  refine pm_istoreXn (loc' := [some (.ref (B + 1)), some (.int x1), some (.int 0), none, none, none]) hG dX7_serveDebts_9 (by decide) (pm_c1b rfl) rfl ?_
  have loop10 : ∀ (k10 : FS → Int32 → Option (Int32 × FS)), (∀ (S2 : FS) (x2_2 : Int32), k10 S2  x2_2 = some R → pm_wp mX7_serveDebts G B 123 [some (.ref (B + 1)), some (.int x1), some (.int x2_2), none, none, none] [] 0 0 cnt (cst B kp S2 ρ)) → ∀ (m10 : Nat) (S2 : FS) (x2_2 : Int32), l_X7_serveDebts_10 x1 k10 m10 S2  x2_2 = some R → pm_wp mX7_serveDebts G B 10 [some (.ref (B + 1)), some (.int x1), some (.int x2_2), none, none, none] [] 0 0 cnt (cst B kp S2 ρ) := by
    intro k10 hk10 m10
    induction m10 with
    | zero => intro S2  x2_2 hE; exact fx_no hE
    | succ m10 ih10 =>
      intro S2  x2_2 hE
      rw [l_X7_serveDebts_10] at hE
      refine pm_iloadn hG dX7_serveDebts_10 rfl ?_
      refine pm_iloadn hG dX7_serveDebts_11 rfl ?_
      refine pm_icmp_ge (tgt := 123) hG dX7_serveDebts_12 rfl (fun c3 => ?_) (fun c3 => ?_)
      · replace c3 := Int32.not_lt.mpr c3
        replace hE := fx_f c3 hE
        exact hk10 _ _ hE
      · replace c3 := Int32.not_le.mp c3
        replace hE := fx_t c3 hE
        refine pm_aloadn hG dX7_serveDebts_15 rfl ?_
        refine pm_getf hG dX7_serveDebts_16 (flX7_38 _ rfl) rfl rfl ?_
        refine pm_iloadn hG dX7_serveDebts_19 rfl ?_
        refine pm_iconst (v := 0) hG dX7_serveDebts_20 (by decide) ?_
        refine pm_callV (As := [.int x2_2, .int 0]) (rest := []) hG hR dX7_serveDebts_21 (lkX7_83 _ rfl) okV_X9_get rfl rfl (tget_16 (d := 2)) rfl rfl hdd (Nat.le_refl _) (Nat.le_refl _) (by decide) (fx_ki ?_)
        refine fx_letv hE (fun x4 hE => ?_)
        refine pm_istoreXn (loc' := [some (.ref (B + 1)), some (.int x1), some (.int x2_2), some (.int x4), none, none]) hG dX7_serveDebts_24 (by decide) (pm_c1b rfl) rfl ?_
        refine pm_ldc hG dX7_serveDebts_25 (ctX7_156 _ rfl) ?_
        refine pm_iloadn hG dX7_serveDebts_27 rfl ?_
        refine pm_iloadn hG dX7_serveDebts_28 rfl ?_
        refine pm_aloadn hG dX7_serveDebts_29 rfl ?_
        refine pm_getf hG dX7_serveDebts_30 (flX7_38 _ rfl) rfl rfl ?_
        refine pm_iloadn hG dX7_serveDebts_33 rfl ?_
        refine pm_iconst (v := 1) hG dX7_serveDebts_34 (by decide) ?_
        refine pm_callV (As := [.int x2_2, .int 1]) (rest := [.int x4, .int x4, .int 999999]) hG hR dX7_serveDebts_35 (lkX7_83 _ rfl) okV_X9_get rfl rfl (tget_16 (d := 2)) rfl rfl hdd (Nat.le_refl _) (Nat.le_refl _) (by first | decide | exact Nat.le_of_ble_eq_true rfl) (fx_ki ?_)
        refine pm_imul hG dX7_serveDebts_38 ?_
        refine pm_bipush (v := 100) hG dX7_serveDebts_39 (by decide) ?_
        refine pm_idiv hG dX7_serveDebts_41 (by decide) ?_
        refine pm_iadd hG dX7_serveDebts_42 ?_
        refine pm_mmin hG hR dX7_serveDebts_43 (mmX7_87 _ rfl) pm_mwmin (by omega) (by first | decide | exact Nat.le_of_ble_eq_true rfl) (Nat.le_refl _) (Nat.le_refl _) ?_
        refine pm_top (v := imin 999999 (x4 + ((x4 * (fG 16 6 5 S2 x2_2 1)) / 100))) rfl ?_
        refine fx_letv hE (fun x5 hE => ?_)
        refine pm_istoreXi (loc' := [some (.ref (B + 1)), some (.int x1), some (.int x2_2), some (.int x4), some (.int x5), none]) hG dX7_serveDebts_46 (by decide) (pm_c1b rfl) rfl ?_
        refine pm_iloadi hG dX7_serveDebts_48 rfl ?_
        refine pm_aloadn hG dX7_serveDebts_50 rfl ?_
        refine pm_getf hG dX7_serveDebts_51 (flX7_38 _ rfl) rfl rfl ?_
        refine pm_iloadn hG dX7_serveDebts_54 rfl ?_
        refine pm_iconst (v := 2) hG dX7_serveDebts_55 (by decide) ?_
        refine pm_callV (As := [.int x2_2, .int 2]) (rest := [.int x5]) hG hR dX7_serveDebts_56 (lkX7_83 _ rfl) okV_X9_get rfl rfl (tget_16 (d := 2)) rfl rfl hdd (Nat.le_refl _) (Nat.le_refl _) (by first | decide | exact Nat.le_of_ble_eq_true rfl) (fx_ki ?_)
        refine pm_mmin hG hR dX7_serveDebts_59 (mmX7_87 _ rfl) pm_mwmin (by omega) (by first | decide | exact Nat.le_of_ble_eq_true rfl) (Nat.le_refl _) (Nat.le_refl _) ?_
        refine pm_top (v := imin x5 (fG 16 6 5 S2 x2_2 2)) rfl ?_
        refine fx_letv hE (fun x6 hE => ?_)
        refine pm_istoreXi (loc' := [some (.ref (B + 1)), some (.int x1), some (.int x2_2), some (.int x4), some (.int x5), some (.int x6)]) hG dX7_serveDebts_62 (by decide) (pm_c1b rfl) rfl ?_
        refine pm_aloadn hG dX7_serveDebts_64 rfl ?_
        refine pm_getf hG dX7_serveDebts_65 (flX7_53 _ rfl) rfl rfl ?_
        refine pm_iloadi hG dX7_serveDebts_68 rfl ?_
        refine pm_icmp_lt (tgt := 101) hG dX7_serveDebts_70 rfl (fun c7 => ?_) (fun c7 => ?_)
        · replace hE := fx_t c7 hE
          refine pm_aloadn hG dX7_serveDebts_101 rfl ?_
          refine pm_getf hG dX7_serveDebts_102 (flX7_38 _ rfl) rfl rfl ?_
          refine pm_iloadn hG dX7_serveDebts_105 rfl ?_
          refine pm_iconst (v := 0) hG dX7_serveDebts_106 (by decide) ?_
          refine pm_iloadi hG dX7_serveDebts_107 rfl ?_
          refine pm_callV (As := [.int x2_2, .int 0, .int x5]) (rest := []) hG hR dX7_serveDebts_109 (lkX7_61 _ rfl) okV_X9_set rfl rfl (tset_16 (d := 2)) rfl rfl hdd (Nat.le_refl _) (Nat.le_refl _) (by decide) (fx_kv ?_)
          refine fx_letc hE (fun S8 hE => ?_)
          refine pm_aloadn hG dX7_serveDebts_112 rfl ?_
          refine pm_iloadn hG dX7_serveDebts_113 rfl ?_
          obtain ⟨r10, h9, hE⟩ := fb_some hE
          refine pm_callV (As := [.int x2_2]) (rest := []) hG hR dX7_serveDebts_114 (lkX7_157 _ rfl) okV_X7_missOnce rfl rfl (c_X7_missOnce (d := 2) (by decide) h9) rfl rfl hdd (Nat.le_refl _) (Nat.le_refl _) (by decide) (fx_kv ?_)
          refine pm_iincX (v := x2_2 + 1) (loc' := [some (.ref (B + 1)), some (.int x1), some (.int (x2_2 + 1)), some (.int x4), some (.int x5), some (.int x6)]) hG dX7_serveDebts_117 rfl (by rfl) (by decide) (pm_c1b rfl) rfl ?_
          refine pm_goto (tgt := 10) hG dX7_serveDebts_120 rfl ?_
          refine pm_fg 3 (loc' := [some (.ref (B + 1)), some (.int x1), some (.int (x2_2 + 1)), none, some (.int x5), some (.int x6)]) rfl ?_
          refine pm_fg 4 (loc' := [some (.ref (B + 1)), some (.int x1), some (.int (x2_2 + 1)), none, none, some (.int x6)]) rfl ?_
          refine pm_fg 5 (loc' := [some (.ref (B + 1)), some (.int x1), some (.int (x2_2 + 1)), none, none, none]) rfl ?_
          exact ih10 _ _ hE
        · replace hE := fx_f c7 hE
          refine pm_aloadn hG dX7_serveDebts_73 rfl ?_
          refine pm_dup hG dX7_serveDebts_74 rfl ?_
          refine pm_getf hG dX7_serveDebts_75 (flX7_53 _ rfl) rfl rfl ?_
          refine pm_iloadi hG dX7_serveDebts_78 rfl ?_
          refine pm_isub hG dX7_serveDebts_80 ?_
          refine pm_putf hG dX7_serveDebts_81 (fwX7_53 _ rfl) rfl rfl rfl ?_
          refine ci_103 ?_
          refine fx_letc hE (fun S11 hE => ?_)
          refine pm_aloadn hG dX7_serveDebts_84 rfl ?_
          refine pm_getf hG dX7_serveDebts_85 (flX7_38 _ rfl) rfl rfl ?_
          refine pm_iloadn hG dX7_serveDebts_88 rfl ?_
          refine pm_iconst (v := 0) hG dX7_serveDebts_89 (by decide) ?_
          refine pm_iloadi hG dX7_serveDebts_90 rfl ?_
          refine pm_iloadi hG dX7_serveDebts_92 rfl ?_
          refine pm_isub hG dX7_serveDebts_94 ?_
          refine pm_callV (As := [.int x2_2, .int 0, .int (x5 - x6)]) (rest := []) hG hR dX7_serveDebts_95 (lkX7_61 _ rfl) okV_X9_set rfl rfl (tset_16 (d := 2)) rfl rfl hdd (Nat.le_refl _) (Nat.le_refl _) (by decide) (fx_kv ?_)
          refine fx_letc hE (fun S12 hE => ?_)
          refine pm_goto (tgt := 117) hG dX7_serveDebts_98 rfl ?_
          refine pm_iincX (v := x2_2 + 1) (loc' := [some (.ref (B + 1)), some (.int x1), some (.int (x2_2 + 1)), some (.int x4), some (.int x5), some (.int x6)]) hG dX7_serveDebts_117 rfl (by rfl) (by decide) (pm_c1b rfl) rfl ?_
          refine pm_goto (tgt := 10) hG dX7_serveDebts_120 rfl ?_
          refine pm_fg 3 (loc' := [some (.ref (B + 1)), some (.int x1), some (.int (x2_2 + 1)), none, some (.int x5), some (.int x6)]) rfl ?_
          refine pm_fg 4 (loc' := [some (.ref (B + 1)), some (.int x1), some (.int (x2_2 + 1)), none, none, some (.int x6)]) rfl ?_
          refine pm_fg 5 (loc' := [some (.ref (B + 1)), some (.int x1), some (.int (x2_2 + 1)), none, none, none]) rfl ?_
          exact ih10 _ _ hE
  refine loop10 _ (fun S13 x13_2 hE => ?_) _ _ _ hE
  exact pm_vret hG hF dX7_serveDebts_123 rfl (Nat.le_refl _) (Nat.le_refl _) (fx_rvc hE)

set_option maxRecDepth 100000 in
set_option maxHeartbeats 4000000 in
theorem c_X7_endDay {d : Nat} {B cnt : Nat} {kp : Value} {ρ : pm_S} {S : FS} {R : Int32 × FS} (hdd : 4 ≤ d) (hE : f_X7_endDay S = some R) : pm_met mX7_endDay d 0 0 B [.ref (B + 1)] cnt (cst B kp S ρ) (pm_Qv (fun σ' cnt' => σ' = (cst B kp R.2 ρ) ∧ cnt' = cnt)) := by
  refine pm_enter 0 (by decide) (Nat.le_of_ble_eq_true rfl) rfl (fun G hG hR hF => ?_)
  unfold f_X7_endDay at hE
  refine pm_aloadn hG dX7_endDay_0 rfl ?_
  refine pm_dup hG dX7_endDay_1 rfl ?_
  refine pm_getf hG dX7_endDay_2 (flX7_72 _ rfl) rfl rfl ?_
  refine pm_iconst (v := 1) hG dX7_endDay_5 (by decide) ?_
  refine pm_iadd hG dX7_endDay_6 ?_
  refine pm_putf hG dX7_endDay_7 (fwX7_72 _ rfl) rfl rfl rfl ?_
  refine ci_102 ?_
  refine fx_letc hE (fun S1 hE => ?_)
  refine pm_aloadn hG dX7_endDay_10 rfl ?_
  obtain ⟨r3, h2, hE⟩ := fb_some hE
  refine pm_callV (As := []) (rest := []) hG hR dX7_endDay_11 (lkX7_141 _ rfl) okV_X7_bringTravellers rfl rfl (c_X7_bringTravellers (d := 3) (by decide) h2) rfl rfl hdd (Nat.le_refl _) (Nat.le_refl _) (by decide) (fx_kv ?_)
  refine pm_aloadn hG dX7_endDay_14 rfl ?_
  obtain ⟨r5, h4, hE⟩ := fb_some hE
  refine pm_callV (As := []) (rest := []) hG hR dX7_endDay_15 (lkX7_144 _ rfl) okV_X7_takeBackLent rfl rfl (c_X7_takeBackLent (d := 3) (by decide) h4) rfl rfl hdd (Nat.le_refl _) (Nat.le_refl _) (by decide) (fx_kv ?_)
  refine pm_aloadn hG dX7_endDay_18 rfl ?_
  refine pm_getf hG dX7_endDay_19 (flX7_72 _ rfl) rfl rfl ?_
  refine pm_bipush (v := 90) hG dX7_endDay_22 (by decide) ?_
  refine pm_irem hG dX7_endDay_24 (by decide) ?_
  refine pm_if_ne (tgt := 40) hG dX7_endDay_25 rfl (fun c6 => ?_) (fun c6 => ?_)
  · replace hE := fx_f c6 hE
    exact pm_vret hG hF dX7_endDay_40 rfl (Nat.le_refl _) (Nat.le_refl _) (fx_rvc hE)
  · replace hE := fx_t c6 hE
    refine pm_aloadn hG dX7_endDay_28 rfl ?_
    obtain ⟨r8, h7, hE⟩ := fb_some hE
    refine pm_callV (As := []) (rest := []) hG hR dX7_endDay_29 (lkX7_147 _ rfl) okV_X7_collectRents rfl rfl (c_X7_collectRents (d := 3) (by decide) h7) rfl rfl hdd (Nat.le_refl _) (Nat.le_refl _) (by decide) (fx_kv ?_)
    refine pm_aloadn hG dX7_endDay_32 rfl ?_
    obtain ⟨r10, h9, hE⟩ := fb_some hE
    refine pm_callV (As := []) (rest := []) hG hR dX7_endDay_33 (lkX7_150 _ rfl) okV_X7_payMen rfl rfl (c_X7_payMen (d := 3) (by decide) h9) rfl rfl hdd (Nat.le_refl _) (Nat.le_refl _) (by decide) (fx_kv ?_)
    refine pm_aloadn hG dX7_endDay_36 rfl ?_
    obtain ⟨r12, h11, hE⟩ := fb_some hE
    refine pm_callV (As := []) (rest := []) hG hR dX7_endDay_37 (lkX7_153 _ rfl) okV_X7_serveDebts rfl rfl (c_X7_serveDebts (d := 3) (by decide) h11) rfl rfl hdd (Nat.le_refl _) (Nat.le_refl _) (by decide) (fx_kv ?_)
    exact pm_vret hG hF dX7_endDay_40 rfl (Nat.le_refl _) (Nat.le_refl _) (fx_rvc hE)

set_option maxRecDepth 100000 in
set_option maxHeartbeats 4000000 in
theorem c_X11_days {d : Nat} {B cnt : Nat} {kp : Value} {ρ : pm_S} {S : FS} {za : Int32} {R : Int32 × FS} (hdd : 5 ≤ d) (hE : f_X11_days S za = some R) : pm_met mX11_days d 0 0 B [.ref (B + 0), .int za] cnt (cst B kp S ρ) (pm_Qi (fun v σ' cnt' => v = R.1 ∧ σ' = (cst B kp R.2 ρ) ∧ cnt' = cnt)) := by
  refine pm_enter 1 (by decide) (Nat.le_of_ble_eq_true rfl) rfl (fun G hG hR hF => ?_)
  unfold f_X11_days at hE
  refine pm_iloadn hG dX11_days_0 rfl ?_
  refine pm_iconst (v := 1) hG dX11_days_1 (by decide) ?_
  refine pm_sipush (v := 400) hG dX11_days_2 (by decide) ?_
  refine pm_callS (As := [.int za, .int 1, .int 400]) (rest := []) hG hR dX11_days_5 (lkX11_105 _ rfl) okS_X11_isOutside (tOut (d := 4)) rfl rfl hdd (Nat.le_refl _) (Nat.le_refl _) (by decide) (fx_ki ?_)
  refine pm_if_ne (tgt := 26) hG dX11_days_8 rfl (fun c1 => ?_) (fun c1 => ?_)
  · replace hE := fx_f c1 hE
    refine pm_aloadn hG dX11_days_26 rfl ?_
    refine pm_ldc hG dX11_days_27 (ctX11_109 _ rfl) ?_
    obtain ⟨r3, h2, hE⟩ := fb_some hE
    refine pm_callV (As := [.int (-1000001)]) (rest := []) hG hR dX11_days_29 (lkX11_97 _ rfl) okV_X11_told rfl rfl (c_X11_told (d := 4) (by decide) h2) rfl rfl hdd (Nat.le_refl _) (Nat.le_refl _) (by decide) (fx_ki ?_)
    exact pm_iret hG hF dX11_days_32 rfl (Nat.le_refl _) (Nat.le_refl _) (fx_ric hE)
  · replace hE := fx_t c1 hE
    refine pm_aloadn hG dX11_days_11 rfl ?_
    refine pm_getf hG dX11_days_12 (flX11_12 _ rfl) rfl rfl ?_
    refine pm_getf hG dX11_days_15 (flX11_122 _ rfl) rfl rfl ?_
    refine pm_iloadn hG dX11_days_18 rfl ?_
    refine pm_iadd hG dX11_days_19 ?_
    refine pm_sipush (v := 2000) hG dX11_days_20 (by decide) ?_
    refine pm_icmp_le (tgt := 33) hG dX11_days_23 rfl (fun c4 => ?_) (fun c4 => ?_)
    · replace c4 := Int32.not_lt.mpr c4
      replace hE := fx_f c4 hE
      refine pm_iconst (v := 0) hG dX11_days_33 (by decide) ?_
      refine pm_istoreXn (loc' := [some (.ref (B + 0)), some (.int za), some (.int 0)]) hG dX11_days_34 (by decide) (pm_c1b rfl) rfl ?_
      have loop35 : ∀ (k35 : FS → Int32 → Option (Int32 × FS)), (∀ (S5 : FS) (x5_2 : Int32), k35 S5  x5_2 = some R → pm_wp mX11_days G B 53 [some (.ref (B + 0)), some (.int za), some (.int x5_2)] [] 0 0 cnt (cst B kp S5 ρ)) → ∀ (m35 : Nat) (S5 : FS) (x5_2 : Int32), l_X11_days_35 za k35 m35 S5  x5_2 = some R → pm_wp mX11_days G B 35 [some (.ref (B + 0)), some (.int za), some (.int x5_2)] [] 0 0 cnt (cst B kp S5 ρ) := by
        intro k35 hk35 m35
        induction m35 with
        | zero => intro S5  x5_2 hE; exact fx_no hE
        | succ m35 ih35 =>
          intro S5  x5_2 hE
          rw [l_X11_days_35] at hE
          refine pm_iloadn hG dX11_days_35 rfl ?_
          refine pm_iloadn hG dX11_days_36 rfl ?_
          refine pm_icmp_ge (tgt := 53) hG dX11_days_37 rfl (fun c6 => ?_) (fun c6 => ?_)
          · replace c6 := Int32.not_lt.mpr c6
            replace hE := fx_f c6 hE
            exact hk35 _ _ hE
          · replace c6 := Int32.not_le.mp c6
            replace hE := fx_t c6 hE
            refine pm_aloadn hG dX11_days_40 rfl ?_
            refine pm_getf hG dX11_days_41 (flX11_12 _ rfl) rfl rfl ?_
            obtain ⟨r8, h7, hE⟩ := fb_some hE
            refine pm_callV (As := []) (rest := []) hG hR dX11_days_44 (lkX11_245 _ rfl) okV_X7_endDay rfl rfl (c_X7_endDay (d := 4) (by decide) h7) rfl rfl hdd (Nat.le_refl _) (Nat.le_refl _) (by decide) (fx_kv ?_)
            refine pm_iincX (v := x5_2 + 1) (loc' := [some (.ref (B + 0)), some (.int za), some (.int (x5_2 + 1))]) hG dX11_days_47 rfl (by rfl) (by decide) (pm_c1b rfl) rfl ?_
            refine pm_goto (tgt := 35) hG dX11_days_50 rfl ?_
            exact ih35 _ _ hE
      refine loop35 _ (fun S9 x9_2 hE => ?_) _ _ _ hE
      refine pm_aloadn hG dX11_days_53 rfl ?_
      refine pm_getf hG dX11_days_54 (flX11_12 _ rfl) rfl rfl ?_
      refine pm_getf hG dX11_days_57 (flX11_122 _ rfl) rfl rfl ?_
      exact pm_iret hG hF dX11_days_60 rfl (Nat.le_refl _) (Nat.le_refl _) (fx_ric hE)
    · replace c4 := Int32.not_le.mp c4
      replace hE := fx_t c4 hE
      refine pm_aloadn hG dX11_days_26 rfl ?_
      refine pm_ldc hG dX11_days_27 (ctX11_109 _ rfl) ?_
      obtain ⟨r11, h10, hE⟩ := fb_some hE
      refine pm_callV (As := [.int (-1000001)]) (rest := []) hG hR dX11_days_29 (lkX11_97 _ rfl) okV_X11_told rfl rfl (c_X11_told (d := 4) (by decide) h10) rfl rfl hdd (Nat.le_refl _) (Nat.le_refl _) (by decide) (fx_ki ?_)
      exact pm_iret hG hF dX11_days_32 rfl (Nat.le_refl _) (Nat.le_refl _) (fx_ric hE)

set_option maxRecDepth 100000 in
set_option maxHeartbeats 4000000 in
theorem c_X7_addDebt {d : Nat} {B cnt : Nat} {kp : Value} {ρ : pm_S} {S : FS} {za : Int32} {zb : Int32} {zc : Int32} {zd : Int32} {R : Int32 × FS} (hdd : 2 ≤ d) (hE : f_X7_addDebt S za zb zc zd = some R) : pm_met mX7_addDebt d 0 0 B [.ref (B + 1), .int za, .int zb, .int zc, .int zd] cnt (cst B kp S ρ) (pm_Qi (fun v σ' cnt' => v = R.1 ∧ σ' = (cst B kp R.2 ρ) ∧ cnt' = cnt)) := by
  refine pm_enter 1 (by decide) (Nat.le_of_ble_eq_true rfl) rfl (fun G hG hR hF => ?_)
  unfold f_X7_addDebt at hE
  refine pm_aloadn hG dX7_addDebt_0 rfl ?_
  refine pm_getf hG dX7_addDebt_1 (flX7_38 _ rfl) rfl rfl ?_
  refine pm_iloadn hG dX7_addDebt_4 rfl ?_
  obtain ⟨r2, h1, hE⟩ := fb_some hE
  refine pm_callV (As := [.int za]) (rest := []) hG hR dX7_addDebt_5 (lkX7_75 _ rfl) okV_X9_append rfl rfl (tappend_16 (d := 1) (by decide) h1) rfl rfl hdd (Nat.le_refl _) (Nat.le_refl _) (by decide) (fx_ki ?_)
  refine pm_istoreXi (loc' := [some (.ref (B + 1)), some (.int za), some (.int zb), some (.int zc), some (.int zd), some (.int r2.1)]) hG dX7_addDebt_8 (by decide) (pm_c1b rfl) rfl ?_
  refine pm_aloadn hG dX7_addDebt_10 rfl ?_
  refine pm_getf hG dX7_addDebt_11 (flX7_38 _ rfl) rfl rfl ?_
  refine pm_iloadi hG dX7_addDebt_14 rfl ?_
  refine pm_iconst (v := 1) hG dX7_addDebt_16 (by decide) ?_
  refine pm_iloadn hG dX7_addDebt_17 rfl ?_
  refine pm_callV (As := [.int r2.1, .int 1, .int zb]) (rest := []) hG hR dX7_addDebt_18 (lkX7_61 _ rfl) okV_X9_set rfl rfl (tset_16 (d := 1)) rfl rfl hdd (Nat.le_refl _) (Nat.le_refl _) (by decide) (fx_kv ?_)
  refine fx_letc hE (fun S3 hE => ?_)
  refine pm_aloadn hG dX7_addDebt_21 rfl ?_
  refine pm_getf hG dX7_addDebt_22 (flX7_38 _ rfl) rfl rfl ?_
  refine pm_iloadi hG dX7_addDebt_25 rfl ?_
  refine pm_iconst (v := 2) hG dX7_addDebt_27 (by decide) ?_
  refine pm_iloadn hG dX7_addDebt_28 rfl ?_
  refine pm_callV (As := [.int r2.1, .int 2, .int zc]) (rest := []) hG hR dX7_addDebt_29 (lkX7_61 _ rfl) okV_X9_set rfl rfl (tset_16 (d := 1)) rfl rfl hdd (Nat.le_refl _) (Nat.le_refl _) (by decide) (fx_kv ?_)
  refine fx_letc hE (fun S4 hE => ?_)
  refine pm_aloadn hG dX7_addDebt_32 rfl ?_
  refine pm_getf hG dX7_addDebt_33 (flX7_38 _ rfl) rfl rfl ?_
  refine pm_iloadi hG dX7_addDebt_36 rfl ?_
  refine pm_iconst (v := 3) hG dX7_addDebt_38 (by decide) ?_
  refine pm_iloadi hG dX7_addDebt_39 rfl ?_
  refine pm_callV (As := [.int r2.1, .int 3, .int zd]) (rest := []) hG hR dX7_addDebt_41 (lkX7_61 _ rfl) okV_X9_set rfl rfl (tset_16 (d := 1)) rfl rfl hdd (Nat.le_refl _) (Nat.le_refl _) (by decide) (fx_kv ?_)
  refine fx_letc hE (fun S5 hE => ?_)
  refine pm_aloadn hG dX7_addDebt_44 rfl ?_
  refine pm_dup hG dX7_addDebt_45 rfl ?_
  refine pm_getf hG dX7_addDebt_46 (flX7_53 _ rfl) rfl rfl ?_
  refine pm_iloadn hG dX7_addDebt_49 rfl ?_
  refine pm_iadd hG dX7_addDebt_50 ?_
  refine pm_putf hG dX7_addDebt_51 (fwX7_53 _ rfl) rfl rfl rfl ?_
  refine ci_103 ?_
  refine fx_letc hE (fun S6 hE => ?_)
  refine pm_iloadi hG dX7_addDebt_54 rfl ?_
  exact pm_iret hG hF dX7_addDebt_56 rfl (Nat.le_refl _) (Nat.le_refl _) (fx_ric hE)

set_option maxRecDepth 100000 in
set_option maxHeartbeats 4000000 in
theorem c_X11_debt {d : Nat} {B cnt : Nat} {kp : Value} {ρ : pm_S} {S : FS} {za : Int32} {zb : Int32} {zc : Int32} {R : Int32 × FS} (hdd : 3 ≤ d) (hE : f_X11_debt S za zb zc = some R) : pm_met mX11_debt d 0 0 B [.ref (B + 0), .int za, .int zb, .int zc] cnt (cst B kp S ρ) (pm_Qi (fun v σ' cnt' => v = R.1 ∧ σ' = (cst B kp R.2 ρ) ∧ cnt' = cnt)) := by
  refine pm_enter 2 (by decide) (Nat.le_of_ble_eq_true rfl) rfl (fun G hG hR hF => ?_)
  unfold f_X11_debt at hE
  refine pm_iloadn hG dX11_debt_0 rfl ?_
  refine pm_sipush (v := 10000) hG dX11_debt_1 (by decide) ?_
  refine pm_idiv hG dX11_debt_4 (by decide) ?_
  refine fx_letv hE (fun x1 hE => ?_)
  refine pm_istoreXi (loc' := [some (.ref (B + 0)), some (.int za), some (.int zb), some (.int zc), some (.int x1), none]) hG dX11_debt_5 (by decide) (pm_c1b rfl) rfl ?_
  refine pm_iloadn hG dX11_debt_7 rfl ?_
  refine pm_sipush (v := 10000) hG dX11_debt_8 (by decide) ?_
  refine pm_irem hG dX11_debt_11 (by decide) ?_
  refine fx_letv hE (fun x2 hE => ?_)
  refine pm_istoreXi (loc' := [some (.ref (B + 0)), some (.int za), some (.int zb), some (.int zc), some (.int x1), some (.int x2)]) hG dX11_debt_12 (by decide) (pm_c1b rfl) rfl ?_
  refine pm_iloadn hG dX11_debt_14 rfl ?_
  refine pm_iconst (v := 0) hG dX11_debt_15 (by decide) ?_
  refine pm_ldcw hG dX11_debt_16 (ctX11_270 _ rfl) ?_
  refine pm_callS (As := [.int za, .int 0, .int 99999]) (rest := []) hG hR dX11_debt_19 (lkX11_105 _ rfl) okS_X11_isOutside (tOut (d := 2)) rfl rfl hdd (Nat.le_refl _) (Nat.le_refl _) (by decide) (fx_ki ?_)
  refine pm_if_ne (tgt := 56) hG dX11_debt_22 rfl (fun c3 => ?_) (fun c3 => ?_)
  · replace hE := fx_f c3 hE
    refine pm_aloadn hG dX11_debt_56 rfl ?_
    refine pm_ldc hG dX11_debt_57 (ctX11_109 _ rfl) ?_
    obtain ⟨r5, h4, hE⟩ := fb_some hE
    refine pm_callV (As := [.int (-1000001)]) (rest := []) hG hR dX11_debt_59 (lkX11_97 _ rfl) okV_X11_told rfl rfl (c_X11_told (d := 2) (by decide) h4) rfl rfl hdd (Nat.le_refl _) (Nat.le_refl _) (by decide) (fx_ki ?_)
    exact pm_iret hG hF dX11_debt_62 rfl (Nat.le_refl _) (Nat.le_refl _) (fx_ric hE)
  · replace hE := fx_t c3 hE
    refine pm_iloadi hG dX11_debt_25 rfl ?_
    refine pm_iconst (v := 0) hG dX11_debt_27 (by decide) ?_
    refine pm_bipush (v := 99) hG dX11_debt_28 (by decide) ?_
    refine pm_callS (As := [.int x1, .int 0, .int 99]) (rest := []) hG hR dX11_debt_30 (lkX11_105 _ rfl) okS_X11_isOutside (tOut (d := 2)) rfl rfl hdd (Nat.le_refl _) (Nat.le_refl _) (by decide) (fx_ki ?_)
    refine pm_if_ne (tgt := 56) hG dX11_debt_33 rfl (fun c6 => ?_) (fun c6 => ?_)
    · replace hE := fx_f c6 hE
      refine pm_aloadn hG dX11_debt_56 rfl ?_
      refine pm_ldc hG dX11_debt_57 (ctX11_109 _ rfl) ?_
      obtain ⟨r8, h7, hE⟩ := fb_some hE
      refine pm_callV (As := [.int (-1000001)]) (rest := []) hG hR dX11_debt_59 (lkX11_97 _ rfl) okV_X11_told rfl rfl (c_X11_told (d := 2) (by decide) h7) rfl rfl hdd (Nat.le_refl _) (Nat.le_refl _) (by decide) (fx_ki ?_)
      exact pm_iret hG hF dX11_debt_62 rfl (Nat.le_refl _) (Nat.le_refl _) (fx_ric hE)
    · replace hE := fx_t c6 hE
      refine pm_iloadi hG dX11_debt_36 rfl ?_
      refine pm_iconst (v := 1) hG dX11_debt_38 (by decide) ?_
      refine pm_icmp_lt (tgt := 56) hG dX11_debt_39 rfl (fun c9 => ?_) (fun c9 => ?_)
      · replace hE := fx_t c9 hE
        refine pm_aloadn hG dX11_debt_56 rfl ?_
        refine pm_ldc hG dX11_debt_57 (ctX11_109 _ rfl) ?_
        obtain ⟨r11, h10, hE⟩ := fb_some hE
        refine pm_callV (As := [.int (-1000001)]) (rest := []) hG hR dX11_debt_59 (lkX11_97 _ rfl) okV_X11_told rfl rfl (c_X11_told (d := 2) (by decide) h10) rfl rfl hdd (Nat.le_refl _) (Nat.le_refl _) (by decide) (fx_ki ?_)
        exact pm_iret hG hF dX11_debt_62 rfl (Nat.le_refl _) (Nat.le_refl _) (fx_ric hE)
      · replace hE := fx_f c9 hE
        refine pm_aloadn hG dX11_debt_42 rfl ?_
        refine pm_getf hG dX11_debt_43 (flX11_12 _ rfl) rfl rfl ?_
        refine pm_getf hG dX11_debt_46 (flX11_82 _ rfl) rfl rfl ?_
        refine pm_iloadn hG dX11_debt_49 rfl ?_
        refine pm_callV (As := [.int zc]) (rest := []) hG hR dX11_debt_50 (lkX11_101 _ rfl) okV_X9_has rfl rfl (thas_2 (d := 2)) rfl rfl hdd (Nat.le_refl _) (Nat.le_refl _) (by decide) (fx_ki ?_)
        refine pm_if_ne (tgt := 63) hG dX11_debt_53 rfl (fun c12 => ?_) (fun c12 => ?_)
        · replace hE := fx_f c12 hE
          refine pm_aloadn hG dX11_debt_63 rfl ?_
          refine pm_aloadn hG dX11_debt_64 rfl ?_
          refine pm_getf hG dX11_debt_65 (flX11_12 _ rfl) rfl rfl ?_
          refine pm_getf hG dX11_debt_68 (flX11_271 _ rfl) rfl rfl ?_
          refine pm_callV (As := []) (rest := [.ref (B + 0)]) hG hR dX11_debt_71 (lkX11_86 _ rfl) okV_X9_isFull rfl rfl (tisFull_16 (d := 2)) rfl rfl hdd (Nat.le_refl _) (Nat.le_refl _) (by first | decide | exact Nat.le_of_ble_eq_true rfl) (fx_ki ?_)
          refine pm_if_eq (tgt := 82) hG dX11_debt_74 rfl (fun c13 => ?_) (fun c13 => ?_)
          · replace hE := fx_t c13 hE
            refine pm_aloadn hG dX11_debt_82 rfl ?_
            refine pm_getf hG dX11_debt_83 (flX11_12 _ rfl) rfl rfl ?_
            refine pm_iloadn hG dX11_debt_86 rfl ?_
            refine pm_iloadi hG dX11_debt_87 rfl ?_
            refine pm_iloadi hG dX11_debt_89 rfl ?_
            refine pm_iloadn hG dX11_debt_91 rfl ?_
            obtain ⟨r15, h14, hE⟩ := fb_some hE
            refine pm_callV (As := [.int za, .int x1, .int x2, .int zc]) (rest := [.ref (B + 0)]) hG hR dX11_debt_92 (lkX11_274 _ rfl) okV_X7_addDebt rfl rfl (c_X7_addDebt (d := 2) (by decide) h14) rfl rfl hdd (Nat.le_refl _) (Nat.le_refl _) (by first | decide | exact Nat.le_of_ble_eq_true rfl) (fx_ki ?_)
            obtain ⟨r17, h16, hE⟩ := fb_some hE
            refine pm_callV (As := [.int r15.1]) (rest := []) hG hR dX11_debt_95 (lkX11_97 _ rfl) okV_X11_told rfl rfl (c_X11_told (d := 2) (by decide) h16) rfl rfl hdd (Nat.le_refl _) (Nat.le_refl _) (by decide) (fx_ki ?_)
            exact pm_iret hG hF dX11_debt_98 rfl (Nat.le_refl _) (Nat.le_refl _) (fx_ric hE)
          · replace hE := fx_f c13 hE
            refine pm_ldc hG dX11_debt_77 (ctX11_92 _ rfl) ?_
            refine pm_goto (tgt := 95) hG dX11_debt_79 rfl ?_
            obtain ⟨r19, h18, hE⟩ := fb_some hE
            refine pm_callV (As := [.int (-1000004)]) (rest := []) hG hR dX11_debt_95 (lkX11_97 _ rfl) okV_X11_told rfl rfl (c_X11_told (d := 2) (by decide) h18) rfl rfl hdd (Nat.le_refl _) (Nat.le_refl _) (by decide) (fx_ki ?_)
            exact pm_iret hG hF dX11_debt_98 rfl (Nat.le_refl _) (Nat.le_refl _) (fx_ric hE)
        · replace hE := fx_t c12 hE
          refine pm_aloadn hG dX11_debt_56 rfl ?_
          refine pm_ldc hG dX11_debt_57 (ctX11_109 _ rfl) ?_
          obtain ⟨r21, h20, hE⟩ := fb_some hE
          refine pm_callV (As := [.int (-1000001)]) (rest := []) hG hR dX11_debt_59 (lkX11_97 _ rfl) okV_X11_told rfl rfl (c_X11_told (d := 2) (by decide) h20) rfl rfl hdd (Nat.le_refl _) (Nat.le_refl _) (by decide) (fx_ki ?_)
          exact pm_iret hG hF dX11_debt_62 rfl (Nat.le_refl _) (Nat.le_refl _) (fx_ric hE)

set_option maxRecDepth 100000 in
set_option maxHeartbeats 4000000 in
theorem c_X7_handOver {d : Nat} {B cnt : Nat} {kp : Value} {ρ : pm_S} {S : FS} {za : Int32} {zb : Int32} {R : Int32 × FS} (hdd : 2 ≤ d) (hE : f_X7_handOver S za zb = some R) : pm_met mX7_handOver d 0 0 B [.ref (B + 1), .int za, .int zb] cnt (cst B kp S ρ) (pm_Qi (fun v σ' cnt' => v = R.1 ∧ σ' = (cst B kp R.2 ρ) ∧ cnt' = cnt)) := by
  refine pm_enter 0 (by decide) (Nat.le_of_ble_eq_true rfl) rfl (fun G hG hR hF => ?_)
  unfold f_X7_handOver at hE
  refine pm_aloadn hG dX7_handOver_0 rfl ?_
  refine pm_iloadn hG dX7_handOver_1 rfl ?_
  refine pm_iconst (v := (-1)) hG dX7_handOver_2 (by decide) ?_
  refine pm_iconst (v := (-1)) hG dX7_handOver_3 (by decide) ?_
  obtain ⟨r2, h1, hE⟩ := fb_some hE
  refine pm_callV (As := [.int za, .int (-1), .int (-1)]) (rest := []) hG hR dX7_handOver_4 (lkX7_122 _ rfl) okV_X7_setLent rfl rfl (c_X7_setLent (d := 1) (by decide) h1) rfl rfl hdd (Nat.le_refl _) (Nat.le_refl _) (by decide) (fx_kv ?_)
  refine pm_aloadn hG dX7_handOver_7 rfl ?_
  refine pm_getf hG dX7_handOver_8 (flX7_26 _ rfl) rfl rfl ?_
  refine pm_iloadn hG dX7_handOver_11 rfl ?_
  refine pm_iconst (v := 2) hG dX7_handOver_12 (by decide) ?_
  refine pm_iloadn hG dX7_handOver_13 rfl ?_
  refine pm_callV (As := [.int za, .int 2, .int zb]) (rest := []) hG hR dX7_handOver_14 (lkX7_115 _ rfl) okV_X9_swap rfl rfl (tswap_8 (d := 1) (by decide)) rfl rfl hdd (Nat.le_refl _) (Nat.le_refl _) (by decide) (fx_ki ?_)
  refine fx_letc hE (fun S3 hE => ?_)
  exact pm_iret hG hF dX7_handOver_17 rfl (Nat.le_refl _) (Nat.le_refl _) (fx_ric hE)

set_option maxRecDepth 100000 in
set_option maxHeartbeats 4000000 in
theorem c_X7_bury {d : Nat} {B cnt : Nat} {kp : Value} {ρ : pm_S} {S : FS} {za : Int32} {R : Int32 × FS} (hdd : 3 ≤ d) (hE : f_X7_bury S za = some R) : pm_met mX7_bury d 0 0 B [.ref (B + 1), .int za] cnt (cst B kp S ρ) (pm_Qi (fun v σ' cnt' => v = R.1 ∧ σ' = (cst B kp R.2 ρ) ∧ cnt' = cnt)) := by
  refine pm_enter 3 (by decide) (Nat.le_of_ble_eq_true rfl) rfl (fun G hG hR hF => ?_)
  unfold f_X7_bury at hE
  refine pm_aloadn hG dX7_bury_0 rfl ?_
  refine pm_getf hG dX7_bury_1 (flX7_23 _ rfl) rfl rfl ?_
  refine pm_iloadn hG dX7_bury_4 rfl ?_
  refine pm_bipush (v := 7) hG dX7_bury_5 (by decide) ?_
  refine pm_iconst (v := 0) hG dX7_bury_7 (by decide) ?_
  refine pm_callV (As := [.int za, .int 7, .int 0]) (rest := []) hG hR dX7_bury_8 (lkX7_115 _ rfl) okV_X9_swap rfl rfl (tswap_6 (d := 2) (by decide)) rfl rfl hdd (Nat.le_refl _) (Nat.le_refl _) (by decide) (fx_ki ?_)
  refine fx_letc hE (fun S1 hE => ?_)
  refine fx_letv hE (fun x2 hE => ?_)
  refine pm_istoreXn (loc' := [some (.ref (B + 1)), some (.int za), some (.int x2), none, none]) hG dX7_bury_11 (by decide) (pm_c1b rfl) rfl ?_
  refine pm_aloadn hG dX7_bury_12 rfl ?_
  refine pm_dup hG dX7_bury_13 rfl ?_
  refine pm_getf hG dX7_bury_14 (flX7_53 _ rfl) rfl rfl ?_
  refine pm_iloadn hG dX7_bury_17 rfl ?_
  refine pm_iadd hG dX7_bury_18 ?_
  refine pm_putf hG dX7_bury_19 (fwX7_53 _ rfl) rfl rfl rfl ?_
  refine ci_103 ?_
  refine fx_letc hE (fun S3 hE => ?_)
  refine pm_aloadn hG dX7_bury_22 rfl ?_
  refine pm_getf hG dX7_bury_23 (flX7_23 _ rfl) rfl rfl ?_
  refine pm_iloadn hG dX7_bury_26 rfl ?_
  refine pm_bipush (v := 8) hG dX7_bury_27 (by decide) ?_
  refine pm_iconst (v := 0) hG dX7_bury_29 (by decide) ?_
  refine pm_callV (As := [.int za, .int 8, .int 0]) (rest := []) hG hR dX7_bury_30 (lkX7_61 _ rfl) okV_X9_set rfl rfl (tset_6 (d := 2)) rfl rfl hdd (Nat.le_refl _) (Nat.le_refl _) (by decide) (fx_kv ?_)
  refine fx_letc hE (fun S4 hE => ?_)
  refine pm_aloadn hG dX7_bury_33 rfl ?_
  refine pm_getf hG dX7_bury_34 (flX7_23 _ rfl) rfl rfl ?_
  refine pm_iloadn hG dX7_bury_37 rfl ?_
  refine pm_bipush (v := 10) hG dX7_bury_38 (by decide) ?_
  refine pm_aloadn hG dX7_bury_40 rfl ?_
  refine pm_iloadn hG dX7_bury_41 rfl ?_
  refine pm_callV (As := [.int za]) (rest := [.int 10, .int za, .ref (B + 6)]) hG hR dX7_bury_42 (lkX7_112 _ rfl) okV_X7_knownTo rfl rfl (c_X7_knownTo (d := 2) (by decide) rfl) rfl rfl hdd (Nat.le_refl _) (Nat.le_refl _) (by first | decide | exact Nat.le_of_ble_eq_true rfl) (fx_ki ?_)
  refine pm_callV (As := [.int za, .int 10, .int (p_X7_knownTo S4 za)]) (rest := []) hG hR dX7_bury_45 (lkX7_61 _ rfl) okV_X9_set rfl rfl (tset_6 (d := 2)) rfl rfl hdd (Nat.le_refl _) (Nat.le_refl _) (by decide) (fx_kv ?_)
  refine fx_letc hE (fun S5 hE => ?_)
  refine pm_aloadn hG dX7_bury_48 rfl ?_
  refine pm_getf hG dX7_bury_49 (flX7_23 _ rfl) rfl rfl ?_
  refine pm_iloadn hG dX7_bury_52 rfl ?_
  refine pm_bipush (v := 9) hG dX7_bury_53 (by decide) ?_
  refine pm_iconst (v := 1) hG dX7_bury_55 (by decide) ?_
  refine pm_callV (As := [.int za, .int 9, .int 1]) (rest := []) hG hR dX7_bury_56 (lkX7_61 _ rfl) okV_X9_set rfl rfl (tset_6 (d := 2)) rfl rfl hdd (Nat.le_refl _) (Nat.le_refl _) (by decide) (fx_kv ?_)
  refine fx_letc hE (fun S6 hE => ?_)
  refine pm_aloadn hG dX7_bury_59 rfl ?_
  refine pm_getf hG dX7_bury_60 (flX7_26 _ rfl) rfl rfl ?_
  refine pm_callV (As := []) (rest := []) hG hR dX7_bury_63 (lkX7_79 _ rfl) okV_X9_used rfl rfl (tused_8 (d := 2)) rfl rfl hdd (Nat.le_refl _) (Nat.le_refl _) (by decide) (fx_ki ?_)
  refine fx_letv hE (fun x7 hE => ?_)
  refine pm_istoreXn (loc' := [some (.ref (B + 1)), some (.int za), some (.int x2), some (.int x7), none]) hG dX7_bury_66 (by decide) (pm_c1b rfl) rfl ?_
  refine pm_iconst (v := 0) hG dX7_bury_67 (by decide) ?_
  refine pm_istoreXi (loc' := [some (.ref (B + 1)), some (.int za), some (.int x2), some (.int x7), some (.int 0)]) hG dX7_bury_68 (by decide) (pm_c1b rfl) rfl ?_
  have loop70 : ∀ (k70 : FS → Int32 → Option (Int32 × FS)), (∀ (S8 : FS) (x8_4 : Int32), k70 S8  x8_4 = some R → pm_wp mX7_bury G B 129 [some (.ref (B + 1)), some (.int za), some (.int x2), some (.int x7), some (.int x8_4)] [] 0 0 cnt (cst B kp S8 ρ)) → ∀ (m70 : Nat) (S8 : FS) (x8_4 : Int32), l_X7_bury_70 za x7 k70 m70 S8  x8_4 = some R → pm_wp mX7_bury G B 70 [some (.ref (B + 1)), some (.int za), some (.int x2), some (.int x7), some (.int x8_4)] [] 0 0 cnt (cst B kp S8 ρ) := by
    intro k70 hk70 m70
    induction m70 with
    | zero => intro S8  x8_4 hE; exact fx_no hE
    | succ m70 ih70 =>
      intro S8  x8_4 hE
      rw [l_X7_bury_70] at hE
      refine pm_iloadi hG dX7_bury_70 rfl ?_
      refine pm_iloadn hG dX7_bury_72 rfl ?_
      refine pm_icmp_ge (tgt := 129) hG dX7_bury_73 rfl (fun c9 => ?_) (fun c9 => ?_)
      · replace c9 := Int32.not_lt.mpr c9
        replace hE := fx_f c9 hE
        exact hk70 _ _ hE
      · replace c9 := Int32.not_le.mp c9
        replace hE := fx_t c9 hE
        refine pm_aloadn hG dX7_bury_76 rfl ?_
        refine pm_getf hG dX7_bury_77 (flX7_26 _ rfl) rfl rfl ?_
        refine pm_iloadi hG dX7_bury_80 rfl ?_
        refine pm_iconst (v := 2) hG dX7_bury_82 (by decide) ?_
        refine pm_callV (As := [.int x8_4, .int 2]) (rest := []) hG hR dX7_bury_83 (lkX7_83 _ rfl) okV_X9_get rfl rfl (tget_8 (d := 2)) rfl rfl hdd (Nat.le_refl _) (Nat.le_refl _) (by decide) (fx_ki ?_)
        refine pm_iloadn hG dX7_bury_86 rfl ?_
        refine pm_icmp_ne (tgt := 101) hG dX7_bury_87 rfl (fun c10 => ?_) (fun c10 => ?_)
        · replace hE := fx_f c10 hE
          refine pm_aloadn hG dX7_bury_101 rfl ?_
          refine pm_getf hG dX7_bury_102 (flX7_26 _ rfl) rfl rfl ?_
          refine pm_iloadi hG dX7_bury_105 rfl ?_
          refine pm_iconst (v := 3) hG dX7_bury_107 (by decide) ?_
          refine pm_callV (As := [.int x8_4, .int 3]) (rest := []) hG hR dX7_bury_108 (lkX7_83 _ rfl) okV_X9_get rfl rfl (tget_8 (d := 2)) rfl rfl hdd (Nat.le_refl _) (Nat.le_refl _) (by decide) (fx_ki ?_)
          refine pm_iloadn hG dX7_bury_111 rfl ?_
          refine pm_icmp_ne (tgt := 123) hG dX7_bury_112 rfl (fun c11 => ?_) (fun c11 => ?_)
          · replace hE := fx_f c11 hE
            refine pm_iincX (v := x8_4 + 1) (loc' := [some (.ref (B + 1)), some (.int za), some (.int x2), some (.int x7), some (.int (x8_4 + 1))]) hG dX7_bury_123 rfl (by rfl) (by decide) (pm_c1b rfl) rfl ?_
            refine pm_goto (tgt := 70) hG dX7_bury_126 rfl ?_
            exact ih70 _ _ hE
          · replace hE := fx_t c11 hE
            refine pm_aloadn hG dX7_bury_115 rfl ?_
            refine pm_iloadi hG dX7_bury_116 rfl ?_
            refine pm_iconst (v := (-1)) hG dX7_bury_118 (by decide) ?_
            refine pm_iconst (v := (-1)) hG dX7_bury_119 (by decide) ?_
            obtain ⟨r13, h12, hE⟩ := fb_some hE
            refine pm_callV (As := [.int x8_4, .int (-1), .int (-1)]) (rest := []) hG hR dX7_bury_120 (lkX7_122 _ rfl) okV_X7_setLent rfl rfl (c_X7_setLent (d := 2) (by decide) h12) rfl rfl hdd (Nat.le_refl _) (Nat.le_refl _) (by decide) (fx_kv ?_)
            refine pm_iincX (v := x8_4 + 1) (loc' := [some (.ref (B + 1)), some (.int za), some (.int x2), some (.int x7), some (.int (x8_4 + 1))]) hG dX7_bury_123 rfl (by rfl) (by decide) (pm_c1b rfl) rfl ?_
            refine pm_goto (tgt := 70) hG dX7_bury_126 rfl ?_
            exact ih70 _ _ hE
        · replace hE := fx_t c10 hE
          refine pm_aloadn hG dX7_bury_90 rfl ?_
          refine pm_iloadi hG dX7_bury_91 rfl ?_
          refine pm_iconst (v := (-1)) hG dX7_bury_93 (by decide) ?_
          obtain ⟨r15, h14, hE⟩ := fb_some hE
          refine pm_callV (As := [.int x8_4, .int (-1)]) (rest := []) hG hR dX7_bury_94 (lkX7_119 _ rfl) okV_X7_handOver rfl rfl (c_X7_handOver (d := 2) (by decide) h14) rfl rfl hdd (Nat.le_refl _) (Nat.le_refl _) (by decide) (fx_ki ?_)
          refine pm_pop hG dX7_bury_97 rfl ?_
          refine pm_goto (tgt := 123) hG dX7_bury_98 rfl ?_
          refine pm_iincX (v := x8_4 + 1) (loc' := [some (.ref (B + 1)), some (.int za), some (.int x2), some (.int x7), some (.int (x8_4 + 1))]) hG dX7_bury_123 rfl (by rfl) (by decide) (pm_c1b rfl) rfl ?_
          refine pm_goto (tgt := 70) hG dX7_bury_126 rfl ?_
          exact ih70 _ _ hE
  refine loop70 _ (fun S16 x16_4 hE => ?_) _ _ _ hE
  refine pm_iloadn hG dX7_bury_129 rfl ?_
  exact pm_iret hG hF dX7_bury_130 rfl (Nat.le_refl _) (Nat.le_refl _) (fx_ric hE)

set_option maxRecDepth 100000 in
set_option maxHeartbeats 4000000 in
theorem c_X11_die {d : Nat} {B cnt : Nat} {kp : Value} {ρ : pm_S} {S : FS} {za : Int32} {R : Int32 × FS} (hdd : 4 ≤ d) (hE : f_X11_die S za = some R) : pm_met mX11_die d 0 0 B [.ref (B + 0), .int za] cnt (cst B kp S ρ) (pm_Qi (fun v σ' cnt' => v = R.1 ∧ σ' = (cst B kp R.2 ρ) ∧ cnt' = cnt)) := by
  refine pm_enter 0 (by decide) (Nat.le_of_ble_eq_true rfl) rfl (fun G hG hR hF => ?_)
  unfold f_X11_die at hE
  refine pm_aloadn hG dX11_die_0 rfl ?_
  refine pm_getf hG dX11_die_1 (flX11_12 _ rfl) rfl rfl ?_
  refine pm_getf hG dX11_die_4 (flX11_128 _ rfl) rfl rfl ?_
  refine pm_iloadn hG dX11_die_7 rfl ?_
  refine pm_callV (As := [.int za]) (rest := []) hG hR dX11_die_8 (lkX11_101 _ rfl) okV_X9_has rfl rfl (thas_6 (d := 3)) rfl rfl hdd (Nat.le_refl _) (Nat.le_refl _) (by decide) (fx_ki ?_)
  refine pm_if_ne (tgt := 21) hG dX11_die_11 rfl (fun c1 => ?_) (fun c1 => ?_)
  · replace hE := fx_f c1 hE
    refine pm_aloadn hG dX11_die_21 rfl ?_
    refine pm_getf hG dX11_die_22 (flX11_12 _ rfl) rfl rfl ?_
    refine pm_iloadn hG dX11_die_25 rfl ?_
    refine pm_callV (As := [.int za]) (rest := []) hG hR dX11_die_26 (lkX11_135 _ rfl) okV_X7_isLiving rfl rfl (c_X7_isLiving (d := 3) (by decide) rfl) rfl rfl hdd (Nat.le_refl _) (Nat.le_refl _) (by decide) (fx_ki ?_)
    refine pm_if_ne (tgt := 39) hG dX11_die_29 rfl (fun c2 => ?_) (fun c2 => ?_)
    · replace hE := fx_f c2 hE
      refine pm_aloadn hG dX11_die_39 rfl ?_
      refine pm_getf hG dX11_die_40 (flX11_30 _ rfl) rfl rfl ?_
      refine pm_iloadn hG dX11_die_43 rfl ?_
      obtain ⟨r4, h3, hE⟩ := fb_some hE
      refine pm_callV (As := [.int za]) (rest := []) hG hR dX11_die_44 (lkX11_139 _ rfl) okV_X0_unseat rfl rfl (c_X0_unseat (d := 3) (by decide) h3) rfl rfl hdd (Nat.le_refl _) (Nat.le_refl _) (by decide) (fx_kv ?_)
      refine pm_aloadn hG dX11_die_47 rfl ?_
      refine pm_aloadn hG dX11_die_48 rfl ?_
      refine pm_getf hG dX11_die_49 (flX11_12 _ rfl) rfl rfl ?_
      refine pm_iloadn hG dX11_die_52 rfl ?_
      obtain ⟨r6, h5, hE⟩ := fb_some hE
      refine pm_callV (As := [.int za]) (rest := [.ref (B + 0)]) hG hR dX11_die_53 (lkX11_143 _ rfl) okV_X7_bury rfl rfl (c_X7_bury (d := 3) (by decide) h5) rfl rfl hdd (Nat.le_refl _) (Nat.le_refl _) (by first | decide | exact Nat.le_of_ble_eq_true rfl) (fx_ki ?_)
      obtain ⟨r8, h7, hE⟩ := fb_some hE
      refine pm_callV (As := [.int r6.1]) (rest := []) hG hR dX11_die_56 (lkX11_97 _ rfl) okV_X11_told rfl rfl (c_X11_told (d := 3) (by decide) h7) rfl rfl hdd (Nat.le_refl _) (Nat.le_refl _) (by decide) (fx_ki ?_)
      exact pm_iret hG hF dX11_die_59 rfl (Nat.le_refl _) (Nat.le_refl _) (fx_ric hE)
    · replace hE := fx_t c2 hE
      refine pm_aloadn hG dX11_die_32 rfl ?_
      refine pm_ldc hG dX11_die_33 (ctX11_138 _ rfl) ?_
      obtain ⟨r10, h9, hE⟩ := fb_some hE
      refine pm_callV (As := [.int (-1000003)]) (rest := []) hG hR dX11_die_35 (lkX11_97 _ rfl) okV_X11_told rfl rfl (c_X11_told (d := 3) (by decide) h9) rfl rfl hdd (Nat.le_refl _) (Nat.le_refl _) (by decide) (fx_ki ?_)
      exact pm_iret hG hF dX11_die_38 rfl (Nat.le_refl _) (Nat.le_refl _) (fx_ric hE)
  · replace hE := fx_t c1 hE
    refine pm_aloadn hG dX11_die_14 rfl ?_
    refine pm_ldc hG dX11_die_15 (ctX11_109 _ rfl) ?_
    obtain ⟨r12, h11, hE⟩ := fb_some hE
    refine pm_callV (As := [.int (-1000001)]) (rest := []) hG hR dX11_die_17 (lkX11_97 _ rfl) okV_X11_told rfl rfl (c_X11_told (d := 3) (by decide) h11) rfl rfl hdd (Nat.le_refl _) (Nat.le_refl _) (by decide) (fx_ki ?_)
    exact pm_iret hG hF dX11_die_20 rfl (Nat.le_refl _) (Nat.le_refl _) (fx_ric hE)

set_option maxRecDepth 100000 in
set_option maxHeartbeats 4000000 in
theorem c_X7_isInTown {d : Nat} {B cnt : Nat} {kp : Value} {ρ : pm_S} {S : FS} {za : Int32} {R : Int32} (hdd : 2 ≤ d) (hE : p_X7_isInTown S za = R) : pm_met mX7_isInTown d 0 0 B [.ref (B + 1), .int za] cnt (cst B kp S ρ) (pm_Qi (fun v σ' cnt' => v = R ∧ σ' = (cst B kp S ρ) ∧ cnt' = cnt)) := by
  refine pm_enter 0 (by decide) (Nat.le_of_ble_eq_true rfl) rfl (fun G hG hR hF => ?_)
  unfold p_X7_isInTown at hE
  refine pm_aloadn hG dX7_isInTown_0 rfl ?_
  refine pm_iloadn hG dX7_isInTown_1 rfl ?_
  refine pm_callV (As := [.int za]) (rest := []) hG hR dX7_isInTown_2 (lkX7_103 _ rfl) okV_X7_isLiving rfl rfl (c_X7_isLiving (d := 1) (by decide) rfl) rfl rfl hdd (Nat.le_refl _) (Nat.le_refl _) (by decide) (fx_ki ?_)
  refine pm_if_eq (tgt := 24) hG dX7_isInTown_5 rfl (fun c1 => ?_) (fun c1 => ?_)
  · replace hE := fx_t c1 hE
    refine pm_iconst (v := 0) hG dX7_isInTown_24 (by decide) ?_
    exact pm_zret hG hF dX7_isInTown_25 rfl (by rfl) (Nat.le_refl _) (Nat.le_refl _) (fx_pi hE)
  · replace hE := fx_f c1 hE
    refine pm_aloadn hG dX7_isInTown_8 rfl ?_
    refine pm_getf hG dX7_isInTown_9 (flX7_23 _ rfl) rfl rfl ?_
    refine pm_iloadn hG dX7_isInTown_12 rfl ?_
    refine pm_iconst (v := 4) hG dX7_isInTown_13 (by decide) ?_
    refine pm_callV (As := [.int za, .int 4]) (rest := []) hG hR dX7_isInTown_14 (lkX7_83 _ rfl) okV_X9_get rfl rfl (tget_6 (d := 1)) rfl rfl hdd (Nat.le_refl _) (Nat.le_refl _) (by decide) (fx_ki ?_)
    refine pm_if_lt (tgt := 24) hG dX7_isInTown_17 rfl (fun c2 => ?_) (fun c2 => ?_)
    · replace hE := fx_t c2 hE
      refine pm_iconst (v := 0) hG dX7_isInTown_24 (by decide) ?_
      exact pm_zret hG hF dX7_isInTown_25 rfl (by rfl) (Nat.le_refl _) (Nat.le_refl _) (fx_pi hE)
    · replace hE := fx_f c2 hE
      refine pm_iconst (v := 1) hG dX7_isInTown_20 (by decide) ?_
      refine pm_goto (tgt := 25) hG dX7_isInTown_21 rfl ?_
      exact pm_zret hG hF dX7_isInTown_25 rfl (by rfl) (Nat.le_refl _) (Nat.le_refl _) (fx_pi hE)

set_option maxRecDepth 100000 in
set_option maxHeartbeats 4000000 in
theorem c_X7_livingIn {d : Nat} {B cnt : Nat} {kp : Value} {ρ : pm_S} {S : FS} {za : Int32} {R : Int32} (hdd : 2 ≤ d) (hE : q_X7_livingIn S za = some R) : pm_met mX7_livingIn d 0 0 B [.ref (B + 1), .int za] cnt (cst B kp S ρ) (pm_Qi (fun v σ' cnt' => v = R ∧ σ' = (cst B kp S ρ) ∧ cnt' = cnt)) := by
  refine pm_enter 3 (by decide) (Nat.le_of_ble_eq_true rfl) rfl (fun G hG hR hF => ?_)
  unfold q_X7_livingIn at hE
  refine pm_iconst (v := 0) hG dX7_livingIn_0 (by decide) ?_
  refine pm_istoreXn (loc' := [some (.ref (B + 1)), some (.int za), some (.int 0), none, none]) hG dX7_livingIn_1 (by decide) (pm_c1b rfl) rfl ?_
  refine pm_aloadn hG dX7_livingIn_2 rfl ?_
  refine pm_getf hG dX7_livingIn_3 (flX7_23 _ rfl) rfl rfl ?_
  refine pm_callV (As := []) (rest := []) hG hR dX7_livingIn_6 (lkX7_79 _ rfl) okV_X9_used rfl rfl (tused_6 (d := 1)) rfl rfl hdd (Nat.le_refl _) (Nat.le_refl _) (by decide) (fx_ki ?_)
  refine fx_letv hE (fun x1 hE => ?_)
  refine pm_istoreXn (loc' := [some (.ref (B + 1)), some (.int za), some (.int 0), some (.int x1), none]) hG dX7_livingIn_9 (by decide) (pm_c1b rfl) rfl ?_
  refine pm_iconst (v := 0) hG dX7_livingIn_10 (by decide) ?_
  refine pm_istoreXi (loc' := [some (.ref (B + 1)), some (.int za), some (.int 0), some (.int x1), some (.int 0)]) hG dX7_livingIn_11 (by decide) (pm_c1b rfl) rfl ?_
  have loop13 : ∀ (k13 : Int32 → Int32 → Option Int32), (∀  (x2_2 : Int32) (x2_4 : Int32), k13  x2_2 x2_4 = some R → pm_wp mX7_livingIn G B 55 [some (.ref (B + 1)), some (.int za), some (.int x2_2), some (.int x1), some (.int x2_4)] [] 0 0 cnt (cst B kp S ρ)) → ∀ (m13 : Nat)  (x2_2 : Int32) (x2_4 : Int32), l_X7_livingIn_13 za S x1 k13 m13  x2_2 x2_4 = some R → pm_wp mX7_livingIn G B 13 [some (.ref (B + 1)), some (.int za), some (.int x2_2), some (.int x1), some (.int x2_4)] [] 0 0 cnt (cst B kp S ρ) := by
    intro k13 hk13 m13
    induction m13 with
    | zero => intro  x2_2 x2_4 hE; exact fx_no hE
    | succ m13 ih13 =>
      intro  x2_2 x2_4 hE
      rw [l_X7_livingIn_13] at hE
      refine pm_iloadi hG dX7_livingIn_13 rfl ?_
      refine pm_iloadn hG dX7_livingIn_15 rfl ?_
      refine pm_icmp_ge (tgt := 55) hG dX7_livingIn_16 rfl (fun c3 => ?_) (fun c3 => ?_)
      · replace c3 := Int32.not_lt.mpr c3
        replace hE := fx_f c3 hE
        exact hk13 _ _ hE
      · replace c3 := Int32.not_le.mp c3
        replace hE := fx_t c3 hE
        refine pm_aloadn hG dX7_livingIn_19 rfl ?_
        refine pm_iloadi hG dX7_livingIn_20 rfl ?_
        refine pm_callV (As := [.int x2_4]) (rest := []) hG hR dX7_livingIn_22 (lkX7_103 _ rfl) okV_X7_isLiving rfl rfl (c_X7_isLiving (d := 1) (by decide) rfl) rfl rfl hdd (Nat.le_refl _) (Nat.le_refl _) (by decide) (fx_ki ?_)
        refine pm_if_eq (tgt := 49) hG dX7_livingIn_25 rfl (fun c4 => ?_) (fun c4 => ?_)
        · replace hE := fx_t c4 hE
          refine pm_iincX (v := x2_4 + 1) (loc' := [some (.ref (B + 1)), some (.int za), some (.int x2_2), some (.int x1), some (.int (x2_4 + 1))]) hG dX7_livingIn_49 rfl (by rfl) (by decide) (pm_c1b rfl) rfl ?_
          refine pm_goto (tgt := 13) hG dX7_livingIn_52 rfl ?_
          exact ih13 _ _ hE
        · replace hE := fx_f c4 hE
          refine pm_aloadn hG dX7_livingIn_28 rfl ?_
          refine pm_getf hG dX7_livingIn_29 (flX7_23 _ rfl) rfl rfl ?_
          refine pm_iloadi hG dX7_livingIn_32 rfl ?_
          refine pm_iconst (v := 4) hG dX7_livingIn_34 (by decide) ?_
          refine pm_callV (As := [.int x2_4, .int 4]) (rest := []) hG hR dX7_livingIn_35 (lkX7_83 _ rfl) okV_X9_get rfl rfl (tget_6 (d := 1)) rfl rfl hdd (Nat.le_refl _) (Nat.le_refl _) (by decide) (fx_ki ?_)
          refine pm_iloadn hG dX7_livingIn_38 rfl ?_
          refine pm_icmp_ne (tgt := 49) hG dX7_livingIn_39 rfl (fun c5 => ?_) (fun c5 => ?_)
          · replace hE := fx_f c5 hE
            refine pm_iincX (v := x2_4 + 1) (loc' := [some (.ref (B + 1)), some (.int za), some (.int x2_2), some (.int x1), some (.int (x2_4 + 1))]) hG dX7_livingIn_49 rfl (by rfl) (by decide) (pm_c1b rfl) rfl ?_
            refine pm_goto (tgt := 13) hG dX7_livingIn_52 rfl ?_
            exact ih13 _ _ hE
          · replace hE := fx_t c5 hE
            refine pm_iloadn hG dX7_livingIn_42 rfl ?_
            refine pm_iconst (v := 1) hG dX7_livingIn_43 (by decide) ?_
            refine pm_iloadi hG dX7_livingIn_44 rfl ?_
            refine pm_ishl hG dX7_livingIn_46 ?_
            refine pm_ior hG dX7_livingIn_47 ?_
            refine fx_letv hE (fun x6 hE => ?_)
            refine pm_istoreXn (loc' := [some (.ref (B + 1)), some (.int za), some (.int x6), some (.int x1), some (.int x2_4)]) hG dX7_livingIn_48 (by decide) (pm_c1b rfl) rfl ?_
            refine pm_iincX (v := x2_4 + 1) (loc' := [some (.ref (B + 1)), some (.int za), some (.int x6), some (.int x1), some (.int (x2_4 + 1))]) hG dX7_livingIn_49 rfl (by rfl) (by decide) (pm_c1b rfl) rfl ?_
            refine pm_goto (tgt := 13) hG dX7_livingIn_52 rfl ?_
            exact ih13 _ _ hE
  refine loop13 _ (fun  x7_2 x7_4 hE => ?_) _ _ _ hE
  refine pm_iloadn hG dX7_livingIn_55 rfl ?_
  exact pm_iret hG hF dX7_livingIn_56 rfl (Nat.le_refl _) (Nat.le_refl _) (fx_pi (Option.some.inj hE))
