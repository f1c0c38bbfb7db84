section
set_option maxRecDepth 100000 in
set_option maxHeartbeats 4000000 in
theorem c_X0_stands {d : Nat} {B cnt : Nat} {kp : Value} {ρ : pm_S} {S : FS} {za : Int32} {R : Int32} (hdd : 1 ≤ d) (hE : p_X0_stands S za = R) : pm_met mX0_stands d 0 0 B [.ref (B + 31), .int za] cnt (cst B kp S ρ) (pm_Qi (fun v σ' cnt' => v = R ∧ σ' = (cst B kp S ρ) ∧ cnt' = cnt)) := by
  refine pm_enter 0 (by decide) (Nat.le_of_ble_eq_true rfl) rfl (fun G hG hR hF => ?_)
  unfold p_X0_stands at hE
  refine pm_aloadn hG dX0_stands_0 rfl ?_
  refine pm_getf hG dX0_stands_1 (flX0_25 _ rfl) rfl rfl ?_
  refine pm_iloadn hG dX0_stands_4 rfl ?_
  refine pm_iconst (v := 4) hG dX0_stands_5 (by decide) ?_
  refine pm_callV (As := [.int za, .int 4]) (rest := []) hG hR dX0_stands_6 (lkX0_39 _ rfl) okV_X9_get rfl rfl (tget_18 (d := 0)) rfl rfl hdd (Nat.le_refl _) (Nat.le_refl _) (by decide) (fx_ki ?_)
  refine pm_if_ne (tgt := 35) hG dX0_stands_9 rfl (fun c1 => ?_) (fun c1 => ?_)
  · replace hE := fx_f c1 hE
    refine pm_iconst (v := 0) hG dX0_stands_35 (by decide) ?_
    exact pm_zret hG hF dX0_stands_36 rfl (by rfl) (Nat.le_refl _) (Nat.le_refl _) (fx_pi hE)
  · replace hE := fx_t c1 hE
    refine pm_aloadn hG dX0_stands_12 rfl ?_
    refine pm_getf hG dX0_stands_13 (flX0_25 _ rfl) rfl rfl ?_
    refine pm_iloadn hG dX0_stands_16 rfl ?_
    refine pm_iconst (v := 2) hG dX0_stands_17 (by decide) ?_
    refine pm_callV (As := [.int za, .int 2]) (rest := []) hG hR dX0_stands_18 (lkX0_39 _ rfl) okV_X9_get rfl rfl (tget_18 (d := 0)) rfl rfl hdd (Nat.le_refl _) (Nat.le_refl _) (by decide) (fx_ki ?_)
    refine pm_aloadn hG dX0_stands_21 rfl ?_
    refine pm_getf hG dX0_stands_22 (flX0_9 _ rfl) rfl rfl ?_
    refine pm_getf hG dX0_stands_25 (flX0_43 _ rfl) rfl rfl ?_
    refine pm_icmp_lt (tgt := 35) hG dX0_stands_28 rfl (fun c2 => ?_) (fun c2 => ?_)
    · replace hE := fx_t c2 hE
      refine pm_iconst (v := 0) hG dX0_stands_35 (by decide) ?_
      exact pm_zret hG hF dX0_stands_36 rfl (by rfl) (Nat.le_refl _) (Nat.le_refl _) (fx_pi hE)
    · replace hE := fx_f c2 hE
      refine pm_iconst (v := 1) hG dX0_stands_31 (by decide) ?_
      refine pm_goto (tgt := 36) hG dX0_stands_32 rfl ?_
      exact pm_zret hG hF dX0_stands_36 rfl (by rfl) (Nat.le_refl _) (Nat.le_refl _) (fx_pi hE)

set_option maxRecDepth 100000 in
set_option maxHeartbeats 4000000 in
theorem c_X0_addPromise {d : Nat} {B cnt : Nat} {kp : Value} {ρ : pm_S} {S : FS} {za : Int32} {zb : Int32} {zc : Int32} {zd : Int32} {R : Int32 × FS} (hdd : 2 ≤ d) (hE : f_X0_addPromise S za zb zc zd = some R) : pm_met mX0_addPromise d 0 0 B [.ref (B + 31), .int za, .int zb, .int zc, .int zd] cnt (cst B kp S ρ) (pm_Qi (fun v σ' cnt' => v = R.1 ∧ σ' = (cst B kp R.2 ρ) ∧ cnt' = cnt)) := by
  refine pm_enter 2 (by decide) (Nat.le_of_ble_eq_true rfl) rfl (fun G hG hR hF => ?_)
  unfold f_X0_addPromise at hE
  refine pm_aloadn hG dX0_addPromise_0 rfl ?_
  refine pm_getf hG dX0_addPromise_1 (flX0_25 _ rfl) rfl rfl ?_
  refine pm_callV (As := []) (rest := []) hG hR dX0_addPromise_4 (lkX0_47 _ rfl) okV_X9_used rfl rfl (tused_18 (d := 1)) rfl rfl hdd (Nat.le_refl _) (Nat.le_refl _) (by decide) (fx_ki ?_)
  refine fx_letv hE (fun x1 hE => ?_)
  refine pm_istoreXi (loc' := [some (.ref (B + 31)), some (.int za), some (.int zb), some (.int zc), some (.int zd), some (.int x1), none]) hG dX0_addPromise_7 (by decide) (pm_c1b rfl) rfl ?_
  refine pm_iconst (v := 0) hG dX0_addPromise_9 (by decide) ?_
  refine pm_istoreXi (loc' := [some (.ref (B + 31)), some (.int za), some (.int zb), some (.int zc), some (.int zd), some (.int x1), some (.int 0)]) hG dX0_addPromise_10 (by decide) (pm_c1b rfl) rfl ?_
  have loop12 : ∀ (k12 : FS → Int32 → Option (Int32 × FS)), (∀ (S2 : FS) (x2_6 : Int32), k12 S2  x2_6 = some R → pm_wp mX0_addPromise G B 73 [some (.ref (B + 31)), some (.int za), some (.int zb), some (.int zc), some (.int zd), some (.int x1), some (.int x2_6)] [] 0 0 cnt (cst B kp S2 ρ)) → ∀ (m12 : Nat) (S2 : FS) (x2_6 : Int32), l_X0_addPromise_12 za zb x1 k12 m12 S2  x2_6 = some R → pm_wp mX0_addPromise G B 12 [some (.ref (B + 31)), some (.int za), some (.int zb), some (.int zc), some (.int zd), some (.int x1), some (.int x2_6)] [] 0 0 cnt (cst B kp S2 ρ) := by
    intro k12 hk12 m12
    induction m12 with
    | zero => intro S2  x2_6 hE; exact fx_no hE
    | succ m12 ih12 =>
      intro S2  x2_6 hE
      rw [l_X0_addPromise_12] at hE
      refine pm_iloadi hG dX0_addPromise_12 rfl ?_
      refine pm_iloadi hG dX0_addPromise_14 rfl ?_
      refine pm_icmp_ge (tgt := 73) hG dX0_addPromise_16 rfl (fun c3 => ?_) (fun c3 => ?_)
      · replace c3 := Int32.not_lt.mpr c3
        replace hE := fx_f c3 hE
        exact hk12 _ _ hE
      · replace c3 := Int32.not_le.mp c3
        replace hE := fx_t c3 hE
        refine pm_aloadn hG dX0_addPromise_19 rfl ?_
        refine pm_iloadi hG dX0_addPromise_20 rfl ?_
        refine pm_callV (As := [.int x2_6]) (rest := []) hG hR dX0_addPromise_22 (lkX0_51 _ rfl) okV_X0_stands rfl rfl (c_X0_stands (d := 1) (by decide) rfl) rfl rfl hdd (Nat.le_refl _) (Nat.le_refl _) (by decide) (fx_ki ?_)
        refine pm_if_eq (tgt := 67) hG dX0_addPromise_25 rfl (fun c4 => ?_) (fun c4 => ?_)
        · replace hE := fx_t c4 hE
          refine pm_iincX (v := x2_6 + 1) (loc' := [some (.ref (B + 31)), some (.int za), some (.int zb), some (.int zc), some (.int zd), some (.int x1), some (.int (x2_6 + 1))]) hG dX0_addPromise_67 rfl (by rfl) (by decide) (pm_c1b rfl) rfl ?_
          refine pm_goto (tgt := 12) hG dX0_addPromise_70 rfl ?_
          exact ih12 _ _ hE
        · replace hE := fx_f c4 hE
          refine pm_aloadn hG dX0_addPromise_28 rfl ?_
          refine pm_getf hG dX0_addPromise_29 (flX0_25 _ rfl) rfl rfl ?_
          refine pm_iloadi hG dX0_addPromise_32 rfl ?_
          refine pm_iconst (v := 0) hG dX0_addPromise_34 (by decide) ?_
          refine pm_callV (As := [.int x2_6, .int 0]) (rest := []) hG hR dX0_addPromise_35 (lkX0_39 _ rfl) okV_X9_get rfl rfl (tget_18 (d := 1)) rfl rfl hdd (Nat.le_refl _) (Nat.le_refl _) (by decide) (fx_ki ?_)
          refine pm_iloadn hG dX0_addPromise_38 rfl ?_
          refine pm_icmp_ne (tgt := 67) hG dX0_addPromise_39 rfl (fun c5 => ?_) (fun c5 => ?_)
          · replace hE := fx_f c5 hE
            refine pm_iincX (v := x2_6 + 1) (loc' := [some (.ref (B + 31)), some (.int za), some (.int zb), some (.int zc), some (.int zd), some (.int x1), some (.int (x2_6 + 1))]) hG dX0_addPromise_67 rfl (by rfl) (by decide) (pm_c1b rfl) rfl ?_
            refine pm_goto (tgt := 12) hG dX0_addPromise_70 rfl ?_
            exact ih12 _ _ hE
          · replace hE := fx_t c5 hE
            refine pm_aloadn hG dX0_addPromise_42 rfl ?_
            refine pm_getf hG dX0_addPromise_43 (flX0_25 _ rfl) rfl rfl ?_
            refine pm_iloadi hG dX0_addPromise_46 rfl ?_
            refine pm_iconst (v := 1) hG dX0_addPromise_48 (by decide) ?_
            refine pm_callV (As := [.int x2_6, .int 1]) (rest := []) hG hR dX0_addPromise_49 (lkX0_39 _ rfl) okV_X9_get rfl rfl (tget_18 (d := 1)) rfl rfl hdd (Nat.le_refl _) (Nat.le_refl _) (by decide) (fx_ki ?_)
            refine pm_iloadn hG dX0_addPromise_52 rfl ?_
            refine pm_icmp_ne (tgt := 67) hG dX0_addPromise_53 rfl (fun c6 => ?_) (fun c6 => ?_)
            · replace hE := fx_f c6 hE
              refine pm_iincX (v := x2_6 + 1) (loc' := [some (.ref (B + 31)), some (.int za), some (.int zb), some (.int zc), some (.int zd), some (.int x1), some (.int (x2_6 + 1))]) hG dX0_addPromise_67 rfl (by rfl) (by decide) (pm_c1b rfl) rfl ?_
              refine pm_goto (tgt := 12) hG dX0_addPromise_70 rfl ?_
              exact ih12 _ _ hE
            · replace hE := fx_t c6 hE
              refine pm_aloadn hG dX0_addPromise_56 rfl ?_
              refine pm_getf hG dX0_addPromise_57 (flX0_25 _ rfl) rfl rfl ?_
              refine pm_iloadi hG dX0_addPromise_60 rfl ?_
              refine pm_iconst (v := 4) hG dX0_addPromise_62 (by decide) ?_
              refine pm_iconst (v := 1) hG dX0_addPromise_63 (by decide) ?_
              refine pm_callV (As := [.int x2_6, .int 4, .int 1]) (rest := []) hG hR dX0_addPromise_64 (lkX0_55 _ rfl) okV_X9_set rfl rfl (tset_18 (d := 1)) rfl rfl hdd (Nat.le_refl _) (Nat.le_refl _) (by decide) (fx_kv ?_)
              refine fx_letc hE (fun S7 hE => ?_)
              refine pm_iincX (v := x2_6 + 1) (loc' := [some (.ref (B + 31)), some (.int za), some (.int zb), some (.int zc), some (.int zd), some (.int x1), some (.int (x2_6 + 1))]) hG dX0_addPromise_67 rfl (by rfl) (by decide) (pm_c1b rfl) rfl ?_
              refine pm_goto (tgt := 12) hG dX0_addPromise_70 rfl ?_
              exact ih12 _ _ hE
  refine loop12 _ (fun S8 x8_6 hE => ?_) _ _ _ hE
  refine pm_aloadn hG dX0_addPromise_73 rfl ?_
  refine pm_getf hG dX0_addPromise_74 (flX0_25 _ rfl) rfl rfl ?_
  refine pm_iloadn hG dX0_addPromise_77 rfl ?_
  obtain ⟨r10, h9, hE⟩ := fb_some hE
  refine pm_callV (As := [.int za]) (rest := []) hG hR dX0_addPromise_78 (lkX0_59 _ rfl) okV_X9_append rfl rfl (tappend_18 (d := 1) (by decide) h9) rfl rfl hdd (Nat.le_refl _) (Nat.le_refl _) (by decide) (fx_ki ?_)
  refine pm_istoreXi (loc' := [some (.ref (B + 31)), some (.int za), some (.int zb), some (.int zc), some (.int zd), some (.int x1), some (.int r10.1)]) hG dX0_addPromise_81 (by decide) (pm_c1b rfl) rfl ?_
  refine pm_aloadn hG dX0_addPromise_83 rfl ?_
  refine pm_getf hG dX0_addPromise_84 (flX0_25 _ rfl) rfl rfl ?_
  refine pm_iloadi hG dX0_addPromise_87 rfl ?_
  refine pm_iconst (v := 1) hG dX0_addPromise_89 (by decide) ?_
  refine pm_iloadn hG dX0_addPromise_90 rfl ?_
  refine pm_callV (As := [.int r10.1, .int 1, .int zb]) (rest := []) hG hR dX0_addPromise_91 (lkX0_55 _ rfl) okV_X9_set rfl rfl (tset_18 (d := 1)) rfl rfl hdd (Nat.le_refl _) (Nat.le_refl _) (by decide) (fx_kv ?_)
  refine fx_letc hE (fun S11 hE => ?_)
  refine pm_aloadn hG dX0_addPromise_94 rfl ?_
  refine pm_getf hG dX0_addPromise_95 (flX0_25 _ rfl) rfl rfl ?_
  refine pm_iloadi hG dX0_addPromise_98 rfl ?_
  refine pm_iconst (v := 2) hG dX0_addPromise_100 (by decide) ?_
  refine pm_iloadn hG dX0_addPromise_101 rfl ?_
  refine pm_callV (As := [.int r10.1, .int 2, .int zc]) (rest := []) hG hR dX0_addPromise_102 (lkX0_55 _ rfl) okV_X9_set rfl rfl (tset_18 (d := 1)) rfl rfl hdd (Nat.le_refl _) (Nat.le_refl _) (by decide) (fx_kv ?_)
  refine fx_letc hE (fun S12 hE => ?_)
  refine pm_aloadn hG dX0_addPromise_105 rfl ?_
  refine pm_getf hG dX0_addPromise_106 (flX0_25 _ rfl) rfl rfl ?_
  refine pm_iloadi hG dX0_addPromise_109 rfl ?_
  refine pm_iconst (v := 3) hG dX0_addPromise_111 (by decide) ?_
  refine pm_iloadi hG dX0_addPromise_112 rfl ?_
  refine pm_if_eq (tgt := 121) hG dX0_addPromise_114 rfl (fun c13 => ?_) (fun c13 => ?_)
  · replace hE := fx_t c13 hE
    refine pm_iconst (v := 0) hG dX0_addPromise_121 (by decide) ?_
    refine pm_callV (As := [.int r10.1, .int 3, .int 0]) (rest := []) hG hR dX0_addPromise_122 (lkX0_55 _ rfl) okV_X9_set rfl rfl (tset_18 (d := 1)) rfl rfl hdd (Nat.le_refl _) (Nat.le_refl _) (by decide) (fx_kv ?_)
    refine fx_letc hE (fun S14 hE => ?_)
    refine pm_aloadn hG dX0_addPromise_125 rfl ?_
    refine pm_getf hG dX0_addPromise_126 (flX0_25 _ rfl) rfl rfl ?_
    refine pm_iloadi hG dX0_addPromise_129 rfl ?_
    refine pm_iconst (v := 4) hG dX0_addPromise_131 (by decide) ?_
    refine pm_iconst (v := 0) hG dX0_addPromise_132 (by decide) ?_
    refine pm_callV (As := [.int r10.1, .int 4, .int 0]) (rest := []) hG hR dX0_addPromise_133 (lkX0_55 _ rfl) okV_X9_set rfl rfl (tset_18 (d := 1)) rfl rfl hdd (Nat.le_refl _) (Nat.le_refl _) (by decide) (fx_kv ?_)
    refine fx_letc hE (fun S15 hE => ?_)
    refine pm_iloadi hG dX0_addPromise_136 rfl ?_
    exact pm_iret hG hF dX0_addPromise_138 rfl (Nat.le_refl _) (Nat.le_refl _) (fx_ric hE)
  · replace hE := fx_f c13 hE
    refine pm_iconst (v := 1) hG dX0_addPromise_117 (by decide) ?_
    refine pm_goto (tgt := 122) hG dX0_addPromise_118 rfl ?_
    refine pm_callV (As := [.int r10.1, .int 3, .int 1]) (rest := []) hG hR dX0_addPromise_122 (lkX0_55 _ rfl) okV_X9_set rfl rfl (tset_18 (d := 1)) rfl rfl hdd (Nat.le_refl _) (Nat.le_refl _) (by decide) (fx_kv ?_)
    refine fx_letc hE (fun S16 hE => ?_)
    refine pm_aloadn hG dX0_addPromise_125 rfl ?_
    refine pm_getf hG dX0_addPromise_126 (flX0_25 _ rfl) rfl rfl ?_
    refine pm_iloadi hG dX0_addPromise_129 rfl ?_
    refine pm_iconst (v := 4) hG dX0_addPromise_131 (by decide) ?_
    refine pm_iconst (v := 0) hG dX0_addPromise_132 (by decide) ?_
    refine pm_callV (As := [.int r10.1, .int 4, .int 0]) (rest := []) hG hR dX0_addPromise_133 (lkX0_55 _ rfl) okV_X9_set rfl rfl (tset_18 (d := 1)) rfl rfl hdd (Nat.le_refl _) (Nat.le_refl _) (by decide) (fx_kv ?_)
    refine fx_letc hE (fun S17 hE => ?_)
    refine pm_iloadi hG dX0_addPromise_136 rfl ?_
    exact pm_iret hG hF dX0_addPromise_138 rfl (Nat.le_refl _) (Nat.le_refl _) (fx_ric hE)

set_option maxRecDepth 100000 in
set_option maxHeartbeats 4000000 in
theorem c_X0_endAllOf {d : Nat} {B cnt : Nat} {kp : Value} {ρ : pm_S} {S : FS} {za : Int32} {zb : Int32} {R : Int32 × FS} (hdd : 2 ≤ d) (hE : f_X0_endAllOf S za zb = some R) : pm_met mX0_endAllOf d 0 0 B [.ref (B + 31), .int za, .int zb] cnt (cst B kp S ρ) (pm_Qi (fun v σ' cnt' => v = R.1 ∧ σ' = (cst B kp R.2 ρ) ∧ cnt' = cnt)) := by
  refine pm_enter 3 (by decide) (Nat.le_of_ble_eq_true rfl) rfl (fun G hG hR hF => ?_)
  unfold f_X0_endAllOf at hE
  refine pm_iconst (v := 0) hG dX0_endAllOf_0 (by decide) ?_
  refine pm_istoreXn (loc' := [some (.ref (B + 31)), some (.int za), some (.int zb), some (.int 0), none, none]) hG dX0_endAllOf_1 (by decide) (pm_c1b rfl) rfl ?_
  refine pm_aloadn hG dX0_endAllOf_2 rfl ?_
  refine pm_getf hG dX0_endAllOf_3 (flX0_25 _ rfl) rfl rfl ?_
  refine pm_callV (As := []) (rest := []) hG hR dX0_endAllOf_6 (lkX0_47 _ rfl) okV_X9_used rfl rfl (tused_18 (d := 1)) rfl rfl hdd (Nat.le_refl _) (Nat.le_refl _) (by decide) (fx_ki ?_)
  refine fx_letv hE (fun x1 hE => ?_)
  refine pm_istoreXi (loc' := [some (.ref (B + 31)), some (.int za), some (.int zb), some (.int 0), some (.int x1), none]) hG dX0_endAllOf_9 (by decide) (pm_c1b rfl) rfl ?_
  refine pm_iconst (v := 0) hG dX0_endAllOf_11 (by decide) ?_
  refine pm_istoreXi (loc' := [some (.ref (B + 31)), some (.int za), some (.int zb), some (.int 0), some (.int x1), some (.int 0)]) hG dX0_endAllOf_12 (by decide) (pm_c1b rfl) rfl ?_
  have loop14 : ∀ (k14 : FS → Int32 → Int32 → Option (Int32 × FS)), (∀ (S2 : FS) (x2_3 : Int32) (x2_5 : Int32), k14 S2  x2_3 x2_5 = some R → pm_wp mX0_endAllOf G B 64 [some (.ref (B + 31)), some (.int za), some (.int zb), some (.int x2_3), some (.int x1), some (.int x2_5)] [] 0 0 cnt (cst B kp S2 ρ)) → ∀ (m14 : Nat) (S2 : FS) (x2_3 : Int32) (x2_5 : Int32), l_X0_endAllOf_14 za zb x1 k14 m14 S2  x2_3 x2_5 = some R → pm_wp mX0_endAllOf G B 14 [some (.ref (B + 31)), some (.int za), some (.int zb), some (.int x2_3), some (.int x1), some (.int x2_5)] [] 0 0 cnt (cst B kp S2 ρ) := by
    intro k14 hk14 m14
    induction m14 with
    | zero => intro S2  x2_3 x2_5 hE; exact fx_no hE
    | succ m14 ih14 =>
      intro S2  x2_3 x2_5 hE
      rw [l_X0_endAllOf_14] at hE
      refine pm_iloadi hG dX0_endAllOf_14 rfl ?_
      refine pm_iloadi hG dX0_endAllOf_16 rfl ?_
      refine pm_icmp_ge (tgt := 64) hG dX0_endAllOf_18 rfl (fun c3 => ?_) (fun c3 => ?_)
      · replace c3 := Int32.not_lt.mpr c3
        replace hE := fx_f c3 hE
        exact hk14 _ _ _ hE
      · replace c3 := Int32.not_le.mp c3
        replace hE := fx_t c3 hE
        refine pm_aloadn hG dX0_endAllOf_21 rfl ?_
        refine pm_iloadi hG dX0_endAllOf_22 rfl ?_
        refine pm_callV (As := [.int x2_5]) (rest := []) hG hR dX0_endAllOf_24 (lkX0_51 _ rfl) okV_X0_stands rfl rfl (c_X0_stands (d := 1) (by decide) rfl) rfl rfl hdd (Nat.le_refl _) (Nat.le_refl _) (by decide) (fx_ki ?_)
        refine pm_if_eq (tgt := 58) hG dX0_endAllOf_27 rfl (fun c4 => ?_) (fun c4 => ?_)
        · replace hE := fx_t c4 hE
          refine pm_iincX (v := x2_5 + 1) (loc' := [some (.ref (B + 31)), some (.int za), some (.int zb), some (.int x2_3), some (.int x1), some (.int (x2_5 + 1))]) hG dX0_endAllOf_58 rfl (by rfl) (by decide) (pm_c1b rfl) rfl ?_
          refine pm_goto (tgt := 14) hG dX0_endAllOf_61 rfl ?_
          exact ih14 _ _ _ hE
        · replace hE := fx_f c4 hE
          refine pm_aloadn hG dX0_endAllOf_30 rfl ?_
          refine pm_getf hG dX0_endAllOf_31 (flX0_25 _ rfl) rfl rfl ?_
          refine pm_iloadi hG dX0_endAllOf_34 rfl ?_
          refine pm_iconst (v := 0) hG dX0_endAllOf_36 (by decide) ?_
          refine pm_callV (As := [.int x2_5, .int 0]) (rest := []) hG hR dX0_endAllOf_37 (lkX0_39 _ rfl) okV_X9_get rfl rfl (tget_18 (d := 1)) rfl rfl hdd (Nat.le_refl _) (Nat.le_refl _) (by decide) (fx_ki ?_)
          refine pm_iloadn hG dX0_endAllOf_40 rfl ?_
          refine pm_icmp_ne (tgt := 58) hG dX0_endAllOf_41 rfl (fun c5 => ?_) (fun c5 => ?_)
          · replace hE := fx_f c5 hE
            refine pm_iincX (v := x2_5 + 1) (loc' := [some (.ref (B + 31)), some (.int za), some (.int zb), some (.int x2_3), some (.int x1), some (.int (x2_5 + 1))]) hG dX0_endAllOf_58 rfl (by rfl) (by decide) (pm_c1b rfl) rfl ?_
            refine pm_goto (tgt := 14) hG dX0_endAllOf_61 rfl ?_
            exact ih14 _ _ _ hE
          · replace hE := fx_t c5 hE
            refine pm_aloadn hG dX0_endAllOf_44 rfl ?_
            refine pm_getf hG dX0_endAllOf_45 (flX0_25 _ rfl) rfl rfl ?_
            refine pm_iloadi hG dX0_endAllOf_48 rfl ?_
            refine pm_iconst (v := 4) hG dX0_endAllOf_50 (by decide) ?_
            refine pm_iloadn hG dX0_endAllOf_51 rfl ?_
            refine pm_callV (As := [.int x2_5, .int 4, .int zb]) (rest := []) hG hR dX0_endAllOf_52 (lkX0_55 _ rfl) okV_X9_set rfl rfl (tset_18 (d := 1)) rfl rfl hdd (Nat.le_refl _) (Nat.le_refl _) (by decide) (fx_kv ?_)
            refine fx_letc hE (fun S6 hE => ?_)
            refine pm_iincX (v := x2_3 + 1) (loc' := [some (.ref (B + 31)), some (.int za), some (.int zb), some (.int (x2_3 + 1)), some (.int x1), some (.int x2_5)]) hG dX0_endAllOf_55 rfl (by rfl) (by decide) (pm_c1b rfl) rfl ?_
            refine pm_iincX (v := x2_5 + 1) (loc' := [some (.ref (B + 31)), some (.int za), some (.int zb), some (.int (x2_3 + 1)), some (.int x1), some (.int (x2_5 + 1))]) hG dX0_endAllOf_58 rfl (by rfl) (by decide) (pm_c1b rfl) rfl ?_
            refine pm_goto (tgt := 14) hG dX0_endAllOf_61 rfl ?_
            exact ih14 _ _ _ hE
  refine loop14 _ (fun S7 x7_3 x7_5 hE => ?_) _ _ _ _ hE
  refine pm_iloadn hG dX0_endAllOf_64 rfl ?_
  exact pm_iret hG hF dX0_endAllOf_65 rfl (Nat.le_refl _) (Nat.le_refl _) (fx_ric hE)

set_option maxRecDepth 100000 in
set_option maxHeartbeats 4000000 in
theorem c_X0_breakAllOf {d : Nat} {B cnt : Nat} {kp : Value} {ρ : pm_S} {S : FS} {za : Int32} {R : Int32 × FS} (hdd : 3 ≤ d) (hE : f_X0_breakAllOf S za = some R) : pm_met mX0_breakAllOf d 0 0 B [.ref (B + 31), .int za] cnt (cst B kp S ρ) (pm_Qi (fun v σ' cnt' => v = R.1 ∧ σ' = (cst B kp R.2 ρ) ∧ cnt' = cnt)) := by
  refine pm_enter 0 (by decide) (Nat.le_of_ble_eq_true rfl) rfl (fun G hG hR hF => ?_)
  unfold f_X0_breakAllOf at hE
  refine pm_aloadn hG dX0_breakAllOf_0 rfl ?_
  refine pm_iloadn hG dX0_breakAllOf_1 rfl ?_
  refine pm_iconst (v := 2) hG dX0_breakAllOf_2 (by decide) ?_
  obtain ⟨r2, h1, hE⟩ := fb_some hE
  refine pm_callV (As := [.int za, .int 2]) (rest := []) hG hR dX0_breakAllOf_3 (lkX0_66 _ rfl) okV_X0_endAllOf rfl rfl (c_X0_endAllOf (d := 2) (by decide) h1) rfl rfl hdd (Nat.le_refl _) (Nat.le_refl _) (by decide) (fx_ki ?_)
  exact pm_iret hG hF dX0_breakAllOf_6 rfl (Nat.le_refl _) (Nat.le_refl _) (fx_ric hE)

set_option maxRecDepth 100000 in
set_option maxHeartbeats 4000000 in
theorem c_X7_knownTo {d : Nat} {B cnt : Nat} {kp : Value} {ρ : pm_S} {S : FS} {za : Int32} {R : Int32} (hdd : 1 ≤ d) (hE : p_X7_knownTo S za = R) : pm_met mX7_knownTo d 0 0 B [.ref (B + 1), .int za] cnt (cst B kp S ρ) (pm_Qi (fun v σ' cnt' => v = R ∧ σ' = (cst B kp S ρ) ∧ cnt' = cnt)) := by
  refine pm_enter 3 (by decide) (Nat.le_of_ble_eq_true rfl) rfl (fun G hG hR hF => ?_)
  unfold p_X7_knownTo at hE
  refine pm_aloadn hG dX7_knownTo_0 rfl ?_
  refine pm_getf hG dX7_knownTo_1 (flX7_23 _ rfl) rfl rfl ?_
  refine pm_iloadn hG dX7_knownTo_4 rfl ?_
  refine pm_bipush (v := 10) hG dX7_knownTo_5 (by decide) ?_
  refine pm_callV (As := [.int za, .int 10]) (rest := []) hG hR dX7_knownTo_7 (lkX7_83 _ rfl) okV_X9_get rfl rfl (tget_6 (d := 0)) rfl rfl hdd (Nat.le_refl _) (Nat.le_refl _) (by decide) (fx_ki ?_)
  refine fx_letv hE (fun x1 hE => ?_)
  refine pm_istoreXn (loc' := [some (.ref (B + 1)), some (.int za), some (.int x1), none, none]) hG dX7_knownTo_10 (by decide) (pm_c1b rfl) rfl ?_
  refine pm_aloadn hG dX7_knownTo_11 rfl ?_
  refine pm_getf hG dX7_knownTo_12 (flX7_23 _ rfl) rfl rfl ?_
  refine pm_iloadn hG dX7_knownTo_15 rfl ?_
  refine pm_iconst (v := 4) hG dX7_knownTo_16 (by decide) ?_
  refine pm_callV (As := [.int za, .int 4]) (rest := []) hG hR dX7_knownTo_17 (lkX7_83 _ rfl) okV_X9_get rfl rfl (tget_6 (d := 0)) rfl rfl hdd (Nat.le_refl _) (Nat.le_refl _) (by decide) (fx_ki ?_)
  refine fx_letv hE (fun x2 hE => ?_)
  refine pm_istoreXn (loc' := [some (.ref (B + 1)), some (.int za), some (.int x1), some (.int x2), none]) hG dX7_knownTo_20 (by decide) (pm_c1b rfl) rfl ?_
  refine pm_iloadn hG dX7_knownTo_21 rfl ?_
  refine pm_if_lt (tgt := 38) hG dX7_knownTo_22 rfl (fun c3 => ?_) (fun c3 => ?_)
  · replace hE := fx_t c3 hE
    refine pm_iloadn hG dX7_knownTo_38 rfl ?_
    exact pm_iret hG hF dX7_knownTo_39 rfl  (Nat.le_refl _) (Nat.le_refl _) (fx_pi hE)
  · replace hE := fx_f c3 hE
    refine pm_aloadn hG dX7_knownTo_25 rfl ?_
    refine pm_getf hG dX7_knownTo_26 (flX7_23 _ rfl) rfl rfl ?_
    refine pm_iloadn hG dX7_knownTo_29 rfl ?_
    refine pm_bipush (v := 9) hG dX7_knownTo_30 (by decide) ?_
    refine pm_callV (As := [.int za, .int 9]) (rest := []) hG hR dX7_knownTo_32 (lkX7_83 _ rfl) okV_X9_get rfl rfl (tget_6 (d := 0)) rfl rfl hdd (Nat.le_refl _) (Nat.le_refl _) (by decide) (fx_ki ?_)
    refine pm_if_eq (tgt := 40) hG dX7_knownTo_35 rfl (fun c4 => ?_) (fun c4 => ?_)
    · replace hE := fx_t c4 hE
      refine pm_aloadn hG dX7_knownTo_40 rfl ?_
      refine pm_getf hG dX7_knownTo_41 (flX7_20 _ rfl) rfl rfl ?_
      refine pm_iconst (v := 0) hG dX7_knownTo_44 (by decide) ?_
      refine pm_iloadn hG dX7_knownTo_45 rfl ?_
      refine pm_callV (As := [.int 0, .int x2]) (rest := []) hG hR dX7_knownTo_46 (lkX7_83 _ rfl) okV_X9_get rfl rfl (tget_4 (d := 0)) rfl rfl hdd (Nat.le_refl _) (Nat.le_refl _) (by decide) (fx_ki ?_)
      refine fx_letv hE (fun x5 hE => ?_)
      refine pm_istoreXi (loc' := [some (.ref (B + 1)), some (.int za), some (.int x1), some (.int x2), some (.int x5)]) hG dX7_knownTo_49 (by decide) (pm_c1b rfl) rfl ?_
      refine pm_iloadi hG dX7_knownTo_51 rfl ?_
      refine pm_sipush (v := 1000) hG dX7_knownTo_53 (by decide) ?_
      refine pm_icmp_lt (tgt := 63) hG dX7_knownTo_56 rfl (fun c6 => ?_) (fun c6 => ?_)
      · replace hE := fx_t c6 hE
        refine pm_iloadn hG dX7_knownTo_63 rfl ?_
        refine pm_aloadn hG dX7_knownTo_64 rfl ?_
        refine pm_getf hG dX7_knownTo_65 (flX7_72 _ rfl) rfl rfl ?_
        refine pm_iloadi hG dX7_knownTo_68 rfl ?_
        refine pm_isub hG dX7_knownTo_70 ?_
        refine pm_mmax hG hR dX7_knownTo_71 (mmX7_106 _ rfl) pm_mwmax (by omega) (by first | decide | exact Nat.le_of_ble_eq_true rfl) (Nat.le_refl _) (Nat.le_refl _) ?_
        refine pm_top (v := imax x1 ((S.1 102) - x5)) rfl ?_
        exact pm_iret hG hF dX7_knownTo_74 rfl  (Nat.le_refl _) (Nat.le_refl _) (fx_pi hE)
      · replace hE := fx_f c6 hE
        refine pm_iloadn hG dX7_knownTo_59 rfl ?_
        refine pm_goto (tgt := 74) hG dX7_knownTo_60 rfl ?_
        exact pm_iret hG hF dX7_knownTo_74 rfl  (Nat.le_refl _) (Nat.le_refl _) (fx_pi hE)
    · replace hE := fx_f c4 hE
      refine pm_iloadn hG dX7_knownTo_38 rfl ?_
      exact pm_iret hG hF dX7_knownTo_39 rfl  (Nat.le_refl _) (Nat.le_refl _) (fx_pi hE)

set_option maxRecDepth 100000 in
set_option maxHeartbeats 4000000 in
theorem c_X2_inForce {d : Nat} {B cnt : Nat} {kp : Value} {ρ : pm_S} {S : FS} {za : Int32} {zb : Int32} {zc : Int32} {R : Int32} (hdd : 1 ≤ d) (hE : q_X2_inForce S za zb zc = some R) : pm_met mX2_inForce d 0 0 B [.ref (B + 26), .int za, .int zb, .int zc] cnt (cst B kp S ρ) (pm_Qi (fun v σ' cnt' => v = R ∧ σ' = (cst B kp S ρ) ∧ cnt' = cnt)) := by
  refine pm_enter 2 (by decide) (Nat.le_of_ble_eq_true rfl) rfl (fun G hG hR hF => ?_)
  unfold q_X2_inForce at hE
  refine pm_aloadn hG dX2_inForce_0 rfl ?_
  refine pm_getf hG dX2_inForce_1 (flX2_9 _ rfl) rfl rfl ?_
  refine pm_getf hG dX2_inForce_4 (flX2_43 _ rfl) rfl rfl ?_
  refine pm_callV (As := []) (rest := []) hG hR dX2_inForce_7 (lkX2_53 _ rfl) okV_X9_used rfl rfl (tused_10 (d := 0)) rfl rfl hdd (Nat.le_refl _) (Nat.le_refl _) (by decide) (fx_ki ?_)
  refine pm_iconst (v := 1) hG dX2_inForce_10 (by decide) ?_
  refine pm_isub hG dX2_inForce_11 ?_
  refine fx_letv hE (fun x1 hE => ?_)
  refine pm_istoreXi (loc' := [some (.ref (B + 26)), some (.int za), some (.int zb), some (.int zc), some (.int x1), none]) hG dX2_inForce_12 (by decide) (pm_c1b rfl) rfl ?_
  have loop14 : ∀ (k14 : Int32 → Option Int32), (∀  (x2_4 : Int32), k14  x2_4 = some R → pm_wp mX2_inForce G B 105 [some (.ref (B + 26)), some (.int za), some (.int zb), some (.int zc), some (.int x2_4), none] [] 0 0 cnt (cst B kp S ρ)) → ∀ (m14 : Nat)  (x2_4 : Int32), l_X2_inForce_14 za zb zc S k14 m14  x2_4 = some R → pm_wp mX2_inForce G B 14 [some (.ref (B + 26)), some (.int za), some (.int zb), some (.int zc), some (.int x2_4), none] [] 0 0 cnt (cst B kp S ρ) := by
    intro k14 hk14 m14
    induction m14 with
    | zero => intro  x2_4 hE; exact fx_no hE
    | succ m14 ih14 =>
      intro  x2_4 hE
      rw [l_X2_inForce_14] at hE
      refine pm_iloadi hG dX2_inForce_14 rfl ?_
      refine pm_if_lt (tgt := 105) hG dX2_inForce_16 rfl (fun c3 => ?_) (fun c3 => ?_)
      · replace hE := fx_t c3 hE
        exact hk14 _ hE
      · replace hE := fx_f c3 hE
        refine pm_aloadn hG dX2_inForce_19 rfl ?_
        refine pm_getf hG dX2_inForce_20 (flX2_9 _ rfl) rfl rfl ?_
        refine pm_getf hG dX2_inForce_23 (flX2_43 _ rfl) rfl rfl ?_
        refine pm_iloadi hG dX2_inForce_26 rfl ?_
        refine pm_iconst (v := 3) hG dX2_inForce_28 (by decide) ?_
        refine pm_callV (As := [.int x2_4, .int 3]) (rest := []) hG hR dX2_inForce_29 (lkX2_67 _ rfl) okV_X9_get rfl rfl (tget_10 (d := 0)) rfl rfl hdd (Nat.le_refl _) (Nat.le_refl _) (by decide) (fx_ki ?_)
        refine fx_letv hE (fun x4 hE => ?_)
        refine pm_istoreXi (loc' := [some (.ref (B + 26)), some (.int za), some (.int zb), some (.int zc), some (.int x2_4), some (.int x4)]) hG dX2_inForce_32 (by decide) (pm_c1b rfl) rfl ?_
        refine pm_aloadn hG dX2_inForce_34 rfl ?_
        refine pm_getf hG dX2_inForce_35 (flX2_9 _ rfl) rfl rfl ?_
        refine pm_getf hG dX2_inForce_38 (flX2_43 _ rfl) rfl rfl ?_
        refine pm_iloadi hG dX2_inForce_41 rfl ?_
        refine pm_iconst (v := 0) hG dX2_inForce_43 (by decide) ?_
        refine pm_callV (As := [.int x2_4, .int 0]) (rest := []) hG hR dX2_inForce_44 (lkX2_67 _ rfl) okV_X9_get rfl rfl (tget_10 (d := 0)) rfl rfl hdd (Nat.le_refl _) (Nat.le_refl _) (by decide) (fx_ki ?_)
        refine pm_iloadn hG dX2_inForce_47 rfl ?_
        refine pm_icmp_ne (tgt := 99) hG dX2_inForce_48 rfl (fun c5 => ?_) (fun c5 => ?_)
        · replace hE := fx_f c5 hE
          refine pm_iincX (v := x2_4 + (-1)) (loc' := [some (.ref (B + 26)), some (.int za), some (.int zb), some (.int zc), some (.int (x2_4 + (-1))), some (.int x4)]) hG dX2_inForce_99 rfl (by rfl) (by decide) (pm_c1b rfl) rfl ?_
          refine pm_goto (tgt := 14) hG dX2_inForce_102 rfl ?_
          refine pm_fg 5 (loc' := [some (.ref (B + 26)), some (.int za), some (.int zb), some (.int zc), some (.int (x2_4 + (-1))), none]) rfl ?_
          exact ih14 _ hE
        · replace hE := fx_t c5 hE
          refine pm_aloadn hG dX2_inForce_51 rfl ?_
          refine pm_getf hG dX2_inForce_52 (flX2_9 _ rfl) rfl rfl ?_
          refine pm_getf hG dX2_inForce_55 (flX2_43 _ rfl) rfl rfl ?_
          refine pm_iloadi hG dX2_inForce_58 rfl ?_
          refine pm_iconst (v := 2) hG dX2_inForce_60 (by decide) ?_
          refine pm_callV (As := [.int x2_4, .int 2]) (rest := []) hG hR dX2_inForce_61 (lkX2_67 _ rfl) okV_X9_get rfl rfl (tget_10 (d := 0)) rfl rfl hdd (Nat.le_refl _) (Nat.le_refl _) (by decide) (fx_ki ?_)
          refine pm_iloadn hG dX2_inForce_64 rfl ?_
          refine pm_icmp_gt (tgt := 99) hG dX2_inForce_65 rfl (fun c6 => ?_) (fun c6 => ?_)
          · replace hE := fx_t c6 hE
            refine pm_iincX (v := x2_4 + (-1)) (loc' := [some (.ref (B + 26)), some (.int za), some (.int zb), some (.int zc), some (.int (x2_4 + (-1))), some (.int x4)]) hG dX2_inForce_99 rfl (by rfl) (by decide) (pm_c1b rfl) rfl ?_
            refine pm_goto (tgt := 14) hG dX2_inForce_102 rfl ?_
            refine pm_fg 5 (loc' := [some (.ref (B + 26)), some (.int za), some (.int zb), some (.int zc), some (.int (x2_4 + (-1))), none]) rfl ?_
            exact ih14 _ hE
          · replace hE := fx_f c6 hE
            refine pm_iloadi hG dX2_inForce_68 rfl ?_
            refine pm_if_lt (tgt := 79) hG dX2_inForce_70 rfl (fun c7 => ?_) (fun c7 => ?_)
            · replace hE := fx_t c7 hE
              refine pm_aloadn hG dX2_inForce_79 rfl ?_
              refine pm_getf hG dX2_inForce_80 (flX2_9 _ rfl) rfl rfl ?_
              refine pm_getf hG dX2_inForce_83 (flX2_43 _ rfl) rfl rfl ?_
              refine pm_iloadi hG dX2_inForce_86 rfl ?_
              refine pm_iconst (v := 1) hG dX2_inForce_88 (by decide) ?_
              refine pm_callV (As := [.int x2_4, .int 1]) (rest := []) hG hR dX2_inForce_89 (lkX2_67 _ rfl) okV_X9_get rfl rfl (tget_10 (d := 0)) rfl rfl hdd (Nat.le_refl _) (Nat.le_refl _) (by decide) (fx_ki ?_)
              refine pm_iloadn hG dX2_inForce_92 rfl ?_
              refine pm_icmp_gt (tgt := 99) hG dX2_inForce_93 rfl (fun c8 => ?_) (fun c8 => ?_)
              · replace hE := fx_t c8 hE
                refine pm_iincX (v := x2_4 + (-1)) (loc' := [some (.ref (B + 26)), some (.int za), some (.int zb), some (.int zc), some (.int (x2_4 + (-1))), some (.int x4)]) hG dX2_inForce_99 rfl (by rfl) (by decide) (pm_c1b rfl) rfl ?_
                refine pm_goto (tgt := 14) hG dX2_inForce_102 rfl ?_
                refine pm_fg 5 (loc' := [some (.ref (B + 26)), some (.int za), some (.int zb), some (.int zc), some (.int (x2_4 + (-1))), none]) rfl ?_
                exact ih14 _ hE
              · replace hE := fx_f c8 hE
                refine pm_iloadi hG dX2_inForce_96 rfl ?_
                exact pm_iret hG hF dX2_inForce_98 rfl (Nat.le_refl _) (Nat.le_refl _) (fx_pi (Option.some.inj hE))
            · replace hE := fx_f c7 hE
              refine pm_iloadi hG dX2_inForce_73 rfl ?_
              refine pm_iloadn hG dX2_inForce_75 rfl ?_
              refine pm_icmp_le (tgt := 99) hG dX2_inForce_76 rfl (fun c9 => ?_) (fun c9 => ?_)
              · replace c9 := Int32.not_lt.mpr c9
                replace hE := fx_f c9 hE
                refine pm_iincX (v := x2_4 + (-1)) (loc' := [some (.ref (B + 26)), some (.int za), some (.int zb), some (.int zc), some (.int (x2_4 + (-1))), some (.int x4)]) hG dX2_inForce_99 rfl (by rfl) (by decide) (pm_c1b rfl) rfl ?_
                refine pm_goto (tgt := 14) hG dX2_inForce_102 rfl ?_
                refine pm_fg 5 (loc' := [some (.ref (B + 26)), some (.int za), some (.int zb), some (.int zc), some (.int (x2_4 + (-1))), none]) rfl ?_
                exact ih14 _ hE
              · replace c9 := Int32.not_le.mp c9
                replace hE := fx_t c9 hE
                refine pm_aloadn hG dX2_inForce_79 rfl ?_
                refine pm_getf hG dX2_inForce_80 (flX2_9 _ rfl) rfl rfl ?_
                refine pm_getf hG dX2_inForce_83 (flX2_43 _ rfl) rfl rfl ?_
                refine pm_iloadi hG dX2_inForce_86 rfl ?_
                refine pm_iconst (v := 1) hG dX2_inForce_88 (by decide) ?_
                refine pm_callV (As := [.int x2_4, .int 1]) (rest := []) hG hR dX2_inForce_89 (lkX2_67 _ rfl) okV_X9_get rfl rfl (tget_10 (d := 0)) rfl rfl hdd (Nat.le_refl _) (Nat.le_refl _) (by decide) (fx_ki ?_)
                refine pm_iloadn hG dX2_inForce_92 rfl ?_
                refine pm_icmp_gt (tgt := 99) hG dX2_inForce_93 rfl (fun c10 => ?_) (fun c10 => ?_)
                · replace hE := fx_t c10 hE
                  refine pm_iincX (v := x2_4 + (-1)) (loc' := [some (.ref (B + 26)), some (.int za), some (.int zb), some (.int zc), some (.int (x2_4 + (-1))), some (.int x4)]) hG dX2_inForce_99 rfl (by rfl) (by decide) (pm_c1b rfl) rfl ?_
                  refine pm_goto (tgt := 14) hG dX2_inForce_102 rfl ?_
                  refine pm_fg 5 (loc' := [some (.ref (B + 26)), some (.int za), some (.int zb), some (.int zc), some (.int (x2_4 + (-1))), none]) rfl ?_
                  exact ih14 _ hE
                · replace hE := fx_f c10 hE
                  refine pm_iloadi hG dX2_inForce_96 rfl ?_
                  exact pm_iret hG hF dX2_inForce_98 rfl (Nat.le_refl _) (Nat.le_refl _) (fx_pi (Option.some.inj hE))
  refine loop14 _ (fun  x11_4 hE => ?_) _ _ hE
  refine pm_iconst (v := (-1)) hG dX2_inForce_105 (by decide) ?_
  exact pm_iret hG hF dX2_inForce_106 rfl (Nat.le_refl _) (Nat.le_refl _) (fx_pi (Option.some.inj hE))

set_option maxRecDepth 100000 in
set_option maxHeartbeats 4000000 in
theorem c_X0_ruleInForce {d : Nat} {B cnt : Nat} {kp : Value} {ρ : pm_S} {S : FS} {R : Int32} (hdd : 2 ≤ d) (hE : q_X0_ruleInForce S = some R) : pm_met mX0_ruleInForce d 0 0 B [.ref (B + 31)] cnt (cst B kp S ρ) (pm_Qi (fun v σ' cnt' => v = R ∧ σ' = (cst B kp S ρ) ∧ cnt' = cnt)) := by
  refine pm_enter 2 (by decide) (Nat.le_of_ble_eq_true rfl) rfl (fun G hG hR hF => ?_)
  unfold q_X0_ruleInForce at hE
  refine pm_aloadn hG dX0_ruleInForce_0 rfl ?_
  refine pm_getf hG dX0_ruleInForce_1 (flX0_9 _ rfl) rfl rfl ?_
  refine pm_getf hG dX0_ruleInForce_4 (flX0_63 _ rfl) rfl rfl ?_
  refine pm_callV (As := []) (rest := []) hG hR dX0_ruleInForce_7 (lkX0_47 _ rfl) okV_X9_used rfl rfl (tused_6 (d := 1)) rfl rfl hdd (Nat.le_refl _) (Nat.le_refl _) (by decide) (fx_ki ?_)
  refine fx_letv hE (fun x1 hE => ?_)
  refine pm_istoreXn (loc' := [some (.ref (B + 31)), some (.int x1), none]) hG dX0_ruleInForce_10 (by decide) (pm_c1b rfl) rfl ?_
  refine pm_iconst (v := 0) hG dX0_ruleInForce_11 (by decide) ?_
  refine pm_istoreXn (loc' := [some (.ref (B + 31)), some (.int x1), some (.int 0)]) hG dX0_ruleInForce_12 (by decide) (pm_c1b rfl) rfl ?_
  have loop13 : ∀ (k13 : Int32 → Option Int32), (∀  (x2_2 : Int32), k13  x2_2 = some R → pm_wp mX0_ruleInForce G B 64 [some (.ref (B + 31)), some (.int x1), some (.int x2_2)] [] 0 0 cnt (cst B kp S ρ)) → ∀ (m13 : Nat)  (x2_2 : Int32), l_X0_ruleInForce_13 S x1 k13 m13  x2_2 = some R → pm_wp mX0_ruleInForce G B 13 [some (.ref (B + 31)), some (.int x1), some (.int x2_2)] [] 0 0 cnt (cst B kp S ρ) := by
    intro k13 hk13 m13
    induction m13 with
    | zero => intro  x2_2 hE; exact fx_no hE
    | succ m13 ih13 =>
      intro  x2_2 hE
      rw [l_X0_ruleInForce_13] at hE
      refine pm_iloadn hG dX0_ruleInForce_13 rfl ?_
      refine pm_iloadn hG dX0_ruleInForce_14 rfl ?_
      refine pm_icmp_ge (tgt := 64) hG dX0_ruleInForce_15 rfl (fun c3 => ?_) (fun c3 => ?_)
      · replace c3 := Int32.not_lt.mpr c3
        replace hE := fx_f c3 hE
        exact hk13 _ hE
      · replace c3 := Int32.not_le.mp c3
        replace hE := fx_t c3 hE
        refine pm_aloadn hG dX0_ruleInForce_18 rfl ?_
        refine pm_getf hG dX0_ruleInForce_19 (flX0_9 _ rfl) rfl rfl ?_
        refine pm_getf hG dX0_ruleInForce_22 (flX0_63 _ rfl) rfl rfl ?_
        refine pm_iloadn hG dX0_ruleInForce_25 rfl ?_
        refine pm_bipush (v := 13) hG dX0_ruleInForce_26 (by decide) ?_
        refine pm_callV (As := [.int x2_2, .int 13]) (rest := []) hG hR dX0_ruleInForce_28 (lkX0_39 _ rfl) okV_X9_get rfl rfl (tget_6 (d := 1)) rfl rfl hdd (Nat.le_refl _) (Nat.le_refl _) (by decide) (fx_ki ?_)
        refine pm_if_eq (tgt := 58) hG dX0_ruleInForce_31 rfl (fun c4 => ?_) (fun c4 => ?_)
        · replace hE := fx_t c4 hE
          refine pm_iincX (v := x2_2 + 1) (loc' := [some (.ref (B + 31)), some (.int x1), some (.int (x2_2 + 1))]) hG dX0_ruleInForce_58 rfl (by rfl) (by decide) (pm_c1b rfl) rfl ?_
          refine pm_goto (tgt := 13) hG dX0_ruleInForce_61 rfl ?_
          exact ih13 _ hE
        · replace hE := fx_f c4 hE
          refine pm_aloadn hG dX0_ruleInForce_34 rfl ?_
          refine pm_getf hG dX0_ruleInForce_35 (flX0_15 _ rfl) rfl rfl ?_
          refine pm_iconst (v := 0) hG dX0_ruleInForce_38 (by decide) ?_
          refine pm_aloadn hG dX0_ruleInForce_39 rfl ?_
          refine pm_getf hG dX0_ruleInForce_40 (flX0_9 _ rfl) rfl rfl ?_
          refine pm_getf hG dX0_ruleInForce_43 (flX0_43 _ rfl) rfl rfl ?_
          refine pm_aloadn hG dX0_ruleInForce_46 rfl ?_
          refine pm_getf hG dX0_ruleInForce_47 (flX0_9 _ rfl) rfl rfl ?_
          refine pm_iloadn hG dX0_ruleInForce_50 rfl ?_
          refine pm_callV (As := [.int x2_2]) (rest := [.int (S.1 102), .int 0, .ref (B + 26)]) hG hR dX0_ruleInForce_51 (lkX0_91 _ rfl) okV_X7_knownTo rfl rfl (c_X7_knownTo (d := 1) (by decide) rfl) rfl rfl hdd (Nat.le_refl _) (Nat.le_refl _) (by first | decide | exact Nat.le_of_ble_eq_true rfl) (fx_ki ?_)
          obtain ⟨x6, h5, hE⟩ := fb_some hE
          refine pm_callV (As := [.int 0, .int (S.1 102), .int (p_X7_knownTo S x2_2)]) (rest := []) hG hR dX0_ruleInForce_54 (lkX0_94 _ rfl) okV_X2_inForce rfl rfl (c_X2_inForce (d := 1) (by decide) h5) rfl rfl hdd (Nat.le_refl _) (Nat.le_refl _) (by decide) (fx_ki ?_)
          exact pm_iret hG hF dX0_ruleInForce_57 rfl (Nat.le_refl _) (Nat.le_refl _) (fx_pi (Option.some.inj hE))
  refine loop13 _ (fun  x7_2 hE => ?_) _ _ hE
  refine pm_iconst (v := (-1)) hG dX0_ruleInForce_64 (by decide) ?_
  exact pm_iret hG hF dX0_ruleInForce_65 rfl (Nat.le_refl _) (Nat.le_refl _) (fx_pi (Option.some.inj hE))

set_option maxRecDepth 100000 in
set_option maxHeartbeats 4000000 in
theorem c_X7_isOfKind {d : Nat} {B cnt : Nat} {kp : Value} {ρ : pm_S} {S : FS} {za : Int32} {zb : Int32} {R : Int32} (hdd : 1 ≤ d) (hE : q_X7_isOfKind S za zb = some R) : pm_met mX7_isOfKind d 0 0 B [.ref (B + 1), .int za, .int zb] cnt (cst B kp S ρ) (pm_Qi (fun v σ' cnt' => v = R ∧ σ' = (cst B kp S ρ) ∧ cnt' = cnt)) := by
  refine pm_enter 2 (by decide) (Nat.le_of_ble_eq_true rfl) rfl (fun G hG hR hF => ?_)
  unfold q_X7_isOfKind at hE
  refine pm_aloadn hG dX7_isOfKind_0 rfl ?_
  refine pm_getf hG dX7_isOfKind_1 (flX7_26 _ rfl) rfl rfl ?_
  refine pm_iloadn hG dX7_isOfKind_4 rfl ?_
  refine pm_iconst (v := 0) hG dX7_isOfKind_5 (by decide) ?_
  refine pm_callV (As := [.int za, .int 0]) (rest := []) hG hR dX7_isOfKind_6 (lkX7_83 _ rfl) okV_X9_get rfl rfl (tget_8 (d := 0)) rfl rfl hdd (Nat.le_refl _) (Nat.le_refl _) (by decide) (fx_ki ?_)
  refine fx_letv hE (fun x1 hE => ?_)
  refine pm_istoreXn (loc' := [some (.ref (B + 1)), some (.int za), some (.int zb), some (.int x1), none]) hG dX7_isOfKind_9 (by decide) (pm_c1b rfl) rfl ?_
  refine pm_iconst (v := 0) hG dX7_isOfKind_10 (by decide) ?_
  refine pm_istoreXi (loc' := [some (.ref (B + 1)), some (.int za), some (.int zb), some (.int x1), some (.int 0)]) hG dX7_isOfKind_11 (by decide) (pm_c1b rfl) rfl ?_
  have loop13 : ∀ (k13 : Int32 → Int32 → Option Int32), (∀  (x2_3 : Int32) (x2_4 : Int32), k13  x2_3 x2_4 = some R → pm_wp mX7_isOfKind G B 53 [some (.ref (B + 1)), some (.int za), some (.int zb), some (.int x2_3), some (.int x2_4)] [] 0 0 cnt (cst B kp S ρ)) → ∀ (m13 : Nat)  (x2_3 : Int32) (x2_4 : Int32), l_X7_isOfKind_13 zb k13 m13  x2_3 x2_4 = some R → pm_wp mX7_isOfKind G B 13 [some (.ref (B + 1)), some (.int za), some (.int zb), some (.int x2_3), some (.int x2_4)] [] 0 0 cnt (cst B kp S ρ) := by
    intro k13 hk13 m13
    induction m13 with
    | zero => intro  x2_3 x2_4 hE; exact fx_no hE
    | succ m13 ih13 =>
      intro  x2_3 x2_4 hE
      rw [l_X7_isOfKind_13] at hE
      refine pm_iloadi hG dX7_isOfKind_13 rfl ?_
      refine pm_gsAb hG dX7_isOfKind_15 (fsX7_134 _ rfl) (fun y3 hy3 => ?_)
      refine pm_abLen hG dX7_isOfKind_18 hy3 ?_
      refine pm_icmp_ge (tgt := 53) hG dX7_isOfKind_19 rfl (fun c4 => ?_) (fun c4 => ?_)
      · replace c4 := Int32.not_lt.mpr c4
        replace hE := fx_f c4 hE
        exact hk13 _ _ hE
      · replace c4 := Int32.not_le.mp c4
        replace hE := fx_t c4 hE
        refine pm_iloadn hG dX7_isOfKind_22 rfl ?_
        refine pm_if_lt (tgt := 53) hG dX7_isOfKind_23 rfl (fun c5 => ?_) (fun c5 => ?_)
        · replace hE := fx_t c5 hE
          exact hk13 _ _ hE
        · replace hE := fx_f c5 hE
          refine pm_iloadn hG dX7_isOfKind_26 rfl ?_
          refine pm_gsAb hG dX7_isOfKind_27 (fsX7_134 _ rfl) (fun y6 hy6 => ?_)
          refine pm_abLen hG dX7_isOfKind_30 hy6 ?_
          refine pm_icmp_ge (tgt := 53) hG dX7_isOfKind_31 rfl (fun c7 => ?_) (fun c7 => ?_)
          · replace c7 := Int32.not_lt.mpr c7
            replace hE := fx_f c7 hE
            exact hk13 _ _ hE
          · replace c7 := Int32.not_le.mp c7
            replace hE := fx_t c7 hE
            refine pm_iloadn hG dX7_isOfKind_34 rfl ?_
            refine pm_iloadn hG dX7_isOfKind_35 rfl ?_
            refine pm_icmp_ne (tgt := 41) hG dX7_isOfKind_36 rfl (fun c8 => ?_) (fun c8 => ?_)
            · replace hE := fx_f c8 hE
              refine pm_gsAb hG dX7_isOfKind_41 (fsX7_134 _ rfl) (fun y9 hy9 => ?_)
              refine pm_iloadn hG dX7_isOfKind_44 rfl ?_
              obtain ⟨j10, hj10, hE⟩ := fb_some hE
              refine fx_abLd hG dX7_isOfKind_45 hy9 hj10 ?_
              refine fx_letv hE (fun x11 hE => ?_)
              refine pm_istoreXn (loc' := [some (.ref (B + 1)), some (.int za), some (.int zb), some (.int x11), some (.int x2_4)]) hG dX7_isOfKind_46 (by decide) (pm_c1b rfl) rfl ?_
              refine pm_iincX (v := x2_4 + 1) (loc' := [some (.ref (B + 1)), some (.int za), some (.int zb), some (.int x11), some (.int (x2_4 + 1))]) hG dX7_isOfKind_47 rfl (by rfl) (by decide) (pm_c1b rfl) rfl ?_
              refine pm_goto (tgt := 13) hG dX7_isOfKind_50 rfl ?_
              exact ih13 _ _ hE
            · replace hE := fx_t c8 hE
              refine pm_iconst (v := 1) hG dX7_isOfKind_39 (by decide) ?_
              exact pm_zret hG hF dX7_isOfKind_40 rfl (by rfl) (Nat.le_refl _) (Nat.le_refl _) (fx_pi (Option.some.inj hE))
  refine loop13 _ (fun  x12_3 x12_4 hE => ?_) _ _ _ hE
  refine pm_iconst (v := 0) hG dX7_isOfKind_53 (by decide) ?_
  exact pm_zret hG hF dX7_isOfKind_54 rfl (by rfl) (Nat.le_refl _) (Nat.le_refl _) (fx_pi (Option.some.inj hE))

set_option maxRecDepth 100000 in
set_option maxHeartbeats 4000000 in
theorem c_X2_pop {d : Nat} {B cnt : Nat} {kp : Value} {ρ : pm_S} {S : FS} {R : Int32 × FS} (hdd : 1 ≤ d) (hE : f_X2_pop S = some R) : pm_met mX2_pop d 0 0 B [.ref (B + 26)] cnt (cst B kp S ρ) (pm_Qi (fun v σ' cnt' => v = R.1 ∧ σ' = (cst B kp R.2 ρ) ∧ cnt' = cnt)) := by
  refine pm_enter 0 (by decide) (Nat.le_of_ble_eq_true rfl) rfl (fun G hG hR hF => ?_)
  unfold f_X2_pop at hE
  refine pm_aloadn hG dX2_pop_0 rfl ?_
  refine pm_getf hG dX2_pop_1 (flX2_87 _ rfl) rfl rfl ?_
  refine pm_iconst (v := 1) hG dX2_pop_4 (by decide) ?_
  refine pm_icmp_lt (tgt := 20) hG dX2_pop_5 rfl (fun c1 => ?_) (fun c1 => ?_)
  · replace hE := fx_t c1 hE
    refine pm_iconst (v := 0) hG dX2_pop_20 (by decide) ?_
    exact pm_iret hG hF dX2_pop_21 rfl (Nat.le_refl _) (Nat.le_refl _) (fx_ric hE)
  · replace hE := fx_f c1 hE
    refine pm_aloadn hG dX2_pop_8 rfl ?_
    refine pm_getf hG dX2_pop_9 (flX2_87 _ rfl) rfl rfl ?_
    refine pm_aloadn hG dX2_pop_12 rfl ?_
    refine pm_getf hG dX2_pop_13 (flX2_30 _ rfl) rfl rfl ?_
    refine pm_alen (v := 60) hG dX2_pop_16 rfl (by decide) ?_
    refine pm_icmp_le (tgt := 22) hG dX2_pop_17 rfl (fun c2 => ?_) (fun c2 => ?_)
    · replace c2 := Int32.not_lt.mpr c2
      replace hE := fx_f c2 hE
      refine pm_aloadn hG dX2_pop_22 rfl ?_
      refine pm_dup hG dX2_pop_23 rfl ?_
      refine pm_getf hG dX2_pop_24 (flX2_87 _ rfl) rfl rfl ?_
      refine pm_iconst (v := 1) hG dX2_pop_27 (by decide) ?_
      refine pm_isub hG dX2_pop_28 ?_
      refine pm_putf hG dX2_pop_29 (fwX2_87 _ rfl) rfl rfl rfl ?_
      refine ci_104 ?_
      refine fx_letc hE (fun S3 hE => ?_)
      refine pm_aloadn hG dX2_pop_32 rfl ?_
      refine pm_getf hG dX2_pop_33 (flX2_30 _ rfl) rfl rfl ?_
      refine pm_aloadn hG dX2_pop_36 rfl ?_
      refine pm_getf hG dX2_pop_37 (flX2_87 _ rfl) rfl rfl ?_
      obtain ⟨j4, hj4, hE⟩ := fb_some hE
      refine fx_iald hG dX2_pop_40 rfl hj4 ?_
      exact pm_iret hG hF dX2_pop_41 rfl (Nat.le_refl _) (Nat.le_refl _) (fx_ric hE)
    · replace c2 := Int32.not_le.mp c2
      replace hE := fx_t c2 hE
      refine pm_iconst (v := 0) hG dX2_pop_20 (by decide) ?_
      exact pm_iret hG hF dX2_pop_21 rfl (Nat.le_refl _) (Nat.le_refl _) (fx_ric hE)

set_option maxRecDepth 100000 in
set_option maxHeartbeats 4000000 in
theorem c_X2_joined {d : Nat} {B cnt : Nat} {kp : Value} {ρ : pm_S} {S : FS} {za : Int32} {zb : Int32} {zc : Int32} {R : Int32} (hdd : 1 ≤ d) (hE : p_X2_joined S za zb zc = R) : pm_met mX2_joined d 0 0 B [.int za, .int zb, .int zc] cnt (cst B kp S ρ) (pm_Qi (fun v σ' cnt' => v = R ∧ σ' = (cst B kp S ρ) ∧ cnt' = cnt)) := by
  refine pm_enter 0 (by decide) (Nat.le_of_ble_eq_true rfl) rfl (fun G hG hR hF => ?_)
  unfold p_X2_joined at hE
  refine pm_iloadn hG dX2_joined_0 rfl ?_
  by_cases c1 : za = (-7)
  · replace hE := fx_t c1 hE
    refine pm_top (v := (-7)) c1 ?_
    refine pm_tswIn (tgt := 101) hG dX2_joined_1 (by decide) (by decide) rfl rfl ?_
    refine pm_iloadn hG dX2_joined_101 rfl ?_
    refine pm_iloadn hG dX2_joined_102 rfl ?_
    refine pm_iadd hG dX2_joined_103 ?_
    exact pm_iret hG hF dX2_joined_104 rfl  (Nat.le_refl _) (Nat.le_refl _) (fx_pi hE)
  replace hE := fx_f c1 hE
  by_cases c2 : za = (-6)
  · replace hE := fx_t c2 hE
    refine pm_top (v := (-6)) c2 ?_
    refine pm_tswIn (tgt := 90) hG dX2_joined_1 (by decide) (by decide) rfl rfl ?_
    refine pm_iloadn hG dX2_joined_90 rfl ?_
    refine pm_iloadn hG dX2_joined_91 rfl ?_
    refine pm_icmp_le (tgt := 99) hG dX2_joined_92 rfl (fun c3 => ?_) (fun c3 => ?_)
    · replace c3 := Int32.not_lt.mpr c3
      replace hE := fx_f c3 hE
      refine pm_iconst (v := 0) hG dX2_joined_99 (by decide) ?_
      exact pm_iret hG hF dX2_joined_100 rfl  (Nat.le_refl _) (Nat.le_refl _) (fx_pi hE)
    · replace c3 := Int32.not_le.mp c3
      replace hE := fx_t c3 hE
      refine pm_iconst (v := 1) hG dX2_joined_95 (by decide) ?_
      refine pm_goto (tgt := 100) hG dX2_joined_96 rfl ?_
      exact pm_iret hG hF dX2_joined_100 rfl  (Nat.le_refl _) (Nat.le_refl _) (fx_pi hE)
  replace hE := fx_f c2 hE
  by_cases c4 : za = (-5)
  · replace hE := fx_t c4 hE
    refine pm_top (v := (-5)) c4 ?_
    refine pm_tswIn (tgt := 79) hG dX2_joined_1 (by decide) (by decide) rfl rfl ?_
    refine pm_iloadn hG dX2_joined_79 rfl ?_
    refine pm_iloadn hG dX2_joined_80 rfl ?_
    refine pm_icmp_ne (tgt := 88) hG dX2_joined_81 rfl (fun c5 => ?_) (fun c5 => ?_)
    · replace hE := fx_f c5 hE
      refine pm_iconst (v := 0) hG dX2_joined_88 (by decide) ?_
      exact pm_iret hG hF dX2_joined_89 rfl  (Nat.le_refl _) (Nat.le_refl _) (fx_pi hE)
    · replace hE := fx_t c5 hE
      refine pm_iconst (v := 1) hG dX2_joined_84 (by decide) ?_
      refine pm_goto (tgt := 89) hG dX2_joined_85 rfl ?_
      exact pm_iret hG hF dX2_joined_89 rfl  (Nat.le_refl _) (Nat.le_refl _) (fx_pi hE)
  replace hE := fx_f c4 hE
  by_cases c6 : za = (-4)
  · replace hE := fx_t c6 hE
    refine pm_top (v := (-4)) c6 ?_
    refine pm_tswIn (tgt := 68) hG dX2_joined_1 (by decide) (by decide) rfl rfl ?_
    refine pm_iloadn hG dX2_joined_68 rfl ?_
    refine pm_iloadn hG dX2_joined_69 rfl ?_
    refine pm_icmp_ge (tgt := 77) hG dX2_joined_70 rfl (fun c7 => ?_) (fun c7 => ?_)
    · replace c7 := Int32.not_lt.mpr c7
      replace hE := fx_f c7 hE
      refine pm_iconst (v := 0) hG dX2_joined_77 (by decide) ?_
      exact pm_iret hG hF dX2_joined_78 rfl  (Nat.le_refl _) (Nat.le_refl _) (fx_pi hE)
    · replace c7 := Int32.not_le.mp c7
      replace hE := fx_t c7 hE
      refine pm_iconst (v := 1) hG dX2_joined_73 (by decide) ?_
      refine pm_goto (tgt := 78) hG dX2_joined_74 rfl ?_
      exact pm_iret hG hF dX2_joined_78 rfl  (Nat.le_refl _) (Nat.le_refl _) (fx_pi hE)
  replace hE := fx_f c6 hE
  by_cases c8 : za = (-3)
  · replace hE := fx_t c8 hE
    refine pm_top (v := (-3)) c8 ?_
    refine pm_tswIn (tgt := 54) hG dX2_joined_1 (by decide) (by decide) rfl rfl ?_
    refine pm_iloadn hG dX2_joined_54 rfl ?_
    refine pm_if_eq (tgt := 66) hG dX2_joined_55 rfl (fun c9 => ?_) (fun c9 => ?_)
    · replace hE := fx_t c9 hE
      refine pm_iconst (v := 0) hG dX2_joined_66 (by decide) ?_
      exact pm_iret hG hF dX2_joined_67 rfl  (Nat.le_refl _) (Nat.le_refl _) (fx_pi hE)
    · replace hE := fx_f c9 hE
      refine pm_iloadn hG dX2_joined_58 rfl ?_
      refine pm_if_eq (tgt := 66) hG dX2_joined_59 rfl (fun c10 => ?_) (fun c10 => ?_)
      · replace hE := fx_t c10 hE
        refine pm_iconst (v := 0) hG dX2_joined_66 (by decide) ?_
        exact pm_iret hG hF dX2_joined_67 rfl  (Nat.le_refl _) (Nat.le_refl _) (fx_pi hE)
      · replace hE := fx_f c10 hE
        refine pm_iconst (v := 1) hG dX2_joined_62 (by decide) ?_
        refine pm_goto (tgt := 67) hG dX2_joined_63 rfl ?_
        exact pm_iret hG hF dX2_joined_67 rfl  (Nat.le_refl _) (Nat.le_refl _) (fx_pi hE)
  replace hE := fx_f c8 hE
  by_cases c11 : za = (-2)
  · replace hE := fx_t c11 hE
    refine pm_top (v := (-2)) c11 ?_
    refine pm_tswIn (tgt := 40) hG dX2_joined_1 (by decide) (by decide) rfl rfl ?_
    refine pm_iloadn hG dX2_joined_40 rfl ?_
    refine pm_if_ne (tgt := 48) hG dX2_joined_41 rfl (fun c12 => ?_) (fun c12 => ?_)
    · replace hE := fx_f c12 hE
      refine pm_iconst (v := 1) hG dX2_joined_48 (by decide) ?_
      refine pm_goto (tgt := 53) hG dX2_joined_49 rfl ?_
      exact pm_iret hG hF dX2_joined_53 rfl  (Nat.le_refl _) (Nat.le_refl _) (fx_pi hE)
    · replace hE := fx_t c12 hE
      refine pm_iloadn hG dX2_joined_44 rfl ?_
      refine pm_if_eq (tgt := 52) hG dX2_joined_45 rfl (fun c13 => ?_) (fun c13 => ?_)
      · replace hE := fx_t c13 hE
        refine pm_iconst (v := 0) hG dX2_joined_52 (by decide) ?_
        exact pm_iret hG hF dX2_joined_53 rfl  (Nat.le_refl _) (Nat.le_refl _) (fx_pi hE)
      · replace hE := fx_f c13 hE
        refine pm_iconst (v := 1) hG dX2_joined_48 (by decide) ?_
        refine pm_goto (tgt := 53) hG dX2_joined_49 rfl ?_
        exact pm_iret hG hF dX2_joined_53 rfl  (Nat.le_refl _) (Nat.le_refl _) (fx_pi hE)
  replace hE := fx_f c11 hE
  have tc1 : ¬ za.toInt = (-7) := fun q => c1 (Int32.toInt_inj.mp q)
  have tc2 : ¬ za.toInt = (-6) := fun q => c2 (Int32.toInt_inj.mp q)
  have tc4 : ¬ za.toInt = (-5) := fun q => c4 (Int32.toInt_inj.mp q)
  have tc6 : ¬ za.toInt = (-4) := fun q => c6 (Int32.toInt_inj.mp q)
  have tc8 : ¬ za.toInt = (-3) := fun q => c8 (Int32.toInt_inj.mp q)
  have tc11 : ¬ za.toInt = (-2) := fun q => c11 (Int32.toInt_inj.mp q)
  refine pm_tswOut (tgt := 105) hG dX2_joined_1 (by omega) rfl ?_
  refine pm_iloadn hG dX2_joined_105 rfl ?_
  refine pm_iloadn hG dX2_joined_106 rfl ?_
  refine pm_isub hG dX2_joined_107 ?_
  exact pm_iret hG hF dX2_joined_108 rfl  (Nat.le_refl _) (Nat.le_refl _) (fx_pi hE)

set_option maxRecDepth 100000 in
set_option maxHeartbeats 4000000 in
theorem c_X2_push {d : Nat} {B cnt : Nat} {kp : Value} {ρ : pm_S} {S : FS} {za : Int32} {R : Int32 × FS} (hdd : 1 ≤ d) (hE : f_X2_push S za = some R) : pm_met mX2_push d 0 0 B [.ref (B + 26), .int za] cnt (cst B kp S ρ) (pm_Qv (fun σ' cnt' => σ' = (cst B kp R.2 ρ) ∧ cnt' = cnt)) := by
  refine pm_enter 0 (by decide) (Nat.le_of_ble_eq_true rfl) rfl (fun G hG hR hF => ?_)
  unfold f_X2_push at hE
  refine pm_aloadn hG dX2_push_0 rfl ?_
  refine pm_getf hG dX2_push_1 (flX2_87 _ rfl) rfl rfl ?_
  refine pm_if_lt (tgt := 39) hG dX2_push_4 rfl (fun c1 => ?_) (fun c1 => ?_)
  · replace hE := fx_t c1 hE
    exact pm_vret hG hF dX2_push_39 rfl (Nat.le_refl _) (Nat.le_refl _) (fx_rvc hE)
  · replace hE := fx_f c1 hE
    refine pm_aloadn hG dX2_push_7 rfl ?_
    refine pm_getf hG dX2_push_8 (flX2_87 _ rfl) rfl rfl ?_
    refine pm_aloadn hG dX2_push_11 rfl ?_
    refine pm_getf hG dX2_push_12 (flX2_30 _ rfl) rfl rfl ?_
    refine pm_alen (v := 60) hG dX2_push_15 rfl (by decide) ?_
    refine pm_icmp_ge (tgt := 39) hG dX2_push_16 rfl (fun c2 => ?_) (fun c2 => ?_)
    · replace c2 := Int32.not_lt.mpr c2
      replace hE := fx_f c2 hE
      exact pm_vret hG hF dX2_push_39 rfl (Nat.le_refl _) (Nat.le_refl _) (fx_rvc hE)
    · replace c2 := Int32.not_le.mp c2
      replace hE := fx_t c2 hE
      refine pm_aloadn hG dX2_push_19 rfl ?_
      refine pm_getf hG dX2_push_20 (flX2_30 _ rfl) rfl rfl ?_
      refine pm_aloadn hG dX2_push_23 rfl ?_
      refine pm_getf hG dX2_push_24 (flX2_87 _ rfl) rfl rfl ?_
      refine pm_iloadn hG dX2_push_27 rfl ?_
      obtain ⟨j3, hj3, hE⟩ := fb_some hE
      refine fx_iast hG dX2_push_28 rfl hj3 ?_
      refine ca_30 ?_
      refine fx_letc hE (fun S4 hE => ?_)
      refine pm_aloadn hG dX2_push_29 rfl ?_
      refine pm_dup hG dX2_push_30 rfl ?_
      refine pm_getf hG dX2_push_31 (flX2_87 _ rfl) rfl rfl ?_
      refine pm_iconst (v := 1) hG dX2_push_34 (by decide) ?_
      refine pm_iadd hG dX2_push_35 ?_
      refine pm_putf hG dX2_push_36 (fwX2_87 _ rfl) rfl rfl rfl ?_
      refine ci_104 ?_
      refine fx_letc hE (fun S5 hE => ?_)
      exact pm_vret hG hF dX2_push_39 rfl (Nat.le_refl _) (Nat.le_refl _) (fx_rvc hE)

set_option maxRecDepth 100000 in
set_option maxHeartbeats 4000000 in
theorem c_X11_yearsBetween {d : Nat} {B cnt : Nat} {kp : Value} {ρ : pm_S} {S : FS} {za : Int32} {zb : Int32} {R : Int32} (hdd : 1 ≤ d) (hE : p_X11_yearsBetween S za zb = R) : pm_met mX11_yearsBetween d 0 0 B [.int za, .int zb] cnt (cst B kp S ρ) (pm_Qi (fun v σ' cnt' => v = R ∧ σ' = (cst B kp S ρ) ∧ cnt' = cnt)) := by
  refine pm_enter 0 (by decide) (Nat.le_of_ble_eq_true rfl) rfl (fun G hG hR hF => ?_)
  unfold p_X11_yearsBetween at hE
  refine pm_iloadn hG dX11_yearsBetween_0 rfl ?_
  refine pm_iloadn hG dX11_yearsBetween_1 rfl ?_
  refine pm_isub hG dX11_yearsBetween_2 ?_
  refine pm_sipush (v := 360) hG dX11_yearsBetween_3 (by decide) ?_
  refine pm_idiv hG dX11_yearsBetween_6 (by decide) ?_
  exact pm_iret hG hF dX11_yearsBetween_7 rfl  (Nat.le_refl _) (Nat.le_refl _) (fx_pi hE)

set_option maxRecDepth 100000 in
set_option maxHeartbeats 4000000 in
theorem c_X2_placeNamed {d : Nat} {B cnt : Nat} {kp : Value} {ρ : pm_S} {S : FS} {za : Int32} {R : Int32} (hdd : 1 ≤ d) (hE : p_X2_placeNamed S za = R) : pm_met mX2_placeNamed d 0 0 B [.int za] cnt (cst B kp S ρ) (pm_Qi (fun v σ' cnt' => v = R ∧ σ' = (cst B kp S ρ) ∧ cnt' = cnt)) := by
  refine pm_enter 0 (by decide) (Nat.le_of_ble_eq_true rfl) rfl (fun G hG hR hF => ?_)
  unfold p_X2_placeNamed at hE
  refine pm_iloadn hG dX2_placeNamed_0 rfl ?_
  refine pm_if_ge (tgt := 9) hG dX2_placeNamed_1 rfl (fun c1 => ?_) (fun c1 => ?_)
  · replace c1 := Int32.not_lt.mpr c1
    replace hE := fx_f c1 hE
    refine pm_iloadn hG dX2_placeNamed_9 rfl ?_
    exact pm_iret hG hF dX2_placeNamed_10 rfl  (Nat.le_refl _) (Nat.le_refl _) (fx_pi hE)
  · replace c1 := Int32.not_le.mp c1
    replace hE := fx_t c1 hE
    refine pm_bipush (v := 10) hG dX2_placeNamed_4 (by decide) ?_
    refine pm_goto (tgt := 10) hG dX2_placeNamed_6 rfl ?_
    exact pm_iret hG hF dX2_placeNamed_10 rfl  (Nat.le_refl _) (Nat.le_refl _) (fx_pi hE)

set_option maxRecDepth 100000 in
set_option maxHeartbeats 4000000 in
theorem c_J6_bitCount_0f7a4 {d : Nat} {B cnt : Nat} {kp : Value} {ρ : pm_S} {S : FS} {za : Int32} {R : Int32} (hdd : 1 ≤ d) (hE : p_J6_bitCount_0f7a4 S za = R) : pm_met mJ6_bitCount_0f7a4 d 0 0 B [.int za] cnt (cst B kp S ρ) (pm_Qi (fun v σ' cnt' => v = R ∧ σ' = (cst B kp S ρ) ∧ cnt' = cnt)) := by
  refine pm_enter 0 (by decide) (Nat.le_of_ble_eq_true rfl) rfl (fun G hG hR hF => ?_)
  unfold p_J6_bitCount_0f7a4 at hE
  refine pm_iloadn hG dJ6_bitCount_0f7a4_0 rfl ?_
  refine pm_iloadn hG dJ6_bitCount_0f7a4_1 rfl ?_
  refine pm_iconst (v := 1) hG dJ6_bitCount_0f7a4_2 (by decide) ?_
  refine pm_iushr hG dJ6_bitCount_0f7a4_3 rfl ?_
  refine pm_ldcw hG dJ6_bitCount_0f7a4_4 (ctJ6_265 _ rfl) ?_
  refine pm_iand hG dJ6_bitCount_0f7a4_7 ?_
  refine pm_isub hG dJ6_bitCount_0f7a4_8 ?_
  refine fx_letv hE (fun x1 hE => ?_)
  refine pm_istoreXn (loc' := [some (.int x1)]) hG dJ6_bitCount_0f7a4_9 (by decide) (pm_c1b rfl) rfl ?_
  refine pm_iloadn hG dJ6_bitCount_0f7a4_10 rfl ?_
  refine pm_ldcw hG dJ6_bitCount_0f7a4_11 (ctJ6_266 _ rfl) ?_
  refine pm_iand hG dJ6_bitCount_0f7a4_14 ?_
  refine pm_iloadn hG dJ6_bitCount_0f7a4_15 rfl ?_
  refine pm_iconst (v := 2) hG dJ6_bitCount_0f7a4_16 (by decide) ?_
  refine pm_iushr hG dJ6_bitCount_0f7a4_17 rfl ?_
  refine pm_ldcw hG dJ6_bitCount_0f7a4_18 (ctJ6_266 _ rfl) ?_
  refine pm_iand hG dJ6_bitCount_0f7a4_21 ?_
  refine pm_iadd hG dJ6_bitCount_0f7a4_22 ?_
  refine fx_letv hE (fun x2 hE => ?_)
  refine pm_istoreXn (loc' := [some (.int x2)]) hG dJ6_bitCount_0f7a4_23 (by decide) (pm_c1b rfl) rfl ?_
  refine pm_iloadn hG dJ6_bitCount_0f7a4_24 rfl ?_
  refine pm_iloadn hG dJ6_bitCount_0f7a4_25 rfl ?_
  refine pm_iconst (v := 4) hG dJ6_bitCount_0f7a4_26 (by decide) ?_
  refine pm_iushr hG dJ6_bitCount_0f7a4_27 rfl ?_
  refine pm_iadd hG dJ6_bitCount_0f7a4_28 ?_
  refine pm_ldcw hG dJ6_bitCount_0f7a4_29 (ctJ6_267 _ rfl) ?_
  refine pm_iand hG dJ6_bitCount_0f7a4_32 ?_
  refine fx_letv hE (fun x3 hE => ?_)
  refine pm_istoreXn (loc' := [some (.int x3)]) hG dJ6_bitCount_0f7a4_33 (by decide) (pm_c1b rfl) rfl ?_
  refine pm_iloadn hG dJ6_bitCount_0f7a4_34 rfl ?_
  refine pm_iloadn hG dJ6_bitCount_0f7a4_35 rfl ?_
  refine pm_bipush (v := 8) hG dJ6_bitCount_0f7a4_36 (by decide) ?_
  refine pm_iushr hG dJ6_bitCount_0f7a4_38 rfl ?_
  refine pm_iadd hG dJ6_bitCount_0f7a4_39 ?_
  refine fx_letv hE (fun x4 hE => ?_)
  refine pm_istoreXn (loc' := [some (.int x4)]) hG dJ6_bitCount_0f7a4_40 (by decide) (pm_c1b rfl) rfl ?_
  refine pm_iloadn hG dJ6_bitCount_0f7a4_41 rfl ?_
  refine pm_iloadn hG dJ6_bitCount_0f7a4_42 rfl ?_
  refine pm_bipush (v := 16) hG dJ6_bitCount_0f7a4_43 (by decide) ?_
  refine pm_iushr hG dJ6_bitCount_0f7a4_45 rfl ?_
  refine pm_iadd hG dJ6_bitCount_0f7a4_46 ?_
  refine fx_letv hE (fun x5 hE => ?_)
  refine pm_istoreXn (loc' := [some (.int x5)]) hG dJ6_bitCount_0f7a4_47 (by decide) (pm_c1b rfl) rfl ?_
  refine pm_iloadn hG dJ6_bitCount_0f7a4_48 rfl ?_
  refine pm_bipush (v := 63) hG dJ6_bitCount_0f7a4_49 (by decide) ?_
  refine pm_iand hG dJ6_bitCount_0f7a4_51 ?_
  exact pm_iret hG hF dJ6_bitCount_0f7a4_52 rfl  (Nat.le_refl _) (Nat.le_refl _) (fx_pi hE)

set_option maxRecDepth 100000 in
set_option maxHeartbeats 4000000 in
theorem c_X2_named {d : Nat} {B cnt : Nat} {kp : Value} {ρ : pm_S} {S : FS} {za : Int32} {zb : Int32} {zc : Int32} {zd : Int32} {R : Int32} (hdd : 2 ≤ d) (hE : q_X2_named S za zb zc zd = some R) : pm_met mX2_named d 0 0 B [.ref (B + 26), .int za, .int zb, .int zc, .int zd] cnt (cst B kp S ρ) (pm_Qi (fun v σ' cnt' => v = R ∧ σ' = (cst B kp S ρ) ∧ cnt' = cnt)) := by
  refine pm_enter 1 (by decide) (Nat.le_of_ble_eq_true rfl) rfl (fun G hG hR hF => ?_)
  unfold q_X2_named at hE
  refine pm_iloadn hG dX2_named_0 rfl ?_
  refine pm_bipush (v := 6) hG dX2_named_1 (by decide) ?_
  refine pm_icmp_gt (tgt := 18) hG dX2_named_3 rfl (fun c1 => ?_) (fun c1 => ?_)
  · replace hE := fx_t c1 hE
    refine pm_iloadn hG dX2_named_18 rfl ?_
    refine pm_bipush (v := 9) hG dX2_named_19 (by decide) ?_
    refine pm_icmp_gt (tgt := 32) hG dX2_named_21 rfl (fun c2 => ?_) (fun c2 => ?_)
    · replace hE := fx_t c2 hE
      refine pm_iconst (v := 0) hG dX2_named_32 (by decide) ?_
      refine pm_istoreXi (loc' := [some (.ref (B + 26)), some (.int za), some (.int zb), some (.int zc), some (.int zd), some (.int 0)]) hG dX2_named_33 (by decide) (pm_c1b rfl) rfl ?_
      refine pm_iloadi hG dX2_named_35 rfl ?_
      refine pm_if_eq (tgt := 42) hG dX2_named_37 rfl (fun _ => ?_) (fun q => absurd q (by decide))
      refine pm_iloadn hG dX2_named_42 rfl ?_
      by_cases c3 : za = 0
      · replace hE := fx_t c3 hE
        refine pm_top (v := 0) c3 ?_
        refine pm_tswIn (tgt := 96) hG dX2_named_43 (by decide) (by decide) rfl rfl ?_
        refine pm_aloadn hG dX2_named_96 rfl ?_
        refine pm_getf hG dX2_named_97 (flX2_9 _ rfl) rfl rfl ?_
        refine pm_getf hG dX2_named_100 (flX2_103 _ rfl) rfl rfl ?_
        refine pm_iloadn hG dX2_named_103 rfl ?_
        refine pm_iconst (v := 1) hG dX2_named_104 (by decide) ?_
        refine pm_callV (As := [.int zb, .int 1]) (rest := []) hG hR dX2_named_105 (lkX2_67 _ rfl) okV_X9_get rfl rfl (tget_6 (d := 1)) rfl rfl hdd (Nat.le_refl _) (Nat.le_refl _) (by decide) (fx_ki ?_)
        refine pm_iloadi hG dX2_named_108 rfl ?_
        refine pm_callS (As := [.int (fG 6 20 14 S zb 1), .int zd]) (rest := []) hG hR dX2_named_110 (lkX2_106 _ rfl) okS_X11_yearsBetween (c_X11_yearsBetween (d := 1) (by decide) rfl) rfl rfl hdd (Nat.le_refl _) (Nat.le_refl _) (by decide) (fx_ki ?_)
        exact pm_iret hG hF dX2_named_113 rfl (Nat.le_refl _) (Nat.le_refl _) (fx_pi (Option.some.inj hE))
      replace hE := fx_f c3 hE
      by_cases c4 : za = 1
      · replace hE := fx_t c4 hE
        refine pm_top (v := 1) c4 ?_
        refine pm_tswIn (tgt := 114) hG dX2_named_43 (by decide) (by decide) rfl rfl ?_
        refine pm_aloadn hG dX2_named_114 rfl ?_
        refine pm_getf hG dX2_named_115 (flX2_9 _ rfl) rfl rfl ?_
        refine pm_getf hG dX2_named_118 (flX2_103 _ rfl) rfl rfl ?_
        refine pm_iloadn hG dX2_named_121 rfl ?_
        refine pm_iconst (v := 0) hG dX2_named_122 (by decide) ?_
        refine pm_callV (As := [.int zb, .int 0]) (rest := []) hG hR dX2_named_123 (lkX2_67 _ rfl) okV_X9_get rfl rfl (tget_6 (d := 1)) rfl rfl hdd (Nat.le_refl _) (Nat.le_refl _) (by decide) (fx_ki ?_)
        exact pm_iret hG hF dX2_named_126 rfl (Nat.le_refl _) (Nat.le_refl _) (fx_pi (Option.some.inj hE))
      replace hE := fx_f c4 hE
      by_cases c5 : za = 2
      · replace hE := fx_t c5 hE
        refine pm_top (v := 2) c5 ?_
        refine pm_tswIn (tgt := 127) hG dX2_named_43 (by decide) (by decide) rfl rfl ?_
        refine pm_aloadn hG dX2_named_127 rfl ?_
        refine pm_getf hG dX2_named_128 (flX2_9 _ rfl) rfl rfl ?_
        refine pm_getf hG dX2_named_131 (flX2_109 _ rfl) rfl rfl ?_
        refine pm_iconst (v := 2) hG dX2_named_134 (by decide) ?_
        refine pm_iloadn hG dX2_named_135 rfl ?_
        obtain ⟨x7, h6, hE⟩ := fb_some hE
        refine pm_callV (As := [.int 2, .int zb]) (rest := []) hG hR dX2_named_136 (lkX2_71 _ rfl) okV_X9_rowsWith rfl rfl (trowsWith_8 (d := 1) (k := 2) (by decide) rfl h6) rfl rfl hdd (Nat.le_refl _) (Nat.le_refl _) (by decide) (fx_ki ?_)
        exact pm_iret hG hF dX2_named_139 rfl (Nat.le_refl _) (Nat.le_refl _) (fx_pi (Option.some.inj hE))
      replace hE := fx_f c5 hE
      by_cases c8 : za = 3
      · replace hE := fx_t c8 hE
        refine pm_top (v := 3) c8 ?_
        refine pm_tswIn (tgt := 140) hG dX2_named_43 (by decide) (by decide) rfl rfl ?_
        refine pm_aloadn hG dX2_named_140 rfl ?_
        refine pm_getf hG dX2_named_141 (flX2_9 _ rfl) rfl rfl ?_
        refine pm_getf hG dX2_named_144 (flX2_103 _ rfl) rfl rfl ?_
        refine pm_iloadn hG dX2_named_147 rfl ?_
        refine pm_bipush (v := 7) hG dX2_named_148 (by decide) ?_
        refine pm_callV (As := [.int zb, .int 7]) (rest := []) hG hR dX2_named_150 (lkX2_67 _ rfl) okV_X9_get rfl rfl (tget_6 (d := 1)) rfl rfl hdd (Nat.le_refl _) (Nat.le_refl _) (by decide) (fx_ki ?_)
        exact pm_iret hG hF dX2_named_153 rfl (Nat.le_refl _) (Nat.le_refl _) (fx_pi (Option.some.inj hE))
      replace hE := fx_f c8 hE
      by_cases c9 : za = 4
      · replace hE := fx_t c9 hE
        refine pm_top (v := 4) c9 ?_
        refine pm_tswIn (tgt := 154) hG dX2_named_43 (by decide) (by decide) rfl rfl ?_
        refine pm_aloadn hG dX2_named_154 rfl ?_
        refine pm_getf hG dX2_named_155 (flX2_9 _ rfl) rfl rfl ?_
        refine pm_getf hG dX2_named_158 (flX2_103 _ rfl) rfl rfl ?_
        refine pm_iloadn hG dX2_named_161 rfl ?_
        refine pm_bipush (v := 8) hG dX2_named_162 (by decide) ?_
        refine pm_callV (As := [.int zb, .int 8]) (rest := []) hG hR dX2_named_164 (lkX2_67 _ rfl) okV_X9_get rfl rfl (tget_6 (d := 1)) rfl rfl hdd (Nat.le_refl _) (Nat.le_refl _) (by decide) (fx_ki ?_)
        exact pm_iret hG hF dX2_named_167 rfl (Nat.le_refl _) (Nat.le_refl _) (fx_pi (Option.some.inj hE))
      replace hE := fx_f c9 hE
      by_cases c10 : za = 5
      · replace hE := fx_t c10 hE
        refine pm_top (v := 5) c10 ?_
        refine pm_tswIn (tgt := 168) hG dX2_named_43 (by decide) (by decide) rfl rfl ?_
        refine pm_aloadn hG dX2_named_168 rfl ?_
        refine pm_getf hG dX2_named_169 (flX2_9 _ rfl) rfl rfl ?_
        refine pm_getf hG dX2_named_172 (flX2_103 _ rfl) rfl rfl ?_
        refine pm_iloadn hG dX2_named_175 rfl ?_
        refine pm_iconst (v := 4) hG dX2_named_176 (by decide) ?_
        refine pm_callV (As := [.int zb, .int 4]) (rest := []) hG hR dX2_named_177 (lkX2_67 _ rfl) okV_X9_get rfl rfl (tget_6 (d := 1)) rfl rfl hdd (Nat.le_refl _) (Nat.le_refl _) (by decide) (fx_ki ?_)
        refine pm_callS (As := [.int (fG 6 20 14 S zb 4)]) (rest := []) hG hR dX2_named_180 (lkX2_112 _ rfl) okS_X2_placeNamed (c_X2_placeNamed (d := 1) (by decide) rfl) rfl rfl hdd (Nat.le_refl _) (Nat.le_refl _) (by decide) (fx_ki ?_)
        exact pm_iret hG hF dX2_named_183 rfl (Nat.le_refl _) (Nat.le_refl _) (fx_pi (Option.some.inj hE))
      replace hE := fx_f c10 hE
      by_cases c11 : za = 6
      · replace hE := fx_t c11 hE
        refine pm_top (v := 6) c11 ?_
        refine pm_tswIn (tgt := 184) hG dX2_named_43 (by decide) (by decide) rfl rfl ?_
        refine pm_aloadn hG dX2_named_184 rfl ?_
        refine pm_getf hG dX2_named_185 (flX2_9 _ rfl) rfl rfl ?_
        refine pm_getf hG dX2_named_188 (flX2_103 _ rfl) rfl rfl ?_
        refine pm_iloadn hG dX2_named_191 rfl ?_
        refine pm_bipush (v := 11) hG dX2_named_192 (by decide) ?_
        refine pm_callV (As := [.int zb, .int 11]) (rest := []) hG hR dX2_named_194 (lkX2_67 _ rfl) okV_X9_get rfl rfl (tget_6 (d := 1)) rfl rfl hdd (Nat.le_refl _) (Nat.le_refl _) (by decide) (fx_ki ?_)
        exact pm_iret hG hF dX2_named_197 rfl (Nat.le_refl _) (Nat.le_refl _) (fx_pi (Option.some.inj hE))
      replace hE := fx_f c11 hE
      by_cases c12 : za = 7
      · replace hE := fx_t c12 hE
        refine pm_top (v := 7) c12 ?_
        refine pm_tswIn (tgt := 198) hG dX2_named_43 (by decide) (by decide) rfl rfl ?_
        refine pm_aloadn hG dX2_named_198 rfl ?_
        refine pm_getf hG dX2_named_199 (flX2_9 _ rfl) rfl rfl ?_
        refine pm_getf hG dX2_named_202 (flX2_115 _ rfl) rfl rfl ?_
        refine pm_iloadn hG dX2_named_205 rfl ?_
        refine pm_iconst (v := 4) hG dX2_named_206 (by decide) ?_
        refine pm_callV (As := [.int zc, .int 4]) (rest := []) hG hR dX2_named_207 (lkX2_67 _ rfl) okV_X9_get rfl rfl (tget_14 (d := 1)) rfl rfl hdd (Nat.le_refl _) (Nat.le_refl _) (by decide) (fx_ki ?_)
        refine pm_callS (As := [.int (fG 14 40 12 S zc 4)]) (rest := []) hG hR dX2_named_210 (lkX2_118 _ rfl) okS_J6_bitCount_0f7a4 (c_J6_bitCount_0f7a4 (d := 1) (by decide) rfl) rfl rfl hdd (Nat.le_refl _) (Nat.le_refl _) (by decide) (fx_ki ?_)
        exact pm_iret hG hF dX2_named_213 rfl (Nat.le_refl _) (Nat.le_refl _) (fx_pi (Option.some.inj hE))
      replace hE := fx_f c12 hE
      by_cases c13 : za = 8
      · replace hE := fx_t c13 hE
        refine pm_top (v := 8) c13 ?_
        refine pm_tswIn (tgt := 214) hG dX2_named_43 (by decide) (by decide) rfl rfl ?_
        refine pm_aloadn hG dX2_named_214 rfl ?_
        refine pm_getf hG dX2_named_215 (flX2_9 _ rfl) rfl rfl ?_
        refine pm_getf hG dX2_named_218 (flX2_115 _ rfl) rfl rfl ?_
        refine pm_iloadn hG dX2_named_221 rfl ?_
        refine pm_iconst (v := 1) hG dX2_named_222 (by decide) ?_
        refine pm_callV (As := [.int zc, .int 1]) (rest := []) hG hR dX2_named_223 (lkX2_67 _ rfl) okV_X9_get rfl rfl (tget_14 (d := 1)) rfl rfl hdd (Nat.le_refl _) (Nat.le_refl _) (by decide) (fx_ki ?_)
        exact pm_iret hG hF dX2_named_226 rfl (Nat.le_refl _) (Nat.le_refl _) (fx_pi (Option.some.inj hE))
      replace hE := fx_f c13 hE
      by_cases c14 : za = 9
      · replace hE := fx_t c14 hE
        refine pm_top (v := 9) c14 ?_
        refine pm_tswIn (tgt := 227) hG dX2_named_43 (by decide) (by decide) rfl rfl ?_
        refine pm_aloadn hG dX2_named_227 rfl ?_
        refine pm_getf hG dX2_named_228 (flX2_9 _ rfl) rfl rfl ?_
        refine pm_getf hG dX2_named_231 (flX2_115 _ rfl) rfl rfl ?_
        refine pm_iloadn hG dX2_named_234 rfl ?_
        refine pm_iconst (v := 2) hG dX2_named_235 (by decide) ?_
        refine pm_callV (As := [.int zc, .int 2]) (rest := []) hG hR dX2_named_236 (lkX2_67 _ rfl) okV_X9_get rfl rfl (tget_14 (d := 1)) rfl rfl hdd (Nat.le_refl _) (Nat.le_refl _) (by decide) (fx_ki ?_)
        exact pm_iret hG hF dX2_named_239 rfl (Nat.le_refl _) (Nat.le_refl _) (fx_pi (Option.some.inj hE))
      replace hE := fx_f c14 hE
      have tc3 : ¬ za.toInt = 0 := fun q => c3 (Int32.toInt_inj.mp q)
      have tc4 : ¬ za.toInt = 1 := fun q => c4 (Int32.toInt_inj.mp q)
      have tc5 : ¬ za.toInt = 2 := fun q => c5 (Int32.toInt_inj.mp q)
      have tc8 : ¬ za.toInt = 3 := fun q => c8 (Int32.toInt_inj.mp q)
      have tc9 : ¬ za.toInt = 4 := fun q => c9 (Int32.toInt_inj.mp q)
      have tc10 : ¬ za.toInt = 5 := fun q => c10 (Int32.toInt_inj.mp q)
      have tc11 : ¬ za.toInt = 6 := fun q => c11 (Int32.toInt_inj.mp q)
      have tc12 : ¬ za.toInt = 7 := fun q => c12 (Int32.toInt_inj.mp q)
      have tc13 : ¬ za.toInt = 8 := fun q => c13 (Int32.toInt_inj.mp q)
      have tc14 : ¬ za.toInt = 9 := fun q => c14 (Int32.toInt_inj.mp q)
      refine pm_tswOut (tgt := 240) hG dX2_named_43 (by omega) rfl ?_
      refine pm_iloadi hG dX2_named_240 rfl ?_
      exact pm_iret hG hF dX2_named_242 rfl (Nat.le_refl _) (Nat.le_refl _) (fx_pi (Option.some.inj hE))
    · replace hE := fx_f c2 hE
      refine pm_iloadn hG dX2_named_24 rfl ?_
      refine pm_if_ge (tgt := 32) hG dX2_named_25 rfl (fun c15 => ?_) (fun c15 => ?_)
      · replace c15 := Int32.not_lt.mpr c15
        replace hE := fx_f c15 hE
        refine pm_iconst (v := 0) hG dX2_named_32 (by decide) ?_
        refine pm_istoreXi (loc' := [some (.ref (B + 26)), some (.int za), some (.int zb), some (.int zc), some (.int zd), some (.int 0)]) hG dX2_named_33 (by decide) (pm_c1b rfl) rfl ?_
        refine pm_iloadi hG dX2_named_35 rfl ?_
        refine pm_if_eq (tgt := 42) hG dX2_named_37 rfl (fun _ => ?_) (fun q => absurd q (by decide))
        refine pm_iloadn hG dX2_named_42 rfl ?_
        by_cases c16 : za = 0
        · replace hE := fx_t c16 hE
          refine pm_top (v := 0) c16 ?_
          refine pm_tswIn (tgt := 96) hG dX2_named_43 (by decide) (by decide) rfl rfl ?_
          refine pm_aloadn hG dX2_named_96 rfl ?_
          refine pm_getf hG dX2_named_97 (flX2_9 _ rfl) rfl rfl ?_
          refine pm_getf hG dX2_named_100 (flX2_103 _ rfl) rfl rfl ?_
          refine pm_iloadn hG dX2_named_103 rfl ?_
          refine pm_iconst (v := 1) hG dX2_named_104 (by decide) ?_
          refine pm_callV (As := [.int zb, .int 1]) (rest := []) hG hR dX2_named_105 (lkX2_67 _ rfl) okV_X9_get rfl rfl (tget_6 (d := 1)) rfl rfl hdd (Nat.le_refl _) (Nat.le_refl _) (by decide) (fx_ki ?_)
          refine pm_iloadi hG dX2_named_108 rfl ?_
          refine pm_callS (As := [.int (fG 6 20 14 S zb 1), .int zd]) (rest := []) hG hR dX2_named_110 (lkX2_106 _ rfl) okS_X11_yearsBetween (c_X11_yearsBetween (d := 1) (by decide) rfl) rfl rfl hdd (Nat.le_refl _) (Nat.le_refl _) (by decide) (fx_ki ?_)
          exact pm_iret hG hF dX2_named_113 rfl (Nat.le_refl _) (Nat.le_refl _) (fx_pi (Option.some.inj hE))
        replace hE := fx_f c16 hE
        by_cases c17 : za = 1
        · replace hE := fx_t c17 hE
          refine pm_top (v := 1) c17 ?_
          refine pm_tswIn (tgt := 114) hG dX2_named_43 (by decide) (by decide) rfl rfl ?_
          refine pm_aloadn hG dX2_named_114 rfl ?_
          refine pm_getf hG dX2_named_115 (flX2_9 _ rfl) rfl rfl ?_
          refine pm_getf hG dX2_named_118 (flX2_103 _ rfl) rfl rfl ?_
          refine pm_iloadn hG dX2_named_121 rfl ?_
          refine pm_iconst (v := 0) hG dX2_named_122 (by decide) ?_
          refine pm_callV (As := [.int zb, .int 0]) (rest := []) hG hR dX2_named_123 (lkX2_67 _ rfl) okV_X9_get rfl rfl (tget_6 (d := 1)) rfl rfl hdd (Nat.le_refl _) (Nat.le_refl _) (by decide) (fx_ki ?_)
          exact pm_iret hG hF dX2_named_126 rfl (Nat.le_refl _) (Nat.le_refl _) (fx_pi (Option.some.inj hE))
        replace hE := fx_f c17 hE
        by_cases c18 : za = 2
        · replace hE := fx_t c18 hE
          refine pm_top (v := 2) c18 ?_
          refine pm_tswIn (tgt := 127) hG dX2_named_43 (by decide) (by decide) rfl rfl ?_
          refine pm_aloadn hG dX2_named_127 rfl ?_
          refine pm_getf hG dX2_named_128 (flX2_9 _ rfl) rfl rfl ?_
          refine pm_getf hG dX2_named_131 (flX2_109 _ rfl) rfl rfl ?_
          refine pm_iconst (v := 2) hG dX2_named_134 (by decide) ?_
          refine pm_iloadn hG dX2_named_135 rfl ?_
          obtain ⟨x20, h19, hE⟩ := fb_some hE
          refine pm_callV (As := [.int 2, .int zb]) (rest := []) hG hR dX2_named_136 (lkX2_71 _ rfl) okV_X9_rowsWith rfl rfl (trowsWith_8 (d := 1) (k := 2) (by decide) rfl h19) rfl rfl hdd (Nat.le_refl _) (Nat.le_refl _) (by decide) (fx_ki ?_)
          exact pm_iret hG hF dX2_named_139 rfl (Nat.le_refl _) (Nat.le_refl _) (fx_pi (Option.some.inj hE))
        replace hE := fx_f c18 hE
        by_cases c21 : za = 3
        · replace hE := fx_t c21 hE
          refine pm_top (v := 3) c21 ?_
          refine pm_tswIn (tgt := 140) hG dX2_named_43 (by decide) (by decide) rfl rfl ?_
          refine pm_aloadn hG dX2_named_140 rfl ?_
          refine pm_getf hG dX2_named_141 (flX2_9 _ rfl) rfl rfl ?_
          refine pm_getf hG dX2_named_144 (flX2_103 _ rfl) rfl rfl ?_
          refine pm_iloadn hG dX2_named_147 rfl ?_
          refine pm_bipush (v := 7) hG dX2_named_148 (by decide) ?_
          refine pm_callV (As := [.int zb, .int 7]) (rest := []) hG hR dX2_named_150 (lkX2_67 _ rfl) okV_X9_get rfl rfl (tget_6 (d := 1)) rfl rfl hdd (Nat.le_refl _) (Nat.le_refl _) (by decide) (fx_ki ?_)
          exact pm_iret hG hF dX2_named_153 rfl (Nat.le_refl _) (Nat.le_refl _) (fx_pi (Option.some.inj hE))
        replace hE := fx_f c21 hE
        by_cases c22 : za = 4
        · replace hE := fx_t c22 hE
          refine pm_top (v := 4) c22 ?_
          refine pm_tswIn (tgt := 154) hG dX2_named_43 (by decide) (by decide) rfl rfl ?_
          refine pm_aloadn hG dX2_named_154 rfl ?_
          refine pm_getf hG dX2_named_155 (flX2_9 _ rfl) rfl rfl ?_
          refine pm_getf hG dX2_named_158 (flX2_103 _ rfl) rfl rfl ?_
          refine pm_iloadn hG dX2_named_161 rfl ?_
          refine pm_bipush (v := 8) hG dX2_named_162 (by decide) ?_
          refine pm_callV (As := [.int zb, .int 8]) (rest := []) hG hR dX2_named_164 (lkX2_67 _ rfl) okV_X9_get rfl rfl (tget_6 (d := 1)) rfl rfl hdd (Nat.le_refl _) (Nat.le_refl _) (by decide) (fx_ki ?_)
          exact pm_iret hG hF dX2_named_167 rfl (Nat.le_refl _) (Nat.le_refl _) (fx_pi (Option.some.inj hE))
        replace hE := fx_f c22 hE
        by_cases c23 : za = 5
        · replace hE := fx_t c23 hE
          refine pm_top (v := 5) c23 ?_
          refine pm_tswIn (tgt := 168) hG dX2_named_43 (by decide) (by decide) rfl rfl ?_
          refine pm_aloadn hG dX2_named_168 rfl ?_
          refine pm_getf hG dX2_named_169 (flX2_9 _ rfl) rfl rfl ?_
          refine pm_getf hG dX2_named_172 (flX2_103 _ rfl) rfl rfl ?_
          refine pm_iloadn hG dX2_named_175 rfl ?_
          refine pm_iconst (v := 4) hG dX2_named_176 (by decide) ?_
          refine pm_callV (As := [.int zb, .int 4]) (rest := []) hG hR dX2_named_177 (lkX2_67 _ rfl) okV_X9_get rfl rfl (tget_6 (d := 1)) rfl rfl hdd (Nat.le_refl _) (Nat.le_refl _) (by decide) (fx_ki ?_)
          refine pm_callS (As := [.int (fG 6 20 14 S zb 4)]) (rest := []) hG hR dX2_named_180 (lkX2_112 _ rfl) okS_X2_placeNamed (c_X2_placeNamed (d := 1) (by decide) rfl) rfl rfl hdd (Nat.le_refl _) (Nat.le_refl _) (by decide) (fx_ki ?_)
          exact pm_iret hG hF dX2_named_183 rfl (Nat.le_refl _) (Nat.le_refl _) (fx_pi (Option.some.inj hE))
        replace hE := fx_f c23 hE
        by_cases c24 : za = 6
        · replace hE := fx_t c24 hE
          refine pm_top (v := 6) c24 ?_
          refine pm_tswIn (tgt := 184) hG dX2_named_43 (by decide) (by decide) rfl rfl ?_
          refine pm_aloadn hG dX2_named_184 rfl ?_
          refine pm_getf hG dX2_named_185 (flX2_9 _ rfl) rfl rfl ?_
          refine pm_getf hG dX2_named_188 (flX2_103 _ rfl) rfl rfl ?_
          refine pm_iloadn hG dX2_named_191 rfl ?_
          refine pm_bipush (v := 11) hG dX2_named_192 (by decide) ?_
          refine pm_callV (As := [.int zb, .int 11]) (rest := []) hG hR dX2_named_194 (lkX2_67 _ rfl) okV_X9_get rfl rfl (tget_6 (d := 1)) rfl rfl hdd (Nat.le_refl _) (Nat.le_refl _) (by decide) (fx_ki ?_)
          exact pm_iret hG hF dX2_named_197 rfl (Nat.le_refl _) (Nat.le_refl _) (fx_pi (Option.some.inj hE))
        replace hE := fx_f c24 hE
        by_cases c25 : za = 7
        · replace hE := fx_t c25 hE
          refine pm_top (v := 7) c25 ?_
          refine pm_tswIn (tgt := 198) hG dX2_named_43 (by decide) (by decide) rfl rfl ?_
          refine pm_aloadn hG dX2_named_198 rfl ?_
          refine pm_getf hG dX2_named_199 (flX2_9 _ rfl) rfl rfl ?_
          refine pm_getf hG dX2_named_202 (flX2_115 _ rfl) rfl rfl ?_
          refine pm_iloadn hG dX2_named_205 rfl ?_
          refine pm_iconst (v := 4) hG dX2_named_206 (by decide) ?_
          refine pm_callV (As := [.int zc, .int 4]) (rest := []) hG hR dX2_named_207 (lkX2_67 _ rfl) okV_X9_get rfl rfl (tget_14 (d := 1)) rfl rfl hdd (Nat.le_refl _) (Nat.le_refl _) (by decide) (fx_ki ?_)
          refine pm_callS (As := [.int (fG 14 40 12 S zc 4)]) (rest := []) hG hR dX2_named_210 (lkX2_118 _ rfl) okS_J6_bitCount_0f7a4 (c_J6_bitCount_0f7a4 (d := 1) (by decide) rfl) rfl rfl hdd (Nat.le_refl _) (Nat.le_refl _) (by decide) (fx_ki ?_)
          exact pm_iret hG hF dX2_named_213 rfl (Nat.le_refl _) (Nat.le_refl _) (fx_pi (Option.some.inj hE))
        replace hE := fx_f c25 hE
        by_cases c26 : za = 8
        · replace hE := fx_t c26 hE
          refine pm_top (v := 8) c26 ?_
          refine pm_tswIn (tgt := 214) hG dX2_named_43 (by decide) (by decide) rfl rfl ?_
          refine pm_aloadn hG dX2_named_214 rfl ?_
          refine pm_getf hG dX2_named_215 (flX2_9 _ rfl) rfl rfl ?_
          refine pm_getf hG dX2_named_218 (flX2_115 _ rfl) rfl rfl ?_
          refine pm_iloadn hG dX2_named_221 rfl ?_
          refine pm_iconst (v := 1) hG dX2_named_222 (by decide) ?_
          refine pm_callV (As := [.int zc, .int 1]) (rest := []) hG hR dX2_named_223 (lkX2_67 _ rfl) okV_X9_get rfl rfl (tget_14 (d := 1)) rfl rfl hdd (Nat.le_refl _) (Nat.le_refl _) (by decide) (fx_ki ?_)
          exact pm_iret hG hF dX2_named_226 rfl (Nat.le_refl _) (Nat.le_refl _) (fx_pi (Option.some.inj hE))
        replace hE := fx_f c26 hE
        by_cases c27 : za = 9
        · replace hE := fx_t c27 hE
          refine pm_top (v := 9) c27 ?_
          refine pm_tswIn (tgt := 227) hG dX2_named_43 (by decide) (by decide) rfl rfl ?_
          refine pm_aloadn hG dX2_named_227 rfl ?_
          refine pm_getf hG dX2_named_228 (flX2_9 _ rfl) rfl rfl ?_
          refine pm_getf hG dX2_named_231 (flX2_115 _ rfl) rfl rfl ?_
          refine pm_iloadn hG dX2_named_234 rfl ?_
          refine pm_iconst (v := 2) hG dX2_named_235 (by decide) ?_
          refine pm_callV (As := [.int zc, .int 2]) (rest := []) hG hR dX2_named_236 (lkX2_67 _ rfl) okV_X9_get rfl rfl (tget_14 (d := 1)) rfl rfl hdd (Nat.le_refl _) (Nat.le_refl _) (by decide) (fx_ki ?_)
          exact pm_iret hG hF dX2_named_239 rfl (Nat.le_refl _) (Nat.le_refl _) (fx_pi (Option.some.inj hE))
        replace hE := fx_f c27 hE
        have tc16 : ¬ za.toInt = 0 := fun q => c16 (Int32.toInt_inj.mp q)
        have tc17 : ¬ za.toInt = 1 := fun q => c17 (Int32.toInt_inj.mp q)
        have tc18 : ¬ za.toInt = 2 := fun q => c18 (Int32.toInt_inj.mp q)
        have tc21 : ¬ za.toInt = 3 := fun q => c21 (Int32.toInt_inj.mp q)
        have tc22 : ¬ za.toInt = 4 := fun q => c22 (Int32.toInt_inj.mp q)
        have tc23 : ¬ za.toInt = 5 := fun q => c23 (Int32.toInt_inj.mp q)
        have tc24 : ¬ za.toInt = 6 := fun q => c24 (Int32.toInt_inj.mp q)
        have tc25 : ¬ za.toInt = 7 := fun q => c25 (Int32.toInt_inj.mp q)
        have tc26 : ¬ za.toInt = 8 := fun q => c26 (Int32.toInt_inj.mp q)
        have tc27 : ¬ za.toInt = 9 := fun q => c27 (Int32.toInt_inj.mp q)
        refine pm_tswOut (tgt := 240) hG dX2_named_43 (by omega) rfl ?_
        refine pm_iloadi hG dX2_named_240 rfl ?_
        exact pm_iret hG hF dX2_named_242 rfl (Nat.le_refl _) (Nat.le_refl _) (fx_pi (Option.some.inj hE))
      · replace c15 := Int32.not_le.mp c15
        replace hE := fx_t c15 hE
        refine pm_iconst (v := 1) hG dX2_named_28 (by decide) ?_
        refine pm_goto (tgt := 33) hG dX2_named_29 rfl ?_
        refine pm_istoreXi (loc' := [some (.ref (B + 26)), some (.int za), some (.int zb), some (.int zc), some (.int zd), some (.int 1)]) hG dX2_named_33 (by decide) (pm_c1b rfl) rfl ?_
        refine pm_iloadi hG dX2_named_35 rfl ?_
        refine pm_if_eq (tgt := 42) hG dX2_named_37 rfl (fun q => absurd q (by decide)) (fun _ => ?_)
        refine pm_iconst (v := 0) hG dX2_named_40 (by decide) ?_
        exact pm_iret hG hF dX2_named_41 rfl (Nat.le_refl _) (Nat.le_refl _) (fx_pi (Option.some.inj hE))
  · replace hE := fx_f c1 hE
    refine pm_iloadn hG dX2_named_6 rfl ?_
    refine pm_if_ge (tgt := 14) hG dX2_named_7 rfl (fun c28 => ?_) (fun c28 => ?_)
    · replace c28 := Int32.not_lt.mpr c28
      replace hE := fx_f c28 hE
      refine pm_iconst (v := 0) hG dX2_named_14 (by decide) ?_
      refine pm_goto (tgt := 33) hG dX2_named_15 rfl ?_
      refine pm_istoreXi (loc' := [some (.ref (B + 26)), some (.int za), some (.int zb), some (.int zc), some (.int zd), some (.int 0)]) hG dX2_named_33 (by decide) (pm_c1b rfl) rfl ?_
      refine pm_iloadi hG dX2_named_35 rfl ?_
      refine pm_if_eq (tgt := 42) hG dX2_named_37 rfl (fun _ => ?_) (fun q => absurd q (by decide))
      refine pm_iloadn hG dX2_named_42 rfl ?_
      by_cases c29 : za = 0
      · replace hE := fx_t c29 hE
        refine pm_top (v := 0) c29 ?_
        refine pm_tswIn (tgt := 96) hG dX2_named_43 (by decide) (by decide) rfl rfl ?_
        refine pm_aloadn hG dX2_named_96 rfl ?_
        refine pm_getf hG dX2_named_97 (flX2_9 _ rfl) rfl rfl ?_
        refine pm_getf hG dX2_named_100 (flX2_103 _ rfl) rfl rfl ?_
        refine pm_iloadn hG dX2_named_103 rfl ?_
        refine pm_iconst (v := 1) hG dX2_named_104 (by decide) ?_
        refine pm_callV (As := [.int zb, .int 1]) (rest := []) hG hR dX2_named_105 (lkX2_67 _ rfl) okV_X9_get rfl rfl (tget_6 (d := 1)) rfl rfl hdd (Nat.le_refl _) (Nat.le_refl _) (by decide) (fx_ki ?_)
        refine pm_iloadi hG dX2_named_108 rfl ?_
        refine pm_callS (As := [.int (fG 6 20 14 S zb 1), .int zd]) (rest := []) hG hR dX2_named_110 (lkX2_106 _ rfl) okS_X11_yearsBetween (c_X11_yearsBetween (d := 1) (by decide) rfl) rfl rfl hdd (Nat.le_refl _) (Nat.le_refl _) (by decide) (fx_ki ?_)
        exact pm_iret hG hF dX2_named_113 rfl (Nat.le_refl _) (Nat.le_refl _) (fx_pi (Option.some.inj hE))
      replace hE := fx_f c29 hE
      by_cases c30 : za = 1
      · replace hE := fx_t c30 hE
        refine pm_top (v := 1) c30 ?_
        refine pm_tswIn (tgt := 114) hG dX2_named_43 (by decide) (by decide) rfl rfl ?_
        refine pm_aloadn hG dX2_named_114 rfl ?_
        refine pm_getf hG dX2_named_115 (flX2_9 _ rfl) rfl rfl ?_
        refine pm_getf hG dX2_named_118 (flX2_103 _ rfl) rfl rfl ?_
        refine pm_iloadn hG dX2_named_121 rfl ?_
        refine pm_iconst (v := 0) hG dX2_named_122 (by decide) ?_
        refine pm_callV (As := [.int zb, .int 0]) (rest := []) hG hR dX2_named_123 (lkX2_67 _ rfl) okV_X9_get rfl rfl (tget_6 (d := 1)) rfl rfl hdd (Nat.le_refl _) (Nat.le_refl _) (by decide) (fx_ki ?_)
        exact pm_iret hG hF dX2_named_126 rfl (Nat.le_refl _) (Nat.le_refl _) (fx_pi (Option.some.inj hE))
      replace hE := fx_f c30 hE
      by_cases c31 : za = 2
      · replace hE := fx_t c31 hE
        refine pm_top (v := 2) c31 ?_
        refine pm_tswIn (tgt := 127) hG dX2_named_43 (by decide) (by decide) rfl rfl ?_
        refine pm_aloadn hG dX2_named_127 rfl ?_
        refine pm_getf hG dX2_named_128 (flX2_9 _ rfl) rfl rfl ?_
        refine pm_getf hG dX2_named_131 (flX2_109 _ rfl) rfl rfl ?_
        refine pm_iconst (v := 2) hG dX2_named_134 (by decide) ?_
        refine pm_iloadn hG dX2_named_135 rfl ?_
        obtain ⟨x33, h32, hE⟩ := fb_some hE
        refine pm_callV (As := [.int 2, .int zb]) (rest := []) hG hR dX2_named_136 (lkX2_71 _ rfl) okV_X9_rowsWith rfl rfl (trowsWith_8 (d := 1) (k := 2) (by decide) rfl h32) rfl rfl hdd (Nat.le_refl _) (Nat.le_refl _) (by decide) (fx_ki ?_)
        exact pm_iret hG hF dX2_named_139 rfl (Nat.le_refl _) (Nat.le_refl _) (fx_pi (Option.some.inj hE))
      replace hE := fx_f c31 hE
      by_cases c34 : za = 3
      · replace hE := fx_t c34 hE
        refine pm_top (v := 3) c34 ?_
        refine pm_tswIn (tgt := 140) hG dX2_named_43 (by decide) (by decide) rfl rfl ?_
        refine pm_aloadn hG dX2_named_140 rfl ?_
        refine pm_getf hG dX2_named_141 (flX2_9 _ rfl) rfl rfl ?_
        refine pm_getf hG dX2_named_144 (flX2_103 _ rfl) rfl rfl ?_
        refine pm_iloadn hG dX2_named_147 rfl ?_
        refine pm_bipush (v := 7) hG dX2_named_148 (by decide) ?_
        refine pm_callV (As := [.int zb, .int 7]) (rest := []) hG hR dX2_named_150 (lkX2_67 _ rfl) okV_X9_get rfl rfl (tget_6 (d := 1)) rfl rfl hdd (Nat.le_refl _) (Nat.le_refl _) (by decide) (fx_ki ?_)
        exact pm_iret hG hF dX2_named_153 rfl (Nat.le_refl _) (Nat.le_refl _) (fx_pi (Option.some.inj hE))
      replace hE := fx_f c34 hE
      by_cases c35 : za = 4
      · replace hE := fx_t c35 hE
        refine pm_top (v := 4) c35 ?_
        refine pm_tswIn (tgt := 154) hG dX2_named_43 (by decide) (by decide) rfl rfl ?_
        refine pm_aloadn hG dX2_named_154 rfl ?_
        refine pm_getf hG dX2_named_155 (flX2_9 _ rfl) rfl rfl ?_
        refine pm_getf hG dX2_named_158 (flX2_103 _ rfl) rfl rfl ?_
        refine pm_iloadn hG dX2_named_161 rfl ?_
        refine pm_bipush (v := 8) hG dX2_named_162 (by decide) ?_
        refine pm_callV (As := [.int zb, .int 8]) (rest := []) hG hR dX2_named_164 (lkX2_67 _ rfl) okV_X9_get rfl rfl (tget_6 (d := 1)) rfl rfl hdd (Nat.le_refl _) (Nat.le_refl _) (by decide) (fx_ki ?_)
        exact pm_iret hG hF dX2_named_167 rfl (Nat.le_refl _) (Nat.le_refl _) (fx_pi (Option.some.inj hE))
      replace hE := fx_f c35 hE
      by_cases c36 : za = 5
      · replace hE := fx_t c36 hE
        refine pm_top (v := 5) c36 ?_
        refine pm_tswIn (tgt := 168) hG dX2_named_43 (by decide) (by decide) rfl rfl ?_
        refine pm_aloadn hG dX2_named_168 rfl ?_
        refine pm_getf hG dX2_named_169 (flX2_9 _ rfl) rfl rfl ?_
        refine pm_getf hG dX2_named_172 (flX2_103 _ rfl) rfl rfl ?_
        refine pm_iloadn hG dX2_named_175 rfl ?_
        refine pm_iconst (v := 4) hG dX2_named_176 (by decide) ?_
        refine pm_callV (As := [.int zb, .int 4]) (rest := []) hG hR dX2_named_177 (lkX2_67 _ rfl) okV_X9_get rfl rfl (tget_6 (d := 1)) rfl rfl hdd (Nat.le_refl _) (Nat.le_refl _) (by decide) (fx_ki ?_)
        refine pm_callS (As := [.int (fG 6 20 14 S zb 4)]) (rest := []) hG hR dX2_named_180 (lkX2_112 _ rfl) okS_X2_placeNamed (c_X2_placeNamed (d := 1) (by decide) rfl) rfl rfl hdd (Nat.le_refl _) (Nat.le_refl _) (by decide) (fx_ki ?_)
        exact pm_iret hG hF dX2_named_183 rfl (Nat.le_refl _) (Nat.le_refl _) (fx_pi (Option.some.inj hE))
      replace hE := fx_f c36 hE
      by_cases c37 : za = 6
      · replace hE := fx_t c37 hE
        refine pm_top (v := 6) c37 ?_
        refine pm_tswIn (tgt := 184) hG dX2_named_43 (by decide) (by decide) rfl rfl ?_
        refine pm_aloadn hG dX2_named_184 rfl ?_
        refine pm_getf hG dX2_named_185 (flX2_9 _ rfl) rfl rfl ?_
        refine pm_getf hG dX2_named_188 (flX2_103 _ rfl) rfl rfl ?_
        refine pm_iloadn hG dX2_named_191 rfl ?_
        refine pm_bipush (v := 11) hG dX2_named_192 (by decide) ?_
        refine pm_callV (As := [.int zb, .int 11]) (rest := []) hG hR dX2_named_194 (lkX2_67 _ rfl) okV_X9_get rfl rfl (tget_6 (d := 1)) rfl rfl hdd (Nat.le_refl _) (Nat.le_refl _) (by decide) (fx_ki ?_)
        exact pm_iret hG hF dX2_named_197 rfl (Nat.le_refl _) (Nat.le_refl _) (fx_pi (Option.some.inj hE))
      replace hE := fx_f c37 hE
      by_cases c38 : za = 7
      · replace hE := fx_t c38 hE
        refine pm_top (v := 7) c38 ?_
        refine pm_tswIn (tgt := 198) hG dX2_named_43 (by decide) (by decide) rfl rfl ?_
        refine pm_aloadn hG dX2_named_198 rfl ?_
        refine pm_getf hG dX2_named_199 (flX2_9 _ rfl) rfl rfl ?_
        refine pm_getf hG dX2_named_202 (flX2_115 _ rfl) rfl rfl ?_
        refine pm_iloadn hG dX2_named_205 rfl ?_
        refine pm_iconst (v := 4) hG dX2_named_206 (by decide) ?_
        refine pm_callV (As := [.int zc, .int 4]) (rest := []) hG hR dX2_named_207 (lkX2_67 _ rfl) okV_X9_get rfl rfl (tget_14 (d := 1)) rfl rfl hdd (Nat.le_refl _) (Nat.le_refl _) (by decide) (fx_ki ?_)
        refine pm_callS (As := [.int (fG 14 40 12 S zc 4)]) (rest := []) hG hR dX2_named_210 (lkX2_118 _ rfl) okS_J6_bitCount_0f7a4 (c_J6_bitCount_0f7a4 (d := 1) (by decide) rfl) rfl rfl hdd (Nat.le_refl _) (Nat.le_refl _) (by decide) (fx_ki ?_)
        exact pm_iret hG hF dX2_named_213 rfl (Nat.le_refl _) (Nat.le_refl _) (fx_pi (Option.some.inj hE))
      replace hE := fx_f c38 hE
      by_cases c39 : za = 8
      · replace hE := fx_t c39 hE
        refine pm_top (v := 8) c39 ?_
        refine pm_tswIn (tgt := 214) hG dX2_named_43 (by decide) (by decide) rfl rfl ?_
        refine pm_aloadn hG dX2_named_214 rfl ?_
        refine pm_getf hG dX2_named_215 (flX2_9 _ rfl) rfl rfl ?_
        refine pm_getf hG dX2_named_218 (flX2_115 _ rfl) rfl rfl ?_
        refine pm_iloadn hG dX2_named_221 rfl ?_
        refine pm_iconst (v := 1) hG dX2_named_222 (by decide) ?_
        refine pm_callV (As := [.int zc, .int 1]) (rest := []) hG hR dX2_named_223 (lkX2_67 _ rfl) okV_X9_get rfl rfl (tget_14 (d := 1)) rfl rfl hdd (Nat.le_refl _) (Nat.le_refl _) (by decide) (fx_ki ?_)
        exact pm_iret hG hF dX2_named_226 rfl (Nat.le_refl _) (Nat.le_refl _) (fx_pi (Option.some.inj hE))
      replace hE := fx_f c39 hE
      by_cases c40 : za = 9
      · replace hE := fx_t c40 hE
        refine pm_top (v := 9) c40 ?_
        refine pm_tswIn (tgt := 227) hG dX2_named_43 (by decide) (by decide) rfl rfl ?_
        refine pm_aloadn hG dX2_named_227 rfl ?_
        refine pm_getf hG dX2_named_228 (flX2_9 _ rfl) rfl rfl ?_
        refine pm_getf hG dX2_named_231 (flX2_115 _ rfl) rfl rfl ?_
        refine pm_iloadn hG dX2_named_234 rfl ?_
        refine pm_iconst (v := 2) hG dX2_named_235 (by decide) ?_
        refine pm_callV (As := [.int zc, .int 2]) (rest := []) hG hR dX2_named_236 (lkX2_67 _ rfl) okV_X9_get rfl rfl (tget_14 (d := 1)) rfl rfl hdd (Nat.le_refl _) (Nat.le_refl _) (by decide) (fx_ki ?_)
        exact pm_iret hG hF dX2_named_239 rfl (Nat.le_refl _) (Nat.le_refl _) (fx_pi (Option.some.inj hE))
      replace hE := fx_f c40 hE
      have tc29 : ¬ za.toInt = 0 := fun q => c29 (Int32.toInt_inj.mp q)
      have tc30 : ¬ za.toInt = 1 := fun q => c30 (Int32.toInt_inj.mp q)
      have tc31 : ¬ za.toInt = 2 := fun q => c31 (Int32.toInt_inj.mp q)
      have tc34 : ¬ za.toInt = 3 := fun q => c34 (Int32.toInt_inj.mp q)
      have tc35 : ¬ za.toInt = 4 := fun q => c35 (Int32.toInt_inj.mp q)
      have tc36 : ¬ za.toInt = 5 := fun q => c36 (Int32.toInt_inj.mp q)
      have tc37 : ¬ za.toInt = 6 := fun q => c37 (Int32.toInt_inj.mp q)
      have tc38 : ¬ za.toInt = 7 := fun q => c38 (Int32.toInt_inj.mp q)
      have tc39 : ¬ za.toInt = 8 := fun q => c39 (Int32.toInt_inj.mp q)
      have tc40 : ¬ za.toInt = 9 := fun q => c40 (Int32.toInt_inj.mp q)
      refine pm_tswOut (tgt := 240) hG dX2_named_43 (by omega) rfl ?_
      refine pm_iloadi hG dX2_named_240 rfl ?_
      exact pm_iret hG hF dX2_named_242 rfl (Nat.le_refl _) (Nat.le_refl _) (fx_pi (Option.some.inj hE))
    · replace c28 := Int32.not_le.mp c28
      replace hE := fx_t c28 hE
      refine pm_iconst (v := 1) hG dX2_named_10 (by decide) ?_
      refine pm_goto (tgt := 33) hG dX2_named_11 rfl ?_
      refine pm_istoreXi (loc' := [some (.ref (B + 26)), some (.int za), some (.int zb), some (.int zc), some (.int zd), some (.int 1)]) hG dX2_named_33 (by decide) (pm_c1b rfl) rfl ?_
      refine pm_iloadi hG dX2_named_35 rfl ?_
      refine pm_if_eq (tgt := 42) hG dX2_named_37 rfl (fun q => absurd q (by decide)) (fun _ => ?_)
      refine pm_iconst (v := 0) hG dX2_named_40 (by decide) ?_
      exact pm_iret hG hF dX2_named_41 rfl (Nat.le_refl _) (Nat.le_refl _) (fx_pi (Option.some.inj hE))
end
section
set_option maxRecDepth 100000 in
set_option maxHeartbeats 4000000 in
theorem c_X2_comesTo {d : Nat} {B cnt : Nat} {kp : Value} {ρ : pm_S} {S : FS} {za : Int32} {zb : Int32} {zc : Int32} {zd : Int32} {R : Int32 × FS} (hdd : 3 ≤ d) (hE : f_X2_comesTo S za zb zc zd = some R) : pm_met mX2_comesTo d 0 0 B [.ref (B + 26), .int za, .int zb, .int zc, .int zd] cnt (cst B kp S ρ) (pm_Qi (fun v σ' cnt' => v = R.1 ∧ σ' = (cst B kp R.2 ρ) ∧ cnt' = cnt)) := by
  refine pm_enter 4 (by decide) (Nat.le_of_ble_eq_true rfl) rfl (fun G hG hR hF => ?_)
  unfold f_X2_comesTo at hE
  refine pm_aloadn hG dX2_comesTo_0 rfl ?_
  refine pm_getf hG dX2_comesTo_1 (flX2_9 _ rfl) rfl rfl ?_
  refine pm_getf hG dX2_comesTo_4 (flX2_43 _ rfl) rfl rfl ?_
  refine pm_iloadn hG dX2_comesTo_7 rfl ?_
  refine pm_iconst (v := 4) hG dX2_comesTo_8 (by decide) ?_
  refine pm_callV (As := [.int za, .int 4]) (rest := []) hG hR dX2_comesTo_9 (lkX2_67 _ rfl) okV_X9_get rfl rfl (tget_10 (d := 2)) rfl rfl hdd (Nat.le_refl _) (Nat.le_refl _) (by decide) (fx_ki ?_)
  refine fx_letv hE (fun x1 hE => ?_)
  refine pm_istoreXi (loc' := [some (.ref (B + 26)), some (.int za), some (.int zb), some (.int zc), some (.int zd), some (.int x1), none, none, none]) hG dX2_comesTo_12 (by decide) (pm_c1b rfl) rfl ?_
  refine pm_aloadn hG dX2_comesTo_14 rfl ?_
  refine pm_iconst (v := 0) hG dX2_comesTo_15 (by decide) ?_
  refine pm_putf hG dX2_comesTo_16 (fwX2_87 _ rfl) rfl rfl rfl ?_
  refine ci_104 ?_
  refine fx_letc hE (fun S2 hE => ?_)
  refine pm_iconst (v := 0) hG dX2_comesTo_19 (by decide) ?_
  refine pm_istoreXi (loc' := [some (.ref (B + 26)), some (.int za), some (.int zb), some (.int zc), some (.int zd), some (.int x1), some (.int 0), none, none]) hG dX2_comesTo_20 (by decide) (pm_c1b rfl) rfl ?_
  have loop22 : ∀ (k22 : FS → Int32 → Option (Int32 × FS)), (∀ (S3 : FS) (x3_6 : Int32), k22 S3  x3_6 = some R → pm_wp mX2_comesTo G B 137 [some (.ref (B + 26)), some (.int za), some (.int zb), some (.int zc), some (.int zd), some (.int x1), some (.int x3_6), none, none] [] 0 0 cnt (cst B kp S3 ρ)) → ∀ (m22 : Nat) (S3 : FS) (x3_6 : Int32), l_X2_comesTo_22 za zb zc zd x1 k22 m22 S3  x3_6 = some R → pm_wp mX2_comesTo G B 22 [some (.ref (B + 26)), some (.int za), some (.int zb), some (.int zc), some (.int zd), some (.int x1), some (.int x3_6), none, none] [] 0 0 cnt (cst B kp S3 ρ) := by
    intro k22 hk22 m22
    induction m22 with
    | zero => intro S3  x3_6 hE; exact fx_no hE
    | succ m22 ih22 =>
      intro S3  x3_6 hE
      rw [l_X2_comesTo_22] at hE
      refine pm_iloadi hG dX2_comesTo_22 rfl ?_
      refine pm_iloadi hG dX2_comesTo_24 rfl ?_
      refine pm_icmp_ge (tgt := 137) hG dX2_comesTo_26 rfl (fun c4 => ?_) (fun c4 => ?_)
      · replace c4 := Int32.not_lt.mpr c4
        replace hE := fx_f c4 hE
        exact hk22 _ _ hE
      · replace c4 := Int32.not_le.mp c4
        replace hE := fx_t c4 hE
        refine pm_aloadn hG dX2_comesTo_29 rfl ?_
        refine pm_getf hG dX2_comesTo_30 (flX2_9 _ rfl) rfl rfl ?_
        refine pm_getf hG dX2_comesTo_33 (flX2_64 _ rfl) rfl rfl ?_
        refine pm_iloadn hG dX2_comesTo_36 rfl ?_
        refine pm_iloadi hG dX2_comesTo_37 rfl ?_
        refine pm_callV (As := [.int za, .int x3_6]) (rest := []) hG hR dX2_comesTo_39 (lkX2_67 _ rfl) okV_X9_get rfl rfl (tget_12 (d := 2)) rfl rfl hdd (Nat.le_refl _) (Nat.le_refl _) (by decide) (fx_ki ?_)
        refine fx_letv hE (fun x5 hE => ?_)
        refine pm_istoreXi (loc' := [some (.ref (B + 26)), some (.int za), some (.int zb), some (.int zc), some (.int zd), some (.int x1), some (.int x3_6), some (.int x5), none]) hG dX2_comesTo_42 (by decide) (pm_c1b rfl) rfl ?_
        refine pm_iloadi hG dX2_comesTo_44 rfl ?_
        refine pm_if_lt (tgt := 58) hG dX2_comesTo_46 rfl (fun c6 => ?_) (fun c6 => ?_)
        · replace hE := fx_t c6 hE
          refine pm_iloadi hG dX2_comesTo_58 rfl ?_
          refine pm_bipush (v := (-20)) hG dX2_comesTo_60 (by decide) ?_
          refine pm_icmp_gt (tgt := 85) hG dX2_comesTo_62 rfl (fun c7 => ?_) (fun c7 => ?_)
          · replace hE := fx_t c7 hE
            refine pm_iloadi hG dX2_comesTo_85 rfl ?_
            refine pm_iconst (v := (-1)) hG dX2_comesTo_87 (by decide) ?_
            refine pm_icmp_ne (tgt := 110) hG dX2_comesTo_88 rfl (fun c8 => ?_) (fun c8 => ?_)
            · replace hE := fx_f c8 hE
              refine pm_aloadn hG dX2_comesTo_110 rfl ?_
              obtain ⟨r10, h9, hE⟩ := fb_some hE
              refine pm_callV (As := []) (rest := []) hG hR dX2_comesTo_111 (lkX2_97 _ rfl) okV_X2_pop rfl rfl (c_X2_pop (d := 2) (by decide) h9) rfl rfl hdd (Nat.le_refl _) (Nat.le_refl _) (by decide) (fx_ki ?_)
              refine pm_istoreXi (loc' := [some (.ref (B + 26)), some (.int za), some (.int zb), some (.int zc), some (.int zd), some (.int x1), some (.int x3_6), some (.int x5), some (.int r10.1)]) hG dX2_comesTo_114 (by decide) (pm_c1b rfl) rfl ?_
              refine pm_aloadn hG dX2_comesTo_116 rfl ?_
              refine pm_iloadi hG dX2_comesTo_117 rfl ?_
              refine pm_aloadn hG dX2_comesTo_119 rfl ?_
              obtain ⟨r12, h11, hE⟩ := fb_some hE
              refine pm_callV (As := []) (rest := [.int x5, .ref (B + 26)]) hG hR dX2_comesTo_120 (lkX2_97 _ rfl) okV_X2_pop rfl rfl (c_X2_pop (d := 2) (by decide) h11) rfl rfl hdd (Nat.le_refl _) (Nat.le_refl _) (by first | decide | exact Nat.le_of_ble_eq_true rfl) (fx_ki ?_)
              refine pm_iloadi hG dX2_comesTo_123 rfl ?_
              refine pm_callS (As := [.int x5, .int r12.1, .int r10.1]) (rest := [.ref (B + 26)]) hG hR dX2_comesTo_125 (lkX2_100 _ rfl) okS_X2_joined (c_X2_joined (d := 2) (by decide) rfl) rfl rfl hdd (Nat.le_refl _) (Nat.le_refl _) (by first | decide | exact Nat.le_of_ble_eq_true rfl) (fx_ki ?_)
              obtain ⟨r14, h13, hE⟩ := fb_some hE
              refine pm_callV (As := [.int (p_X2_joined r12.2 x5 r12.1 r10.1)]) (rest := []) hG hR dX2_comesTo_128 (lkX2_90 _ rfl) okV_X2_push rfl rfl (c_X2_push (d := 2) (by decide) h13) rfl rfl hdd (Nat.le_refl _) (Nat.le_refl _) (by decide) (fx_kv ?_)
              refine pm_iincX (v := x3_6 + 1) (loc' := [some (.ref (B + 26)), some (.int za), some (.int zb), some (.int zc), some (.int zd), some (.int x1), some (.int (x3_6 + 1)), some (.int x5), some (.int r10.1)]) hG dX2_comesTo_131 rfl (by rfl) (by decide) (pm_c1b rfl) rfl ?_
              refine pm_goto (tgt := 22) hG dX2_comesTo_134 rfl ?_
              refine pm_fg 7 (loc' := [some (.ref (B + 26)), some (.int za), some (.int zb), some (.int zc), some (.int zd), some (.int x1), some (.int (x3_6 + 1)), none, some (.int r10.1)]) rfl ?_
              refine pm_fg 8 (loc' := [some (.ref (B + 26)), some (.int za), some (.int zb), some (.int zc), some (.int zd), some (.int x1), some (.int (x3_6 + 1)), none, none]) rfl ?_
              exact ih22 _ _ hE
            · replace hE := fx_t c8 hE
              refine pm_aloadn hG dX2_comesTo_91 rfl ?_
              refine pm_aloadn hG dX2_comesTo_92 rfl ?_
              obtain ⟨r16, h15, hE⟩ := fb_some hE
              refine pm_callV (As := []) (rest := [.ref (B + 26)]) hG hR dX2_comesTo_93 (lkX2_97 _ rfl) okV_X2_pop rfl rfl (c_X2_pop (d := 2) (by decide) h15) rfl rfl hdd (Nat.le_refl _) (Nat.le_refl _) (by first | decide | exact Nat.le_of_ble_eq_true rfl) (fx_ki ?_)
              refine pm_if_ne (tgt := 103) hG dX2_comesTo_96 rfl (fun c17 => ?_) (fun c17 => ?_)
              · replace hE := fx_f c17 hE
                refine pm_iconst (v := 0) hG dX2_comesTo_103 (by decide) ?_
                obtain ⟨r19, h18, hE⟩ := fb_some hE
                refine pm_callV (As := [.int 0]) (rest := []) hG hR dX2_comesTo_104 (lkX2_90 _ rfl) okV_X2_push rfl rfl (c_X2_push (d := 2) (by decide) h18) rfl rfl hdd (Nat.le_refl _) (Nat.le_refl _) (by decide) (fx_kv ?_)
                refine pm_goto (tgt := 131) hG dX2_comesTo_107 rfl ?_
                refine pm_iincX (v := x3_6 + 1) (loc' := [some (.ref (B + 26)), some (.int za), some (.int zb), some (.int zc), some (.int zd), some (.int x1), some (.int (x3_6 + 1)), some (.int x5), none]) hG dX2_comesTo_131 rfl (by rfl) (by decide) (pm_c1b rfl) rfl ?_
                refine pm_goto (tgt := 22) hG dX2_comesTo_134 rfl ?_
                refine pm_fg 7 (loc' := [some (.ref (B + 26)), some (.int za), some (.int zb), some (.int zc), some (.int zd), some (.int x1), some (.int (x3_6 + 1)), none, none]) rfl ?_
                exact ih22 _ _ hE
              · replace hE := fx_t c17 hE
                refine pm_iconst (v := 1) hG dX2_comesTo_99 (by decide) ?_
                refine pm_goto (tgt := 104) hG dX2_comesTo_100 rfl ?_
                obtain ⟨r21, h20, hE⟩ := fb_some hE
                refine pm_callV (As := [.int 1]) (rest := []) hG hR dX2_comesTo_104 (lkX2_90 _ rfl) okV_X2_push rfl rfl (c_X2_push (d := 2) (by decide) h20) rfl rfl hdd (Nat.le_refl _) (Nat.le_refl _) (by decide) (fx_kv ?_)
                refine pm_goto (tgt := 131) hG dX2_comesTo_107 rfl ?_
                refine pm_iincX (v := x3_6 + 1) (loc' := [some (.ref (B + 26)), some (.int za), some (.int zb), some (.int zc), some (.int zd), some (.int x1), some (.int (x3_6 + 1)), some (.int x5), none]) hG dX2_comesTo_131 rfl (by rfl) (by decide) (pm_c1b rfl) rfl ?_
                refine pm_goto (tgt := 22) hG dX2_comesTo_134 rfl ?_
                refine pm_fg 7 (loc' := [some (.ref (B + 26)), some (.int za), some (.int zb), some (.int zc), some (.int zd), some (.int x1), some (.int (x3_6 + 1)), none, none]) rfl ?_
                exact ih22 _ _ hE
          · replace hE := fx_f c7 hE
            refine pm_aloadn hG dX2_comesTo_65 rfl ?_
            refine pm_aloadn hG dX2_comesTo_66 rfl ?_
            refine pm_bipush (v := (-20)) hG dX2_comesTo_67 (by decide) ?_
            refine pm_iloadi hG dX2_comesTo_69 rfl ?_
            refine pm_isub hG dX2_comesTo_71 ?_
            refine pm_iloadn hG dX2_comesTo_72 rfl ?_
            refine pm_iloadn hG dX2_comesTo_73 rfl ?_
            refine pm_iloadi hG dX2_comesTo_74 rfl ?_
            obtain ⟨x23, h22, hE⟩ := fb_some hE
            refine pm_callV (As := [.int ((-20) - x5), .int zb, .int zc, .int zd]) (rest := [.ref (B + 26)]) hG hR dX2_comesTo_76 (lkX2_94 _ rfl) okV_X2_named rfl rfl (c_X2_named (d := 2) (by decide) h22) rfl rfl hdd (Nat.le_refl _) (Nat.le_refl _) (by first | decide | exact Nat.le_of_ble_eq_true rfl) (fx_ki ?_)
            obtain ⟨r25, h24, hE⟩ := fb_some hE
            refine pm_callV (As := [.int x23]) (rest := []) hG hR dX2_comesTo_79 (lkX2_90 _ rfl) okV_X2_push rfl rfl (c_X2_push (d := 2) (by decide) h24) rfl rfl hdd (Nat.le_refl _) (Nat.le_refl _) (by decide) (fx_kv ?_)
            refine pm_goto (tgt := 131) hG dX2_comesTo_82 rfl ?_
            refine pm_iincX (v := x3_6 + 1) (loc' := [some (.ref (B + 26)), some (.int za), some (.int zb), some (.int zc), some (.int zd), some (.int x1), some (.int (x3_6 + 1)), some (.int x5), none]) hG dX2_comesTo_131 rfl (by rfl) (by decide) (pm_c1b rfl) rfl ?_
            refine pm_goto (tgt := 22) hG dX2_comesTo_134 rfl ?_
            refine pm_fg 7 (loc' := [some (.ref (B + 26)), some (.int za), some (.int zb), some (.int zc), some (.int zd), some (.int x1), some (.int (x3_6 + 1)), none, none]) rfl ?_
            exact ih22 _ _ hE
        · replace hE := fx_f c6 hE
          refine pm_aloadn hG dX2_comesTo_49 rfl ?_
          refine pm_iloadi hG dX2_comesTo_50 rfl ?_
          obtain ⟨r27, h26, hE⟩ := fb_some hE
          refine pm_callV (As := [.int x5]) (rest := []) hG hR dX2_comesTo_52 (lkX2_90 _ rfl) okV_X2_push rfl rfl (c_X2_push (d := 2) (by decide) h26) rfl rfl hdd (Nat.le_refl _) (Nat.le_refl _) (by decide) (fx_kv ?_)
          refine pm_goto (tgt := 131) hG dX2_comesTo_55 rfl ?_
          refine pm_iincX (v := x3_6 + 1) (loc' := [some (.ref (B + 26)), some (.int za), some (.int zb), some (.int zc), some (.int zd), some (.int x1), some (.int (x3_6 + 1)), some (.int x5), none]) hG dX2_comesTo_131 rfl (by rfl) (by decide) (pm_c1b rfl) rfl ?_
          refine pm_goto (tgt := 22) hG dX2_comesTo_134 rfl ?_
          refine pm_fg 7 (loc' := [some (.ref (B + 26)), some (.int za), some (.int zb), some (.int zc), some (.int zd), some (.int x1), some (.int (x3_6 + 1)), none, none]) rfl ?_
          exact ih22 _ _ hE
  refine loop22 _ (fun S28 x28_6 hE => ?_) _ _ _ hE
  refine pm_aloadn hG dX2_comesTo_137 rfl ?_
  obtain ⟨r30, h29, hE⟩ := fb_some hE
  refine pm_callV (As := []) (rest := []) hG hR dX2_comesTo_138 (lkX2_97 _ rfl) okV_X2_pop rfl rfl (c_X2_pop (d := 2) (by decide) h29) rfl rfl hdd (Nat.le_refl _) (Nat.le_refl _) (by decide) (fx_ki ?_)
  exact pm_iret hG hF dX2_comesTo_141 rfl (Nat.le_refl _) (Nat.le_refl _) (fx_ric hE)

set_option maxRecDepth 100000 in
set_option maxHeartbeats 4000000 in
theorem c_X0_weightOf {d : Nat} {B cnt : Nat} {kp : Value} {ρ : pm_S} {S : FS} {za : Int32} {zb : Int32} {R : Int32 × FS} (hdd : 4 ≤ d) (hE : f_X0_weightOf S za zb = some R) : pm_met mX0_weightOf d 0 0 B [.ref (B + 31), .int za, .int zb] cnt (cst B kp S ρ) (pm_Qi (fun v σ' cnt' => v = R.1 ∧ σ' = (cst B kp R.2 ρ) ∧ cnt' = cnt)) := by
  refine pm_enter 3 (by decide) (Nat.le_of_ble_eq_true rfl) rfl (fun G hG hR hF => ?_)
  unfold f_X0_weightOf at hE
  have join26 : ∀ (S1 : FS), j_X0_weightOf_26 za S1 = some R → pm_wp mX0_weightOf G B 26 [some (.ref (B + 31)), some (.int za), some (.int zb), none, none, none] [] 0 0 cnt (cst B kp S1 ρ) := by
    intro S1 hE
    unfold j_X0_weightOf_26 at hE
    refine pm_iconst (v := 1) hG dX0_weightOf_26 (by decide) ?_
    refine pm_istoreXn (loc' := [some (.ref (B + 31)), some (.int za), some (.int zb), some (.int 1), none, none]) hG dX0_weightOf_27 (by decide) (pm_c1b rfl) rfl ?_
    refine pm_aloadn hG dX0_weightOf_28 rfl ?_
    refine pm_getf hG dX0_weightOf_29 (flX0_9 _ rfl) rfl rfl ?_
    refine pm_getf hG dX0_weightOf_32 (flX0_104 _ rfl) rfl rfl ?_
    refine pm_callV (As := []) (rest := []) hG hR dX0_weightOf_35 (lkX0_47 _ rfl) okV_X9_used rfl rfl (tused_8 (d := 3)) rfl rfl hdd (Nat.le_refl _) (Nat.le_refl _) (by decide) (fx_ki ?_)
    refine fx_letv hE (fun x2 hE => ?_)
    refine pm_istoreXi (loc' := [some (.ref (B + 31)), some (.int za), some (.int zb), some (.int 1), some (.int x2), none]) hG dX0_weightOf_38 (by decide) (pm_c1b rfl) rfl ?_
    refine pm_iconst (v := 0) hG dX0_weightOf_40 (by decide) ?_
    refine pm_istoreXi (loc' := [some (.ref (B + 31)), some (.int za), some (.int zb), some (.int 1), some (.int x2), some (.int 0)]) hG dX0_weightOf_41 (by decide) (pm_c1b rfl) rfl ?_
    have loop43 : ∀ (k43 : FS → Int32 → Int32 → Option (Int32 × FS)), (∀ (S3 : FS) (x3_3 : Int32) (x3_5 : Int32), k43 S3  x3_3 x3_5 = some R → pm_wp mX0_weightOf G B 89 [some (.ref (B + 31)), some (.int za), some (.int zb), some (.int x3_3), some (.int x2), some (.int x3_5)] [] 0 0 cnt (cst B kp S3 ρ)) → ∀ (m43 : Nat) (S3 : FS) (x3_3 : Int32) (x3_5 : Int32), l_X0_weightOf_43 za x2 k43 m43 S3  x3_3 x3_5 = some R → pm_wp mX0_weightOf G B 43 [some (.ref (B + 31)), some (.int za), some (.int zb), some (.int x3_3), some (.int x2), some (.int x3_5)] [] 0 0 cnt (cst B kp S3 ρ) := by
      intro k43 hk43 m43
      induction m43 with
      | zero => intro S3  x3_3 x3_5 hE; exact fx_no hE
      | succ m43 ih43 =>
        intro S3  x3_3 x3_5 hE
        rw [l_X0_weightOf_43] at hE
        refine pm_iloadi hG dX0_weightOf_43 rfl ?_
        refine pm_iloadi hG dX0_weightOf_45 rfl ?_
        refine pm_icmp_ge (tgt := 89) hG dX0_weightOf_47 rfl (fun c4 => ?_) (fun c4 => ?_)
        · replace c4 := Int32.not_lt.mpr c4
          replace hE := fx_f c4 hE
          exact hk43 _ _ _ hE
        · replace c4 := Int32.not_le.mp c4
          replace hE := fx_t c4 hE
          refine pm_aloadn hG dX0_weightOf_50 rfl ?_
          refine pm_getf hG dX0_weightOf_51 (flX0_9 _ rfl) rfl rfl ?_
          refine pm_getf hG dX0_weightOf_54 (flX0_104 _ rfl) rfl rfl ?_
          refine pm_iloadi hG dX0_weightOf_57 rfl ?_
          refine pm_iconst (v := 2) hG dX0_weightOf_59 (by decide) ?_
          refine pm_callV (As := [.int x3_5, .int 2]) (rest := []) hG hR dX0_weightOf_60 (lkX0_39 _ rfl) okV_X9_get rfl rfl (tget_8 (d := 3)) rfl rfl hdd (Nat.le_refl _) (Nat.le_refl _) (by decide) (fx_ki ?_)
          refine pm_iloadn hG dX0_weightOf_63 rfl ?_
          refine pm_icmp_ne (tgt := 83) hG dX0_weightOf_64 rfl (fun c5 => ?_) (fun c5 => ?_)
          · replace hE := fx_f c5 hE
            refine pm_iincX (v := x3_5 + 1) (loc' := [some (.ref (B + 31)), some (.int za), some (.int zb), some (.int x3_3), some (.int x2), some (.int (x3_5 + 1))]) hG dX0_weightOf_83 rfl (by rfl) (by decide) (pm_c1b rfl) rfl ?_
            refine pm_goto (tgt := 43) hG dX0_weightOf_86 rfl ?_
            exact ih43 _ _ _ hE
          · replace hE := fx_t c5 hE
            refine pm_aloadn hG dX0_weightOf_67 rfl ?_
            refine pm_getf hG dX0_weightOf_68 (flX0_9 _ rfl) rfl rfl ?_
            refine pm_iloadi hG dX0_weightOf_71 rfl ?_
            refine pm_iconst (v := 1) hG dX0_weightOf_73 (by decide) ?_
            obtain ⟨x7, h6, hE⟩ := fb_some hE
            refine pm_callV (As := [.int x3_5, .int 1]) (rest := []) hG hR dX0_weightOf_74 (lkX0_107 _ rfl) okV_X7_isOfKind rfl rfl (c_X7_isOfKind (d := 3) (by decide) h6) rfl rfl hdd (Nat.le_refl _) (Nat.le_refl _) (by decide) (fx_ki ?_)
            refine pm_if_eq (tgt := 83) hG dX0_weightOf_77 rfl (fun c8 => ?_) (fun c8 => ?_)
            · replace hE := fx_t c8 hE
              refine pm_iincX (v := x3_5 + 1) (loc' := [some (.ref (B + 31)), some (.int za), some (.int zb), some (.int x3_3), some (.int x2), some (.int (x3_5 + 1))]) hG dX0_weightOf_83 rfl (by rfl) (by decide) (pm_c1b rfl) rfl ?_
              refine pm_goto (tgt := 43) hG dX0_weightOf_86 rfl ?_
              exact ih43 _ _ _ hE
            · replace hE := fx_f c8 hE
              refine pm_iincX (v := x3_3 + 1) (loc' := [some (.ref (B + 31)), some (.int za), some (.int zb), some (.int (x3_3 + 1)), some (.int x2), some (.int x3_5)]) hG dX0_weightOf_80 rfl (by rfl) (by decide) (pm_c1b rfl) rfl ?_
              refine pm_iincX (v := x3_5 + 1) (loc' := [some (.ref (B + 31)), some (.int za), some (.int zb), some (.int (x3_3 + 1)), some (.int x2), some (.int (x3_5 + 1))]) hG dX0_weightOf_83 rfl (by rfl) (by decide) (pm_c1b rfl) rfl ?_
              refine pm_goto (tgt := 43) hG dX0_weightOf_86 rfl ?_
              exact ih43 _ _ _ hE
    refine loop43 _ (fun S9 x9_3 x9_5 hE => ?_) _ _ _ _ hE
    refine pm_iloadn hG dX0_weightOf_89 rfl ?_
    exact pm_iret hG hF dX0_weightOf_90 rfl (Nat.le_refl _) (Nat.le_refl _) (fx_ric hE)
  refine pm_iloadn hG dX0_weightOf_0 rfl ?_
  refine pm_if_lt (tgt := 26) hG dX0_weightOf_1 rfl (fun c10 => ?_) (fun c10 => ?_)
  · replace hE := fx_t c10 hE
    exact join26 _ hE
  · replace hE := fx_f c10 hE
    refine pm_aloadn hG dX0_weightOf_4 rfl ?_
    refine pm_getf hG dX0_weightOf_5 (flX0_15 _ rfl) rfl rfl ?_
    refine pm_iloadn hG dX0_weightOf_8 rfl ?_
    refine pm_iloadn hG dX0_weightOf_9 rfl ?_
    refine pm_iconst (v := (-1)) hG dX0_weightOf_10 (by decide) ?_
    refine pm_aloadn hG dX0_weightOf_11 rfl ?_
    refine pm_getf hG dX0_weightOf_12 (flX0_9 _ rfl) rfl rfl ?_
    refine pm_getf hG dX0_weightOf_15 (flX0_43 _ rfl) rfl rfl ?_
    obtain ⟨r12, h11, hE⟩ := fb_some hE
    refine pm_callV (As := [.int zb, .int za, .int (-1), .int (S.1 102)]) (rest := []) hG hR dX0_weightOf_18 (lkX0_100 _ rfl) okV_X2_comesTo rfl rfl (c_X2_comesTo (d := 3) (by decide) h11) rfl rfl hdd (Nat.le_refl _) (Nat.le_refl _) (by decide) (fx_ki ?_)
    refine pm_if_ne (tgt := 26) hG dX0_weightOf_21 rfl (fun c13 => ?_) (fun c13 => ?_)
    · replace hE := fx_f c13 hE
      exact join26 _ hE
    · replace hE := fx_t c13 hE
      refine pm_iconst (v := 0) hG dX0_weightOf_24 (by decide) ?_
      exact pm_iret hG hF dX0_weightOf_25 rfl (Nat.le_refl _) (Nat.le_refl _) (fx_ric hE)

set_option maxRecDepth 100000 in
set_option maxHeartbeats 4000000 in
theorem c_X0_isPromisedFor {d : Nat} {B cnt : Nat} {kp : Value} {ρ : pm_S} {S : FS} {za : Int32} {zb : Int32} {R : Int32} (hdd : 2 ≤ d) (hE : q_X0_isPromisedFor S za zb = some R) : pm_met mX0_isPromisedFor d 0 0 B [.ref (B + 31), .int za, .int zb] cnt (cst B kp S ρ) (pm_Qi (fun v σ' cnt' => v = R ∧ σ' = (cst B kp S ρ) ∧ cnt' = cnt)) := by
  refine pm_enter 2 (by decide) (Nat.le_of_ble_eq_true rfl) rfl (fun G hG hR hF => ?_)
  unfold q_X0_isPromisedFor at hE
  refine pm_aloadn hG dX0_isPromisedFor_0 rfl ?_
  refine pm_getf hG dX0_isPromisedFor_1 (flX0_25 _ rfl) rfl rfl ?_
  refine pm_callV (As := []) (rest := []) hG hR dX0_isPromisedFor_4 (lkX0_47 _ rfl) okV_X9_used rfl rfl (tused_18 (d := 1)) rfl rfl hdd (Nat.le_refl _) (Nat.le_refl _) (by decide) (fx_ki ?_)
  refine fx_letv hE (fun x1 hE => ?_)
  refine pm_istoreXn (loc' := [some (.ref (B + 31)), some (.int za), some (.int zb), some (.int x1), none]) hG dX0_isPromisedFor_7 (by decide) (pm_c1b rfl) rfl ?_
  refine pm_iconst (v := 0) hG dX0_isPromisedFor_8 (by decide) ?_
  refine pm_istoreXi (loc' := [some (.ref (B + 31)), some (.int za), some (.int zb), some (.int x1), some (.int 0)]) hG dX0_isPromisedFor_9 (by decide) (pm_c1b rfl) rfl ?_
  have loop11 : ∀ (k11 : Int32 → Option Int32), (∀  (x2_4 : Int32), k11  x2_4 = some R → pm_wp mX0_isPromisedFor G B 76 [some (.ref (B + 31)), some (.int za), some (.int zb), some (.int x1), some (.int x2_4)] [] 0 0 cnt (cst B kp S ρ)) → ∀ (m11 : Nat)  (x2_4 : Int32), l_X0_isPromisedFor_11 za zb S x1 k11 m11  x2_4 = some R → pm_wp mX0_isPromisedFor G B 11 [some (.ref (B + 31)), some (.int za), some (.int zb), some (.int x1), some (.int x2_4)] [] 0 0 cnt (cst B kp S ρ) := by
    intro k11 hk11 m11
    induction m11 with
    | zero => intro  x2_4 hE; exact fx_no hE
    | succ m11 ih11 =>
      intro  x2_4 hE
      rw [l_X0_isPromisedFor_11] at hE
      refine pm_iloadi hG dX0_isPromisedFor_11 rfl ?_
      refine pm_iloadn hG dX0_isPromisedFor_13 rfl ?_
      refine pm_icmp_ge (tgt := 76) hG dX0_isPromisedFor_14 rfl (fun c3 => ?_) (fun c3 => ?_)
      · replace c3 := Int32.not_lt.mpr c3
        replace hE := fx_f c3 hE
        exact hk11 _ hE
      · replace c3 := Int32.not_le.mp c3
        replace hE := fx_t c3 hE
        refine pm_aloadn hG dX0_isPromisedFor_17 rfl ?_
        refine pm_getf hG dX0_isPromisedFor_18 (flX0_25 _ rfl) rfl rfl ?_
        refine pm_iloadi hG dX0_isPromisedFor_21 rfl ?_
        refine pm_iconst (v := 0) hG dX0_isPromisedFor_23 (by decide) ?_
        refine pm_callV (As := [.int x2_4, .int 0]) (rest := []) hG hR dX0_isPromisedFor_24 (lkX0_39 _ rfl) okV_X9_get rfl rfl (tget_18 (d := 1)) rfl rfl hdd (Nat.le_refl _) (Nat.le_refl _) (by decide) (fx_ki ?_)
        refine pm_iloadn hG dX0_isPromisedFor_27 rfl ?_
        refine pm_icmp_ne (tgt := 70) hG dX0_isPromisedFor_28 rfl (fun c4 => ?_) (fun c4 => ?_)
        · replace hE := fx_f c4 hE
          refine pm_iincX (v := x2_4 + 1) (loc' := [some (.ref (B + 31)), some (.int za), some (.int zb), some (.int x1), some (.int (x2_4 + 1))]) hG dX0_isPromisedFor_70 rfl (by rfl) (by decide) (pm_c1b rfl) rfl ?_
          refine pm_goto (tgt := 11) hG dX0_isPromisedFor_73 rfl ?_
          exact ih11 _ hE
        · replace hE := fx_t c4 hE
          refine pm_aloadn hG dX0_isPromisedFor_31 rfl ?_
          refine pm_getf hG dX0_isPromisedFor_32 (flX0_25 _ rfl) rfl rfl ?_
          refine pm_iloadi hG dX0_isPromisedFor_35 rfl ?_
          refine pm_iconst (v := 1) hG dX0_isPromisedFor_37 (by decide) ?_
          refine pm_callV (As := [.int x2_4, .int 1]) (rest := []) hG hR dX0_isPromisedFor_38 (lkX0_39 _ rfl) okV_X9_get rfl rfl (tget_18 (d := 1)) rfl rfl hdd (Nat.le_refl _) (Nat.le_refl _) (by decide) (fx_ki ?_)
          refine pm_iloadn hG dX0_isPromisedFor_41 rfl ?_
          refine pm_icmp_ne (tgt := 70) hG dX0_isPromisedFor_42 rfl (fun c5 => ?_) (fun c5 => ?_)
          · replace hE := fx_f c5 hE
            refine pm_iincX (v := x2_4 + 1) (loc' := [some (.ref (B + 31)), some (.int za), some (.int zb), some (.int x1), some (.int (x2_4 + 1))]) hG dX0_isPromisedFor_70 rfl (by rfl) (by decide) (pm_c1b rfl) rfl ?_
            refine pm_goto (tgt := 11) hG dX0_isPromisedFor_73 rfl ?_
            exact ih11 _ hE
          · replace hE := fx_t c5 hE
            refine pm_aloadn hG dX0_isPromisedFor_45 rfl ?_
            refine pm_getf hG dX0_isPromisedFor_46 (flX0_25 _ rfl) rfl rfl ?_
            refine pm_iloadi hG dX0_isPromisedFor_49 rfl ?_
            refine pm_iconst (v := 3) hG dX0_isPromisedFor_51 (by decide) ?_
            refine pm_callV (As := [.int x2_4, .int 3]) (rest := []) hG hR dX0_isPromisedFor_52 (lkX0_39 _ rfl) okV_X9_get rfl rfl (tget_18 (d := 1)) rfl rfl hdd (Nat.le_refl _) (Nat.le_refl _) (by decide) (fx_ki ?_)
            refine pm_iconst (v := 1) hG dX0_isPromisedFor_55 (by decide) ?_
            refine pm_icmp_ne (tgt := 70) hG dX0_isPromisedFor_56 rfl (fun c6 => ?_) (fun c6 => ?_)
            · replace hE := fx_f c6 hE
              refine pm_iincX (v := x2_4 + 1) (loc' := [some (.ref (B + 31)), some (.int za), some (.int zb), some (.int x1), some (.int (x2_4 + 1))]) hG dX0_isPromisedFor_70 rfl (by rfl) (by decide) (pm_c1b rfl) rfl ?_
              refine pm_goto (tgt := 11) hG dX0_isPromisedFor_73 rfl ?_
              exact ih11 _ hE
            · replace hE := fx_t c6 hE
              refine pm_aloadn hG dX0_isPromisedFor_59 rfl ?_
              refine pm_iloadi hG dX0_isPromisedFor_60 rfl ?_
              refine pm_callV (As := [.int x2_4]) (rest := []) hG hR dX0_isPromisedFor_62 (lkX0_51 _ rfl) okV_X0_stands rfl rfl (c_X0_stands (d := 1) (by decide) rfl) rfl rfl hdd (Nat.le_refl _) (Nat.le_refl _) (by decide) (fx_ki ?_)
              refine pm_if_eq (tgt := 70) hG dX0_isPromisedFor_65 rfl (fun c7 => ?_) (fun c7 => ?_)
              · replace hE := fx_t c7 hE
                refine pm_iincX (v := x2_4 + 1) (loc' := [some (.ref (B + 31)), some (.int za), some (.int zb), some (.int x1), some (.int (x2_4 + 1))]) hG dX0_isPromisedFor_70 rfl (by rfl) (by decide) (pm_c1b rfl) rfl ?_
                refine pm_goto (tgt := 11) hG dX0_isPromisedFor_73 rfl ?_
                exact ih11 _ hE
              · replace hE := fx_f c7 hE
                refine pm_iconst (v := 1) hG dX0_isPromisedFor_68 (by decide) ?_
                exact pm_zret hG hF dX0_isPromisedFor_69 rfl (by rfl) (Nat.le_refl _) (Nat.le_refl _) (fx_pi (Option.some.inj hE))
  refine loop11 _ (fun  x8_4 hE => ?_) _ _ hE
  refine pm_iconst (v := 0) hG dX0_isPromisedFor_76 (by decide) ?_
  exact pm_zret hG hF dX0_isPromisedFor_77 rfl (by rfl) (Nat.le_refl _) (Nat.le_refl _) (fx_pi (Option.some.inj hE))

set_option maxRecDepth 100000 in
set_option maxHeartbeats 4000000 in
theorem c_X0_weighOne {d : Nat} {B cnt : Nat} {kp : Value} {ρ : pm_S} {S : FS} {za : Int32} {zb : Int32} {zc : Int32} {R : Int32 × FS} (hdd : 3 ≤ d) (hE : f_X0_weighOne S za zb zc = some R) : pm_met mX0_weighOne d 0 0 B [.ref (B + 31), .int za, .int zb, .int zc] cnt (cst B kp S ρ) (pm_Qv (fun σ' cnt' => σ' = (cst B kp R.2 ρ) ∧ cnt' = cnt)) := by
  refine pm_enter 0 (by decide) (Nat.le_of_ble_eq_true rfl) rfl (fun G hG hR hF => ?_)
  unfold f_X0_weighOne at hE
  refine pm_aloadn hG dX0_weighOne_0 rfl ?_
  refine pm_getf hG dX0_weighOne_1 (flX0_33 _ rfl) rfl rfl ?_
  refine pm_iloadn hG dX0_weighOne_4 rfl ?_
  refine pm_iconst (v := 0) hG dX0_weighOne_5 (by decide) ?_
  refine pm_iloadn hG dX0_weighOne_6 rfl ?_
  refine pm_callV (As := [.int za, .int 0, .int zc]) (rest := []) hG hR dX0_weighOne_7 (lkX0_55 _ rfl) okV_X9_set rfl rfl (tset_32 (d := 2)) rfl rfl hdd (Nat.le_refl _) (Nat.le_refl _) (by decide) (fx_kv ?_)
  refine fx_letc hE (fun S1 hE => ?_)
  refine pm_aloadn hG dX0_weighOne_10 rfl ?_
  refine pm_dup hG dX0_weighOne_11 rfl ?_
  refine pm_getf hG dX0_weighOne_12 (flX0_72 _ rfl) rfl rfl ?_
  refine pm_iloadn hG dX0_weighOne_15 rfl ?_
  refine pm_iadd hG dX0_weighOne_16 ?_
  refine pm_putf hG dX0_weighOne_17 (fwX0_72 _ rfl) rfl rfl rfl ?_
  refine ci_108 ?_
  refine fx_letc hE (fun S2 hE => ?_)
  refine pm_aloadn hG dX0_weighOne_20 rfl ?_
  refine pm_iloadn hG dX0_weighOne_21 rfl ?_
  refine pm_iloadn hG dX0_weighOne_22 rfl ?_
  obtain ⟨x4, h3, hE⟩ := fb_some hE
  refine pm_callV (As := [.int za, .int zb]) (rest := []) hG hR dX0_weighOne_23 (lkX0_87 _ rfl) okV_X0_isPromisedFor rfl rfl (c_X0_isPromisedFor (d := 2) (by decide) h3) rfl rfl hdd (Nat.le_refl _) (Nat.le_refl _) (by decide) (fx_ki ?_)
  refine pm_if_eq (tgt := 42) hG dX0_weighOne_26 rfl (fun c5 => ?_) (fun c5 => ?_)
  · replace hE := fx_t c5 hE
    refine pm_aloadn hG dX0_weighOne_42 rfl ?_
    refine pm_getf hG dX0_weighOne_43 (flX0_36 _ rfl) rfl rfl ?_
    refine pm_iloadn hG dX0_weighOne_46 rfl ?_
    obtain ⟨r7, h6, hE⟩ := fb_some hE
    refine pm_callV (As := [.int za]) (rest := []) hG hR dX0_weighOne_47 (lkX0_59 _ rfl) okV_X9_append rfl rfl (tappend_34 (d := 2) (by decide) h6) rfl rfl hdd (Nat.le_refl _) (Nat.le_refl _) (by decide) (fx_ki ?_)
    refine pm_pop hG dX0_weighOne_50 rfl ?_
    exact pm_vret hG hF dX0_weighOne_51 rfl (Nat.le_refl _) (Nat.le_refl _) (fx_rvc hE)
  · replace hE := fx_f c5 hE
    refine pm_aloadn hG dX0_weighOne_29 rfl ?_
    refine pm_dup hG dX0_weighOne_30 rfl ?_
    refine pm_getf hG dX0_weighOne_31 (flX0_69 _ rfl) rfl rfl ?_
    refine pm_iloadn hG dX0_weighOne_34 rfl ?_
    refine pm_iadd hG dX0_weighOne_35 ?_
    refine pm_putf hG dX0_weighOne_36 (fwX0_69 _ rfl) rfl rfl rfl ?_
    refine ci_107 ?_
    refine fx_letc hE (fun S8 hE => ?_)
    refine pm_goto (tgt := 51) hG dX0_weighOne_39 rfl ?_
    exact pm_vret hG hF dX0_weighOne_51 rfl (Nat.le_refl _) (Nat.le_refl _) (fx_rvc hE)

set_option maxRecDepth 100000 in
set_option maxHeartbeats 4000000 in
theorem c_X0_weigh {d : Nat} {B cnt : Nat} {kp : Value} {ρ : pm_S} {S : FS} {za : Int32} {R : Int32 × FS} (hdd : 5 ≤ d) (hE : f_X0_weigh S za = some R) : pm_met mX0_weigh d 0 0 B [.ref (B + 31), .int za] cnt (cst B kp S ρ) (pm_Qv (fun σ' cnt' => σ' = (cst B kp R.2 ρ) ∧ cnt' = cnt)) := by
  refine pm_enter 3 (by decide) (Nat.le_of_ble_eq_true rfl) rfl (fun G hG hR hF => ?_)
  unfold f_X0_weigh at hE
  refine pm_aloadn hG dX0_weigh_0 rfl ?_
  refine pm_iconst (v := 0) hG dX0_weigh_1 (by decide) ?_
  refine pm_putf hG dX0_weigh_2 (fwX0_69 _ rfl) rfl rfl rfl ?_
  refine ci_107 ?_
  refine fx_letc hE (fun S1 hE => ?_)
  refine pm_aloadn hG dX0_weigh_5 rfl ?_
  refine pm_iconst (v := 0) hG dX0_weigh_6 (by decide) ?_
  refine pm_putf hG dX0_weigh_7 (fwX0_72 _ rfl) rfl rfl rfl ?_
  refine ci_108 ?_
  refine fx_letc hE (fun S2 hE => ?_)
  refine pm_aloadn hG dX0_weigh_10 rfl ?_
  refine pm_getf hG dX0_weigh_11 (flX0_36 _ rfl) rfl rfl ?_
  refine pm_callV (As := []) (rest := []) hG hR dX0_weigh_14 (lkX0_75 _ rfl) okV_X9_clear rfl rfl (tclear_34 (d := 4)) rfl rfl hdd (Nat.le_refl _) (Nat.le_refl _) (by decide) (fx_kv ?_)
  refine fx_letc hE (fun S3 hE => ?_)
  refine pm_aloadn hG dX0_weigh_17 rfl ?_
  obtain ⟨x5, h4, hE⟩ := fb_some hE
  refine pm_callV (As := []) (rest := []) hG hR dX0_weigh_18 (lkX0_78 _ rfl) okV_X0_ruleInForce rfl rfl (c_X0_ruleInForce (d := 4) (by decide) h4) rfl rfl hdd (Nat.le_refl _) (Nat.le_refl _) (by decide) (fx_ki ?_)
  refine pm_istoreXn (loc' := [some (.ref (B + 31)), some (.int za), some (.int x5), none, none]) hG dX0_weigh_21 (by decide) (pm_c1b rfl) rfl ?_
  refine pm_aloadn hG dX0_weigh_22 rfl ?_
  refine pm_getf hG dX0_weigh_23 (flX0_9 _ rfl) rfl rfl ?_
  refine pm_getf hG dX0_weigh_26 (flX0_63 _ rfl) rfl rfl ?_
  refine pm_callV (As := []) (rest := []) hG hR dX0_weigh_29 (lkX0_47 _ rfl) okV_X9_used rfl rfl (tused_6 (d := 4)) rfl rfl hdd (Nat.le_refl _) (Nat.le_refl _) (by decide) (fx_ki ?_)
  refine fx_letv hE (fun x6 hE => ?_)
  refine pm_istoreXn (loc' := [some (.ref (B + 31)), some (.int za), some (.int x5), some (.int x6), none]) hG dX0_weigh_32 (by decide) (pm_c1b rfl) rfl ?_
  refine pm_iconst (v := 0) hG dX0_weigh_33 (by decide) ?_
  refine pm_istoreXi (loc' := [some (.ref (B + 31)), some (.int za), some (.int x5), some (.int x6), some (.int 0)]) hG dX0_weigh_34 (by decide) (pm_c1b rfl) rfl ?_
  have loop36 : ∀ (k36 : FS → Int32 → Option (Int32 × FS)), (∀ (S7 : FS) (x7_4 : Int32), k36 S7  x7_4 = some R → pm_wp mX0_weigh G B 79 [some (.ref (B + 31)), some (.int za), some (.int x5), some (.int x6), some (.int x7_4)] [] 0 0 cnt (cst B kp S7 ρ)) → ∀ (m36 : Nat) (S7 : FS) (x7_4 : Int32), l_X0_weigh_36 za x5 x6 k36 m36 S7  x7_4 = some R → pm_wp mX0_weigh G B 36 [some (.ref (B + 31)), some (.int za), some (.int x5), some (.int x6), some (.int x7_4)] [] 0 0 cnt (cst B kp S7 ρ) := by
    intro k36 hk36 m36
    induction m36 with
    | zero => intro S7  x7_4 hE; exact fx_no hE
    | succ m36 ih36 =>
      intro S7  x7_4 hE
      rw [l_X0_weigh_36] at hE
      refine pm_iloadi hG dX0_weigh_36 rfl ?_
      refine pm_iloadn hG dX0_weigh_38 rfl ?_
      refine pm_icmp_ge (tgt := 79) hG dX0_weigh_39 rfl (fun c8 => ?_) (fun c8 => ?_)
      · replace c8 := Int32.not_lt.mpr c8
        replace hE := fx_f c8 hE
        exact hk36 _ _ hE
      · replace c8 := Int32.not_le.mp c8
        replace hE := fx_t c8 hE
        refine pm_aloadn hG dX0_weigh_42 rfl ?_
        refine pm_getf hG dX0_weigh_43 (flX0_9 _ rfl) rfl rfl ?_
        refine pm_getf hG dX0_weigh_46 (flX0_63 _ rfl) rfl rfl ?_
        refine pm_iloadi hG dX0_weigh_49 rfl ?_
        refine pm_bipush (v := 13) hG dX0_weigh_51 (by decide) ?_
        refine pm_callV (As := [.int x7_4, .int 13]) (rest := []) hG hR dX0_weigh_53 (lkX0_39 _ rfl) okV_X9_get rfl rfl (tget_6 (d := 4)) rfl rfl hdd (Nat.le_refl _) (Nat.le_refl _) (by decide) (fx_ki ?_)
        refine pm_if_eq (tgt := 73) hG dX0_weigh_56 rfl (fun c9 => ?_) (fun c9 => ?_)
        · replace hE := fx_t c9 hE
          refine pm_iincX (v := x7_4 + 1) (loc' := [some (.ref (B + 31)), some (.int za), some (.int x5), some (.int x6), some (.int (x7_4 + 1))]) hG dX0_weigh_73 rfl (by rfl) (by decide) (pm_c1b rfl) rfl ?_
          refine pm_goto (tgt := 36) hG dX0_weigh_76 rfl ?_
          exact ih36 _ _ hE
        · replace hE := fx_f c9 hE
          refine pm_aloadn hG dX0_weigh_59 rfl ?_
          refine pm_iloadi hG dX0_weigh_60 rfl ?_
          refine pm_iloadn hG dX0_weigh_62 rfl ?_
          refine pm_aloadn hG dX0_weigh_63 rfl ?_
          refine pm_iloadi hG dX0_weigh_64 rfl ?_
          refine pm_iloadn hG dX0_weigh_66 rfl ?_
          obtain ⟨r11, h10, hE⟩ := fb_some hE
          refine pm_callV (As := [.int x7_4, .int x5]) (rest := [.int za, .int x7_4, .ref (B + 31)]) hG hR dX0_weigh_67 (lkX0_81 _ rfl) okV_X0_weightOf rfl rfl (c_X0_weightOf (d := 4) (by decide) h10) rfl rfl hdd (Nat.le_refl _) (Nat.le_refl _) (by first | decide | exact Nat.le_of_ble_eq_true rfl) (fx_ki ?_)
          obtain ⟨r13, h12, hE⟩ := fb_some hE
          refine pm_callV (As := [.int x7_4, .int za, .int r11.1]) (rest := []) hG hR dX0_weigh_70 (lkX0_84 _ rfl) okV_X0_weighOne rfl rfl (c_X0_weighOne (d := 4) (by decide) h12) rfl rfl hdd (Nat.le_refl _) (Nat.le_refl _) (by decide) (fx_kv ?_)
          refine pm_iincX (v := x7_4 + 1) (loc' := [some (.ref (B + 31)), some (.int za), some (.int x5), some (.int x6), some (.int (x7_4 + 1))]) hG dX0_weigh_73 rfl (by rfl) (by decide) (pm_c1b rfl) rfl ?_
          refine pm_goto (tgt := 36) hG dX0_weigh_76 rfl ?_
          exact ih36 _ _ hE
  refine loop36 _ (fun S14 x14_4 hE => ?_) _ _ _ hE
  exact pm_vret hG hF dX0_weigh_79 rfl (Nat.le_refl _) (Nat.le_refl _) (fx_rvc hE)

set_option maxRecDepth 100000 in
set_option maxHeartbeats 4000000 in
theorem c_X0_isCarriedWith {d : Nat} {B cnt : Nat} {kp : Value} {ρ : pm_S} {S : FS} {za : Int32} {R : Int32} (hdd : 1 ≤ d) (hE : p_X0_isCarriedWith S za = R) : pm_met mX0_isCarriedWith d 0 0 B [.ref (B + 31), .int za] cnt (cst B kp S ρ) (pm_Qi (fun v σ' cnt' => v = R ∧ σ' = (cst B kp S ρ) ∧ cnt' = cnt)) := by
  refine pm_enter 0 (by decide) (Nat.le_of_ble_eq_true rfl) rfl (fun G hG hR hF => ?_)
  unfold p_X0_isCarriedWith at hE
  refine pm_iconst (v := 2) hG dX0_isCarriedWith_0 (by decide) ?_
  refine pm_aloadn hG dX0_isCarriedWith_1 rfl ?_
  refine pm_getf hG dX0_isCarriedWith_2 (flX0_69 _ rfl) rfl rfl ?_
  refine pm_iloadn hG dX0_isCarriedWith_5 rfl ?_
  refine pm_iadd hG dX0_isCarriedWith_6 ?_
  refine pm_imul hG dX0_isCarriedWith_7 ?_
  refine pm_aloadn hG dX0_isCarriedWith_8 rfl ?_
  refine pm_getf hG dX0_isCarriedWith_9 (flX0_72 _ rfl) rfl rfl ?_
  refine pm_icmp_le (tgt := 19) hG dX0_isCarriedWith_12 rfl (fun c1 => ?_) (fun c1 => ?_)
  · replace c1 := Int32.not_lt.mpr c1
    replace hE := fx_f c1 hE
    refine pm_iconst (v := 0) hG dX0_isCarriedWith_19 (by decide) ?_
    exact pm_zret hG hF dX0_isCarriedWith_20 rfl (by rfl) (Nat.le_refl _) (Nat.le_refl _) (fx_pi hE)
  · replace c1 := Int32.not_le.mp c1
    replace hE := fx_t c1 hE
    refine pm_iconst (v := 1) hG dX0_isCarriedWith_15 (by decide) ?_
    refine pm_goto (tgt := 20) hG dX0_isCarriedWith_16 rfl ?_
    exact pm_zret hG hF dX0_isCarriedWith_20 rfl (by rfl) (Nat.le_refl _) (Nat.le_refl _) (fx_pi hE)

set_option maxRecDepth 100000 in
set_option maxHeartbeats 4000000 in
theorem c_X0_keepIfBetter {d : Nat} {B cnt : Nat} {kp : Value} {ρ : pm_S} {S : FS} {za : Int32} {zb : Int32} {R : Int32 × FS} (hdd : 2 ≤ d) (hE : f_X0_keepIfBetter S za zb = some R) : pm_met mX0_keepIfBetter d 0 0 B [.ref (B + 31), .int za, .int zb] cnt (cst B kp S ρ) (pm_Qv (fun σ' cnt' => σ' = (cst B kp R.2 ρ) ∧ cnt' = cnt)) := by
  refine pm_enter 2 (by decide) (Nat.le_of_ble_eq_true rfl) rfl (fun G hG hR hF => ?_)
  unfold f_X0_keepIfBetter at hE
  refine pm_iloadn hG dX0_keepIfBetter_0 rfl ?_
  refine pm_callS (As := [.int za]) (rest := []) hG hR dX0_keepIfBetter_1 (lkX0_134 _ rfl) okS_J6_bitCount_0f7a4 (c_J6_bitCount_0f7a4 (d := 1) (by decide) rfl) rfl rfl hdd (Nat.le_refl _) (Nat.le_refl _) (by decide) (fx_ki ?_)
  refine pm_aloadn hG dX0_keepIfBetter_4 rfl ?_
  refine pm_getf hG dX0_keepIfBetter_5 (flX0_118 _ rfl) rfl rfl ?_
  refine pm_callS (As := [.int (S.1 110)]) (rest := [.int (p_J6_bitCount_0f7a4 S za)]) hG hR dX0_keepIfBetter_8 (lkX0_134 _ rfl) okS_J6_bitCount_0f7a4 (c_J6_bitCount_0f7a4 (d := 1) (by decide) rfl) rfl rfl hdd (Nat.le_refl _) (Nat.le_refl _) (by first | decide | exact Nat.le_of_ble_eq_true rfl) (fx_ki ?_)
  refine pm_isub hG dX0_keepIfBetter_11 ?_
  refine fx_letv hE (fun x1 hE => ?_)
  refine pm_istoreXn (loc' := [some (.ref (B + 31)), some (.int za), some (.int zb), some (.int x1), none]) hG dX0_keepIfBetter_12 (by decide) (pm_c1b rfl) rfl ?_
  refine pm_iloadn hG dX0_keepIfBetter_13 rfl ?_
  refine pm_if_lt (tgt := 29) hG dX0_keepIfBetter_14 rfl (fun c2 => ?_) (fun c2 => ?_)
  · replace hE := fx_t c2 hE
    refine pm_iconst (v := 1) hG dX0_keepIfBetter_29 (by decide) ?_
    refine pm_goto (tgt := 34) hG dX0_keepIfBetter_30 rfl ?_
    refine pm_istoreXi (loc' := [some (.ref (B + 31)), some (.int za), some (.int zb), some (.int x1), some (.int 1)]) hG dX0_keepIfBetter_34 (by decide) (pm_c1b rfl) rfl ?_
    refine pm_iloadn hG dX0_keepIfBetter_36 rfl ?_
    refine pm_aloadn hG dX0_keepIfBetter_37 rfl ?_
    refine pm_getf hG dX0_keepIfBetter_38 (flX0_115 _ rfl) rfl rfl ?_
    refine pm_icmp_lt (tgt := 57) hG dX0_keepIfBetter_41 rfl (fun c3 => ?_) (fun c3 => ?_)
    · replace hE := fx_t c3 hE
      refine pm_aloadn hG dX0_keepIfBetter_57 rfl ?_
      refine pm_iloadn hG dX0_keepIfBetter_58 rfl ?_
      refine pm_putf hG dX0_keepIfBetter_59 (fwX0_115 _ rfl) rfl rfl rfl ?_
      refine ci_109 ?_
      refine fx_letc hE (fun S4 hE => ?_)
      refine pm_aloadn hG dX0_keepIfBetter_62 rfl ?_
      refine pm_iloadn hG dX0_keepIfBetter_63 rfl ?_
      refine pm_putf hG dX0_keepIfBetter_64 (fwX0_118 _ rfl) rfl rfl rfl ?_
      refine ci_110 ?_
      refine fx_letc hE (fun S5 hE => ?_)
      exact pm_vret hG hF dX0_keepIfBetter_67 rfl (Nat.le_refl _) (Nat.le_refl _) (fx_rvc hE)
    · replace hE := fx_f c3 hE
      refine pm_iloadn hG dX0_keepIfBetter_44 rfl ?_
      refine pm_aloadn hG dX0_keepIfBetter_45 rfl ?_
      refine pm_getf hG dX0_keepIfBetter_46 (flX0_115 _ rfl) rfl rfl ?_
      refine pm_icmp_ne (tgt := 67) hG dX0_keepIfBetter_49 rfl (fun c6 => ?_) (fun c6 => ?_)
      · replace hE := fx_f c6 hE
        exact pm_vret hG hF dX0_keepIfBetter_67 rfl (Nat.le_refl _) (Nat.le_refl _) (fx_rvc hE)
      · replace hE := fx_t c6 hE
        refine pm_iloadi hG dX0_keepIfBetter_52 rfl ?_
        refine pm_if_eq (tgt := 67) hG dX0_keepIfBetter_54 rfl (fun q => absurd q (by decide)) (fun _ => ?_)
        refine pm_aloadn hG dX0_keepIfBetter_57 rfl ?_
        refine pm_iloadn hG dX0_keepIfBetter_58 rfl ?_
        refine pm_putf hG dX0_keepIfBetter_59 (fwX0_115 _ rfl) rfl rfl rfl ?_
        refine ci_109 ?_
        refine fx_letc hE (fun S7 hE => ?_)
        refine pm_aloadn hG dX0_keepIfBetter_62 rfl ?_
        refine pm_iloadn hG dX0_keepIfBetter_63 rfl ?_
        refine pm_putf hG dX0_keepIfBetter_64 (fwX0_118 _ rfl) rfl rfl rfl ?_
        refine ci_110 ?_
        refine fx_letc hE (fun S8 hE => ?_)
        exact pm_vret hG hF dX0_keepIfBetter_67 rfl (Nat.le_refl _) (Nat.le_refl _) (fx_rvc hE)
  · replace hE := fx_f c2 hE
    refine pm_iloadn hG dX0_keepIfBetter_17 rfl ?_
    refine pm_if_ne (tgt := 33) hG dX0_keepIfBetter_18 rfl (fun c9 => ?_) (fun c9 => ?_)
    · replace hE := fx_f c9 hE
      refine pm_iconst (v := 0) hG dX0_keepIfBetter_33 (by decide) ?_
      refine pm_istoreXi (loc' := [some (.ref (B + 31)), some (.int za), some (.int zb), some (.int x1), some (.int 0)]) hG dX0_keepIfBetter_34 (by decide) (pm_c1b rfl) rfl ?_
      refine pm_iloadn hG dX0_keepIfBetter_36 rfl ?_
      refine pm_aloadn hG dX0_keepIfBetter_37 rfl ?_
      refine pm_getf hG dX0_keepIfBetter_38 (flX0_115 _ rfl) rfl rfl ?_
      refine pm_icmp_lt (tgt := 57) hG dX0_keepIfBetter_41 rfl (fun c10 => ?_) (fun c10 => ?_)
      · replace hE := fx_t c10 hE
        refine pm_aloadn hG dX0_keepIfBetter_57 rfl ?_
        refine pm_iloadn hG dX0_keepIfBetter_58 rfl ?_
        refine pm_putf hG dX0_keepIfBetter_59 (fwX0_115 _ rfl) rfl rfl rfl ?_
        refine ci_109 ?_
        refine fx_letc hE (fun S11 hE => ?_)
        refine pm_aloadn hG dX0_keepIfBetter_62 rfl ?_
        refine pm_iloadn hG dX0_keepIfBetter_63 rfl ?_
        refine pm_putf hG dX0_keepIfBetter_64 (fwX0_118 _ rfl) rfl rfl rfl ?_
        refine ci_110 ?_
        refine fx_letc hE (fun S12 hE => ?_)
        exact pm_vret hG hF dX0_keepIfBetter_67 rfl (Nat.le_refl _) (Nat.le_refl _) (fx_rvc hE)
      · replace hE := fx_f c10 hE
        refine pm_iloadn hG dX0_keepIfBetter_44 rfl ?_
        refine pm_aloadn hG dX0_keepIfBetter_45 rfl ?_
        refine pm_getf hG dX0_keepIfBetter_46 (flX0_115 _ rfl) rfl rfl ?_
        refine pm_icmp_ne (tgt := 67) hG dX0_keepIfBetter_49 rfl (fun c13 => ?_) (fun c13 => ?_)
        · replace hE := fx_f c13 hE
          exact pm_vret hG hF dX0_keepIfBetter_67 rfl (Nat.le_refl _) (Nat.le_refl _) (fx_rvc hE)
        · replace hE := fx_t c13 hE
          refine pm_iloadi hG dX0_keepIfBetter_52 rfl ?_
          refine pm_if_eq (tgt := 67) hG dX0_keepIfBetter_54 rfl (fun _ => ?_) (fun q => absurd q (by decide))
          exact pm_vret hG hF dX0_keepIfBetter_67 rfl (Nat.le_refl _) (Nat.le_refl _) (fx_rvc hE)
    · replace hE := fx_t c9 hE
      refine pm_iloadn hG dX0_keepIfBetter_21 rfl ?_
      refine pm_aloadn hG dX0_keepIfBetter_22 rfl ?_
      refine pm_getf hG dX0_keepIfBetter_23 (flX0_118 _ rfl) rfl rfl ?_
      refine pm_icmp_ge (tgt := 33) hG dX0_keepIfBetter_26 rfl (fun c14 => ?_) (fun c14 => ?_)
      · replace c14 := Int32.not_lt.mpr c14
        replace hE := fx_f c14 hE
        refine pm_iconst (v := 0) hG dX0_keepIfBetter_33 (by decide) ?_
        refine pm_istoreXi (loc' := [some (.ref (B + 31)), some (.int za), some (.int zb), some (.int x1), some (.int 0)]) hG dX0_keepIfBetter_34 (by decide) (pm_c1b rfl) rfl ?_
        refine pm_iloadn hG dX0_keepIfBetter_36 rfl ?_
        refine pm_aloadn hG dX0_keepIfBetter_37 rfl ?_
        refine pm_getf hG dX0_keepIfBetter_38 (flX0_115 _ rfl) rfl rfl ?_
        refine pm_icmp_lt (tgt := 57) hG dX0_keepIfBetter_41 rfl (fun c15 => ?_) (fun c15 => ?_)
        · replace hE := fx_t c15 hE
          refine pm_aloadn hG dX0_keepIfBetter_57 rfl ?_
          refine pm_iloadn hG dX0_keepIfBetter_58 rfl ?_
          refine pm_putf hG dX0_keepIfBetter_59 (fwX0_115 _ rfl) rfl rfl rfl ?_
          refine ci_109 ?_
          refine fx_letc hE (fun S16 hE => ?_)
          refine pm_aloadn hG dX0_keepIfBetter_62 rfl ?_
          refine pm_iloadn hG dX0_keepIfBetter_63 rfl ?_
          refine pm_putf hG dX0_keepIfBetter_64 (fwX0_118 _ rfl) rfl rfl rfl ?_
          refine ci_110 ?_
          refine fx_letc hE (fun S17 hE => ?_)
          exact pm_vret hG hF dX0_keepIfBetter_67 rfl (Nat.le_refl _) (Nat.le_refl _) (fx_rvc hE)
        · replace hE := fx_f c15 hE
          refine pm_iloadn hG dX0_keepIfBetter_44 rfl ?_
          refine pm_aloadn hG dX0_keepIfBetter_45 rfl ?_
          refine pm_getf hG dX0_keepIfBetter_46 (flX0_115 _ rfl) rfl rfl ?_
          refine pm_icmp_ne (tgt := 67) hG dX0_keepIfBetter_49 rfl (fun c18 => ?_) (fun c18 => ?_)
          · replace hE := fx_f c18 hE
            exact pm_vret hG hF dX0_keepIfBetter_67 rfl (Nat.le_refl _) (Nat.le_refl _) (fx_rvc hE)
          · replace hE := fx_t c18 hE
            refine pm_iloadi hG dX0_keepIfBetter_52 rfl ?_
            refine pm_if_eq (tgt := 67) hG dX0_keepIfBetter_54 rfl (fun _ => ?_) (fun q => absurd q (by decide))
            exact pm_vret hG hF dX0_keepIfBetter_67 rfl (Nat.le_refl _) (Nat.le_refl _) (fx_rvc hE)
      · replace c14 := Int32.not_le.mp c14
        replace hE := fx_t c14 hE
        refine pm_iconst (v := 1) hG dX0_keepIfBetter_29 (by decide) ?_
        refine pm_goto (tgt := 34) hG dX0_keepIfBetter_30 rfl ?_
        refine pm_istoreXi (loc' := [some (.ref (B + 31)), some (.int za), some (.int zb), some (.int x1), some (.int 1)]) hG dX0_keepIfBetter_34 (by decide) (pm_c1b rfl) rfl ?_
        refine pm_iloadn hG dX0_keepIfBetter_36 rfl ?_
        refine pm_aloadn hG dX0_keepIfBetter_37 rfl ?_
        refine pm_getf hG dX0_keepIfBetter_38 (flX0_115 _ rfl) rfl rfl ?_
        refine pm_icmp_lt (tgt := 57) hG dX0_keepIfBetter_41 rfl (fun c19 => ?_) (fun c19 => ?_)
        · replace hE := fx_t c19 hE
          refine pm_aloadn hG dX0_keepIfBetter_57 rfl ?_
          refine pm_iloadn hG dX0_keepIfBetter_58 rfl ?_
          refine pm_putf hG dX0_keepIfBetter_59 (fwX0_115 _ rfl) rfl rfl rfl ?_
          refine ci_109 ?_
          refine fx_letc hE (fun S20 hE => ?_)
          refine pm_aloadn hG dX0_keepIfBetter_62 rfl ?_
          refine pm_iloadn hG dX0_keepIfBetter_63 rfl ?_
          refine pm_putf hG dX0_keepIfBetter_64 (fwX0_118 _ rfl) rfl rfl rfl ?_
          refine ci_110 ?_
          refine fx_letc hE (fun S21 hE => ?_)
          exact pm_vret hG hF dX0_keepIfBetter_67 rfl (Nat.le_refl _) (Nat.le_refl _) (fx_rvc hE)
        · replace hE := fx_f c19 hE
          refine pm_iloadn hG dX0_keepIfBetter_44 rfl ?_
          refine pm_aloadn hG dX0_keepIfBetter_45 rfl ?_
          refine pm_getf hG dX0_keepIfBetter_46 (flX0_115 _ rfl) rfl rfl ?_
          refine pm_icmp_ne (tgt := 67) hG dX0_keepIfBetter_49 rfl (fun c22 => ?_) (fun c22 => ?_)
          · replace hE := fx_f c22 hE
            exact pm_vret hG hF dX0_keepIfBetter_67 rfl (Nat.le_refl _) (Nat.le_refl _) (fx_rvc hE)
          · replace hE := fx_t c22 hE
            refine pm_iloadi hG dX0_keepIfBetter_52 rfl ?_
            refine pm_if_eq (tgt := 67) hG dX0_keepIfBetter_54 rfl (fun q => absurd q (by decide)) (fun _ => ?_)
            refine pm_aloadn hG dX0_keepIfBetter_57 rfl ?_
            refine pm_iloadn hG dX0_keepIfBetter_58 rfl ?_
            refine pm_putf hG dX0_keepIfBetter_59 (fwX0_115 _ rfl) rfl rfl rfl ?_
            refine ci_109 ?_
            refine fx_letc hE (fun S23 hE => ?_)
            refine pm_aloadn hG dX0_keepIfBetter_62 rfl ?_
            refine pm_iloadn hG dX0_keepIfBetter_63 rfl ?_
            refine pm_putf hG dX0_keepIfBetter_64 (fwX0_118 _ rfl) rfl rfl rfl ?_
            refine ci_110 ?_
            refine fx_letc hE (fun S24 hE => ?_)
            exact pm_vret hG hF dX0_keepIfBetter_67 rfl (Nat.le_refl _) (Nat.le_refl _) (fx_rvc hE)

set_option maxRecDepth 100000 in
set_option maxHeartbeats 4000000 in
theorem c_X0_choose_k9 {d : Nat} {B cnt : Nat} {kp : Value} {ρ : pm_S} {S : FS} {zb : Int32} {zc : Int32} {zd : Int32} {R : Int32 × FS} (hdd : 3 ≤ d) (hE : f_X0_choose_k9 S zb zc zd = some R) : pm_met mX0_choose d 0 0 B [.ref (B + 31), .int 9, .int zb, .int zc, .int zd] cnt (cst B kp S ρ) (pm_Qv (fun σ' cnt' => σ' = (cst B kp R.2 ρ) ∧ cnt' = cnt)) := by
  refine pm_enter 1 (by decide) (Nat.le_of_ble_eq_true rfl) rfl (fun G hG hR hF => ?_)
  unfold f_X0_choose_k9 at hE
  refine pm_iloadn hG dX0_choose_0 rfl ?_
  refine pm_aloadn hG dX0_choose_1 rfl ?_
  refine pm_getf hG dX0_choose_2 (flX0_115 _ rfl) rfl rfl ?_
  refine pm_icmp_le (tgt := 9) hG dX0_choose_5 rfl (fun c1 => ?_) (fun c1 => ?_)
  · replace c1 := Int32.not_lt.mpr c1
    replace hE := fx_f c1 hE
    refine pm_aloadn hG dX0_choose_9 rfl ?_
    refine pm_iloadi hG dX0_choose_10 rfl ?_
    refine pm_callV (As := [.int zd]) (rest := []) hG hR dX0_choose_12 (lkX0_125 _ rfl) okV_X0_isCarriedWith rfl rfl (c_X0_isCarriedWith (d := 2) (by decide) rfl) rfl rfl hdd (Nat.le_refl _) (Nat.le_refl _) (by decide) (fx_ki ?_)
    refine pm_if_eq (tgt := 24) hG dX0_choose_15 rfl (fun c2 => ?_) (fun c2 => ?_)
    · replace hE := fx_t c2 hE
      refine pm_iloadn hG dX0_choose_24 rfl ?_
      refine pm_bipush (v := 9) hG dX0_choose_25 (by decide) ?_
      refine pm_icmp_ge (tgt := 105) hG dX0_choose_27 rfl (fun _ => ?_) (fun q => absurd q (by decide))
      exact pm_vret hG hF dX0_choose_105 rfl (Nat.le_refl _) (Nat.le_refl _) (fx_rvc hE)
    · replace hE := fx_f c2 hE
      refine pm_aloadn hG dX0_choose_18 rfl ?_
      refine pm_iloadn hG dX0_choose_19 rfl ?_
      refine pm_iloadn hG dX0_choose_20 rfl ?_
      obtain ⟨r4, h3, hE⟩ := fb_some hE
      refine pm_callV (As := [.int zb, .int zc]) (rest := []) hG hR dX0_choose_21 (lkX0_128 _ rfl) okV_X0_keepIfBetter rfl rfl (c_X0_keepIfBetter (d := 2) (by decide) h3) rfl rfl hdd (Nat.le_refl _) (Nat.le_refl _) (by decide) (fx_kv ?_)
      refine pm_iloadn hG dX0_choose_24 rfl ?_
      refine pm_bipush (v := 9) hG dX0_choose_25 (by decide) ?_
      refine pm_icmp_ge (tgt := 105) hG dX0_choose_27 rfl (fun _ => ?_) (fun q => absurd q (by decide))
      exact pm_vret hG hF dX0_choose_105 rfl (Nat.le_refl _) (Nat.le_refl _) (fx_rvc hE)
  · replace c1 := Int32.not_le.mp c1
    replace hE := fx_t c1 hE
    exact pm_vret hG hF dX0_choose_8 rfl (Nat.le_refl _) (Nat.le_refl _) (fx_rvc hE)

set_option maxRecDepth 100000 in
set_option maxHeartbeats 4000000 in
theorem c_X0_choose_k8 {d : Nat} {B cnt : Nat} {kp : Value} {ρ : pm_S} {S : FS} {zb : Int32} {zc : Int32} {zd : Int32} {R : Int32 × FS} (hdd : 4 ≤ d) (hE : f_X0_choose_k8 S zb zc zd = some R) : pm_met mX0_choose d 0 0 B [.ref (B + 31), .int 8, .int zb, .int zc, .int zd] cnt (cst B kp S ρ) (pm_Qv (fun σ' cnt' => σ' = (cst B kp R.2 ρ) ∧ cnt' = cnt)) := by
  refine pm_enter 1 (by decide) (Nat.le_of_ble_eq_true rfl) rfl (fun G hG hR hF => ?_)
  unfold f_X0_choose_k8 at hE
  refine pm_iloadn hG dX0_choose_0 rfl ?_
  refine pm_aloadn hG dX0_choose_1 rfl ?_
  refine pm_getf hG dX0_choose_2 (flX0_115 _ rfl) rfl rfl ?_
  refine pm_icmp_le (tgt := 9) hG dX0_choose_5 rfl (fun c1 => ?_) (fun c1 => ?_)
  · replace c1 := Int32.not_lt.mpr c1
    replace hE := fx_f c1 hE
    refine pm_aloadn hG dX0_choose_9 rfl ?_
    refine pm_iloadi hG dX0_choose_10 rfl ?_
    refine pm_callV (As := [.int zd]) (rest := []) hG hR dX0_choose_12 (lkX0_125 _ rfl) okV_X0_isCarriedWith rfl rfl (c_X0_isCarriedWith (d := 3) (by decide) rfl) rfl rfl hdd (Nat.le_refl _) (Nat.le_refl _) (by decide) (fx_ki ?_)
    refine pm_if_eq (tgt := 24) hG dX0_choose_15 rfl (fun c2 => ?_) (fun c2 => ?_)
    · replace hE := fx_t c2 hE
      refine pm_iloadn hG dX0_choose_24 rfl ?_
      refine pm_bipush (v := 9) hG dX0_choose_25 (by decide) ?_
      refine pm_icmp_ge (tgt := 105) hG dX0_choose_27 rfl (fun q => absurd q (by decide)) (fun _ => ?_)
      refine pm_aloadn hG dX0_choose_30 rfl ?_
      refine pm_getf hG dX0_choose_31 (flX0_36 _ rfl) rfl rfl ?_
      refine pm_iloadn hG dX0_choose_34 rfl ?_
      refine pm_callV (As := [.int 8]) (rest := []) hG hR dX0_choose_35 (lkX0_131 _ rfl) okV_X9_has rfl rfl (thas_34 (d := 3)) rfl rfl hdd (Nat.le_refl _) (Nat.le_refl _) (by decide) (fx_ki ?_)
      refine pm_if_eq (tgt := 105) hG dX0_choose_38 rfl (fun c3 => ?_) (fun c3 => ?_)
      · replace hE := fx_t c3 hE
        exact pm_vret hG hF dX0_choose_105 rfl (Nat.le_refl _) (Nat.le_refl _) (fx_rvc hE)
      · replace hE := fx_f c3 hE
        refine pm_aloadn hG dX0_choose_41 rfl ?_
        refine pm_getf hG dX0_choose_42 (flX0_36 _ rfl) rfl rfl ?_
        refine pm_iloadn hG dX0_choose_45 rfl ?_
        refine pm_iconst (v := 0) hG dX0_choose_46 (by decide) ?_
        refine pm_callV (As := [.int 8, .int 0]) (rest := []) hG hR dX0_choose_47 (lkX0_39 _ rfl) okV_X9_get rfl rfl (tget_34 (d := 3)) rfl rfl hdd (Nat.le_refl _) (Nat.le_refl _) (by decide) (fx_ki ?_)
        refine fx_letv hE (fun x4 hE => ?_)
        refine pm_istoreXi (loc' := [some (.ref (B + 31)), some (.int 8), some (.int zb), some (.int zc), some (.int zd), some (.int x4)]) hG dX0_choose_50 (by decide) (pm_c1b rfl) rfl ?_
        refine pm_aloadn hG dX0_choose_52 rfl ?_
        refine pm_iloadn hG dX0_choose_53 rfl ?_
        refine pm_iconst (v := 1) hG dX0_choose_54 (by decide) ?_
        refine pm_iadd hG dX0_choose_55 ?_
        refine pm_top (v := 9) (by decide) ?_
        refine pm_iloadn hG dX0_choose_56 rfl ?_
        refine pm_iloadn hG dX0_choose_57 rfl ?_
        refine pm_iloadi hG dX0_choose_58 rfl ?_
        obtain ⟨r6, h5, hE⟩ := fb_some hE
        refine pm_callV (As := [.int 9, .int zb, .int zc, .int zd]) (rest := []) hG hR dX0_choose_60 (lkX0_121 _ rfl) okV_X0_choose rfl rfl (c_X0_choose_k9 (d := 3) (by decide) h5) rfl rfl hdd (Nat.le_refl _) (Nat.le_refl _) (by decide) (fx_kv ?_)
        refine pm_aloadn hG dX0_choose_63 rfl ?_
        refine pm_iloadn hG dX0_choose_64 rfl ?_
        refine pm_iconst (v := 1) hG dX0_choose_65 (by decide) ?_
        refine pm_iadd hG dX0_choose_66 ?_
        refine pm_top (v := 9) (by decide) ?_
        refine pm_iloadn hG dX0_choose_67 rfl ?_
        refine pm_iconst (v := 1) hG dX0_choose_68 (by decide) ?_
        refine pm_iloadi hG dX0_choose_69 rfl ?_
        refine pm_ishl hG dX0_choose_71 ?_
        refine pm_ior hG dX0_choose_72 ?_
        refine pm_iloadn hG dX0_choose_73 rfl ?_
        refine pm_aloadn hG dX0_choose_74 rfl ?_
        refine pm_getf hG dX0_choose_75 (flX0_9 _ rfl) rfl rfl ?_
        refine pm_getf hG dX0_choose_78 (flX0_63 _ rfl) rfl rfl ?_
        refine pm_iloadi hG dX0_choose_81 rfl ?_
        refine pm_bipush (v := 12) hG dX0_choose_83 (by decide) ?_
        refine pm_callV (As := [.int x4, .int 12]) (rest := [.int zc, .int (zb ||| ((1 : Int32) <<< (x4 &&& 31))), .int 9, .ref (B + 31)]) hG hR dX0_choose_85 (lkX0_39 _ rfl) okV_X9_get rfl rfl (tget_6 (d := 3)) rfl rfl hdd (Nat.le_refl _) (Nat.le_refl _) (by first | decide | exact Nat.le_of_ble_eq_true rfl) (fx_ki ?_)
        refine pm_iadd hG dX0_choose_88 ?_
        refine pm_iloadi hG dX0_choose_89 rfl ?_
        refine pm_aloadn hG dX0_choose_91 rfl ?_
        refine pm_getf hG dX0_choose_92 (flX0_33 _ rfl) rfl rfl ?_
        refine pm_iloadi hG dX0_choose_95 rfl ?_
        refine pm_iconst (v := 0) hG dX0_choose_97 (by decide) ?_
        refine pm_callV (As := [.int x4, .int 0]) (rest := [.int zd, .int (zc + (fG 6 20 14 r6.2 x4 12)), .int (zb ||| ((1 : Int32) <<< (x4 &&& 31))), .int 9, .ref (B + 31)]) hG hR dX0_choose_98 (lkX0_39 _ rfl) okV_X9_get rfl rfl (tget_32 (d := 3)) rfl rfl hdd (Nat.le_refl _) (Nat.le_refl _) (by first | decide | exact Nat.le_of_ble_eq_true rfl) (fx_ki ?_)
        refine pm_iadd hG dX0_choose_101 ?_
        obtain ⟨r8, h7, hE⟩ := fb_some hE
        refine pm_callV (As := [.int 9, .int (zb ||| ((1 : Int32) <<< (x4 &&& 31))), .int (zc + (fG 6 20 14 r6.2 x4 12)), .int (zd + (fG 32 20 1 r6.2 x4 0))]) (rest := []) hG hR dX0_choose_102 (lkX0_121 _ rfl) okV_X0_choose rfl rfl (c_X0_choose_k9 (d := 3) (by decide) h7) rfl rfl hdd (Nat.le_refl _) (Nat.le_refl _) (by decide) (fx_kv ?_)
        exact pm_vret hG hF dX0_choose_105 rfl (Nat.le_refl _) (Nat.le_refl _) (fx_rvc hE)
    · replace hE := fx_f c2 hE
      refine pm_aloadn hG dX0_choose_18 rfl ?_
      refine pm_iloadn hG dX0_choose_19 rfl ?_
      refine pm_iloadn hG dX0_choose_20 rfl ?_
      obtain ⟨r10, h9, hE⟩ := fb_some hE
      refine pm_callV (As := [.int zb, .int zc]) (rest := []) hG hR dX0_choose_21 (lkX0_128 _ rfl) okV_X0_keepIfBetter rfl rfl (c_X0_keepIfBetter (d := 3) (by decide) h9) rfl rfl hdd (Nat.le_refl _) (Nat.le_refl _) (by decide) (fx_kv ?_)
      refine pm_iloadn hG dX0_choose_24 rfl ?_
      refine pm_bipush (v := 9) hG dX0_choose_25 (by decide) ?_
      refine pm_icmp_ge (tgt := 105) hG dX0_choose_27 rfl (fun q => absurd q (by decide)) (fun _ => ?_)
      refine pm_aloadn hG dX0_choose_30 rfl ?_
      refine pm_getf hG dX0_choose_31 (flX0_36 _ rfl) rfl rfl ?_
      refine pm_iloadn hG dX0_choose_34 rfl ?_
      refine pm_callV (As := [.int 8]) (rest := []) hG hR dX0_choose_35 (lkX0_131 _ rfl) okV_X9_has rfl rfl (thas_34 (d := 3)) rfl rfl hdd (Nat.le_refl _) (Nat.le_refl _) (by decide) (fx_ki ?_)
      refine pm_if_eq (tgt := 105) hG dX0_choose_38 rfl (fun c11 => ?_) (fun c11 => ?_)
      · replace hE := fx_t c11 hE
        exact pm_vret hG hF dX0_choose_105 rfl (Nat.le_refl _) (Nat.le_refl _) (fx_rvc hE)
      · replace hE := fx_f c11 hE
        refine pm_aloadn hG dX0_choose_41 rfl ?_
        refine pm_getf hG dX0_choose_42 (flX0_36 _ rfl) rfl rfl ?_
        refine pm_iloadn hG dX0_choose_45 rfl ?_
        refine pm_iconst (v := 0) hG dX0_choose_46 (by decide) ?_
        refine pm_callV (As := [.int 8, .int 0]) (rest := []) hG hR dX0_choose_47 (lkX0_39 _ rfl) okV_X9_get rfl rfl (tget_34 (d := 3)) rfl rfl hdd (Nat.le_refl _) (Nat.le_refl _) (by decide) (fx_ki ?_)
        refine fx_letv hE (fun x12 hE => ?_)
        refine pm_istoreXi (loc' := [some (.ref (B + 31)), some (.int 8), some (.int zb), some (.int zc), some (.int zd), some (.int x12)]) hG dX0_choose_50 (by decide) (pm_c1b rfl) rfl ?_
        refine pm_aloadn hG dX0_choose_52 rfl ?_
        refine pm_iloadn hG dX0_choose_53 rfl ?_
        refine pm_iconst (v := 1) hG dX0_choose_54 (by decide) ?_
        refine pm_iadd hG dX0_choose_55 ?_
        refine pm_top (v := 9) (by decide) ?_
        refine pm_iloadn hG dX0_choose_56 rfl ?_
        refine pm_iloadn hG dX0_choose_57 rfl ?_
        refine pm_iloadi hG dX0_choose_58 rfl ?_
        obtain ⟨r14, h13, hE⟩ := fb_some hE
        refine pm_callV (As := [.int 9, .int zb, .int zc, .int zd]) (rest := []) hG hR dX0_choose_60 (lkX0_121 _ rfl) okV_X0_choose rfl rfl (c_X0_choose_k9 (d := 3) (by decide) h13) rfl rfl hdd (Nat.le_refl _) (Nat.le_refl _) (by decide) (fx_kv ?_)
        refine pm_aloadn hG dX0_choose_63 rfl ?_
        refine pm_iloadn hG dX0_choose_64 rfl ?_
        refine pm_iconst (v := 1) hG dX0_choose_65 (by decide) ?_
        refine pm_iadd hG dX0_choose_66 ?_
        refine pm_top (v := 9) (by decide) ?_
        refine pm_iloadn hG dX0_choose_67 rfl ?_
        refine pm_iconst (v := 1) hG dX0_choose_68 (by decide) ?_
        refine pm_iloadi hG dX0_choose_69 rfl ?_
        refine pm_ishl hG dX0_choose_71 ?_
        refine pm_ior hG dX0_choose_72 ?_
        refine pm_iloadn hG dX0_choose_73 rfl ?_
        refine pm_aloadn hG dX0_choose_74 rfl ?_
        refine pm_getf hG dX0_choose_75 (flX0_9 _ rfl) rfl rfl ?_
        refine pm_getf hG dX0_choose_78 (flX0_63 _ rfl) rfl rfl ?_
        refine pm_iloadi hG dX0_choose_81 rfl ?_
        refine pm_bipush (v := 12) hG dX0_choose_83 (by decide) ?_
        refine pm_callV (As := [.int x12, .int 12]) (rest := [.int zc, .int (zb ||| ((1 : Int32) <<< (x12 &&& 31))), .int 9, .ref (B + 31)]) hG hR dX0_choose_85 (lkX0_39 _ rfl) okV_X9_get rfl rfl (tget_6 (d := 3)) rfl rfl hdd (Nat.le_refl _) (Nat.le_refl _) (by first | decide | exact Nat.le_of_ble_eq_true rfl) (fx_ki ?_)
        refine pm_iadd hG dX0_choose_88 ?_
        refine pm_iloadi hG dX0_choose_89 rfl ?_
        refine pm_aloadn hG dX0_choose_91 rfl ?_
        refine pm_getf hG dX0_choose_92 (flX0_33 _ rfl) rfl rfl ?_
        refine pm_iloadi hG dX0_choose_95 rfl ?_
        refine pm_iconst (v := 0) hG dX0_choose_97 (by decide) ?_
        refine pm_callV (As := [.int x12, .int 0]) (rest := [.int zd, .int (zc + (fG 6 20 14 r14.2 x12 12)), .int (zb ||| ((1 : Int32) <<< (x12 &&& 31))), .int 9, .ref (B + 31)]) hG hR dX0_choose_98 (lkX0_39 _ rfl) okV_X9_get rfl rfl (tget_32 (d := 3)) rfl rfl hdd (Nat.le_refl _) (Nat.le_refl _) (by first | decide | exact Nat.le_of_ble_eq_true rfl) (fx_ki ?_)
        refine pm_iadd hG dX0_choose_101 ?_
        obtain ⟨r16, h15, hE⟩ := fb_some hE
        refine pm_callV (As := [.int 9, .int (zb ||| ((1 : Int32) <<< (x12 &&& 31))), .int (zc + (fG 6 20 14 r14.2 x12 12)), .int (zd + (fG 32 20 1 r14.2 x12 0))]) (rest := []) hG hR dX0_choose_102 (lkX0_121 _ rfl) okV_X0_choose rfl rfl (c_X0_choose_k9 (d := 3) (by decide) h15) rfl rfl hdd (Nat.le_refl _) (Nat.le_refl _) (by decide) (fx_kv ?_)
        exact pm_vret hG hF dX0_choose_105 rfl (Nat.le_refl _) (Nat.le_refl _) (fx_rvc hE)
  · replace c1 := Int32.not_le.mp c1
    replace hE := fx_t c1 hE
    exact pm_vret hG hF dX0_choose_8 rfl (Nat.le_refl _) (Nat.le_refl _) (fx_rvc hE)

set_option maxRecDepth 100000 in
set_option maxHeartbeats 4000000 in
theorem c_X0_choose_k7 {d : Nat} {B cnt : Nat} {kp : Value} {ρ : pm_S} {S : FS} {zb : Int32} {zc : Int32} {zd : Int32} {R : Int32 × FS} (hdd : 5 ≤ d) (hE : f_X0_choose_k7 S zb zc zd = some R) : pm_met mX0_choose d 0 0 B [.ref (B + 31), .int 7, .int zb, .int zc, .int zd] cnt (cst B kp S ρ) (pm_Qv (fun σ' cnt' => σ' = (cst B kp R.2 ρ) ∧ cnt' = cnt)) := by
  refine pm_enter 1 (by decide) (Nat.le_of_ble_eq_true rfl) rfl (fun G hG hR hF => ?_)
  unfold f_X0_choose_k7 at hE
  refine pm_iloadn hG dX0_choose_0 rfl ?_
  refine pm_aloadn hG dX0_choose_1 rfl ?_
  refine pm_getf hG dX0_choose_2 (flX0_115 _ rfl) rfl rfl ?_
  refine pm_icmp_le (tgt := 9) hG dX0_choose_5 rfl (fun c1 => ?_) (fun c1 => ?_)
  · replace c1 := Int32.not_lt.mpr c1
    replace hE := fx_f c1 hE
    refine pm_aloadn hG dX0_choose_9 rfl ?_
    refine pm_iloadi hG dX0_choose_10 rfl ?_
    refine pm_callV (As := [.int zd]) (rest := []) hG hR dX0_choose_12 (lkX0_125 _ rfl) okV_X0_isCarriedWith rfl rfl (c_X0_isCarriedWith (d := 4) (by decide) rfl) rfl rfl hdd (Nat.le_refl _) (Nat.le_refl _) (by decide) (fx_ki ?_)
    refine pm_if_eq (tgt := 24) hG dX0_choose_15 rfl (fun c2 => ?_) (fun c2 => ?_)
    · replace hE := fx_t c2 hE
      refine pm_iloadn hG dX0_choose_24 rfl ?_
      refine pm_bipush (v := 9) hG dX0_choose_25 (by decide) ?_
      refine pm_icmp_ge (tgt := 105) hG dX0_choose_27 rfl (fun q => absurd q (by decide)) (fun _ => ?_)
      refine pm_aloadn hG dX0_choose_30 rfl ?_
      refine pm_getf hG dX0_choose_31 (flX0_36 _ rfl) rfl rfl ?_
      refine pm_iloadn hG dX0_choose_34 rfl ?_
      refine pm_callV (As := [.int 7]) (rest := []) hG hR dX0_choose_35 (lkX0_131 _ rfl) okV_X9_has rfl rfl (thas_34 (d := 4)) rfl rfl hdd (Nat.le_refl _) (Nat.le_refl _) (by decide) (fx_ki ?_)
      refine pm_if_eq (tgt := 105) hG dX0_choose_38 rfl (fun c3 => ?_) (fun c3 => ?_)
      · replace hE := fx_t c3 hE
        exact pm_vret hG hF dX0_choose_105 rfl (Nat.le_refl _) (Nat.le_refl _) (fx_rvc hE)
      · replace hE := fx_f c3 hE
        refine pm_aloadn hG dX0_choose_41 rfl ?_
        refine pm_getf hG dX0_choose_42 (flX0_36 _ rfl) rfl rfl ?_
        refine pm_iloadn hG dX0_choose_45 rfl ?_
        refine pm_iconst (v := 0) hG dX0_choose_46 (by decide) ?_
        refine pm_callV (As := [.int 7, .int 0]) (rest := []) hG hR dX0_choose_47 (lkX0_39 _ rfl) okV_X9_get rfl rfl (tget_34 (d := 4)) rfl rfl hdd (Nat.le_refl _) (Nat.le_refl _) (by decide) (fx_ki ?_)
        refine fx_letv hE (fun x4 hE => ?_)
        refine pm_istoreXi (loc' := [some (.ref (B + 31)), some (.int 7), some (.int zb), some (.int zc), some (.int zd), some (.int x4)]) hG dX0_choose_50 (by decide) (pm_c1b rfl) rfl ?_
        refine pm_aloadn hG dX0_choose_52 rfl ?_
        refine pm_iloadn hG dX0_choose_53 rfl ?_
        refine pm_iconst (v := 1) hG dX0_choose_54 (by decide) ?_
        refine pm_iadd hG dX0_choose_55 ?_
        refine pm_top (v := 8) (by decide) ?_
        refine pm_iloadn hG dX0_choose_56 rfl ?_
        refine pm_iloadn hG dX0_choose_57 rfl ?_
        refine pm_iloadi hG dX0_choose_58 rfl ?_
        obtain ⟨r6, h5, hE⟩ := fb_some hE
        refine pm_callV (As := [.int 8, .int zb, .int zc, .int zd]) (rest := []) hG hR dX0_choose_60 (lkX0_121 _ rfl) okV_X0_choose rfl rfl (c_X0_choose_k8 (d := 4) (by decide) h5) rfl rfl hdd (Nat.le_refl _) (Nat.le_refl _) (by decide) (fx_kv ?_)
        refine pm_aloadn hG dX0_choose_63 rfl ?_
        refine pm_iloadn hG dX0_choose_64 rfl ?_
        refine pm_iconst (v := 1) hG dX0_choose_65 (by decide) ?_
        refine pm_iadd hG dX0_choose_66 ?_
        refine pm_top (v := 8) (by decide) ?_
        refine pm_iloadn hG dX0_choose_67 rfl ?_
        refine pm_iconst (v := 1) hG dX0_choose_68 (by decide) ?_
        refine pm_iloadi hG dX0_choose_69 rfl ?_
        refine pm_ishl hG dX0_choose_71 ?_
        refine pm_ior hG dX0_choose_72 ?_
        refine pm_iloadn hG dX0_choose_73 rfl ?_
        refine pm_aloadn hG dX0_choose_74 rfl ?_
        refine pm_getf hG dX0_choose_75 (flX0_9 _ rfl) rfl rfl ?_
        refine pm_getf hG dX0_choose_78 (flX0_63 _ rfl) rfl rfl ?_
        refine pm_iloadi hG dX0_choose_81 rfl ?_
        refine pm_bipush (v := 12) hG dX0_choose_83 (by decide) ?_
        refine pm_callV (As := [.int x4, .int 12]) (rest := [.int zc, .int (zb ||| ((1 : Int32) <<< (x4 &&& 31))), .int 8, .ref (B + 31)]) hG hR dX0_choose_85 (lkX0_39 _ rfl) okV_X9_get rfl rfl (tget_6 (d := 4)) rfl rfl hdd (Nat.le_refl _) (Nat.le_refl _) (by first | decide | exact Nat.le_of_ble_eq_true rfl) (fx_ki ?_)
        refine pm_iadd hG dX0_choose_88 ?_
        refine pm_iloadi hG dX0_choose_89 rfl ?_
        refine pm_aloadn hG dX0_choose_91 rfl ?_
        refine pm_getf hG dX0_choose_92 (flX0_33 _ rfl) rfl rfl ?_
        refine pm_iloadi hG dX0_choose_95 rfl ?_
        refine pm_iconst (v := 0) hG dX0_choose_97 (by decide) ?_
        refine pm_callV (As := [.int x4, .int 0]) (rest := [.int zd, .int (zc + (fG 6 20 14 r6.2 x4 12)), .int (zb ||| ((1 : Int32) <<< (x4 &&& 31))), .int 8, .ref (B + 31)]) hG hR dX0_choose_98 (lkX0_39 _ rfl) okV_X9_get rfl rfl (tget_32 (d := 4)) rfl rfl hdd (Nat.le_refl _) (Nat.le_refl _) (by first | decide | exact Nat.le_of_ble_eq_true rfl) (fx_ki ?_)
        refine pm_iadd hG dX0_choose_101 ?_
        obtain ⟨r8, h7, hE⟩ := fb_some hE
        refine pm_callV (As := [.int 8, .int (zb ||| ((1 : Int32) <<< (x4 &&& 31))), .int (zc + (fG 6 20 14 r6.2 x4 12)), .int (zd + (fG 32 20 1 r6.2 x4 0))]) (rest := []) hG hR dX0_choose_102 (lkX0_121 _ rfl) okV_X0_choose rfl rfl (c_X0_choose_k8 (d := 4) (by decide) h7) rfl rfl hdd (Nat.le_refl _) (Nat.le_refl _) (by decide) (fx_kv ?_)
        exact pm_vret hG hF dX0_choose_105 rfl (Nat.le_refl _) (Nat.le_refl _) (fx_rvc hE)
    · replace hE := fx_f c2 hE
      refine pm_aloadn hG dX0_choose_18 rfl ?_
      refine pm_iloadn hG dX0_choose_19 rfl ?_
      refine pm_iloadn hG dX0_choose_20 rfl ?_
      obtain ⟨r10, h9, hE⟩ := fb_some hE
      refine pm_callV (As := [.int zb, .int zc]) (rest := []) hG hR dX0_choose_21 (lkX0_128 _ rfl) okV_X0_keepIfBetter rfl rfl (c_X0_keepIfBetter (d := 4) (by decide) h9) rfl rfl hdd (Nat.le_refl _) (Nat.le_refl _) (by decide) (fx_kv ?_)
      refine pm_iloadn hG dX0_choose_24 rfl ?_
      refine pm_bipush (v := 9) hG dX0_choose_25 (by decide) ?_
      refine pm_icmp_ge (tgt := 105) hG dX0_choose_27 rfl (fun q => absurd q (by decide)) (fun _ => ?_)
      refine pm_aloadn hG dX0_choose_30 rfl ?_
      refine pm_getf hG dX0_choose_31 (flX0_36 _ rfl) rfl rfl ?_
      refine pm_iloadn hG dX0_choose_34 rfl ?_
      refine pm_callV (As := [.int 7]) (rest := []) hG hR dX0_choose_35 (lkX0_131 _ rfl) okV_X9_has rfl rfl (thas_34 (d := 4)) rfl rfl hdd (Nat.le_refl _) (Nat.le_refl _) (by decide) (fx_ki ?_)
      refine pm_if_eq (tgt := 105) hG dX0_choose_38 rfl (fun c11 => ?_) (fun c11 => ?_)
      · replace hE := fx_t c11 hE
        exact pm_vret hG hF dX0_choose_105 rfl (Nat.le_refl _) (Nat.le_refl _) (fx_rvc hE)
      · replace hE := fx_f c11 hE
        refine pm_aloadn hG dX0_choose_41 rfl ?_
        refine pm_getf hG dX0_choose_42 (flX0_36 _ rfl) rfl rfl ?_
        refine pm_iloadn hG dX0_choose_45 rfl ?_
        refine pm_iconst (v := 0) hG dX0_choose_46 (by decide) ?_
        refine pm_callV (As := [.int 7, .int 0]) (rest := []) hG hR dX0_choose_47 (lkX0_39 _ rfl) okV_X9_get rfl rfl (tget_34 (d := 4)) rfl rfl hdd (Nat.le_refl _) (Nat.le_refl _) (by decide) (fx_ki ?_)
        refine fx_letv hE (fun x12 hE => ?_)
        refine pm_istoreXi (loc' := [some (.ref (B + 31)), some (.int 7), some (.int zb), some (.int zc), some (.int zd), some (.int x12)]) hG dX0_choose_50 (by decide) (pm_c1b rfl) rfl ?_
        refine pm_aloadn hG dX0_choose_52 rfl ?_
        refine pm_iloadn hG dX0_choose_53 rfl ?_
        refine pm_iconst (v := 1) hG dX0_choose_54 (by decide) ?_
        refine pm_iadd hG dX0_choose_55 ?_
        refine pm_top (v := 8) (by decide) ?_
        refine pm_iloadn hG dX0_choose_56 rfl ?_
        refine pm_iloadn hG dX0_choose_57 rfl ?_
        refine pm_iloadi hG dX0_choose_58 rfl ?_
        obtain ⟨r14, h13, hE⟩ := fb_some hE
        refine pm_callV (As := [.int 8, .int zb, .int zc, .int zd]) (rest := []) hG hR dX0_choose_60 (lkX0_121 _ rfl) okV_X0_choose rfl rfl (c_X0_choose_k8 (d := 4) (by decide) h13) rfl rfl hdd (Nat.le_refl _) (Nat.le_refl _) (by decide) (fx_kv ?_)
        refine pm_aloadn hG dX0_choose_63 rfl ?_
        refine pm_iloadn hG dX0_choose_64 rfl ?_
        refine pm_iconst (v := 1) hG dX0_choose_65 (by decide) ?_
        refine pm_iadd hG dX0_choose_66 ?_
        refine pm_top (v := 8) (by decide) ?_
        refine pm_iloadn hG dX0_choose_67 rfl ?_
        refine pm_iconst (v := 1) hG dX0_choose_68 (by decide) ?_
        refine pm_iloadi hG dX0_choose_69 rfl ?_
        refine pm_ishl hG dX0_choose_71 ?_
        refine pm_ior hG dX0_choose_72 ?_
        refine pm_iloadn hG dX0_choose_73 rfl ?_
        refine pm_aloadn hG dX0_choose_74 rfl ?_
        refine pm_getf hG dX0_choose_75 (flX0_9 _ rfl) rfl rfl ?_
        refine pm_getf hG dX0_choose_78 (flX0_63 _ rfl) rfl rfl ?_
        refine pm_iloadi hG dX0_choose_81 rfl ?_
        refine pm_bipush (v := 12) hG dX0_choose_83 (by decide) ?_
        refine pm_callV (As := [.int x12, .int 12]) (rest := [.int zc, .int (zb ||| ((1 : Int32) <<< (x12 &&& 31))), .int 8, .ref (B + 31)]) hG hR dX0_choose_85 (lkX0_39 _ rfl) okV_X9_get rfl rfl (tget_6 (d := 4)) rfl rfl hdd (Nat.le_refl _) (Nat.le_refl _) (by first | decide | exact Nat.le_of_ble_eq_true rfl) (fx_ki ?_)
        refine pm_iadd hG dX0_choose_88 ?_
        refine pm_iloadi hG dX0_choose_89 rfl ?_
        refine pm_aloadn hG dX0_choose_91 rfl ?_
        refine pm_getf hG dX0_choose_92 (flX0_33 _ rfl) rfl rfl ?_
        refine pm_iloadi hG dX0_choose_95 rfl ?_
        refine pm_iconst (v := 0) hG dX0_choose_97 (by decide) ?_
        refine pm_callV (As := [.int x12, .int 0]) (rest := [.int zd, .int (zc + (fG 6 20 14 r14.2 x12 12)), .int (zb ||| ((1 : Int32) <<< (x12 &&& 31))), .int 8, .ref (B + 31)]) hG hR dX0_choose_98 (lkX0_39 _ rfl) okV_X9_get rfl rfl (tget_32 (d := 4)) rfl rfl hdd (Nat.le_refl _) (Nat.le_refl _) (by first | decide | exact Nat.le_of_ble_eq_true rfl) (fx_ki ?_)
        refine pm_iadd hG dX0_choose_101 ?_
        obtain ⟨r16, h15, hE⟩ := fb_some hE
        refine pm_callV (As := [.int 8, .int (zb ||| ((1 : Int32) <<< (x12 &&& 31))), .int (zc + (fG 6 20 14 r14.2 x12 12)), .int (zd + (fG 32 20 1 r14.2 x12 0))]) (rest := []) hG hR dX0_choose_102 (lkX0_121 _ rfl) okV_X0_choose rfl rfl (c_X0_choose_k8 (d := 4) (by decide) h15) rfl rfl hdd (Nat.le_refl _) (Nat.le_refl _) (by decide) (fx_kv ?_)
        exact pm_vret hG hF dX0_choose_105 rfl (Nat.le_refl _) (Nat.le_refl _) (fx_rvc hE)
  · replace c1 := Int32.not_le.mp c1
    replace hE := fx_t c1 hE
    exact pm_vret hG hF dX0_choose_8 rfl (Nat.le_refl _) (Nat.le_refl _) (fx_rvc hE)
end
