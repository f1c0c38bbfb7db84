set_option maxRecDepth 100000 in
set_option maxHeartbeats 4000000 in
theorem c_X2_comesTo {d : Nat} {B cnt : Nat} {kp : Value} {ρ : pm_S} {S : FS} {za : Int32} {zb : Int32} {zc : Int32} {zd : Int32} {R : Int32 × FS} (hdd : 3 ≤ d) (hE : f_X2_comesTo S za zb zc zd = some R) : pm_met mX2_comesTo d 0 0 B [.ref (B + 26), .int za, .int zb, .int zc, .int zd] cnt (cst B kp S ρ) (pm_Qi (fun v σ' cnt' => v = R.1 ∧ σ' = (cst B kp R.2 ρ) ∧ cnt' = cnt)) := by
  refine pm_enter 4 (by decide) (Nat.le_of_ble_eq_true rfl) rfl (fun G hG hR hF => ?_)
  unfold f_X2_comesTo at hE
  refine pm_aloadn hG dX2_comesTo_0 rfl ?_
  refine pm_getf hG dX2_comesTo_1 (flX2_9 _ rfl) rfl rfl ?_
  refine pm_getf hG dX2_comesTo_4 (flX2_43 _ rfl) rfl rfl ?_
  refine pm_iloadn hG dX2_comesTo_7 rfl ?_
  refine pm_iconst (v := 4) hG dX2_comesTo_8 (by decide) ?_
  refine pm_callV (As := [.int za, .int 4]) (rest := []) hG hR dX2_comesTo_9 (lkX2_67 _ rfl) okV_X9_get rfl rfl (tget_10 (d := 2)) rfl rfl hdd (Nat.le_refl _) (Nat.le_refl _) (by decide) (fx_ki ?_)
  refine fx_letv hE (fun x1 hE => ?_)
  refine pm_istoreXi (loc' := [some (.ref (B + 26)), some (.int za), some (.int zb), some (.int zc), some (.int zd), some (.int x1), none, none, none]) hG dX2_comesTo_12 (by decide) (pm_c1b rfl) rfl ?_
  refine pm_aloadn hG dX2_comesTo_14 rfl ?_
  refine pm_iconst (v := 0) hG dX2_comesTo_15 (by decide) ?_
  refine pm_putf hG dX2_comesTo_16 (fwX2_87 _ rfl) rfl rfl rfl ?_
  refine ci_104 ?_
  refine fx_letc hE (fun S2 hE => ?_)
  refine pm_iconst (v := 0) hG dX2_comesTo_19 (by decide) ?_
  refine pm_istoreXi (loc' := [some (.ref (B + 26)), some (.int za), some (.int zb), some (.int zc), some (.int zd), some (.int x1), some (.int 0), none, none]) hG dX2_comesTo_20 (by decide) (pm_c1b rfl) rfl ?_
  have loop22 : ∀ (k22 : FS → Int32 → Option (Int32 × FS)), (∀ (S3 : FS) (x3_6 : Int32), k22 S3  x3_6 = some R → pm_wp mX2_comesTo G B 137 [some (.ref (B + 26)), some (.int za), some (.int zb), some (.int zc), some (.int zd), some (.int x1), some (.int x3_6), none, none] [] 0 0 cnt (cst B kp S3 ρ)) → ∀ (m22 : Nat) (S3 : FS) (x3_6 : Int32), l_X2_comesTo_22 za zb zc zd x1 k22 m22 S3  x3_6 = some R → pm_wp mX2_comesTo G B 22 [some (.ref (B + 26)), some (.int za), some (.int zb), some (.int zc), some (.int zd), some (.int x1), some (.int x3_6), none, none] [] 0 0 cnt (cst B kp S3 ρ) := by
    intro k22 hk22 m22
    induction m22 with
    | zero => intro S3  x3_6 hE; exact fx_no hE
    | succ m22 ih22 =>
      intro S3  x3_6 hE
      rw [l_X2_comesTo_22] at hE
      refine pm_iloadi hG dX2_comesTo_22 rfl ?_
      refine pm_iloadi hG dX2_comesTo_24 rfl ?_
      refine pm_icmp_ge (tgt := 137) hG dX2_comesTo_26 rfl (fun c4 => ?_) (fun c4 => ?_)
      · replace c4 := Int32.not_lt.mpr c4
        replace hE := fx_f c4 hE
        exact hk22 _ _ hE
      · replace c4 := Int32.not_le.mp c4
        replace hE := fx_t c4 hE
        refine pm_aloadn hG dX2_comesTo_29 rfl ?_
        refine pm_getf hG dX2_comesTo_30 (flX2_9 _ rfl) rfl rfl ?_
        refine pm_getf hG dX2_comesTo_33 (flX2_64 _ rfl) rfl rfl ?_
        refine pm_iloadn hG dX2_comesTo_36 rfl ?_
        refine pm_iloadi hG dX2_comesTo_37 rfl ?_
        refine pm_callV (As := [.int za, .int x3_6]) (rest := []) hG hR dX2_comesTo_39 (lkX2_67 _ rfl) okV_X9_get rfl rfl (tget_12 (d := 2)) rfl rfl hdd (Nat.le_refl _) (Nat.le_refl _) (by decide) (fx_ki ?_)
        refine fx_letv hE (fun x5 hE => ?_)
        refine pm_istoreXi (loc' := [some (.ref (B + 26)), some (.int za), some (.int zb), some (.int zc), some (.int zd), some (.int x1), some (.int x3_6), some (.int x5), none]) hG dX2_comesTo_42 (by decide) (pm_c1b rfl) rfl ?_
        refine pm_iloadi hG dX2_comesTo_44 rfl ?_
        refine pm_if_lt (tgt := 58) hG dX2_comesTo_46 rfl (fun c6 => ?_) (fun c6 => ?_)
        · replace hE := fx_t c6 hE
          refine pm_iloadi hG dX2_comesTo_58 rfl ?_
          refine pm_bipush (v := (-20)) hG dX2_comesTo_60 (by decide) ?_
          refine pm_icmp_gt (tgt := 85) hG dX2_comesTo_62 rfl (fun c7 => ?_) (fun c7 => ?_)
          · replace hE := fx_t c7 hE
            refine pm_iloadi hG dX2_comesTo_85 rfl ?_
            refine pm_iconst (v := (-1)) hG dX2_comesTo_87 (by decide) ?_
            refine pm_icmp_ne (tgt := 110) hG dX2_comesTo_88 rfl (fun c8 => ?_) (fun c8 => ?_)
            · replace hE := fx_f c8 hE
              refine pm_aloadn hG dX2_comesTo_110 rfl ?_
              obtain ⟨r10, h9, hE⟩ := fb_some hE
              refine pm_callV (As := []) (rest := []) hG hR dX2_comesTo_111 (lkX2_97 _ rfl) okV_X2_pop rfl rfl (c_X2_pop (d := 2) (by decide) h9) rfl rfl hdd (Nat.le_refl _) (Nat.le_refl _) (by decide) (fx_ki ?_)
              refine pm_istoreXi (loc' := [some (.ref (B + 26)), some (.int za), some (.int zb), some (.int zc), some (.int zd), some (.int x1), some (.int x3_6), some (.int x5), some (.int r10.1)]) hG dX2_comesTo_114 (by decide) (pm_c1b rfl) rfl ?_
              refine pm_aloadn hG dX2_comesTo_116 rfl ?_
              refine pm_iloadi hG dX2_comesTo_117 rfl ?_
              refine pm_aloadn hG dX2_comesTo_119 rfl ?_
              obtain ⟨r12, h11, hE⟩ := fb_some hE
              refine pm_callV (As := []) (rest := [.int x5, .ref (B + 26)]) hG hR dX2_comesTo_120 (lkX2_97 _ rfl) okV_X2_pop rfl rfl (c_X2_pop (d := 2) (by decide) h11) rfl rfl hdd (Nat.le_refl _) (Nat.le_refl _) (by first | decide | exact Nat.le_of_ble_eq_true rfl) (fx_ki ?_)
              refine pm_iloadi hG dX2_comesTo_123 rfl ?_
              refine pm_callS (As := [.int x5, .int r12.1, .int r10.1]) (rest := [.ref (B + 26)]) hG hR dX2_comesTo_125 (lkX2_100 _ rfl) okS_X2_joined (c_X2_joined (d := 2) (by decide) rfl) rfl rfl hdd (Nat.le_refl _) (Nat.le_refl _) (by first | decide | exact Nat.le_of_ble_eq_true rfl) (fx_ki ?_)
              obtain ⟨r14, h13, hE⟩ := fb_some hE
              refine pm_callV (As := [.int (p_X2_joined r12.2 x5 r12.1 r10.1)]) (rest := []) hG hR dX2_comesTo_128 (lkX2_90 _ rfl) okV_X2_push rfl rfl (c_X2_push (d := 2) (by decide) h13) rfl rfl hdd (Nat.le_refl _) (Nat.le_refl _) (by decide) (fx_kv ?_)
              refine pm_iincX (v := x3_6 + 1) (loc' := [some (.ref (B + 26)), some (.int za), some (.int zb), some (.int zc), some (.int zd), some (.int x1), some (.int (x3_6 + 1)), some (.int x5), some (.int r10.1)]) hG dX2_comesTo_131 rfl (by rfl) (by decide) (pm_c1b rfl) rfl ?_
              refine pm_goto (tgt := 22) hG dX2_comesTo_134 rfl ?_
              refine pm_fg 7 (loc' := [some (.ref (B + 26)), some (.int za), some (.int zb), some (.int zc), some (.int zd), some (.int x1), some (.int (x3_6 + 1)), none, some (.int r10.1)]) rfl ?_
              refine pm_fg 8 (loc' := [some (.ref (B + 26)), some (.int za), some (.int zb), some (.int zc), some (.int zd), some (.int x1), some (.int (x3_6 + 1)), none, none]) rfl ?_
              exact ih22 _ _ hE
            · replace hE := fx_t c8 hE
              refine pm_aloadn hG dX2_comesTo_91 rfl ?_
              refine pm_aloadn hG dX2_comesTo_92 rfl ?_
              obtain ⟨r16, h15, hE⟩ := fb_some hE
              refine pm_callV (As := []) (rest := [.ref (B + 26)]) hG hR dX2_comesTo_93 (lkX2_97 _ rfl) okV_X2_pop rfl rfl (c_X2_pop (d := 2) (by decide) h15) rfl rfl hdd (Nat.le_refl _) (Nat.le_refl _) (by first | decide | exact Nat.le_of_ble_eq_true rfl) (fx_ki ?_)
              refine pm_if_ne (tgt := 103) hG dX2_comesTo_96 rfl (fun c17 => ?_) (fun c17 => ?_)
              · replace hE := fx_f c17 hE
                refine pm_iconst (v := 0) hG dX2_comesTo_103 (by decide) ?_
                obtain ⟨r19, h18, hE⟩ := fb_some hE
                refine pm_callV (As := [.int 0]) (rest := []) hG hR dX2_comesTo_104 (lkX2_90 _ rfl) okV_X2_push rfl rfl (c_X2_push (d := 2) (by decide) h18) rfl rfl hdd (Nat.le_refl _) (Nat.le_refl _) (by decide) (fx_kv ?_)
                refine pm_goto (tgt := 131) hG dX2_comesTo_107 rfl ?_
                refine pm_iincX (v := x3_6 + 1) (loc' := [some (.ref (B + 26)), some (.int za), some (.int zb), some (.int zc), some (.int zd), some (.int x1), some (.int (x3_6 + 1)), some (.int x5), none]) hG dX2_comesTo_131 rfl (by rfl) (by decide) (pm_c1b rfl) rfl ?_
                refine pm_goto (tgt := 22) hG dX2_comesTo_134 rfl ?_
                refine pm_fg 7 (loc' := [some (.ref (B + 26)), some (.int za), some (.int zb), some (.int zc), some (.int zd), some (.int x1), some (.int (x3_6 + 1)), none, none]) rfl ?_
                exact ih22 _ _ hE
              · replace hE := fx_t c17 hE
                refine pm_iconst (v := 1) hG dX2_comesTo_99 (by decide) ?_
                refine pm_goto (tgt := 104) hG dX2_comesTo_100 rfl ?_
                obtain ⟨r21, h20, hE⟩ := fb_some hE
                refine pm_callV (As := [.int 1]) (rest := []) hG hR dX2_comesTo_104 (lkX2_90 _ rfl) okV_X2_push rfl rfl (c_X2_push (d := 2) (by decide) h20) rfl rfl hdd (Nat.le_refl _) (Nat.le_refl _) (by decide) (fx_kv ?_)
                refine pm_goto (tgt := 131) hG dX2_comesTo_107 rfl ?_
                refine pm_iincX (v := x3_6 + 1) (loc' := [some (.ref (B + 26)), some (.int za), some (.int zb), some (.int zc), some (.int zd), some (.int x1), some (.int (x3_6 + 1)), some (.int x5), none]) hG dX2_comesTo_131 rfl (by rfl) (by decide) (pm_c1b rfl) rfl ?_
                refine pm_goto (tgt := 22) hG dX2_comesTo_134 rfl ?_
                refine pm_fg 7 (loc' := [some (.ref (B + 26)), some (.int za), some (.int zb), some (.int zc), some (.int zd), some (.int x1), some (.int (x3_6 + 1)), none, none]) rfl ?_
                exact ih22 _ _ hE
          · replace hE := fx_f c7 hE
            refine pm_aloadn hG dX2_comesTo_65 rfl ?_
            refine pm_aloadn hG dX2_comesTo_66 rfl ?_
            refine pm_bipush (v := (-20)) hG dX2_comesTo_67 (by decide) ?_
            refine pm_iloadi hG dX2_comesTo_69 rfl ?_
            refine pm_isub hG dX2_comesTo_71 ?_
            refine pm_iloadn hG dX2_comesTo_72 rfl ?_
            refine pm_iloadn hG dX2_comesTo_73 rfl ?_
            refine pm_iloadi hG dX2_comesTo_74 rfl ?_
            obtain ⟨x23, h22, hE⟩ := fb_some hE
            refine pm_callV (As := [.int ((-20) - x5), .int zb, .int zc, .int zd]) (rest := [.ref (B + 26)]) hG hR dX2_comesTo_76 (lkX2_94 _ rfl) okV_X2_named rfl rfl (c_X2_named (d := 2) (by decide) h22) rfl rfl hdd (Nat.le_refl _) (Nat.le_refl _) (by first | decide | exact Nat.le_of_ble_eq_true rfl) (fx_ki ?_)
            obtain ⟨r25, h24, hE⟩ := fb_some hE
            refine pm_callV (As := [.int x23]) (rest := []) hG hR dX2_comesTo_79 (lkX2_90 _ rfl) okV_X2_push rfl rfl (c_X2_push (d := 2) (by decide) h24) rfl rfl hdd (Nat.le_refl _) (Nat.le_refl _) (by decide) (fx_kv ?_)
            refine pm_goto (tgt := 131) hG dX2_comesTo_82 rfl ?_
            refine pm_iincX (v := x3_6 + 1) (loc' := [some (.ref (B + 26)), some (.int za), some (.int zb), some (.int zc), some (.int zd), some (.int x1), some (.int (x3_6 + 1)), some (.int x5), none]) hG dX2_comesTo_131 rfl (by rfl) (by decide) (pm_c1b rfl) rfl ?_
            refine pm_goto (tgt := 22) hG dX2_comesTo_134 rfl ?_
            refine pm_fg 7 (loc' := [some (.ref (B + 26)), some (.int za), some (.int zb), some (.int zc), some (.int zd), some (.int x1), some (.int (x3_6 + 1)), none, none]) rfl ?_
            exact ih22 _ _ hE
        · replace hE := fx_f c6 hE
          refine pm_aloadn hG dX2_comesTo_49 rfl ?_
          refine pm_iloadi hG dX2_comesTo_50 rfl ?_
          obtain ⟨r27, h26, hE⟩ := fb_some hE
          refine pm_callV (As := [.int x5]) (rest := []) hG hR dX2_comesTo_52 (lkX2_90 _ rfl) okV_X2_push rfl rfl (c_X2_push (d := 2) (by decide) h26) rfl rfl hdd (Nat.le_refl _) (Nat.le_refl _) (by decide) (fx_kv ?_)
          refine pm_goto (tgt := 131) hG dX2_comesTo_55 rfl ?_
          refine pm_iincX (v := x3_6 + 1) (loc' := [some (.ref (B + 26)), some (.int za), some (.int zb), some (.int zc), some (.int zd), some (.int x1), some (.int (x3_6 + 1)), some (.int x5), none]) hG dX2_comesTo_131 rfl (by rfl) (by decide) (pm_c1b rfl) rfl ?_
          refine pm_goto (tgt := 22) hG dX2_comesTo_134 rfl ?_
          refine pm_fg 7 (loc' := [some (.ref (B + 26)), some (.int za), some (.int zb), some (.int zc), some (.int zd), some (.int x1), some (.int (x3_6 + 1)), none, none]) rfl ?_
          exact ih22 _ _ hE
  refine loop22 _ (fun S28 x28_6 hE => ?_) _ _ _ hE
  refine pm_aloadn hG dX2_comesTo_137 rfl ?_
  obtain ⟨r30, h29, hE⟩ := fb_some hE
  refine pm_callV (As := []) (rest := []) hG hR dX2_comesTo_138 (lkX2_97 _ rfl) okV_X2_pop rfl rfl (c_X2_pop (d := 2) (by decide) h29) rfl rfl hdd (Nat.le_refl _) (Nat.le_refl _) (by decide) (fx_ki ?_)
  exact pm_iret hG hF dX2_comesTo_141 rfl (Nat.le_refl _) (Nat.le_refl _) (fx_ric hE)

set_option maxRecDepth 100000 in
set_option maxHeartbeats 4000000 in
theorem c_X0_weightOf {d : Nat} {B cnt : Nat} {kp : Value} {ρ : pm_S} {S : FS} {za : Int32} {zb : Int32} {R : Int32 × FS} (hdd : 4 ≤ d) (hE : f_X0_weightOf S za zb = some R) : pm_met mX0_weightOf d 0 0 B [.ref (B + 31), .int za, .int zb] cnt (cst B kp S ρ) (pm_Qi (fun v σ' cnt' => v = R.1 ∧ σ' = (cst B kp R.2 ρ) ∧ cnt' = cnt)) := by
  refine pm_enter 3 (by decide) (Nat.le_of_ble_eq_true rfl) rfl (fun G hG hR hF => ?_)
  unfold f_X0_weightOf at hE
  have join26 : ∀ (S1 : FS), j_X0_weightOf_26 za S1 = some R → pm_wp mX0_weightOf G B 26 [some (.ref (B + 31)), some (.int za), some (.int zb), none, none, none] [] 0 0 cnt (cst B kp S1 ρ) := by
    intro S1 hE
    unfold j_X0_weightOf_26 at hE
    refine pm_iconst (v := 1) hG dX0_weightOf_26 (by decide) ?_
    refine pm_istoreXn (loc' := [some (.ref (B + 31)), some (.int za), some (.int zb), some (.int 1), none, none]) hG dX0_weightOf_27 (by decide) (pm_c1b rfl) rfl ?_
    refine pm_aloadn hG dX0_weightOf_28 rfl ?_
    refine pm_getf hG dX0_weightOf_29 (flX0_9 _ rfl) rfl rfl ?_
    refine pm_getf hG dX0_weightOf_32 (flX0_104 _ rfl) rfl rfl ?_
    refine pm_callV (As := []) (rest := []) hG hR dX0_weightOf_35 (lkX0_47 _ rfl) okV_X9_used rfl rfl (tused_8 (d := 3)) rfl rfl hdd (Nat.le_refl _) (Nat.le_refl _) (by decide) (fx_ki ?_)
    refine fx_letv hE (fun x2 hE => ?_)
    refine pm_istoreXi (loc' := [some (.ref (B + 31)), some (.int za), some (.int zb), some (.int 1), some (.int x2), none]) hG dX0_weightOf_38 (by decide) (pm_c1b rfl) rfl ?_
    refine pm_iconst (v := 0) hG dX0_weightOf_40 (by decide) ?_
    refine pm_istoreXi (loc' := [some (.ref (B + 31)), some (.int za), some (.int zb), some (.int 1), some (.int x2), some (.int 0)]) hG dX0_weightOf_41 (by decide) (pm_c1b rfl) rfl ?_
    have loop43 : ∀ (k43 : FS → Int32 → Int32 → Option (Int32 × FS)), (∀ (S3 : FS) (x3_3 : Int32) (x3_5 : Int32), k43 S3  x3_3 x3_5 = some R → pm_wp mX0_weightOf G B 89 [some (.ref (B + 31)), some (.int za), some (.int zb), some (.int x3_3), some (.int x2), some (.int x3_5)] [] 0 0 cnt (cst B kp S3 ρ)) → ∀ (m43 : Nat) (S3 : FS) (x3_3 : Int32) (x3_5 : Int32), l_X0_weightOf_43 za x2 k43 m43 S3  x3_3 x3_5 = some R → pm_wp mX0_weightOf G B 43 [some (.ref (B + 31)), some (.int za), some (.int zb), some (.int x3_3), some (.int x2), some (.int x3_5)] [] 0 0 cnt (cst B kp S3 ρ) := by
      intro k43 hk43 m43
      induction m43 with
      | zero => intro S3  x3_3 x3_5 hE; exact fx_no hE
      | succ m43 ih43 =>
        intro S3  x3_3 x3_5 hE
        rw [l_X0_weightOf_43] at hE
        refine pm_iloadi hG dX0_weightOf_43 rfl ?_
        refine pm_iloadi hG dX0_weightOf_45 rfl ?_
        refine pm_icmp_ge (tgt := 89) hG dX0_weightOf_47 rfl (fun c4 => ?_) (fun c4 => ?_)
        · replace c4 := Int32.not_lt.mpr c4
          replace hE := fx_f c4 hE
          exact hk43 _ _ _ hE
        · replace c4 := Int32.not_le.mp c4
          replace hE := fx_t c4 hE
          refine pm_aloadn hG dX0_weightOf_50 rfl ?_
          refine pm_getf hG dX0_weightOf_51 (flX0_9 _ rfl) rfl rfl ?_
          refine pm_getf hG dX0_weightOf_54 (flX0_104 _ rfl) rfl rfl ?_
          refine pm_iloadi hG dX0_weightOf_57 rfl ?_
          refine pm_iconst (v := 2) hG dX0_weightOf_59 (by decide) ?_
          refine pm_callV (As := [.int x3_5, .int 2]) (rest := []) hG hR dX0_weightOf_60 (lkX0_39 _ rfl) okV_X9_get rfl rfl (tget_8 (d := 3)) rfl rfl hdd (Nat.le_refl _) (Nat.le_refl _) (by decide) (fx_ki ?_)
          refine pm_iloadn hG dX0_weightOf_63 rfl ?_
          refine pm_icmp_ne (tgt := 83) hG dX0_weightOf_64 rfl (fun c5 => ?_) (fun c5 => ?_)
          · replace hE := fx_f c5 hE
            refine pm_iincX (v := x3_5 + 1) (loc' := [some (.ref (B + 31)), some (.int za), some (.int zb), some (.int x3_3), some (.int x2), some (.int (x3_5 + 1))]) hG dX0_weightOf_83 rfl (by rfl) (by decide) (pm_c1b rfl) rfl ?_
            refine pm_goto (tgt := 43) hG dX0_weightOf_86 rfl ?_
            exact ih43 _ _ _ hE
          · replace hE := fx_t c5 hE
            refine pm_aloadn hG dX0_weightOf_67 rfl ?_
            refine pm_getf hG dX0_weightOf_68 (flX0_9 _ rfl) rfl rfl ?_
            refine pm_iloadi hG dX0_weightOf_71 rfl ?_
            refine pm_iconst (v := 1) hG dX0_weightOf_73 (by decide) ?_
            obtain ⟨x7, h6, hE⟩ := fb_some hE
            refine pm_callV (As := [.int x3_5, .int 1]) (rest := []) hG hR dX0_weightOf_74 (lkX0_107 _ rfl) okV_X7_isOfKind rfl rfl (c_X7_isOfKind (d := 3) (by decide) h6) rfl rfl hdd (Nat.le_refl _) (Nat.le_refl _) (by decide) (fx_ki ?_)
            refine pm_if_eq (tgt := 83) hG dX0_weightOf_77 rfl (fun c8 => ?_) (fun c8 => ?_)
            · replace hE := fx_t c8 hE
              refine pm_iincX (v := x3_5 + 1) (loc' := [some (.ref (B + 31)), some (.int za), some (.int zb), some (.int x3_3), some (.int x2), some (.int (x3_5 + 1))]) hG dX0_weightOf_83 rfl (by rfl) (by decide) (pm_c1b rfl) rfl ?_
              refine pm_goto (tgt := 43) hG dX0_weightOf_86 rfl ?_
              exact ih43 _ _ _ hE
            · replace hE := fx_f c8 hE
              refine pm_iincX (v := x3_3 + 1) (loc' := [some (.ref (B + 31)), some (.int za), some (.int zb), some (.int (x3_3 + 1)), some (.int x2), some (.int x3_5)]) hG dX0_weightOf_80 rfl (by rfl) (by decide) (pm_c1b rfl) rfl ?_
              refine pm_iincX (v := x3_5 + 1) (loc' := [some (.ref (B + 31)), some (.int za), some (.int zb), some (.int (x3_3 + 1)), some (.int x2), some (.int (x3_5 + 1))]) hG dX0_weightOf_83 rfl (by rfl) (by decide) (pm_c1b rfl) rfl ?_
              refine pm_goto (tgt := 43) hG dX0_weightOf_86 rfl ?_
              exact ih43 _ _ _ hE
    refine loop43 _ (fun S9 x9_3 x9_5 hE => ?_) _ _ _ _ hE
    refine pm_iloadn hG dX0_weightOf_89 rfl ?_
    exact pm_iret hG hF dX0_weightOf_90 rfl (Nat.le_refl _) (Nat.le_refl _) (fx_ric hE)
  refine pm_iloadn hG dX0_weightOf_0 rfl ?_
  refine pm_if_lt (tgt := 26) hG dX0_weightOf_1 rfl (fun c10 => ?_) (fun c10 => ?_)
  · replace hE := fx_t c10 hE
    exact join26 _ hE
  · replace hE := fx_f c10 hE
    refine pm_aloadn hG dX0_weightOf_4 rfl ?_
    refine pm_getf hG dX0_weightOf_5 (flX0_15 _ rfl) rfl rfl ?_
    refine pm_iloadn hG dX0_weightOf_8 rfl ?_
    refine pm_iloadn hG dX0_weightOf_9 rfl ?_
    refine pm_iconst (v := (-1)) hG dX0_weightOf_10 (by decide) ?_
    refine pm_aloadn hG dX0_weightOf_11 rfl ?_
    refine pm_getf hG dX0_weightOf_12 (flX0_9 _ rfl) rfl rfl ?_
    refine pm_getf hG dX0_weightOf_15 (flX0_43 _ rfl) rfl rfl ?_
    obtain ⟨r12, h11, hE⟩ := fb_some hE
    refine pm_callV (As := [.int zb, .int za, .int (-1), .int (S.1 102)]) (rest := []) hG hR dX0_weightOf_18 (lkX0_100 _ rfl) okV_X2_comesTo rfl rfl (c_X2_comesTo (d := 3) (by decide) h11) rfl rfl hdd (Nat.le_refl _) (Nat.le_refl _) (by decide) (fx_ki ?_)
    refine pm_if_ne (tgt := 26) hG dX0_weightOf_21 rfl (fun c13 => ?_) (fun c13 => ?_)
    · replace hE := fx_f c13 hE
      exact join26 _ hE
    · replace hE := fx_t c13 hE
      refine pm_iconst (v := 0) hG dX0_weightOf_24 (by decide) ?_
      exact pm_iret hG hF dX0_weightOf_25 rfl (Nat.le_refl _) (Nat.le_refl _) (fx_ric hE)

set_option maxRecDepth 100000 in
set_option maxHeartbeats 4000000 in
theorem c_X0_isPromisedFor {d : Nat} {B cnt : Nat} {kp : Value} {ρ : pm_S} {S : FS} {za : Int32} {zb : Int32} {R : Int32} (hdd : 2 ≤ d) (hE : q_X0_isPromisedFor S za zb = some R) : pm_met mX0_isPromisedFor d 0 0 B [.ref (B + 31), .int za, .int zb] cnt (cst B kp S ρ) (pm_Qi (fun v σ' cnt' => v = R ∧ σ' = (cst B kp S ρ) ∧ cnt' = cnt)) := by
  refine pm_enter 2 (by decide) (Nat.le_of_ble_eq_true rfl) rfl (fun G hG hR hF => ?_)
  unfold q_X0_isPromisedFor at hE
  refine pm_aloadn hG dX0_isPromisedFor_0 rfl ?_
  refine pm_getf hG dX0_isPromisedFor_1 (flX0_25 _ rfl) rfl rfl ?_
  refine pm_callV (As := []) (rest := []) hG hR dX0_isPromisedFor_4 (lkX0_47 _ rfl) okV_X9_used rfl rfl (tused_18 (d := 1)) rfl rfl hdd (Nat.le_refl _) (Nat.le_refl _) (by decide) (fx_ki ?_)
  refine fx_letv hE (fun x1 hE => ?_)
  refine pm_istoreXn (loc' := [some (.ref (B + 31)), some (.int za), some (.int zb), some (.int x1), none]) hG dX0_isPromisedFor_7 (by decide) (pm_c1b rfl) rfl ?_
  refine pm_iconst (v := 0) hG dX0_isPromisedFor_8 (by decide) ?_
  refine pm_istoreXi (loc' := [some (.ref (B + 31)), some (.int za), some (.int zb), some (.int x1), some (.int 0)]) hG dX0_isPromisedFor_9 (by decide) (pm_c1b rfl) rfl ?_
  have loop11 : ∀ (k11 : Int32 → Option Int32), (∀  (x2_4 : Int32), k11  x2_4 = some R → pm_wp mX0_isPromisedFor G B 76 [some (.ref (B + 31)), some (.int za), some (.int zb), some (.int x1), some (.int x2_4)] [] 0 0 cnt (cst B kp S ρ)) → ∀ (m11 : Nat)  (x2_4 : Int32), l_X0_isPromisedFor_11 za zb S x1 k11 m11  x2_4 = some R → pm_wp mX0_isPromisedFor G B 11 [some (.ref (B + 31)), some (.int za), some (.int zb), some (.int x1), some (.int x2_4)] [] 0 0 cnt (cst B kp S ρ) := by
    intro k11 hk11 m11
    induction m11 with
    | zero => intro  x2_4 hE; exact fx_no hE
    | succ m11 ih11 =>
      intro  x2_4 hE
      rw [l_X0_isPromisedFor_11] at hE
      refine pm_iloadi hG dX0_isPromisedFor_11 rfl ?_
      refine pm_iloadn hG dX0_isPromisedFor_13 rfl ?_
      refine pm_icmp_ge (tgt := 76) hG dX0_isPromisedFor_14 rfl (fun c3 => ?_) (fun c3 => ?_)
      · replace c3 := Int32.not_lt.mpr c3
        replace hE := fx_f c3 hE
        exact hk11 _ hE
      · replace c3 := Int32.not_le.mp c3
        replace hE := fx_t c3 hE
        refine pm_aloadn hG dX0_isPromisedFor_17 rfl ?_
        refine pm_getf hG dX0_isPromisedFor_18 (flX0_25 _ rfl) rfl rfl ?_
        refine pm_iloadi hG dX0_isPromisedFor_21 rfl ?_
        refine pm_iconst (v := 0) hG dX0_isPromisedFor_23 (by decide) ?_
        refine pm_callV (As := [.int x2_4, .int 0]) (rest := []) hG hR dX0_isPromisedFor_24 (lkX0_39 _ rfl) okV_X9_get rfl rfl (tget_18 (d := 1)) rfl rfl hdd (Nat.le_refl _) (Nat.le_refl _) (by decide) (fx_ki ?_)
        refine pm_iloadn hG dX0_isPromisedFor_27 rfl ?_
        refine pm_icmp_ne (tgt := 70) hG dX0_isPromisedFor_28 rfl (fun c4 => ?_) (fun c4 => ?_)
        · replace hE := fx_f c4 hE
          refine pm_iincX (v := x2_4 + 1) (loc' := [some (.ref (B + 31)), some (.int za), some (.int zb), some (.int x1), some (.int (x2_4 + 1))]) hG dX0_isPromisedFor_70 rfl (by rfl) (by decide) (pm_c1b rfl) rfl ?_
          refine pm_goto (tgt := 11) hG dX0_isPromisedFor_73 rfl ?_
          exact ih11 _ hE
        · replace hE := fx_t c4 hE
          refine pm_aloadn hG dX0_isPromisedFor_31 rfl ?_
          refine pm_getf hG dX0_isPromisedFor_32 (flX0_25 _ rfl) rfl rfl ?_
          refine pm_iloadi hG dX0_isPromisedFor_35 rfl ?_
          refine pm_iconst (v := 1) hG dX0_isPromisedFor_37 (by decide) ?_
          refine pm_callV (As := [.int x2_4, .int 1]) (rest := []) hG hR dX0_isPromisedFor_38 (lkX0_39 _ rfl) okV_X9_get rfl rfl (tget_18 (d := 1)) rfl rfl hdd (Nat.le_refl _) (Nat.le_refl _) (by decide) (fx_ki ?_)
          refine pm_iloadn hG dX0_isPromisedFor_41 rfl ?_
          refine pm_icmp_ne (tgt := 70) hG dX0_isPromisedFor_42 rfl (fun c5 => ?_) (fun c5 => ?_)
          · replace hE := fx_f c5 hE
            refine pm_iincX (v := x2_4 + 1) (loc' := [some (.ref (B + 31)), some (.int za), some (.int zb), some (.int x1), some (.int (x2_4 + 1))]) hG dX0_isPromisedFor_70 rfl (by rfl) (by decide) (pm_c1b rfl) rfl ?_
            refine pm_goto (tgt := 11) hG dX0_isPromisedFor_73 rfl ?_
            exact ih11 _ hE
          · replace hE := fx_t c5 hE
            refine pm_aloadn hG dX0_isPromisedFor_45 rfl ?_
            refine pm_getf hG dX0_isPromisedFor_46 (flX0_25 _ rfl) rfl rfl ?_
            refine pm_iloadi hG dX0_isPromisedFor_49 rfl ?_
            refine pm_iconst (v := 3) hG dX0_isPromisedFor_51 (by decide) ?_
            refine pm_callV (As := [.int x2_4, .int 3]) (rest := []) hG hR dX0_isPromisedFor_52 (lkX0_39 _ rfl) okV_X9_get rfl rfl (tget_18 (d := 1)) rfl rfl hdd (Nat.le_refl _) (Nat.le_refl _) (by decide) (fx_ki ?_)
            refine pm_iconst (v := 1) hG dX0_isPromisedFor_55 (by decide) ?_
            refine pm_icmp_ne (tgt := 70) hG dX0_isPromisedFor_56 rfl (fun c6 => ?_) (fun c6 => ?_)
            · replace hE := fx_f c6 hE
              refine pm_iincX (v := x2_4 + 1) (loc' := [some (.ref (B + 31)), some (.int za), some (.int zb), some (.int x1), some (.int (x2_4 + 1))]) hG dX0_isPromisedFor_70 rfl (by rfl) (by decide) (pm_c1b rfl) rfl ?_
              refine pm_goto (tgt := 11) hG dX0_isPromisedFor_73 rfl ?_
              exact ih11 _ hE
            · replace hE := fx_t c6 hE
              refine pm_aloadn hG dX0_isPromisedFor_59 rfl ?_
              refine pm_iloadi hG dX0_isPromisedFor_60 rfl ?_
              refine pm_callV (As := [.int x2_4]) (rest := []) hG hR dX0_isPromisedFor_62 (lkX0_51 _ rfl) okV_X0_stands rfl rfl (c_X0_stands (d := 1) (by decide) rfl) rfl rfl hdd (Nat.le_refl _) (Nat.le_refl _) (by decide) (fx_ki ?_)
              refine pm_if_eq (tgt := 70) hG dX0_isPromisedFor_65 rfl (fun c7 => ?_) (fun c7 => ?_)
              · replace hE := fx_t c7 hE
                refine pm_iincX (v := x2_4 + 1) (loc' := [some (.ref (B + 31)), some (.int za), some (.int zb), some (.int x1), some (.int (x2_4 + 1))]) hG dX0_isPromisedFor_70 rfl (by rfl) (by decide) (pm_c1b rfl) rfl ?_
                refine pm_goto (tgt := 11) hG dX0_isPromisedFor_73 rfl ?_
                exact ih11 _ hE
              · replace hE := fx_f c7 hE
                refine pm_iconst (v := 1) hG dX0_isPromisedFor_68 (by decide) ?_
                exact pm_zret hG hF dX0_isPromisedFor_69 rfl (by rfl) (Nat.le_refl _) (Nat.le_refl _) (fx_pi (Option.some.inj hE))
  refine loop11 _ (fun  x8_4 hE => ?_) _ _ hE
  refine pm_iconst (v := 0) hG dX0_isPromisedFor_76 (by decide) ?_
  exact pm_zret hG hF dX0_isPromisedFor_77 rfl (by rfl) (Nat.le_refl _) (Nat.le_refl _) (fx_pi (Option.some.inj hE))

set_option maxRecDepth 100000 in
set_option maxHeartbeats 4000000 in
theorem c_X0_weighOne {d : Nat} {B cnt : Nat} {kp : Value} {ρ : pm_S} {S : FS} {za : Int32} {zb : Int32} {zc : Int32} {R : Int32 × FS} (hdd : 3 ≤ d) (hE : f_X0_weighOne S za zb zc = some R) : pm_met mX0_weighOne d 0 0 B [.ref (B + 31), .int za, .int zb, .int zc] cnt (cst B kp S ρ) (pm_Qv (fun σ' cnt' => σ' = (cst B kp R.2 ρ) ∧ cnt' = cnt)) := by
  refine pm_enter 0 (by decide) (Nat.le_of_ble_eq_true rfl) rfl (fun G hG hR hF => ?_)
  unfold f_X0_weighOne at hE
  refine pm_aloadn hG dX0_weighOne_0 rfl ?_
  refine pm_getf hG dX0_weighOne_1 (flX0_33 _ rfl) rfl rfl ?_
  refine pm_iloadn hG dX0_weighOne_4 rfl ?_
  refine pm_iconst (v := 0) hG dX0_weighOne_5 (by decide) ?_
  refine pm_iloadn hG dX0_weighOne_6 rfl ?_
  refine pm_callV (As := [.int za, .int 0, .int zc]) (rest := []) hG hR dX0_weighOne_7 (lkX0_55 _ rfl) okV_X9_set rfl rfl (tset_32 (d := 2)) rfl rfl hdd (Nat.le_refl _) (Nat.le_refl _) (by decide) (fx_kv ?_)
  refine fx_letc hE (fun S1 hE => ?_)
  refine pm_aloadn hG dX0_weighOne_10 rfl ?_
  refine pm_dup hG dX0_weighOne_11 rfl ?_
  refine pm_getf hG dX0_weighOne_12 (flX0_72 _ rfl) rfl rfl ?_
  refine pm_iloadn hG dX0_weighOne_15 rfl ?_
  refine pm_iadd hG dX0_weighOne_16 ?_
  refine pm_putf hG dX0_weighOne_17 (fwX0_72 _ rfl) rfl rfl rfl ?_
  refine ci_108 ?_
  refine fx_letc hE (fun S2 hE => ?_)
  refine pm_aloadn hG dX0_weighOne_20 rfl ?_
  refine pm_iloadn hG dX0_weighOne_21 rfl ?_
  refine pm_iloadn hG dX0_weighOne_22 rfl ?_
  obtain ⟨x4, h3, hE⟩ := fb_some hE
  refine pm_callV (As := [.int za, .int zb]) (rest := []) hG hR dX0_weighOne_23 (lkX0_87 _ rfl) okV_X0_isPromisedFor rfl rfl (c_X0_isPromisedFor (d := 2) (by decide) h3) rfl rfl hdd (Nat.le_refl _) (Nat.le_refl _) (by decide) (fx_ki ?_)
  refine pm_if_eq (tgt := 42) hG dX0_weighOne_26 rfl (fun c5 => ?_) (fun c5 => ?_)
  · replace hE := fx_t c5 hE
    refine pm_aloadn hG dX0_weighOne_42 rfl ?_
    refine pm_getf hG dX0_weighOne_43 (flX0_36 _ rfl) rfl rfl ?_
    refine pm_iloadn hG dX0_weighOne_46 rfl ?_
    obtain ⟨r7, h6, hE⟩ := fb_some hE
    refine pm_callV (As := [.int za]) (rest := []) hG hR dX0_weighOne_47 (lkX0_59 _ rfl) okV_X9_append rfl rfl (tappend_34 (d := 2) (by decide) h6) rfl rfl hdd (Nat.le_refl _) (Nat.le_refl _) (by decide) (fx_ki ?_)
    refine pm_pop hG dX0_weighOne_50 rfl ?_
    exact pm_vret hG hF dX0_weighOne_51 rfl (Nat.le_refl _) (Nat.le_refl _) (fx_rvc hE)
  · replace hE := fx_f c5 hE
    refine pm_aloadn hG dX0_weighOne_29 rfl ?_
    refine pm_dup hG dX0_weighOne_30 rfl ?_
    refine pm_getf hG dX0_weighOne_31 (flX0_69 _ rfl) rfl rfl ?_
    refine pm_iloadn hG dX0_weighOne_34 rfl ?_
    refine pm_iadd hG dX0_weighOne_35 ?_
    refine pm_putf hG dX0_weighOne_36 (fwX0_69 _ rfl) rfl rfl rfl ?_
    refine ci_107 ?_
    refine fx_letc hE (fun S8 hE => ?_)
    refine pm_goto (tgt := 51) hG dX0_weighOne_39 rfl ?_
    exact pm_vret hG hF dX0_weighOne_51 rfl (Nat.le_refl _) (Nat.le_refl _) (fx_rvc hE)

set_option maxRecDepth 100000 in
set_option maxHeartbeats 4000000 in
theorem c_X0_weigh {d : Nat} {B cnt : Nat} {kp : Value} {ρ : pm_S} {S : FS} {za : Int32} {R : Int32 × FS} (hdd : 5 ≤ d) (hE : f_X0_weigh S za = some R) : pm_met mX0_weigh d 0 0 B [.ref (B + 31), .int za] cnt (cst B kp S ρ) (pm_Qv (fun σ' cnt' => σ' = (cst B kp R.2 ρ) ∧ cnt' = cnt)) := by
  refine pm_enter 3 (by decide) (Nat.le_of_ble_eq_true rfl) rfl (fun G hG hR hF => ?_)
  unfold f_X0_weigh at hE
  refine pm_aloadn hG dX0_weigh_0 rfl ?_
  refine pm_iconst (v := 0) hG dX0_weigh_1 (by decide) ?_
  refine pm_putf hG dX0_weigh_2 (fwX0_69 _ rfl) rfl rfl rfl ?_
  refine ci_107 ?_
  refine fx_letc hE (fun S1 hE => ?_)
  refine pm_aloadn hG dX0_weigh_5 rfl ?_
  refine pm_iconst (v := 0) hG dX0_weigh_6 (by decide) ?_
  refine pm_putf hG dX0_weigh_7 (fwX0_72 _ rfl) rfl rfl rfl ?_
  refine ci_108 ?_
  refine fx_letc hE (fun S2 hE => ?_)
  refine pm_aloadn hG dX0_weigh_10 rfl ?_
  refine pm_getf hG dX0_weigh_11 (flX0_36 _ rfl) rfl rfl ?_
  refine pm_callV (As := []) (rest := []) hG hR dX0_weigh_14 (lkX0_75 _ rfl) okV_X9_clear rfl rfl (tclear_34 (d := 4)) rfl rfl hdd (Nat.le_refl _) (Nat.le_refl _) (by decide) (fx_kv ?_)
  refine fx_letc hE (fun S3 hE => ?_)
  refine pm_aloadn hG dX0_weigh_17 rfl ?_
  obtain ⟨x5, h4, hE⟩ := fb_some hE
  refine pm_callV (As := []) (rest := []) hG hR dX0_weigh_18 (lkX0_78 _ rfl) okV_X0_ruleInForce rfl rfl (c_X0_ruleInForce (d := 4) (by decide) h4) rfl rfl hdd (Nat.le_refl _) (Nat.le_refl _) (by decide) (fx_ki ?_)
  refine pm_istoreXn (loc' := [some (.ref (B + 31)), some (.int za), some (.int x5), none, none]) hG dX0_weigh_21 (by decide) (pm_c1b rfl) rfl ?_
  refine pm_aloadn hG dX0_weigh_22 rfl ?_
  refine pm_getf hG dX0_weigh_23 (flX0_9 _ rfl) rfl rfl ?_
  refine pm_getf hG dX0_weigh_26 (flX0_63 _ rfl) rfl rfl ?_
  refine pm_callV (As := []) (rest := []) hG hR dX0_weigh_29 (lkX0_47 _ rfl) okV_X9_used rfl rfl (tused_6 (d := 4)) rfl rfl hdd (Nat.le_refl _) (Nat.le_refl _) (by decide) (fx_ki ?_)
  refine fx_letv hE (fun x6 hE => ?_)
  refine pm_istoreXn (loc' := [some (.ref (B + 31)), some (.int za), some (.int x5), some (.int x6), none]) hG dX0_weigh_32 (by decide) (pm_c1b rfl) rfl ?_
  refine pm_iconst (v := 0) hG dX0_weigh_33 (by decide) ?_
  refine pm_istoreXi (loc' := [some (.ref (B + 31)), some (.int za), some (.int x5), some (.int x6), some (.int 0)]) hG dX0_weigh_34 (by decide) (pm_c1b rfl) rfl ?_
  have loop36 : ∀ (k36 : FS → Int32 → Option (Int32 × FS)), (∀ (S7 : FS) (x7_4 : Int32), k36 S7  x7_4 = some R → pm_wp mX0_weigh G B 79 [some (.ref (B + 31)), some (.int za), some (.int x5), some (.int x6), some (.int x7_4)] [] 0 0 cnt (cst B kp S7 ρ)) → ∀ (m36 : Nat) (S7 : FS) (x7_4 : Int32), l_X0_weigh_36 za x5 x6 k36 m36 S7  x7_4 = some R → pm_wp mX0_weigh G B 36 [some (.ref (B + 31)), some (.int za), some (.int x5), some (.int x6), some (.int x7_4)] [] 0 0 cnt (cst B kp S7 ρ) := by
    intro k36 hk36 m36
    induction m36 with
    | zero => intro S7  x7_4 hE; exact fx_no hE
    | succ m36 ih36 =>
      intro S7  x7_4 hE
      rw [l_X0_weigh_36] at hE
      refine pm_iloadi hG dX0_weigh_36 rfl ?_
      refine pm_iloadn hG dX0_weigh_38 rfl ?_
      refine pm_icmp_ge (tgt := 79) hG dX0_weigh_39 rfl (fun c8 => ?_) (fun c8 => ?_)
      · replace c8 := Int32.not_lt.mpr c8
        replace hE := fx_f c8 hE
        exact hk36 _ _ hE
      · replace c8 := Int32.not_le.mp c8
        replace hE := fx_t c8 hE
        refine pm_aloadn hG dX0_weigh_42 rfl ?_
        refine pm_getf hG dX0_weigh_43 (flX0_9 _ rfl) rfl rfl ?_
        refine pm_getf hG dX0_weigh_46 (flX0_63 _ rfl) rfl rfl ?_
        refine pm_iloadi hG dX0_weigh_49 rfl ?_
        refine pm_bipush (v := 13) hG dX0_weigh_51 (by decide) ?_
        refine pm_callV (As := [.int x7_4, .int 13]) (rest := []) hG hR dX0_weigh_53 (lkX0_39 _ rfl) okV_X9_get rfl rfl (tget_6 (d := 4)) rfl rfl hdd (Nat.le_refl _) (Nat.le_refl _) (by decide) (fx_ki ?_)
        refine pm_if_eq (tgt := 73) hG dX0_weigh_56 rfl (fun c9 => ?_) (fun c9 => ?_)
        · replace hE := fx_t c9 hE
          refine pm_iincX (v := x7_4 + 1) (loc' := [some (.ref (B + 31)), some (.int za), some (.int x5), some (.int x6), some (.int (x7_4 + 1))]) hG dX0_weigh_73 rfl (by rfl) (by decide) (pm_c1b rfl) rfl ?_
          refine pm_goto (tgt := 36) hG dX0_weigh_76 rfl ?_
          exact ih36 _ _ hE
        · replace hE := fx_f c9 hE
          refine pm_aloadn hG dX0_weigh_59 rfl ?_
          refine pm_iloadi hG dX0_weigh_60 rfl ?_
          refine pm_iloadn hG dX0_weigh_62 rfl ?_
          refine pm_aloadn hG dX0_weigh_63 rfl ?_
          refine pm_iloadi hG dX0_weigh_64 rfl ?_
          refine pm_iloadn hG dX0_weigh_66 rfl ?_
          obtain ⟨r11, h10, hE⟩ := fb_some hE
          refine pm_callV (As := [.int x7_4, .int x5]) (rest := [.int za, .int x7_4, .ref (B + 31)]) hG hR dX0_weigh_67 (lkX0_81 _ rfl) okV_X0_weightOf rfl rfl (c_X0_weightOf (d := 4) (by decide) h10) rfl rfl hdd (Nat.le_refl _) (Nat.le_refl _) (by first | decide | exact Nat.le_of_ble_eq_true rfl) (fx_ki ?_)
          obtain ⟨r13, h12, hE⟩ := fb_some hE
          refine pm_callV (As := [.int x7_4, .int za, .int r11.1]) (rest := []) hG hR dX0_weigh_70 (lkX0_84 _ rfl) okV_X0_weighOne rfl rfl (c_X0_weighOne (d := 4) (by decide) h12) rfl rfl hdd (Nat.le_refl _) (Nat.le_refl _) (by decide) (fx_kv ?_)
          refine pm_iincX (v := x7_4 + 1) (loc' := [some (.ref (B + 31)), some (.int za), some (.int x5), some (.int x6), some (.int (x7_4 + 1))]) hG dX0_weigh_73 rfl (by rfl) (by decide) (pm_c1b rfl) rfl ?_
          refine pm_goto (tgt := 36) hG dX0_weigh_76 rfl ?_
          exact ih36 _ _ hE
  refine loop36 _ (fun S14 x14_4 hE => ?_) _ _ _ hE
  exact pm_vret hG hF dX0_weigh_79 rfl (Nat.le_refl _) (Nat.le_refl _) (fx_rvc hE)

set_option maxRecDepth 100000 in
set_option maxHeartbeats 4000000 in
theorem c_X0_isCarriedWith {d : Nat} {B cnt : Nat} {kp : Value} {ρ : pm_S} {S : FS} {za : Int32} {R : Int32} (hdd : 1 ≤ d) (hE : p_X0_isCarriedWith S za = R) : pm_met mX0_isCarriedWith d 0 0 B [.ref (B + 31), .int za] cnt (cst B kp S ρ) (pm_Qi (fun v σ' cnt' => v = R ∧ σ' = (cst B kp S ρ) ∧ cnt' = cnt)) := by
  refine pm_enter 0 (by decide) (Nat.le_of_ble_eq_true rfl) rfl (fun G hG hR hF => ?_)
  unfold p_X0_isCarriedWith at hE
  refine pm_iconst (v := 2) hG dX0_isCarriedWith_0 (by decide) ?_
  refine pm_aloadn hG dX0_isCarriedWith_1 rfl ?_
  refine pm_getf hG dX0_isCarriedWith_2 (flX0_69 _ rfl) rfl rfl ?_
  refine pm_iloadn hG dX0_isCarriedWith_5 rfl ?_
  refine pm_iadd hG dX0_isCarriedWith_6 ?_
  refine pm_imul hG dX0_isCarriedWith_7 ?_
  refine pm_aloadn hG dX0_isCarriedWith_8 rfl ?_
  refine pm_getf hG dX0_isCarriedWith_9 (flX0_72 _ rfl) rfl rfl ?_
  refine pm_icmp_le (tgt := 19) hG dX0_isCarriedWith_12 rfl (fun c1 => ?_) (fun c1 => ?_)
  · replace c1 := Int32.not_lt.mpr c1
    replace hE := fx_f c1 hE
    refine pm_iconst (v := 0) hG dX0_isCarriedWith_19 (by decide) ?_
    exact pm_zret hG hF dX0_isCarriedWith_20 rfl (by rfl) (Nat.le_refl _) (Nat.le_refl _) (fx_pi hE)
  · replace c1 := Int32.not_le.mp c1
    replace hE := fx_t c1 hE
    refine pm_iconst (v := 1) hG dX0_isCarriedWith_15 (by decide) ?_
    refine pm_goto (tgt := 20) hG dX0_isCarriedWith_16 rfl ?_
    exact pm_zret hG hF dX0_isCarriedWith_20 rfl (by rfl) (Nat.le_refl _) (Nat.le_refl _) (fx_pi hE)

set_option maxRecDepth 100000 in
set_option maxHeartbeats 4000000 in
theorem c_X0_keepIfBetter {d : Nat} {B cnt : Nat} {kp : Value} {ρ : pm_S} {S : FS} {za : Int32} {zb : Int32} {R : Int32 × FS} (hdd : 2 ≤ d) (hE : f_X0_keepIfBetter S za zb = some R) : pm_met mX0_keepIfBetter d 0 0 B [.ref (B + 31), .int za, .int zb] cnt (cst B kp S ρ) (pm_Qv (fun σ' cnt' => σ' = (cst B kp R.2 ρ) ∧ cnt' = cnt)) := by
  refine pm_enter 2 (by decide) (Nat.le_of_ble_eq_true rfl) rfl (fun G hG hR hF => ?_)
  unfold f_X0_keepIfBetter at hE
  refine pm_iloadn hG dX0_keepIfBetter_0 rfl ?_
  refine pm_callS (As := [.int za]) (rest := []) hG hR dX0_keepIfBetter_1 (lkX0_134 _ rfl) okS_J6_bitCount_0f7a4 (c_J6_bitCount_0f7a4 (d := 1) (by decide) rfl) rfl rfl hdd (Nat.le_refl _) (Nat.le_refl _) (by decide) (fx_ki ?_)
  refine pm_aloadn hG dX0_keepIfBetter_4 rfl ?_
  refine pm_getf hG dX0_keepIfBetter_5 (flX0_118 _ rfl) rfl rfl ?_
  refine pm_callS (As := [.int (S.1 110)]) (rest := [.int (p_J6_bitCount_0f7a4 S za)]) hG hR dX0_keepIfBetter_8 (lkX0_134 _ rfl) okS_J6_bitCount_0f7a4 (c_J6_bitCount_0f7a4 (d := 1) (by decide) rfl) rfl rfl hdd (Nat.le_refl _) (Nat.le_refl _) (by first | decide | exact Nat.le_of_ble_eq_true rfl) (fx_ki ?_)
  refine pm_isub hG dX0_keepIfBetter_11 ?_
  refine fx_letv hE (fun x1 hE => ?_)
  refine pm_istoreXn (loc' := [some (.ref (B + 31)), some (.int za), some (.int zb), some (.int x1), none]) hG dX0_keepIfBetter_12 (by decide) (pm_c1b rfl) rfl ?_
  refine pm_iloadn hG dX0_keepIfBetter_13 rfl ?_
  refine pm_if_lt (tgt := 29) hG dX0_keepIfBetter_14 rfl (fun c2 => ?_) (fun c2 => ?_)
  · replace hE := fx_t c2 hE
    refine pm_iconst (v := 1) hG dX0_keepIfBetter_29 (by decide) ?_
    refine pm_goto (tgt := 34) hG dX0_keepIfBetter_30 rfl ?_
    refine pm_istoreXi (loc' := [some (.ref (B + 31)), some (.int za), some (.int zb), some (.int x1), some (.int 1)]) hG dX0_keepIfBetter_34 (by decide) (pm_c1b rfl) rfl ?_
    refine pm_iloadn hG dX0_keepIfBetter_36 rfl ?_
    refine pm_aloadn hG dX0_keepIfBetter_37 rfl ?_
    refine pm_getf hG dX0_keepIfBetter_38 (flX0_115 _ rfl) rfl rfl ?_
    refine pm_icmp_lt (tgt := 57) hG dX0_keepIfBetter_41 rfl (fun c3 => ?_) (fun c3 => ?_)
    · replace hE := fx_t c3 hE
      refine pm_aloadn hG dX0_keepIfBetter_57 rfl ?_
      refine pm_iloadn hG dX0_keepIfBetter_58 rfl ?_
      refine pm_putf hG dX0_keepIfBetter_59 (fwX0_115 _ rfl) rfl rfl rfl ?_
      refine ci_109 ?_
      refine fx_letc hE (fun S4 hE => ?_)
      refine pm_aloadn hG dX0_keepIfBetter_62 rfl ?_
      refine pm_iloadn hG dX0_keepIfBetter_63 rfl ?_
      refine pm_putf hG dX0_keepIfBetter_64 (fwX0_118 _ rfl) rfl rfl rfl ?_
      refine ci_110 ?_
      refine fx_letc hE (fun S5 hE => ?_)
      exact pm_vret hG hF dX0_keepIfBetter_67 rfl (Nat.le_refl _) (Nat.le_refl _) (fx_rvc hE)
    · replace hE := fx_f c3 hE
      refine pm_iloadn hG dX0_keepIfBetter_44 rfl ?_
      refine pm_aloadn hG dX0_keepIfBetter_45 rfl ?_
      refine pm_getf hG dX0_keepIfBetter_46 (flX0_115 _ rfl) rfl rfl ?_
      refine pm_icmp_ne (tgt := 67) hG dX0_keepIfBetter_49 rfl (fun c6 => ?_) (fun c6 => ?_)
      · replace hE := fx_f c6 hE
        exact pm_vret hG hF dX0_keepIfBetter_67 rfl (Nat.le_refl _) (Nat.le_refl _) (fx_rvc hE)
      · replace hE := fx_t c6 hE
        refine pm_iloadi hG dX0_keepIfBetter_52 rfl ?_
        refine pm_if_eq (tgt := 67) hG dX0_keepIfBetter_54 rfl (fun q => absurd q (by decide)) (fun _ => ?_)
        refine pm_aloadn hG dX0_keepIfBetter_57 rfl ?_
        refine pm_iloadn hG dX0_keepIfBetter_58 rfl ?_
        refine pm_putf hG dX0_keepIfBetter_59 (fwX0_115 _ rfl) rfl rfl rfl ?_
        refine ci_109 ?_
        refine fx_letc hE (fun S7 hE => ?_)
        refine pm_aloadn hG dX0_keepIfBetter_62 rfl ?_
        refine pm_iloadn hG dX0_keepIfBetter_63 rfl ?_
        refine pm_putf hG dX0_keepIfBetter_64 (fwX0_118 _ rfl) rfl rfl rfl ?_
        refine ci_110 ?_
        refine fx_letc hE (fun S8 hE => ?_)
        exact pm_vret hG hF dX0_keepIfBetter_67 rfl (Nat.le_refl _) (Nat.le_refl _) (fx_rvc hE)
  · replace hE := fx_f c2 hE
    refine pm_iloadn hG dX0_keepIfBetter_17 rfl ?_
    refine pm_if_ne (tgt := 33) hG dX0_keepIfBetter_18 rfl (fun c9 => ?_) (fun c9 => ?_)
    · replace hE := fx_f c9 hE
      refine pm_iconst (v := 0) hG dX0_keepIfBetter_33 (by decide) ?_
      refine pm_istoreXi (loc' := [some (.ref (B + 31)), some (.int za), some (.int zb), some (.int x1), some (.int 0)]) hG dX0_keepIfBetter_34 (by decide) (pm_c1b rfl) rfl ?_
      refine pm_iloadn hG dX0_keepIfBetter_36 rfl ?_
      refine pm_aloadn hG dX0_keepIfBetter_37 rfl ?_
      refine pm_getf hG dX0_keepIfBetter_38 (flX0_115 _ rfl) rfl rfl ?_
      refine pm_icmp_lt (tgt := 57) hG dX0_keepIfBetter_41 rfl (fun c10 => ?_) (fun c10 => ?_)
      · replace hE := fx_t c10 hE
        refine pm_aloadn hG dX0_keepIfBetter_57 rfl ?_
        refine pm_iloadn hG dX0_keepIfBetter_58 rfl ?_
        refine pm_putf hG dX0_keepIfBetter_59 (fwX0_115 _ rfl) rfl rfl rfl ?_
        refine ci_109 ?_
        refine fx_letc hE (fun S11 hE => ?_)
        refine pm_aloadn hG dX0_keepIfBetter_62 rfl ?_
        refine pm_iloadn hG dX0_keepIfBetter_63 rfl ?_
        refine pm_putf hG dX0_keepIfBetter_64 (fwX0_118 _ rfl) rfl rfl rfl ?_
        refine ci_110 ?_
        refine fx_letc hE (fun S12 hE => ?_)
        exact pm_vret hG hF dX0_keepIfBetter_67 rfl (Nat.le_refl _) (Nat.le_refl _) (fx_rvc hE)
      · replace hE := fx_f c10 hE
        refine pm_iloadn hG dX0_keepIfBetter_44 rfl ?_
        refine pm_aloadn hG dX0_keepIfBetter_45 rfl ?_
        refine pm_getf hG dX0_keepIfBetter_46 (flX0_115 _ rfl) rfl rfl ?_
        refine pm_icmp_ne (tgt := 67) hG dX0_keepIfBetter_49 rfl (fun c13 => ?_) (fun c13 => ?_)
        · replace hE := fx_f c13 hE
          exact pm_vret hG hF dX0_keepIfBetter_67 rfl (Nat.le_refl _) (Nat.le_refl _) (fx_rvc hE)
        · replace hE := fx_t c13 hE
          refine pm_iloadi hG dX0_keepIfBetter_52 rfl ?_
          refine pm_if_eq (tgt := 67) hG dX0_keepIfBetter_54 rfl (fun _ => ?_) (fun q => absurd q (by decide))
          exact pm_vret hG hF dX0_keepIfBetter_67 rfl (Nat.le_refl _) (Nat.le_refl _) (fx_rvc hE)
    · replace hE := fx_t c9 hE
      refine pm_iloadn hG dX0_keepIfBetter_21 rfl ?_
      refine pm_aloadn hG dX0_keepIfBetter_22 rfl ?_
      refine pm_getf hG dX0_keepIfBetter_23 (flX0_118 _ rfl) rfl rfl ?_
      refine pm_icmp_ge (tgt := 33) hG dX0_keepIfBetter_26 rfl (fun c14 => ?_) (fun c14 => ?_)
      · replace c14 := Int32.not_lt.mpr c14
        replace hE := fx_f c14 hE
        refine pm_iconst (v := 0) hG dX0_keepIfBetter_33 (by decide) ?_
        refine pm_istoreXi (loc' := [some (.ref (B + 31)), some (.int za), some (.int zb), some (.int x1), some (.int 0)]) hG dX0_keepIfBetter_34 (by decide) (pm_c1b rfl) rfl ?_
        refine pm_iloadn hG dX0_keepIfBetter_36 rfl ?_
        refine pm_aloadn hG dX0_keepIfBetter_37 rfl ?_
        refine pm_getf hG dX0_keepIfBetter_38 (flX0_115 _ rfl) rfl rfl ?_
        refine pm_icmp_lt (tgt := 57) hG dX0_keepIfBetter_41 rfl (fun c15 => ?_) (fun c15 => ?_)
        · replace hE := fx_t c15 hE
          refine pm_aloadn hG dX0_keepIfBetter_57 rfl ?_
          refine pm_iloadn hG dX0_keepIfBetter_58 rfl ?_
          refine pm_putf hG dX0_keepIfBetter_59 (fwX0_115 _ rfl) rfl rfl rfl ?_
          refine ci_109 ?_
          refine fx_letc hE (fun S16 hE => ?_)
          refine pm_aloadn hG dX0_keepIfBetter_62 rfl ?_
          refine pm_iloadn hG dX0_keepIfBetter_63 rfl ?_
          refine pm_putf hG dX0_keepIfBetter_64 (fwX0_118 _ rfl) rfl rfl rfl ?_
          refine ci_110 ?_
          refine fx_letc hE (fun S17 hE => ?_)
          exact pm_vret hG hF dX0_keepIfBetter_67 rfl (Nat.le_refl _) (Nat.le_refl _) (fx_rvc hE)
        · replace hE := fx_f c15 hE
          refine pm_iloadn hG dX0_keepIfBetter_44 rfl ?_
          refine pm_aloadn hG dX0_keepIfBetter_45 rfl ?_
          refine pm_getf hG dX0_keepIfBetter_46 (flX0_115 _ rfl) rfl rfl ?_
          refine pm_icmp_ne (tgt := 67) hG dX0_keepIfBetter_49 rfl (fun c18 => ?_) (fun c18 => ?_)
          · replace hE := fx_f c18 hE
            exact pm_vret hG hF dX0_keepIfBetter_67 rfl (Nat.le_refl _) (Nat.le_refl _) (fx_rvc hE)
          · replace hE := fx_t c18 hE
            refine pm_iloadi hG dX0_keepIfBetter_52 rfl ?_
            refine pm_if_eq (tgt := 67) hG dX0_keepIfBetter_54 rfl (fun _ => ?_) (fun q => absurd q (by decide))
            exact pm_vret hG hF dX0_keepIfBetter_67 rfl (Nat.le_refl _) (Nat.le_refl _) (fx_rvc hE)
      · replace c14 := Int32.not_le.mp c14
        replace hE := fx_t c14 hE
        refine pm_iconst (v := 1) hG dX0_keepIfBetter_29 (by decide) ?_
        refine pm_goto (tgt := 34) hG dX0_keepIfBetter_30 rfl ?_
        refine pm_istoreXi (loc' := [some (.ref (B + 31)), some (.int za), some (.int zb), some (.int x1), some (.int 1)]) hG dX0_keepIfBetter_34 (by decide) (pm_c1b rfl) rfl ?_
        refine pm_iloadn hG dX0_keepIfBetter_36 rfl ?_
        refine pm_aloadn hG dX0_keepIfBetter_37 rfl ?_
        refine pm_getf hG dX0_keepIfBetter_38 (flX0_115 _ rfl) rfl rfl ?_
        refine pm_icmp_lt (tgt := 57) hG dX0_keepIfBetter_41 rfl (fun c19 => ?_) (fun c19 => ?_)
        · replace hE := fx_t c19 hE
          refine pm_aloadn hG dX0_keepIfBetter_57 rfl ?_
          refine pm_iloadn hG dX0_keepIfBetter_58 rfl ?_
          refine pm_putf hG dX0_keepIfBetter_59 (fwX0_115 _ rfl) rfl rfl rfl ?_
          refine ci_109 ?_
          refine fx_letc hE (fun S20 hE => ?_)
          refine pm_aloadn hG dX0_keepIfBetter_62 rfl ?_
          refine pm_iloadn hG dX0_keepIfBetter_63 rfl ?_
          refine pm_putf hG dX0_keepIfBetter_64 (fwX0_118 _ rfl) rfl rfl rfl ?_
          refine ci_110 ?_
          refine fx_letc hE (fun S21 hE => ?_)
          exact pm_vret hG hF dX0_keepIfBetter_67 rfl (Nat.le_refl _) (Nat.le_refl _) (fx_rvc hE)
        · replace hE := fx_f c19 hE
          refine pm_iloadn hG dX0_keepIfBetter_44 rfl ?_
          refine pm_aloadn hG dX0_keepIfBetter_45 rfl ?_
          refine pm_getf hG dX0_keepIfBetter_46 (flX0_115 _ rfl) rfl rfl ?_
          refine pm_icmp_ne (tgt := 67) hG dX0_keepIfBetter_49 rfl (fun c22 => ?_) (fun c22 => ?_)
          · replace hE := fx_f c22 hE
            exact pm_vret hG hF dX0_keepIfBetter_67 rfl (Nat.le_refl _) (Nat.le_refl _) (fx_rvc hE)
          · replace hE := fx_t c22 hE
            refine pm_iloadi hG dX0_keepIfBetter_52 rfl ?_
            refine pm_if_eq (tgt := 67) hG dX0_keepIfBetter_54 rfl (fun q => absurd q (by decide)) (fun _ => ?_)
            refine pm_aloadn hG dX0_keepIfBetter_57 rfl ?_
            refine pm_iloadn hG dX0_keepIfBetter_58 rfl ?_
            refine pm_putf hG dX0_keepIfBetter_59 (fwX0_115 _ rfl) rfl rfl rfl ?_
            refine ci_109 ?_
            refine fx_letc hE (fun S23 hE => ?_)
            refine pm_aloadn hG dX0_keepIfBetter_62 rfl ?_
            refine pm_iloadn hG dX0_keepIfBetter_63 rfl ?_
            refine pm_putf hG dX0_keepIfBetter_64 (fwX0_118 _ rfl) rfl rfl rfl ?_
            refine ci_110 ?_
            refine fx_letc hE (fun S24 hE => ?_)
            exact pm_vret hG hF dX0_keepIfBetter_67 rfl (Nat.le_refl _) (Nat.le_refl _) (fx_rvc hE)

set_option maxRecDepth 100000 in
set_option maxHeartbeats 4000000 in
theorem c_X0_choose_k9 {d : Nat} {B cnt : Nat} {kp : Value} {ρ : pm_S} {S : FS} {zb : Int32} {zc : Int32} {zd : Int32} {R : Int32 × FS} (hdd : 3 ≤ d) (hE : f_X0_choose_k9 S zb zc zd = some R) : pm_met mX0_choose d 0 0 B [.ref (B + 31), .int 9, .int zb, .int zc, .int zd] cnt (cst B kp S ρ) (pm_Qv (fun σ' cnt' => σ' = (cst B kp R.2 ρ) ∧ cnt' = cnt)) := by
  refine pm_enter 1 (by decide) (Nat.le_of_ble_eq_true rfl) rfl (fun G hG hR hF => ?_)
  unfold f_X0_choose_k9 at hE
  refine pm_iloadn hG dX0_choose_0 rfl ?_
  refine pm_aloadn hG dX0_choose_1 rfl ?_
  refine pm_getf hG dX0_choose_2 (flX0_115 _ rfl) rfl rfl ?_
  refine pm_icmp_le (tgt := 9) hG dX0_choose_5 rfl (fun c1 => ?_) (fun c1 => ?_)
  · replace c1 := Int32.not_lt.mpr c1
    replace hE := fx_f c1 hE
    refine pm_aloadn hG dX0_choose_9 rfl ?_
    refine pm_iloadi hG dX0_choose_10 rfl ?_
    refine pm_callV (As := [.int zd]) (rest := []) hG hR dX0_choose_12 (lkX0_125 _ rfl) okV_X0_isCarriedWith rfl rfl (c_X0_isCarriedWith (d := 2) (by decide) rfl) rfl rfl hdd (Nat.le_refl _) (Nat.le_refl _) (by decide) (fx_ki ?_)
    refine pm_if_eq (tgt := 24) hG dX0_choose_15 rfl (fun c2 => ?_) (fun c2 => ?_)
    · replace hE := fx_t c2 hE
      refine pm_iloadn hG dX0_choose_24 rfl ?_
      refine pm_bipush (v := 9) hG dX0_choose_25 (by decide) ?_
      refine pm_icmp_ge (tgt := 105) hG dX0_choose_27 rfl (fun _ => ?_) (fun q => absurd q (by decide))
      exact pm_vret hG hF dX0_choose_105 rfl (Nat.le_refl _) (Nat.le_refl _) (fx_rvc hE)
    · replace hE := fx_f c2 hE
      refine pm_aloadn hG dX0_choose_18 rfl ?_
      refine pm_iloadn hG dX0_choose_19 rfl ?_
      refine pm_iloadn hG dX0_choose_20 rfl ?_
      obtain ⟨r4, h3, hE⟩ := fb_some hE
      refine pm_callV (As := [.int zb, .int zc]) (rest := []) hG hR dX0_choose_21 (lkX0_128 _ rfl) okV_X0_keepIfBetter rfl rfl (c_X0_keepIfBetter (d := 2) (by decide) h3) rfl rfl hdd (Nat.le_refl _) (Nat.le_refl _) (by decide) (fx_kv ?_)
      refine pm_iloadn hG dX0_choose_24 rfl ?_
      refine pm_bipush (v := 9) hG dX0_choose_25 (by decide) ?_
      refine pm_icmp_ge (tgt := 105) hG dX0_choose_27 rfl (fun _ => ?_) (fun q => absurd q (by decide))
      exact pm_vret hG hF dX0_choose_105 rfl (Nat.le_refl _) (Nat.le_refl _) (fx_rvc hE)
  · replace c1 := Int32.not_le.mp c1
    replace hE := fx_t c1 hE
    exact pm_vret hG hF dX0_choose_8 rfl (Nat.le_refl _) (Nat.le_refl _) (fx_rvc hE)

set_option maxRecDepth 100000 in
set_option maxHeartbeats 4000000 in
theorem c_X0_choose_k8 {d : Nat} {B cnt : Nat} {kp : Value} {ρ : pm_S} {S : FS} {zb : Int32} {zc : Int32} {zd : Int32} {R : Int32 × FS} (hdd : 4 ≤ d) (hE : f_X0_choose_k8 S zb zc zd = some R) : pm_met mX0_choose d 0 0 B [.ref (B + 31), .int 8, .int zb, .int zc, .int zd] cnt (cst B kp S ρ) (pm_Qv (fun σ' cnt' => σ' = (cst B kp R.2 ρ) ∧ cnt' = cnt)) := by
  refine pm_enter 1 (by decide) (Nat.le_of_ble_eq_true rfl) rfl (fun G hG hR hF => ?_)
  unfold f_X0_choose_k8 at hE
  refine pm_iloadn hG dX0_choose_0 rfl ?_
  refine pm_aloadn hG dX0_choose_1 rfl ?_
  refine pm_getf hG dX0_choose_2 (flX0_115 _ rfl) rfl rfl ?_
  refine pm_icmp_le (tgt := 9) hG dX0_choose_5 rfl (fun c1 => ?_) (fun c1 => ?_)
  · replace c1 := Int32.not_lt.mpr c1
    replace hE := fx_f c1 hE
    refine pm_aloadn hG dX0_choose_9 rfl ?_
    refine pm_iloadi hG dX0_choose_10 rfl ?_
    refine pm_callV (As := [.int zd]) (rest := []) hG hR dX0_choose_12 (lkX0_125 _ rfl) okV_X0_isCarriedWith rfl rfl (c_X0_isCarriedWith (d := 3) (by decide) rfl) rfl rfl hdd (Nat.le_refl _) (Nat.le_refl _) (by decide) (fx_ki ?_)
    refine pm_if_eq (tgt := 24) hG dX0_choose_15 rfl (fun c2 => ?_) (fun c2 => ?_)
    · replace hE := fx_t c2 hE
      refine pm_iloadn hG dX0_choose_24 rfl ?_
      refine pm_bipush (v := 9) hG dX0_choose_25 (by decide) ?_
      refine pm_icmp_ge (tgt := 105) hG dX0_choose_27 rfl (fun q => absurd q (by decide)) (fun _ => ?_)
      refine pm_aloadn hG dX0_choose_30 rfl ?_
      refine pm_getf hG dX0_choose_31 (flX0_36 _ rfl) rfl rfl ?_
      refine pm_iloadn hG dX0_choose_34 rfl ?_
      refine pm_callV (As := [.int 8]) (rest := []) hG hR dX0_choose_35 (lkX0_131 _ rfl) okV_X9_has rfl rfl (thas_34 (d := 3)) rfl rfl hdd (Nat.le_refl _) (Nat.le_refl _) (by decide) (fx_ki ?_)
      refine pm_if_eq (tgt := 105) hG dX0_choose_38 rfl (fun c3 => ?_) (fun c3 => ?_)
      · replace hE := fx_t c3 hE
        exact pm_vret hG hF dX0_choose_105 rfl (Nat.le_refl _) (Nat.le_refl _) (fx_rvc hE)
      · replace hE := fx_f c3 hE
        refine pm_aloadn hG dX0_choose_41 rfl ?_
        refine pm_getf hG dX0_choose_42 (flX0_36 _ rfl) rfl rfl ?_
        refine pm_iloadn hG dX0_choose_45 rfl ?_
        refine pm_iconst (v := 0) hG dX0_choose_46 (by decide) ?_
        refine pm_callV (As := [.int 8, .int 0]) (rest := []) hG hR dX0_choose_47 (lkX0_39 _ rfl) okV_X9_get rfl rfl (tget_34 (d := 3)) rfl rfl hdd (Nat.le_refl _) (Nat.le_refl _) (by decide) (fx_ki ?_)
        refine fx_letv hE (fun x4 hE => ?_)
        refine pm_istoreXi (loc' := [some (.ref (B + 31)), some (.int 8), some (.int zb), some (.int zc), some (.int zd), some (.int x4)]) hG dX0_choose_50 (by decide) (pm_c1b rfl) rfl ?_
        refine pm_aloadn hG dX0_choose_52 rfl ?_
        refine pm_iloadn hG dX0_choose_53 rfl ?_
        refine pm_iconst (v := 1) hG dX0_choose_54 (by decide) ?_
        refine pm_iadd hG dX0_choose_55 ?_
        refine pm_top (v := 9) (by decide) ?_
        refine pm_iloadn hG dX0_choose_56 rfl ?_
        refine pm_iloadn hG dX0_choose_57 rfl ?_
        refine pm_iloadi hG dX0_choose_58 rfl ?_
        obtain ⟨r6, h5, hE⟩ := fb_some hE
        refine pm_callV (As := [.int 9, .int zb, .int zc, .int zd]) (rest := []) hG hR dX0_choose_60 (lkX0_121 _ rfl) okV_X0_choose rfl rfl (c_X0_choose_k9 (d := 3) (by decide) h5) rfl rfl hdd (Nat.le_refl _) (Nat.le_refl _) (by decide) (fx_kv ?_)
        refine pm_aloadn hG dX0_choose_63 rfl ?_
        refine pm_iloadn hG dX0_choose_64 rfl ?_
        refine pm_iconst (v := 1) hG dX0_choose_65 (by decide) ?_
        refine pm_iadd hG dX0_choose_66 ?_
        refine pm_top (v := 9) (by decide) ?_
        refine pm_iloadn hG dX0_choose_67 rfl ?_
        refine pm_iconst (v := 1) hG dX0_choose_68 (by decide) ?_
        refine pm_iloadi hG dX0_choose_69 rfl ?_
        refine pm_ishl hG dX0_choose_71 ?_
        refine pm_ior hG dX0_choose_72 ?_
        refine pm_iloadn hG dX0_choose_73 rfl ?_
        refine pm_aloadn hG dX0_choose_74 rfl ?_
        refine pm_getf hG dX0_choose_75 (flX0_9 _ rfl) rfl rfl ?_
        refine pm_getf hG dX0_choose_78 (flX0_63 _ rfl) rfl rfl ?_
        refine pm_iloadi hG dX0_choose_81 rfl ?_
        refine pm_bipush (v := 12) hG dX0_choose_83 (by decide) ?_
        refine pm_callV (As := [.int x4, .int 12]) (rest := [.int zc, .int (zb ||| ((1 : Int32) <<< (x4 &&& 31))), .int 9, .ref (B + 31)]) hG hR dX0_choose_85 (lkX0_39 _ rfl) okV_X9_get rfl rfl (tget_6 (d := 3)) rfl rfl hdd (Nat.le_refl _) (Nat.le_refl _) (by first | decide | exact Nat.le_of_ble_eq_true rfl) (fx_ki ?_)
        refine pm_iadd hG dX0_choose_88 ?_
        refine pm_iloadi hG dX0_choose_89 rfl ?_
        refine pm_aloadn hG dX0_choose_91 rfl ?_
        refine pm_getf hG dX0_choose_92 (flX0_33 _ rfl) rfl rfl ?_
        refine pm_iloadi hG dX0_choose_95 rfl ?_
        refine pm_iconst (v := 0) hG dX0_choose_97 (by decide) ?_
        refine pm_callV (As := [.int x4, .int 0]) (rest := [.int zd, .int (zc + (fG 6 20 14 r6.2 x4 12)), .int (zb ||| ((1 : Int32) <<< (x4 &&& 31))), .int 9, .ref (B + 31)]) hG hR dX0_choose_98 (lkX0_39 _ rfl) okV_X9_get rfl rfl (tget_32 (d := 3)) rfl rfl hdd (Nat.le_refl _) (Nat.le_refl _) (by first | decide | exact Nat.le_of_ble_eq_true rfl) (fx_ki ?_)
        refine pm_iadd hG dX0_choose_101 ?_
        obtain ⟨r8, h7, hE⟩ := fb_some hE
        refine pm_callV (As := [.int 9, .int (zb ||| ((1 : Int32) <<< (x4 &&& 31))), .int (zc + (fG 6 20 14 r6.2 x4 12)), .int (zd + (fG 32 20 1 r6.2 x4 0))]) (rest := []) hG hR dX0_choose_102 (lkX0_121 _ rfl) okV_X0_choose rfl rfl (c_X0_choose_k9 (d := 3) (by decide) h7) rfl rfl hdd (Nat.le_refl _) (Nat.le_refl _) (by decide) (fx_kv ?_)
        exact pm_vret hG hF dX0_choose_105 rfl (Nat.le_refl _) (Nat.le_refl _) (fx_rvc hE)
    · replace hE := fx_f c2 hE
      refine pm_aloadn hG dX0_choose_18 rfl ?_
      refine pm_iloadn hG dX0_choose_19 rfl ?_
      refine pm_iloadn hG dX0_choose_20 rfl ?_
      obtain ⟨r10, h9, hE⟩ := fb_some hE
      refine pm_callV (As := [.int zb, .int zc]) (rest := []) hG hR dX0_choose_21 (lkX0_128 _ rfl) okV_X0_keepIfBetter rfl rfl (c_X0_keepIfBetter (d := 3) (by decide) h9) rfl rfl hdd (Nat.le_refl _) (Nat.le_refl _) (by decide) (fx_kv ?_)
      refine pm_iloadn hG dX0_choose_24 rfl ?_
      refine pm_bipush (v := 9) hG dX0_choose_25 (by decide) ?_
      refine pm_icmp_ge (tgt := 105) hG dX0_choose_27 rfl (fun q => absurd q (by decide)) (fun _ => ?_)
      refine pm_aloadn hG dX0_choose_30 rfl ?_
      refine pm_getf hG dX0_choose_31 (flX0_36 _ rfl) rfl rfl ?_
      refine pm_iloadn hG dX0_choose_34 rfl ?_
      refine pm_callV (As := [.int 8]) (rest := []) hG hR dX0_choose_35 (lkX0_131 _ rfl) okV_X9_has rfl rfl (thas_34 (d := 3)) rfl rfl hdd (Nat.le_refl _) (Nat.le_refl _) (by decide) (fx_ki ?_)
      refine pm_if_eq (tgt := 105) hG dX0_choose_38 rfl (fun c11 => ?_) (fun c11 => ?_)
      · replace hE := fx_t c11 hE
        exact pm_vret hG hF dX0_choose_105 rfl (Nat.le_refl _) (Nat.le_refl _) (fx_rvc hE)
      · replace hE := fx_f c11 hE
        refine pm_aloadn hG dX0_choose_41 rfl ?_
        refine pm_getf hG dX0_choose_42 (flX0_36 _ rfl) rfl rfl ?_
        refine pm_iloadn hG dX0_choose_45 rfl ?_
        refine pm_iconst (v := 0) hG dX0_choose_46 (by decide) ?_
        refine pm_callV (As := [.int 8, .int 0]) (rest := []) hG hR dX0_choose_47 (lkX0_39 _ rfl) okV_X9_get rfl rfl (tget_34 (d := 3)) rfl rfl hdd (Nat.le_refl _) (Nat.le_refl _) (by decide) (fx_ki ?_)
        refine fx_letv hE (fun x12 hE => ?_)
        refine pm_istoreXi (loc' := [some (.ref (B + 31)), some (.int 8), some (.int zb), some (.int zc), some (.int zd), some (.int x12)]) hG dX0_choose_50 (by decide) (pm_c1b rfl) rfl ?_
        refine pm_aloadn hG dX0_choose_52 rfl ?_
        refine pm_iloadn hG dX0_choose_53 rfl ?_
        refine pm_iconst (v := 1) hG dX0_choose_54 (by decide) ?_
        refine pm_iadd hG dX0_choose_55 ?_
        refine pm_top (v := 9) (by decide) ?_
        refine pm_iloadn hG dX0_choose_56 rfl ?_
        refine pm_iloadn hG dX0_choose_57 rfl ?_
        refine pm_iloadi hG dX0_choose_58 rfl ?_
        obtain ⟨r14, h13, hE⟩ := fb_some hE
        refine pm_callV (As := [.int 9, .int zb, .int zc, .int zd]) (rest := []) hG hR dX0_choose_60 (lkX0_121 _ rfl) okV_X0_choose rfl rfl (c_X0_choose_k9 (d := 3) (by decide) h13) rfl rfl hdd (Nat.le_refl _) (Nat.le_refl _) (by decide) (fx_kv ?_)
        refine pm_aloadn hG dX0_choose_63 rfl ?_
        refine pm_iloadn hG dX0_choose_64 rfl ?_
        refine pm_iconst (v := 1) hG dX0_choose_65 (by decide) ?_
        refine pm_iadd hG dX0_choose_66 ?_
        refine pm_top (v := 9) (by decide) ?_
        refine pm_iloadn hG dX0_choose_67 rfl ?_
        refine pm_iconst (v := 1) hG dX0_choose_68 (by decide) ?_
        refine pm_iloadi hG dX0_choose_69 rfl ?_
        refine pm_ishl hG dX0_choose_71 ?_
        refine pm_ior hG dX0_choose_72 ?_
        refine pm_iloadn hG dX0_choose_73 rfl ?_
        refine pm_aloadn hG dX0_choose_74 rfl ?_
        refine pm_getf hG dX0_choose_75 (flX0_9 _ rfl) rfl rfl ?_
        refine pm_getf hG dX0_choose_78 (flX0_63 _ rfl) rfl rfl ?_
        refine pm_iloadi hG dX0_choose_81 rfl ?_
        refine pm_bipush (v := 12) hG dX0_choose_83 (by decide) ?_
        refine pm_callV (As := [.int x12, .int 12]) (rest := [.int zc, .int (zb ||| ((1 : Int32) <<< (x12 &&& 31))), .int 9, .ref (B + 31)]) hG hR dX0_choose_85 (lkX0_39 _ rfl) okV_X9_get rfl rfl (tget_6 (d := 3)) rfl rfl hdd (Nat.le_refl _) (Nat.le_refl _) (by first | decide | exact Nat.le_of_ble_eq_true rfl) (fx_ki ?_)
        refine pm_iadd hG dX0_choose_88 ?_
        refine pm_iloadi hG dX0_choose_89 rfl ?_
        refine pm_aloadn hG dX0_choose_91 rfl ?_
        refine pm_getf hG dX0_choose_92 (flX0_33 _ rfl) rfl rfl ?_
        refine pm_iloadi hG dX0_choose_95 rfl ?_
        refine pm_iconst (v := 0) hG dX0_choose_97 (by decide) ?_
        refine pm_callV (As := [.int x12, .int 0]) (rest := [.int zd, .int (zc + (fG 6 20 14 r14.2 x12 12)), .int (zb ||| ((1 : Int32) <<< (x12 &&& 31))), .int 9, .ref (B + 31)]) hG hR dX0_choose_98 (lkX0_39 _ rfl) okV_X9_get rfl rfl (tget_32 (d := 3)) rfl rfl hdd (Nat.le_refl _) (Nat.le_refl _) (by first | decide | exact Nat.le_of_ble_eq_true rfl) (fx_ki ?_)
        refine pm_iadd hG dX0_choose_101 ?_
        obtain ⟨r16, h15, hE⟩ := fb_some hE
        refine pm_callV (As := [.int 9, .int (zb ||| ((1 : Int32) <<< (x12 &&& 31))), .int (zc + (fG 6 20 14 r14.2 x12 12)), .int (zd + (fG 32 20 1 r14.2 x12 0))]) (rest := []) hG hR dX0_choose_102 (lkX0_121 _ rfl) okV_X0_choose rfl rfl (c_X0_choose_k9 (d := 3) (by decide) h15) rfl rfl hdd (Nat.le_refl _) (Nat.le_refl _) (by decide) (fx_kv ?_)
        exact pm_vret hG hF dX0_choose_105 rfl (Nat.le_refl _) (Nat.le_refl _) (fx_rvc hE)
  · replace c1 := Int32.not_le.mp c1
    replace hE := fx_t c1 hE
    exact pm_vret hG hF dX0_choose_8 rfl (Nat.le_refl _) (Nat.le_refl _) (fx_rvc hE)

set_option maxRecDepth 100000 in
set_option maxHeartbeats 4000000 in
theorem c_X0_choose_k7 {d : Nat} {B cnt : Nat} {kp : Value} {ρ : pm_S} {S : FS} {zb : Int32} {zc : Int32} {zd : Int32} {R : Int32 × FS} (hdd : 5 ≤ d) (hE : f_X0_choose_k7 S zb zc zd = some R) : pm_met mX0_choose d 0 0 B [.ref (B + 31), .int 7, .int zb, .int zc, .int zd] cnt (cst B kp S ρ) (pm_Qv (fun σ' cnt' => σ' = (cst B kp R.2 ρ) ∧ cnt' = cnt)) := by
  refine pm_enter 1 (by decide) (Nat.le_of_ble_eq_true rfl) rfl (fun G hG hR hF => ?_)
  unfold f_X0_choose_k7 at hE
  refine pm_iloadn hG dX0_choose_0 rfl ?_
  refine pm_aloadn hG dX0_choose_1 rfl ?_
  refine pm_getf hG dX0_choose_2 (flX0_115 _ rfl) rfl rfl ?_
  refine pm_icmp_le (tgt := 9) hG dX0_choose_5 rfl (fun c1 => ?_) (fun c1 => ?_)
  · replace c1 := Int32.not_lt.mpr c1
    replace hE := fx_f c1 hE
    refine pm_aloadn hG dX0_choose_9 rfl ?_
    refine pm_iloadi hG dX0_choose_10 rfl ?_
    refine pm_callV (As := [.int zd]) (rest := []) hG hR dX0_choose_12 (lkX0_125 _ rfl) okV_X0_isCarriedWith rfl rfl (c_X0_isCarriedWith (d := 4) (by decide) rfl) rfl rfl hdd (Nat.le_refl _) (Nat.le_refl _) (by decide) (fx_ki ?_)
    refine pm_if_eq (tgt := 24) hG dX0_choose_15 rfl (fun c2 => ?_) (fun c2 => ?_)
    · replace hE := fx_t c2 hE
      refine pm_iloadn hG dX0_choose_24 rfl ?_
      refine pm_bipush (v := 9) hG dX0_choose_25 (by decide) ?_
      refine pm_icmp_ge (tgt := 105) hG dX0_choose_27 rfl (fun q => absurd q (by decide)) (fun _ => ?_)
      refine pm_aloadn hG dX0_choose_30 rfl ?_
      refine pm_getf hG dX0_choose_31 (flX0_36 _ rfl) rfl rfl ?_
      refine pm_iloadn hG dX0_choose_34 rfl ?_
      refine pm_callV (As := [.int 7]) (rest := []) hG hR dX0_choose_35 (lkX0_131 _ rfl) okV_X9_has rfl rfl (thas_34 (d := 4)) rfl rfl hdd (Nat.le_refl _) (Nat.le_refl _) (by decide) (fx_ki ?_)
      refine pm_if_eq (tgt := 105) hG dX0_choose_38 rfl (fun c3 => ?_) (fun c3 => ?_)
      · replace hE := fx_t c3 hE
        exact pm_vret hG hF dX0_choose_105 rfl (Nat.le_refl _) (Nat.le_refl _) (fx_rvc hE)
      · replace hE := fx_f c3 hE
        refine pm_aloadn hG dX0_choose_41 rfl ?_
        refine pm_getf hG dX0_choose_42 (flX0_36 _ rfl) rfl rfl ?_
        refine pm_iloadn hG dX0_choose_45 rfl ?_
        refine pm_iconst (v := 0) hG dX0_choose_46 (by decide) ?_
        refine pm_callV (As := [.int 7, .int 0]) (rest := []) hG hR dX0_choose_47 (lkX0_39 _ rfl) okV_X9_get rfl rfl (tget_34 (d := 4)) rfl rfl hdd (Nat.le_refl _) (Nat.le_refl _) (by decide) (fx_ki ?_)
        refine fx_letv hE (fun x4 hE => ?_)
        refine pm_istoreXi (loc' := [some (.ref (B + 31)), some (.int 7), some (.int zb), some (.int zc), some (.int zd), some (.int x4)]) hG dX0_choose_50 (by decide) (pm_c1b rfl) rfl ?_
        refine pm_aloadn hG dX0_choose_52 rfl ?_
        refine pm_iloadn hG dX0_choose_53 rfl ?_
        refine pm_iconst (v := 1) hG dX0_choose_54 (by decide) ?_
        refine pm_iadd hG dX0_choose_55 ?_
        refine pm_top (v := 8) (by decide) ?_
        refine pm_iloadn hG dX0_choose_56 rfl ?_
        refine pm_iloadn hG dX0_choose_57 rfl ?_
        refine pm_iloadi hG dX0_choose_58 rfl ?_
        obtain ⟨r6, h5, hE⟩ := fb_some hE
        refine pm_callV (As := [.int 8, .int zb, .int zc, .int zd]) (rest := []) hG hR dX0_choose_60 (lkX0_121 _ rfl) okV_X0_choose rfl rfl (c_X0_choose_k8 (d := 4) (by decide) h5) rfl rfl hdd (Nat.le_refl _) (Nat.le_refl _) (by decide) (fx_kv ?_)
        refine pm_aloadn hG dX0_choose_63 rfl ?_
        refine pm_iloadn hG dX0_choose_64 rfl ?_
        refine pm_iconst (v := 1) hG dX0_choose_65 (by decide) ?_
        refine pm_iadd hG dX0_choose_66 ?_
        refine pm_top (v := 8) (by decide) ?_
        refine pm_iloadn hG dX0_choose_67 rfl ?_
        refine pm_iconst (v := 1) hG dX0_choose_68 (by decide) ?_
        refine pm_iloadi hG dX0_choose_69 rfl ?_
        refine pm_ishl hG dX0_choose_71 ?_
        refine pm_ior hG dX0_choose_72 ?_
        refine pm_iloadn hG dX0_choose_73 rfl ?_
        refine pm_aloadn hG dX0_choose_74 rfl ?_
        refine pm_getf hG dX0_choose_75 (flX0_9 _ rfl) rfl rfl ?_
        refine pm_getf hG dX0_choose_78 (flX0_63 _ rfl) rfl rfl ?_
        refine pm_iloadi hG dX0_choose_81 rfl ?_
        refine pm_bipush (v := 12) hG dX0_choose_83 (by decide) ?_
        refine pm_callV (As := [.int x4, .int 12]) (rest := [.int zc, .int (zb ||| ((1 : Int32) <<< (x4 &&& 31))), .int 8, .ref (B + 31)]) hG hR dX0_choose_85 (lkX0_39 _ rfl) okV_X9_get rfl rfl (tget_6 (d := 4)) rfl rfl hdd (Nat.le_refl _) (Nat.le_refl _) (by first | decide | exact Nat.le_of_ble_eq_true rfl) (fx_ki ?_)
        refine pm_iadd hG dX0_choose_88 ?_
        refine pm_iloadi hG dX0_choose_89 rfl ?_
        refine pm_aloadn hG dX0_choose_91 rfl ?_
        refine pm_getf hG dX0_choose_92 (flX0_33 _ rfl) rfl rfl ?_
        refine pm_iloadi hG dX0_choose_95 rfl ?_
        refine pm_iconst (v := 0) hG dX0_choose_97 (by decide) ?_
        refine pm_callV (As := [.int x4, .int 0]) (rest := [.int zd, .int (zc + (fG 6 20 14 r6.2 x4 12)), .int (zb ||| ((1 : Int32) <<< (x4 &&& 31))), .int 8, .ref (B + 31)]) hG hR dX0_choose_98 (lkX0_39 _ rfl) okV_X9_get rfl rfl (tget_32 (d := 4)) rfl rfl hdd (Nat.le_refl _) (Nat.le_refl _) (by first | decide | exact Nat.le_of_ble_eq_true rfl) (fx_ki ?_)
        refine pm_iadd hG dX0_choose_101 ?_
        obtain ⟨r8, h7, hE⟩ := fb_some hE
        refine pm_callV (As := [.int 8, .int (zb ||| ((1 : Int32) <<< (x4 &&& 31))), .int (zc + (fG 6 20 14 r6.2 x4 12)), .int (zd + (fG 32 20 1 r6.2 x4 0))]) (rest := []) hG hR dX0_choose_102 (lkX0_121 _ rfl) okV_X0_choose rfl rfl (c_X0_choose_k8 (d := 4) (by decide) h7) rfl rfl hdd (Nat.le_refl _) (Nat.le_refl _) (by decide) (fx_kv ?_)
        exact pm_vret hG hF dX0_choose_105 rfl (Nat.le_refl _) (Nat.le_refl _) (fx_rvc hE)
    · replace hE := fx_f c2 hE
      refine pm_aloadn hG dX0_choose_18 rfl ?_
      refine pm_iloadn hG dX0_choose_19 rfl ?_
      refine pm_iloadn hG dX0_choose_20 rfl ?_
      obtain ⟨r10, h9, hE⟩ := fb_some hE
      refine pm_callV (As := [.int zb, .int zc]) (rest := []) hG hR dX0_choose_21 (lkX0_128 _ rfl) okV_X0_keepIfBetter rfl rfl (c_X0_keepIfBetter (d := 4) (by decide) h9) rfl rfl hdd (Nat.le_refl _) (Nat.le_refl _) (by decide) (fx_kv ?_)
      refine pm_iloadn hG dX0_choose_24 rfl ?_
      refine pm_bipush (v := 9) hG dX0_choose_25 (by decide) ?_
      refine pm_icmp_ge (tgt := 105) hG dX0_choose_27 rfl (fun q => absurd q (by decide)) (fun _ => ?_)
      refine pm_aloadn hG dX0_choose_30 rfl ?_
      refine pm_getf hG dX0_choose_31 (flX0_36 _ rfl) rfl rfl ?_
      refine pm_iloadn hG dX0_choose_34 rfl ?_
      refine pm_callV (As := [.int 7]) (rest := []) hG hR dX0_choose_35 (lkX0_131 _ rfl) okV_X9_has rfl rfl (thas_34 (d := 4)) rfl rfl hdd (Nat.le_refl _) (Nat.le_refl _) (by decide) (fx_ki ?_)
      refine pm_if_eq (tgt := 105) hG dX0_choose_38 rfl (fun c11 => ?_) (fun c11 => ?_)
      · replace hE := fx_t c11 hE
        exact pm_vret hG hF dX0_choose_105 rfl (Nat.le_refl _) (Nat.le_refl _) (fx_rvc hE)
      · replace hE := fx_f c11 hE
        refine pm_aloadn hG dX0_choose_41 rfl ?_
        refine pm_getf hG dX0_choose_42 (flX0_36 _ rfl) rfl rfl ?_
        refine pm_iloadn hG dX0_choose_45 rfl ?_
        refine pm_iconst (v := 0) hG dX0_choose_46 (by decide) ?_
        refine pm_callV (As := [.int 7, .int 0]) (rest := []) hG hR dX0_choose_47 (lkX0_39 _ rfl) okV_X9_get rfl rfl (tget_34 (d := 4)) rfl rfl hdd (Nat.le_refl _) (Nat.le_refl _) (by decide) (fx_ki ?_)
        refine fx_letv hE (fun x12 hE => ?_)
        refine pm_istoreXi (loc' := [some (.ref (B + 31)), some (.int 7), some (.int zb), some (.int zc), some (.int zd), some (.int x12)]) hG dX0_choose_50 (by decide) (pm_c1b rfl) rfl ?_
        refine pm_aloadn hG dX0_choose_52 rfl ?_
        refine pm_iloadn hG dX0_choose_53 rfl ?_
        refine pm_iconst (v := 1) hG dX0_choose_54 (by decide) ?_
        refine pm_iadd hG dX0_choose_55 ?_
        refine pm_top (v := 8) (by decide) ?_
        refine pm_iloadn hG dX0_choose_56 rfl ?_
        refine pm_iloadn hG dX0_choose_57 rfl ?_
        refine pm_iloadi hG dX0_choose_58 rfl ?_
        obtain ⟨r14, h13, hE⟩ := fb_some hE
        refine pm_callV (As := [.int 8, .int zb, .int zc, .int zd]) (rest := []) hG hR dX0_choose_60 (lkX0_121 _ rfl) okV_X0_choose rfl rfl (c_X0_choose_k8 (d := 4) (by decide) h13) rfl rfl hdd (Nat.le_refl _) (Nat.le_refl _) (by decide) (fx_kv ?_)
        refine pm_aloadn hG dX0_choose_63 rfl ?_
        refine pm_iloadn hG dX0_choose_64 rfl ?_
        refine pm_iconst (v := 1) hG dX0_choose_65 (by decide) ?_
        refine pm_iadd hG dX0_choose_66 ?_
        refine pm_top (v := 8) (by decide) ?_
        refine pm_iloadn hG dX0_choose_67 rfl ?_
        refine pm_iconst (v := 1) hG dX0_choose_68 (by decide) ?_
        refine pm_iloadi hG dX0_choose_69 rfl ?_
        refine pm_ishl hG dX0_choose_71 ?_
        refine pm_ior hG dX0_choose_72 ?_
        refine pm_iloadn hG dX0_choose_73 rfl ?_
        refine pm_aloadn hG dX0_choose_74 rfl ?_
        refine pm_getf hG dX0_choose_75 (flX0_9 _ rfl) rfl rfl ?_
        refine pm_getf hG dX0_choose_78 (flX0_63 _ rfl) rfl rfl ?_
        refine pm_iloadi hG dX0_choose_81 rfl ?_
        refine pm_bipush (v := 12) hG dX0_choose_83 (by decide) ?_
        refine pm_callV (As := [.int x12, .int 12]) (rest := [.int zc, .int (zb ||| ((1 : Int32) <<< (x12 &&& 31))), .int 8, .ref (B + 31)]) hG hR dX0_choose_85 (lkX0_39 _ rfl) okV_X9_get rfl rfl (tget_6 (d := 4)) rfl rfl hdd (Nat.le_refl _) (Nat.le_refl _) (by first | decide | exact Nat.le_of_ble_eq_true rfl) (fx_ki ?_)
        refine pm_iadd hG dX0_choose_88 ?_
        refine pm_iloadi hG dX0_choose_89 rfl ?_
        refine pm_aloadn hG dX0_choose_91 rfl ?_
        refine pm_getf hG dX0_choose_92 (flX0_33 _ rfl) rfl rfl ?_
        refine pm_iloadi hG dX0_choose_95 rfl ?_
        refine pm_iconst (v := 0) hG dX0_choose_97 (by decide) ?_
        refine pm_callV (As := [.int x12, .int 0]) (rest := [.int zd, .int (zc + (fG 6 20 14 r14.2 x12 12)), .int (zb ||| ((1 : Int32) <<< (x12 &&& 31))), .int 8, .ref (B + 31)]) hG hR dX0_choose_98 (lkX0_39 _ rfl) okV_X9_get rfl rfl (tget_32 (d := 4)) rfl rfl hdd (Nat.le_refl _) (Nat.le_refl _) (by first | decide | exact Nat.le_of_ble_eq_true rfl) (fx_ki ?_)
        refine pm_iadd hG dX0_choose_101 ?_
        obtain ⟨r16, h15, hE⟩ := fb_some hE
        refine pm_callV (As := [.int 8, .int (zb ||| ((1 : Int32) <<< (x12 &&& 31))), .int (zc + (fG 6 20 14 r14.2 x12 12)), .int (zd + (fG 32 20 1 r14.2 x12 0))]) (rest := []) hG hR dX0_choose_102 (lkX0_121 _ rfl) okV_X0_choose rfl rfl (c_X0_choose_k8 (d := 4) (by decide) h15) rfl rfl hdd (Nat.le_refl _) (Nat.le_refl _) (by decide) (fx_kv ?_)
        exact pm_vret hG hF dX0_choose_105 rfl (Nat.le_refl _) (Nat.le_refl _) (fx_rvc hE)
  · replace c1 := Int32.not_le.mp c1
    replace hE := fx_t c1 hE
    exact pm_vret hG hF dX0_choose_8 rfl (Nat.le_refl _) (Nat.le_refl _) (fx_rvc hE)
