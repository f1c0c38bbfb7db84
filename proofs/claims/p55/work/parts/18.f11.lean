section
set_option maxRecDepth 100000 in
set_option maxHeartbeats 4000000 in
theorem c_X6_readSum_k1 {d : Nat} {B cnt : Nat} {kp : Value} {ρ : pm_S} {S : FS} {R : Int32 × FS} (hdd : 25 ≤ d) (hE : f_X6_readSum_k1 S = some R) : pm_met mX6_readSum d 0 0 B [.ref (B + 27), .int 1] cnt (cst B kp S ρ) (pm_Qv (fun σ' cnt' => σ' = (cst B kp R.2 ρ) ∧ cnt' = cnt)) := by
  refine pm_enter 2 (by decide) (Nat.le_of_ble_eq_true rfl) rfl (fun G hG hR hF => ?_)
  unfold f_X6_readSum_k1 at hE
  refine pm_aloadn hG dX6_readSum_0 rfl ?_
  refine pm_iloadn hG dX6_readSum_1 rfl ?_
  obtain ⟨r2, h1, hE⟩ := fb_some hE
  refine pm_callV (As := [.int 1]) (rest := []) hG hR dX6_readSum_2 (lkX6_60 _ rfl) okV_X6_readPart rfl rfl (c_X6_readPart_k1 (d := 24) (by decide) h1) rfl rfl hdd (Nat.le_refl _) (Nat.le_refl _) (by decide) (fx_kv ?_)
  refine pm_iconst (v := 0) hG dX6_readSum_5 (by decide) ?_
  refine pm_istoreXn (loc' := [some (.ref (B + 27)), some (.int 1), some (.int 0), none]) hG dX6_readSum_6 (by decide) (pm_c1b rfl) rfl ?_
  have loop7 : ∀ (k7 : FS → Int32 → Option (Int32 × FS)), (∀ (S3 : FS) (x3_2 : Int32), k7 S3  x3_2 = some R → pm_wp mX6_readSum G B 78 [some (.ref (B + 27)), some (.int 1), some (.int x3_2), none] [] 0 0 cnt (cst B kp S3 ρ)) → ∀ (m7 : Nat) (S3 : FS) (x3_2 : Int32), l_X6_readSum_k1_7 k7 m7 S3  x3_2 = some R → pm_wp mX6_readSum G B 7 [some (.ref (B + 27)), some (.int 1), some (.int x3_2), none] [] 0 0 cnt (cst B kp S3 ρ) := by
    intro k7 hk7 m7
    induction m7 with
    | zero => intro S3  x3_2 hE; exact fx_no hE
    | succ m7 ih7 =>
      intro S3  x3_2 hE
      rw [l_X6_readSum_k1_7] at hE
      refine pm_iloadn hG dX6_readSum_7 rfl ?_
      refine pm_bipush (v := 60) hG dX6_readSum_8 (by decide) ?_
      refine pm_icmp_ge (tgt := 78) hG dX6_readSum_10 rfl (fun c4 => ?_) (fun c4 => ?_)
      · replace c4 := Int32.not_lt.mpr c4
        replace hE := fx_f c4 hE
        exact hk7 _ _ hE
      · replace c4 := Int32.not_le.mp c4
        replace hE := fx_t c4 hE
        refine pm_aloadn hG dX6_readSum_13 rfl ?_
        refine pm_callV (As := []) (rest := []) hG hR dX6_readSum_14 (lkX6_47 _ rfl) okV_X6_next rfl rfl (c_X6_next (d := 24) (by decide) rfl) rfl rfl hdd (Nat.le_refl _) (Nat.le_refl _) (by decide) (fx_ki ?_)
        refine pm_bipush (v := 43) hG dX6_readSum_17 (by decide) ?_
        refine pm_icmp_eq (tgt := 31) hG dX6_readSum_19 rfl (fun c5 => ?_) (fun c5 => ?_)
        · replace hE := fx_t c5 hE
          refine pm_aloadn hG dX6_readSum_31 rfl ?_
          refine pm_callV (As := []) (rest := []) hG hR dX6_readSum_32 (lkX6_47 _ rfl) okV_X6_next rfl rfl (c_X6_next (d := 24) (by decide) rfl) rfl rfl hdd (Nat.le_refl _) (Nat.le_refl _) (by decide) (fx_ki ?_)
          refine pm_bipush (v := 43) hG dX6_readSum_35 (by decide) ?_
          refine pm_icmp_ne (tgt := 45) hG dX6_readSum_37 rfl (fun q => absurd c5 q) (fun _ => ?_)
          refine pm_bipush (v := (-7)) hG dX6_readSum_40 (by decide) ?_
          refine pm_goto (tgt := 47) hG dX6_readSum_42 rfl ?_
          refine pm_istoreXn (loc' := [some (.ref (B + 27)), some (.int 1), some (.int x3_2), some (.int (-7))]) hG dX6_readSum_47 (by decide) (pm_c1b rfl) rfl ?_
          refine pm_aloadn hG dX6_readSum_48 rfl ?_
          refine pm_dup hG dX6_readSum_49 rfl ?_
          refine pm_getf hG dX6_readSum_50 (flX6_26 _ rfl) rfl rfl ?_
          refine pm_iconst (v := 1) hG dX6_readSum_53 (by decide) ?_
          refine pm_iadd hG dX6_readSum_54 ?_
          refine pm_putf hG dX6_readSum_55 (fwX6_26 _ rfl) rfl rfl rfl ?_
          refine ci_105 ?_
          refine fx_letc hE (fun S6 hE => ?_)
          refine pm_aloadn hG dX6_readSum_58 rfl ?_
          refine pm_iloadn hG dX6_readSum_59 rfl ?_
          obtain ⟨r8, h7, hE⟩ := fb_some hE
          refine pm_callV (As := [.int 1]) (rest := []) hG hR dX6_readSum_60 (lkX6_60 _ rfl) okV_X6_readPart rfl rfl (c_X6_readPart_k1 (d := 24) (by decide) h7) rfl rfl hdd (Nat.le_refl _) (Nat.le_refl _) (by decide) (fx_kv ?_)
          refine pm_aloadn hG dX6_readSum_63 rfl ?_
          refine pm_getf hG dX6_readSum_64 (flX6_20 _ rfl) rfl rfl ?_
          refine pm_iloadn hG dX6_readSum_67 rfl ?_
          obtain ⟨r10, h9, hE⟩ := fb_some hE
          refine pm_callV (As := [.int (-7)]) (rest := []) hG hR dX6_readSum_68 (lkX6_50 _ rfl) okV_X9_append rfl rfl (tappend_28 (d := 24) (by decide) h9) rfl rfl hdd (Nat.le_refl _) (Nat.le_refl _) (by decide) (fx_ki ?_)
          refine pm_pop hG dX6_readSum_71 rfl ?_
          refine pm_iincX (v := x3_2 + 1) (loc' := [some (.ref (B + 27)), some (.int 1), some (.int (x3_2 + 1)), some (.int (-7))]) hG dX6_readSum_72 rfl (by rfl) (by decide) (pm_c1b rfl) rfl ?_
          refine pm_goto (tgt := 7) hG dX6_readSum_75 rfl ?_
          refine pm_fg 3 (loc' := [some (.ref (B + 27)), some (.int 1), some (.int (x3_2 + 1)), none]) rfl ?_
          exact ih7 _ _ hE
        · replace hE := fx_f c5 hE
          refine pm_aloadn hG dX6_readSum_22 rfl ?_
          refine pm_callV (As := []) (rest := []) hG hR dX6_readSum_23 (lkX6_47 _ rfl) okV_X6_next rfl rfl (c_X6_next (d := 24) (by decide) rfl) rfl rfl hdd (Nat.le_refl _) (Nat.le_refl _) (by decide) (fx_ki ?_)
          refine pm_bipush (v := 45) hG dX6_readSum_26 (by decide) ?_
          refine pm_icmp_ne (tgt := 78) hG dX6_readSum_28 rfl (fun c11 => ?_) (fun c11 => ?_)
          · replace hE := fx_f c11 hE
            exact hk7 _ _ hE
          · replace hE := fx_t c11 hE
            refine pm_aloadn hG dX6_readSum_31 rfl ?_
            refine pm_callV (As := []) (rest := []) hG hR dX6_readSum_32 (lkX6_47 _ rfl) okV_X6_next rfl rfl (c_X6_next (d := 24) (by decide) rfl) rfl rfl hdd (Nat.le_refl _) (Nat.le_refl _) (by decide) (fx_ki ?_)
            refine pm_bipush (v := 43) hG dX6_readSum_35 (by decide) ?_
            refine pm_icmp_ne (tgt := 45) hG dX6_readSum_37 rfl (fun _ => ?_) (fun q => absurd q c5)
            refine pm_bipush (v := (-8)) hG dX6_readSum_45 (by decide) ?_
            refine pm_istoreXn (loc' := [some (.ref (B + 27)), some (.int 1), some (.int x3_2), some (.int (-8))]) hG dX6_readSum_47 (by decide) (pm_c1b rfl) rfl ?_
            refine pm_aloadn hG dX6_readSum_48 rfl ?_
            refine pm_dup hG dX6_readSum_49 rfl ?_
            refine pm_getf hG dX6_readSum_50 (flX6_26 _ rfl) rfl rfl ?_
            refine pm_iconst (v := 1) hG dX6_readSum_53 (by decide) ?_
            refine pm_iadd hG dX6_readSum_54 ?_
            refine pm_putf hG dX6_readSum_55 (fwX6_26 _ rfl) rfl rfl rfl ?_
            refine ci_105 ?_
            refine fx_letc hE (fun S12 hE => ?_)
            refine pm_aloadn hG dX6_readSum_58 rfl ?_
            refine pm_iloadn hG dX6_readSum_59 rfl ?_
            obtain ⟨r14, h13, hE⟩ := fb_some hE
            refine pm_callV (As := [.int 1]) (rest := []) hG hR dX6_readSum_60 (lkX6_60 _ rfl) okV_X6_readPart rfl rfl (c_X6_readPart_k1 (d := 24) (by decide) h13) rfl rfl hdd (Nat.le_refl _) (Nat.le_refl _) (by decide) (fx_kv ?_)
            refine pm_aloadn hG dX6_readSum_63 rfl ?_
            refine pm_getf hG dX6_readSum_64 (flX6_20 _ rfl) rfl rfl ?_
            refine pm_iloadn hG dX6_readSum_67 rfl ?_
            obtain ⟨r16, h15, hE⟩ := fb_some hE
            refine pm_callV (As := [.int (-8)]) (rest := []) hG hR dX6_readSum_68 (lkX6_50 _ rfl) okV_X9_append rfl rfl (tappend_28 (d := 24) (by decide) h15) rfl rfl hdd (Nat.le_refl _) (Nat.le_refl _) (by decide) (fx_ki ?_)
            refine pm_pop hG dX6_readSum_71 rfl ?_
            refine pm_iincX (v := x3_2 + 1) (loc' := [some (.ref (B + 27)), some (.int 1), some (.int (x3_2 + 1)), some (.int (-8))]) hG dX6_readSum_72 rfl (by rfl) (by decide) (pm_c1b rfl) rfl ?_
            refine pm_goto (tgt := 7) hG dX6_readSum_75 rfl ?_
            refine pm_fg 3 (loc' := [some (.ref (B + 27)), some (.int 1), some (.int (x3_2 + 1)), none]) rfl ?_
            exact ih7 _ _ hE
  refine loop7 _ (fun S17 x17_2 hE => ?_) _ _ _ hE
  exact pm_vret hG hF dX6_readSum_78 rfl (Nat.le_refl _) (Nat.le_refl _) (fx_rvc hE)

set_option maxRecDepth 100000 in
set_option maxHeartbeats 4000000 in
theorem c_X6_readComparison_k1 {d : Nat} {B cnt : Nat} {kp : Value} {ρ : pm_S} {S : FS} {R : Int32 × FS} (hdd : 26 ≤ d) (hE : f_X6_readComparison_k1 S = some R) : pm_met mX6_readComparison d 0 0 B [.ref (B + 27), .int 1] cnt (cst B kp S ρ) (pm_Qv (fun σ' cnt' => σ' = (cst B kp R.2 ρ) ∧ cnt' = cnt)) := by
  refine pm_enter 1 (by decide) (Nat.le_of_ble_eq_true rfl) rfl (fun G hG hR hF => ?_)
  unfold f_X6_readComparison_k1 at hE
  refine pm_aloadn hG dX6_readComparison_0 rfl ?_
  refine pm_iloadn hG dX6_readComparison_1 rfl ?_
  obtain ⟨r2, h1, hE⟩ := fb_some hE
  refine pm_callV (As := [.int 1]) (rest := []) hG hR dX6_readComparison_2 (lkX6_57 _ rfl) okV_X6_readSum rfl rfl (c_X6_readSum_k1 (d := 25) (by decide) h1) rfl rfl hdd (Nat.le_refl _) (Nat.le_refl _) (by decide) (fx_kv ?_)
  refine pm_aloadn hG dX6_readComparison_5 rfl ?_
  refine pm_callV (As := []) (rest := []) hG hR dX6_readComparison_6 (lkX6_47 _ rfl) okV_X6_next rfl rfl (c_X6_next (d := 25) (by decide) rfl) rfl rfl hdd (Nat.le_refl _) (Nat.le_refl _) (by decide) (fx_ki ?_)
  refine fx_letv hE (fun x3 hE => ?_)
  refine pm_istoreXn (loc' := [some (.ref (B + 27)), some (.int 1), some (.int x3)]) hG dX6_readComparison_9 (by decide) (pm_c1b rfl) rfl ?_
  refine pm_iloadn hG dX6_readComparison_10 rfl ?_
  refine pm_bipush (v := 60) hG dX6_readComparison_11 (by decide) ?_
  refine pm_icmp_eq (tgt := 28) hG dX6_readComparison_13 rfl (fun c4 => ?_) (fun c4 => ?_)
  · replace hE := fx_t c4 hE
    refine pm_aloadn hG dX6_readComparison_28 rfl ?_
    refine pm_dup hG dX6_readComparison_29 rfl ?_
    refine pm_getf hG dX6_readComparison_30 (flX6_26 _ rfl) rfl rfl ?_
    refine pm_iconst (v := 1) hG dX6_readComparison_33 (by decide) ?_
    refine pm_iadd hG dX6_readComparison_34 ?_
    refine pm_putf hG dX6_readComparison_35 (fwX6_26 _ rfl) rfl rfl rfl ?_
    refine ci_105 ?_
    refine fx_letc hE (fun S5 hE => ?_)
    refine pm_aloadn hG dX6_readComparison_38 rfl ?_
    refine pm_iloadn hG dX6_readComparison_39 rfl ?_
    obtain ⟨r7, h6, hE⟩ := fb_some hE
    refine pm_callV (As := [.int 1]) (rest := []) hG hR dX6_readComparison_40 (lkX6_57 _ rfl) okV_X6_readSum rfl rfl (c_X6_readSum_k1 (d := 25) (by decide) h6) rfl rfl hdd (Nat.le_refl _) (Nat.le_refl _) (by decide) (fx_kv ?_)
    refine pm_aloadn hG dX6_readComparison_43 rfl ?_
    refine pm_getf hG dX6_readComparison_44 (flX6_20 _ rfl) rfl rfl ?_
    refine pm_iloadn hG dX6_readComparison_47 rfl ?_
    refine pm_bipush (v := 60) hG dX6_readComparison_48 (by decide) ?_
    refine pm_icmp_ne (tgt := 58) hG dX6_readComparison_50 rfl (fun q => absurd c4 q) (fun _ => ?_)
    refine pm_bipush (v := (-4)) hG dX6_readComparison_53 (by decide) ?_
    refine pm_goto (tgt := 71) hG dX6_readComparison_55 rfl ?_
    obtain ⟨r9, h8, hE⟩ := fb_some hE
    refine pm_callV (As := [.int (-4)]) (rest := []) hG hR dX6_readComparison_71 (lkX6_50 _ rfl) okV_X9_append rfl rfl (tappend_28 (d := 25) (by decide) h8) rfl rfl hdd (Nat.le_refl _) (Nat.le_refl _) (by decide) (fx_ki ?_)
    refine pm_pop hG dX6_readComparison_74 rfl ?_
    exact pm_vret hG hF dX6_readComparison_75 rfl (Nat.le_refl _) (Nat.le_refl _) (fx_rvc hE)
  · replace hE := fx_f c4 hE
    refine pm_iloadn hG dX6_readComparison_16 rfl ?_
    refine pm_bipush (v := 61) hG dX6_readComparison_17 (by decide) ?_
    refine pm_icmp_eq (tgt := 28) hG dX6_readComparison_19 rfl (fun c10 => ?_) (fun c10 => ?_)
    · replace hE := fx_t c10 hE
      refine pm_aloadn hG dX6_readComparison_28 rfl ?_
      refine pm_dup hG dX6_readComparison_29 rfl ?_
      refine pm_getf hG dX6_readComparison_30 (flX6_26 _ rfl) rfl rfl ?_
      refine pm_iconst (v := 1) hG dX6_readComparison_33 (by decide) ?_
      refine pm_iadd hG dX6_readComparison_34 ?_
      refine pm_putf hG dX6_readComparison_35 (fwX6_26 _ rfl) rfl rfl rfl ?_
      refine ci_105 ?_
      refine fx_letc hE (fun S11 hE => ?_)
      refine pm_aloadn hG dX6_readComparison_38 rfl ?_
      refine pm_iloadn hG dX6_readComparison_39 rfl ?_
      obtain ⟨r13, h12, hE⟩ := fb_some hE
      refine pm_callV (As := [.int 1]) (rest := []) hG hR dX6_readComparison_40 (lkX6_57 _ rfl) okV_X6_readSum rfl rfl (c_X6_readSum_k1 (d := 25) (by decide) h12) rfl rfl hdd (Nat.le_refl _) (Nat.le_refl _) (by decide) (fx_kv ?_)
      refine pm_aloadn hG dX6_readComparison_43 rfl ?_
      refine pm_getf hG dX6_readComparison_44 (flX6_20 _ rfl) rfl rfl ?_
      refine pm_iloadn hG dX6_readComparison_47 rfl ?_
      refine pm_bipush (v := 60) hG dX6_readComparison_48 (by decide) ?_
      refine pm_icmp_ne (tgt := 58) hG dX6_readComparison_50 rfl (fun _ => ?_) (fun q => absurd q c4)
      refine pm_iloadn hG dX6_readComparison_58 rfl ?_
      refine pm_bipush (v := 61) hG dX6_readComparison_59 (by decide) ?_
      refine pm_icmp_ne (tgt := 69) hG dX6_readComparison_61 rfl (fun q => absurd c10 q) (fun _ => ?_)
      refine pm_bipush (v := (-5)) hG dX6_readComparison_64 (by decide) ?_
      refine pm_goto (tgt := 71) hG dX6_readComparison_66 rfl ?_
      obtain ⟨r15, h14, hE⟩ := fb_some hE
      refine pm_callV (As := [.int (-5)]) (rest := []) hG hR dX6_readComparison_71 (lkX6_50 _ rfl) okV_X9_append rfl rfl (tappend_28 (d := 25) (by decide) h14) rfl rfl hdd (Nat.le_refl _) (Nat.le_refl _) (by decide) (fx_ki ?_)
      refine pm_pop hG dX6_readComparison_74 rfl ?_
      exact pm_vret hG hF dX6_readComparison_75 rfl (Nat.le_refl _) (Nat.le_refl _) (fx_rvc hE)
    · replace hE := fx_f c10 hE
      refine pm_iloadn hG dX6_readComparison_22 rfl ?_
      refine pm_bipush (v := 62) hG dX6_readComparison_23 (by decide) ?_
      refine pm_icmp_ne (tgt := 75) hG dX6_readComparison_25 rfl (fun c16 => ?_) (fun c16 => ?_)
      · replace hE := fx_f c16 hE
        exact pm_vret hG hF dX6_readComparison_75 rfl (Nat.le_refl _) (Nat.le_refl _) (fx_rvc hE)
      · replace hE := fx_t c16 hE
        refine pm_aloadn hG dX6_readComparison_28 rfl ?_
        refine pm_dup hG dX6_readComparison_29 rfl ?_
        refine pm_getf hG dX6_readComparison_30 (flX6_26 _ rfl) rfl rfl ?_
        refine pm_iconst (v := 1) hG dX6_readComparison_33 (by decide) ?_
        refine pm_iadd hG dX6_readComparison_34 ?_
        refine pm_putf hG dX6_readComparison_35 (fwX6_26 _ rfl) rfl rfl rfl ?_
        refine ci_105 ?_
        refine fx_letc hE (fun S17 hE => ?_)
        refine pm_aloadn hG dX6_readComparison_38 rfl ?_
        refine pm_iloadn hG dX6_readComparison_39 rfl ?_
        obtain ⟨r19, h18, hE⟩ := fb_some hE
        refine pm_callV (As := [.int 1]) (rest := []) hG hR dX6_readComparison_40 (lkX6_57 _ rfl) okV_X6_readSum rfl rfl (c_X6_readSum_k1 (d := 25) (by decide) h18) rfl rfl hdd (Nat.le_refl _) (Nat.le_refl _) (by decide) (fx_kv ?_)
        refine pm_aloadn hG dX6_readComparison_43 rfl ?_
        refine pm_getf hG dX6_readComparison_44 (flX6_20 _ rfl) rfl rfl ?_
        refine pm_iloadn hG dX6_readComparison_47 rfl ?_
        refine pm_bipush (v := 60) hG dX6_readComparison_48 (by decide) ?_
        refine pm_icmp_ne (tgt := 58) hG dX6_readComparison_50 rfl (fun _ => ?_) (fun q => absurd q c4)
        refine pm_iloadn hG dX6_readComparison_58 rfl ?_
        refine pm_bipush (v := 61) hG dX6_readComparison_59 (by decide) ?_
        refine pm_icmp_ne (tgt := 69) hG dX6_readComparison_61 rfl (fun _ => ?_) (fun q => absurd q c10)
        refine pm_bipush (v := (-6)) hG dX6_readComparison_69 (by decide) ?_
        obtain ⟨r21, h20, hE⟩ := fb_some hE
        refine pm_callV (As := [.int (-6)]) (rest := []) hG hR dX6_readComparison_71 (lkX6_50 _ rfl) okV_X9_append rfl rfl (tappend_28 (d := 25) (by decide) h20) rfl rfl hdd (Nat.le_refl _) (Nat.le_refl _) (by decide) (fx_ki ?_)
        refine pm_pop hG dX6_readComparison_74 rfl ?_
        exact pm_vret hG hF dX6_readComparison_75 rfl (Nat.le_refl _) (Nat.le_refl _) (fx_rvc hE)

set_option maxRecDepth 100000 in
set_option maxHeartbeats 4000000 in
theorem c_X6_readConjunction_k1 {d : Nat} {B cnt : Nat} {kp : Value} {ρ : pm_S} {S : FS} {R : Int32 × FS} (hdd : 27 ≤ d) (hE : f_X6_readConjunction_k1 S = some R) : pm_met mX6_readConjunction d 0 0 B [.ref (B + 27), .int 1] cnt (cst B kp S ρ) (pm_Qv (fun σ' cnt' => σ' = (cst B kp R.2 ρ) ∧ cnt' = cnt)) := by
  refine pm_enter 1 (by decide) (Nat.le_of_ble_eq_true rfl) rfl (fun G hG hR hF => ?_)
  unfold f_X6_readConjunction_k1 at hE
  refine pm_aloadn hG dX6_readConjunction_0 rfl ?_
  refine pm_iloadn hG dX6_readConjunction_1 rfl ?_
  obtain ⟨r2, h1, hE⟩ := fb_some hE
  refine pm_callV (As := [.int 1]) (rest := []) hG hR dX6_readConjunction_2 (lkX6_54 _ rfl) okV_X6_readComparison rfl rfl (c_X6_readComparison_k1 (d := 26) (by decide) h1) rfl rfl hdd (Nat.le_refl _) (Nat.le_refl _) (by decide) (fx_kv ?_)
  refine pm_iconst (v := 0) hG dX6_readConjunction_5 (by decide) ?_
  refine pm_istoreXn (loc' := [some (.ref (B + 27)), some (.int 1), some (.int 0)]) hG dX6_readConjunction_6 (by decide) (pm_c1b rfl) rfl ?_
  have loop7 : ∀ (k7 : FS → Int32 → Option (Int32 × FS)), (∀ (S3 : FS) (x3_2 : Int32), k7 S3  x3_2 = some R → pm_wp mX6_readConjunction G B 53 [some (.ref (B + 27)), some (.int 1), some (.int x3_2)] [] 0 0 cnt (cst B kp S3 ρ)) → ∀ (m7 : Nat) (S3 : FS) (x3_2 : Int32), l_X6_readConjunction_k1_7 k7 m7 S3  x3_2 = some R → pm_wp mX6_readConjunction G B 7 [some (.ref (B + 27)), some (.int 1), some (.int x3_2)] [] 0 0 cnt (cst B kp S3 ρ) := by
    intro k7 hk7 m7
    induction m7 with
    | zero => intro S3  x3_2 hE; exact fx_no hE
    | succ m7 ih7 =>
      intro S3  x3_2 hE
      rw [l_X6_readConjunction_k1_7] at hE
      refine pm_iloadn hG dX6_readConjunction_7 rfl ?_
      refine pm_bipush (v := 60) hG dX6_readConjunction_8 (by decide) ?_
      refine pm_icmp_ge (tgt := 53) hG dX6_readConjunction_10 rfl (fun c4 => ?_) (fun c4 => ?_)
      · replace c4 := Int32.not_lt.mpr c4
        replace hE := fx_f c4 hE
        exact hk7 _ _ hE
      · replace c4 := Int32.not_le.mp c4
        replace hE := fx_t c4 hE
        refine pm_aloadn hG dX6_readConjunction_13 rfl ?_
        refine pm_callV (As := []) (rest := []) hG hR dX6_readConjunction_14 (lkX6_47 _ rfl) okV_X6_next rfl rfl (c_X6_next (d := 26) (by decide) rfl) rfl rfl hdd (Nat.le_refl _) (Nat.le_refl _) (by decide) (fx_ki ?_)
        refine pm_bipush (v := 38) hG dX6_readConjunction_17 (by decide) ?_
        refine pm_icmp_ne (tgt := 53) hG dX6_readConjunction_19 rfl (fun c5 => ?_) (fun c5 => ?_)
        · replace hE := fx_f c5 hE
          exact hk7 _ _ hE
        · replace hE := fx_t c5 hE
          refine pm_aloadn hG dX6_readConjunction_22 rfl ?_
          refine pm_dup hG dX6_readConjunction_23 rfl ?_
          refine pm_getf hG dX6_readConjunction_24 (flX6_26 _ rfl) rfl rfl ?_
          refine pm_iconst (v := 1) hG dX6_readConjunction_27 (by decide) ?_
          refine pm_iadd hG dX6_readConjunction_28 ?_
          refine pm_putf hG dX6_readConjunction_29 (fwX6_26 _ rfl) rfl rfl rfl ?_
          refine ci_105 ?_
          refine fx_letc hE (fun S6 hE => ?_)
          refine pm_aloadn hG dX6_readConjunction_32 rfl ?_
          refine pm_iloadn hG dX6_readConjunction_33 rfl ?_
          obtain ⟨r8, h7, hE⟩ := fb_some hE
          refine pm_callV (As := [.int 1]) (rest := []) hG hR dX6_readConjunction_34 (lkX6_54 _ rfl) okV_X6_readComparison rfl rfl (c_X6_readComparison_k1 (d := 26) (by decide) h7) rfl rfl hdd (Nat.le_refl _) (Nat.le_refl _) (by decide) (fx_kv ?_)
          refine pm_aloadn hG dX6_readConjunction_37 rfl ?_
          refine pm_getf hG dX6_readConjunction_38 (flX6_20 _ rfl) rfl rfl ?_
          refine pm_bipush (v := (-3)) hG dX6_readConjunction_41 (by decide) ?_
          obtain ⟨r10, h9, hE⟩ := fb_some hE
          refine pm_callV (As := [.int (-3)]) (rest := []) hG hR dX6_readConjunction_43 (lkX6_50 _ rfl) okV_X9_append rfl rfl (tappend_28 (d := 26) (by decide) h9) rfl rfl hdd (Nat.le_refl _) (Nat.le_refl _) (by decide) (fx_ki ?_)
          refine pm_pop hG dX6_readConjunction_46 rfl ?_
          refine pm_iincX (v := x3_2 + 1) (loc' := [some (.ref (B + 27)), some (.int 1), some (.int (x3_2 + 1))]) hG dX6_readConjunction_47 rfl (by rfl) (by decide) (pm_c1b rfl) rfl ?_
          refine pm_goto (tgt := 7) hG dX6_readConjunction_50 rfl ?_
          exact ih7 _ _ hE
  refine loop7 _ (fun S11 x11_2 hE => ?_) _ _ _ hE
  exact pm_vret hG hF dX6_readConjunction_53 rfl (Nat.le_refl _) (Nat.le_refl _) (fx_rvc hE)

set_option maxRecDepth 100000 in
set_option maxHeartbeats 4000000 in
theorem c_X6_readText_k1 {d : Nat} {B cnt : Nat} {kp : Value} {ρ : pm_S} {S : FS} {R : Int32 × FS} (hdd : 28 ≤ d) (hE : f_X6_readText_k1 S = some R) : pm_met mX6_readText d 0 0 B [.ref (B + 27), .int 1] cnt (cst B kp S ρ) (pm_Qv (fun σ' cnt' => σ' = (cst B kp R.2 ρ) ∧ cnt' = cnt)) := by
  refine pm_enter 1 (by decide) (Nat.le_of_ble_eq_true rfl) rfl (fun G hG hR hF => ?_)
  unfold f_X6_readText_k1 at hE
  refine pm_aloadn hG dX6_readText_0 rfl ?_
  refine pm_iloadn hG dX6_readText_1 rfl ?_
  obtain ⟨r2, h1, hE⟩ := fb_some hE
  refine pm_callV (As := [.int 1]) (rest := []) hG hR dX6_readText_2 (lkX6_44 _ rfl) okV_X6_readConjunction rfl rfl (c_X6_readConjunction_k1 (d := 27) (by decide) h1) rfl rfl hdd (Nat.le_refl _) (Nat.le_refl _) (by decide) (fx_kv ?_)
  refine pm_iconst (v := 0) hG dX6_readText_5 (by decide) ?_
  refine pm_istoreXn (loc' := [some (.ref (B + 27)), some (.int 1), some (.int 0)]) hG dX6_readText_6 (by decide) (pm_c1b rfl) rfl ?_
  have loop7 : ∀ (k7 : FS → Int32 → Option (Int32 × FS)), (∀ (S3 : FS) (x3_2 : Int32), k7 S3  x3_2 = some R → pm_wp mX6_readText G B 53 [some (.ref (B + 27)), some (.int 1), some (.int x3_2)] [] 0 0 cnt (cst B kp S3 ρ)) → ∀ (m7 : Nat) (S3 : FS) (x3_2 : Int32), l_X6_readText_k1_7 k7 m7 S3  x3_2 = some R → pm_wp mX6_readText G B 7 [some (.ref (B + 27)), some (.int 1), some (.int x3_2)] [] 0 0 cnt (cst B kp S3 ρ) := by
    intro k7 hk7 m7
    induction m7 with
    | zero => intro S3  x3_2 hE; exact fx_no hE
    | succ m7 ih7 =>
      intro S3  x3_2 hE
      rw [l_X6_readText_k1_7] at hE
      refine pm_iloadn hG dX6_readText_7 rfl ?_
      refine pm_bipush (v := 60) hG dX6_readText_8 (by decide) ?_
      refine pm_icmp_ge (tgt := 53) hG dX6_readText_10 rfl (fun c4 => ?_) (fun c4 => ?_)
      · replace c4 := Int32.not_lt.mpr c4
        replace hE := fx_f c4 hE
        exact hk7 _ _ hE
      · replace c4 := Int32.not_le.mp c4
        replace hE := fx_t c4 hE
        refine pm_aloadn hG dX6_readText_13 rfl ?_
        refine pm_callV (As := []) (rest := []) hG hR dX6_readText_14 (lkX6_47 _ rfl) okV_X6_next rfl rfl (c_X6_next (d := 27) (by decide) rfl) rfl rfl hdd (Nat.le_refl _) (Nat.le_refl _) (by decide) (fx_ki ?_)
        refine pm_bipush (v := 124) hG dX6_readText_17 (by decide) ?_
        refine pm_icmp_ne (tgt := 53) hG dX6_readText_19 rfl (fun c5 => ?_) (fun c5 => ?_)
        · replace hE := fx_f c5 hE
          exact hk7 _ _ hE
        · replace hE := fx_t c5 hE
          refine pm_aloadn hG dX6_readText_22 rfl ?_
          refine pm_dup hG dX6_readText_23 rfl ?_
          refine pm_getf hG dX6_readText_24 (flX6_26 _ rfl) rfl rfl ?_
          refine pm_iconst (v := 1) hG dX6_readText_27 (by decide) ?_
          refine pm_iadd hG dX6_readText_28 ?_
          refine pm_putf hG dX6_readText_29 (fwX6_26 _ rfl) rfl rfl rfl ?_
          refine ci_105 ?_
          refine fx_letc hE (fun S6 hE => ?_)
          refine pm_aloadn hG dX6_readText_32 rfl ?_
          refine pm_iloadn hG dX6_readText_33 rfl ?_
          obtain ⟨r8, h7, hE⟩ := fb_some hE
          refine pm_callV (As := [.int 1]) (rest := []) hG hR dX6_readText_34 (lkX6_44 _ rfl) okV_X6_readConjunction rfl rfl (c_X6_readConjunction_k1 (d := 27) (by decide) h7) rfl rfl hdd (Nat.le_refl _) (Nat.le_refl _) (by decide) (fx_kv ?_)
          refine pm_aloadn hG dX6_readText_37 rfl ?_
          refine pm_getf hG dX6_readText_38 (flX6_20 _ rfl) rfl rfl ?_
          refine pm_bipush (v := (-2)) hG dX6_readText_41 (by decide) ?_
          obtain ⟨r10, h9, hE⟩ := fb_some hE
          refine pm_callV (As := [.int (-2)]) (rest := []) hG hR dX6_readText_43 (lkX6_50 _ rfl) okV_X9_append rfl rfl (tappend_28 (d := 27) (by decide) h9) rfl rfl hdd (Nat.le_refl _) (Nat.le_refl _) (by decide) (fx_ki ?_)
          refine pm_pop hG dX6_readText_46 rfl ?_
          refine pm_iincX (v := x3_2 + 1) (loc' := [some (.ref (B + 27)), some (.int 1), some (.int (x3_2 + 1))]) hG dX6_readText_47 rfl (by rfl) (by decide) (pm_c1b rfl) rfl ?_
          refine pm_goto (tgt := 7) hG dX6_readText_50 rfl ?_
          exact ih7 _ _ hE
  refine loop7 _ (fun S11 x11_2 hE => ?_) _ _ _ hE
  exact pm_vret hG hF dX6_readText_53 rfl (Nat.le_refl _) (Nat.le_refl _) (fx_rvc hE)

set_option maxRecDepth 100000 in
set_option maxHeartbeats 4000000 in
theorem c_X6_readPart_k0 {d : Nat} {B cnt : Nat} {kp : Value} {ρ : pm_S} {S : FS} {R : Int32 × FS} (hdd : 29 ≤ d) (hE : f_X6_readPart_k0 S = some R) : pm_met mX6_readPart d 0 0 B [.ref (B + 27), .int 0] cnt (cst B kp S ρ) (pm_Qv (fun σ' cnt' => σ' = (cst B kp R.2 ρ) ∧ cnt' = cnt)) := by
  refine pm_enter 2 (by decide) (Nat.le_of_ble_eq_true rfl) rfl (fun G hG hR hF => ?_)
  unfold f_X6_readPart_k0 at hE
  refine pm_aloadn hG dX6_readPart_0 rfl ?_
  refine pm_callV (As := []) (rest := []) hG hR dX6_readPart_1 (lkX6_47 _ rfl) okV_X6_next rfl rfl (c_X6_next (d := 28) (by decide) rfl) rfl rfl hdd (Nat.le_refl _) (Nat.le_refl _) (by decide) (fx_ki ?_)
  refine fx_letv hE (fun x1 hE => ?_)
  refine pm_istoreXn (loc' := [some (.ref (B + 27)), some (.int 0), some (.int x1), none]) hG dX6_readPart_4 (by decide) (pm_c1b rfl) rfl ?_
  refine pm_iloadn hG dX6_readPart_5 rfl ?_
  refine pm_if_ge (tgt := 13) hG dX6_readPart_6 rfl (fun c2 => ?_) (fun c2 => ?_)
  · replace c2 := Int32.not_lt.mpr c2
    replace hE := fx_f c2 hE
    refine pm_ldcN hG rfl dX6_readPart_13 (fun q3 z3 hN3 => ?_)
    refine pm_iloadn hG dX6_readPart_15 rfl ?_
    refine pm_i2cE hG dX6_readPart_16 rfl ?_
    obtain ⟨x5, h4, hE⟩ := fb_some hE
    refine pm_callVN (As := [.int ((x1.toUInt32 % 65536).toInt32)]) (rest := []) hN3 hG hR dX6_readPart_17 (lpX6_65 _ rfl) okV_J0_indexOf_0f7a4 rfl (fj_iof (d := 28) (by decide) h4) rfl rfl hdd (Nat.le_refl _) (Nat.le_refl _) (by first | decide | exact Nat.le_of_ble_eq_true rfl) (fx_ki ?_)
    refine pm_istoreXn (loc' := [some (.ref (B + 27)), some (.int 0), some (.int x1), some (.int x5)]) hG dX6_readPart_20 (by decide) (pm_c1b rfl) rfl ?_
    refine pm_iloadn hG dX6_readPart_21 rfl ?_
    refine pm_callS (As := [.int x1]) (rest := []) hG hR dX6_readPart_22 (lkX6_70 _ rfl) okS_X6_isDigit (c_X6_isDigit (d := 28) (by decide) rfl) rfl rfl hdd (Nat.le_refl _) (Nat.le_refl _) (by decide) (fx_ki ?_)
    refine pm_if_eq (tgt := 35) hG dX6_readPart_25 rfl (fun c6 => ?_) (fun c6 => ?_)
    · replace hE := fx_t c6 hE
      refine pm_iloadn hG dX6_readPart_35 rfl ?_
      refine pm_if_lt (tgt := 64) hG dX6_readPart_36 rfl (fun c7 => ?_) (fun c7 => ?_)
      · replace hE := fx_t c7 hE
        refine pm_iloadn hG dX6_readPart_64 rfl ?_
        refine pm_bipush (v := 33) hG dX6_readPart_65 (by decide) ?_
        refine pm_icmp_ne (tgt := 104) hG dX6_readPart_67 rfl (fun c8 => ?_) (fun c8 => ?_)
        · replace hE := fx_f c8 hE
          refine pm_iloadn hG dX6_readPart_104 rfl ?_
          refine pm_bipush (v := 40) hG dX6_readPart_105 (by decide) ?_
          refine pm_icmp_ne (tgt := 139) hG dX6_readPart_107 rfl (fun c9 => ?_) (fun c9 => ?_)
          · replace hE := fx_f c9 hE
            refine pm_aloadn hG dX6_readPart_139 rfl ?_
            obtain ⟨r11, h10, hE⟩ := fb_some hE
            refine pm_callV (As := []) (rest := []) hG hR dX6_readPart_140 (lkX6_41 _ rfl) okV_X6_fail rfl rfl (c_X6_fail (d := 28) (by decide) h10) rfl rfl hdd (Nat.le_refl _) (Nat.le_refl _) (by decide) (fx_kv ?_)
            exact pm_vret hG hF dX6_readPart_143 rfl (Nat.le_refl _) (Nat.le_refl _) (fx_rvc hE)
          · replace hE := fx_t c9 hE
            refine pm_iloadn hG dX6_readPart_110 rfl ?_
            refine pm_iconst (v := 5) hG dX6_readPart_111 (by decide) ?_
            refine pm_icmp_ge (tgt := 139) hG dX6_readPart_112 rfl (fun q => absurd q (by decide)) (fun _ => ?_)
            refine pm_aloadn hG dX6_readPart_115 rfl ?_
            refine pm_dup hG dX6_readPart_116 rfl ?_
            refine pm_getf hG dX6_readPart_117 (flX6_26 _ rfl) rfl rfl ?_
            refine pm_iconst (v := 1) hG dX6_readPart_120 (by decide) ?_
            refine pm_iadd hG dX6_readPart_121 ?_
            refine pm_putf hG dX6_readPart_122 (fwX6_26 _ rfl) rfl rfl rfl ?_
            refine ci_105 ?_
            refine fx_letc hE (fun S12 hE => ?_)
            refine pm_aloadn hG dX6_readPart_125 rfl ?_
            refine pm_iloadn hG dX6_readPart_126 rfl ?_
            refine pm_iconst (v := 1) hG dX6_readPart_127 (by decide) ?_
            refine pm_iadd hG dX6_readPart_128 ?_
            refine pm_top (v := 1) (by decide) ?_
            obtain ⟨r14, h13, hE⟩ := fb_some hE
            refine pm_callV (As := [.int 1]) (rest := []) hG hR dX6_readPart_129 (lkX6_33 _ rfl) okV_X6_readText rfl rfl (c_X6_readText_k1 (d := 28) (by decide) h13) rfl rfl hdd (Nat.le_refl _) (Nat.le_refl _) (by decide) (fx_kv ?_)
            refine pm_aloadn hG dX6_readPart_132 rfl ?_
            obtain ⟨r16, h15, hE⟩ := fb_some hE
            refine pm_callV (As := []) (rest := []) hG hR dX6_readPart_133 (lkX6_77 _ rfl) okV_X6_readClosing rfl rfl (c_X6_readClosing (d := 28) (by decide) h15) rfl rfl hdd (Nat.le_refl _) (Nat.le_refl _) (by decide) (fx_kv ?_)
            refine pm_goto (tgt := 143) hG dX6_readPart_136 rfl ?_
            exact pm_vret hG hF dX6_readPart_143 rfl (Nat.le_refl _) (Nat.le_refl _) (fx_rvc hE)
        · replace hE := fx_t c8 hE
          refine pm_iloadn hG dX6_readPart_70 rfl ?_
          refine pm_iconst (v := 5) hG dX6_readPart_71 (by decide) ?_
          refine pm_icmp_ge (tgt := 104) hG dX6_readPart_72 rfl (fun q => absurd q (by decide)) (fun _ => ?_)
          refine pm_aloadn hG dX6_readPart_75 rfl ?_
          refine pm_dup hG dX6_readPart_76 rfl ?_
          refine pm_getf hG dX6_readPart_77 (flX6_26 _ rfl) rfl rfl ?_
          refine pm_iconst (v := 1) hG dX6_readPart_80 (by decide) ?_
          refine pm_iadd hG dX6_readPart_81 ?_
          refine pm_putf hG dX6_readPart_82 (fwX6_26 _ rfl) rfl rfl rfl ?_
          refine ci_105 ?_
          refine fx_letc hE (fun S17 hE => ?_)
          refine pm_aloadn hG dX6_readPart_85 rfl ?_
          refine pm_iloadn hG dX6_readPart_86 rfl ?_
          refine pm_iconst (v := 1) hG dX6_readPart_87 (by decide) ?_
          refine pm_iadd hG dX6_readPart_88 ?_
          refine pm_top (v := 1) (by decide) ?_
          obtain ⟨r19, h18, hE⟩ := fb_some hE
          refine pm_callV (As := [.int 1]) (rest := []) hG hR dX6_readPart_89 (lkX6_60 _ rfl) okV_X6_readPart rfl rfl (c_X6_readPart_k1 (d := 28) (by decide) h18) rfl rfl hdd (Nat.le_refl _) (Nat.le_refl _) (by decide) (fx_kv ?_)
          refine pm_aloadn hG dX6_readPart_92 rfl ?_
          refine pm_getf hG dX6_readPart_93 (flX6_20 _ rfl) rfl rfl ?_
          refine pm_iconst (v := (-1)) hG dX6_readPart_96 (by decide) ?_
          obtain ⟨r21, h20, hE⟩ := fb_some hE
          refine pm_callV (As := [.int (-1)]) (rest := []) hG hR dX6_readPart_97 (lkX6_50 _ rfl) okV_X9_append rfl rfl (tappend_28 (d := 28) (by decide) h20) rfl rfl hdd (Nat.le_refl _) (Nat.le_refl _) (by decide) (fx_ki ?_)
          refine pm_pop hG dX6_readPart_100 rfl ?_
          refine pm_goto (tgt := 143) hG dX6_readPart_101 rfl ?_
          exact pm_vret hG hF dX6_readPart_143 rfl (Nat.le_refl _) (Nat.le_refl _) (fx_rvc hE)
      · replace hE := fx_f c7 hE
        refine pm_aloadn hG dX6_readPart_39 rfl ?_
        refine pm_dup hG dX6_readPart_40 rfl ?_
        refine pm_getf hG dX6_readPart_41 (flX6_26 _ rfl) rfl rfl ?_
        refine pm_iconst (v := 1) hG dX6_readPart_44 (by decide) ?_
        refine pm_iadd hG dX6_readPart_45 ?_
        refine pm_putf hG dX6_readPart_46 (fwX6_26 _ rfl) rfl rfl rfl ?_
        refine ci_105 ?_
        refine fx_letc hE (fun S22 hE => ?_)
        refine pm_aloadn hG dX6_readPart_49 rfl ?_
        refine pm_getf hG dX6_readPart_50 (flX6_20 _ rfl) rfl rfl ?_
        refine pm_bipush (v := (-20)) hG dX6_readPart_53 (by decide) ?_
        refine pm_iloadn hG dX6_readPart_55 rfl ?_
        refine pm_isub hG dX6_readPart_56 ?_
        obtain ⟨r24, h23, hE⟩ := fb_some hE
        refine pm_callV (As := [.int ((-20) - x5)]) (rest := []) hG hR dX6_readPart_57 (lkX6_50 _ rfl) okV_X9_append rfl rfl (tappend_28 (d := 28) (by decide) h23) rfl rfl hdd (Nat.le_refl _) (Nat.le_refl _) (by decide) (fx_ki ?_)
        refine pm_pop hG dX6_readPart_60 rfl ?_
        refine pm_goto (tgt := 143) hG dX6_readPart_61 rfl ?_
        exact pm_vret hG hF dX6_readPart_143 rfl (Nat.le_refl _) (Nat.le_refl _) (fx_rvc hE)
    · replace hE := fx_f c6 hE
      refine pm_aloadn hG dX6_readPart_28 rfl ?_
      obtain ⟨r26, h25, hE⟩ := fb_some hE
      refine pm_callV (As := []) (rest := []) hG hR dX6_readPart_29 (lkX6_74 _ rfl) okV_X6_readNumber rfl rfl (c_X6_readNumber (d := 28) (by decide) h25) rfl rfl hdd (Nat.le_refl _) (Nat.le_refl _) (by decide) (fx_kv ?_)
      refine pm_goto (tgt := 143) hG dX6_readPart_32 rfl ?_
      exact pm_vret hG hF dX6_readPart_143 rfl (Nat.le_refl _) (Nat.le_refl _) (fx_rvc hE)
  · replace c2 := Int32.not_le.mp c2
    replace hE := fx_t c2 hE
    refine pm_iconst (v := (-1)) hG dX6_readPart_9 (by decide) ?_
    refine pm_goto (tgt := 20) hG dX6_readPart_10 rfl ?_
    refine pm_istoreXn (loc' := [some (.ref (B + 27)), some (.int 0), some (.int x1), some (.int (-1))]) hG dX6_readPart_20 (by decide) (pm_c1b rfl) rfl ?_
    refine pm_iloadn hG dX6_readPart_21 rfl ?_
    refine pm_callS (As := [.int x1]) (rest := []) hG hR dX6_readPart_22 (lkX6_70 _ rfl) okS_X6_isDigit (c_X6_isDigit (d := 28) (by decide) rfl) rfl rfl hdd (Nat.le_refl _) (Nat.le_refl _) (by decide) (fx_ki ?_)
    refine pm_if_eq (tgt := 35) hG dX6_readPart_25 rfl (fun c27 => ?_) (fun c27 => ?_)
    · replace hE := fx_t c27 hE
      refine pm_iloadn hG dX6_readPart_35 rfl ?_
      refine pm_if_lt (tgt := 64) hG dX6_readPart_36 rfl (fun _ => ?_) (fun q => absurd q (by decide))
      refine pm_iloadn hG dX6_readPart_64 rfl ?_
      refine pm_bipush (v := 33) hG dX6_readPart_65 (by decide) ?_
      refine pm_icmp_ne (tgt := 104) hG dX6_readPart_67 rfl (fun c28 => ?_) (fun c28 => ?_)
      · replace hE := fx_f c28 hE
        refine pm_iloadn hG dX6_readPart_104 rfl ?_
        refine pm_bipush (v := 40) hG dX6_readPart_105 (by decide) ?_
        refine pm_icmp_ne (tgt := 139) hG dX6_readPart_107 rfl (fun c29 => ?_) (fun c29 => ?_)
        · replace hE := fx_f c29 hE
          refine pm_aloadn hG dX6_readPart_139 rfl ?_
          obtain ⟨r31, h30, hE⟩ := fb_some hE
          refine pm_callV (As := []) (rest := []) hG hR dX6_readPart_140 (lkX6_41 _ rfl) okV_X6_fail rfl rfl (c_X6_fail (d := 28) (by decide) h30) rfl rfl hdd (Nat.le_refl _) (Nat.le_refl _) (by decide) (fx_kv ?_)
          exact pm_vret hG hF dX6_readPart_143 rfl (Nat.le_refl _) (Nat.le_refl _) (fx_rvc hE)
        · replace hE := fx_t c29 hE
          refine pm_iloadn hG dX6_readPart_110 rfl ?_
          refine pm_iconst (v := 5) hG dX6_readPart_111 (by decide) ?_
          refine pm_icmp_ge (tgt := 139) hG dX6_readPart_112 rfl (fun q => absurd q (by decide)) (fun _ => ?_)
          refine pm_aloadn hG dX6_readPart_115 rfl ?_
          refine pm_dup hG dX6_readPart_116 rfl ?_
          refine pm_getf hG dX6_readPart_117 (flX6_26 _ rfl) rfl rfl ?_
          refine pm_iconst (v := 1) hG dX6_readPart_120 (by decide) ?_
          refine pm_iadd hG dX6_readPart_121 ?_
          refine pm_putf hG dX6_readPart_122 (fwX6_26 _ rfl) rfl rfl rfl ?_
          refine ci_105 ?_
          refine fx_letc hE (fun S32 hE => ?_)
          refine pm_aloadn hG dX6_readPart_125 rfl ?_
          refine pm_iloadn hG dX6_readPart_126 rfl ?_
          refine pm_iconst (v := 1) hG dX6_readPart_127 (by decide) ?_
          refine pm_iadd hG dX6_readPart_128 ?_
          refine pm_top (v := 1) (by decide) ?_
          obtain ⟨r34, h33, hE⟩ := fb_some hE
          refine pm_callV (As := [.int 1]) (rest := []) hG hR dX6_readPart_129 (lkX6_33 _ rfl) okV_X6_readText rfl rfl (c_X6_readText_k1 (d := 28) (by decide) h33) rfl rfl hdd (Nat.le_refl _) (Nat.le_refl _) (by decide) (fx_kv ?_)
          refine pm_aloadn hG dX6_readPart_132 rfl ?_
          obtain ⟨r36, h35, hE⟩ := fb_some hE
          refine pm_callV (As := []) (rest := []) hG hR dX6_readPart_133 (lkX6_77 _ rfl) okV_X6_readClosing rfl rfl (c_X6_readClosing (d := 28) (by decide) h35) rfl rfl hdd (Nat.le_refl _) (Nat.le_refl _) (by decide) (fx_kv ?_)
          refine pm_goto (tgt := 143) hG dX6_readPart_136 rfl ?_
          exact pm_vret hG hF dX6_readPart_143 rfl (Nat.le_refl _) (Nat.le_refl _) (fx_rvc hE)
      · replace hE := fx_t c28 hE
        refine pm_iloadn hG dX6_readPart_70 rfl ?_
        refine pm_iconst (v := 5) hG dX6_readPart_71 (by decide) ?_
        refine pm_icmp_ge (tgt := 104) hG dX6_readPart_72 rfl (fun q => absurd q (by decide)) (fun _ => ?_)
        refine pm_aloadn hG dX6_readPart_75 rfl ?_
        refine pm_dup hG dX6_readPart_76 rfl ?_
        refine pm_getf hG dX6_readPart_77 (flX6_26 _ rfl) rfl rfl ?_
        refine pm_iconst (v := 1) hG dX6_readPart_80 (by decide) ?_
        refine pm_iadd hG dX6_readPart_81 ?_
        refine pm_putf hG dX6_readPart_82 (fwX6_26 _ rfl) rfl rfl rfl ?_
        refine ci_105 ?_
        refine fx_letc hE (fun S37 hE => ?_)
        refine pm_aloadn hG dX6_readPart_85 rfl ?_
        refine pm_iloadn hG dX6_readPart_86 rfl ?_
        refine pm_iconst (v := 1) hG dX6_readPart_87 (by decide) ?_
        refine pm_iadd hG dX6_readPart_88 ?_
        refine pm_top (v := 1) (by decide) ?_
        obtain ⟨r39, h38, hE⟩ := fb_some hE
        refine pm_callV (As := [.int 1]) (rest := []) hG hR dX6_readPart_89 (lkX6_60 _ rfl) okV_X6_readPart rfl rfl (c_X6_readPart_k1 (d := 28) (by decide) h38) rfl rfl hdd (Nat.le_refl _) (Nat.le_refl _) (by decide) (fx_kv ?_)
        refine pm_aloadn hG dX6_readPart_92 rfl ?_
        refine pm_getf hG dX6_readPart_93 (flX6_20 _ rfl) rfl rfl ?_
        refine pm_iconst (v := (-1)) hG dX6_readPart_96 (by decide) ?_
        obtain ⟨r41, h40, hE⟩ := fb_some hE
        refine pm_callV (As := [.int (-1)]) (rest := []) hG hR dX6_readPart_97 (lkX6_50 _ rfl) okV_X9_append rfl rfl (tappend_28 (d := 28) (by decide) h40) rfl rfl hdd (Nat.le_refl _) (Nat.le_refl _) (by decide) (fx_ki ?_)
        refine pm_pop hG dX6_readPart_100 rfl ?_
        refine pm_goto (tgt := 143) hG dX6_readPart_101 rfl ?_
        exact pm_vret hG hF dX6_readPart_143 rfl (Nat.le_refl _) (Nat.le_refl _) (fx_rvc hE)
    · replace hE := fx_f c27 hE
      refine pm_aloadn hG dX6_readPart_28 rfl ?_
      obtain ⟨r43, h42, hE⟩ := fb_some hE
      refine pm_callV (As := []) (rest := []) hG hR dX6_readPart_29 (lkX6_74 _ rfl) okV_X6_readNumber rfl rfl (c_X6_readNumber (d := 28) (by decide) h42) rfl rfl hdd (Nat.le_refl _) (Nat.le_refl _) (by decide) (fx_kv ?_)
      refine pm_goto (tgt := 143) hG dX6_readPart_32 rfl ?_
      exact pm_vret hG hF dX6_readPart_143 rfl (Nat.le_refl _) (Nat.le_refl _) (fx_rvc hE)

set_option maxRecDepth 100000 in
set_option maxHeartbeats 4000000 in
theorem c_X6_readSum_k0 {d : Nat} {B cnt : Nat} {kp : Value} {ρ : pm_S} {S : FS} {R : Int32 × FS} (hdd : 30 ≤ d) (hE : f_X6_readSum_k0 S = some R) : pm_met mX6_readSum d 0 0 B [.ref (B + 27), .int 0] cnt (cst B kp S ρ) (pm_Qv (fun σ' cnt' => σ' = (cst B kp R.2 ρ) ∧ cnt' = cnt)) := by
  refine pm_enter 2 (by decide) (Nat.le_of_ble_eq_true rfl) rfl (fun G hG hR hF => ?_)
  unfold f_X6_readSum_k0 at hE
  refine pm_aloadn hG dX6_readSum_0 rfl ?_
  refine pm_iloadn hG dX6_readSum_1 rfl ?_
  obtain ⟨r2, h1, hE⟩ := fb_some hE
  refine pm_callV (As := [.int 0]) (rest := []) hG hR dX6_readSum_2 (lkX6_60 _ rfl) okV_X6_readPart rfl rfl (c_X6_readPart_k0 (d := 29) (by decide) h1) rfl rfl hdd (Nat.le_refl _) (Nat.le_refl _) (by decide) (fx_kv ?_)
  refine pm_iconst (v := 0) hG dX6_readSum_5 (by decide) ?_
  refine pm_istoreXn (loc' := [some (.ref (B + 27)), some (.int 0), some (.int 0), none]) hG dX6_readSum_6 (by decide) (pm_c1b rfl) rfl ?_
  have loop7 : ∀ (k7 : FS → Int32 → Option (Int32 × FS)), (∀ (S3 : FS) (x3_2 : Int32), k7 S3  x3_2 = some R → pm_wp mX6_readSum G B 78 [some (.ref (B + 27)), some (.int 0), some (.int x3_2), none] [] 0 0 cnt (cst B kp S3 ρ)) → ∀ (m7 : Nat) (S3 : FS) (x3_2 : Int32), l_X6_readSum_k0_7 k7 m7 S3  x3_2 = some R → pm_wp mX6_readSum G B 7 [some (.ref (B + 27)), some (.int 0), some (.int x3_2), none] [] 0 0 cnt (cst B kp S3 ρ) := by
    intro k7 hk7 m7
    induction m7 with
    | zero => intro S3  x3_2 hE; exact fx_no hE
    | succ m7 ih7 =>
      intro S3  x3_2 hE
      rw [l_X6_readSum_k0_7] at hE
      refine pm_iloadn hG dX6_readSum_7 rfl ?_
      refine pm_bipush (v := 60) hG dX6_readSum_8 (by decide) ?_
      refine pm_icmp_ge (tgt := 78) hG dX6_readSum_10 rfl (fun c4 => ?_) (fun c4 => ?_)
      · replace c4 := Int32.not_lt.mpr c4
        replace hE := fx_f c4 hE
        exact hk7 _ _ hE
      · replace c4 := Int32.not_le.mp c4
        replace hE := fx_t c4 hE
        refine pm_aloadn hG dX6_readSum_13 rfl ?_
        refine pm_callV (As := []) (rest := []) hG hR dX6_readSum_14 (lkX6_47 _ rfl) okV_X6_next rfl rfl (c_X6_next (d := 29) (by decide) rfl) rfl rfl hdd (Nat.le_refl _) (Nat.le_refl _) (by decide) (fx_ki ?_)
        refine pm_bipush (v := 43) hG dX6_readSum_17 (by decide) ?_
        refine pm_icmp_eq (tgt := 31) hG dX6_readSum_19 rfl (fun c5 => ?_) (fun c5 => ?_)
        · replace hE := fx_t c5 hE
          refine pm_aloadn hG dX6_readSum_31 rfl ?_
          refine pm_callV (As := []) (rest := []) hG hR dX6_readSum_32 (lkX6_47 _ rfl) okV_X6_next rfl rfl (c_X6_next (d := 29) (by decide) rfl) rfl rfl hdd (Nat.le_refl _) (Nat.le_refl _) (by decide) (fx_ki ?_)
          refine pm_bipush (v := 43) hG dX6_readSum_35 (by decide) ?_
          refine pm_icmp_ne (tgt := 45) hG dX6_readSum_37 rfl (fun q => absurd c5 q) (fun _ => ?_)
          refine pm_bipush (v := (-7)) hG dX6_readSum_40 (by decide) ?_
          refine pm_goto (tgt := 47) hG dX6_readSum_42 rfl ?_
          refine pm_istoreXn (loc' := [some (.ref (B + 27)), some (.int 0), some (.int x3_2), some (.int (-7))]) hG dX6_readSum_47 (by decide) (pm_c1b rfl) rfl ?_
          refine pm_aloadn hG dX6_readSum_48 rfl ?_
          refine pm_dup hG dX6_readSum_49 rfl ?_
          refine pm_getf hG dX6_readSum_50 (flX6_26 _ rfl) rfl rfl ?_
          refine pm_iconst (v := 1) hG dX6_readSum_53 (by decide) ?_
          refine pm_iadd hG dX6_readSum_54 ?_
          refine pm_putf hG dX6_readSum_55 (fwX6_26 _ rfl) rfl rfl rfl ?_
          refine ci_105 ?_
          refine fx_letc hE (fun S6 hE => ?_)
          refine pm_aloadn hG dX6_readSum_58 rfl ?_
          refine pm_iloadn hG dX6_readSum_59 rfl ?_
          obtain ⟨r8, h7, hE⟩ := fb_some hE
          refine pm_callV (As := [.int 0]) (rest := []) hG hR dX6_readSum_60 (lkX6_60 _ rfl) okV_X6_readPart rfl rfl (c_X6_readPart_k0 (d := 29) (by decide) h7) rfl rfl hdd (Nat.le_refl _) (Nat.le_refl _) (by decide) (fx_kv ?_)
          refine pm_aloadn hG dX6_readSum_63 rfl ?_
          refine pm_getf hG dX6_readSum_64 (flX6_20 _ rfl) rfl rfl ?_
          refine pm_iloadn hG dX6_readSum_67 rfl ?_
          obtain ⟨r10, h9, hE⟩ := fb_some hE
          refine pm_callV (As := [.int (-7)]) (rest := []) hG hR dX6_readSum_68 (lkX6_50 _ rfl) okV_X9_append rfl rfl (tappend_28 (d := 29) (by decide) h9) rfl rfl hdd (Nat.le_refl _) (Nat.le_refl _) (by decide) (fx_ki ?_)
          refine pm_pop hG dX6_readSum_71 rfl ?_
          refine pm_iincX (v := x3_2 + 1) (loc' := [some (.ref (B + 27)), some (.int 0), some (.int (x3_2 + 1)), some (.int (-7))]) hG dX6_readSum_72 rfl (by rfl) (by decide) (pm_c1b rfl) rfl ?_
          refine pm_goto (tgt := 7) hG dX6_readSum_75 rfl ?_
          refine pm_fg 3 (loc' := [some (.ref (B + 27)), some (.int 0), some (.int (x3_2 + 1)), none]) rfl ?_
          exact ih7 _ _ hE
        · replace hE := fx_f c5 hE
          refine pm_aloadn hG dX6_readSum_22 rfl ?_
          refine pm_callV (As := []) (rest := []) hG hR dX6_readSum_23 (lkX6_47 _ rfl) okV_X6_next rfl rfl (c_X6_next (d := 29) (by decide) rfl) rfl rfl hdd (Nat.le_refl _) (Nat.le_refl _) (by decide) (fx_ki ?_)
          refine pm_bipush (v := 45) hG dX6_readSum_26 (by decide) ?_
          refine pm_icmp_ne (tgt := 78) hG dX6_readSum_28 rfl (fun c11 => ?_) (fun c11 => ?_)
          · replace hE := fx_f c11 hE
            exact hk7 _ _ hE
          · replace hE := fx_t c11 hE
            refine pm_aloadn hG dX6_readSum_31 rfl ?_
            refine pm_callV (As := []) (rest := []) hG hR dX6_readSum_32 (lkX6_47 _ rfl) okV_X6_next rfl rfl (c_X6_next (d := 29) (by decide) rfl) rfl rfl hdd (Nat.le_refl _) (Nat.le_refl _) (by decide) (fx_ki ?_)
            refine pm_bipush (v := 43) hG dX6_readSum_35 (by decide) ?_
            refine pm_icmp_ne (tgt := 45) hG dX6_readSum_37 rfl (fun _ => ?_) (fun q => absurd q c5)
            refine pm_bipush (v := (-8)) hG dX6_readSum_45 (by decide) ?_
            refine pm_istoreXn (loc' := [some (.ref (B + 27)), some (.int 0), some (.int x3_2), some (.int (-8))]) hG dX6_readSum_47 (by decide) (pm_c1b rfl) rfl ?_
            refine pm_aloadn hG dX6_readSum_48 rfl ?_
            refine pm_dup hG dX6_readSum_49 rfl ?_
            refine pm_getf hG dX6_readSum_50 (flX6_26 _ rfl) rfl rfl ?_
            refine pm_iconst (v := 1) hG dX6_readSum_53 (by decide) ?_
            refine pm_iadd hG dX6_readSum_54 ?_
            refine pm_putf hG dX6_readSum_55 (fwX6_26 _ rfl) rfl rfl rfl ?_
            refine ci_105 ?_
            refine fx_letc hE (fun S12 hE => ?_)
            refine pm_aloadn hG dX6_readSum_58 rfl ?_
            refine pm_iloadn hG dX6_readSum_59 rfl ?_
            obtain ⟨r14, h13, hE⟩ := fb_some hE
            refine pm_callV (As := [.int 0]) (rest := []) hG hR dX6_readSum_60 (lkX6_60 _ rfl) okV_X6_readPart rfl rfl (c_X6_readPart_k0 (d := 29) (by decide) h13) rfl rfl hdd (Nat.le_refl _) (Nat.le_refl _) (by decide) (fx_kv ?_)
            refine pm_aloadn hG dX6_readSum_63 rfl ?_
            refine pm_getf hG dX6_readSum_64 (flX6_20 _ rfl) rfl rfl ?_
            refine pm_iloadn hG dX6_readSum_67 rfl ?_
            obtain ⟨r16, h15, hE⟩ := fb_some hE
            refine pm_callV (As := [.int (-8)]) (rest := []) hG hR dX6_readSum_68 (lkX6_50 _ rfl) okV_X9_append rfl rfl (tappend_28 (d := 29) (by decide) h15) rfl rfl hdd (Nat.le_refl _) (Nat.le_refl _) (by decide) (fx_ki ?_)
            refine pm_pop hG dX6_readSum_71 rfl ?_
            refine pm_iincX (v := x3_2 + 1) (loc' := [some (.ref (B + 27)), some (.int 0), some (.int (x3_2 + 1)), some (.int (-8))]) hG dX6_readSum_72 rfl (by rfl) (by decide) (pm_c1b rfl) rfl ?_
            refine pm_goto (tgt := 7) hG dX6_readSum_75 rfl ?_
            refine pm_fg 3 (loc' := [some (.ref (B + 27)), some (.int 0), some (.int (x3_2 + 1)), none]) rfl ?_
            exact ih7 _ _ hE
  refine loop7 _ (fun S17 x17_2 hE => ?_) _ _ _ hE
  exact pm_vret hG hF dX6_readSum_78 rfl (Nat.le_refl _) (Nat.le_refl _) (fx_rvc hE)

set_option maxRecDepth 100000 in
set_option maxHeartbeats 4000000 in
theorem c_X6_readComparison_k0 {d : Nat} {B cnt : Nat} {kp : Value} {ρ : pm_S} {S : FS} {R : Int32 × FS} (hdd : 31 ≤ d) (hE : f_X6_readComparison_k0 S = some R) : pm_met mX6_readComparison d 0 0 B [.ref (B + 27), .int 0] cnt (cst B kp S ρ) (pm_Qv (fun σ' cnt' => σ' = (cst B kp R.2 ρ) ∧ cnt' = cnt)) := by
  refine pm_enter 1 (by decide) (Nat.le_of_ble_eq_true rfl) rfl (fun G hG hR hF => ?_)
  unfold f_X6_readComparison_k0 at hE
  refine pm_aloadn hG dX6_readComparison_0 rfl ?_
  refine pm_iloadn hG dX6_readComparison_1 rfl ?_
  obtain ⟨r2, h1, hE⟩ := fb_some hE
  refine pm_callV (As := [.int 0]) (rest := []) hG hR dX6_readComparison_2 (lkX6_57 _ rfl) okV_X6_readSum rfl rfl (c_X6_readSum_k0 (d := 30) (by decide) h1) rfl rfl hdd (Nat.le_refl _) (Nat.le_refl _) (by decide) (fx_kv ?_)
  refine pm_aloadn hG dX6_readComparison_5 rfl ?_
  refine pm_callV (As := []) (rest := []) hG hR dX6_readComparison_6 (lkX6_47 _ rfl) okV_X6_next rfl rfl (c_X6_next (d := 30) (by decide) rfl) rfl rfl hdd (Nat.le_refl _) (Nat.le_refl _) (by decide) (fx_ki ?_)
  refine fx_letv hE (fun x3 hE => ?_)
  refine pm_istoreXn (loc' := [some (.ref (B + 27)), some (.int 0), some (.int x3)]) hG dX6_readComparison_9 (by decide) (pm_c1b rfl) rfl ?_
  refine pm_iloadn hG dX6_readComparison_10 rfl ?_
  refine pm_bipush (v := 60) hG dX6_readComparison_11 (by decide) ?_
  refine pm_icmp_eq (tgt := 28) hG dX6_readComparison_13 rfl (fun c4 => ?_) (fun c4 => ?_)
  · replace hE := fx_t c4 hE
    refine pm_aloadn hG dX6_readComparison_28 rfl ?_
    refine pm_dup hG dX6_readComparison_29 rfl ?_
    refine pm_getf hG dX6_readComparison_30 (flX6_26 _ rfl) rfl rfl ?_
    refine pm_iconst (v := 1) hG dX6_readComparison_33 (by decide) ?_
    refine pm_iadd hG dX6_readComparison_34 ?_
    refine pm_putf hG dX6_readComparison_35 (fwX6_26 _ rfl) rfl rfl rfl ?_
    refine ci_105 ?_
    refine fx_letc hE (fun S5 hE => ?_)
    refine pm_aloadn hG dX6_readComparison_38 rfl ?_
    refine pm_iloadn hG dX6_readComparison_39 rfl ?_
    obtain ⟨r7, h6, hE⟩ := fb_some hE
    refine pm_callV (As := [.int 0]) (rest := []) hG hR dX6_readComparison_40 (lkX6_57 _ rfl) okV_X6_readSum rfl rfl (c_X6_readSum_k0 (d := 30) (by decide) h6) rfl rfl hdd (Nat.le_refl _) (Nat.le_refl _) (by decide) (fx_kv ?_)
    refine pm_aloadn hG dX6_readComparison_43 rfl ?_
    refine pm_getf hG dX6_readComparison_44 (flX6_20 _ rfl) rfl rfl ?_
    refine pm_iloadn hG dX6_readComparison_47 rfl ?_
    refine pm_bipush (v := 60) hG dX6_readComparison_48 (by decide) ?_
    refine pm_icmp_ne (tgt := 58) hG dX6_readComparison_50 rfl (fun q => absurd c4 q) (fun _ => ?_)
    refine pm_bipush (v := (-4)) hG dX6_readComparison_53 (by decide) ?_
    refine pm_goto (tgt := 71) hG dX6_readComparison_55 rfl ?_
    obtain ⟨r9, h8, hE⟩ := fb_some hE
    refine pm_callV (As := [.int (-4)]) (rest := []) hG hR dX6_readComparison_71 (lkX6_50 _ rfl) okV_X9_append rfl rfl (tappend_28 (d := 30) (by decide) h8) rfl rfl hdd (Nat.le_refl _) (Nat.le_refl _) (by decide) (fx_ki ?_)
    refine pm_pop hG dX6_readComparison_74 rfl ?_
    exact pm_vret hG hF dX6_readComparison_75 rfl (Nat.le_refl _) (Nat.le_refl _) (fx_rvc hE)
  · replace hE := fx_f c4 hE
    refine pm_iloadn hG dX6_readComparison_16 rfl ?_
    refine pm_bipush (v := 61) hG dX6_readComparison_17 (by decide) ?_
    refine pm_icmp_eq (tgt := 28) hG dX6_readComparison_19 rfl (fun c10 => ?_) (fun c10 => ?_)
    · replace hE := fx_t c10 hE
      refine pm_aloadn hG dX6_readComparison_28 rfl ?_
      refine pm_dup hG dX6_readComparison_29 rfl ?_
      refine pm_getf hG dX6_readComparison_30 (flX6_26 _ rfl) rfl rfl ?_
      refine pm_iconst (v := 1) hG dX6_readComparison_33 (by decide) ?_
      refine pm_iadd hG dX6_readComparison_34 ?_
      refine pm_putf hG dX6_readComparison_35 (fwX6_26 _ rfl) rfl rfl rfl ?_
      refine ci_105 ?_
      refine fx_letc hE (fun S11 hE => ?_)
      refine pm_aloadn hG dX6_readComparison_38 rfl ?_
      refine pm_iloadn hG dX6_readComparison_39 rfl ?_
      obtain ⟨r13, h12, hE⟩ := fb_some hE
      refine pm_callV (As := [.int 0]) (rest := []) hG hR dX6_readComparison_40 (lkX6_57 _ rfl) okV_X6_readSum rfl rfl (c_X6_readSum_k0 (d := 30) (by decide) h12) rfl rfl hdd (Nat.le_refl _) (Nat.le_refl _) (by decide) (fx_kv ?_)
      refine pm_aloadn hG dX6_readComparison_43 rfl ?_
      refine pm_getf hG dX6_readComparison_44 (flX6_20 _ rfl) rfl rfl ?_
      refine pm_iloadn hG dX6_readComparison_47 rfl ?_
      refine pm_bipush (v := 60) hG dX6_readComparison_48 (by decide) ?_
      refine pm_icmp_ne (tgt := 58) hG dX6_readComparison_50 rfl (fun _ => ?_) (fun q => absurd q c4)
      refine pm_iloadn hG dX6_readComparison_58 rfl ?_
      refine pm_bipush (v := 61) hG dX6_readComparison_59 (by decide) ?_
      refine pm_icmp_ne (tgt := 69) hG dX6_readComparison_61 rfl (fun q => absurd c10 q) (fun _ => ?_)
      refine pm_bipush (v := (-5)) hG dX6_readComparison_64 (by decide) ?_
      refine pm_goto (tgt := 71) hG dX6_readComparison_66 rfl ?_
      obtain ⟨r15, h14, hE⟩ := fb_some hE
      refine pm_callV (As := [.int (-5)]) (rest := []) hG hR dX6_readComparison_71 (lkX6_50 _ rfl) okV_X9_append rfl rfl (tappend_28 (d := 30) (by decide) h14) rfl rfl hdd (Nat.le_refl _) (Nat.le_refl _) (by decide) (fx_ki ?_)
      refine pm_pop hG dX6_readComparison_74 rfl ?_
      exact pm_vret hG hF dX6_readComparison_75 rfl (Nat.le_refl _) (Nat.le_refl _) (fx_rvc hE)
    · replace hE := fx_f c10 hE
      refine pm_iloadn hG dX6_readComparison_22 rfl ?_
      refine pm_bipush (v := 62) hG dX6_readComparison_23 (by decide) ?_
      refine pm_icmp_ne (tgt := 75) hG dX6_readComparison_25 rfl (fun c16 => ?_) (fun c16 => ?_)
      · replace hE := fx_f c16 hE
        exact pm_vret hG hF dX6_readComparison_75 rfl (Nat.le_refl _) (Nat.le_refl _) (fx_rvc hE)
      · replace hE := fx_t c16 hE
        refine pm_aloadn hG dX6_readComparison_28 rfl ?_
        refine pm_dup hG dX6_readComparison_29 rfl ?_
        refine pm_getf hG dX6_readComparison_30 (flX6_26 _ rfl) rfl rfl ?_
        refine pm_iconst (v := 1) hG dX6_readComparison_33 (by decide) ?_
        refine pm_iadd hG dX6_readComparison_34 ?_
        refine pm_putf hG dX6_readComparison_35 (fwX6_26 _ rfl) rfl rfl rfl ?_
        refine ci_105 ?_
        refine fx_letc hE (fun S17 hE => ?_)
        refine pm_aloadn hG dX6_readComparison_38 rfl ?_
        refine pm_iloadn hG dX6_readComparison_39 rfl ?_
        obtain ⟨r19, h18, hE⟩ := fb_some hE
        refine pm_callV (As := [.int 0]) (rest := []) hG hR dX6_readComparison_40 (lkX6_57 _ rfl) okV_X6_readSum rfl rfl (c_X6_readSum_k0 (d := 30) (by decide) h18) rfl rfl hdd (Nat.le_refl _) (Nat.le_refl _) (by decide) (fx_kv ?_)
        refine pm_aloadn hG dX6_readComparison_43 rfl ?_
        refine pm_getf hG dX6_readComparison_44 (flX6_20 _ rfl) rfl rfl ?_
        refine pm_iloadn hG dX6_readComparison_47 rfl ?_
        refine pm_bipush (v := 60) hG dX6_readComparison_48 (by decide) ?_
        refine pm_icmp_ne (tgt := 58) hG dX6_readComparison_50 rfl (fun _ => ?_) (fun q => absurd q c4)
        refine pm_iloadn hG dX6_readComparison_58 rfl ?_
        refine pm_bipush (v := 61) hG dX6_readComparison_59 (by decide) ?_
        refine pm_icmp_ne (tgt := 69) hG dX6_readComparison_61 rfl (fun _ => ?_) (fun q => absurd q c10)
        refine pm_bipush (v := (-6)) hG dX6_readComparison_69 (by decide) ?_
        obtain ⟨r21, h20, hE⟩ := fb_some hE
        refine pm_callV (As := [.int (-6)]) (rest := []) hG hR dX6_readComparison_71 (lkX6_50 _ rfl) okV_X9_append rfl rfl (tappend_28 (d := 30) (by decide) h20) rfl rfl hdd (Nat.le_refl _) (Nat.le_refl _) (by decide) (fx_ki ?_)
        refine pm_pop hG dX6_readComparison_74 rfl ?_
        exact pm_vret hG hF dX6_readComparison_75 rfl (Nat.le_refl _) (Nat.le_refl _) (fx_rvc hE)

set_option maxRecDepth 100000 in
set_option maxHeartbeats 4000000 in
theorem c_X6_readConjunction_k0 {d : Nat} {B cnt : Nat} {kp : Value} {ρ : pm_S} {S : FS} {R : Int32 × FS} (hdd : 32 ≤ d) (hE : f_X6_readConjunction_k0 S = some R) : pm_met mX6_readConjunction d 0 0 B [.ref (B + 27), .int 0] cnt (cst B kp S ρ) (pm_Qv (fun σ' cnt' => σ' = (cst B kp R.2 ρ) ∧ cnt' = cnt)) := by
  refine pm_enter 1 (by decide) (Nat.le_of_ble_eq_true rfl) rfl (fun G hG hR hF => ?_)
  unfold f_X6_readConjunction_k0 at hE
  refine pm_aloadn hG dX6_readConjunction_0 rfl ?_
  refine pm_iloadn hG dX6_readConjunction_1 rfl ?_
  obtain ⟨r2, h1, hE⟩ := fb_some hE
  refine pm_callV (As := [.int 0]) (rest := []) hG hR dX6_readConjunction_2 (lkX6_54 _ rfl) okV_X6_readComparison rfl rfl (c_X6_readComparison_k0 (d := 31) (by decide) h1) rfl rfl hdd (Nat.le_refl _) (Nat.le_refl _) (by decide) (fx_kv ?_)
  refine pm_iconst (v := 0) hG dX6_readConjunction_5 (by decide) ?_
  refine pm_istoreXn (loc' := [some (.ref (B + 27)), some (.int 0), some (.int 0)]) hG dX6_readConjunction_6 (by decide) (pm_c1b rfl) rfl ?_
  have loop7 : ∀ (k7 : FS → Int32 → Option (Int32 × FS)), (∀ (S3 : FS) (x3_2 : Int32), k7 S3  x3_2 = some R → pm_wp mX6_readConjunction G B 53 [some (.ref (B + 27)), some (.int 0), some (.int x3_2)] [] 0 0 cnt (cst B kp S3 ρ)) → ∀ (m7 : Nat) (S3 : FS) (x3_2 : Int32), l_X6_readConjunction_k0_7 k7 m7 S3  x3_2 = some R → pm_wp mX6_readConjunction G B 7 [some (.ref (B + 27)), some (.int 0), some (.int x3_2)] [] 0 0 cnt (cst B kp S3 ρ) := by
    intro k7 hk7 m7
    induction m7 with
    | zero => intro S3  x3_2 hE; exact fx_no hE
    | succ m7 ih7 =>
      intro S3  x3_2 hE
      rw [l_X6_readConjunction_k0_7] at hE
      refine pm_iloadn hG dX6_readConjunction_7 rfl ?_
      refine pm_bipush (v := 60) hG dX6_readConjunction_8 (by decide) ?_
      refine pm_icmp_ge (tgt := 53) hG dX6_readConjunction_10 rfl (fun c4 => ?_) (fun c4 => ?_)
      · replace c4 := Int32.not_lt.mpr c4
        replace hE := fx_f c4 hE
        exact hk7 _ _ hE
      · replace c4 := Int32.not_le.mp c4
        replace hE := fx_t c4 hE
        refine pm_aloadn hG dX6_readConjunction_13 rfl ?_
        refine pm_callV (As := []) (rest := []) hG hR dX6_readConjunction_14 (lkX6_47 _ rfl) okV_X6_next rfl rfl (c_X6_next (d := 31) (by decide) rfl) rfl rfl hdd (Nat.le_refl _) (Nat.le_refl _) (by decide) (fx_ki ?_)
        refine pm_bipush (v := 38) hG dX6_readConjunction_17 (by decide) ?_
        refine pm_icmp_ne (tgt := 53) hG dX6_readConjunction_19 rfl (fun c5 => ?_) (fun c5 => ?_)
        · replace hE := fx_f c5 hE
          exact hk7 _ _ hE
        · replace hE := fx_t c5 hE
          refine pm_aloadn hG dX6_readConjunction_22 rfl ?_
          refine pm_dup hG dX6_readConjunction_23 rfl ?_
          refine pm_getf hG dX6_readConjunction_24 (flX6_26 _ rfl) rfl rfl ?_
          refine pm_iconst (v := 1) hG dX6_readConjunction_27 (by decide) ?_
          refine pm_iadd hG dX6_readConjunction_28 ?_
          refine pm_putf hG dX6_readConjunction_29 (fwX6_26 _ rfl) rfl rfl rfl ?_
          refine ci_105 ?_
          refine fx_letc hE (fun S6 hE => ?_)
          refine pm_aloadn hG dX6_readConjunction_32 rfl ?_
          refine pm_iloadn hG dX6_readConjunction_33 rfl ?_
          obtain ⟨r8, h7, hE⟩ := fb_some hE
          refine pm_callV (As := [.int 0]) (rest := []) hG hR dX6_readConjunction_34 (lkX6_54 _ rfl) okV_X6_readComparison rfl rfl (c_X6_readComparison_k0 (d := 31) (by decide) h7) rfl rfl hdd (Nat.le_refl _) (Nat.le_refl _) (by decide) (fx_kv ?_)
          refine pm_aloadn hG dX6_readConjunction_37 rfl ?_
          refine pm_getf hG dX6_readConjunction_38 (flX6_20 _ rfl) rfl rfl ?_
          refine pm_bipush (v := (-3)) hG dX6_readConjunction_41 (by decide) ?_
          obtain ⟨r10, h9, hE⟩ := fb_some hE
          refine pm_callV (As := [.int (-3)]) (rest := []) hG hR dX6_readConjunction_43 (lkX6_50 _ rfl) okV_X9_append rfl rfl (tappend_28 (d := 31) (by decide) h9) rfl rfl hdd (Nat.le_refl _) (Nat.le_refl _) (by decide) (fx_ki ?_)
          refine pm_pop hG dX6_readConjunction_46 rfl ?_
          refine pm_iincX (v := x3_2 + 1) (loc' := [some (.ref (B + 27)), some (.int 0), some (.int (x3_2 + 1))]) hG dX6_readConjunction_47 rfl (by rfl) (by decide) (pm_c1b rfl) rfl ?_
          refine pm_goto (tgt := 7) hG dX6_readConjunction_50 rfl ?_
          exact ih7 _ _ hE
  refine loop7 _ (fun S11 x11_2 hE => ?_) _ _ _ hE
  exact pm_vret hG hF dX6_readConjunction_53 rfl (Nat.le_refl _) (Nat.le_refl _) (fx_rvc hE)

set_option maxRecDepth 100000 in
set_option maxHeartbeats 4000000 in
theorem c_X6_readText_k0 {d : Nat} {B cnt : Nat} {kp : Value} {ρ : pm_S} {S : FS} {R : Int32 × FS} (hdd : 33 ≤ d) (hE : f_X6_readText_k0 S = some R) : pm_met mX6_readText d 0 0 B [.ref (B + 27), .int 0] cnt (cst B kp S ρ) (pm_Qv (fun σ' cnt' => σ' = (cst B kp R.2 ρ) ∧ cnt' = cnt)) := by
  refine pm_enter 1 (by decide) (Nat.le_of_ble_eq_true rfl) rfl (fun G hG hR hF => ?_)
  unfold f_X6_readText_k0 at hE
  refine pm_aloadn hG dX6_readText_0 rfl ?_
  refine pm_iloadn hG dX6_readText_1 rfl ?_
  obtain ⟨r2, h1, hE⟩ := fb_some hE
  refine pm_callV (As := [.int 0]) (rest := []) hG hR dX6_readText_2 (lkX6_44 _ rfl) okV_X6_readConjunction rfl rfl (c_X6_readConjunction_k0 (d := 32) (by decide) h1) rfl rfl hdd (Nat.le_refl _) (Nat.le_refl _) (by decide) (fx_kv ?_)
  refine pm_iconst (v := 0) hG dX6_readText_5 (by decide) ?_
  refine pm_istoreXn (loc' := [some (.ref (B + 27)), some (.int 0), some (.int 0)]) hG dX6_readText_6 (by decide) (pm_c1b rfl) rfl ?_
  have loop7 : ∀ (k7 : FS → Int32 → Option (Int32 × FS)), (∀ (S3 : FS) (x3_2 : Int32), k7 S3  x3_2 = some R → pm_wp mX6_readText G B 53 [some (.ref (B + 27)), some (.int 0), some (.int x3_2)] [] 0 0 cnt (cst B kp S3 ρ)) → ∀ (m7 : Nat) (S3 : FS) (x3_2 : Int32), l_X6_readText_k0_7 k7 m7 S3  x3_2 = some R → pm_wp mX6_readText G B 7 [some (.ref (B + 27)), some (.int 0), some (.int x3_2)] [] 0 0 cnt (cst B kp S3 ρ) := by
    intro k7 hk7 m7
    induction m7 with
    | zero => intro S3  x3_2 hE; exact fx_no hE
    | succ m7 ih7 =>
      intro S3  x3_2 hE
      rw [l_X6_readText_k0_7] at hE
      refine pm_iloadn hG dX6_readText_7 rfl ?_
      refine pm_bipush (v := 60) hG dX6_readText_8 (by decide) ?_
      refine pm_icmp_ge (tgt := 53) hG dX6_readText_10 rfl (fun c4 => ?_) (fun c4 => ?_)
      · replace c4 := Int32.not_lt.mpr c4
        replace hE := fx_f c4 hE
        exact hk7 _ _ hE
      · replace c4 := Int32.not_le.mp c4
        replace hE := fx_t c4 hE
        refine pm_aloadn hG dX6_readText_13 rfl ?_
        refine pm_callV (As := []) (rest := []) hG hR dX6_readText_14 (lkX6_47 _ rfl) okV_X6_next rfl rfl (c_X6_next (d := 32) (by decide) rfl) rfl rfl hdd (Nat.le_refl _) (Nat.le_refl _) (by decide) (fx_ki ?_)
        refine pm_bipush (v := 124) hG dX6_readText_17 (by decide) ?_
        refine pm_icmp_ne (tgt := 53) hG dX6_readText_19 rfl (fun c5 => ?_) (fun c5 => ?_)
        · replace hE := fx_f c5 hE
          exact hk7 _ _ hE
        · replace hE := fx_t c5 hE
          refine pm_aloadn hG dX6_readText_22 rfl ?_
          refine pm_dup hG dX6_readText_23 rfl ?_
          refine pm_getf hG dX6_readText_24 (flX6_26 _ rfl) rfl rfl ?_
          refine pm_iconst (v := 1) hG dX6_readText_27 (by decide) ?_
          refine pm_iadd hG dX6_readText_28 ?_
          refine pm_putf hG dX6_readText_29 (fwX6_26 _ rfl) rfl rfl rfl ?_
          refine ci_105 ?_
          refine fx_letc hE (fun S6 hE => ?_)
          refine pm_aloadn hG dX6_readText_32 rfl ?_
          refine pm_iloadn hG dX6_readText_33 rfl ?_
          obtain ⟨r8, h7, hE⟩ := fb_some hE
          refine pm_callV (As := [.int 0]) (rest := []) hG hR dX6_readText_34 (lkX6_44 _ rfl) okV_X6_readConjunction rfl rfl (c_X6_readConjunction_k0 (d := 32) (by decide) h7) rfl rfl hdd (Nat.le_refl _) (Nat.le_refl _) (by decide) (fx_kv ?_)
          refine pm_aloadn hG dX6_readText_37 rfl ?_
          refine pm_getf hG dX6_readText_38 (flX6_20 _ rfl) rfl rfl ?_
          refine pm_bipush (v := (-2)) hG dX6_readText_41 (by decide) ?_
          obtain ⟨r10, h9, hE⟩ := fb_some hE
          refine pm_callV (As := [.int (-2)]) (rest := []) hG hR dX6_readText_43 (lkX6_50 _ rfl) okV_X9_append rfl rfl (tappend_28 (d := 32) (by decide) h9) rfl rfl hdd (Nat.le_refl _) (Nat.le_refl _) (by decide) (fx_ki ?_)
          refine pm_pop hG dX6_readText_46 rfl ?_
          refine pm_iincX (v := x3_2 + 1) (loc' := [some (.ref (B + 27)), some (.int 0), some (.int (x3_2 + 1))]) hG dX6_readText_47 rfl (by rfl) (by decide) (pm_c1b rfl) rfl ?_
          refine pm_goto (tgt := 7) hG dX6_readText_50 rfl ?_
          exact ih7 _ _ hE
  refine loop7 _ (fun S11 x11_2 hE => ?_) _ _ _ hE
  exact pm_vret hG hF dX6_readText_53 rfl (Nat.le_refl _) (Nat.le_refl _) (fx_rvc hE)
end
section
set_option maxRecDepth 100000 in
set_option maxHeartbeats 4000000 in
theorem c_X6_readTape {d : Nat} {B cnt : Nat} {kp : Value} {ρ : pm_S} {S : FS} {R : Int32 × FS} (hdd : 34 ≤ d) (hE : f_X6_readTape S = some R) : pm_met mX6_readTape d 0 0 B [.ref (B + 27)] cnt (cst B kp S ρ) (pm_Qi (fun v σ' cnt' => v = R.1 ∧ σ' = (cst B kp R.2 ρ) ∧ cnt' = cnt)) := by
  refine pm_enter 0 (by decide) (Nat.le_of_ble_eq_true rfl) rfl (fun G hG hR hF => ?_)
  unfold f_X6_readTape at hE
  refine pm_aloadn hG dX6_readTape_0 rfl ?_
  refine pm_getf hG dX6_readTape_1 (flX6_20 _ rfl) rfl rfl ?_
  refine pm_callV (As := []) (rest := []) hG hR dX6_readTape_4 (lkX6_23 _ rfl) okV_X9_clear rfl rfl (tclear_28 (d := 33)) rfl rfl hdd (Nat.le_refl _) (Nat.le_refl _) (by decide) (fx_kv ?_)
  refine fx_letc hE (fun S1 hE => ?_)
  refine pm_aloadn hG dX6_readTape_7 rfl ?_
  refine pm_iconst (v := 0) hG dX6_readTape_8 (by decide) ?_
  refine pm_putf hG dX6_readTape_9 (fwX6_26 _ rfl) rfl rfl rfl ?_
  refine ci_105 ?_
  refine fx_letc hE (fun S2 hE => ?_)
  refine pm_aloadn hG dX6_readTape_12 rfl ?_
  refine pm_iconst (v := (-1)) hG dX6_readTape_13 (by decide) ?_
  refine pm_putf hG dX6_readTape_14 (fwX6_30 _ rfl) rfl rfl rfl ?_
  refine ci_106 ?_
  refine fx_letc hE (fun S3 hE => ?_)
  refine pm_aloadn hG dX6_readTape_17 rfl ?_
  refine pm_iconst (v := 0) hG dX6_readTape_18 (by decide) ?_
  obtain ⟨r5, h4, hE⟩ := fb_some hE
  refine pm_callV (As := [.int 0]) (rest := []) hG hR dX6_readTape_19 (lkX6_33 _ rfl) okV_X6_readText rfl rfl (c_X6_readText_k0 (d := 33) (by decide) h4) rfl rfl hdd (Nat.le_refl _) (Nat.le_refl _) (by decide) (fx_kv ?_)
  refine pm_aloadn hG dX6_readTape_22 rfl ?_
  refine pm_getf hG dX6_readTape_23 (flX6_26 _ rfl) rfl rfl ?_
  refine pm_aloadn hG dX6_readTape_26 rfl ?_
  refine pm_getf hG dX6_readTape_27 (flX6_9 _ rfl) rfl rfl ?_
  refine pm_callV (As := []) (rest := [.int (r5.2.1 105)]) hG hR dX6_readTape_30 (lkX6_37 _ rfl) okV_X9_used rfl rfl (tused_24 (d := 33)) rfl rfl hdd (Nat.le_refl _) (Nat.le_refl _) (by first | decide | exact Nat.le_of_ble_eq_true rfl) (fx_ki ?_)
  refine pm_icmp_ge (tgt := 40) hG dX6_readTape_33 rfl (fun c6 => ?_) (fun c6 => ?_)
  · replace c6 := Int32.not_lt.mpr c6
    replace hE := fx_f c6 hE
    refine pm_aloadn hG dX6_readTape_40 rfl ?_
    refine pm_getf hG dX6_readTape_41 (flX6_30 _ rfl) rfl rfl ?_
    exact pm_iret hG hF dX6_readTape_44 rfl (Nat.le_refl _) (Nat.le_refl _) (fx_ric hE)
  · replace c6 := Int32.not_le.mp c6
    replace hE := fx_t c6 hE
    refine pm_aloadn hG dX6_readTape_36 rfl ?_
    obtain ⟨r8, h7, hE⟩ := fb_some hE
    refine pm_callV (As := []) (rest := []) hG hR dX6_readTape_37 (lkX6_41 _ rfl) okV_X6_fail rfl rfl (c_X6_fail (d := 33) (by decide) h7) rfl rfl hdd (Nat.le_refl _) (Nat.le_refl _) (by decide) (fx_kv ?_)
    refine pm_aloadn hG dX6_readTape_40 rfl ?_
    refine pm_getf hG dX6_readTape_41 (flX6_30 _ rfl) rfl rfl ?_
    exact pm_iret hG hF dX6_readTape_44 rfl (Nat.le_refl _) (Nat.le_refl _) (fx_ric hE)

set_option maxRecDepth 100000 in
set_option maxHeartbeats 4000000 in
theorem c_X2_enact {d : Nat} {B cnt : Nat} {kp : Value} {ρ : pm_S} {S : FS} {za : Int32} {zb : Int32} {R : Int32 × FS} (hdd : 35 ≤ d) (hE : f_X2_enact S za zb = some R) : pm_met mX2_enact d 0 0 B [.ref (B + 26), .int za, .int zb] cnt (cst B kp S ρ) (pm_Qi (fun v σ' cnt' => v = R.1 ∧ σ' = (cst B kp R.2 ρ) ∧ cnt' = cnt)) := by
  refine pm_enter 4 (by decide) (Nat.le_of_ble_eq_true rfl) rfl (fun G hG hR hF => ?_)
  unfold f_X2_enact at hE
  refine pm_aloadn hG dX2_enact_0 rfl ?_
  refine pm_getf hG dX2_enact_1 (flX2_26 _ rfl) rfl rfl ?_
  obtain ⟨r2, h1, hE⟩ := fb_some hE
  refine pm_callV (As := []) (rest := []) hG hR dX2_enact_4 (lkX2_34 _ rfl) okV_X6_readTape rfl rfl (c_X6_readTape (d := 34) (by decide) h1) rfl rfl hdd (Nat.le_refl _) (Nat.le_refl _) (by decide) (fx_ki ?_)
  refine pm_istoreXn (loc' := [some (.ref (B + 26)), some (.int za), some (.int zb), some (.int r2.1), none, none, none]) hG dX2_enact_7 (by decide) (pm_c1b rfl) rfl ?_
  refine pm_aloadn hG dX2_enact_8 rfl ?_
  refine pm_getf hG dX2_enact_9 (flX2_9 _ rfl) rfl rfl ?_
  refine pm_getf hG dX2_enact_12 (flX2_17 _ rfl) rfl rfl ?_
  refine pm_callV (As := []) (rest := []) hG hR dX2_enact_15 (lkX2_38 _ rfl) okV_X9_clear rfl rfl (tclear_24 (d := 34)) rfl rfl hdd (Nat.le_refl _) (Nat.le_refl _) (by decide) (fx_kv ?_)
  refine fx_letc hE (fun S3 hE => ?_)
  refine pm_iloadn hG dX2_enact_18 rfl ?_
  refine pm_if_lt (tgt := 27) hG dX2_enact_19 rfl (fun c4 => ?_) (fun c4 => ?_)
  · replace hE := fx_t c4 hE
    refine pm_aloadn hG dX2_enact_27 rfl ?_
    refine pm_getf hG dX2_enact_28 (flX2_9 _ rfl) rfl rfl ?_
    refine pm_getf hG dX2_enact_31 (flX2_43 _ rfl) rfl rfl ?_
    refine pm_iloadn hG dX2_enact_34 rfl ?_
    obtain ⟨r6, h5, hE⟩ := fb_some hE
    refine pm_callV (As := [.int za]) (rest := []) hG hR dX2_enact_35 (lkX2_46 _ rfl) okV_X9_append rfl rfl (tappend_10 (d := 34) (by decide) h5) rfl rfl hdd (Nat.le_refl _) (Nat.le_refl _) (by decide) (fx_ki ?_)
    refine pm_istoreXi (loc' := [some (.ref (B + 26)), some (.int za), some (.int zb), some (.int r2.1), some (.int r6.1), none, none]) hG dX2_enact_38 (by decide) (pm_c1b rfl) rfl ?_
    refine pm_aloadn hG dX2_enact_40 rfl ?_
    refine pm_getf hG dX2_enact_41 (flX2_26 _ rfl) rfl rfl ?_
    refine pm_getf hG dX2_enact_44 (flX2_50 _ rfl) rfl rfl ?_
    refine pm_callV (As := []) (rest := []) hG hR dX2_enact_47 (lkX2_53 _ rfl) okV_X9_used rfl rfl (tused_28 (d := 34)) rfl rfl hdd (Nat.le_refl _) (Nat.le_refl _) (by decide) (fx_ki ?_)
    refine fx_letv hE (fun x7 hE => ?_)
    refine pm_istoreXi (loc' := [some (.ref (B + 26)), some (.int za), some (.int zb), some (.int r2.1), some (.int r6.1), some (.int x7), none]) hG dX2_enact_50 (by decide) (pm_c1b rfl) rfl ?_
    refine pm_aloadn hG dX2_enact_52 rfl ?_
    refine pm_getf hG dX2_enact_53 (flX2_9 _ rfl) rfl rfl ?_
    refine pm_getf hG dX2_enact_56 (flX2_43 _ rfl) rfl rfl ?_
    refine pm_iloadi hG dX2_enact_59 rfl ?_
    refine pm_iconst (v := 1) hG dX2_enact_61 (by decide) ?_
    refine pm_iloadn hG dX2_enact_62 rfl ?_
    refine pm_callV (As := [.int r6.1, .int 1, .int zb]) (rest := []) hG hR dX2_enact_63 (lkX2_56 _ rfl) okV_X9_set rfl rfl (tset_10 (d := 34)) rfl rfl hdd (Nat.le_refl _) (Nat.le_refl _) (by decide) (fx_kv ?_)
    refine fx_letc hE (fun S8 hE => ?_)
    refine pm_aloadn hG dX2_enact_66 rfl ?_
    refine pm_getf hG dX2_enact_67 (flX2_9 _ rfl) rfl rfl ?_
    refine pm_getf hG dX2_enact_70 (flX2_43 _ rfl) rfl rfl ?_
    refine pm_iloadi hG dX2_enact_73 rfl ?_
    refine pm_iconst (v := 2) hG dX2_enact_75 (by decide) ?_
    refine pm_aloadn hG dX2_enact_76 rfl ?_
    refine pm_getf hG dX2_enact_77 (flX2_9 _ rfl) rfl rfl ?_
    refine pm_getf hG dX2_enact_80 (flX2_60 _ rfl) rfl rfl ?_
    refine pm_callV (As := [.int r6.1, .int 2, .int (S8.1 102)]) (rest := []) hG hR dX2_enact_83 (lkX2_56 _ rfl) okV_X9_set rfl rfl (tset_10 (d := 34)) rfl rfl hdd (Nat.le_refl _) (Nat.le_refl _) (by decide) (fx_kv ?_)
    refine fx_letc hE (fun S9 hE => ?_)
    refine pm_aloadn hG dX2_enact_86 rfl ?_
    refine pm_getf hG dX2_enact_87 (flX2_9 _ rfl) rfl rfl ?_
    refine pm_getf hG dX2_enact_90 (flX2_43 _ rfl) rfl rfl ?_
    refine pm_iloadi hG dX2_enact_93 rfl ?_
    refine pm_iconst (v := 3) hG dX2_enact_95 (by decide) ?_
    refine pm_iconst (v := (-1)) hG dX2_enact_96 (by decide) ?_
    refine pm_callV (As := [.int r6.1, .int 3, .int (-1)]) (rest := []) hG hR dX2_enact_97 (lkX2_56 _ rfl) okV_X9_set rfl rfl (tset_10 (d := 34)) rfl rfl hdd (Nat.le_refl _) (Nat.le_refl _) (by decide) (fx_kv ?_)
    refine fx_letc hE (fun S10 hE => ?_)
    refine pm_aloadn hG dX2_enact_100 rfl ?_
    refine pm_getf hG dX2_enact_101 (flX2_9 _ rfl) rfl rfl ?_
    refine pm_getf hG dX2_enact_104 (flX2_43 _ rfl) rfl rfl ?_
    refine pm_iloadi hG dX2_enact_107 rfl ?_
    refine pm_iconst (v := 4) hG dX2_enact_109 (by decide) ?_
    refine pm_iloadi hG dX2_enact_110 rfl ?_
    refine pm_callV (As := [.int r6.1, .int 4, .int x7]) (rest := []) hG hR dX2_enact_112 (lkX2_56 _ rfl) okV_X9_set rfl rfl (tset_10 (d := 34)) rfl rfl hdd (Nat.le_refl _) (Nat.le_refl _) (by decide) (fx_kv ?_)
    refine fx_letc hE (fun S11 hE => ?_)
    refine pm_iconst (v := 0) hG dX2_enact_115 (by decide) ?_
    refine pm_istoreXi (loc' := [some (.ref (B + 26)), some (.int za), some (.int zb), some (.int r2.1), some (.int r6.1), some (.int x7), some (.int 0)]) hG dX2_enact_116 (by decide) (pm_c1b rfl) rfl ?_
    have loop118 : ∀ (k118 : FS → Int32 → Option (Int32 × FS)), (∀ (S12 : FS) (x12_6 : Int32), k118 S12  x12_6 = some R → pm_wp mX2_enact G B 158 [some (.ref (B + 26)), some (.int za), some (.int zb), some (.int r2.1), some (.int r6.1), some (.int x7), some (.int x12_6)] [] 0 0 cnt (cst B kp S12 ρ)) → ∀ (m118 : Nat) (S12 : FS) (x12_6 : Int32), l_X2_enact_118 r6 x7 k118 m118 S12  x12_6 = some R → pm_wp mX2_enact G B 118 [some (.ref (B + 26)), some (.int za), some (.int zb), some (.int r2.1), some (.int r6.1), some (.int x7), some (.int x12_6)] [] 0 0 cnt (cst B kp S12 ρ) := by
      intro k118 hk118 m118
      induction m118 with
      | zero => intro S12  x12_6 hE; exact fx_no hE
      | succ m118 ih118 =>
        intro S12  x12_6 hE
        rw [l_X2_enact_118] at hE
        refine pm_iloadi hG dX2_enact_118 rfl ?_
        refine pm_iloadi hG dX2_enact_120 rfl ?_
        refine pm_icmp_ge (tgt := 158) hG dX2_enact_122 rfl (fun c13 => ?_) (fun c13 => ?_)
        · replace c13 := Int32.not_lt.mpr c13
          replace hE := fx_f c13 hE
          exact hk118 _ _ hE
        · replace c13 := Int32.not_le.mp c13
          replace hE := fx_t c13 hE
          refine pm_aloadn hG dX2_enact_125 rfl ?_
          refine pm_getf hG dX2_enact_126 (flX2_9 _ rfl) rfl rfl ?_
          refine pm_getf hG dX2_enact_129 (flX2_64 _ rfl) rfl rfl ?_
          refine pm_iloadi hG dX2_enact_132 rfl ?_
          refine pm_iloadi hG dX2_enact_134 rfl ?_
          refine pm_aloadn hG dX2_enact_136 rfl ?_
          refine pm_getf hG dX2_enact_137 (flX2_26 _ rfl) rfl rfl ?_
          refine pm_getf hG dX2_enact_140 (flX2_50 _ rfl) rfl rfl ?_
          refine pm_iloadi hG dX2_enact_143 rfl ?_
          refine pm_iconst (v := 0) hG dX2_enact_145 (by decide) ?_
          refine pm_callV (As := [.int x12_6, .int 0]) (rest := [.int x12_6, .int r6.1, .ref (B + 12)]) hG hR dX2_enact_146 (lkX2_67 _ rfl) okV_X9_get rfl rfl (tget_28 (d := 34)) rfl rfl hdd (Nat.le_refl _) (Nat.le_refl _) (by first | decide | exact Nat.le_of_ble_eq_true rfl) (fx_ki ?_)
          refine pm_callV (As := [.int r6.1, .int x12_6, .int (fG 28 60 1 S12 x12_6 0)]) (rest := []) hG hR dX2_enact_149 (lkX2_56 _ rfl) okV_X9_set rfl rfl (tset_12 (d := 34)) rfl rfl hdd (Nat.le_refl _) (Nat.le_refl _) (by decide) (fx_kv ?_)
          refine fx_letc hE (fun S14 hE => ?_)
          refine pm_iincX (v := x12_6 + 1) (loc' := [some (.ref (B + 26)), some (.int za), some (.int zb), some (.int r2.1), some (.int r6.1), some (.int x7), some (.int (x12_6 + 1))]) hG dX2_enact_152 rfl (by rfl) (by decide) (pm_c1b rfl) rfl ?_
          refine pm_goto (tgt := 118) hG dX2_enact_155 rfl ?_
          exact ih118 _ _ hE
    refine loop118 _ (fun S15 x15_6 hE => ?_) _ _ _ hE
    refine pm_aloadn hG dX2_enact_158 rfl ?_
    refine pm_getf hG dX2_enact_159 (flX2_9 _ rfl) rfl rfl ?_
    refine pm_getf hG dX2_enact_162 (flX2_43 _ rfl) rfl rfl ?_
    refine pm_iloadi hG dX2_enact_165 rfl ?_
    refine pm_iconst (v := 5) hG dX2_enact_167 (by decide) ?_
    refine pm_aloadn hG dX2_enact_168 rfl ?_
    refine pm_getf hG dX2_enact_169 (flX2_26 _ rfl) rfl rfl ?_
    refine pm_getf hG dX2_enact_172 (flX2_50 _ rfl) rfl rfl ?_
    refine pm_iconst (v := 0) hG dX2_enact_175 (by decide) ?_
    refine pm_bipush (v := (-30)) hG dX2_enact_176 (by decide) ?_
    obtain ⟨x17, h16, hE⟩ := fb_some hE
    refine pm_callV (As := [.int 0, .int (-30)]) (rest := [.int 5, .int r6.1, .ref (B + 10)]) hG hR dX2_enact_178 (lkX2_71 _ rfl) okV_X9_rowsWith rfl rfl (trowsWith_28 (d := 34) (k := 0) (by decide) rfl h16) rfl rfl hdd (Nat.le_refl _) (Nat.le_refl _) (by first | decide | exact Nat.le_of_ble_eq_true rfl) (fx_ki ?_)
    refine pm_callV (As := [.int r6.1, .int 5, .int x17]) (rest := []) hG hR dX2_enact_181 (lkX2_56 _ rfl) okV_X9_set rfl rfl (tset_10 (d := 34)) rfl rfl hdd (Nat.le_refl _) (Nat.le_refl _) (by decide) (fx_kv ?_)
    refine fx_letc hE (fun S18 hE => ?_)
    refine pm_iloadi hG dX2_enact_184 rfl ?_
    exact pm_iret hG hF dX2_enact_186 rfl (Nat.le_refl _) (Nat.le_refl _) (fx_ric hE)
  · replace hE := fx_f c4 hE
    refine pm_bipush (v := (-10)) hG dX2_enact_22 (by decide) ?_
    refine pm_iloadn hG dX2_enact_24 rfl ?_
    refine pm_isub hG dX2_enact_25 ?_
    exact pm_iret hG hF dX2_enact_26 rfl (Nat.le_refl _) (Nat.le_refl _) (fx_ric hE)

set_option maxRecDepth 100000 in
set_option maxHeartbeats 4000000 in
theorem c_X11_law {d : Nat} {B cnt : Nat} {kp : Value} {ρ : pm_S} {S : FS} {za : Int32} {zb : Int32} {R : Int32 × FS} (hdd : 36 ≤ d) (hE : f_X11_law S za zb = some R) : pm_met mX11_law d 0 0 B [.ref (B + 0), .int za, .int zb] cnt (cst B kp S ρ) (pm_Qi (fun v σ' cnt' => v = R.1 ∧ σ' = (cst B kp R.2 ρ) ∧ cnt' = cnt)) := by
  refine pm_enter 0 (by decide) (Nat.le_of_ble_eq_true rfl) rfl (fun G hG hR hF => ?_)
  unfold f_X11_law at hE
  refine pm_iloadn hG dX11_law_0 rfl ?_
  refine pm_iconst (v := 0) hG dX11_law_1 (by decide) ?_
  refine pm_iconst (v := 4) hG dX11_law_2 (by decide) ?_
  refine pm_callS (As := [.int za, .int 0, .int 4]) (rest := []) hG hR dX11_law_3 (lkX11_105 _ rfl) okS_X11_isOutside (tOut (d := 35)) rfl rfl hdd (Nat.le_refl _) (Nat.le_refl _) (by decide) (fx_ki ?_)
  refine pm_if_ne (tgt := 20) hG dX11_law_6 rfl (fun c1 => ?_) (fun c1 => ?_)
  · replace hE := fx_f c1 hE
    refine pm_aloadn hG dX11_law_20 rfl ?_
    refine pm_ldc hG dX11_law_21 (ctX11_109 _ rfl) ?_
    obtain ⟨r3, h2, hE⟩ := fb_some hE
    refine pm_callV (As := [.int (-1000001)]) (rest := []) hG hR dX11_law_23 (lkX11_97 _ rfl) okV_X11_told rfl rfl (c_X11_told (d := 35) (by decide) h2) rfl rfl hdd (Nat.le_refl _) (Nat.le_refl _) (by decide) (fx_ki ?_)
    exact pm_iret hG hF dX11_law_26 rfl (Nat.le_refl _) (Nat.le_refl _) (fx_ric hE)
  · replace hE := fx_t c1 hE
    refine pm_iloadn hG dX11_law_9 rfl ?_
    refine pm_iconst (v := 0) hG dX11_law_10 (by decide) ?_
    refine pm_sipush (v := 2000) hG dX11_law_11 (by decide) ?_
    refine pm_callS (As := [.int zb, .int 0, .int 2000]) (rest := []) hG hR dX11_law_14 (lkX11_105 _ rfl) okS_X11_isOutside (tOut (d := 35)) rfl rfl hdd (Nat.le_refl _) (Nat.le_refl _) (by decide) (fx_ki ?_)
    refine pm_if_eq (tgt := 27) hG dX11_law_17 rfl (fun c4 => ?_) (fun c4 => ?_)
    · replace hE := fx_t c4 hE
      refine pm_aloadn hG dX11_law_27 rfl ?_
      refine pm_aloadn hG dX11_law_28 rfl ?_
      refine pm_getf hG dX11_law_29 (flX11_12 _ rfl) rfl rfl ?_
      refine pm_getf hG dX11_law_32 (flX11_209 _ rfl) rfl rfl ?_
      refine pm_callV (As := []) (rest := [.ref (B + 0)]) hG hR dX11_law_35 (lkX11_86 _ rfl) okV_X9_isFull rfl rfl (tisFull_10 (d := 35)) rfl rfl hdd (Nat.le_refl _) (Nat.le_refl _) (by first | decide | exact Nat.le_of_ble_eq_true rfl) (fx_ki ?_)
      refine pm_if_eq (tgt := 46) hG dX11_law_38 rfl (fun c5 => ?_) (fun c5 => ?_)
      · replace hE := fx_t c5 hE
        refine pm_aloadn hG dX11_law_46 rfl ?_
        refine pm_getf hG dX11_law_47 (flX11_21 _ rfl) rfl rfl ?_
        refine pm_iloadn hG dX11_law_50 rfl ?_
        refine pm_iloadn hG dX11_law_51 rfl ?_
        obtain ⟨r7, h6, hE⟩ := fb_some hE
        refine pm_callV (As := [.int za, .int zb]) (rest := [.ref (B + 0)]) hG hR dX11_law_52 (lkX11_211 _ rfl) okV_X2_enact rfl rfl (c_X2_enact (d := 35) (by decide) h6) rfl rfl hdd (Nat.le_refl _) (Nat.le_refl _) (by first | decide | exact Nat.le_of_ble_eq_true rfl) (fx_ki ?_)
        obtain ⟨r9, h8, hE⟩ := fb_some hE
        refine pm_callV (As := [.int r7.1]) (rest := []) hG hR dX11_law_55 (lkX11_97 _ rfl) okV_X11_told rfl rfl (c_X11_told (d := 35) (by decide) h8) rfl rfl hdd (Nat.le_refl _) (Nat.le_refl _) (by decide) (fx_ki ?_)
        exact pm_iret hG hF dX11_law_58 rfl (Nat.le_refl _) (Nat.le_refl _) (fx_ric hE)
      · replace hE := fx_f c5 hE
        refine pm_ldc hG dX11_law_41 (ctX11_92 _ rfl) ?_
        refine pm_goto (tgt := 55) hG dX11_law_43 rfl ?_
        obtain ⟨r11, h10, hE⟩ := fb_some hE
        refine pm_callV (As := [.int (-1000004)]) (rest := []) hG hR dX11_law_55 (lkX11_97 _ rfl) okV_X11_told rfl rfl (c_X11_told (d := 35) (by decide) h10) rfl rfl hdd (Nat.le_refl _) (Nat.le_refl _) (by decide) (fx_ki ?_)
        exact pm_iret hG hF dX11_law_58 rfl (Nat.le_refl _) (Nat.le_refl _) (fx_ric hE)
    · replace hE := fx_f c4 hE
      refine pm_aloadn hG dX11_law_20 rfl ?_
      refine pm_ldc hG dX11_law_21 (ctX11_109 _ rfl) ?_
      obtain ⟨r13, h12, hE⟩ := fb_some hE
      refine pm_callV (As := [.int (-1000001)]) (rest := []) hG hR dX11_law_23 (lkX11_97 _ rfl) okV_X11_told rfl rfl (c_X11_told (d := 35) (by decide) h12) rfl rfl hdd (Nat.le_refl _) (Nat.le_refl _) (by decide) (fx_ki ?_)
      exact pm_iret hG hF dX11_law_26 rfl (Nat.le_refl _) (Nat.le_refl _) (fx_ric hE)

set_option maxRecDepth 100000 in
set_option maxHeartbeats 4000000 in
theorem c_X11_lend {d : Nat} {B cnt : Nat} {kp : Value} {ρ : pm_S} {S : FS} {za : Int32} {zb : Int32} {zc : Int32} {R : Int32 × FS} (hdd : 2 ≤ d) (hE : f_X11_lend S za zb zc = some R) : pm_met mX11_lend d 0 0 B [.ref (B + 0), .int za, .int zb, .int zc] cnt (cst B kp S ρ) (pm_Qi (fun v σ' cnt' => v = R.1 ∧ σ' = (cst B kp R.2 ρ) ∧ cnt' = cnt)) := by
  refine pm_enter 1 (by decide) (Nat.le_of_ble_eq_true rfl) rfl (fun G hG hR hF => ?_)
  unfold f_X11_lend at hE
  refine pm_aloadn hG dX11_lend_0 rfl ?_
  refine pm_getf hG dX11_lend_1 (flX11_12 _ rfl) rfl rfl ?_
  refine pm_getf hG dX11_lend_4 (flX11_161 _ rfl) rfl rfl ?_
  refine pm_iloadn hG dX11_lend_7 rfl ?_
  refine pm_callV (As := [.int za]) (rest := []) hG hR dX11_lend_8 (lkX11_101 _ rfl) okV_X9_has rfl rfl (thas_8 (d := 1)) rfl rfl hdd (Nat.le_refl _) (Nat.le_refl _) (by decide) (fx_ki ?_)
  refine pm_if_eq (tgt := 42) hG dX11_lend_11 rfl (fun c1 => ?_) (fun c1 => ?_)
  · replace hE := fx_t c1 hE
    refine pm_aloadn hG dX11_lend_42 rfl ?_
    refine pm_ldc hG dX11_lend_43 (ctX11_109 _ rfl) ?_
    obtain ⟨r3, h2, hE⟩ := fb_some hE
    refine pm_callV (As := [.int (-1000001)]) (rest := []) hG hR dX11_lend_45 (lkX11_97 _ rfl) okV_X11_told rfl rfl (c_X11_told (d := 1) (by decide) h2) rfl rfl hdd (Nat.le_refl _) (Nat.le_refl _) (by decide) (fx_ki ?_)
    exact pm_iret hG hF dX11_lend_48 rfl (Nat.le_refl _) (Nat.le_refl _) (fx_ric hE)
  · replace hE := fx_f c1 hE
    refine pm_aloadn hG dX11_lend_14 rfl ?_
    refine pm_getf hG dX11_lend_15 (flX11_12 _ rfl) rfl rfl ?_
    refine pm_iloadn hG dX11_lend_18 rfl ?_
    refine pm_callV (As := [.int zb]) (rest := []) hG hR dX11_lend_19 (lkX11_135 _ rfl) okV_X7_isLiving rfl rfl (c_X7_isLiving (d := 1) (by decide) rfl) rfl rfl hdd (Nat.le_refl _) (Nat.le_refl _) (by decide) (fx_ki ?_)
    refine pm_if_eq (tgt := 42) hG dX11_lend_22 rfl (fun c4 => ?_) (fun c4 => ?_)
    · replace hE := fx_t c4 hE
      refine pm_aloadn hG dX11_lend_42 rfl ?_
      refine pm_ldc hG dX11_lend_43 (ctX11_109 _ rfl) ?_
      obtain ⟨r6, h5, hE⟩ := fb_some hE
      refine pm_callV (As := [.int (-1000001)]) (rest := []) hG hR dX11_lend_45 (lkX11_97 _ rfl) okV_X11_told rfl rfl (c_X11_told (d := 1) (by decide) h5) rfl rfl hdd (Nat.le_refl _) (Nat.le_refl _) (by decide) (fx_ki ?_)
      exact pm_iret hG hF dX11_lend_48 rfl (Nat.le_refl _) (Nat.le_refl _) (fx_ric hE)
    · replace hE := fx_f c4 hE
      refine pm_iloadn hG dX11_lend_25 rfl ?_
      refine pm_aloadn hG dX11_lend_26 rfl ?_
      refine pm_getf hG dX11_lend_27 (flX11_12 _ rfl) rfl rfl ?_
      refine pm_getf hG dX11_lend_30 (flX11_122 _ rfl) rfl rfl ?_
      refine pm_sipush (v := 2000) hG dX11_lend_33 (by decide) ?_
      refine pm_callS (As := [.int zc, .int (S.1 102), .int 2000]) (rest := []) hG hR dX11_lend_36 (lkX11_105 _ rfl) okS_X11_isOutside (tOut (d := 1)) rfl rfl hdd (Nat.le_refl _) (Nat.le_refl _) (by decide) (fx_ki ?_)
      refine pm_if_eq (tgt := 49) hG dX11_lend_39 rfl (fun c7 => ?_) (fun c7 => ?_)
      · replace hE := fx_t c7 hE
        refine pm_aloadn hG dX11_lend_49 rfl ?_
        refine pm_getf hG dX11_lend_50 (flX11_12 _ rfl) rfl rfl ?_
        refine pm_iloadn hG dX11_lend_53 rfl ?_
        refine pm_iconst (v := 2) hG dX11_lend_54 (by decide) ?_
        obtain ⟨x9, h8, hE⟩ := fb_some hE
        refine pm_callV (As := [.int za, .int 2]) (rest := []) hG hR dX11_lend_55 (lkX11_180 _ rfl) okV_X7_isOfKind rfl rfl (c_X7_isOfKind (d := 1) (by decide) h8) rfl rfl hdd (Nat.le_refl _) (Nat.le_refl _) (by decide) (fx_ki ?_)
        refine pm_if_ne (tgt := 68) hG dX11_lend_58 rfl (fun c10 => ?_) (fun c10 => ?_)
        · replace hE := fx_f c10 hE
          refine pm_aloadn hG dX11_lend_68 rfl ?_
          refine pm_getf hG dX11_lend_69 (flX11_12 _ rfl) rfl rfl ?_
          refine pm_getf hG dX11_lend_72 (flX11_161 _ rfl) rfl rfl ?_
          refine pm_iloadn hG dX11_lend_75 rfl ?_
          refine pm_iconst (v := 2) hG dX11_lend_76 (by decide) ?_
          refine pm_callV (As := [.int za, .int 2]) (rest := []) hG hR dX11_lend_77 (lkX11_152 _ rfl) okV_X9_get rfl rfl (tget_8 (d := 1)) rfl rfl hdd (Nat.le_refl _) (Nat.le_refl _) (by decide) (fx_ki ?_)
          refine fx_letv hE (fun x11 hE => ?_)
          refine pm_istoreXi (loc' := [some (.ref (B + 0)), some (.int za), some (.int zb), some (.int zc), some (.int x11)]) hG dX11_lend_80 (by decide) (pm_c1b rfl) rfl ?_
          refine pm_iloadi hG dX11_lend_82 rfl ?_
          refine pm_iconst (v := (-1)) hG dX11_lend_84 (by decide) ?_
          refine pm_icmp_eq (tgt := 105) hG dX11_lend_85 rfl (fun c12 => ?_) (fun c12 => ?_)
          · replace hE := fx_t c12 hE
            refine pm_aloadn hG dX11_lend_105 rfl ?_
            refine pm_ldc hG dX11_lend_106 (ctX11_138 _ rfl) ?_
            obtain ⟨r14, h13, hE⟩ := fb_some hE
            refine pm_callV (As := [.int (-1000003)]) (rest := []) hG hR dX11_lend_108 (lkX11_97 _ rfl) okV_X11_told rfl rfl (c_X11_told (d := 1) (by decide) h13) rfl rfl hdd (Nat.le_refl _) (Nat.le_refl _) (by decide) (fx_ki ?_)
            exact pm_iret hG hF dX11_lend_111 rfl (Nat.le_refl _) (Nat.le_refl _) (fx_ric hE)
          · replace hE := fx_f c12 hE
            refine pm_iloadi hG dX11_lend_88 rfl ?_
            refine pm_iloadn hG dX11_lend_90 rfl ?_
            refine pm_icmp_eq (tgt := 105) hG dX11_lend_91 rfl (fun c15 => ?_) (fun c15 => ?_)
            · replace hE := fx_t c15 hE
              refine pm_aloadn hG dX11_lend_105 rfl ?_
              refine pm_ldc hG dX11_lend_106 (ctX11_138 _ rfl) ?_
              obtain ⟨r17, h16, hE⟩ := fb_some hE
              refine pm_callV (As := [.int (-1000003)]) (rest := []) hG hR dX11_lend_108 (lkX11_97 _ rfl) okV_X11_told rfl rfl (c_X11_told (d := 1) (by decide) h16) rfl rfl hdd (Nat.le_refl _) (Nat.le_refl _) (by decide) (fx_ki ?_)
              exact pm_iret hG hF dX11_lend_111 rfl (Nat.le_refl _) (Nat.le_refl _) (fx_ric hE)
            · replace hE := fx_f c15 hE
              refine pm_aloadn hG dX11_lend_94 rfl ?_
              refine pm_getf hG dX11_lend_95 (flX11_12 _ rfl) rfl rfl ?_
              refine pm_iloadn hG dX11_lend_98 rfl ?_
              refine pm_callV (As := [.int za]) (rest := []) hG hR dX11_lend_99 (lkX11_188 _ rfl) okV_X7_isLent rfl rfl (c_X7_isLent (d := 1) (by decide) rfl) rfl rfl hdd (Nat.le_refl _) (Nat.le_refl _) (by decide) (fx_ki ?_)
              refine pm_if_eq (tgt := 112) hG dX11_lend_102 rfl (fun c18 => ?_) (fun c18 => ?_)
              · replace hE := fx_t c18 hE
                refine pm_aloadn hG dX11_lend_112 rfl ?_
                refine pm_getf hG dX11_lend_113 (flX11_12 _ rfl) rfl rfl ?_
                refine pm_iloadn hG dX11_lend_116 rfl ?_
                refine pm_iloadn hG dX11_lend_117 rfl ?_
                refine pm_iloadn hG dX11_lend_118 rfl ?_
                obtain ⟨r20, h19, hE⟩ := fb_some hE
                refine pm_callV (As := [.int za, .int zb, .int zc]) (rest := []) hG hR dX11_lend_119 (lkX11_194 _ rfl) okV_X7_setLent rfl rfl (c_X7_setLent (d := 1) (by decide) h19) rfl rfl hdd (Nat.le_refl _) (Nat.le_refl _) (by decide) (fx_kv ?_)
                refine pm_iconst (v := 1) hG dX11_lend_122 (by decide) ?_
                exact pm_iret hG hF dX11_lend_123 rfl (Nat.le_refl _) (Nat.le_refl _) (fx_ric hE)
              · replace hE := fx_f c18 hE
                refine pm_aloadn hG dX11_lend_105 rfl ?_
                refine pm_ldc hG dX11_lend_106 (ctX11_138 _ rfl) ?_
                obtain ⟨r22, h21, hE⟩ := fb_some hE
                refine pm_callV (As := [.int (-1000003)]) (rest := []) hG hR dX11_lend_108 (lkX11_97 _ rfl) okV_X11_told rfl rfl (c_X11_told (d := 1) (by decide) h21) rfl rfl hdd (Nat.le_refl _) (Nat.le_refl _) (by decide) (fx_ki ?_)
                exact pm_iret hG hF dX11_lend_111 rfl (Nat.le_refl _) (Nat.le_refl _) (fx_ric hE)
        · replace hE := fx_t c10 hE
          refine pm_aloadn hG dX11_lend_61 rfl ?_
          refine pm_ldc hG dX11_lend_62 (ctX11_184 _ rfl) ?_
          obtain ⟨r24, h23, hE⟩ := fb_some hE
          refine pm_callV (As := [.int (-1000005)]) (rest := []) hG hR dX11_lend_64 (lkX11_97 _ rfl) okV_X11_told rfl rfl (c_X11_told (d := 1) (by decide) h23) rfl rfl hdd (Nat.le_refl _) (Nat.le_refl _) (by decide) (fx_ki ?_)
          exact pm_iret hG hF dX11_lend_67 rfl (Nat.le_refl _) (Nat.le_refl _) (fx_ric hE)
      · replace hE := fx_f c7 hE
        refine pm_aloadn hG dX11_lend_42 rfl ?_
        refine pm_ldc hG dX11_lend_43 (ctX11_109 _ rfl) ?_
        obtain ⟨r26, h25, hE⟩ := fb_some hE
        refine pm_callV (As := [.int (-1000001)]) (rest := []) hG hR dX11_lend_45 (lkX11_97 _ rfl) okV_X11_told rfl rfl (c_X11_told (d := 1) (by decide) h25) rfl rfl hdd (Nat.le_refl _) (Nat.le_refl _) (by decide) (fx_ki ?_)
        exact pm_iret hG hF dX11_lend_48 rfl (Nat.le_refl _) (Nat.le_refl _) (fx_ric hE)

set_option maxRecDepth 100000 in
set_option maxHeartbeats 4000000 in
theorem c_X11_letter {d : Nat} {B cnt : Nat} {kp : Value} {ρ : pm_S} {S : FS} {za : Int32} {zb : Int32} {R : Int32 × FS} (hdd : 2 ≤ d) (hE : f_X11_letter S za zb = some R) : pm_met mX11_letter d 0 0 B [.ref (B + 0), .int za, .int zb] cnt (cst B kp S ρ) (pm_Qi (fun v σ' cnt' => v = R.1 ∧ σ' = (cst B kp R.2 ρ) ∧ cnt' = cnt)) := by
  refine pm_enter 0 (by decide) (Nat.le_of_ble_eq_true rfl) rfl (fun G hG hR hF => ?_)
  unfold f_X11_letter at hE
  refine pm_aloadn hG dX11_letter_0 rfl ?_
  refine pm_getf hG dX11_letter_1 (flX11_12 _ rfl) rfl rfl ?_
  refine pm_getf hG dX11_letter_4 (flX11_224 _ rfl) rfl rfl ?_
  refine pm_iloadn hG dX11_letter_7 rfl ?_
  refine pm_callV (As := [.int za]) (rest := []) hG hR dX11_letter_8 (lkX11_101 _ rfl) okV_X9_has rfl rfl (thas_14 (d := 1)) rfl rfl hdd (Nat.le_refl _) (Nat.le_refl _) (by decide) (fx_ki ?_)
  refine pm_if_ne (tgt := 21) hG dX11_letter_11 rfl (fun c1 => ?_) (fun c1 => ?_)
  · replace hE := fx_f c1 hE
    refine pm_iloadn hG dX11_letter_21 rfl ?_
    by_cases c2 : zb = 0
    · replace hE := fx_t c2 hE
      refine pm_top (v := 0) c2 ?_
      refine pm_tswIn (tgt := 76) hG dX11_letter_22 (by decide) (by decide) rfl rfl ?_
      refine pm_aloadn hG dX11_letter_76 rfl ?_
      refine pm_getf hG dX11_letter_77 (flX11_12 _ rfl) rfl rfl ?_
      refine pm_getf hG dX11_letter_80 (flX11_224 _ rfl) rfl rfl ?_
      refine pm_iloadn hG dX11_letter_83 rfl ?_
      refine pm_iconst (v := 0) hG dX11_letter_84 (by decide) ?_
      refine pm_callV (As := [.int za, .int 0]) (rest := []) hG hR dX11_letter_85 (lkX11_152 _ rfl) okV_X9_get rfl rfl (tget_14 (d := 1)) rfl rfl hdd (Nat.le_refl _) (Nat.le_refl _) (by decide) (fx_ki ?_)
      exact pm_iret hG hF dX11_letter_88 rfl (Nat.le_refl _) (Nat.le_refl _) (fx_ric hE)
    replace hE := fx_f c2 hE
    by_cases c3 : zb = 1
    · replace hE := fx_t c3 hE
      refine pm_top (v := 1) c3 ?_
      refine pm_tswIn (tgt := 89) hG dX11_letter_22 (by decide) (by decide) rfl rfl ?_
      refine pm_aloadn hG dX11_letter_89 rfl ?_
      refine pm_getf hG dX11_letter_90 (flX11_12 _ rfl) rfl rfl ?_
      refine pm_getf hG dX11_letter_93 (flX11_224 _ rfl) rfl rfl ?_
      refine pm_iloadn hG dX11_letter_96 rfl ?_
      refine pm_iconst (v := 1) hG dX11_letter_97 (by decide) ?_
      refine pm_callV (As := [.int za, .int 1]) (rest := []) hG hR dX11_letter_98 (lkX11_152 _ rfl) okV_X9_get rfl rfl (tget_14 (d := 1)) rfl rfl hdd (Nat.le_refl _) (Nat.le_refl _) (by decide) (fx_ki ?_)
      exact pm_iret hG hF dX11_letter_101 rfl (Nat.le_refl _) (Nat.le_refl _) (fx_ric hE)
    replace hE := fx_f c3 hE
    by_cases c4 : zb = 2
    · replace hE := fx_t c4 hE
      refine pm_top (v := 2) c4 ?_
      refine pm_tswIn (tgt := 102) hG dX11_letter_22 (by decide) (by decide) rfl rfl ?_
      refine pm_aloadn hG dX11_letter_102 rfl ?_
      refine pm_getf hG dX11_letter_103 (flX11_12 _ rfl) rfl rfl ?_
      refine pm_getf hG dX11_letter_106 (flX11_224 _ rfl) rfl rfl ?_
      refine pm_iloadn hG dX11_letter_109 rfl ?_
      refine pm_iconst (v := 2) hG dX11_letter_110 (by decide) ?_
      refine pm_callV (As := [.int za, .int 2]) (rest := []) hG hR dX11_letter_111 (lkX11_152 _ rfl) okV_X9_get rfl rfl (tget_14 (d := 1)) rfl rfl hdd (Nat.le_refl _) (Nat.le_refl _) (by decide) (fx_ki ?_)
      exact pm_iret hG hF dX11_letter_114 rfl (Nat.le_refl _) (Nat.le_refl _) (fx_ric hE)
    replace hE := fx_f c4 hE
    by_cases c5 : zb = 3
    · replace hE := fx_t c5 hE
      refine pm_top (v := 3) c5 ?_
      refine pm_tswIn (tgt := 115) hG dX11_letter_22 (by decide) (by decide) rfl rfl ?_
      refine pm_aloadn hG dX11_letter_115 rfl ?_
      refine pm_getf hG dX11_letter_116 (flX11_12 _ rfl) rfl rfl ?_
      refine pm_getf hG dX11_letter_119 (flX11_224 _ rfl) rfl rfl ?_
      refine pm_iloadn hG dX11_letter_122 rfl ?_
      refine pm_iconst (v := 4) hG dX11_letter_123 (by decide) ?_
      refine pm_callV (As := [.int za, .int 4]) (rest := []) hG hR dX11_letter_124 (lkX11_152 _ rfl) okV_X9_get rfl rfl (tget_14 (d := 1)) rfl rfl hdd (Nat.le_refl _) (Nat.le_refl _) (by decide) (fx_ki ?_)
      exact pm_iret hG hF dX11_letter_127 rfl (Nat.le_refl _) (Nat.le_refl _) (fx_ric hE)
    replace hE := fx_f c5 hE
    by_cases c6 : zb = 4
    · replace hE := fx_t c6 hE
      refine pm_top (v := 4) c6 ?_
      refine pm_tswIn (tgt := 128) hG dX11_letter_22 (by decide) (by decide) rfl rfl ?_
      refine pm_aloadn hG dX11_letter_128 rfl ?_
      refine pm_getf hG dX11_letter_129 (flX11_12 _ rfl) rfl rfl ?_
      refine pm_getf hG dX11_letter_132 (flX11_224 _ rfl) rfl rfl ?_
      refine pm_iloadn hG dX11_letter_135 rfl ?_
      refine pm_bipush (v := 6) hG dX11_letter_136 (by decide) ?_
      refine pm_callV (As := [.int za, .int 6]) (rest := []) hG hR dX11_letter_138 (lkX11_152 _ rfl) okV_X9_get rfl rfl (tget_14 (d := 1)) rfl rfl hdd (Nat.le_refl _) (Nat.le_refl _) (by decide) (fx_ki ?_)
      exact pm_iret hG hF dX11_letter_141 rfl (Nat.le_refl _) (Nat.le_refl _) (fx_ric hE)
    replace hE := fx_f c6 hE
    by_cases c7 : zb = 5
    · replace hE := fx_t c7 hE
      refine pm_top (v := 5) c7 ?_
      refine pm_tswIn (tgt := 142) hG dX11_letter_22 (by decide) (by decide) rfl rfl ?_
      refine pm_aloadn hG dX11_letter_142 rfl ?_
      refine pm_getf hG dX11_letter_143 (flX11_12 _ rfl) rfl rfl ?_
      refine pm_getf hG dX11_letter_146 (flX11_224 _ rfl) rfl rfl ?_
      refine pm_iloadn hG dX11_letter_149 rfl ?_
      refine pm_bipush (v := 8) hG dX11_letter_150 (by decide) ?_
      refine pm_callV (As := [.int za, .int 8]) (rest := []) hG hR dX11_letter_152 (lkX11_152 _ rfl) okV_X9_get rfl rfl (tget_14 (d := 1)) rfl rfl hdd (Nat.le_refl _) (Nat.le_refl _) (by decide) (fx_ki ?_)
      exact pm_iret hG hF dX11_letter_155 rfl (Nat.le_refl _) (Nat.le_refl _) (fx_ric hE)
    replace hE := fx_f c7 hE
    by_cases c8 : zb = 6
    · replace hE := fx_t c8 hE
      refine pm_top (v := 6) c8 ?_
      refine pm_tswIn (tgt := 156) hG dX11_letter_22 (by decide) (by decide) rfl rfl ?_
      refine pm_aloadn hG dX11_letter_156 rfl ?_
      refine pm_getf hG dX11_letter_157 (flX11_12 _ rfl) rfl rfl ?_
      refine pm_getf hG dX11_letter_160 (flX11_224 _ rfl) rfl rfl ?_
      refine pm_iloadn hG dX11_letter_163 rfl ?_
      refine pm_bipush (v := 9) hG dX11_letter_164 (by decide) ?_
      refine pm_callV (As := [.int za, .int 9]) (rest := []) hG hR dX11_letter_166 (lkX11_152 _ rfl) okV_X9_get rfl rfl (tget_14 (d := 1)) rfl rfl hdd (Nat.le_refl _) (Nat.le_refl _) (by decide) (fx_ki ?_)
      exact pm_iret hG hF dX11_letter_169 rfl (Nat.le_refl _) (Nat.le_refl _) (fx_ric hE)
    replace hE := fx_f c8 hE
    by_cases c9 : zb = 7
    · replace hE := fx_t c9 hE
      refine pm_top (v := 7) c9 ?_
      refine pm_tswIn (tgt := 170) hG dX11_letter_22 (by decide) (by decide) rfl rfl ?_
      refine pm_aloadn hG dX11_letter_170 rfl ?_
      refine pm_getf hG dX11_letter_171 (flX11_12 _ rfl) rfl rfl ?_
      refine pm_getf hG dX11_letter_174 (flX11_224 _ rfl) rfl rfl ?_
      refine pm_iloadn hG dX11_letter_177 rfl ?_
      refine pm_bipush (v := 10) hG dX11_letter_178 (by decide) ?_
      refine pm_callV (As := [.int za, .int 10]) (rest := []) hG hR dX11_letter_180 (lkX11_152 _ rfl) okV_X9_get rfl rfl (tget_14 (d := 1)) rfl rfl hdd (Nat.le_refl _) (Nat.le_refl _) (by decide) (fx_ki ?_)
      exact pm_iret hG hF dX11_letter_183 rfl (Nat.le_refl _) (Nat.le_refl _) (fx_ric hE)
    replace hE := fx_f c9 hE
    by_cases c10 : zb = 8
    · replace hE := fx_t c10 hE
      refine pm_top (v := 8) c10 ?_
      refine pm_tswIn (tgt := 184) hG dX11_letter_22 (by decide) (by decide) rfl rfl ?_
      refine pm_aloadn hG dX11_letter_184 rfl ?_
      refine pm_getf hG dX11_letter_185 (flX11_12 _ rfl) rfl rfl ?_
      refine pm_getf hG dX11_letter_188 (flX11_224 _ rfl) rfl rfl ?_
      refine pm_iloadn hG dX11_letter_191 rfl ?_
      refine pm_bipush (v := 11) hG dX11_letter_192 (by decide) ?_
      refine pm_callV (As := [.int za, .int 11]) (rest := []) hG hR dX11_letter_194 (lkX11_152 _ rfl) okV_X9_get rfl rfl (tget_14 (d := 1)) rfl rfl hdd (Nat.le_refl _) (Nat.le_refl _) (by decide) (fx_ki ?_)
      exact pm_iret hG hF dX11_letter_197 rfl (Nat.le_refl _) (Nat.le_refl _) (fx_ric hE)
    replace hE := fx_f c10 hE
    by_cases c11 : zb = 9
    · replace hE := fx_t c11 hE
      refine pm_top (v := 9) c11 ?_
      refine pm_tswIn (tgt := 198) hG dX11_letter_22 (by decide) (by decide) rfl rfl ?_
      refine pm_aloadn hG dX11_letter_198 rfl ?_
      refine pm_getf hG dX11_letter_199 (flX11_12 _ rfl) rfl rfl ?_
      refine pm_getf hG dX11_letter_202 (flX11_224 _ rfl) rfl rfl ?_
      refine pm_iloadn hG dX11_letter_205 rfl ?_
      refine pm_iconst (v := 5) hG dX11_letter_206 (by decide) ?_
      refine pm_callV (As := [.int za, .int 5]) (rest := []) hG hR dX11_letter_207 (lkX11_152 _ rfl) okV_X9_get rfl rfl (tget_14 (d := 1)) rfl rfl hdd (Nat.le_refl _) (Nat.le_refl _) (by decide) (fx_ki ?_)
      exact pm_iret hG hF dX11_letter_210 rfl (Nat.le_refl _) (Nat.le_refl _) (fx_ric hE)
    replace hE := fx_f c11 hE
    have tc2 : ¬ zb.toInt = 0 := fun q => c2 (Int32.toInt_inj.mp q)
    have tc3 : ¬ zb.toInt = 1 := fun q => c3 (Int32.toInt_inj.mp q)
    have tc4 : ¬ zb.toInt = 2 := fun q => c4 (Int32.toInt_inj.mp q)
    have tc5 : ¬ zb.toInt = 3 := fun q => c5 (Int32.toInt_inj.mp q)
    have tc6 : ¬ zb.toInt = 4 := fun q => c6 (Int32.toInt_inj.mp q)
    have tc7 : ¬ zb.toInt = 5 := fun q => c7 (Int32.toInt_inj.mp q)
    have tc8 : ¬ zb.toInt = 6 := fun q => c8 (Int32.toInt_inj.mp q)
    have tc9 : ¬ zb.toInt = 7 := fun q => c9 (Int32.toInt_inj.mp q)
    have tc10 : ¬ zb.toInt = 8 := fun q => c10 (Int32.toInt_inj.mp q)
    have tc11 : ¬ zb.toInt = 9 := fun q => c11 (Int32.toInt_inj.mp q)
    refine pm_tswOut (tgt := 211) hG dX11_letter_22 (by omega) rfl ?_
    refine pm_aloadn hG dX11_letter_211 rfl ?_
    refine pm_ldc hG dX11_letter_212 (ctX11_109 _ rfl) ?_
    obtain ⟨r13, h12, hE⟩ := fb_some hE
    refine pm_callV (As := [.int (-1000001)]) (rest := []) hG hR dX11_letter_214 (lkX11_97 _ rfl) okV_X11_told rfl rfl (c_X11_told (d := 1) (by decide) h12) rfl rfl hdd (Nat.le_refl _) (Nat.le_refl _) (by decide) (fx_ki ?_)
    exact pm_iret hG hF dX11_letter_217 rfl (Nat.le_refl _) (Nat.le_refl _) (fx_ric hE)
  · replace hE := fx_t c1 hE
    refine pm_aloadn hG dX11_letter_14 rfl ?_
    refine pm_ldc hG dX11_letter_15 (ctX11_109 _ rfl) ?_
    obtain ⟨r15, h14, hE⟩ := fb_some hE
    refine pm_callV (As := [.int (-1000001)]) (rest := []) hG hR dX11_letter_17 (lkX11_97 _ rfl) okV_X11_told rfl rfl (c_X11_told (d := 1) (by decide) h14) rfl rfl hdd (Nat.le_refl _) (Nat.le_refl _) (by decide) (fx_ki ?_)
    exact pm_iret hG hF dX11_letter_20 rfl (Nat.le_refl _) (Nat.le_refl _) (fx_ric hE)

set_option maxRecDepth 100000 in
set_option maxHeartbeats 4000000 in
theorem c_X11_men {d : Nat} {B cnt : Nat} {kp : Value} {ρ : pm_S} {S : FS} {za : Int32} {zb : Int32} {R : Int32 × FS} (hdd : 2 ≤ d) (hE : f_X11_men S za zb = some R) : pm_met mX11_men d 0 0 B [.ref (B + 0), .int za, .int zb] cnt (cst B kp S ρ) (pm_Qi (fun v σ' cnt' => v = R.1 ∧ σ' = (cst B kp R.2 ρ) ∧ cnt' = cnt)) := by
  refine pm_enter 1 (by decide) (Nat.le_of_ble_eq_true rfl) rfl (fun G hG hR hF => ?_)
  unfold f_X11_men at hE
  refine pm_aloadn hG dX11_men_0 rfl ?_
  refine pm_getf hG dX11_men_1 (flX11_12 _ rfl) rfl rfl ?_
  refine pm_getf hG dX11_men_4 (flX11_128 _ rfl) rfl rfl ?_
  refine pm_iloadn hG dX11_men_7 rfl ?_
  refine pm_callV (As := [.int za]) (rest := []) hG hR dX11_men_8 (lkX11_101 _ rfl) okV_X9_has rfl rfl (thas_6 (d := 1)) rfl rfl hdd (Nat.le_refl _) (Nat.le_refl _) (by decide) (fx_ki ?_)
  refine pm_if_eq (tgt := 25) hG dX11_men_11 rfl (fun c1 => ?_) (fun c1 => ?_)
  · replace hE := fx_t c1 hE
    refine pm_aloadn hG dX11_men_25 rfl ?_
    refine pm_ldc hG dX11_men_26 (ctX11_109 _ rfl) ?_
    obtain ⟨r3, h2, hE⟩ := fb_some hE
    refine pm_callV (As := [.int (-1000001)]) (rest := []) hG hR dX11_men_28 (lkX11_97 _ rfl) okV_X11_told rfl rfl (c_X11_told (d := 1) (by decide) h2) rfl rfl hdd (Nat.le_refl _) (Nat.le_refl _) (by decide) (fx_ki ?_)
    exact pm_iret hG hF dX11_men_31 rfl (Nat.le_refl _) (Nat.le_refl _) (fx_ric hE)
  · replace hE := fx_f c1 hE
    refine pm_iloadn hG dX11_men_14 rfl ?_
    refine pm_bipush (v := (-99)) hG dX11_men_15 (by decide) ?_
    refine pm_bipush (v := 99) hG dX11_men_17 (by decide) ?_
    refine pm_callS (As := [.int zb, .int (-99), .int 99]) (rest := []) hG hR dX11_men_19 (lkX11_105 _ rfl) okS_X11_isOutside (tOut (d := 1)) rfl rfl hdd (Nat.le_refl _) (Nat.le_refl _) (by decide) (fx_ki ?_)
    refine pm_if_eq (tgt := 32) hG dX11_men_22 rfl (fun c4 => ?_) (fun c4 => ?_)
    · replace hE := fx_t c4 hE
      refine pm_aloadn hG dX11_men_32 rfl ?_
      refine pm_getf hG dX11_men_33 (flX11_12 _ rfl) rfl rfl ?_
      refine pm_iloadn hG dX11_men_36 rfl ?_
      refine pm_callV (As := [.int za]) (rest := []) hG hR dX11_men_37 (lkX11_135 _ rfl) okV_X7_isLiving rfl rfl (c_X7_isLiving (d := 1) (by decide) rfl) rfl rfl hdd (Nat.le_refl _) (Nat.le_refl _) (by decide) (fx_ki ?_)
      refine pm_if_ne (tgt := 50) hG dX11_men_40 rfl (fun c5 => ?_) (fun c5 => ?_)
      · replace hE := fx_f c5 hE
        refine pm_aloadn hG dX11_men_50 rfl ?_
        refine pm_getf hG dX11_men_51 (flX11_12 _ rfl) rfl rfl ?_
        refine pm_getf hG dX11_men_54 (flX11_128 _ rfl) rfl rfl ?_
        refine pm_iloadn hG dX11_men_57 rfl ?_
        refine pm_bipush (v := 8) hG dX11_men_58 (by decide) ?_
        refine pm_callV (As := [.int za, .int 8]) (rest := []) hG hR dX11_men_60 (lkX11_152 _ rfl) okV_X9_get rfl rfl (tget_6 (d := 1)) rfl rfl hdd (Nat.le_refl _) (Nat.le_refl _) (by decide) (fx_ki ?_)
        refine pm_iloadn hG dX11_men_63 rfl ?_
        refine pm_iadd hG dX11_men_64 ?_
        refine fx_letv hE (fun x6 hE => ?_)
        refine pm_istoreXn (loc' := [some (.ref (B + 0)), some (.int za), some (.int zb), some (.int x6)]) hG dX11_men_65 (by decide) (pm_c1b rfl) rfl ?_
        refine pm_iloadn hG dX11_men_66 rfl ?_
        refine pm_iconst (v := 0) hG dX11_men_67 (by decide) ?_
        refine pm_sipush (v := 999) hG dX11_men_68 (by decide) ?_
        refine pm_callS (As := [.int x6, .int 0, .int 999]) (rest := []) hG hR dX11_men_71 (lkX11_105 _ rfl) okS_X11_isOutside (tOut (d := 1)) rfl rfl hdd (Nat.le_refl _) (Nat.le_refl _) (by decide) (fx_ki ?_)
        refine pm_if_eq (tgt := 84) hG dX11_men_74 rfl (fun c7 => ?_) (fun c7 => ?_)
        · replace hE := fx_t c7 hE
          refine pm_aloadn hG dX11_men_84 rfl ?_
          refine pm_getf hG dX11_men_85 (flX11_12 _ rfl) rfl rfl ?_
          refine pm_getf hG dX11_men_88 (flX11_128 _ rfl) rfl rfl ?_
          refine pm_iloadn hG dX11_men_91 rfl ?_
          refine pm_bipush (v := 8) hG dX11_men_92 (by decide) ?_
          refine pm_iloadn hG dX11_men_94 rfl ?_
          refine pm_callV (As := [.int za, .int 8, .int x6]) (rest := []) hG hR dX11_men_95 (lkX11_170 _ rfl) okV_X9_set rfl rfl (tset_6 (d := 1)) rfl rfl hdd (Nat.le_refl _) (Nat.le_refl _) (by decide) (fx_kv ?_)
          refine fx_letc hE (fun S8 hE => ?_)
          refine pm_iloadn hG dX11_men_98 rfl ?_
          exact pm_iret hG hF dX11_men_99 rfl (Nat.le_refl _) (Nat.le_refl _) (fx_ric hE)
        · replace hE := fx_f c7 hE
          refine pm_aloadn hG dX11_men_77 rfl ?_
          refine pm_ldc hG dX11_men_78 (ctX11_109 _ rfl) ?_
          obtain ⟨r10, h9, hE⟩ := fb_some hE
          refine pm_callV (As := [.int (-1000001)]) (rest := []) hG hR dX11_men_80 (lkX11_97 _ rfl) okV_X11_told rfl rfl (c_X11_told (d := 1) (by decide) h9) rfl rfl hdd (Nat.le_refl _) (Nat.le_refl _) (by decide) (fx_ki ?_)
          exact pm_iret hG hF dX11_men_83 rfl (Nat.le_refl _) (Nat.le_refl _) (fx_ric hE)
      · replace hE := fx_t c5 hE
        refine pm_aloadn hG dX11_men_43 rfl ?_
        refine pm_ldc hG dX11_men_44 (ctX11_138 _ rfl) ?_
        obtain ⟨r12, h11, hE⟩ := fb_some hE
        refine pm_callV (As := [.int (-1000003)]) (rest := []) hG hR dX11_men_46 (lkX11_97 _ rfl) okV_X11_told rfl rfl (c_X11_told (d := 1) (by decide) h11) rfl rfl hdd (Nat.le_refl _) (Nat.le_refl _) (by decide) (fx_ki ?_)
        exact pm_iret hG hF dX11_men_49 rfl (Nat.le_refl _) (Nat.le_refl _) (fx_ric hE)
    · replace hE := fx_f c4 hE
      refine pm_aloadn hG dX11_men_25 rfl ?_
      refine pm_ldc hG dX11_men_26 (ctX11_109 _ rfl) ?_
      obtain ⟨r14, h13, hE⟩ := fb_some hE
      refine pm_callV (As := [.int (-1000001)]) (rest := []) hG hR dX11_men_28 (lkX11_97 _ rfl) okV_X11_told rfl rfl (c_X11_told (d := 1) (by decide) h13) rfl rfl hdd (Nat.le_refl _) (Nat.le_refl _) (by decide) (fx_ki ?_)
      exact pm_iret hG hF dX11_men_31 rfl (Nat.le_refl _) (Nat.le_refl _) (fx_ric hE)

set_option maxRecDepth 100000 in
set_option maxHeartbeats 4000000 in
theorem c_X8_has {d : Nat} {B cnt : Nat} {kp : Value} {ρ : pm_S} {S : FS} {za : Int32} {R : Int32} (hdd : 1 ≤ d) (hE : p_X8_has S za = R) : pm_met mX8_has d 0 0 B [.ref (B + 48), .int za] cnt (cst B kp S ρ) (pm_Qi (fun v σ' cnt' => v = R ∧ σ' = (cst B kp S ρ) ∧ cnt' = cnt)) := by
  refine pm_enter 0 (by decide) (Nat.le_of_ble_eq_true rfl) rfl (fun G hG hR hF => ?_)
  unfold p_X8_has at hE
  refine pm_iloadn hG dX8_has_0 rfl ?_
  refine pm_if_lt (tgt := 13) hG dX8_has_1 rfl (fun c1 => ?_) (fun c1 => ?_)
  · replace hE := fx_t c1 hE
    refine pm_iconst (v := 0) hG dX8_has_13 (by decide) ?_
    exact pm_zret hG hF dX8_has_14 rfl (by rfl) (Nat.le_refl _) (Nat.le_refl _) (fx_pi hE)
  · replace hE := fx_f c1 hE
    refine pm_iloadn hG dX8_has_4 rfl ?_
    refine pm_iconst (v := 4) hG dX8_has_5 (by decide) ?_
    refine pm_icmp_ge (tgt := 13) hG dX8_has_6 rfl (fun c2 => ?_) (fun c2 => ?_)
    · replace c2 := Int32.not_lt.mpr c2
      replace hE := fx_f c2 hE
      refine pm_iconst (v := 0) hG dX8_has_13 (by decide) ?_
      exact pm_zret hG hF dX8_has_14 rfl (by rfl) (Nat.le_refl _) (Nat.le_refl _) (fx_pi hE)
    · replace c2 := Int32.not_le.mp c2
      replace hE := fx_t c2 hE
      refine pm_iconst (v := 1) hG dX8_has_9 (by decide) ?_
      refine pm_goto (tgt := 14) hG dX8_has_10 rfl ?_
      exact pm_zret hG hF dX8_has_14 rfl (by rfl) (Nat.le_refl _) (Nat.le_refl _) (fx_pi hE)

set_option maxRecDepth 100000 in
set_option maxHeartbeats 4000000 in
theorem c_X8_bitsOf {d : Nat} {B cnt : Nat} {kp : Value} {ρ : pm_S} {S : FS} {za : Int32} {R : Int32} (hdd : 1 ≤ d) (hE : q_X8_bitsOf S za = some R) : pm_met mX8_bitsOf d 0 0 B [.ref (B + 48), .int za] cnt (cst B kp S ρ) (pm_Qi (fun v σ' cnt' => v = R ∧ σ' = (cst B kp S ρ) ∧ cnt' = cnt)) := by
  refine pm_enter 0 (by decide) (Nat.le_of_ble_eq_true rfl) rfl (fun G hG hR hF => ?_)
  unfold q_X8_bitsOf at hE
  refine pm_iloadn hG dX8_bitsOf_0 rfl ?_
  refine pm_if_lt (tgt := 22) hG dX8_bitsOf_1 rfl (fun c1 => ?_) (fun c1 => ?_)
  · replace hE := fx_t c1 hE
    refine pm_iconst (v := 0) hG dX8_bitsOf_22 (by decide) ?_
    exact pm_iret hG hF dX8_bitsOf_23 rfl (Nat.le_refl _) (Nat.le_refl _) (fx_pi (Option.some.inj hE))
  · replace hE := fx_f c1 hE
    refine pm_iloadn hG dX8_bitsOf_4 rfl ?_
    refine pm_aloadn hG dX8_bitsOf_5 rfl ?_
    refine pm_getf hG dX8_bitsOf_6 (flX8_9 _ rfl) rfl rfl ?_
    refine pm_alen (v := 4) hG dX8_bitsOf_9 rfl (by decide) ?_
    refine pm_icmp_ge (tgt := 22) hG dX8_bitsOf_10 rfl (fun c2 => ?_) (fun c2 => ?_)
    · replace c2 := Int32.not_lt.mpr c2
      replace hE := fx_f c2 hE
      refine pm_iconst (v := 0) hG dX8_bitsOf_22 (by decide) ?_
      exact pm_iret hG hF dX8_bitsOf_23 rfl (Nat.le_refl _) (Nat.le_refl _) (fx_pi (Option.some.inj hE))
    · replace c2 := Int32.not_le.mp c2
      replace hE := fx_t c2 hE
      refine pm_aloadn hG dX8_bitsOf_13 rfl ?_
      refine pm_getf hG dX8_bitsOf_14 (flX8_9 _ rfl) rfl rfl ?_
      refine pm_iloadn hG dX8_bitsOf_17 rfl ?_
      obtain ⟨j3, hj3, hE⟩ := fb_some hE
      refine fx_iald hG dX8_bitsOf_18 rfl hj3 ?_
      refine pm_goto (tgt := 23) hG dX8_bitsOf_19 rfl ?_
      exact pm_iret hG hF dX8_bitsOf_23 rfl (Nat.le_refl _) (Nat.le_refl _) (fx_pi (Option.some.inj hE))

set_option maxRecDepth 100000 in
set_option maxHeartbeats 4000000 in
theorem c_X8_isMissing {d : Nat} {B cnt : Nat} {kp : Value} {ρ : pm_S} {S : FS} {za : Int32} {R : Int32} (hdd : 2 ≤ d) (hE : q_X8_isMissing S za = some R) : pm_met mX8_isMissing d 0 0 B [.ref (B + 48), .int za] cnt (cst B kp S ρ) (pm_Qi (fun v σ' cnt' => v = R ∧ σ' = (cst B kp S ρ) ∧ cnt' = cnt)) := by
  refine pm_enter 0 (by decide) (Nat.le_of_ble_eq_true rfl) rfl (fun G hG hR hF => ?_)
  unfold q_X8_isMissing at hE
  refine pm_aloadn hG dX8_isMissing_0 rfl ?_
  refine pm_iloadn hG dX8_isMissing_1 rfl ?_
  obtain ⟨x2, h1, hE⟩ := fb_some hE
  refine pm_callV (As := [.int za]) (rest := []) hG hR dX8_isMissing_2 (lkX8_27 _ rfl) okV_X8_bitsOf rfl rfl (c_X8_bitsOf (d := 1) (by decide) h1) rfl rfl hdd (Nat.le_refl _) (Nat.le_refl _) (by decide) (fx_ki ?_)
  refine pm_if_ne (tgt := 12) hG dX8_isMissing_5 rfl (fun c3 => ?_) (fun c3 => ?_)
  · replace hE := fx_f c3 hE
    refine pm_iconst (v := 0) hG dX8_isMissing_12 (by decide) ?_
    exact pm_zret hG hF dX8_isMissing_13 rfl (by rfl) (Nat.le_refl _) (Nat.le_refl _) (fx_pi (Option.some.inj hE))
  · replace hE := fx_t c3 hE
    refine pm_iconst (v := 1) hG dX8_isMissing_8 (by decide) ?_
    refine pm_goto (tgt := 13) hG dX8_isMissing_9 rfl ?_
    exact pm_zret hG hF dX8_isMissing_13 rfl (by rfl) (Nat.le_refl _) (Nat.le_refl _) (fx_pi (Option.some.inj hE))

set_option maxRecDepth 100000 in
set_option maxHeartbeats 4000000 in
theorem c_X8_sizeOf {d : Nat} {B cnt : Nat} {kp : Value} {ρ : pm_S} {S : FS} {za : Int32} {R : Int32} (hdd : 1 ≤ d) (hE : q_X8_sizeOf S za = some R) : pm_met mX8_sizeOf d 0 0 B [.ref (B + 48), .int za] cnt (cst B kp S ρ) (pm_Qi (fun v σ' cnt' => v = R ∧ σ' = (cst B kp S ρ) ∧ cnt' = cnt)) := by
  refine pm_enter 0 (by decide) (Nat.le_of_ble_eq_true rfl) rfl (fun G hG hR hF => ?_)
  unfold q_X8_sizeOf at hE
  refine pm_iloadn hG dX8_sizeOf_0 rfl ?_
  refine pm_if_lt (tgt := 22) hG dX8_sizeOf_1 rfl (fun c1 => ?_) (fun c1 => ?_)
  · replace hE := fx_t c1 hE
    refine pm_iconst (v := 0) hG dX8_sizeOf_22 (by decide) ?_
    exact pm_iret hG hF dX8_sizeOf_23 rfl (Nat.le_refl _) (Nat.le_refl _) (fx_pi (Option.some.inj hE))
  · replace hE := fx_f c1 hE
    refine pm_iloadn hG dX8_sizeOf_4 rfl ?_
    refine pm_aloadn hG dX8_sizeOf_5 rfl ?_
    refine pm_getf hG dX8_sizeOf_6 (flX8_15 _ rfl) rfl rfl ?_
    refine pm_alen (v := 4) hG dX8_sizeOf_9 rfl (by decide) ?_
    refine pm_icmp_ge (tgt := 22) hG dX8_sizeOf_10 rfl (fun c2 => ?_) (fun c2 => ?_)
    · replace c2 := Int32.not_lt.mpr c2
      replace hE := fx_f c2 hE
      refine pm_iconst (v := 0) hG dX8_sizeOf_22 (by decide) ?_
      exact pm_iret hG hF dX8_sizeOf_23 rfl (Nat.le_refl _) (Nat.le_refl _) (fx_pi (Option.some.inj hE))
    · replace c2 := Int32.not_le.mp c2
      replace hE := fx_t c2 hE
      refine pm_aloadn hG dX8_sizeOf_13 rfl ?_
      refine pm_getf hG dX8_sizeOf_14 (flX8_15 _ rfl) rfl rfl ?_
      refine pm_iloadn hG dX8_sizeOf_17 rfl ?_
      obtain ⟨j3, hj3, hE⟩ := fb_some hE
      refine fx_iald hG dX8_sizeOf_18 rfl hj3 ?_
      refine pm_goto (tgt := 23) hG dX8_sizeOf_19 rfl ?_
      exact pm_iret hG hF dX8_sizeOf_23 rfl (Nat.le_refl _) (Nat.le_refl _) (fx_pi (Option.some.inj hE))

set_option maxRecDepth 100000 in
set_option maxHeartbeats 4000000 in
theorem c_X8_stand {d : Nat} {B cnt : Nat} {kp : Value} {ρ : pm_S} {S : FS} {za : Int32} {zb : Int32} {zc : Int32} {R : Int32} (hdd : 2 ≤ d) (hE : q_X8_stand S za zb zc = some R) : pm_met mX8_stand d 0 0 B [.ref (B + 48), .int za, .int zb, .int zc] cnt (cst B kp S ρ) (pm_Qi (fun v σ' cnt' => v = R ∧ σ' = (cst B kp S ρ) ∧ cnt' = cnt)) := by
  refine pm_enter 0 (by decide) (Nat.le_of_ble_eq_true rfl) rfl (fun G hG hR hF => ?_)
  unfold q_X8_stand at hE
  refine pm_iloadn hG dX8_stand_0 rfl ?_
  refine pm_if_lt (tgt := 32) hG dX8_stand_1 rfl (fun c1 => ?_) (fun c1 => ?_)
  · replace hE := fx_t c1 hE
    refine pm_iconst (v := 0) hG dX8_stand_32 (by decide) ?_
    exact pm_zret hG hF dX8_stand_33 rfl (by rfl) (Nat.le_refl _) (Nat.le_refl _) (fx_pi (Option.some.inj hE))
  · replace hE := fx_f c1 hE
    refine pm_iloadn hG dX8_stand_4 rfl ?_
    refine pm_if_lt (tgt := 32) hG dX8_stand_5 rfl (fun c2 => ?_) (fun c2 => ?_)
    · replace hE := fx_t c2 hE
      refine pm_iconst (v := 0) hG dX8_stand_32 (by decide) ?_
      exact pm_zret hG hF dX8_stand_33 rfl (by rfl) (Nat.le_refl _) (Nat.le_refl _) (fx_pi (Option.some.inj hE))
    · replace hE := fx_f c2 hE
      refine pm_iloadn hG dX8_stand_8 rfl ?_
      refine pm_aloadn hG dX8_stand_9 rfl ?_
      refine pm_iloadn hG dX8_stand_10 rfl ?_
      obtain ⟨x4, h3, hE⟩ := fb_some hE
      refine pm_callV (As := [.int za]) (rest := [.int zc]) hG hR dX8_stand_11 (lkX8_39 _ rfl) okV_X8_sizeOf rfl rfl (c_X8_sizeOf (d := 1) (by decide) h3) rfl rfl hdd (Nat.le_refl _) (Nat.le_refl _) (by first | decide | exact Nat.le_of_ble_eq_true rfl) (fx_ki ?_)
      refine pm_icmp_gt (tgt := 32) hG dX8_stand_14 rfl (fun c5 => ?_) (fun c5 => ?_)
      · replace hE := fx_t c5 hE
        refine pm_iconst (v := 0) hG dX8_stand_32 (by decide) ?_
        exact pm_zret hG hF dX8_stand_33 rfl (by rfl) (Nat.le_refl _) (Nat.le_refl _) (fx_pi (Option.some.inj hE))
      · replace hE := fx_f c5 hE
        refine pm_iloadn hG dX8_stand_17 rfl ?_
        refine pm_aloadn hG dX8_stand_18 rfl ?_
        refine pm_iloadn hG dX8_stand_19 rfl ?_
        obtain ⟨x7, h6, hE⟩ := fb_some hE
        refine pm_callV (As := [.int za]) (rest := [.int zb]) hG hR dX8_stand_20 (lkX8_39 _ rfl) okV_X8_sizeOf rfl rfl (c_X8_sizeOf (d := 1) (by decide) h6) rfl rfl hdd (Nat.le_refl _) (Nat.le_refl _) (by first | decide | exact Nat.le_of_ble_eq_true rfl) (fx_ki ?_)
        refine pm_iloadn hG dX8_stand_23 rfl ?_
        refine pm_isub hG dX8_stand_24 ?_
        refine pm_icmp_gt (tgt := 32) hG dX8_stand_25 rfl (fun c8 => ?_) (fun c8 => ?_)
        · replace hE := fx_t c8 hE
          refine pm_iconst (v := 0) hG dX8_stand_32 (by decide) ?_
          exact pm_zret hG hF dX8_stand_33 rfl (by rfl) (Nat.le_refl _) (Nat.le_refl _) (fx_pi (Option.some.inj hE))
        · replace hE := fx_f c8 hE
          refine pm_iconst (v := 1) hG dX8_stand_28 (by decide) ?_
          refine pm_goto (tgt := 33) hG dX8_stand_29 rfl ?_
          exact pm_zret hG hF dX8_stand_33 rfl (by rfl) (Nat.le_refl _) (Nat.le_refl _) (fx_pi (Option.some.inj hE))

set_option maxRecDepth 100000 in
set_option maxHeartbeats 4000000 in
theorem c_X8_transfer {d : Nat} {B cnt : Nat} {kp : Value} {ρ : pm_S} {S : FS} {za : Int32} {zb : Int32} {zc : Int32} {zd : Int32} {ze : Int32} {R : Int32 × FS} (hdd : 2 ≤ d) (hE : f_X8_transfer S za zb zc zd ze = some R) : pm_met mX8_transfer d 0 0 B [.ref (B + 48), .int za, .int zb, .int zc, .int zd, .int ze] cnt (cst B kp S ρ) (pm_Qv (fun σ' cnt' => σ' = (cst B kp R.2 ρ) ∧ cnt' = cnt)) := by
  refine pm_enter 0 (by decide) (Nat.le_of_ble_eq_true rfl) rfl (fun G hG hR hF => ?_)
  unfold f_X8_transfer at hE
  refine pm_aloadn hG dX8_transfer_0 rfl ?_
  refine pm_getf hG dX8_transfer_1 (flX8_23 _ rfl) rfl rfl ?_
  refine pm_iloadn hG dX8_transfer_4 rfl ?_
  refine pm_iloadn hG dX8_transfer_5 rfl ?_
  refine pm_iloadn hG dX8_transfer_6 rfl ?_
  refine pm_iloadi hG dX8_transfer_7 rfl ?_
  refine pm_iloadi hG dX8_transfer_9 rfl ?_
  refine pm_callV (As := [.int za, .int zb, .int zc, .int zd, .int ze]) (rest := []) hG hR dX8_transfer_11 (lkX8_49 _ rfl) okV_X9_transfer rfl rfl (ttransfer_51 (d := 1) (by decide)) rfl rfl hdd (Nat.le_refl _) (Nat.le_refl _) (by decide) (fx_kv ?_)
  refine fx_letc hE (fun S1 hE => ?_)
  exact pm_vret hG hF dX8_transfer_14 rfl (Nat.le_refl _) (Nat.le_refl _) (fx_rvc hE)

set_option maxRecDepth 100000 in
set_option maxHeartbeats 4000000 in
theorem c_X11_move {d : Nat} {B cnt : Nat} {kp : Value} {ρ : pm_S} {S : FS} {za : Int32} {zb : Int32} {zc : Int32} {zd : Int32} {ze : Int32} {R : Int32 × FS} (hdd : 3 ≤ d) (hE : f_X11_move S za zb zc zd ze = some R) : pm_met mX11_move d 0 0 B [.ref (B + 0), .int za, .int zb, .int zc, .int zd, .int ze] cnt (cst B kp S ρ) (pm_Qi (fun v σ' cnt' => v = R.1 ∧ σ' = (cst B kp R.2 ρ) ∧ cnt' = cnt)) := by
  refine pm_enter 0 (by decide) (Nat.le_of_ble_eq_true rfl) rfl (fun G hG hR hF => ?_)
  unfold f_X11_move at hE
  refine pm_aloadn hG dX11_move_0 rfl ?_
  refine pm_getf hG dX11_move_1 (flX11_74 _ rfl) rfl rfl ?_
  refine pm_iloadn hG dX11_move_4 rfl ?_
  refine pm_callV (As := [.int za]) (rest := []) hG hR dX11_move_5 (lkX11_251 _ rfl) okV_X8_has rfl rfl (c_X8_has (d := 2) (by decide) rfl) rfl rfl hdd (Nat.le_refl _) (Nat.le_refl _) (by decide) (fx_ki ?_)
  refine pm_if_eq (tgt := 22) hG dX11_move_8 rfl (fun c1 => ?_) (fun c1 => ?_)
  · replace hE := fx_t c1 hE
    refine pm_aloadn hG dX11_move_22 rfl ?_
    refine pm_ldc hG dX11_move_23 (ctX11_109 _ rfl) ?_
    obtain ⟨r3, h2, hE⟩ := fb_some hE
    refine pm_callV (As := [.int (-1000001)]) (rest := []) hG hR dX11_move_25 (lkX11_97 _ rfl) okV_X11_told rfl rfl (c_X11_told (d := 2) (by decide) h2) rfl rfl hdd (Nat.le_refl _) (Nat.le_refl _) (by decide) (fx_ki ?_)
    exact pm_iret hG hF dX11_move_28 rfl (Nat.le_refl _) (Nat.le_refl _) (fx_ric hE)
  · replace hE := fx_f c1 hE
    refine pm_aloadn hG dX11_move_11 rfl ?_
    refine pm_getf hG dX11_move_12 (flX11_74 _ rfl) rfl rfl ?_
    refine pm_iloadn hG dX11_move_15 rfl ?_
    refine pm_callV (As := [.int zc]) (rest := []) hG hR dX11_move_16 (lkX11_251 _ rfl) okV_X8_has rfl rfl (c_X8_has (d := 2) (by decide) rfl) rfl rfl hdd (Nat.le_refl _) (Nat.le_refl _) (by decide) (fx_ki ?_)
    refine pm_if_ne (tgt := 29) hG dX11_move_19 rfl (fun c4 => ?_) (fun c4 => ?_)
    · replace hE := fx_f c4 hE
      refine pm_aloadn hG dX11_move_29 rfl ?_
      refine pm_getf hG dX11_move_30 (flX11_74 _ rfl) rfl rfl ?_
      refine pm_iloadn hG dX11_move_33 rfl ?_
      obtain ⟨x6, h5, hE⟩ := fb_some hE
      refine pm_callV (As := [.int za]) (rest := []) hG hR dX11_move_34 (lkX11_255 _ rfl) okV_X8_isMissing rfl rfl (c_X8_isMissing (d := 2) (by decide) h5) rfl rfl hdd (Nat.le_refl _) (Nat.le_refl _) (by decide) (fx_ki ?_)
      refine pm_if_ne (tgt := 51) hG dX11_move_37 rfl (fun c7 => ?_) (fun c7 => ?_)
      · replace hE := fx_f c7 hE
        refine pm_aloadn hG dX11_move_51 rfl ?_
        refine pm_ldc hG dX11_move_52 (ctX11_223 _ rfl) ?_
        obtain ⟨r9, h8, hE⟩ := fb_some hE
        refine pm_callV (As := [.int (-1000002)]) (rest := []) hG hR dX11_move_54 (lkX11_97 _ rfl) okV_X11_told rfl rfl (c_X11_told (d := 2) (by decide) h8) rfl rfl hdd (Nat.le_refl _) (Nat.le_refl _) (by decide) (fx_ki ?_)
        exact pm_iret hG hF dX11_move_57 rfl (Nat.le_refl _) (Nat.le_refl _) (fx_ric hE)
      · replace hE := fx_t c7 hE
        refine pm_aloadn hG dX11_move_40 rfl ?_
        refine pm_getf hG dX11_move_41 (flX11_74 _ rfl) rfl rfl ?_
        refine pm_iloadn hG dX11_move_44 rfl ?_
        obtain ⟨x11, h10, hE⟩ := fb_some hE
        refine pm_callV (As := [.int zc]) (rest := []) hG hR dX11_move_45 (lkX11_255 _ rfl) okV_X8_isMissing rfl rfl (c_X8_isMissing (d := 2) (by decide) h10) rfl rfl hdd (Nat.le_refl _) (Nat.le_refl _) (by decide) (fx_ki ?_)
        refine pm_if_eq (tgt := 58) hG dX11_move_48 rfl (fun c12 => ?_) (fun c12 => ?_)
        · replace hE := fx_t c12 hE
          refine pm_aloadn hG dX11_move_58 rfl ?_
          refine pm_getf hG dX11_move_59 (flX11_74 _ rfl) rfl rfl ?_
          refine pm_iloadn hG dX11_move_62 rfl ?_
          obtain ⟨x14, h13, hE⟩ := fb_some hE
          refine pm_callV (As := [.int za]) (rest := []) hG hR dX11_move_63 (lkX11_258 _ rfl) okV_X8_bitsOf rfl rfl (c_X8_bitsOf (d := 2) (by decide) h13) rfl rfl hdd (Nat.le_refl _) (Nat.le_refl _) (by decide) (fx_ki ?_)
          refine pm_aloadn hG dX11_move_66 rfl ?_
          refine pm_getf hG dX11_move_67 (flX11_74 _ rfl) rfl rfl ?_
          refine pm_iloadn hG dX11_move_70 rfl ?_
          obtain ⟨x16, h15, hE⟩ := fb_some hE
          refine pm_callV (As := [.int zc]) (rest := [.int x14]) hG hR dX11_move_71 (lkX11_258 _ rfl) okV_X8_bitsOf rfl rfl (c_X8_bitsOf (d := 2) (by decide) h15) rfl rfl hdd (Nat.le_refl _) (Nat.le_refl _) (by first | decide | exact Nat.le_of_ble_eq_true rfl) (fx_ki ?_)
          refine pm_icmp_eq (tgt := 84) hG dX11_move_74 rfl (fun c17 => ?_) (fun c17 => ?_)
          · replace hE := fx_t c17 hE
            refine pm_aloadn hG dX11_move_84 rfl ?_
            refine pm_getf hG dX11_move_85 (flX11_74 _ rfl) rfl rfl ?_
            refine pm_iloadn hG dX11_move_88 rfl ?_
            refine pm_iloadn hG dX11_move_89 rfl ?_
            refine pm_iloadi hG dX11_move_90 rfl ?_
            obtain ⟨x19, h18, hE⟩ := fb_some hE
            refine pm_callV (As := [.int za, .int zb, .int ze]) (rest := []) hG hR dX11_move_92 (lkX11_370 _ rfl) okV_X8_stand rfl rfl (c_X8_stand (d := 2) (by decide) h18) rfl rfl hdd (Nat.le_refl _) (Nat.le_refl _) (by decide) (fx_ki ?_)
            refine pm_if_eq (tgt := 113) hG dX11_move_95 rfl (fun c20 => ?_) (fun c20 => ?_)
            · replace hE := fx_t c20 hE
              refine pm_aloadn hG dX11_move_113 rfl ?_
              refine pm_ldc hG dX11_move_114 (ctX11_109 _ rfl) ?_
              obtain ⟨r22, h21, hE⟩ := fb_some hE
              refine pm_callV (As := [.int (-1000001)]) (rest := []) hG hR dX11_move_116 (lkX11_97 _ rfl) okV_X11_told rfl rfl (c_X11_told (d := 2) (by decide) h21) rfl rfl hdd (Nat.le_refl _) (Nat.le_refl _) (by decide) (fx_ki ?_)
              exact pm_iret hG hF dX11_move_119 rfl (Nat.le_refl _) (Nat.le_refl _) (fx_ric hE)
            · replace hE := fx_f c20 hE
              refine pm_aloadn hG dX11_move_98 rfl ?_
              refine pm_getf hG dX11_move_99 (flX11_74 _ rfl) rfl rfl ?_
              refine pm_iloadn hG dX11_move_102 rfl ?_
              refine pm_iloadi hG dX11_move_103 rfl ?_
              refine pm_iloadi hG dX11_move_105 rfl ?_
              obtain ⟨x24, h23, hE⟩ := fb_some hE
              refine pm_callV (As := [.int zc, .int zd, .int ze]) (rest := []) hG hR dX11_move_107 (lkX11_370 _ rfl) okV_X8_stand rfl rfl (c_X8_stand (d := 2) (by decide) h23) rfl rfl hdd (Nat.le_refl _) (Nat.le_refl _) (by decide) (fx_ki ?_)
              refine pm_if_ne (tgt := 120) hG dX11_move_110 rfl (fun c25 => ?_) (fun c25 => ?_)
              · replace hE := fx_f c25 hE
                refine pm_aloadn hG dX11_move_120 rfl ?_
                refine pm_getf hG dX11_move_121 (flX11_74 _ rfl) rfl rfl ?_
                refine pm_iloadn hG dX11_move_124 rfl ?_
                refine pm_iloadn hG dX11_move_125 rfl ?_
                refine pm_iloadn hG dX11_move_126 rfl ?_
                refine pm_iloadi hG dX11_move_127 rfl ?_
                refine pm_iloadi hG dX11_move_129 rfl ?_
                obtain ⟨r27, h26, hE⟩ := fb_some hE
                refine pm_callV (As := [.int za, .int zb, .int zc, .int zd, .int ze]) (rest := []) hG hR dX11_move_131 (lkX11_373 _ rfl) okV_X8_transfer rfl rfl (c_X8_transfer (d := 2) (by decide) h26) rfl rfl hdd (Nat.le_refl _) (Nat.le_refl _) (by decide) (fx_kv ?_)
                refine pm_iloadi hG dX11_move_134 rfl ?_
                exact pm_iret hG hF dX11_move_136 rfl (Nat.le_refl _) (Nat.le_refl _) (fx_ric hE)
              · replace hE := fx_t c25 hE
                refine pm_aloadn hG dX11_move_113 rfl ?_
                refine pm_ldc hG dX11_move_114 (ctX11_109 _ rfl) ?_
                obtain ⟨r29, h28, hE⟩ := fb_some hE
                refine pm_callV (As := [.int (-1000001)]) (rest := []) hG hR dX11_move_116 (lkX11_97 _ rfl) okV_X11_told rfl rfl (c_X11_told (d := 2) (by decide) h28) rfl rfl hdd (Nat.le_refl _) (Nat.le_refl _) (by decide) (fx_ki ?_)
                exact pm_iret hG hF dX11_move_119 rfl (Nat.le_refl _) (Nat.le_refl _) (fx_ric hE)
          · replace hE := fx_f c17 hE
            refine pm_aloadn hG dX11_move_77 rfl ?_
            refine pm_ldc hG dX11_move_78 (ctX11_184 _ rfl) ?_
            obtain ⟨r31, h30, hE⟩ := fb_some hE
            refine pm_callV (As := [.int (-1000005)]) (rest := []) hG hR dX11_move_80 (lkX11_97 _ rfl) okV_X11_told rfl rfl (c_X11_told (d := 2) (by decide) h30) rfl rfl hdd (Nat.le_refl _) (Nat.le_refl _) (by decide) (fx_ki ?_)
            exact pm_iret hG hF dX11_move_83 rfl (Nat.le_refl _) (Nat.le_refl _) (fx_ric hE)
        · replace hE := fx_f c12 hE
          refine pm_aloadn hG dX11_move_51 rfl ?_
          refine pm_ldc hG dX11_move_52 (ctX11_223 _ rfl) ?_
          obtain ⟨r33, h32, hE⟩ := fb_some hE
          refine pm_callV (As := [.int (-1000002)]) (rest := []) hG hR dX11_move_54 (lkX11_97 _ rfl) okV_X11_told rfl rfl (c_X11_told (d := 2) (by decide) h32) rfl rfl hdd (Nat.le_refl _) (Nat.le_refl _) (by decide) (fx_ki ?_)
          exact pm_iret hG hF dX11_move_57 rfl (Nat.le_refl _) (Nat.le_refl _) (fx_ric hE)
    · replace hE := fx_t c4 hE
      refine pm_aloadn hG dX11_move_22 rfl ?_
      refine pm_ldc hG dX11_move_23 (ctX11_109 _ rfl) ?_
      obtain ⟨r35, h34, hE⟩ := fb_some hE
      refine pm_callV (As := [.int (-1000001)]) (rest := []) hG hR dX11_move_25 (lkX11_97 _ rfl) okV_X11_told rfl rfl (c_X11_told (d := 2) (by decide) h34) rfl rfl hdd (Nat.le_refl _) (Nat.le_refl _) (by decide) (fx_ki ?_)
      exact pm_iret hG hF dX11_move_28 rfl (Nat.le_refl _) (Nat.le_refl _) (fx_ric hE)
end
section
set_option maxRecDepth 100000 in
set_option maxHeartbeats 4000000 in
theorem c_X1_prepare {d : Nat} {B cnt : Nat} {kp : Value} {ρ : pm_S} {S : FS} {za : Int32} {R : Int32 × FS} (hdd : 1 ≤ d) (hE : f_X1_prepare S za = some R) : pm_met mX1_prepare d 0 0 B [.ref (B + 40), .int za] cnt (cst B kp S ρ) (pm_Qv (fun σ' cnt' => σ' = (cst B kp R.2 ρ) ∧ cnt' = cnt)) := by
  refine pm_enter 1 (by decide) (Nat.le_of_ble_eq_true rfl) rfl (fun G hG hR hF => ?_)
  unfold f_X1_prepare at hE
  refine pm_aloadn hG dX1_prepare_0 rfl ?_
  refine pm_iloadn hG dX1_prepare_1 rfl ?_
  refine pm_putf hG dX1_prepare_2 (fwX1_19 _ rfl) rfl rfl rfl ?_
  refine ci_111 ?_
  refine fx_letc hE (fun S1 hE => ?_)
  refine pm_iconst (v := 0) hG dX1_prepare_5 (by decide) ?_
  refine pm_istoreXn (loc' := [some (.ref (B + 40)), some (.int za), some (.int 0)]) hG dX1_prepare_6 (by decide) (pm_c1b rfl) rfl ?_
  have loop7 : ∀ (k7 : FS → Int32 → Option (Int32 × FS)), (∀ (S2 : FS) (x2_2 : Int32), k7 S2  x2_2 = some R → pm_wp mX1_prepare G B 40 [some (.ref (B + 40)), some (.int za), some (.int x2_2)] [] 0 0 cnt (cst B kp S2 ρ)) → ∀ (m7 : Nat) (S2 : FS) (x2_2 : Int32), l_X1_prepare_7 k7 m7 S2  x2_2 = some R → pm_wp mX1_prepare G B 7 [some (.ref (B + 40)), some (.int za), some (.int x2_2)] [] 0 0 cnt (cst B kp S2 ρ) := by
    intro k7 hk7 m7
    induction m7 with
    | zero => intro S2  x2_2 hE; exact fx_no hE
    | succ m7 ih7 =>
      intro S2  x2_2 hE
      rw [l_X1_prepare_7] at hE
      refine pm_iloadn hG dX1_prepare_7 rfl ?_
      refine pm_aloadn hG dX1_prepare_8 rfl ?_
      refine pm_getf hG dX1_prepare_9 (flX1_15 _ rfl) rfl rfl ?_
      refine pm_alen (v := 5) hG dX1_prepare_12 rfl (by decide) ?_
      refine pm_icmp_ge (tgt := 40) hG dX1_prepare_13 rfl (fun c3 => ?_) (fun c3 => ?_)
      · replace c3 := Int32.not_lt.mpr c3
        replace hE := fx_f c3 hE
        exact hk7 _ _ hE
      · replace c3 := Int32.not_le.mp c3
        replace hE := fx_t c3 hE
        refine pm_aloadn hG dX1_prepare_16 rfl ?_
        refine pm_getf hG dX1_prepare_17 (flX1_15 _ rfl) rfl rfl ?_
        refine pm_iloadn hG dX1_prepare_20 rfl ?_
        refine pm_aloadn hG dX1_prepare_21 rfl ?_
        refine pm_getf hG dX1_prepare_22 (flX1_9 _ rfl) rfl rfl ?_
        refine pm_getf hG dX1_prepare_25 (flX1_23 _ rfl) rfl rfl ?_
        refine pm_iloadn hG dX1_prepare_28 rfl ?_
        refine pm_iconst (v := 0) hG dX1_prepare_29 (by decide) ?_
        refine pm_callV (As := [.int x2_2, .int 0]) (rest := [.int x2_2, .ref (B + 41)]) hG hR dX1_prepare_30 (lkX1_28 _ rfl) okV_X9_get rfl rfl (tget_20 (d := 0)) rfl rfl hdd (Nat.le_refl _) (Nat.le_refl _) (by first | decide | exact Nat.le_of_ble_eq_true rfl) (fx_ki ?_)
        obtain ⟨j4, hj4, hE⟩ := fb_some hE
        refine fx_iast hG dX1_prepare_33 rfl hj4 ?_
        refine ca_41 ?_
        refine fx_letc hE (fun S5 hE => ?_)
        refine pm_iincX (v := x2_2 + 1) (loc' := [some (.ref (B + 40)), some (.int za), some (.int (x2_2 + 1))]) hG dX1_prepare_34 rfl (by rfl) (by decide) (pm_c1b rfl) rfl ?_
        refine pm_goto (tgt := 7) hG dX1_prepare_37 rfl ?_
        exact ih7 _ _ hE
  refine loop7 _ (fun S6 x6_2 hE => ?_) _ _ _ hE
  exact pm_vret hG hF dX1_prepare_40 rfl (Nat.le_refl _) (Nat.le_refl _) (fx_rvc hE)

set_option maxRecDepth 100000 in
set_option maxHeartbeats 4000000 in
theorem c_X1_winsWithin_k0 {d : Nat} {B cnt : Nat} {kp : Value} {ρ : pm_S} {S : FS} {zb : Int32} {zc : Int32} {R : Int32} (hdd : 1 ≤ d) (hE : p_X1_winsWithin_k0 S zb zc = R) : pm_met mX1_winsWithin d 0 0 B [.ref (B + 40), .int 0, .int zb, .int zc] cnt (cst B kp S ρ) (pm_Qi (fun v σ' cnt' => v = R ∧ σ' = (cst B kp S ρ) ∧ cnt' = cnt)) := by
  refine pm_enter 0 (by decide) (Nat.le_of_ble_eq_true rfl) rfl (fun G hG hR hF => ?_)
  unfold p_X1_winsWithin_k0 at hE
  refine pm_iloadn hG dX1_winsWithin_0 rfl ?_
  refine pm_if_le (tgt := 28) hG dX1_winsWithin_1 rfl (fun _ => ?_) (fun q => absurd q (by decide))
  refine pm_iconst (v := 0) hG dX1_winsWithin_28 (by decide) ?_
  exact pm_zret hG hF dX1_winsWithin_29 rfl (by rfl) (Nat.le_refl _) (Nat.le_refl _) (fx_pi hE)

set_option maxRecDepth 100000 in
set_option maxHeartbeats 4000000 in
theorem c_X1_winsDespite_k0 {d : Nat} {B cnt : Nat} {kp : Value} {ρ : pm_S} {S : FS} {za : Int32} {zb : Int32} {zd : Int32} {ze : Int32} {R : Int32 × FS} (hdd : 2 ≤ d) (hE : f_X1_winsDespite_k0 S za zb zd ze = some R) : pm_met mX1_winsDespite d 0 0 B [.ref (B + 40), .int za, .int zb, .int 0, .int zd, .int ze] cnt (cst B kp S ρ) (pm_Qi (fun v σ' cnt' => v = R.1 ∧ σ' = (cst B kp R.2 ρ) ∧ cnt' = cnt)) := by
  refine pm_enter 2 (by decide) (Nat.le_of_ble_eq_true rfl) rfl (fun G hG hR hF => ?_)
  unfold f_X1_winsDespite_k0 at hE
  refine pm_iloadn hG dX1_winsDespite_0 rfl ?_
  refine pm_if_lt (tgt := 30) hG dX1_winsDespite_1 rfl (fun c1 => ?_) (fun c1 => ?_)
  · replace hE := fx_t c1 hE
    refine pm_iconst (v := 0) hG dX1_winsDespite_30 (by decide) ?_
    refine pm_istoreXi (loc' := [some (.ref (B + 40)), some (.int za), some (.int zb), some (.int 0), some (.int zd), some (.int ze), some (.int 0), none]) hG dX1_winsDespite_31 (by decide) (pm_c1b rfl) rfl ?_
    refine pm_iloadi hG dX1_winsDespite_33 rfl ?_
    refine pm_if_eq (tgt := 59) hG dX1_winsDespite_35 rfl (fun _ => ?_) (fun q => absurd q (by decide))
    refine pm_iconst (v := 1) hG dX1_winsDespite_59 (by decide) ?_
    exact pm_zret hG hF dX1_winsDespite_60 rfl (by rfl) (Nat.le_refl _) (Nat.le_refl _) (fx_ric hE)
  · replace hE := fx_f c1 hE
    refine pm_iloadn hG dX1_winsDespite_4 rfl ?_
    refine pm_aloadn hG dX1_winsDespite_5 rfl ?_
    refine pm_getf hG dX1_winsDespite_6 (flX1_15 _ rfl) rfl rfl ?_
    refine pm_alen (v := 5) hG dX1_winsDespite_9 rfl (by decide) ?_
    refine pm_icmp_ge (tgt := 30) hG dX1_winsDespite_10 rfl (fun c2 => ?_) (fun c2 => ?_)
    · replace c2 := Int32.not_lt.mpr c2
      replace hE := fx_f c2 hE
      refine pm_iconst (v := 0) hG dX1_winsDespite_30 (by decide) ?_
      refine pm_istoreXi (loc' := [some (.ref (B + 40)), some (.int za), some (.int zb), some (.int 0), some (.int zd), some (.int ze), some (.int 0), none]) hG dX1_winsDespite_31 (by decide) (pm_c1b rfl) rfl ?_
      refine pm_iloadi hG dX1_winsDespite_33 rfl ?_
      refine pm_if_eq (tgt := 59) hG dX1_winsDespite_35 rfl (fun _ => ?_) (fun q => absurd q (by decide))
      refine pm_iconst (v := 1) hG dX1_winsDespite_59 (by decide) ?_
      exact pm_zret hG hF dX1_winsDespite_60 rfl (by rfl) (Nat.le_refl _) (Nat.le_refl _) (fx_ric hE)
    · replace c2 := Int32.not_le.mp c2
      replace hE := fx_t c2 hE
      refine pm_iloadn hG dX1_winsDespite_13 rfl ?_
      refine pm_if_lt (tgt := 30) hG dX1_winsDespite_14 rfl (fun c3 => ?_) (fun c3 => ?_)
      · replace hE := fx_t c3 hE
        refine pm_iconst (v := 0) hG dX1_winsDespite_30 (by decide) ?_
        refine pm_istoreXi (loc' := [some (.ref (B + 40)), some (.int za), some (.int zb), some (.int 0), some (.int zd), some (.int ze), some (.int 0), none]) hG dX1_winsDespite_31 (by decide) (pm_c1b rfl) rfl ?_
        refine pm_iloadi hG dX1_winsDespite_33 rfl ?_
        refine pm_if_eq (tgt := 59) hG dX1_winsDespite_35 rfl (fun _ => ?_) (fun q => absurd q (by decide))
        refine pm_iconst (v := 1) hG dX1_winsDespite_59 (by decide) ?_
        exact pm_zret hG hF dX1_winsDespite_60 rfl (by rfl) (Nat.le_refl _) (Nat.le_refl _) (fx_ric hE)
      · replace hE := fx_f c3 hE
        refine pm_iloadn hG dX1_winsDespite_17 rfl ?_
        refine pm_aloadn hG dX1_winsDespite_18 rfl ?_
        refine pm_getf hG dX1_winsDespite_19 (flX1_15 _ rfl) rfl rfl ?_
        refine pm_alen (v := 5) hG dX1_winsDespite_22 rfl (by decide) ?_
        refine pm_icmp_ge (tgt := 30) hG dX1_winsDespite_23 rfl (fun c4 => ?_) (fun c4 => ?_)
        · replace c4 := Int32.not_lt.mpr c4
          replace hE := fx_f c4 hE
          refine pm_iconst (v := 0) hG dX1_winsDespite_30 (by decide) ?_
          refine pm_istoreXi (loc' := [some (.ref (B + 40)), some (.int za), some (.int zb), some (.int 0), some (.int zd), some (.int ze), some (.int 0), none]) hG dX1_winsDespite_31 (by decide) (pm_c1b rfl) rfl ?_
          refine pm_iloadi hG dX1_winsDespite_33 rfl ?_
          refine pm_if_eq (tgt := 59) hG dX1_winsDespite_35 rfl (fun _ => ?_) (fun q => absurd q (by decide))
          refine pm_iconst (v := 1) hG dX1_winsDespite_59 (by decide) ?_
          exact pm_zret hG hF dX1_winsDespite_60 rfl (by rfl) (Nat.le_refl _) (Nat.le_refl _) (fx_ric hE)
        · replace c4 := Int32.not_le.mp c4
          replace hE := fx_t c4 hE
          refine pm_iconst (v := 1) hG dX1_winsDespite_26 (by decide) ?_
          refine pm_goto (tgt := 31) hG dX1_winsDespite_27 rfl ?_
          refine pm_istoreXi (loc' := [some (.ref (B + 40)), some (.int za), some (.int zb), some (.int 0), some (.int zd), some (.int ze), some (.int 1), none]) hG dX1_winsDespite_31 (by decide) (pm_c1b rfl) rfl ?_
          refine pm_iloadi hG dX1_winsDespite_33 rfl ?_
          refine pm_if_eq (tgt := 59) hG dX1_winsDespite_35 rfl (fun q => absurd q (by decide)) (fun _ => ?_)
          refine pm_aloadn hG dX1_winsDespite_38 rfl ?_
          refine pm_getf hG dX1_winsDespite_39 (flX1_15 _ rfl) rfl rfl ?_
          refine pm_iloadn hG dX1_winsDespite_42 rfl ?_
          obtain ⟨j5, hj5, hE⟩ := fb_some hE
          refine fx_iald hG dX1_winsDespite_43 rfl hj5 ?_
          refine pm_iconst (v := 1) hG dX1_winsDespite_44 (by decide) ?_
          refine pm_icmp_lt (tgt := 59) hG dX1_winsDespite_45 rfl (fun c6 => ?_) (fun c6 => ?_)
          · replace hE := fx_t c6 hE
            refine pm_iconst (v := 1) hG dX1_winsDespite_59 (by decide) ?_
            exact pm_zret hG hF dX1_winsDespite_60 rfl (by rfl) (Nat.le_refl _) (Nat.le_refl _) (fx_ric hE)
          · replace hE := fx_f c6 hE
            refine pm_aloadn hG dX1_winsDespite_48 rfl ?_
            refine pm_getf hG dX1_winsDespite_49 (flX1_15 _ rfl) rfl rfl ?_
            refine pm_iloadn hG dX1_winsDespite_52 rfl ?_
            obtain ⟨j7, hj7, hE⟩ := fb_some hE
            refine fx_iald hG dX1_winsDespite_53 rfl hj7 ?_
            refine pm_bipush (v := 6) hG dX1_winsDespite_54 (by decide) ?_
            refine pm_icmp_lt (tgt := 61) hG dX1_winsDespite_56 rfl (fun c8 => ?_) (fun c8 => ?_)
            · replace hE := fx_t c8 hE
              refine pm_aloadn hG dX1_winsDespite_61 rfl ?_
              refine pm_getf hG dX1_winsDespite_62 (flX1_15 _ rfl) rfl rfl ?_
              refine pm_iloadn hG dX1_winsDespite_65 rfl ?_
              refine pm_dup2 hG dX1_winsDespite_66 rfl rfl ?_
              refine fx_iald hG dX1_winsDespite_67 rfl hj5 ?_
              refine pm_iconst (v := 1) hG dX1_winsDespite_68 (by decide) ?_
              refine pm_isub hG dX1_winsDespite_69 ?_
              refine fx_iast hG dX1_winsDespite_70 rfl hj5 ?_
              refine ca_41 ?_
              refine fx_letc hE (fun S9 hE => ?_)
              refine pm_aloadn hG dX1_winsDespite_71 rfl ?_
              refine pm_getf hG dX1_winsDespite_72 (flX1_15 _ rfl) rfl rfl ?_
              refine pm_iloadn hG dX1_winsDespite_75 rfl ?_
              refine pm_dup2 hG dX1_winsDespite_76 rfl rfl ?_
              refine fx_iald hG dX1_winsDespite_77 rfl hj7 ?_
              refine pm_iconst (v := 1) hG dX1_winsDespite_78 (by decide) ?_
              refine pm_iadd hG dX1_winsDespite_79 ?_
              refine fx_iast hG dX1_winsDespite_80 rfl hj7 ?_
              refine ca_41 ?_
              refine fx_letc hE (fun S10 hE => ?_)
              refine pm_aloadn hG dX1_winsDespite_81 rfl ?_
              refine pm_iloadn hG dX1_winsDespite_82 rfl ?_
              refine pm_iloadi hG dX1_winsDespite_83 rfl ?_
              refine pm_iloadi hG dX1_winsDespite_85 rfl ?_
              refine pm_callV (As := [.int 0, .int zd, .int ze]) (rest := []) hG hR dX1_winsDespite_87 (lkX1_44 _ rfl) okV_X1_winsWithin rfl rfl (c_X1_winsWithin_k0 (d := 1) (by decide) rfl) rfl rfl hdd (Nat.le_refl _) (Nat.le_refl _) (by decide) (fx_ki ?_)
              refine fx_letv hE (fun x11 hE => ?_)
              refine pm_istoreXi (loc' := [some (.ref (B + 40)), some (.int za), some (.int zb), some (.int 0), some (.int zd), some (.int ze), some (.int 1), some (.int x11)]) hG dX1_winsDespite_90 (by decide) (pm_c1b rfl) rfl ?_
              refine pm_aloadn hG dX1_winsDespite_92 rfl ?_
              refine pm_getf hG dX1_winsDespite_93 (flX1_15 _ rfl) rfl rfl ?_
              refine pm_iloadn hG dX1_winsDespite_96 rfl ?_
              refine pm_dup2 hG dX1_winsDespite_97 rfl rfl ?_
              refine fx_iald hG dX1_winsDespite_98 rfl hj5 ?_
              refine pm_iconst (v := 1) hG dX1_winsDespite_99 (by decide) ?_
              refine pm_iadd hG dX1_winsDespite_100 ?_
              refine fx_iast hG dX1_winsDespite_101 rfl hj5 ?_
              refine ca_41 ?_
              refine fx_letc hE (fun S12 hE => ?_)
              refine pm_aloadn hG dX1_winsDespite_102 rfl ?_
              refine pm_getf hG dX1_winsDespite_103 (flX1_15 _ rfl) rfl rfl ?_
              refine pm_iloadn hG dX1_winsDespite_106 rfl ?_
              refine pm_dup2 hG dX1_winsDespite_107 rfl rfl ?_
              refine fx_iald hG dX1_winsDespite_108 rfl hj7 ?_
              refine pm_iconst (v := 1) hG dX1_winsDespite_109 (by decide) ?_
              refine pm_isub hG dX1_winsDespite_110 ?_
              refine fx_iast hG dX1_winsDespite_111 rfl hj7 ?_
              refine ca_41 ?_
              refine fx_letc hE (fun S13 hE => ?_)
              refine pm_iloadi hG dX1_winsDespite_112 rfl ?_
              obtain ⟨b14, hb14, hE⟩ := fb_some hE
              exact pm_zret hG hF dX1_winsDespite_114 rfl (bz_n hb14) (Nat.le_refl _) (Nat.le_refl _) (fx_rbc hb14 hE)
            · replace hE := fx_f c8 hE
              refine pm_iconst (v := 1) hG dX1_winsDespite_59 (by decide) ?_
              exact pm_zret hG hF dX1_winsDespite_60 rfl (by rfl) (Nat.le_refl _) (Nat.le_refl _) (fx_ric hE)

set_option maxRecDepth 100000 in
set_option maxHeartbeats 4000000 in
theorem c_X1_winsWhatever_k0 {d : Nat} {B cnt : Nat} {kp : Value} {ρ : pm_S} {S : FS} {zb : Int32} {zc : Int32} {R : Int32 × FS} (hdd : 3 ≤ d) (hE : f_X1_winsWhatever_k0 S zb zc = some R) : pm_met mX1_winsWhatever d 0 0 B [.ref (B + 40), .int 0, .int zb, .int zc] cnt (cst B kp S ρ) (pm_Qi (fun v σ' cnt' => v = R.1 ∧ σ' = (cst B kp R.2 ρ) ∧ cnt' = cnt)) := by
  refine pm_enter 2 (by decide) (Nat.le_of_ble_eq_true rfl) rfl (fun G hG hR hF => ?_)
  unfold f_X1_winsWhatever_k0 at hE
  refine pm_aloadn hG dX1_winsWhatever_0 rfl ?_
  refine pm_iloadn hG dX1_winsWhatever_1 rfl ?_
  refine pm_iloadn hG dX1_winsWhatever_2 rfl ?_
  refine pm_iloadn hG dX1_winsWhatever_3 rfl ?_
  refine pm_callV (As := [.int 0, .int zb, .int zc]) (rest := []) hG hR dX1_winsWhatever_4 (lkX1_44 _ rfl) okV_X1_winsWithin rfl rfl (c_X1_winsWithin_k0 (d := 2) (by decide) rfl) rfl rfl hdd (Nat.le_refl _) (Nat.le_refl _) (by decide) (fx_ki ?_)
  refine fx_letv hE (fun x1 hE => ?_)
  refine pm_istoreXi (loc' := [some (.ref (B + 40)), some (.int 0), some (.int zb), some (.int zc), some (.int x1), none]) hG dX1_winsWhatever_7 (by decide) (pm_c1b rfl) rfl ?_
  refine pm_iconst (v := 0) hG dX1_winsWhatever_9 (by decide) ?_
  refine pm_iloadn hG dX1_winsWhatever_10 rfl ?_
  refine pm_mmax hG hR dX1_winsWhatever_11 (mmX1_47 _ rfl) pm_mwmax (by omega) (by first | decide | exact Nat.le_of_ble_eq_true rfl) (Nat.le_refl _) (Nat.le_refl _) ?_
  refine pm_top (v := imax 0 zb) rfl ?_
  refine fx_letv hE (fun x2 hE => ?_)
  refine pm_istoreXi (loc' := [some (.ref (B + 40)), some (.int 0), some (.int zb), some (.int zc), some (.int x1), some (.int x2)]) hG dX1_winsWhatever_14 (by decide) (pm_c1b rfl) rfl ?_
  have loop16 : ∀ (k16 : FS → Int32 → Int32 → Option (Int32 × FS)), (∀ (S3 : FS) (x3_4 : Int32) (x3_5 : Int32), k16 S3  x3_4 x3_5 = some R → pm_wp mX1_winsWhatever G B 78 [some (.ref (B + 40)), some (.int 0), some (.int zb), some (.int zc), some (.int x3_4), some (.int x3_5)] [] 0 0 cnt (cst B kp S3 ρ)) → ∀ (m16 : Nat) (S3 : FS) (x3_4 : Int32) (x3_5 : Int32), l_X1_winsWhatever_k0_16 zb zc k16 m16 S3  x3_4 x3_5 = some R → pm_wp mX1_winsWhatever G B 16 [some (.ref (B + 40)), some (.int 0), some (.int zb), some (.int zc), some (.int x3_4), some (.int x3_5)] [] 0 0 cnt (cst B kp S3 ρ) := by
    intro k16 hk16 m16
    induction m16 with
    | zero => intro S3  x3_4 x3_5 hE; exact fx_no hE
    | succ m16 ih16 =>
      intro S3  x3_4 x3_5 hE
      rw [l_X1_winsWhatever_k0_16] at hE
      refine pm_iloadi hG dX1_winsWhatever_16 rfl ?_
      refine pm_aloadn hG dX1_winsWhatever_18 rfl ?_
      refine pm_getf hG dX1_winsWhatever_19 (flX1_15 _ rfl) rfl rfl ?_
      refine pm_alen (v := 5) hG dX1_winsWhatever_22 rfl (by decide) ?_
      refine pm_iconst (v := 1) hG dX1_winsWhatever_23 (by decide) ?_
      refine pm_isub hG dX1_winsWhatever_24 ?_
      refine pm_top (v := 4) (by decide) ?_
      refine pm_icmp_ge (tgt := 78) hG dX1_winsWhatever_25 rfl (fun c4 => ?_) (fun c4 => ?_)
      · replace c4 := Int32.not_lt.mpr c4
        replace hE := fx_f c4 hE
        exact hk16 _ _ _ hE
      · replace c4 := Int32.not_le.mp c4
        replace hE := fx_t c4 hE
        refine pm_iloadi hG dX1_winsWhatever_28 rfl ?_
        refine pm_if_eq (tgt := 78) hG dX1_winsWhatever_30 rfl (fun c5 => ?_) (fun c5 => ?_)
        · replace hE := fx_t c5 hE
          exact hk16 _ _ _ hE
        · replace hE := fx_f c5 hE
          refine pm_aloadn hG dX1_winsWhatever_33 rfl ?_
          refine pm_iloadi hG dX1_winsWhatever_34 rfl ?_
          refine pm_iloadi hG dX1_winsWhatever_36 rfl ?_
          refine pm_iconst (v := 1) hG dX1_winsWhatever_38 (by decide) ?_
          refine pm_iadd hG dX1_winsWhatever_39 ?_
          refine pm_iloadn hG dX1_winsWhatever_40 rfl ?_
          refine pm_iloadn hG dX1_winsWhatever_41 rfl ?_
          refine pm_iloadn hG dX1_winsWhatever_42 rfl ?_
          obtain ⟨r7, h6, hE⟩ := fb_some hE
          refine pm_callV (As := [.int x3_5, .int (x3_5 + 1), .int 0, .int zb, .int zc]) (rest := []) hG hR dX1_winsWhatever_43 (lkX1_52 _ rfl) okV_X1_winsDespite rfl rfl (c_X1_winsDespite_k0 (d := 2) (by decide) h6) rfl rfl hdd (Nat.le_refl _) (Nat.le_refl _) (by decide) (fx_ki ?_)
          refine pm_if_eq (tgt := 69) hG dX1_winsWhatever_46 rfl (fun c8 => ?_) (fun c8 => ?_)
          · replace hE := fx_t c8 hE
            refine pm_iconst (v := 0) hG dX1_winsWhatever_69 (by decide) ?_
            refine pm_istoreXi (loc' := [some (.ref (B + 40)), some (.int 0), some (.int zb), some (.int zc), some (.int 0), some (.int x3_5)]) hG dX1_winsWhatever_70 (by decide) (pm_c1b rfl) rfl ?_
            refine pm_iincX (v := x3_5 + 1) (loc' := [some (.ref (B + 40)), some (.int 0), some (.int zb), some (.int zc), some (.int 0), some (.int (x3_5 + 1))]) hG dX1_winsWhatever_72 rfl (by rfl) (by decide) (pm_c1b rfl) rfl ?_
            refine pm_goto (tgt := 16) hG dX1_winsWhatever_75 rfl ?_
            exact ih16 _ _ _ hE
          · replace hE := fx_f c8 hE
            refine pm_aloadn hG dX1_winsWhatever_49 rfl ?_
            refine pm_iloadi hG dX1_winsWhatever_50 rfl ?_
            refine pm_iconst (v := 1) hG dX1_winsWhatever_52 (by decide) ?_
            refine pm_iadd hG dX1_winsWhatever_53 ?_
            refine pm_iloadi hG dX1_winsWhatever_54 rfl ?_
            refine pm_iloadn hG dX1_winsWhatever_56 rfl ?_
            refine pm_iloadn hG dX1_winsWhatever_57 rfl ?_
            refine pm_iloadn hG dX1_winsWhatever_58 rfl ?_
            obtain ⟨r10, h9, hE⟩ := fb_some hE
            refine pm_callV (As := [.int (x3_5 + 1), .int x3_5, .int 0, .int zb, .int zc]) (rest := []) hG hR dX1_winsWhatever_59 (lkX1_52 _ rfl) okV_X1_winsDespite rfl rfl (c_X1_winsDespite_k0 (d := 2) (by decide) h9) rfl rfl hdd (Nat.le_refl _) (Nat.le_refl _) (by decide) (fx_ki ?_)
            refine pm_if_eq (tgt := 69) hG dX1_winsWhatever_62 rfl (fun c11 => ?_) (fun c11 => ?_)
            · replace hE := fx_t c11 hE
              refine pm_iconst (v := 0) hG dX1_winsWhatever_69 (by decide) ?_
              refine pm_istoreXi (loc' := [some (.ref (B + 40)), some (.int 0), some (.int zb), some (.int zc), some (.int 0), some (.int x3_5)]) hG dX1_winsWhatever_70 (by decide) (pm_c1b rfl) rfl ?_
              refine pm_iincX (v := x3_5 + 1) (loc' := [some (.ref (B + 40)), some (.int 0), some (.int zb), some (.int zc), some (.int 0), some (.int (x3_5 + 1))]) hG dX1_winsWhatever_72 rfl (by rfl) (by decide) (pm_c1b rfl) rfl ?_
              refine pm_goto (tgt := 16) hG dX1_winsWhatever_75 rfl ?_
              exact ih16 _ _ _ hE
            · replace hE := fx_f c11 hE
              refine pm_iconst (v := 1) hG dX1_winsWhatever_65 (by decide) ?_
              refine pm_goto (tgt := 70) hG dX1_winsWhatever_66 rfl ?_
              refine pm_istoreXi (loc' := [some (.ref (B + 40)), some (.int 0), some (.int zb), some (.int zc), some (.int 1), some (.int x3_5)]) hG dX1_winsWhatever_70 (by decide) (pm_c1b rfl) rfl ?_
              refine pm_iincX (v := x3_5 + 1) (loc' := [some (.ref (B + 40)), some (.int 0), some (.int zb), some (.int zc), some (.int 1), some (.int (x3_5 + 1))]) hG dX1_winsWhatever_72 rfl (by rfl) (by decide) (pm_c1b rfl) rfl ?_
              refine pm_goto (tgt := 16) hG dX1_winsWhatever_75 rfl ?_
              exact ih16 _ _ _ hE
  refine loop16 _ (fun S12 x12_4 x12_5 hE => ?_) _ _ _ _ hE
  refine pm_iloadi hG dX1_winsWhatever_78 rfl ?_
  obtain ⟨b13, hb13, hE⟩ := fb_some hE
  exact pm_zret hG hF dX1_winsWhatever_80 rfl (bz_n hb13) (Nat.le_refl _) (Nat.le_refl _) (fx_rbc hb13 hE)

set_option maxRecDepth 100000 in
set_option maxHeartbeats 4000000 in
theorem c_X1_winsByTaking_k1 {d : Nat} {B cnt : Nat} {kp : Value} {ρ : pm_S} {S : FS} {zb : Int32} {zc : Int32} {R : Int32 × FS} (hdd : 4 ≤ d) (hE : f_X1_winsByTaking_k1 S zb zc = some R) : pm_met mX1_winsByTaking d 0 0 B [.ref (B + 40), .int 1, .int zb, .int zc] cnt (cst B kp S ρ) (pm_Qi (fun v σ' cnt' => v = R.1 ∧ σ' = (cst B kp R.2 ρ) ∧ cnt' = cnt)) := by
  refine pm_enter 0 (by decide) (Nat.le_of_ble_eq_true rfl) rfl (fun G hG hR hF => ?_)
  unfold f_X1_winsByTaking_k1 at hE
  refine pm_iloadn hG dX1_winsByTaking_0 rfl ?_
  refine pm_if_lt (tgt := 23) hG dX1_winsByTaking_1 rfl (fun c1 => ?_) (fun c1 => ?_)
  · replace hE := fx_t c1 hE
    refine pm_iconst (v := 0) hG dX1_winsByTaking_23 (by decide) ?_
    exact pm_zret hG hF dX1_winsByTaking_24 rfl (by rfl) (Nat.le_refl _) (Nat.le_refl _) (fx_ric hE)
  · replace hE := fx_f c1 hE
    refine pm_iloadn hG dX1_winsByTaking_4 rfl ?_
    refine pm_aloadn hG dX1_winsByTaking_5 rfl ?_
    refine pm_getf hG dX1_winsByTaking_6 (flX1_15 _ rfl) rfl rfl ?_
    refine pm_alen (v := 5) hG dX1_winsByTaking_9 rfl (by decide) ?_
    refine pm_icmp_ge (tgt := 23) hG dX1_winsByTaking_10 rfl (fun c2 => ?_) (fun c2 => ?_)
    · replace c2 := Int32.not_lt.mpr c2
      replace hE := fx_f c2 hE
      refine pm_iconst (v := 0) hG dX1_winsByTaking_23 (by decide) ?_
      exact pm_zret hG hF dX1_winsByTaking_24 rfl (by rfl) (Nat.le_refl _) (Nat.le_refl _) (fx_ric hE)
    · replace c2 := Int32.not_le.mp c2
      replace hE := fx_t c2 hE
      refine pm_iloadn hG dX1_winsByTaking_13 rfl ?_
      refine pm_aloadn hG dX1_winsByTaking_14 rfl ?_
      refine pm_getf hG dX1_winsByTaking_15 (flX1_15 _ rfl) rfl rfl ?_
      refine pm_iloadn hG dX1_winsByTaking_18 rfl ?_
      obtain ⟨j3, hj3, hE⟩ := fb_some hE
      refine fx_iald hG dX1_winsByTaking_19 rfl hj3 ?_
      refine pm_icmp_gt (tgt := 25) hG dX1_winsByTaking_20 rfl (fun c4 => ?_) (fun c4 => ?_)
      · replace hE := fx_t c4 hE
        refine pm_iloadn hG dX1_winsByTaking_25 rfl ?_
        refine pm_aloadn hG dX1_winsByTaking_26 rfl ?_
        refine pm_getf hG dX1_winsByTaking_27 (flX1_19 _ rfl) rfl rfl ?_
        refine pm_icmp_eq (tgt := 54) hG dX1_winsByTaking_30 rfl (fun c5 => ?_) (fun c5 => ?_)
        · replace hE := fx_t c5 hE
          refine pm_iconst (v := 1) hG dX1_winsByTaking_54 (by decide) ?_
          refine pm_goto (tgt := 59) hG dX1_winsByTaking_55 rfl ?_
          exact pm_zret hG hF dX1_winsByTaking_59 rfl (by rfl) (Nat.le_refl _) (Nat.le_refl _) (fx_ric hE)
        · replace hE := fx_f c5 hE
          refine pm_aloadn hG dX1_winsByTaking_33 rfl ?_
          refine pm_iloadn hG dX1_winsByTaking_34 rfl ?_
          refine pm_iconst (v := 1) hG dX1_winsByTaking_35 (by decide) ?_
          refine pm_isub hG dX1_winsByTaking_36 ?_
          refine pm_top (v := 0) (by decide) ?_
          refine pm_iloadn hG dX1_winsByTaking_37 rfl ?_
          refine pm_iconst (v := 1) hG dX1_winsByTaking_38 (by decide) ?_
          refine pm_iadd hG dX1_winsByTaking_39 ?_
          refine pm_iloadn hG dX1_winsByTaking_40 rfl ?_
          refine pm_aloadn hG dX1_winsByTaking_41 rfl ?_
          refine pm_getf hG dX1_winsByTaking_42 (flX1_15 _ rfl) rfl rfl ?_
          refine pm_iloadn hG dX1_winsByTaking_45 rfl ?_
          refine fx_iald hG dX1_winsByTaking_46 rfl hj3 ?_
          refine pm_isub hG dX1_winsByTaking_47 ?_
          obtain ⟨r7, h6, hE⟩ := fb_some hE
          refine pm_callV (As := [.int 0, .int (zb + 1), .int (zc - (S.2 41 j3))]) (rest := []) hG hR dX1_winsByTaking_48 (lkX1_41 _ rfl) okV_X1_winsWhatever rfl rfl (c_X1_winsWhatever_k0 (d := 3) (by decide) h6) rfl rfl hdd (Nat.le_refl _) (Nat.le_refl _) (by decide) (fx_ki ?_)
          refine pm_if_eq (tgt := 58) hG dX1_winsByTaking_51 rfl (fun c8 => ?_) (fun c8 => ?_)
          · replace hE := fx_t c8 hE
            refine pm_iconst (v := 0) hG dX1_winsByTaking_58 (by decide) ?_
            exact pm_zret hG hF dX1_winsByTaking_59 rfl (by rfl) (Nat.le_refl _) (Nat.le_refl _) (fx_ric hE)
          · replace hE := fx_f c8 hE
            refine pm_iconst (v := 1) hG dX1_winsByTaking_54 (by decide) ?_
            refine pm_goto (tgt := 59) hG dX1_winsByTaking_55 rfl ?_
            exact pm_zret hG hF dX1_winsByTaking_59 rfl (by rfl) (Nat.le_refl _) (Nat.le_refl _) (fx_ric hE)
      · replace hE := fx_f c4 hE
        refine pm_iconst (v := 0) hG dX1_winsByTaking_23 (by decide) ?_
        exact pm_zret hG hF dX1_winsByTaking_24 rfl (by rfl) (Nat.le_refl _) (Nat.le_refl _) (fx_ric hE)

set_option maxRecDepth 100000 in
set_option maxHeartbeats 4000000 in
theorem c_X1_winsByWaiting_k1 {d : Nat} {B cnt : Nat} {kp : Value} {ρ : pm_S} {S : FS} {zb : Int32} {zc : Int32} {R : Int32 × FS} (hdd : 4 ≤ d) (hE : f_X1_winsByWaiting_k1 S zb zc = some R) : pm_met mX1_winsByWaiting d 0 0 B [.ref (B + 40), .int 1, .int zb, .int zc] cnt (cst B kp S ρ) (pm_Qi (fun v σ' cnt' => v = R.1 ∧ σ' = (cst B kp R.2 ρ) ∧ cnt' = cnt)) := by
  refine pm_enter 0 (by decide) (Nat.le_of_ble_eq_true rfl) rfl (fun G hG hR hF => ?_)
  unfold f_X1_winsByWaiting_k1 at hE
  refine pm_aloadn hG dX1_winsByWaiting_0 rfl ?_
  refine pm_iloadn hG dX1_winsByWaiting_1 rfl ?_
  refine pm_iconst (v := 1) hG dX1_winsByWaiting_2 (by decide) ?_
  refine pm_isub hG dX1_winsByWaiting_3 ?_
  refine pm_top (v := 0) (by decide) ?_
  refine pm_iloadn hG dX1_winsByWaiting_4 rfl ?_
  refine pm_iloadn hG dX1_winsByWaiting_5 rfl ?_
  obtain ⟨r2, h1, hE⟩ := fb_some hE
  refine pm_callV (As := [.int 0, .int zb, .int zc]) (rest := []) hG hR dX1_winsByWaiting_6 (lkX1_41 _ rfl) okV_X1_winsWhatever rfl rfl (c_X1_winsWhatever_k0 (d := 3) (by decide) h1) rfl rfl hdd (Nat.le_refl _) (Nat.le_refl _) (by decide) (fx_ki ?_)
  obtain ⟨b3, hb3, hE⟩ := fb_some hE
  exact pm_zret hG hF dX1_winsByWaiting_9 rfl (bz_n hb3) (Nat.le_refl _) (Nat.le_refl _) (fx_rbc hb3 hE)

set_option maxRecDepth 100000 in
set_option maxHeartbeats 4000000 in
theorem c_X1_winsWithin_k1 {d : Nat} {B cnt : Nat} {kp : Value} {ρ : pm_S} {S : FS} {zb : Int32} {zc : Int32} {R : Int32 × FS} (hdd : 5 ≤ d) (hE : f_X1_winsWithin_k1 S zb zc = some R) : pm_met mX1_winsWithin d 0 0 B [.ref (B + 40), .int 1, .int zb, .int zc] cnt (cst B kp S ρ) (pm_Qi (fun v σ' cnt' => v = R.1 ∧ σ' = (cst B kp R.2 ρ) ∧ cnt' = cnt)) := by
  refine pm_enter 0 (by decide) (Nat.le_of_ble_eq_true rfl) rfl (fun G hG hR hF => ?_)
  unfold f_X1_winsWithin_k1 at hE
  refine pm_iloadn hG dX1_winsWithin_0 rfl ?_
  refine pm_if_le (tgt := 28) hG dX1_winsWithin_1 rfl (fun q => absurd q (by decide)) (fun _ => ?_)
  refine pm_aloadn hG dX1_winsWithin_4 rfl ?_
  refine pm_iloadn hG dX1_winsWithin_5 rfl ?_
  refine pm_iloadn hG dX1_winsWithin_6 rfl ?_
  refine pm_iloadn hG dX1_winsWithin_7 rfl ?_
  obtain ⟨r2, h1, hE⟩ := fb_some hE
  refine pm_callV (As := [.int 1, .int zb, .int zc]) (rest := []) hG hR dX1_winsWithin_8 (lkX1_34 _ rfl) okV_X1_winsByTaking rfl rfl (c_X1_winsByTaking_k1 (d := 4) (by decide) h1) rfl rfl hdd (Nat.le_refl _) (Nat.le_refl _) (by decide) (fx_ki ?_)
  refine pm_if_ne (tgt := 24) hG dX1_winsWithin_11 rfl (fun c3 => ?_) (fun c3 => ?_)
  · replace hE := fx_f c3 hE
    refine pm_iconst (v := 1) hG dX1_winsWithin_24 (by decide) ?_
    refine pm_goto (tgt := 29) hG dX1_winsWithin_25 rfl ?_
    exact pm_zret hG hF dX1_winsWithin_29 rfl (by rfl) (Nat.le_refl _) (Nat.le_refl _) (fx_ric hE)
  · replace hE := fx_t c3 hE
    refine pm_aloadn hG dX1_winsWithin_14 rfl ?_
    refine pm_iloadn hG dX1_winsWithin_15 rfl ?_
    refine pm_iloadn hG dX1_winsWithin_16 rfl ?_
    refine pm_iloadn hG dX1_winsWithin_17 rfl ?_
    obtain ⟨r5, h4, hE⟩ := fb_some hE
    refine pm_callV (As := [.int 1, .int zb, .int zc]) (rest := []) hG hR dX1_winsWithin_18 (lkX1_38 _ rfl) okV_X1_winsByWaiting rfl rfl (c_X1_winsByWaiting_k1 (d := 4) (by decide) h4) rfl rfl hdd (Nat.le_refl _) (Nat.le_refl _) (by decide) (fx_ki ?_)
    refine pm_if_eq (tgt := 28) hG dX1_winsWithin_21 rfl (fun c6 => ?_) (fun c6 => ?_)
    · replace hE := fx_t c6 hE
      refine pm_iconst (v := 0) hG dX1_winsWithin_28 (by decide) ?_
      exact pm_zret hG hF dX1_winsWithin_29 rfl (by rfl) (Nat.le_refl _) (Nat.le_refl _) (fx_ric hE)
    · replace hE := fx_f c6 hE
      refine pm_iconst (v := 1) hG dX1_winsWithin_24 (by decide) ?_
      refine pm_goto (tgt := 29) hG dX1_winsWithin_25 rfl ?_
      exact pm_zret hG hF dX1_winsWithin_29 rfl (by rfl) (Nat.le_refl _) (Nat.le_refl _) (fx_ric hE)

set_option maxRecDepth 100000 in
set_option maxHeartbeats 4000000 in
theorem c_X1_winsDespite_k1 {d : Nat} {B cnt : Nat} {kp : Value} {ρ : pm_S} {S : FS} {za : Int32} {zb : Int32} {zd : Int32} {ze : Int32} {R : Int32 × FS} (hdd : 6 ≤ d) (hE : f_X1_winsDespite_k1 S za zb zd ze = some R) : pm_met mX1_winsDespite d 0 0 B [.ref (B + 40), .int za, .int zb, .int 1, .int zd, .int ze] cnt (cst B kp S ρ) (pm_Qi (fun v σ' cnt' => v = R.1 ∧ σ' = (cst B kp R.2 ρ) ∧ cnt' = cnt)) := by
  refine pm_enter 2 (by decide) (Nat.le_of_ble_eq_true rfl) rfl (fun G hG hR hF => ?_)
  unfold f_X1_winsDespite_k1 at hE
  refine pm_iloadn hG dX1_winsDespite_0 rfl ?_
  refine pm_if_lt (tgt := 30) hG dX1_winsDespite_1 rfl (fun c1 => ?_) (fun c1 => ?_)
  · replace hE := fx_t c1 hE
    refine pm_iconst (v := 0) hG dX1_winsDespite_30 (by decide) ?_
    refine pm_istoreXi (loc' := [some (.ref (B + 40)), some (.int za), some (.int zb), some (.int 1), some (.int zd), some (.int ze), some (.int 0), none]) hG dX1_winsDespite_31 (by decide) (pm_c1b rfl) rfl ?_
    refine pm_iloadi hG dX1_winsDespite_33 rfl ?_
    refine pm_if_eq (tgt := 59) hG dX1_winsDespite_35 rfl (fun _ => ?_) (fun q => absurd q (by decide))
    refine pm_iconst (v := 1) hG dX1_winsDespite_59 (by decide) ?_
    exact pm_zret hG hF dX1_winsDespite_60 rfl (by rfl) (Nat.le_refl _) (Nat.le_refl _) (fx_ric hE)
  · replace hE := fx_f c1 hE
    refine pm_iloadn hG dX1_winsDespite_4 rfl ?_
    refine pm_aloadn hG dX1_winsDespite_5 rfl ?_
    refine pm_getf hG dX1_winsDespite_6 (flX1_15 _ rfl) rfl rfl ?_
    refine pm_alen (v := 5) hG dX1_winsDespite_9 rfl (by decide) ?_
    refine pm_icmp_ge (tgt := 30) hG dX1_winsDespite_10 rfl (fun c2 => ?_) (fun c2 => ?_)
    · replace c2 := Int32.not_lt.mpr c2
      replace hE := fx_f c2 hE
      refine pm_iconst (v := 0) hG dX1_winsDespite_30 (by decide) ?_
      refine pm_istoreXi (loc' := [some (.ref (B + 40)), some (.int za), some (.int zb), some (.int 1), some (.int zd), some (.int ze), some (.int 0), none]) hG dX1_winsDespite_31 (by decide) (pm_c1b rfl) rfl ?_
      refine pm_iloadi hG dX1_winsDespite_33 rfl ?_
      refine pm_if_eq (tgt := 59) hG dX1_winsDespite_35 rfl (fun _ => ?_) (fun q => absurd q (by decide))
      refine pm_iconst (v := 1) hG dX1_winsDespite_59 (by decide) ?_
      exact pm_zret hG hF dX1_winsDespite_60 rfl (by rfl) (Nat.le_refl _) (Nat.le_refl _) (fx_ric hE)
    · replace c2 := Int32.not_le.mp c2
      replace hE := fx_t c2 hE
      refine pm_iloadn hG dX1_winsDespite_13 rfl ?_
      refine pm_if_lt (tgt := 30) hG dX1_winsDespite_14 rfl (fun c3 => ?_) (fun c3 => ?_)
      · replace hE := fx_t c3 hE
        refine pm_iconst (v := 0) hG dX1_winsDespite_30 (by decide) ?_
        refine pm_istoreXi (loc' := [some (.ref (B + 40)), some (.int za), some (.int zb), some (.int 1), some (.int zd), some (.int ze), some (.int 0), none]) hG dX1_winsDespite_31 (by decide) (pm_c1b rfl) rfl ?_
        refine pm_iloadi hG dX1_winsDespite_33 rfl ?_
        refine pm_if_eq (tgt := 59) hG dX1_winsDespite_35 rfl (fun _ => ?_) (fun q => absurd q (by decide))
        refine pm_iconst (v := 1) hG dX1_winsDespite_59 (by decide) ?_
        exact pm_zret hG hF dX1_winsDespite_60 rfl (by rfl) (Nat.le_refl _) (Nat.le_refl _) (fx_ric hE)
      · replace hE := fx_f c3 hE
        refine pm_iloadn hG dX1_winsDespite_17 rfl ?_
        refine pm_aloadn hG dX1_winsDespite_18 rfl ?_
        refine pm_getf hG dX1_winsDespite_19 (flX1_15 _ rfl) rfl rfl ?_
        refine pm_alen (v := 5) hG dX1_winsDespite_22 rfl (by decide) ?_
        refine pm_icmp_ge (tgt := 30) hG dX1_winsDespite_23 rfl (fun c4 => ?_) (fun c4 => ?_)
        · replace c4 := Int32.not_lt.mpr c4
          replace hE := fx_f c4 hE
          refine pm_iconst (v := 0) hG dX1_winsDespite_30 (by decide) ?_
          refine pm_istoreXi (loc' := [some (.ref (B + 40)), some (.int za), some (.int zb), some (.int 1), some (.int zd), some (.int ze), some (.int 0), none]) hG dX1_winsDespite_31 (by decide) (pm_c1b rfl) rfl ?_
          refine pm_iloadi hG dX1_winsDespite_33 rfl ?_
          refine pm_if_eq (tgt := 59) hG dX1_winsDespite_35 rfl (fun _ => ?_) (fun q => absurd q (by decide))
          refine pm_iconst (v := 1) hG dX1_winsDespite_59 (by decide) ?_
          exact pm_zret hG hF dX1_winsDespite_60 rfl (by rfl) (Nat.le_refl _) (Nat.le_refl _) (fx_ric hE)
        · replace c4 := Int32.not_le.mp c4
          replace hE := fx_t c4 hE
          refine pm_iconst (v := 1) hG dX1_winsDespite_26 (by decide) ?_
          refine pm_goto (tgt := 31) hG dX1_winsDespite_27 rfl ?_
          refine pm_istoreXi (loc' := [some (.ref (B + 40)), some (.int za), some (.int zb), some (.int 1), some (.int zd), some (.int ze), some (.int 1), none]) hG dX1_winsDespite_31 (by decide) (pm_c1b rfl) rfl ?_
          refine pm_iloadi hG dX1_winsDespite_33 rfl ?_
          refine pm_if_eq (tgt := 59) hG dX1_winsDespite_35 rfl (fun q => absurd q (by decide)) (fun _ => ?_)
          refine pm_aloadn hG dX1_winsDespite_38 rfl ?_
          refine pm_getf hG dX1_winsDespite_39 (flX1_15 _ rfl) rfl rfl ?_
          refine pm_iloadn hG dX1_winsDespite_42 rfl ?_
          obtain ⟨j5, hj5, hE⟩ := fb_some hE
          refine fx_iald hG dX1_winsDespite_43 rfl hj5 ?_
          refine pm_iconst (v := 1) hG dX1_winsDespite_44 (by decide) ?_
          refine pm_icmp_lt (tgt := 59) hG dX1_winsDespite_45 rfl (fun c6 => ?_) (fun c6 => ?_)
          · replace hE := fx_t c6 hE
            refine pm_iconst (v := 1) hG dX1_winsDespite_59 (by decide) ?_
            exact pm_zret hG hF dX1_winsDespite_60 rfl (by rfl) (Nat.le_refl _) (Nat.le_refl _) (fx_ric hE)
          · replace hE := fx_f c6 hE
            refine pm_aloadn hG dX1_winsDespite_48 rfl ?_
            refine pm_getf hG dX1_winsDespite_49 (flX1_15 _ rfl) rfl rfl ?_
            refine pm_iloadn hG dX1_winsDespite_52 rfl ?_
            obtain ⟨j7, hj7, hE⟩ := fb_some hE
            refine fx_iald hG dX1_winsDespite_53 rfl hj7 ?_
            refine pm_bipush (v := 6) hG dX1_winsDespite_54 (by decide) ?_
            refine pm_icmp_lt (tgt := 61) hG dX1_winsDespite_56 rfl (fun c8 => ?_) (fun c8 => ?_)
            · replace hE := fx_t c8 hE
              refine pm_aloadn hG dX1_winsDespite_61 rfl ?_
              refine pm_getf hG dX1_winsDespite_62 (flX1_15 _ rfl) rfl rfl ?_
              refine pm_iloadn hG dX1_winsDespite_65 rfl ?_
              refine pm_dup2 hG dX1_winsDespite_66 rfl rfl ?_
              refine fx_iald hG dX1_winsDespite_67 rfl hj5 ?_
              refine pm_iconst (v := 1) hG dX1_winsDespite_68 (by decide) ?_
              refine pm_isub hG dX1_winsDespite_69 ?_
              refine fx_iast hG dX1_winsDespite_70 rfl hj5 ?_
              refine ca_41 ?_
              refine fx_letc hE (fun S9 hE => ?_)
              refine pm_aloadn hG dX1_winsDespite_71 rfl ?_
              refine pm_getf hG dX1_winsDespite_72 (flX1_15 _ rfl) rfl rfl ?_
              refine pm_iloadn hG dX1_winsDespite_75 rfl ?_
              refine pm_dup2 hG dX1_winsDespite_76 rfl rfl ?_
              refine fx_iald hG dX1_winsDespite_77 rfl hj7 ?_
              refine pm_iconst (v := 1) hG dX1_winsDespite_78 (by decide) ?_
              refine pm_iadd hG dX1_winsDespite_79 ?_
              refine fx_iast hG dX1_winsDespite_80 rfl hj7 ?_
              refine ca_41 ?_
              refine fx_letc hE (fun S10 hE => ?_)
              refine pm_aloadn hG dX1_winsDespite_81 rfl ?_
              refine pm_iloadn hG dX1_winsDespite_82 rfl ?_
              refine pm_iloadi hG dX1_winsDespite_83 rfl ?_
              refine pm_iloadi hG dX1_winsDespite_85 rfl ?_
              obtain ⟨r12, h11, hE⟩ := fb_some hE
              refine pm_callV (As := [.int 1, .int zd, .int ze]) (rest := []) hG hR dX1_winsDespite_87 (lkX1_44 _ rfl) okV_X1_winsWithin rfl rfl (c_X1_winsWithin_k1 (d := 5) (by decide) h11) rfl rfl hdd (Nat.le_refl _) (Nat.le_refl _) (by decide) (fx_ki ?_)
              refine pm_istoreXi (loc' := [some (.ref (B + 40)), some (.int za), some (.int zb), some (.int 1), some (.int zd), some (.int ze), some (.int 1), some (.int r12.1)]) hG dX1_winsDespite_90 (by decide) (pm_c1b rfl) rfl ?_
              refine pm_aloadn hG dX1_winsDespite_92 rfl ?_
              refine pm_getf hG dX1_winsDespite_93 (flX1_15 _ rfl) rfl rfl ?_
              refine pm_iloadn hG dX1_winsDespite_96 rfl ?_
              refine pm_dup2 hG dX1_winsDespite_97 rfl rfl ?_
              refine fx_iald hG dX1_winsDespite_98 rfl hj5 ?_
              refine pm_iconst (v := 1) hG dX1_winsDespite_99 (by decide) ?_
              refine pm_iadd hG dX1_winsDespite_100 ?_
              refine fx_iast hG dX1_winsDespite_101 rfl hj5 ?_
              refine ca_41 ?_
              refine fx_letc hE (fun S13 hE => ?_)
              refine pm_aloadn hG dX1_winsDespite_102 rfl ?_
              refine pm_getf hG dX1_winsDespite_103 (flX1_15 _ rfl) rfl rfl ?_
              refine pm_iloadn hG dX1_winsDespite_106 rfl ?_
              refine pm_dup2 hG dX1_winsDespite_107 rfl rfl ?_
              refine fx_iald hG dX1_winsDespite_108 rfl hj7 ?_
              refine pm_iconst (v := 1) hG dX1_winsDespite_109 (by decide) ?_
              refine pm_isub hG dX1_winsDespite_110 ?_
              refine fx_iast hG dX1_winsDespite_111 rfl hj7 ?_
              refine ca_41 ?_
              refine fx_letc hE (fun S14 hE => ?_)
              refine pm_iloadi hG dX1_winsDespite_112 rfl ?_
              obtain ⟨b15, hb15, hE⟩ := fb_some hE
              exact pm_zret hG hF dX1_winsDespite_114 rfl (bz_n hb15) (Nat.le_refl _) (Nat.le_refl _) (fx_rbc hb15 hE)
            · replace hE := fx_f c8 hE
              refine pm_iconst (v := 1) hG dX1_winsDespite_59 (by decide) ?_
              exact pm_zret hG hF dX1_winsDespite_60 rfl (by rfl) (Nat.le_refl _) (Nat.le_refl _) (fx_ric hE)

set_option maxRecDepth 100000 in
set_option maxHeartbeats 4000000 in
theorem c_X1_winsWhatever_k1 {d : Nat} {B cnt : Nat} {kp : Value} {ρ : pm_S} {S : FS} {zb : Int32} {zc : Int32} {R : Int32 × FS} (hdd : 7 ≤ d) (hE : f_X1_winsWhatever_k1 S zb zc = some R) : pm_met mX1_winsWhatever d 0 0 B [.ref (B + 40), .int 1, .int zb, .int zc] cnt (cst B kp S ρ) (pm_Qi (fun v σ' cnt' => v = R.1 ∧ σ' = (cst B kp R.2 ρ) ∧ cnt' = cnt)) := by
  refine pm_enter 2 (by decide) (Nat.le_of_ble_eq_true rfl) rfl (fun G hG hR hF => ?_)
  unfold f_X1_winsWhatever_k1 at hE
  refine pm_aloadn hG dX1_winsWhatever_0 rfl ?_
  refine pm_iloadn hG dX1_winsWhatever_1 rfl ?_
  refine pm_iloadn hG dX1_winsWhatever_2 rfl ?_
  refine pm_iloadn hG dX1_winsWhatever_3 rfl ?_
  obtain ⟨r2, h1, hE⟩ := fb_some hE
  refine pm_callV (As := [.int 1, .int zb, .int zc]) (rest := []) hG hR dX1_winsWhatever_4 (lkX1_44 _ rfl) okV_X1_winsWithin rfl rfl (c_X1_winsWithin_k1 (d := 6) (by decide) h1) rfl rfl hdd (Nat.le_refl _) (Nat.le_refl _) (by decide) (fx_ki ?_)
  refine pm_istoreXi (loc' := [some (.ref (B + 40)), some (.int 1), some (.int zb), some (.int zc), some (.int r2.1), none]) hG dX1_winsWhatever_7 (by decide) (pm_c1b rfl) rfl ?_
  refine pm_iconst (v := 0) hG dX1_winsWhatever_9 (by decide) ?_
  refine pm_iloadn hG dX1_winsWhatever_10 rfl ?_
  refine pm_mmax hG hR dX1_winsWhatever_11 (mmX1_47 _ rfl) pm_mwmax (by omega) (by first | decide | exact Nat.le_of_ble_eq_true rfl) (Nat.le_refl _) (Nat.le_refl _) ?_
  refine pm_top (v := imax 0 zb) rfl ?_
  refine fx_letv hE (fun x3 hE => ?_)
  refine pm_istoreXi (loc' := [some (.ref (B + 40)), some (.int 1), some (.int zb), some (.int zc), some (.int r2.1), some (.int x3)]) hG dX1_winsWhatever_14 (by decide) (pm_c1b rfl) rfl ?_
  have loop16 : ∀ (k16 : FS → Int32 → Int32 → Option (Int32 × FS)), (∀ (S4 : FS) (x4_4 : Int32) (x4_5 : Int32), k16 S4  x4_4 x4_5 = some R → pm_wp mX1_winsWhatever G B 78 [some (.ref (B + 40)), some (.int 1), some (.int zb), some (.int zc), some (.int x4_4), some (.int x4_5)] [] 0 0 cnt (cst B kp S4 ρ)) → ∀ (m16 : Nat) (S4 : FS) (x4_4 : Int32) (x4_5 : Int32), l_X1_winsWhatever_k1_16 zb zc k16 m16 S4  x4_4 x4_5 = some R → pm_wp mX1_winsWhatever G B 16 [some (.ref (B + 40)), some (.int 1), some (.int zb), some (.int zc), some (.int x4_4), some (.int x4_5)] [] 0 0 cnt (cst B kp S4 ρ) := by
    intro k16 hk16 m16
    induction m16 with
    | zero => intro S4  x4_4 x4_5 hE; exact fx_no hE
    | succ m16 ih16 =>
      intro S4  x4_4 x4_5 hE
      rw [l_X1_winsWhatever_k1_16] at hE
      refine pm_iloadi hG dX1_winsWhatever_16 rfl ?_
      refine pm_aloadn hG dX1_winsWhatever_18 rfl ?_
      refine pm_getf hG dX1_winsWhatever_19 (flX1_15 _ rfl) rfl rfl ?_
      refine pm_alen (v := 5) hG dX1_winsWhatever_22 rfl (by decide) ?_
      refine pm_iconst (v := 1) hG dX1_winsWhatever_23 (by decide) ?_
      refine pm_isub hG dX1_winsWhatever_24 ?_
      refine pm_top (v := 4) (by decide) ?_
      refine pm_icmp_ge (tgt := 78) hG dX1_winsWhatever_25 rfl (fun c5 => ?_) (fun c5 => ?_)
      · replace c5 := Int32.not_lt.mpr c5
        replace hE := fx_f c5 hE
        exact hk16 _ _ _ hE
      · replace c5 := Int32.not_le.mp c5
        replace hE := fx_t c5 hE
        refine pm_iloadi hG dX1_winsWhatever_28 rfl ?_
        refine pm_if_eq (tgt := 78) hG dX1_winsWhatever_30 rfl (fun c6 => ?_) (fun c6 => ?_)
        · replace hE := fx_t c6 hE
          exact hk16 _ _ _ hE
        · replace hE := fx_f c6 hE
          refine pm_aloadn hG dX1_winsWhatever_33 rfl ?_
          refine pm_iloadi hG dX1_winsWhatever_34 rfl ?_
          refine pm_iloadi hG dX1_winsWhatever_36 rfl ?_
          refine pm_iconst (v := 1) hG dX1_winsWhatever_38 (by decide) ?_
          refine pm_iadd hG dX1_winsWhatever_39 ?_
          refine pm_iloadn hG dX1_winsWhatever_40 rfl ?_
          refine pm_iloadn hG dX1_winsWhatever_41 rfl ?_
          refine pm_iloadn hG dX1_winsWhatever_42 rfl ?_
          obtain ⟨r8, h7, hE⟩ := fb_some hE
          refine pm_callV (As := [.int x4_5, .int (x4_5 + 1), .int 1, .int zb, .int zc]) (rest := []) hG hR dX1_winsWhatever_43 (lkX1_52 _ rfl) okV_X1_winsDespite rfl rfl (c_X1_winsDespite_k1 (d := 6) (by decide) h7) rfl rfl hdd (Nat.le_refl _) (Nat.le_refl _) (by decide) (fx_ki ?_)
          refine pm_if_eq (tgt := 69) hG dX1_winsWhatever_46 rfl (fun c9 => ?_) (fun c9 => ?_)
          · replace hE := fx_t c9 hE
            refine pm_iconst (v := 0) hG dX1_winsWhatever_69 (by decide) ?_
            refine pm_istoreXi (loc' := [some (.ref (B + 40)), some (.int 1), some (.int zb), some (.int zc), some (.int 0), some (.int x4_5)]) hG dX1_winsWhatever_70 (by decide) (pm_c1b rfl) rfl ?_
            refine pm_iincX (v := x4_5 + 1) (loc' := [some (.ref (B + 40)), some (.int 1), some (.int zb), some (.int zc), some (.int 0), some (.int (x4_5 + 1))]) hG dX1_winsWhatever_72 rfl (by rfl) (by decide) (pm_c1b rfl) rfl ?_
            refine pm_goto (tgt := 16) hG dX1_winsWhatever_75 rfl ?_
            exact ih16 _ _ _ hE
          · replace hE := fx_f c9 hE
            refine pm_aloadn hG dX1_winsWhatever_49 rfl ?_
            refine pm_iloadi hG dX1_winsWhatever_50 rfl ?_
            refine pm_iconst (v := 1) hG dX1_winsWhatever_52 (by decide) ?_
            refine pm_iadd hG dX1_winsWhatever_53 ?_
            refine pm_iloadi hG dX1_winsWhatever_54 rfl ?_
            refine pm_iloadn hG dX1_winsWhatever_56 rfl ?_
            refine pm_iloadn hG dX1_winsWhatever_57 rfl ?_
            refine pm_iloadn hG dX1_winsWhatever_58 rfl ?_
            obtain ⟨r11, h10, hE⟩ := fb_some hE
            refine pm_callV (As := [.int (x4_5 + 1), .int x4_5, .int 1, .int zb, .int zc]) (rest := []) hG hR dX1_winsWhatever_59 (lkX1_52 _ rfl) okV_X1_winsDespite rfl rfl (c_X1_winsDespite_k1 (d := 6) (by decide) h10) rfl rfl hdd (Nat.le_refl _) (Nat.le_refl _) (by decide) (fx_ki ?_)
            refine pm_if_eq (tgt := 69) hG dX1_winsWhatever_62 rfl (fun c12 => ?_) (fun c12 => ?_)
            · replace hE := fx_t c12 hE
              refine pm_iconst (v := 0) hG dX1_winsWhatever_69 (by decide) ?_
              refine pm_istoreXi (loc' := [some (.ref (B + 40)), some (.int 1), some (.int zb), some (.int zc), some (.int 0), some (.int x4_5)]) hG dX1_winsWhatever_70 (by decide) (pm_c1b rfl) rfl ?_
              refine pm_iincX (v := x4_5 + 1) (loc' := [some (.ref (B + 40)), some (.int 1), some (.int zb), some (.int zc), some (.int 0), some (.int (x4_5 + 1))]) hG dX1_winsWhatever_72 rfl (by rfl) (by decide) (pm_c1b rfl) rfl ?_
              refine pm_goto (tgt := 16) hG dX1_winsWhatever_75 rfl ?_
              exact ih16 _ _ _ hE
            · replace hE := fx_f c12 hE
              refine pm_iconst (v := 1) hG dX1_winsWhatever_65 (by decide) ?_
              refine pm_goto (tgt := 70) hG dX1_winsWhatever_66 rfl ?_
              refine pm_istoreXi (loc' := [some (.ref (B + 40)), some (.int 1), some (.int zb), some (.int zc), some (.int 1), some (.int x4_5)]) hG dX1_winsWhatever_70 (by decide) (pm_c1b rfl) rfl ?_
              refine pm_iincX (v := x4_5 + 1) (loc' := [some (.ref (B + 40)), some (.int 1), some (.int zb), some (.int zc), some (.int 1), some (.int (x4_5 + 1))]) hG dX1_winsWhatever_72 rfl (by rfl) (by decide) (pm_c1b rfl) rfl ?_
              refine pm_goto (tgt := 16) hG dX1_winsWhatever_75 rfl ?_
              exact ih16 _ _ _ hE
  refine loop16 _ (fun S13 x13_4 x13_5 hE => ?_) _ _ _ _ hE
  refine pm_iloadi hG dX1_winsWhatever_78 rfl ?_
  obtain ⟨b14, hb14, hE⟩ := fb_some hE
  exact pm_zret hG hF dX1_winsWhatever_80 rfl (bz_n hb14) (Nat.le_refl _) (Nat.le_refl _) (fx_rbc hb14 hE)

set_option maxRecDepth 100000 in
set_option maxHeartbeats 4000000 in
theorem c_X1_winsByTaking_k2 {d : Nat} {B cnt : Nat} {kp : Value} {ρ : pm_S} {S : FS} {zb : Int32} {zc : Int32} {R : Int32 × FS} (hdd : 8 ≤ d) (hE : f_X1_winsByTaking_k2 S zb zc = some R) : pm_met mX1_winsByTaking d 0 0 B [.ref (B + 40), .int 2, .int zb, .int zc] cnt (cst B kp S ρ) (pm_Qi (fun v σ' cnt' => v = R.1 ∧ σ' = (cst B kp R.2 ρ) ∧ cnt' = cnt)) := by
  refine pm_enter 0 (by decide) (Nat.le_of_ble_eq_true rfl) rfl (fun G hG hR hF => ?_)
  unfold f_X1_winsByTaking_k2 at hE
  refine pm_iloadn hG dX1_winsByTaking_0 rfl ?_
  refine pm_if_lt (tgt := 23) hG dX1_winsByTaking_1 rfl (fun c1 => ?_) (fun c1 => ?_)
  · replace hE := fx_t c1 hE
    refine pm_iconst (v := 0) hG dX1_winsByTaking_23 (by decide) ?_
    exact pm_zret hG hF dX1_winsByTaking_24 rfl (by rfl) (Nat.le_refl _) (Nat.le_refl _) (fx_ric hE)
  · replace hE := fx_f c1 hE
    refine pm_iloadn hG dX1_winsByTaking_4 rfl ?_
    refine pm_aloadn hG dX1_winsByTaking_5 rfl ?_
    refine pm_getf hG dX1_winsByTaking_6 (flX1_15 _ rfl) rfl rfl ?_
    refine pm_alen (v := 5) hG dX1_winsByTaking_9 rfl (by decide) ?_
    refine pm_icmp_ge (tgt := 23) hG dX1_winsByTaking_10 rfl (fun c2 => ?_) (fun c2 => ?_)
    · replace c2 := Int32.not_lt.mpr c2
      replace hE := fx_f c2 hE
      refine pm_iconst (v := 0) hG dX1_winsByTaking_23 (by decide) ?_
      exact pm_zret hG hF dX1_winsByTaking_24 rfl (by rfl) (Nat.le_refl _) (Nat.le_refl _) (fx_ric hE)
    · replace c2 := Int32.not_le.mp c2
      replace hE := fx_t c2 hE
      refine pm_iloadn hG dX1_winsByTaking_13 rfl ?_
      refine pm_aloadn hG dX1_winsByTaking_14 rfl ?_
      refine pm_getf hG dX1_winsByTaking_15 (flX1_15 _ rfl) rfl rfl ?_
      refine pm_iloadn hG dX1_winsByTaking_18 rfl ?_
      obtain ⟨j3, hj3, hE⟩ := fb_some hE
      refine fx_iald hG dX1_winsByTaking_19 rfl hj3 ?_
      refine pm_icmp_gt (tgt := 25) hG dX1_winsByTaking_20 rfl (fun c4 => ?_) (fun c4 => ?_)
      · replace hE := fx_t c4 hE
        refine pm_iloadn hG dX1_winsByTaking_25 rfl ?_
        refine pm_aloadn hG dX1_winsByTaking_26 rfl ?_
        refine pm_getf hG dX1_winsByTaking_27 (flX1_19 _ rfl) rfl rfl ?_
        refine pm_icmp_eq (tgt := 54) hG dX1_winsByTaking_30 rfl (fun c5 => ?_) (fun c5 => ?_)
        · replace hE := fx_t c5 hE
          refine pm_iconst (v := 1) hG dX1_winsByTaking_54 (by decide) ?_
          refine pm_goto (tgt := 59) hG dX1_winsByTaking_55 rfl ?_
          exact pm_zret hG hF dX1_winsByTaking_59 rfl (by rfl) (Nat.le_refl _) (Nat.le_refl _) (fx_ric hE)
        · replace hE := fx_f c5 hE
          refine pm_aloadn hG dX1_winsByTaking_33 rfl ?_
          refine pm_iloadn hG dX1_winsByTaking_34 rfl ?_
          refine pm_iconst (v := 1) hG dX1_winsByTaking_35 (by decide) ?_
          refine pm_isub hG dX1_winsByTaking_36 ?_
          refine pm_top (v := 1) (by decide) ?_
          refine pm_iloadn hG dX1_winsByTaking_37 rfl ?_
          refine pm_iconst (v := 1) hG dX1_winsByTaking_38 (by decide) ?_
          refine pm_iadd hG dX1_winsByTaking_39 ?_
          refine pm_iloadn hG dX1_winsByTaking_40 rfl ?_
          refine pm_aloadn hG dX1_winsByTaking_41 rfl ?_
          refine pm_getf hG dX1_winsByTaking_42 (flX1_15 _ rfl) rfl rfl ?_
          refine pm_iloadn hG dX1_winsByTaking_45 rfl ?_
          refine fx_iald hG dX1_winsByTaking_46 rfl hj3 ?_
          refine pm_isub hG dX1_winsByTaking_47 ?_
          obtain ⟨r7, h6, hE⟩ := fb_some hE
          refine pm_callV (As := [.int 1, .int (zb + 1), .int (zc - (S.2 41 j3))]) (rest := []) hG hR dX1_winsByTaking_48 (lkX1_41 _ rfl) okV_X1_winsWhatever rfl rfl (c_X1_winsWhatever_k1 (d := 7) (by decide) h6) rfl rfl hdd (Nat.le_refl _) (Nat.le_refl _) (by decide) (fx_ki ?_)
          refine pm_if_eq (tgt := 58) hG dX1_winsByTaking_51 rfl (fun c8 => ?_) (fun c8 => ?_)
          · replace hE := fx_t c8 hE
            refine pm_iconst (v := 0) hG dX1_winsByTaking_58 (by decide) ?_
            exact pm_zret hG hF dX1_winsByTaking_59 rfl (by rfl) (Nat.le_refl _) (Nat.le_refl _) (fx_ric hE)
          · replace hE := fx_f c8 hE
            refine pm_iconst (v := 1) hG dX1_winsByTaking_54 (by decide) ?_
            refine pm_goto (tgt := 59) hG dX1_winsByTaking_55 rfl ?_
            exact pm_zret hG hF dX1_winsByTaking_59 rfl (by rfl) (Nat.le_refl _) (Nat.le_refl _) (fx_ric hE)
      · replace hE := fx_f c4 hE
        refine pm_iconst (v := 0) hG dX1_winsByTaking_23 (by decide) ?_
        exact pm_zret hG hF dX1_winsByTaking_24 rfl (by rfl) (Nat.le_refl _) (Nat.le_refl _) (fx_ric hE)

set_option maxRecDepth 100000 in
set_option maxHeartbeats 4000000 in
theorem c_X1_winsByWaiting_k2 {d : Nat} {B cnt : Nat} {kp : Value} {ρ : pm_S} {S : FS} {zb : Int32} {zc : Int32} {R : Int32 × FS} (hdd : 8 ≤ d) (hE : f_X1_winsByWaiting_k2 S zb zc = some R) : pm_met mX1_winsByWaiting d 0 0 B [.ref (B + 40), .int 2, .int zb, .int zc] cnt (cst B kp S ρ) (pm_Qi (fun v σ' cnt' => v = R.1 ∧ σ' = (cst B kp R.2 ρ) ∧ cnt' = cnt)) := by
  refine pm_enter 0 (by decide) (Nat.le_of_ble_eq_true rfl) rfl (fun G hG hR hF => ?_)
  unfold f_X1_winsByWaiting_k2 at hE
  refine pm_aloadn hG dX1_winsByWaiting_0 rfl ?_
  refine pm_iloadn hG dX1_winsByWaiting_1 rfl ?_
  refine pm_iconst (v := 1) hG dX1_winsByWaiting_2 (by decide) ?_
  refine pm_isub hG dX1_winsByWaiting_3 ?_
  refine pm_top (v := 1) (by decide) ?_
  refine pm_iloadn hG dX1_winsByWaiting_4 rfl ?_
  refine pm_iloadn hG dX1_winsByWaiting_5 rfl ?_
  obtain ⟨r2, h1, hE⟩ := fb_some hE
  refine pm_callV (As := [.int 1, .int zb, .int zc]) (rest := []) hG hR dX1_winsByWaiting_6 (lkX1_41 _ rfl) okV_X1_winsWhatever rfl rfl (c_X1_winsWhatever_k1 (d := 7) (by decide) h1) rfl rfl hdd (Nat.le_refl _) (Nat.le_refl _) (by decide) (fx_ki ?_)
  obtain ⟨b3, hb3, hE⟩ := fb_some hE
  exact pm_zret hG hF dX1_winsByWaiting_9 rfl (bz_n hb3) (Nat.le_refl _) (Nat.le_refl _) (fx_rbc hb3 hE)

set_option maxRecDepth 100000 in
set_option maxHeartbeats 4000000 in
theorem c_X1_winsWithin_k2 {d : Nat} {B cnt : Nat} {kp : Value} {ρ : pm_S} {S : FS} {zb : Int32} {zc : Int32} {R : Int32 × FS} (hdd : 9 ≤ d) (hE : f_X1_winsWithin_k2 S zb zc = some R) : pm_met mX1_winsWithin d 0 0 B [.ref (B + 40), .int 2, .int zb, .int zc] cnt (cst B kp S ρ) (pm_Qi (fun v σ' cnt' => v = R.1 ∧ σ' = (cst B kp R.2 ρ) ∧ cnt' = cnt)) := by
  refine pm_enter 0 (by decide) (Nat.le_of_ble_eq_true rfl) rfl (fun G hG hR hF => ?_)
  unfold f_X1_winsWithin_k2 at hE
  refine pm_iloadn hG dX1_winsWithin_0 rfl ?_
  refine pm_if_le (tgt := 28) hG dX1_winsWithin_1 rfl (fun q => absurd q (by decide)) (fun _ => ?_)
  refine pm_aloadn hG dX1_winsWithin_4 rfl ?_
  refine pm_iloadn hG dX1_winsWithin_5 rfl ?_
  refine pm_iloadn hG dX1_winsWithin_6 rfl ?_
  refine pm_iloadn hG dX1_winsWithin_7 rfl ?_
  obtain ⟨r2, h1, hE⟩ := fb_some hE
  refine pm_callV (As := [.int 2, .int zb, .int zc]) (rest := []) hG hR dX1_winsWithin_8 (lkX1_34 _ rfl) okV_X1_winsByTaking rfl rfl (c_X1_winsByTaking_k2 (d := 8) (by decide) h1) rfl rfl hdd (Nat.le_refl _) (Nat.le_refl _) (by decide) (fx_ki ?_)
  refine pm_if_ne (tgt := 24) hG dX1_winsWithin_11 rfl (fun c3 => ?_) (fun c3 => ?_)
  · replace hE := fx_f c3 hE
    refine pm_iconst (v := 1) hG dX1_winsWithin_24 (by decide) ?_
    refine pm_goto (tgt := 29) hG dX1_winsWithin_25 rfl ?_
    exact pm_zret hG hF dX1_winsWithin_29 rfl (by rfl) (Nat.le_refl _) (Nat.le_refl _) (fx_ric hE)
  · replace hE := fx_t c3 hE
    refine pm_aloadn hG dX1_winsWithin_14 rfl ?_
    refine pm_iloadn hG dX1_winsWithin_15 rfl ?_
    refine pm_iloadn hG dX1_winsWithin_16 rfl ?_
    refine pm_iloadn hG dX1_winsWithin_17 rfl ?_
    obtain ⟨r5, h4, hE⟩ := fb_some hE
    refine pm_callV (As := [.int 2, .int zb, .int zc]) (rest := []) hG hR dX1_winsWithin_18 (lkX1_38 _ rfl) okV_X1_winsByWaiting rfl rfl (c_X1_winsByWaiting_k2 (d := 8) (by decide) h4) rfl rfl hdd (Nat.le_refl _) (Nat.le_refl _) (by decide) (fx_ki ?_)
    refine pm_if_eq (tgt := 28) hG dX1_winsWithin_21 rfl (fun c6 => ?_) (fun c6 => ?_)
    · replace hE := fx_t c6 hE
      refine pm_iconst (v := 0) hG dX1_winsWithin_28 (by decide) ?_
      exact pm_zret hG hF dX1_winsWithin_29 rfl (by rfl) (Nat.le_refl _) (Nat.le_refl _) (fx_ric hE)
    · replace hE := fx_f c6 hE
      refine pm_iconst (v := 1) hG dX1_winsWithin_24 (by decide) ?_
      refine pm_goto (tgt := 29) hG dX1_winsWithin_25 rfl ?_
      exact pm_zret hG hF dX1_winsWithin_29 rfl (by rfl) (Nat.le_refl _) (Nat.le_refl _) (fx_ric hE)

set_option maxRecDepth 100000 in
set_option maxHeartbeats 4000000 in
theorem c_X1_winsDespite_k2 {d : Nat} {B cnt : Nat} {kp : Value} {ρ : pm_S} {S : FS} {za : Int32} {zb : Int32} {zd : Int32} {ze : Int32} {R : Int32 × FS} (hdd : 10 ≤ d) (hE : f_X1_winsDespite_k2 S za zb zd ze = some R) : pm_met mX1_winsDespite d 0 0 B [.ref (B + 40), .int za, .int zb, .int 2, .int zd, .int ze] cnt (cst B kp S ρ) (pm_Qi (fun v σ' cnt' => v = R.1 ∧ σ' = (cst B kp R.2 ρ) ∧ cnt' = cnt)) := by
  refine pm_enter 2 (by decide) (Nat.le_of_ble_eq_true rfl) rfl (fun G hG hR hF => ?_)
  unfold f_X1_winsDespite_k2 at hE
  refine pm_iloadn hG dX1_winsDespite_0 rfl ?_
  refine pm_if_lt (tgt := 30) hG dX1_winsDespite_1 rfl (fun c1 => ?_) (fun c1 => ?_)
  · replace hE := fx_t c1 hE
    refine pm_iconst (v := 0) hG dX1_winsDespite_30 (by decide) ?_
    refine pm_istoreXi (loc' := [some (.ref (B + 40)), some (.int za), some (.int zb), some (.int 2), some (.int zd), some (.int ze), some (.int 0), none]) hG dX1_winsDespite_31 (by decide) (pm_c1b rfl) rfl ?_
    refine pm_iloadi hG dX1_winsDespite_33 rfl ?_
    refine pm_if_eq (tgt := 59) hG dX1_winsDespite_35 rfl (fun _ => ?_) (fun q => absurd q (by decide))
    refine pm_iconst (v := 1) hG dX1_winsDespite_59 (by decide) ?_
    exact pm_zret hG hF dX1_winsDespite_60 rfl (by rfl) (Nat.le_refl _) (Nat.le_refl _) (fx_ric hE)
  · replace hE := fx_f c1 hE
    refine pm_iloadn hG dX1_winsDespite_4 rfl ?_
    refine pm_aloadn hG dX1_winsDespite_5 rfl ?_
    refine pm_getf hG dX1_winsDespite_6 (flX1_15 _ rfl) rfl rfl ?_
    refine pm_alen (v := 5) hG dX1_winsDespite_9 rfl (by decide) ?_
    refine pm_icmp_ge (tgt := 30) hG dX1_winsDespite_10 rfl (fun c2 => ?_) (fun c2 => ?_)
    · replace c2 := Int32.not_lt.mpr c2
      replace hE := fx_f c2 hE
      refine pm_iconst (v := 0) hG dX1_winsDespite_30 (by decide) ?_
      refine pm_istoreXi (loc' := [some (.ref (B + 40)), some (.int za), some (.int zb), some (.int 2), some (.int zd), some (.int ze), some (.int 0), none]) hG dX1_winsDespite_31 (by decide) (pm_c1b rfl) rfl ?_
      refine pm_iloadi hG dX1_winsDespite_33 rfl ?_
      refine pm_if_eq (tgt := 59) hG dX1_winsDespite_35 rfl (fun _ => ?_) (fun q => absurd q (by decide))
      refine pm_iconst (v := 1) hG dX1_winsDespite_59 (by decide) ?_
      exact pm_zret hG hF dX1_winsDespite_60 rfl (by rfl) (Nat.le_refl _) (Nat.le_refl _) (fx_ric hE)
    · replace c2 := Int32.not_le.mp c2
      replace hE := fx_t c2 hE
      refine pm_iloadn hG dX1_winsDespite_13 rfl ?_
      refine pm_if_lt (tgt := 30) hG dX1_winsDespite_14 rfl (fun c3 => ?_) (fun c3 => ?_)
      · replace hE := fx_t c3 hE
        refine pm_iconst (v := 0) hG dX1_winsDespite_30 (by decide) ?_
        refine pm_istoreXi (loc' := [some (.ref (B + 40)), some (.int za), some (.int zb), some (.int 2), some (.int zd), some (.int ze), some (.int 0), none]) hG dX1_winsDespite_31 (by decide) (pm_c1b rfl) rfl ?_
        refine pm_iloadi hG dX1_winsDespite_33 rfl ?_
        refine pm_if_eq (tgt := 59) hG dX1_winsDespite_35 rfl (fun _ => ?_) (fun q => absurd q (by decide))
        refine pm_iconst (v := 1) hG dX1_winsDespite_59 (by decide) ?_
        exact pm_zret hG hF dX1_winsDespite_60 rfl (by rfl) (Nat.le_refl _) (Nat.le_refl _) (fx_ric hE)
      · replace hE := fx_f c3 hE
        refine pm_iloadn hG dX1_winsDespite_17 rfl ?_
        refine pm_aloadn hG dX1_winsDespite_18 rfl ?_
        refine pm_getf hG dX1_winsDespite_19 (flX1_15 _ rfl) rfl rfl ?_
        refine pm_alen (v := 5) hG dX1_winsDespite_22 rfl (by decide) ?_
        refine pm_icmp_ge (tgt := 30) hG dX1_winsDespite_23 rfl (fun c4 => ?_) (fun c4 => ?_)
        · replace c4 := Int32.not_lt.mpr c4
          replace hE := fx_f c4 hE
          refine pm_iconst (v := 0) hG dX1_winsDespite_30 (by decide) ?_
          refine pm_istoreXi (loc' := [some (.ref (B + 40)), some (.int za), some (.int zb), some (.int 2), some (.int zd), some (.int ze), some (.int 0), none]) hG dX1_winsDespite_31 (by decide) (pm_c1b rfl) rfl ?_
          refine pm_iloadi hG dX1_winsDespite_33 rfl ?_
          refine pm_if_eq (tgt := 59) hG dX1_winsDespite_35 rfl (fun _ => ?_) (fun q => absurd q (by decide))
          refine pm_iconst (v := 1) hG dX1_winsDespite_59 (by decide) ?_
          exact pm_zret hG hF dX1_winsDespite_60 rfl (by rfl) (Nat.le_refl _) (Nat.le_refl _) (fx_ric hE)
        · replace c4 := Int32.not_le.mp c4
          replace hE := fx_t c4 hE
          refine pm_iconst (v := 1) hG dX1_winsDespite_26 (by decide) ?_
          refine pm_goto (tgt := 31) hG dX1_winsDespite_27 rfl ?_
          refine pm_istoreXi (loc' := [some (.ref (B + 40)), some (.int za), some (.int zb), some (.int 2), some (.int zd), some (.int ze), some (.int 1), none]) hG dX1_winsDespite_31 (by decide) (pm_c1b rfl) rfl ?_
          refine pm_iloadi hG dX1_winsDespite_33 rfl ?_
          refine pm_if_eq (tgt := 59) hG dX1_winsDespite_35 rfl (fun q => absurd q (by decide)) (fun _ => ?_)
          refine pm_aloadn hG dX1_winsDespite_38 rfl ?_
          refine pm_getf hG dX1_winsDespite_39 (flX1_15 _ rfl) rfl rfl ?_
          refine pm_iloadn hG dX1_winsDespite_42 rfl ?_
          obtain ⟨j5, hj5, hE⟩ := fb_some hE
          refine fx_iald hG dX1_winsDespite_43 rfl hj5 ?_
          refine pm_iconst (v := 1) hG dX1_winsDespite_44 (by decide) ?_
          refine pm_icmp_lt (tgt := 59) hG dX1_winsDespite_45 rfl (fun c6 => ?_) (fun c6 => ?_)
          · replace hE := fx_t c6 hE
            refine pm_iconst (v := 1) hG dX1_winsDespite_59 (by decide) ?_
            exact pm_zret hG hF dX1_winsDespite_60 rfl (by rfl) (Nat.le_refl _) (Nat.le_refl _) (fx_ric hE)
          · replace hE := fx_f c6 hE
            refine pm_aloadn hG dX1_winsDespite_48 rfl ?_
            refine pm_getf hG dX1_winsDespite_49 (flX1_15 _ rfl) rfl rfl ?_
            refine pm_iloadn hG dX1_winsDespite_52 rfl ?_
            obtain ⟨j7, hj7, hE⟩ := fb_some hE
            refine fx_iald hG dX1_winsDespite_53 rfl hj7 ?_
            refine pm_bipush (v := 6) hG dX1_winsDespite_54 (by decide) ?_
            refine pm_icmp_lt (tgt := 61) hG dX1_winsDespite_56 rfl (fun c8 => ?_) (fun c8 => ?_)
            · replace hE := fx_t c8 hE
              refine pm_aloadn hG dX1_winsDespite_61 rfl ?_
              refine pm_getf hG dX1_winsDespite_62 (flX1_15 _ rfl) rfl rfl ?_
              refine pm_iloadn hG dX1_winsDespite_65 rfl ?_
              refine pm_dup2 hG dX1_winsDespite_66 rfl rfl ?_
              refine fx_iald hG dX1_winsDespite_67 rfl hj5 ?_
              refine pm_iconst (v := 1) hG dX1_winsDespite_68 (by decide) ?_
              refine pm_isub hG dX1_winsDespite_69 ?_
              refine fx_iast hG dX1_winsDespite_70 rfl hj5 ?_
              refine ca_41 ?_
              refine fx_letc hE (fun S9 hE => ?_)
              refine pm_aloadn hG dX1_winsDespite_71 rfl ?_
              refine pm_getf hG dX1_winsDespite_72 (flX1_15 _ rfl) rfl rfl ?_
              refine pm_iloadn hG dX1_winsDespite_75 rfl ?_
              refine pm_dup2 hG dX1_winsDespite_76 rfl rfl ?_
              refine fx_iald hG dX1_winsDespite_77 rfl hj7 ?_
              refine pm_iconst (v := 1) hG dX1_winsDespite_78 (by decide) ?_
              refine pm_iadd hG dX1_winsDespite_79 ?_
              refine fx_iast hG dX1_winsDespite_80 rfl hj7 ?_
              refine ca_41 ?_
              refine fx_letc hE (fun S10 hE => ?_)
              refine pm_aloadn hG dX1_winsDespite_81 rfl ?_
              refine pm_iloadn hG dX1_winsDespite_82 rfl ?_
              refine pm_iloadi hG dX1_winsDespite_83 rfl ?_
              refine pm_iloadi hG dX1_winsDespite_85 rfl ?_
              obtain ⟨r12, h11, hE⟩ := fb_some hE
              refine pm_callV (As := [.int 2, .int zd, .int ze]) (rest := []) hG hR dX1_winsDespite_87 (lkX1_44 _ rfl) okV_X1_winsWithin rfl rfl (c_X1_winsWithin_k2 (d := 9) (by decide) h11) rfl rfl hdd (Nat.le_refl _) (Nat.le_refl _) (by decide) (fx_ki ?_)
              refine pm_istoreXi (loc' := [some (.ref (B + 40)), some (.int za), some (.int zb), some (.int 2), some (.int zd), some (.int ze), some (.int 1), some (.int r12.1)]) hG dX1_winsDespite_90 (by decide) (pm_c1b rfl) rfl ?_
              refine pm_aloadn hG dX1_winsDespite_92 rfl ?_
              refine pm_getf hG dX1_winsDespite_93 (flX1_15 _ rfl) rfl rfl ?_
              refine pm_iloadn hG dX1_winsDespite_96 rfl ?_
              refine pm_dup2 hG dX1_winsDespite_97 rfl rfl ?_
              refine fx_iald hG dX1_winsDespite_98 rfl hj5 ?_
              refine pm_iconst (v := 1) hG dX1_winsDespite_99 (by decide) ?_
              refine pm_iadd hG dX1_winsDespite_100 ?_
              refine fx_iast hG dX1_winsDespite_101 rfl hj5 ?_
              refine ca_41 ?_
              refine fx_letc hE (fun S13 hE => ?_)
              refine pm_aloadn hG dX1_winsDespite_102 rfl ?_
              refine pm_getf hG dX1_winsDespite_103 (flX1_15 _ rfl) rfl rfl ?_
              refine pm_iloadn hG dX1_winsDespite_106 rfl ?_
              refine pm_dup2 hG dX1_winsDespite_107 rfl rfl ?_
              refine fx_iald hG dX1_winsDespite_108 rfl hj7 ?_
              refine pm_iconst (v := 1) hG dX1_winsDespite_109 (by decide) ?_
              refine pm_isub hG dX1_winsDespite_110 ?_
              refine fx_iast hG dX1_winsDespite_111 rfl hj7 ?_
              refine ca_41 ?_
              refine fx_letc hE (fun S14 hE => ?_)
              refine pm_iloadi hG dX1_winsDespite_112 rfl ?_
              obtain ⟨b15, hb15, hE⟩ := fb_some hE
              exact pm_zret hG hF dX1_winsDespite_114 rfl (bz_n hb15) (Nat.le_refl _) (Nat.le_refl _) (fx_rbc hb15 hE)
            · replace hE := fx_f c8 hE
              refine pm_iconst (v := 1) hG dX1_winsDespite_59 (by decide) ?_
              exact pm_zret hG hF dX1_winsDespite_60 rfl (by rfl) (Nat.le_refl _) (Nat.le_refl _) (fx_ric hE)
end
