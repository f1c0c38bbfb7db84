set_option maxRecDepth 100000 in
set_option maxHeartbeats 4000000 in
theorem c_X6_readSum_k1 {d : Nat} {B cnt : Nat} {kp : Value} {ρ : pm_S} {S : FS} {R : Int32 × FS} (hdd : 25 ≤ d) (hE : f_X6_readSum_k1 S = some R) : pm_met mX6_readSum d 0 0 B [.ref (B + 27), .int 1] cnt (cst B kp S ρ) (pm_Qv (fun σ' cnt' => σ' = (cst B kp R.2 ρ) ∧ cnt' = cnt)) := by
  refine pm_enter 2 (by decide) (Nat.le_of_ble_eq_true rfl) rfl (fun G hG hR hF => ?_)
  unfold f_X6_readSum_k1 at hE
  refine pm_aloadn hG dX6_readSum_0 rfl ?_
  refine pm_iloadn hG dX6_readSum_1 rfl ?_
  obtain ⟨r2, h1, hE⟩ := fb_some hE
  refine pm_callV (As := [.int 1]) (rest := []) hG hR dX6_readSum_2 (lkX6_60 _ rfl) okV_X6_readPart rfl rfl (c_X6_readPart_k1 (d := 24) (by decide) h1) rfl rfl hdd (Nat.le_refl _) (Nat.le_refl _) (by decide) (fx_kv ?_)
  refine pm_iconst (v := 0) hG dX6_readSum_5 (by decide) ?_
  refine pm_istoreXn (loc' := [some (.ref (B + 27)), some (.int 1), some (.int 0), none]) hG dX6_readSum_6 (by decide) (pm_c1b rfl) rfl ?_
  have loop7 : ∀ (k7 : FS → Int32 → Option (Int32 × FS)), (∀ (S3 : FS) (x3_2 : Int32), k7 S3  x3_2 = some R → pm_wp mX6_readSum G B 78 [some (.ref (B + 27)), some (.int 1), some (.int x3_2), none] [] 0 0 cnt (cst B kp S3 ρ)) → ∀ (m7 : Nat) (S3 : FS) (x3_2 : Int32), l_X6_readSum_k1_7 k7 m7 S3  x3_2 = some R → pm_wp mX6_readSum G B 7 [some (.ref (B + 27)), some (.int 1), some (.int x3_2), none] [] 0 0 cnt (cst B kp S3 ρ) := by
    intro k7 hk7 m7
    induction m7 with
    | zero => intro S3  x3_2 hE; exact fx_no hE
    | succ m7 ih7 =>
      intro S3  x3_2 hE
      rw [l_X6_readSum_k1_7] at hE
      refine pm_iloadn hG dX6_readSum_7 rfl ?_
      refine pm_bipush (v := 60) hG dX6_readSum_8 (by decide) ?_
      refine pm_icmp_ge (tgt := 78) hG dX6_readSum_10 rfl (fun c4 => ?_) (fun c4 => ?_)
      · replace c4 := Int32.not_lt.mpr c4
        replace hE := fx_f c4 hE
        exact hk7 _ _ hE
      · replace c4 := Int32.not_le.mp c4
        replace hE := fx_t c4 hE
        refine pm_aloadn hG dX6_readSum_13 rfl ?_
        refine pm_callV (As := []) (rest := []) hG hR dX6_readSum_14 (lkX6_47 _ rfl) okV_X6_next rfl rfl (c_X6_next (d := 24) (by decide) rfl) rfl rfl hdd (Nat.le_refl _) (Nat.le_refl _) (by decide) (fx_ki ?_)
        refine pm_bipush (v := 43) hG dX6_readSum_17 (by decide) ?_
        refine pm_icmp_eq (tgt := 31) hG dX6_readSum_19 rfl (fun c5 => ?_) (fun c5 => ?_)
        · replace hE := fx_t c5 hE
          refine pm_aloadn hG dX6_readSum_31 rfl ?_
          refine pm_callV (As := []) (rest := []) hG hR dX6_readSum_32 (lkX6_47 _ rfl) okV_X6_next rfl rfl (c_X6_next (d := 24) (by decide) rfl) rfl rfl hdd (Nat.le_refl _) (Nat.le_refl _) (by decide) (fx_ki ?_)
          refine pm_bipush (v := 43) hG dX6_readSum_35 (by decide) ?_
          refine pm_icmp_ne (tgt := 45) hG dX6_readSum_37 rfl (fun q => absurd c5 q) (fun _ => ?_)
          refine pm_bipush (v := (-7)) hG dX6_readSum_40 (by decide) ?_
          refine pm_goto (tgt := 47) hG dX6_readSum_42 rfl ?_
          refine pm_istoreXn (loc' := [some (.ref (B + 27)), some (.int 1), some (.int x3_2), some (.int (-7))]) hG dX6_readSum_47 (by decide) (pm_c1b rfl) rfl ?_
          refine pm_aloadn hG dX6_readSum_48 rfl ?_
          refine pm_dup hG dX6_readSum_49 rfl ?_
          refine pm_getf hG dX6_readSum_50 (flX6_26 _ rfl) rfl rfl ?_
          refine pm_iconst (v := 1) hG dX6_readSum_53 (by decide) ?_
          refine pm_iadd hG dX6_readSum_54 ?_
          refine pm_putf hG dX6_readSum_55 (fwX6_26 _ rfl) rfl rfl rfl ?_
          refine ci_105 ?_
          refine fx_letc hE (fun S6 hE => ?_)
          refine pm_aloadn hG dX6_readSum_58 rfl ?_
          refine pm_iloadn hG dX6_readSum_59 rfl ?_
          obtain ⟨r8, h7, hE⟩ := fb_some hE
          refine pm_callV (As := [.int 1]) (rest := []) hG hR dX6_readSum_60 (lkX6_60 _ rfl) okV_X6_readPart rfl rfl (c_X6_readPart_k1 (d := 24) (by decide) h7) rfl rfl hdd (Nat.le_refl _) (Nat.le_refl _) (by decide) (fx_kv ?_)
          refine pm_aloadn hG dX6_readSum_63 rfl ?_
          refine pm_getf hG dX6_readSum_64 (flX6_20 _ rfl) rfl rfl ?_
          refine pm_iloadn hG dX6_readSum_67 rfl ?_
          obtain ⟨r10, h9, hE⟩ := fb_some hE
          refine pm_callV (As := [.int (-7)]) (rest := []) hG hR dX6_readSum_68 (lkX6_50 _ rfl) okV_X9_append rfl rfl (tappend_28 (d := 24) (by decide) h9) rfl rfl hdd (Nat.le_refl _) (Nat.le_refl _) (by decide) (fx_ki ?_)
          refine pm_pop hG dX6_readSum_71 rfl ?_
          refine pm_iincX (v := x3_2 + 1) (loc' := [some (.ref (B + 27)), some (.int 1), some (.int (x3_2 + 1)), some (.int (-7))]) hG dX6_readSum_72 rfl (by rfl) (by decide) (pm_c1b rfl) rfl ?_
          refine pm_goto (tgt := 7) hG dX6_readSum_75 rfl ?_
          refine pm_fg 3 (loc' := [some (.ref (B + 27)), some (.int 1), some (.int (x3_2 + 1)), none]) rfl ?_
          exact ih7 _ _ hE
        · replace hE := fx_f c5 hE
          refine pm_aloadn hG dX6_readSum_22 rfl ?_
          refine pm_callV (As := []) (rest := []) hG hR dX6_readSum_23 (lkX6_47 _ rfl) okV_X6_next rfl rfl (c_X6_next (d := 24) (by decide) rfl) rfl rfl hdd (Nat.le_refl _) (Nat.le_refl _) (by decide) (fx_ki ?_)
          refine pm_bipush (v := 45) hG dX6_readSum_26 (by decide) ?_
          refine pm_icmp_ne (tgt := 78) hG dX6_readSum_28 rfl (fun c11 => ?_) (fun c11 => ?_)
          · replace hE := fx_f c11 hE
            exact hk7 _ _ hE
          · replace hE := fx_t c11 hE
            refine pm_aloadn hG dX6_readSum_31 rfl ?_
            refine pm_callV (As := []) (rest := []) hG hR dX6_readSum_32 (lkX6_47 _ rfl) okV_X6_next rfl rfl (c_X6_next (d := 24) (by decide) rfl) rfl rfl hdd (Nat.le_refl _) (Nat.le_refl _) (by decide) (fx_ki ?_)
            refine pm_bipush (v := 43) hG dX6_readSum_35 (by decide) ?_
            refine pm_icmp_ne (tgt := 45) hG dX6_readSum_37 rfl (fun _ => ?_) (fun q => absurd q c5)
            refine pm_bipush (v := (-8)) hG dX6_readSum_45 (by decide) ?_
            refine pm_istoreXn (loc' := [some (.ref (B + 27)), some (.int 1), some (.int x3_2), some (.int (-8))]) hG dX6_readSum_47 (by decide) (pm_c1b rfl) rfl ?_
            refine pm_aloadn hG dX6_readSum_48 rfl ?_
            refine pm_dup hG dX6_readSum_49 rfl ?_
            refine pm_getf hG dX6_readSum_50 (flX6_26 _ rfl) rfl rfl ?_
            refine pm_iconst (v := 1) hG dX6_readSum_53 (by decide) ?_
            refine pm_iadd hG dX6_readSum_54 ?_
            refine pm_putf hG dX6_readSum_55 (fwX6_26 _ rfl) rfl rfl rfl ?_
            refine ci_105 ?_
            refine fx_letc hE (fun S12 hE => ?_)
            refine pm_aloadn hG dX6_readSum_58 rfl ?_
            refine pm_iloadn hG dX6_readSum_59 rfl ?_
            obtain ⟨r14, h13, hE⟩ := fb_some hE
            refine pm_callV (As := [.int 1]) (rest := []) hG hR dX6_readSum_60 (lkX6_60 _ rfl) okV_X6_readPart rfl rfl (c_X6_readPart_k1 (d := 24) (by decide) h13) rfl rfl hdd (Nat.le_refl _) (Nat.le_refl _) (by decide) (fx_kv ?_)
            refine pm_aloadn hG dX6_readSum_63 rfl ?_
            refine pm_getf hG dX6_readSum_64 (flX6_20 _ rfl) rfl rfl ?_
            refine pm_iloadn hG dX6_readSum_67 rfl ?_
            obtain ⟨r16, h15, hE⟩ := fb_some hE
            refine pm_callV (As := [.int (-8)]) (rest := []) hG hR dX6_readSum_68 (lkX6_50 _ rfl) okV_X9_append rfl rfl (tappend_28 (d := 24) (by decide) h15) rfl rfl hdd (Nat.le_refl _) (Nat.le_refl _) (by decide) (fx_ki ?_)
            refine pm_pop hG dX6_readSum_71 rfl ?_
            refine pm_iincX (v := x3_2 + 1) (loc' := [some (.ref (B + 27)), some (.int 1), some (.int (x3_2 + 1)), some (.int (-8))]) hG dX6_readSum_72 rfl (by rfl) (by decide) (pm_c1b rfl) rfl ?_
            refine pm_goto (tgt := 7) hG dX6_readSum_75 rfl ?_
            refine pm_fg 3 (loc' := [some (.ref (B + 27)), some (.int 1), some (.int (x3_2 + 1)), none]) rfl ?_
            exact ih7 _ _ hE
  refine loop7 _ (fun S17 x17_2 hE => ?_) _ _ _ hE
  exact pm_vret hG hF dX6_readSum_78 rfl (Nat.le_refl _) (Nat.le_refl _) (fx_rvc hE)

set_option maxRecDepth 100000 in
set_option maxHeartbeats 4000000 in
theorem c_X6_readComparison_k1 {d : Nat} {B cnt : Nat} {kp : Value} {ρ : pm_S} {S : FS} {R : Int32 × FS} (hdd : 26 ≤ d) (hE : f_X6_readComparison_k1 S = some R) : pm_met mX6_readComparison d 0 0 B [.ref (B + 27), .int 1] cnt (cst B kp S ρ) (pm_Qv (fun σ' cnt' => σ' = (cst B kp R.2 ρ) ∧ cnt' = cnt)) := by
  refine pm_enter 1 (by decide) (Nat.le_of_ble_eq_true rfl) rfl (fun G hG hR hF => ?_)
  unfold f_X6_readComparison_k1 at hE
  refine pm_aloadn hG dX6_readComparison_0 rfl ?_
  refine pm_iloadn hG dX6_readComparison_1 rfl ?_
  obtain ⟨r2, h1, hE⟩ := fb_some hE
  refine pm_callV (As := [.int 1]) (rest := []) hG hR dX6_readComparison_2 (lkX6_57 _ rfl) okV_X6_readSum rfl rfl (c_X6_readSum_k1 (d := 25) (by decide) h1) rfl rfl hdd (Nat.le_refl _) (Nat.le_refl _) (by decide) (fx_kv ?_)
  refine pm_aloadn hG dX6_readComparison_5 rfl ?_
  refine pm_callV (As := []) (rest := []) hG hR dX6_readComparison_6 (lkX6_47 _ rfl) okV_X6_next rfl rfl (c_X6_next (d := 25) (by decide) rfl) rfl rfl hdd (Nat.le_refl _) (Nat.le_refl _) (by decide) (fx_ki ?_)
  refine fx_letv hE (fun x3 hE => ?_)
  refine pm_istoreXn (loc' := [some (.ref (B + 27)), some (.int 1), some (.int x3)]) hG dX6_readComparison_9 (by decide) (pm_c1b rfl) rfl ?_
  refine pm_iloadn hG dX6_readComparison_10 rfl ?_
  refine pm_bipush (v := 60) hG dX6_readComparison_11 (by decide) ?_
  refine pm_icmp_eq (tgt := 28) hG dX6_readComparison_13 rfl (fun c4 => ?_) (fun c4 => ?_)
  · replace hE := fx_t c4 hE
    refine pm_aloadn hG dX6_readComparison_28 rfl ?_
    refine pm_dup hG dX6_readComparison_29 rfl ?_
    refine pm_getf hG dX6_readComparison_30 (flX6_26 _ rfl) rfl rfl ?_
    refine pm_iconst (v := 1) hG dX6_readComparison_33 (by decide) ?_
    refine pm_iadd hG dX6_readComparison_34 ?_
    refine pm_putf hG dX6_readComparison_35 (fwX6_26 _ rfl) rfl rfl rfl ?_
    refine ci_105 ?_
    refine fx_letc hE (fun S5 hE => ?_)
    refine pm_aloadn hG dX6_readComparison_38 rfl ?_
    refine pm_iloadn hG dX6_readComparison_39 rfl ?_
    obtain ⟨r7, h6, hE⟩ := fb_some hE
    refine pm_callV (As := [.int 1]) (rest := []) hG hR dX6_readComparison_40 (lkX6_57 _ rfl) okV_X6_readSum rfl rfl (c_X6_readSum_k1 (d := 25) (by decide) h6) rfl rfl hdd (Nat.le_refl _) (Nat.le_refl _) (by decide) (fx_kv ?_)
    refine pm_aloadn hG dX6_readComparison_43 rfl ?_
    refine pm_getf hG dX6_readComparison_44 (flX6_20 _ rfl) rfl rfl ?_
    refine pm_iloadn hG dX6_readComparison_47 rfl ?_
    refine pm_bipush (v := 60) hG dX6_readComparison_48 (by decide) ?_
    refine pm_icmp_ne (tgt := 58) hG dX6_readComparison_50 rfl (fun q => absurd c4 q) (fun _ => ?_)
    refine pm_bipush (v := (-4)) hG dX6_readComparison_53 (by decide) ?_
    refine pm_goto (tgt := 71) hG dX6_readComparison_55 rfl ?_
    obtain ⟨r9, h8, hE⟩ := fb_some hE
    refine pm_callV (As := [.int (-4)]) (rest := []) hG hR dX6_readComparison_71 (lkX6_50 _ rfl) okV_X9_append rfl rfl (tappend_28 (d := 25) (by decide) h8) rfl rfl hdd (Nat.le_refl _) (Nat.le_refl _) (by decide) (fx_ki ?_)
    refine pm_pop hG dX6_readComparison_74 rfl ?_
    exact pm_vret hG hF dX6_readComparison_75 rfl (Nat.le_refl _) (Nat.le_refl _) (fx_rvc hE)
  · replace hE := fx_f c4 hE
    refine pm_iloadn hG dX6_readComparison_16 rfl ?_
    refine pm_bipush (v := 61) hG dX6_readComparison_17 (by decide) ?_
    refine pm_icmp_eq (tgt := 28) hG dX6_readComparison_19 rfl (fun c10 => ?_) (fun c10 => ?_)
    · replace hE := fx_t c10 hE
      refine pm_aloadn hG dX6_readComparison_28 rfl ?_
      refine pm_dup hG dX6_readComparison_29 rfl ?_
      refine pm_getf hG dX6_readComparison_30 (flX6_26 _ rfl) rfl rfl ?_
      refine pm_iconst (v := 1) hG dX6_readComparison_33 (by decide) ?_
      refine pm_iadd hG dX6_readComparison_34 ?_
      refine pm_putf hG dX6_readComparison_35 (fwX6_26 _ rfl) rfl rfl rfl ?_
      refine ci_105 ?_
      refine fx_letc hE (fun S11 hE => ?_)
      refine pm_aloadn hG dX6_readComparison_38 rfl ?_
      refine pm_iloadn hG dX6_readComparison_39 rfl ?_
      obtain ⟨r13, h12, hE⟩ := fb_some hE
      refine pm_callV (As := [.int 1]) (rest := []) hG hR dX6_readComparison_40 (lkX6_57 _ rfl) okV_X6_readSum rfl rfl (c_X6_readSum_k1 (d := 25) (by decide) h12) rfl rfl hdd (Nat.le_refl _) (Nat.le_refl _) (by decide) (fx_kv ?_)
      refine pm_aloadn hG dX6_readComparison_43 rfl ?_
      refine pm_getf hG dX6_readComparison_44 (flX6_20 _ rfl) rfl rfl ?_
      refine pm_iloadn hG dX6_readComparison_47 rfl ?_
      refine pm_bipush (v := 60) hG dX6_readComparison_48 (by decide) ?_
      refine pm_icmp_ne (tgt := 58) hG dX6_readComparison_50 rfl (fun _ => ?_) (fun q => absurd q c4)
      refine pm_iloadn hG dX6_readComparison_58 rfl ?_
      refine pm_bipush (v := 61) hG dX6_readComparison_59 (by decide) ?_
      refine pm_icmp_ne (tgt := 69) hG dX6_readComparison_61 rfl (fun q => absurd c10 q) (fun _ => ?_)
      refine pm_bipush (v := (-5)) hG dX6_readComparison_64 (by decide) ?_
      refine pm_goto (tgt := 71) hG dX6_readComparison_66 rfl ?_
      obtain ⟨r15, h14, hE⟩ := fb_some hE
      refine pm_callV (As := [.int (-5)]) (rest := []) hG hR dX6_readComparison_71 (lkX6_50 _ rfl) okV_X9_append rfl rfl (tappend_28 (d := 25) (by decide) h14) rfl rfl hdd (Nat.le_refl _) (Nat.le_refl _) (by decide) (fx_ki ?_)
      refine pm_pop hG dX6_readComparison_74 rfl ?_
      exact pm_vret hG hF dX6_readComparison_75 rfl (Nat.le_refl _) (Nat.le_refl _) (fx_rvc hE)
    · replace hE := fx_f c10 hE
      refine pm_iloadn hG dX6_readComparison_22 rfl ?_
      refine pm_bipush (v := 62) hG dX6_readComparison_23 (by decide) ?_
      refine pm_icmp_ne (tgt := 75) hG dX6_readComparison_25 rfl (fun c16 => ?_) (fun c16 => ?_)
      · replace hE := fx_f c16 hE
        exact pm_vret hG hF dX6_readComparison_75 rfl (Nat.le_refl _) (Nat.le_refl _) (fx_rvc hE)
      · replace hE := fx_t c16 hE
        refine pm_aloadn hG dX6_readComparison_28 rfl ?_
        refine pm_dup hG dX6_readComparison_29 rfl ?_
        refine pm_getf hG dX6_readComparison_30 (flX6_26 _ rfl) rfl rfl ?_
        refine pm_iconst (v := 1) hG dX6_readComparison_33 (by decide) ?_
        refine pm_iadd hG dX6_readComparison_34 ?_
        refine pm_putf hG dX6_readComparison_35 (fwX6_26 _ rfl) rfl rfl rfl ?_
        refine ci_105 ?_
        refine fx_letc hE (fun S17 hE => ?_)
        refine pm_aloadn hG dX6_readComparison_38 rfl ?_
        refine pm_iloadn hG dX6_readComparison_39 rfl ?_
        obtain ⟨r19, h18, hE⟩ := fb_some hE
        refine pm_callV (As := [.int 1]) (rest := []) hG hR dX6_readComparison_40 (lkX6_57 _ rfl) okV_X6_readSum rfl rfl (c_X6_readSum_k1 (d := 25) (by decide) h18) rfl rfl hdd (Nat.le_refl _) (Nat.le_refl _) (by decide) (fx_kv ?_)
        refine pm_aloadn hG dX6_readComparison_43 rfl ?_
        refine pm_getf hG dX6_readComparison_44 (flX6_20 _ rfl) rfl rfl ?_
        refine pm_iloadn hG dX6_readComparison_47 rfl ?_
        refine pm_bipush (v := 60) hG dX6_readComparison_48 (by decide) ?_
        refine pm_icmp_ne (tgt := 58) hG dX6_readComparison_50 rfl (fun _ => ?_) (fun q => absurd q c4)
        refine pm_iloadn hG dX6_readComparison_58 rfl ?_
        refine pm_bipush (v := 61) hG dX6_readComparison_59 (by decide) ?_
        refine pm_icmp_ne (tgt := 69) hG dX6_readComparison_61 rfl (fun _ => ?_) (fun q => absurd q c10)
        refine pm_bipush (v := (-6)) hG dX6_readComparison_69 (by decide) ?_
        obtain ⟨r21, h20, hE⟩ := fb_some hE
        refine pm_callV (As := [.int (-6)]) (rest := []) hG hR dX6_readComparison_71 (lkX6_50 _ rfl) okV_X9_append rfl rfl (tappend_28 (d := 25) (by decide) h20) rfl rfl hdd (Nat.le_refl _) (Nat.le_refl _) (by decide) (fx_ki ?_)
        refine pm_pop hG dX6_readComparison_74 rfl ?_
        exact pm_vret hG hF dX6_readComparison_75 rfl (Nat.le_refl _) (Nat.le_refl _) (fx_rvc hE)

set_option maxRecDepth 100000 in
set_option maxHeartbeats 4000000 in
theorem c_X6_readConjunction_k1 {d : Nat} {B cnt : Nat} {kp : Value} {ρ : pm_S} {S : FS} {R : Int32 × FS} (hdd : 27 ≤ d) (hE : f_X6_readConjunction_k1 S = some R) : pm_met mX6_readConjunction d 0 0 B [.ref (B + 27), .int 1] cnt (cst B kp S ρ) (pm_Qv (fun σ' cnt' => σ' = (cst B kp R.2 ρ) ∧ cnt' = cnt)) := by
  refine pm_enter 1 (by decide) (Nat.le_of_ble_eq_true rfl) rfl (fun G hG hR hF => ?_)
  unfold f_X6_readConjunction_k1 at hE
  refine pm_aloadn hG dX6_readConjunction_0 rfl ?_
  refine pm_iloadn hG dX6_readConjunction_1 rfl ?_
  obtain ⟨r2, h1, hE⟩ := fb_some hE
  refine pm_callV (As := [.int 1]) (rest := []) hG hR dX6_readConjunction_2 (lkX6_54 _ rfl) okV_X6_readComparison rfl rfl (c_X6_readComparison_k1 (d := 26) (by decide) h1) rfl rfl hdd (Nat.le_refl _) (Nat.le_refl _) (by decide) (fx_kv ?_)
  refine pm_iconst (v := 0) hG dX6_readConjunction_5 (by decide) ?_
  refine pm_istoreXn (loc' := [some (.ref (B + 27)), some (.int 1), some (.int 0)]) hG dX6_readConjunction_6 (by decide) (pm_c1b rfl) rfl ?_
  have loop7 : ∀ (k7 : FS → Int32 → Option (Int32 × FS)), (∀ (S3 : FS) (x3_2 : Int32), k7 S3  x3_2 = some R → pm_wp mX6_readConjunction G B 53 [some (.ref (B + 27)), some (.int 1), some (.int x3_2)] [] 0 0 cnt (cst B kp S3 ρ)) → ∀ (m7 : Nat) (S3 : FS) (x3_2 : Int32), l_X6_readConjunction_k1_7 k7 m7 S3  x3_2 = some R → pm_wp mX6_readConjunction G B 7 [some (.ref (B + 27)), some (.int 1), some (.int x3_2)] [] 0 0 cnt (cst B kp S3 ρ) := by
    intro k7 hk7 m7
    induction m7 with
    | zero => intro S3  x3_2 hE; exact fx_no hE
    | succ m7 ih7 =>
      intro S3  x3_2 hE
      rw [l_X6_readConjunction_k1_7] at hE
      refine pm_iloadn hG dX6_readConjunction_7 rfl ?_
      refine pm_bipush (v := 60) hG dX6_readConjunction_8 (by decide) ?_
      refine pm_icmp_ge (tgt := 53) hG dX6_readConjunction_10 rfl (fun c4 => ?_) (fun c4 => ?_)
      · replace c4 := Int32.not_lt.mpr c4
        replace hE := fx_f c4 hE
        exact hk7 _ _ hE
      · replace c4 := Int32.not_le.mp c4
        replace hE := fx_t c4 hE
        refine pm_aloadn hG dX6_readConjunction_13 rfl ?_
        refine pm_callV (As := []) (rest := []) hG hR dX6_readConjunction_14 (lkX6_47 _ rfl) okV_X6_next rfl rfl (c_X6_next (d := 26) (by decide) rfl) rfl rfl hdd (Nat.le_refl _) (Nat.le_refl _) (by decide) (fx_ki ?_)
        refine pm_bipush (v := 38) hG dX6_readConjunction_17 (by decide) ?_
        refine pm_icmp_ne (tgt := 53) hG dX6_readConjunction_19 rfl (fun c5 => ?_) (fun c5 => ?_)
        · replace hE := fx_f c5 hE
          exact hk7 _ _ hE
        · replace hE := fx_t c5 hE
          refine pm_aloadn hG dX6_readConjunction_22 rfl ?_
          refine pm_dup hG dX6_readConjunction_23 rfl ?_
          refine pm_getf hG dX6_readConjunction_24 (flX6_26 _ rfl) rfl rfl ?_
          refine pm_iconst (v := 1) hG dX6_readConjunction_27 (by decide) ?_
          refine pm_iadd hG dX6_readConjunction_28 ?_
          refine pm_putf hG dX6_readConjunction_29 (fwX6_26 _ rfl) rfl rfl rfl ?_
          refine ci_105 ?_
          refine fx_letc hE (fun S6 hE => ?_)
          refine pm_aloadn hG dX6_readConjunction_32 rfl ?_
          refine pm_iloadn hG dX6_readConjunction_33 rfl ?_
          obtain ⟨r8, h7, hE⟩ := fb_some hE
          refine pm_callV (As := [.int 1]) (rest := []) hG hR dX6_readConjunction_34 (lkX6_54 _ rfl) okV_X6_readComparison rfl rfl (c_X6_readComparison_k1 (d := 26) (by decide) h7) rfl rfl hdd (Nat.le_refl _) (Nat.le_refl _) (by decide) (fx_kv ?_)
          refine pm_aloadn hG dX6_readConjunction_37 rfl ?_
          refine pm_getf hG dX6_readConjunction_38 (flX6_20 _ rfl) rfl rfl ?_
          refine pm_bipush (v := (-3)) hG dX6_readConjunction_41 (by decide) ?_
          obtain ⟨r10, h9, hE⟩ := fb_some hE
          refine pm_callV (As := [.int (-3)]) (rest := []) hG hR dX6_readConjunction_43 (lkX6_50 _ rfl) okV_X9_append rfl rfl (tappend_28 (d := 26) (by decide) h9) rfl rfl hdd (Nat.le_refl _) (Nat.le_refl _) (by decide) (fx_ki ?_)
          refine pm_pop hG dX6_readConjunction_46 rfl ?_
          refine pm_iincX (v := x3_2 + 1) (loc' := [some (.ref (B + 27)), some (.int 1), some (.int (x3_2 + 1))]) hG dX6_readConjunction_47 rfl (by rfl) (by decide) (pm_c1b rfl) rfl ?_
          refine pm_goto (tgt := 7) hG dX6_readConjunction_50 rfl ?_
          exact ih7 _ _ hE
  refine loop7 _ (fun S11 x11_2 hE => ?_) _ _ _ hE
  exact pm_vret hG hF dX6_readConjunction_53 rfl (Nat.le_refl _) (Nat.le_refl _) (fx_rvc hE)

set_option maxRecDepth 100000 in
set_option maxHeartbeats 4000000 in
theorem c_X6_readText_k1 {d : Nat} {B cnt : Nat} {kp : Value} {ρ : pm_S} {S : FS} {R : Int32 × FS} (hdd : 28 ≤ d) (hE : f_X6_readText_k1 S = some R) : pm_met mX6_readText d 0 0 B [.ref (B + 27), .int 1] cnt (cst B kp S ρ) (pm_Qv (fun σ' cnt' => σ' = (cst B kp R.2 ρ) ∧ cnt' = cnt)) := by
  refine pm_enter 1 (by decide) (Nat.le_of_ble_eq_true rfl) rfl (fun G hG hR hF => ?_)
  unfold f_X6_readText_k1 at hE
  refine pm_aloadn hG dX6_readText_0 rfl ?_
  refine pm_iloadn hG dX6_readText_1 rfl ?_
  obtain ⟨r2, h1, hE⟩ := fb_some hE
  refine pm_callV (As := [.int 1]) (rest := []) hG hR dX6_readText_2 (lkX6_44 _ rfl) okV_X6_readConjunction rfl rfl (c_X6_readConjunction_k1 (d := 27) (by decide) h1) rfl rfl hdd (Nat.le_refl _) (Nat.le_refl _) (by decide) (fx_kv ?_)
  refine pm_iconst (v := 0) hG dX6_readText_5 (by decide) ?_
  refine pm_istoreXn (loc' := [some (.ref (B + 27)), some (.int 1), some (.int 0)]) hG dX6_readText_6 (by decide) (pm_c1b rfl) rfl ?_
  have loop7 : ∀ (k7 : FS → Int32 → Option (Int32 × FS)), (∀ (S3 : FS) (x3_2 : Int32), k7 S3  x3_2 = some R → pm_wp mX6_readText G B 53 [some (.ref (B + 27)), some (.int 1), some (.int x3_2)] [] 0 0 cnt (cst B kp S3 ρ)) → ∀ (m7 : Nat) (S3 : FS) (x3_2 : Int32), l_X6_readText_k1_7 k7 m7 S3  x3_2 = some R → pm_wp mX6_readText G B 7 [some (.ref (B + 27)), some (.int 1), some (.int x3_2)] [] 0 0 cnt (cst B kp S3 ρ) := by
    intro k7 hk7 m7
    induction m7 with
    | zero => intro S3  x3_2 hE; exact fx_no hE
    | succ m7 ih7 =>
      intro S3  x3_2 hE
      rw [l_X6_readText_k1_7] at hE
      refine pm_iloadn hG dX6_readText_7 rfl ?_
      refine pm_bipush (v := 60) hG dX6_readText_8 (by decide) ?_
      refine pm_icmp_ge (tgt := 53) hG dX6_readText_10 rfl (fun c4 => ?_) (fun c4 => ?_)
      · replace c4 := Int32.not_lt.mpr c4
        replace hE := fx_f c4 hE
        exact hk7 _ _ hE
      · replace c4 := Int32.not_le.mp c4
        replace hE := fx_t c4 hE
        refine pm_aloadn hG dX6_readText_13 rfl ?_
        refine pm_callV (As := []) (rest := []) hG hR dX6_readText_14 (lkX6_47 _ rfl) okV_X6_next rfl rfl (c_X6_next (d := 27) (by decide) rfl) rfl rfl hdd (Nat.le_refl _) (Nat.le_refl _) (by decide) (fx_ki ?_)
        refine pm_bipush (v := 124) hG dX6_readText_17 (by decide) ?_
        refine pm_icmp_ne (tgt := 53) hG dX6_readText_19 rfl (fun c5 => ?_) (fun c5 => ?_)
        · replace hE := fx_f c5 hE
          exact hk7 _ _ hE
        · replace hE := fx_t c5 hE
          refine pm_aloadn hG dX6_readText_22 rfl ?_
          refine pm_dup hG dX6_readText_23 rfl ?_
          refine pm_getf hG dX6_readText_24 (flX6_26 _ rfl) rfl rfl ?_
          refine pm_iconst (v := 1) hG dX6_readText_27 (by decide) ?_
          refine pm_iadd hG dX6_readText_28 ?_
          refine pm_putf hG dX6_readText_29 (fwX6_26 _ rfl) rfl rfl rfl ?_
          refine ci_105 ?_
          refine fx_letc hE (fun S6 hE => ?_)
          refine pm_aloadn hG dX6_readText_32 rfl ?_
          refine pm_iloadn hG dX6_readText_33 rfl ?_
          obtain ⟨r8, h7, hE⟩ := fb_some hE
          refine pm_callV (As := [.int 1]) (rest := []) hG hR dX6_readText_34 (lkX6_44 _ rfl) okV_X6_readConjunction rfl rfl (c_X6_readConjunction_k1 (d := 27) (by decide) h7) rfl rfl hdd (Nat.le_refl _) (Nat.le_refl _) (by decide) (fx_kv ?_)
          refine pm_aloadn hG dX6_readText_37 rfl ?_
          refine pm_getf hG dX6_readText_38 (flX6_20 _ rfl) rfl rfl ?_
          refine pm_bipush (v := (-2)) hG dX6_readText_41 (by decide) ?_
          obtain ⟨r10, h9, hE⟩ := fb_some hE
          refine pm_callV (As := [.int (-2)]) (rest := []) hG hR dX6_readText_43 (lkX6_50 _ rfl) okV_X9_append rfl rfl (tappend_28 (d := 27) (by decide) h9) rfl rfl hdd (Nat.le_refl _) (Nat.le_refl _) (by decide) (fx_ki ?_)
          refine pm_pop hG dX6_readText_46 rfl ?_
          refine pm_iincX (v := x3_2 + 1) (loc' := [some (.ref (B + 27)), some (.int 1), some (.int (x3_2 + 1))]) hG dX6_readText_47 rfl (by rfl) (by decide) (pm_c1b rfl) rfl ?_
          refine pm_goto (tgt := 7) hG dX6_readText_50 rfl ?_
          exact ih7 _ _ hE
  refine loop7 _ (fun S11 x11_2 hE => ?_) _ _ _ hE
  exact pm_vret hG hF dX6_readText_53 rfl (Nat.le_refl _) (Nat.le_refl _) (fx_rvc hE)

set_option maxRecDepth 100000 in
set_option maxHeartbeats 4000000 in
theorem c_X6_readPart_k0 {d : Nat} {B cnt : Nat} {kp : Value} {ρ : pm_S} {S : FS} {R : Int32 × FS} (hdd : 29 ≤ d) (hE : f_X6_readPart_k0 S = some R) : pm_met mX6_readPart d 0 0 B [.ref (B + 27), .int 0] cnt (cst B kp S ρ) (pm_Qv (fun σ' cnt' => σ' = (cst B kp R.2 ρ) ∧ cnt' = cnt)) := by
  refine pm_enter 2 (by decide) (Nat.le_of_ble_eq_true rfl) rfl (fun G hG hR hF => ?_)
  unfold f_X6_readPart_k0 at hE
  refine pm_aloadn hG dX6_readPart_0 rfl ?_
  refine pm_callV (As := []) (rest := []) hG hR dX6_readPart_1 (lkX6_47 _ rfl) okV_X6_next rfl rfl (c_X6_next (d := 28) (by decide) rfl) rfl rfl hdd (Nat.le_refl _) (Nat.le_refl _) (by decide) (fx_ki ?_)
  refine fx_letv hE (fun x1 hE => ?_)
  refine pm_istoreXn (loc' := [some (.ref (B + 27)), some (.int 0), some (.int x1), none]) hG dX6_readPart_4 (by decide) (pm_c1b rfl) rfl ?_
  refine pm_iloadn hG dX6_readPart_5 rfl ?_
  refine pm_if_ge (tgt := 13) hG dX6_readPart_6 rfl (fun c2 => ?_) (fun c2 => ?_)
  · replace c2 := Int32.not_lt.mpr c2
    replace hE := fx_f c2 hE
    refine pm_ldcN hG rfl dX6_readPart_13 (fun q3 z3 hN3 => ?_)
    refine pm_iloadn hG dX6_readPart_15 rfl ?_
    refine pm_i2cE hG dX6_readPart_16 rfl ?_
    obtain ⟨x5, h4, hE⟩ := fb_some hE
    refine pm_callVN (As := [.int ((x1.toUInt32 % 65536).toInt32)]) (rest := []) hN3 hG hR dX6_readPart_17 (lpX6_65 _ rfl) okV_J0_indexOf_0f7a4 rfl (fj_iof (d := 28) (by decide) h4) rfl rfl hdd (Nat.le_refl _) (Nat.le_refl _) (by first | decide | exact Nat.le_of_ble_eq_true rfl) (fx_ki ?_)
    refine pm_istoreXn (loc' := [some (.ref (B + 27)), some (.int 0), some (.int x1), some (.int x5)]) hG dX6_readPart_20 (by decide) (pm_c1b rfl) rfl ?_
    refine pm_iloadn hG dX6_readPart_21 rfl ?_
    refine pm_callS (As := [.int x1]) (rest := []) hG hR dX6_readPart_22 (lkX6_70 _ rfl) okS_X6_isDigit (c_X6_isDigit (d := 28) (by decide) rfl) rfl rfl hdd (Nat.le_refl _) (Nat.le_refl _) (by decide) (fx_ki ?_)
    refine pm_if_eq (tgt := 35) hG dX6_readPart_25 rfl (fun c6 => ?_) (fun c6 => ?_)
    · replace hE := fx_t c6 hE
      refine pm_iloadn hG dX6_readPart_35 rfl ?_
      refine pm_if_lt (tgt := 64) hG dX6_readPart_36 rfl (fun c7 => ?_) (fun c7 => ?_)
      · replace hE := fx_t c7 hE
        refine pm_iloadn hG dX6_readPart_64 rfl ?_
        refine pm_bipush (v := 33) hG dX6_readPart_65 (by decide) ?_
        refine pm_icmp_ne (tgt := 104) hG dX6_readPart_67 rfl (fun c8 => ?_) (fun c8 => ?_)
        · replace hE := fx_f c8 hE
          refine pm_iloadn hG dX6_readPart_104 rfl ?_
          refine pm_bipush (v := 40) hG dX6_readPart_105 (by decide) ?_
          refine pm_icmp_ne (tgt := 139) hG dX6_readPart_107 rfl (fun c9 => ?_) (fun c9 => ?_)
          · replace hE := fx_f c9 hE
            refine pm_aloadn hG dX6_readPart_139 rfl ?_
            obtain ⟨r11, h10, hE⟩ := fb_some hE
            refine pm_callV (As := []) (rest := []) hG hR dX6_readPart_140 (lkX6_41 _ rfl) okV_X6_fail rfl rfl (c_X6_fail (d := 28) (by decide) h10) rfl rfl hdd (Nat.le_refl _) (Nat.le_refl _) (by decide) (fx_kv ?_)
            exact pm_vret hG hF dX6_readPart_143 rfl (Nat.le_refl _) (Nat.le_refl _) (fx_rvc hE)
          · replace hE := fx_t c9 hE
            refine pm_iloadn hG dX6_readPart_110 rfl ?_
            refine pm_iconst (v := 5) hG dX6_readPart_111 (by decide) ?_
            refine pm_icmp_ge (tgt := 139) hG dX6_readPart_112 rfl (fun q => absurd q (by decide)) (fun _ => ?_)
            refine pm_aloadn hG dX6_readPart_115 rfl ?_
            refine pm_dup hG dX6_readPart_116 rfl ?_
            refine pm_getf hG dX6_readPart_117 (flX6_26 _ rfl) rfl rfl ?_
            refine pm_iconst (v := 1) hG dX6_readPart_120 (by decide) ?_
            refine pm_iadd hG dX6_readPart_121 ?_
            refine pm_putf hG dX6_readPart_122 (fwX6_26 _ rfl) rfl rfl rfl ?_
            refine ci_105 ?_
            refine fx_letc hE (fun S12 hE => ?_)
            refine pm_aloadn hG dX6_readPart_125 rfl ?_
            refine pm_iloadn hG dX6_readPart_126 rfl ?_
            refine pm_iconst (v := 1) hG dX6_readPart_127 (by decide) ?_
            refine pm_iadd hG dX6_readPart_128 ?_
            refine pm_top (v := 1) (by decide) ?_
            obtain ⟨r14, h13, hE⟩ := fb_some hE
            refine pm_callV (As := [.int 1]) (rest := []) hG hR dX6_readPart_129 (lkX6_33 _ rfl) okV_X6_readText rfl rfl (c_X6_readText_k1 (d := 28) (by decide) h13) rfl rfl hdd (Nat.le_refl _) (Nat.le_refl _) (by decide) (fx_kv ?_)
            refine pm_aloadn hG dX6_readPart_132 rfl ?_
            obtain ⟨r16, h15, hE⟩ := fb_some hE
            refine pm_callV (As := []) (rest := []) hG hR dX6_readPart_133 (lkX6_77 _ rfl) okV_X6_readClosing rfl rfl (c_X6_readClosing (d := 28) (by decide) h15) rfl rfl hdd (Nat.le_refl _) (Nat.le_refl _) (by decide) (fx_kv ?_)
            refine pm_goto (tgt := 143) hG dX6_readPart_136 rfl ?_
            exact pm_vret hG hF dX6_readPart_143 rfl (Nat.le_refl _) (Nat.le_refl _) (fx_rvc hE)
        · replace hE := fx_t c8 hE
          refine pm_iloadn hG dX6_readPart_70 rfl ?_
          refine pm_iconst (v := 5) hG dX6_readPart_71 (by decide) ?_
          refine pm_icmp_ge (tgt := 104) hG dX6_readPart_72 rfl (fun q => absurd q (by decide)) (fun _ => ?_)
          refine pm_aloadn hG dX6_readPart_75 rfl ?_
          refine pm_dup hG dX6_readPart_76 rfl ?_
          refine pm_getf hG dX6_readPart_77 (flX6_26 _ rfl) rfl rfl ?_
          refine pm_iconst (v := 1) hG dX6_readPart_80 (by decide) ?_
          refine pm_iadd hG dX6_readPart_81 ?_
          refine pm_putf hG dX6_readPart_82 (fwX6_26 _ rfl) rfl rfl rfl ?_
          refine ci_105 ?_
          refine fx_letc hE (fun S17 hE => ?_)
          refine pm_aloadn hG dX6_readPart_85 rfl ?_
          refine pm_iloadn hG dX6_readPart_86 rfl ?_
          refine pm_iconst (v := 1) hG dX6_readPart_87 (by decide) ?_
          refine pm_iadd hG dX6_readPart_88 ?_
          refine pm_top (v := 1) (by decide) ?_
          obtain ⟨r19, h18, hE⟩ := fb_some hE
          refine pm_callV (As := [.int 1]) (rest := []) hG hR dX6_readPart_89 (lkX6_60 _ rfl) okV_X6_readPart rfl rfl (c_X6_readPart_k1 (d := 28) (by decide) h18) rfl rfl hdd (Nat.le_refl _) (Nat.le_refl _) (by decide) (fx_kv ?_)
          refine pm_aloadn hG dX6_readPart_92 rfl ?_
          refine pm_getf hG dX6_readPart_93 (flX6_20 _ rfl) rfl rfl ?_
          refine pm_iconst (v := (-1)) hG dX6_readPart_96 (by decide) ?_
          obtain ⟨r21, h20, hE⟩ := fb_some hE
          refine pm_callV (As := [.int (-1)]) (rest := []) hG hR dX6_readPart_97 (lkX6_50 _ rfl) okV_X9_append rfl rfl (tappend_28 (d := 28) (by decide) h20) rfl rfl hdd (Nat.le_refl _) (Nat.le_refl _) (by decide) (fx_ki ?_)
          refine pm_pop hG dX6_readPart_100 rfl ?_
          refine pm_goto (tgt := 143) hG dX6_readPart_101 rfl ?_
          exact pm_vret hG hF dX6_readPart_143 rfl (Nat.le_refl _) (Nat.le_refl _) (fx_rvc hE)
      · replace hE := fx_f c7 hE
        refine pm_aloadn hG dX6_readPart_39 rfl ?_
        refine pm_dup hG dX6_readPart_40 rfl ?_
        refine pm_getf hG dX6_readPart_41 (flX6_26 _ rfl) rfl rfl ?_
        refine pm_iconst (v := 1) hG dX6_readPart_44 (by decide) ?_
        refine pm_iadd hG dX6_readPart_45 ?_
        refine pm_putf hG dX6_readPart_46 (fwX6_26 _ rfl) rfl rfl rfl ?_
        refine ci_105 ?_
        refine fx_letc hE (fun S22 hE => ?_)
        refine pm_aloadn hG dX6_readPart_49 rfl ?_
        refine pm_getf hG dX6_readPart_50 (flX6_20 _ rfl) rfl rfl ?_
        refine pm_bipush (v := (-20)) hG dX6_readPart_53 (by decide) ?_
        refine pm_iloadn hG dX6_readPart_55 rfl ?_
        refine pm_isub hG dX6_readPart_56 ?_
        obtain ⟨r24, h23, hE⟩ := fb_some hE
        refine pm_callV (As := [.int ((-20) - x5)]) (rest := []) hG hR dX6_readPart_57 (lkX6_50 _ rfl) okV_X9_append rfl rfl (tappend_28 (d := 28) (by decide) h23) rfl rfl hdd (Nat.le_refl _) (Nat.le_refl _) (by decide) (fx_ki ?_)
        refine pm_pop hG dX6_readPart_60 rfl ?_
        refine pm_goto (tgt := 143) hG dX6_readPart_61 rfl ?_
        exact pm_vret hG hF dX6_readPart_143 rfl (Nat.le_refl _) (Nat.le_refl _) (fx_rvc hE)
    · replace hE := fx_f c6 hE
      refine pm_aloadn hG dX6_readPart_28 rfl ?_
      obtain ⟨r26, h25, hE⟩ := fb_some hE
      refine pm_callV (As := []) (rest := []) hG hR dX6_readPart_29 (lkX6_74 _ rfl) okV_X6_readNumber rfl rfl (c_X6_readNumber (d := 28) (by decide) h25) rfl rfl hdd (Nat.le_refl _) (Nat.le_refl _) (by decide) (fx_kv ?_)
      refine pm_goto (tgt := 143) hG dX6_readPart_32 rfl ?_
      exact pm_vret hG hF dX6_readPart_143 rfl (Nat.le_refl _) (Nat.le_refl _) (fx_rvc hE)
  · replace c2 := Int32.not_le.mp c2
    replace hE := fx_t c2 hE
    refine pm_iconst (v := (-1)) hG dX6_readPart_9 (by decide) ?_
    refine pm_goto (tgt := 20) hG dX6_readPart_10 rfl ?_
    refine pm_istoreXn (loc' := [some (.ref (B + 27)), some (.int 0), some (.int x1), some (.int (-1))]) hG dX6_readPart_20 (by decide) (pm_c1b rfl) rfl ?_
    refine pm_iloadn hG dX6_readPart_21 rfl ?_
    refine pm_callS (As := [.int x1]) (rest := []) hG hR dX6_readPart_22 (lkX6_70 _ rfl) okS_X6_isDigit (c_X6_isDigit (d := 28) (by decide) rfl) rfl rfl hdd (Nat.le_refl _) (Nat.le_refl _) (by decide) (fx_ki ?_)
    refine pm_if_eq (tgt := 35) hG dX6_readPart_25 rfl (fun c27 => ?_) (fun c27 => ?_)
    · replace hE := fx_t c27 hE
      refine pm_iloadn hG dX6_readPart_35 rfl ?_
      refine pm_if_lt (tgt := 64) hG dX6_readPart_36 rfl (fun _ => ?_) (fun q => absurd q (by decide))
      refine pm_iloadn hG dX6_readPart_64 rfl ?_
      refine pm_bipush (v := 33) hG dX6_readPart_65 (by decide) ?_
      refine pm_icmp_ne (tgt := 104) hG dX6_readPart_67 rfl (fun c28 => ?_) (fun c28 => ?_)
      · replace hE := fx_f c28 hE
        refine pm_iloadn hG dX6_readPart_104 rfl ?_
        refine pm_bipush (v := 40) hG dX6_readPart_105 (by decide) ?_
        refine pm_icmp_ne (tgt := 139) hG dX6_readPart_107 rfl (fun c29 => ?_) (fun c29 => ?_)
        · replace hE := fx_f c29 hE
          refine pm_aloadn hG dX6_readPart_139 rfl ?_
          obtain ⟨r31, h30, hE⟩ := fb_some hE
          refine pm_callV (As := []) (rest := []) hG hR dX6_readPart_140 (lkX6_41 _ rfl) okV_X6_fail rfl rfl (c_X6_fail (d := 28) (by decide) h30) rfl rfl hdd (Nat.le_refl _) (Nat.le_refl _) (by decide) (fx_kv ?_)
          exact pm_vret hG hF dX6_readPart_143 rfl (Nat.le_refl _) (Nat.le_refl _) (fx_rvc hE)
        · replace hE := fx_t c29 hE
          refine pm_iloadn hG dX6_readPart_110 rfl ?_
          refine pm_iconst (v := 5) hG dX6_readPart_111 (by decide) ?_
          refine pm_icmp_ge (tgt := 139) hG dX6_readPart_112 rfl (fun q => absurd q (by decide)) (fun _ => ?_)
          refine pm_aloadn hG dX6_readPart_115 rfl ?_
          refine pm_dup hG dX6_readPart_116 rfl ?_
          refine pm_getf hG dX6_readPart_117 (flX6_26 _ rfl) rfl rfl ?_
          refine pm_iconst (v := 1) hG dX6_readPart_120 (by decide) ?_
          refine pm_iadd hG dX6_readPart_121 ?_
          refine pm_putf hG dX6_readPart_122 (fwX6_26 _ rfl) rfl rfl rfl ?_
          refine ci_105 ?_
          refine fx_letc hE (fun S32 hE => ?_)
          refine pm_aloadn hG dX6_readPart_125 rfl ?_
          refine pm_iloadn hG dX6_readPart_126 rfl ?_
          refine pm_iconst (v := 1) hG dX6_readPart_127 (by decide) ?_
          refine pm_iadd hG dX6_readPart_128 ?_
          refine pm_top (v := 1) (by decide) ?_
          obtain ⟨r34, h33, hE⟩ := fb_some hE
          refine pm_callV (As := [.int 1]) (rest := []) hG hR dX6_readPart_129 (lkX6_33 _ rfl) okV_X6_readText rfl rfl (c_X6_readText_k1 (d := 28) (by decide) h33) rfl rfl hdd (Nat.le_refl _) (Nat.le_refl _) (by decide) (fx_kv ?_)
          refine pm_aloadn hG dX6_readPart_132 rfl ?_
          obtain ⟨r36, h35, hE⟩ := fb_some hE
          refine pm_callV (As := []) (rest := []) hG hR dX6_readPart_133 (lkX6_77 _ rfl) okV_X6_readClosing rfl rfl (c_X6_readClosing (d := 28) (by decide) h35) rfl rfl hdd (Nat.le_refl _) (Nat.le_refl _) (by decide) (fx_kv ?_)
          refine pm_goto (tgt := 143) hG dX6_readPart_136 rfl ?_
          exact pm_vret hG hF dX6_readPart_143 rfl (Nat.le_refl _) (Nat.le_refl _) (fx_rvc hE)
      · replace hE := fx_t c28 hE
        refine pm_iloadn hG dX6_readPart_70 rfl ?_
        refine pm_iconst (v := 5) hG dX6_readPart_71 (by decide) ?_
        refine pm_icmp_ge (tgt := 104) hG dX6_readPart_72 rfl (fun q => absurd q (by decide)) (fun _ => ?_)
        refine pm_aloadn hG dX6_readPart_75 rfl ?_
        refine pm_dup hG dX6_readPart_76 rfl ?_
        refine pm_getf hG dX6_readPart_77 (flX6_26 _ rfl) rfl rfl ?_
        refine pm_iconst (v := 1) hG dX6_readPart_80 (by decide) ?_
        refine pm_iadd hG dX6_readPart_81 ?_
        refine pm_putf hG dX6_readPart_82 (fwX6_26 _ rfl) rfl rfl rfl ?_
        refine ci_105 ?_
        refine fx_letc hE (fun S37 hE => ?_)
        refine pm_aloadn hG dX6_readPart_85 rfl ?_
        refine pm_iloadn hG dX6_readPart_86 rfl ?_
        refine pm_iconst (v := 1) hG dX6_readPart_87 (by decide) ?_
        refine pm_iadd hG dX6_readPart_88 ?_
        refine pm_top (v := 1) (by decide) ?_
        obtain ⟨r39, h38, hE⟩ := fb_some hE
        refine pm_callV (As := [.int 1]) (rest := []) hG hR dX6_readPart_89 (lkX6_60 _ rfl) okV_X6_readPart rfl rfl (c_X6_readPart_k1 (d := 28) (by decide) h38) rfl rfl hdd (Nat.le_refl _) (Nat.le_refl _) (by decide) (fx_kv ?_)
        refine pm_aloadn hG dX6_readPart_92 rfl ?_
        refine pm_getf hG dX6_readPart_93 (flX6_20 _ rfl) rfl rfl ?_
        refine pm_iconst (v := (-1)) hG dX6_readPart_96 (by decide) ?_
        obtain ⟨r41, h40, hE⟩ := fb_some hE
        refine pm_callV (As := [.int (-1)]) (rest := []) hG hR dX6_readPart_97 (lkX6_50 _ rfl) okV_X9_append rfl rfl (tappend_28 (d := 28) (by decide) h40) rfl rfl hdd (Nat.le_refl _) (Nat.le_refl _) (by decide) (fx_ki ?_)
        refine pm_pop hG dX6_readPart_100 rfl ?_
        refine pm_goto (tgt := 143) hG dX6_readPart_101 rfl ?_
        exact pm_vret hG hF dX6_readPart_143 rfl (Nat.le_refl _) (Nat.le_refl _) (fx_rvc hE)
    · replace hE := fx_f c27 hE
      refine pm_aloadn hG dX6_readPart_28 rfl ?_
      obtain ⟨r43, h42, hE⟩ := fb_some hE
      refine pm_callV (As := []) (rest := []) hG hR dX6_readPart_29 (lkX6_74 _ rfl) okV_X6_readNumber rfl rfl (c_X6_readNumber (d := 28) (by decide) h42) rfl rfl hdd (Nat.le_refl _) (Nat.le_refl _) (by decide) (fx_kv ?_)
      refine pm_goto (tgt := 143) hG dX6_readPart_32 rfl ?_
      exact pm_vret hG hF dX6_readPart_143 rfl (Nat.le_refl _) (Nat.le_refl _) (fx_rvc hE)

set_option maxRecDepth 100000 in
set_option maxHeartbeats 4000000 in
theorem c_X6_readSum_k0 {d : Nat} {B cnt : Nat} {kp : Value} {ρ : pm_S} {S : FS} {R : Int32 × FS} (hdd : 30 ≤ d) (hE : f_X6_readSum_k0 S = some R) : pm_met mX6_readSum d 0 0 B [.ref (B + 27), .int 0] cnt (cst B kp S ρ) (pm_Qv (fun σ' cnt' => σ' = (cst B kp R.2 ρ) ∧ cnt' = cnt)) := by
  refine pm_enter 2 (by decide) (Nat.le_of_ble_eq_true rfl) rfl (fun G hG hR hF => ?_)
  unfold f_X6_readSum_k0 at hE
  refine pm_aloadn hG dX6_readSum_0 rfl ?_
  refine pm_iloadn hG dX6_readSum_1 rfl ?_
  obtain ⟨r2, h1, hE⟩ := fb_some hE
  refine pm_callV (As := [.int 0]) (rest := []) hG hR dX6_readSum_2 (lkX6_60 _ rfl) okV_X6_readPart rfl rfl (c_X6_readPart_k0 (d := 29) (by decide) h1) rfl rfl hdd (Nat.le_refl _) (Nat.le_refl _) (by decide) (fx_kv ?_)
  refine pm_iconst (v := 0) hG dX6_readSum_5 (by decide) ?_
  refine pm_istoreXn (loc' := [some (.ref (B + 27)), some (.int 0), some (.int 0), none]) hG dX6_readSum_6 (by decide) (pm_c1b rfl) rfl ?_
  have loop7 : ∀ (k7 : FS → Int32 → Option (Int32 × FS)), (∀ (S3 : FS) (x3_2 : Int32), k7 S3  x3_2 = some R → pm_wp mX6_readSum G B 78 [some (.ref (B + 27)), some (.int 0), some (.int x3_2), none] [] 0 0 cnt (cst B kp S3 ρ)) → ∀ (m7 : Nat) (S3 : FS) (x3_2 : Int32), l_X6_readSum_k0_7 k7 m7 S3  x3_2 = some R → pm_wp mX6_readSum G B 7 [some (.ref (B + 27)), some (.int 0), some (.int x3_2), none] [] 0 0 cnt (cst B kp S3 ρ) := by
    intro k7 hk7 m7
    induction m7 with
    | zero => intro S3  x3_2 hE; exact fx_no hE
    | succ m7 ih7 =>
      intro S3  x3_2 hE
      rw [l_X6_readSum_k0_7] at hE
      refine pm_iloadn hG dX6_readSum_7 rfl ?_
      refine pm_bipush (v := 60) hG dX6_readSum_8 (by decide) ?_
      refine pm_icmp_ge (tgt := 78) hG dX6_readSum_10 rfl (fun c4 => ?_) (fun c4 => ?_)
      · replace c4 := Int32.not_lt.mpr c4
        replace hE := fx_f c4 hE
        exact hk7 _ _ hE
      · replace c4 := Int32.not_le.mp c4
        replace hE := fx_t c4 hE
        refine pm_aloadn hG dX6_readSum_13 rfl ?_
        refine pm_callV (As := []) (rest := []) hG hR dX6_readSum_14 (lkX6_47 _ rfl) okV_X6_next rfl rfl (c_X6_next (d := 29) (by decide) rfl) rfl rfl hdd (Nat.le_refl _) (Nat.le_refl _) (by decide) (fx_ki ?_)
        refine pm_bipush (v := 43) hG dX6_readSum_17 (by decide) ?_
        refine pm_icmp_eq (tgt := 31) hG dX6_readSum_19 rfl (fun c5 => ?_) (fun c5 => ?_)
        · replace hE := fx_t c5 hE
          refine pm_aloadn hG dX6_readSum_31 rfl ?_
          refine pm_callV (As := []) (rest := []) hG hR dX6_readSum_32 (lkX6_47 _ rfl) okV_X6_next rfl rfl (c_X6_next (d := 29) (by decide) rfl) rfl rfl hdd (Nat.le_refl _) (Nat.le_refl _) (by decide) (fx_ki ?_)
          refine pm_bipush (v := 43) hG dX6_readSum_35 (by decide) ?_
          refine pm_icmp_ne (tgt := 45) hG dX6_readSum_37 rfl (fun q => absurd c5 q) (fun _ => ?_)
          refine pm_bipush (v := (-7)) hG dX6_readSum_40 (by decide) ?_
          refine pm_goto (tgt := 47) hG dX6_readSum_42 rfl ?_
          refine pm_istoreXn (loc' := [some (.ref (B + 27)), some (.int 0), some (.int x3_2), some (.int (-7))]) hG dX6_readSum_47 (by decide) (pm_c1b rfl) rfl ?_
          refine pm_aloadn hG dX6_readSum_48 rfl ?_
          refine pm_dup hG dX6_readSum_49 rfl ?_
          refine pm_getf hG dX6_readSum_50 (flX6_26 _ rfl) rfl rfl ?_
          refine pm_iconst (v := 1) hG dX6_readSum_53 (by decide) ?_
          refine pm_iadd hG dX6_readSum_54 ?_
          refine pm_putf hG dX6_readSum_55 (fwX6_26 _ rfl) rfl rfl rfl ?_
          refine ci_105 ?_
          refine fx_letc hE (fun S6 hE => ?_)
          refine pm_aloadn hG dX6_readSum_58 rfl ?_
          refine pm_iloadn hG dX6_readSum_59 rfl ?_
          obtain ⟨r8, h7, hE⟩ := fb_some hE
          refine pm_callV (As := [.int 0]) (rest := []) hG hR dX6_readSum_60 (lkX6_60 _ rfl) okV_X6_readPart rfl rfl (c_X6_readPart_k0 (d := 29) (by decide) h7) rfl rfl hdd (Nat.le_refl _) (Nat.le_refl _) (by decide) (fx_kv ?_)
          refine pm_aloadn hG dX6_readSum_63 rfl ?_
          refine pm_getf hG dX6_readSum_64 (flX6_20 _ rfl) rfl rfl ?_
          refine pm_iloadn hG dX6_readSum_67 rfl ?_
          obtain ⟨r10, h9, hE⟩ := fb_some hE
          refine pm_callV (As := [.int (-7)]) (rest := []) hG hR dX6_readSum_68 (lkX6_50 _ rfl) okV_X9_append rfl rfl (tappend_28 (d := 29) (by decide) h9) rfl rfl hdd (Nat.le_refl _) (Nat.le_refl _) (by decide) (fx_ki ?_)
          refine pm_pop hG dX6_readSum_71 rfl ?_
          refine pm_iincX (v := x3_2 + 1) (loc' := [some (.ref (B + 27)), some (.int 0), some (.int (x3_2 + 1)), some (.int (-7))]) hG dX6_readSum_72 rfl (by rfl) (by decide) (pm_c1b rfl) rfl ?_
          refine pm_goto (tgt := 7) hG dX6_readSum_75 rfl ?_
          refine pm_fg 3 (loc' := [some (.ref (B + 27)), some (.int 0), some (.int (x3_2 + 1)), none]) rfl ?_
          exact ih7 _ _ hE
        · replace hE := fx_f c5 hE
          refine pm_aloadn hG dX6_readSum_22 rfl ?_
          refine pm_callV (As := []) (rest := []) hG hR dX6_readSum_23 (lkX6_47 _ rfl) okV_X6_next rfl rfl (c_X6_next (d := 29) (by decide) rfl) rfl rfl hdd (Nat.le_refl _) (Nat.le_refl _) (by decide) (fx_ki ?_)
          refine pm_bipush (v := 45) hG dX6_readSum_26 (by decide) ?_
          refine pm_icmp_ne (tgt := 78) hG dX6_readSum_28 rfl (fun c11 => ?_) (fun c11 => ?_)
          · replace hE := fx_f c11 hE
            exact hk7 _ _ hE
          · replace hE := fx_t c11 hE
            refine pm_aloadn hG dX6_readSum_31 rfl ?_
            refine pm_callV (As := []) (rest := []) hG hR dX6_readSum_32 (lkX6_47 _ rfl) okV_X6_next rfl rfl (c_X6_next (d := 29) (by decide) rfl) rfl rfl hdd (Nat.le_refl _) (Nat.le_refl _) (by decide) (fx_ki ?_)
            refine pm_bipush (v := 43) hG dX6_readSum_35 (by decide) ?_
            refine pm_icmp_ne (tgt := 45) hG dX6_readSum_37 rfl (fun _ => ?_) (fun q => absurd q c5)
            refine pm_bipush (v := (-8)) hG dX6_readSum_45 (by decide) ?_
            refine pm_istoreXn (loc' := [some (.ref (B + 27)), some (.int 0), some (.int x3_2), some (.int (-8))]) hG dX6_readSum_47 (by decide) (pm_c1b rfl) rfl ?_
            refine pm_aloadn hG dX6_readSum_48 rfl ?_
            refine pm_dup hG dX6_readSum_49 rfl ?_
            refine pm_getf hG dX6_readSum_50 (flX6_26 _ rfl) rfl rfl ?_
            refine pm_iconst (v := 1) hG dX6_readSum_53 (by decide) ?_
            refine pm_iadd hG dX6_readSum_54 ?_
            refine pm_putf hG dX6_readSum_55 (fwX6_26 _ rfl) rfl rfl rfl ?_
            refine ci_105 ?_
            refine fx_letc hE (fun S12 hE => ?_)
            refine pm_aloadn hG dX6_readSum_58 rfl ?_
            refine pm_iloadn hG dX6_readSum_59 rfl ?_
            obtain ⟨r14, h13, hE⟩ := fb_some hE
            refine pm_callV (As := [.int 0]) (rest := []) hG hR dX6_readSum_60 (lkX6_60 _ rfl) okV_X6_readPart rfl rfl (c_X6_readPart_k0 (d := 29) (by decide) h13) rfl rfl hdd (Nat.le_refl _) (Nat.le_refl _) (by decide) (fx_kv ?_)
            refine pm_aloadn hG dX6_readSum_63 rfl ?_
            refine pm_getf hG dX6_readSum_64 (flX6_20 _ rfl) rfl rfl ?_
            refine pm_iloadn hG dX6_readSum_67 rfl ?_
            obtain ⟨r16, h15, hE⟩ := fb_some hE
            refine pm_callV (As := [.int (-8)]) (rest := []) hG hR dX6_readSum_68 (lkX6_50 _ rfl) okV_X9_append rfl rfl (tappend_28 (d := 29) (by decide) h15) rfl rfl hdd (Nat.le_refl _) (Nat.le_refl _) (by decide) (fx_ki ?_)
            refine pm_pop hG dX6_readSum_71 rfl ?_
            refine pm_iincX (v := x3_2 + 1) (loc' := [some (.ref (B + 27)), some (.int 0), some (.int (x3_2 + 1)), some (.int (-8))]) hG dX6_readSum_72 rfl (by rfl) (by decide) (pm_c1b rfl) rfl ?_
            refine pm_goto (tgt := 7) hG dX6_readSum_75 rfl ?_
            refine pm_fg 3 (loc' := [some (.ref (B + 27)), some (.int 0), some (.int (x3_2 + 1)), none]) rfl ?_
            exact ih7 _ _ hE
  refine loop7 _ (fun S17 x17_2 hE => ?_) _ _ _ hE
  exact pm_vret hG hF dX6_readSum_78 rfl (Nat.le_refl _) (Nat.le_refl _) (fx_rvc hE)

set_option maxRecDepth 100000 in
set_option maxHeartbeats 4000000 in
theorem c_X6_readComparison_k0 {d : Nat} {B cnt : Nat} {kp : Value} {ρ : pm_S} {S : FS} {R : Int32 × FS} (hdd : 31 ≤ d) (hE : f_X6_readComparison_k0 S = some R) : pm_met mX6_readComparison d 0 0 B [.ref (B + 27), .int 0] cnt (cst B kp S ρ) (pm_Qv (fun σ' cnt' => σ' = (cst B kp R.2 ρ) ∧ cnt' = cnt)) := by
  refine pm_enter 1 (by decide) (Nat.le_of_ble_eq_true rfl) rfl (fun G hG hR hF => ?_)
  unfold f_X6_readComparison_k0 at hE
  refine pm_aloadn hG dX6_readComparison_0 rfl ?_
  refine pm_iloadn hG dX6_readComparison_1 rfl ?_
  obtain ⟨r2, h1, hE⟩ := fb_some hE
  refine pm_callV (As := [.int 0]) (rest := []) hG hR dX6_readComparison_2 (lkX6_57 _ rfl) okV_X6_readSum rfl rfl (c_X6_readSum_k0 (d := 30) (by decide) h1) rfl rfl hdd (Nat.le_refl _) (Nat.le_refl _) (by decide) (fx_kv ?_)
  refine pm_aloadn hG dX6_readComparison_5 rfl ?_
  refine pm_callV (As := []) (rest := []) hG hR dX6_readComparison_6 (lkX6_47 _ rfl) okV_X6_next rfl rfl (c_X6_next (d := 30) (by decide) rfl) rfl rfl hdd (Nat.le_refl _) (Nat.le_refl _) (by decide) (fx_ki ?_)
  refine fx_letv hE (fun x3 hE => ?_)
  refine pm_istoreXn (loc' := [some (.ref (B + 27)), some (.int 0), some (.int x3)]) hG dX6_readComparison_9 (by decide) (pm_c1b rfl) rfl ?_
  refine pm_iloadn hG dX6_readComparison_10 rfl ?_
  refine pm_bipush (v := 60) hG dX6_readComparison_11 (by decide) ?_
  refine pm_icmp_eq (tgt := 28) hG dX6_readComparison_13 rfl (fun c4 => ?_) (fun c4 => ?_)
  · replace hE := fx_t c4 hE
    refine pm_aloadn hG dX6_readComparison_28 rfl ?_
    refine pm_dup hG dX6_readComparison_29 rfl ?_
    refine pm_getf hG dX6_readComparison_30 (flX6_26 _ rfl) rfl rfl ?_
    refine pm_iconst (v := 1) hG dX6_readComparison_33 (by decide) ?_
    refine pm_iadd hG dX6_readComparison_34 ?_
    refine pm_putf hG dX6_readComparison_35 (fwX6_26 _ rfl) rfl rfl rfl ?_
    refine ci_105 ?_
    refine fx_letc hE (fun S5 hE => ?_)
    refine pm_aloadn hG dX6_readComparison_38 rfl ?_
    refine pm_iloadn hG dX6_readComparison_39 rfl ?_
    obtain ⟨r7, h6, hE⟩ := fb_some hE
    refine pm_callV (As := [.int 0]) (rest := []) hG hR dX6_readComparison_40 (lkX6_57 _ rfl) okV_X6_readSum rfl rfl (c_X6_readSum_k0 (d := 30) (by decide) h6) rfl rfl hdd (Nat.le_refl _) (Nat.le_refl _) (by decide) (fx_kv ?_)
    refine pm_aloadn hG dX6_readComparison_43 rfl ?_
    refine pm_getf hG dX6_readComparison_44 (flX6_20 _ rfl) rfl rfl ?_
    refine pm_iloadn hG dX6_readComparison_47 rfl ?_
    refine pm_bipush (v := 60) hG dX6_readComparison_48 (by decide) ?_
    refine pm_icmp_ne (tgt := 58) hG dX6_readComparison_50 rfl (fun q => absurd c4 q) (fun _ => ?_)
    refine pm_bipush (v := (-4)) hG dX6_readComparison_53 (by decide) ?_
    refine pm_goto (tgt := 71) hG dX6_readComparison_55 rfl ?_
    obtain ⟨r9, h8, hE⟩ := fb_some hE
    refine pm_callV (As := [.int (-4)]) (rest := []) hG hR dX6_readComparison_71 (lkX6_50 _ rfl) okV_X9_append rfl rfl (tappend_28 (d := 30) (by decide) h8) rfl rfl hdd (Nat.le_refl _) (Nat.le_refl _) (by decide) (fx_ki ?_)
    refine pm_pop hG dX6_readComparison_74 rfl ?_
    exact pm_vret hG hF dX6_readComparison_75 rfl (Nat.le_refl _) (Nat.le_refl _) (fx_rvc hE)
  · replace hE := fx_f c4 hE
    refine pm_iloadn hG dX6_readComparison_16 rfl ?_
    refine pm_bipush (v := 61) hG dX6_readComparison_17 (by decide) ?_
    refine pm_icmp_eq (tgt := 28) hG dX6_readComparison_19 rfl (fun c10 => ?_) (fun c10 => ?_)
    · replace hE := fx_t c10 hE
      refine pm_aloadn hG dX6_readComparison_28 rfl ?_
      refine pm_dup hG dX6_readComparison_29 rfl ?_
      refine pm_getf hG dX6_readComparison_30 (flX6_26 _ rfl) rfl rfl ?_
      refine pm_iconst (v := 1) hG dX6_readComparison_33 (by decide) ?_
      refine pm_iadd hG dX6_readComparison_34 ?_
      refine pm_putf hG dX6_readComparison_35 (fwX6_26 _ rfl) rfl rfl rfl ?_
      refine ci_105 ?_
      refine fx_letc hE (fun S11 hE => ?_)
      refine pm_aloadn hG dX6_readComparison_38 rfl ?_
      refine pm_iloadn hG dX6_readComparison_39 rfl ?_
      obtain ⟨r13, h12, hE⟩ := fb_some hE
      refine pm_callV (As := [.int 0]) (rest := []) hG hR dX6_readComparison_40 (lkX6_57 _ rfl) okV_X6_readSum rfl rfl (c_X6_readSum_k0 (d := 30) (by decide) h12) rfl rfl hdd (Nat.le_refl _) (Nat.le_refl _) (by decide) (fx_kv ?_)
      refine pm_aloadn hG dX6_readComparison_43 rfl ?_
      refine pm_getf hG dX6_readComparison_44 (flX6_20 _ rfl) rfl rfl ?_
      refine pm_iloadn hG dX6_readComparison_47 rfl ?_
      refine pm_bipush (v := 60) hG dX6_readComparison_48 (by decide) ?_
      refine pm_icmp_ne (tgt := 58) hG dX6_readComparison_50 rfl (fun _ => ?_) (fun q => absurd q c4)
      refine pm_iloadn hG dX6_readComparison_58 rfl ?_
      refine pm_bipush (v := 61) hG dX6_readComparison_59 (by decide) ?_
      refine pm_icmp_ne (tgt := 69) hG dX6_readComparison_61 rfl (fun q => absurd c10 q) (fun _ => ?_)
      refine pm_bipush (v := (-5)) hG dX6_readComparison_64 (by decide) ?_
      refine pm_goto (tgt := 71) hG dX6_readComparison_66 rfl ?_
      obtain ⟨r15, h14, hE⟩ := fb_some hE
      refine pm_callV (As := [.int (-5)]) (rest := []) hG hR dX6_readComparison_71 (lkX6_50 _ rfl) okV_X9_append rfl rfl (tappend_28 (d := 30) (by decide) h14) rfl rfl hdd (Nat.le_refl _) (Nat.le_refl _) (by decide) (fx_ki ?_)
      refine pm_pop hG dX6_readComparison_74 rfl ?_
      exact pm_vret hG hF dX6_readComparison_75 rfl (Nat.le_refl _) (Nat.le_refl _) (fx_rvc hE)
    · replace hE := fx_f c10 hE
      refine pm_iloadn hG dX6_readComparison_22 rfl ?_
      refine pm_bipush (v := 62) hG dX6_readComparison_23 (by decide) ?_
      refine pm_icmp_ne (tgt := 75) hG dX6_readComparison_25 rfl (fun c16 => ?_) (fun c16 => ?_)
      · replace hE := fx_f c16 hE
        exact pm_vret hG hF dX6_readComparison_75 rfl (Nat.le_refl _) (Nat.le_refl _) (fx_rvc hE)
      · replace hE := fx_t c16 hE
        refine pm_aloadn hG dX6_readComparison_28 rfl ?_
        refine pm_dup hG dX6_readComparison_29 rfl ?_
        refine pm_getf hG dX6_readComparison_30 (flX6_26 _ rfl) rfl rfl ?_
        refine pm_iconst (v := 1) hG dX6_readComparison_33 (by decide) ?_
        refine pm_iadd hG dX6_readComparison_34 ?_
        refine pm_putf hG dX6_readComparison_35 (fwX6_26 _ rfl) rfl rfl rfl ?_
        refine ci_105 ?_
        refine fx_letc hE (fun S17 hE => ?_)
        refine pm_aloadn hG dX6_readComparison_38 rfl ?_
        refine pm_iloadn hG dX6_readComparison_39 rfl ?_
        obtain ⟨r19, h18, hE⟩ := fb_some hE
        refine pm_callV (As := [.int 0]) (rest := []) hG hR dX6_readComparison_40 (lkX6_57 _ rfl) okV_X6_readSum rfl rfl (c_X6_readSum_k0 (d := 30) (by decide) h18) rfl rfl hdd (Nat.le_refl _) (Nat.le_refl _) (by decide) (fx_kv ?_)
        refine pm_aloadn hG dX6_readComparison_43 rfl ?_
        refine pm_getf hG dX6_readComparison_44 (flX6_20 _ rfl) rfl rfl ?_
        refine pm_iloadn hG dX6_readComparison_47 rfl ?_
        refine pm_bipush (v := 60) hG dX6_readComparison_48 (by decide) ?_
        refine pm_icmp_ne (tgt := 58) hG dX6_readComparison_50 rfl (fun _ => ?_) (fun q => absurd q c4)
        refine pm_iloadn hG dX6_readComparison_58 rfl ?_
        refine pm_bipush (v := 61) hG dX6_readComparison_59 (by decide) ?_
        refine pm_icmp_ne (tgt := 69) hG dX6_readComparison_61 rfl (fun _ => ?_) (fun q => absurd q c10)
        refine pm_bipush (v := (-6)) hG dX6_readComparison_69 (by decide) ?_
        obtain ⟨r21, h20, hE⟩ := fb_some hE
        refine pm_callV (As := [.int (-6)]) (rest := []) hG hR dX6_readComparison_71 (lkX6_50 _ rfl) okV_X9_append rfl rfl (tappend_28 (d := 30) (by decide) h20) rfl rfl hdd (Nat.le_refl _) (Nat.le_refl _) (by decide) (fx_ki ?_)
        refine pm_pop hG dX6_readComparison_74 rfl ?_
        exact pm_vret hG hF dX6_readComparison_75 rfl (Nat.le_refl _) (Nat.le_refl _) (fx_rvc hE)

set_option maxRecDepth 100000 in
set_option maxHeartbeats 4000000 in
theorem c_X6_readConjunction_k0 {d : Nat} {B cnt : Nat} {kp : Value} {ρ : pm_S} {S : FS} {R : Int32 × FS} (hdd : 32 ≤ d) (hE : f_X6_readConjunction_k0 S = some R) : pm_met mX6_readConjunction d 0 0 B [.ref (B + 27), .int 0] cnt (cst B kp S ρ) (pm_Qv (fun σ' cnt' => σ' = (cst B kp R.2 ρ) ∧ cnt' = cnt)) := by
  refine pm_enter 1 (by decide) (Nat.le_of_ble_eq_true rfl) rfl (fun G hG hR hF => ?_)
  unfold f_X6_readConjunction_k0 at hE
  refine pm_aloadn hG dX6_readConjunction_0 rfl ?_
  refine pm_iloadn hG dX6_readConjunction_1 rfl ?_
  obtain ⟨r2, h1, hE⟩ := fb_some hE
  refine pm_callV (As := [.int 0]) (rest := []) hG hR dX6_readConjunction_2 (lkX6_54 _ rfl) okV_X6_readComparison rfl rfl (c_X6_readComparison_k0 (d := 31) (by decide) h1) rfl rfl hdd (Nat.le_refl _) (Nat.le_refl _) (by decide) (fx_kv ?_)
  refine pm_iconst (v := 0) hG dX6_readConjunction_5 (by decide) ?_
  refine pm_istoreXn (loc' := [some (.ref (B + 27)), some (.int 0), some (.int 0)]) hG dX6_readConjunction_6 (by decide) (pm_c1b rfl) rfl ?_
  have loop7 : ∀ (k7 : FS → Int32 → Option (Int32 × FS)), (∀ (S3 : FS) (x3_2 : Int32), k7 S3  x3_2 = some R → pm_wp mX6_readConjunction G B 53 [some (.ref (B + 27)), some (.int 0), some (.int x3_2)] [] 0 0 cnt (cst B kp S3 ρ)) → ∀ (m7 : Nat) (S3 : FS) (x3_2 : Int32), l_X6_readConjunction_k0_7 k7 m7 S3  x3_2 = some R → pm_wp mX6_readConjunction G B 7 [some (.ref (B + 27)), some (.int 0), some (.int x3_2)] [] 0 0 cnt (cst B kp S3 ρ) := by
    intro k7 hk7 m7
    induction m7 with
    | zero => intro S3  x3_2 hE; exact fx_no hE
    | succ m7 ih7 =>
      intro S3  x3_2 hE
      rw [l_X6_readConjunction_k0_7] at hE
      refine pm_iloadn hG dX6_readConjunction_7 rfl ?_
      refine pm_bipush (v := 60) hG dX6_readConjunction_8 (by decide) ?_
      refine pm_icmp_ge (tgt := 53) hG dX6_readConjunction_10 rfl (fun c4 => ?_) (fun c4 => ?_)
      · replace c4 := Int32.not_lt.mpr c4
        replace hE := fx_f c4 hE
        exact hk7 _ _ hE
      · replace c4 := Int32.not_le.mp c4
        replace hE := fx_t c4 hE
        refine pm_aloadn hG dX6_readConjunction_13 rfl ?_
        refine pm_callV (As := []) (rest := []) hG hR dX6_readConjunction_14 (lkX6_47 _ rfl) okV_X6_next rfl rfl (c_X6_next (d := 31) (by decide) rfl) rfl rfl hdd (Nat.le_refl _) (Nat.le_refl _) (by decide) (fx_ki ?_)
        refine pm_bipush (v := 38) hG dX6_readConjunction_17 (by decide) ?_
        refine pm_icmp_ne (tgt := 53) hG dX6_readConjunction_19 rfl (fun c5 => ?_) (fun c5 => ?_)
        · replace hE := fx_f c5 hE
          exact hk7 _ _ hE
        · replace hE := fx_t c5 hE
          refine pm_aloadn hG dX6_readConjunction_22 rfl ?_
          refine pm_dup hG dX6_readConjunction_23 rfl ?_
          refine pm_getf hG dX6_readConjunction_24 (flX6_26 _ rfl) rfl rfl ?_
          refine pm_iconst (v := 1) hG dX6_readConjunction_27 (by decide) ?_
          refine pm_iadd hG dX6_readConjunction_28 ?_
          refine pm_putf hG dX6_readConjunction_29 (fwX6_26 _ rfl) rfl rfl rfl ?_
          refine ci_105 ?_
          refine fx_letc hE (fun S6 hE => ?_)
          refine pm_aloadn hG dX6_readConjunction_32 rfl ?_
          refine pm_iloadn hG dX6_readConjunction_33 rfl ?_
          obtain ⟨r8, h7, hE⟩ := fb_some hE
          refine pm_callV (As := [.int 0]) (rest := []) hG hR dX6_readConjunction_34 (lkX6_54 _ rfl) okV_X6_readComparison rfl rfl (c_X6_readComparison_k0 (d := 31) (by decide) h7) rfl rfl hdd (Nat.le_refl _) (Nat.le_refl _) (by decide) (fx_kv ?_)
          refine pm_aloadn hG dX6_readConjunction_37 rfl ?_
          refine pm_getf hG dX6_readConjunction_38 (flX6_20 _ rfl) rfl rfl ?_
          refine pm_bipush (v := (-3)) hG dX6_readConjunction_41 (by decide) ?_
          obtain ⟨r10, h9, hE⟩ := fb_some hE
          refine pm_callV (As := [.int (-3)]) (rest := []) hG hR dX6_readConjunction_43 (lkX6_50 _ rfl) okV_X9_append rfl rfl (tappend_28 (d := 31) (by decide) h9) rfl rfl hdd (Nat.le_refl _) (Nat.le_refl _) (by decide) (fx_ki ?_)
          refine pm_pop hG dX6_readConjunction_46 rfl ?_
          refine pm_iincX (v := x3_2 + 1) (loc' := [some (.ref (B + 27)), some (.int 0), some (.int (x3_2 + 1))]) hG dX6_readConjunction_47 rfl (by rfl) (by decide) (pm_c1b rfl) rfl ?_
          refine pm_goto (tgt := 7) hG dX6_readConjunction_50 rfl ?_
          exact ih7 _ _ hE
  refine loop7 _ (fun S11 x11_2 hE => ?_) _ _ _ hE
  exact pm_vret hG hF dX6_readConjunction_53 rfl (Nat.le_refl _) (Nat.le_refl _) (fx_rvc hE)

set_option maxRecDepth 100000 in
set_option maxHeartbeats 4000000 in
theorem c_X6_readText_k0 {d : Nat} {B cnt : Nat} {kp : Value} {ρ : pm_S} {S : FS} {R : Int32 × FS} (hdd : 33 ≤ d) (hE : f_X6_readText_k0 S = some R) : pm_met mX6_readText d 0 0 B [.ref (B + 27), .int 0] cnt (cst B kp S ρ) (pm_Qv (fun σ' cnt' => σ' = (cst B kp R.2 ρ) ∧ cnt' = cnt)) := by
  refine pm_enter 1 (by decide) (Nat.le_of_ble_eq_true rfl) rfl (fun G hG hR hF => ?_)
  unfold f_X6_readText_k0 at hE
  refine pm_aloadn hG dX6_readText_0 rfl ?_
  refine pm_iloadn hG dX6_readText_1 rfl ?_
  obtain ⟨r2, h1, hE⟩ := fb_some hE
  refine pm_callV (As := [.int 0]) (rest := []) hG hR dX6_readText_2 (lkX6_44 _ rfl) okV_X6_readConjunction rfl rfl (c_X6_readConjunction_k0 (d := 32) (by decide) h1) rfl rfl hdd (Nat.le_refl _) (Nat.le_refl _) (by decide) (fx_kv ?_)
  refine pm_iconst (v := 0) hG dX6_readText_5 (by decide) ?_
  refine pm_istoreXn (loc' := [some (.ref (B + 27)), some (.int 0), some (.int 0)]) hG dX6_readText_6 (by decide) (pm_c1b rfl) rfl ?_
  have loop7 : ∀ (k7 : FS → Int32 → Option (Int32 × FS)), (∀ (S3 : FS) (x3_2 : Int32), k7 S3  x3_2 = some R → pm_wp mX6_readText G B 53 [some (.ref (B + 27)), some (.int 0), some (.int x3_2)] [] 0 0 cnt (cst B kp S3 ρ)) → ∀ (m7 : Nat) (S3 : FS) (x3_2 : Int32), l_X6_readText_k0_7 k7 m7 S3  x3_2 = some R → pm_wp mX6_readText G B 7 [some (.ref (B + 27)), some (.int 0), some (.int x3_2)] [] 0 0 cnt (cst B kp S3 ρ) := by
    intro k7 hk7 m7
    induction m7 with
    | zero => intro S3  x3_2 hE; exact fx_no hE
    | succ m7 ih7 =>
      intro S3  x3_2 hE
      rw [l_X6_readText_k0_7] at hE
      refine pm_iloadn hG dX6_readText_7 rfl ?_
      refine pm_bipush (v := 60) hG dX6_readText_8 (by decide) ?_
      refine pm_icmp_ge (tgt := 53) hG dX6_readText_10 rfl (fun c4 => ?_) (fun c4 => ?_)
      · replace c4 := Int32.not_lt.mpr c4
        replace hE := fx_f c4 hE
        exact hk7 _ _ hE
      · replace c4 := Int32.not_le.mp c4
        replace hE := fx_t c4 hE
        refine pm_aloadn hG dX6_readText_13 rfl ?_
        refine pm_callV (As := []) (rest := []) hG hR dX6_readText_14 (lkX6_47 _ rfl) okV_X6_next rfl rfl (c_X6_next (d := 32) (by decide) rfl) rfl rfl hdd (Nat.le_refl _) (Nat.le_refl _) (by decide) (fx_ki ?_)
        refine pm_bipush (v := 124) hG dX6_readText_17 (by decide) ?_
        refine pm_icmp_ne (tgt := 53) hG dX6_readText_19 rfl (fun c5 => ?_) (fun c5 => ?_)
        · replace hE := fx_f c5 hE
          exact hk7 _ _ hE
        · replace hE := fx_t c5 hE
          refine pm_aloadn hG dX6_readText_22 rfl ?_
          refine pm_dup hG dX6_readText_23 rfl ?_
          refine pm_getf hG dX6_readText_24 (flX6_26 _ rfl) rfl rfl ?_
          refine pm_iconst (v := 1) hG dX6_readText_27 (by decide) ?_
          refine pm_iadd hG dX6_readText_28 ?_
          refine pm_putf hG dX6_readText_29 (fwX6_26 _ rfl) rfl rfl rfl ?_
          refine ci_105 ?_
          refine fx_letc hE (fun S6 hE => ?_)
          refine pm_aloadn hG dX6_readText_32 rfl ?_
          refine pm_iloadn hG dX6_readText_33 rfl ?_
          obtain ⟨r8, h7, hE⟩ := fb_some hE
          refine pm_callV (As := [.int 0]) (rest := []) hG hR dX6_readText_34 (lkX6_44 _ rfl) okV_X6_readConjunction rfl rfl (c_X6_readConjunction_k0 (d := 32) (by decide) h7) rfl rfl hdd (Nat.le_refl _) (Nat.le_refl _) (by decide) (fx_kv ?_)
          refine pm_aloadn hG dX6_readText_37 rfl ?_
          refine pm_getf hG dX6_readText_38 (flX6_20 _ rfl) rfl rfl ?_
          refine pm_bipush (v := (-2)) hG dX6_readText_41 (by decide) ?_
          obtain ⟨r10, h9, hE⟩ := fb_some hE
          refine pm_callV (As := [.int (-2)]) (rest := []) hG hR dX6_readText_43 (lkX6_50 _ rfl) okV_X9_append rfl rfl (tappend_28 (d := 32) (by decide) h9) rfl rfl hdd (Nat.le_refl _) (Nat.le_refl _) (by decide) (fx_ki ?_)
          refine pm_pop hG dX6_readText_46 rfl ?_
          refine pm_iincX (v := x3_2 + 1) (loc' := [some (.ref (B + 27)), some (.int 0), some (.int (x3_2 + 1))]) hG dX6_readText_47 rfl (by rfl) (by decide) (pm_c1b rfl) rfl ?_
          refine pm_goto (tgt := 7) hG dX6_readText_50 rfl ?_
          exact ih7 _ _ hE
  refine loop7 _ (fun S11 x11_2 hE => ?_) _ _ _ hE
  exact pm_vret hG hF dX6_readText_53 rfl (Nat.le_refl _) (Nat.le_refl _) (fx_rvc hE)
