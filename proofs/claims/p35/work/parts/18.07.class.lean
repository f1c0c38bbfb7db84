set_option maxRecDepth 100000 in
set_option maxHeartbeats 4000000 in
theorem g_X6_readPart_k5 {ε : Nat → Int32} {d B cnt : Nat} {kp : pm_KP} {ρ : pm_S} {I : Nat → Int32} {A : Nat → Nat → Int32} (hdd : 4 ≤ d) (h : gq ε I) : pm_met mX6_readPart d 0 0 B [.ref (B + 27), .int 5] cnt (pm_two (cl_L B kp I A) ρ) (pm_Qv (fun σ' cnt' => hvq ε B kp ρ cnt σ' cnt')) := by
  refine pm_enter 2 (by decide) (Nat.le_of_ble_eq_true rfl) rfl (fun G hG hR hF => ?_)
  refine pm_aloadn hG dX6_readPart_0 rfl ?_
  refine pm_callV (As := []) (rest := []) hG hR dX6_readPart_1 (lkX6_47 _ rfl) okV_X6_next rfl rfl (g_X6_next (d := 3) (by decide) h) rfl rfl hdd (Nat.le_refl _) (Nat.le_refl _) (by decide) (pm_ki (fun v1 σ' cnt' hq => ?_))
  obtain ⟨I1, A1, rfl, rfl, h1⟩ := hq
  refine pm_istoreXn (loc' := [some (.ref (B + 27)), some (.int 5), some (.int v1), none]) hG dX6_readPart_4 (by decide) (pm_c1b rfl) rfl ?_
  refine pm_iloadn hG dX6_readPart_5 rfl ?_
  refine pm_if_ge (tgt := 13) hG dX6_readPart_6 rfl (fun c2 => ?_) (fun c2 => ?_)
  · refine pm_ldcN hG rfl dX6_readPart_13 (fun q3 z3 hN3 => ?_)
    refine pm_iloadn hG dX6_readPart_15 rfl ?_
    refine pm_i2c hG dX6_readPart_16 (fun v4 => ?_)
    refine pm_callVN (As := [.int v4]) (rest := []) hN3 hG hR dX6_readPart_17 (lpX6_65 _ rfl) okV_J0_indexOf_0f7a4 rfl (gj_iof (d := 3) (by decide)) rfl rfl hdd (Nat.le_refl _) (Nat.le_refl _) (by decide) (pm_ki (fun v5 σ' cnt' hq => ?_))
    obtain ⟨I5, A5, rfl, rfl, h5⟩ := hv_id (kp := kp) (I := I1) (A := A1) h1 hq
    refine pm_istoreXn (loc' := [some (.ref (B + 27)), some (.int 5), some (.int v1), some (.int v5)]) hG dX6_readPart_20 (by decide) (pm_c1b rfl) rfl ?_
    refine pm_iloadn hG dX6_readPart_21 rfl ?_
    refine pm_callS (As := [.int v1]) (rest := []) hG hR dX6_readPart_22 (lkX6_70 _ rfl) okS_X6_isDigit (g_X6_isDigit (d := 3) (by decide) h5) rfl rfl hdd (Nat.le_refl _) (Nat.le_refl _) (by decide) (pm_ki (fun v6 σ' cnt' hq => ?_))
    obtain ⟨b6, I6, A6, rfl, rfl, h6⟩ := hq
    refine pm_if_eq (tgt := 35) hG dX6_readPart_25 rfl (fun c7 => ?_) (fun c7 => ?_)
    · refine pm_iloadn hG dX6_readPart_35 rfl ?_
      refine pm_if_lt (tgt := 64) hG dX6_readPart_36 rfl (fun c8 => ?_) (fun c8 => ?_)
      · refine pm_iloadn hG dX6_readPart_64 rfl ?_
        refine pm_bipush (v := 33) hG dX6_readPart_65 (by decide) ?_
        refine pm_icmp_ne (tgt := 104) hG dX6_readPart_67 rfl (fun c9 => ?_) (fun c9 => ?_)
        · refine pm_iloadn hG dX6_readPart_104 rfl ?_
          refine pm_bipush (v := 40) hG dX6_readPart_105 (by decide) ?_
          refine pm_icmp_ne (tgt := 139) hG dX6_readPart_107 rfl (fun c10 => ?_) (fun c10 => ?_)
          · refine pm_aloadn hG dX6_readPart_139 rfl ?_
            refine pm_callV (As := []) (rest := []) hG hR dX6_readPart_140 (lkX6_41 _ rfl) okV_X6_fail rfl rfl (g_X6_fail (d := 3) (by decide) h6) rfl rfl hdd (Nat.le_refl _) (Nat.le_refl _) (by decide) (pm_kv (fun σ' cnt' hq => ?_))
            obtain ⟨I11, A11, rfl, rfl, h11⟩ := hq
            exact pm_vret hG hF dX6_readPart_143 rfl (Nat.le_refl _) (Nat.le_refl _) ⟨rfl, _, _, rfl, rfl, h11⟩
          · refine pm_iloadn hG dX6_readPart_110 rfl ?_
            refine pm_iconst (v := 5) hG dX6_readPart_111 (by decide) ?_
            refine pm_icmp_ge (tgt := 139) hG dX6_readPart_112 rfl (fun _ => ?_) (fun q => absurd q (by decide))
            refine pm_aloadn hG dX6_readPart_139 rfl ?_
            refine pm_callV (As := []) (rest := []) hG hR dX6_readPart_140 (lkX6_41 _ rfl) okV_X6_fail rfl rfl (g_X6_fail (d := 3) (by decide) h6) rfl rfl hdd (Nat.le_refl _) (Nat.le_refl _) (by decide) (pm_kv (fun σ' cnt' hq => ?_))
            obtain ⟨I12, A12, rfl, rfl, h12⟩ := hq
            exact pm_vret hG hF dX6_readPart_143 rfl (Nat.le_refl _) (Nat.le_refl _) ⟨rfl, _, _, rfl, rfl, h12⟩
        · refine pm_iloadn hG dX6_readPart_70 rfl ?_
          refine pm_iconst (v := 5) hG dX6_readPart_71 (by decide) ?_
          refine pm_icmp_ge (tgt := 104) hG dX6_readPart_72 rfl (fun _ => ?_) (fun q => absurd q (by decide))
          refine pm_iloadn hG dX6_readPart_104 rfl ?_
          refine pm_bipush (v := 40) hG dX6_readPart_105 (by decide) ?_
          refine pm_icmp_ne (tgt := 139) hG dX6_readPart_107 rfl (fun c13 => ?_) (fun c13 => ?_)
          · refine pm_aloadn hG dX6_readPart_139 rfl ?_
            refine pm_callV (As := []) (rest := []) hG hR dX6_readPart_140 (lkX6_41 _ rfl) okV_X6_fail rfl rfl (g_X6_fail (d := 3) (by decide) h6) rfl rfl hdd (Nat.le_refl _) (Nat.le_refl _) (by decide) (pm_kv (fun σ' cnt' hq => ?_))
            obtain ⟨I14, A14, rfl, rfl, h14⟩ := hq
            exact pm_vret hG hF dX6_readPart_143 rfl (Nat.le_refl _) (Nat.le_refl _) ⟨rfl, _, _, rfl, rfl, h14⟩
          · refine pm_iloadn hG dX6_readPart_110 rfl ?_
            refine pm_iconst (v := 5) hG dX6_readPart_111 (by decide) ?_
            refine pm_icmp_ge (tgt := 139) hG dX6_readPart_112 rfl (fun _ => ?_) (fun q => absurd q (by decide))
            refine pm_aloadn hG dX6_readPart_139 rfl ?_
            refine pm_callV (As := []) (rest := []) hG hR dX6_readPart_140 (lkX6_41 _ rfl) okV_X6_fail rfl rfl (g_X6_fail (d := 3) (by decide) h6) rfl rfl hdd (Nat.le_refl _) (Nat.le_refl _) (by decide) (pm_kv (fun σ' cnt' hq => ?_))
            obtain ⟨I15, A15, rfl, rfl, h15⟩ := hq
            exact pm_vret hG hF dX6_readPart_143 rfl (Nat.le_refl _) (Nat.le_refl _) ⟨rfl, _, _, rfl, rfl, h15⟩
      · refine pm_aloadn hG dX6_readPart_39 rfl ?_
        refine pm_dup hG dX6_readPart_40 rfl ?_
        refine pm_getf hG dX6_readPart_41 (flX6_26 _ rfl) rfl rfl ?_
        refine pm_iconst (v := 1) hG dX6_readPart_44 (by decide) ?_
        refine pm_iadd hG dX6_readPart_45 ?_
        refine pm_putf hG dX6_readPart_46 (fwX6_26 _ rfl) rfl rfl rfl ?_
        refine pm_nrm (L' := cl_L B kp (ui I6 105 ((I6 105) + 1)) A6) (by decide) (Nat.le_of_ble_eq_true rfl) rfl ?_
        refine pm_aloadn hG dX6_readPart_49 rfl ?_
        refine pm_getf hG dX6_readPart_50 (flX6_20 _ rfl) rfl rfl ?_
        refine pm_bipush (v := (-20)) hG dX6_readPart_53 (by decide) ?_
        refine pm_iloadn hG dX6_readPart_55 rfl ?_
        refine pm_isub hG dX6_readPart_56 ?_
        obtain ⟨k17, hk17, hu17⟩ := gq.used (gq.wi (k := 105) rfl h6) 28 60 (by decide)
        have ht17 : pm_two (cl_L B kp (ui I6 105 ((I6 105) + 1)) A6) ρ 28 = some (.inr (9, [.int (nI 60), .int (nI 1), .ref (B + 29), .int (nI k17)])) := by rw [← hu17]; rfl
        refine pm_callV (As := [.int ((-20) - v5)]) (rest := []) hG hR dX6_readPart_57 (lkX6_50 _ rfl) okV_X9_append rfl rfl (tb_append (d := 3) (by decide) ht17 rfl (by decide) (by decide) (by decide) (by decide) (by decide) (by decide) hk17) rfl rfl hdd (Nat.le_refl _) (Nat.le_refl _) (by decide) (pm_ki (fun v17 σ' cnt' hq => ?_))
        obtain ⟨I17, A17, rfl, rfl, h17⟩ := hv_p28 (kp := kp) (I := (ui I6 105 ((I6 105) + 1))) (A := A6) hk17 (gq.wi (k := 105) rfl h6) hq
        refine pm_pop hG dX6_readPart_60 rfl ?_
        refine pm_goto (tgt := 143) hG dX6_readPart_61 rfl ?_
        exact pm_vret hG hF dX6_readPart_143 rfl (Nat.le_refl _) (Nat.le_refl _) ⟨rfl, _, _, rfl, rfl, h17⟩
    · refine pm_aloadn hG dX6_readPart_28 rfl ?_
      refine pm_callV (As := []) (rest := []) hG hR dX6_readPart_29 (lkX6_74 _ rfl) okV_X6_readNumber rfl rfl (g_X6_readNumber (d := 3) (by decide) h6) rfl rfl hdd (Nat.le_refl _) (Nat.le_refl _) (by decide) (pm_kv (fun σ' cnt' hq => ?_))
      obtain ⟨I18, A18, rfl, rfl, h18⟩ := hq
      refine pm_goto (tgt := 143) hG dX6_readPart_32 rfl ?_
      exact pm_vret hG hF dX6_readPart_143 rfl (Nat.le_refl _) (Nat.le_refl _) ⟨rfl, _, _, rfl, rfl, h18⟩
  · refine pm_iconst (v := (-1)) hG dX6_readPart_9 (by decide) ?_
    refine pm_goto (tgt := 20) hG dX6_readPart_10 rfl ?_
    refine pm_istoreXn (loc' := [some (.ref (B + 27)), some (.int 5), some (.int v1), some (.int (-1))]) hG dX6_readPart_20 (by decide) (pm_c1b rfl) rfl ?_
    refine pm_iloadn hG dX6_readPart_21 rfl ?_
    refine pm_callS (As := [.int v1]) (rest := []) hG hR dX6_readPart_22 (lkX6_70 _ rfl) okS_X6_isDigit (g_X6_isDigit (d := 3) (by decide) h1) rfl rfl hdd (Nat.le_refl _) (Nat.le_refl _) (by decide) (pm_ki (fun v19 σ' cnt' hq => ?_))
    obtain ⟨b19, I19, A19, rfl, rfl, h19⟩ := hq
    refine pm_if_eq (tgt := 35) hG dX6_readPart_25 rfl (fun c20 => ?_) (fun c20 => ?_)
    · refine pm_iloadn hG dX6_readPart_35 rfl ?_
      refine pm_if_lt (tgt := 64) hG dX6_readPart_36 rfl (fun _ => ?_) (fun q => absurd q (by decide))
      refine pm_iloadn hG dX6_readPart_64 rfl ?_
      refine pm_bipush (v := 33) hG dX6_readPart_65 (by decide) ?_
      refine pm_icmp_ne (tgt := 104) hG dX6_readPart_67 rfl (fun c21 => ?_) (fun c21 => ?_)
      · refine pm_iloadn hG dX6_readPart_104 rfl ?_
        refine pm_bipush (v := 40) hG dX6_readPart_105 (by decide) ?_
        refine pm_icmp_ne (tgt := 139) hG dX6_readPart_107 rfl (fun c22 => ?_) (fun c22 => ?_)
        · refine pm_aloadn hG dX6_readPart_139 rfl ?_
          refine pm_callV (As := []) (rest := []) hG hR dX6_readPart_140 (lkX6_41 _ rfl) okV_X6_fail rfl rfl (g_X6_fail (d := 3) (by decide) h19) rfl rfl hdd (Nat.le_refl _) (Nat.le_refl _) (by decide) (pm_kv (fun σ' cnt' hq => ?_))
          obtain ⟨I23, A23, rfl, rfl, h23⟩ := hq
          exact pm_vret hG hF dX6_readPart_143 rfl (Nat.le_refl _) (Nat.le_refl _) ⟨rfl, _, _, rfl, rfl, h23⟩
        · refine pm_iloadn hG dX6_readPart_110 rfl ?_
          refine pm_iconst (v := 5) hG dX6_readPart_111 (by decide) ?_
          refine pm_icmp_ge (tgt := 139) hG dX6_readPart_112 rfl (fun _ => ?_) (fun q => absurd q (by decide))
          refine pm_aloadn hG dX6_readPart_139 rfl ?_
          refine pm_callV (As := []) (rest := []) hG hR dX6_readPart_140 (lkX6_41 _ rfl) okV_X6_fail rfl rfl (g_X6_fail (d := 3) (by decide) h19) rfl rfl hdd (Nat.le_refl _) (Nat.le_refl _) (by decide) (pm_kv (fun σ' cnt' hq => ?_))
          obtain ⟨I24, A24, rfl, rfl, h24⟩ := hq
          exact pm_vret hG hF dX6_readPart_143 rfl (Nat.le_refl _) (Nat.le_refl _) ⟨rfl, _, _, rfl, rfl, h24⟩
      · refine pm_iloadn hG dX6_readPart_70 rfl ?_
        refine pm_iconst (v := 5) hG dX6_readPart_71 (by decide) ?_
        refine pm_icmp_ge (tgt := 104) hG dX6_readPart_72 rfl (fun _ => ?_) (fun q => absurd q (by decide))
        refine pm_iloadn hG dX6_readPart_104 rfl ?_
        refine pm_bipush (v := 40) hG dX6_readPart_105 (by decide) ?_
        refine pm_icmp_ne (tgt := 139) hG dX6_readPart_107 rfl (fun c25 => ?_) (fun c25 => ?_)
        · refine pm_aloadn hG dX6_readPart_139 rfl ?_
          refine pm_callV (As := []) (rest := []) hG hR dX6_readPart_140 (lkX6_41 _ rfl) okV_X6_fail rfl rfl (g_X6_fail (d := 3) (by decide) h19) rfl rfl hdd (Nat.le_refl _) (Nat.le_refl _) (by decide) (pm_kv (fun σ' cnt' hq => ?_))
          obtain ⟨I26, A26, rfl, rfl, h26⟩ := hq
          exact pm_vret hG hF dX6_readPart_143 rfl (Nat.le_refl _) (Nat.le_refl _) ⟨rfl, _, _, rfl, rfl, h26⟩
        · refine pm_iloadn hG dX6_readPart_110 rfl ?_
          refine pm_iconst (v := 5) hG dX6_readPart_111 (by decide) ?_
          refine pm_icmp_ge (tgt := 139) hG dX6_readPart_112 rfl (fun _ => ?_) (fun q => absurd q (by decide))
          refine pm_aloadn hG dX6_readPart_139 rfl ?_
          refine pm_callV (As := []) (rest := []) hG hR dX6_readPart_140 (lkX6_41 _ rfl) okV_X6_fail rfl rfl (g_X6_fail (d := 3) (by decide) h19) rfl rfl hdd (Nat.le_refl _) (Nat.le_refl _) (by decide) (pm_kv (fun σ' cnt' hq => ?_))
          obtain ⟨I27, A27, rfl, rfl, h27⟩ := hq
          exact pm_vret hG hF dX6_readPart_143 rfl (Nat.le_refl _) (Nat.le_refl _) ⟨rfl, _, _, rfl, rfl, h27⟩
    · refine pm_aloadn hG dX6_readPart_28 rfl ?_
      refine pm_callV (As := []) (rest := []) hG hR dX6_readPart_29 (lkX6_74 _ rfl) okV_X6_readNumber rfl rfl (g_X6_readNumber (d := 3) (by decide) h19) rfl rfl hdd (Nat.le_refl _) (Nat.le_refl _) (by decide) (pm_kv (fun σ' cnt' hq => ?_))
      obtain ⟨I28, A28, rfl, rfl, h28⟩ := hq
      refine pm_goto (tgt := 143) hG dX6_readPart_32 rfl ?_
      exact pm_vret hG hF dX6_readPart_143 rfl (Nat.le_refl _) (Nat.le_refl _) ⟨rfl, _, _, rfl, rfl, h28⟩

set_option maxRecDepth 100000 in
set_option maxHeartbeats 4000000 in
theorem g_X6_readSum_k5 {ε : Nat → Int32} {d B cnt : Nat} {kp : pm_KP} {ρ : pm_S} {I : Nat → Int32} {A : Nat → Nat → Int32} (hdd : 5 ≤ d) (h : gq ε I) : pm_met mX6_readSum d 0 0 B [.ref (B + 27), .int 5] cnt (pm_two (cl_L B kp I A) ρ) (pm_Qv (fun σ' cnt' => hvq ε B kp ρ cnt σ' cnt')) := by
  refine pm_enter 2 (by decide) (Nat.le_of_ble_eq_true rfl) rfl (fun G hG hR hF => ?_)
  refine pm_aloadn hG dX6_readSum_0 rfl ?_
  refine pm_iloadn hG dX6_readSum_1 rfl ?_
  refine pm_callV (As := [.int 5]) (rest := []) hG hR dX6_readSum_2 (lkX6_60 _ rfl) okV_X6_readPart rfl rfl (g_X6_readPart_k5 (d := 4) (by decide) h) rfl rfl hdd (Nat.le_refl _) (Nat.le_refl _) (by decide) (pm_kv (fun σ' cnt' hq => ?_))
  obtain ⟨I1, A1, rfl, rfl, h1⟩ := hq
  refine pm_iconst (v := 0) hG dX6_readSum_5 (by decide) ?_
  refine pm_istoreXn (loc' := [some (.ref (B + 27)), some (.int 5), some (.int 0), none]) hG dX6_readSum_6 (by decide) (pm_c1b rfl) rfl ?_
  have loop7 : ∀ (m7 : Nat) (I2 : Nat → Int32) (A2 : Nat → Nat → Int32) (x2_2 : Int32), gq ε I2 → (¬ x2_2 < 0) → ((60 : Int32).toInt - x2_2.toInt).toNat < m7 → pm_wp mX6_readSum G B 7 [some (.ref (B + 27)), some (.int 5), some (.int x2_2), none] [] 0 0 cnt (pm_two (cl_L B kp I2 A2) ρ) := by
    intro m7
    induction m7 with
    | zero => intro I2 A2 x2_2 _  _ hm; exact absurd hm (Nat.not_lt_zero _)
    | succ m7 ih7 =>
      intro I2 A2 x2_2 h2 s7 hm7
      refine pm_iloadn hG dX6_readSum_7 rfl ?_
      refine pm_bipush (v := 60) hG dX6_readSum_8 (by decide) ?_
      refine pm_icmp_ge (tgt := 78) hG dX6_readSum_10 rfl (fun c3 => ?_) (fun c3 => ?_)
      · exact pm_vret hG hF dX6_readSum_78 rfl (Nat.le_refl _) (Nat.le_refl _) ⟨rfl, _, _, rfl, rfl, h2⟩
      · refine pm_aloadn hG dX6_readSum_13 rfl ?_
        refine pm_callV (As := []) (rest := []) hG hR dX6_readSum_14 (lkX6_47 _ rfl) okV_X6_next rfl rfl (g_X6_next (d := 4) (by decide) h2) rfl rfl hdd (Nat.le_refl _) (Nat.le_refl _) (by decide) (pm_ki (fun v4 σ' cnt' hq => ?_))
        obtain ⟨I4, A4, rfl, rfl, h4⟩ := hq
        refine pm_bipush (v := 43) hG dX6_readSum_17 (by decide) ?_
        refine pm_icmp_eq (tgt := 31) hG dX6_readSum_19 rfl (fun c5 => ?_) (fun c5 => ?_)
        · refine pm_aloadn hG dX6_readSum_31 rfl ?_
          refine pm_callV (As := []) (rest := []) hG hR dX6_readSum_32 (lkX6_47 _ rfl) okV_X6_next rfl rfl (g_X6_next (d := 4) (by decide) h4) rfl rfl hdd (Nat.le_refl _) (Nat.le_refl _) (by decide) (pm_ki (fun v6 σ' cnt' hq => ?_))
          obtain ⟨I6, A6, rfl, rfl, h6⟩ := hq
          refine pm_bipush (v := 43) hG dX6_readSum_35 (by decide) ?_
          refine pm_icmp_ne (tgt := 45) hG dX6_readSum_37 rfl (fun c7 => ?_) (fun c7 => ?_)
          · refine pm_bipush (v := (-8)) hG dX6_readSum_45 (by decide) ?_
            refine pm_istoreXn (loc' := [some (.ref (B + 27)), some (.int 5), some (.int x2_2), some (.int (-8))]) hG dX6_readSum_47 (by decide) (pm_c1b rfl) rfl ?_
            refine pm_aloadn hG dX6_readSum_48 rfl ?_
            refine pm_dup hG dX6_readSum_49 rfl ?_
            refine pm_getf hG dX6_readSum_50 (flX6_26 _ rfl) rfl rfl ?_
            refine pm_iconst (v := 1) hG dX6_readSum_53 (by decide) ?_
            refine pm_iadd hG dX6_readSum_54 ?_
            refine pm_putf hG dX6_readSum_55 (fwX6_26 _ rfl) rfl rfl rfl ?_
            refine pm_nrm (L' := cl_L B kp (ui I6 105 ((I6 105) + 1)) A6) (by decide) (Nat.le_of_ble_eq_true rfl) rfl ?_
            refine pm_aloadn hG dX6_readSum_58 rfl ?_
            refine pm_iloadn hG dX6_readSum_59 rfl ?_
            refine pm_callV (As := [.int 5]) (rest := []) hG hR dX6_readSum_60 (lkX6_60 _ rfl) okV_X6_readPart rfl rfl (g_X6_readPart_k5 (d := 4) (by decide) (gq.wi (k := 105) rfl h6)) rfl rfl hdd (Nat.le_refl _) (Nat.le_refl _) (by decide) (pm_kv (fun σ' cnt' hq => ?_))
            obtain ⟨I9, A9, rfl, rfl, h9⟩ := hq
            refine pm_aloadn hG dX6_readSum_63 rfl ?_
            refine pm_getf hG dX6_readSum_64 (flX6_20 _ rfl) rfl rfl ?_
            refine pm_iloadn hG dX6_readSum_67 rfl ?_
            obtain ⟨k10, hk10, hu10⟩ := gq.used h9 28 60 (by decide)
            have ht10 : pm_two (cl_L B kp I9 A9) ρ 28 = some (.inr (9, [.int (nI 60), .int (nI 1), .ref (B + 29), .int (nI k10)])) := by rw [← hu10]; rfl
            refine pm_callV (As := [.int (-8)]) (rest := []) hG hR dX6_readSum_68 (lkX6_50 _ rfl) okV_X9_append rfl rfl (tb_append (d := 4) (by decide) ht10 rfl (by decide) (by decide) (by decide) (by decide) (by decide) (by decide) hk10) rfl rfl hdd (Nat.le_refl _) (Nat.le_refl _) (by decide) (pm_ki (fun v10 σ' cnt' hq => ?_))
            obtain ⟨I10, A10, rfl, rfl, h10⟩ := hv_p28 (kp := kp) (I := I9) (A := A9) hk10 h9 hq
            refine pm_pop hG dX6_readSum_71 rfl ?_
            refine pm_iincX (v := x2_2 + 1) (loc' := [some (.ref (B + 27)), some (.int 5), some (.int (x2_2 + 1)), some (.int (-8))]) hG dX6_readSum_72 rfl (by rfl) (by decide) (pm_c1b rfl) rfl ?_
            refine pm_goto (tgt := 7) hG dX6_readSum_75 rfl ?_
            refine pm_fg 3 (loc' := [some (.ref (B + 27)), some (.int 5), some (.int (x2_2 + 1)), none]) rfl ?_
            exact ih7 _ _ (x2_2 + 1) h10 (pm_sd1 c3 s7) (Nat.lt_of_lt_of_le (pm_mu1 c3) (Nat.le_of_lt_succ hm7))
          · refine pm_bipush (v := (-7)) hG dX6_readSum_40 (by decide) ?_
            refine pm_goto (tgt := 47) hG dX6_readSum_42 rfl ?_
            refine pm_istoreXn (loc' := [some (.ref (B + 27)), some (.int 5), some (.int x2_2), some (.int (-7))]) hG dX6_readSum_47 (by decide) (pm_c1b rfl) rfl ?_
            refine pm_aloadn hG dX6_readSum_48 rfl ?_
            refine pm_dup hG dX6_readSum_49 rfl ?_
            refine pm_getf hG dX6_readSum_50 (flX6_26 _ rfl) rfl rfl ?_
            refine pm_iconst (v := 1) hG dX6_readSum_53 (by decide) ?_
            refine pm_iadd hG dX6_readSum_54 ?_
            refine pm_putf hG dX6_readSum_55 (fwX6_26 _ rfl) rfl rfl rfl ?_
            refine pm_nrm (L' := cl_L B kp (ui I6 105 ((I6 105) + 1)) A6) (by decide) (Nat.le_of_ble_eq_true rfl) rfl ?_
            refine pm_aloadn hG dX6_readSum_58 rfl ?_
            refine pm_iloadn hG dX6_readSum_59 rfl ?_
            refine pm_callV (As := [.int 5]) (rest := []) hG hR dX6_readSum_60 (lkX6_60 _ rfl) okV_X6_readPart rfl rfl (g_X6_readPart_k5 (d := 4) (by decide) (gq.wi (k := 105) rfl h6)) rfl rfl hdd (Nat.le_refl _) (Nat.le_refl _) (by decide) (pm_kv (fun σ' cnt' hq => ?_))
            obtain ⟨I12, A12, rfl, rfl, h12⟩ := hq
            refine pm_aloadn hG dX6_readSum_63 rfl ?_
            refine pm_getf hG dX6_readSum_64 (flX6_20 _ rfl) rfl rfl ?_
            refine pm_iloadn hG dX6_readSum_67 rfl ?_
            obtain ⟨k13, hk13, hu13⟩ := gq.used h12 28 60 (by decide)
            have ht13 : pm_two (cl_L B kp I12 A12) ρ 28 = some (.inr (9, [.int (nI 60), .int (nI 1), .ref (B + 29), .int (nI k13)])) := by rw [← hu13]; rfl
            refine pm_callV (As := [.int (-7)]) (rest := []) hG hR dX6_readSum_68 (lkX6_50 _ rfl) okV_X9_append rfl rfl (tb_append (d := 4) (by decide) ht13 rfl (by decide) (by decide) (by decide) (by decide) (by decide) (by decide) hk13) rfl rfl hdd (Nat.le_refl _) (Nat.le_refl _) (by decide) (pm_ki (fun v13 σ' cnt' hq => ?_))
            obtain ⟨I13, A13, rfl, rfl, h13⟩ := hv_p28 (kp := kp) (I := I12) (A := A12) hk13 h12 hq
            refine pm_pop hG dX6_readSum_71 rfl ?_
            refine pm_iincX (v := x2_2 + 1) (loc' := [some (.ref (B + 27)), some (.int 5), some (.int (x2_2 + 1)), some (.int (-7))]) hG dX6_readSum_72 rfl (by rfl) (by decide) (pm_c1b rfl) rfl ?_
            refine pm_goto (tgt := 7) hG dX6_readSum_75 rfl ?_
            refine pm_fg 3 (loc' := [some (.ref (B + 27)), some (.int 5), some (.int (x2_2 + 1)), none]) rfl ?_
            exact ih7 _ _ (x2_2 + 1) h13 (pm_sd1 c3 s7) (Nat.lt_of_lt_of_le (pm_mu1 c3) (Nat.le_of_lt_succ hm7))
        · refine pm_aloadn hG dX6_readSum_22 rfl ?_
          refine pm_callV (As := []) (rest := []) hG hR dX6_readSum_23 (lkX6_47 _ rfl) okV_X6_next rfl rfl (g_X6_next (d := 4) (by decide) h4) rfl rfl hdd (Nat.le_refl _) (Nat.le_refl _) (by decide) (pm_ki (fun v14 σ' cnt' hq => ?_))
          obtain ⟨I14, A14, rfl, rfl, h14⟩ := hq
          refine pm_bipush (v := 45) hG dX6_readSum_26 (by decide) ?_
          refine pm_icmp_ne (tgt := 78) hG dX6_readSum_28 rfl (fun c15 => ?_) (fun c15 => ?_)
          · exact pm_vret hG hF dX6_readSum_78 rfl (Nat.le_refl _) (Nat.le_refl _) ⟨rfl, _, _, rfl, rfl, h14⟩
          · refine pm_aloadn hG dX6_readSum_31 rfl ?_
            refine pm_callV (As := []) (rest := []) hG hR dX6_readSum_32 (lkX6_47 _ rfl) okV_X6_next rfl rfl (g_X6_next (d := 4) (by decide) h14) rfl rfl hdd (Nat.le_refl _) (Nat.le_refl _) (by decide) (pm_ki (fun v16 σ' cnt' hq => ?_))
            obtain ⟨I16, A16, rfl, rfl, h16⟩ := hq
            refine pm_bipush (v := 43) hG dX6_readSum_35 (by decide) ?_
            refine pm_icmp_ne (tgt := 45) hG dX6_readSum_37 rfl (fun c17 => ?_) (fun c17 => ?_)
            · refine pm_bipush (v := (-8)) hG dX6_readSum_45 (by decide) ?_
              refine pm_istoreXn (loc' := [some (.ref (B + 27)), some (.int 5), some (.int x2_2), some (.int (-8))]) hG dX6_readSum_47 (by decide) (pm_c1b rfl) rfl ?_
              refine pm_aloadn hG dX6_readSum_48 rfl ?_
              refine pm_dup hG dX6_readSum_49 rfl ?_
              refine pm_getf hG dX6_readSum_50 (flX6_26 _ rfl) rfl rfl ?_
              refine pm_iconst (v := 1) hG dX6_readSum_53 (by decide) ?_
              refine pm_iadd hG dX6_readSum_54 ?_
              refine pm_putf hG dX6_readSum_55 (fwX6_26 _ rfl) rfl rfl rfl ?_
              refine pm_nrm (L' := cl_L B kp (ui I16 105 ((I16 105) + 1)) A16) (by decide) (Nat.le_of_ble_eq_true rfl) rfl ?_
              refine pm_aloadn hG dX6_readSum_58 rfl ?_
              refine pm_iloadn hG dX6_readSum_59 rfl ?_
              refine pm_callV (As := [.int 5]) (rest := []) hG hR dX6_readSum_60 (lkX6_60 _ rfl) okV_X6_readPart rfl rfl (g_X6_readPart_k5 (d := 4) (by decide) (gq.wi (k := 105) rfl h16)) rfl rfl hdd (Nat.le_refl _) (Nat.le_refl _) (by decide) (pm_kv (fun σ' cnt' hq => ?_))
              obtain ⟨I19, A19, rfl, rfl, h19⟩ := hq
              refine pm_aloadn hG dX6_readSum_63 rfl ?_
              refine pm_getf hG dX6_readSum_64 (flX6_20 _ rfl) rfl rfl ?_
              refine pm_iloadn hG dX6_readSum_67 rfl ?_
              obtain ⟨k20, hk20, hu20⟩ := gq.used h19 28 60 (by decide)
              have ht20 : pm_two (cl_L B kp I19 A19) ρ 28 = some (.inr (9, [.int (nI 60), .int (nI 1), .ref (B + 29), .int (nI k20)])) := by rw [← hu20]; rfl
              refine pm_callV (As := [.int (-8)]) (rest := []) hG hR dX6_readSum_68 (lkX6_50 _ rfl) okV_X9_append rfl rfl (tb_append (d := 4) (by decide) ht20 rfl (by decide) (by decide) (by decide) (by decide) (by decide) (by decide) hk20) rfl rfl hdd (Nat.le_refl _) (Nat.le_refl _) (by decide) (pm_ki (fun v20 σ' cnt' hq => ?_))
              obtain ⟨I20, A20, rfl, rfl, h20⟩ := hv_p28 (kp := kp) (I := I19) (A := A19) hk20 h19 hq
              refine pm_pop hG dX6_readSum_71 rfl ?_
              refine pm_iincX (v := x2_2 + 1) (loc' := [some (.ref (B + 27)), some (.int 5), some (.int (x2_2 + 1)), some (.int (-8))]) hG dX6_readSum_72 rfl (by rfl) (by decide) (pm_c1b rfl) rfl ?_
              refine pm_goto (tgt := 7) hG dX6_readSum_75 rfl ?_
              refine pm_fg 3 (loc' := [some (.ref (B + 27)), some (.int 5), some (.int (x2_2 + 1)), none]) rfl ?_
              exact ih7 _ _ (x2_2 + 1) h20 (pm_sd1 c3 s7) (Nat.lt_of_lt_of_le (pm_mu1 c3) (Nat.le_of_lt_succ hm7))
            · refine pm_bipush (v := (-7)) hG dX6_readSum_40 (by decide) ?_
              refine pm_goto (tgt := 47) hG dX6_readSum_42 rfl ?_
              refine pm_istoreXn (loc' := [some (.ref (B + 27)), some (.int 5), some (.int x2_2), some (.int (-7))]) hG dX6_readSum_47 (by decide) (pm_c1b rfl) rfl ?_
              refine pm_aloadn hG dX6_readSum_48 rfl ?_
              refine pm_dup hG dX6_readSum_49 rfl ?_
              refine pm_getf hG dX6_readSum_50 (flX6_26 _ rfl) rfl rfl ?_
              refine pm_iconst (v := 1) hG dX6_readSum_53 (by decide) ?_
              refine pm_iadd hG dX6_readSum_54 ?_
              refine pm_putf hG dX6_readSum_55 (fwX6_26 _ rfl) rfl rfl rfl ?_
              refine pm_nrm (L' := cl_L B kp (ui I16 105 ((I16 105) + 1)) A16) (by decide) (Nat.le_of_ble_eq_true rfl) rfl ?_
              refine pm_aloadn hG dX6_readSum_58 rfl ?_
              refine pm_iloadn hG dX6_readSum_59 rfl ?_
              refine pm_callV (As := [.int 5]) (rest := []) hG hR dX6_readSum_60 (lkX6_60 _ rfl) okV_X6_readPart rfl rfl (g_X6_readPart_k5 (d := 4) (by decide) (gq.wi (k := 105) rfl h16)) rfl rfl hdd (Nat.le_refl _) (Nat.le_refl _) (by decide) (pm_kv (fun σ' cnt' hq => ?_))
              obtain ⟨I22, A22, rfl, rfl, h22⟩ := hq
              refine pm_aloadn hG dX6_readSum_63 rfl ?_
              refine pm_getf hG dX6_readSum_64 (flX6_20 _ rfl) rfl rfl ?_
              refine pm_iloadn hG dX6_readSum_67 rfl ?_
              obtain ⟨k23, hk23, hu23⟩ := gq.used h22 28 60 (by decide)
              have ht23 : pm_two (cl_L B kp I22 A22) ρ 28 = some (.inr (9, [.int (nI 60), .int (nI 1), .ref (B + 29), .int (nI k23)])) := by rw [← hu23]; rfl
              refine pm_callV (As := [.int (-7)]) (rest := []) hG hR dX6_readSum_68 (lkX6_50 _ rfl) okV_X9_append rfl rfl (tb_append (d := 4) (by decide) ht23 rfl (by decide) (by decide) (by decide) (by decide) (by decide) (by decide) hk23) rfl rfl hdd (Nat.le_refl _) (Nat.le_refl _) (by decide) (pm_ki (fun v23 σ' cnt' hq => ?_))
              obtain ⟨I23, A23, rfl, rfl, h23⟩ := hv_p28 (kp := kp) (I := I22) (A := A22) hk23 h22 hq
              refine pm_pop hG dX6_readSum_71 rfl ?_
              refine pm_iincX (v := x2_2 + 1) (loc' := [some (.ref (B + 27)), some (.int 5), some (.int (x2_2 + 1)), some (.int (-7))]) hG dX6_readSum_72 rfl (by rfl) (by decide) (pm_c1b rfl) rfl ?_
              refine pm_goto (tgt := 7) hG dX6_readSum_75 rfl ?_
              refine pm_fg 3 (loc' := [some (.ref (B + 27)), some (.int 5), some (.int (x2_2 + 1)), none]) rfl ?_
              exact ih7 _ _ (x2_2 + 1) h23 (pm_sd1 c3 s7) (Nat.lt_of_lt_of_le (pm_mu1 c3) (Nat.le_of_lt_succ hm7))
  exact loop7 _ _ _ 0 h1 (by decide) (Nat.lt_succ_self _)

set_option maxRecDepth 100000 in
set_option maxHeartbeats 4000000 in
theorem g_X6_readComparison_k5 {ε : Nat → Int32} {d B cnt : Nat} {kp : pm_KP} {ρ : pm_S} {I : Nat → Int32} {A : Nat → Nat → Int32} (hdd : 6 ≤ d) (h : gq ε I) : pm_met mX6_readComparison d 0 0 B [.ref (B + 27), .int 5] cnt (pm_two (cl_L B kp I A) ρ) (pm_Qv (fun σ' cnt' => hvq ε B kp ρ cnt σ' cnt')) := by
  refine pm_enter 1 (by decide) (Nat.le_of_ble_eq_true rfl) rfl (fun G hG hR hF => ?_)
  refine pm_aloadn hG dX6_readComparison_0 rfl ?_
  refine pm_iloadn hG dX6_readComparison_1 rfl ?_
  refine pm_callV (As := [.int 5]) (rest := []) hG hR dX6_readComparison_2 (lkX6_57 _ rfl) okV_X6_readSum rfl rfl (g_X6_readSum_k5 (d := 5) (by decide) h) rfl rfl hdd (Nat.le_refl _) (Nat.le_refl _) (by decide) (pm_kv (fun σ' cnt' hq => ?_))
  obtain ⟨I1, A1, rfl, rfl, h1⟩ := hq
  refine pm_aloadn hG dX6_readComparison_5 rfl ?_
  refine pm_callV (As := []) (rest := []) hG hR dX6_readComparison_6 (lkX6_47 _ rfl) okV_X6_next rfl rfl (g_X6_next (d := 5) (by decide) h1) rfl rfl hdd (Nat.le_refl _) (Nat.le_refl _) (by decide) (pm_ki (fun v2 σ' cnt' hq => ?_))
  obtain ⟨I2, A2, rfl, rfl, h2⟩ := hq
  refine pm_istoreXn (loc' := [some (.ref (B + 27)), some (.int 5), some (.int v2)]) hG dX6_readComparison_9 (by decide) (pm_c1b rfl) rfl ?_
  refine pm_iloadn hG dX6_readComparison_10 rfl ?_
  refine pm_bipush (v := 60) hG dX6_readComparison_11 (by decide) ?_
  refine pm_icmp_eq (tgt := 28) hG dX6_readComparison_13 rfl (fun c3 => ?_) (fun c3 => ?_)
  · refine pm_aloadn hG dX6_readComparison_28 rfl ?_
    refine pm_dup hG dX6_readComparison_29 rfl ?_
    refine pm_getf hG dX6_readComparison_30 (flX6_26 _ rfl) rfl rfl ?_
    refine pm_iconst (v := 1) hG dX6_readComparison_33 (by decide) ?_
    refine pm_iadd hG dX6_readComparison_34 ?_
    refine pm_putf hG dX6_readComparison_35 (fwX6_26 _ rfl) rfl rfl rfl ?_
    refine pm_nrm (L' := cl_L B kp (ui I2 105 ((I2 105) + 1)) A2) (by decide) (Nat.le_of_ble_eq_true rfl) rfl ?_
    refine pm_aloadn hG dX6_readComparison_38 rfl ?_
    refine pm_iloadn hG dX6_readComparison_39 rfl ?_
    refine pm_callV (As := [.int 5]) (rest := []) hG hR dX6_readComparison_40 (lkX6_57 _ rfl) okV_X6_readSum rfl rfl (g_X6_readSum_k5 (d := 5) (by decide) (gq.wi (k := 105) rfl h2)) rfl rfl hdd (Nat.le_refl _) (Nat.le_refl _) (by decide) (pm_kv (fun σ' cnt' hq => ?_))
    obtain ⟨I5, A5, rfl, rfl, h5⟩ := hq
    refine pm_aloadn hG dX6_readComparison_43 rfl ?_
    refine pm_getf hG dX6_readComparison_44 (flX6_20 _ rfl) rfl rfl ?_
    refine pm_iloadn hG dX6_readComparison_47 rfl ?_
    refine pm_bipush (v := 60) hG dX6_readComparison_48 (by decide) ?_
    refine pm_icmp_ne (tgt := 58) hG dX6_readComparison_50 rfl (fun c6 => ?_) (fun c6 => ?_)
    · refine pm_iloadn hG dX6_readComparison_58 rfl ?_
      refine pm_bipush (v := 61) hG dX6_readComparison_59 (by decide) ?_
      refine pm_icmp_ne (tgt := 69) hG dX6_readComparison_61 rfl (fun c7 => ?_) (fun c7 => ?_)
      · refine pm_bipush (v := (-6)) hG dX6_readComparison_69 (by decide) ?_
        obtain ⟨k8, hk8, hu8⟩ := gq.used h5 28 60 (by decide)
        have ht8 : pm_two (cl_L B kp I5 A5) ρ 28 = some (.inr (9, [.int (nI 60), .int (nI 1), .ref (B + 29), .int (nI k8)])) := by rw [← hu8]; rfl
        refine pm_callV (As := [.int (-6)]) (rest := []) hG hR dX6_readComparison_71 (lkX6_50 _ rfl) okV_X9_append rfl rfl (tb_append (d := 5) (by decide) ht8 rfl (by decide) (by decide) (by decide) (by decide) (by decide) (by decide) hk8) rfl rfl hdd (Nat.le_refl _) (Nat.le_refl _) (by decide) (pm_ki (fun v8 σ' cnt' hq => ?_))
        obtain ⟨I8, A8, rfl, rfl, h8⟩ := hv_p28 (kp := kp) (I := I5) (A := A5) hk8 h5 hq
        refine pm_pop hG dX6_readComparison_74 rfl ?_
        exact pm_vret hG hF dX6_readComparison_75 rfl (Nat.le_refl _) (Nat.le_refl _) ⟨rfl, _, _, rfl, rfl, h8⟩
      · refine pm_bipush (v := (-5)) hG dX6_readComparison_64 (by decide) ?_
        refine pm_goto (tgt := 71) hG dX6_readComparison_66 rfl ?_
        obtain ⟨k9, hk9, hu9⟩ := gq.used h5 28 60 (by decide)
        have ht9 : pm_two (cl_L B kp I5 A5) ρ 28 = some (.inr (9, [.int (nI 60), .int (nI 1), .ref (B + 29), .int (nI k9)])) := by rw [← hu9]; rfl
        refine pm_callV (As := [.int (-5)]) (rest := []) hG hR dX6_readComparison_71 (lkX6_50 _ rfl) okV_X9_append rfl rfl (tb_append (d := 5) (by decide) ht9 rfl (by decide) (by decide) (by decide) (by decide) (by decide) (by decide) hk9) rfl rfl hdd (Nat.le_refl _) (Nat.le_refl _) (by decide) (pm_ki (fun v9 σ' cnt' hq => ?_))
        obtain ⟨I9, A9, rfl, rfl, h9⟩ := hv_p28 (kp := kp) (I := I5) (A := A5) hk9 h5 hq
        refine pm_pop hG dX6_readComparison_74 rfl ?_
        exact pm_vret hG hF dX6_readComparison_75 rfl (Nat.le_refl _) (Nat.le_refl _) ⟨rfl, _, _, rfl, rfl, h9⟩
    · refine pm_bipush (v := (-4)) hG dX6_readComparison_53 (by decide) ?_
      refine pm_goto (tgt := 71) hG dX6_readComparison_55 rfl ?_
      obtain ⟨k10, hk10, hu10⟩ := gq.used h5 28 60 (by decide)
      have ht10 : pm_two (cl_L B kp I5 A5) ρ 28 = some (.inr (9, [.int (nI 60), .int (nI 1), .ref (B + 29), .int (nI k10)])) := by rw [← hu10]; rfl
      refine pm_callV (As := [.int (-4)]) (rest := []) hG hR dX6_readComparison_71 (lkX6_50 _ rfl) okV_X9_append rfl rfl (tb_append (d := 5) (by decide) ht10 rfl (by decide) (by decide) (by decide) (by decide) (by decide) (by decide) hk10) rfl rfl hdd (Nat.le_refl _) (Nat.le_refl _) (by decide) (pm_ki (fun v10 σ' cnt' hq => ?_))
      obtain ⟨I10, A10, rfl, rfl, h10⟩ := hv_p28 (kp := kp) (I := I5) (A := A5) hk10 h5 hq
      refine pm_pop hG dX6_readComparison_74 rfl ?_
      exact pm_vret hG hF dX6_readComparison_75 rfl (Nat.le_refl _) (Nat.le_refl _) ⟨rfl, _, _, rfl, rfl, h10⟩
  · refine pm_iloadn hG dX6_readComparison_16 rfl ?_
    refine pm_bipush (v := 61) hG dX6_readComparison_17 (by decide) ?_
    refine pm_icmp_eq (tgt := 28) hG dX6_readComparison_19 rfl (fun c11 => ?_) (fun c11 => ?_)
    · refine pm_aloadn hG dX6_readComparison_28 rfl ?_
      refine pm_dup hG dX6_readComparison_29 rfl ?_
      refine pm_getf hG dX6_readComparison_30 (flX6_26 _ rfl) rfl rfl ?_
      refine pm_iconst (v := 1) hG dX6_readComparison_33 (by decide) ?_
      refine pm_iadd hG dX6_readComparison_34 ?_
      refine pm_putf hG dX6_readComparison_35 (fwX6_26 _ rfl) rfl rfl rfl ?_
      refine pm_nrm (L' := cl_L B kp (ui I2 105 ((I2 105) + 1)) A2) (by decide) (Nat.le_of_ble_eq_true rfl) rfl ?_
      refine pm_aloadn hG dX6_readComparison_38 rfl ?_
      refine pm_iloadn hG dX6_readComparison_39 rfl ?_
      refine pm_callV (As := [.int 5]) (rest := []) hG hR dX6_readComparison_40 (lkX6_57 _ rfl) okV_X6_readSum rfl rfl (g_X6_readSum_k5 (d := 5) (by decide) (gq.wi (k := 105) rfl h2)) rfl rfl hdd (Nat.le_refl _) (Nat.le_refl _) (by decide) (pm_kv (fun σ' cnt' hq => ?_))
      obtain ⟨I13, A13, rfl, rfl, h13⟩ := hq
      refine pm_aloadn hG dX6_readComparison_43 rfl ?_
      refine pm_getf hG dX6_readComparison_44 (flX6_20 _ rfl) rfl rfl ?_
      refine pm_iloadn hG dX6_readComparison_47 rfl ?_
      refine pm_bipush (v := 60) hG dX6_readComparison_48 (by decide) ?_
      refine pm_icmp_ne (tgt := 58) hG dX6_readComparison_50 rfl (fun c14 => ?_) (fun c14 => ?_)
      · refine pm_iloadn hG dX6_readComparison_58 rfl ?_
        refine pm_bipush (v := 61) hG dX6_readComparison_59 (by decide) ?_
        refine pm_icmp_ne (tgt := 69) hG dX6_readComparison_61 rfl (fun c15 => ?_) (fun c15 => ?_)
        · refine pm_bipush (v := (-6)) hG dX6_readComparison_69 (by decide) ?_
          obtain ⟨k16, hk16, hu16⟩ := gq.used h13 28 60 (by decide)
          have ht16 : pm_two (cl_L B kp I13 A13) ρ 28 = some (.inr (9, [.int (nI 60), .int (nI 1), .ref (B + 29), .int (nI k16)])) := by rw [← hu16]; rfl
          refine pm_callV (As := [.int (-6)]) (rest := []) hG hR dX6_readComparison_71 (lkX6_50 _ rfl) okV_X9_append rfl rfl (tb_append (d := 5) (by decide) ht16 rfl (by decide) (by decide) (by decide) (by decide) (by decide) (by decide) hk16) rfl rfl hdd (Nat.le_refl _) (Nat.le_refl _) (by decide) (pm_ki (fun v16 σ' cnt' hq => ?_))
          obtain ⟨I16, A16, rfl, rfl, h16⟩ := hv_p28 (kp := kp) (I := I13) (A := A13) hk16 h13 hq
          refine pm_pop hG dX6_readComparison_74 rfl ?_
          exact pm_vret hG hF dX6_readComparison_75 rfl (Nat.le_refl _) (Nat.le_refl _) ⟨rfl, _, _, rfl, rfl, h16⟩
        · refine pm_bipush (v := (-5)) hG dX6_readComparison_64 (by decide) ?_
          refine pm_goto (tgt := 71) hG dX6_readComparison_66 rfl ?_
          obtain ⟨k17, hk17, hu17⟩ := gq.used h13 28 60 (by decide)
          have ht17 : pm_two (cl_L B kp I13 A13) ρ 28 = some (.inr (9, [.int (nI 60), .int (nI 1), .ref (B + 29), .int (nI k17)])) := by rw [← hu17]; rfl
          refine pm_callV (As := [.int (-5)]) (rest := []) hG hR dX6_readComparison_71 (lkX6_50 _ rfl) okV_X9_append rfl rfl (tb_append (d := 5) (by decide) ht17 rfl (by decide) (by decide) (by decide) (by decide) (by decide) (by decide) hk17) rfl rfl hdd (Nat.le_refl _) (Nat.le_refl _) (by decide) (pm_ki (fun v17 σ' cnt' hq => ?_))
          obtain ⟨I17, A17, rfl, rfl, h17⟩ := hv_p28 (kp := kp) (I := I13) (A := A13) hk17 h13 hq
          refine pm_pop hG dX6_readComparison_74 rfl ?_
          exact pm_vret hG hF dX6_readComparison_75 rfl (Nat.le_refl _) (Nat.le_refl _) ⟨rfl, _, _, rfl, rfl, h17⟩
      · refine pm_bipush (v := (-4)) hG dX6_readComparison_53 (by decide) ?_
        refine pm_goto (tgt := 71) hG dX6_readComparison_55 rfl ?_
        obtain ⟨k18, hk18, hu18⟩ := gq.used h13 28 60 (by decide)
        have ht18 : pm_two (cl_L B kp I13 A13) ρ 28 = some (.inr (9, [.int (nI 60), .int (nI 1), .ref (B + 29), .int (nI k18)])) := by rw [← hu18]; rfl
        refine pm_callV (As := [.int (-4)]) (rest := []) hG hR dX6_readComparison_71 (lkX6_50 _ rfl) okV_X9_append rfl rfl (tb_append (d := 5) (by decide) ht18 rfl (by decide) (by decide) (by decide) (by decide) (by decide) (by decide) hk18) rfl rfl hdd (Nat.le_refl _) (Nat.le_refl _) (by decide) (pm_ki (fun v18 σ' cnt' hq => ?_))
        obtain ⟨I18, A18, rfl, rfl, h18⟩ := hv_p28 (kp := kp) (I := I13) (A := A13) hk18 h13 hq
        refine pm_pop hG dX6_readComparison_74 rfl ?_
        exact pm_vret hG hF dX6_readComparison_75 rfl (Nat.le_refl _) (Nat.le_refl _) ⟨rfl, _, _, rfl, rfl, h18⟩
    · refine pm_iloadn hG dX6_readComparison_22 rfl ?_
      refine pm_bipush (v := 62) hG dX6_readComparison_23 (by decide) ?_
      refine pm_icmp_ne (tgt := 75) hG dX6_readComparison_25 rfl (fun c19 => ?_) (fun c19 => ?_)
      · exact pm_vret hG hF dX6_readComparison_75 rfl (Nat.le_refl _) (Nat.le_refl _) ⟨rfl, _, _, rfl, rfl, h2⟩
      · refine pm_aloadn hG dX6_readComparison_28 rfl ?_
        refine pm_dup hG dX6_readComparison_29 rfl ?_
        refine pm_getf hG dX6_readComparison_30 (flX6_26 _ rfl) rfl rfl ?_
        refine pm_iconst (v := 1) hG dX6_readComparison_33 (by decide) ?_
        refine pm_iadd hG dX6_readComparison_34 ?_
        refine pm_putf hG dX6_readComparison_35 (fwX6_26 _ rfl) rfl rfl rfl ?_
        refine pm_nrm (L' := cl_L B kp (ui I2 105 ((I2 105) + 1)) A2) (by decide) (Nat.le_of_ble_eq_true rfl) rfl ?_
        refine pm_aloadn hG dX6_readComparison_38 rfl ?_
        refine pm_iloadn hG dX6_readComparison_39 rfl ?_
        refine pm_callV (As := [.int 5]) (rest := []) hG hR dX6_readComparison_40 (lkX6_57 _ rfl) okV_X6_readSum rfl rfl (g_X6_readSum_k5 (d := 5) (by decide) (gq.wi (k := 105) rfl h2)) rfl rfl hdd (Nat.le_refl _) (Nat.le_refl _) (by decide) (pm_kv (fun σ' cnt' hq => ?_))
        obtain ⟨I21, A21, rfl, rfl, h21⟩ := hq
        refine pm_aloadn hG dX6_readComparison_43 rfl ?_
        refine pm_getf hG dX6_readComparison_44 (flX6_20 _ rfl) rfl rfl ?_
        refine pm_iloadn hG dX6_readComparison_47 rfl ?_
        refine pm_bipush (v := 60) hG dX6_readComparison_48 (by decide) ?_
        refine pm_icmp_ne (tgt := 58) hG dX6_readComparison_50 rfl (fun c22 => ?_) (fun c22 => ?_)
        · refine pm_iloadn hG dX6_readComparison_58 rfl ?_
          refine pm_bipush (v := 61) hG dX6_readComparison_59 (by decide) ?_
          refine pm_icmp_ne (tgt := 69) hG dX6_readComparison_61 rfl (fun c23 => ?_) (fun c23 => ?_)
          · refine pm_bipush (v := (-6)) hG dX6_readComparison_69 (by decide) ?_
            obtain ⟨k24, hk24, hu24⟩ := gq.used h21 28 60 (by decide)
            have ht24 : pm_two (cl_L B kp I21 A21) ρ 28 = some (.inr (9, [.int (nI 60), .int (nI 1), .ref (B + 29), .int (nI k24)])) := by rw [← hu24]; rfl
            refine pm_callV (As := [.int (-6)]) (rest := []) hG hR dX6_readComparison_71 (lkX6_50 _ rfl) okV_X9_append rfl rfl (tb_append (d := 5) (by decide) ht24 rfl (by decide) (by decide) (by decide) (by decide) (by decide) (by decide) hk24) rfl rfl hdd (Nat.le_refl _) (Nat.le_refl _) (by decide) (pm_ki (fun v24 σ' cnt' hq => ?_))
            obtain ⟨I24, A24, rfl, rfl, h24⟩ := hv_p28 (kp := kp) (I := I21) (A := A21) hk24 h21 hq
            refine pm_pop hG dX6_readComparison_74 rfl ?_
            exact pm_vret hG hF dX6_readComparison_75 rfl (Nat.le_refl _) (Nat.le_refl _) ⟨rfl, _, _, rfl, rfl, h24⟩
          · refine pm_bipush (v := (-5)) hG dX6_readComparison_64 (by decide) ?_
            refine pm_goto (tgt := 71) hG dX6_readComparison_66 rfl ?_
            obtain ⟨k25, hk25, hu25⟩ := gq.used h21 28 60 (by decide)
            have ht25 : pm_two (cl_L B kp I21 A21) ρ 28 = some (.inr (9, [.int (nI 60), .int (nI 1), .ref (B + 29), .int (nI k25)])) := by rw [← hu25]; rfl
            refine pm_callV (As := [.int (-5)]) (rest := []) hG hR dX6_readComparison_71 (lkX6_50 _ rfl) okV_X9_append rfl rfl (tb_append (d := 5) (by decide) ht25 rfl (by decide) (by decide) (by decide) (by decide) (by decide) (by decide) hk25) rfl rfl hdd (Nat.le_refl _) (Nat.le_refl _) (by decide) (pm_ki (fun v25 σ' cnt' hq => ?_))
            obtain ⟨I25, A25, rfl, rfl, h25⟩ := hv_p28 (kp := kp) (I := I21) (A := A21) hk25 h21 hq
            refine pm_pop hG dX6_readComparison_74 rfl ?_
            exact pm_vret hG hF dX6_readComparison_75 rfl (Nat.le_refl _) (Nat.le_refl _) ⟨rfl, _, _, rfl, rfl, h25⟩
        · refine pm_bipush (v := (-4)) hG dX6_readComparison_53 (by decide) ?_
          refine pm_goto (tgt := 71) hG dX6_readComparison_55 rfl ?_
          obtain ⟨k26, hk26, hu26⟩ := gq.used h21 28 60 (by decide)
          have ht26 : pm_two (cl_L B kp I21 A21) ρ 28 = some (.inr (9, [.int (nI 60), .int (nI 1), .ref (B + 29), .int (nI k26)])) := by rw [← hu26]; rfl
          refine pm_callV (As := [.int (-4)]) (rest := []) hG hR dX6_readComparison_71 (lkX6_50 _ rfl) okV_X9_append rfl rfl (tb_append (d := 5) (by decide) ht26 rfl (by decide) (by decide) (by decide) (by decide) (by decide) (by decide) hk26) rfl rfl hdd (Nat.le_refl _) (Nat.le_refl _) (by decide) (pm_ki (fun v26 σ' cnt' hq => ?_))
          obtain ⟨I26, A26, rfl, rfl, h26⟩ := hv_p28 (kp := kp) (I := I21) (A := A21) hk26 h21 hq
          refine pm_pop hG dX6_readComparison_74 rfl ?_
          exact pm_vret hG hF dX6_readComparison_75 rfl (Nat.le_refl _) (Nat.le_refl _) ⟨rfl, _, _, rfl, rfl, h26⟩

set_option maxRecDepth 100000 in
set_option maxHeartbeats 4000000 in
theorem g_X6_readConjunction_k5 {ε : Nat → Int32} {d B cnt : Nat} {kp : pm_KP} {ρ : pm_S} {I : Nat → Int32} {A : Nat → Nat → Int32} (hdd : 7 ≤ d) (h : gq ε I) : pm_met mX6_readConjunction d 0 0 B [.ref (B + 27), .int 5] cnt (pm_two (cl_L B kp I A) ρ) (pm_Qv (fun σ' cnt' => hvq ε B kp ρ cnt σ' cnt')) := by
  refine pm_enter 1 (by decide) (Nat.le_of_ble_eq_true rfl) rfl (fun G hG hR hF => ?_)
  refine pm_aloadn hG dX6_readConjunction_0 rfl ?_
  refine pm_iloadn hG dX6_readConjunction_1 rfl ?_
  refine pm_callV (As := [.int 5]) (rest := []) hG hR dX6_readConjunction_2 (lkX6_54 _ rfl) okV_X6_readComparison rfl rfl (g_X6_readComparison_k5 (d := 6) (by decide) h) rfl rfl hdd (Nat.le_refl _) (Nat.le_refl _) (by decide) (pm_kv (fun σ' cnt' hq => ?_))
  obtain ⟨I1, A1, rfl, rfl, h1⟩ := hq
  refine pm_iconst (v := 0) hG dX6_readConjunction_5 (by decide) ?_
  refine pm_istoreXn (loc' := [some (.ref (B + 27)), some (.int 5), some (.int 0)]) hG dX6_readConjunction_6 (by decide) (pm_c1b rfl) rfl ?_
  have loop7 : ∀ (m7 : Nat) (I2 : Nat → Int32) (A2 : Nat → Nat → Int32) (x2_2 : Int32), gq ε I2 → (¬ x2_2 < 0) → ((60 : Int32).toInt - x2_2.toInt).toNat < m7 → pm_wp mX6_readConjunction G B 7 [some (.ref (B + 27)), some (.int 5), some (.int x2_2)] [] 0 0 cnt (pm_two (cl_L B kp I2 A2) ρ) := by
    intro m7
    induction m7 with
    | zero => intro I2 A2 x2_2 _  _ hm; exact absurd hm (Nat.not_lt_zero _)
    | succ m7 ih7 =>
      intro I2 A2 x2_2 h2 s7 hm7
      refine pm_iloadn hG dX6_readConjunction_7 rfl ?_
      refine pm_bipush (v := 60) hG dX6_readConjunction_8 (by decide) ?_
      refine pm_icmp_ge (tgt := 53) hG dX6_readConjunction_10 rfl (fun c3 => ?_) (fun c3 => ?_)
      · exact pm_vret hG hF dX6_readConjunction_53 rfl (Nat.le_refl _) (Nat.le_refl _) ⟨rfl, _, _, rfl, rfl, h2⟩
      · refine pm_aloadn hG dX6_readConjunction_13 rfl ?_
        refine pm_callV (As := []) (rest := []) hG hR dX6_readConjunction_14 (lkX6_47 _ rfl) okV_X6_next rfl rfl (g_X6_next (d := 6) (by decide) h2) rfl rfl hdd (Nat.le_refl _) (Nat.le_refl _) (by decide) (pm_ki (fun v4 σ' cnt' hq => ?_))
        obtain ⟨I4, A4, rfl, rfl, h4⟩ := hq
        refine pm_bipush (v := 38) hG dX6_readConjunction_17 (by decide) ?_
        refine pm_icmp_ne (tgt := 53) hG dX6_readConjunction_19 rfl (fun c5 => ?_) (fun c5 => ?_)
        · exact pm_vret hG hF dX6_readConjunction_53 rfl (Nat.le_refl _) (Nat.le_refl _) ⟨rfl, _, _, rfl, rfl, h4⟩
        · refine pm_aloadn hG dX6_readConjunction_22 rfl ?_
          refine pm_dup hG dX6_readConjunction_23 rfl ?_
          refine pm_getf hG dX6_readConjunction_24 (flX6_26 _ rfl) rfl rfl ?_
          refine pm_iconst (v := 1) hG dX6_readConjunction_27 (by decide) ?_
          refine pm_iadd hG dX6_readConjunction_28 ?_
          refine pm_putf hG dX6_readConjunction_29 (fwX6_26 _ rfl) rfl rfl rfl ?_
          refine pm_nrm (L' := cl_L B kp (ui I4 105 ((I4 105) + 1)) A4) (by decide) (Nat.le_of_ble_eq_true rfl) rfl ?_
          refine pm_aloadn hG dX6_readConjunction_32 rfl ?_
          refine pm_iloadn hG dX6_readConjunction_33 rfl ?_
          refine pm_callV (As := [.int 5]) (rest := []) hG hR dX6_readConjunction_34 (lkX6_54 _ rfl) okV_X6_readComparison rfl rfl (g_X6_readComparison_k5 (d := 6) (by decide) (gq.wi (k := 105) rfl h4)) rfl rfl hdd (Nat.le_refl _) (Nat.le_refl _) (by decide) (pm_kv (fun σ' cnt' hq => ?_))
          obtain ⟨I7, A7, rfl, rfl, h7⟩ := hq
          refine pm_aloadn hG dX6_readConjunction_37 rfl ?_
          refine pm_getf hG dX6_readConjunction_38 (flX6_20 _ rfl) rfl rfl ?_
          refine pm_bipush (v := (-3)) hG dX6_readConjunction_41 (by decide) ?_
          obtain ⟨k8, hk8, hu8⟩ := gq.used h7 28 60 (by decide)
          have ht8 : pm_two (cl_L B kp I7 A7) ρ 28 = some (.inr (9, [.int (nI 60), .int (nI 1), .ref (B + 29), .int (nI k8)])) := by rw [← hu8]; rfl
          refine pm_callV (As := [.int (-3)]) (rest := []) hG hR dX6_readConjunction_43 (lkX6_50 _ rfl) okV_X9_append rfl rfl (tb_append (d := 6) (by decide) ht8 rfl (by decide) (by decide) (by decide) (by decide) (by decide) (by decide) hk8) rfl rfl hdd (Nat.le_refl _) (Nat.le_refl _) (by decide) (pm_ki (fun v8 σ' cnt' hq => ?_))
          obtain ⟨I8, A8, rfl, rfl, h8⟩ := hv_p28 (kp := kp) (I := I7) (A := A7) hk8 h7 hq
          refine pm_pop hG dX6_readConjunction_46 rfl ?_
          refine pm_iincX (v := x2_2 + 1) (loc' := [some (.ref (B + 27)), some (.int 5), some (.int (x2_2 + 1))]) hG dX6_readConjunction_47 rfl (by rfl) (by decide) (pm_c1b rfl) rfl ?_
          refine pm_goto (tgt := 7) hG dX6_readConjunction_50 rfl ?_
          exact ih7 _ _ (x2_2 + 1) h8 (pm_sd1 c3 s7) (Nat.lt_of_lt_of_le (pm_mu1 c3) (Nat.le_of_lt_succ hm7))
  exact loop7 _ _ _ 0 h1 (by decide) (Nat.lt_succ_self _)

set_option maxRecDepth 100000 in
set_option maxHeartbeats 4000000 in
theorem g_X6_readText_k5 {ε : Nat → Int32} {d B cnt : Nat} {kp : pm_KP} {ρ : pm_S} {I : Nat → Int32} {A : Nat → Nat → Int32} (hdd : 8 ≤ d) (h : gq ε I) : pm_met mX6_readText d 0 0 B [.ref (B + 27), .int 5] cnt (pm_two (cl_L B kp I A) ρ) (pm_Qv (fun σ' cnt' => hvq ε B kp ρ cnt σ' cnt')) := by
  refine pm_enter 1 (by decide) (Nat.le_of_ble_eq_true rfl) rfl (fun G hG hR hF => ?_)
  refine pm_aloadn hG dX6_readText_0 rfl ?_
  refine pm_iloadn hG dX6_readText_1 rfl ?_
  refine pm_callV (As := [.int 5]) (rest := []) hG hR dX6_readText_2 (lkX6_44 _ rfl) okV_X6_readConjunction rfl rfl (g_X6_readConjunction_k5 (d := 7) (by decide) h) rfl rfl hdd (Nat.le_refl _) (Nat.le_refl _) (by decide) (pm_kv (fun σ' cnt' hq => ?_))
  obtain ⟨I1, A1, rfl, rfl, h1⟩ := hq
  refine pm_iconst (v := 0) hG dX6_readText_5 (by decide) ?_
  refine pm_istoreXn (loc' := [some (.ref (B + 27)), some (.int 5), some (.int 0)]) hG dX6_readText_6 (by decide) (pm_c1b rfl) rfl ?_
  have loop7 : ∀ (m7 : Nat) (I2 : Nat → Int32) (A2 : Nat → Nat → Int32) (x2_2 : Int32), gq ε I2 → (¬ x2_2 < 0) → ((60 : Int32).toInt - x2_2.toInt).toNat < m7 → pm_wp mX6_readText G B 7 [some (.ref (B + 27)), some (.int 5), some (.int x2_2)] [] 0 0 cnt (pm_two (cl_L B kp I2 A2) ρ) := by
    intro m7
    induction m7 with
    | zero => intro I2 A2 x2_2 _  _ hm; exact absurd hm (Nat.not_lt_zero _)
    | succ m7 ih7 =>
      intro I2 A2 x2_2 h2 s7 hm7
      refine pm_iloadn hG dX6_readText_7 rfl ?_
      refine pm_bipush (v := 60) hG dX6_readText_8 (by decide) ?_
      refine pm_icmp_ge (tgt := 53) hG dX6_readText_10 rfl (fun c3 => ?_) (fun c3 => ?_)
      · exact pm_vret hG hF dX6_readText_53 rfl (Nat.le_refl _) (Nat.le_refl _) ⟨rfl, _, _, rfl, rfl, h2⟩
      · refine pm_aloadn hG dX6_readText_13 rfl ?_
        refine pm_callV (As := []) (rest := []) hG hR dX6_readText_14 (lkX6_47 _ rfl) okV_X6_next rfl rfl (g_X6_next (d := 7) (by decide) h2) rfl rfl hdd (Nat.le_refl _) (Nat.le_refl _) (by decide) (pm_ki (fun v4 σ' cnt' hq => ?_))
        obtain ⟨I4, A4, rfl, rfl, h4⟩ := hq
        refine pm_bipush (v := 124) hG dX6_readText_17 (by decide) ?_
        refine pm_icmp_ne (tgt := 53) hG dX6_readText_19 rfl (fun c5 => ?_) (fun c5 => ?_)
        · exact pm_vret hG hF dX6_readText_53 rfl (Nat.le_refl _) (Nat.le_refl _) ⟨rfl, _, _, rfl, rfl, h4⟩
        · refine pm_aloadn hG dX6_readText_22 rfl ?_
          refine pm_dup hG dX6_readText_23 rfl ?_
          refine pm_getf hG dX6_readText_24 (flX6_26 _ rfl) rfl rfl ?_
          refine pm_iconst (v := 1) hG dX6_readText_27 (by decide) ?_
          refine pm_iadd hG dX6_readText_28 ?_
          refine pm_putf hG dX6_readText_29 (fwX6_26 _ rfl) rfl rfl rfl ?_
          refine pm_nrm (L' := cl_L B kp (ui I4 105 ((I4 105) + 1)) A4) (by decide) (Nat.le_of_ble_eq_true rfl) rfl ?_
          refine pm_aloadn hG dX6_readText_32 rfl ?_
          refine pm_iloadn hG dX6_readText_33 rfl ?_
          refine pm_callV (As := [.int 5]) (rest := []) hG hR dX6_readText_34 (lkX6_44 _ rfl) okV_X6_readConjunction rfl rfl (g_X6_readConjunction_k5 (d := 7) (by decide) (gq.wi (k := 105) rfl h4)) rfl rfl hdd (Nat.le_refl _) (Nat.le_refl _) (by decide) (pm_kv (fun σ' cnt' hq => ?_))
          obtain ⟨I7, A7, rfl, rfl, h7⟩ := hq
          refine pm_aloadn hG dX6_readText_37 rfl ?_
          refine pm_getf hG dX6_readText_38 (flX6_20 _ rfl) rfl rfl ?_
          refine pm_bipush (v := (-2)) hG dX6_readText_41 (by decide) ?_
          obtain ⟨k8, hk8, hu8⟩ := gq.used h7 28 60 (by decide)
          have ht8 : pm_two (cl_L B kp I7 A7) ρ 28 = some (.inr (9, [.int (nI 60), .int (nI 1), .ref (B + 29), .int (nI k8)])) := by rw [← hu8]; rfl
          refine pm_callV (As := [.int (-2)]) (rest := []) hG hR dX6_readText_43 (lkX6_50 _ rfl) okV_X9_append rfl rfl (tb_append (d := 7) (by decide) ht8 rfl (by decide) (by decide) (by decide) (by decide) (by decide) (by decide) hk8) rfl rfl hdd (Nat.le_refl _) (Nat.le_refl _) (by decide) (pm_ki (fun v8 σ' cnt' hq => ?_))
          obtain ⟨I8, A8, rfl, rfl, h8⟩ := hv_p28 (kp := kp) (I := I7) (A := A7) hk8 h7 hq
          refine pm_pop hG dX6_readText_46 rfl ?_
          refine pm_iincX (v := x2_2 + 1) (loc' := [some (.ref (B + 27)), some (.int 5), some (.int (x2_2 + 1))]) hG dX6_readText_47 rfl (by rfl) (by decide) (pm_c1b rfl) rfl ?_
          refine pm_goto (tgt := 7) hG dX6_readText_50 rfl ?_
          exact ih7 _ _ (x2_2 + 1) h8 (pm_sd1 c3 s7) (Nat.lt_of_lt_of_le (pm_mu1 c3) (Nat.le_of_lt_succ hm7))
  exact loop7 _ _ _ 0 h1 (by decide) (Nat.lt_succ_self _)

set_option maxRecDepth 100000 in
set_option maxHeartbeats 4000000 in
theorem g_X6_readClosing {ε : Nat → Int32} {d B cnt : Nat} {kp : pm_KP} {ρ : pm_S} {I : Nat → Int32} {A : Nat → Nat → Int32} (hdd : 2 ≤ d) (h : gq ε I) : pm_met mX6_readClosing d 0 0 B [.ref (B + 27)] cnt (pm_two (cl_L B kp I A) ρ) (pm_Qv (fun σ' cnt' => hvq ε B kp ρ cnt σ' cnt')) := by
  refine pm_enter 0 (by decide) (Nat.le_of_ble_eq_true rfl) rfl (fun G hG hR hF => ?_)
  refine pm_aloadn hG dX6_readClosing_0 rfl ?_
  refine pm_callV (As := []) (rest := []) hG hR dX6_readClosing_1 (lkX6_47 _ rfl) okV_X6_next rfl rfl (g_X6_next (d := 1) (by decide) h) rfl rfl hdd (Nat.le_refl _) (Nat.le_refl _) (by decide) (pm_ki (fun v1 σ' cnt' hq => ?_))
  obtain ⟨I1, A1, rfl, rfl, h1⟩ := hq
  refine pm_bipush (v := 41) hG dX6_readClosing_4 (by decide) ?_
  refine pm_icmp_ne (tgt := 22) hG dX6_readClosing_6 rfl (fun c2 => ?_) (fun c2 => ?_)
  · refine pm_aloadn hG dX6_readClosing_22 rfl ?_
    refine pm_callV (As := []) (rest := []) hG hR dX6_readClosing_23 (lkX6_41 _ rfl) okV_X6_fail rfl rfl (g_X6_fail (d := 1) (by decide) h1) rfl rfl hdd (Nat.le_refl _) (Nat.le_refl _) (by decide) (pm_kv (fun σ' cnt' hq => ?_))
    obtain ⟨I3, A3, rfl, rfl, h3⟩ := hq
    exact pm_vret hG hF dX6_readClosing_26 rfl (Nat.le_refl _) (Nat.le_refl _) ⟨rfl, _, _, rfl, rfl, h3⟩
  · refine pm_aloadn hG dX6_readClosing_9 rfl ?_
    refine pm_dup hG dX6_readClosing_10 rfl ?_
    refine pm_getf hG dX6_readClosing_11 (flX6_26 _ rfl) rfl rfl ?_
    refine pm_iconst (v := 1) hG dX6_readClosing_14 (by decide) ?_
    refine pm_iadd hG dX6_readClosing_15 ?_
    refine pm_putf hG dX6_readClosing_16 (fwX6_26 _ rfl) rfl rfl rfl ?_
    refine pm_nrm (L' := cl_L B kp (ui I1 105 ((I1 105) + 1)) A1) (by decide) (Nat.le_of_ble_eq_true rfl) rfl ?_
    refine pm_goto (tgt := 26) hG dX6_readClosing_19 rfl ?_
    exact pm_vret hG hF dX6_readClosing_26 rfl (Nat.le_refl _) (Nat.le_refl _) ⟨rfl, _, _, rfl, rfl, (gq.wi (k := 105) rfl h1)⟩

set_option maxRecDepth 100000 in
set_option maxHeartbeats 4000000 in
theorem g_X6_readPart_k4 {ε : Nat → Int32} {d B cnt : Nat} {kp : pm_KP} {ρ : pm_S} {I : Nat → Int32} {A : Nat → Nat → Int32} (hdd : 9 ≤ d) (h : gq ε I) : pm_met mX6_readPart d 0 0 B [.ref (B + 27), .int 4] cnt (pm_two (cl_L B kp I A) ρ) (pm_Qv (fun σ' cnt' => hvq ε B kp ρ cnt σ' cnt')) := by
  refine pm_enter 2 (by decide) (Nat.le_of_ble_eq_true rfl) rfl (fun G hG hR hF => ?_)
  refine pm_aloadn hG dX6_readPart_0 rfl ?_
  refine pm_callV (As := []) (rest := []) hG hR dX6_readPart_1 (lkX6_47 _ rfl) okV_X6_next rfl rfl (g_X6_next (d := 8) (by decide) h) rfl rfl hdd (Nat.le_refl _) (Nat.le_refl _) (by decide) (pm_ki (fun v1 σ' cnt' hq => ?_))
  obtain ⟨I1, A1, rfl, rfl, h1⟩ := hq
  refine pm_istoreXn (loc' := [some (.ref (B + 27)), some (.int 4), some (.int v1), none]) hG dX6_readPart_4 (by decide) (pm_c1b rfl) rfl ?_
  refine pm_iloadn hG dX6_readPart_5 rfl ?_
  refine pm_if_ge (tgt := 13) hG dX6_readPart_6 rfl (fun c2 => ?_) (fun c2 => ?_)
  · refine pm_ldcN hG rfl dX6_readPart_13 (fun q3 z3 hN3 => ?_)
    refine pm_iloadn hG dX6_readPart_15 rfl ?_
    refine pm_i2c hG dX6_readPart_16 (fun v4 => ?_)
    refine pm_callVN (As := [.int v4]) (rest := []) hN3 hG hR dX6_readPart_17 (lpX6_65 _ rfl) okV_J0_indexOf_0f7a4 rfl (gj_iof (d := 8) (by decide)) rfl rfl hdd (Nat.le_refl _) (Nat.le_refl _) (by decide) (pm_ki (fun v5 σ' cnt' hq => ?_))
    obtain ⟨I5, A5, rfl, rfl, h5⟩ := hv_id (kp := kp) (I := I1) (A := A1) h1 hq
    refine pm_istoreXn (loc' := [some (.ref (B + 27)), some (.int 4), some (.int v1), some (.int v5)]) hG dX6_readPart_20 (by decide) (pm_c1b rfl) rfl ?_
    refine pm_iloadn hG dX6_readPart_21 rfl ?_
    refine pm_callS (As := [.int v1]) (rest := []) hG hR dX6_readPart_22 (lkX6_70 _ rfl) okS_X6_isDigit (g_X6_isDigit (d := 8) (by decide) h5) rfl rfl hdd (Nat.le_refl _) (Nat.le_refl _) (by decide) (pm_ki (fun v6 σ' cnt' hq => ?_))
    obtain ⟨b6, I6, A6, rfl, rfl, h6⟩ := hq
    refine pm_if_eq (tgt := 35) hG dX6_readPart_25 rfl (fun c7 => ?_) (fun c7 => ?_)
    · refine pm_iloadn hG dX6_readPart_35 rfl ?_
      refine pm_if_lt (tgt := 64) hG dX6_readPart_36 rfl (fun c8 => ?_) (fun c8 => ?_)
      · refine pm_iloadn hG dX6_readPart_64 rfl ?_
        refine pm_bipush (v := 33) hG dX6_readPart_65 (by decide) ?_
        refine pm_icmp_ne (tgt := 104) hG dX6_readPart_67 rfl (fun c9 => ?_) (fun c9 => ?_)
        · refine pm_iloadn hG dX6_readPart_104 rfl ?_
          refine pm_bipush (v := 40) hG dX6_readPart_105 (by decide) ?_
          refine pm_icmp_ne (tgt := 139) hG dX6_readPart_107 rfl (fun c10 => ?_) (fun c10 => ?_)
          · refine pm_aloadn hG dX6_readPart_139 rfl ?_
            refine pm_callV (As := []) (rest := []) hG hR dX6_readPart_140 (lkX6_41 _ rfl) okV_X6_fail rfl rfl (g_X6_fail (d := 8) (by decide) h6) rfl rfl hdd (Nat.le_refl _) (Nat.le_refl _) (by decide) (pm_kv (fun σ' cnt' hq => ?_))
            obtain ⟨I11, A11, rfl, rfl, h11⟩ := hq
            exact pm_vret hG hF dX6_readPart_143 rfl (Nat.le_refl _) (Nat.le_refl _) ⟨rfl, _, _, rfl, rfl, h11⟩
          · refine pm_iloadn hG dX6_readPart_110 rfl ?_
            refine pm_iconst (v := 5) hG dX6_readPart_111 (by decide) ?_
            refine pm_icmp_ge (tgt := 139) hG dX6_readPart_112 rfl (fun q => absurd q (by decide)) (fun _ => ?_)
            refine pm_aloadn hG dX6_readPart_115 rfl ?_
            refine pm_dup hG dX6_readPart_116 rfl ?_
            refine pm_getf hG dX6_readPart_117 (flX6_26 _ rfl) rfl rfl ?_
            refine pm_iconst (v := 1) hG dX6_readPart_120 (by decide) ?_
            refine pm_iadd hG dX6_readPart_121 ?_
            refine pm_putf hG dX6_readPart_122 (fwX6_26 _ rfl) rfl rfl rfl ?_
            refine pm_nrm (L' := cl_L B kp (ui I6 105 ((I6 105) + 1)) A6) (by decide) (Nat.le_of_ble_eq_true rfl) rfl ?_
            refine pm_aloadn hG dX6_readPart_125 rfl ?_
            refine pm_iloadn hG dX6_readPart_126 rfl ?_
            refine pm_iconst (v := 1) hG dX6_readPart_127 (by decide) ?_
            refine pm_iadd hG dX6_readPart_128 ?_
            refine pm_top (v := 5) (by decide) ?_
            refine pm_callV (As := [.int 5]) (rest := []) hG hR dX6_readPart_129 (lkX6_33 _ rfl) okV_X6_readText rfl rfl (g_X6_readText_k5 (d := 8) (by decide) (gq.wi (k := 105) rfl h6)) rfl rfl hdd (Nat.le_refl _) (Nat.le_refl _) (by decide) (pm_kv (fun σ' cnt' hq => ?_))
            obtain ⟨I13, A13, rfl, rfl, h13⟩ := hq
            refine pm_aloadn hG dX6_readPart_132 rfl ?_
            refine pm_callV (As := []) (rest := []) hG hR dX6_readPart_133 (lkX6_77 _ rfl) okV_X6_readClosing rfl rfl (g_X6_readClosing (d := 8) (by decide) h13) rfl rfl hdd (Nat.le_refl _) (Nat.le_refl _) (by decide) (pm_kv (fun σ' cnt' hq => ?_))
            obtain ⟨I14, A14, rfl, rfl, h14⟩ := hq
            refine pm_goto (tgt := 143) hG dX6_readPart_136 rfl ?_
            exact pm_vret hG hF dX6_readPart_143 rfl (Nat.le_refl _) (Nat.le_refl _) ⟨rfl, _, _, rfl, rfl, h14⟩
        · refine pm_iloadn hG dX6_readPart_70 rfl ?_
          refine pm_iconst (v := 5) hG dX6_readPart_71 (by decide) ?_
          refine pm_icmp_ge (tgt := 104) hG dX6_readPart_72 rfl (fun q => absurd q (by decide)) (fun _ => ?_)
          refine pm_aloadn hG dX6_readPart_75 rfl ?_
          refine pm_dup hG dX6_readPart_76 rfl ?_
          refine pm_getf hG dX6_readPart_77 (flX6_26 _ rfl) rfl rfl ?_
          refine pm_iconst (v := 1) hG dX6_readPart_80 (by decide) ?_
          refine pm_iadd hG dX6_readPart_81 ?_
          refine pm_putf hG dX6_readPart_82 (fwX6_26 _ rfl) rfl rfl rfl ?_
          refine pm_nrm (L' := cl_L B kp (ui I6 105 ((I6 105) + 1)) A6) (by decide) (Nat.le_of_ble_eq_true rfl) rfl ?_
          refine pm_aloadn hG dX6_readPart_85 rfl ?_
          refine pm_iloadn hG dX6_readPart_86 rfl ?_
          refine pm_iconst (v := 1) hG dX6_readPart_87 (by decide) ?_
          refine pm_iadd hG dX6_readPart_88 ?_
          refine pm_top (v := 5) (by decide) ?_
          refine pm_callV (As := [.int 5]) (rest := []) hG hR dX6_readPart_89 (lkX6_60 _ rfl) okV_X6_readPart rfl rfl (g_X6_readPart_k5 (d := 8) (by decide) (gq.wi (k := 105) rfl h6)) rfl rfl hdd (Nat.le_refl _) (Nat.le_refl _) (by decide) (pm_kv (fun σ' cnt' hq => ?_))
          obtain ⟨I16, A16, rfl, rfl, h16⟩ := hq
          refine pm_aloadn hG dX6_readPart_92 rfl ?_
          refine pm_getf hG dX6_readPart_93 (flX6_20 _ rfl) rfl rfl ?_
          refine pm_iconst (v := (-1)) hG dX6_readPart_96 (by decide) ?_
          obtain ⟨k17, hk17, hu17⟩ := gq.used h16 28 60 (by decide)
          have ht17 : pm_two (cl_L B kp I16 A16) ρ 28 = some (.inr (9, [.int (nI 60), .int (nI 1), .ref (B + 29), .int (nI k17)])) := by rw [← hu17]; rfl
          refine pm_callV (As := [.int (-1)]) (rest := []) hG hR dX6_readPart_97 (lkX6_50 _ rfl) okV_X9_append rfl rfl (tb_append (d := 8) (by decide) ht17 rfl (by decide) (by decide) (by decide) (by decide) (by decide) (by decide) hk17) rfl rfl hdd (Nat.le_refl _) (Nat.le_refl _) (by decide) (pm_ki (fun v17 σ' cnt' hq => ?_))
          obtain ⟨I17, A17, rfl, rfl, h17⟩ := hv_p28 (kp := kp) (I := I16) (A := A16) hk17 h16 hq
          refine pm_pop hG dX6_readPart_100 rfl ?_
          refine pm_goto (tgt := 143) hG dX6_readPart_101 rfl ?_
          exact pm_vret hG hF dX6_readPart_143 rfl (Nat.le_refl _) (Nat.le_refl _) ⟨rfl, _, _, rfl, rfl, h17⟩
      · refine pm_aloadn hG dX6_readPart_39 rfl ?_
        refine pm_dup hG dX6_readPart_40 rfl ?_
        refine pm_getf hG dX6_readPart_41 (flX6_26 _ rfl) rfl rfl ?_
        refine pm_iconst (v := 1) hG dX6_readPart_44 (by decide) ?_
        refine pm_iadd hG dX6_readPart_45 ?_
        refine pm_putf hG dX6_readPart_46 (fwX6_26 _ rfl) rfl rfl rfl ?_
        refine pm_nrm (L' := cl_L B kp (ui I6 105 ((I6 105) + 1)) A6) (by decide) (Nat.le_of_ble_eq_true rfl) rfl ?_
        refine pm_aloadn hG dX6_readPart_49 rfl ?_
        refine pm_getf hG dX6_readPart_50 (flX6_20 _ rfl) rfl rfl ?_
        refine pm_bipush (v := (-20)) hG dX6_readPart_53 (by decide) ?_
        refine pm_iloadn hG dX6_readPart_55 rfl ?_
        refine pm_isub hG dX6_readPart_56 ?_
        obtain ⟨k19, hk19, hu19⟩ := gq.used (gq.wi (k := 105) rfl h6) 28 60 (by decide)
        have ht19 : pm_two (cl_L B kp (ui I6 105 ((I6 105) + 1)) A6) ρ 28 = some (.inr (9, [.int (nI 60), .int (nI 1), .ref (B + 29), .int (nI k19)])) := by rw [← hu19]; rfl
        refine pm_callV (As := [.int ((-20) - v5)]) (rest := []) hG hR dX6_readPart_57 (lkX6_50 _ rfl) okV_X9_append rfl rfl (tb_append (d := 8) (by decide) ht19 rfl (by decide) (by decide) (by decide) (by decide) (by decide) (by decide) hk19) rfl rfl hdd (Nat.le_refl _) (Nat.le_refl _) (by decide) (pm_ki (fun v19 σ' cnt' hq => ?_))
        obtain ⟨I19, A19, rfl, rfl, h19⟩ := hv_p28 (kp := kp) (I := (ui I6 105 ((I6 105) + 1))) (A := A6) hk19 (gq.wi (k := 105) rfl h6) hq
        refine pm_pop hG dX6_readPart_60 rfl ?_
        refine pm_goto (tgt := 143) hG dX6_readPart_61 rfl ?_
        exact pm_vret hG hF dX6_readPart_143 rfl (Nat.le_refl _) (Nat.le_refl _) ⟨rfl, _, _, rfl, rfl, h19⟩
    · refine pm_aloadn hG dX6_readPart_28 rfl ?_
      refine pm_callV (As := []) (rest := []) hG hR dX6_readPart_29 (lkX6_74 _ rfl) okV_X6_readNumber rfl rfl (g_X6_readNumber (d := 8) (by decide) h6) rfl rfl hdd (Nat.le_refl _) (Nat.le_refl _) (by decide) (pm_kv (fun σ' cnt' hq => ?_))
      obtain ⟨I20, A20, rfl, rfl, h20⟩ := hq
      refine pm_goto (tgt := 143) hG dX6_readPart_32 rfl ?_
      exact pm_vret hG hF dX6_readPart_143 rfl (Nat.le_refl _) (Nat.le_refl _) ⟨rfl, _, _, rfl, rfl, h20⟩
  · refine pm_iconst (v := (-1)) hG dX6_readPart_9 (by decide) ?_
    refine pm_goto (tgt := 20) hG dX6_readPart_10 rfl ?_
    refine pm_istoreXn (loc' := [some (.ref (B + 27)), some (.int 4), some (.int v1), some (.int (-1))]) hG dX6_readPart_20 (by decide) (pm_c1b rfl) rfl ?_
    refine pm_iloadn hG dX6_readPart_21 rfl ?_
    refine pm_callS (As := [.int v1]) (rest := []) hG hR dX6_readPart_22 (lkX6_70 _ rfl) okS_X6_isDigit (g_X6_isDigit (d := 8) (by decide) h1) rfl rfl hdd (Nat.le_refl _) (Nat.le_refl _) (by decide) (pm_ki (fun v21 σ' cnt' hq => ?_))
    obtain ⟨b21, I21, A21, rfl, rfl, h21⟩ := hq
    refine pm_if_eq (tgt := 35) hG dX6_readPart_25 rfl (fun c22 => ?_) (fun c22 => ?_)
    · refine pm_iloadn hG dX6_readPart_35 rfl ?_
      refine pm_if_lt (tgt := 64) hG dX6_readPart_36 rfl (fun _ => ?_) (fun q => absurd q (by decide))
      refine pm_iloadn hG dX6_readPart_64 rfl ?_
      refine pm_bipush (v := 33) hG dX6_readPart_65 (by decide) ?_
      refine pm_icmp_ne (tgt := 104) hG dX6_readPart_67 rfl (fun c23 => ?_) (fun c23 => ?_)
      · refine pm_iloadn hG dX6_readPart_104 rfl ?_
        refine pm_bipush (v := 40) hG dX6_readPart_105 (by decide) ?_
        refine pm_icmp_ne (tgt := 139) hG dX6_readPart_107 rfl (fun c24 => ?_) (fun c24 => ?_)
        · refine pm_aloadn hG dX6_readPart_139 rfl ?_
          refine pm_callV (As := []) (rest := []) hG hR dX6_readPart_140 (lkX6_41 _ rfl) okV_X6_fail rfl rfl (g_X6_fail (d := 8) (by decide) h21) rfl rfl hdd (Nat.le_refl _) (Nat.le_refl _) (by decide) (pm_kv (fun σ' cnt' hq => ?_))
          obtain ⟨I25, A25, rfl, rfl, h25⟩ := hq
          exact pm_vret hG hF dX6_readPart_143 rfl (Nat.le_refl _) (Nat.le_refl _) ⟨rfl, _, _, rfl, rfl, h25⟩
        · refine pm_iloadn hG dX6_readPart_110 rfl ?_
          refine pm_iconst (v := 5) hG dX6_readPart_111 (by decide) ?_
          refine pm_icmp_ge (tgt := 139) hG dX6_readPart_112 rfl (fun q => absurd q (by decide)) (fun _ => ?_)
          refine pm_aloadn hG dX6_readPart_115 rfl ?_
          refine pm_dup hG dX6_readPart_116 rfl ?_
          refine pm_getf hG dX6_readPart_117 (flX6_26 _ rfl) rfl rfl ?_
          refine pm_iconst (v := 1) hG dX6_readPart_120 (by decide) ?_
          refine pm_iadd hG dX6_readPart_121 ?_
          refine pm_putf hG dX6_readPart_122 (fwX6_26 _ rfl) rfl rfl rfl ?_
          refine pm_nrm (L' := cl_L B kp (ui I21 105 ((I21 105) + 1)) A21) (by decide) (Nat.le_of_ble_eq_true rfl) rfl ?_
          refine pm_aloadn hG dX6_readPart_125 rfl ?_
          refine pm_iloadn hG dX6_readPart_126 rfl ?_
          refine pm_iconst (v := 1) hG dX6_readPart_127 (by decide) ?_
          refine pm_iadd hG dX6_readPart_128 ?_
          refine pm_top (v := 5) (by decide) ?_
          refine pm_callV (As := [.int 5]) (rest := []) hG hR dX6_readPart_129 (lkX6_33 _ rfl) okV_X6_readText rfl rfl (g_X6_readText_k5 (d := 8) (by decide) (gq.wi (k := 105) rfl h21)) rfl rfl hdd (Nat.le_refl _) (Nat.le_refl _) (by decide) (pm_kv (fun σ' cnt' hq => ?_))
          obtain ⟨I27, A27, rfl, rfl, h27⟩ := hq
          refine pm_aloadn hG dX6_readPart_132 rfl ?_
          refine pm_callV (As := []) (rest := []) hG hR dX6_readPart_133 (lkX6_77 _ rfl) okV_X6_readClosing rfl rfl (g_X6_readClosing (d := 8) (by decide) h27) rfl rfl hdd (Nat.le_refl _) (Nat.le_refl _) (by decide) (pm_kv (fun σ' cnt' hq => ?_))
          obtain ⟨I28, A28, rfl, rfl, h28⟩ := hq
          refine pm_goto (tgt := 143) hG dX6_readPart_136 rfl ?_
          exact pm_vret hG hF dX6_readPart_143 rfl (Nat.le_refl _) (Nat.le_refl _) ⟨rfl, _, _, rfl, rfl, h28⟩
      · refine pm_iloadn hG dX6_readPart_70 rfl ?_
        refine pm_iconst (v := 5) hG dX6_readPart_71 (by decide) ?_
        refine pm_icmp_ge (tgt := 104) hG dX6_readPart_72 rfl (fun q => absurd q (by decide)) (fun _ => ?_)
        refine pm_aloadn hG dX6_readPart_75 rfl ?_
        refine pm_dup hG dX6_readPart_76 rfl ?_
        refine pm_getf hG dX6_readPart_77 (flX6_26 _ rfl) rfl rfl ?_
        refine pm_iconst (v := 1) hG dX6_readPart_80 (by decide) ?_
        refine pm_iadd hG dX6_readPart_81 ?_
        refine pm_putf hG dX6_readPart_82 (fwX6_26 _ rfl) rfl rfl rfl ?_
        refine pm_nrm (L' := cl_L B kp (ui I21 105 ((I21 105) + 1)) A21) (by decide) (Nat.le_of_ble_eq_true rfl) rfl ?_
        refine pm_aloadn hG dX6_readPart_85 rfl ?_
        refine pm_iloadn hG dX6_readPart_86 rfl ?_
        refine pm_iconst (v := 1) hG dX6_readPart_87 (by decide) ?_
        refine pm_iadd hG dX6_readPart_88 ?_
        refine pm_top (v := 5) (by decide) ?_
        refine pm_callV (As := [.int 5]) (rest := []) hG hR dX6_readPart_89 (lkX6_60 _ rfl) okV_X6_readPart rfl rfl (g_X6_readPart_k5 (d := 8) (by decide) (gq.wi (k := 105) rfl h21)) rfl rfl hdd (Nat.le_refl _) (Nat.le_refl _) (by decide) (pm_kv (fun σ' cnt' hq => ?_))
        obtain ⟨I30, A30, rfl, rfl, h30⟩ := hq
        refine pm_aloadn hG dX6_readPart_92 rfl ?_
        refine pm_getf hG dX6_readPart_93 (flX6_20 _ rfl) rfl rfl ?_
        refine pm_iconst (v := (-1)) hG dX6_readPart_96 (by decide) ?_
        obtain ⟨k31, hk31, hu31⟩ := gq.used h30 28 60 (by decide)
        have ht31 : pm_two (cl_L B kp I30 A30) ρ 28 = some (.inr (9, [.int (nI 60), .int (nI 1), .ref (B + 29), .int (nI k31)])) := by rw [← hu31]; rfl
        refine pm_callV (As := [.int (-1)]) (rest := []) hG hR dX6_readPart_97 (lkX6_50 _ rfl) okV_X9_append rfl rfl (tb_append (d := 8) (by decide) ht31 rfl (by decide) (by decide) (by decide) (by decide) (by decide) (by decide) hk31) rfl rfl hdd (Nat.le_refl _) (Nat.le_refl _) (by decide) (pm_ki (fun v31 σ' cnt' hq => ?_))
        obtain ⟨I31, A31, rfl, rfl, h31⟩ := hv_p28 (kp := kp) (I := I30) (A := A30) hk31 h30 hq
        refine pm_pop hG dX6_readPart_100 rfl ?_
        refine pm_goto (tgt := 143) hG dX6_readPart_101 rfl ?_
        exact pm_vret hG hF dX6_readPart_143 rfl (Nat.le_refl _) (Nat.le_refl _) ⟨rfl, _, _, rfl, rfl, h31⟩
    · refine pm_aloadn hG dX6_readPart_28 rfl ?_
      refine pm_callV (As := []) (rest := []) hG hR dX6_readPart_29 (lkX6_74 _ rfl) okV_X6_readNumber rfl rfl (g_X6_readNumber (d := 8) (by decide) h21) rfl rfl hdd (Nat.le_refl _) (Nat.le_refl _) (by decide) (pm_kv (fun σ' cnt' hq => ?_))
      obtain ⟨I32, A32, rfl, rfl, h32⟩ := hq
      refine pm_goto (tgt := 143) hG dX6_readPart_32 rfl ?_
      exact pm_vret hG hF dX6_readPart_143 rfl (Nat.le_refl _) (Nat.le_refl _) ⟨rfl, _, _, rfl, rfl, h32⟩

set_option maxRecDepth 100000 in
set_option maxHeartbeats 4000000 in
theorem g_X6_readSum_k4 {ε : Nat → Int32} {d B cnt : Nat} {kp : pm_KP} {ρ : pm_S} {I : Nat → Int32} {A : Nat → Nat → Int32} (hdd : 10 ≤ d) (h : gq ε I) : pm_met mX6_readSum d 0 0 B [.ref (B + 27), .int 4] cnt (pm_two (cl_L B kp I A) ρ) (pm_Qv (fun σ' cnt' => hvq ε B kp ρ cnt σ' cnt')) := by
  refine pm_enter 2 (by decide) (Nat.le_of_ble_eq_true rfl) rfl (fun G hG hR hF => ?_)
  refine pm_aloadn hG dX6_readSum_0 rfl ?_
  refine pm_iloadn hG dX6_readSum_1 rfl ?_
  refine pm_callV (As := [.int 4]) (rest := []) hG hR dX6_readSum_2 (lkX6_60 _ rfl) okV_X6_readPart rfl rfl (g_X6_readPart_k4 (d := 9) (by decide) h) rfl rfl hdd (Nat.le_refl _) (Nat.le_refl _) (by decide) (pm_kv (fun σ' cnt' hq => ?_))
  obtain ⟨I1, A1, rfl, rfl, h1⟩ := hq
  refine pm_iconst (v := 0) hG dX6_readSum_5 (by decide) ?_
  refine pm_istoreXn (loc' := [some (.ref (B + 27)), some (.int 4), some (.int 0), none]) hG dX6_readSum_6 (by decide) (pm_c1b rfl) rfl ?_
  have loop7 : ∀ (m7 : Nat) (I2 : Nat → Int32) (A2 : Nat → Nat → Int32) (x2_2 : Int32), gq ε I2 → (¬ x2_2 < 0) → ((60 : Int32).toInt - x2_2.toInt).toNat < m7 → pm_wp mX6_readSum G B 7 [some (.ref (B + 27)), some (.int 4), some (.int x2_2), none] [] 0 0 cnt (pm_two (cl_L B kp I2 A2) ρ) := by
    intro m7
    induction m7 with
    | zero => intro I2 A2 x2_2 _  _ hm; exact absurd hm (Nat.not_lt_zero _)
    | succ m7 ih7 =>
      intro I2 A2 x2_2 h2 s7 hm7
      refine pm_iloadn hG dX6_readSum_7 rfl ?_
      refine pm_bipush (v := 60) hG dX6_readSum_8 (by decide) ?_
      refine pm_icmp_ge (tgt := 78) hG dX6_readSum_10 rfl (fun c3 => ?_) (fun c3 => ?_)
      · exact pm_vret hG hF dX6_readSum_78 rfl (Nat.le_refl _) (Nat.le_refl _) ⟨rfl, _, _, rfl, rfl, h2⟩
      · refine pm_aloadn hG dX6_readSum_13 rfl ?_
        refine pm_callV (As := []) (rest := []) hG hR dX6_readSum_14 (lkX6_47 _ rfl) okV_X6_next rfl rfl (g_X6_next (d := 9) (by decide) h2) rfl rfl hdd (Nat.le_refl _) (Nat.le_refl _) (by decide) (pm_ki (fun v4 σ' cnt' hq => ?_))
        obtain ⟨I4, A4, rfl, rfl, h4⟩ := hq
        refine pm_bipush (v := 43) hG dX6_readSum_17 (by decide) ?_
        refine pm_icmp_eq (tgt := 31) hG dX6_readSum_19 rfl (fun c5 => ?_) (fun c5 => ?_)
        · refine pm_aloadn hG dX6_readSum_31 rfl ?_
          refine pm_callV (As := []) (rest := []) hG hR dX6_readSum_32 (lkX6_47 _ rfl) okV_X6_next rfl rfl (g_X6_next (d := 9) (by decide) h4) rfl rfl hdd (Nat.le_refl _) (Nat.le_refl _) (by decide) (pm_ki (fun v6 σ' cnt' hq => ?_))
          obtain ⟨I6, A6, rfl, rfl, h6⟩ := hq
          refine pm_bipush (v := 43) hG dX6_readSum_35 (by decide) ?_
          refine pm_icmp_ne (tgt := 45) hG dX6_readSum_37 rfl (fun c7 => ?_) (fun c7 => ?_)
          · refine pm_bipush (v := (-8)) hG dX6_readSum_45 (by decide) ?_
            refine pm_istoreXn (loc' := [some (.ref (B + 27)), some (.int 4), some (.int x2_2), some (.int (-8))]) hG dX6_readSum_47 (by decide) (pm_c1b rfl) rfl ?_
            refine pm_aloadn hG dX6_readSum_48 rfl ?_
            refine pm_dup hG dX6_readSum_49 rfl ?_
            refine pm_getf hG dX6_readSum_50 (flX6_26 _ rfl) rfl rfl ?_
            refine pm_iconst (v := 1) hG dX6_readSum_53 (by decide) ?_
            refine pm_iadd hG dX6_readSum_54 ?_
            refine pm_putf hG dX6_readSum_55 (fwX6_26 _ rfl) rfl rfl rfl ?_
            refine pm_nrm (L' := cl_L B kp (ui I6 105 ((I6 105) + 1)) A6) (by decide) (Nat.le_of_ble_eq_true rfl) rfl ?_
            refine pm_aloadn hG dX6_readSum_58 rfl ?_
            refine pm_iloadn hG dX6_readSum_59 rfl ?_
            refine pm_callV (As := [.int 4]) (rest := []) hG hR dX6_readSum_60 (lkX6_60 _ rfl) okV_X6_readPart rfl rfl (g_X6_readPart_k4 (d := 9) (by decide) (gq.wi (k := 105) rfl h6)) rfl rfl hdd (Nat.le_refl _) (Nat.le_refl _) (by decide) (pm_kv (fun σ' cnt' hq => ?_))
            obtain ⟨I9, A9, rfl, rfl, h9⟩ := hq
            refine pm_aloadn hG dX6_readSum_63 rfl ?_
            refine pm_getf hG dX6_readSum_64 (flX6_20 _ rfl) rfl rfl ?_
            refine pm_iloadn hG dX6_readSum_67 rfl ?_
            obtain ⟨k10, hk10, hu10⟩ := gq.used h9 28 60 (by decide)
            have ht10 : pm_two (cl_L B kp I9 A9) ρ 28 = some (.inr (9, [.int (nI 60), .int (nI 1), .ref (B + 29), .int (nI k10)])) := by rw [← hu10]; rfl
            refine pm_callV (As := [.int (-8)]) (rest := []) hG hR dX6_readSum_68 (lkX6_50 _ rfl) okV_X9_append rfl rfl (tb_append (d := 9) (by decide) ht10 rfl (by decide) (by decide) (by decide) (by decide) (by decide) (by decide) hk10) rfl rfl hdd (Nat.le_refl _) (Nat.le_refl _) (by decide) (pm_ki (fun v10 σ' cnt' hq => ?_))
            obtain ⟨I10, A10, rfl, rfl, h10⟩ := hv_p28 (kp := kp) (I := I9) (A := A9) hk10 h9 hq
            refine pm_pop hG dX6_readSum_71 rfl ?_
            refine pm_iincX (v := x2_2 + 1) (loc' := [some (.ref (B + 27)), some (.int 4), some (.int (x2_2 + 1)), some (.int (-8))]) hG dX6_readSum_72 rfl (by rfl) (by decide) (pm_c1b rfl) rfl ?_
            refine pm_goto (tgt := 7) hG dX6_readSum_75 rfl ?_
            refine pm_fg 3 (loc' := [some (.ref (B + 27)), some (.int 4), some (.int (x2_2 + 1)), none]) rfl ?_
            exact ih7 _ _ (x2_2 + 1) h10 (pm_sd1 c3 s7) (Nat.lt_of_lt_of_le (pm_mu1 c3) (Nat.le_of_lt_succ hm7))
          · refine pm_bipush (v := (-7)) hG dX6_readSum_40 (by decide) ?_
            refine pm_goto (tgt := 47) hG dX6_readSum_42 rfl ?_
            refine pm_istoreXn (loc' := [some (.ref (B + 27)), some (.int 4), some (.int x2_2), some (.int (-7))]) hG dX6_readSum_47 (by decide) (pm_c1b rfl) rfl ?_
            refine pm_aloadn hG dX6_readSum_48 rfl ?_
            refine pm_dup hG dX6_readSum_49 rfl ?_
            refine pm_getf hG dX6_readSum_50 (flX6_26 _ rfl) rfl rfl ?_
            refine pm_iconst (v := 1) hG dX6_readSum_53 (by decide) ?_
            refine pm_iadd hG dX6_readSum_54 ?_
            refine pm_putf hG dX6_readSum_55 (fwX6_26 _ rfl) rfl rfl rfl ?_
            refine pm_nrm (L' := cl_L B kp (ui I6 105 ((I6 105) + 1)) A6) (by decide) (Nat.le_of_ble_eq_true rfl) rfl ?_
            refine pm_aloadn hG dX6_readSum_58 rfl ?_
            refine pm_iloadn hG dX6_readSum_59 rfl ?_
            refine pm_callV (As := [.int 4]) (rest := []) hG hR dX6_readSum_60 (lkX6_60 _ rfl) okV_X6_readPart rfl rfl (g_X6_readPart_k4 (d := 9) (by decide) (gq.wi (k := 105) rfl h6)) rfl rfl hdd (Nat.le_refl _) (Nat.le_refl _) (by decide) (pm_kv (fun σ' cnt' hq => ?_))
            obtain ⟨I12, A12, rfl, rfl, h12⟩ := hq
            refine pm_aloadn hG dX6_readSum_63 rfl ?_
            refine pm_getf hG dX6_readSum_64 (flX6_20 _ rfl) rfl rfl ?_
            refine pm_iloadn hG dX6_readSum_67 rfl ?_
            obtain ⟨k13, hk13, hu13⟩ := gq.used h12 28 60 (by decide)
            have ht13 : pm_two (cl_L B kp I12 A12) ρ 28 = some (.inr (9, [.int (nI 60), .int (nI 1), .ref (B + 29), .int (nI k13)])) := by rw [← hu13]; rfl
            refine pm_callV (As := [.int (-7)]) (rest := []) hG hR dX6_readSum_68 (lkX6_50 _ rfl) okV_X9_append rfl rfl (tb_append (d := 9) (by decide) ht13 rfl (by decide) (by decide) (by decide) (by decide) (by decide) (by decide) hk13) rfl rfl hdd (Nat.le_refl _) (Nat.le_refl _) (by decide) (pm_ki (fun v13 σ' cnt' hq => ?_))
            obtain ⟨I13, A13, rfl, rfl, h13⟩ := hv_p28 (kp := kp) (I := I12) (A := A12) hk13 h12 hq
            refine pm_pop hG dX6_readSum_71 rfl ?_
            refine pm_iincX (v := x2_2 + 1) (loc' := [some (.ref (B + 27)), some (.int 4), some (.int (x2_2 + 1)), some (.int (-7))]) hG dX6_readSum_72 rfl (by rfl) (by decide) (pm_c1b rfl) rfl ?_
            refine pm_goto (tgt := 7) hG dX6_readSum_75 rfl ?_
            refine pm_fg 3 (loc' := [some (.ref (B + 27)), some (.int 4), some (.int (x2_2 + 1)), none]) rfl ?_
            exact ih7 _ _ (x2_2 + 1) h13 (pm_sd1 c3 s7) (Nat.lt_of_lt_of_le (pm_mu1 c3) (Nat.le_of_lt_succ hm7))
        · refine pm_aloadn hG dX6_readSum_22 rfl ?_
          refine pm_callV (As := []) (rest := []) hG hR dX6_readSum_23 (lkX6_47 _ rfl) okV_X6_next rfl rfl (g_X6_next (d := 9) (by decide) h4) rfl rfl hdd (Nat.le_refl _) (Nat.le_refl _) (by decide) (pm_ki (fun v14 σ' cnt' hq => ?_))
          obtain ⟨I14, A14, rfl, rfl, h14⟩ := hq
          refine pm_bipush (v := 45) hG dX6_readSum_26 (by decide) ?_
          refine pm_icmp_ne (tgt := 78) hG dX6_readSum_28 rfl (fun c15 => ?_) (fun c15 => ?_)
          · exact pm_vret hG hF dX6_readSum_78 rfl (Nat.le_refl _) (Nat.le_refl _) ⟨rfl, _, _, rfl, rfl, h14⟩
          · refine pm_aloadn hG dX6_readSum_31 rfl ?_
            refine pm_callV (As := []) (rest := []) hG hR dX6_readSum_32 (lkX6_47 _ rfl) okV_X6_next rfl rfl (g_X6_next (d := 9) (by decide) h14) rfl rfl hdd (Nat.le_refl _) (Nat.le_refl _) (by decide) (pm_ki (fun v16 σ' cnt' hq => ?_))
            obtain ⟨I16, A16, rfl, rfl, h16⟩ := hq
            refine pm_bipush (v := 43) hG dX6_readSum_35 (by decide) ?_
            refine pm_icmp_ne (tgt := 45) hG dX6_readSum_37 rfl (fun c17 => ?_) (fun c17 => ?_)
            · refine pm_bipush (v := (-8)) hG dX6_readSum_45 (by decide) ?_
              refine pm_istoreXn (loc' := [some (.ref (B + 27)), some (.int 4), some (.int x2_2), some (.int (-8))]) hG dX6_readSum_47 (by decide) (pm_c1b rfl) rfl ?_
              refine pm_aloadn hG dX6_readSum_48 rfl ?_
              refine pm_dup hG dX6_readSum_49 rfl ?_
              refine pm_getf hG dX6_readSum_50 (flX6_26 _ rfl) rfl rfl ?_
              refine pm_iconst (v := 1) hG dX6_readSum_53 (by decide) ?_
              refine pm_iadd hG dX6_readSum_54 ?_
              refine pm_putf hG dX6_readSum_55 (fwX6_26 _ rfl) rfl rfl rfl ?_
              refine pm_nrm (L' := cl_L B kp (ui I16 105 ((I16 105) + 1)) A16) (by decide) (Nat.le_of_ble_eq_true rfl) rfl ?_
              refine pm_aloadn hG dX6_readSum_58 rfl ?_
              refine pm_iloadn hG dX6_readSum_59 rfl ?_
              refine pm_callV (As := [.int 4]) (rest := []) hG hR dX6_readSum_60 (lkX6_60 _ rfl) okV_X6_readPart rfl rfl (g_X6_readPart_k4 (d := 9) (by decide) (gq.wi (k := 105) rfl h16)) rfl rfl hdd (Nat.le_refl _) (Nat.le_refl _) (by decide) (pm_kv (fun σ' cnt' hq => ?_))
              obtain ⟨I19, A19, rfl, rfl, h19⟩ := hq
              refine pm_aloadn hG dX6_readSum_63 rfl ?_
              refine pm_getf hG dX6_readSum_64 (flX6_20 _ rfl) rfl rfl ?_
              refine pm_iloadn hG dX6_readSum_67 rfl ?_
              obtain ⟨k20, hk20, hu20⟩ := gq.used h19 28 60 (by decide)
              have ht20 : pm_two (cl_L B kp I19 A19) ρ 28 = some (.inr (9, [.int (nI 60), .int (nI 1), .ref (B + 29), .int (nI k20)])) := by rw [← hu20]; rfl
              refine pm_callV (As := [.int (-8)]) (rest := []) hG hR dX6_readSum_68 (lkX6_50 _ rfl) okV_X9_append rfl rfl (tb_append (d := 9) (by decide) ht20 rfl (by decide) (by decide) (by decide) (by decide) (by decide) (by decide) hk20) rfl rfl hdd (Nat.le_refl _) (Nat.le_refl _) (by decide) (pm_ki (fun v20 σ' cnt' hq => ?_))
              obtain ⟨I20, A20, rfl, rfl, h20⟩ := hv_p28 (kp := kp) (I := I19) (A := A19) hk20 h19 hq
              refine pm_pop hG dX6_readSum_71 rfl ?_
              refine pm_iincX (v := x2_2 + 1) (loc' := [some (.ref (B + 27)), some (.int 4), some (.int (x2_2 + 1)), some (.int (-8))]) hG dX6_readSum_72 rfl (by rfl) (by decide) (pm_c1b rfl) rfl ?_
              refine pm_goto (tgt := 7) hG dX6_readSum_75 rfl ?_
              refine pm_fg 3 (loc' := [some (.ref (B + 27)), some (.int 4), some (.int (x2_2 + 1)), none]) rfl ?_
              exact ih7 _ _ (x2_2 + 1) h20 (pm_sd1 c3 s7) (Nat.lt_of_lt_of_le (pm_mu1 c3) (Nat.le_of_lt_succ hm7))
            · refine pm_bipush (v := (-7)) hG dX6_readSum_40 (by decide) ?_
              refine pm_goto (tgt := 47) hG dX6_readSum_42 rfl ?_
              refine pm_istoreXn (loc' := [some (.ref (B + 27)), some (.int 4), some (.int x2_2), some (.int (-7))]) hG dX6_readSum_47 (by decide) (pm_c1b rfl) rfl ?_
              refine pm_aloadn hG dX6_readSum_48 rfl ?_
              refine pm_dup hG dX6_readSum_49 rfl ?_
              refine pm_getf hG dX6_readSum_50 (flX6_26 _ rfl) rfl rfl ?_
              refine pm_iconst (v := 1) hG dX6_readSum_53 (by decide) ?_
              refine pm_iadd hG dX6_readSum_54 ?_
              refine pm_putf hG dX6_readSum_55 (fwX6_26 _ rfl) rfl rfl rfl ?_
              refine pm_nrm (L' := cl_L B kp (ui I16 105 ((I16 105) + 1)) A16) (by decide) (Nat.le_of_ble_eq_true rfl) rfl ?_
              refine pm_aloadn hG dX6_readSum_58 rfl ?_
              refine pm_iloadn hG dX6_readSum_59 rfl ?_
              refine pm_callV (As := [.int 4]) (rest := []) hG hR dX6_readSum_60 (lkX6_60 _ rfl) okV_X6_readPart rfl rfl (g_X6_readPart_k4 (d := 9) (by decide) (gq.wi (k := 105) rfl h16)) rfl rfl hdd (Nat.le_refl _) (Nat.le_refl _) (by decide) (pm_kv (fun σ' cnt' hq => ?_))
              obtain ⟨I22, A22, rfl, rfl, h22⟩ := hq
              refine pm_aloadn hG dX6_readSum_63 rfl ?_
              refine pm_getf hG dX6_readSum_64 (flX6_20 _ rfl) rfl rfl ?_
              refine pm_iloadn hG dX6_readSum_67 rfl ?_
              obtain ⟨k23, hk23, hu23⟩ := gq.used h22 28 60 (by decide)
              have ht23 : pm_two (cl_L B kp I22 A22) ρ 28 = some (.inr (9, [.int (nI 60), .int (nI 1), .ref (B + 29), .int (nI k23)])) := by rw [← hu23]; rfl
              refine pm_callV (As := [.int (-7)]) (rest := []) hG hR dX6_readSum_68 (lkX6_50 _ rfl) okV_X9_append rfl rfl (tb_append (d := 9) (by decide) ht23 rfl (by decide) (by decide) (by decide) (by decide) (by decide) (by decide) hk23) rfl rfl hdd (Nat.le_refl _) (Nat.le_refl _) (by decide) (pm_ki (fun v23 σ' cnt' hq => ?_))
              obtain ⟨I23, A23, rfl, rfl, h23⟩ := hv_p28 (kp := kp) (I := I22) (A := A22) hk23 h22 hq
              refine pm_pop hG dX6_readSum_71 rfl ?_
              refine pm_iincX (v := x2_2 + 1) (loc' := [some (.ref (B + 27)), some (.int 4), some (.int (x2_2 + 1)), some (.int (-7))]) hG dX6_readSum_72 rfl (by rfl) (by decide) (pm_c1b rfl) rfl ?_
              refine pm_goto (tgt := 7) hG dX6_readSum_75 rfl ?_
              refine pm_fg 3 (loc' := [some (.ref (B + 27)), some (.int 4), some (.int (x2_2 + 1)), none]) rfl ?_
              exact ih7 _ _ (x2_2 + 1) h23 (pm_sd1 c3 s7) (Nat.lt_of_lt_of_le (pm_mu1 c3) (Nat.le_of_lt_succ hm7))
  exact loop7 _ _ _ 0 h1 (by decide) (Nat.lt_succ_self _)
