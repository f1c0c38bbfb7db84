set_option maxRecDepth 100000 in
set_option maxHeartbeats 4000000 in
theorem g_X2_comesTo {ε : Nat → Int32} {d B cnt : Nat} {kp : pm_KP} {ρ : pm_S} {I : Nat → Int32} {A : Nat → Nat → Int32} {za zb zc zd : Int32} (hdd : 3 ≤ d) (h : gq ε I) : pm_met mX2_comesTo d 0 0 B [.ref (B + 26), .int za, .int zb, .int zc, .int zd] cnt (pm_two (cl_L B kp I A) ρ) (pm_Qi (fun _ σ' cnt' => hvq ε B kp ρ cnt σ' cnt')) := by
  refine pm_enter 4 (by decide) (Nat.le_of_ble_eq_true rfl) rfl (fun G hG hR hF => ?_)
  refine pm_aloadn hG dX2_comesTo_0 rfl ?_
  refine pm_getf hG dX2_comesTo_1 (flX2_9 _ rfl) rfl rfl ?_
  refine pm_getf hG dX2_comesTo_4 (flX2_43 _ rfl) rfl rfl ?_
  refine pm_iloadn hG dX2_comesTo_7 rfl ?_
  refine pm_iconst (v := 4) hG dX2_comesTo_8 (by decide) ?_
  refine pm_callV (As := [.int za, .int 4]) (rest := []) hG hR dX2_comesTo_9 (lkX2_67 _ rfl) okV_X9_get rfl rfl (tb_get (d := 2) rfl rfl (pm_tw_of 12 6 (by decide) (by decide) (by decide))) rfl rfl hdd (Nat.le_refl _) (Nat.le_refl _) (by decide) (pm_ki (fun v1 σ' cnt' hq => ?_))
  obtain ⟨I1, A1, rfl, rfl, h1⟩ := hv_id (kp := kp) (I := I) (A := A) h hq.2
  refine pm_istoreXi (loc' := [some (.ref (B + 26)), some (.int za), some (.int zb), some (.int zc), some (.int zd), some (.int v1), none, none, none]) hG dX2_comesTo_12 (by decide) (pm_c1b rfl) rfl ?_
  refine pm_aloadn hG dX2_comesTo_14 rfl ?_
  refine pm_iconst (v := 0) hG dX2_comesTo_15 (by decide) ?_
  refine pm_putf hG dX2_comesTo_16 (fwX2_87 _ rfl) rfl rfl rfl ?_
  refine pm_nrm (L' := cl_L B kp (ui I1 104 0) A1) (by decide) (Nat.le_of_ble_eq_true rfl) rfl ?_
  refine pm_iconst (v := 0) hG dX2_comesTo_19 (by decide) ?_
  refine pm_istoreXi (loc' := [some (.ref (B + 26)), some (.int za), some (.int zb), some (.int zc), some (.int zd), some (.int v1), some (.int 0), none, none]) hG dX2_comesTo_20 (by decide) (pm_c1b rfl) rfl ?_
  have loop22 : ∀ (m22 : Nat) (I3 : Nat → Int32) (A3 : Nat → Nat → Int32) (x3_6 : Int32), gq ε I3 → (¬ x3_6 < 0) → ((v1 : Int32).toInt - x3_6.toInt).toNat < m22 → pm_wp mX2_comesTo G B 22 [some (.ref (B + 26)), some (.int za), some (.int zb), some (.int zc), some (.int zd), some (.int v1), some (.int x3_6), none, none] [] 0 0 cnt (pm_two (cl_L B kp I3 A3) ρ) := by
    intro m22
    induction m22 with
    | zero => intro I3 A3 x3_6 _  _ hm; exact absurd hm (Nat.not_lt_zero _)
    | succ m22 ih22 =>
      intro I3 A3 x3_6 h3 s22 hm22
      refine pm_iloadi hG dX2_comesTo_22 rfl ?_
      refine pm_iloadi hG dX2_comesTo_24 rfl ?_
      refine pm_icmp_ge (tgt := 137) hG dX2_comesTo_26 rfl (fun c4 => ?_) (fun c4 => ?_)
      · refine pm_aloadn hG dX2_comesTo_137 rfl ?_
        refine pm_callV (As := []) (rest := []) hG hR dX2_comesTo_138 (lkX2_97 _ rfl) okV_X2_pop rfl rfl (g_X2_pop (d := 2) (by decide) h3) rfl rfl hdd (Nat.le_refl _) (Nat.le_refl _) (by decide) (pm_ki (fun v5 σ' cnt' hq => ?_))
        obtain ⟨I5, A5, rfl, rfl, h5⟩ := hq
        exact pm_iret hG hF dX2_comesTo_141 rfl (Nat.le_refl _) (Nat.le_refl _) ⟨_, rfl, _, _, rfl, rfl, h5⟩
      · refine pm_aloadn hG dX2_comesTo_29 rfl ?_
        refine pm_getf hG dX2_comesTo_30 (flX2_9 _ rfl) rfl rfl ?_
        refine pm_getf hG dX2_comesTo_33 (flX2_64 _ rfl) rfl rfl ?_
        refine pm_iloadn hG dX2_comesTo_36 rfl ?_
        refine pm_iloadi hG dX2_comesTo_37 rfl ?_
        refine pm_callV (As := [.int za, .int x3_6]) (rest := []) hG hR dX2_comesTo_39 (lkX2_67 _ rfl) okV_X9_get rfl rfl (tb_get (d := 2) rfl rfl (pm_tw_of 12 60 (by decide) (by decide) (by decide))) rfl rfl hdd (Nat.le_refl _) (Nat.le_refl _) (by decide) (pm_ki (fun v6 σ' cnt' hq => ?_))
        obtain ⟨I6, A6, rfl, rfl, h6⟩ := hv_id (kp := kp) (I := I3) (A := A3) h3 hq.2
        refine pm_istoreXi (loc' := [some (.ref (B + 26)), some (.int za), some (.int zb), some (.int zc), some (.int zd), some (.int v1), some (.int x3_6), some (.int v6), none]) hG dX2_comesTo_42 (by decide) (pm_c1b rfl) rfl ?_
        refine pm_iloadi hG dX2_comesTo_44 rfl ?_
        refine pm_if_lt (tgt := 58) hG dX2_comesTo_46 rfl (fun c7 => ?_) (fun c7 => ?_)
        · refine pm_iloadi hG dX2_comesTo_58 rfl ?_
          refine pm_bipush (v := (-20)) hG dX2_comesTo_60 (by decide) ?_
          refine pm_icmp_gt (tgt := 85) hG dX2_comesTo_62 rfl (fun c8 => ?_) (fun c8 => ?_)
          · refine pm_iloadi hG dX2_comesTo_85 rfl ?_
            refine pm_iconst (v := (-1)) hG dX2_comesTo_87 (by decide) ?_
            refine pm_icmp_ne (tgt := 110) hG dX2_comesTo_88 rfl (fun c9 => ?_) (fun c9 => ?_)
            · refine pm_aloadn hG dX2_comesTo_110 rfl ?_
              refine pm_callV (As := []) (rest := []) hG hR dX2_comesTo_111 (lkX2_97 _ rfl) okV_X2_pop rfl rfl (g_X2_pop (d := 2) (by decide) h6) rfl rfl hdd (Nat.le_refl _) (Nat.le_refl _) (by decide) (pm_ki (fun v10 σ' cnt' hq => ?_))
              obtain ⟨I10, A10, rfl, rfl, h10⟩ := hq
              refine pm_istoreXi (loc' := [some (.ref (B + 26)), some (.int za), some (.int zb), some (.int zc), some (.int zd), some (.int v1), some (.int x3_6), some (.int v6), some (.int v10)]) hG dX2_comesTo_114 (by decide) (pm_c1b rfl) rfl ?_
              refine pm_aloadn hG dX2_comesTo_116 rfl ?_
              refine pm_iloadi hG dX2_comesTo_117 rfl ?_
              refine pm_aloadn hG dX2_comesTo_119 rfl ?_
              refine pm_callV (As := []) (rest := [.int v6, .ref (B + 26)]) hG hR dX2_comesTo_120 (lkX2_97 _ rfl) okV_X2_pop rfl rfl (g_X2_pop (d := 2) (by decide) h10) rfl rfl hdd (Nat.le_refl _) (Nat.le_refl _) (by first | decide | exact Nat.le_of_ble_eq_true rfl) (pm_ki (fun v11 σ' cnt' hq => ?_))
              obtain ⟨I11, A11, rfl, rfl, h11⟩ := hq
              refine pm_iloadi hG dX2_comesTo_123 rfl ?_
              refine pm_callS (As := [.int v6, .int v11, .int v10]) (rest := [.ref (B + 26)]) hG hR dX2_comesTo_125 (lkX2_100 _ rfl) okS_X2_joined (g_X2_joined (d := 2) (by decide) h11) rfl rfl hdd (Nat.le_refl _) (Nat.le_refl _) (by first | decide | exact Nat.le_of_ble_eq_true rfl) (pm_ki (fun v12 σ' cnt' hq => ?_))
              obtain ⟨I12, A12, rfl, rfl, h12⟩ := hq
              refine pm_callV (As := [.int v12]) (rest := []) hG hR dX2_comesTo_128 (lkX2_90 _ rfl) okV_X2_push rfl rfl (g_X2_push (d := 2) (by decide) h12) rfl rfl hdd (Nat.le_refl _) (Nat.le_refl _) (by decide) (pm_kv (fun σ' cnt' hq => ?_))
              obtain ⟨I13, A13, rfl, rfl, h13⟩ := hq
              refine pm_iincX (v := x3_6 + 1) (loc' := [some (.ref (B + 26)), some (.int za), some (.int zb), some (.int zc), some (.int zd), some (.int v1), some (.int (x3_6 + 1)), some (.int v6), some (.int v10)]) hG dX2_comesTo_131 rfl (by rfl) (by decide) (pm_c1b rfl) rfl ?_
              refine pm_goto (tgt := 22) hG dX2_comesTo_134 rfl ?_
              refine pm_fg 7 (loc' := [some (.ref (B + 26)), some (.int za), some (.int zb), some (.int zc), some (.int zd), some (.int v1), some (.int (x3_6 + 1)), none, some (.int v10)]) rfl ?_
              refine pm_fg 8 (loc' := [some (.ref (B + 26)), some (.int za), some (.int zb), some (.int zc), some (.int zd), some (.int v1), some (.int (x3_6 + 1)), none, none]) rfl ?_
              exact ih22 _ _ (x3_6 + 1) h13 (pm_sd1 c4 s22) (Nat.lt_of_lt_of_le (pm_mu1 c4) (Nat.le_of_lt_succ hm22))
            · refine pm_aloadn hG dX2_comesTo_91 rfl ?_
              refine pm_aloadn hG dX2_comesTo_92 rfl ?_
              refine pm_callV (As := []) (rest := [.ref (B + 26)]) hG hR dX2_comesTo_93 (lkX2_97 _ rfl) okV_X2_pop rfl rfl (g_X2_pop (d := 2) (by decide) h6) rfl rfl hdd (Nat.le_refl _) (Nat.le_refl _) (by first | decide | exact Nat.le_of_ble_eq_true rfl) (pm_ki (fun v14 σ' cnt' hq => ?_))
              obtain ⟨I14, A14, rfl, rfl, h14⟩ := hq
              refine pm_if_ne (tgt := 103) hG dX2_comesTo_96 rfl (fun c15 => ?_) (fun c15 => ?_)
              · refine pm_iconst (v := 0) hG dX2_comesTo_103 (by decide) ?_
                refine pm_callV (As := [.int 0]) (rest := []) hG hR dX2_comesTo_104 (lkX2_90 _ rfl) okV_X2_push rfl rfl (g_X2_push (d := 2) (by decide) h14) rfl rfl hdd (Nat.le_refl _) (Nat.le_refl _) (by decide) (pm_kv (fun σ' cnt' hq => ?_))
                obtain ⟨I16, A16, rfl, rfl, h16⟩ := hq
                refine pm_goto (tgt := 131) hG dX2_comesTo_107 rfl ?_
                refine pm_iincX (v := x3_6 + 1) (loc' := [some (.ref (B + 26)), some (.int za), some (.int zb), some (.int zc), some (.int zd), some (.int v1), some (.int (x3_6 + 1)), some (.int v6), none]) hG dX2_comesTo_131 rfl (by rfl) (by decide) (pm_c1b rfl) rfl ?_
                refine pm_goto (tgt := 22) hG dX2_comesTo_134 rfl ?_
                refine pm_fg 7 (loc' := [some (.ref (B + 26)), some (.int za), some (.int zb), some (.int zc), some (.int zd), some (.int v1), some (.int (x3_6 + 1)), none, none]) rfl ?_
                exact ih22 _ _ (x3_6 + 1) h16 (pm_sd1 c4 s22) (Nat.lt_of_lt_of_le (pm_mu1 c4) (Nat.le_of_lt_succ hm22))
              · refine pm_iconst (v := 1) hG dX2_comesTo_99 (by decide) ?_
                refine pm_goto (tgt := 104) hG dX2_comesTo_100 rfl ?_
                refine pm_callV (As := [.int 1]) (rest := []) hG hR dX2_comesTo_104 (lkX2_90 _ rfl) okV_X2_push rfl rfl (g_X2_push (d := 2) (by decide) h14) rfl rfl hdd (Nat.le_refl _) (Nat.le_refl _) (by decide) (pm_kv (fun σ' cnt' hq => ?_))
                obtain ⟨I17, A17, rfl, rfl, h17⟩ := hq
                refine pm_goto (tgt := 131) hG dX2_comesTo_107 rfl ?_
                refine pm_iincX (v := x3_6 + 1) (loc' := [some (.ref (B + 26)), some (.int za), some (.int zb), some (.int zc), some (.int zd), some (.int v1), some (.int (x3_6 + 1)), some (.int v6), none]) hG dX2_comesTo_131 rfl (by rfl) (by decide) (pm_c1b rfl) rfl ?_
                refine pm_goto (tgt := 22) hG dX2_comesTo_134 rfl ?_
                refine pm_fg 7 (loc' := [some (.ref (B + 26)), some (.int za), some (.int zb), some (.int zc), some (.int zd), some (.int v1), some (.int (x3_6 + 1)), none, none]) rfl ?_
                exact ih22 _ _ (x3_6 + 1) h17 (pm_sd1 c4 s22) (Nat.lt_of_lt_of_le (pm_mu1 c4) (Nat.le_of_lt_succ hm22))
          · refine pm_aloadn hG dX2_comesTo_65 rfl ?_
            refine pm_aloadn hG dX2_comesTo_66 rfl ?_
            refine pm_bipush (v := (-20)) hG dX2_comesTo_67 (by decide) ?_
            refine pm_iloadi hG dX2_comesTo_69 rfl ?_
            refine pm_isub hG dX2_comesTo_71 ?_
            refine pm_iloadn hG dX2_comesTo_72 rfl ?_
            refine pm_iloadn hG dX2_comesTo_73 rfl ?_
            refine pm_iloadi hG dX2_comesTo_74 rfl ?_
            refine pm_callV (As := [.int ((-20) - v6), .int zb, .int zc, .int zd]) (rest := [.ref (B + 26)]) hG hR dX2_comesTo_76 (lkX2_94 _ rfl) okV_X2_named rfl rfl (g_X2_named (d := 2) (by decide) h6) rfl rfl hdd (Nat.le_refl _) (Nat.le_refl _) (by first | decide | exact Nat.le_of_ble_eq_true rfl) (pm_ki (fun v18 σ' cnt' hq => ?_))
            obtain ⟨I18, A18, rfl, rfl, h18⟩ := hq
            refine pm_callV (As := [.int v18]) (rest := []) hG hR dX2_comesTo_79 (lkX2_90 _ rfl) okV_X2_push rfl rfl (g_X2_push (d := 2) (by decide) h18) rfl rfl hdd (Nat.le_refl _) (Nat.le_refl _) (by decide) (pm_kv (fun σ' cnt' hq => ?_))
            obtain ⟨I19, A19, rfl, rfl, h19⟩ := hq
            refine pm_goto (tgt := 131) hG dX2_comesTo_82 rfl ?_
            refine pm_iincX (v := x3_6 + 1) (loc' := [some (.ref (B + 26)), some (.int za), some (.int zb), some (.int zc), some (.int zd), some (.int v1), some (.int (x3_6 + 1)), some (.int v6), none]) hG dX2_comesTo_131 rfl (by rfl) (by decide) (pm_c1b rfl) rfl ?_
            refine pm_goto (tgt := 22) hG dX2_comesTo_134 rfl ?_
            refine pm_fg 7 (loc' := [some (.ref (B + 26)), some (.int za), some (.int zb), some (.int zc), some (.int zd), some (.int v1), some (.int (x3_6 + 1)), none, none]) rfl ?_
            exact ih22 _ _ (x3_6 + 1) h19 (pm_sd1 c4 s22) (Nat.lt_of_lt_of_le (pm_mu1 c4) (Nat.le_of_lt_succ hm22))
        · refine pm_aloadn hG dX2_comesTo_49 rfl ?_
          refine pm_iloadi hG dX2_comesTo_50 rfl ?_
          refine pm_callV (As := [.int v6]) (rest := []) hG hR dX2_comesTo_52 (lkX2_90 _ rfl) okV_X2_push rfl rfl (g_X2_push (d := 2) (by decide) h6) rfl rfl hdd (Nat.le_refl _) (Nat.le_refl _) (by decide) (pm_kv (fun σ' cnt' hq => ?_))
          obtain ⟨I20, A20, rfl, rfl, h20⟩ := hq
          refine pm_goto (tgt := 131) hG dX2_comesTo_55 rfl ?_
          refine pm_iincX (v := x3_6 + 1) (loc' := [some (.ref (B + 26)), some (.int za), some (.int zb), some (.int zc), some (.int zd), some (.int v1), some (.int (x3_6 + 1)), some (.int v6), none]) hG dX2_comesTo_131 rfl (by rfl) (by decide) (pm_c1b rfl) rfl ?_
          refine pm_goto (tgt := 22) hG dX2_comesTo_134 rfl ?_
          refine pm_fg 7 (loc' := [some (.ref (B + 26)), some (.int za), some (.int zb), some (.int zc), some (.int zd), some (.int v1), some (.int (x3_6 + 1)), none, none]) rfl ?_
          exact ih22 _ _ (x3_6 + 1) h20 (pm_sd1 c4 s22) (Nat.lt_of_lt_of_le (pm_mu1 c4) (Nat.le_of_lt_succ hm22))
  exact loop22 _ _ _ 0 (gq.wi (k := 104) rfl h1) (by decide) (Nat.lt_succ_self _)

set_option maxRecDepth 100000 in
set_option maxHeartbeats 4000000 in
theorem g_X0_weightOf {ε : Nat → Int32} {d B cnt : Nat} {kp : pm_KP} {ρ : pm_S} {I : Nat → Int32} {A : Nat → Nat → Int32} {za zb : Int32} (hdd : 4 ≤ d) (h : gq ε I) : pm_met mX0_weightOf d 0 0 B [.ref (B + 31), .int za, .int zb] cnt (pm_two (cl_L B kp I A) ρ) (pm_Qi (fun _ σ' cnt' => hvq ε B kp ρ cnt σ' cnt')) := by
  refine pm_enter 3 (by decide) (Nat.le_of_ble_eq_true rfl) rfl (fun G hG hR hF => ?_)
  refine pm_iloadn hG dX0_weightOf_0 rfl ?_
  refine pm_if_lt (tgt := 26) hG dX0_weightOf_1 rfl (fun c1 => ?_) (fun c1 => ?_)
  · refine pm_iconst (v := 1) hG dX0_weightOf_26 (by decide) ?_
    refine pm_istoreXn (loc' := [some (.ref (B + 31)), some (.int za), some (.int zb), some (.int 1), none, none]) hG dX0_weightOf_27 (by decide) (pm_c1b rfl) rfl ?_
    refine pm_aloadn hG dX0_weightOf_28 rfl ?_
    refine pm_getf hG dX0_weightOf_29 (flX0_9 _ rfl) rfl rfl ?_
    refine pm_getf hG dX0_weightOf_32 (flX0_104 _ rfl) rfl rfl ?_
    refine pm_callV (As := []) (rest := []) hG hR dX0_weightOf_35 (lkX0_47 _ rfl) okV_X9_used rfl rfl (tb_used (d := 3) rfl) rfl rfl hdd (Nat.le_refl _) (Nat.le_refl _) (by decide) (pm_ki (fun v2 σ' cnt' hq => ?_))
    obtain ⟨I2, A2, rfl, rfl, h2⟩ := hv_id (kp := kp) (I := I) (A := A) h hq.2
    refine pm_istoreXi (loc' := [some (.ref (B + 31)), some (.int za), some (.int zb), some (.int 1), some (.int v2), none]) hG dX0_weightOf_38 (by decide) (pm_c1b rfl) rfl ?_
    refine pm_iconst (v := 0) hG dX0_weightOf_40 (by decide) ?_
    refine pm_istoreXi (loc' := [some (.ref (B + 31)), some (.int za), some (.int zb), some (.int 1), some (.int v2), some (.int 0)]) hG dX0_weightOf_41 (by decide) (pm_c1b rfl) rfl ?_
    have loop43 : ∀ (m43 : Nat) (I3 : Nat → Int32) (A3 : Nat → Nat → Int32) (x3_3 x3_5 : Int32), gq ε I3 → (¬ x3_5 < 0) → ((v2 : Int32).toInt - x3_5.toInt).toNat < m43 → pm_wp mX0_weightOf G B 43 [some (.ref (B + 31)), some (.int za), some (.int zb), some (.int x3_3), some (.int v2), some (.int x3_5)] [] 0 0 cnt (pm_two (cl_L B kp I3 A3) ρ) := by
      intro m43
      induction m43 with
      | zero => intro I3 A3 x3_3 x3_5 _  _ hm; exact absurd hm (Nat.not_lt_zero _)
      | succ m43 ih43 =>
        intro I3 A3 x3_3 x3_5 h3 s43 hm43
        refine pm_iloadi hG dX0_weightOf_43 rfl ?_
        refine pm_iloadi hG dX0_weightOf_45 rfl ?_
        refine pm_icmp_ge (tgt := 89) hG dX0_weightOf_47 rfl (fun c4 => ?_) (fun c4 => ?_)
        · refine pm_iloadn hG dX0_weightOf_89 rfl ?_
          exact pm_iret hG hF dX0_weightOf_90 rfl (Nat.le_refl _) (Nat.le_refl _) ⟨_, rfl, _, _, rfl, rfl, h3⟩
        · refine pm_aloadn hG dX0_weightOf_50 rfl ?_
          refine pm_getf hG dX0_weightOf_51 (flX0_9 _ rfl) rfl rfl ?_
          refine pm_getf hG dX0_weightOf_54 (flX0_104 _ rfl) rfl rfl ?_
          refine pm_iloadi hG dX0_weightOf_57 rfl ?_
          refine pm_iconst (v := 2) hG dX0_weightOf_59 (by decide) ?_
          refine pm_callV (As := [.int x3_5, .int 2]) (rest := []) hG hR dX0_weightOf_60 (lkX0_39 _ rfl) okV_X9_get rfl rfl (tb_get (d := 3) rfl rfl (pm_tw_of 20 6 (by decide) (by decide) (by decide))) rfl rfl hdd (Nat.le_refl _) (Nat.le_refl _) (by decide) (pm_ki (fun v5 σ' cnt' hq => ?_))
          obtain ⟨I5, A5, rfl, rfl, h5⟩ := hv_id (kp := kp) (I := I3) (A := A3) h3 hq.2
          refine pm_iloadn hG dX0_weightOf_63 rfl ?_
          refine pm_icmp_ne (tgt := 83) hG dX0_weightOf_64 rfl (fun c6 => ?_) (fun c6 => ?_)
          · refine pm_iincX (v := x3_5 + 1) (loc' := [some (.ref (B + 31)), some (.int za), some (.int zb), some (.int x3_3), some (.int v2), some (.int (x3_5 + 1))]) hG dX0_weightOf_83 rfl (by rfl) (by decide) (pm_c1b rfl) rfl ?_
            refine pm_goto (tgt := 43) hG dX0_weightOf_86 rfl ?_
            exact ih43 _ _ x3_3 (x3_5 + 1) h5 (pm_sd1 c4 s43) (Nat.lt_of_lt_of_le (pm_mu1 c4) (Nat.le_of_lt_succ hm43))
          · refine pm_aloadn hG dX0_weightOf_67 rfl ?_
            refine pm_getf hG dX0_weightOf_68 (flX0_9 _ rfl) rfl rfl ?_
            refine pm_iloadi hG dX0_weightOf_71 rfl ?_
            refine pm_iconst (v := 1) hG dX0_weightOf_73 (by decide) ?_
            refine pm_callV (As := [.int x3_5, .int 1]) (rest := []) hG hR dX0_weightOf_74 (lkX0_107 _ rfl) okV_X7_isOfKind rfl rfl (g_X7_isOfKind (d := 3) (by decide) h5) rfl rfl hdd (Nat.le_refl _) (Nat.le_refl _) (by decide) (pm_ki (fun v7 σ' cnt' hq => ?_))
            obtain ⟨b7, I7, A7, rfl, rfl, h7⟩ := hq
            refine pm_if_eq (tgt := 83) hG dX0_weightOf_77 rfl (fun c8 => ?_) (fun c8 => ?_)
            · refine pm_iincX (v := x3_5 + 1) (loc' := [some (.ref (B + 31)), some (.int za), some (.int zb), some (.int x3_3), some (.int v2), some (.int (x3_5 + 1))]) hG dX0_weightOf_83 rfl (by rfl) (by decide) (pm_c1b rfl) rfl ?_
              refine pm_goto (tgt := 43) hG dX0_weightOf_86 rfl ?_
              exact ih43 _ _ x3_3 (x3_5 + 1) h7 (pm_sd1 c4 s43) (Nat.lt_of_lt_of_le (pm_mu1 c4) (Nat.le_of_lt_succ hm43))
            · refine pm_iincX (v := x3_3 + 1) (loc' := [some (.ref (B + 31)), some (.int za), some (.int zb), some (.int (x3_3 + 1)), some (.int v2), some (.int x3_5)]) hG dX0_weightOf_80 rfl (by rfl) (by decide) (pm_c1b rfl) rfl ?_
              refine pm_iincX (v := x3_5 + 1) (loc' := [some (.ref (B + 31)), some (.int za), some (.int zb), some (.int (x3_3 + 1)), some (.int v2), some (.int (x3_5 + 1))]) hG dX0_weightOf_83 rfl (by rfl) (by decide) (pm_c1b rfl) rfl ?_
              refine pm_goto (tgt := 43) hG dX0_weightOf_86 rfl ?_
              exact ih43 _ _ (x3_3 + 1) (x3_5 + 1) h7 (pm_sd1 c4 s43) (Nat.lt_of_lt_of_le (pm_mu1 c4) (Nat.le_of_lt_succ hm43))
    exact loop43 _ _ _ 1 0 h2 (by decide) (Nat.lt_succ_self _)
  · refine pm_aloadn hG dX0_weightOf_4 rfl ?_
    refine pm_getf hG dX0_weightOf_5 (flX0_15 _ rfl) rfl rfl ?_
    refine pm_iloadn hG dX0_weightOf_8 rfl ?_
    refine pm_iloadn hG dX0_weightOf_9 rfl ?_
    refine pm_iconst (v := (-1)) hG dX0_weightOf_10 (by decide) ?_
    refine pm_aloadn hG dX0_weightOf_11 rfl ?_
    refine pm_getf hG dX0_weightOf_12 (flX0_9 _ rfl) rfl rfl ?_
    refine pm_getf hG dX0_weightOf_15 (flX0_43 _ rfl) rfl rfl ?_
    refine pm_callV (As := [.int zb, .int za, .int (-1), .int (I 102)]) (rest := []) hG hR dX0_weightOf_18 (lkX0_100 _ rfl) okV_X2_comesTo rfl rfl (g_X2_comesTo (d := 3) (by decide) h) rfl rfl hdd (Nat.le_refl _) (Nat.le_refl _) (by decide) (pm_ki (fun v9 σ' cnt' hq => ?_))
    obtain ⟨I9, A9, rfl, rfl, h9⟩ := hq
    refine pm_if_ne (tgt := 26) hG dX0_weightOf_21 rfl (fun c10 => ?_) (fun c10 => ?_)
    · refine pm_iconst (v := 1) hG dX0_weightOf_26 (by decide) ?_
      refine pm_istoreXn (loc' := [some (.ref (B + 31)), some (.int za), some (.int zb), some (.int 1), none, none]) hG dX0_weightOf_27 (by decide) (pm_c1b rfl) rfl ?_
      refine pm_aloadn hG dX0_weightOf_28 rfl ?_
      refine pm_getf hG dX0_weightOf_29 (flX0_9 _ rfl) rfl rfl ?_
      refine pm_getf hG dX0_weightOf_32 (flX0_104 _ rfl) rfl rfl ?_
      refine pm_callV (As := []) (rest := []) hG hR dX0_weightOf_35 (lkX0_47 _ rfl) okV_X9_used rfl rfl (tb_used (d := 3) rfl) rfl rfl hdd (Nat.le_refl _) (Nat.le_refl _) (by decide) (pm_ki (fun v11 σ' cnt' hq => ?_))
      obtain ⟨I11, A11, rfl, rfl, h11⟩ := hv_id (kp := kp) (I := I9) (A := A9) h9 hq.2
      refine pm_istoreXi (loc' := [some (.ref (B + 31)), some (.int za), some (.int zb), some (.int 1), some (.int v11), none]) hG dX0_weightOf_38 (by decide) (pm_c1b rfl) rfl ?_
      refine pm_iconst (v := 0) hG dX0_weightOf_40 (by decide) ?_
      refine pm_istoreXi (loc' := [some (.ref (B + 31)), some (.int za), some (.int zb), some (.int 1), some (.int v11), some (.int 0)]) hG dX0_weightOf_41 (by decide) (pm_c1b rfl) rfl ?_
      have loop43 : ∀ (m43 : Nat) (I12 : Nat → Int32) (A12 : Nat → Nat → Int32) (x12_3 x12_5 : Int32), gq ε I12 → (¬ x12_5 < 0) → ((v11 : Int32).toInt - x12_5.toInt).toNat < m43 → pm_wp mX0_weightOf G B 43 [some (.ref (B + 31)), some (.int za), some (.int zb), some (.int x12_3), some (.int v11), some (.int x12_5)] [] 0 0 cnt (pm_two (cl_L B kp I12 A12) ρ) := by
        intro m43
        induction m43 with
        | zero => intro I12 A12 x12_3 x12_5 _  _ hm; exact absurd hm (Nat.not_lt_zero _)
        | succ m43 ih43 =>
          intro I12 A12 x12_3 x12_5 h12 s43 hm43
          refine pm_iloadi hG dX0_weightOf_43 rfl ?_
          refine pm_iloadi hG dX0_weightOf_45 rfl ?_
          refine pm_icmp_ge (tgt := 89) hG dX0_weightOf_47 rfl (fun c13 => ?_) (fun c13 => ?_)
          · refine pm_iloadn hG dX0_weightOf_89 rfl ?_
            exact pm_iret hG hF dX0_weightOf_90 rfl (Nat.le_refl _) (Nat.le_refl _) ⟨_, rfl, _, _, rfl, rfl, h12⟩
          · refine pm_aloadn hG dX0_weightOf_50 rfl ?_
            refine pm_getf hG dX0_weightOf_51 (flX0_9 _ rfl) rfl rfl ?_
            refine pm_getf hG dX0_weightOf_54 (flX0_104 _ rfl) rfl rfl ?_
            refine pm_iloadi hG dX0_weightOf_57 rfl ?_
            refine pm_iconst (v := 2) hG dX0_weightOf_59 (by decide) ?_
            refine pm_callV (As := [.int x12_5, .int 2]) (rest := []) hG hR dX0_weightOf_60 (lkX0_39 _ rfl) okV_X9_get rfl rfl (tb_get (d := 3) rfl rfl (pm_tw_of 20 6 (by decide) (by decide) (by decide))) rfl rfl hdd (Nat.le_refl _) (Nat.le_refl _) (by decide) (pm_ki (fun v14 σ' cnt' hq => ?_))
            obtain ⟨I14, A14, rfl, rfl, h14⟩ := hv_id (kp := kp) (I := I12) (A := A12) h12 hq.2
            refine pm_iloadn hG dX0_weightOf_63 rfl ?_
            refine pm_icmp_ne (tgt := 83) hG dX0_weightOf_64 rfl (fun c15 => ?_) (fun c15 => ?_)
            · refine pm_iincX (v := x12_5 + 1) (loc' := [some (.ref (B + 31)), some (.int za), some (.int zb), some (.int x12_3), some (.int v11), some (.int (x12_5 + 1))]) hG dX0_weightOf_83 rfl (by rfl) (by decide) (pm_c1b rfl) rfl ?_
              refine pm_goto (tgt := 43) hG dX0_weightOf_86 rfl ?_
              exact ih43 _ _ x12_3 (x12_5 + 1) h14 (pm_sd1 c13 s43) (Nat.lt_of_lt_of_le (pm_mu1 c13) (Nat.le_of_lt_succ hm43))
            · refine pm_aloadn hG dX0_weightOf_67 rfl ?_
              refine pm_getf hG dX0_weightOf_68 (flX0_9 _ rfl) rfl rfl ?_
              refine pm_iloadi hG dX0_weightOf_71 rfl ?_
              refine pm_iconst (v := 1) hG dX0_weightOf_73 (by decide) ?_
              refine pm_callV (As := [.int x12_5, .int 1]) (rest := []) hG hR dX0_weightOf_74 (lkX0_107 _ rfl) okV_X7_isOfKind rfl rfl (g_X7_isOfKind (d := 3) (by decide) h14) rfl rfl hdd (Nat.le_refl _) (Nat.le_refl _) (by decide) (pm_ki (fun v16 σ' cnt' hq => ?_))
              obtain ⟨b16, I16, A16, rfl, rfl, h16⟩ := hq
              refine pm_if_eq (tgt := 83) hG dX0_weightOf_77 rfl (fun c17 => ?_) (fun c17 => ?_)
              · refine pm_iincX (v := x12_5 + 1) (loc' := [some (.ref (B + 31)), some (.int za), some (.int zb), some (.int x12_3), some (.int v11), some (.int (x12_5 + 1))]) hG dX0_weightOf_83 rfl (by rfl) (by decide) (pm_c1b rfl) rfl ?_
                refine pm_goto (tgt := 43) hG dX0_weightOf_86 rfl ?_
                exact ih43 _ _ x12_3 (x12_5 + 1) h16 (pm_sd1 c13 s43) (Nat.lt_of_lt_of_le (pm_mu1 c13) (Nat.le_of_lt_succ hm43))
              · refine pm_iincX (v := x12_3 + 1) (loc' := [some (.ref (B + 31)), some (.int za), some (.int zb), some (.int (x12_3 + 1)), some (.int v11), some (.int x12_5)]) hG dX0_weightOf_80 rfl (by rfl) (by decide) (pm_c1b rfl) rfl ?_
                refine pm_iincX (v := x12_5 + 1) (loc' := [some (.ref (B + 31)), some (.int za), some (.int zb), some (.int (x12_3 + 1)), some (.int v11), some (.int (x12_5 + 1))]) hG dX0_weightOf_83 rfl (by rfl) (by decide) (pm_c1b rfl) rfl ?_
                refine pm_goto (tgt := 43) hG dX0_weightOf_86 rfl ?_
                exact ih43 _ _ (x12_3 + 1) (x12_5 + 1) h16 (pm_sd1 c13 s43) (Nat.lt_of_lt_of_le (pm_mu1 c13) (Nat.le_of_lt_succ hm43))
      exact loop43 _ _ _ 1 0 h11 (by decide) (Nat.lt_succ_self _)
    · refine pm_iconst (v := 0) hG dX0_weightOf_24 (by decide) ?_
      exact pm_iret hG hF dX0_weightOf_25 rfl (Nat.le_refl _) (Nat.le_refl _) ⟨_, rfl, _, _, rfl, rfl, h9⟩

set_option maxRecDepth 100000 in
set_option maxHeartbeats 4000000 in
theorem g_X0_isPromisedFor {ε : Nat → Int32} {d B cnt : Nat} {kp : pm_KP} {ρ : pm_S} {I : Nat → Int32} {A : Nat → Nat → Int32} {za zb : Int32} (hdd : 2 ≤ d) (h : gq ε I) : pm_met mX0_isPromisedFor d 0 0 B [.ref (B + 31), .int za, .int zb] cnt (pm_two (cl_L B kp I A) ρ) (pm_Qi (fun v σ' cnt' => (v = 0 ∨ v = 1) ∧ hvq ε B kp ρ cnt σ' cnt')) := by
  refine pm_enter 2 (by decide) (Nat.le_of_ble_eq_true rfl) rfl (fun G hG hR hF => ?_)
  refine pm_aloadn hG dX0_isPromisedFor_0 rfl ?_
  refine pm_getf hG dX0_isPromisedFor_1 (flX0_25 _ rfl) rfl rfl ?_
  refine pm_callV (As := []) (rest := []) hG hR dX0_isPromisedFor_4 (lkX0_47 _ rfl) okV_X9_used rfl rfl (tb_used (d := 1) rfl) rfl rfl hdd (Nat.le_refl _) (Nat.le_refl _) (by decide) (pm_ki (fun v1 σ' cnt' hq => ?_))
  obtain ⟨I1, A1, rfl, rfl, h1⟩ := hv_id (kp := kp) (I := I) (A := A) h hq.2
  refine pm_istoreXn (loc' := [some (.ref (B + 31)), some (.int za), some (.int zb), some (.int v1), none]) hG dX0_isPromisedFor_7 (by decide) (pm_c1b rfl) rfl ?_
  refine pm_iconst (v := 0) hG dX0_isPromisedFor_8 (by decide) ?_
  refine pm_istoreXi (loc' := [some (.ref (B + 31)), some (.int za), some (.int zb), some (.int v1), some (.int 0)]) hG dX0_isPromisedFor_9 (by decide) (pm_c1b rfl) rfl ?_
  have loop11 : ∀ (m11 : Nat) (I2 : Nat → Int32) (A2 : Nat → Nat → Int32) (x2_4 : Int32), gq ε I2 → (¬ x2_4 < 0) → ((v1 : Int32).toInt - x2_4.toInt).toNat < m11 → pm_wp mX0_isPromisedFor G B 11 [some (.ref (B + 31)), some (.int za), some (.int zb), some (.int v1), some (.int x2_4)] [] 0 0 cnt (pm_two (cl_L B kp I2 A2) ρ) := by
    intro m11
    induction m11 with
    | zero => intro I2 A2 x2_4 _  _ hm; exact absurd hm (Nat.not_lt_zero _)
    | succ m11 ih11 =>
      intro I2 A2 x2_4 h2 s11 hm11
      refine pm_iloadi hG dX0_isPromisedFor_11 rfl ?_
      refine pm_iloadn hG dX0_isPromisedFor_13 rfl ?_
      refine pm_icmp_ge (tgt := 76) hG dX0_isPromisedFor_14 rfl (fun c3 => ?_) (fun c3 => ?_)
      · refine pm_iconst (v := 0) hG dX0_isPromisedFor_76 (by decide) ?_
        exact pm_zret hG hF dX0_isPromisedFor_77 rfl (pm_nz (Or.inl rfl)) (Nat.le_refl _) (Nat.le_refl _) ⟨_, rfl, (Or.inl rfl), _, _, rfl, rfl, h2⟩
      · refine pm_aloadn hG dX0_isPromisedFor_17 rfl ?_
        refine pm_getf hG dX0_isPromisedFor_18 (flX0_25 _ rfl) rfl rfl ?_
        refine pm_iloadi hG dX0_isPromisedFor_21 rfl ?_
        refine pm_iconst (v := 0) hG dX0_isPromisedFor_23 (by decide) ?_
        refine pm_callV (As := [.int x2_4, .int 0]) (rest := []) hG hR dX0_isPromisedFor_24 (lkX0_39 _ rfl) okV_X9_get rfl rfl (tb_get (d := 1) rfl rfl (pm_tw_of 30 5 (by decide) (by decide) (by decide))) rfl rfl hdd (Nat.le_refl _) (Nat.le_refl _) (by decide) (pm_ki (fun v4 σ' cnt' hq => ?_))
        obtain ⟨I4, A4, rfl, rfl, h4⟩ := hv_id (kp := kp) (I := I2) (A := A2) h2 hq.2
        refine pm_iloadn hG dX0_isPromisedFor_27 rfl ?_
        refine pm_icmp_ne (tgt := 70) hG dX0_isPromisedFor_28 rfl (fun c5 => ?_) (fun c5 => ?_)
        · refine pm_iincX (v := x2_4 + 1) (loc' := [some (.ref (B + 31)), some (.int za), some (.int zb), some (.int v1), some (.int (x2_4 + 1))]) hG dX0_isPromisedFor_70 rfl (by rfl) (by decide) (pm_c1b rfl) rfl ?_
          refine pm_goto (tgt := 11) hG dX0_isPromisedFor_73 rfl ?_
          exact ih11 _ _ (x2_4 + 1) h4 (pm_sd1 c3 s11) (Nat.lt_of_lt_of_le (pm_mu1 c3) (Nat.le_of_lt_succ hm11))
        · refine pm_aloadn hG dX0_isPromisedFor_31 rfl ?_
          refine pm_getf hG dX0_isPromisedFor_32 (flX0_25 _ rfl) rfl rfl ?_
          refine pm_iloadi hG dX0_isPromisedFor_35 rfl ?_
          refine pm_iconst (v := 1) hG dX0_isPromisedFor_37 (by decide) ?_
          refine pm_callV (As := [.int x2_4, .int 1]) (rest := []) hG hR dX0_isPromisedFor_38 (lkX0_39 _ rfl) okV_X9_get rfl rfl (tb_get (d := 1) rfl rfl (pm_tw_of 30 5 (by decide) (by decide) (by decide))) rfl rfl hdd (Nat.le_refl _) (Nat.le_refl _) (by decide) (pm_ki (fun v6 σ' cnt' hq => ?_))
          obtain ⟨I6, A6, rfl, rfl, h6⟩ := hv_id (kp := kp) (I := I4) (A := A4) h4 hq.2
          refine pm_iloadn hG dX0_isPromisedFor_41 rfl ?_
          refine pm_icmp_ne (tgt := 70) hG dX0_isPromisedFor_42 rfl (fun c7 => ?_) (fun c7 => ?_)
          · refine pm_iincX (v := x2_4 + 1) (loc' := [some (.ref (B + 31)), some (.int za), some (.int zb), some (.int v1), some (.int (x2_4 + 1))]) hG dX0_isPromisedFor_70 rfl (by rfl) (by decide) (pm_c1b rfl) rfl ?_
            refine pm_goto (tgt := 11) hG dX0_isPromisedFor_73 rfl ?_
            exact ih11 _ _ (x2_4 + 1) h6 (pm_sd1 c3 s11) (Nat.lt_of_lt_of_le (pm_mu1 c3) (Nat.le_of_lt_succ hm11))
          · refine pm_aloadn hG dX0_isPromisedFor_45 rfl ?_
            refine pm_getf hG dX0_isPromisedFor_46 (flX0_25 _ rfl) rfl rfl ?_
            refine pm_iloadi hG dX0_isPromisedFor_49 rfl ?_
            refine pm_iconst (v := 3) hG dX0_isPromisedFor_51 (by decide) ?_
            refine pm_callV (As := [.int x2_4, .int 3]) (rest := []) hG hR dX0_isPromisedFor_52 (lkX0_39 _ rfl) okV_X9_get rfl rfl (tb_get (d := 1) rfl rfl (pm_tw_of 30 5 (by decide) (by decide) (by decide))) rfl rfl hdd (Nat.le_refl _) (Nat.le_refl _) (by decide) (pm_ki (fun v8 σ' cnt' hq => ?_))
            obtain ⟨I8, A8, rfl, rfl, h8⟩ := hv_id (kp := kp) (I := I6) (A := A6) h6 hq.2
            refine pm_iconst (v := 1) hG dX0_isPromisedFor_55 (by decide) ?_
            refine pm_icmp_ne (tgt := 70) hG dX0_isPromisedFor_56 rfl (fun c9 => ?_) (fun c9 => ?_)
            · refine pm_iincX (v := x2_4 + 1) (loc' := [some (.ref (B + 31)), some (.int za), some (.int zb), some (.int v1), some (.int (x2_4 + 1))]) hG dX0_isPromisedFor_70 rfl (by rfl) (by decide) (pm_c1b rfl) rfl ?_
              refine pm_goto (tgt := 11) hG dX0_isPromisedFor_73 rfl ?_
              exact ih11 _ _ (x2_4 + 1) h8 (pm_sd1 c3 s11) (Nat.lt_of_lt_of_le (pm_mu1 c3) (Nat.le_of_lt_succ hm11))
            · refine pm_aloadn hG dX0_isPromisedFor_59 rfl ?_
              refine pm_iloadi hG dX0_isPromisedFor_60 rfl ?_
              refine pm_callV (As := [.int x2_4]) (rest := []) hG hR dX0_isPromisedFor_62 (lkX0_51 _ rfl) okV_X0_stands rfl rfl (g_X0_stands (d := 1) (by decide) h8) rfl rfl hdd (Nat.le_refl _) (Nat.le_refl _) (by decide) (pm_ki (fun v10 σ' cnt' hq => ?_))
              obtain ⟨b10, I10, A10, rfl, rfl, h10⟩ := hq
              refine pm_if_eq (tgt := 70) hG dX0_isPromisedFor_65 rfl (fun c11 => ?_) (fun c11 => ?_)
              · refine pm_iincX (v := x2_4 + 1) (loc' := [some (.ref (B + 31)), some (.int za), some (.int zb), some (.int v1), some (.int (x2_4 + 1))]) hG dX0_isPromisedFor_70 rfl (by rfl) (by decide) (pm_c1b rfl) rfl ?_
                refine pm_goto (tgt := 11) hG dX0_isPromisedFor_73 rfl ?_
                exact ih11 _ _ (x2_4 + 1) h10 (pm_sd1 c3 s11) (Nat.lt_of_lt_of_le (pm_mu1 c3) (Nat.le_of_lt_succ hm11))
              · refine pm_iconst (v := 1) hG dX0_isPromisedFor_68 (by decide) ?_
                exact pm_zret hG hF dX0_isPromisedFor_69 rfl (pm_nz (Or.inr rfl)) (Nat.le_refl _) (Nat.le_refl _) ⟨_, rfl, (Or.inr rfl), _, _, rfl, rfl, h10⟩
  exact loop11 _ _ _ 0 h1 (by decide) (Nat.lt_succ_self _)

set_option maxRecDepth 100000 in
set_option maxHeartbeats 4000000 in
theorem g_X0_weighOne {ε : Nat → Int32} {d B cnt : Nat} {kp : pm_KP} {ρ : pm_S} {I : Nat → Int32} {A : Nat → Nat → Int32} {za zb zc : Int32} (hdd : 3 ≤ d) (h : gq ε I) : pm_met mX0_weighOne d 0 0 B [.ref (B + 31), .int za, .int zb, .int zc] cnt (pm_two (cl_L B kp I A) ρ) (pm_Qv (fun σ' cnt' => hvq ε B kp ρ cnt σ' cnt')) := by
  refine pm_enter 0 (by decide) (Nat.le_of_ble_eq_true rfl) rfl (fun G hG hR hF => ?_)
  refine pm_aloadn hG dX0_weighOne_0 rfl ?_
  refine pm_getf hG dX0_weighOne_1 (flX0_33 _ rfl) rfl rfl ?_
  refine pm_iloadn hG dX0_weighOne_4 rfl ?_
  refine pm_iconst (v := 0) hG dX0_weighOne_5 (by decide) ?_
  refine pm_iloadn hG dX0_weighOne_6 rfl ?_
  refine pm_callV (As := [.int za, .int 0, .int zc]) (rest := []) hG hR dX0_weighOne_7 (lkX0_55 _ rfl) okV_X9_set rfl rfl (tb_set (d := 2) rfl rfl (pm_tw_of 20 1 (by decide) (by decide) (by decide)) (by decide)) rfl rfl hdd (Nat.le_refl _) (Nat.le_refl _) (by decide) (pm_kv (fun σ' cnt' hq => ?_))
  obtain ⟨I1, A1, rfl, rfl, h1⟩ := hv_a33 (kp := kp) (I := I) (A := A) h hq
  refine pm_aloadn hG dX0_weighOne_10 rfl ?_
  refine pm_dup hG dX0_weighOne_11 rfl ?_
  refine pm_getf hG dX0_weighOne_12 (flX0_72 _ rfl) rfl rfl ?_
  refine pm_iloadn hG dX0_weighOne_15 rfl ?_
  refine pm_iadd hG dX0_weighOne_16 ?_
  refine pm_putf hG dX0_weighOne_17 (fwX0_72 _ rfl) rfl rfl rfl ?_
  refine pm_nrm (L' := cl_L B kp (ui I1 108 ((I1 108) + zc)) A1) (by decide) (Nat.le_of_ble_eq_true rfl) rfl ?_
  refine pm_aloadn hG dX0_weighOne_20 rfl ?_
  refine pm_iloadn hG dX0_weighOne_21 rfl ?_
  refine pm_iloadn hG dX0_weighOne_22 rfl ?_
  refine pm_callV (As := [.int za, .int zb]) (rest := []) hG hR dX0_weighOne_23 (lkX0_87 _ rfl) okV_X0_isPromisedFor rfl rfl (g_X0_isPromisedFor (d := 2) (by decide) (gq.wi (k := 108) rfl h1)) rfl rfl hdd (Nat.le_refl _) (Nat.le_refl _) (by decide) (pm_ki (fun v3 σ' cnt' hq => ?_))
  obtain ⟨b3, I3, A3, rfl, rfl, h3⟩ := hq
  refine pm_if_eq (tgt := 42) hG dX0_weighOne_26 rfl (fun c4 => ?_) (fun c4 => ?_)
  · refine pm_aloadn hG dX0_weighOne_42 rfl ?_
    refine pm_getf hG dX0_weighOne_43 (flX0_36 _ rfl) rfl rfl ?_
    refine pm_iloadn hG dX0_weighOne_46 rfl ?_
    obtain ⟨k5, hk5, hu5⟩ := gq.used h3 34 9 (by decide)
    have ht5 : pm_two (cl_L B kp I3 A3) ρ 34 = some (.inr (9, [.int (nI 9), .int (nI 1), .ref (B + 35), .int (nI k5)])) := by rw [← hu5]; rfl
    refine pm_callV (As := [.int za]) (rest := []) hG hR dX0_weighOne_47 (lkX0_59 _ rfl) okV_X9_append rfl rfl (tb_append (d := 2) (by decide) ht5 rfl (by decide) (by decide) (by decide) (by decide) (by decide) (by decide) hk5) rfl rfl hdd (Nat.le_refl _) (Nat.le_refl _) (by decide) (pm_ki (fun v5 σ' cnt' hq => ?_))
    obtain ⟨I5, A5, rfl, rfl, h5⟩ := hv_p34 (kp := kp) (I := I3) (A := A3) hk5 h3 hq
    refine pm_pop hG dX0_weighOne_50 rfl ?_
    exact pm_vret hG hF dX0_weighOne_51 rfl (Nat.le_refl _) (Nat.le_refl _) ⟨rfl, _, _, rfl, rfl, h5⟩
  · refine pm_aloadn hG dX0_weighOne_29 rfl ?_
    refine pm_dup hG dX0_weighOne_30 rfl ?_
    refine pm_getf hG dX0_weighOne_31 (flX0_69 _ rfl) rfl rfl ?_
    refine pm_iloadn hG dX0_weighOne_34 rfl ?_
    refine pm_iadd hG dX0_weighOne_35 ?_
    refine pm_putf hG dX0_weighOne_36 (fwX0_69 _ rfl) rfl rfl rfl ?_
    refine pm_nrm (L' := cl_L B kp (ui I3 107 ((I3 107) + zc)) A3) (by decide) (Nat.le_of_ble_eq_true rfl) rfl ?_
    refine pm_goto (tgt := 51) hG dX0_weighOne_39 rfl ?_
    exact pm_vret hG hF dX0_weighOne_51 rfl (Nat.le_refl _) (Nat.le_refl _) ⟨rfl, _, _, rfl, rfl, (gq.wi (k := 107) rfl h3)⟩

set_option maxRecDepth 100000 in
set_option maxHeartbeats 4000000 in
theorem g_X0_weigh {ε : Nat → Int32} {d B cnt : Nat} {kp : pm_KP} {ρ : pm_S} {I : Nat → Int32} {A : Nat → Nat → Int32} {za : Int32} (hdd : 5 ≤ d) (h : gq ε I) : pm_met mX0_weigh d 0 0 B [.ref (B + 31), .int za] cnt (pm_two (cl_L B kp I A) ρ) (pm_Qv (fun σ' cnt' => hvq ε B kp ρ cnt σ' cnt')) := by
  refine pm_enter 3 (by decide) (Nat.le_of_ble_eq_true rfl) rfl (fun G hG hR hF => ?_)
  refine pm_aloadn hG dX0_weigh_0 rfl ?_
  refine pm_iconst (v := 0) hG dX0_weigh_1 (by decide) ?_
  refine pm_putf hG dX0_weigh_2 (fwX0_69 _ rfl) rfl rfl rfl ?_
  refine pm_nrm (L' := cl_L B kp (ui I 107 0) A) (by decide) (Nat.le_of_ble_eq_true rfl) rfl ?_
  refine pm_aloadn hG dX0_weigh_5 rfl ?_
  refine pm_iconst (v := 0) hG dX0_weigh_6 (by decide) ?_
  refine pm_putf hG dX0_weigh_7 (fwX0_72 _ rfl) rfl rfl rfl ?_
  refine pm_nrm (L' := cl_L B kp (ui (ui I 107 0) 108 0) A) (by decide) (Nat.le_of_ble_eq_true rfl) rfl ?_
  refine pm_aloadn hG dX0_weigh_10 rfl ?_
  refine pm_getf hG dX0_weigh_11 (flX0_36 _ rfl) rfl rfl ?_
  refine pm_callV (As := []) (rest := []) hG hR dX0_weigh_14 (lkX0_75 _ rfl) okV_X9_clear rfl rfl (tb_clear (d := 4) rfl) rfl rfl hdd (Nat.le_refl _) (Nat.le_refl _) (by decide) (pm_kv (fun σ' cnt' hq => ?_))
  obtain ⟨I3, A3, rfl, rfl, h3⟩ := hv_c34 (kp := kp) (I := (ui (ui I 107 0) 108 0)) (A := A) (gq.wi (k := 108) rfl (gq.wi (k := 107) rfl h)) hq
  refine pm_aloadn hG dX0_weigh_17 rfl ?_
  refine pm_callV (As := []) (rest := []) hG hR dX0_weigh_18 (lkX0_78 _ rfl) okV_X0_ruleInForce rfl rfl (g_X0_ruleInForce (d := 4) (by decide) h3) rfl rfl hdd (Nat.le_refl _) (Nat.le_refl _) (by decide) (pm_ki (fun v4 σ' cnt' hq => ?_))
  obtain ⟨I4, A4, rfl, rfl, h4⟩ := hq
  refine pm_istoreXn (loc' := [some (.ref (B + 31)), some (.int za), some (.int v4), none, none]) hG dX0_weigh_21 (by decide) (pm_c1b rfl) rfl ?_
  refine pm_aloadn hG dX0_weigh_22 rfl ?_
  refine pm_getf hG dX0_weigh_23 (flX0_9 _ rfl) rfl rfl ?_
  refine pm_getf hG dX0_weigh_26 (flX0_63 _ rfl) rfl rfl ?_
  refine pm_callV (As := []) (rest := []) hG hR dX0_weigh_29 (lkX0_47 _ rfl) okV_X9_used rfl rfl (tb_used (d := 4) rfl) rfl rfl hdd (Nat.le_refl _) (Nat.le_refl _) (by decide) (pm_ki (fun v5 σ' cnt' hq => ?_))
  obtain ⟨I5, A5, rfl, rfl, h5⟩ := hv_id (kp := kp) (I := I4) (A := A4) h4 hq.2
  refine pm_istoreXn (loc' := [some (.ref (B + 31)), some (.int za), some (.int v4), some (.int v5), none]) hG dX0_weigh_32 (by decide) (pm_c1b rfl) rfl ?_
  refine pm_iconst (v := 0) hG dX0_weigh_33 (by decide) ?_
  refine pm_istoreXi (loc' := [some (.ref (B + 31)), some (.int za), some (.int v4), some (.int v5), some (.int 0)]) hG dX0_weigh_34 (by decide) (pm_c1b rfl) rfl ?_
  have loop36 : ∀ (m36 : Nat) (I6 : Nat → Int32) (A6 : Nat → Nat → Int32) (x6_4 : Int32), gq ε I6 → (¬ x6_4 < 0) → ((v5 : Int32).toInt - x6_4.toInt).toNat < m36 → pm_wp mX0_weigh G B 36 [some (.ref (B + 31)), some (.int za), some (.int v4), some (.int v5), some (.int x6_4)] [] 0 0 cnt (pm_two (cl_L B kp I6 A6) ρ) := by
    intro m36
    induction m36 with
    | zero => intro I6 A6 x6_4 _  _ hm; exact absurd hm (Nat.not_lt_zero _)
    | succ m36 ih36 =>
      intro I6 A6 x6_4 h6 s36 hm36
      refine pm_iloadi hG dX0_weigh_36 rfl ?_
      refine pm_iloadn hG dX0_weigh_38 rfl ?_
      refine pm_icmp_ge (tgt := 79) hG dX0_weigh_39 rfl (fun c7 => ?_) (fun c7 => ?_)
      · exact pm_vret hG hF dX0_weigh_79 rfl (Nat.le_refl _) (Nat.le_refl _) ⟨rfl, _, _, rfl, rfl, h6⟩
      · refine pm_aloadn hG dX0_weigh_42 rfl ?_
        refine pm_getf hG dX0_weigh_43 (flX0_9 _ rfl) rfl rfl ?_
        refine pm_getf hG dX0_weigh_46 (flX0_63 _ rfl) rfl rfl ?_
        refine pm_iloadi hG dX0_weigh_49 rfl ?_
        refine pm_bipush (v := 13) hG dX0_weigh_51 (by decide) ?_
        refine pm_callV (As := [.int x6_4, .int 13]) (rest := []) hG hR dX0_weigh_53 (lkX0_39 _ rfl) okV_X9_get rfl rfl (tb_get (d := 4) rfl rfl (pm_tw_of 20 14 (by decide) (by decide) (by decide))) rfl rfl hdd (Nat.le_refl _) (Nat.le_refl _) (by decide) (pm_ki (fun v8 σ' cnt' hq => ?_))
        obtain ⟨I8, A8, rfl, rfl, h8⟩ := hv_id (kp := kp) (I := I6) (A := A6) h6 hq.2
        refine pm_if_eq (tgt := 73) hG dX0_weigh_56 rfl (fun c9 => ?_) (fun c9 => ?_)
        · refine pm_iincX (v := x6_4 + 1) (loc' := [some (.ref (B + 31)), some (.int za), some (.int v4), some (.int v5), some (.int (x6_4 + 1))]) hG dX0_weigh_73 rfl (by rfl) (by decide) (pm_c1b rfl) rfl ?_
          refine pm_goto (tgt := 36) hG dX0_weigh_76 rfl ?_
          exact ih36 _ _ (x6_4 + 1) h8 (pm_sd1 c7 s36) (Nat.lt_of_lt_of_le (pm_mu1 c7) (Nat.le_of_lt_succ hm36))
        · refine pm_aloadn hG dX0_weigh_59 rfl ?_
          refine pm_iloadi hG dX0_weigh_60 rfl ?_
          refine pm_iloadn hG dX0_weigh_62 rfl ?_
          refine pm_aloadn hG dX0_weigh_63 rfl ?_
          refine pm_iloadi hG dX0_weigh_64 rfl ?_
          refine pm_iloadn hG dX0_weigh_66 rfl ?_
          refine pm_callV (As := [.int x6_4, .int v4]) (rest := [.int za, .int x6_4, .ref (B + 31)]) hG hR dX0_weigh_67 (lkX0_81 _ rfl) okV_X0_weightOf rfl rfl (g_X0_weightOf (d := 4) (by decide) h8) rfl rfl hdd (Nat.le_refl _) (Nat.le_refl _) (by first | decide | exact Nat.le_of_ble_eq_true rfl) (pm_ki (fun v10 σ' cnt' hq => ?_))
          obtain ⟨I10, A10, rfl, rfl, h10⟩ := hq
          refine pm_callV (As := [.int x6_4, .int za, .int v10]) (rest := []) hG hR dX0_weigh_70 (lkX0_84 _ rfl) okV_X0_weighOne rfl rfl (g_X0_weighOne (d := 4) (by decide) h10) rfl rfl hdd (Nat.le_refl _) (Nat.le_refl _) (by decide) (pm_kv (fun σ' cnt' hq => ?_))
          obtain ⟨I11, A11, rfl, rfl, h11⟩ := hq
          refine pm_iincX (v := x6_4 + 1) (loc' := [some (.ref (B + 31)), some (.int za), some (.int v4), some (.int v5), some (.int (x6_4 + 1))]) hG dX0_weigh_73 rfl (by rfl) (by decide) (pm_c1b rfl) rfl ?_
          refine pm_goto (tgt := 36) hG dX0_weigh_76 rfl ?_
          exact ih36 _ _ (x6_4 + 1) h11 (pm_sd1 c7 s36) (Nat.lt_of_lt_of_le (pm_mu1 c7) (Nat.le_of_lt_succ hm36))
  exact loop36 _ _ _ 0 h5 (by decide) (Nat.lt_succ_self _)

set_option maxRecDepth 100000 in
set_option maxHeartbeats 4000000 in
theorem g_X0_keepIfBetter {ε : Nat → Int32} {d B cnt : Nat} {kp : pm_KP} {ρ : pm_S} {I : Nat → Int32} {A : Nat → Nat → Int32} {za zb : Int32} (hdd : 1 ≤ d) (h : gq ε I) : pm_met mX0_keepIfBetter d 0 0 B [.ref (B + 31), .int za, .int zb] cnt (pm_two (cl_L B kp I A) ρ) (pm_Qv (fun σ' cnt' => hvq ε B kp ρ cnt σ' cnt')) := by
  refine pm_enter 2 (by decide) (Nat.le_of_ble_eq_true rfl) rfl (fun G hG hR hF => ?_)
  refine pm_iloadn hG dX0_keepIfBetter_0 rfl ?_
  refine pm_callS (As := [.int za]) (rest := []) hG hR dX0_keepIfBetter_1 (lkX0_134 _ rfl) okS_J6_bitCount_0f7a4 (gj_bitCount (d := 0)) rfl rfl hdd (Nat.le_refl _) (Nat.le_refl _) (by decide) (pm_ki (fun v1 σ' cnt' hq => ?_))
  obtain ⟨I1, A1, rfl, rfl, h1⟩ := hv_id (kp := kp) (I := I) (A := A) h hq
  refine pm_aloadn hG dX0_keepIfBetter_4 rfl ?_
  refine pm_getf hG dX0_keepIfBetter_5 (flX0_118 _ rfl) rfl rfl ?_
  refine pm_callS (As := [.int (I1 110)]) (rest := [.int v1]) hG hR dX0_keepIfBetter_8 (lkX0_134 _ rfl) okS_J6_bitCount_0f7a4 (gj_bitCount (d := 0)) rfl rfl hdd (Nat.le_refl _) (Nat.le_refl _) (by first | decide | exact Nat.le_of_ble_eq_true rfl) (pm_ki (fun v2 σ' cnt' hq => ?_))
  obtain ⟨I2, A2, rfl, rfl, h2⟩ := hv_id (kp := kp) (I := I1) (A := A1) h1 hq
  refine pm_isub hG dX0_keepIfBetter_11 ?_
  refine pm_istoreXn (loc' := [some (.ref (B + 31)), some (.int za), some (.int zb), some (.int (v1 - v2)), none]) hG dX0_keepIfBetter_12 (by decide) (pm_c1b rfl) rfl ?_
  refine pm_iloadn hG dX0_keepIfBetter_13 rfl ?_
  refine pm_if_lt (tgt := 29) hG dX0_keepIfBetter_14 rfl (fun c3 => ?_) (fun c3 => ?_)
  · refine pm_iconst (v := 1) hG dX0_keepIfBetter_29 (by decide) ?_
    refine pm_goto (tgt := 34) hG dX0_keepIfBetter_30 rfl ?_
    refine pm_istoreXi (loc' := [some (.ref (B + 31)), some (.int za), some (.int zb), some (.int (v1 - v2)), some (.int 1)]) hG dX0_keepIfBetter_34 (by decide) (pm_c1b rfl) rfl ?_
    refine pm_iloadn hG dX0_keepIfBetter_36 rfl ?_
    refine pm_aloadn hG dX0_keepIfBetter_37 rfl ?_
    refine pm_getf hG dX0_keepIfBetter_38 (flX0_115 _ rfl) rfl rfl ?_
    refine pm_icmp_lt (tgt := 57) hG dX0_keepIfBetter_41 rfl (fun c4 => ?_) (fun c4 => ?_)
    · refine pm_aloadn hG dX0_keepIfBetter_57 rfl ?_
      refine pm_iloadn hG dX0_keepIfBetter_58 rfl ?_
      refine pm_putf hG dX0_keepIfBetter_59 (fwX0_115 _ rfl) rfl rfl rfl ?_
      refine pm_nrm (L' := cl_L B kp (ui I2 109 zb) A2) (by decide) (Nat.le_of_ble_eq_true rfl) rfl ?_
      refine pm_aloadn hG dX0_keepIfBetter_62 rfl ?_
      refine pm_iloadn hG dX0_keepIfBetter_63 rfl ?_
      refine pm_putf hG dX0_keepIfBetter_64 (fwX0_118 _ rfl) rfl rfl rfl ?_
      refine pm_nrm (L' := cl_L B kp (ui (ui I2 109 zb) 110 za) A2) (by decide) (Nat.le_of_ble_eq_true rfl) rfl ?_
      exact pm_vret hG hF dX0_keepIfBetter_67 rfl (Nat.le_refl _) (Nat.le_refl _) ⟨rfl, _, _, rfl, rfl, (gq.wi (k := 110) rfl (gq.wi (k := 109) rfl h2))⟩
    · refine pm_iloadn hG dX0_keepIfBetter_44 rfl ?_
      refine pm_aloadn hG dX0_keepIfBetter_45 rfl ?_
      refine pm_getf hG dX0_keepIfBetter_46 (flX0_115 _ rfl) rfl rfl ?_
      refine pm_icmp_ne (tgt := 67) hG dX0_keepIfBetter_49 rfl (fun c7 => ?_) (fun c7 => ?_)
      · exact pm_vret hG hF dX0_keepIfBetter_67 rfl (Nat.le_refl _) (Nat.le_refl _) ⟨rfl, _, _, rfl, rfl, h2⟩
      · refine pm_iloadi hG dX0_keepIfBetter_52 rfl ?_
        refine pm_if_eq (tgt := 67) hG dX0_keepIfBetter_54 rfl (fun q => absurd q (by decide)) (fun _ => ?_)
        refine pm_aloadn hG dX0_keepIfBetter_57 rfl ?_
        refine pm_iloadn hG dX0_keepIfBetter_58 rfl ?_
        refine pm_putf hG dX0_keepIfBetter_59 (fwX0_115 _ rfl) rfl rfl rfl ?_
        refine pm_nrm (L' := cl_L B kp (ui I2 109 zb) A2) (by decide) (Nat.le_of_ble_eq_true rfl) rfl ?_
        refine pm_aloadn hG dX0_keepIfBetter_62 rfl ?_
        refine pm_iloadn hG dX0_keepIfBetter_63 rfl ?_
        refine pm_putf hG dX0_keepIfBetter_64 (fwX0_118 _ rfl) rfl rfl rfl ?_
        refine pm_nrm (L' := cl_L B kp (ui (ui I2 109 zb) 110 za) A2) (by decide) (Nat.le_of_ble_eq_true rfl) rfl ?_
        exact pm_vret hG hF dX0_keepIfBetter_67 rfl (Nat.le_refl _) (Nat.le_refl _) ⟨rfl, _, _, rfl, rfl, (gq.wi (k := 110) rfl (gq.wi (k := 109) rfl h2))⟩
  · refine pm_iloadn hG dX0_keepIfBetter_17 rfl ?_
    refine pm_if_ne (tgt := 33) hG dX0_keepIfBetter_18 rfl (fun c10 => ?_) (fun c10 => ?_)
    · refine pm_iconst (v := 0) hG dX0_keepIfBetter_33 (by decide) ?_
      refine pm_istoreXi (loc' := [some (.ref (B + 31)), some (.int za), some (.int zb), some (.int (v1 - v2)), some (.int 0)]) hG dX0_keepIfBetter_34 (by decide) (pm_c1b rfl) rfl ?_
      refine pm_iloadn hG dX0_keepIfBetter_36 rfl ?_
      refine pm_aloadn hG dX0_keepIfBetter_37 rfl ?_
      refine pm_getf hG dX0_keepIfBetter_38 (flX0_115 _ rfl) rfl rfl ?_
      refine pm_icmp_lt (tgt := 57) hG dX0_keepIfBetter_41 rfl (fun c11 => ?_) (fun c11 => ?_)
      · refine pm_aloadn hG dX0_keepIfBetter_57 rfl ?_
        refine pm_iloadn hG dX0_keepIfBetter_58 rfl ?_
        refine pm_putf hG dX0_keepIfBetter_59 (fwX0_115 _ rfl) rfl rfl rfl ?_
        refine pm_nrm (L' := cl_L B kp (ui I2 109 zb) A2) (by decide) (Nat.le_of_ble_eq_true rfl) rfl ?_
        refine pm_aloadn hG dX0_keepIfBetter_62 rfl ?_
        refine pm_iloadn hG dX0_keepIfBetter_63 rfl ?_
        refine pm_putf hG dX0_keepIfBetter_64 (fwX0_118 _ rfl) rfl rfl rfl ?_
        refine pm_nrm (L' := cl_L B kp (ui (ui I2 109 zb) 110 za) A2) (by decide) (Nat.le_of_ble_eq_true rfl) rfl ?_
        exact pm_vret hG hF dX0_keepIfBetter_67 rfl (Nat.le_refl _) (Nat.le_refl _) ⟨rfl, _, _, rfl, rfl, (gq.wi (k := 110) rfl (gq.wi (k := 109) rfl h2))⟩
      · refine pm_iloadn hG dX0_keepIfBetter_44 rfl ?_
        refine pm_aloadn hG dX0_keepIfBetter_45 rfl ?_
        refine pm_getf hG dX0_keepIfBetter_46 (flX0_115 _ rfl) rfl rfl ?_
        refine pm_icmp_ne (tgt := 67) hG dX0_keepIfBetter_49 rfl (fun c14 => ?_) (fun c14 => ?_)
        · exact pm_vret hG hF dX0_keepIfBetter_67 rfl (Nat.le_refl _) (Nat.le_refl _) ⟨rfl, _, _, rfl, rfl, h2⟩
        · refine pm_iloadi hG dX0_keepIfBetter_52 rfl ?_
          refine pm_if_eq (tgt := 67) hG dX0_keepIfBetter_54 rfl (fun _ => ?_) (fun q => absurd q (by decide))
          exact pm_vret hG hF dX0_keepIfBetter_67 rfl (Nat.le_refl _) (Nat.le_refl _) ⟨rfl, _, _, rfl, rfl, h2⟩
    · refine pm_iloadn hG dX0_keepIfBetter_21 rfl ?_
      refine pm_aloadn hG dX0_keepIfBetter_22 rfl ?_
      refine pm_getf hG dX0_keepIfBetter_23 (flX0_118 _ rfl) rfl rfl ?_
      refine pm_icmp_ge (tgt := 33) hG dX0_keepIfBetter_26 rfl (fun c15 => ?_) (fun c15 => ?_)
      · refine pm_iconst (v := 0) hG dX0_keepIfBetter_33 (by decide) ?_
        refine pm_istoreXi (loc' := [some (.ref (B + 31)), some (.int za), some (.int zb), some (.int (v1 - v2)), some (.int 0)]) hG dX0_keepIfBetter_34 (by decide) (pm_c1b rfl) rfl ?_
        refine pm_iloadn hG dX0_keepIfBetter_36 rfl ?_
        refine pm_aloadn hG dX0_keepIfBetter_37 rfl ?_
        refine pm_getf hG dX0_keepIfBetter_38 (flX0_115 _ rfl) rfl rfl ?_
        refine pm_icmp_lt (tgt := 57) hG dX0_keepIfBetter_41 rfl (fun c16 => ?_) (fun c16 => ?_)
        · refine pm_aloadn hG dX0_keepIfBetter_57 rfl ?_
          refine pm_iloadn hG dX0_keepIfBetter_58 rfl ?_
          refine pm_putf hG dX0_keepIfBetter_59 (fwX0_115 _ rfl) rfl rfl rfl ?_
          refine pm_nrm (L' := cl_L B kp (ui I2 109 zb) A2) (by decide) (Nat.le_of_ble_eq_true rfl) rfl ?_
          refine pm_aloadn hG dX0_keepIfBetter_62 rfl ?_
          refine pm_iloadn hG dX0_keepIfBetter_63 rfl ?_
          refine pm_putf hG dX0_keepIfBetter_64 (fwX0_118 _ rfl) rfl rfl rfl ?_
          refine pm_nrm (L' := cl_L B kp (ui (ui I2 109 zb) 110 za) A2) (by decide) (Nat.le_of_ble_eq_true rfl) rfl ?_
          exact pm_vret hG hF dX0_keepIfBetter_67 rfl (Nat.le_refl _) (Nat.le_refl _) ⟨rfl, _, _, rfl, rfl, (gq.wi (k := 110) rfl (gq.wi (k := 109) rfl h2))⟩
        · refine pm_iloadn hG dX0_keepIfBetter_44 rfl ?_
          refine pm_aloadn hG dX0_keepIfBetter_45 rfl ?_
          refine pm_getf hG dX0_keepIfBetter_46 (flX0_115 _ rfl) rfl rfl ?_
          refine pm_icmp_ne (tgt := 67) hG dX0_keepIfBetter_49 rfl (fun c19 => ?_) (fun c19 => ?_)
          · exact pm_vret hG hF dX0_keepIfBetter_67 rfl (Nat.le_refl _) (Nat.le_refl _) ⟨rfl, _, _, rfl, rfl, h2⟩
          · refine pm_iloadi hG dX0_keepIfBetter_52 rfl ?_
            refine pm_if_eq (tgt := 67) hG dX0_keepIfBetter_54 rfl (fun _ => ?_) (fun q => absurd q (by decide))
            exact pm_vret hG hF dX0_keepIfBetter_67 rfl (Nat.le_refl _) (Nat.le_refl _) ⟨rfl, _, _, rfl, rfl, h2⟩
      · refine pm_iconst (v := 1) hG dX0_keepIfBetter_29 (by decide) ?_
        refine pm_goto (tgt := 34) hG dX0_keepIfBetter_30 rfl ?_
        refine pm_istoreXi (loc' := [some (.ref (B + 31)), some (.int za), some (.int zb), some (.int (v1 - v2)), some (.int 1)]) hG dX0_keepIfBetter_34 (by decide) (pm_c1b rfl) rfl ?_
        refine pm_iloadn hG dX0_keepIfBetter_36 rfl ?_
        refine pm_aloadn hG dX0_keepIfBetter_37 rfl ?_
        refine pm_getf hG dX0_keepIfBetter_38 (flX0_115 _ rfl) rfl rfl ?_
        refine pm_icmp_lt (tgt := 57) hG dX0_keepIfBetter_41 rfl (fun c20 => ?_) (fun c20 => ?_)
        · refine pm_aloadn hG dX0_keepIfBetter_57 rfl ?_
          refine pm_iloadn hG dX0_keepIfBetter_58 rfl ?_
          refine pm_putf hG dX0_keepIfBetter_59 (fwX0_115 _ rfl) rfl rfl rfl ?_
          refine pm_nrm (L' := cl_L B kp (ui I2 109 zb) A2) (by decide) (Nat.le_of_ble_eq_true rfl) rfl ?_
          refine pm_aloadn hG dX0_keepIfBetter_62 rfl ?_
          refine pm_iloadn hG dX0_keepIfBetter_63 rfl ?_
          refine pm_putf hG dX0_keepIfBetter_64 (fwX0_118 _ rfl) rfl rfl rfl ?_
          refine pm_nrm (L' := cl_L B kp (ui (ui I2 109 zb) 110 za) A2) (by decide) (Nat.le_of_ble_eq_true rfl) rfl ?_
          exact pm_vret hG hF dX0_keepIfBetter_67 rfl (Nat.le_refl _) (Nat.le_refl _) ⟨rfl, _, _, rfl, rfl, (gq.wi (k := 110) rfl (gq.wi (k := 109) rfl h2))⟩
        · refine pm_iloadn hG dX0_keepIfBetter_44 rfl ?_
          refine pm_aloadn hG dX0_keepIfBetter_45 rfl ?_
          refine pm_getf hG dX0_keepIfBetter_46 (flX0_115 _ rfl) rfl rfl ?_
          refine pm_icmp_ne (tgt := 67) hG dX0_keepIfBetter_49 rfl (fun c23 => ?_) (fun c23 => ?_)
          · exact pm_vret hG hF dX0_keepIfBetter_67 rfl (Nat.le_refl _) (Nat.le_refl _) ⟨rfl, _, _, rfl, rfl, h2⟩
          · refine pm_iloadi hG dX0_keepIfBetter_52 rfl ?_
            refine pm_if_eq (tgt := 67) hG dX0_keepIfBetter_54 rfl (fun q => absurd q (by decide)) (fun _ => ?_)
            refine pm_aloadn hG dX0_keepIfBetter_57 rfl ?_
            refine pm_iloadn hG dX0_keepIfBetter_58 rfl ?_
            refine pm_putf hG dX0_keepIfBetter_59 (fwX0_115 _ rfl) rfl rfl rfl ?_
            refine pm_nrm (L' := cl_L B kp (ui I2 109 zb) A2) (by decide) (Nat.le_of_ble_eq_true rfl) rfl ?_
            refine pm_aloadn hG dX0_keepIfBetter_62 rfl ?_
            refine pm_iloadn hG dX0_keepIfBetter_63 rfl ?_
            refine pm_putf hG dX0_keepIfBetter_64 (fwX0_118 _ rfl) rfl rfl rfl ?_
            refine pm_nrm (L' := cl_L B kp (ui (ui I2 109 zb) 110 za) A2) (by decide) (Nat.le_of_ble_eq_true rfl) rfl ?_
            exact pm_vret hG hF dX0_keepIfBetter_67 rfl (Nat.le_refl _) (Nat.le_refl _) ⟨rfl, _, _, rfl, rfl, (gq.wi (k := 110) rfl (gq.wi (k := 109) rfl h2))⟩

set_option maxRecDepth 100000 in
set_option maxHeartbeats 4000000 in
theorem g_X0_choose_k9 {ε : Nat → Int32} {d B cnt : Nat} {kp : pm_KP} {ρ : pm_S} {I : Nat → Int32} {A : Nat → Nat → Int32} {zb zc zd : Int32} (hdd : 2 ≤ d) (h : gq ε I) : pm_met mX0_choose d 0 0 B [.ref (B + 31), .int 9, .int zb, .int zc, .int zd] cnt (pm_two (cl_L B kp I A) ρ) (pm_Qv (fun σ' cnt' => hvq ε B kp ρ cnt σ' cnt')) := by
  refine pm_enter 1 (by decide) (Nat.le_of_ble_eq_true rfl) rfl (fun G hG hR hF => ?_)
  refine pm_iloadn hG dX0_choose_0 rfl ?_
  refine pm_aloadn hG dX0_choose_1 rfl ?_
  refine pm_getf hG dX0_choose_2 (flX0_115 _ rfl) rfl rfl ?_
  refine pm_icmp_le (tgt := 9) hG dX0_choose_5 rfl (fun c1 => ?_) (fun c1 => ?_)
  · refine pm_aloadn hG dX0_choose_9 rfl ?_
    refine pm_iloadi hG dX0_choose_10 rfl ?_
    refine pm_callV (As := [.int zd]) (rest := []) hG hR dX0_choose_12 (lkX0_125 _ rfl) okV_X0_isCarriedWith rfl rfl (g_X0_isCarriedWith (d := 1) (by decide) h) rfl rfl hdd (Nat.le_refl _) (Nat.le_refl _) (by decide) (pm_ki (fun v2 σ' cnt' hq => ?_))
    obtain ⟨b2, I2, A2, rfl, rfl, h2⟩ := hq
    refine pm_if_eq (tgt := 24) hG dX0_choose_15 rfl (fun c3 => ?_) (fun c3 => ?_)
    · refine pm_iloadn hG dX0_choose_24 rfl ?_
      refine pm_bipush (v := 9) hG dX0_choose_25 (by decide) ?_
      refine pm_icmp_ge (tgt := 105) hG dX0_choose_27 rfl (fun _ => ?_) (fun q => absurd q (by decide))
      exact pm_vret hG hF dX0_choose_105 rfl (Nat.le_refl _) (Nat.le_refl _) ⟨rfl, _, _, rfl, rfl, h2⟩
    · refine pm_aloadn hG dX0_choose_18 rfl ?_
      refine pm_iloadn hG dX0_choose_19 rfl ?_
      refine pm_iloadn hG dX0_choose_20 rfl ?_
      refine pm_callV (As := [.int zb, .int zc]) (rest := []) hG hR dX0_choose_21 (lkX0_128 _ rfl) okV_X0_keepIfBetter rfl rfl (g_X0_keepIfBetter (d := 1) (by decide) h2) rfl rfl hdd (Nat.le_refl _) (Nat.le_refl _) (by decide) (pm_kv (fun σ' cnt' hq => ?_))
      obtain ⟨I4, A4, rfl, rfl, h4⟩ := hq
      refine pm_iloadn hG dX0_choose_24 rfl ?_
      refine pm_bipush (v := 9) hG dX0_choose_25 (by decide) ?_
      refine pm_icmp_ge (tgt := 105) hG dX0_choose_27 rfl (fun _ => ?_) (fun q => absurd q (by decide))
      exact pm_vret hG hF dX0_choose_105 rfl (Nat.le_refl _) (Nat.le_refl _) ⟨rfl, _, _, rfl, rfl, h4⟩
  · exact pm_vret hG hF dX0_choose_8 rfl (Nat.le_refl _) (Nat.le_refl _) ⟨rfl, _, _, rfl, rfl, h⟩

set_option maxRecDepth 100000 in
set_option maxHeartbeats 4000000 in
theorem g_X0_choose_k8 {ε : Nat → Int32} {d B cnt : Nat} {kp : pm_KP} {ρ : pm_S} {I : Nat → Int32} {A : Nat → Nat → Int32} {zb zc zd : Int32} (hdd : 3 ≤ d) (h : gq ε I) : pm_met mX0_choose d 0 0 B [.ref (B + 31), .int 8, .int zb, .int zc, .int zd] cnt (pm_two (cl_L B kp I A) ρ) (pm_Qv (fun σ' cnt' => hvq ε B kp ρ cnt σ' cnt')) := by
  refine pm_enter 1 (by decide) (Nat.le_of_ble_eq_true rfl) rfl (fun G hG hR hF => ?_)
  refine pm_iloadn hG dX0_choose_0 rfl ?_
  refine pm_aloadn hG dX0_choose_1 rfl ?_
  refine pm_getf hG dX0_choose_2 (flX0_115 _ rfl) rfl rfl ?_
  refine pm_icmp_le (tgt := 9) hG dX0_choose_5 rfl (fun c1 => ?_) (fun c1 => ?_)
  · refine pm_aloadn hG dX0_choose_9 rfl ?_
    refine pm_iloadi hG dX0_choose_10 rfl ?_
    refine pm_callV (As := [.int zd]) (rest := []) hG hR dX0_choose_12 (lkX0_125 _ rfl) okV_X0_isCarriedWith rfl rfl (g_X0_isCarriedWith (d := 2) (by decide) h) rfl rfl hdd (Nat.le_refl _) (Nat.le_refl _) (by decide) (pm_ki (fun v2 σ' cnt' hq => ?_))
    obtain ⟨b2, I2, A2, rfl, rfl, h2⟩ := hq
    refine pm_if_eq (tgt := 24) hG dX0_choose_15 rfl (fun c3 => ?_) (fun c3 => ?_)
    · refine pm_iloadn hG dX0_choose_24 rfl ?_
      refine pm_bipush (v := 9) hG dX0_choose_25 (by decide) ?_
      refine pm_icmp_ge (tgt := 105) hG dX0_choose_27 rfl (fun q => absurd q (by decide)) (fun _ => ?_)
      refine pm_aloadn hG dX0_choose_30 rfl ?_
      refine pm_getf hG dX0_choose_31 (flX0_36 _ rfl) rfl rfl ?_
      refine pm_iloadn hG dX0_choose_34 rfl ?_
      refine pm_callV (As := [.int 8]) (rest := []) hG hR dX0_choose_35 (lkX0_131 _ rfl) okV_X9_has rfl rfl (tb_has (d := 2) rfl) rfl rfl hdd (Nat.le_refl _) (Nat.le_refl _) (by decide) (pm_ki (fun v4 σ' cnt' hq => ?_))
      have b4 := pm_b01 hq.1
      obtain ⟨I4, A4, rfl, rfl, h4⟩ := hv_id (kp := kp) (I := I2) (A := A2) h2 hq.2
      refine pm_if_eq (tgt := 105) hG dX0_choose_38 rfl (fun c5 => ?_) (fun c5 => ?_)
      · exact pm_vret hG hF dX0_choose_105 rfl (Nat.le_refl _) (Nat.le_refl _) ⟨rfl, _, _, rfl, rfl, h4⟩
      · refine pm_aloadn hG dX0_choose_41 rfl ?_
        refine pm_getf hG dX0_choose_42 (flX0_36 _ rfl) rfl rfl ?_
        refine pm_iloadn hG dX0_choose_45 rfl ?_
        refine pm_iconst (v := 0) hG dX0_choose_46 (by decide) ?_
        refine pm_callV (As := [.int 8, .int 0]) (rest := []) hG hR dX0_choose_47 (lkX0_39 _ rfl) okV_X9_get rfl rfl (tb_get (d := 2) rfl rfl (pm_tw_of 9 1 (by decide) (by decide) (by decide))) rfl rfl hdd (Nat.le_refl _) (Nat.le_refl _) (by decide) (pm_ki (fun v6 σ' cnt' hq => ?_))
        obtain ⟨I6, A6, rfl, rfl, h6⟩ := hv_id (kp := kp) (I := I4) (A := A4) h4 hq.2
        refine pm_istoreXi (loc' := [some (.ref (B + 31)), some (.int 8), some (.int zb), some (.int zc), some (.int zd), some (.int v6)]) hG dX0_choose_50 (by decide) (pm_c1b rfl) rfl ?_
        refine pm_aloadn hG dX0_choose_52 rfl ?_
        refine pm_iloadn hG dX0_choose_53 rfl ?_
        refine pm_iconst (v := 1) hG dX0_choose_54 (by decide) ?_
        refine pm_iadd hG dX0_choose_55 ?_
        refine pm_top (v := 9) (by decide) ?_
        refine pm_iloadn hG dX0_choose_56 rfl ?_
        refine pm_iloadn hG dX0_choose_57 rfl ?_
        refine pm_iloadi hG dX0_choose_58 rfl ?_
        refine pm_callV (As := [.int 9, .int zb, .int zc, .int zd]) (rest := []) hG hR dX0_choose_60 (lkX0_121 _ rfl) okV_X0_choose rfl rfl (g_X0_choose_k9 (d := 2) (by decide) h6) rfl rfl hdd (Nat.le_refl _) (Nat.le_refl _) (by decide) (pm_kv (fun σ' cnt' hq => ?_))
        obtain ⟨I7, A7, rfl, rfl, h7⟩ := hq
        refine pm_aloadn hG dX0_choose_63 rfl ?_
        refine pm_iloadn hG dX0_choose_64 rfl ?_
        refine pm_iconst (v := 1) hG dX0_choose_65 (by decide) ?_
        refine pm_iadd hG dX0_choose_66 ?_
        refine pm_top (v := 9) (by decide) ?_
        refine pm_iloadn hG dX0_choose_67 rfl ?_
        refine pm_iconst (v := 1) hG dX0_choose_68 (by decide) ?_
        refine pm_iloadi hG dX0_choose_69 rfl ?_
        refine pm_ishl hG dX0_choose_71 ?_
        refine pm_ior hG dX0_choose_72 ?_
        refine pm_iloadn hG dX0_choose_73 rfl ?_
        refine pm_aloadn hG dX0_choose_74 rfl ?_
        refine pm_getf hG dX0_choose_75 (flX0_9 _ rfl) rfl rfl ?_
        refine pm_getf hG dX0_choose_78 (flX0_63 _ rfl) rfl rfl ?_
        refine pm_iloadi hG dX0_choose_81 rfl ?_
        refine pm_bipush (v := 12) hG dX0_choose_83 (by decide) ?_
        refine pm_callV (As := [.int v6, .int 12]) (rest := [.int zc, .int (zb ||| (1 <<< (v6 &&& 31))), .int 9, .ref (B + 31)]) hG hR dX0_choose_85 (lkX0_39 _ rfl) okV_X9_get rfl rfl (tb_get (d := 2) rfl rfl (pm_tw_of 20 14 (by decide) (by decide) (by decide))) rfl rfl hdd (Nat.le_refl _) (Nat.le_refl _) (by first | decide | exact Nat.le_of_ble_eq_true rfl) (pm_ki (fun v8 σ' cnt' hq => ?_))
        obtain ⟨I8, A8, rfl, rfl, h8⟩ := hv_id (kp := kp) (I := I7) (A := A7) h7 hq.2
        refine pm_iadd hG dX0_choose_88 ?_
        refine pm_iloadi hG dX0_choose_89 rfl ?_
        refine pm_aloadn hG dX0_choose_91 rfl ?_
        refine pm_getf hG dX0_choose_92 (flX0_33 _ rfl) rfl rfl ?_
        refine pm_iloadi hG dX0_choose_95 rfl ?_
        refine pm_iconst (v := 0) hG dX0_choose_97 (by decide) ?_
        refine pm_callV (As := [.int v6, .int 0]) (rest := [.int zd, .int (zc + v8), .int (zb ||| (1 <<< (v6 &&& 31))), .int 9, .ref (B + 31)]) hG hR dX0_choose_98 (lkX0_39 _ rfl) okV_X9_get rfl rfl (tb_get (d := 2) rfl rfl (pm_tw_of 20 1 (by decide) (by decide) (by decide))) rfl rfl hdd (Nat.le_refl _) (Nat.le_refl _) (by first | decide | exact Nat.le_of_ble_eq_true rfl) (pm_ki (fun v9 σ' cnt' hq => ?_))
        obtain ⟨I9, A9, rfl, rfl, h9⟩ := hv_id (kp := kp) (I := I8) (A := A8) h8 hq.2
        refine pm_iadd hG dX0_choose_101 ?_
        refine pm_callV (As := [.int 9, .int (zb ||| (1 <<< (v6 &&& 31))), .int (zc + v8), .int (zd + v9)]) (rest := []) hG hR dX0_choose_102 (lkX0_121 _ rfl) okV_X0_choose rfl rfl (g_X0_choose_k9 (d := 2) (by decide) h9) rfl rfl hdd (Nat.le_refl _) (Nat.le_refl _) (by decide) (pm_kv (fun σ' cnt' hq => ?_))
        obtain ⟨I10, A10, rfl, rfl, h10⟩ := hq
        exact pm_vret hG hF dX0_choose_105 rfl (Nat.le_refl _) (Nat.le_refl _) ⟨rfl, _, _, rfl, rfl, h10⟩
    · refine pm_aloadn hG dX0_choose_18 rfl ?_
      refine pm_iloadn hG dX0_choose_19 rfl ?_
      refine pm_iloadn hG dX0_choose_20 rfl ?_
      refine pm_callV (As := [.int zb, .int zc]) (rest := []) hG hR dX0_choose_21 (lkX0_128 _ rfl) okV_X0_keepIfBetter rfl rfl (g_X0_keepIfBetter (d := 2) (by decide) h2) rfl rfl hdd (Nat.le_refl _) (Nat.le_refl _) (by decide) (pm_kv (fun σ' cnt' hq => ?_))
      obtain ⟨I11, A11, rfl, rfl, h11⟩ := hq
      refine pm_iloadn hG dX0_choose_24 rfl ?_
      refine pm_bipush (v := 9) hG dX0_choose_25 (by decide) ?_
      refine pm_icmp_ge (tgt := 105) hG dX0_choose_27 rfl (fun q => absurd q (by decide)) (fun _ => ?_)
      refine pm_aloadn hG dX0_choose_30 rfl ?_
      refine pm_getf hG dX0_choose_31 (flX0_36 _ rfl) rfl rfl ?_
      refine pm_iloadn hG dX0_choose_34 rfl ?_
      refine pm_callV (As := [.int 8]) (rest := []) hG hR dX0_choose_35 (lkX0_131 _ rfl) okV_X9_has rfl rfl (tb_has (d := 2) rfl) rfl rfl hdd (Nat.le_refl _) (Nat.le_refl _) (by decide) (pm_ki (fun v12 σ' cnt' hq => ?_))
      have b12 := pm_b01 hq.1
      obtain ⟨I12, A12, rfl, rfl, h12⟩ := hv_id (kp := kp) (I := I11) (A := A11) h11 hq.2
      refine pm_if_eq (tgt := 105) hG dX0_choose_38 rfl (fun c13 => ?_) (fun c13 => ?_)
      · exact pm_vret hG hF dX0_choose_105 rfl (Nat.le_refl _) (Nat.le_refl _) ⟨rfl, _, _, rfl, rfl, h12⟩
      · refine pm_aloadn hG dX0_choose_41 rfl ?_
        refine pm_getf hG dX0_choose_42 (flX0_36 _ rfl) rfl rfl ?_
        refine pm_iloadn hG dX0_choose_45 rfl ?_
        refine pm_iconst (v := 0) hG dX0_choose_46 (by decide) ?_
        refine pm_callV (As := [.int 8, .int 0]) (rest := []) hG hR dX0_choose_47 (lkX0_39 _ rfl) okV_X9_get rfl rfl (tb_get (d := 2) rfl rfl (pm_tw_of 9 1 (by decide) (by decide) (by decide))) rfl rfl hdd (Nat.le_refl _) (Nat.le_refl _) (by decide) (pm_ki (fun v14 σ' cnt' hq => ?_))
        obtain ⟨I14, A14, rfl, rfl, h14⟩ := hv_id (kp := kp) (I := I12) (A := A12) h12 hq.2
        refine pm_istoreXi (loc' := [some (.ref (B + 31)), some (.int 8), some (.int zb), some (.int zc), some (.int zd), some (.int v14)]) hG dX0_choose_50 (by decide) (pm_c1b rfl) rfl ?_
        refine pm_aloadn hG dX0_choose_52 rfl ?_
        refine pm_iloadn hG dX0_choose_53 rfl ?_
        refine pm_iconst (v := 1) hG dX0_choose_54 (by decide) ?_
        refine pm_iadd hG dX0_choose_55 ?_
        refine pm_top (v := 9) (by decide) ?_
        refine pm_iloadn hG dX0_choose_56 rfl ?_
        refine pm_iloadn hG dX0_choose_57 rfl ?_
        refine pm_iloadi hG dX0_choose_58 rfl ?_
        refine pm_callV (As := [.int 9, .int zb, .int zc, .int zd]) (rest := []) hG hR dX0_choose_60 (lkX0_121 _ rfl) okV_X0_choose rfl rfl (g_X0_choose_k9 (d := 2) (by decide) h14) rfl rfl hdd (Nat.le_refl _) (Nat.le_refl _) (by decide) (pm_kv (fun σ' cnt' hq => ?_))
        obtain ⟨I15, A15, rfl, rfl, h15⟩ := hq
        refine pm_aloadn hG dX0_choose_63 rfl ?_
        refine pm_iloadn hG dX0_choose_64 rfl ?_
        refine pm_iconst (v := 1) hG dX0_choose_65 (by decide) ?_
        refine pm_iadd hG dX0_choose_66 ?_
        refine pm_top (v := 9) (by decide) ?_
        refine pm_iloadn hG dX0_choose_67 rfl ?_
        refine pm_iconst (v := 1) hG dX0_choose_68 (by decide) ?_
        refine pm_iloadi hG dX0_choose_69 rfl ?_
        refine pm_ishl hG dX0_choose_71 ?_
        refine pm_ior hG dX0_choose_72 ?_
        refine pm_iloadn hG dX0_choose_73 rfl ?_
        refine pm_aloadn hG dX0_choose_74 rfl ?_
        refine pm_getf hG dX0_choose_75 (flX0_9 _ rfl) rfl rfl ?_
        refine pm_getf hG dX0_choose_78 (flX0_63 _ rfl) rfl rfl ?_
        refine pm_iloadi hG dX0_choose_81 rfl ?_
        refine pm_bipush (v := 12) hG dX0_choose_83 (by decide) ?_
        refine pm_callV (As := [.int v14, .int 12]) (rest := [.int zc, .int (zb ||| (1 <<< (v14 &&& 31))), .int 9, .ref (B + 31)]) hG hR dX0_choose_85 (lkX0_39 _ rfl) okV_X9_get rfl rfl (tb_get (d := 2) rfl rfl (pm_tw_of 20 14 (by decide) (by decide) (by decide))) rfl rfl hdd (Nat.le_refl _) (Nat.le_refl _) (by first | decide | exact Nat.le_of_ble_eq_true rfl) (pm_ki (fun v16 σ' cnt' hq => ?_))
        obtain ⟨I16, A16, rfl, rfl, h16⟩ := hv_id (kp := kp) (I := I15) (A := A15) h15 hq.2
        refine pm_iadd hG dX0_choose_88 ?_
        refine pm_iloadi hG dX0_choose_89 rfl ?_
        refine pm_aloadn hG dX0_choose_91 rfl ?_
        refine pm_getf hG dX0_choose_92 (flX0_33 _ rfl) rfl rfl ?_
        refine pm_iloadi hG dX0_choose_95 rfl ?_
        refine pm_iconst (v := 0) hG dX0_choose_97 (by decide) ?_
        refine pm_callV (As := [.int v14, .int 0]) (rest := [.int zd, .int (zc + v16), .int (zb ||| (1 <<< (v14 &&& 31))), .int 9, .ref (B + 31)]) hG hR dX0_choose_98 (lkX0_39 _ rfl) okV_X9_get rfl rfl (tb_get (d := 2) rfl rfl (pm_tw_of 20 1 (by decide) (by decide) (by decide))) rfl rfl hdd (Nat.le_refl _) (Nat.le_refl _) (by first | decide | exact Nat.le_of_ble_eq_true rfl) (pm_ki (fun v17 σ' cnt' hq => ?_))
        obtain ⟨I17, A17, rfl, rfl, h17⟩ := hv_id (kp := kp) (I := I16) (A := A16) h16 hq.2
        refine pm_iadd hG dX0_choose_101 ?_
        refine pm_callV (As := [.int 9, .int (zb ||| (1 <<< (v14 &&& 31))), .int (zc + v16), .int (zd + v17)]) (rest := []) hG hR dX0_choose_102 (lkX0_121 _ rfl) okV_X0_choose rfl rfl (g_X0_choose_k9 (d := 2) (by decide) h17) rfl rfl hdd (Nat.le_refl _) (Nat.le_refl _) (by decide) (pm_kv (fun σ' cnt' hq => ?_))
        obtain ⟨I18, A18, rfl, rfl, h18⟩ := hq
        exact pm_vret hG hF dX0_choose_105 rfl (Nat.le_refl _) (Nat.le_refl _) ⟨rfl, _, _, rfl, rfl, h18⟩
  · exact pm_vret hG hF dX0_choose_8 rfl (Nat.le_refl _) (Nat.le_refl _) ⟨rfl, _, _, rfl, rfl, h⟩

set_option maxRecDepth 100000 in
set_option maxHeartbeats 4000000 in
theorem g_X0_choose_k7 {ε : Nat → Int32} {d B cnt : Nat} {kp : pm_KP} {ρ : pm_S} {I : Nat → Int32} {A : Nat → Nat → Int32} {zb zc zd : Int32} (hdd : 4 ≤ d) (h : gq ε I) : pm_met mX0_choose d 0 0 B [.ref (B + 31), .int 7, .int zb, .int zc, .int zd] cnt (pm_two (cl_L B kp I A) ρ) (pm_Qv (fun σ' cnt' => hvq ε B kp ρ cnt σ' cnt')) := by
  refine pm_enter 1 (by decide) (Nat.le_of_ble_eq_true rfl) rfl (fun G hG hR hF => ?_)
  refine pm_iloadn hG dX0_choose_0 rfl ?_
  refine pm_aloadn hG dX0_choose_1 rfl ?_
  refine pm_getf hG dX0_choose_2 (flX0_115 _ rfl) rfl rfl ?_
  refine pm_icmp_le (tgt := 9) hG dX0_choose_5 rfl (fun c1 => ?_) (fun c1 => ?_)
  · refine pm_aloadn hG dX0_choose_9 rfl ?_
    refine pm_iloadi hG dX0_choose_10 rfl ?_
    refine pm_callV (As := [.int zd]) (rest := []) hG hR dX0_choose_12 (lkX0_125 _ rfl) okV_X0_isCarriedWith rfl rfl (g_X0_isCarriedWith (d := 3) (by decide) h) rfl rfl hdd (Nat.le_refl _) (Nat.le_refl _) (by decide) (pm_ki (fun v2 σ' cnt' hq => ?_))
    obtain ⟨b2, I2, A2, rfl, rfl, h2⟩ := hq
    refine pm_if_eq (tgt := 24) hG dX0_choose_15 rfl (fun c3 => ?_) (fun c3 => ?_)
    · refine pm_iloadn hG dX0_choose_24 rfl ?_
      refine pm_bipush (v := 9) hG dX0_choose_25 (by decide) ?_
      refine pm_icmp_ge (tgt := 105) hG dX0_choose_27 rfl (fun q => absurd q (by decide)) (fun _ => ?_)
      refine pm_aloadn hG dX0_choose_30 rfl ?_
      refine pm_getf hG dX0_choose_31 (flX0_36 _ rfl) rfl rfl ?_
      refine pm_iloadn hG dX0_choose_34 rfl ?_
      refine pm_callV (As := [.int 7]) (rest := []) hG hR dX0_choose_35 (lkX0_131 _ rfl) okV_X9_has rfl rfl (tb_has (d := 3) rfl) rfl rfl hdd (Nat.le_refl _) (Nat.le_refl _) (by decide) (pm_ki (fun v4 σ' cnt' hq => ?_))
      have b4 := pm_b01 hq.1
      obtain ⟨I4, A4, rfl, rfl, h4⟩ := hv_id (kp := kp) (I := I2) (A := A2) h2 hq.2
      refine pm_if_eq (tgt := 105) hG dX0_choose_38 rfl (fun c5 => ?_) (fun c5 => ?_)
      · exact pm_vret hG hF dX0_choose_105 rfl (Nat.le_refl _) (Nat.le_refl _) ⟨rfl, _, _, rfl, rfl, h4⟩
      · refine pm_aloadn hG dX0_choose_41 rfl ?_
        refine pm_getf hG dX0_choose_42 (flX0_36 _ rfl) rfl rfl ?_
        refine pm_iloadn hG dX0_choose_45 rfl ?_
        refine pm_iconst (v := 0) hG dX0_choose_46 (by decide) ?_
        refine pm_callV (As := [.int 7, .int 0]) (rest := []) hG hR dX0_choose_47 (lkX0_39 _ rfl) okV_X9_get rfl rfl (tb_get (d := 3) rfl rfl (pm_tw_of 9 1 (by decide) (by decide) (by decide))) rfl rfl hdd (Nat.le_refl _) (Nat.le_refl _) (by decide) (pm_ki (fun v6 σ' cnt' hq => ?_))
        obtain ⟨I6, A6, rfl, rfl, h6⟩ := hv_id (kp := kp) (I := I4) (A := A4) h4 hq.2
        refine pm_istoreXi (loc' := [some (.ref (B + 31)), some (.int 7), some (.int zb), some (.int zc), some (.int zd), some (.int v6)]) hG dX0_choose_50 (by decide) (pm_c1b rfl) rfl ?_
        refine pm_aloadn hG dX0_choose_52 rfl ?_
        refine pm_iloadn hG dX0_choose_53 rfl ?_
        refine pm_iconst (v := 1) hG dX0_choose_54 (by decide) ?_
        refine pm_iadd hG dX0_choose_55 ?_
        refine pm_top (v := 8) (by decide) ?_
        refine pm_iloadn hG dX0_choose_56 rfl ?_
        refine pm_iloadn hG dX0_choose_57 rfl ?_
        refine pm_iloadi hG dX0_choose_58 rfl ?_
        refine pm_callV (As := [.int 8, .int zb, .int zc, .int zd]) (rest := []) hG hR dX0_choose_60 (lkX0_121 _ rfl) okV_X0_choose rfl rfl (g_X0_choose_k8 (d := 3) (by decide) h6) rfl rfl hdd (Nat.le_refl _) (Nat.le_refl _) (by decide) (pm_kv (fun σ' cnt' hq => ?_))
        obtain ⟨I7, A7, rfl, rfl, h7⟩ := hq
        refine pm_aloadn hG dX0_choose_63 rfl ?_
        refine pm_iloadn hG dX0_choose_64 rfl ?_
        refine pm_iconst (v := 1) hG dX0_choose_65 (by decide) ?_
        refine pm_iadd hG dX0_choose_66 ?_
        refine pm_top (v := 8) (by decide) ?_
        refine pm_iloadn hG dX0_choose_67 rfl ?_
        refine pm_iconst (v := 1) hG dX0_choose_68 (by decide) ?_
        refine pm_iloadi hG dX0_choose_69 rfl ?_
        refine pm_ishl hG dX0_choose_71 ?_
        refine pm_ior hG dX0_choose_72 ?_
        refine pm_iloadn hG dX0_choose_73 rfl ?_
        refine pm_aloadn hG dX0_choose_74 rfl ?_
        refine pm_getf hG dX0_choose_75 (flX0_9 _ rfl) rfl rfl ?_
        refine pm_getf hG dX0_choose_78 (flX0_63 _ rfl) rfl rfl ?_
        refine pm_iloadi hG dX0_choose_81 rfl ?_
        refine pm_bipush (v := 12) hG dX0_choose_83 (by decide) ?_
        refine pm_callV (As := [.int v6, .int 12]) (rest := [.int zc, .int (zb ||| (1 <<< (v6 &&& 31))), .int 8, .ref (B + 31)]) hG hR dX0_choose_85 (lkX0_39 _ rfl) okV_X9_get rfl rfl (tb_get (d := 3) rfl rfl (pm_tw_of 20 14 (by decide) (by decide) (by decide))) rfl rfl hdd (Nat.le_refl _) (Nat.le_refl _) (by first | decide | exact Nat.le_of_ble_eq_true rfl) (pm_ki (fun v8 σ' cnt' hq => ?_))
        obtain ⟨I8, A8, rfl, rfl, h8⟩ := hv_id (kp := kp) (I := I7) (A := A7) h7 hq.2
        refine pm_iadd hG dX0_choose_88 ?_
        refine pm_iloadi hG dX0_choose_89 rfl ?_
        refine pm_aloadn hG dX0_choose_91 rfl ?_
        refine pm_getf hG dX0_choose_92 (flX0_33 _ rfl) rfl rfl ?_
        refine pm_iloadi hG dX0_choose_95 rfl ?_
        refine pm_iconst (v := 0) hG dX0_choose_97 (by decide) ?_
        refine pm_callV (As := [.int v6, .int 0]) (rest := [.int zd, .int (zc + v8), .int (zb ||| (1 <<< (v6 &&& 31))), .int 8, .ref (B + 31)]) hG hR dX0_choose_98 (lkX0_39 _ rfl) okV_X9_get rfl rfl (tb_get (d := 3) rfl rfl (pm_tw_of 20 1 (by decide) (by decide) (by decide))) rfl rfl hdd (Nat.le_refl _) (Nat.le_refl _) (by first | decide | exact Nat.le_of_ble_eq_true rfl) (pm_ki (fun v9 σ' cnt' hq => ?_))
        obtain ⟨I9, A9, rfl, rfl, h9⟩ := hv_id (kp := kp) (I := I8) (A := A8) h8 hq.2
        refine pm_iadd hG dX0_choose_101 ?_
        refine pm_callV (As := [.int 8, .int (zb ||| (1 <<< (v6 &&& 31))), .int (zc + v8), .int (zd + v9)]) (rest := []) hG hR dX0_choose_102 (lkX0_121 _ rfl) okV_X0_choose rfl rfl (g_X0_choose_k8 (d := 3) (by decide) h9) rfl rfl hdd (Nat.le_refl _) (Nat.le_refl _) (by decide) (pm_kv (fun σ' cnt' hq => ?_))
        obtain ⟨I10, A10, rfl, rfl, h10⟩ := hq
        exact pm_vret hG hF dX0_choose_105 rfl (Nat.le_refl _) (Nat.le_refl _) ⟨rfl, _, _, rfl, rfl, h10⟩
    · refine pm_aloadn hG dX0_choose_18 rfl ?_
      refine pm_iloadn hG dX0_choose_19 rfl ?_
      refine pm_iloadn hG dX0_choose_20 rfl ?_
      refine pm_callV (As := [.int zb, .int zc]) (rest := []) hG hR dX0_choose_21 (lkX0_128 _ rfl) okV_X0_keepIfBetter rfl rfl (g_X0_keepIfBetter (d := 3) (by decide) h2) rfl rfl hdd (Nat.le_refl _) (Nat.le_refl _) (by decide) (pm_kv (fun σ' cnt' hq => ?_))
      obtain ⟨I11, A11, rfl, rfl, h11⟩ := hq
      refine pm_iloadn hG dX0_choose_24 rfl ?_
      refine pm_bipush (v := 9) hG dX0_choose_25 (by decide) ?_
      refine pm_icmp_ge (tgt := 105) hG dX0_choose_27 rfl (fun q => absurd q (by decide)) (fun _ => ?_)
      refine pm_aloadn hG dX0_choose_30 rfl ?_
      refine pm_getf hG dX0_choose_31 (flX0_36 _ rfl) rfl rfl ?_
      refine pm_iloadn hG dX0_choose_34 rfl ?_
      refine pm_callV (As := [.int 7]) (rest := []) hG hR dX0_choose_35 (lkX0_131 _ rfl) okV_X9_has rfl rfl (tb_has (d := 3) rfl) rfl rfl hdd (Nat.le_refl _) (Nat.le_refl _) (by decide) (pm_ki (fun v12 σ' cnt' hq => ?_))
      have b12 := pm_b01 hq.1
      obtain ⟨I12, A12, rfl, rfl, h12⟩ := hv_id (kp := kp) (I := I11) (A := A11) h11 hq.2
      refine pm_if_eq (tgt := 105) hG dX0_choose_38 rfl (fun c13 => ?_) (fun c13 => ?_)
      · exact pm_vret hG hF dX0_choose_105 rfl (Nat.le_refl _) (Nat.le_refl _) ⟨rfl, _, _, rfl, rfl, h12⟩
      · refine pm_aloadn hG dX0_choose_41 rfl ?_
        refine pm_getf hG dX0_choose_42 (flX0_36 _ rfl) rfl rfl ?_
        refine pm_iloadn hG dX0_choose_45 rfl ?_
        refine pm_iconst (v := 0) hG dX0_choose_46 (by decide) ?_
        refine pm_callV (As := [.int 7, .int 0]) (rest := []) hG hR dX0_choose_47 (lkX0_39 _ rfl) okV_X9_get rfl rfl (tb_get (d := 3) rfl rfl (pm_tw_of 9 1 (by decide) (by decide) (by decide))) rfl rfl hdd (Nat.le_refl _) (Nat.le_refl _) (by decide) (pm_ki (fun v14 σ' cnt' hq => ?_))
        obtain ⟨I14, A14, rfl, rfl, h14⟩ := hv_id (kp := kp) (I := I12) (A := A12) h12 hq.2
        refine pm_istoreXi (loc' := [some (.ref (B + 31)), some (.int 7), some (.int zb), some (.int zc), some (.int zd), some (.int v14)]) hG dX0_choose_50 (by decide) (pm_c1b rfl) rfl ?_
        refine pm_aloadn hG dX0_choose_52 rfl ?_
        refine pm_iloadn hG dX0_choose_53 rfl ?_
        refine pm_iconst (v := 1) hG dX0_choose_54 (by decide) ?_
        refine pm_iadd hG dX0_choose_55 ?_
        refine pm_top (v := 8) (by decide) ?_
        refine pm_iloadn hG dX0_choose_56 rfl ?_
        refine pm_iloadn hG dX0_choose_57 rfl ?_
        refine pm_iloadi hG dX0_choose_58 rfl ?_
        refine pm_callV (As := [.int 8, .int zb, .int zc, .int zd]) (rest := []) hG hR dX0_choose_60 (lkX0_121 _ rfl) okV_X0_choose rfl rfl (g_X0_choose_k8 (d := 3) (by decide) h14) rfl rfl hdd (Nat.le_refl _) (Nat.le_refl _) (by decide) (pm_kv (fun σ' cnt' hq => ?_))
        obtain ⟨I15, A15, rfl, rfl, h15⟩ := hq
        refine pm_aloadn hG dX0_choose_63 rfl ?_
        refine pm_iloadn hG dX0_choose_64 rfl ?_
        refine pm_iconst (v := 1) hG dX0_choose_65 (by decide) ?_
        refine pm_iadd hG dX0_choose_66 ?_
        refine pm_top (v := 8) (by decide) ?_
        refine pm_iloadn hG dX0_choose_67 rfl ?_
        refine pm_iconst (v := 1) hG dX0_choose_68 (by decide) ?_
        refine pm_iloadi hG dX0_choose_69 rfl ?_
        refine pm_ishl hG dX0_choose_71 ?_
        refine pm_ior hG dX0_choose_72 ?_
        refine pm_iloadn hG dX0_choose_73 rfl ?_
        refine pm_aloadn hG dX0_choose_74 rfl ?_
        refine pm_getf hG dX0_choose_75 (flX0_9 _ rfl) rfl rfl ?_
        refine pm_getf hG dX0_choose_78 (flX0_63 _ rfl) rfl rfl ?_
        refine pm_iloadi hG dX0_choose_81 rfl ?_
        refine pm_bipush (v := 12) hG dX0_choose_83 (by decide) ?_
        refine pm_callV (As := [.int v14, .int 12]) (rest := [.int zc, .int (zb ||| (1 <<< (v14 &&& 31))), .int 8, .ref (B + 31)]) hG hR dX0_choose_85 (lkX0_39 _ rfl) okV_X9_get rfl rfl (tb_get (d := 3) rfl rfl (pm_tw_of 20 14 (by decide) (by decide) (by decide))) rfl rfl hdd (Nat.le_refl _) (Nat.le_refl _) (by first | decide | exact Nat.le_of_ble_eq_true rfl) (pm_ki (fun v16 σ' cnt' hq => ?_))
        obtain ⟨I16, A16, rfl, rfl, h16⟩ := hv_id (kp := kp) (I := I15) (A := A15) h15 hq.2
        refine pm_iadd hG dX0_choose_88 ?_
        refine pm_iloadi hG dX0_choose_89 rfl ?_
        refine pm_aloadn hG dX0_choose_91 rfl ?_
        refine pm_getf hG dX0_choose_92 (flX0_33 _ rfl) rfl rfl ?_
        refine pm_iloadi hG dX0_choose_95 rfl ?_
        refine pm_iconst (v := 0) hG dX0_choose_97 (by decide) ?_
        refine pm_callV (As := [.int v14, .int 0]) (rest := [.int zd, .int (zc + v16), .int (zb ||| (1 <<< (v14 &&& 31))), .int 8, .ref (B + 31)]) hG hR dX0_choose_98 (lkX0_39 _ rfl) okV_X9_get rfl rfl (tb_get (d := 3) rfl rfl (pm_tw_of 20 1 (by decide) (by decide) (by decide))) rfl rfl hdd (Nat.le_refl _) (Nat.le_refl _) (by first | decide | exact Nat.le_of_ble_eq_true rfl) (pm_ki (fun v17 σ' cnt' hq => ?_))
        obtain ⟨I17, A17, rfl, rfl, h17⟩ := hv_id (kp := kp) (I := I16) (A := A16) h16 hq.2
        refine pm_iadd hG dX0_choose_101 ?_
        refine pm_callV (As := [.int 8, .int (zb ||| (1 <<< (v14 &&& 31))), .int (zc + v16), .int (zd + v17)]) (rest := []) hG hR dX0_choose_102 (lkX0_121 _ rfl) okV_X0_choose rfl rfl (g_X0_choose_k8 (d := 3) (by decide) h17) rfl rfl hdd (Nat.le_refl _) (Nat.le_refl _) (by decide) (pm_kv (fun σ' cnt' hq => ?_))
        obtain ⟨I18, A18, rfl, rfl, h18⟩ := hq
        exact pm_vret hG hF dX0_choose_105 rfl (Nat.le_refl _) (Nat.le_refl _) ⟨rfl, _, _, rfl, rfl, h18⟩
  · exact pm_vret hG hF dX0_choose_8 rfl (Nat.le_refl _) (Nat.le_refl _) ⟨rfl, _, _, rfl, rfl, h⟩
