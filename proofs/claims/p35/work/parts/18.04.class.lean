set_option maxRecDepth 100000 in
set_option maxHeartbeats 4000000 in
theorem g_X2_namesDay {ε : Nat → Int32} {d B cnt : Nat} {kp : pm_KP} {ρ : pm_S} {I : Nat → Int32} {A : Nat → Nat → Int32} {za : Int32} (hdd : 1 ≤ d) (h : gq ε I) : pm_met mX2_namesDay d 0 0 B [.ref (B + 26), .int za] cnt (pm_two (cl_L B kp I A) ρ) (pm_Qi (fun v σ' cnt' => (v = 0 ∨ v = 1) ∧ hvq ε B kp ρ cnt σ' cnt')) := by
  refine pm_enter 0 (by decide) (Nat.le_of_ble_eq_true rfl) rfl (fun G hG hR hF => ?_)
  refine pm_aloadn hG dX2_namesDay_0 rfl ?_
  refine pm_getf hG dX2_namesDay_1 (flX2_9 _ rfl) rfl rfl ?_
  refine pm_getf hG dX2_namesDay_4 (flX2_43 _ rfl) rfl rfl ?_
  refine pm_iloadn hG dX2_namesDay_7 rfl ?_
  refine pm_iconst (v := 5) hG dX2_namesDay_8 (by decide) ?_
  refine pm_callV (As := [.int za, .int 5]) (rest := []) hG hR dX2_namesDay_9 (lkX2_67 _ rfl) okV_X9_get rfl rfl (tb_get (d := 0) rfl rfl (pm_tw_of 12 6 (by decide) (by decide) (by decide))) rfl rfl hdd (Nat.le_refl _) (Nat.le_refl _) (by decide) (pm_ki (fun v1 σ' cnt' hq => ?_))
  obtain ⟨I1, A1, rfl, rfl, h1⟩ := hv_id (kp := kp) (I := I) (A := A) h hq.2
  refine pm_if_eq (tgt := 19) hG dX2_namesDay_12 rfl (fun c2 => ?_) (fun c2 => ?_)
  · refine pm_iconst (v := 0) hG dX2_namesDay_19 (by decide) ?_
    exact pm_zret hG hF dX2_namesDay_20 rfl (pm_nz (Or.inl rfl)) (Nat.le_refl _) (Nat.le_refl _) ⟨_, rfl, (Or.inl rfl), _, _, rfl, rfl, h1⟩
  · refine pm_iconst (v := 1) hG dX2_namesDay_15 (by decide) ?_
    refine pm_goto (tgt := 20) hG dX2_namesDay_16 rfl ?_
    exact pm_zret hG hF dX2_namesDay_20 rfl (pm_nz (Or.inr rfl)) (Nat.le_refl _) (Nat.le_refl _) ⟨_, rfl, (Or.inr rfl), _, _, rfl, rfl, h1⟩

set_option maxRecDepth 100000 in
set_option maxHeartbeats 4000000 in
theorem g_X2_nextBeginning {ε : Nat → Int32} {d B cnt : Nat} {kp : pm_KP} {ρ : pm_S} {I : Nat → Int32} {A : Nat → Nat → Int32} {za zb : Int32} (hdd : 1 ≤ d) (h : gq ε I) : pm_met mX2_nextBeginning d 0 0 B [.ref (B + 26), .int za, .int zb] cnt (pm_two (cl_L B kp I A) ρ) (pm_Qi (fun _ σ' cnt' => hvq ε B kp ρ cnt σ' cnt')) := by
  refine pm_enter 4 (by decide) (Nat.le_of_ble_eq_true rfl) rfl (fun G hG hR hF => ?_)
  refine pm_sipush (v := 2001) hG dX2_nextBeginning_0 (by decide) ?_
  refine pm_istoreXn (loc' := [some (.ref (B + 26)), some (.int za), some (.int zb), some (.int 2001), none, none, none]) hG dX2_nextBeginning_3 (by decide) (pm_c1b rfl) rfl ?_
  refine pm_aloadn hG dX2_nextBeginning_4 rfl ?_
  refine pm_getf hG dX2_nextBeginning_5 (flX2_9 _ rfl) rfl rfl ?_
  refine pm_getf hG dX2_nextBeginning_8 (flX2_43 _ rfl) rfl rfl ?_
  refine pm_callV (As := []) (rest := []) hG hR dX2_nextBeginning_11 (lkX2_53 _ rfl) okV_X9_used rfl rfl (tb_used (d := 0) rfl) rfl rfl hdd (Nat.le_refl _) (Nat.le_refl _) (by decide) (pm_ki (fun v1 σ' cnt' hq => ?_))
  obtain ⟨I1, A1, rfl, rfl, h1⟩ := hv_id (kp := kp) (I := I) (A := A) h hq.2
  refine pm_istoreXi (loc' := [some (.ref (B + 26)), some (.int za), some (.int zb), some (.int 2001), some (.int v1), none, none]) hG dX2_nextBeginning_14 (by decide) (pm_c1b rfl) rfl ?_
  refine pm_iconst (v := 0) hG dX2_nextBeginning_16 (by decide) ?_
  refine pm_istoreXi (loc' := [some (.ref (B + 26)), some (.int za), some (.int zb), some (.int 2001), some (.int v1), some (.int 0), none]) hG dX2_nextBeginning_17 (by decide) (pm_c1b rfl) rfl ?_
  have loop19 : ∀ (m19 : Nat) (I2 : Nat → Int32) (A2 : Nat → Nat → Int32) (x2_3 x2_5 : Int32), gq ε I2 → (¬ x2_5 < 0) → ((v1 : Int32).toInt - x2_5.toInt).toNat < m19 → pm_wp mX2_nextBeginning G B 19 [some (.ref (B + 26)), some (.int za), some (.int zb), some (.int x2_3), some (.int v1), some (.int x2_5), none] [] 0 0 cnt (pm_two (cl_L B kp I2 A2) ρ) := by
    intro m19
    induction m19 with
    | zero => intro I2 A2 x2_3 x2_5 _  _ hm; exact absurd hm (Nat.not_lt_zero _)
    | succ m19 ih19 =>
      intro I2 A2 x2_3 x2_5 h2 s19 hm19
      refine pm_iloadi hG dX2_nextBeginning_19 rfl ?_
      refine pm_iloadi hG dX2_nextBeginning_21 rfl ?_
      refine pm_icmp_ge (tgt := 77) hG dX2_nextBeginning_23 rfl (fun c3 => ?_) (fun c3 => ?_)
      · refine pm_iloadn hG dX2_nextBeginning_77 rfl ?_
        exact pm_iret hG hF dX2_nextBeginning_78 rfl (Nat.le_refl _) (Nat.le_refl _) ⟨_, rfl, _, _, rfl, rfl, h2⟩
      · refine pm_aloadn hG dX2_nextBeginning_26 rfl ?_
        refine pm_getf hG dX2_nextBeginning_27 (flX2_9 _ rfl) rfl rfl ?_
        refine pm_getf hG dX2_nextBeginning_30 (flX2_43 _ rfl) rfl rfl ?_
        refine pm_iloadi hG dX2_nextBeginning_33 rfl ?_
        refine pm_iconst (v := 1) hG dX2_nextBeginning_35 (by decide) ?_
        refine pm_callV (As := [.int x2_5, .int 1]) (rest := []) hG hR dX2_nextBeginning_36 (lkX2_67 _ rfl) okV_X9_get rfl rfl (tb_get (d := 0) rfl rfl (pm_tw_of 12 6 (by decide) (by decide) (by decide))) rfl rfl hdd (Nat.le_refl _) (Nat.le_refl _) (by decide) (pm_ki (fun v4 σ' cnt' hq => ?_))
        obtain ⟨I4, A4, rfl, rfl, h4⟩ := hv_id (kp := kp) (I := I2) (A := A2) h2 hq.2
        refine pm_istoreXi (loc' := [some (.ref (B + 26)), some (.int za), some (.int zb), some (.int x2_3), some (.int v1), some (.int x2_5), some (.int v4)]) hG dX2_nextBeginning_39 (by decide) (pm_c1b rfl) rfl ?_
        refine pm_iloadi hG dX2_nextBeginning_41 rfl ?_
        refine pm_iloadn hG dX2_nextBeginning_43 rfl ?_
        refine pm_icmp_le (tgt := 71) hG dX2_nextBeginning_44 rfl (fun c5 => ?_) (fun c5 => ?_)
        · refine pm_iincX (v := x2_5 + 1) (loc' := [some (.ref (B + 26)), some (.int za), some (.int zb), some (.int x2_3), some (.int v1), some (.int (x2_5 + 1)), some (.int v4)]) hG dX2_nextBeginning_71 rfl (by rfl) (by decide) (pm_c1b rfl) rfl ?_
          refine pm_goto (tgt := 19) hG dX2_nextBeginning_74 rfl ?_
          refine pm_fg 6 (loc' := [some (.ref (B + 26)), some (.int za), some (.int zb), some (.int x2_3), some (.int v1), some (.int (x2_5 + 1)), none]) rfl ?_
          exact ih19 _ _ x2_3 (x2_5 + 1) h4 (pm_sd1 c3 s19) (Nat.lt_of_lt_of_le (pm_mu1 c3) (Nat.le_of_lt_succ hm19))
        · refine pm_aloadn hG dX2_nextBeginning_47 rfl ?_
          refine pm_getf hG dX2_nextBeginning_48 (flX2_9 _ rfl) rfl rfl ?_
          refine pm_getf hG dX2_nextBeginning_51 (flX2_43 _ rfl) rfl rfl ?_
          refine pm_iloadi hG dX2_nextBeginning_54 rfl ?_
          refine pm_iconst (v := 0) hG dX2_nextBeginning_56 (by decide) ?_
          refine pm_callV (As := [.int x2_5, .int 0]) (rest := []) hG hR dX2_nextBeginning_57 (lkX2_67 _ rfl) okV_X9_get rfl rfl (tb_get (d := 0) rfl rfl (pm_tw_of 12 6 (by decide) (by decide) (by decide))) rfl rfl hdd (Nat.le_refl _) (Nat.le_refl _) (by decide) (pm_ki (fun v6 σ' cnt' hq => ?_))
          obtain ⟨I6, A6, rfl, rfl, h6⟩ := hv_id (kp := kp) (I := I4) (A := A4) h4 hq.2
          refine pm_iloadn hG dX2_nextBeginning_60 rfl ?_
          refine pm_icmp_ne (tgt := 71) hG dX2_nextBeginning_61 rfl (fun c7 => ?_) (fun c7 => ?_)
          · refine pm_iincX (v := x2_5 + 1) (loc' := [some (.ref (B + 26)), some (.int za), some (.int zb), some (.int x2_3), some (.int v1), some (.int (x2_5 + 1)), some (.int v4)]) hG dX2_nextBeginning_71 rfl (by rfl) (by decide) (pm_c1b rfl) rfl ?_
            refine pm_goto (tgt := 19) hG dX2_nextBeginning_74 rfl ?_
            refine pm_fg 6 (loc' := [some (.ref (B + 26)), some (.int za), some (.int zb), some (.int x2_3), some (.int v1), some (.int (x2_5 + 1)), none]) rfl ?_
            exact ih19 _ _ x2_3 (x2_5 + 1) h6 (pm_sd1 c3 s19) (Nat.lt_of_lt_of_le (pm_mu1 c3) (Nat.le_of_lt_succ hm19))
          · refine pm_iloadn hG dX2_nextBeginning_64 rfl ?_
            refine pm_iloadi hG dX2_nextBeginning_65 rfl ?_
            refine pm_mmin hG hR dX2_nextBeginning_67 (mmX2_74 _ rfl) pm_mwmin (by omega) (by first | decide | exact Nat.le_of_ble_eq_true rfl) (Nat.le_refl _) (Nat.le_refl _) ?_
            refine pm_istoreXn (loc' := [some (.ref (B + 26)), some (.int za), some (.int zb), some (.int (if v4 < x2_3 then v4 else x2_3)), some (.int v1), some (.int x2_5), some (.int v4)]) hG dX2_nextBeginning_70 (by decide) (pm_c1b rfl) rfl ?_
            refine pm_iincX (v := x2_5 + 1) (loc' := [some (.ref (B + 26)), some (.int za), some (.int zb), some (.int (if v4 < x2_3 then v4 else x2_3)), some (.int v1), some (.int (x2_5 + 1)), some (.int v4)]) hG dX2_nextBeginning_71 rfl (by rfl) (by decide) (pm_c1b rfl) rfl ?_
            refine pm_goto (tgt := 19) hG dX2_nextBeginning_74 rfl ?_
            refine pm_fg 6 (loc' := [some (.ref (B + 26)), some (.int za), some (.int zb), some (.int (if v4 < x2_3 then v4 else x2_3)), some (.int v1), some (.int (x2_5 + 1)), none]) rfl ?_
            exact ih19 _ _ (if v4 < x2_3 then v4 else x2_3) (x2_5 + 1) h6 (pm_sd1 c3 s19) (Nat.lt_of_lt_of_le (pm_mu1 c3) (Nat.le_of_lt_succ hm19))
  exact loop19 _ _ _ 2001 0 h1 (by decide) (Nat.lt_succ_self _)

set_option maxRecDepth 100000 in
set_option maxHeartbeats 4000000 in
theorem g_X4_dayOfAge {ε : Nat → Int32} {d B cnt : Nat} {kp : pm_KP} {ρ : pm_S} {I : Nat → Int32} {A : Nat → Nat → Int32} (hdd : 4 ≤ d) (h : gq ε I) : pm_met mX4_dayOfAge d 0 0 B [.ref (B + 37)] cnt (pm_two (cl_L B kp I A) ρ) (pm_Qi (fun _ σ' cnt' => hvq ε B kp ρ cnt σ' cnt')) := by
  refine pm_enter 6 (by decide) (Nat.le_of_ble_eq_true rfl) rfl (fun G hG hR hF => ?_)
  refine pm_aloadn hG dX4_dayOfAge_0 rfl ?_
  refine pm_getf hG dX4_dayOfAge_1 (flX4_9 _ rfl) rfl rfl ?_
  refine pm_getf hG dX4_dayOfAge_4 (flX4_31 _ rfl) rfl rfl ?_
  refine pm_iconst (v := 0) hG dX4_dayOfAge_7 (by decide) ?_
  refine pm_callV (As := [.int 0]) (rest := []) hG hR dX4_dayOfAge_8 (lkX4_48 _ rfl) okV_X9_has rfl rfl (tb_has (d := 3) rfl) rfl rfl hdd (Nat.le_refl _) (Nat.le_refl _) (by decide) (pm_ki (fun v1 σ' cnt' hq => ?_))
  have b1 := pm_b01 hq.1
  obtain ⟨I1, A1, rfl, rfl, h1⟩ := hv_id (kp := kp) (I := I) (A := A) h hq.2
  refine pm_if_ne (tgt := 17) hG dX4_dayOfAge_11 rfl (fun c2 => ?_) (fun c2 => ?_)
  · refine pm_aloadn hG dX4_dayOfAge_17 rfl ?_
    refine pm_getf hG dX4_dayOfAge_18 (flX4_9 _ rfl) rfl rfl ?_
    refine pm_getf hG dX4_dayOfAge_21 (flX4_31 _ rfl) rfl rfl ?_
    refine pm_iconst (v := 0) hG dX4_dayOfAge_24 (by decide) ?_
    refine pm_iconst (v := 1) hG dX4_dayOfAge_25 (by decide) ?_
    refine pm_callV (As := [.int 0, .int 1]) (rest := []) hG hR dX4_dayOfAge_26 (lkX4_51 _ rfl) okV_X9_get rfl rfl (tb_get (d := 3) rfl rfl (pm_tw_of 20 14 (by decide) (by decide) (by decide))) rfl rfl hdd (Nat.le_refl _) (Nat.le_refl _) (by decide) (pm_ki (fun v3 σ' cnt' hq => ?_))
    obtain ⟨I3, A3, rfl, rfl, h3⟩ := hv_id (kp := kp) (I := I1) (A := A1) h1 hq.2
    refine pm_istoreXn (loc' := [some (.ref (B + 37)), some (.int v3), none, none, none, none, none]) hG dX4_dayOfAge_29 (by decide) (pm_c1b rfl) rfl ?_
    refine pm_iconst (v := (-1)) hG dX4_dayOfAge_30 (by decide) ?_
    refine pm_istoreXn (loc' := [some (.ref (B + 37)), some (.int v3), some (.int (-1)), none, none, none, none]) hG dX4_dayOfAge_31 (by decide) (pm_c1b rfl) rfl ?_
    refine pm_aloadn hG dX4_dayOfAge_32 rfl ?_
    refine pm_getf hG dX4_dayOfAge_33 (flX4_9 _ rfl) rfl rfl ?_
    refine pm_getf hG dX4_dayOfAge_36 (flX4_59 _ rfl) rfl rfl ?_
    refine pm_istoreXn (loc' := [some (.ref (B + 37)), some (.int v3), some (.int (-1)), some (.int (I3 102)), none, none, none]) hG dX4_dayOfAge_39 (by decide) (pm_c1b rfl) rfl ?_
    refine pm_aloadn hG dX4_dayOfAge_40 rfl ?_
    refine pm_getf hG dX4_dayOfAge_41 (flX4_9 _ rfl) rfl rfl ?_
    refine pm_getf hG dX4_dayOfAge_44 (flX4_59 _ rfl) rfl rfl ?_
    refine pm_istoreXi (loc' := [some (.ref (B + 37)), some (.int v3), some (.int (-1)), some (.int (I3 102)), some (.int (I3 102)), none, none]) hG dX4_dayOfAge_47 (by decide) (pm_c1b rfl) rfl ?_
    have loop49 : ∀ (m49 : Nat) (I4 : Nat → Int32) (A4 : Nat → Nat → Int32) (x4_2 x4_3 x4_4 : Int32), gq ε I4 → ((2000 : Int32).toInt + 1 - x4_4.toInt).toNat < m49 → pm_wp mX4_dayOfAge G B 49 [some (.ref (B + 37)), some (.int v3), some (.int x4_2), some (.int x4_3), some (.int x4_4), none, none] [] 0 0 cnt (pm_two (cl_L B kp I4 A4) ρ) := by
      intro m49
      induction m49 with
      | zero => intro I4 A4 x4_2 x4_3 x4_4 _  hm; exact absurd hm (Nat.not_lt_zero _)
      | succ m49 ih49 =>
        intro I4 A4 x4_2 x4_3 x4_4 h4  hm49
        refine pm_iloadi hG dX4_dayOfAge_49 rfl ?_
        refine pm_sipush (v := 2000) hG dX4_dayOfAge_51 (by decide) ?_
        refine pm_icmp_gt (tgt := 171) hG dX4_dayOfAge_54 rfl (fun c5 => ?_) (fun c5 => ?_)
        · refine pm_ldc hG dX4_dayOfAge_171 (ctX4_55 _ rfl) ?_
          exact pm_iret hG hF dX4_dayOfAge_173 rfl (Nat.le_refl _) (Nat.le_refl _) ⟨_, rfl, _, _, rfl, rfl, h4⟩
        · refine pm_iloadi hG dX4_dayOfAge_57 rfl ?_
          refine pm_iloadn hG dX4_dayOfAge_59 rfl ?_
          refine pm_icmp_ne (tgt := 67) hG dX4_dayOfAge_60 rfl (fun c6 => ?_) (fun c6 => ?_)
          · refine pm_iconst (v := 0) hG dX4_dayOfAge_67 (by decide) ?_
            refine pm_istoreXi (loc' := [some (.ref (B + 37)), some (.int v3), some (.int x4_2), some (.int x4_3), some (.int x4_4), some (.int 0), none]) hG dX4_dayOfAge_68 (by decide) (pm_c1b rfl) rfl ?_
            refine pm_iloadi hG dX4_dayOfAge_70 rfl ?_
            refine pm_if_eq (tgt := 104) hG dX4_dayOfAge_72 rfl (fun _ => ?_) (fun q => absurd q (by decide))
            refine pm_iloadi hG dX4_dayOfAge_104 rfl ?_
            refine pm_if_ne (tgt := 131) hG dX4_dayOfAge_106 rfl (fun q => absurd q (by decide)) (fun _ => ?_)
            refine pm_iloadi hG dX4_dayOfAge_109 rfl ?_
            refine pm_iloadn hG dX4_dayOfAge_111 rfl ?_
            refine pm_isub hG dX4_dayOfAge_112 ?_
            refine pm_sipush (v := 360) hG dX4_dayOfAge_113 (by decide) ?_
            refine pm_irem hG dX4_dayOfAge_116 (by decide) ?_
            refine pm_if_eq (tgt := 131) hG dX4_dayOfAge_117 rfl (fun c7 => ?_) (fun c7 => ?_)
            · refine pm_iconst (v := 1) hG dX4_dayOfAge_131 (by decide) ?_
              refine pm_goto (tgt := 136) hG dX4_dayOfAge_132 rfl ?_
              refine pm_istoreXi (loc' := [some (.ref (B + 37)), some (.int v3), some (.int x4_2), some (.int x4_3), some (.int x4_4), some (.int 0), some (.int 1)]) hG dX4_dayOfAge_136 (by decide) (pm_c1b rfl) rfl ?_
              refine pm_iloadi hG dX4_dayOfAge_138 rfl ?_
              refine pm_if_eq (tgt := 165) hG dX4_dayOfAge_140 rfl (fun q => absurd q (by decide)) (fun _ => ?_)
              refine pm_iloadn hG dX4_dayOfAge_143 rfl ?_
              refine pm_if_lt (tgt := 162) hG dX4_dayOfAge_144 rfl (fun c8 => ?_) (fun c8 => ?_)
              · refine pm_iloadi hG dX4_dayOfAge_162 rfl ?_
                exact pm_iret hG hF dX4_dayOfAge_164 rfl (Nat.le_refl _) (Nat.le_refl _) ⟨_, rfl, _, _, rfl, rfl, h4⟩
              · refine pm_aloadn hG dX4_dayOfAge_147 rfl ?_
                refine pm_getf hG dX4_dayOfAge_148 (flX4_15 _ rfl) rfl rfl ?_
                refine pm_iloadn hG dX4_dayOfAge_151 rfl ?_
                refine pm_iconst (v := 0) hG dX4_dayOfAge_152 (by decide) ?_
                refine pm_iconst (v := (-1)) hG dX4_dayOfAge_153 (by decide) ?_
                refine pm_iloadi hG dX4_dayOfAge_154 rfl ?_
                refine pm_callV (As := [.int x4_2, .int 0, .int (-1), .int x4_4]) (rest := []) hG hR dX4_dayOfAge_156 (lkX4_91 _ rfl) okV_X2_comesTo rfl rfl (g_X2_comesTo (d := 3) (by decide) h4) rfl rfl hdd (Nat.le_refl _) (Nat.le_refl _) (by decide) (pm_ki (fun v9 σ' cnt' hq => ?_))
                obtain ⟨I9, A9, rfl, rfl, h9⟩ := hq
                refine pm_if_eq (tgt := 165) hG dX4_dayOfAge_159 rfl (fun c10 => ?_) (fun c10 => ?_)
                · refine pm_iincX (v := x4_4 + 1) (loc' := [some (.ref (B + 37)), some (.int v3), some (.int x4_2), some (.int x4_3), some (.int (x4_4 + 1)), some (.int 0), some (.int 1)]) hG dX4_dayOfAge_165 rfl (by rfl) (by decide) (pm_c1b rfl) rfl ?_
                  refine pm_goto (tgt := 49) hG dX4_dayOfAge_168 rfl ?_
                  refine pm_fg 5 (loc' := [some (.ref (B + 37)), some (.int v3), some (.int x4_2), some (.int x4_3), some (.int (x4_4 + 1)), none, some (.int 1)]) rfl ?_
                  refine pm_fg 6 (loc' := [some (.ref (B + 37)), some (.int v3), some (.int x4_2), some (.int x4_3), some (.int (x4_4 + 1)), none, none]) rfl ?_
                  exact ih49 _ _ x4_2 x4_3 (x4_4 + 1) h9 (Nat.lt_of_lt_of_le (pm_mu2 c5 (by decide)) (Nat.le_of_lt_succ hm49))
                · refine pm_iloadi hG dX4_dayOfAge_162 rfl ?_
                  exact pm_iret hG hF dX4_dayOfAge_164 rfl (Nat.le_refl _) (Nat.le_refl _) ⟨_, rfl, _, _, rfl, rfl, h9⟩
            · refine pm_aloadn hG dX4_dayOfAge_120 rfl ?_
              refine pm_getf hG dX4_dayOfAge_121 (flX4_15 _ rfl) rfl rfl ?_
              refine pm_iloadn hG dX4_dayOfAge_124 rfl ?_
              refine pm_callV (As := [.int x4_2]) (rest := []) hG hR dX4_dayOfAge_125 (lkX4_88 _ rfl) okV_X2_namesDay rfl rfl (g_X2_namesDay (d := 3) (by decide) h4) rfl rfl hdd (Nat.le_refl _) (Nat.le_refl _) (by decide) (pm_ki (fun v11 σ' cnt' hq => ?_))
              obtain ⟨b11, I11, A11, rfl, rfl, h11⟩ := hq
              refine pm_if_eq (tgt := 135) hG dX4_dayOfAge_128 rfl (fun c12 => ?_) (fun c12 => ?_)
              · refine pm_iconst (v := 0) hG dX4_dayOfAge_135 (by decide) ?_
                refine pm_istoreXi (loc' := [some (.ref (B + 37)), some (.int v3), some (.int x4_2), some (.int x4_3), some (.int x4_4), some (.int 0), some (.int 0)]) hG dX4_dayOfAge_136 (by decide) (pm_c1b rfl) rfl ?_
                refine pm_iloadi hG dX4_dayOfAge_138 rfl ?_
                refine pm_if_eq (tgt := 165) hG dX4_dayOfAge_140 rfl (fun _ => ?_) (fun q => absurd q (by decide))
                refine pm_iincX (v := x4_4 + 1) (loc' := [some (.ref (B + 37)), some (.int v3), some (.int x4_2), some (.int x4_3), some (.int (x4_4 + 1)), some (.int 0), some (.int 0)]) hG dX4_dayOfAge_165 rfl (by rfl) (by decide) (pm_c1b rfl) rfl ?_
                refine pm_goto (tgt := 49) hG dX4_dayOfAge_168 rfl ?_
                refine pm_fg 5 (loc' := [some (.ref (B + 37)), some (.int v3), some (.int x4_2), some (.int x4_3), some (.int (x4_4 + 1)), none, some (.int 0)]) rfl ?_
                refine pm_fg 6 (loc' := [some (.ref (B + 37)), some (.int v3), some (.int x4_2), some (.int x4_3), some (.int (x4_4 + 1)), none, none]) rfl ?_
                exact ih49 _ _ x4_2 x4_3 (x4_4 + 1) h11 (Nat.lt_of_lt_of_le (pm_mu2 c5 (by decide)) (Nat.le_of_lt_succ hm49))
              · refine pm_iconst (v := 1) hG dX4_dayOfAge_131 (by decide) ?_
                refine pm_goto (tgt := 136) hG dX4_dayOfAge_132 rfl ?_
                refine pm_istoreXi (loc' := [some (.ref (B + 37)), some (.int v3), some (.int x4_2), some (.int x4_3), some (.int x4_4), some (.int 0), some (.int 1)]) hG dX4_dayOfAge_136 (by decide) (pm_c1b rfl) rfl ?_
                refine pm_iloadi hG dX4_dayOfAge_138 rfl ?_
                refine pm_if_eq (tgt := 165) hG dX4_dayOfAge_140 rfl (fun q => absurd q (by decide)) (fun _ => ?_)
                refine pm_iloadn hG dX4_dayOfAge_143 rfl ?_
                refine pm_if_lt (tgt := 162) hG dX4_dayOfAge_144 rfl (fun c13 => ?_) (fun c13 => ?_)
                · refine pm_iloadi hG dX4_dayOfAge_162 rfl ?_
                  exact pm_iret hG hF dX4_dayOfAge_164 rfl (Nat.le_refl _) (Nat.le_refl _) ⟨_, rfl, _, _, rfl, rfl, h11⟩
                · refine pm_aloadn hG dX4_dayOfAge_147 rfl ?_
                  refine pm_getf hG dX4_dayOfAge_148 (flX4_15 _ rfl) rfl rfl ?_
                  refine pm_iloadn hG dX4_dayOfAge_151 rfl ?_
                  refine pm_iconst (v := 0) hG dX4_dayOfAge_152 (by decide) ?_
                  refine pm_iconst (v := (-1)) hG dX4_dayOfAge_153 (by decide) ?_
                  refine pm_iloadi hG dX4_dayOfAge_154 rfl ?_
                  refine pm_callV (As := [.int x4_2, .int 0, .int (-1), .int x4_4]) (rest := []) hG hR dX4_dayOfAge_156 (lkX4_91 _ rfl) okV_X2_comesTo rfl rfl (g_X2_comesTo (d := 3) (by decide) h11) rfl rfl hdd (Nat.le_refl _) (Nat.le_refl _) (by decide) (pm_ki (fun v14 σ' cnt' hq => ?_))
                  obtain ⟨I14, A14, rfl, rfl, h14⟩ := hq
                  refine pm_if_eq (tgt := 165) hG dX4_dayOfAge_159 rfl (fun c15 => ?_) (fun c15 => ?_)
                  · refine pm_iincX (v := x4_4 + 1) (loc' := [some (.ref (B + 37)), some (.int v3), some (.int x4_2), some (.int x4_3), some (.int (x4_4 + 1)), some (.int 0), some (.int 1)]) hG dX4_dayOfAge_165 rfl (by rfl) (by decide) (pm_c1b rfl) rfl ?_
                    refine pm_goto (tgt := 49) hG dX4_dayOfAge_168 rfl ?_
                    refine pm_fg 5 (loc' := [some (.ref (B + 37)), some (.int v3), some (.int x4_2), some (.int x4_3), some (.int (x4_4 + 1)), none, some (.int 1)]) rfl ?_
                    refine pm_fg 6 (loc' := [some (.ref (B + 37)), some (.int v3), some (.int x4_2), some (.int x4_3), some (.int (x4_4 + 1)), none, none]) rfl ?_
                    exact ih49 _ _ x4_2 x4_3 (x4_4 + 1) h14 (Nat.lt_of_lt_of_le (pm_mu2 c5 (by decide)) (Nat.le_of_lt_succ hm49))
                  · refine pm_iloadi hG dX4_dayOfAge_162 rfl ?_
                    exact pm_iret hG hF dX4_dayOfAge_164 rfl (Nat.le_refl _) (Nat.le_refl _) ⟨_, rfl, _, _, rfl, rfl, h14⟩
          · refine pm_iconst (v := 1) hG dX4_dayOfAge_63 (by decide) ?_
            refine pm_goto (tgt := 68) hG dX4_dayOfAge_64 rfl ?_
            refine pm_istoreXi (loc' := [some (.ref (B + 37)), some (.int v3), some (.int x4_2), some (.int x4_3), some (.int x4_4), some (.int 1), none]) hG dX4_dayOfAge_68 (by decide) (pm_c1b rfl) rfl ?_
            refine pm_iloadi hG dX4_dayOfAge_70 rfl ?_
            refine pm_if_eq (tgt := 104) hG dX4_dayOfAge_72 rfl (fun q => absurd q (by decide)) (fun _ => ?_)
            refine pm_aloadn hG dX4_dayOfAge_75 rfl ?_
            refine pm_getf hG dX4_dayOfAge_76 (flX4_15 _ rfl) rfl rfl ?_
            refine pm_iconst (v := 3) hG dX4_dayOfAge_79 (by decide) ?_
            refine pm_iloadi hG dX4_dayOfAge_80 rfl ?_
            refine pm_aloadn hG dX4_dayOfAge_82 rfl ?_
            refine pm_getf hG dX4_dayOfAge_83 (flX4_9 _ rfl) rfl rfl ?_
            refine pm_getf hG dX4_dayOfAge_86 (flX4_59 _ rfl) rfl rfl ?_
            refine pm_callV (As := [.int 3, .int x4_4, .int (I4 102)]) (rest := []) hG hR dX4_dayOfAge_89 (lkX4_81 _ rfl) okV_X2_inForce rfl rfl (g_X2_inForce (d := 3) (by decide) h4) rfl rfl hdd (Nat.le_refl _) (Nat.le_refl _) (by decide) (pm_ki (fun v16 σ' cnt' hq => ?_))
            obtain ⟨I16, A16, rfl, rfl, h16⟩ := hq
            refine pm_istoreXn (loc' := [some (.ref (B + 37)), some (.int v3), some (.int v16), some (.int x4_3), some (.int x4_4), some (.int 1), none]) hG dX4_dayOfAge_92 (by decide) (pm_c1b rfl) rfl ?_
            refine pm_aloadn hG dX4_dayOfAge_93 rfl ?_
            refine pm_getf hG dX4_dayOfAge_94 (flX4_15 _ rfl) rfl rfl ?_
            refine pm_iconst (v := 3) hG dX4_dayOfAge_97 (by decide) ?_
            refine pm_iloadi hG dX4_dayOfAge_98 rfl ?_
            refine pm_callV (As := [.int 3, .int x4_4]) (rest := []) hG hR dX4_dayOfAge_100 (lkX4_85 _ rfl) okV_X2_nextBeginning rfl rfl (g_X2_nextBeginning (d := 3) (by decide) h16) rfl rfl hdd (Nat.le_refl _) (Nat.le_refl _) (by decide) (pm_ki (fun v17 σ' cnt' hq => ?_))
            obtain ⟨I17, A17, rfl, rfl, h17⟩ := hq
            refine pm_istoreXn (loc' := [some (.ref (B + 37)), some (.int v3), some (.int v16), some (.int v17), some (.int x4_4), some (.int 1), none]) hG dX4_dayOfAge_103 (by decide) (pm_c1b rfl) rfl ?_
            refine pm_iloadi hG dX4_dayOfAge_104 rfl ?_
            refine pm_if_ne (tgt := 131) hG dX4_dayOfAge_106 rfl (fun _ => ?_) (fun q => absurd q (by decide))
            refine pm_iconst (v := 1) hG dX4_dayOfAge_131 (by decide) ?_
            refine pm_goto (tgt := 136) hG dX4_dayOfAge_132 rfl ?_
            refine pm_istoreXi (loc' := [some (.ref (B + 37)), some (.int v3), some (.int v16), some (.int v17), some (.int x4_4), some (.int 1), some (.int 1)]) hG dX4_dayOfAge_136 (by decide) (pm_c1b rfl) rfl ?_
            refine pm_iloadi hG dX4_dayOfAge_138 rfl ?_
            refine pm_if_eq (tgt := 165) hG dX4_dayOfAge_140 rfl (fun q => absurd q (by decide)) (fun _ => ?_)
            refine pm_iloadn hG dX4_dayOfAge_143 rfl ?_
            refine pm_if_lt (tgt := 162) hG dX4_dayOfAge_144 rfl (fun c18 => ?_) (fun c18 => ?_)
            · refine pm_iloadi hG dX4_dayOfAge_162 rfl ?_
              exact pm_iret hG hF dX4_dayOfAge_164 rfl (Nat.le_refl _) (Nat.le_refl _) ⟨_, rfl, _, _, rfl, rfl, h17⟩
            · refine pm_aloadn hG dX4_dayOfAge_147 rfl ?_
              refine pm_getf hG dX4_dayOfAge_148 (flX4_15 _ rfl) rfl rfl ?_
              refine pm_iloadn hG dX4_dayOfAge_151 rfl ?_
              refine pm_iconst (v := 0) hG dX4_dayOfAge_152 (by decide) ?_
              refine pm_iconst (v := (-1)) hG dX4_dayOfAge_153 (by decide) ?_
              refine pm_iloadi hG dX4_dayOfAge_154 rfl ?_
              refine pm_callV (As := [.int v16, .int 0, .int (-1), .int x4_4]) (rest := []) hG hR dX4_dayOfAge_156 (lkX4_91 _ rfl) okV_X2_comesTo rfl rfl (g_X2_comesTo (d := 3) (by decide) h17) rfl rfl hdd (Nat.le_refl _) (Nat.le_refl _) (by decide) (pm_ki (fun v19 σ' cnt' hq => ?_))
              obtain ⟨I19, A19, rfl, rfl, h19⟩ := hq
              refine pm_if_eq (tgt := 165) hG dX4_dayOfAge_159 rfl (fun c20 => ?_) (fun c20 => ?_)
              · refine pm_iincX (v := x4_4 + 1) (loc' := [some (.ref (B + 37)), some (.int v3), some (.int v16), some (.int v17), some (.int (x4_4 + 1)), some (.int 1), some (.int 1)]) hG dX4_dayOfAge_165 rfl (by rfl) (by decide) (pm_c1b rfl) rfl ?_
                refine pm_goto (tgt := 49) hG dX4_dayOfAge_168 rfl ?_
                refine pm_fg 5 (loc' := [some (.ref (B + 37)), some (.int v3), some (.int v16), some (.int v17), some (.int (x4_4 + 1)), none, some (.int 1)]) rfl ?_
                refine pm_fg 6 (loc' := [some (.ref (B + 37)), some (.int v3), some (.int v16), some (.int v17), some (.int (x4_4 + 1)), none, none]) rfl ?_
                exact ih49 _ _ v16 v17 (x4_4 + 1) h19 (Nat.lt_of_lt_of_le (pm_mu2 c5 (by decide)) (Nat.le_of_lt_succ hm49))
              · refine pm_iloadi hG dX4_dayOfAge_162 rfl ?_
                exact pm_iret hG hF dX4_dayOfAge_164 rfl (Nat.le_refl _) (Nat.le_refl _) ⟨_, rfl, _, _, rfl, rfl, h19⟩
    exact loop49 _ _ _ (-1) (I3 102) (I3 102) h3 (Nat.lt_succ_self _)
  · refine pm_ldc hG dX4_dayOfAge_14 (ctX4_55 _ rfl) ?_
    exact pm_iret hG hF dX4_dayOfAge_16 rfl (Nat.le_refl _) (Nat.le_refl _) ⟨_, rfl, _, _, rfl, rfl, h1⟩

set_option maxRecDepth 100000 in
set_option maxHeartbeats 4000000 in
theorem g_X2_ruling {ε : Nat → Int32} {d B cnt : Nat} {kp : pm_KP} {ρ : pm_S} {I : Nat → Int32} {A : Nat → Nat → Int32} {za zb zc zd ze : Int32} (hdd : 4 ≤ d) (h : gq ε I) : pm_met mX2_ruling d 0 0 B [.ref (B + 26), .int za, .int zb, .int zc, .int zd, .int ze] cnt (pm_two (cl_L B kp I A) ρ) (pm_Qi (fun _ σ' cnt' => hvq ε B kp ρ cnt σ' cnt')) := by
  refine pm_enter 1 (by decide) (Nat.le_of_ble_eq_true rfl) rfl (fun G hG hR hF => ?_)
  refine pm_aloadn hG dX2_ruling_0 rfl ?_
  refine pm_iloadn hG dX2_ruling_1 rfl ?_
  refine pm_iloadn hG dX2_ruling_2 rfl ?_
  refine pm_iloadn hG dX2_ruling_3 rfl ?_
  refine pm_callV (As := [.int za, .int zb, .int zc]) (rest := []) hG hR dX2_ruling_4 (lkX2_79 _ rfl) okV_X2_inForce rfl rfl (g_X2_inForce (d := 3) (by decide) h) rfl rfl hdd (Nat.le_refl _) (Nat.le_refl _) (by decide) (pm_ki (fun v1 σ' cnt' hq => ?_))
  obtain ⟨I1, A1, rfl, rfl, h1⟩ := hq
  refine pm_istoreXi (loc' := [some (.ref (B + 26)), some (.int za), some (.int zb), some (.int zc), some (.int zd), some (.int ze), some (.int v1)]) hG dX2_ruling_7 (by decide) (pm_c1b rfl) rfl ?_
  refine pm_iloadi hG dX2_ruling_9 rfl ?_
  refine pm_if_ge (tgt := 18) hG dX2_ruling_11 rfl (fun c2 => ?_) (fun c2 => ?_)
  · refine pm_aloadn hG dX2_ruling_18 rfl ?_
    refine pm_iloadi hG dX2_ruling_19 rfl ?_
    refine pm_iloadi hG dX2_ruling_21 rfl ?_
    refine pm_iloadi hG dX2_ruling_23 rfl ?_
    refine pm_iloadn hG dX2_ruling_25 rfl ?_
    refine pm_callV (As := [.int v1, .int zd, .int ze, .int zb]) (rest := []) hG hR dX2_ruling_26 (lkX2_83 _ rfl) okV_X2_comesTo rfl rfl (g_X2_comesTo (d := 3) (by decide) h1) rfl rfl hdd (Nat.le_refl _) (Nat.le_refl _) (by decide) (pm_ki (fun v3 σ' cnt' hq => ?_))
    obtain ⟨I3, A3, rfl, rfl, h3⟩ := hq
    exact pm_iret hG hF dX2_ruling_29 rfl (Nat.le_refl _) (Nat.le_refl _) ⟨_, rfl, _, _, rfl, rfl, h3⟩
  · refine pm_iconst (v := 1) hG dX2_ruling_14 (by decide) ?_
    refine pm_goto (tgt := 29) hG dX2_ruling_15 rfl ?_
    exact pm_iret hG hF dX2_ruling_29 rfl (Nat.le_refl _) (Nat.le_refl _) ⟨_, rfl, _, _, rfl, rfl, h1⟩

set_option maxRecDepth 100000 in
set_option maxHeartbeats 4000000 in
theorem g_X4_fateOf {ε : Nat → Int32} {d B cnt : Nat} {kp : pm_KP} {ρ : pm_S} {I : Nat → Int32} {A : Nat → Nat → Int32} {za : Int32} (hdd : 5 ≤ d) (h : gq ε I) : pm_met mX4_fateOf d 0 0 B [.ref (B + 37), .int za] cnt (pm_two (cl_L B kp I A) ρ) (pm_Qi (fun _ σ' cnt' => hvq ε B kp ρ cnt σ' cnt')) := by
  refine pm_enter 3 (by decide) (Nat.le_of_ble_eq_true rfl) rfl (fun G hG hR hF => ?_)
  refine pm_aloadn hG dX4_fateOf_0 rfl ?_
  refine pm_callV (As := []) (rest := []) hG hR dX4_fateOf_1 (lkX4_95 _ rfl) okV_X4_dayOfAge rfl rfl (g_X4_dayOfAge (d := 4) (by decide) h) rfl rfl hdd (Nat.le_refl _) (Nat.le_refl _) (by decide) (pm_ki (fun v1 σ' cnt' hq => ?_))
  obtain ⟨I1, A1, rfl, rfl, h1⟩ := hq
  refine pm_istoreXn (loc' := [some (.ref (B + 37)), some (.int za), some (.int v1), none, none]) hG dX4_fateOf_4 (by decide) (pm_c1b rfl) rfl ?_
  refine pm_iloadn hG dX4_fateOf_5 rfl ?_
  refine pm_if_ge (tgt := 12) hG dX4_fateOf_6 rfl (fun c2 => ?_) (fun c2 => ?_)
  · refine pm_aloadn hG dX4_fateOf_12 rfl ?_
    refine pm_getf hG dX4_fateOf_13 (flX4_9 _ rfl) rfl rfl ?_
    refine pm_getf hG dX4_fateOf_16 (flX4_98 _ rfl) rfl rfl ?_
    refine pm_iloadn hG dX4_fateOf_19 rfl ?_
    refine pm_iconst (v := 2) hG dX4_fateOf_20 (by decide) ?_
    refine pm_callV (As := [.int za, .int 2]) (rest := []) hG hR dX4_fateOf_21 (lkX4_51 _ rfl) okV_X9_get rfl rfl (tb_get (d := 4) rfl rfl (pm_tw_of 20 6 (by decide) (by decide) (by decide))) rfl rfl hdd (Nat.le_refl _) (Nat.le_refl _) (by decide) (pm_ki (fun v3 σ' cnt' hq => ?_))
    obtain ⟨I3, A3, rfl, rfl, h3⟩ := hv_id (kp := kp) (I := I1) (A := A1) h1 hq.2
    refine pm_istoreXn (loc' := [some (.ref (B + 37)), some (.int za), some (.int v1), some (.int v3), none]) hG dX4_fateOf_24 (by decide) (pm_c1b rfl) rfl ?_
    refine pm_aloadn hG dX4_fateOf_25 rfl ?_
    refine pm_getf hG dX4_fateOf_26 (flX4_15 _ rfl) rfl rfl ?_
    refine pm_iconst (v := 4) hG dX4_fateOf_29 (by decide) ?_
    refine pm_iloadn hG dX4_fateOf_30 rfl ?_
    refine pm_aloadn hG dX4_fateOf_31 rfl ?_
    refine pm_getf hG dX4_fateOf_32 (flX4_9 _ rfl) rfl rfl ?_
    refine pm_getf hG dX4_fateOf_35 (flX4_59 _ rfl) rfl rfl ?_
    refine pm_iloadn hG dX4_fateOf_38 rfl ?_
    refine pm_iconst (v := (-1)) hG dX4_fateOf_39 (by decide) ?_
    refine pm_callV (As := [.int 4, .int v1, .int (I3 102), .int v3, .int (-1)]) (rest := []) hG hR dX4_fateOf_40 (lkX4_63 _ rfl) okV_X2_ruling rfl rfl (g_X2_ruling (d := 4) (by decide) h3) rfl rfl hdd (Nat.le_refl _) (Nat.le_refl _) (by decide) (pm_ki (fun v4 σ' cnt' hq => ?_))
    obtain ⟨I4, A4, rfl, rfl, h4⟩ := hq
    refine pm_istoreXi (loc' := [some (.ref (B + 37)), some (.int za), some (.int v1), some (.int v3), some (.int v4)]) hG dX4_fateOf_43 (by decide) (pm_c1b rfl) rfl ?_
    refine pm_iloadi hG dX4_fateOf_45 rfl ?_
    refine pm_if_eq (tgt := 56) hG dX4_fateOf_47 rfl (fun c5 => ?_) (fun c5 => ?_)
    · refine pm_iloadi hG dX4_fateOf_56 rfl ?_
      refine pm_goto (tgt := 62) hG dX4_fateOf_58 rfl ?_
      exact pm_iret hG hF dX4_fateOf_62 rfl (Nat.le_refl _) (Nat.le_refl _) ⟨_, rfl, _, _, rfl, rfl, h4⟩
    · refine pm_iloadi hG dX4_fateOf_50 rfl ?_
      refine pm_iconst (v := 1) hG dX4_fateOf_52 (by decide) ?_
      refine pm_icmp_ne (tgt := 61) hG dX4_fateOf_53 rfl (fun c6 => ?_) (fun c6 => ?_)
      · refine pm_iconst (v := 2) hG dX4_fateOf_61 (by decide) ?_
        exact pm_iret hG hF dX4_fateOf_62 rfl (Nat.le_refl _) (Nat.le_refl _) ⟨_, rfl, _, _, rfl, rfl, h4⟩
      · refine pm_iloadi hG dX4_fateOf_56 rfl ?_
        refine pm_goto (tgt := 62) hG dX4_fateOf_58 rfl ?_
        exact pm_iret hG hF dX4_fateOf_62 rfl (Nat.le_refl _) (Nat.le_refl _) ⟨_, rfl, _, _, rfl, rfl, h4⟩
  · refine pm_ldc hG dX4_fateOf_9 (ctX4_55 _ rfl) ?_
    exact pm_iret hG hF dX4_fateOf_11 rfl (Nat.le_refl _) (Nat.le_refl _) ⟨_, rfl, _, _, rfl, rfl, h1⟩

set_option maxRecDepth 100000 in
set_option maxHeartbeats 4000000 in
theorem g_X11_after {ε : Nat → Int32} {d B cnt : Nat} {kp : pm_KP} {ρ : pm_S} {I : Nat → Int32} {A : Nat → Nat → Int32} {za : Int32} (hdd : 6 ≤ d) (h : gq ε I) : pm_met mX11_after d 0 0 B [.ref (B + 0), .int za] cnt (pm_two (cl_L B kp I A) ρ) (pm_Qi (fun _ σ' cnt' => hvq ε B kp ρ cnt σ' cnt')) := by
  refine pm_enter 0 (by decide) (Nat.le_of_ble_eq_true rfl) rfl (fun G hG hR hF => ?_)
  refine pm_aloadn hG dX11_after_0 rfl ?_
  refine pm_aloadn hG dX11_after_1 rfl ?_
  refine pm_getf hG dX11_after_2 (flX11_12 _ rfl) rfl rfl ?_
  refine pm_getf hG dX11_after_5 (flX11_161 _ rfl) rfl rfl ?_
  refine pm_iloadn hG dX11_after_8 rfl ?_
  refine pm_callV (As := [.int za]) (rest := [.ref (B + 0)]) hG hR dX11_after_9 (lkX11_101 _ rfl) okV_X9_has rfl rfl (tb_has (d := 5) rfl) rfl rfl hdd (Nat.le_refl _) (Nat.le_refl _) (by first | decide | exact Nat.le_of_ble_eq_true rfl) (pm_ki (fun v1 σ' cnt' hq => ?_))
  have b1 := pm_b01 hq.1
  obtain ⟨I1, A1, rfl, rfl, h1⟩ := hv_id (kp := kp) (I := I) (A := A) h hq.2
  refine pm_if_eq (tgt := 26) hG dX11_after_12 rfl (fun c2 => ?_) (fun c2 => ?_)
  · refine pm_ldc hG dX11_after_26 (ctX11_109 _ rfl) ?_
    refine pm_callV (As := [.int (-1000001)]) (rest := []) hG hR dX11_after_28 (lkX11_97 _ rfl) okV_X11_told rfl rfl (sx_told (d := 5) (by decide) rfl rfl) rfl rfl hdd (Nat.le_refl _) (Nat.le_refl _) (by decide) (pm_ki (fun v3 σ' cnt' hq => ?_))
    obtain ⟨-, ⟨g3, hg3⟩, hc3⟩ := hq
    obtain ⟨I3, A3, rfl, rfl, h3⟩ := hv_a53 (kp := kp) (I := I1) (A := A1) h1 ⟨hg3, hc3⟩
    exact pm_iret hG hF dX11_after_31 rfl (Nat.le_refl _) (Nat.le_refl _) ⟨_, rfl, _, _, rfl, rfl, h3⟩
  · refine pm_aloadn hG dX11_after_15 rfl ?_
    refine pm_getf hG dX11_after_16 (flX11_46 _ rfl) rfl rfl ?_
    refine pm_iloadn hG dX11_after_19 rfl ?_
    refine pm_callV (As := [.int za]) (rest := [.ref (B + 0)]) hG hR dX11_after_20 (lkX11_332 _ rfl) okV_X4_fateOf rfl rfl (g_X4_fateOf (d := 5) (by decide) h1) rfl rfl hdd (Nat.le_refl _) (Nat.le_refl _) (by first | decide | exact Nat.le_of_ble_eq_true rfl) (pm_ki (fun v4 σ' cnt' hq => ?_))
    obtain ⟨I4, A4, rfl, rfl, h4⟩ := hq
    refine pm_goto (tgt := 28) hG dX11_after_23 rfl ?_
    refine pm_callV (As := [.int v4]) (rest := []) hG hR dX11_after_28 (lkX11_97 _ rfl) okV_X11_told rfl rfl (sx_told (d := 5) (by decide) rfl rfl) rfl rfl hdd (Nat.le_refl _) (Nat.le_refl _) (by decide) (pm_ki (fun v5 σ' cnt' hq => ?_))
    obtain ⟨-, ⟨g5, hg5⟩, hc5⟩ := hq
    obtain ⟨I5, A5, rfl, rfl, h5⟩ := hv_a53 (kp := kp) (I := I4) (A := A4) h4 ⟨hg5, hc5⟩
    exact pm_iret hG hF dX11_after_31 rfl (Nat.le_refl _) (Nat.le_refl _) ⟨_, rfl, _, _, rfl, rfl, h5⟩

set_option maxRecDepth 100000 in
set_option maxHeartbeats 4000000 in
theorem g_X11_age {ε : Nat → Int32} {d B cnt : Nat} {kp : pm_KP} {ρ : pm_S} {I : Nat → Int32} {A : Nat → Nat → Int32} (hdd : 5 ≤ d) (h : gq ε I) : pm_met mX11_age d 0 0 B [.ref (B + 0)] cnt (pm_two (cl_L B kp I A) ρ) (pm_Qi (fun _ σ' cnt' => hvq ε B kp ρ cnt σ' cnt')) := by
  refine pm_enter 0 (by decide) (Nat.le_of_ble_eq_true rfl) rfl (fun G hG hR hF => ?_)
  refine pm_aloadn hG dX11_age_0 rfl ?_
  refine pm_aloadn hG dX11_age_1 rfl ?_
  refine pm_getf hG dX11_age_2 (flX11_46 _ rfl) rfl rfl ?_
  refine pm_callV (As := []) (rest := [.ref (B + 0)]) hG hR dX11_age_5 (lkX11_329 _ rfl) okV_X4_dayOfAge rfl rfl (g_X4_dayOfAge (d := 4) (by decide) h) rfl rfl hdd (Nat.le_refl _) (Nat.le_refl _) (by first | decide | exact Nat.le_of_ble_eq_true rfl) (pm_ki (fun v1 σ' cnt' hq => ?_))
  obtain ⟨I1, A1, rfl, rfl, h1⟩ := hq
  refine pm_callV (As := [.int v1]) (rest := []) hG hR dX11_age_8 (lkX11_97 _ rfl) okV_X11_told rfl rfl (sx_told (d := 4) (by decide) rfl rfl) rfl rfl hdd (Nat.le_refl _) (Nat.le_refl _) (by decide) (pm_ki (fun v2 σ' cnt' hq => ?_))
  obtain ⟨-, ⟨g2, hg2⟩, hc2⟩ := hq
  obtain ⟨I2, A2, rfl, rfl, h2⟩ := hv_a53 (kp := kp) (I := I1) (A := A1) h1 ⟨hg2, hc2⟩
  exact pm_iret hG hF dX11_age_11 rfl (Nat.le_refl _) (Nat.le_refl _) ⟨_, rfl, _, _, rfl, rfl, h2⟩

set_option maxRecDepth 100000 in
set_option maxHeartbeats 4000000 in
theorem g_X11_as {ε : Nat → Int32} {d B cnt : Nat} {kp : pm_KP} {ρ : pm_S} {I : Nat → Int32} {A : Nat → Nat → Int32} {za zb : Int32} (hdd : 2 ≤ d) (h : gq ε I) : pm_met mX11_as d 0 0 B [.ref (B + 0), .int za, .int zb] cnt (pm_two (cl_L B kp I A) ρ) (pm_Qi (fun _ σ' cnt' => hvq ε B kp ρ cnt σ' cnt')) := by
  refine pm_enter 0 (by decide) (Nat.le_of_ble_eq_true rfl) rfl (fun G hG hR hF => ?_)
  refine pm_aloadn hG dX11_as_0 rfl ?_
  refine pm_getf hG dX11_as_1 (flX11_12 _ rfl) rfl rfl ?_
  refine pm_getf hG dX11_as_4 (flX11_161 _ rfl) rfl rfl ?_
  refine pm_iloadn hG dX11_as_7 rfl ?_
  refine pm_callV (As := [.int za]) (rest := []) hG hR dX11_as_8 (lkX11_101 _ rfl) okV_X9_has rfl rfl (tb_has (d := 1) rfl) rfl rfl hdd (Nat.le_refl _) (Nat.le_refl _) (by decide) (pm_ki (fun v1 σ' cnt' hq => ?_))
  have b1 := pm_b01 hq.1
  obtain ⟨I1, A1, rfl, rfl, h1⟩ := hv_id (kp := kp) (I := I) (A := A) h hq.2
  refine pm_if_eq (tgt := 23) hG dX11_as_11 rfl (fun c2 => ?_) (fun c2 => ?_)
  · refine pm_aloadn hG dX11_as_23 rfl ?_
    refine pm_ldc hG dX11_as_24 (ctX11_109 _ rfl) ?_
    refine pm_callV (As := [.int (-1000001)]) (rest := []) hG hR dX11_as_26 (lkX11_97 _ rfl) okV_X11_told rfl rfl (sx_told (d := 1) (by decide) rfl rfl) rfl rfl hdd (Nat.le_refl _) (Nat.le_refl _) (by decide) (pm_ki (fun v3 σ' cnt' hq => ?_))
    obtain ⟨-, ⟨g3, hg3⟩, hc3⟩ := hq
    obtain ⟨I3, A3, rfl, rfl, h3⟩ := hv_a53 (kp := kp) (I := I1) (A := A1) h1 ⟨hg3, hc3⟩
    exact pm_iret hG hF dX11_as_29 rfl (Nat.le_refl _) (Nat.le_refl _) ⟨_, rfl, _, _, rfl, rfl, h3⟩
  · refine pm_iloadn hG dX11_as_14 rfl ?_
    refine pm_iconst (v := 0) hG dX11_as_15 (by decide) ?_
    refine pm_iconst (v := 5) hG dX11_as_16 (by decide) ?_
    refine pm_callS (As := [.int zb, .int 0, .int 5]) (rest := []) hG hR dX11_as_17 (lkX11_105 _ rfl) okS_X11_isOutside (sx_isOutside (d := 1)) rfl rfl hdd (Nat.le_refl _) (Nat.le_refl _) (by decide) (pm_ki (fun v4 σ' cnt' hq => ?_))
    have o4 := hq.1
    have b4 := pm_b10 hq.1
    obtain ⟨I4, A4, rfl, rfl, h4⟩ := hv_id (kp := kp) (I := I1) (A := A1) h1 hq.2
    refine pm_if_eq (tgt := 30) hG dX11_as_20 rfl (fun c5 => ?_) (fun c5 => ?_)
    · refine pm_aloadn hG dX11_as_30 rfl ?_
      refine pm_aloadn hG dX11_as_31 rfl ?_
      refine pm_getf hG dX11_as_32 (flX11_12 _ rfl) rfl rfl ?_
      refine pm_iloadn hG dX11_as_35 rfl ?_
      refine pm_iloadn hG dX11_as_36 rfl ?_
      refine pm_callV (As := [.int za, .int zb]) (rest := [.ref (B + 0)]) hG hR dX11_as_37 (lkX11_180 _ rfl) okV_X7_isOfKind rfl rfl (g_X7_isOfKind (d := 1) (by decide) h4) rfl rfl hdd (Nat.le_refl _) (Nat.le_refl _) (by first | decide | exact Nat.le_of_ble_eq_true rfl) (pm_ki (fun v6 σ' cnt' hq => ?_))
      obtain ⟨b6, I6, A6, rfl, rfl, h6⟩ := hq
      refine pm_if_eq (tgt := 58) hG dX11_as_40 rfl (fun c7 => ?_) (fun c7 => ?_)
      · refine pm_ldc hG dX11_as_58 (ctX11_184 _ rfl) ?_
        refine pm_callV (As := [.int (-1000005)]) (rest := []) hG hR dX11_as_60 (lkX11_97 _ rfl) okV_X11_told rfl rfl (sx_told (d := 1) (by decide) rfl rfl) rfl rfl hdd (Nat.le_refl _) (Nat.le_refl _) (by decide) (pm_ki (fun v8 σ' cnt' hq => ?_))
        obtain ⟨-, ⟨g8, hg8⟩, hc8⟩ := hq
        obtain ⟨I8, A8, rfl, rfl, h8⟩ := hv_a53 (kp := kp) (I := I6) (A := A6) h6 ⟨hg8, hc8⟩
        exact pm_iret hG hF dX11_as_63 rfl (Nat.le_refl _) (Nat.le_refl _) ⟨_, rfl, _, _, rfl, rfl, h8⟩
      · refine pm_aloadn hG dX11_as_43 rfl ?_
        refine pm_getf hG dX11_as_44 (flX11_12 _ rfl) rfl rfl ?_
        refine pm_getf hG dX11_as_47 (flX11_161 _ rfl) rfl rfl ?_
        refine pm_iloadn hG dX11_as_50 rfl ?_
        refine pm_iconst (v := 1) hG dX11_as_51 (by decide) ?_
        refine pm_callV (As := [.int za, .int 1]) (rest := [.ref (B + 0)]) hG hR dX11_as_52 (lkX11_152 _ rfl) okV_X9_get rfl rfl (tb_get (d := 1) rfl rfl (pm_tw_of 20 6 (by decide) (by decide) (by decide))) rfl rfl hdd (Nat.le_refl _) (Nat.le_refl _) (by first | decide | exact Nat.le_of_ble_eq_true rfl) (pm_ki (fun v9 σ' cnt' hq => ?_))
        obtain ⟨I9, A9, rfl, rfl, h9⟩ := hv_id (kp := kp) (I := I6) (A := A6) h6 hq.2
        refine pm_goto (tgt := 60) hG dX11_as_55 rfl ?_
        refine pm_callV (As := [.int v9]) (rest := []) hG hR dX11_as_60 (lkX11_97 _ rfl) okV_X11_told rfl rfl (sx_told (d := 1) (by decide) rfl rfl) rfl rfl hdd (Nat.le_refl _) (Nat.le_refl _) (by decide) (pm_ki (fun v10 σ' cnt' hq => ?_))
        obtain ⟨-, ⟨g10, hg10⟩, hc10⟩ := hq
        obtain ⟨I10, A10, rfl, rfl, h10⟩ := hv_a53 (kp := kp) (I := I9) (A := A9) h9 ⟨hg10, hc10⟩
        exact pm_iret hG hF dX11_as_63 rfl (Nat.le_refl _) (Nat.le_refl _) ⟨_, rfl, _, _, rfl, rfl, h10⟩
    · refine pm_aloadn hG dX11_as_23 rfl ?_
      refine pm_ldc hG dX11_as_24 (ctX11_109 _ rfl) ?_
      refine pm_callV (As := [.int (-1000001)]) (rest := []) hG hR dX11_as_26 (lkX11_97 _ rfl) okV_X11_told rfl rfl (sx_told (d := 1) (by decide) rfl rfl) rfl rfl hdd (Nat.le_refl _) (Nat.le_refl _) (by decide) (pm_ki (fun v11 σ' cnt' hq => ?_))
      obtain ⟨-, ⟨g11, hg11⟩, hc11⟩ := hq
      obtain ⟨I11, A11, rfl, rfl, h11⟩ := hv_a53 (kp := kp) (I := I4) (A := A4) h4 ⟨hg11, hc11⟩
      exact pm_iret hG hF dX11_as_29 rfl (Nat.le_refl _) (Nat.le_refl _) ⟨_, rfl, _, _, rfl, rfl, h11⟩

set_option maxRecDepth 100000 in
set_option maxHeartbeats 4000000 in
theorem g_X11_breaks {ε : Nat → Int32} {d B cnt : Nat} {kp : pm_KP} {ρ : pm_S} {I : Nat → Int32} {A : Nat → Nat → Int32} {za : Int32} (hdd : 2 ≤ d) (h : gq ε I) : pm_met mX11_breaks d 0 0 B [.ref (B + 0), .int za] cnt (pm_two (cl_L B kp I A) ρ) (pm_Qi (fun _ σ' cnt' => hvq ε B kp ρ cnt σ' cnt')) := by
  refine pm_enter 0 (by decide) (Nat.le_of_ble_eq_true rfl) rfl (fun G hG hR hF => ?_)
  refine pm_aloadn hG dX11_breaks_0 rfl ?_
  refine pm_getf hG dX11_breaks_1 (flX11_12 _ rfl) rfl rfl ?_
  refine pm_getf hG dX11_breaks_4 (flX11_277 _ rfl) rfl rfl ?_
  refine pm_iloadn hG dX11_breaks_7 rfl ?_
  refine pm_callV (As := [.int za]) (rest := []) hG hR dX11_breaks_8 (lkX11_101 _ rfl) okV_X9_has rfl rfl (tb_has (d := 1) rfl) rfl rfl hdd (Nat.le_refl _) (Nat.le_refl _) (by decide) (pm_ki (fun v1 σ' cnt' hq => ?_))
  have b1 := pm_b01 hq.1
  obtain ⟨I1, A1, rfl, rfl, h1⟩ := hv_id (kp := kp) (I := I) (A := A) h hq.2
  refine pm_if_ne (tgt := 21) hG dX11_breaks_11 rfl (fun c2 => ?_) (fun c2 => ?_)
  · refine pm_aloadn hG dX11_breaks_21 rfl ?_
    refine pm_getf hG dX11_breaks_22 (flX11_30 _ rfl) rfl rfl ?_
    refine pm_iloadn hG dX11_breaks_25 rfl ?_
    refine pm_callV (As := [.int za]) (rest := []) hG hR dX11_breaks_26 (lkX11_284 _ rfl) okV_X0_stands rfl rfl (g_X0_stands (d := 1) (by decide) h1) rfl rfl hdd (Nat.le_refl _) (Nat.le_refl _) (by decide) (pm_ki (fun v3 σ' cnt' hq => ?_))
    obtain ⟨b3, I3, A3, rfl, rfl, h3⟩ := hq
    refine pm_if_ne (tgt := 39) hG dX11_breaks_29 rfl (fun c4 => ?_) (fun c4 => ?_)
    · refine pm_aloadn hG dX11_breaks_39 rfl ?_
      refine pm_getf hG dX11_breaks_40 (flX11_12 _ rfl) rfl rfl ?_
      refine pm_getf hG dX11_breaks_43 (flX11_277 _ rfl) rfl rfl ?_
      refine pm_iloadn hG dX11_breaks_46 rfl ?_
      refine pm_iconst (v := 4) hG dX11_breaks_47 (by decide) ?_
      refine pm_iconst (v := 2) hG dX11_breaks_48 (by decide) ?_
      refine pm_callV (As := [.int za, .int 4, .int 2]) (rest := []) hG hR dX11_breaks_49 (lkX11_170 _ rfl) okV_X9_set rfl rfl (tb_set (d := 1) rfl rfl (pm_tw_of 30 5 (by decide) (by decide) (by decide)) (by decide)) rfl rfl hdd (Nat.le_refl _) (Nat.le_refl _) (by decide) (pm_kv (fun σ' cnt' hq => ?_))
      obtain ⟨I5, A5, rfl, rfl, h5⟩ := hv_a19 (kp := kp) (I := I3) (A := A3) h3 hq
      refine pm_iconst (v := 1) hG dX11_breaks_52 (by decide) ?_
      exact pm_iret hG hF dX11_breaks_53 rfl (Nat.le_refl _) (Nat.le_refl _) ⟨_, rfl, _, _, rfl, rfl, h5⟩
    · refine pm_aloadn hG dX11_breaks_32 rfl ?_
      refine pm_ldc hG dX11_breaks_33 (ctX11_138 _ rfl) ?_
      refine pm_callV (As := [.int (-1000003)]) (rest := []) hG hR dX11_breaks_35 (lkX11_97 _ rfl) okV_X11_told rfl rfl (sx_told (d := 1) (by decide) rfl rfl) rfl rfl hdd (Nat.le_refl _) (Nat.le_refl _) (by decide) (pm_ki (fun v6 σ' cnt' hq => ?_))
      obtain ⟨-, ⟨g6, hg6⟩, hc6⟩ := hq
      obtain ⟨I6, A6, rfl, rfl, h6⟩ := hv_a53 (kp := kp) (I := I3) (A := A3) h3 ⟨hg6, hc6⟩
      exact pm_iret hG hF dX11_breaks_38 rfl (Nat.le_refl _) (Nat.le_refl _) ⟨_, rfl, _, _, rfl, rfl, h6⟩
  · refine pm_aloadn hG dX11_breaks_14 rfl ?_
    refine pm_ldc hG dX11_breaks_15 (ctX11_109 _ rfl) ?_
    refine pm_callV (As := [.int (-1000001)]) (rest := []) hG hR dX11_breaks_17 (lkX11_97 _ rfl) okV_X11_told rfl rfl (sx_told (d := 1) (by decide) rfl rfl) rfl rfl hdd (Nat.le_refl _) (Nat.le_refl _) (by decide) (pm_ki (fun v7 σ' cnt' hq => ?_))
    obtain ⟨-, ⟨g7, hg7⟩, hc7⟩ := hq
    obtain ⟨I7, A7, rfl, rfl, h7⟩ := hv_a53 (kp := kp) (I := I1) (A := A1) h1 ⟨hg7, hc7⟩
    exact pm_iret hG hF dX11_breaks_20 rfl (Nat.le_refl _) (Nat.le_refl _) ⟨_, rfl, _, _, rfl, rfl, h7⟩

set_option maxRecDepth 100000 in
set_option maxHeartbeats 4000000 in
theorem g_X11_buying {ε : Nat → Int32} {d B cnt : Nat} {kp : pm_KP} {ρ : pm_S} {I : Nat → Int32} {A : Nat → Nat → Int32} {za zb : Int32} (hdd : 13 ≤ d) (h : gq ε I) : pm_met mX11_buying d 0 0 B [.ref (B + 0), .int za, .int zb] cnt (pm_two (cl_L B kp I A) ρ) (pm_Qi (fun _ σ' cnt' => hvq ε B kp ρ cnt σ' cnt')) := by
  refine pm_enter 0 (by decide) (Nat.le_of_ble_eq_true rfl) rfl (fun G hG hR hF => ?_)
  refine pm_iloadn hG dX11_buying_0 rfl ?_
  refine pm_iconst (v := 0) hG dX11_buying_1 (by decide) ?_
  refine pm_iconst (v := 5) hG dX11_buying_2 (by decide) ?_
  refine pm_callS (As := [.int za, .int 0, .int 5]) (rest := []) hG hR dX11_buying_3 (lkX11_105 _ rfl) okS_X11_isOutside (sx_isOutside (d := 12)) rfl rfl hdd (Nat.le_refl _) (Nat.le_refl _) (by decide) (pm_ki (fun v1 σ' cnt' hq => ?_))
  have o1 := hq.1
  have b1 := pm_b10 hq.1
  obtain ⟨I1, A1, rfl, rfl, h1⟩ := hv_id (kp := kp) (I := I) (A := A) h hq.2
  refine pm_if_ne (tgt := 18) hG dX11_buying_6 rfl (fun c2 => ?_) (fun c2 => ?_)
  · refine pm_aloadn hG dX11_buying_18 rfl ?_
    refine pm_ldc hG dX11_buying_19 (ctX11_109 _ rfl) ?_
    refine pm_callV (As := [.int (-1000001)]) (rest := []) hG hR dX11_buying_21 (lkX11_97 _ rfl) okV_X11_told rfl rfl (sx_told (d := 12) (by decide) rfl rfl) rfl rfl hdd (Nat.le_refl _) (Nat.le_refl _) (by decide) (pm_ki (fun v3 σ' cnt' hq => ?_))
    obtain ⟨-, ⟨g3, hg3⟩, hc3⟩ := hq
    obtain ⟨I3, A3, rfl, rfl, h3⟩ := hv_a53 (kp := kp) (I := I1) (A := A1) h1 ⟨hg3, hc3⟩
    exact pm_iret hG hF dX11_buying_24 rfl (Nat.le_refl _) (Nat.le_refl _) ⟨_, rfl, _, _, rfl, rfl, h3⟩
  · refine pm_iloadn hG dX11_buying_9 rfl ?_
    refine pm_iconst (v := 0) hG dX11_buying_10 (by decide) ?_
    refine pm_iconst (v := 1) hG dX11_buying_11 (by decide) ?_
    refine pm_callS (As := [.int zb, .int 0, .int 1]) (rest := []) hG hR dX11_buying_12 (lkX11_105 _ rfl) okS_X11_isOutside (sx_isOutside (d := 12)) rfl rfl hdd (Nat.le_refl _) (Nat.le_refl _) (by decide) (pm_ki (fun v4 σ' cnt' hq => ?_))
    have o4 := hq.1
    have b4 := pm_b10 hq.1
    obtain ⟨I4, A4, rfl, rfl, h4⟩ := hv_id (kp := kp) (I := I1) (A := A1) h1 hq.2
    refine pm_if_eq (tgt := 25) hG dX11_buying_15 rfl (fun c5 => ?_) (fun c5 => ?_)
    · refine pm_aloadn hG dX11_buying_25 rfl ?_
      refine pm_getf hG dX11_buying_26 (flX11_30 _ rfl) rfl rfl ?_
      refine pm_iloadn hG dX11_buying_29 rfl ?_
      refine pm_callV (As := [.int za]) (rest := []) hG hR dX11_buying_30 (lkX11_302 _ rfl) okV_X0_findCheapest rfl rfl (g_X0_findCheapest (d := 12) (by decide) h4) rfl rfl hdd (Nat.le_refl _) (Nat.le_refl _) (by decide) (pm_ki (fun v6 σ' cnt' hq => ?_))
      obtain ⟨b6, I6, A6, rfl, rfl, h6⟩ := hq
      refine pm_if_ne (tgt := 43) hG dX11_buying_33 rfl (fun c7 => ?_) (fun c7 => ?_)
      · refine pm_iloadn hG dX11_buying_43 rfl ?_
        refine pm_if_ne (tgt := 57) hG dX11_buying_44 rfl (fun c8 => ?_) (fun c8 => ?_)
        · refine pm_aloadn hG dX11_buying_57 rfl ?_
          refine pm_getf hG dX11_buying_58 (flX11_30 _ rfl) rfl rfl ?_
          refine pm_getf hG dX11_buying_61 (flX11_308 _ rfl) rfl rfl ?_
          exact pm_iret hG hF dX11_buying_64 rfl (Nat.le_refl _) (Nat.le_refl _) ⟨_, rfl, _, _, rfl, rfl, h6⟩
        · refine pm_aloadn hG dX11_buying_47 rfl ?_
          refine pm_getf hG dX11_buying_48 (flX11_30 _ rfl) rfl rfl ?_
          refine pm_getf hG dX11_buying_51 (flX11_305 _ rfl) rfl rfl ?_
          refine pm_goto (tgt := 64) hG dX11_buying_54 rfl ?_
          exact pm_iret hG hF dX11_buying_64 rfl (Nat.le_refl _) (Nat.le_refl _) ⟨_, rfl, _, _, rfl, rfl, h6⟩
      · refine pm_aloadn hG dX11_buying_36 rfl ?_
        refine pm_ldc hG dX11_buying_37 (ctX11_223 _ rfl) ?_
        refine pm_callV (As := [.int (-1000002)]) (rest := []) hG hR dX11_buying_39 (lkX11_97 _ rfl) okV_X11_told rfl rfl (sx_told (d := 12) (by decide) rfl rfl) rfl rfl hdd (Nat.le_refl _) (Nat.le_refl _) (by decide) (pm_ki (fun v9 σ' cnt' hq => ?_))
        obtain ⟨-, ⟨g9, hg9⟩, hc9⟩ := hq
        obtain ⟨I9, A9, rfl, rfl, h9⟩ := hv_a53 (kp := kp) (I := I6) (A := A6) h6 ⟨hg9, hc9⟩
        exact pm_iret hG hF dX11_buying_42 rfl (Nat.le_refl _) (Nat.le_refl _) ⟨_, rfl, _, _, rfl, rfl, h9⟩
    · refine pm_aloadn hG dX11_buying_18 rfl ?_
      refine pm_ldc hG dX11_buying_19 (ctX11_109 _ rfl) ?_
      refine pm_callV (As := [.int (-1000001)]) (rest := []) hG hR dX11_buying_21 (lkX11_97 _ rfl) okV_X11_told rfl rfl (sx_told (d := 12) (by decide) rfl rfl) rfl rfl hdd (Nat.le_refl _) (Nat.le_refl _) (by decide) (pm_ki (fun v10 σ' cnt' hq => ?_))
      obtain ⟨-, ⟨g10, hg10⟩, hc10⟩ := hq
      obtain ⟨I10, A10, rfl, rfl, h10⟩ := hv_a53 (kp := kp) (I := I4) (A := A4) h4 ⟨hg10, hc10⟩
      exact pm_iret hG hF dX11_buying_24 rfl (Nat.le_refl _) (Nat.le_refl _) ⟨_, rfl, _, _, rfl, rfl, h10⟩

set_option maxRecDepth 100000 in
set_option maxHeartbeats 4000000 in
theorem g_X11_cause {ε : Nat → Int32} {d B cnt : Nat} {kp : pm_KP} {ρ : pm_S} {I : Nat → Int32} {A : Nat → Nat → Int32} {za zb : Int32} (hdd : 6 ≤ d) (h : gq ε I) : pm_met mX11_cause d 0 0 B [.ref (B + 0), .int za, .int zb] cnt (pm_two (cl_L B kp I A) ρ) (pm_Qi (fun _ σ' cnt' => hvq ε B kp ρ cnt σ' cnt')) := by
  refine pm_enter 0 (by decide) (Nat.le_of_ble_eq_true rfl) rfl (fun G hG hR hF => ?_)
  refine pm_iloadn hG dX11_cause_0 rfl ?_
  refine pm_iconst (v := 0) hG dX11_cause_1 (by decide) ?_
  refine pm_iconst (v := 5) hG dX11_cause_2 (by decide) ?_
  refine pm_callS (As := [.int za, .int 0, .int 5]) (rest := []) hG hR dX11_cause_3 (lkX11_105 _ rfl) okS_X11_isOutside (sx_isOutside (d := 5)) rfl rfl hdd (Nat.le_refl _) (Nat.le_refl _) (by decide) (pm_ki (fun v1 σ' cnt' hq => ?_))
  have o1 := hq.1
  have b1 := pm_b10 hq.1
  obtain ⟨I1, A1, rfl, rfl, h1⟩ := hv_id (kp := kp) (I := I) (A := A) h hq.2
  refine pm_if_ne (tgt := 18) hG dX11_cause_6 rfl (fun c2 => ?_) (fun c2 => ?_)
  · refine pm_aloadn hG dX11_cause_18 rfl ?_
    refine pm_ldc hG dX11_cause_19 (ctX11_109 _ rfl) ?_
    refine pm_callV (As := [.int (-1000001)]) (rest := []) hG hR dX11_cause_21 (lkX11_97 _ rfl) okV_X11_told rfl rfl (sx_told (d := 5) (by decide) rfl rfl) rfl rfl hdd (Nat.le_refl _) (Nat.le_refl _) (by decide) (pm_ki (fun v3 σ' cnt' hq => ?_))
    obtain ⟨-, ⟨g3, hg3⟩, hc3⟩ := hq
    obtain ⟨I3, A3, rfl, rfl, h3⟩ := hv_a53 (kp := kp) (I := I1) (A := A1) h1 ⟨hg3, hc3⟩
    exact pm_iret hG hF dX11_cause_24 rfl (Nat.le_refl _) (Nat.le_refl _) ⟨_, rfl, _, _, rfl, rfl, h3⟩
  · refine pm_iloadn hG dX11_cause_9 rfl ?_
    refine pm_iconst (v := 0) hG dX11_cause_10 (by decide) ?_
    refine pm_iconst (v := 3) hG dX11_cause_11 (by decide) ?_
    refine pm_callS (As := [.int zb, .int 0, .int 3]) (rest := []) hG hR dX11_cause_12 (lkX11_105 _ rfl) okS_X11_isOutside (sx_isOutside (d := 5)) rfl rfl hdd (Nat.le_refl _) (Nat.le_refl _) (by decide) (pm_ki (fun v4 σ' cnt' hq => ?_))
    have o4 := hq.1
    have b4 := pm_b10 hq.1
    obtain ⟨I4, A4, rfl, rfl, h4⟩ := hv_id (kp := kp) (I := I1) (A := A1) h1 hq.2
    refine pm_if_eq (tgt := 25) hG dX11_cause_15 rfl (fun c5 => ?_) (fun c5 => ?_)
    · refine pm_iloadn hG dX11_cause_25 rfl ?_
      refine pm_iconst (v := 3) hG dX11_cause_26 (by decide) ?_
      refine pm_icmp_ne (tgt := 39) hG dX11_cause_27 rfl (fun c6 => ?_) (fun c6 => ?_)
      · refine pm_aloadn hG dX11_cause_39 rfl ?_
        refine pm_getf hG dX11_cause_40 (flX11_30 _ rfl) rfl rfl ?_
        refine pm_iloadn hG dX11_cause_43 rfl ?_
        refine pm_callV (As := [.int za]) (rest := []) hG hR dX11_cause_44 (lkX11_290 _ rfl) okV_X0_weigh rfl rfl (g_X0_weigh (d := 5) (by decide) h4) rfl rfl hdd (Nat.le_refl _) (Nat.le_refl _) (by decide) (pm_kv (fun σ' cnt' hq => ?_))
        obtain ⟨I7, A7, rfl, rfl, h7⟩ := hq
        refine pm_iloadn hG dX11_cause_47 rfl ?_
        by_cases c8 : zb = 0
        · refine pm_top (v := 0) c8 ?_
          refine pm_lsw (off := 28) (tgt := 76) hG dX11_cause_48 (by decide) (by decide) rfl ?_
          refine pm_aloadn hG dX11_cause_76 rfl ?_
          refine pm_getf hG dX11_cause_77 (flX11_30 _ rfl) rfl rfl ?_
          refine pm_getf hG dX11_cause_80 (flX11_293 _ rfl) rfl rfl ?_
          exact pm_iret hG hF dX11_cause_83 rfl (Nat.le_refl _) (Nat.le_refl _) ⟨_, rfl, _, _, rfl, rfl, h7⟩
        by_cases c9 : zb = 1
        · refine pm_top (v := 1) c9 ?_
          refine pm_lsw (off := 36) (tgt := 84) hG dX11_cause_48 (by decide) (by decide) rfl ?_
          refine pm_aloadn hG dX11_cause_84 rfl ?_
          refine pm_getf hG dX11_cause_85 (flX11_30 _ rfl) rfl rfl ?_
          refine pm_getf hG dX11_cause_88 (flX11_296 _ rfl) rfl rfl ?_
          exact pm_iret hG hF dX11_cause_91 rfl (Nat.le_refl _) (Nat.le_refl _) ⟨_, rfl, _, _, rfl, rfl, h7⟩
        have tc8 : ¬ zb.toInt = 0 := fun q => c8 (Int32.toInt_inj.mp q)
        have tc9 : ¬ zb.toInt = 1 := fun q => c9 (Int32.toInt_inj.mp q)
        refine pm_lsw (off := 44) (tgt := 92) hG dX11_cause_48 (by decide) (by simp [Op.lookupswitch.offset, tc8, Ne.symm tc8, tc9, Ne.symm tc9]) rfl ?_
        refine pm_aloadn hG dX11_cause_92 rfl ?_
        refine pm_getf hG dX11_cause_93 (flX11_30 _ rfl) rfl rfl ?_
        refine pm_iconst (v := 0) hG dX11_cause_96 (by decide) ?_
        refine pm_callV (As := [.int 0]) (rest := []) hG hR dX11_cause_97 (lkX11_299 _ rfl) okV_X0_isCarriedWith rfl rfl (g_X0_isCarriedWith (d := 5) (by decide) h7) rfl rfl hdd (Nat.le_refl _) (Nat.le_refl _) (by decide) (pm_ki (fun v10 σ' cnt' hq => ?_))
        obtain ⟨b10, I10, A10, rfl, rfl, h10⟩ := hq
        refine pm_if_eq (tgt := 107) hG dX11_cause_100 rfl (fun c11 => ?_) (fun c11 => ?_)
        · refine pm_iconst (v := 0) hG dX11_cause_107 (by decide) ?_
          exact pm_iret hG hF dX11_cause_108 rfl (Nat.le_refl _) (Nat.le_refl _) ⟨_, rfl, _, _, rfl, rfl, h10⟩
        · refine pm_iconst (v := 1) hG dX11_cause_103 (by decide) ?_
          refine pm_goto (tgt := 108) hG dX11_cause_104 rfl ?_
          exact pm_iret hG hF dX11_cause_108 rfl (Nat.le_refl _) (Nat.le_refl _) ⟨_, rfl, _, _, rfl, rfl, h10⟩
      · refine pm_aloadn hG dX11_cause_30 rfl ?_
        refine pm_getf hG dX11_cause_31 (flX11_30 _ rfl) rfl rfl ?_
        refine pm_iloadn hG dX11_cause_34 rfl ?_
        refine pm_callV (As := [.int za]) (rest := []) hG hR dX11_cause_35 (lkX11_287 _ rfl) okV_X0_firstBroken rfl rfl (g_X0_firstBroken (d := 5) (by decide) h4) rfl rfl hdd (Nat.le_refl _) (Nat.le_refl _) (by decide) (pm_ki (fun v12 σ' cnt' hq => ?_))
        obtain ⟨I12, A12, rfl, rfl, h12⟩ := hq
        exact pm_iret hG hF dX11_cause_38 rfl (Nat.le_refl _) (Nat.le_refl _) ⟨_, rfl, _, _, rfl, rfl, h12⟩
    · refine pm_aloadn hG dX11_cause_18 rfl ?_
      refine pm_ldc hG dX11_cause_19 (ctX11_109 _ rfl) ?_
      refine pm_callV (As := [.int (-1000001)]) (rest := []) hG hR dX11_cause_21 (lkX11_97 _ rfl) okV_X11_told rfl rfl (sx_told (d := 5) (by decide) rfl rfl) rfl rfl hdd (Nat.le_refl _) (Nat.le_refl _) (by decide) (pm_ki (fun v13 σ' cnt' hq => ?_))
      obtain ⟨-, ⟨g13, hg13⟩, hc13⟩ := hq
      obtain ⟨I13, A13, rfl, rfl, h13⟩ := hv_a53 (kp := kp) (I := I4) (A := A4) h4 ⟨hg13, hc13⟩
      exact pm_iret hG hF dX11_cause_24 rfl (Nat.le_refl _) (Nat.le_refl _) ⟨_, rfl, _, _, rfl, rfl, h13⟩

set_option maxRecDepth 100000 in
set_option maxHeartbeats 4000000 in
theorem g_X7_isCoinOf {ε : Nat → Int32} {d B cnt : Nat} {kp : pm_KP} {ρ : pm_S} {I : Nat → Int32} {A : Nat → Nat → Int32} {za zb : Int32} (hdd : 1 ≤ d) (h : gq ε I) : pm_met mX7_isCoinOf d 0 0 B [.ref (B + 1), .int za, .int zb] cnt (pm_two (cl_L B kp I A) ρ) (pm_Qi (fun v σ' cnt' => (v = 0 ∨ v = 1) ∧ hvq ε B kp ρ cnt σ' cnt')) := by
  refine pm_enter 0 (by decide) (Nat.le_of_ble_eq_true rfl) rfl (fun G hG hR hF => ?_)
  refine pm_aloadn hG dX7_isCoinOf_0 rfl ?_
  refine pm_getf hG dX7_isCoinOf_1 (flX7_23 _ rfl) rfl rfl ?_
  refine pm_iloadn hG dX7_isCoinOf_4 rfl ?_
  refine pm_callV (As := [.int za]) (rest := []) hG hR dX7_isCoinOf_5 (lkX7_93 _ rfl) okV_X9_has rfl rfl (tb_has (d := 0) rfl) rfl rfl hdd (Nat.le_refl _) (Nat.le_refl _) (by decide) (pm_ki (fun v1 σ' cnt' hq => ?_))
  have b1 := pm_b01 hq.1
  obtain ⟨I1, A1, rfl, rfl, h1⟩ := hv_id (kp := kp) (I := I) (A := A) h hq.2
  refine pm_if_eq (tgt := 31) hG dX7_isCoinOf_8 rfl (fun c2 => ?_) (fun c2 => ?_)
  · refine pm_iloadn hG dX7_isCoinOf_31 rfl ?_
    refine pm_aloadn hG dX7_isCoinOf_32 rfl ?_
    refine pm_getf hG dX7_isCoinOf_33 (flX7_23 _ rfl) rfl rfl ?_
    refine pm_callV (As := []) (rest := [.int za]) hG hR dX7_isCoinOf_36 (lkX7_79 _ rfl) okV_X9_used rfl rfl (tb_used (d := 0) rfl) rfl rfl hdd (Nat.le_refl _) (Nat.le_refl _) (by first | decide | exact Nat.le_of_ble_eq_true rfl) (pm_ki (fun v3 σ' cnt' hq => ?_))
    obtain ⟨I3, A3, rfl, rfl, h3⟩ := hv_id (kp := kp) (I := I1) (A := A1) h1 hq.2
    refine pm_icmp_ne (tgt := 54) hG dX7_isCoinOf_39 rfl (fun c4 => ?_) (fun c4 => ?_)
    · refine pm_iconst (v := 0) hG dX7_isCoinOf_54 (by decide) ?_
      exact pm_zret hG hF dX7_isCoinOf_55 rfl (pm_nz (Or.inl rfl)) (Nat.le_refl _) (Nat.le_refl _) ⟨_, rfl, (Or.inl rfl), _, _, rfl, rfl, h3⟩
    · refine pm_aloadn hG dX7_isCoinOf_42 rfl ?_
      refine pm_getf hG dX7_isCoinOf_43 (flX7_53 _ rfl) rfl rfl ?_
      refine pm_iloadn hG dX7_isCoinOf_46 rfl ?_
      refine pm_icmp_ne (tgt := 54) hG dX7_isCoinOf_47 rfl (fun c5 => ?_) (fun c5 => ?_)
      · refine pm_iconst (v := 0) hG dX7_isCoinOf_54 (by decide) ?_
        exact pm_zret hG hF dX7_isCoinOf_55 rfl (pm_nz (Or.inl rfl)) (Nat.le_refl _) (Nat.le_refl _) ⟨_, rfl, (Or.inl rfl), _, _, rfl, rfl, h3⟩
      · refine pm_iconst (v := 1) hG dX7_isCoinOf_50 (by decide) ?_
        refine pm_goto (tgt := 55) hG dX7_isCoinOf_51 rfl ?_
        exact pm_zret hG hF dX7_isCoinOf_55 rfl (pm_nz (Or.inr rfl)) (Nat.le_refl _) (Nat.le_refl _) ⟨_, rfl, (Or.inr rfl), _, _, rfl, rfl, h3⟩
  · refine pm_aloadn hG dX7_isCoinOf_11 rfl ?_
    refine pm_getf hG dX7_isCoinOf_12 (flX7_23 _ rfl) rfl rfl ?_
    refine pm_iloadn hG dX7_isCoinOf_15 rfl ?_
    refine pm_bipush (v := 7) hG dX7_isCoinOf_16 (by decide) ?_
    refine pm_callV (As := [.int za, .int 7]) (rest := []) hG hR dX7_isCoinOf_18 (lkX7_83 _ rfl) okV_X9_get rfl rfl (tb_get (d := 0) rfl rfl (pm_tw_of 20 14 (by decide) (by decide) (by decide))) rfl rfl hdd (Nat.le_refl _) (Nat.le_refl _) (by decide) (pm_ki (fun v6 σ' cnt' hq => ?_))
    obtain ⟨I6, A6, rfl, rfl, h6⟩ := hv_id (kp := kp) (I := I1) (A := A1) h1 hq.2
    refine pm_iloadn hG dX7_isCoinOf_21 rfl ?_
    refine pm_icmp_ne (tgt := 29) hG dX7_isCoinOf_22 rfl (fun c7 => ?_) (fun c7 => ?_)
    · refine pm_iconst (v := 0) hG dX7_isCoinOf_29 (by decide) ?_
      exact pm_zret hG hF dX7_isCoinOf_30 rfl (pm_nz (Or.inl rfl)) (Nat.le_refl _) (Nat.le_refl _) ⟨_, rfl, (Or.inl rfl), _, _, rfl, rfl, h6⟩
    · refine pm_iconst (v := 1) hG dX7_isCoinOf_25 (by decide) ?_
      refine pm_goto (tgt := 30) hG dX7_isCoinOf_26 rfl ?_
      exact pm_zret hG hF dX7_isCoinOf_30 rfl (pm_nz (Or.inr rfl)) (Nat.le_refl _) (Nat.le_refl _) ⟨_, rfl, (Or.inr rfl), _, _, rfl, rfl, h6⟩

set_option maxRecDepth 100000 in
set_option maxHeartbeats 4000000 in
theorem g_X11_check {ε : Nat → Int32} {d B cnt : Nat} {kp : pm_KP} {ρ : pm_S} {I : Nat → Int32} {A : Nat → Nat → Int32} (hdd : 2 ≤ d) (h : gq ε I) : pm_met mX11_check d 0 0 B [.ref (B + 0)] cnt (pm_two (cl_L B kp I A) ρ) (pm_Qi (fun _ σ' cnt' => hvq ε B kp ρ cnt σ' cnt')) := by
  refine pm_enter 3 (by decide) (Nat.le_of_ble_eq_true rfl) rfl (fun G hG hR hF => ?_)
  refine pm_aloadn hG dX11_check_0 rfl ?_
  refine pm_getf hG dX11_check_1 (flX11_12 _ rfl) rfl rfl ?_
  refine pm_getf hG dX11_check_4 (flX11_386 _ rfl) rfl rfl ?_
  refine pm_callV (As := []) (rest := []) hG hR dX11_check_7 (lkX11_203 _ rfl) okV_X9_used rfl rfl (tb_used (d := 1) rfl) rfl rfl hdd (Nat.le_refl _) (Nat.le_refl _) (by decide) (pm_ki (fun v1 σ' cnt' hq => ?_))
  obtain ⟨I1, A1, rfl, rfl, h1⟩ := hv_id (kp := kp) (I := I) (A := A) h hq.2
  refine pm_istoreXn (loc' := [some (.ref (B + 0)), some (.int v1), none, none]) hG dX11_check_10 (by decide) (pm_c1b rfl) rfl ?_
  refine pm_iconst (v := 0) hG dX11_check_11 (by decide) ?_
  refine pm_istoreXn (loc' := [some (.ref (B + 0)), some (.int v1), some (.int 0), none]) hG dX11_check_12 (by decide) (pm_c1b rfl) rfl ?_
  refine pm_iconst (v := 0) hG dX11_check_13 (by decide) ?_
  refine pm_istoreXn (loc' := [some (.ref (B + 0)), some (.int v1), some (.int 0), some (.int 0)]) hG dX11_check_14 (by decide) (pm_c1b rfl) rfl ?_
  have loop15 : ∀ (m15 : Nat) (I2 : Nat → Int32) (A2 : Nat → Nat → Int32) (x2_2 x2_3 : Int32), gq ε I2 → (¬ x2_3 < 0) → ((v1 : Int32).toInt - x2_3.toInt).toNat < m15 → pm_wp mX11_check G B 15 [some (.ref (B + 0)), some (.int v1), some (.int x2_2), some (.int x2_3)] [] 0 0 cnt (pm_two (cl_L B kp I2 A2) ρ) := by
    intro m15
    induction m15 with
    | zero => intro I2 A2 x2_2 x2_3 _  _ hm; exact absurd hm (Nat.not_lt_zero _)
    | succ m15 ih15 =>
      intro I2 A2 x2_2 x2_3 h2 s15 hm15
      refine pm_iloadn hG dX11_check_15 rfl ?_
      refine pm_iloadn hG dX11_check_16 rfl ?_
      refine pm_icmp_ge (tgt := 57) hG dX11_check_17 rfl (fun c3 => ?_) (fun c3 => ?_)
      · refine pm_aloadn hG dX11_check_57 rfl ?_
        refine pm_getf hG dX11_check_58 (flX11_12 _ rfl) rfl rfl ?_
        refine pm_getf hG dX11_check_61 (flX11_386 _ rfl) rfl rfl ?_
        refine pm_callV (As := []) (rest := []) hG hR dX11_check_64 (lkX11_392 _ rfl) okV_X9_clear rfl rfl (tb_clear (d := 1) rfl) rfl rfl hdd (Nat.le_refl _) (Nat.le_refl _) (by decide) (pm_kv (fun σ' cnt' hq => ?_))
        obtain ⟨I4, A4, rfl, rfl, h4⟩ := hv_c22 (kp := kp) (I := I2) (A := A2) h2 hq
        refine pm_iloadn hG dX11_check_67 rfl ?_
        exact pm_iret hG hF dX11_check_68 rfl (Nat.le_refl _) (Nat.le_refl _) ⟨_, rfl, _, _, rfl, rfl, h4⟩
      · refine pm_iloadn hG dX11_check_20 rfl ?_
        refine pm_if_ne (tgt := 57) hG dX11_check_21 rfl (fun c5 => ?_) (fun c5 => ?_)
        · refine pm_aloadn hG dX11_check_57 rfl ?_
          refine pm_getf hG dX11_check_58 (flX11_12 _ rfl) rfl rfl ?_
          refine pm_getf hG dX11_check_61 (flX11_386 _ rfl) rfl rfl ?_
          refine pm_callV (As := []) (rest := []) hG hR dX11_check_64 (lkX11_392 _ rfl) okV_X9_clear rfl rfl (tb_clear (d := 1) rfl) rfl rfl hdd (Nat.le_refl _) (Nat.le_refl _) (by decide) (pm_kv (fun σ' cnt' hq => ?_))
          obtain ⟨I6, A6, rfl, rfl, h6⟩ := hv_c22 (kp := kp) (I := I2) (A := A2) h2 hq
          refine pm_iloadn hG dX11_check_67 rfl ?_
          exact pm_iret hG hF dX11_check_68 rfl (Nat.le_refl _) (Nat.le_refl _) ⟨_, rfl, _, _, rfl, rfl, h6⟩
        · refine pm_aloadn hG dX11_check_24 rfl ?_
          refine pm_getf hG dX11_check_25 (flX11_12 _ rfl) rfl rfl ?_
          refine pm_iloadn hG dX11_check_28 rfl ?_
          refine pm_aloadn hG dX11_check_29 rfl ?_
          refine pm_getf hG dX11_check_30 (flX11_12 _ rfl) rfl rfl ?_
          refine pm_getf hG dX11_check_33 (flX11_386 _ rfl) rfl rfl ?_
          refine pm_iloadn hG dX11_check_36 rfl ?_
          refine pm_iconst (v := 0) hG dX11_check_37 (by decide) ?_
          refine pm_callV (As := [.int x2_3, .int 0]) (rest := [.int x2_3, .ref (B + 1)]) hG hR dX11_check_38 (lkX11_152 _ rfl) okV_X9_get rfl rfl (tb_get (d := 1) rfl rfl (pm_tw_of 20 1 (by decide) (by decide) (by decide))) rfl rfl hdd (Nat.le_refl _) (Nat.le_refl _) (by first | decide | exact Nat.le_of_ble_eq_true rfl) (pm_ki (fun v7 σ' cnt' hq => ?_))
          obtain ⟨I7, A7, rfl, rfl, h7⟩ := hv_id (kp := kp) (I := I2) (A := A2) h2 hq.2
          refine pm_callV (As := [.int x2_3, .int v7]) (rest := []) hG hR dX11_check_41 (lkX11_389 _ rfl) okV_X7_isCoinOf rfl rfl (g_X7_isCoinOf (d := 1) (by decide) h7) rfl rfl hdd (Nat.le_refl _) (Nat.le_refl _) (by decide) (pm_ki (fun v8 σ' cnt' hq => ?_))
          obtain ⟨b8, I8, A8, rfl, rfl, h8⟩ := hq
          refine pm_if_ne (tgt := 51) hG dX11_check_44 rfl (fun c9 => ?_) (fun c9 => ?_)
          · refine pm_iincX (v := x2_3 + 1) (loc' := [some (.ref (B + 0)), some (.int v1), some (.int x2_2), some (.int (x2_3 + 1))]) hG dX11_check_51 rfl (by rfl) (by decide) (pm_c1b rfl) rfl ?_
            refine pm_goto (tgt := 15) hG dX11_check_54 rfl ?_
            exact ih15 _ _ x2_2 (x2_3 + 1) h8 (pm_sd1 c3 s15) (Nat.lt_of_lt_of_le (pm_mu1 c3) (Nat.le_of_lt_succ hm15))
          · refine pm_iloadn hG dX11_check_47 rfl ?_
            refine pm_iconst (v := 1) hG dX11_check_48 (by decide) ?_
            refine pm_iadd hG dX11_check_49 ?_
            refine pm_istoreXn (loc' := [some (.ref (B + 0)), some (.int v1), some (.int (x2_3 + 1)), some (.int x2_3)]) hG dX11_check_50 (by decide) (pm_c1b rfl) rfl ?_
            refine pm_iincX (v := x2_3 + 1) (loc' := [some (.ref (B + 0)), some (.int v1), some (.int (x2_3 + 1)), some (.int (x2_3 + 1))]) hG dX11_check_51 rfl (by rfl) (by decide) (pm_c1b rfl) rfl ?_
            refine pm_goto (tgt := 15) hG dX11_check_54 rfl ?_
            exact ih15 _ _ (x2_3 + 1) (x2_3 + 1) h8 (pm_sd1 c3 s15) (Nat.lt_of_lt_of_le (pm_mu1 c3) (Nat.le_of_lt_succ hm15))
  exact loop15 _ _ _ 0 0 h1 (by decide) (Nat.lt_succ_self _)

set_option maxRecDepth 100000 in
set_option maxHeartbeats 4000000 in
theorem g_X7_isLent {ε : Nat → Int32} {d B cnt : Nat} {kp : pm_KP} {ρ : pm_S} {I : Nat → Int32} {A : Nat → Nat → Int32} {za : Int32} (hdd : 1 ≤ d) (h : gq ε I) : pm_met mX7_isLent d 0 0 B [.ref (B + 1), .int za] cnt (pm_two (cl_L B kp I A) ρ) (pm_Qi (fun v σ' cnt' => (v = 0 ∨ v = 1) ∧ hvq ε B kp ρ cnt σ' cnt')) := by
  refine pm_enter 0 (by decide) (Nat.le_of_ble_eq_true rfl) rfl (fun G hG hR hF => ?_)
  refine pm_aloadn hG dX7_isLent_0 rfl ?_
  refine pm_getf hG dX7_isLent_1 (flX7_26 _ rfl) rfl rfl ?_
  refine pm_iloadn hG dX7_isLent_4 rfl ?_
  refine pm_iconst (v := 3) hG dX7_isLent_5 (by decide) ?_
  refine pm_callV (As := [.int za, .int 3]) (rest := []) hG hR dX7_isLent_6 (lkX7_83 _ rfl) okV_X9_get rfl rfl (tb_get (d := 0) rfl rfl (pm_tw_of 20 6 (by decide) (by decide) (by decide))) rfl rfl hdd (Nat.le_refl _) (Nat.le_refl _) (by decide) (pm_ki (fun v1 σ' cnt' hq => ?_))
  obtain ⟨I1, A1, rfl, rfl, h1⟩ := hv_id (kp := kp) (I := I) (A := A) h hq.2
  refine pm_iconst (v := (-1)) hG dX7_isLent_9 (by decide) ?_
  refine pm_icmp_eq (tgt := 17) hG dX7_isLent_10 rfl (fun c2 => ?_) (fun c2 => ?_)
  · refine pm_iconst (v := 0) hG dX7_isLent_17 (by decide) ?_
    exact pm_zret hG hF dX7_isLent_18 rfl (pm_nz (Or.inl rfl)) (Nat.le_refl _) (Nat.le_refl _) ⟨_, rfl, (Or.inl rfl), _, _, rfl, rfl, h1⟩
  · refine pm_iconst (v := 1) hG dX7_isLent_13 (by decide) ?_
    refine pm_goto (tgt := 18) hG dX7_isLent_14 rfl ?_
    exact pm_zret hG hF dX7_isLent_18 rfl (pm_nz (Or.inr rfl)) (Nat.le_refl _) (Nat.le_refl _) ⟨_, rfl, (Or.inr rfl), _, _, rfl, rfl, h1⟩

set_option maxRecDepth 100000 in
set_option maxHeartbeats 4000000 in
theorem g_X7_whoHas {ε : Nat → Int32} {d B cnt : Nat} {kp : pm_KP} {ρ : pm_S} {I : Nat → Int32} {A : Nat → Nat → Int32} {za : Int32} (hdd : 2 ≤ d) (h : gq ε I) : pm_met mX7_whoHas d 0 0 B [.ref (B + 1), .int za] cnt (pm_two (cl_L B kp I A) ρ) (pm_Qi (fun _ σ' cnt' => hvq ε B kp ρ cnt σ' cnt')) := by
  refine pm_enter 0 (by decide) (Nat.le_of_ble_eq_true rfl) rfl (fun G hG hR hF => ?_)
  refine pm_aloadn hG dX7_whoHas_0 rfl ?_
  refine pm_iloadn hG dX7_whoHas_1 rfl ?_
  refine pm_callV (As := [.int za]) (rest := []) hG hR dX7_whoHas_2 (lkX7_138 _ rfl) okV_X7_isLent rfl rfl (g_X7_isLent (d := 1) (by decide) h) rfl rfl hdd (Nat.le_refl _) (Nat.le_refl _) (by decide) (pm_ki (fun v1 σ' cnt' hq => ?_))
  obtain ⟨b1, I1, A1, rfl, rfl, h1⟩ := hq
  refine pm_if_eq (tgt := 20) hG dX7_whoHas_5 rfl (fun c2 => ?_) (fun c2 => ?_)
  · refine pm_aloadn hG dX7_whoHas_20 rfl ?_
    refine pm_getf hG dX7_whoHas_21 (flX7_26 _ rfl) rfl rfl ?_
    refine pm_iloadn hG dX7_whoHas_24 rfl ?_
    refine pm_iconst (v := 2) hG dX7_whoHas_25 (by decide) ?_
    refine pm_callV (As := [.int za, .int 2]) (rest := []) hG hR dX7_whoHas_26 (lkX7_83 _ rfl) okV_X9_get rfl rfl (tb_get (d := 1) rfl rfl (pm_tw_of 20 6 (by decide) (by decide) (by decide))) rfl rfl hdd (Nat.le_refl _) (Nat.le_refl _) (by decide) (pm_ki (fun v3 σ' cnt' hq => ?_))
    obtain ⟨I3, A3, rfl, rfl, h3⟩ := hv_id (kp := kp) (I := I1) (A := A1) h1 hq.2
    exact pm_iret hG hF dX7_whoHas_29 rfl (Nat.le_refl _) (Nat.le_refl _) ⟨_, rfl, _, _, rfl, rfl, h3⟩
  · refine pm_aloadn hG dX7_whoHas_8 rfl ?_
    refine pm_getf hG dX7_whoHas_9 (flX7_26 _ rfl) rfl rfl ?_
    refine pm_iloadn hG dX7_whoHas_12 rfl ?_
    refine pm_iconst (v := 3) hG dX7_whoHas_13 (by decide) ?_
    refine pm_callV (As := [.int za, .int 3]) (rest := []) hG hR dX7_whoHas_14 (lkX7_83 _ rfl) okV_X9_get rfl rfl (tb_get (d := 1) rfl rfl (pm_tw_of 20 6 (by decide) (by decide) (by decide))) rfl rfl hdd (Nat.le_refl _) (Nat.le_refl _) (by decide) (pm_ki (fun v4 σ' cnt' hq => ?_))
    obtain ⟨I4, A4, rfl, rfl, h4⟩ := hv_id (kp := kp) (I := I1) (A := A1) h1 hq.2
    refine pm_goto (tgt := 29) hG dX7_whoHas_17 rfl ?_
    exact pm_iret hG hF dX7_whoHas_29 rfl (Nat.le_refl _) (Nat.le_refl _) ⟨_, rfl, _, _, rfl, rfl, h4⟩

set_option maxRecDepth 100000 in
set_option maxHeartbeats 4000000 in
theorem g_X7_setLent {ε : Nat → Int32} {d B cnt : Nat} {kp : pm_KP} {ρ : pm_S} {I : Nat → Int32} {A : Nat → Nat → Int32} {za zb zc : Int32} (hdd : 1 ≤ d) (h : gq ε I) : pm_met mX7_setLent d 0 0 B [.ref (B + 1), .int za, .int zb, .int zc] cnt (pm_two (cl_L B kp I A) ρ) (pm_Qv (fun σ' cnt' => hvq ε B kp ρ cnt σ' cnt')) := by
  refine pm_enter 0 (by decide) (Nat.le_of_ble_eq_true rfl) rfl (fun G hG hR hF => ?_)
  refine pm_aloadn hG dX7_setLent_0 rfl ?_
  refine pm_getf hG dX7_setLent_1 (flX7_26 _ rfl) rfl rfl ?_
  refine pm_iloadn hG dX7_setLent_4 rfl ?_
  refine pm_iconst (v := 3) hG dX7_setLent_5 (by decide) ?_
  refine pm_iloadn hG dX7_setLent_6 rfl ?_
  refine pm_callV (As := [.int za, .int 3, .int zb]) (rest := []) hG hR dX7_setLent_7 (lkX7_61 _ rfl) okV_X9_set rfl rfl (tb_set (d := 0) rfl rfl (pm_tw_of 20 6 (by decide) (by decide) (by decide)) (by decide)) rfl rfl hdd (Nat.le_refl _) (Nat.le_refl _) (by decide) (pm_kv (fun σ' cnt' hq => ?_))
  obtain ⟨I1, A1, rfl, rfl, h1⟩ := hv_a9 (kp := kp) (I := I) (A := A) h hq
  refine pm_aloadn hG dX7_setLent_10 rfl ?_
  refine pm_getf hG dX7_setLent_11 (flX7_26 _ rfl) rfl rfl ?_
  refine pm_iloadn hG dX7_setLent_14 rfl ?_
  refine pm_iconst (v := 4) hG dX7_setLent_15 (by decide) ?_
  refine pm_iloadn hG dX7_setLent_16 rfl ?_
  refine pm_callV (As := [.int za, .int 4, .int zc]) (rest := []) hG hR dX7_setLent_17 (lkX7_61 _ rfl) okV_X9_set rfl rfl (tb_set (d := 0) rfl rfl (pm_tw_of 20 6 (by decide) (by decide) (by decide)) (by decide)) rfl rfl hdd (Nat.le_refl _) (Nat.le_refl _) (by decide) (pm_kv (fun σ' cnt' hq => ?_))
  obtain ⟨I2, A2, rfl, rfl, h2⟩ := hv_a9 (kp := kp) (I := I1) (A := A1) h1 hq
  exact pm_vret hG hF dX7_setLent_20 rfl (Nat.le_refl _) (Nat.le_refl _) ⟨rfl, _, _, rfl, rfl, h2⟩

set_option maxRecDepth 100000 in
set_option maxHeartbeats 4000000 in
theorem g_X7_addPower {ε : Nat → Int32} {d B cnt : Nat} {kp : pm_KP} {ρ : pm_S} {I : Nat → Int32} {A : Nat → Nat → Int32} {za zb zc : Int32} (hdd : 2 ≤ d) (h : gq ε I) : pm_met mX7_addPower d 0 0 B [.ref (B + 1), .int za, .int zb, .int zc] cnt (pm_two (cl_L B kp I A) ρ) (pm_Qi (fun _ σ' cnt' => hvq ε B kp ρ cnt σ' cnt')) := by
  refine pm_enter 1 (by decide) (Nat.le_of_ble_eq_true rfl) rfl (fun G hG hR hF => ?_)
  refine pm_aloadn hG dX7_addPower_0 rfl ?_
  refine pm_getf hG dX7_addPower_1 (flX7_26 _ rfl) rfl rfl ?_
  refine pm_iloadn hG dX7_addPower_4 rfl ?_
  obtain ⟨k1, hk1, hu1⟩ := gq.used h 8 20 (by decide)
  have ht1 : pm_two (cl_L B kp I A) ρ 8 = some (.inr (9, [.int (nI 20), .int (nI 6), .ref (B + 9), .int (nI k1)])) := by rw [← hu1]; rfl
  refine pm_callV (As := [.int za]) (rest := []) hG hR dX7_addPower_5 (lkX7_75 _ rfl) okV_X9_append rfl rfl (tb_append (d := 1) (by decide) ht1 rfl (by decide) (by decide) (by decide) (by decide) (by decide) (by decide) hk1) rfl rfl hdd (Nat.le_refl _) (Nat.le_refl _) (by decide) (pm_ki (fun v1 σ' cnt' hq => ?_))
  obtain ⟨I1, A1, rfl, rfl, h1⟩ := hv_p8 (kp := kp) (I := I) (A := A) hk1 h hq
  refine pm_istoreXi (loc' := [some (.ref (B + 1)), some (.int za), some (.int zb), some (.int zc), some (.int v1)]) hG dX7_addPower_8 (by decide) (pm_c1b rfl) rfl ?_
  refine pm_aloadn hG dX7_addPower_10 rfl ?_
  refine pm_getf hG dX7_addPower_11 (flX7_26 _ rfl) rfl rfl ?_
  refine pm_iloadi hG dX7_addPower_14 rfl ?_
  refine pm_iconst (v := 1) hG dX7_addPower_16 (by decide) ?_
  refine pm_iloadn hG dX7_addPower_17 rfl ?_
  refine pm_callV (As := [.int v1, .int 1, .int zc]) (rest := []) hG hR dX7_addPower_18 (lkX7_61 _ rfl) okV_X9_set rfl rfl (tb_set (d := 1) rfl rfl (pm_tw_of 20 6 (by decide) (by decide) (by decide)) (by decide)) rfl rfl hdd (Nat.le_refl _) (Nat.le_refl _) (by decide) (pm_kv (fun σ' cnt' hq => ?_))
  obtain ⟨I2, A2, rfl, rfl, h2⟩ := hv_a9 (kp := kp) (I := I1) (A := A1) h1 hq
  refine pm_aloadn hG dX7_addPower_21 rfl ?_
  refine pm_getf hG dX7_addPower_22 (flX7_26 _ rfl) rfl rfl ?_
  refine pm_iloadi hG dX7_addPower_25 rfl ?_
  refine pm_iconst (v := 2) hG dX7_addPower_27 (by decide) ?_
  refine pm_iloadn hG dX7_addPower_28 rfl ?_
  refine pm_callV (As := [.int v1, .int 2, .int zb]) (rest := []) hG hR dX7_addPower_29 (lkX7_61 _ rfl) okV_X9_set rfl rfl (tb_set (d := 1) rfl rfl (pm_tw_of 20 6 (by decide) (by decide) (by decide)) (by decide)) rfl rfl hdd (Nat.le_refl _) (Nat.le_refl _) (by decide) (pm_kv (fun σ' cnt' hq => ?_))
  obtain ⟨I3, A3, rfl, rfl, h3⟩ := hv_a9 (kp := kp) (I := I2) (A := A2) h2 hq
  refine pm_aloadn hG dX7_addPower_32 rfl ?_
  refine pm_getf hG dX7_addPower_33 (flX7_26 _ rfl) rfl rfl ?_
  refine pm_iloadi hG dX7_addPower_36 rfl ?_
  refine pm_iconst (v := 5) hG dX7_addPower_38 (by decide) ?_
  refine pm_iloadn hG dX7_addPower_39 rfl ?_
  refine pm_iconst (v := 2) hG dX7_addPower_40 (by decide) ?_
  refine pm_icmp_ne (tgt := 49) hG dX7_addPower_41 rfl (fun c4 => ?_) (fun c4 => ?_)
  · refine pm_iconst (v := (-1)) hG dX7_addPower_49 (by decide) ?_
    refine pm_callV (As := [.int v1, .int 5, .int (-1)]) (rest := []) hG hR dX7_addPower_50 (lkX7_61 _ rfl) okV_X9_set rfl rfl (tb_set (d := 1) rfl rfl (pm_tw_of 20 6 (by decide) (by decide) (by decide)) (by decide)) rfl rfl hdd (Nat.le_refl _) (Nat.le_refl _) (by decide) (pm_kv (fun σ' cnt' hq => ?_))
    obtain ⟨I5, A5, rfl, rfl, h5⟩ := hv_a9 (kp := kp) (I := I3) (A := A3) h3 hq
    refine pm_aloadn hG dX7_addPower_53 rfl ?_
    refine pm_iloadi hG dX7_addPower_54 rfl ?_
    refine pm_iconst (v := (-1)) hG dX7_addPower_56 (by decide) ?_
    refine pm_iconst (v := (-1)) hG dX7_addPower_57 (by decide) ?_
    refine pm_callV (As := [.int v1, .int (-1), .int (-1)]) (rest := []) hG hR dX7_addPower_58 (lkX7_122 _ rfl) okV_X7_setLent rfl rfl (g_X7_setLent (d := 1) (by decide) h5) rfl rfl hdd (Nat.le_refl _) (Nat.le_refl _) (by decide) (pm_kv (fun σ' cnt' hq => ?_))
    obtain ⟨I6, A6, rfl, rfl, h6⟩ := hq
    refine pm_iloadi hG dX7_addPower_61 rfl ?_
    exact pm_iret hG hF dX7_addPower_63 rfl (Nat.le_refl _) (Nat.le_refl _) ⟨_, rfl, _, _, rfl, rfl, h6⟩
  · refine pm_iloadi hG dX7_addPower_44 rfl ?_
    refine pm_goto (tgt := 50) hG dX7_addPower_46 rfl ?_
    refine pm_callV (As := [.int v1, .int 5, .int v1]) (rest := []) hG hR dX7_addPower_50 (lkX7_61 _ rfl) okV_X9_set rfl rfl (tb_set (d := 1) rfl rfl (pm_tw_of 20 6 (by decide) (by decide) (by decide)) (by decide)) rfl rfl hdd (Nat.le_refl _) (Nat.le_refl _) (by decide) (pm_kv (fun σ' cnt' hq => ?_))
    obtain ⟨I7, A7, rfl, rfl, h7⟩ := hv_a9 (kp := kp) (I := I3) (A := A3) h3 hq
    refine pm_aloadn hG dX7_addPower_53 rfl ?_
    refine pm_iloadi hG dX7_addPower_54 rfl ?_
    refine pm_iconst (v := (-1)) hG dX7_addPower_56 (by decide) ?_
    refine pm_iconst (v := (-1)) hG dX7_addPower_57 (by decide) ?_
    refine pm_callV (As := [.int v1, .int (-1), .int (-1)]) (rest := []) hG hR dX7_addPower_58 (lkX7_122 _ rfl) okV_X7_setLent rfl rfl (g_X7_setLent (d := 1) (by decide) h7) rfl rfl hdd (Nat.le_refl _) (Nat.le_refl _) (by decide) (pm_kv (fun σ' cnt' hq => ?_))
    obtain ⟨I8, A8, rfl, rfl, h8⟩ := hq
    refine pm_iloadi hG dX7_addPower_61 rfl ?_
    exact pm_iret hG hF dX7_addPower_63 rfl (Nat.le_refl _) (Nat.le_refl _) ⟨_, rfl, _, _, rfl, rfl, h8⟩
