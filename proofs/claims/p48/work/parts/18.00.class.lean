set_option maxRecDepth 100000 in
set_option maxHeartbeats 4000000 in
theorem g_X0_stands {d B cnt : Nat} {kp : Value} {ρ : pm_S} {I : Nat → Int32} {A : Nat → Nat → Int32} {za : Int32} (hdd : 1 ≤ d) (h : gs I) : pm_met mX0_stands d 0 0 B [.ref (B + 31), .int za] cnt (pm_two (cl_L B kp I A) ρ) (pm_Qi (fun v σ' cnt' => (v = 0 ∨ v = 1) ∧ hvc B kp ρ cnt σ' cnt')) := by
  refine pm_enter 0 (by decide) (Nat.le_of_ble_eq_true rfl) rfl (fun G hG hR hF => ?_)
  refine pm_aloadn hG dX0_stands_0 rfl ?_
  refine pm_getf hG dX0_stands_1 (flX0_25 _ rfl) rfl rfl ?_
  refine pm_iloadn hG dX0_stands_4 rfl ?_
  refine pm_iconst (v := 4) hG dX0_stands_5 (by decide) ?_
  refine pm_callV (As := [.int za, .int 4]) (rest := []) hG hR dX0_stands_6 (lkX0_39 _ rfl) okV_X9_get rfl rfl (tb_get (d := 0) rfl rfl (pm_tw_of 30 5 (by decide) (by decide) (by decide))) rfl rfl hdd (Nat.le_refl _) (Nat.le_refl _) (by decide) (pm_ki (fun v1 σ' cnt' hq => ?_))
  obtain ⟨I1, A1, rfl, rfl, h1⟩ := hv_id (kp := kp) (I := I) (A := A) h hq.2
  refine pm_if_ne (tgt := 35) hG dX0_stands_9 rfl (fun c2 => ?_) (fun c2 => ?_)
  · refine pm_iconst (v := 0) hG dX0_stands_35 (by decide) ?_
    exact pm_zret hG hF dX0_stands_36 rfl (pm_nz (Or.inl rfl)) (Nat.le_refl _) (Nat.le_refl _) ⟨_, rfl, (Or.inl rfl), _, _, rfl, rfl, h1⟩
  · refine pm_aloadn hG dX0_stands_12 rfl ?_
    refine pm_getf hG dX0_stands_13 (flX0_25 _ rfl) rfl rfl ?_
    refine pm_iloadn hG dX0_stands_16 rfl ?_
    refine pm_iconst (v := 2) hG dX0_stands_17 (by decide) ?_
    refine pm_callV (As := [.int za, .int 2]) (rest := []) hG hR dX0_stands_18 (lkX0_39 _ rfl) okV_X9_get rfl rfl (tb_get (d := 0) rfl rfl (pm_tw_of 30 5 (by decide) (by decide) (by decide))) rfl rfl hdd (Nat.le_refl _) (Nat.le_refl _) (by decide) (pm_ki (fun v3 σ' cnt' hq => ?_))
    obtain ⟨I3, A3, rfl, rfl, h3⟩ := hv_id (kp := kp) (I := I1) (A := A1) h1 hq.2
    refine pm_aloadn hG dX0_stands_21 rfl ?_
    refine pm_getf hG dX0_stands_22 (flX0_9 _ rfl) rfl rfl ?_
    refine pm_getf hG dX0_stands_25 (flX0_43 _ rfl) rfl rfl ?_
    refine pm_icmp_lt (tgt := 35) hG dX0_stands_28 rfl (fun c4 => ?_) (fun c4 => ?_)
    · refine pm_iconst (v := 0) hG dX0_stands_35 (by decide) ?_
      exact pm_zret hG hF dX0_stands_36 rfl (pm_nz (Or.inl rfl)) (Nat.le_refl _) (Nat.le_refl _) ⟨_, rfl, (Or.inl rfl), _, _, rfl, rfl, h3⟩
    · refine pm_iconst (v := 1) hG dX0_stands_31 (by decide) ?_
      refine pm_goto (tgt := 36) hG dX0_stands_32 rfl ?_
      exact pm_zret hG hF dX0_stands_36 rfl (pm_nz (Or.inr rfl)) (Nat.le_refl _) (Nat.le_refl _) ⟨_, rfl, (Or.inr rfl), _, _, rfl, rfl, h3⟩

set_option maxRecDepth 100000 in
set_option maxHeartbeats 4000000 in
theorem g_X0_addPromise {d B cnt : Nat} {kp : Value} {ρ : pm_S} {I : Nat → Int32} {A : Nat → Nat → Int32} {za zb zc zd : Int32} (hdd : 2 ≤ d) (h : gs I) : pm_met mX0_addPromise d 0 0 B [.ref (B + 31), .int za, .int zb, .int zc, .int zd] cnt (pm_two (cl_L B kp I A) ρ) (pm_Qi (fun _ σ' cnt' => hvc B kp ρ cnt σ' cnt')) := by
  refine pm_enter 2 (by decide) (Nat.le_of_ble_eq_true rfl) rfl (fun G hG hR hF => ?_)
  refine pm_aloadn hG dX0_addPromise_0 rfl ?_
  refine pm_getf hG dX0_addPromise_1 (flX0_25 _ rfl) rfl rfl ?_
  refine pm_callV (As := []) (rest := []) hG hR dX0_addPromise_4 (lkX0_47 _ rfl) okV_X9_used rfl rfl (tb_used (d := 1) rfl) rfl rfl hdd (Nat.le_refl _) (Nat.le_refl _) (by decide) (pm_ki (fun v1 σ' cnt' hq => ?_))
  obtain ⟨I1, A1, rfl, rfl, h1⟩ := hv_id (kp := kp) (I := I) (A := A) h hq.2
  refine pm_istoreXi (loc' := [some (.ref (B + 31)), some (.int za), some (.int zb), some (.int zc), some (.int zd), some (.int v1), none]) hG dX0_addPromise_7 (by decide) (pm_c1b rfl) rfl ?_
  refine pm_iconst (v := 0) hG dX0_addPromise_9 (by decide) ?_
  refine pm_istoreXi (loc' := [some (.ref (B + 31)), some (.int za), some (.int zb), some (.int zc), some (.int zd), some (.int v1), some (.int 0)]) hG dX0_addPromise_10 (by decide) (pm_c1b rfl) rfl ?_
  have loop12 : ∀ (m12 : Nat) (I2 : Nat → Int32) (A2 : Nat → Nat → Int32) (x2_6 : Int32), gs I2 → ((v1 : Int32).toInt - x2_6.toInt).toNat < m12 → pm_wp mX0_addPromise G B 12 [some (.ref (B + 31)), some (.int za), some (.int zb), some (.int zc), some (.int zd), some (.int v1), some (.int x2_6)] [] 0 0 cnt (pm_two (cl_L B kp I2 A2) ρ) := by
    intro m12
    induction m12 with
    | zero => intro I2 A2 x2_6 _  hm; exact absurd hm (Nat.not_lt_zero _)
    | succ m12 ih12 =>
      intro I2 A2 x2_6 h2  hm12
      refine pm_iloadi hG dX0_addPromise_12 rfl ?_
      refine pm_iloadi hG dX0_addPromise_14 rfl ?_
      refine pm_icmp_ge (tgt := 73) hG dX0_addPromise_16 rfl (fun c3 => ?_) (fun c3 => ?_)
      · refine pm_aloadn hG dX0_addPromise_73 rfl ?_
        refine pm_getf hG dX0_addPromise_74 (flX0_25 _ rfl) rfl rfl ?_
        refine pm_iloadn hG dX0_addPromise_77 rfl ?_
        obtain ⟨k4, hk4, hu4⟩ := gs.used h2 18 30 (by decide)
        have ht4 : pm_two (cl_L B kp I2 A2) ρ 18 = some (.inr (9, [.int (nI 30), .int (nI 5), .ref (B + 19), .int (nI k4)])) := by rw [← hu4]; rfl
        refine pm_callV (As := [.int za]) (rest := []) hG hR dX0_addPromise_78 (lkX0_59 _ rfl) okV_X9_append rfl rfl (tb_append (d := 1) (by decide) ht4 rfl (by decide) (by decide) (by decide) (by decide) (by decide) (by decide) hk4) rfl rfl hdd (Nat.le_refl _) (Nat.le_refl _) (by decide) (pm_ki (fun v4 σ' cnt' hq => ?_))
        obtain ⟨I4, A4, rfl, rfl, h4⟩ := hv_p18 (kp := kp) (I := I2) (A := A2) hk4 h2 hq
        refine pm_istoreXi (loc' := [some (.ref (B + 31)), some (.int za), some (.int zb), some (.int zc), some (.int zd), some (.int v1), some (.int v4)]) hG dX0_addPromise_81 (by decide) (pm_c1b rfl) rfl ?_
        refine pm_aloadn hG dX0_addPromise_83 rfl ?_
        refine pm_getf hG dX0_addPromise_84 (flX0_25 _ rfl) rfl rfl ?_
        refine pm_iloadi hG dX0_addPromise_87 rfl ?_
        refine pm_iconst (v := 1) hG dX0_addPromise_89 (by decide) ?_
        refine pm_iloadn hG dX0_addPromise_90 rfl ?_
        refine pm_callV (As := [.int v4, .int 1, .int zb]) (rest := []) hG hR dX0_addPromise_91 (lkX0_55 _ rfl) okV_X9_set rfl rfl (tb_set (d := 1) rfl rfl (pm_tw_of 30 5 (by decide) (by decide) (by decide)) (by decide)) rfl rfl hdd (Nat.le_refl _) (Nat.le_refl _) (by decide) (pm_kv (fun σ' cnt' hq => ?_))
        obtain ⟨I5, A5, rfl, rfl, h5⟩ := hv_a19 (kp := kp) (I := I4) (A := A4) h4 hq
        refine pm_aloadn hG dX0_addPromise_94 rfl ?_
        refine pm_getf hG dX0_addPromise_95 (flX0_25 _ rfl) rfl rfl ?_
        refine pm_iloadi hG dX0_addPromise_98 rfl ?_
        refine pm_iconst (v := 2) hG dX0_addPromise_100 (by decide) ?_
        refine pm_iloadn hG dX0_addPromise_101 rfl ?_
        refine pm_callV (As := [.int v4, .int 2, .int zc]) (rest := []) hG hR dX0_addPromise_102 (lkX0_55 _ rfl) okV_X9_set rfl rfl (tb_set (d := 1) rfl rfl (pm_tw_of 30 5 (by decide) (by decide) (by decide)) (by decide)) rfl rfl hdd (Nat.le_refl _) (Nat.le_refl _) (by decide) (pm_kv (fun σ' cnt' hq => ?_))
        obtain ⟨I6, A6, rfl, rfl, h6⟩ := hv_a19 (kp := kp) (I := I5) (A := A5) h5 hq
        refine pm_aloadn hG dX0_addPromise_105 rfl ?_
        refine pm_getf hG dX0_addPromise_106 (flX0_25 _ rfl) rfl rfl ?_
        refine pm_iloadi hG dX0_addPromise_109 rfl ?_
        refine pm_iconst (v := 3) hG dX0_addPromise_111 (by decide) ?_
        refine pm_iloadi hG dX0_addPromise_112 rfl ?_
        refine pm_if_eq (tgt := 121) hG dX0_addPromise_114 rfl (fun c7 => ?_) (fun c7 => ?_)
        · refine pm_iconst (v := 0) hG dX0_addPromise_121 (by decide) ?_
          refine pm_callV (As := [.int v4, .int 3, .int 0]) (rest := []) hG hR dX0_addPromise_122 (lkX0_55 _ rfl) okV_X9_set rfl rfl (tb_set (d := 1) rfl rfl (pm_tw_of 30 5 (by decide) (by decide) (by decide)) (by decide)) rfl rfl hdd (Nat.le_refl _) (Nat.le_refl _) (by decide) (pm_kv (fun σ' cnt' hq => ?_))
          obtain ⟨I8, A8, rfl, rfl, h8⟩ := hv_a19 (kp := kp) (I := I6) (A := A6) h6 hq
          refine pm_aloadn hG dX0_addPromise_125 rfl ?_
          refine pm_getf hG dX0_addPromise_126 (flX0_25 _ rfl) rfl rfl ?_
          refine pm_iloadi hG dX0_addPromise_129 rfl ?_
          refine pm_iconst (v := 4) hG dX0_addPromise_131 (by decide) ?_
          refine pm_iconst (v := 0) hG dX0_addPromise_132 (by decide) ?_
          refine pm_callV (As := [.int v4, .int 4, .int 0]) (rest := []) hG hR dX0_addPromise_133 (lkX0_55 _ rfl) okV_X9_set rfl rfl (tb_set (d := 1) rfl rfl (pm_tw_of 30 5 (by decide) (by decide) (by decide)) (by decide)) rfl rfl hdd (Nat.le_refl _) (Nat.le_refl _) (by decide) (pm_kv (fun σ' cnt' hq => ?_))
          obtain ⟨I9, A9, rfl, rfl, h9⟩ := hv_a19 (kp := kp) (I := I8) (A := A8) h8 hq
          refine pm_iloadi hG dX0_addPromise_136 rfl ?_
          exact pm_iret hG hF dX0_addPromise_138 rfl (Nat.le_refl _) (Nat.le_refl _) ⟨_, rfl, _, _, rfl, rfl, h9⟩
        · refine pm_iconst (v := 1) hG dX0_addPromise_117 (by decide) ?_
          refine pm_goto (tgt := 122) hG dX0_addPromise_118 rfl ?_
          refine pm_callV (As := [.int v4, .int 3, .int 1]) (rest := []) hG hR dX0_addPromise_122 (lkX0_55 _ rfl) okV_X9_set rfl rfl (tb_set (d := 1) rfl rfl (pm_tw_of 30 5 (by decide) (by decide) (by decide)) (by decide)) rfl rfl hdd (Nat.le_refl _) (Nat.le_refl _) (by decide) (pm_kv (fun σ' cnt' hq => ?_))
          obtain ⟨I10, A10, rfl, rfl, h10⟩ := hv_a19 (kp := kp) (I := I6) (A := A6) h6 hq
          refine pm_aloadn hG dX0_addPromise_125 rfl ?_
          refine pm_getf hG dX0_addPromise_126 (flX0_25 _ rfl) rfl rfl ?_
          refine pm_iloadi hG dX0_addPromise_129 rfl ?_
          refine pm_iconst (v := 4) hG dX0_addPromise_131 (by decide) ?_
          refine pm_iconst (v := 0) hG dX0_addPromise_132 (by decide) ?_
          refine pm_callV (As := [.int v4, .int 4, .int 0]) (rest := []) hG hR dX0_addPromise_133 (lkX0_55 _ rfl) okV_X9_set rfl rfl (tb_set (d := 1) rfl rfl (pm_tw_of 30 5 (by decide) (by decide) (by decide)) (by decide)) rfl rfl hdd (Nat.le_refl _) (Nat.le_refl _) (by decide) (pm_kv (fun σ' cnt' hq => ?_))
          obtain ⟨I11, A11, rfl, rfl, h11⟩ := hv_a19 (kp := kp) (I := I10) (A := A10) h10 hq
          refine pm_iloadi hG dX0_addPromise_136 rfl ?_
          exact pm_iret hG hF dX0_addPromise_138 rfl (Nat.le_refl _) (Nat.le_refl _) ⟨_, rfl, _, _, rfl, rfl, h11⟩
      · refine pm_aloadn hG dX0_addPromise_19 rfl ?_
        refine pm_iloadi hG dX0_addPromise_20 rfl ?_
        refine pm_callV (As := [.int x2_6]) (rest := []) hG hR dX0_addPromise_22 (lkX0_51 _ rfl) okV_X0_stands rfl rfl (g_X0_stands (d := 1) (by decide) h2) rfl rfl hdd (Nat.le_refl _) (Nat.le_refl _) (by decide) (pm_ki (fun v12 σ' cnt' hq => ?_))
        obtain ⟨b12, I12, A12, rfl, rfl, h12⟩ := hq
        refine pm_if_eq (tgt := 67) hG dX0_addPromise_25 rfl (fun c13 => ?_) (fun c13 => ?_)
        · refine pm_iincX (v := x2_6 + 1) (loc' := [some (.ref (B + 31)), some (.int za), some (.int zb), some (.int zc), some (.int zd), some (.int v1), some (.int (x2_6 + 1))]) hG dX0_addPromise_67 rfl (by rfl) (by decide) (pm_c1b rfl) rfl ?_
          refine pm_goto (tgt := 12) hG dX0_addPromise_70 rfl ?_
          exact ih12 _ _ (x2_6 + 1) h12 (Nat.lt_of_lt_of_le (pm_mu1 c3) (Nat.le_of_lt_succ hm12))
        · refine pm_aloadn hG dX0_addPromise_28 rfl ?_
          refine pm_getf hG dX0_addPromise_29 (flX0_25 _ rfl) rfl rfl ?_
          refine pm_iloadi hG dX0_addPromise_32 rfl ?_
          refine pm_iconst (v := 0) hG dX0_addPromise_34 (by decide) ?_
          refine pm_callV (As := [.int x2_6, .int 0]) (rest := []) hG hR dX0_addPromise_35 (lkX0_39 _ rfl) okV_X9_get rfl rfl (tb_get (d := 1) rfl rfl (pm_tw_of 30 5 (by decide) (by decide) (by decide))) rfl rfl hdd (Nat.le_refl _) (Nat.le_refl _) (by decide) (pm_ki (fun v14 σ' cnt' hq => ?_))
          obtain ⟨I14, A14, rfl, rfl, h14⟩ := hv_id (kp := kp) (I := I12) (A := A12) h12 hq.2
          refine pm_iloadn hG dX0_addPromise_38 rfl ?_
          refine pm_icmp_ne (tgt := 67) hG dX0_addPromise_39 rfl (fun c15 => ?_) (fun c15 => ?_)
          · refine pm_iincX (v := x2_6 + 1) (loc' := [some (.ref (B + 31)), some (.int za), some (.int zb), some (.int zc), some (.int zd), some (.int v1), some (.int (x2_6 + 1))]) hG dX0_addPromise_67 rfl (by rfl) (by decide) (pm_c1b rfl) rfl ?_
            refine pm_goto (tgt := 12) hG dX0_addPromise_70 rfl ?_
            exact ih12 _ _ (x2_6 + 1) h14 (Nat.lt_of_lt_of_le (pm_mu1 c3) (Nat.le_of_lt_succ hm12))
          · refine pm_aloadn hG dX0_addPromise_42 rfl ?_
            refine pm_getf hG dX0_addPromise_43 (flX0_25 _ rfl) rfl rfl ?_
            refine pm_iloadi hG dX0_addPromise_46 rfl ?_
            refine pm_iconst (v := 1) hG dX0_addPromise_48 (by decide) ?_
            refine pm_callV (As := [.int x2_6, .int 1]) (rest := []) hG hR dX0_addPromise_49 (lkX0_39 _ rfl) okV_X9_get rfl rfl (tb_get (d := 1) rfl rfl (pm_tw_of 30 5 (by decide) (by decide) (by decide))) rfl rfl hdd (Nat.le_refl _) (Nat.le_refl _) (by decide) (pm_ki (fun v16 σ' cnt' hq => ?_))
            obtain ⟨I16, A16, rfl, rfl, h16⟩ := hv_id (kp := kp) (I := I14) (A := A14) h14 hq.2
            refine pm_iloadn hG dX0_addPromise_52 rfl ?_
            refine pm_icmp_ne (tgt := 67) hG dX0_addPromise_53 rfl (fun c17 => ?_) (fun c17 => ?_)
            · refine pm_iincX (v := x2_6 + 1) (loc' := [some (.ref (B + 31)), some (.int za), some (.int zb), some (.int zc), some (.int zd), some (.int v1), some (.int (x2_6 + 1))]) hG dX0_addPromise_67 rfl (by rfl) (by decide) (pm_c1b rfl) rfl ?_
              refine pm_goto (tgt := 12) hG dX0_addPromise_70 rfl ?_
              exact ih12 _ _ (x2_6 + 1) h16 (Nat.lt_of_lt_of_le (pm_mu1 c3) (Nat.le_of_lt_succ hm12))
            · refine pm_aloadn hG dX0_addPromise_56 rfl ?_
              refine pm_getf hG dX0_addPromise_57 (flX0_25 _ rfl) rfl rfl ?_
              refine pm_iloadi hG dX0_addPromise_60 rfl ?_
              refine pm_iconst (v := 4) hG dX0_addPromise_62 (by decide) ?_
              refine pm_iconst (v := 1) hG dX0_addPromise_63 (by decide) ?_
              refine pm_callV (As := [.int x2_6, .int 4, .int 1]) (rest := []) hG hR dX0_addPromise_64 (lkX0_55 _ rfl) okV_X9_set rfl rfl (tb_set (d := 1) rfl rfl (pm_tw_of 30 5 (by decide) (by decide) (by decide)) (by decide)) rfl rfl hdd (Nat.le_refl _) (Nat.le_refl _) (by decide) (pm_kv (fun σ' cnt' hq => ?_))
              obtain ⟨I18, A18, rfl, rfl, h18⟩ := hv_a19 (kp := kp) (I := I16) (A := A16) h16 hq
              refine pm_iincX (v := x2_6 + 1) (loc' := [some (.ref (B + 31)), some (.int za), some (.int zb), some (.int zc), some (.int zd), some (.int v1), some (.int (x2_6 + 1))]) hG dX0_addPromise_67 rfl (by rfl) (by decide) (pm_c1b rfl) rfl ?_
              refine pm_goto (tgt := 12) hG dX0_addPromise_70 rfl ?_
              exact ih12 _ _ (x2_6 + 1) h18 (Nat.lt_of_lt_of_le (pm_mu1 c3) (Nat.le_of_lt_succ hm12))
  exact loop12 _ _ _ 0 h1 (Nat.lt_succ_self _)

set_option maxRecDepth 100000 in
set_option maxHeartbeats 4000000 in
theorem g_X0_endAllOf {d B cnt : Nat} {kp : Value} {ρ : pm_S} {I : Nat → Int32} {A : Nat → Nat → Int32} {za zb : Int32} (hdd : 2 ≤ d) (h : gs I) : pm_met mX0_endAllOf d 0 0 B [.ref (B + 31), .int za, .int zb] cnt (pm_two (cl_L B kp I A) ρ) (pm_Qi (fun _ σ' cnt' => hvc B kp ρ cnt σ' cnt')) := by
  refine pm_enter 3 (by decide) (Nat.le_of_ble_eq_true rfl) rfl (fun G hG hR hF => ?_)
  refine pm_iconst (v := 0) hG dX0_endAllOf_0 (by decide) ?_
  refine pm_istoreXn (loc' := [some (.ref (B + 31)), some (.int za), some (.int zb), some (.int 0), none, none]) hG dX0_endAllOf_1 (by decide) (pm_c1b rfl) rfl ?_
  refine pm_aloadn hG dX0_endAllOf_2 rfl ?_
  refine pm_getf hG dX0_endAllOf_3 (flX0_25 _ rfl) rfl rfl ?_
  refine pm_callV (As := []) (rest := []) hG hR dX0_endAllOf_6 (lkX0_47 _ rfl) okV_X9_used rfl rfl (tb_used (d := 1) rfl) rfl rfl hdd (Nat.le_refl _) (Nat.le_refl _) (by decide) (pm_ki (fun v1 σ' cnt' hq => ?_))
  obtain ⟨I1, A1, rfl, rfl, h1⟩ := hv_id (kp := kp) (I := I) (A := A) h hq.2
  refine pm_istoreXi (loc' := [some (.ref (B + 31)), some (.int za), some (.int zb), some (.int 0), some (.int v1), none]) hG dX0_endAllOf_9 (by decide) (pm_c1b rfl) rfl ?_
  refine pm_iconst (v := 0) hG dX0_endAllOf_11 (by decide) ?_
  refine pm_istoreXi (loc' := [some (.ref (B + 31)), some (.int za), some (.int zb), some (.int 0), some (.int v1), some (.int 0)]) hG dX0_endAllOf_12 (by decide) (pm_c1b rfl) rfl ?_
  have loop14 : ∀ (m14 : Nat) (I2 : Nat → Int32) (A2 : Nat → Nat → Int32) (x2_3 x2_5 : Int32), gs I2 → ((v1 : Int32).toInt - x2_5.toInt).toNat < m14 → pm_wp mX0_endAllOf G B 14 [some (.ref (B + 31)), some (.int za), some (.int zb), some (.int x2_3), some (.int v1), some (.int x2_5)] [] 0 0 cnt (pm_two (cl_L B kp I2 A2) ρ) := by
    intro m14
    induction m14 with
    | zero => intro I2 A2 x2_3 x2_5 _  hm; exact absurd hm (Nat.not_lt_zero _)
    | succ m14 ih14 =>
      intro I2 A2 x2_3 x2_5 h2  hm14
      refine pm_iloadi hG dX0_endAllOf_14 rfl ?_
      refine pm_iloadi hG dX0_endAllOf_16 rfl ?_
      refine pm_icmp_ge (tgt := 64) hG dX0_endAllOf_18 rfl (fun c3 => ?_) (fun c3 => ?_)
      · refine pm_iloadn hG dX0_endAllOf_64 rfl ?_
        exact pm_iret hG hF dX0_endAllOf_65 rfl (Nat.le_refl _) (Nat.le_refl _) ⟨_, rfl, _, _, rfl, rfl, h2⟩
      · refine pm_aloadn hG dX0_endAllOf_21 rfl ?_
        refine pm_iloadi hG dX0_endAllOf_22 rfl ?_
        refine pm_callV (As := [.int x2_5]) (rest := []) hG hR dX0_endAllOf_24 (lkX0_51 _ rfl) okV_X0_stands rfl rfl (g_X0_stands (d := 1) (by decide) h2) rfl rfl hdd (Nat.le_refl _) (Nat.le_refl _) (by decide) (pm_ki (fun v4 σ' cnt' hq => ?_))
        obtain ⟨b4, I4, A4, rfl, rfl, h4⟩ := hq
        refine pm_if_eq (tgt := 58) hG dX0_endAllOf_27 rfl (fun c5 => ?_) (fun c5 => ?_)
        · refine pm_iincX (v := x2_5 + 1) (loc' := [some (.ref (B + 31)), some (.int za), some (.int zb), some (.int x2_3), some (.int v1), some (.int (x2_5 + 1))]) hG dX0_endAllOf_58 rfl (by rfl) (by decide) (pm_c1b rfl) rfl ?_
          refine pm_goto (tgt := 14) hG dX0_endAllOf_61 rfl ?_
          exact ih14 _ _ x2_3 (x2_5 + 1) h4 (Nat.lt_of_lt_of_le (pm_mu1 c3) (Nat.le_of_lt_succ hm14))
        · refine pm_aloadn hG dX0_endAllOf_30 rfl ?_
          refine pm_getf hG dX0_endAllOf_31 (flX0_25 _ rfl) rfl rfl ?_
          refine pm_iloadi hG dX0_endAllOf_34 rfl ?_
          refine pm_iconst (v := 0) hG dX0_endAllOf_36 (by decide) ?_
          refine pm_callV (As := [.int x2_5, .int 0]) (rest := []) hG hR dX0_endAllOf_37 (lkX0_39 _ rfl) okV_X9_get rfl rfl (tb_get (d := 1) rfl rfl (pm_tw_of 30 5 (by decide) (by decide) (by decide))) rfl rfl hdd (Nat.le_refl _) (Nat.le_refl _) (by decide) (pm_ki (fun v6 σ' cnt' hq => ?_))
          obtain ⟨I6, A6, rfl, rfl, h6⟩ := hv_id (kp := kp) (I := I4) (A := A4) h4 hq.2
          refine pm_iloadn hG dX0_endAllOf_40 rfl ?_
          refine pm_icmp_ne (tgt := 58) hG dX0_endAllOf_41 rfl (fun c7 => ?_) (fun c7 => ?_)
          · refine pm_iincX (v := x2_5 + 1) (loc' := [some (.ref (B + 31)), some (.int za), some (.int zb), some (.int x2_3), some (.int v1), some (.int (x2_5 + 1))]) hG dX0_endAllOf_58 rfl (by rfl) (by decide) (pm_c1b rfl) rfl ?_
            refine pm_goto (tgt := 14) hG dX0_endAllOf_61 rfl ?_
            exact ih14 _ _ x2_3 (x2_5 + 1) h6 (Nat.lt_of_lt_of_le (pm_mu1 c3) (Nat.le_of_lt_succ hm14))
          · refine pm_aloadn hG dX0_endAllOf_44 rfl ?_
            refine pm_getf hG dX0_endAllOf_45 (flX0_25 _ rfl) rfl rfl ?_
            refine pm_iloadi hG dX0_endAllOf_48 rfl ?_
            refine pm_iconst (v := 4) hG dX0_endAllOf_50 (by decide) ?_
            refine pm_iloadn hG dX0_endAllOf_51 rfl ?_
            refine pm_callV (As := [.int x2_5, .int 4, .int zb]) (rest := []) hG hR dX0_endAllOf_52 (lkX0_55 _ rfl) okV_X9_set rfl rfl (tb_set (d := 1) rfl rfl (pm_tw_of 30 5 (by decide) (by decide) (by decide)) (by decide)) rfl rfl hdd (Nat.le_refl _) (Nat.le_refl _) (by decide) (pm_kv (fun σ' cnt' hq => ?_))
            obtain ⟨I8, A8, rfl, rfl, h8⟩ := hv_a19 (kp := kp) (I := I6) (A := A6) h6 hq
            refine pm_iincX (v := x2_3 + 1) (loc' := [some (.ref (B + 31)), some (.int za), some (.int zb), some (.int (x2_3 + 1)), some (.int v1), some (.int x2_5)]) hG dX0_endAllOf_55 rfl (by rfl) (by decide) (pm_c1b rfl) rfl ?_
            refine pm_iincX (v := x2_5 + 1) (loc' := [some (.ref (B + 31)), some (.int za), some (.int zb), some (.int (x2_3 + 1)), some (.int v1), some (.int (x2_5 + 1))]) hG dX0_endAllOf_58 rfl (by rfl) (by decide) (pm_c1b rfl) rfl ?_
            refine pm_goto (tgt := 14) hG dX0_endAllOf_61 rfl ?_
            exact ih14 _ _ (x2_3 + 1) (x2_5 + 1) h8 (Nat.lt_of_lt_of_le (pm_mu1 c3) (Nat.le_of_lt_succ hm14))
  exact loop14 _ _ _ 0 0 h1 (Nat.lt_succ_self _)

set_option maxRecDepth 100000 in
set_option maxHeartbeats 4000000 in
theorem g_X0_breakAllOf {d B cnt : Nat} {kp : Value} {ρ : pm_S} {I : Nat → Int32} {A : Nat → Nat → Int32} {za : Int32} (hdd : 3 ≤ d) (h : gs I) : pm_met mX0_breakAllOf d 0 0 B [.ref (B + 31), .int za] cnt (pm_two (cl_L B kp I A) ρ) (pm_Qi (fun _ σ' cnt' => hvc B kp ρ cnt σ' cnt')) := by
  refine pm_enter 0 (by decide) (Nat.le_of_ble_eq_true rfl) rfl (fun G hG hR hF => ?_)
  refine pm_aloadn hG dX0_breakAllOf_0 rfl ?_
  refine pm_iloadn hG dX0_breakAllOf_1 rfl ?_
  refine pm_iconst (v := 2) hG dX0_breakAllOf_2 (by decide) ?_
  refine pm_callV (As := [.int za, .int 2]) (rest := []) hG hR dX0_breakAllOf_3 (lkX0_66 _ rfl) okV_X0_endAllOf rfl rfl (g_X0_endAllOf (d := 2) (by decide) h) rfl rfl hdd (Nat.le_refl _) (Nat.le_refl _) (by decide) (pm_ki (fun v1 σ' cnt' hq => ?_))
  obtain ⟨I1, A1, rfl, rfl, h1⟩ := hq
  exact pm_iret hG hF dX0_breakAllOf_6 rfl (Nat.le_refl _) (Nat.le_refl _) ⟨_, rfl, _, _, rfl, rfl, h1⟩

set_option maxRecDepth 100000 in
set_option maxHeartbeats 4000000 in
theorem g_X0_isCarriedWith {d B cnt : Nat} {kp : Value} {ρ : pm_S} {I : Nat → Int32} {A : Nat → Nat → Int32} {za : Int32} (hdd : 1 ≤ d) (h : gs I) : pm_met mX0_isCarriedWith d 0 0 B [.ref (B + 31), .int za] cnt (pm_two (cl_L B kp I A) ρ) (pm_Qi (fun v σ' cnt' => (v = 0 ∨ v = 1) ∧ hvc B kp ρ cnt σ' cnt')) := by
  refine pm_enter 0 (by decide) (Nat.le_of_ble_eq_true rfl) rfl (fun G hG hR hF => ?_)
  refine pm_iconst (v := 2) hG dX0_isCarriedWith_0 (by decide) ?_
  refine pm_aloadn hG dX0_isCarriedWith_1 rfl ?_
  refine pm_getf hG dX0_isCarriedWith_2 (flX0_69 _ rfl) rfl rfl ?_
  refine pm_iloadn hG dX0_isCarriedWith_5 rfl ?_
  refine pm_iadd hG dX0_isCarriedWith_6 ?_
  refine pm_imul hG dX0_isCarriedWith_7 ?_
  refine pm_aloadn hG dX0_isCarriedWith_8 rfl ?_
  refine pm_getf hG dX0_isCarriedWith_9 (flX0_72 _ rfl) rfl rfl ?_
  refine pm_icmp_le (tgt := 19) hG dX0_isCarriedWith_12 rfl (fun c1 => ?_) (fun c1 => ?_)
  · refine pm_iconst (v := 0) hG dX0_isCarriedWith_19 (by decide) ?_
    exact pm_zret hG hF dX0_isCarriedWith_20 rfl (pm_nz (Or.inl rfl)) (Nat.le_refl _) (Nat.le_refl _) ⟨_, rfl, (Or.inl rfl), _, _, rfl, rfl, h⟩
  · refine pm_iconst (v := 1) hG dX0_isCarriedWith_15 (by decide) ?_
    refine pm_goto (tgt := 20) hG dX0_isCarriedWith_16 rfl ?_
    exact pm_zret hG hF dX0_isCarriedWith_20 rfl (pm_nz (Or.inr rfl)) (Nat.le_refl _) (Nat.le_refl _) ⟨_, rfl, (Or.inr rfl), _, _, rfl, rfl, h⟩

set_option maxRecDepth 100000 in
set_option maxHeartbeats 4000000 in
theorem g_X7_knownTo {d B cnt : Nat} {kp : Value} {ρ : pm_S} {I : Nat → Int32} {A : Nat → Nat → Int32} {za : Int32} (hdd : 1 ≤ d) (h : gs I) : pm_met mX7_knownTo d 0 0 B [.ref (B + 1), .int za] cnt (pm_two (cl_L B kp I A) ρ) (pm_Qi (fun _ σ' cnt' => hvc B kp ρ cnt σ' cnt')) := by
  refine pm_enter 3 (by decide) (Nat.le_of_ble_eq_true rfl) rfl (fun G hG hR hF => ?_)
  refine pm_aloadn hG dX7_knownTo_0 rfl ?_
  refine pm_getf hG dX7_knownTo_1 (flX7_23 _ rfl) rfl rfl ?_
  refine pm_iloadn hG dX7_knownTo_4 rfl ?_
  refine pm_bipush (v := 10) hG dX7_knownTo_5 (by decide) ?_
  refine pm_callV (As := [.int za, .int 10]) (rest := []) hG hR dX7_knownTo_7 (lkX7_83 _ rfl) okV_X9_get rfl rfl (tb_get (d := 0) rfl rfl (pm_tw_of 20 14 (by decide) (by decide) (by decide))) rfl rfl hdd (Nat.le_refl _) (Nat.le_refl _) (by decide) (pm_ki (fun v1 σ' cnt' hq => ?_))
  obtain ⟨I1, A1, rfl, rfl, h1⟩ := hv_id (kp := kp) (I := I) (A := A) h hq.2
  refine pm_istoreXn (loc' := [some (.ref (B + 1)), some (.int za), some (.int v1), none, none]) hG dX7_knownTo_10 (by decide) (pm_c1b rfl) rfl ?_
  refine pm_aloadn hG dX7_knownTo_11 rfl ?_
  refine pm_getf hG dX7_knownTo_12 (flX7_23 _ rfl) rfl rfl ?_
  refine pm_iloadn hG dX7_knownTo_15 rfl ?_
  refine pm_iconst (v := 4) hG dX7_knownTo_16 (by decide) ?_
  refine pm_callV (As := [.int za, .int 4]) (rest := []) hG hR dX7_knownTo_17 (lkX7_83 _ rfl) okV_X9_get rfl rfl (tb_get (d := 0) rfl rfl (pm_tw_of 20 14 (by decide) (by decide) (by decide))) rfl rfl hdd (Nat.le_refl _) (Nat.le_refl _) (by decide) (pm_ki (fun v2 σ' cnt' hq => ?_))
  obtain ⟨I2, A2, rfl, rfl, h2⟩ := hv_id (kp := kp) (I := I1) (A := A1) h1 hq.2
  refine pm_istoreXn (loc' := [some (.ref (B + 1)), some (.int za), some (.int v1), some (.int v2), none]) hG dX7_knownTo_20 (by decide) (pm_c1b rfl) rfl ?_
  refine pm_iloadn hG dX7_knownTo_21 rfl ?_
  refine pm_if_lt (tgt := 38) hG dX7_knownTo_22 rfl (fun c3 => ?_) (fun c3 => ?_)
  · refine pm_iloadn hG dX7_knownTo_38 rfl ?_
    exact pm_iret hG hF dX7_knownTo_39 rfl (Nat.le_refl _) (Nat.le_refl _) ⟨_, rfl, _, _, rfl, rfl, h2⟩
  · refine pm_aloadn hG dX7_knownTo_25 rfl ?_
    refine pm_getf hG dX7_knownTo_26 (flX7_23 _ rfl) rfl rfl ?_
    refine pm_iloadn hG dX7_knownTo_29 rfl ?_
    refine pm_bipush (v := 9) hG dX7_knownTo_30 (by decide) ?_
    refine pm_callV (As := [.int za, .int 9]) (rest := []) hG hR dX7_knownTo_32 (lkX7_83 _ rfl) okV_X9_get rfl rfl (tb_get (d := 0) rfl rfl (pm_tw_of 20 14 (by decide) (by decide) (by decide))) rfl rfl hdd (Nat.le_refl _) (Nat.le_refl _) (by decide) (pm_ki (fun v4 σ' cnt' hq => ?_))
    obtain ⟨I4, A4, rfl, rfl, h4⟩ := hv_id (kp := kp) (I := I2) (A := A2) h2 hq.2
    refine pm_if_eq (tgt := 40) hG dX7_knownTo_35 rfl (fun c5 => ?_) (fun c5 => ?_)
    · refine pm_aloadn hG dX7_knownTo_40 rfl ?_
      refine pm_getf hG dX7_knownTo_41 (flX7_20 _ rfl) rfl rfl ?_
      refine pm_iconst (v := 0) hG dX7_knownTo_44 (by decide) ?_
      refine pm_iloadn hG dX7_knownTo_45 rfl ?_
      refine pm_callV (As := [.int 0, .int v2]) (rest := []) hG hR dX7_knownTo_46 (lkX7_83 _ rfl) okV_X9_get rfl rfl (tb_get (d := 0) rfl rfl (pm_tw_of 10 10 (by decide) (by decide) (by decide))) rfl rfl hdd (Nat.le_refl _) (Nat.le_refl _) (by decide) (pm_ki (fun v6 σ' cnt' hq => ?_))
      obtain ⟨I6, A6, rfl, rfl, h6⟩ := hv_id (kp := kp) (I := I4) (A := A4) h4 hq.2
      refine pm_istoreXi (loc' := [some (.ref (B + 1)), some (.int za), some (.int v1), some (.int v2), some (.int v6)]) hG dX7_knownTo_49 (by decide) (pm_c1b rfl) rfl ?_
      refine pm_iloadi hG dX7_knownTo_51 rfl ?_
      refine pm_sipush (v := 1000) hG dX7_knownTo_53 (by decide) ?_
      refine pm_icmp_lt (tgt := 63) hG dX7_knownTo_56 rfl (fun c7 => ?_) (fun c7 => ?_)
      · refine pm_iloadn hG dX7_knownTo_63 rfl ?_
        refine pm_aloadn hG dX7_knownTo_64 rfl ?_
        refine pm_getf hG dX7_knownTo_65 (flX7_72 _ rfl) rfl rfl ?_
        refine pm_iloadi hG dX7_knownTo_68 rfl ?_
        refine pm_isub hG dX7_knownTo_70 ?_
        refine pm_mmax hG hR dX7_knownTo_71 (mmX7_106 _ rfl) pm_mwmax (by omega) (by first | decide | exact Nat.le_of_ble_eq_true rfl) (Nat.le_refl _) (Nat.le_refl _) ?_
        exact pm_iret hG hF dX7_knownTo_74 rfl (Nat.le_refl _) (Nat.le_refl _) ⟨_, rfl, _, _, rfl, rfl, h6⟩
      · refine pm_iloadn hG dX7_knownTo_59 rfl ?_
        refine pm_goto (tgt := 74) hG dX7_knownTo_60 rfl ?_
        exact pm_iret hG hF dX7_knownTo_74 rfl (Nat.le_refl _) (Nat.le_refl _) ⟨_, rfl, _, _, rfl, rfl, h6⟩
    · refine pm_iloadn hG dX7_knownTo_38 rfl ?_
      exact pm_iret hG hF dX7_knownTo_39 rfl (Nat.le_refl _) (Nat.le_refl _) ⟨_, rfl, _, _, rfl, rfl, h4⟩

set_option maxRecDepth 100000 in
set_option maxHeartbeats 4000000 in
theorem g_X2_inForce {d B cnt : Nat} {kp : Value} {ρ : pm_S} {I : Nat → Int32} {A : Nat → Nat → Int32} {za zb zc : Int32} (hdd : 1 ≤ d) (h : gs I) : pm_met mX2_inForce d 0 0 B [.ref (B + 26), .int za, .int zb, .int zc] cnt (pm_two (cl_L B kp I A) ρ) (pm_Qi (fun _ σ' cnt' => hvc B kp ρ cnt σ' cnt')) := by
  refine pm_enter 2 (by decide) (Nat.le_of_ble_eq_true rfl) rfl (fun G hG hR hF => ?_)
  refine pm_aloadn hG dX2_inForce_0 rfl ?_
  refine pm_getf hG dX2_inForce_1 (flX2_9 _ rfl) rfl rfl ?_
  refine pm_getf hG dX2_inForce_4 (flX2_43 _ rfl) rfl rfl ?_
  refine pm_callV (As := []) (rest := []) hG hR dX2_inForce_7 (lkX2_53 _ rfl) okV_X9_used rfl rfl (tb_used (d := 0) rfl) rfl rfl hdd (Nat.le_refl _) (Nat.le_refl _) (by decide) (pm_ki (fun v1 σ' cnt' hq => ?_))
  obtain ⟨I1, A1, rfl, rfl, h1⟩ := hv_id (kp := kp) (I := I) (A := A) h hq.2
  refine pm_iconst (v := 1) hG dX2_inForce_10 (by decide) ?_
  refine pm_isub hG dX2_inForce_11 ?_
  refine pm_istoreXi (loc' := [some (.ref (B + 26)), some (.int za), some (.int zb), some (.int zc), some (.int (v1 - 1)), none]) hG dX2_inForce_12 (by decide) (pm_c1b rfl) rfl ?_
  have loop14 : ∀ (m14 : Nat) (I2 : Nat → Int32) (A2 : Nat → Nat → Int32) (x2_4 : Int32), gs I2 → (x2_4.toInt + 1 - (0 : Int32).toInt).toNat < m14 → pm_wp mX2_inForce G B 14 [some (.ref (B + 26)), some (.int za), some (.int zb), some (.int zc), some (.int x2_4), none] [] 0 0 cnt (pm_two (cl_L B kp I2 A2) ρ) := by
    intro m14
    induction m14 with
    | zero => intro I2 A2 x2_4 _  hm; exact absurd hm (Nat.not_lt_zero _)
    | succ m14 ih14 =>
      intro I2 A2 x2_4 h2  hm14
      refine pm_iloadi hG dX2_inForce_14 rfl ?_
      refine pm_if_lt (tgt := 105) hG dX2_inForce_16 rfl (fun c3 => ?_) (fun c3 => ?_)
      · refine pm_iconst (v := (-1)) hG dX2_inForce_105 (by decide) ?_
        exact pm_iret hG hF dX2_inForce_106 rfl (Nat.le_refl _) (Nat.le_refl _) ⟨_, rfl, _, _, rfl, rfl, h2⟩
      · refine pm_aloadn hG dX2_inForce_19 rfl ?_
        refine pm_getf hG dX2_inForce_20 (flX2_9 _ rfl) rfl rfl ?_
        refine pm_getf hG dX2_inForce_23 (flX2_43 _ rfl) rfl rfl ?_
        refine pm_iloadi hG dX2_inForce_26 rfl ?_
        refine pm_iconst (v := 3) hG dX2_inForce_28 (by decide) ?_
        refine pm_callV (As := [.int x2_4, .int 3]) (rest := []) hG hR dX2_inForce_29 (lkX2_67 _ rfl) okV_X9_get rfl rfl (tb_get (d := 0) rfl rfl (pm_tw_of 12 6 (by decide) (by decide) (by decide))) rfl rfl hdd (Nat.le_refl _) (Nat.le_refl _) (by decide) (pm_ki (fun v4 σ' cnt' hq => ?_))
        obtain ⟨I4, A4, rfl, rfl, h4⟩ := hv_id (kp := kp) (I := I2) (A := A2) h2 hq.2
        refine pm_istoreXi (loc' := [some (.ref (B + 26)), some (.int za), some (.int zb), some (.int zc), some (.int x2_4), some (.int v4)]) hG dX2_inForce_32 (by decide) (pm_c1b rfl) rfl ?_
        refine pm_aloadn hG dX2_inForce_34 rfl ?_
        refine pm_getf hG dX2_inForce_35 (flX2_9 _ rfl) rfl rfl ?_
        refine pm_getf hG dX2_inForce_38 (flX2_43 _ rfl) rfl rfl ?_
        refine pm_iloadi hG dX2_inForce_41 rfl ?_
        refine pm_iconst (v := 0) hG dX2_inForce_43 (by decide) ?_
        refine pm_callV (As := [.int x2_4, .int 0]) (rest := []) hG hR dX2_inForce_44 (lkX2_67 _ rfl) okV_X9_get rfl rfl (tb_get (d := 0) rfl rfl (pm_tw_of 12 6 (by decide) (by decide) (by decide))) rfl rfl hdd (Nat.le_refl _) (Nat.le_refl _) (by decide) (pm_ki (fun v5 σ' cnt' hq => ?_))
        obtain ⟨I5, A5, rfl, rfl, h5⟩ := hv_id (kp := kp) (I := I4) (A := A4) h4 hq.2
        refine pm_iloadn hG dX2_inForce_47 rfl ?_
        refine pm_icmp_ne (tgt := 99) hG dX2_inForce_48 rfl (fun c6 => ?_) (fun c6 => ?_)
        · refine pm_iincX (v := x2_4 + (-1)) (loc' := [some (.ref (B + 26)), some (.int za), some (.int zb), some (.int zc), some (.int (x2_4 + (-1))), some (.int v4)]) hG dX2_inForce_99 rfl (by rfl) (by decide) (pm_c1b rfl) rfl ?_
          refine pm_goto (tgt := 14) hG dX2_inForce_102 rfl ?_
          refine pm_fg 5 (loc' := [some (.ref (B + 26)), some (.int za), some (.int zb), some (.int zc), some (.int (x2_4 + (-1))), none]) rfl ?_
          exact ih14 _ _ (x2_4 + (-1)) h5 (Nat.lt_of_lt_of_le (pm_md1 c3 (by decide)) (Nat.le_of_lt_succ hm14))
        · refine pm_aloadn hG dX2_inForce_51 rfl ?_
          refine pm_getf hG dX2_inForce_52 (flX2_9 _ rfl) rfl rfl ?_
          refine pm_getf hG dX2_inForce_55 (flX2_43 _ rfl) rfl rfl ?_
          refine pm_iloadi hG dX2_inForce_58 rfl ?_
          refine pm_iconst (v := 2) hG dX2_inForce_60 (by decide) ?_
          refine pm_callV (As := [.int x2_4, .int 2]) (rest := []) hG hR dX2_inForce_61 (lkX2_67 _ rfl) okV_X9_get rfl rfl (tb_get (d := 0) rfl rfl (pm_tw_of 12 6 (by decide) (by decide) (by decide))) rfl rfl hdd (Nat.le_refl _) (Nat.le_refl _) (by decide) (pm_ki (fun v7 σ' cnt' hq => ?_))
          obtain ⟨I7, A7, rfl, rfl, h7⟩ := hv_id (kp := kp) (I := I5) (A := A5) h5 hq.2
          refine pm_iloadn hG dX2_inForce_64 rfl ?_
          refine pm_icmp_gt (tgt := 99) hG dX2_inForce_65 rfl (fun c8 => ?_) (fun c8 => ?_)
          · refine pm_iincX (v := x2_4 + (-1)) (loc' := [some (.ref (B + 26)), some (.int za), some (.int zb), some (.int zc), some (.int (x2_4 + (-1))), some (.int v4)]) hG dX2_inForce_99 rfl (by rfl) (by decide) (pm_c1b rfl) rfl ?_
            refine pm_goto (tgt := 14) hG dX2_inForce_102 rfl ?_
            refine pm_fg 5 (loc' := [some (.ref (B + 26)), some (.int za), some (.int zb), some (.int zc), some (.int (x2_4 + (-1))), none]) rfl ?_
            exact ih14 _ _ (x2_4 + (-1)) h7 (Nat.lt_of_lt_of_le (pm_md1 c3 (by decide)) (Nat.le_of_lt_succ hm14))
          · refine pm_iloadi hG dX2_inForce_68 rfl ?_
            refine pm_if_lt (tgt := 79) hG dX2_inForce_70 rfl (fun c9 => ?_) (fun c9 => ?_)
            · refine pm_aloadn hG dX2_inForce_79 rfl ?_
              refine pm_getf hG dX2_inForce_80 (flX2_9 _ rfl) rfl rfl ?_
              refine pm_getf hG dX2_inForce_83 (flX2_43 _ rfl) rfl rfl ?_
              refine pm_iloadi hG dX2_inForce_86 rfl ?_
              refine pm_iconst (v := 1) hG dX2_inForce_88 (by decide) ?_
              refine pm_callV (As := [.int x2_4, .int 1]) (rest := []) hG hR dX2_inForce_89 (lkX2_67 _ rfl) okV_X9_get rfl rfl (tb_get (d := 0) rfl rfl (pm_tw_of 12 6 (by decide) (by decide) (by decide))) rfl rfl hdd (Nat.le_refl _) (Nat.le_refl _) (by decide) (pm_ki (fun v10 σ' cnt' hq => ?_))
              obtain ⟨I10, A10, rfl, rfl, h10⟩ := hv_id (kp := kp) (I := I7) (A := A7) h7 hq.2
              refine pm_iloadn hG dX2_inForce_92 rfl ?_
              refine pm_icmp_gt (tgt := 99) hG dX2_inForce_93 rfl (fun c11 => ?_) (fun c11 => ?_)
              · refine pm_iincX (v := x2_4 + (-1)) (loc' := [some (.ref (B + 26)), some (.int za), some (.int zb), some (.int zc), some (.int (x2_4 + (-1))), some (.int v4)]) hG dX2_inForce_99 rfl (by rfl) (by decide) (pm_c1b rfl) rfl ?_
                refine pm_goto (tgt := 14) hG dX2_inForce_102 rfl ?_
                refine pm_fg 5 (loc' := [some (.ref (B + 26)), some (.int za), some (.int zb), some (.int zc), some (.int (x2_4 + (-1))), none]) rfl ?_
                exact ih14 _ _ (x2_4 + (-1)) h10 (Nat.lt_of_lt_of_le (pm_md1 c3 (by decide)) (Nat.le_of_lt_succ hm14))
              · refine pm_iloadi hG dX2_inForce_96 rfl ?_
                exact pm_iret hG hF dX2_inForce_98 rfl (Nat.le_refl _) (Nat.le_refl _) ⟨_, rfl, _, _, rfl, rfl, h10⟩
            · refine pm_iloadi hG dX2_inForce_73 rfl ?_
              refine pm_iloadn hG dX2_inForce_75 rfl ?_
              refine pm_icmp_le (tgt := 99) hG dX2_inForce_76 rfl (fun c12 => ?_) (fun c12 => ?_)
              · refine pm_iincX (v := x2_4 + (-1)) (loc' := [some (.ref (B + 26)), some (.int za), some (.int zb), some (.int zc), some (.int (x2_4 + (-1))), some (.int v4)]) hG dX2_inForce_99 rfl (by rfl) (by decide) (pm_c1b rfl) rfl ?_
                refine pm_goto (tgt := 14) hG dX2_inForce_102 rfl ?_
                refine pm_fg 5 (loc' := [some (.ref (B + 26)), some (.int za), some (.int zb), some (.int zc), some (.int (x2_4 + (-1))), none]) rfl ?_
                exact ih14 _ _ (x2_4 + (-1)) h7 (Nat.lt_of_lt_of_le (pm_md1 c3 (by decide)) (Nat.le_of_lt_succ hm14))
              · refine pm_aloadn hG dX2_inForce_79 rfl ?_
                refine pm_getf hG dX2_inForce_80 (flX2_9 _ rfl) rfl rfl ?_
                refine pm_getf hG dX2_inForce_83 (flX2_43 _ rfl) rfl rfl ?_
                refine pm_iloadi hG dX2_inForce_86 rfl ?_
                refine pm_iconst (v := 1) hG dX2_inForce_88 (by decide) ?_
                refine pm_callV (As := [.int x2_4, .int 1]) (rest := []) hG hR dX2_inForce_89 (lkX2_67 _ rfl) okV_X9_get rfl rfl (tb_get (d := 0) rfl rfl (pm_tw_of 12 6 (by decide) (by decide) (by decide))) rfl rfl hdd (Nat.le_refl _) (Nat.le_refl _) (by decide) (pm_ki (fun v13 σ' cnt' hq => ?_))
                obtain ⟨I13, A13, rfl, rfl, h13⟩ := hv_id (kp := kp) (I := I7) (A := A7) h7 hq.2
                refine pm_iloadn hG dX2_inForce_92 rfl ?_
                refine pm_icmp_gt (tgt := 99) hG dX2_inForce_93 rfl (fun c14 => ?_) (fun c14 => ?_)
                · refine pm_iincX (v := x2_4 + (-1)) (loc' := [some (.ref (B + 26)), some (.int za), some (.int zb), some (.int zc), some (.int (x2_4 + (-1))), some (.int v4)]) hG dX2_inForce_99 rfl (by rfl) (by decide) (pm_c1b rfl) rfl ?_
                  refine pm_goto (tgt := 14) hG dX2_inForce_102 rfl ?_
                  refine pm_fg 5 (loc' := [some (.ref (B + 26)), some (.int za), some (.int zb), some (.int zc), some (.int (x2_4 + (-1))), none]) rfl ?_
                  exact ih14 _ _ (x2_4 + (-1)) h13 (Nat.lt_of_lt_of_le (pm_md1 c3 (by decide)) (Nat.le_of_lt_succ hm14))
                · refine pm_iloadi hG dX2_inForce_96 rfl ?_
                  exact pm_iret hG hF dX2_inForce_98 rfl (Nat.le_refl _) (Nat.le_refl _) ⟨_, rfl, _, _, rfl, rfl, h13⟩
  exact loop14 _ _ _ (v1 - 1) h1 (Nat.lt_succ_self _)

set_option maxRecDepth 100000 in
set_option maxHeartbeats 4000000 in
theorem g_X0_ruleInForce {d B cnt : Nat} {kp : Value} {ρ : pm_S} {I : Nat → Int32} {A : Nat → Nat → Int32} (hdd : 2 ≤ d) (h : gs I) : pm_met mX0_ruleInForce d 0 0 B [.ref (B + 31)] cnt (pm_two (cl_L B kp I A) ρ) (pm_Qi (fun _ σ' cnt' => hvc B kp ρ cnt σ' cnt')) := by
  refine pm_enter 2 (by decide) (Nat.le_of_ble_eq_true rfl) rfl (fun G hG hR hF => ?_)
  refine pm_aloadn hG dX0_ruleInForce_0 rfl ?_
  refine pm_getf hG dX0_ruleInForce_1 (flX0_9 _ rfl) rfl rfl ?_
  refine pm_getf hG dX0_ruleInForce_4 (flX0_63 _ rfl) rfl rfl ?_
  refine pm_callV (As := []) (rest := []) hG hR dX0_ruleInForce_7 (lkX0_47 _ rfl) okV_X9_used rfl rfl (tb_used (d := 1) rfl) rfl rfl hdd (Nat.le_refl _) (Nat.le_refl _) (by decide) (pm_ki (fun v1 σ' cnt' hq => ?_))
  obtain ⟨I1, A1, rfl, rfl, h1⟩ := hv_id (kp := kp) (I := I) (A := A) h hq.2
  refine pm_istoreXn (loc' := [some (.ref (B + 31)), some (.int v1), none]) hG dX0_ruleInForce_10 (by decide) (pm_c1b rfl) rfl ?_
  refine pm_iconst (v := 0) hG dX0_ruleInForce_11 (by decide) ?_
  refine pm_istoreXn (loc' := [some (.ref (B + 31)), some (.int v1), some (.int 0)]) hG dX0_ruleInForce_12 (by decide) (pm_c1b rfl) rfl ?_
  have loop13 : ∀ (m13 : Nat) (I2 : Nat → Int32) (A2 : Nat → Nat → Int32) (x2_2 : Int32), gs I2 → ((v1 : Int32).toInt - x2_2.toInt).toNat < m13 → pm_wp mX0_ruleInForce G B 13 [some (.ref (B + 31)), some (.int v1), some (.int x2_2)] [] 0 0 cnt (pm_two (cl_L B kp I2 A2) ρ) := by
    intro m13
    induction m13 with
    | zero => intro I2 A2 x2_2 _  hm; exact absurd hm (Nat.not_lt_zero _)
    | succ m13 ih13 =>
      intro I2 A2 x2_2 h2  hm13
      refine pm_iloadn hG dX0_ruleInForce_13 rfl ?_
      refine pm_iloadn hG dX0_ruleInForce_14 rfl ?_
      refine pm_icmp_ge (tgt := 64) hG dX0_ruleInForce_15 rfl (fun c3 => ?_) (fun c3 => ?_)
      · refine pm_iconst (v := (-1)) hG dX0_ruleInForce_64 (by decide) ?_
        exact pm_iret hG hF dX0_ruleInForce_65 rfl (Nat.le_refl _) (Nat.le_refl _) ⟨_, rfl, _, _, rfl, rfl, h2⟩
      · refine pm_aloadn hG dX0_ruleInForce_18 rfl ?_
        refine pm_getf hG dX0_ruleInForce_19 (flX0_9 _ rfl) rfl rfl ?_
        refine pm_getf hG dX0_ruleInForce_22 (flX0_63 _ rfl) rfl rfl ?_
        refine pm_iloadn hG dX0_ruleInForce_25 rfl ?_
        refine pm_bipush (v := 13) hG dX0_ruleInForce_26 (by decide) ?_
        refine pm_callV (As := [.int x2_2, .int 13]) (rest := []) hG hR dX0_ruleInForce_28 (lkX0_39 _ rfl) okV_X9_get rfl rfl (tb_get (d := 1) rfl rfl (pm_tw_of 20 14 (by decide) (by decide) (by decide))) rfl rfl hdd (Nat.le_refl _) (Nat.le_refl _) (by decide) (pm_ki (fun v4 σ' cnt' hq => ?_))
        obtain ⟨I4, A4, rfl, rfl, h4⟩ := hv_id (kp := kp) (I := I2) (A := A2) h2 hq.2
        refine pm_if_eq (tgt := 58) hG dX0_ruleInForce_31 rfl (fun c5 => ?_) (fun c5 => ?_)
        · refine pm_iincX (v := x2_2 + 1) (loc' := [some (.ref (B + 31)), some (.int v1), some (.int (x2_2 + 1))]) hG dX0_ruleInForce_58 rfl (by rfl) (by decide) (pm_c1b rfl) rfl ?_
          refine pm_goto (tgt := 13) hG dX0_ruleInForce_61 rfl ?_
          exact ih13 _ _ (x2_2 + 1) h4 (Nat.lt_of_lt_of_le (pm_mu1 c3) (Nat.le_of_lt_succ hm13))
        · refine pm_aloadn hG dX0_ruleInForce_34 rfl ?_
          refine pm_getf hG dX0_ruleInForce_35 (flX0_15 _ rfl) rfl rfl ?_
          refine pm_iconst (v := 0) hG dX0_ruleInForce_38 (by decide) ?_
          refine pm_aloadn hG dX0_ruleInForce_39 rfl ?_
          refine pm_getf hG dX0_ruleInForce_40 (flX0_9 _ rfl) rfl rfl ?_
          refine pm_getf hG dX0_ruleInForce_43 (flX0_43 _ rfl) rfl rfl ?_
          refine pm_aloadn hG dX0_ruleInForce_46 rfl ?_
          refine pm_getf hG dX0_ruleInForce_47 (flX0_9 _ rfl) rfl rfl ?_
          refine pm_iloadn hG dX0_ruleInForce_50 rfl ?_
          refine pm_callV (As := [.int x2_2]) (rest := [.int (I4 102), .int 0, .ref (B + 26)]) hG hR dX0_ruleInForce_51 (lkX0_91 _ rfl) okV_X7_knownTo rfl rfl (g_X7_knownTo (d := 1) (by decide) h4) rfl rfl hdd (Nat.le_refl _) (Nat.le_refl _) (by first | decide | exact Nat.le_of_ble_eq_true rfl) (pm_ki (fun v6 σ' cnt' hq => ?_))
          obtain ⟨I6, A6, rfl, rfl, h6⟩ := hq
          refine pm_callV (As := [.int 0, .int (I4 102), .int v6]) (rest := []) hG hR dX0_ruleInForce_54 (lkX0_94 _ rfl) okV_X2_inForce rfl rfl (g_X2_inForce (d := 1) (by decide) h6) rfl rfl hdd (Nat.le_refl _) (Nat.le_refl _) (by decide) (pm_ki (fun v7 σ' cnt' hq => ?_))
          obtain ⟨I7, A7, rfl, rfl, h7⟩ := hq
          exact pm_iret hG hF dX0_ruleInForce_57 rfl (Nat.le_refl _) (Nat.le_refl _) ⟨_, rfl, _, _, rfl, rfl, h7⟩
  exact loop13 _ _ _ 0 h1 (Nat.lt_succ_self _)

set_option maxRecDepth 100000 in
set_option maxHeartbeats 4000000 in
theorem g_X0_firstBroken {d B cnt : Nat} {kp : Value} {ρ : pm_S} {I : Nat → Int32} {A : Nat → Nat → Int32} {za : Int32} (hdd : 1 ≤ d) (h : gs I) : pm_met mX0_firstBroken d 0 0 B [.ref (B + 31), .int za] cnt (pm_two (cl_L B kp I A) ρ) (pm_Qi (fun _ σ' cnt' => hvc B kp ρ cnt σ' cnt')) := by
  refine pm_enter 2 (by decide) (Nat.le_of_ble_eq_true rfl) rfl (fun G hG hR hF => ?_)
  refine pm_aloadn hG dX0_firstBroken_0 rfl ?_
  refine pm_getf hG dX0_firstBroken_1 (flX0_25 _ rfl) rfl rfl ?_
  refine pm_callV (As := []) (rest := []) hG hR dX0_firstBroken_4 (lkX0_47 _ rfl) okV_X9_used rfl rfl (tb_used (d := 0) rfl) rfl rfl hdd (Nat.le_refl _) (Nat.le_refl _) (by decide) (pm_ki (fun v1 σ' cnt' hq => ?_))
  obtain ⟨I1, A1, rfl, rfl, h1⟩ := hv_id (kp := kp) (I := I) (A := A) h hq.2
  refine pm_istoreXn (loc' := [some (.ref (B + 31)), some (.int za), some (.int v1), none]) hG dX0_firstBroken_7 (by decide) (pm_c1b rfl) rfl ?_
  refine pm_iconst (v := 0) hG dX0_firstBroken_8 (by decide) ?_
  refine pm_istoreXn (loc' := [some (.ref (B + 31)), some (.int za), some (.int v1), some (.int 0)]) hG dX0_firstBroken_9 (by decide) (pm_c1b rfl) rfl ?_
  have loop10 : ∀ (m10 : Nat) (I2 : Nat → Int32) (A2 : Nat → Nat → Int32) (x2_3 : Int32), gs I2 → ((v1 : Int32).toInt - x2_3.toInt).toNat < m10 → pm_wp mX0_firstBroken G B 10 [some (.ref (B + 31)), some (.int za), some (.int v1), some (.int x2_3)] [] 0 0 cnt (pm_two (cl_L B kp I2 A2) ρ) := by
    intro m10
    induction m10 with
    | zero => intro I2 A2 x2_3 _  hm; exact absurd hm (Nat.not_lt_zero _)
    | succ m10 ih10 =>
      intro I2 A2 x2_3 h2  hm10
      refine pm_iloadn hG dX0_firstBroken_10 rfl ?_
      refine pm_iloadn hG dX0_firstBroken_11 rfl ?_
      refine pm_icmp_ge (tgt := 62) hG dX0_firstBroken_12 rfl (fun c3 => ?_) (fun c3 => ?_)
      · refine pm_iconst (v := (-1)) hG dX0_firstBroken_62 (by decide) ?_
        exact pm_iret hG hF dX0_firstBroken_63 rfl (Nat.le_refl _) (Nat.le_refl _) ⟨_, rfl, _, _, rfl, rfl, h2⟩
      · refine pm_aloadn hG dX0_firstBroken_15 rfl ?_
        refine pm_getf hG dX0_firstBroken_16 (flX0_25 _ rfl) rfl rfl ?_
        refine pm_iloadn hG dX0_firstBroken_19 rfl ?_
        refine pm_iconst (v := 4) hG dX0_firstBroken_20 (by decide) ?_
        refine pm_callV (As := [.int x2_3, .int 4]) (rest := []) hG hR dX0_firstBroken_21 (lkX0_39 _ rfl) okV_X9_get rfl rfl (tb_get (d := 0) rfl rfl (pm_tw_of 30 5 (by decide) (by decide) (by decide))) rfl rfl hdd (Nat.le_refl _) (Nat.le_refl _) (by decide) (pm_ki (fun v4 σ' cnt' hq => ?_))
        obtain ⟨I4, A4, rfl, rfl, h4⟩ := hv_id (kp := kp) (I := I2) (A := A2) h2 hq.2
        refine pm_iconst (v := 2) hG dX0_firstBroken_24 (by decide) ?_
        refine pm_icmp_ne (tgt := 56) hG dX0_firstBroken_25 rfl (fun c5 => ?_) (fun c5 => ?_)
        · refine pm_iincX (v := x2_3 + 1) (loc' := [some (.ref (B + 31)), some (.int za), some (.int v1), some (.int (x2_3 + 1))]) hG dX0_firstBroken_56 rfl (by rfl) (by decide) (pm_c1b rfl) rfl ?_
          refine pm_goto (tgt := 10) hG dX0_firstBroken_59 rfl ?_
          exact ih10 _ _ (x2_3 + 1) h4 (Nat.lt_of_lt_of_le (pm_mu1 c3) (Nat.le_of_lt_succ hm10))
        · refine pm_aloadn hG dX0_firstBroken_28 rfl ?_
          refine pm_getf hG dX0_firstBroken_29 (flX0_25 _ rfl) rfl rfl ?_
          refine pm_iloadn hG dX0_firstBroken_32 rfl ?_
          refine pm_iconst (v := 1) hG dX0_firstBroken_33 (by decide) ?_
          refine pm_callV (As := [.int x2_3, .int 1]) (rest := []) hG hR dX0_firstBroken_34 (lkX0_39 _ rfl) okV_X9_get rfl rfl (tb_get (d := 0) rfl rfl (pm_tw_of 30 5 (by decide) (by decide) (by decide))) rfl rfl hdd (Nat.le_refl _) (Nat.le_refl _) (by decide) (pm_ki (fun v6 σ' cnt' hq => ?_))
          obtain ⟨I6, A6, rfl, rfl, h6⟩ := hv_id (kp := kp) (I := I4) (A := A4) h4 hq.2
          refine pm_iloadn hG dX0_firstBroken_37 rfl ?_
          refine pm_icmp_ne (tgt := 56) hG dX0_firstBroken_38 rfl (fun c7 => ?_) (fun c7 => ?_)
          · refine pm_iincX (v := x2_3 + 1) (loc' := [some (.ref (B + 31)), some (.int za), some (.int v1), some (.int (x2_3 + 1))]) hG dX0_firstBroken_56 rfl (by rfl) (by decide) (pm_c1b rfl) rfl ?_
            refine pm_goto (tgt := 10) hG dX0_firstBroken_59 rfl ?_
            exact ih10 _ _ (x2_3 + 1) h6 (Nat.lt_of_lt_of_le (pm_mu1 c3) (Nat.le_of_lt_succ hm10))
          · refine pm_aloadn hG dX0_firstBroken_41 rfl ?_
            refine pm_getf hG dX0_firstBroken_42 (flX0_25 _ rfl) rfl rfl ?_
            refine pm_iloadn hG dX0_firstBroken_45 rfl ?_
            refine pm_iconst (v := 3) hG dX0_firstBroken_46 (by decide) ?_
            refine pm_callV (As := [.int x2_3, .int 3]) (rest := []) hG hR dX0_firstBroken_47 (lkX0_39 _ rfl) okV_X9_get rfl rfl (tb_get (d := 0) rfl rfl (pm_tw_of 30 5 (by decide) (by decide) (by decide))) rfl rfl hdd (Nat.le_refl _) (Nat.le_refl _) (by decide) (pm_ki (fun v8 σ' cnt' hq => ?_))
            obtain ⟨I8, A8, rfl, rfl, h8⟩ := hv_id (kp := kp) (I := I6) (A := A6) h6 hq.2
            refine pm_iconst (v := 1) hG dX0_firstBroken_50 (by decide) ?_
            refine pm_icmp_ne (tgt := 56) hG dX0_firstBroken_51 rfl (fun c9 => ?_) (fun c9 => ?_)
            · refine pm_iincX (v := x2_3 + 1) (loc' := [some (.ref (B + 31)), some (.int za), some (.int v1), some (.int (x2_3 + 1))]) hG dX0_firstBroken_56 rfl (by rfl) (by decide) (pm_c1b rfl) rfl ?_
              refine pm_goto (tgt := 10) hG dX0_firstBroken_59 rfl ?_
              exact ih10 _ _ (x2_3 + 1) h8 (Nat.lt_of_lt_of_le (pm_mu1 c3) (Nat.le_of_lt_succ hm10))
            · refine pm_iloadn hG dX0_firstBroken_54 rfl ?_
              exact pm_iret hG hF dX0_firstBroken_55 rfl (Nat.le_refl _) (Nat.le_refl _) ⟨_, rfl, _, _, rfl, rfl, h8⟩
  exact loop10 _ _ _ 0 h1 (Nat.lt_succ_self _)

set_option maxRecDepth 100000 in
set_option maxHeartbeats 4000000 in
theorem g_X0_isPromisedFor {d B cnt : Nat} {kp : Value} {ρ : pm_S} {I : Nat → Int32} {A : Nat → Nat → Int32} {za zb : Int32} (hdd : 2 ≤ d) (h : gs I) : pm_met mX0_isPromisedFor d 0 0 B [.ref (B + 31), .int za, .int zb] cnt (pm_two (cl_L B kp I A) ρ) (pm_Qi (fun v σ' cnt' => (v = 0 ∨ v = 1) ∧ hvc B kp ρ cnt σ' cnt')) := by
  refine pm_enter 2 (by decide) (Nat.le_of_ble_eq_true rfl) rfl (fun G hG hR hF => ?_)
  refine pm_aloadn hG dX0_isPromisedFor_0 rfl ?_
  refine pm_getf hG dX0_isPromisedFor_1 (flX0_25 _ rfl) rfl rfl ?_
  refine pm_callV (As := []) (rest := []) hG hR dX0_isPromisedFor_4 (lkX0_47 _ rfl) okV_X9_used rfl rfl (tb_used (d := 1) rfl) rfl rfl hdd (Nat.le_refl _) (Nat.le_refl _) (by decide) (pm_ki (fun v1 σ' cnt' hq => ?_))
  obtain ⟨I1, A1, rfl, rfl, h1⟩ := hv_id (kp := kp) (I := I) (A := A) h hq.2
  refine pm_istoreXn (loc' := [some (.ref (B + 31)), some (.int za), some (.int zb), some (.int v1), none]) hG dX0_isPromisedFor_7 (by decide) (pm_c1b rfl) rfl ?_
  refine pm_iconst (v := 0) hG dX0_isPromisedFor_8 (by decide) ?_
  refine pm_istoreXi (loc' := [some (.ref (B + 31)), some (.int za), some (.int zb), some (.int v1), some (.int 0)]) hG dX0_isPromisedFor_9 (by decide) (pm_c1b rfl) rfl ?_
  have loop11 : ∀ (m11 : Nat) (I2 : Nat → Int32) (A2 : Nat → Nat → Int32) (x2_4 : Int32), gs I2 → ((v1 : Int32).toInt - x2_4.toInt).toNat < m11 → pm_wp mX0_isPromisedFor G B 11 [some (.ref (B + 31)), some (.int za), some (.int zb), some (.int v1), some (.int x2_4)] [] 0 0 cnt (pm_two (cl_L B kp I2 A2) ρ) := by
    intro m11
    induction m11 with
    | zero => intro I2 A2 x2_4 _  hm; exact absurd hm (Nat.not_lt_zero _)
    | succ m11 ih11 =>
      intro I2 A2 x2_4 h2  hm11
      refine pm_iloadi hG dX0_isPromisedFor_11 rfl ?_
      refine pm_iloadn hG dX0_isPromisedFor_13 rfl ?_
      refine pm_icmp_ge (tgt := 76) hG dX0_isPromisedFor_14 rfl (fun c3 => ?_) (fun c3 => ?_)
      · refine pm_iconst (v := 0) hG dX0_isPromisedFor_76 (by decide) ?_
        exact pm_zret hG hF dX0_isPromisedFor_77 rfl (pm_nz (Or.inl rfl)) (Nat.le_refl _) (Nat.le_refl _) ⟨_, rfl, (Or.inl rfl), _, _, rfl, rfl, h2⟩
      · refine pm_aloadn hG dX0_isPromisedFor_17 rfl ?_
        refine pm_getf hG dX0_isPromisedFor_18 (flX0_25 _ rfl) rfl rfl ?_
        refine pm_iloadi hG dX0_isPromisedFor_21 rfl ?_
        refine pm_iconst (v := 0) hG dX0_isPromisedFor_23 (by decide) ?_
        refine pm_callV (As := [.int x2_4, .int 0]) (rest := []) hG hR dX0_isPromisedFor_24 (lkX0_39 _ rfl) okV_X9_get rfl rfl (tb_get (d := 1) rfl rfl (pm_tw_of 30 5 (by decide) (by decide) (by decide))) rfl rfl hdd (Nat.le_refl _) (Nat.le_refl _) (by decide) (pm_ki (fun v4 σ' cnt' hq => ?_))
        obtain ⟨I4, A4, rfl, rfl, h4⟩ := hv_id (kp := kp) (I := I2) (A := A2) h2 hq.2
        refine pm_iloadn hG dX0_isPromisedFor_27 rfl ?_
        refine pm_icmp_ne (tgt := 70) hG dX0_isPromisedFor_28 rfl (fun c5 => ?_) (fun c5 => ?_)
        · refine pm_iincX (v := x2_4 + 1) (loc' := [some (.ref (B + 31)), some (.int za), some (.int zb), some (.int v1), some (.int (x2_4 + 1))]) hG dX0_isPromisedFor_70 rfl (by rfl) (by decide) (pm_c1b rfl) rfl ?_
          refine pm_goto (tgt := 11) hG dX0_isPromisedFor_73 rfl ?_
          exact ih11 _ _ (x2_4 + 1) h4 (Nat.lt_of_lt_of_le (pm_mu1 c3) (Nat.le_of_lt_succ hm11))
        · refine pm_aloadn hG dX0_isPromisedFor_31 rfl ?_
          refine pm_getf hG dX0_isPromisedFor_32 (flX0_25 _ rfl) rfl rfl ?_
          refine pm_iloadi hG dX0_isPromisedFor_35 rfl ?_
          refine pm_iconst (v := 1) hG dX0_isPromisedFor_37 (by decide) ?_
          refine pm_callV (As := [.int x2_4, .int 1]) (rest := []) hG hR dX0_isPromisedFor_38 (lkX0_39 _ rfl) okV_X9_get rfl rfl (tb_get (d := 1) rfl rfl (pm_tw_of 30 5 (by decide) (by decide) (by decide))) rfl rfl hdd (Nat.le_refl _) (Nat.le_refl _) (by decide) (pm_ki (fun v6 σ' cnt' hq => ?_))
          obtain ⟨I6, A6, rfl, rfl, h6⟩ := hv_id (kp := kp) (I := I4) (A := A4) h4 hq.2
          refine pm_iloadn hG dX0_isPromisedFor_41 rfl ?_
          refine pm_icmp_ne (tgt := 70) hG dX0_isPromisedFor_42 rfl (fun c7 => ?_) (fun c7 => ?_)
          · refine pm_iincX (v := x2_4 + 1) (loc' := [some (.ref (B + 31)), some (.int za), some (.int zb), some (.int v1), some (.int (x2_4 + 1))]) hG dX0_isPromisedFor_70 rfl (by rfl) (by decide) (pm_c1b rfl) rfl ?_
            refine pm_goto (tgt := 11) hG dX0_isPromisedFor_73 rfl ?_
            exact ih11 _ _ (x2_4 + 1) h6 (Nat.lt_of_lt_of_le (pm_mu1 c3) (Nat.le_of_lt_succ hm11))
          · refine pm_aloadn hG dX0_isPromisedFor_45 rfl ?_
            refine pm_getf hG dX0_isPromisedFor_46 (flX0_25 _ rfl) rfl rfl ?_
            refine pm_iloadi hG dX0_isPromisedFor_49 rfl ?_
            refine pm_iconst (v := 3) hG dX0_isPromisedFor_51 (by decide) ?_
            refine pm_callV (As := [.int x2_4, .int 3]) (rest := []) hG hR dX0_isPromisedFor_52 (lkX0_39 _ rfl) okV_X9_get rfl rfl (tb_get (d := 1) rfl rfl (pm_tw_of 30 5 (by decide) (by decide) (by decide))) rfl rfl hdd (Nat.le_refl _) (Nat.le_refl _) (by decide) (pm_ki (fun v8 σ' cnt' hq => ?_))
            obtain ⟨I8, A8, rfl, rfl, h8⟩ := hv_id (kp := kp) (I := I6) (A := A6) h6 hq.2
            refine pm_iconst (v := 1) hG dX0_isPromisedFor_55 (by decide) ?_
            refine pm_icmp_ne (tgt := 70) hG dX0_isPromisedFor_56 rfl (fun c9 => ?_) (fun c9 => ?_)
            · refine pm_iincX (v := x2_4 + 1) (loc' := [some (.ref (B + 31)), some (.int za), some (.int zb), some (.int v1), some (.int (x2_4 + 1))]) hG dX0_isPromisedFor_70 rfl (by rfl) (by decide) (pm_c1b rfl) rfl ?_
              refine pm_goto (tgt := 11) hG dX0_isPromisedFor_73 rfl ?_
              exact ih11 _ _ (x2_4 + 1) h8 (Nat.lt_of_lt_of_le (pm_mu1 c3) (Nat.le_of_lt_succ hm11))
            · refine pm_aloadn hG dX0_isPromisedFor_59 rfl ?_
              refine pm_iloadi hG dX0_isPromisedFor_60 rfl ?_
              refine pm_callV (As := [.int x2_4]) (rest := []) hG hR dX0_isPromisedFor_62 (lkX0_51 _ rfl) okV_X0_stands rfl rfl (g_X0_stands (d := 1) (by decide) h8) rfl rfl hdd (Nat.le_refl _) (Nat.le_refl _) (by decide) (pm_ki (fun v10 σ' cnt' hq => ?_))
              obtain ⟨b10, I10, A10, rfl, rfl, h10⟩ := hq
              refine pm_if_eq (tgt := 70) hG dX0_isPromisedFor_65 rfl (fun c11 => ?_) (fun c11 => ?_)
              · refine pm_iincX (v := x2_4 + 1) (loc' := [some (.ref (B + 31)), some (.int za), some (.int zb), some (.int v1), some (.int (x2_4 + 1))]) hG dX0_isPromisedFor_70 rfl (by rfl) (by decide) (pm_c1b rfl) rfl ?_
                refine pm_goto (tgt := 11) hG dX0_isPromisedFor_73 rfl ?_
                exact ih11 _ _ (x2_4 + 1) h10 (Nat.lt_of_lt_of_le (pm_mu1 c3) (Nat.le_of_lt_succ hm11))
              · refine pm_iconst (v := 1) hG dX0_isPromisedFor_68 (by decide) ?_
                exact pm_zret hG hF dX0_isPromisedFor_69 rfl (pm_nz (Or.inr rfl)) (Nat.le_refl _) (Nat.le_refl _) ⟨_, rfl, (Or.inr rfl), _, _, rfl, rfl, h10⟩
  exact loop11 _ _ _ 0 h1 (Nat.lt_succ_self _)

set_option maxRecDepth 100000 in
set_option maxHeartbeats 4000000 in
theorem g_X0_unseat {d B cnt : Nat} {kp : Value} {ρ : pm_S} {I : Nat → Int32} {A : Nat → Nat → Int32} {za : Int32} (hdd : 3 ≤ d) (h : gs I) : pm_met mX0_unseat d 0 0 B [.ref (B + 31), .int za] cnt (pm_two (cl_L B kp I A) ρ) (pm_Qv (fun σ' cnt' => hvc B kp ρ cnt σ' cnt')) := by
  refine pm_enter 0 (by decide) (Nat.le_of_ble_eq_true rfl) rfl (fun G hG hR hF => ?_)
  refine pm_aloadn hG dX0_unseat_0 rfl ?_
  refine pm_getf hG dX0_unseat_1 (flX0_9 _ rfl) rfl rfl ?_
  refine pm_getf hG dX0_unseat_4 (flX0_63 _ rfl) rfl rfl ?_
  refine pm_iloadn hG dX0_unseat_7 rfl ?_
  refine pm_bipush (v := 13) hG dX0_unseat_8 (by decide) ?_
  refine pm_iconst (v := 0) hG dX0_unseat_10 (by decide) ?_
  refine pm_callV (As := [.int za, .int 13, .int 0]) (rest := []) hG hR dX0_unseat_11 (lkX0_55 _ rfl) okV_X9_set rfl rfl (tb_set (d := 2) rfl rfl (pm_tw_of 20 14 (by decide) (by decide) (by decide)) (by decide)) rfl rfl hdd (Nat.le_refl _) (Nat.le_refl _) (by decide) (pm_kv (fun σ' cnt' hq => ?_))
  obtain ⟨I1, A1, rfl, rfl, h1⟩ := hv_a7 (kp := kp) (I := I) (A := A) h hq
  refine pm_aloadn hG dX0_unseat_14 rfl ?_
  refine pm_iloadn hG dX0_unseat_15 rfl ?_
  refine pm_iconst (v := 1) hG dX0_unseat_16 (by decide) ?_
  refine pm_callV (As := [.int za, .int 1]) (rest := []) hG hR dX0_unseat_17 (lkX0_66 _ rfl) okV_X0_endAllOf rfl rfl (g_X0_endAllOf (d := 2) (by decide) h1) rfl rfl hdd (Nat.le_refl _) (Nat.le_refl _) (by decide) (pm_ki (fun v2 σ' cnt' hq => ?_))
  obtain ⟨I2, A2, rfl, rfl, h2⟩ := hq
  refine pm_pop hG dX0_unseat_20 rfl ?_
  exact pm_vret hG hF dX0_unseat_21 rfl (Nat.le_refl _) (Nat.le_refl _) ⟨rfl, _, _, rfl, rfl, h2⟩

set_option maxRecDepth 100000 in
set_option maxHeartbeats 4000000 in
theorem g_X0_weighOne {d B cnt : Nat} {kp : Value} {ρ : pm_S} {I : Nat → Int32} {A : Nat → Nat → Int32} {za zb zc : Int32} (hdd : 3 ≤ d) (h : gs I) : pm_met mX0_weighOne d 0 0 B [.ref (B + 31), .int za, .int zb, .int zc] cnt (pm_two (cl_L B kp I A) ρ) (pm_Qv (fun σ' cnt' => hvc B kp ρ cnt σ' cnt')) := by
  refine pm_enter 0 (by decide) (Nat.le_of_ble_eq_true rfl) rfl (fun G hG hR hF => ?_)
  refine pm_aloadn hG dX0_weighOne_0 rfl ?_
  refine pm_getf hG dX0_weighOne_1 (flX0_33 _ rfl) rfl rfl ?_
  refine pm_iloadn hG dX0_weighOne_4 rfl ?_
  refine pm_iconst (v := 0) hG dX0_weighOne_5 (by decide) ?_
  refine pm_iloadn hG dX0_weighOne_6 rfl ?_
  refine pm_callV (As := [.int za, .int 0, .int zc]) (rest := []) hG hR dX0_weighOne_7 (lkX0_55 _ rfl) okV_X9_set rfl rfl (tb_set (d := 2) rfl rfl (pm_tw_of 20 1 (by decide) (by decide) (by decide)) (by decide)) rfl rfl hdd (Nat.le_refl _) (Nat.le_refl _) (by decide) (pm_kv (fun σ' cnt' hq => ?_))
  obtain ⟨I1, A1, rfl, rfl, h1⟩ := hv_a33 (kp := kp) (I := I) (A := A) h hq
  refine pm_aloadn hG dX0_weighOne_10 rfl ?_
  refine pm_dup hG dX0_weighOne_11 rfl ?_
  refine pm_getf hG dX0_weighOne_12 (flX0_72 _ rfl) rfl rfl ?_
  refine pm_iloadn hG dX0_weighOne_15 rfl ?_
  refine pm_iadd hG dX0_weighOne_16 ?_
  refine pm_putf hG dX0_weighOne_17 (fwX0_72 _ rfl) rfl rfl rfl ?_
  refine pm_nrm (L' := cl_L B kp (ui I1 108 ((I1 108) + zc)) A1) (by decide) (Nat.le_of_ble_eq_true rfl) rfl ?_
  refine pm_aloadn hG dX0_weighOne_20 rfl ?_
  refine pm_iloadn hG dX0_weighOne_21 rfl ?_
  refine pm_iloadn hG dX0_weighOne_22 rfl ?_
  refine pm_callV (As := [.int za, .int zb]) (rest := []) hG hR dX0_weighOne_23 (lkX0_87 _ rfl) okV_X0_isPromisedFor rfl rfl (g_X0_isPromisedFor (d := 2) (by decide) (gs.wi (k := 108) rfl h1)) rfl rfl hdd (Nat.le_refl _) (Nat.le_refl _) (by decide) (pm_ki (fun v2 σ' cnt' hq => ?_))
  obtain ⟨b2, I2, A2, rfl, rfl, h2⟩ := hq
  refine pm_if_eq (tgt := 42) hG dX0_weighOne_26 rfl (fun c3 => ?_) (fun c3 => ?_)
  · refine pm_aloadn hG dX0_weighOne_42 rfl ?_
    refine pm_getf hG dX0_weighOne_43 (flX0_36 _ rfl) rfl rfl ?_
    refine pm_iloadn hG dX0_weighOne_46 rfl ?_
    obtain ⟨k4, hk4, hu4⟩ := gs.used h2 34 9 (by decide)
    have ht4 : pm_two (cl_L B kp I2 A2) ρ 34 = some (.inr (9, [.int (nI 9), .int (nI 1), .ref (B + 35), .int (nI k4)])) := by rw [← hu4]; rfl
    refine pm_callV (As := [.int za]) (rest := []) hG hR dX0_weighOne_47 (lkX0_59 _ rfl) okV_X9_append rfl rfl (tb_append (d := 2) (by decide) ht4 rfl (by decide) (by decide) (by decide) (by decide) (by decide) (by decide) hk4) rfl rfl hdd (Nat.le_refl _) (Nat.le_refl _) (by decide) (pm_ki (fun v4 σ' cnt' hq => ?_))
    obtain ⟨I4, A4, rfl, rfl, h4⟩ := hv_p34 (kp := kp) (I := I2) (A := A2) hk4 h2 hq
    refine pm_pop hG dX0_weighOne_50 rfl ?_
    exact pm_vret hG hF dX0_weighOne_51 rfl (Nat.le_refl _) (Nat.le_refl _) ⟨rfl, _, _, rfl, rfl, h4⟩
  · refine pm_aloadn hG dX0_weighOne_29 rfl ?_
    refine pm_dup hG dX0_weighOne_30 rfl ?_
    refine pm_getf hG dX0_weighOne_31 (flX0_69 _ rfl) rfl rfl ?_
    refine pm_iloadn hG dX0_weighOne_34 rfl ?_
    refine pm_iadd hG dX0_weighOne_35 ?_
    refine pm_putf hG dX0_weighOne_36 (fwX0_69 _ rfl) rfl rfl rfl ?_
    refine pm_nrm (L' := cl_L B kp (ui I2 107 ((I2 107) + zc)) A2) (by decide) (Nat.le_of_ble_eq_true rfl) rfl ?_
    refine pm_goto (tgt := 51) hG dX0_weighOne_39 rfl ?_
    exact pm_vret hG hF dX0_weighOne_51 rfl (Nat.le_refl _) (Nat.le_refl _) ⟨rfl, _, _, rfl, rfl, (gs.wi (k := 107) rfl h2)⟩

set_option maxRecDepth 100000 in
set_option maxHeartbeats 4000000 in
theorem g_X10_note {d B cnt : Nat} {kp : Value} {ρ : pm_S} {I : Nat → Int32} {A : Nat → Nat → Int32} {za : Int32} (hdd : 1 ≤ d) (h : gs I) : pm_met mX10_note d 0 0 B [.ref (B + 46), .int za] cnt (pm_two (cl_L B kp I A) ρ) (pm_Qv (fun σ' cnt' => hvc B kp ρ cnt σ' cnt')) := by
  refine pm_enter 0 (by decide) (Nat.le_of_ble_eq_true rfl) rfl (fun G hG hR hF => ?_)
  refine pm_aloadn hG dX10_note_0 rfl ?_
  refine pm_getf hG dX10_note_1 (flX10_15 _ rfl) rfl rfl ?_
  refine pm_if_lt (tgt := 39) hG dX10_note_4 rfl (fun c1 => ?_) (fun c1 => ?_)
  · exact pm_vret hG hF dX10_note_39 rfl (Nat.le_refl _) (Nat.le_refl _) ⟨rfl, _, _, rfl, rfl, h⟩
  · refine pm_aloadn hG dX10_note_7 rfl ?_
    refine pm_getf hG dX10_note_8 (flX10_15 _ rfl) rfl rfl ?_
    refine pm_aloadn hG dX10_note_11 rfl ?_
    refine pm_getf hG dX10_note_12 (flX10_11 _ rfl) rfl rfl ?_
    refine pm_alen (v := 40) hG dX10_note_15 rfl (by decide) ?_
    refine pm_icmp_ge (tgt := 39) hG dX10_note_16 rfl (fun c2 => ?_) (fun c2 => ?_)
    · exact pm_vret hG hF dX10_note_39 rfl (Nat.le_refl _) (Nat.le_refl _) ⟨rfl, _, _, rfl, rfl, h⟩
    · refine pm_aloadn hG dX10_note_19 rfl ?_
      refine pm_getf hG dX10_note_20 (flX10_11 _ rfl) rfl rfl ?_
      refine pm_aloadn hG dX10_note_23 rfl ?_
      refine pm_getf hG dX10_note_24 (flX10_15 _ rfl) rfl rfl ?_
      refine pm_iloadn hG dX10_note_27 rfl ?_
      refine pm_iast hG dX10_note_28 rfl (pm_ibt (by have q := And.intro True.intro True.intro;  simp only [Int32.lt_iff_toInt_lt, Int32.le_iff_toInt_le, ← Int32.toInt_inj, (show (0 : Int32).toInt = 0 from rfl), (show (40 : Int32).toInt = 40 from rfl)] at *; omega)) ?_
      refine pm_nrm (L' := cl_L B kp I (ua A 47 (upd (A 47) (I 115).toNatClampNeg za))) (by decide) (Nat.le_of_ble_eq_true rfl) rfl ?_
      refine pm_aloadn hG dX10_note_29 rfl ?_
      refine pm_dup hG dX10_note_30 rfl ?_
      refine pm_getf hG dX10_note_31 (flX10_15 _ rfl) rfl rfl ?_
      refine pm_iconst (v := 1) hG dX10_note_34 (by decide) ?_
      refine pm_iadd hG dX10_note_35 ?_
      refine pm_putf hG dX10_note_36 (fwX10_15 _ rfl) rfl rfl rfl ?_
      refine pm_nrm (L' := cl_L B kp (ui I 115 ((I 115) + 1)) (ua A 47 (upd (A 47) (I 115).toNatClampNeg za))) (by decide) (Nat.le_of_ble_eq_true rfl) rfl ?_
      exact pm_vret hG hF dX10_note_39 rfl (Nat.le_refl _) (Nat.le_refl _) ⟨rfl, _, _, rfl, rfl, (gs.wi (k := 115) rfl h)⟩

set_option maxRecDepth 100000 in
set_option maxHeartbeats 4000000 in
theorem g_X10_begin {d B cnt : Nat} {kp : Value} {ρ : pm_S} {I : Nat → Int32} {A : Nat → Nat → Int32} {za zb zc : Int32} (hdd : 1 ≤ d) (h : gs I) : pm_met mX10_begin d 0 0 B [.ref (B + 46), .int za, .int zb, .int zc] cnt (pm_two (cl_L B kp I A) ρ) (pm_Qv (fun σ' cnt' => hvc B kp ρ cnt σ' cnt')) := by
  refine pm_enter 0 (by decide) (Nat.le_of_ble_eq_true rfl) rfl (fun G hG hR hF => ?_)
  refine pm_aloadn hG dX10_begin_0 rfl ?_
  refine pm_iconst (v := 0) hG dX10_begin_1 (by decide) ?_
  refine pm_putf hG dX10_begin_2 (fwX10_15 _ rfl) rfl rfl rfl ?_
  refine pm_nrm (L' := cl_L B kp (ui I 115 0) A) (by decide) (Nat.le_of_ble_eq_true rfl) rfl ?_
  refine pm_aloadn hG dX10_begin_5 rfl ?_
  refine pm_iloadn hG dX10_begin_6 rfl ?_
  refine pm_putf hG dX10_begin_7 (fwX10_19 _ rfl) rfl rfl rfl ?_
  refine pm_nrm (L' := cl_L B kp (ui (ui I 115 0) 116 za) A) (by decide) (Nat.le_of_ble_eq_true rfl) rfl ?_
  refine pm_aloadn hG dX10_begin_10 rfl ?_
  refine pm_iloadn hG dX10_begin_11 rfl ?_
  refine pm_putf hG dX10_begin_12 (fwX10_22 _ rfl) rfl rfl rfl ?_
  refine pm_nrm (L' := cl_L B kp (ui (ui (ui I 115 0) 116 za) 117 zb) A) (by decide) (Nat.le_of_ble_eq_true rfl) rfl ?_
  refine pm_aloadn hG dX10_begin_15 rfl ?_
  refine pm_iloadn hG dX10_begin_16 rfl ?_
  refine pm_putf hG dX10_begin_17 (fwX10_25 _ rfl) rfl rfl rfl ?_
  refine pm_nrm (L' := cl_L B kp (ui (ui (ui (ui I 115 0) 116 za) 117 zb) 118 zc) A) (by decide) (Nat.le_of_ble_eq_true rfl) rfl ?_
  exact pm_vret hG hF dX10_begin_20 rfl (Nat.le_refl _) (Nat.le_refl _) ⟨rfl, _, _, rfl, rfl, (gs.wi (k := 118) rfl (gs.wi (k := 117) rfl (gs.wi (k := 116) rfl (gs.wi (k := 115) rfl h))))⟩

set_option maxRecDepth 100000 in
set_option maxHeartbeats 4000000 in
theorem g_X10_bodyAt {d B cnt : Nat} {kp : Value} {ρ : pm_S} {I : Nat → Int32} {A : Nat → Nat → Int32} {za : Int32} (hdd : 1 ≤ d) (h : gs I) : pm_met mX10_bodyAt d 0 0 B [.ref (B + 46), .int za] cnt (pm_two (cl_L B kp I A) ρ) (pm_Qi (fun _ σ' cnt' => hvc B kp ρ cnt σ' cnt')) := by
  refine pm_enter 0 (by decide) (Nat.le_of_ble_eq_true rfl) rfl (fun G hG hR hF => ?_)
  refine pm_iloadn hG dX10_bodyAt_0 rfl ?_
  refine pm_if_lt (tgt := 30) hG dX10_bodyAt_1 rfl (fun c1 => ?_) (fun c1 => ?_)
  · refine pm_iconst (v := 0) hG dX10_bodyAt_30 (by decide) ?_
    exact pm_iret hG hF dX10_bodyAt_31 rfl (Nat.le_refl _) (Nat.le_refl _) ⟨_, rfl, _, _, rfl, rfl, h⟩
  · refine pm_iloadn hG dX10_bodyAt_4 rfl ?_
    refine pm_aloadn hG dX10_bodyAt_5 rfl ?_
    refine pm_getf hG dX10_bodyAt_6 (flX10_15 _ rfl) rfl rfl ?_
    refine pm_icmp_ge (tgt := 30) hG dX10_bodyAt_9 rfl (fun c2 => ?_) (fun c2 => ?_)
    · refine pm_iconst (v := 0) hG dX10_bodyAt_30 (by decide) ?_
      exact pm_iret hG hF dX10_bodyAt_31 rfl (Nat.le_refl _) (Nat.le_refl _) ⟨_, rfl, _, _, rfl, rfl, h⟩
    · refine pm_iloadn hG dX10_bodyAt_12 rfl ?_
      refine pm_aloadn hG dX10_bodyAt_13 rfl ?_
      refine pm_getf hG dX10_bodyAt_14 (flX10_11 _ rfl) rfl rfl ?_
      refine pm_alen (v := 40) hG dX10_bodyAt_17 rfl (by decide) ?_
      refine pm_icmp_ge (tgt := 30) hG dX10_bodyAt_18 rfl (fun c3 => ?_) (fun c3 => ?_)
      · refine pm_iconst (v := 0) hG dX10_bodyAt_30 (by decide) ?_
        exact pm_iret hG hF dX10_bodyAt_31 rfl (Nat.le_refl _) (Nat.le_refl _) ⟨_, rfl, _, _, rfl, rfl, h⟩
      · refine pm_aloadn hG dX10_bodyAt_21 rfl ?_
        refine pm_getf hG dX10_bodyAt_22 (flX10_11 _ rfl) rfl rfl ?_
        refine pm_iloadn hG dX10_bodyAt_25 rfl ?_
        refine pm_iald hG dX10_bodyAt_26 rfl (pm_ibt (by have q := And.intro True.intro True.intro;  simp only [Int32.lt_iff_toInt_lt, Int32.le_iff_toInt_le, ← Int32.toInt_inj, (show (0 : Int32).toInt = 0 from rfl), (show (40 : Int32).toInt = 40 from rfl)] at *; omega)) ?_
        refine pm_goto (tgt := 31) hG dX10_bodyAt_27 rfl ?_
        exact pm_iret hG hF dX10_bodyAt_31 rfl (Nat.le_refl _) (Nat.le_refl _) ⟨_, rfl, _, _, rfl, rfl, h⟩

set_option maxRecDepth 100000 in
set_option maxHeartbeats 4000000 in
theorem g_X11_yearsBetween {d B cnt : Nat} {kp : Value} {ρ : pm_S} {I : Nat → Int32} {A : Nat → Nat → Int32} {za zb : Int32} (hdd : 1 ≤ d) (h : gs I) : pm_met mX11_yearsBetween d 0 0 B [.int za, .int zb] cnt (pm_two (cl_L B kp I A) ρ) (pm_Qi (fun _ σ' cnt' => hvc B kp ρ cnt σ' cnt')) := by
  refine pm_enter 0 (by decide) (Nat.le_of_ble_eq_true rfl) rfl (fun G hG hR hF => ?_)
  refine pm_iloadn hG dX11_yearsBetween_0 rfl ?_
  refine pm_iloadn hG dX11_yearsBetween_1 rfl ?_
  refine pm_isub hG dX11_yearsBetween_2 ?_
  refine pm_sipush (v := 360) hG dX11_yearsBetween_3 (by decide) ?_
  refine pm_idiv hG dX11_yearsBetween_6 (by decide) ?_
  exact pm_iret hG hF dX11_yearsBetween_7 rfl (Nat.le_refl _) (Nat.le_refl _) ⟨_, rfl, _, _, rfl, rfl, h⟩

set_option maxRecDepth 100000 in
set_option maxHeartbeats 4000000 in
theorem g_X11_about {d B cnt : Nat} {kp : Value} {ρ : pm_S} {I : Nat → Int32} {A : Nat → Nat → Int32} {za zb : Int32} (hdd : 2 ≤ d) (h : gs I) : pm_met mX11_about d 0 0 B [.ref (B + 0), .int za, .int zb] cnt (pm_two (cl_L B kp I A) ρ) (pm_Qi (fun _ σ' cnt' => hvc B kp ρ cnt σ' cnt')) := by
  refine pm_enter 0 (by decide) (Nat.le_of_ble_eq_true rfl) rfl (fun G hG hR hF => ?_)
  refine pm_aloadn hG dX11_about_0 rfl ?_
  refine pm_getf hG dX11_about_1 (flX11_12 _ rfl) rfl rfl ?_
  refine pm_getf hG dX11_about_4 (flX11_128 _ rfl) rfl rfl ?_
  refine pm_iloadn hG dX11_about_7 rfl ?_
  refine pm_callV (As := [.int za]) (rest := []) hG hR dX11_about_8 (lkX11_101 _ rfl) okV_X9_has rfl rfl (tb_has (d := 1) rfl) rfl rfl hdd (Nat.le_refl _) (Nat.le_refl _) (by decide) (pm_ki (fun v1 σ' cnt' hq => ?_))
  have b1 := pm_b01 hq.1
  obtain ⟨I1, A1, rfl, rfl, h1⟩ := hv_id (kp := kp) (I := I) (A := A) h hq.2
  refine pm_if_ne (tgt := 21) hG dX11_about_11 rfl (fun c2 => ?_) (fun c2 => ?_)
  · refine pm_iloadn hG dX11_about_21 rfl ?_
    by_cases c3 : zb = 0
    · refine pm_top (v := 0) c3 ?_
      refine pm_tswIn (tgt := 76) hG dX11_about_22 (by decide) (by decide) rfl rfl ?_
      refine pm_aloadn hG dX11_about_76 rfl ?_
      refine pm_getf hG dX11_about_77 (flX11_12 _ rfl) rfl rfl ?_
      refine pm_getf hG dX11_about_80 (flX11_128 _ rfl) rfl rfl ?_
      refine pm_iloadn hG dX11_about_83 rfl ?_
      refine pm_iconst (v := 4) hG dX11_about_84 (by decide) ?_
      refine pm_callV (As := [.int za, .int 4]) (rest := []) hG hR dX11_about_85 (lkX11_152 _ rfl) okV_X9_get rfl rfl (tb_get (d := 1) rfl rfl (pm_tw_of 20 14 (by decide) (by decide) (by decide))) rfl rfl hdd (Nat.le_refl _) (Nat.le_refl _) (by decide) (pm_ki (fun v4 σ' cnt' hq => ?_))
      obtain ⟨I4, A4, rfl, rfl, h4⟩ := hv_id (kp := kp) (I := I1) (A := A1) h1 hq.2
      exact pm_iret hG hF dX11_about_88 rfl (Nat.le_refl _) (Nat.le_refl _) ⟨_, rfl, _, _, rfl, rfl, h4⟩
    by_cases c5 : zb = 1
    · refine pm_top (v := 1) c5 ?_
      refine pm_tswIn (tgt := 89) hG dX11_about_22 (by decide) (by decide) rfl rfl ?_
      refine pm_aloadn hG dX11_about_89 rfl ?_
      refine pm_getf hG dX11_about_90 (flX11_12 _ rfl) rfl rfl ?_
      refine pm_getf hG dX11_about_93 (flX11_128 _ rfl) rfl rfl ?_
      refine pm_iloadn hG dX11_about_96 rfl ?_
      refine pm_bipush (v := 7) hG dX11_about_97 (by decide) ?_
      refine pm_callV (As := [.int za, .int 7]) (rest := []) hG hR dX11_about_99 (lkX11_152 _ rfl) okV_X9_get rfl rfl (tb_get (d := 1) rfl rfl (pm_tw_of 20 14 (by decide) (by decide) (by decide))) rfl rfl hdd (Nat.le_refl _) (Nat.le_refl _) (by decide) (pm_ki (fun v6 σ' cnt' hq => ?_))
      obtain ⟨I6, A6, rfl, rfl, h6⟩ := hv_id (kp := kp) (I := I1) (A := A1) h1 hq.2
      exact pm_iret hG hF dX11_about_102 rfl (Nat.le_refl _) (Nat.le_refl _) ⟨_, rfl, _, _, rfl, rfl, h6⟩
    by_cases c7 : zb = 2
    · refine pm_top (v := 2) c7 ?_
      refine pm_tswIn (tgt := 103) hG dX11_about_22 (by decide) (by decide) rfl rfl ?_
      refine pm_aloadn hG dX11_about_103 rfl ?_
      refine pm_getf hG dX11_about_104 (flX11_12 _ rfl) rfl rfl ?_
      refine pm_getf hG dX11_about_107 (flX11_128 _ rfl) rfl rfl ?_
      refine pm_iloadn hG dX11_about_110 rfl ?_
      refine pm_bipush (v := 8) hG dX11_about_111 (by decide) ?_
      refine pm_callV (As := [.int za, .int 8]) (rest := []) hG hR dX11_about_113 (lkX11_152 _ rfl) okV_X9_get rfl rfl (tb_get (d := 1) rfl rfl (pm_tw_of 20 14 (by decide) (by decide) (by decide))) rfl rfl hdd (Nat.le_refl _) (Nat.le_refl _) (by decide) (pm_ki (fun v8 σ' cnt' hq => ?_))
      obtain ⟨I8, A8, rfl, rfl, h8⟩ := hv_id (kp := kp) (I := I1) (A := A1) h1 hq.2
      exact pm_iret hG hF dX11_about_116 rfl (Nat.le_refl _) (Nat.le_refl _) ⟨_, rfl, _, _, rfl, rfl, h8⟩
    by_cases c9 : zb = 3
    · refine pm_top (v := 3) c9 ?_
      refine pm_tswIn (tgt := 117) hG dX11_about_22 (by decide) (by decide) rfl rfl ?_
      refine pm_aloadn hG dX11_about_117 rfl ?_
      refine pm_getf hG dX11_about_118 (flX11_12 _ rfl) rfl rfl ?_
      refine pm_getf hG dX11_about_121 (flX11_128 _ rfl) rfl rfl ?_
      refine pm_iloadn hG dX11_about_124 rfl ?_
      refine pm_iconst (v := 1) hG dX11_about_125 (by decide) ?_
      refine pm_callV (As := [.int za, .int 1]) (rest := []) hG hR dX11_about_126 (lkX11_152 _ rfl) okV_X9_get rfl rfl (tb_get (d := 1) rfl rfl (pm_tw_of 20 14 (by decide) (by decide) (by decide))) rfl rfl hdd (Nat.le_refl _) (Nat.le_refl _) (by decide) (pm_ki (fun v10 σ' cnt' hq => ?_))
      obtain ⟨I10, A10, rfl, rfl, h10⟩ := hv_id (kp := kp) (I := I1) (A := A1) h1 hq.2
      refine pm_aloadn hG dX11_about_129 rfl ?_
      refine pm_getf hG dX11_about_130 (flX11_12 _ rfl) rfl rfl ?_
      refine pm_getf hG dX11_about_133 (flX11_122 _ rfl) rfl rfl ?_
      refine pm_callS (As := [.int v10, .int (I10 102)]) (rest := []) hG hR dX11_about_136 (lkX11_155 _ rfl) okS_X11_yearsBetween (g_X11_yearsBetween (d := 1) (by decide) h10) rfl rfl hdd (Nat.le_refl _) (Nat.le_refl _) (by decide) (pm_ki (fun v11 σ' cnt' hq => ?_))
      obtain ⟨I11, A11, rfl, rfl, h11⟩ := hq
      exact pm_iret hG hF dX11_about_139 rfl (Nat.le_refl _) (Nat.le_refl _) ⟨_, rfl, _, _, rfl, rfl, h11⟩
    by_cases c12 : zb = 4
    · refine pm_top (v := 4) c12 ?_
      refine pm_tswIn (tgt := 140) hG dX11_about_22 (by decide) (by decide) rfl rfl ?_
      refine pm_aloadn hG dX11_about_140 rfl ?_
      refine pm_getf hG dX11_about_141 (flX11_12 _ rfl) rfl rfl ?_
      refine pm_iloadn hG dX11_about_144 rfl ?_
      refine pm_callV (As := [.int za]) (rest := []) hG hR dX11_about_145 (lkX11_158 _ rfl) okV_X7_knownTo rfl rfl (g_X7_knownTo (d := 1) (by decide) h1) rfl rfl hdd (Nat.le_refl _) (Nat.le_refl _) (by decide) (pm_ki (fun v13 σ' cnt' hq => ?_))
      obtain ⟨I13, A13, rfl, rfl, h13⟩ := hq
      exact pm_iret hG hF dX11_about_148 rfl (Nat.le_refl _) (Nat.le_refl _) ⟨_, rfl, _, _, rfl, rfl, h13⟩
    by_cases c14 : zb = 5
    · refine pm_top (v := 5) c14 ?_
      refine pm_tswIn (tgt := 149) hG dX11_about_22 (by decide) (by decide) rfl rfl ?_
      refine pm_aloadn hG dX11_about_149 rfl ?_
      refine pm_getf hG dX11_about_150 (flX11_12 _ rfl) rfl rfl ?_
      refine pm_getf hG dX11_about_153 (flX11_161 _ rfl) rfl rfl ?_
      refine pm_iconst (v := 2) hG dX11_about_156 (by decide) ?_
      refine pm_iloadn hG dX11_about_157 rfl ?_
      obtain ⟨k15, hk15, hu15⟩ := gs.used h1 8 20 (by decide)
      have ht15 : pm_two (cl_L B kp I1 A1) ρ 8 = some (.inr (9, [.int (nI 20), .int (nI 6), .ref (B + 9), .int (nI k15)])) := by rw [← hu15]; rfl
      refine pm_callV (As := [.int 2, .int za]) (rest := []) hG hR dX11_about_158 (lkX11_164 _ rfl) okV_X9_rowsWith rfl rfl (tb_rowsWith (d := 1) (k := 2) ht15 rfl (by decide) (by decide) (by decide) hk15 (by omega) (by decide)) rfl rfl hdd (Nat.le_refl _) (Nat.le_refl _) (by decide) (pm_ki (fun v15 σ' cnt' hq => ?_))
      obtain ⟨I15, A15, rfl, rfl, h15⟩ := hv_id (kp := kp) (I := I1) (A := A1) h1 hq.2
      exact pm_iret hG hF dX11_about_161 rfl (Nat.le_refl _) (Nat.le_refl _) ⟨_, rfl, _, _, rfl, rfl, h15⟩
    by_cases c16 : zb = 6
    · refine pm_top (v := 6) c16 ?_
      refine pm_tswIn (tgt := 162) hG dX11_about_22 (by decide) (by decide) rfl rfl ?_
      refine pm_aloadn hG dX11_about_162 rfl ?_
      refine pm_getf hG dX11_about_163 (flX11_12 _ rfl) rfl rfl ?_
      refine pm_getf hG dX11_about_166 (flX11_128 _ rfl) rfl rfl ?_
      refine pm_iloadn hG dX11_about_169 rfl ?_
      refine pm_bipush (v := 9) hG dX11_about_170 (by decide) ?_
      refine pm_callV (As := [.int za, .int 9]) (rest := []) hG hR dX11_about_172 (lkX11_152 _ rfl) okV_X9_get rfl rfl (tb_get (d := 1) rfl rfl (pm_tw_of 20 14 (by decide) (by decide) (by decide))) rfl rfl hdd (Nat.le_refl _) (Nat.le_refl _) (by decide) (pm_ki (fun v17 σ' cnt' hq => ?_))
      obtain ⟨I17, A17, rfl, rfl, h17⟩ := hv_id (kp := kp) (I := I1) (A := A1) h1 hq.2
      exact pm_iret hG hF dX11_about_175 rfl (Nat.le_refl _) (Nat.le_refl _) ⟨_, rfl, _, _, rfl, rfl, h17⟩
    by_cases c18 : zb = 7
    · refine pm_top (v := 7) c18 ?_
      refine pm_tswIn (tgt := 176) hG dX11_about_22 (by decide) (by decide) rfl rfl ?_
      refine pm_aloadn hG dX11_about_176 rfl ?_
      refine pm_getf hG dX11_about_177 (flX11_12 _ rfl) rfl rfl ?_
      refine pm_getf hG dX11_about_180 (flX11_128 _ rfl) rfl rfl ?_
      refine pm_iloadn hG dX11_about_183 rfl ?_
      refine pm_bipush (v := 13) hG dX11_about_184 (by decide) ?_
      refine pm_callV (As := [.int za, .int 13]) (rest := []) hG hR dX11_about_186 (lkX11_152 _ rfl) okV_X9_get rfl rfl (tb_get (d := 1) rfl rfl (pm_tw_of 20 14 (by decide) (by decide) (by decide))) rfl rfl hdd (Nat.le_refl _) (Nat.le_refl _) (by decide) (pm_ki (fun v19 σ' cnt' hq => ?_))
      obtain ⟨I19, A19, rfl, rfl, h19⟩ := hv_id (kp := kp) (I := I1) (A := A1) h1 hq.2
      exact pm_iret hG hF dX11_about_189 rfl (Nat.le_refl _) (Nat.le_refl _) ⟨_, rfl, _, _, rfl, rfl, h19⟩
    by_cases c20 : zb = 8
    · refine pm_top (v := 8) c20 ?_
      refine pm_tswIn (tgt := 190) hG dX11_about_22 (by decide) (by decide) rfl rfl ?_
      refine pm_aloadn hG dX11_about_190 rfl ?_
      refine pm_getf hG dX11_about_191 (flX11_12 _ rfl) rfl rfl ?_
      refine pm_getf hG dX11_about_194 (flX11_128 _ rfl) rfl rfl ?_
      refine pm_iloadn hG dX11_about_197 rfl ?_
      refine pm_bipush (v := 11) hG dX11_about_198 (by decide) ?_
      refine pm_callV (As := [.int za, .int 11]) (rest := []) hG hR dX11_about_200 (lkX11_152 _ rfl) okV_X9_get rfl rfl (tb_get (d := 1) rfl rfl (pm_tw_of 20 14 (by decide) (by decide) (by decide))) rfl rfl hdd (Nat.le_refl _) (Nat.le_refl _) (by decide) (pm_ki (fun v21 σ' cnt' hq => ?_))
      obtain ⟨I21, A21, rfl, rfl, h21⟩ := hv_id (kp := kp) (I := I1) (A := A1) h1 hq.2
      exact pm_iret hG hF dX11_about_203 rfl (Nat.le_refl _) (Nat.le_refl _) ⟨_, rfl, _, _, rfl, rfl, h21⟩
    by_cases c22 : zb = 9
    · refine pm_top (v := 9) c22 ?_
      refine pm_tswIn (tgt := 204) hG dX11_about_22 (by decide) (by decide) rfl rfl ?_
      refine pm_aloadn hG dX11_about_204 rfl ?_
      refine pm_getf hG dX11_about_205 (flX11_12 _ rfl) rfl rfl ?_
      refine pm_getf hG dX11_about_208 (flX11_128 _ rfl) rfl rfl ?_
      refine pm_iloadn hG dX11_about_211 rfl ?_
      refine pm_bipush (v := 12) hG dX11_about_212 (by decide) ?_
      refine pm_callV (As := [.int za, .int 12]) (rest := []) hG hR dX11_about_214 (lkX11_152 _ rfl) okV_X9_get rfl rfl (tb_get (d := 1) rfl rfl (pm_tw_of 20 14 (by decide) (by decide) (by decide))) rfl rfl hdd (Nat.le_refl _) (Nat.le_refl _) (by decide) (pm_ki (fun v23 σ' cnt' hq => ?_))
      obtain ⟨I23, A23, rfl, rfl, h23⟩ := hv_id (kp := kp) (I := I1) (A := A1) h1 hq.2
      exact pm_iret hG hF dX11_about_217 rfl (Nat.le_refl _) (Nat.le_refl _) ⟨_, rfl, _, _, rfl, rfl, h23⟩
    have tc3 : ¬ zb.toInt = 0 := fun q => c3 (Int32.toInt_inj.mp q)
    have tc5 : ¬ zb.toInt = 1 := fun q => c5 (Int32.toInt_inj.mp q)
    have tc7 : ¬ zb.toInt = 2 := fun q => c7 (Int32.toInt_inj.mp q)
    have tc9 : ¬ zb.toInt = 3 := fun q => c9 (Int32.toInt_inj.mp q)
    have tc12 : ¬ zb.toInt = 4 := fun q => c12 (Int32.toInt_inj.mp q)
    have tc14 : ¬ zb.toInt = 5 := fun q => c14 (Int32.toInt_inj.mp q)
    have tc16 : ¬ zb.toInt = 6 := fun q => c16 (Int32.toInt_inj.mp q)
    have tc18 : ¬ zb.toInt = 7 := fun q => c18 (Int32.toInt_inj.mp q)
    have tc20 : ¬ zb.toInt = 8 := fun q => c20 (Int32.toInt_inj.mp q)
    have tc22 : ¬ zb.toInt = 9 := fun q => c22 (Int32.toInt_inj.mp q)
    refine pm_tswOut (tgt := 218) hG dX11_about_22 (by omega) rfl ?_
    refine pm_aloadn hG dX11_about_218 rfl ?_
    refine pm_ldc hG dX11_about_219 (ctX11_109 _ rfl) ?_
    refine pm_callV (As := [.int (-1000001)]) (rest := []) hG hR dX11_about_221 (lkX11_97 _ rfl) okV_X11_told rfl rfl (sx_told (d := 1) (by decide) rfl rfl) rfl rfl hdd (Nat.le_refl _) (Nat.le_refl _) (by decide) (pm_ki (fun v24 σ' cnt' hq => ?_))
    obtain ⟨-, ⟨g24, hg24⟩, hc24⟩ := hq
    obtain ⟨I24, A24, rfl, rfl, h24⟩ := hv_a53 (kp := kp) (I := I1) (A := A1) h1 ⟨hg24, hc24⟩
    exact pm_iret hG hF dX11_about_224 rfl (Nat.le_refl _) (Nat.le_refl _) ⟨_, rfl, _, _, rfl, rfl, h24⟩
  · refine pm_aloadn hG dX11_about_14 rfl ?_
    refine pm_ldc hG dX11_about_15 (ctX11_109 _ rfl) ?_
    refine pm_callV (As := [.int (-1000001)]) (rest := []) hG hR dX11_about_17 (lkX11_97 _ rfl) okV_X11_told rfl rfl (sx_told (d := 1) (by decide) rfl rfl) rfl rfl hdd (Nat.le_refl _) (Nat.le_refl _) (by decide) (pm_ki (fun v25 σ' cnt' hq => ?_))
    obtain ⟨-, ⟨g25, hg25⟩, hc25⟩ := hq
    obtain ⟨I25, A25, rfl, rfl, h25⟩ := hv_a53 (kp := kp) (I := I1) (A := A1) h1 ⟨hg25, hc25⟩
    exact pm_iret hG hF dX11_about_20 rfl (Nat.le_refl _) (Nat.le_refl _) ⟨_, rfl, _, _, rfl, rfl, h25⟩

set_option maxRecDepth 100000 in
set_option maxHeartbeats 4000000 in
theorem g_X2_pop {d B cnt : Nat} {kp : Value} {ρ : pm_S} {I : Nat → Int32} {A : Nat → Nat → Int32} (hdd : 1 ≤ d) (h : gs I) : pm_met mX2_pop d 0 0 B [.ref (B + 26)] cnt (pm_two (cl_L B kp I A) ρ) (pm_Qi (fun _ σ' cnt' => hvc B kp ρ cnt σ' cnt')) := by
  refine pm_enter 0 (by decide) (Nat.le_of_ble_eq_true rfl) rfl (fun G hG hR hF => ?_)
  refine pm_aloadn hG dX2_pop_0 rfl ?_
  refine pm_getf hG dX2_pop_1 (flX2_87 _ rfl) rfl rfl ?_
  refine pm_iconst (v := 1) hG dX2_pop_4 (by decide) ?_
  refine pm_icmp_lt (tgt := 20) hG dX2_pop_5 rfl (fun c1 => ?_) (fun c1 => ?_)
  · refine pm_iconst (v := 0) hG dX2_pop_20 (by decide) ?_
    exact pm_iret hG hF dX2_pop_21 rfl (Nat.le_refl _) (Nat.le_refl _) ⟨_, rfl, _, _, rfl, rfl, h⟩
  · refine pm_aloadn hG dX2_pop_8 rfl ?_
    refine pm_getf hG dX2_pop_9 (flX2_87 _ rfl) rfl rfl ?_
    refine pm_aloadn hG dX2_pop_12 rfl ?_
    refine pm_getf hG dX2_pop_13 (flX2_30 _ rfl) rfl rfl ?_
    refine pm_alen (v := 60) hG dX2_pop_16 rfl (by decide) ?_
    refine pm_icmp_le (tgt := 22) hG dX2_pop_17 rfl (fun c2 => ?_) (fun c2 => ?_)
    · refine pm_aloadn hG dX2_pop_22 rfl ?_
      refine pm_dup hG dX2_pop_23 rfl ?_
      refine pm_getf hG dX2_pop_24 (flX2_87 _ rfl) rfl rfl ?_
      refine pm_iconst (v := 1) hG dX2_pop_27 (by decide) ?_
      refine pm_isub hG dX2_pop_28 ?_
      refine pm_putf hG dX2_pop_29 (fwX2_87 _ rfl) rfl rfl rfl ?_
      refine pm_nrm (L' := cl_L B kp (ui I 104 ((I 104) - 1)) A) (by decide) (Nat.le_of_ble_eq_true rfl) rfl ?_
      refine pm_aloadn hG dX2_pop_32 rfl ?_
      refine pm_getf hG dX2_pop_33 (flX2_30 _ rfl) rfl rfl ?_
      refine pm_aloadn hG dX2_pop_36 rfl ?_
      refine pm_getf hG dX2_pop_37 (flX2_87 _ rfl) rfl rfl ?_
      refine pm_iald hG dX2_pop_40 rfl (pm_ibt (by have q := And.intro True.intro True.intro;  simp only [Int32.lt_iff_toInt_lt, Int32.le_iff_toInt_le, ← Int32.toInt_inj, (show (1 : Int32).toInt = 1 from rfl), (show (60 : Int32).toInt = 60 from rfl)] at *; omega)) ?_
      exact pm_iret hG hF dX2_pop_41 rfl (Nat.le_refl _) (Nat.le_refl _) ⟨_, rfl, _, _, rfl, rfl, (gs.wi (k := 104) rfl h)⟩
    · refine pm_iconst (v := 0) hG dX2_pop_20 (by decide) ?_
      exact pm_iret hG hF dX2_pop_21 rfl (Nat.le_refl _) (Nat.le_refl _) ⟨_, rfl, _, _, rfl, rfl, h⟩

set_option maxRecDepth 100000 in
set_option maxHeartbeats 4000000 in
theorem g_X2_joined {d B cnt : Nat} {kp : Value} {ρ : pm_S} {I : Nat → Int32} {A : Nat → Nat → Int32} {za zb zc : Int32} (hdd : 1 ≤ d) (h : gs I) : pm_met mX2_joined d 0 0 B [.int za, .int zb, .int zc] cnt (pm_two (cl_L B kp I A) ρ) (pm_Qi (fun _ σ' cnt' => hvc B kp ρ cnt σ' cnt')) := by
  refine pm_enter 0 (by decide) (Nat.le_of_ble_eq_true rfl) rfl (fun G hG hR hF => ?_)
  refine pm_iloadn hG dX2_joined_0 rfl ?_
  by_cases c1 : za = (-7)
  · refine pm_top (v := (-7)) c1 ?_
    refine pm_tswIn (tgt := 101) hG dX2_joined_1 (by decide) (by decide) rfl rfl ?_
    refine pm_iloadn hG dX2_joined_101 rfl ?_
    refine pm_iloadn hG dX2_joined_102 rfl ?_
    refine pm_iadd hG dX2_joined_103 ?_
    exact pm_iret hG hF dX2_joined_104 rfl (Nat.le_refl _) (Nat.le_refl _) ⟨_, rfl, _, _, rfl, rfl, h⟩
  by_cases c2 : za = (-6)
  · refine pm_top (v := (-6)) c2 ?_
    refine pm_tswIn (tgt := 90) hG dX2_joined_1 (by decide) (by decide) rfl rfl ?_
    refine pm_iloadn hG dX2_joined_90 rfl ?_
    refine pm_iloadn hG dX2_joined_91 rfl ?_
    refine pm_icmp_le (tgt := 99) hG dX2_joined_92 rfl (fun c3 => ?_) (fun c3 => ?_)
    · refine pm_iconst (v := 0) hG dX2_joined_99 (by decide) ?_
      exact pm_iret hG hF dX2_joined_100 rfl (Nat.le_refl _) (Nat.le_refl _) ⟨_, rfl, _, _, rfl, rfl, h⟩
    · refine pm_iconst (v := 1) hG dX2_joined_95 (by decide) ?_
      refine pm_goto (tgt := 100) hG dX2_joined_96 rfl ?_
      exact pm_iret hG hF dX2_joined_100 rfl (Nat.le_refl _) (Nat.le_refl _) ⟨_, rfl, _, _, rfl, rfl, h⟩
  by_cases c4 : za = (-5)
  · refine pm_top (v := (-5)) c4 ?_
    refine pm_tswIn (tgt := 79) hG dX2_joined_1 (by decide) (by decide) rfl rfl ?_
    refine pm_iloadn hG dX2_joined_79 rfl ?_
    refine pm_iloadn hG dX2_joined_80 rfl ?_
    refine pm_icmp_ne (tgt := 88) hG dX2_joined_81 rfl (fun c5 => ?_) (fun c5 => ?_)
    · refine pm_iconst (v := 0) hG dX2_joined_88 (by decide) ?_
      exact pm_iret hG hF dX2_joined_89 rfl (Nat.le_refl _) (Nat.le_refl _) ⟨_, rfl, _, _, rfl, rfl, h⟩
    · refine pm_iconst (v := 1) hG dX2_joined_84 (by decide) ?_
      refine pm_goto (tgt := 89) hG dX2_joined_85 rfl ?_
      exact pm_iret hG hF dX2_joined_89 rfl (Nat.le_refl _) (Nat.le_refl _) ⟨_, rfl, _, _, rfl, rfl, h⟩
  by_cases c6 : za = (-4)
  · refine pm_top (v := (-4)) c6 ?_
    refine pm_tswIn (tgt := 68) hG dX2_joined_1 (by decide) (by decide) rfl rfl ?_
    refine pm_iloadn hG dX2_joined_68 rfl ?_
    refine pm_iloadn hG dX2_joined_69 rfl ?_
    refine pm_icmp_ge (tgt := 77) hG dX2_joined_70 rfl (fun c7 => ?_) (fun c7 => ?_)
    · refine pm_iconst (v := 0) hG dX2_joined_77 (by decide) ?_
      exact pm_iret hG hF dX2_joined_78 rfl (Nat.le_refl _) (Nat.le_refl _) ⟨_, rfl, _, _, rfl, rfl, h⟩
    · refine pm_iconst (v := 1) hG dX2_joined_73 (by decide) ?_
      refine pm_goto (tgt := 78) hG dX2_joined_74 rfl ?_
      exact pm_iret hG hF dX2_joined_78 rfl (Nat.le_refl _) (Nat.le_refl _) ⟨_, rfl, _, _, rfl, rfl, h⟩
  by_cases c8 : za = (-3)
  · refine pm_top (v := (-3)) c8 ?_
    refine pm_tswIn (tgt := 54) hG dX2_joined_1 (by decide) (by decide) rfl rfl ?_
    refine pm_iloadn hG dX2_joined_54 rfl ?_
    refine pm_if_eq (tgt := 66) hG dX2_joined_55 rfl (fun c9 => ?_) (fun c9 => ?_)
    · refine pm_iconst (v := 0) hG dX2_joined_66 (by decide) ?_
      exact pm_iret hG hF dX2_joined_67 rfl (Nat.le_refl _) (Nat.le_refl _) ⟨_, rfl, _, _, rfl, rfl, h⟩
    · refine pm_iloadn hG dX2_joined_58 rfl ?_
      refine pm_if_eq (tgt := 66) hG dX2_joined_59 rfl (fun c10 => ?_) (fun c10 => ?_)
      · refine pm_iconst (v := 0) hG dX2_joined_66 (by decide) ?_
        exact pm_iret hG hF dX2_joined_67 rfl (Nat.le_refl _) (Nat.le_refl _) ⟨_, rfl, _, _, rfl, rfl, h⟩
      · refine pm_iconst (v := 1) hG dX2_joined_62 (by decide) ?_
        refine pm_goto (tgt := 67) hG dX2_joined_63 rfl ?_
        exact pm_iret hG hF dX2_joined_67 rfl (Nat.le_refl _) (Nat.le_refl _) ⟨_, rfl, _, _, rfl, rfl, h⟩
  by_cases c11 : za = (-2)
  · refine pm_top (v := (-2)) c11 ?_
    refine pm_tswIn (tgt := 40) hG dX2_joined_1 (by decide) (by decide) rfl rfl ?_
    refine pm_iloadn hG dX2_joined_40 rfl ?_
    refine pm_if_ne (tgt := 48) hG dX2_joined_41 rfl (fun c12 => ?_) (fun c12 => ?_)
    · refine pm_iconst (v := 1) hG dX2_joined_48 (by decide) ?_
      refine pm_goto (tgt := 53) hG dX2_joined_49 rfl ?_
      exact pm_iret hG hF dX2_joined_53 rfl (Nat.le_refl _) (Nat.le_refl _) ⟨_, rfl, _, _, rfl, rfl, h⟩
    · refine pm_iloadn hG dX2_joined_44 rfl ?_
      refine pm_if_eq (tgt := 52) hG dX2_joined_45 rfl (fun c13 => ?_) (fun c13 => ?_)
      · refine pm_iconst (v := 0) hG dX2_joined_52 (by decide) ?_
        exact pm_iret hG hF dX2_joined_53 rfl (Nat.le_refl _) (Nat.le_refl _) ⟨_, rfl, _, _, rfl, rfl, h⟩
      · refine pm_iconst (v := 1) hG dX2_joined_48 (by decide) ?_
        refine pm_goto (tgt := 53) hG dX2_joined_49 rfl ?_
        exact pm_iret hG hF dX2_joined_53 rfl (Nat.le_refl _) (Nat.le_refl _) ⟨_, rfl, _, _, rfl, rfl, h⟩
  have tc1 : ¬ za.toInt = (-7) := fun q => c1 (Int32.toInt_inj.mp q)
  have tc2 : ¬ za.toInt = (-6) := fun q => c2 (Int32.toInt_inj.mp q)
  have tc4 : ¬ za.toInt = (-5) := fun q => c4 (Int32.toInt_inj.mp q)
  have tc6 : ¬ za.toInt = (-4) := fun q => c6 (Int32.toInt_inj.mp q)
  have tc8 : ¬ za.toInt = (-3) := fun q => c8 (Int32.toInt_inj.mp q)
  have tc11 : ¬ za.toInt = (-2) := fun q => c11 (Int32.toInt_inj.mp q)
  refine pm_tswOut (tgt := 105) hG dX2_joined_1 (by omega) rfl ?_
  refine pm_iloadn hG dX2_joined_105 rfl ?_
  refine pm_iloadn hG dX2_joined_106 rfl ?_
  refine pm_isub hG dX2_joined_107 ?_
  exact pm_iret hG hF dX2_joined_108 rfl (Nat.le_refl _) (Nat.le_refl _) ⟨_, rfl, _, _, rfl, rfl, h⟩

set_option maxRecDepth 100000 in
set_option maxHeartbeats 4000000 in
theorem g_X2_push {d B cnt : Nat} {kp : Value} {ρ : pm_S} {I : Nat → Int32} {A : Nat → Nat → Int32} {za : Int32} (hdd : 1 ≤ d) (h : gs I) : pm_met mX2_push d 0 0 B [.ref (B + 26), .int za] cnt (pm_two (cl_L B kp I A) ρ) (pm_Qv (fun σ' cnt' => hvc B kp ρ cnt σ' cnt')) := by
  refine pm_enter 0 (by decide) (Nat.le_of_ble_eq_true rfl) rfl (fun G hG hR hF => ?_)
  refine pm_aloadn hG dX2_push_0 rfl ?_
  refine pm_getf hG dX2_push_1 (flX2_87 _ rfl) rfl rfl ?_
  refine pm_if_lt (tgt := 39) hG dX2_push_4 rfl (fun c1 => ?_) (fun c1 => ?_)
  · exact pm_vret hG hF dX2_push_39 rfl (Nat.le_refl _) (Nat.le_refl _) ⟨rfl, _, _, rfl, rfl, h⟩
  · refine pm_aloadn hG dX2_push_7 rfl ?_
    refine pm_getf hG dX2_push_8 (flX2_87 _ rfl) rfl rfl ?_
    refine pm_aloadn hG dX2_push_11 rfl ?_
    refine pm_getf hG dX2_push_12 (flX2_30 _ rfl) rfl rfl ?_
    refine pm_alen (v := 60) hG dX2_push_15 rfl (by decide) ?_
    refine pm_icmp_ge (tgt := 39) hG dX2_push_16 rfl (fun c2 => ?_) (fun c2 => ?_)
    · exact pm_vret hG hF dX2_push_39 rfl (Nat.le_refl _) (Nat.le_refl _) ⟨rfl, _, _, rfl, rfl, h⟩
    · refine pm_aloadn hG dX2_push_19 rfl ?_
      refine pm_getf hG dX2_push_20 (flX2_30 _ rfl) rfl rfl ?_
      refine pm_aloadn hG dX2_push_23 rfl ?_
      refine pm_getf hG dX2_push_24 (flX2_87 _ rfl) rfl rfl ?_
      refine pm_iloadn hG dX2_push_27 rfl ?_
      refine pm_iast hG dX2_push_28 rfl (pm_ibt (by have q := And.intro True.intro True.intro;  simp only [Int32.lt_iff_toInt_lt, Int32.le_iff_toInt_le, ← Int32.toInt_inj, (show (0 : Int32).toInt = 0 from rfl), (show (60 : Int32).toInt = 60 from rfl)] at *; omega)) ?_
      refine pm_nrm (L' := cl_L B kp I (ua A 30 (upd (A 30) (I 104).toNatClampNeg za))) (by decide) (Nat.le_of_ble_eq_true rfl) rfl ?_
      refine pm_aloadn hG dX2_push_29 rfl ?_
      refine pm_dup hG dX2_push_30 rfl ?_
      refine pm_getf hG dX2_push_31 (flX2_87 _ rfl) rfl rfl ?_
      refine pm_iconst (v := 1) hG dX2_push_34 (by decide) ?_
      refine pm_iadd hG dX2_push_35 ?_
      refine pm_putf hG dX2_push_36 (fwX2_87 _ rfl) rfl rfl rfl ?_
      refine pm_nrm (L' := cl_L B kp (ui I 104 ((I 104) + 1)) (ua A 30 (upd (A 30) (I 104).toNatClampNeg za))) (by decide) (Nat.le_of_ble_eq_true rfl) rfl ?_
      exact pm_vret hG hF dX2_push_39 rfl (Nat.le_refl _) (Nat.le_refl _) ⟨rfl, _, _, rfl, rfl, (gs.wi (k := 104) rfl h)⟩

set_option maxRecDepth 100000 in
set_option maxHeartbeats 4000000 in
theorem g_X2_placeNamed {d B cnt : Nat} {kp : Value} {ρ : pm_S} {I : Nat → Int32} {A : Nat → Nat → Int32} {za : Int32} (hdd : 1 ≤ d) (h : gs I) : pm_met mX2_placeNamed d 0 0 B [.int za] cnt (pm_two (cl_L B kp I A) ρ) (pm_Qi (fun _ σ' cnt' => hvc B kp ρ cnt σ' cnt')) := by
  refine pm_enter 0 (by decide) (Nat.le_of_ble_eq_true rfl) rfl (fun G hG hR hF => ?_)
  refine pm_iloadn hG dX2_placeNamed_0 rfl ?_
  refine pm_if_ge (tgt := 9) hG dX2_placeNamed_1 rfl (fun c1 => ?_) (fun c1 => ?_)
  · refine pm_iloadn hG dX2_placeNamed_9 rfl ?_
    exact pm_iret hG hF dX2_placeNamed_10 rfl (Nat.le_refl _) (Nat.le_refl _) ⟨_, rfl, _, _, rfl, rfl, h⟩
  · refine pm_bipush (v := 10) hG dX2_placeNamed_4 (by decide) ?_
    refine pm_goto (tgt := 10) hG dX2_placeNamed_6 rfl ?_
    exact pm_iret hG hF dX2_placeNamed_10 rfl (Nat.le_refl _) (Nat.le_refl _) ⟨_, rfl, _, _, rfl, rfl, h⟩

set_option maxRecDepth 100000 in
set_option maxHeartbeats 4000000 in
theorem g_X11_breaks {d B cnt : Nat} {kp : Value} {ρ : pm_S} {I : Nat → Int32} {A : Nat → Nat → Int32} {za : Int32} (hdd : 2 ≤ d) (h : gs I) : pm_met mX11_breaks d 0 0 B [.ref (B + 0), .int za] cnt (pm_two (cl_L B kp I A) ρ) (pm_Qi (fun _ σ' cnt' => hvc B kp ρ cnt σ' cnt')) := by
  refine pm_enter 0 (by decide) (Nat.le_of_ble_eq_true rfl) rfl (fun G hG hR hF => ?_)
  refine pm_aloadn hG dX11_breaks_0 rfl ?_
  refine pm_getf hG dX11_breaks_1 (flX11_12 _ rfl) rfl rfl ?_
  refine pm_getf hG dX11_breaks_4 (flX11_277 _ rfl) rfl rfl ?_
  refine pm_iloadn hG dX11_breaks_7 rfl ?_
  refine pm_callV (As := [.int za]) (rest := []) hG hR dX11_breaks_8 (lkX11_101 _ rfl) okV_X9_has rfl rfl (tb_has (d := 1) rfl) rfl rfl hdd (Nat.le_refl _) (Nat.le_refl _) (by decide) (pm_ki (fun v1 σ' cnt' hq => ?_))
  have b1 := pm_b01 hq.1
  obtain ⟨I1, A1, rfl, rfl, h1⟩ := hv_id (kp := kp) (I := I) (A := A) h hq.2
  refine pm_if_ne (tgt := 21) hG dX11_breaks_11 rfl (fun c2 => ?_) (fun c2 => ?_)
  · refine pm_aloadn hG dX11_breaks_21 rfl ?_
    refine pm_getf hG dX11_breaks_22 (flX11_30 _ rfl) rfl rfl ?_
    refine pm_iloadn hG dX11_breaks_25 rfl ?_
    refine pm_callV (As := [.int za]) (rest := []) hG hR dX11_breaks_26 (lkX11_284 _ rfl) okV_X0_stands rfl rfl (g_X0_stands (d := 1) (by decide) h1) rfl rfl hdd (Nat.le_refl _) (Nat.le_refl _) (by decide) (pm_ki (fun v3 σ' cnt' hq => ?_))
    obtain ⟨b3, I3, A3, rfl, rfl, h3⟩ := hq
    refine pm_if_ne (tgt := 39) hG dX11_breaks_29 rfl (fun c4 => ?_) (fun c4 => ?_)
    · refine pm_aloadn hG dX11_breaks_39 rfl ?_
      refine pm_getf hG dX11_breaks_40 (flX11_12 _ rfl) rfl rfl ?_
      refine pm_getf hG dX11_breaks_43 (flX11_277 _ rfl) rfl rfl ?_
      refine pm_iloadn hG dX11_breaks_46 rfl ?_
      refine pm_iconst (v := 4) hG dX11_breaks_47 (by decide) ?_
      refine pm_iconst (v := 2) hG dX11_breaks_48 (by decide) ?_
      refine pm_callV (As := [.int za, .int 4, .int 2]) (rest := []) hG hR dX11_breaks_49 (lkX11_170 _ rfl) okV_X9_set rfl rfl (tb_set (d := 1) rfl rfl (pm_tw_of 30 5 (by decide) (by decide) (by decide)) (by decide)) rfl rfl hdd (Nat.le_refl _) (Nat.le_refl _) (by decide) (pm_kv (fun σ' cnt' hq => ?_))
      obtain ⟨I5, A5, rfl, rfl, h5⟩ := hv_a19 (kp := kp) (I := I3) (A := A3) h3 hq
      refine pm_iconst (v := 1) hG dX11_breaks_52 (by decide) ?_
      exact pm_iret hG hF dX11_breaks_53 rfl (Nat.le_refl _) (Nat.le_refl _) ⟨_, rfl, _, _, rfl, rfl, h5⟩
    · refine pm_aloadn hG dX11_breaks_32 rfl ?_
      refine pm_ldc hG dX11_breaks_33 (ctX11_138 _ rfl) ?_
      refine pm_callV (As := [.int (-1000003)]) (rest := []) hG hR dX11_breaks_35 (lkX11_97 _ rfl) okV_X11_told rfl rfl (sx_told (d := 1) (by decide) rfl rfl) rfl rfl hdd (Nat.le_refl _) (Nat.le_refl _) (by decide) (pm_ki (fun v6 σ' cnt' hq => ?_))
      obtain ⟨-, ⟨g6, hg6⟩, hc6⟩ := hq
      obtain ⟨I6, A6, rfl, rfl, h6⟩ := hv_a53 (kp := kp) (I := I3) (A := A3) h3 ⟨hg6, hc6⟩
      exact pm_iret hG hF dX11_breaks_38 rfl (Nat.le_refl _) (Nat.le_refl _) ⟨_, rfl, _, _, rfl, rfl, h6⟩
  · refine pm_aloadn hG dX11_breaks_14 rfl ?_
    refine pm_ldc hG dX11_breaks_15 (ctX11_109 _ rfl) ?_
    refine pm_callV (As := [.int (-1000001)]) (rest := []) hG hR dX11_breaks_17 (lkX11_97 _ rfl) okV_X11_told rfl rfl (sx_told (d := 1) (by decide) rfl rfl) rfl rfl hdd (Nat.le_refl _) (Nat.le_refl _) (by decide) (pm_ki (fun v7 σ' cnt' hq => ?_))
    obtain ⟨-, ⟨g7, hg7⟩, hc7⟩ := hq
    obtain ⟨I7, A7, rfl, rfl, h7⟩ := hv_a53 (kp := kp) (I := I1) (A := A1) h1 ⟨hg7, hc7⟩
    exact pm_iret hG hF dX11_breaks_20 rfl (Nat.le_refl _) (Nat.le_refl _) ⟨_, rfl, _, _, rfl, rfl, h7⟩

set_option maxRecDepth 100000 in
set_option maxHeartbeats 4000000 in
theorem g_X7_isCoinOf {d B cnt : Nat} {kp : Value} {ρ : pm_S} {I : Nat → Int32} {A : Nat → Nat → Int32} {za zb : Int32} (hdd : 1 ≤ d) (h : gs I) : pm_met mX7_isCoinOf d 0 0 B [.ref (B + 1), .int za, .int zb] cnt (pm_two (cl_L B kp I A) ρ) (pm_Qi (fun v σ' cnt' => (v = 0 ∨ v = 1) ∧ hvc B kp ρ cnt σ' cnt')) := by
  refine pm_enter 0 (by decide) (Nat.le_of_ble_eq_true rfl) rfl (fun G hG hR hF => ?_)
  refine pm_aloadn hG dX7_isCoinOf_0 rfl ?_
  refine pm_getf hG dX7_isCoinOf_1 (flX7_23 _ rfl) rfl rfl ?_
  refine pm_iloadn hG dX7_isCoinOf_4 rfl ?_
  refine pm_callV (As := [.int za]) (rest := []) hG hR dX7_isCoinOf_5 (lkX7_93 _ rfl) okV_X9_has rfl rfl (tb_has (d := 0) rfl) rfl rfl hdd (Nat.le_refl _) (Nat.le_refl _) (by decide) (pm_ki (fun v1 σ' cnt' hq => ?_))
  have b1 := pm_b01 hq.1
  obtain ⟨I1, A1, rfl, rfl, h1⟩ := hv_id (kp := kp) (I := I) (A := A) h hq.2
  refine pm_if_eq (tgt := 31) hG dX7_isCoinOf_8 rfl (fun c2 => ?_) (fun c2 => ?_)
  · refine pm_iloadn hG dX7_isCoinOf_31 rfl ?_
    refine pm_aloadn hG dX7_isCoinOf_32 rfl ?_
    refine pm_getf hG dX7_isCoinOf_33 (flX7_23 _ rfl) rfl rfl ?_
    refine pm_callV (As := []) (rest := [.int za]) hG hR dX7_isCoinOf_36 (lkX7_79 _ rfl) okV_X9_used rfl rfl (tb_used (d := 0) rfl) rfl rfl hdd (Nat.le_refl _) (Nat.le_refl _) (by first | decide | exact Nat.le_of_ble_eq_true rfl) (pm_ki (fun v3 σ' cnt' hq => ?_))
    obtain ⟨I3, A3, rfl, rfl, h3⟩ := hv_id (kp := kp) (I := I1) (A := A1) h1 hq.2
    refine pm_icmp_ne (tgt := 54) hG dX7_isCoinOf_39 rfl (fun c4 => ?_) (fun c4 => ?_)
    · refine pm_iconst (v := 0) hG dX7_isCoinOf_54 (by decide) ?_
      exact pm_zret hG hF dX7_isCoinOf_55 rfl (pm_nz (Or.inl rfl)) (Nat.le_refl _) (Nat.le_refl _) ⟨_, rfl, (Or.inl rfl), _, _, rfl, rfl, h3⟩
    · refine pm_aloadn hG dX7_isCoinOf_42 rfl ?_
      refine pm_getf hG dX7_isCoinOf_43 (flX7_53 _ rfl) rfl rfl ?_
      refine pm_iloadn hG dX7_isCoinOf_46 rfl ?_
      refine pm_icmp_ne (tgt := 54) hG dX7_isCoinOf_47 rfl (fun c5 => ?_) (fun c5 => ?_)
      · refine pm_iconst (v := 0) hG dX7_isCoinOf_54 (by decide) ?_
        exact pm_zret hG hF dX7_isCoinOf_55 rfl (pm_nz (Or.inl rfl)) (Nat.le_refl _) (Nat.le_refl _) ⟨_, rfl, (Or.inl rfl), _, _, rfl, rfl, h3⟩
      · refine pm_iconst (v := 1) hG dX7_isCoinOf_50 (by decide) ?_
        refine pm_goto (tgt := 55) hG dX7_isCoinOf_51 rfl ?_
        exact pm_zret hG hF dX7_isCoinOf_55 rfl (pm_nz (Or.inr rfl)) (Nat.le_refl _) (Nat.le_refl _) ⟨_, rfl, (Or.inr rfl), _, _, rfl, rfl, h3⟩
  · refine pm_aloadn hG dX7_isCoinOf_11 rfl ?_
    refine pm_getf hG dX7_isCoinOf_12 (flX7_23 _ rfl) rfl rfl ?_
    refine pm_iloadn hG dX7_isCoinOf_15 rfl ?_
    refine pm_bipush (v := 7) hG dX7_isCoinOf_16 (by decide) ?_
    refine pm_callV (As := [.int za, .int 7]) (rest := []) hG hR dX7_isCoinOf_18 (lkX7_83 _ rfl) okV_X9_get rfl rfl (tb_get (d := 0) rfl rfl (pm_tw_of 20 14 (by decide) (by decide) (by decide))) rfl rfl hdd (Nat.le_refl _) (Nat.le_refl _) (by decide) (pm_ki (fun v6 σ' cnt' hq => ?_))
    obtain ⟨I6, A6, rfl, rfl, h6⟩ := hv_id (kp := kp) (I := I1) (A := A1) h1 hq.2
    refine pm_iloadn hG dX7_isCoinOf_21 rfl ?_
    refine pm_icmp_ne (tgt := 29) hG dX7_isCoinOf_22 rfl (fun c7 => ?_) (fun c7 => ?_)
    · refine pm_iconst (v := 0) hG dX7_isCoinOf_29 (by decide) ?_
      exact pm_zret hG hF dX7_isCoinOf_30 rfl (pm_nz (Or.inl rfl)) (Nat.le_refl _) (Nat.le_refl _) ⟨_, rfl, (Or.inl rfl), _, _, rfl, rfl, h6⟩
    · refine pm_iconst (v := 1) hG dX7_isCoinOf_25 (by decide) ?_
      refine pm_goto (tgt := 30) hG dX7_isCoinOf_26 rfl ?_
      exact pm_zret hG hF dX7_isCoinOf_30 rfl (pm_nz (Or.inr rfl)) (Nat.le_refl _) (Nat.le_refl _) ⟨_, rfl, (Or.inr rfl), _, _, rfl, rfl, h6⟩

set_option maxRecDepth 100000 in
set_option maxHeartbeats 4000000 in
theorem g_X11_check {d B cnt : Nat} {kp : Value} {ρ : pm_S} {I : Nat → Int32} {A : Nat → Nat → Int32} (hdd : 2 ≤ d) (h : gs I) : pm_met mX11_check d 0 0 B [.ref (B + 0)] cnt (pm_two (cl_L B kp I A) ρ) (pm_Qi (fun _ σ' cnt' => hvc B kp ρ cnt σ' cnt')) := by
  refine pm_enter 3 (by decide) (Nat.le_of_ble_eq_true rfl) rfl (fun G hG hR hF => ?_)
  refine pm_aloadn hG dX11_check_0 rfl ?_
  refine pm_getf hG dX11_check_1 (flX11_12 _ rfl) rfl rfl ?_
  refine pm_getf hG dX11_check_4 (flX11_386 _ rfl) rfl rfl ?_
  refine pm_callV (As := []) (rest := []) hG hR dX11_check_7 (lkX11_203 _ rfl) okV_X9_used rfl rfl (tb_used (d := 1) rfl) rfl rfl hdd (Nat.le_refl _) (Nat.le_refl _) (by decide) (pm_ki (fun v1 σ' cnt' hq => ?_))
  obtain ⟨I1, A1, rfl, rfl, h1⟩ := hv_id (kp := kp) (I := I) (A := A) h hq.2
  refine pm_istoreXn (loc' := [some (.ref (B + 0)), some (.int v1), none, none]) hG dX11_check_10 (by decide) (pm_c1b rfl) rfl ?_
  refine pm_iconst (v := 0) hG dX11_check_11 (by decide) ?_
  refine pm_istoreXn (loc' := [some (.ref (B + 0)), some (.int v1), some (.int 0), none]) hG dX11_check_12 (by decide) (pm_c1b rfl) rfl ?_
  refine pm_iconst (v := 0) hG dX11_check_13 (by decide) ?_
  refine pm_istoreXn (loc' := [some (.ref (B + 0)), some (.int v1), some (.int 0), some (.int 0)]) hG dX11_check_14 (by decide) (pm_c1b rfl) rfl ?_
  have loop15 : ∀ (m15 : Nat) (I2 : Nat → Int32) (A2 : Nat → Nat → Int32) (x2_2 x2_3 : Int32), gs I2 → ((v1 : Int32).toInt - x2_3.toInt).toNat < m15 → pm_wp mX11_check G B 15 [some (.ref (B + 0)), some (.int v1), some (.int x2_2), some (.int x2_3)] [] 0 0 cnt (pm_two (cl_L B kp I2 A2) ρ) := by
    intro m15
    induction m15 with
    | zero => intro I2 A2 x2_2 x2_3 _  hm; exact absurd hm (Nat.not_lt_zero _)
    | succ m15 ih15 =>
      intro I2 A2 x2_2 x2_3 h2  hm15
      refine pm_iloadn hG dX11_check_15 rfl ?_
      refine pm_iloadn hG dX11_check_16 rfl ?_
      refine pm_icmp_ge (tgt := 57) hG dX11_check_17 rfl (fun c3 => ?_) (fun c3 => ?_)
      · refine pm_aloadn hG dX11_check_57 rfl ?_
        refine pm_getf hG dX11_check_58 (flX11_12 _ rfl) rfl rfl ?_
        refine pm_getf hG dX11_check_61 (flX11_386 _ rfl) rfl rfl ?_
        refine pm_callV (As := []) (rest := []) hG hR dX11_check_64 (lkX11_392 _ rfl) okV_X9_clear rfl rfl (tb_clear (d := 1) rfl) rfl rfl hdd (Nat.le_refl _) (Nat.le_refl _) (by decide) (pm_kv (fun σ' cnt' hq => ?_))
        obtain ⟨I4, A4, rfl, rfl, h4⟩ := hv_c22 (kp := kp) (I := I2) (A := A2) h2 hq
        refine pm_iloadn hG dX11_check_67 rfl ?_
        exact pm_iret hG hF dX11_check_68 rfl (Nat.le_refl _) (Nat.le_refl _) ⟨_, rfl, _, _, rfl, rfl, h4⟩
      · refine pm_iloadn hG dX11_check_20 rfl ?_
        refine pm_if_ne (tgt := 57) hG dX11_check_21 rfl (fun c5 => ?_) (fun c5 => ?_)
        · refine pm_aloadn hG dX11_check_57 rfl ?_
          refine pm_getf hG dX11_check_58 (flX11_12 _ rfl) rfl rfl ?_
          refine pm_getf hG dX11_check_61 (flX11_386 _ rfl) rfl rfl ?_
          refine pm_callV (As := []) (rest := []) hG hR dX11_check_64 (lkX11_392 _ rfl) okV_X9_clear rfl rfl (tb_clear (d := 1) rfl) rfl rfl hdd (Nat.le_refl _) (Nat.le_refl _) (by decide) (pm_kv (fun σ' cnt' hq => ?_))
          obtain ⟨I6, A6, rfl, rfl, h6⟩ := hv_c22 (kp := kp) (I := I2) (A := A2) h2 hq
          refine pm_iloadn hG dX11_check_67 rfl ?_
          exact pm_iret hG hF dX11_check_68 rfl (Nat.le_refl _) (Nat.le_refl _) ⟨_, rfl, _, _, rfl, rfl, h6⟩
        · refine pm_aloadn hG dX11_check_24 rfl ?_
          refine pm_getf hG dX11_check_25 (flX11_12 _ rfl) rfl rfl ?_
          refine pm_iloadn hG dX11_check_28 rfl ?_
          refine pm_aloadn hG dX11_check_29 rfl ?_
          refine pm_getf hG dX11_check_30 (flX11_12 _ rfl) rfl rfl ?_
          refine pm_getf hG dX11_check_33 (flX11_386 _ rfl) rfl rfl ?_
          refine pm_iloadn hG dX11_check_36 rfl ?_
          refine pm_iconst (v := 0) hG dX11_check_37 (by decide) ?_
          refine pm_callV (As := [.int x2_3, .int 0]) (rest := [.int x2_3, .ref (B + 1)]) hG hR dX11_check_38 (lkX11_152 _ rfl) okV_X9_get rfl rfl (tb_get (d := 1) rfl rfl (pm_tw_of 20 1 (by decide) (by decide) (by decide))) rfl rfl hdd (Nat.le_refl _) (Nat.le_refl _) (by first | decide | exact Nat.le_of_ble_eq_true rfl) (pm_ki (fun v7 σ' cnt' hq => ?_))
          obtain ⟨I7, A7, rfl, rfl, h7⟩ := hv_id (kp := kp) (I := I2) (A := A2) h2 hq.2
          refine pm_callV (As := [.int x2_3, .int v7]) (rest := []) hG hR dX11_check_41 (lkX11_389 _ rfl) okV_X7_isCoinOf rfl rfl (g_X7_isCoinOf (d := 1) (by decide) h7) rfl rfl hdd (Nat.le_refl _) (Nat.le_refl _) (by decide) (pm_ki (fun v8 σ' cnt' hq => ?_))
          obtain ⟨b8, I8, A8, rfl, rfl, h8⟩ := hq
          refine pm_if_ne (tgt := 51) hG dX11_check_44 rfl (fun c9 => ?_) (fun c9 => ?_)
          · refine pm_iincX (v := x2_3 + 1) (loc' := [some (.ref (B + 0)), some (.int v1), some (.int x2_2), some (.int (x2_3 + 1))]) hG dX11_check_51 rfl (by rfl) (by decide) (pm_c1b rfl) rfl ?_
            refine pm_goto (tgt := 15) hG dX11_check_54 rfl ?_
            exact ih15 _ _ x2_2 (x2_3 + 1) h8 (Nat.lt_of_lt_of_le (pm_mu1 c3) (Nat.le_of_lt_succ hm15))
          · refine pm_iloadn hG dX11_check_47 rfl ?_
            refine pm_iconst (v := 1) hG dX11_check_48 (by decide) ?_
            refine pm_iadd hG dX11_check_49 ?_
            refine pm_istoreXn (loc' := [some (.ref (B + 0)), some (.int v1), some (.int (x2_3 + 1)), some (.int x2_3)]) hG dX11_check_50 (by decide) (pm_c1b rfl) rfl ?_
            refine pm_iincX (v := x2_3 + 1) (loc' := [some (.ref (B + 0)), some (.int v1), some (.int (x2_3 + 1)), some (.int (x2_3 + 1))]) hG dX11_check_51 rfl (by rfl) (by decide) (pm_c1b rfl) rfl ?_
            refine pm_goto (tgt := 15) hG dX11_check_54 rfl ?_
            exact ih15 _ _ (x2_3 + 1) (x2_3 + 1) h8 (Nat.lt_of_lt_of_le (pm_mu1 c3) (Nat.le_of_lt_succ hm15))
  exact loop15 _ _ _ 0 0 h1 (Nat.lt_succ_self _)

set_option maxRecDepth 100000 in
set_option maxHeartbeats 4000000 in
theorem g_X3_isSent {d B cnt : Nat} {kp : Value} {ρ : pm_S} {I : Nat → Int32} {A : Nat → Nat → Int32} {za : Int32} (hdd : 1 ≤ d) (h : gs I) : pm_met mX3_isSent d 0 0 B [.ref (B + 36), .int za] cnt (pm_two (cl_L B kp I A) ρ) (pm_Qi (fun v σ' cnt' => (v = 0 ∨ v = 1) ∧ hvc B kp ρ cnt σ' cnt')) := by
  refine pm_enter 0 (by decide) (Nat.le_of_ble_eq_true rfl) rfl (fun G hG hR hF => ?_)
  refine pm_aloadn hG dX3_isSent_0 rfl ?_
  refine pm_getf hG dX3_isSent_1 (flX3_29 _ rfl) rfl rfl ?_
  refine pm_iloadn hG dX3_isSent_4 rfl ?_
  refine pm_bipush (v := 6) hG dX3_isSent_5 (by decide) ?_
  refine pm_callV (As := [.int za, .int 6]) (rest := []) hG hR dX3_isSent_7 (lkX3_35 _ rfl) okV_X9_get rfl rfl (tb_get (d := 0) rfl rfl (pm_tw_of 40 12 (by decide) (by decide) (by decide))) rfl rfl hdd (Nat.le_refl _) (Nat.le_refl _) (by decide) (pm_ki (fun v1 σ' cnt' hq => ?_))
  obtain ⟨I1, A1, rfl, rfl, h1⟩ := hv_id (kp := kp) (I := I) (A := A) h hq.2
  refine pm_iconst (v := (-1)) hG dX3_isSent_10 (by decide) ?_
  refine pm_icmp_eq (tgt := 18) hG dX3_isSent_11 rfl (fun c2 => ?_) (fun c2 => ?_)
  · refine pm_iconst (v := 0) hG dX3_isSent_18 (by decide) ?_
    exact pm_zret hG hF dX3_isSent_19 rfl (pm_nz (Or.inl rfl)) (Nat.le_refl _) (Nat.le_refl _) ⟨_, rfl, (Or.inl rfl), _, _, rfl, rfl, h1⟩
  · refine pm_iconst (v := 1) hG dX3_isSent_14 (by decide) ?_
    refine pm_goto (tgt := 19) hG dX3_isSent_15 rfl ?_
    exact pm_zret hG hF dX3_isSent_19 rfl (pm_nz (Or.inr rfl)) (Nat.le_refl _) (Nat.le_refl _) ⟨_, rfl, (Or.inr rfl), _, _, rfl, rfl, h1⟩

set_option maxRecDepth 100000 in
set_option maxHeartbeats 4000000 in
theorem g_X3_onTheirWay {d B cnt : Nat} {kp : Value} {ρ : pm_S} {I : Nat → Int32} {A : Nat → Nat → Int32} (hdd : 2 ≤ d) (h : gs I) : pm_met mX3_onTheirWay d 0 0 B [.ref (B + 36)] cnt (pm_two (cl_L B kp I A) ρ) (pm_Qi (fun _ σ' cnt' => hvc B kp ρ cnt σ' cnt')) := by
  refine pm_enter 3 (by decide) (Nat.le_of_ble_eq_true rfl) rfl (fun G hG hR hF => ?_)
  refine pm_iconst (v := 0) hG dX3_onTheirWay_0 (by decide) ?_
  refine pm_istoreXn (loc' := [some (.ref (B + 36)), some (.int 0), none, none]) hG dX3_onTheirWay_1 (by decide) (pm_c1b rfl) rfl ?_
  refine pm_aloadn hG dX3_onTheirWay_2 rfl ?_
  refine pm_getf hG dX3_onTheirWay_3 (flX3_29 _ rfl) rfl rfl ?_
  refine pm_callV (As := []) (rest := []) hG hR dX3_onTheirWay_6 (lkX3_74 _ rfl) okV_X9_used rfl rfl (tb_used (d := 1) rfl) rfl rfl hdd (Nat.le_refl _) (Nat.le_refl _) (by decide) (pm_ki (fun v1 σ' cnt' hq => ?_))
  obtain ⟨I1, A1, rfl, rfl, h1⟩ := hv_id (kp := kp) (I := I) (A := A) h hq.2
  refine pm_istoreXn (loc' := [some (.ref (B + 36)), some (.int 0), some (.int v1), none]) hG dX3_onTheirWay_9 (by decide) (pm_c1b rfl) rfl ?_
  refine pm_iconst (v := 0) hG dX3_onTheirWay_10 (by decide) ?_
  refine pm_istoreXn (loc' := [some (.ref (B + 36)), some (.int 0), some (.int v1), some (.int 0)]) hG dX3_onTheirWay_11 (by decide) (pm_c1b rfl) rfl ?_
  have loop12 : ∀ (m12 : Nat) (I2 : Nat → Int32) (A2 : Nat → Nat → Int32) (x2_1 x2_3 : Int32), gs I2 → ((v1 : Int32).toInt - x2_3.toInt).toNat < m12 → pm_wp mX3_onTheirWay G B 12 [some (.ref (B + 36)), some (.int x2_1), some (.int v1), some (.int x2_3)] [] 0 0 cnt (pm_two (cl_L B kp I2 A2) ρ) := by
    intro m12
    induction m12 with
    | zero => intro I2 A2 x2_1 x2_3 _  hm; exact absurd hm (Nat.not_lt_zero _)
    | succ m12 ih12 =>
      intro I2 A2 x2_1 x2_3 h2  hm12
      refine pm_iloadn hG dX3_onTheirWay_12 rfl ?_
      refine pm_iloadn hG dX3_onTheirWay_13 rfl ?_
      refine pm_icmp_ge (tgt := 54) hG dX3_onTheirWay_14 rfl (fun c3 => ?_) (fun c3 => ?_)
      · refine pm_iloadn hG dX3_onTheirWay_54 rfl ?_
        exact pm_iret hG hF dX3_onTheirWay_55 rfl (Nat.le_refl _) (Nat.le_refl _) ⟨_, rfl, _, _, rfl, rfl, h2⟩
      · refine pm_aloadn hG dX3_onTheirWay_17 rfl ?_
        refine pm_iloadn hG dX3_onTheirWay_18 rfl ?_
        refine pm_callV (As := [.int x2_3]) (rest := []) hG hR dX3_onTheirWay_19 (lkX3_55 _ rfl) okV_X3_isSent rfl rfl (g_X3_isSent (d := 1) (by decide) h2) rfl rfl hdd (Nat.le_refl _) (Nat.le_refl _) (by decide) (pm_ki (fun v4 σ' cnt' hq => ?_))
        obtain ⟨b4, I4, A4, rfl, rfl, h4⟩ := hq
        refine pm_if_eq (tgt := 48) hG dX3_onTheirWay_22 rfl (fun c5 => ?_) (fun c5 => ?_)
        · refine pm_iincX (v := x2_3 + 1) (loc' := [some (.ref (B + 36)), some (.int x2_1), some (.int v1), some (.int (x2_3 + 1))]) hG dX3_onTheirWay_48 rfl (by rfl) (by decide) (pm_c1b rfl) rfl ?_
          refine pm_goto (tgt := 12) hG dX3_onTheirWay_51 rfl ?_
          exact ih12 _ _ x2_1 (x2_3 + 1) h4 (Nat.lt_of_lt_of_le (pm_mu1 c3) (Nat.le_of_lt_succ hm12))
        · refine pm_aloadn hG dX3_onTheirWay_25 rfl ?_
          refine pm_getf hG dX3_onTheirWay_26 (flX3_29 _ rfl) rfl rfl ?_
          refine pm_iloadn hG dX3_onTheirWay_29 rfl ?_
          refine pm_bipush (v := 8) hG dX3_onTheirWay_30 (by decide) ?_
          refine pm_callV (As := [.int x2_3, .int 8]) (rest := []) hG hR dX3_onTheirWay_32 (lkX3_35 _ rfl) okV_X9_get rfl rfl (tb_get (d := 1) rfl rfl (pm_tw_of 40 12 (by decide) (by decide) (by decide))) rfl rfl hdd (Nat.le_refl _) (Nat.le_refl _) (by decide) (pm_ki (fun v6 σ' cnt' hq => ?_))
          obtain ⟨I6, A6, rfl, rfl, h6⟩ := hv_id (kp := kp) (I := I4) (A := A4) h4 hq.2
          refine pm_aloadn hG dX3_onTheirWay_35 rfl ?_
          refine pm_getf hG dX3_onTheirWay_36 (flX3_9 _ rfl) rfl rfl ?_
          refine pm_getf hG dX3_onTheirWay_39 (flX3_82 _ rfl) rfl rfl ?_
          refine pm_icmp_le (tgt := 48) hG dX3_onTheirWay_42 rfl (fun c7 => ?_) (fun c7 => ?_)
          · refine pm_iincX (v := x2_3 + 1) (loc' := [some (.ref (B + 36)), some (.int x2_1), some (.int v1), some (.int (x2_3 + 1))]) hG dX3_onTheirWay_48 rfl (by rfl) (by decide) (pm_c1b rfl) rfl ?_
            refine pm_goto (tgt := 12) hG dX3_onTheirWay_51 rfl ?_
            exact ih12 _ _ x2_1 (x2_3 + 1) h6 (Nat.lt_of_lt_of_le (pm_mu1 c3) (Nat.le_of_lt_succ hm12))
          · refine pm_iincX (v := x2_1 + 1) (loc' := [some (.ref (B + 36)), some (.int (x2_1 + 1)), some (.int v1), some (.int x2_3)]) hG dX3_onTheirWay_45 rfl (by rfl) (by decide) (pm_c1b rfl) rfl ?_
            refine pm_iincX (v := x2_3 + 1) (loc' := [some (.ref (B + 36)), some (.int (x2_1 + 1)), some (.int v1), some (.int (x2_3 + 1))]) hG dX3_onTheirWay_48 rfl (by rfl) (by decide) (pm_c1b rfl) rfl ?_
            refine pm_goto (tgt := 12) hG dX3_onTheirWay_51 rfl ?_
            exact ih12 _ _ (x2_1 + 1) (x2_3 + 1) h6 (Nat.lt_of_lt_of_le (pm_mu1 c3) (Nat.le_of_lt_succ hm12))
  exact loop12 _ _ _ 0 0 h1 (Nat.lt_succ_self _)

set_option maxRecDepth 100000 in
set_option maxHeartbeats 4000000 in
theorem g_X11_count {d B cnt : Nat} {kp : Value} {ρ : pm_S} {I : Nat → Int32} {A : Nat → Nat → Int32} {za : Int32} (hdd : 3 ≤ d) (h : gs I) : pm_met mX11_count d 0 0 B [.ref (B + 0), .int za] cnt (pm_two (cl_L B kp I A) ρ) (pm_Qi (fun _ σ' cnt' => hvc B kp ρ cnt σ' cnt')) := by
  refine pm_enter 0 (by decide) (Nat.le_of_ble_eq_true rfl) rfl (fun G hG hR hF => ?_)
  refine pm_iloadn hG dX11_count_0 rfl ?_
  by_cases c1 : za = 0
  · refine pm_top (v := 0) c1 ?_
    refine pm_tswIn (tgt := 80) hG dX11_count_1 (by decide) (by decide) rfl rfl ?_
    refine pm_aloadn hG dX11_count_80 rfl ?_
    refine pm_getf hG dX11_count_81 (flX11_12 _ rfl) rfl rfl ?_
    refine pm_getf hG dX11_count_84 (flX11_82 _ rfl) rfl rfl ?_
    refine pm_callV (As := []) (rest := []) hG hR dX11_count_87 (lkX11_203 _ rfl) okV_X9_used rfl rfl (tb_used (d := 2) rfl) rfl rfl hdd (Nat.le_refl _) (Nat.le_refl _) (by decide) (pm_ki (fun v2 σ' cnt' hq => ?_))
    obtain ⟨I2, A2, rfl, rfl, h2⟩ := hv_id (kp := kp) (I := I) (A := A) h hq.2
    exact pm_iret hG hF dX11_count_90 rfl (Nat.le_refl _) (Nat.le_refl _) ⟨_, rfl, _, _, rfl, rfl, h2⟩
  by_cases c3 : za = 1
  · refine pm_top (v := 1) c3 ?_
    refine pm_tswIn (tgt := 91) hG dX11_count_1 (by decide) (by decide) rfl rfl ?_
    refine pm_aloadn hG dX11_count_91 rfl ?_
    refine pm_getf hG dX11_count_92 (flX11_12 _ rfl) rfl rfl ?_
    refine pm_getf hG dX11_count_95 (flX11_110 _ rfl) rfl rfl ?_
    exact pm_iret hG hF dX11_count_98 rfl (Nat.le_refl _) (Nat.le_refl _) ⟨_, rfl, _, _, rfl, rfl, h⟩
  by_cases c4 : za = 2
  · refine pm_top (v := 2) c4 ?_
    refine pm_tswIn (tgt := 99) hG dX11_count_1 (by decide) (by decide) rfl rfl ?_
    refine pm_aloadn hG dX11_count_99 rfl ?_
    refine pm_getf hG dX11_count_100 (flX11_12 _ rfl) rfl rfl ?_
    refine pm_getf hG dX11_count_103 (flX11_128 _ rfl) rfl rfl ?_
    refine pm_callV (As := []) (rest := []) hG hR dX11_count_106 (lkX11_203 _ rfl) okV_X9_used rfl rfl (tb_used (d := 2) rfl) rfl rfl hdd (Nat.le_refl _) (Nat.le_refl _) (by decide) (pm_ki (fun v5 σ' cnt' hq => ?_))
    obtain ⟨I5, A5, rfl, rfl, h5⟩ := hv_id (kp := kp) (I := I) (A := A) h hq.2
    exact pm_iret hG hF dX11_count_109 rfl (Nat.le_refl _) (Nat.le_refl _) ⟨_, rfl, _, _, rfl, rfl, h5⟩
  by_cases c6 : za = 3
  · refine pm_top (v := 3) c6 ?_
    refine pm_tswIn (tgt := 110) hG dX11_count_1 (by decide) (by decide) rfl rfl ?_
    refine pm_aloadn hG dX11_count_110 rfl ?_
    refine pm_getf hG dX11_count_111 (flX11_12 _ rfl) rfl rfl ?_
    refine pm_getf hG dX11_count_114 (flX11_161 _ rfl) rfl rfl ?_
    refine pm_callV (As := []) (rest := []) hG hR dX11_count_117 (lkX11_203 _ rfl) okV_X9_used rfl rfl (tb_used (d := 2) rfl) rfl rfl hdd (Nat.le_refl _) (Nat.le_refl _) (by decide) (pm_ki (fun v7 σ' cnt' hq => ?_))
    obtain ⟨I7, A7, rfl, rfl, h7⟩ := hv_id (kp := kp) (I := I) (A := A) h hq.2
    exact pm_iret hG hF dX11_count_120 rfl (Nat.le_refl _) (Nat.le_refl _) ⟨_, rfl, _, _, rfl, rfl, h7⟩
  by_cases c8 : za = 4
  · refine pm_top (v := 4) c8 ?_
    refine pm_tswIn (tgt := 121) hG dX11_count_1 (by decide) (by decide) rfl rfl ?_
    refine pm_aloadn hG dX11_count_121 rfl ?_
    refine pm_getf hG dX11_count_122 (flX11_12 _ rfl) rfl rfl ?_
    refine pm_getf hG dX11_count_125 (flX11_209 _ rfl) rfl rfl ?_
    refine pm_callV (As := []) (rest := []) hG hR dX11_count_128 (lkX11_203 _ rfl) okV_X9_used rfl rfl (tb_used (d := 2) rfl) rfl rfl hdd (Nat.le_refl _) (Nat.le_refl _) (by decide) (pm_ki (fun v9 σ' cnt' hq => ?_))
    obtain ⟨I9, A9, rfl, rfl, h9⟩ := hv_id (kp := kp) (I := I) (A := A) h hq.2
    exact pm_iret hG hF dX11_count_131 rfl (Nat.le_refl _) (Nat.le_refl _) ⟨_, rfl, _, _, rfl, rfl, h9⟩
  by_cases c10 : za = 5
  · refine pm_top (v := 5) c10 ?_
    refine pm_tswIn (tgt := 132) hG dX11_count_1 (by decide) (by decide) rfl rfl ?_
    refine pm_aloadn hG dX11_count_132 rfl ?_
    refine pm_getf hG dX11_count_133 (flX11_12 _ rfl) rfl rfl ?_
    refine pm_getf hG dX11_count_136 (flX11_224 _ rfl) rfl rfl ?_
    refine pm_callV (As := []) (rest := []) hG hR dX11_count_139 (lkX11_203 _ rfl) okV_X9_used rfl rfl (tb_used (d := 2) rfl) rfl rfl hdd (Nat.le_refl _) (Nat.le_refl _) (by decide) (pm_ki (fun v11 σ' cnt' hq => ?_))
    obtain ⟨I11, A11, rfl, rfl, h11⟩ := hv_id (kp := kp) (I := I) (A := A) h hq.2
    exact pm_iret hG hF dX11_count_142 rfl (Nat.le_refl _) (Nat.le_refl _) ⟨_, rfl, _, _, rfl, rfl, h11⟩
  by_cases c12 : za = 6
  · refine pm_top (v := 6) c12 ?_
    refine pm_tswIn (tgt := 143) hG dX11_count_1 (by decide) (by decide) rfl rfl ?_
    refine pm_aloadn hG dX11_count_143 rfl ?_
    refine pm_getf hG dX11_count_144 (flX11_12 _ rfl) rfl rfl ?_
    refine pm_getf hG dX11_count_147 (flX11_271 _ rfl) rfl rfl ?_
    refine pm_callV (As := []) (rest := []) hG hR dX11_count_150 (lkX11_203 _ rfl) okV_X9_used rfl rfl (tb_used (d := 2) rfl) rfl rfl hdd (Nat.le_refl _) (Nat.le_refl _) (by decide) (pm_ki (fun v13 σ' cnt' hq => ?_))
    obtain ⟨I13, A13, rfl, rfl, h13⟩ := hv_id (kp := kp) (I := I) (A := A) h hq.2
    exact pm_iret hG hF dX11_count_153 rfl (Nat.le_refl _) (Nat.le_refl _) ⟨_, rfl, _, _, rfl, rfl, h13⟩
  by_cases c14 : za = 7
  · refine pm_top (v := 7) c14 ?_
    refine pm_tswIn (tgt := 154) hG dX11_count_1 (by decide) (by decide) rfl rfl ?_
    refine pm_aloadn hG dX11_count_154 rfl ?_
    refine pm_getf hG dX11_count_155 (flX11_12 _ rfl) rfl rfl ?_
    refine pm_getf hG dX11_count_158 (flX11_277 _ rfl) rfl rfl ?_
    refine pm_callV (As := []) (rest := []) hG hR dX11_count_161 (lkX11_203 _ rfl) okV_X9_used rfl rfl (tb_used (d := 2) rfl) rfl rfl hdd (Nat.le_refl _) (Nat.le_refl _) (by decide) (pm_ki (fun v15 σ' cnt' hq => ?_))
    obtain ⟨I15, A15, rfl, rfl, h15⟩ := hv_id (kp := kp) (I := I) (A := A) h hq.2
    exact pm_iret hG hF dX11_count_164 rfl (Nat.le_refl _) (Nat.le_refl _) ⟨_, rfl, _, _, rfl, rfl, h15⟩
  by_cases c16 : za = 8
  · refine pm_top (v := 8) c16 ?_
    refine pm_tswIn (tgt := 165) hG dX11_count_1 (by decide) (by decide) rfl rfl ?_
    refine pm_aloadn hG dX11_count_165 rfl ?_
    refine pm_getf hG dX11_count_166 (flX11_12 _ rfl) rfl rfl ?_
    refine pm_getf hG dX11_count_169 (flX11_122 _ rfl) rfl rfl ?_
    exact pm_iret hG hF dX11_count_172 rfl (Nat.le_refl _) (Nat.le_refl _) ⟨_, rfl, _, _, rfl, rfl, h⟩
  by_cases c17 : za = 9
  · refine pm_top (v := 9) c17 ?_
    refine pm_tswIn (tgt := 173) hG dX11_count_1 (by decide) (by decide) rfl rfl ?_
    refine pm_aloadn hG dX11_count_173 rfl ?_
    refine pm_getf hG dX11_count_174 (flX11_12 _ rfl) rfl rfl ?_
    refine pm_getf hG dX11_count_177 (flX11_395 _ rfl) rfl rfl ?_
    exact pm_iret hG hF dX11_count_180 rfl (Nat.le_refl _) (Nat.le_refl _) ⟨_, rfl, _, _, rfl, rfl, h⟩
  by_cases c18 : za = 10
  · refine pm_top (v := 10) c18 ?_
    refine pm_tswIn (tgt := 181) hG dX11_count_1 (by decide) (by decide) rfl rfl ?_
    refine pm_aloadn hG dX11_count_181 rfl ?_
    refine pm_getf hG dX11_count_182 (flX11_12 _ rfl) rfl rfl ?_
    refine pm_getf hG dX11_count_185 (flX11_200 _ rfl) rfl rfl ?_
    refine pm_callV (As := []) (rest := []) hG hR dX11_count_188 (lkX11_203 _ rfl) okV_X9_used rfl rfl (tb_used (d := 2) rfl) rfl rfl hdd (Nat.le_refl _) (Nat.le_refl _) (by decide) (pm_ki (fun v19 σ' cnt' hq => ?_))
    obtain ⟨I19, A19, rfl, rfl, h19⟩ := hv_id (kp := kp) (I := I) (A := A) h hq.2
    exact pm_iret hG hF dX11_count_191 rfl (Nat.le_refl _) (Nat.le_refl _) ⟨_, rfl, _, _, rfl, rfl, h19⟩
  by_cases c20 : za = 11
  · refine pm_top (v := 11) c20 ?_
    refine pm_tswIn (tgt := 192) hG dX11_count_1 (by decide) (by decide) rfl rfl ?_
    refine pm_aloadn hG dX11_count_192 rfl ?_
    refine pm_getf hG dX11_count_193 (flX11_12 _ rfl) rfl rfl ?_
    refine pm_getf hG dX11_count_196 (flX11_128 _ rfl) rfl rfl ?_
    refine pm_bipush (v := 13) hG dX11_count_199 (by decide) ?_
    refine pm_iconst (v := 1) hG dX11_count_201 (by decide) ?_
    obtain ⟨k21, hk21, hu21⟩ := gs.used h 6 20 (by decide)
    have ht21 : pm_two (cl_L B kp I A) ρ 6 = some (.inr (9, [.int (nI 20), .int (nI 14), .ref (B + 7), .int (nI k21)])) := by rw [← hu21]; rfl
    refine pm_callV (As := [.int 13, .int 1]) (rest := []) hG hR dX11_count_202 (lkX11_164 _ rfl) okV_X9_rowsWith rfl rfl (tb_rowsWith (d := 2) (k := 13) ht21 rfl (by decide) (by decide) (by decide) hk21 (by omega) (by decide)) rfl rfl hdd (Nat.le_refl _) (Nat.le_refl _) (by decide) (pm_ki (fun v21 σ' cnt' hq => ?_))
    obtain ⟨I21, A21, rfl, rfl, h21⟩ := hv_id (kp := kp) (I := I) (A := A) h hq.2
    exact pm_iret hG hF dX11_count_205 rfl (Nat.le_refl _) (Nat.le_refl _) ⟨_, rfl, _, _, rfl, rfl, h21⟩
  by_cases c22 : za = 12
  · refine pm_top (v := 12) c22 ?_
    refine pm_tswIn (tgt := 206) hG dX11_count_1 (by decide) (by decide) rfl rfl ?_
    refine pm_aloadn hG dX11_count_206 rfl ?_
    refine pm_getf hG dX11_count_207 (flX11_67 _ rfl) rfl rfl ?_
    refine pm_getf hG dX11_count_210 (flX11_358 _ rfl) rfl rfl ?_
    exact pm_iret hG hF dX11_count_213 rfl (Nat.le_refl _) (Nat.le_refl _) ⟨_, rfl, _, _, rfl, rfl, h⟩
  by_cases c23 : za = 13
  · refine pm_top (v := 13) c23 ?_
    refine pm_tswIn (tgt := 214) hG dX11_count_1 (by decide) (by decide) rfl rfl ?_
    refine pm_aloadn hG dX11_count_214 rfl ?_
    refine pm_getf hG dX11_count_215 (flX11_12 _ rfl) rfl rfl ?_
    refine pm_getf hG dX11_count_218 (flX11_386 _ rfl) rfl rfl ?_
    refine pm_callV (As := []) (rest := []) hG hR dX11_count_221 (lkX11_203 _ rfl) okV_X9_used rfl rfl (tb_used (d := 2) rfl) rfl rfl hdd (Nat.le_refl _) (Nat.le_refl _) (by decide) (pm_ki (fun v24 σ' cnt' hq => ?_))
    obtain ⟨I24, A24, rfl, rfl, h24⟩ := hv_id (kp := kp) (I := I) (A := A) h hq.2
    exact pm_iret hG hF dX11_count_224 rfl (Nat.le_refl _) (Nat.le_refl _) ⟨_, rfl, _, _, rfl, rfl, h24⟩
  by_cases c25 : za = 14
  · refine pm_top (v := 14) c25 ?_
    refine pm_tswIn (tgt := 225) hG dX11_count_1 (by decide) (by decide) rfl rfl ?_
    refine pm_aloadn hG dX11_count_225 rfl ?_
    refine pm_getf hG dX11_count_226 (flX11_12 _ rfl) rfl rfl ?_
    refine pm_getf hG dX11_count_229 (flX11_128 _ rfl) rfl rfl ?_
    refine pm_bipush (v := 7) hG dX11_count_232 (by decide) ?_
    obtain ⟨k26, hk26, hu26⟩ := gs.used h 6 20 (by decide)
    have ht26 : pm_two (cl_L B kp I A) ρ 6 = some (.inr (9, [.int (nI 20), .int (nI 14), .ref (B + 7), .int (nI k26)])) := by rw [← hu26]; rfl
    refine pm_callV (As := [.int 7]) (rest := []) hG hR dX11_count_234 (lkX11_398 _ rfl) okV_X9_sumOf rfl rfl (tb_sumOf (d := 2) (by decide) ht26 rfl (pm_tw_of 20 14 (by decide) (by decide) (by decide)) (by omega)) rfl rfl hdd (Nat.le_refl _) (Nat.le_refl _) (by decide) (pm_ki (fun v26 σ' cnt' hq => ?_))
    obtain ⟨I26, A26, rfl, rfl, h26⟩ := hv_id (kp := kp) (I := I) (A := A) h hq
    exact pm_iret hG hF dX11_count_237 rfl (Nat.le_refl _) (Nat.le_refl _) ⟨_, rfl, _, _, rfl, rfl, h26⟩
  by_cases c27 : za = 15
  · refine pm_top (v := 15) c27 ?_
    refine pm_tswIn (tgt := 238) hG dX11_count_1 (by decide) (by decide) rfl rfl ?_
    refine pm_aloadn hG dX11_count_238 rfl ?_
    refine pm_getf hG dX11_count_239 (flX11_39 _ rfl) rfl rfl ?_
    refine pm_callV (As := []) (rest := []) hG hR dX11_count_242 (lkX11_401 _ rfl) okV_X3_onTheirWay rfl rfl (g_X3_onTheirWay (d := 2) (by decide) h) rfl rfl hdd (Nat.le_refl _) (Nat.le_refl _) (by decide) (pm_ki (fun v28 σ' cnt' hq => ?_))
    obtain ⟨I28, A28, rfl, rfl, h28⟩ := hq
    exact pm_iret hG hF dX11_count_245 rfl (Nat.le_refl _) (Nat.le_refl _) ⟨_, rfl, _, _, rfl, rfl, h28⟩
  have tc1 : ¬ za.toInt = 0 := fun q => c1 (Int32.toInt_inj.mp q)
  have tc3 : ¬ za.toInt = 1 := fun q => c3 (Int32.toInt_inj.mp q)
  have tc4 : ¬ za.toInt = 2 := fun q => c4 (Int32.toInt_inj.mp q)
  have tc6 : ¬ za.toInt = 3 := fun q => c6 (Int32.toInt_inj.mp q)
  have tc8 : ¬ za.toInt = 4 := fun q => c8 (Int32.toInt_inj.mp q)
  have tc10 : ¬ za.toInt = 5 := fun q => c10 (Int32.toInt_inj.mp q)
  have tc12 : ¬ za.toInt = 6 := fun q => c12 (Int32.toInt_inj.mp q)
  have tc14 : ¬ za.toInt = 7 := fun q => c14 (Int32.toInt_inj.mp q)
  have tc16 : ¬ za.toInt = 8 := fun q => c16 (Int32.toInt_inj.mp q)
  have tc17 : ¬ za.toInt = 9 := fun q => c17 (Int32.toInt_inj.mp q)
  have tc18 : ¬ za.toInt = 10 := fun q => c18 (Int32.toInt_inj.mp q)
  have tc20 : ¬ za.toInt = 11 := fun q => c20 (Int32.toInt_inj.mp q)
  have tc22 : ¬ za.toInt = 12 := fun q => c22 (Int32.toInt_inj.mp q)
  have tc23 : ¬ za.toInt = 13 := fun q => c23 (Int32.toInt_inj.mp q)
  have tc25 : ¬ za.toInt = 14 := fun q => c25 (Int32.toInt_inj.mp q)
  have tc27 : ¬ za.toInt = 15 := fun q => c27 (Int32.toInt_inj.mp q)
  refine pm_tswOut (tgt := 246) hG dX11_count_1 (by omega) rfl ?_
  refine pm_aloadn hG dX11_count_246 rfl ?_
  refine pm_ldc hG dX11_count_247 (ctX11_109 _ rfl) ?_
  refine pm_callV (As := [.int (-1000001)]) (rest := []) hG hR dX11_count_249 (lkX11_97 _ rfl) okV_X11_told rfl rfl (sx_told (d := 2) (by decide) rfl rfl) rfl rfl hdd (Nat.le_refl _) (Nat.le_refl _) (by decide) (pm_ki (fun v29 σ' cnt' hq => ?_))
  obtain ⟨-, ⟨g29, hg29⟩, hc29⟩ := hq
  obtain ⟨I29, A29, rfl, rfl, h29⟩ := hv_a53 (kp := kp) (I := I) (A := A) h ⟨hg29, hc29⟩
  exact pm_iret hG hF dX11_count_252 rfl (Nat.le_refl _) (Nat.le_refl _) ⟨_, rfl, _, _, rfl, rfl, h29⟩

set_option maxRecDepth 100000 in
set_option maxHeartbeats 4000000 in
theorem g_X7_bringTravellers {d B cnt : Nat} {kp : Value} {ρ : pm_S} {I : Nat → Int32} {A : Nat → Nat → Int32} (hdd : 1 ≤ d) (h : gs I) : pm_met mX7_bringTravellers d 0 0 B [.ref (B + 1)] cnt (pm_two (cl_L B kp I A) ρ) (pm_Qv (fun σ' cnt' => hvc B kp ρ cnt σ' cnt')) := by
  refine pm_enter 2 (by decide) (Nat.le_of_ble_eq_true rfl) rfl (fun G hG hR hF => ?_)
  refine pm_aloadn hG dX7_bringTravellers_0 rfl ?_
  refine pm_getf hG dX7_bringTravellers_1 (flX7_23 _ rfl) rfl rfl ?_
  refine pm_callV (As := []) (rest := []) hG hR dX7_bringTravellers_4 (lkX7_79 _ rfl) okV_X9_used rfl rfl (tb_used (d := 0) rfl) rfl rfl hdd (Nat.le_refl _) (Nat.le_refl _) (by decide) (pm_ki (fun v1 σ' cnt' hq => ?_))
  obtain ⟨I1, A1, rfl, rfl, h1⟩ := hv_id (kp := kp) (I := I) (A := A) h hq.2
  refine pm_istoreXn (loc' := [some (.ref (B + 1)), some (.int v1), none]) hG dX7_bringTravellers_7 (by decide) (pm_c1b rfl) rfl ?_
  refine pm_iconst (v := 0) hG dX7_bringTravellers_8 (by decide) ?_
  refine pm_istoreXn (loc' := [some (.ref (B + 1)), some (.int v1), some (.int 0)]) hG dX7_bringTravellers_9 (by decide) (pm_c1b rfl) rfl ?_
  have loop10 : ∀ (m10 : Nat) (I2 : Nat → Int32) (A2 : Nat → Nat → Int32) (x2_2 : Int32), gs I2 → ((v1 : Int32).toInt - x2_2.toInt).toNat < m10 → pm_wp mX7_bringTravellers G B 10 [some (.ref (B + 1)), some (.int v1), some (.int x2_2)] [] 0 0 cnt (pm_two (cl_L B kp I2 A2) ρ) := by
    intro m10
    induction m10 with
    | zero => intro I2 A2 x2_2 _  hm; exact absurd hm (Nat.not_lt_zero _)
    | succ m10 ih10 =>
      intro I2 A2 x2_2 h2  hm10
      refine pm_iloadn hG dX7_bringTravellers_10 rfl ?_
      refine pm_iloadn hG dX7_bringTravellers_11 rfl ?_
      refine pm_icmp_ge (tgt := 68) hG dX7_bringTravellers_12 rfl (fun c3 => ?_) (fun c3 => ?_)
      · exact pm_vret hG hF dX7_bringTravellers_68 rfl (Nat.le_refl _) (Nat.le_refl _) ⟨rfl, _, _, rfl, rfl, h2⟩
      · refine pm_aloadn hG dX7_bringTravellers_15 rfl ?_
        refine pm_getf hG dX7_bringTravellers_16 (flX7_23 _ rfl) rfl rfl ?_
        refine pm_iloadn hG dX7_bringTravellers_19 rfl ?_
        refine pm_iconst (v := 4) hG dX7_bringTravellers_20 (by decide) ?_
        refine pm_callV (As := [.int x2_2, .int 4]) (rest := []) hG hR dX7_bringTravellers_21 (lkX7_83 _ rfl) okV_X9_get rfl rfl (tb_get (d := 0) rfl rfl (pm_tw_of 20 14 (by decide) (by decide) (by decide))) rfl rfl hdd (Nat.le_refl _) (Nat.le_refl _) (by decide) (pm_ki (fun v4 σ' cnt' hq => ?_))
        obtain ⟨I4, A4, rfl, rfl, h4⟩ := hv_id (kp := kp) (I := I2) (A := A2) h2 hq.2
        refine pm_if_ge (tgt := 62) hG dX7_bringTravellers_24 rfl (fun c5 => ?_) (fun c5 => ?_)
        · refine pm_iincX (v := x2_2 + 1) (loc' := [some (.ref (B + 1)), some (.int v1), some (.int (x2_2 + 1))]) hG dX7_bringTravellers_62 rfl (by rfl) (by decide) (pm_c1b rfl) rfl ?_
          refine pm_goto (tgt := 10) hG dX7_bringTravellers_65 rfl ?_
          exact ih10 _ _ (x2_2 + 1) h4 (Nat.lt_of_lt_of_le (pm_mu1 c3) (Nat.le_of_lt_succ hm10))
        · refine pm_aloadn hG dX7_bringTravellers_27 rfl ?_
          refine pm_getf hG dX7_bringTravellers_28 (flX7_23 _ rfl) rfl rfl ?_
          refine pm_iloadn hG dX7_bringTravellers_31 rfl ?_
          refine pm_bipush (v := 6) hG dX7_bringTravellers_32 (by decide) ?_
          refine pm_callV (As := [.int x2_2, .int 6]) (rest := []) hG hR dX7_bringTravellers_34 (lkX7_83 _ rfl) okV_X9_get rfl rfl (tb_get (d := 0) rfl rfl (pm_tw_of 20 14 (by decide) (by decide) (by decide))) rfl rfl hdd (Nat.le_refl _) (Nat.le_refl _) (by decide) (pm_ki (fun v6 σ' cnt' hq => ?_))
          obtain ⟨I6, A6, rfl, rfl, h6⟩ := hv_id (kp := kp) (I := I4) (A := A4) h4 hq.2
          refine pm_aloadn hG dX7_bringTravellers_37 rfl ?_
          refine pm_getf hG dX7_bringTravellers_38 (flX7_72 _ rfl) rfl rfl ?_
          refine pm_icmp_gt (tgt := 62) hG dX7_bringTravellers_41 rfl (fun c7 => ?_) (fun c7 => ?_)
          · refine pm_iincX (v := x2_2 + 1) (loc' := [some (.ref (B + 1)), some (.int v1), some (.int (x2_2 + 1))]) hG dX7_bringTravellers_62 rfl (by rfl) (by decide) (pm_c1b rfl) rfl ?_
            refine pm_goto (tgt := 10) hG dX7_bringTravellers_65 rfl ?_
            exact ih10 _ _ (x2_2 + 1) h6 (Nat.lt_of_lt_of_le (pm_mu1 c3) (Nat.le_of_lt_succ hm10))
          · refine pm_aloadn hG dX7_bringTravellers_44 rfl ?_
            refine pm_getf hG dX7_bringTravellers_45 (flX7_23 _ rfl) rfl rfl ?_
            refine pm_iloadn hG dX7_bringTravellers_48 rfl ?_
            refine pm_iconst (v := 4) hG dX7_bringTravellers_49 (by decide) ?_
            refine pm_aloadn hG dX7_bringTravellers_50 rfl ?_
            refine pm_getf hG dX7_bringTravellers_51 (flX7_23 _ rfl) rfl rfl ?_
            refine pm_iloadn hG dX7_bringTravellers_54 rfl ?_
            refine pm_iconst (v := 5) hG dX7_bringTravellers_55 (by decide) ?_
            refine pm_callV (As := [.int x2_2, .int 5]) (rest := [.int 4, .int x2_2, .ref (B + 6)]) hG hR dX7_bringTravellers_56 (lkX7_83 _ rfl) okV_X9_get rfl rfl (tb_get (d := 0) rfl rfl (pm_tw_of 20 14 (by decide) (by decide) (by decide))) rfl rfl hdd (Nat.le_refl _) (Nat.le_refl _) (by first | decide | exact Nat.le_of_ble_eq_true rfl) (pm_ki (fun v8 σ' cnt' hq => ?_))
            obtain ⟨I8, A8, rfl, rfl, h8⟩ := hv_id (kp := kp) (I := I6) (A := A6) h6 hq.2
            refine pm_callV (As := [.int x2_2, .int 4, .int v8]) (rest := []) hG hR dX7_bringTravellers_59 (lkX7_61 _ rfl) okV_X9_set rfl rfl (tb_set (d := 0) rfl rfl (pm_tw_of 20 14 (by decide) (by decide) (by decide)) (by decide)) rfl rfl hdd (Nat.le_refl _) (Nat.le_refl _) (by decide) (pm_kv (fun σ' cnt' hq => ?_))
            obtain ⟨I9, A9, rfl, rfl, h9⟩ := hv_a7 (kp := kp) (I := I8) (A := A8) h8 hq
            refine pm_iincX (v := x2_2 + 1) (loc' := [some (.ref (B + 1)), some (.int v1), some (.int (x2_2 + 1))]) hG dX7_bringTravellers_62 rfl (by rfl) (by decide) (pm_c1b rfl) rfl ?_
            refine pm_goto (tgt := 10) hG dX7_bringTravellers_65 rfl ?_
            exact ih10 _ _ (x2_2 + 1) h9 (Nat.lt_of_lt_of_le (pm_mu1 c3) (Nat.le_of_lt_succ hm10))
  exact loop10 _ _ _ 0 h1 (Nat.lt_succ_self _)

set_option maxRecDepth 100000 in
set_option maxHeartbeats 4000000 in
theorem g_X7_isLent {d B cnt : Nat} {kp : Value} {ρ : pm_S} {I : Nat → Int32} {A : Nat → Nat → Int32} {za : Int32} (hdd : 1 ≤ d) (h : gs I) : pm_met mX7_isLent d 0 0 B [.ref (B + 1), .int za] cnt (pm_two (cl_L B kp I A) ρ) (pm_Qi (fun v σ' cnt' => (v = 0 ∨ v = 1) ∧ hvc B kp ρ cnt σ' cnt')) := by
  refine pm_enter 0 (by decide) (Nat.le_of_ble_eq_true rfl) rfl (fun G hG hR hF => ?_)
  refine pm_aloadn hG dX7_isLent_0 rfl ?_
  refine pm_getf hG dX7_isLent_1 (flX7_26 _ rfl) rfl rfl ?_
  refine pm_iloadn hG dX7_isLent_4 rfl ?_
  refine pm_iconst (v := 3) hG dX7_isLent_5 (by decide) ?_
  refine pm_callV (As := [.int za, .int 3]) (rest := []) hG hR dX7_isLent_6 (lkX7_83 _ rfl) okV_X9_get rfl rfl (tb_get (d := 0) rfl rfl (pm_tw_of 20 6 (by decide) (by decide) (by decide))) rfl rfl hdd (Nat.le_refl _) (Nat.le_refl _) (by decide) (pm_ki (fun v1 σ' cnt' hq => ?_))
  obtain ⟨I1, A1, rfl, rfl, h1⟩ := hv_id (kp := kp) (I := I) (A := A) h hq.2
  refine pm_iconst (v := (-1)) hG dX7_isLent_9 (by decide) ?_
  refine pm_icmp_eq (tgt := 17) hG dX7_isLent_10 rfl (fun c2 => ?_) (fun c2 => ?_)
  · refine pm_iconst (v := 0) hG dX7_isLent_17 (by decide) ?_
    exact pm_zret hG hF dX7_isLent_18 rfl (pm_nz (Or.inl rfl)) (Nat.le_refl _) (Nat.le_refl _) ⟨_, rfl, (Or.inl rfl), _, _, rfl, rfl, h1⟩
  · refine pm_iconst (v := 1) hG dX7_isLent_13 (by decide) ?_
    refine pm_goto (tgt := 18) hG dX7_isLent_14 rfl ?_
    exact pm_zret hG hF dX7_isLent_18 rfl (pm_nz (Or.inr rfl)) (Nat.le_refl _) (Nat.le_refl _) ⟨_, rfl, (Or.inr rfl), _, _, rfl, rfl, h1⟩

set_option maxRecDepth 100000 in
set_option maxHeartbeats 4000000 in
theorem g_X7_setLent {d B cnt : Nat} {kp : Value} {ρ : pm_S} {I : Nat → Int32} {A : Nat → Nat → Int32} {za zb zc : Int32} (hdd : 1 ≤ d) (h : gs I) : pm_met mX7_setLent d 0 0 B [.ref (B + 1), .int za, .int zb, .int zc] cnt (pm_two (cl_L B kp I A) ρ) (pm_Qv (fun σ' cnt' => hvc B kp ρ cnt σ' cnt')) := by
  refine pm_enter 0 (by decide) (Nat.le_of_ble_eq_true rfl) rfl (fun G hG hR hF => ?_)
  refine pm_aloadn hG dX7_setLent_0 rfl ?_
  refine pm_getf hG dX7_setLent_1 (flX7_26 _ rfl) rfl rfl ?_
  refine pm_iloadn hG dX7_setLent_4 rfl ?_
  refine pm_iconst (v := 3) hG dX7_setLent_5 (by decide) ?_
  refine pm_iloadn hG dX7_setLent_6 rfl ?_
  refine pm_callV (As := [.int za, .int 3, .int zb]) (rest := []) hG hR dX7_setLent_7 (lkX7_61 _ rfl) okV_X9_set rfl rfl (tb_set (d := 0) rfl rfl (pm_tw_of 20 6 (by decide) (by decide) (by decide)) (by decide)) rfl rfl hdd (Nat.le_refl _) (Nat.le_refl _) (by decide) (pm_kv (fun σ' cnt' hq => ?_))
  obtain ⟨I1, A1, rfl, rfl, h1⟩ := hv_a9 (kp := kp) (I := I) (A := A) h hq
  refine pm_aloadn hG dX7_setLent_10 rfl ?_
  refine pm_getf hG dX7_setLent_11 (flX7_26 _ rfl) rfl rfl ?_
  refine pm_iloadn hG dX7_setLent_14 rfl ?_
  refine pm_iconst (v := 4) hG dX7_setLent_15 (by decide) ?_
  refine pm_iloadn hG dX7_setLent_16 rfl ?_
  refine pm_callV (As := [.int za, .int 4, .int zc]) (rest := []) hG hR dX7_setLent_17 (lkX7_61 _ rfl) okV_X9_set rfl rfl (tb_set (d := 0) rfl rfl (pm_tw_of 20 6 (by decide) (by decide) (by decide)) (by decide)) rfl rfl hdd (Nat.le_refl _) (Nat.le_refl _) (by decide) (pm_kv (fun σ' cnt' hq => ?_))
  obtain ⟨I2, A2, rfl, rfl, h2⟩ := hv_a9 (kp := kp) (I := I1) (A := A1) h1 hq
  exact pm_vret hG hF dX7_setLent_20 rfl (Nat.le_refl _) (Nat.le_refl _) ⟨rfl, _, _, rfl, rfl, h2⟩

set_option maxRecDepth 100000 in
set_option maxHeartbeats 4000000 in
theorem g_X7_takeBackLent {d B cnt : Nat} {kp : Value} {ρ : pm_S} {I : Nat → Int32} {A : Nat → Nat → Int32} (hdd : 2 ≤ d) (h : gs I) : pm_met mX7_takeBackLent d 0 0 B [.ref (B + 1)] cnt (pm_two (cl_L B kp I A) ρ) (pm_Qv (fun σ' cnt' => hvc B kp ρ cnt σ' cnt')) := by
  refine pm_enter 2 (by decide) (Nat.le_of_ble_eq_true rfl) rfl (fun G hG hR hF => ?_)
  refine pm_aloadn hG dX7_takeBackLent_0 rfl ?_
  refine pm_getf hG dX7_takeBackLent_1 (flX7_26 _ rfl) rfl rfl ?_
  refine pm_callV (As := []) (rest := []) hG hR dX7_takeBackLent_4 (lkX7_79 _ rfl) okV_X9_used rfl rfl (tb_used (d := 1) rfl) rfl rfl hdd (Nat.le_refl _) (Nat.le_refl _) (by decide) (pm_ki (fun v1 σ' cnt' hq => ?_))
  obtain ⟨I1, A1, rfl, rfl, h1⟩ := hv_id (kp := kp) (I := I) (A := A) h hq.2
  refine pm_istoreXn (loc' := [some (.ref (B + 1)), some (.int v1), none]) hG dX7_takeBackLent_7 (by decide) (pm_c1b rfl) rfl ?_
  refine pm_iconst (v := 0) hG dX7_takeBackLent_8 (by decide) ?_
  refine pm_istoreXn (loc' := [some (.ref (B + 1)), some (.int v1), some (.int 0)]) hG dX7_takeBackLent_9 (by decide) (pm_c1b rfl) rfl ?_
  have loop10 : ∀ (m10 : Nat) (I2 : Nat → Int32) (A2 : Nat → Nat → Int32) (x2_2 : Int32), gs I2 → ((v1 : Int32).toInt - x2_2.toInt).toNat < m10 → pm_wp mX7_takeBackLent G B 10 [some (.ref (B + 1)), some (.int v1), some (.int x2_2)] [] 0 0 cnt (pm_two (cl_L B kp I2 A2) ρ) := by
    intro m10
    induction m10 with
    | zero => intro I2 A2 x2_2 _  hm; exact absurd hm (Nat.not_lt_zero _)
    | succ m10 ih10 =>
      intro I2 A2 x2_2 h2  hm10
      refine pm_iloadn hG dX7_takeBackLent_10 rfl ?_
      refine pm_iloadn hG dX7_takeBackLent_11 rfl ?_
      refine pm_icmp_ge (tgt := 52) hG dX7_takeBackLent_12 rfl (fun c3 => ?_) (fun c3 => ?_)
      · exact pm_vret hG hF dX7_takeBackLent_52 rfl (Nat.le_refl _) (Nat.le_refl _) ⟨rfl, _, _, rfl, rfl, h2⟩
      · refine pm_aloadn hG dX7_takeBackLent_15 rfl ?_
        refine pm_iloadn hG dX7_takeBackLent_16 rfl ?_
        refine pm_callV (As := [.int x2_2]) (rest := []) hG hR dX7_takeBackLent_17 (lkX7_138 _ rfl) okV_X7_isLent rfl rfl (g_X7_isLent (d := 1) (by decide) h2) rfl rfl hdd (Nat.le_refl _) (Nat.le_refl _) (by decide) (pm_ki (fun v4 σ' cnt' hq => ?_))
        obtain ⟨b4, I4, A4, rfl, rfl, h4⟩ := hq
        refine pm_if_eq (tgt := 46) hG dX7_takeBackLent_20 rfl (fun c5 => ?_) (fun c5 => ?_)
        · refine pm_iincX (v := x2_2 + 1) (loc' := [some (.ref (B + 1)), some (.int v1), some (.int (x2_2 + 1))]) hG dX7_takeBackLent_46 rfl (by rfl) (by decide) (pm_c1b rfl) rfl ?_
          refine pm_goto (tgt := 10) hG dX7_takeBackLent_49 rfl ?_
          exact ih10 _ _ (x2_2 + 1) h4 (Nat.lt_of_lt_of_le (pm_mu1 c3) (Nat.le_of_lt_succ hm10))
        · refine pm_aloadn hG dX7_takeBackLent_23 rfl ?_
          refine pm_getf hG dX7_takeBackLent_24 (flX7_26 _ rfl) rfl rfl ?_
          refine pm_iloadn hG dX7_takeBackLent_27 rfl ?_
          refine pm_iconst (v := 4) hG dX7_takeBackLent_28 (by decide) ?_
          refine pm_callV (As := [.int x2_2, .int 4]) (rest := []) hG hR dX7_takeBackLent_29 (lkX7_83 _ rfl) okV_X9_get rfl rfl (tb_get (d := 1) rfl rfl (pm_tw_of 20 6 (by decide) (by decide) (by decide))) rfl rfl hdd (Nat.le_refl _) (Nat.le_refl _) (by decide) (pm_ki (fun v6 σ' cnt' hq => ?_))
          obtain ⟨I6, A6, rfl, rfl, h6⟩ := hv_id (kp := kp) (I := I4) (A := A4) h4 hq.2
          refine pm_aloadn hG dX7_takeBackLent_32 rfl ?_
          refine pm_getf hG dX7_takeBackLent_33 (flX7_72 _ rfl) rfl rfl ?_
          refine pm_icmp_ge (tgt := 46) hG dX7_takeBackLent_36 rfl (fun c7 => ?_) (fun c7 => ?_)
          · refine pm_iincX (v := x2_2 + 1) (loc' := [some (.ref (B + 1)), some (.int v1), some (.int (x2_2 + 1))]) hG dX7_takeBackLent_46 rfl (by rfl) (by decide) (pm_c1b rfl) rfl ?_
            refine pm_goto (tgt := 10) hG dX7_takeBackLent_49 rfl ?_
            exact ih10 _ _ (x2_2 + 1) h6 (Nat.lt_of_lt_of_le (pm_mu1 c3) (Nat.le_of_lt_succ hm10))
          · refine pm_aloadn hG dX7_takeBackLent_39 rfl ?_
            refine pm_iloadn hG dX7_takeBackLent_40 rfl ?_
            refine pm_iconst (v := (-1)) hG dX7_takeBackLent_41 (by decide) ?_
            refine pm_iconst (v := (-1)) hG dX7_takeBackLent_42 (by decide) ?_
            refine pm_callV (As := [.int x2_2, .int (-1), .int (-1)]) (rest := []) hG hR dX7_takeBackLent_43 (lkX7_122 _ rfl) okV_X7_setLent rfl rfl (g_X7_setLent (d := 1) (by decide) h6) rfl rfl hdd (Nat.le_refl _) (Nat.le_refl _) (by decide) (pm_kv (fun σ' cnt' hq => ?_))
            obtain ⟨I8, A8, rfl, rfl, h8⟩ := hq
            refine pm_iincX (v := x2_2 + 1) (loc' := [some (.ref (B + 1)), some (.int v1), some (.int (x2_2 + 1))]) hG dX7_takeBackLent_46 rfl (by rfl) (by decide) (pm_c1b rfl) rfl ?_
            refine pm_goto (tgt := 10) hG dX7_takeBackLent_49 rfl ?_
            exact ih10 _ _ (x2_2 + 1) h8 (Nat.lt_of_lt_of_le (pm_mu1 c3) (Nat.le_of_lt_succ hm10))
  exact loop10 _ _ _ 0 h1 (Nat.lt_succ_self _)
