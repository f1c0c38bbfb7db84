set_option maxRecDepth 100000 in
set_option maxHeartbeats 4000000 in
theorem g_X6_readTape {ε : Nat → Int32} {d B cnt : Nat} {kp : pm_KP} {ρ : pm_S} {I : Nat → Int32} {A : Nat → Nat → Int32} (hdd : 34 ≤ d) (h : gq ε I) : pm_met mX6_readTape d 0 0 B [.ref (B + 27)] cnt (pm_two (cl_L B kp I A) ρ) (pm_Qi (fun _ σ' cnt' => hvq ε B kp ρ cnt σ' cnt')) := by
  refine pm_enter 0 (by decide) (Nat.le_of_ble_eq_true rfl) rfl (fun G hG hR hF => ?_)
  refine pm_aloadn hG dX6_readTape_0 rfl ?_
  refine pm_getf hG dX6_readTape_1 (flX6_20 _ rfl) rfl rfl ?_
  refine pm_callV (As := []) (rest := []) hG hR dX6_readTape_4 (lkX6_23 _ rfl) okV_X9_clear rfl rfl (tb_clear (d := 33) rfl) rfl rfl hdd (Nat.le_refl _) (Nat.le_refl _) (by decide) (pm_kv (fun σ' cnt' hq => ?_))
  obtain ⟨I1, A1, rfl, rfl, h1⟩ := hv_c28 (kp := kp) (I := I) (A := A) h hq
  refine pm_aloadn hG dX6_readTape_7 rfl ?_
  refine pm_iconst (v := 0) hG dX6_readTape_8 (by decide) ?_
  refine pm_putf hG dX6_readTape_9 (fwX6_26 _ rfl) rfl rfl rfl ?_
  refine pm_nrm (L' := cl_L B kp (ui I1 105 0) A1) (by decide) (Nat.le_of_ble_eq_true rfl) rfl ?_
  refine pm_aloadn hG dX6_readTape_12 rfl ?_
  refine pm_iconst (v := (-1)) hG dX6_readTape_13 (by decide) ?_
  refine pm_putf hG dX6_readTape_14 (fwX6_30 _ rfl) rfl rfl rfl ?_
  refine pm_nrm (L' := cl_L B kp (ui (ui I1 105 0) 106 (-1)) A1) (by decide) (Nat.le_of_ble_eq_true rfl) rfl ?_
  refine pm_aloadn hG dX6_readTape_17 rfl ?_
  refine pm_iconst (v := 0) hG dX6_readTape_18 (by decide) ?_
  refine pm_callV (As := [.int 0]) (rest := []) hG hR dX6_readTape_19 (lkX6_33 _ rfl) okV_X6_readText rfl rfl (g_X6_readText_k0 (d := 33) (by decide) (gq.wi (k := 106) rfl (gq.wi (k := 105) rfl h1))) rfl rfl hdd (Nat.le_refl _) (Nat.le_refl _) (by decide) (pm_kv (fun σ' cnt' hq => ?_))
  obtain ⟨I4, A4, rfl, rfl, h4⟩ := hq
  refine pm_aloadn hG dX6_readTape_22 rfl ?_
  refine pm_getf hG dX6_readTape_23 (flX6_26 _ rfl) rfl rfl ?_
  refine pm_aloadn hG dX6_readTape_26 rfl ?_
  refine pm_getf hG dX6_readTape_27 (flX6_9 _ rfl) rfl rfl ?_
  refine pm_callV (As := []) (rest := [.int (I4 105)]) hG hR dX6_readTape_30 (lkX6_37 _ rfl) okV_X9_used rfl rfl (tb_used (d := 33) rfl) rfl rfl hdd (Nat.le_refl _) (Nat.le_refl _) (by first | decide | exact Nat.le_of_ble_eq_true rfl) (pm_ki (fun v5 σ' cnt' hq => ?_))
  obtain ⟨I5, A5, rfl, rfl, h5⟩ := hv_id (kp := kp) (I := I4) (A := A4) h4 hq.2
  refine pm_icmp_ge (tgt := 40) hG dX6_readTape_33 rfl (fun c6 => ?_) (fun c6 => ?_)
  · refine pm_aloadn hG dX6_readTape_40 rfl ?_
    refine pm_getf hG dX6_readTape_41 (flX6_30 _ rfl) rfl rfl ?_
    exact pm_iret hG hF dX6_readTape_44 rfl (Nat.le_refl _) (Nat.le_refl _) ⟨_, rfl, _, _, rfl, rfl, h5⟩
  · refine pm_aloadn hG dX6_readTape_36 rfl ?_
    refine pm_callV (As := []) (rest := []) hG hR dX6_readTape_37 (lkX6_41 _ rfl) okV_X6_fail rfl rfl (g_X6_fail (d := 33) (by decide) h5) rfl rfl hdd (Nat.le_refl _) (Nat.le_refl _) (by decide) (pm_kv (fun σ' cnt' hq => ?_))
    obtain ⟨I7, A7, rfl, rfl, h7⟩ := hq
    refine pm_aloadn hG dX6_readTape_40 rfl ?_
    refine pm_getf hG dX6_readTape_41 (flX6_30 _ rfl) rfl rfl ?_
    exact pm_iret hG hF dX6_readTape_44 rfl (Nat.le_refl _) (Nat.le_refl _) ⟨_, rfl, _, _, rfl, rfl, h7⟩

set_option maxRecDepth 100000 in
set_option maxHeartbeats 4000000 in
theorem g_X2_enact {ε : Nat → Int32} {d B cnt : Nat} {kp : pm_KP} {ρ : pm_S} {I : Nat → Int32} {A : Nat → Nat → Int32} {za zb : Int32} (hdd : 35 ≤ d) (h : gq ε I) : pm_met mX2_enact d 0 0 B [.ref (B + 26), .int za, .int zb] cnt (pm_two (cl_L B kp I A) ρ) (pm_Qi (fun _ σ' cnt' => hvq ε B kp ρ cnt σ' cnt')) := by
  refine pm_enter 4 (by decide) (Nat.le_of_ble_eq_true rfl) rfl (fun G hG hR hF => ?_)
  refine pm_aloadn hG dX2_enact_0 rfl ?_
  refine pm_getf hG dX2_enact_1 (flX2_26 _ rfl) rfl rfl ?_
  refine pm_callV (As := []) (rest := []) hG hR dX2_enact_4 (lkX2_34 _ rfl) okV_X6_readTape rfl rfl (g_X6_readTape (d := 34) (by decide) h) rfl rfl hdd (Nat.le_refl _) (Nat.le_refl _) (by decide) (pm_ki (fun v1 σ' cnt' hq => ?_))
  obtain ⟨I1, A1, rfl, rfl, h1⟩ := hq
  refine pm_istoreXn (loc' := [some (.ref (B + 26)), some (.int za), some (.int zb), some (.int v1), none, none, none]) hG dX2_enact_7 (by decide) (pm_c1b rfl) rfl ?_
  refine pm_aloadn hG dX2_enact_8 rfl ?_
  refine pm_getf hG dX2_enact_9 (flX2_9 _ rfl) rfl rfl ?_
  refine pm_getf hG dX2_enact_12 (flX2_17 _ rfl) rfl rfl ?_
  refine pm_callV (As := []) (rest := []) hG hR dX2_enact_15 (lkX2_38 _ rfl) okV_X9_clear rfl rfl (tb_clear (d := 34) rfl) rfl rfl hdd (Nat.le_refl _) (Nat.le_refl _) (by decide) (pm_kv (fun σ' cnt' hq => ?_))
  obtain ⟨I2, A2, rfl, rfl, h2⟩ := hv_c24 (kp := kp) (I := I1) (A := A1) h1 hq
  refine pm_iloadn hG dX2_enact_18 rfl ?_
  refine pm_if_lt (tgt := 27) hG dX2_enact_19 rfl (fun c3 => ?_) (fun c3 => ?_)
  · refine pm_aloadn hG dX2_enact_27 rfl ?_
    refine pm_getf hG dX2_enact_28 (flX2_9 _ rfl) rfl rfl ?_
    refine pm_getf hG dX2_enact_31 (flX2_43 _ rfl) rfl rfl ?_
    refine pm_iloadn hG dX2_enact_34 rfl ?_
    obtain ⟨k4, hk4, hu4⟩ := gq.used h2 10 12 (by decide)
    have ht4 : pm_two (cl_L B kp I2 A2) ρ 10 = some (.inr (9, [.int (nI 12), .int (nI 6), .ref (B + 11), .int (nI k4)])) := by rw [← hu4]; rfl
    refine pm_callV (As := [.int za]) (rest := []) hG hR dX2_enact_35 (lkX2_46 _ rfl) okV_X9_append rfl rfl (tb_append (d := 34) (by decide) ht4 rfl (by decide) (by decide) (by decide) (by decide) (by decide) (by decide) hk4) rfl rfl hdd (Nat.le_refl _) (Nat.le_refl _) (by decide) (pm_ki (fun v4 σ' cnt' hq => ?_))
    obtain ⟨I4, A4, rfl, rfl, h4⟩ := hv_p10 (kp := kp) (I := I2) (A := A2) hk4 h2 hq
    refine pm_istoreXi (loc' := [some (.ref (B + 26)), some (.int za), some (.int zb), some (.int v1), some (.int v4), none, none]) hG dX2_enact_38 (by decide) (pm_c1b rfl) rfl ?_
    refine pm_aloadn hG dX2_enact_40 rfl ?_
    refine pm_getf hG dX2_enact_41 (flX2_26 _ rfl) rfl rfl ?_
    refine pm_getf hG dX2_enact_44 (flX2_50 _ rfl) rfl rfl ?_
    refine pm_callV (As := []) (rest := []) hG hR dX2_enact_47 (lkX2_53 _ rfl) okV_X9_used rfl rfl (tb_used (d := 34) rfl) rfl rfl hdd (Nat.le_refl _) (Nat.le_refl _) (by decide) (pm_ki (fun v5 σ' cnt' hq => ?_))
    obtain ⟨I5, A5, rfl, rfl, h5⟩ := hv_id (kp := kp) (I := I4) (A := A4) h4 hq.2
    refine pm_istoreXi (loc' := [some (.ref (B + 26)), some (.int za), some (.int zb), some (.int v1), some (.int v4), some (.int v5), none]) hG dX2_enact_50 (by decide) (pm_c1b rfl) rfl ?_
    refine pm_aloadn hG dX2_enact_52 rfl ?_
    refine pm_getf hG dX2_enact_53 (flX2_9 _ rfl) rfl rfl ?_
    refine pm_getf hG dX2_enact_56 (flX2_43 _ rfl) rfl rfl ?_
    refine pm_iloadi hG dX2_enact_59 rfl ?_
    refine pm_iconst (v := 1) hG dX2_enact_61 (by decide) ?_
    refine pm_iloadn hG dX2_enact_62 rfl ?_
    refine pm_callV (As := [.int v4, .int 1, .int zb]) (rest := []) hG hR dX2_enact_63 (lkX2_56 _ rfl) okV_X9_set rfl rfl (tb_set (d := 34) rfl rfl (pm_tw_of 12 6 (by decide) (by decide) (by decide)) (by decide)) rfl rfl hdd (Nat.le_refl _) (Nat.le_refl _) (by decide) (pm_kv (fun σ' cnt' hq => ?_))
    obtain ⟨I6, A6, rfl, rfl, h6⟩ := hv_a11 (kp := kp) (I := I5) (A := A5) h5 hq
    refine pm_aloadn hG dX2_enact_66 rfl ?_
    refine pm_getf hG dX2_enact_67 (flX2_9 _ rfl) rfl rfl ?_
    refine pm_getf hG dX2_enact_70 (flX2_43 _ rfl) rfl rfl ?_
    refine pm_iloadi hG dX2_enact_73 rfl ?_
    refine pm_iconst (v := 2) hG dX2_enact_75 (by decide) ?_
    refine pm_aloadn hG dX2_enact_76 rfl ?_
    refine pm_getf hG dX2_enact_77 (flX2_9 _ rfl) rfl rfl ?_
    refine pm_getf hG dX2_enact_80 (flX2_60 _ rfl) rfl rfl ?_
    refine pm_callV (As := [.int v4, .int 2, .int (I6 102)]) (rest := []) hG hR dX2_enact_83 (lkX2_56 _ rfl) okV_X9_set rfl rfl (tb_set (d := 34) rfl rfl (pm_tw_of 12 6 (by decide) (by decide) (by decide)) (by decide)) rfl rfl hdd (Nat.le_refl _) (Nat.le_refl _) (by decide) (pm_kv (fun σ' cnt' hq => ?_))
    obtain ⟨I7, A7, rfl, rfl, h7⟩ := hv_a11 (kp := kp) (I := I6) (A := A6) h6 hq
    refine pm_aloadn hG dX2_enact_86 rfl ?_
    refine pm_getf hG dX2_enact_87 (flX2_9 _ rfl) rfl rfl ?_
    refine pm_getf hG dX2_enact_90 (flX2_43 _ rfl) rfl rfl ?_
    refine pm_iloadi hG dX2_enact_93 rfl ?_
    refine pm_iconst (v := 3) hG dX2_enact_95 (by decide) ?_
    refine pm_iconst (v := (-1)) hG dX2_enact_96 (by decide) ?_
    refine pm_callV (As := [.int v4, .int 3, .int (-1)]) (rest := []) hG hR dX2_enact_97 (lkX2_56 _ rfl) okV_X9_set rfl rfl (tb_set (d := 34) rfl rfl (pm_tw_of 12 6 (by decide) (by decide) (by decide)) (by decide)) rfl rfl hdd (Nat.le_refl _) (Nat.le_refl _) (by decide) (pm_kv (fun σ' cnt' hq => ?_))
    obtain ⟨I8, A8, rfl, rfl, h8⟩ := hv_a11 (kp := kp) (I := I7) (A := A7) h7 hq
    refine pm_aloadn hG dX2_enact_100 rfl ?_
    refine pm_getf hG dX2_enact_101 (flX2_9 _ rfl) rfl rfl ?_
    refine pm_getf hG dX2_enact_104 (flX2_43 _ rfl) rfl rfl ?_
    refine pm_iloadi hG dX2_enact_107 rfl ?_
    refine pm_iconst (v := 4) hG dX2_enact_109 (by decide) ?_
    refine pm_iloadi hG dX2_enact_110 rfl ?_
    refine pm_callV (As := [.int v4, .int 4, .int v5]) (rest := []) hG hR dX2_enact_112 (lkX2_56 _ rfl) okV_X9_set rfl rfl (tb_set (d := 34) rfl rfl (pm_tw_of 12 6 (by decide) (by decide) (by decide)) (by decide)) rfl rfl hdd (Nat.le_refl _) (Nat.le_refl _) (by decide) (pm_kv (fun σ' cnt' hq => ?_))
    obtain ⟨I9, A9, rfl, rfl, h9⟩ := hv_a11 (kp := kp) (I := I8) (A := A8) h8 hq
    refine pm_iconst (v := 0) hG dX2_enact_115 (by decide) ?_
    refine pm_istoreXi (loc' := [some (.ref (B + 26)), some (.int za), some (.int zb), some (.int v1), some (.int v4), some (.int v5), some (.int 0)]) hG dX2_enact_116 (by decide) (pm_c1b rfl) rfl ?_
    have loop118 : ∀ (m118 : Nat) (I10 : Nat → Int32) (A10 : Nat → Nat → Int32) (x10_6 : Int32), gq ε I10 → (¬ x10_6 < 0) → ((v5 : Int32).toInt - x10_6.toInt).toNat < m118 → pm_wp mX2_enact G B 118 [some (.ref (B + 26)), some (.int za), some (.int zb), some (.int v1), some (.int v4), some (.int v5), some (.int x10_6)] [] 0 0 cnt (pm_two (cl_L B kp I10 A10) ρ) := by
      intro m118
      induction m118 with
      | zero => intro I10 A10 x10_6 _  _ hm; exact absurd hm (Nat.not_lt_zero _)
      | succ m118 ih118 =>
        intro I10 A10 x10_6 h10 s118 hm118
        refine pm_iloadi hG dX2_enact_118 rfl ?_
        refine pm_iloadi hG dX2_enact_120 rfl ?_
        refine pm_icmp_ge (tgt := 158) hG dX2_enact_122 rfl (fun c11 => ?_) (fun c11 => ?_)
        · refine pm_aloadn hG dX2_enact_158 rfl ?_
          refine pm_getf hG dX2_enact_159 (flX2_9 _ rfl) rfl rfl ?_
          refine pm_getf hG dX2_enact_162 (flX2_43 _ rfl) rfl rfl ?_
          refine pm_iloadi hG dX2_enact_165 rfl ?_
          refine pm_iconst (v := 5) hG dX2_enact_167 (by decide) ?_
          refine pm_aloadn hG dX2_enact_168 rfl ?_
          refine pm_getf hG dX2_enact_169 (flX2_26 _ rfl) rfl rfl ?_
          refine pm_getf hG dX2_enact_172 (flX2_50 _ rfl) rfl rfl ?_
          refine pm_iconst (v := 0) hG dX2_enact_175 (by decide) ?_
          refine pm_bipush (v := (-30)) hG dX2_enact_176 (by decide) ?_
          obtain ⟨k12, hk12, hu12⟩ := gq.used h10 28 60 (by decide)
          have ht12 : pm_two (cl_L B kp I10 A10) ρ 28 = some (.inr (9, [.int (nI 60), .int (nI 1), .ref (B + 29), .int (nI k12)])) := by rw [← hu12]; rfl
          refine pm_callV (As := [.int 0, .int (-30)]) (rest := [.int 5, .int v4, .ref (B + 10)]) hG hR dX2_enact_178 (lkX2_71 _ rfl) okV_X9_rowsWith rfl rfl (tb_rowsWith (d := 34) (k := 0) ht12 rfl (by decide) (by decide) (by decide) hk12 (by omega) (by decide)) rfl rfl hdd (Nat.le_refl _) (Nat.le_refl _) (by first | decide | exact Nat.le_of_ble_eq_true rfl) (pm_ki (fun v12 σ' cnt' hq => ?_))
          obtain ⟨I12, A12, rfl, rfl, h12⟩ := hv_id (kp := kp) (I := I10) (A := A10) h10 hq.2
          refine pm_callV (As := [.int v4, .int 5, .int v12]) (rest := []) hG hR dX2_enact_181 (lkX2_56 _ rfl) okV_X9_set rfl rfl (tb_set (d := 34) rfl rfl (pm_tw_of 12 6 (by decide) (by decide) (by decide)) (by decide)) rfl rfl hdd (Nat.le_refl _) (Nat.le_refl _) (by decide) (pm_kv (fun σ' cnt' hq => ?_))
          obtain ⟨I13, A13, rfl, rfl, h13⟩ := hv_a11 (kp := kp) (I := I12) (A := A12) h12 hq
          refine pm_iloadi hG dX2_enact_184 rfl ?_
          exact pm_iret hG hF dX2_enact_186 rfl (Nat.le_refl _) (Nat.le_refl _) ⟨_, rfl, _, _, rfl, rfl, h13⟩
        · refine pm_aloadn hG dX2_enact_125 rfl ?_
          refine pm_getf hG dX2_enact_126 (flX2_9 _ rfl) rfl rfl ?_
          refine pm_getf hG dX2_enact_129 (flX2_64 _ rfl) rfl rfl ?_
          refine pm_iloadi hG dX2_enact_132 rfl ?_
          refine pm_iloadi hG dX2_enact_134 rfl ?_
          refine pm_aloadn hG dX2_enact_136 rfl ?_
          refine pm_getf hG dX2_enact_137 (flX2_26 _ rfl) rfl rfl ?_
          refine pm_getf hG dX2_enact_140 (flX2_50 _ rfl) rfl rfl ?_
          refine pm_iloadi hG dX2_enact_143 rfl ?_
          refine pm_iconst (v := 0) hG dX2_enact_145 (by decide) ?_
          refine pm_callV (As := [.int x10_6, .int 0]) (rest := [.int x10_6, .int v4, .ref (B + 12)]) hG hR dX2_enact_146 (lkX2_67 _ rfl) okV_X9_get rfl rfl (tb_get (d := 34) rfl rfl (pm_tw_of 60 1 (by decide) (by decide) (by decide))) rfl rfl hdd (Nat.le_refl _) (Nat.le_refl _) (by first | decide | exact Nat.le_of_ble_eq_true rfl) (pm_ki (fun v14 σ' cnt' hq => ?_))
          obtain ⟨I14, A14, rfl, rfl, h14⟩ := hv_id (kp := kp) (I := I10) (A := A10) h10 hq.2
          refine pm_callV (As := [.int v4, .int x10_6, .int v14]) (rest := []) hG hR dX2_enact_149 (lkX2_56 _ rfl) okV_X9_set rfl rfl (tb_set (d := 34) rfl rfl (pm_tw_of 12 60 (by decide) (by decide) (by decide)) (by decide)) rfl rfl hdd (Nat.le_refl _) (Nat.le_refl _) (by decide) (pm_kv (fun σ' cnt' hq => ?_))
          obtain ⟨I15, A15, rfl, rfl, h15⟩ := hv_a13 (kp := kp) (I := I14) (A := A14) h14 hq
          refine pm_iincX (v := x10_6 + 1) (loc' := [some (.ref (B + 26)), some (.int za), some (.int zb), some (.int v1), some (.int v4), some (.int v5), some (.int (x10_6 + 1))]) hG dX2_enact_152 rfl (by rfl) (by decide) (pm_c1b rfl) rfl ?_
          refine pm_goto (tgt := 118) hG dX2_enact_155 rfl ?_
          exact ih118 _ _ (x10_6 + 1) h15 (pm_sd1 c11 s118) (Nat.lt_of_lt_of_le (pm_mu1 c11) (Nat.le_of_lt_succ hm118))
    exact loop118 _ _ _ 0 h9 (by decide) (Nat.lt_succ_self _)
  · refine pm_bipush (v := (-10)) hG dX2_enact_22 (by decide) ?_
    refine pm_iloadn hG dX2_enact_24 rfl ?_
    refine pm_isub hG dX2_enact_25 ?_
    exact pm_iret hG hF dX2_enact_26 rfl (Nat.le_refl _) (Nat.le_refl _) ⟨_, rfl, _, _, rfl, rfl, h2⟩

set_option maxRecDepth 100000 in
set_option maxHeartbeats 4000000 in
theorem g_X11_law {ε : Nat → Int32} {d B cnt : Nat} {kp : pm_KP} {ρ : pm_S} {I : Nat → Int32} {A : Nat → Nat → Int32} {za zb : Int32} (hdd : 36 ≤ d) (h : gq ε I) : pm_met mX11_law d 0 0 B [.ref (B + 0), .int za, .int zb] cnt (pm_two (cl_L B kp I A) ρ) (pm_Qi (fun _ σ' cnt' => hvq ε B kp ρ cnt σ' cnt')) := by
  refine pm_enter 0 (by decide) (Nat.le_of_ble_eq_true rfl) rfl (fun G hG hR hF => ?_)
  refine pm_iloadn hG dX11_law_0 rfl ?_
  refine pm_iconst (v := 0) hG dX11_law_1 (by decide) ?_
  refine pm_iconst (v := 4) hG dX11_law_2 (by decide) ?_
  refine pm_callS (As := [.int za, .int 0, .int 4]) (rest := []) hG hR dX11_law_3 (lkX11_105 _ rfl) okS_X11_isOutside (sx_isOutside (d := 35)) rfl rfl hdd (Nat.le_refl _) (Nat.le_refl _) (by decide) (pm_ki (fun v1 σ' cnt' hq => ?_))
  have o1 := hq.1
  have b1 := pm_b10 hq.1
  obtain ⟨I1, A1, rfl, rfl, h1⟩ := hv_id (kp := kp) (I := I) (A := A) h hq.2
  refine pm_if_ne (tgt := 20) hG dX11_law_6 rfl (fun c2 => ?_) (fun c2 => ?_)
  · refine pm_aloadn hG dX11_law_20 rfl ?_
    refine pm_ldc hG dX11_law_21 (ctX11_109 _ rfl) ?_
    refine pm_callV (As := [.int (-1000001)]) (rest := []) hG hR dX11_law_23 (lkX11_97 _ rfl) okV_X11_told rfl rfl (sx_told (d := 35) (by decide) rfl rfl) rfl rfl hdd (Nat.le_refl _) (Nat.le_refl _) (by decide) (pm_ki (fun v3 σ' cnt' hq => ?_))
    obtain ⟨-, ⟨g3, hg3⟩, hc3⟩ := hq
    obtain ⟨I3, A3, rfl, rfl, h3⟩ := hv_a53 (kp := kp) (I := I1) (A := A1) h1 ⟨hg3, hc3⟩
    exact pm_iret hG hF dX11_law_26 rfl (Nat.le_refl _) (Nat.le_refl _) ⟨_, rfl, _, _, rfl, rfl, h3⟩
  · refine pm_iloadn hG dX11_law_9 rfl ?_
    refine pm_iconst (v := 0) hG dX11_law_10 (by decide) ?_
    refine pm_sipush (v := 2000) hG dX11_law_11 (by decide) ?_
    refine pm_callS (As := [.int zb, .int 0, .int 2000]) (rest := []) hG hR dX11_law_14 (lkX11_105 _ rfl) okS_X11_isOutside (sx_isOutside (d := 35)) rfl rfl hdd (Nat.le_refl _) (Nat.le_refl _) (by decide) (pm_ki (fun v4 σ' cnt' hq => ?_))
    have o4 := hq.1
    have b4 := pm_b10 hq.1
    obtain ⟨I4, A4, rfl, rfl, h4⟩ := hv_id (kp := kp) (I := I1) (A := A1) h1 hq.2
    refine pm_if_eq (tgt := 27) hG dX11_law_17 rfl (fun c5 => ?_) (fun c5 => ?_)
    · refine pm_aloadn hG dX11_law_27 rfl ?_
      refine pm_aloadn hG dX11_law_28 rfl ?_
      refine pm_getf hG dX11_law_29 (flX11_12 _ rfl) rfl rfl ?_
      refine pm_getf hG dX11_law_32 (flX11_209 _ rfl) rfl rfl ?_
      refine pm_callV (As := []) (rest := [.ref (B + 0)]) hG hR dX11_law_35 (lkX11_86 _ rfl) okV_X9_isFull rfl rfl (tb_isFull (d := 35) rfl) rfl rfl hdd (Nat.le_refl _) (Nat.le_refl _) (by first | decide | exact Nat.le_of_ble_eq_true rfl) (pm_ki (fun v6 σ' cnt' hq => ?_))
      have b6 := pm_b01 hq.1
      obtain ⟨I6, A6, rfl, rfl, h6⟩ := hv_id (kp := kp) (I := I4) (A := A4) h4 hq.2
      refine pm_if_eq (tgt := 46) hG dX11_law_38 rfl (fun c7 => ?_) (fun c7 => ?_)
      · refine pm_aloadn hG dX11_law_46 rfl ?_
        refine pm_getf hG dX11_law_47 (flX11_21 _ rfl) rfl rfl ?_
        refine pm_iloadn hG dX11_law_50 rfl ?_
        refine pm_iloadn hG dX11_law_51 rfl ?_
        refine pm_callV (As := [.int za, .int zb]) (rest := [.ref (B + 0)]) hG hR dX11_law_52 (lkX11_211 _ rfl) okV_X2_enact rfl rfl (g_X2_enact (d := 35) (by decide) h6) rfl rfl hdd (Nat.le_refl _) (Nat.le_refl _) (by first | decide | exact Nat.le_of_ble_eq_true rfl) (pm_ki (fun v8 σ' cnt' hq => ?_))
        obtain ⟨I8, A8, rfl, rfl, h8⟩ := hq
        refine pm_callV (As := [.int v8]) (rest := []) hG hR dX11_law_55 (lkX11_97 _ rfl) okV_X11_told rfl rfl (sx_told (d := 35) (by decide) rfl rfl) rfl rfl hdd (Nat.le_refl _) (Nat.le_refl _) (by decide) (pm_ki (fun v9 σ' cnt' hq => ?_))
        obtain ⟨-, ⟨g9, hg9⟩, hc9⟩ := hq
        obtain ⟨I9, A9, rfl, rfl, h9⟩ := hv_a53 (kp := kp) (I := I8) (A := A8) h8 ⟨hg9, hc9⟩
        exact pm_iret hG hF dX11_law_58 rfl (Nat.le_refl _) (Nat.le_refl _) ⟨_, rfl, _, _, rfl, rfl, h9⟩
      · refine pm_ldc hG dX11_law_41 (ctX11_92 _ rfl) ?_
        refine pm_goto (tgt := 55) hG dX11_law_43 rfl ?_
        refine pm_callV (As := [.int (-1000004)]) (rest := []) hG hR dX11_law_55 (lkX11_97 _ rfl) okV_X11_told rfl rfl (sx_told (d := 35) (by decide) rfl rfl) rfl rfl hdd (Nat.le_refl _) (Nat.le_refl _) (by decide) (pm_ki (fun v10 σ' cnt' hq => ?_))
        obtain ⟨-, ⟨g10, hg10⟩, hc10⟩ := hq
        obtain ⟨I10, A10, rfl, rfl, h10⟩ := hv_a53 (kp := kp) (I := I6) (A := A6) h6 ⟨hg10, hc10⟩
        exact pm_iret hG hF dX11_law_58 rfl (Nat.le_refl _) (Nat.le_refl _) ⟨_, rfl, _, _, rfl, rfl, h10⟩
    · refine pm_aloadn hG dX11_law_20 rfl ?_
      refine pm_ldc hG dX11_law_21 (ctX11_109 _ rfl) ?_
      refine pm_callV (As := [.int (-1000001)]) (rest := []) hG hR dX11_law_23 (lkX11_97 _ rfl) okV_X11_told rfl rfl (sx_told (d := 35) (by decide) rfl rfl) rfl rfl hdd (Nat.le_refl _) (Nat.le_refl _) (by decide) (pm_ki (fun v11 σ' cnt' hq => ?_))
      obtain ⟨-, ⟨g11, hg11⟩, hc11⟩ := hq
      obtain ⟨I11, A11, rfl, rfl, h11⟩ := hv_a53 (kp := kp) (I := I4) (A := A4) h4 ⟨hg11, hc11⟩
      exact pm_iret hG hF dX11_law_26 rfl (Nat.le_refl _) (Nat.le_refl _) ⟨_, rfl, _, _, rfl, rfl, h11⟩

set_option maxRecDepth 100000 in
set_option maxHeartbeats 4000000 in
theorem g_X11_lend {ε : Nat → Int32} {d B cnt : Nat} {kp : pm_KP} {ρ : pm_S} {I : Nat → Int32} {A : Nat → Nat → Int32} {za zb zc : Int32} (hdd : 2 ≤ d) (h : gq ε I) : pm_met mX11_lend d 0 0 B [.ref (B + 0), .int za, .int zb, .int zc] cnt (pm_two (cl_L B kp I A) ρ) (pm_Qi (fun _ σ' cnt' => hvq ε B kp ρ cnt σ' cnt')) := by
  refine pm_enter 1 (by decide) (Nat.le_of_ble_eq_true rfl) rfl (fun G hG hR hF => ?_)
  refine pm_aloadn hG dX11_lend_0 rfl ?_
  refine pm_getf hG dX11_lend_1 (flX11_12 _ rfl) rfl rfl ?_
  refine pm_getf hG dX11_lend_4 (flX11_161 _ rfl) rfl rfl ?_
  refine pm_iloadn hG dX11_lend_7 rfl ?_
  refine pm_callV (As := [.int za]) (rest := []) hG hR dX11_lend_8 (lkX11_101 _ rfl) okV_X9_has rfl rfl (tb_has (d := 1) rfl) rfl rfl hdd (Nat.le_refl _) (Nat.le_refl _) (by decide) (pm_ki (fun v1 σ' cnt' hq => ?_))
  have b1 := pm_b01 hq.1
  obtain ⟨I1, A1, rfl, rfl, h1⟩ := hv_id (kp := kp) (I := I) (A := A) h hq.2
  refine pm_if_eq (tgt := 42) hG dX11_lend_11 rfl (fun c2 => ?_) (fun c2 => ?_)
  · refine pm_aloadn hG dX11_lend_42 rfl ?_
    refine pm_ldc hG dX11_lend_43 (ctX11_109 _ rfl) ?_
    refine pm_callV (As := [.int (-1000001)]) (rest := []) hG hR dX11_lend_45 (lkX11_97 _ rfl) okV_X11_told rfl rfl (sx_told (d := 1) (by decide) rfl rfl) rfl rfl hdd (Nat.le_refl _) (Nat.le_refl _) (by decide) (pm_ki (fun v3 σ' cnt' hq => ?_))
    obtain ⟨-, ⟨g3, hg3⟩, hc3⟩ := hq
    obtain ⟨I3, A3, rfl, rfl, h3⟩ := hv_a53 (kp := kp) (I := I1) (A := A1) h1 ⟨hg3, hc3⟩
    exact pm_iret hG hF dX11_lend_48 rfl (Nat.le_refl _) (Nat.le_refl _) ⟨_, rfl, _, _, rfl, rfl, h3⟩
  · refine pm_aloadn hG dX11_lend_14 rfl ?_
    refine pm_getf hG dX11_lend_15 (flX11_12 _ rfl) rfl rfl ?_
    refine pm_iloadn hG dX11_lend_18 rfl ?_
    refine pm_callV (As := [.int zb]) (rest := []) hG hR dX11_lend_19 (lkX11_135 _ rfl) okV_X7_isLiving rfl rfl (g_X7_isLiving (d := 1) (by decide) h1) rfl rfl hdd (Nat.le_refl _) (Nat.le_refl _) (by decide) (pm_ki (fun v4 σ' cnt' hq => ?_))
    obtain ⟨b4, I4, A4, rfl, rfl, h4⟩ := hq
    refine pm_if_eq (tgt := 42) hG dX11_lend_22 rfl (fun c5 => ?_) (fun c5 => ?_)
    · refine pm_aloadn hG dX11_lend_42 rfl ?_
      refine pm_ldc hG dX11_lend_43 (ctX11_109 _ rfl) ?_
      refine pm_callV (As := [.int (-1000001)]) (rest := []) hG hR dX11_lend_45 (lkX11_97 _ rfl) okV_X11_told rfl rfl (sx_told (d := 1) (by decide) rfl rfl) rfl rfl hdd (Nat.le_refl _) (Nat.le_refl _) (by decide) (pm_ki (fun v6 σ' cnt' hq => ?_))
      obtain ⟨-, ⟨g6, hg6⟩, hc6⟩ := hq
      obtain ⟨I6, A6, rfl, rfl, h6⟩ := hv_a53 (kp := kp) (I := I4) (A := A4) h4 ⟨hg6, hc6⟩
      exact pm_iret hG hF dX11_lend_48 rfl (Nat.le_refl _) (Nat.le_refl _) ⟨_, rfl, _, _, rfl, rfl, h6⟩
    · refine pm_iloadn hG dX11_lend_25 rfl ?_
      refine pm_aloadn hG dX11_lend_26 rfl ?_
      refine pm_getf hG dX11_lend_27 (flX11_12 _ rfl) rfl rfl ?_
      refine pm_getf hG dX11_lend_30 (flX11_122 _ rfl) rfl rfl ?_
      refine pm_sipush (v := 2000) hG dX11_lend_33 (by decide) ?_
      refine pm_callS (As := [.int zc, .int (I4 102), .int 2000]) (rest := []) hG hR dX11_lend_36 (lkX11_105 _ rfl) okS_X11_isOutside (sx_isOutside (d := 1)) rfl rfl hdd (Nat.le_refl _) (Nat.le_refl _) (by decide) (pm_ki (fun v7 σ' cnt' hq => ?_))
      have o7 := hq.1
      have b7 := pm_b10 hq.1
      obtain ⟨I7, A7, rfl, rfl, h7⟩ := hv_id (kp := kp) (I := I4) (A := A4) h4 hq.2
      refine pm_if_eq (tgt := 49) hG dX11_lend_39 rfl (fun c8 => ?_) (fun c8 => ?_)
      · refine pm_aloadn hG dX11_lend_49 rfl ?_
        refine pm_getf hG dX11_lend_50 (flX11_12 _ rfl) rfl rfl ?_
        refine pm_iloadn hG dX11_lend_53 rfl ?_
        refine pm_iconst (v := 2) hG dX11_lend_54 (by decide) ?_
        refine pm_callV (As := [.int za, .int 2]) (rest := []) hG hR dX11_lend_55 (lkX11_180 _ rfl) okV_X7_isOfKind rfl rfl (g_X7_isOfKind (d := 1) (by decide) h7) rfl rfl hdd (Nat.le_refl _) (Nat.le_refl _) (by decide) (pm_ki (fun v9 σ' cnt' hq => ?_))
        obtain ⟨b9, I9, A9, rfl, rfl, h9⟩ := hq
        refine pm_if_ne (tgt := 68) hG dX11_lend_58 rfl (fun c10 => ?_) (fun c10 => ?_)
        · refine pm_aloadn hG dX11_lend_68 rfl ?_
          refine pm_getf hG dX11_lend_69 (flX11_12 _ rfl) rfl rfl ?_
          refine pm_getf hG dX11_lend_72 (flX11_161 _ rfl) rfl rfl ?_
          refine pm_iloadn hG dX11_lend_75 rfl ?_
          refine pm_iconst (v := 2) hG dX11_lend_76 (by decide) ?_
          refine pm_callV (As := [.int za, .int 2]) (rest := []) hG hR dX11_lend_77 (lkX11_152 _ rfl) okV_X9_get rfl rfl (tb_get (d := 1) rfl rfl (pm_tw_of 20 6 (by decide) (by decide) (by decide))) rfl rfl hdd (Nat.le_refl _) (Nat.le_refl _) (by decide) (pm_ki (fun v11 σ' cnt' hq => ?_))
          obtain ⟨I11, A11, rfl, rfl, h11⟩ := hv_id (kp := kp) (I := I9) (A := A9) h9 hq.2
          refine pm_istoreXi (loc' := [some (.ref (B + 0)), some (.int za), some (.int zb), some (.int zc), some (.int v11)]) hG dX11_lend_80 (by decide) (pm_c1b rfl) rfl ?_
          refine pm_iloadi hG dX11_lend_82 rfl ?_
          refine pm_iconst (v := (-1)) hG dX11_lend_84 (by decide) ?_
          refine pm_icmp_eq (tgt := 105) hG dX11_lend_85 rfl (fun c12 => ?_) (fun c12 => ?_)
          · refine pm_aloadn hG dX11_lend_105 rfl ?_
            refine pm_ldc hG dX11_lend_106 (ctX11_138 _ rfl) ?_
            refine pm_callV (As := [.int (-1000003)]) (rest := []) hG hR dX11_lend_108 (lkX11_97 _ rfl) okV_X11_told rfl rfl (sx_told (d := 1) (by decide) rfl rfl) rfl rfl hdd (Nat.le_refl _) (Nat.le_refl _) (by decide) (pm_ki (fun v13 σ' cnt' hq => ?_))
            obtain ⟨-, ⟨g13, hg13⟩, hc13⟩ := hq
            obtain ⟨I13, A13, rfl, rfl, h13⟩ := hv_a53 (kp := kp) (I := I11) (A := A11) h11 ⟨hg13, hc13⟩
            exact pm_iret hG hF dX11_lend_111 rfl (Nat.le_refl _) (Nat.le_refl _) ⟨_, rfl, _, _, rfl, rfl, h13⟩
          · refine pm_iloadi hG dX11_lend_88 rfl ?_
            refine pm_iloadn hG dX11_lend_90 rfl ?_
            refine pm_icmp_eq (tgt := 105) hG dX11_lend_91 rfl (fun c14 => ?_) (fun c14 => ?_)
            · refine pm_aloadn hG dX11_lend_105 rfl ?_
              refine pm_ldc hG dX11_lend_106 (ctX11_138 _ rfl) ?_
              refine pm_callV (As := [.int (-1000003)]) (rest := []) hG hR dX11_lend_108 (lkX11_97 _ rfl) okV_X11_told rfl rfl (sx_told (d := 1) (by decide) rfl rfl) rfl rfl hdd (Nat.le_refl _) (Nat.le_refl _) (by decide) (pm_ki (fun v15 σ' cnt' hq => ?_))
              obtain ⟨-, ⟨g15, hg15⟩, hc15⟩ := hq
              obtain ⟨I15, A15, rfl, rfl, h15⟩ := hv_a53 (kp := kp) (I := I11) (A := A11) h11 ⟨hg15, hc15⟩
              exact pm_iret hG hF dX11_lend_111 rfl (Nat.le_refl _) (Nat.le_refl _) ⟨_, rfl, _, _, rfl, rfl, h15⟩
            · refine pm_aloadn hG dX11_lend_94 rfl ?_
              refine pm_getf hG dX11_lend_95 (flX11_12 _ rfl) rfl rfl ?_
              refine pm_iloadn hG dX11_lend_98 rfl ?_
              refine pm_callV (As := [.int za]) (rest := []) hG hR dX11_lend_99 (lkX11_188 _ rfl) okV_X7_isLent rfl rfl (g_X7_isLent (d := 1) (by decide) h11) rfl rfl hdd (Nat.le_refl _) (Nat.le_refl _) (by decide) (pm_ki (fun v16 σ' cnt' hq => ?_))
              obtain ⟨b16, I16, A16, rfl, rfl, h16⟩ := hq
              refine pm_if_eq (tgt := 112) hG dX11_lend_102 rfl (fun c17 => ?_) (fun c17 => ?_)
              · refine pm_aloadn hG dX11_lend_112 rfl ?_
                refine pm_getf hG dX11_lend_113 (flX11_12 _ rfl) rfl rfl ?_
                refine pm_iloadn hG dX11_lend_116 rfl ?_
                refine pm_iloadn hG dX11_lend_117 rfl ?_
                refine pm_iloadn hG dX11_lend_118 rfl ?_
                refine pm_callV (As := [.int za, .int zb, .int zc]) (rest := []) hG hR dX11_lend_119 (lkX11_194 _ rfl) okV_X7_setLent rfl rfl (g_X7_setLent (d := 1) (by decide) h16) rfl rfl hdd (Nat.le_refl _) (Nat.le_refl _) (by decide) (pm_kv (fun σ' cnt' hq => ?_))
                obtain ⟨I18, A18, rfl, rfl, h18⟩ := hq
                refine pm_iconst (v := 1) hG dX11_lend_122 (by decide) ?_
                exact pm_iret hG hF dX11_lend_123 rfl (Nat.le_refl _) (Nat.le_refl _) ⟨_, rfl, _, _, rfl, rfl, h18⟩
              · refine pm_aloadn hG dX11_lend_105 rfl ?_
                refine pm_ldc hG dX11_lend_106 (ctX11_138 _ rfl) ?_
                refine pm_callV (As := [.int (-1000003)]) (rest := []) hG hR dX11_lend_108 (lkX11_97 _ rfl) okV_X11_told rfl rfl (sx_told (d := 1) (by decide) rfl rfl) rfl rfl hdd (Nat.le_refl _) (Nat.le_refl _) (by decide) (pm_ki (fun v19 σ' cnt' hq => ?_))
                obtain ⟨-, ⟨g19, hg19⟩, hc19⟩ := hq
                obtain ⟨I19, A19, rfl, rfl, h19⟩ := hv_a53 (kp := kp) (I := I16) (A := A16) h16 ⟨hg19, hc19⟩
                exact pm_iret hG hF dX11_lend_111 rfl (Nat.le_refl _) (Nat.le_refl _) ⟨_, rfl, _, _, rfl, rfl, h19⟩
        · refine pm_aloadn hG dX11_lend_61 rfl ?_
          refine pm_ldc hG dX11_lend_62 (ctX11_184 _ rfl) ?_
          refine pm_callV (As := [.int (-1000005)]) (rest := []) hG hR dX11_lend_64 (lkX11_97 _ rfl) okV_X11_told rfl rfl (sx_told (d := 1) (by decide) rfl rfl) rfl rfl hdd (Nat.le_refl _) (Nat.le_refl _) (by decide) (pm_ki (fun v20 σ' cnt' hq => ?_))
          obtain ⟨-, ⟨g20, hg20⟩, hc20⟩ := hq
          obtain ⟨I20, A20, rfl, rfl, h20⟩ := hv_a53 (kp := kp) (I := I9) (A := A9) h9 ⟨hg20, hc20⟩
          exact pm_iret hG hF dX11_lend_67 rfl (Nat.le_refl _) (Nat.le_refl _) ⟨_, rfl, _, _, rfl, rfl, h20⟩
      · refine pm_aloadn hG dX11_lend_42 rfl ?_
        refine pm_ldc hG dX11_lend_43 (ctX11_109 _ rfl) ?_
        refine pm_callV (As := [.int (-1000001)]) (rest := []) hG hR dX11_lend_45 (lkX11_97 _ rfl) okV_X11_told rfl rfl (sx_told (d := 1) (by decide) rfl rfl) rfl rfl hdd (Nat.le_refl _) (Nat.le_refl _) (by decide) (pm_ki (fun v21 σ' cnt' hq => ?_))
        obtain ⟨-, ⟨g21, hg21⟩, hc21⟩ := hq
        obtain ⟨I21, A21, rfl, rfl, h21⟩ := hv_a53 (kp := kp) (I := I7) (A := A7) h7 ⟨hg21, hc21⟩
        exact pm_iret hG hF dX11_lend_48 rfl (Nat.le_refl _) (Nat.le_refl _) ⟨_, rfl, _, _, rfl, rfl, h21⟩

set_option maxRecDepth 100000 in
set_option maxHeartbeats 4000000 in
theorem g_X11_letter {ε : Nat → Int32} {d B cnt : Nat} {kp : pm_KP} {ρ : pm_S} {I : Nat → Int32} {A : Nat → Nat → Int32} {za zb : Int32} (hdd : 1 ≤ d) (h : gq ε I) : pm_met mX11_letter d 0 0 B [.ref (B + 0), .int za, .int zb] cnt (pm_two (cl_L B kp I A) ρ) (pm_Qi (fun _ σ' cnt' => hvq ε B kp ρ cnt σ' cnt')) := by
  refine pm_enter 0 (by decide) (Nat.le_of_ble_eq_true rfl) rfl (fun G hG hR hF => ?_)
  refine pm_aloadn hG dX11_letter_0 rfl ?_
  refine pm_getf hG dX11_letter_1 (flX11_12 _ rfl) rfl rfl ?_
  refine pm_getf hG dX11_letter_4 (flX11_224 _ rfl) rfl rfl ?_
  refine pm_iloadn hG dX11_letter_7 rfl ?_
  refine pm_callV (As := [.int za]) (rest := []) hG hR dX11_letter_8 (lkX11_101 _ rfl) okV_X9_has rfl rfl (tb_has (d := 0) rfl) rfl rfl hdd (Nat.le_refl _) (Nat.le_refl _) (by decide) (pm_ki (fun v1 σ' cnt' hq => ?_))
  have b1 := pm_b01 hq.1
  obtain ⟨I1, A1, rfl, rfl, h1⟩ := hv_id (kp := kp) (I := I) (A := A) h hq.2
  refine pm_if_ne (tgt := 21) hG dX11_letter_11 rfl (fun c2 => ?_) (fun c2 => ?_)
  · refine pm_iloadn hG dX11_letter_21 rfl ?_
    by_cases c3 : zb = 0
    · refine pm_top (v := 0) c3 ?_
      refine pm_tswIn (tgt := 76) hG dX11_letter_22 (by decide) (by decide) rfl rfl ?_
      refine pm_aloadn hG dX11_letter_76 rfl ?_
      refine pm_getf hG dX11_letter_77 (flX11_12 _ rfl) rfl rfl ?_
      refine pm_getf hG dX11_letter_80 (flX11_224 _ rfl) rfl rfl ?_
      refine pm_iloadn hG dX11_letter_83 rfl ?_
      refine pm_iconst (v := 0) hG dX11_letter_84 (by decide) ?_
      refine pm_callV (As := [.int za, .int 0]) (rest := []) hG hR dX11_letter_85 (lkX11_152 _ rfl) okV_X9_get rfl rfl (tb_get (d := 0) rfl rfl (pm_tw_of 40 12 (by decide) (by decide) (by decide))) rfl rfl hdd (Nat.le_refl _) (Nat.le_refl _) (by decide) (pm_ki (fun v4 σ' cnt' hq => ?_))
      obtain ⟨I4, A4, rfl, rfl, h4⟩ := hv_id (kp := kp) (I := I1) (A := A1) h1 hq.2
      exact pm_iret hG hF dX11_letter_88 rfl (Nat.le_refl _) (Nat.le_refl _) ⟨_, rfl, _, _, rfl, rfl, h4⟩
    by_cases c5 : zb = 1
    · refine pm_top (v := 1) c5 ?_
      refine pm_tswIn (tgt := 89) hG dX11_letter_22 (by decide) (by decide) rfl rfl ?_
      refine pm_aloadn hG dX11_letter_89 rfl ?_
      refine pm_getf hG dX11_letter_90 (flX11_12 _ rfl) rfl rfl ?_
      refine pm_getf hG dX11_letter_93 (flX11_224 _ rfl) rfl rfl ?_
      refine pm_iloadn hG dX11_letter_96 rfl ?_
      refine pm_iconst (v := 1) hG dX11_letter_97 (by decide) ?_
      refine pm_callV (As := [.int za, .int 1]) (rest := []) hG hR dX11_letter_98 (lkX11_152 _ rfl) okV_X9_get rfl rfl (tb_get (d := 0) rfl rfl (pm_tw_of 40 12 (by decide) (by decide) (by decide))) rfl rfl hdd (Nat.le_refl _) (Nat.le_refl _) (by decide) (pm_ki (fun v6 σ' cnt' hq => ?_))
      obtain ⟨I6, A6, rfl, rfl, h6⟩ := hv_id (kp := kp) (I := I1) (A := A1) h1 hq.2
      exact pm_iret hG hF dX11_letter_101 rfl (Nat.le_refl _) (Nat.le_refl _) ⟨_, rfl, _, _, rfl, rfl, h6⟩
    by_cases c7 : zb = 2
    · refine pm_top (v := 2) c7 ?_
      refine pm_tswIn (tgt := 102) hG dX11_letter_22 (by decide) (by decide) rfl rfl ?_
      refine pm_aloadn hG dX11_letter_102 rfl ?_
      refine pm_getf hG dX11_letter_103 (flX11_12 _ rfl) rfl rfl ?_
      refine pm_getf hG dX11_letter_106 (flX11_224 _ rfl) rfl rfl ?_
      refine pm_iloadn hG dX11_letter_109 rfl ?_
      refine pm_iconst (v := 2) hG dX11_letter_110 (by decide) ?_
      refine pm_callV (As := [.int za, .int 2]) (rest := []) hG hR dX11_letter_111 (lkX11_152 _ rfl) okV_X9_get rfl rfl (tb_get (d := 0) rfl rfl (pm_tw_of 40 12 (by decide) (by decide) (by decide))) rfl rfl hdd (Nat.le_refl _) (Nat.le_refl _) (by decide) (pm_ki (fun v8 σ' cnt' hq => ?_))
      obtain ⟨I8, A8, rfl, rfl, h8⟩ := hv_id (kp := kp) (I := I1) (A := A1) h1 hq.2
      exact pm_iret hG hF dX11_letter_114 rfl (Nat.le_refl _) (Nat.le_refl _) ⟨_, rfl, _, _, rfl, rfl, h8⟩
    by_cases c9 : zb = 3
    · refine pm_top (v := 3) c9 ?_
      refine pm_tswIn (tgt := 115) hG dX11_letter_22 (by decide) (by decide) rfl rfl ?_
      refine pm_aloadn hG dX11_letter_115 rfl ?_
      refine pm_getf hG dX11_letter_116 (flX11_12 _ rfl) rfl rfl ?_
      refine pm_getf hG dX11_letter_119 (flX11_224 _ rfl) rfl rfl ?_
      refine pm_iloadn hG dX11_letter_122 rfl ?_
      refine pm_iconst (v := 4) hG dX11_letter_123 (by decide) ?_
      refine pm_callV (As := [.int za, .int 4]) (rest := []) hG hR dX11_letter_124 (lkX11_152 _ rfl) okV_X9_get rfl rfl (tb_get (d := 0) rfl rfl (pm_tw_of 40 12 (by decide) (by decide) (by decide))) rfl rfl hdd (Nat.le_refl _) (Nat.le_refl _) (by decide) (pm_ki (fun v10 σ' cnt' hq => ?_))
      obtain ⟨I10, A10, rfl, rfl, h10⟩ := hv_id (kp := kp) (I := I1) (A := A1) h1 hq.2
      exact pm_iret hG hF dX11_letter_127 rfl (Nat.le_refl _) (Nat.le_refl _) ⟨_, rfl, _, _, rfl, rfl, h10⟩
    by_cases c11 : zb = 4
    · refine pm_top (v := 4) c11 ?_
      refine pm_tswIn (tgt := 128) hG dX11_letter_22 (by decide) (by decide) rfl rfl ?_
      refine pm_aloadn hG dX11_letter_128 rfl ?_
      refine pm_getf hG dX11_letter_129 (flX11_12 _ rfl) rfl rfl ?_
      refine pm_getf hG dX11_letter_132 (flX11_224 _ rfl) rfl rfl ?_
      refine pm_iloadn hG dX11_letter_135 rfl ?_
      refine pm_bipush (v := 6) hG dX11_letter_136 (by decide) ?_
      refine pm_callV (As := [.int za, .int 6]) (rest := []) hG hR dX11_letter_138 (lkX11_152 _ rfl) okV_X9_get rfl rfl (tb_get (d := 0) rfl rfl (pm_tw_of 40 12 (by decide) (by decide) (by decide))) rfl rfl hdd (Nat.le_refl _) (Nat.le_refl _) (by decide) (pm_ki (fun v12 σ' cnt' hq => ?_))
      obtain ⟨I12, A12, rfl, rfl, h12⟩ := hv_id (kp := kp) (I := I1) (A := A1) h1 hq.2
      exact pm_iret hG hF dX11_letter_141 rfl (Nat.le_refl _) (Nat.le_refl _) ⟨_, rfl, _, _, rfl, rfl, h12⟩
    by_cases c13 : zb = 5
    · refine pm_top (v := 5) c13 ?_
      refine pm_tswIn (tgt := 142) hG dX11_letter_22 (by decide) (by decide) rfl rfl ?_
      refine pm_aloadn hG dX11_letter_142 rfl ?_
      refine pm_getf hG dX11_letter_143 (flX11_12 _ rfl) rfl rfl ?_
      refine pm_getf hG dX11_letter_146 (flX11_224 _ rfl) rfl rfl ?_
      refine pm_iloadn hG dX11_letter_149 rfl ?_
      refine pm_bipush (v := 8) hG dX11_letter_150 (by decide) ?_
      refine pm_callV (As := [.int za, .int 8]) (rest := []) hG hR dX11_letter_152 (lkX11_152 _ rfl) okV_X9_get rfl rfl (tb_get (d := 0) rfl rfl (pm_tw_of 40 12 (by decide) (by decide) (by decide))) rfl rfl hdd (Nat.le_refl _) (Nat.le_refl _) (by decide) (pm_ki (fun v14 σ' cnt' hq => ?_))
      obtain ⟨I14, A14, rfl, rfl, h14⟩ := hv_id (kp := kp) (I := I1) (A := A1) h1 hq.2
      exact pm_iret hG hF dX11_letter_155 rfl (Nat.le_refl _) (Nat.le_refl _) ⟨_, rfl, _, _, rfl, rfl, h14⟩
    by_cases c15 : zb = 6
    · refine pm_top (v := 6) c15 ?_
      refine pm_tswIn (tgt := 156) hG dX11_letter_22 (by decide) (by decide) rfl rfl ?_
      refine pm_aloadn hG dX11_letter_156 rfl ?_
      refine pm_getf hG dX11_letter_157 (flX11_12 _ rfl) rfl rfl ?_
      refine pm_getf hG dX11_letter_160 (flX11_224 _ rfl) rfl rfl ?_
      refine pm_iloadn hG dX11_letter_163 rfl ?_
      refine pm_bipush (v := 9) hG dX11_letter_164 (by decide) ?_
      refine pm_callV (As := [.int za, .int 9]) (rest := []) hG hR dX11_letter_166 (lkX11_152 _ rfl) okV_X9_get rfl rfl (tb_get (d := 0) rfl rfl (pm_tw_of 40 12 (by decide) (by decide) (by decide))) rfl rfl hdd (Nat.le_refl _) (Nat.le_refl _) (by decide) (pm_ki (fun v16 σ' cnt' hq => ?_))
      obtain ⟨I16, A16, rfl, rfl, h16⟩ := hv_id (kp := kp) (I := I1) (A := A1) h1 hq.2
      exact pm_iret hG hF dX11_letter_169 rfl (Nat.le_refl _) (Nat.le_refl _) ⟨_, rfl, _, _, rfl, rfl, h16⟩
    by_cases c17 : zb = 7
    · refine pm_top (v := 7) c17 ?_
      refine pm_tswIn (tgt := 170) hG dX11_letter_22 (by decide) (by decide) rfl rfl ?_
      refine pm_aloadn hG dX11_letter_170 rfl ?_
      refine pm_getf hG dX11_letter_171 (flX11_12 _ rfl) rfl rfl ?_
      refine pm_getf hG dX11_letter_174 (flX11_224 _ rfl) rfl rfl ?_
      refine pm_iloadn hG dX11_letter_177 rfl ?_
      refine pm_bipush (v := 10) hG dX11_letter_178 (by decide) ?_
      refine pm_callV (As := [.int za, .int 10]) (rest := []) hG hR dX11_letter_180 (lkX11_152 _ rfl) okV_X9_get rfl rfl (tb_get (d := 0) rfl rfl (pm_tw_of 40 12 (by decide) (by decide) (by decide))) rfl rfl hdd (Nat.le_refl _) (Nat.le_refl _) (by decide) (pm_ki (fun v18 σ' cnt' hq => ?_))
      obtain ⟨I18, A18, rfl, rfl, h18⟩ := hv_id (kp := kp) (I := I1) (A := A1) h1 hq.2
      exact pm_iret hG hF dX11_letter_183 rfl (Nat.le_refl _) (Nat.le_refl _) ⟨_, rfl, _, _, rfl, rfl, h18⟩
    by_cases c19 : zb = 8
    · refine pm_top (v := 8) c19 ?_
      refine pm_tswIn (tgt := 184) hG dX11_letter_22 (by decide) (by decide) rfl rfl ?_
      refine pm_aloadn hG dX11_letter_184 rfl ?_
      refine pm_getf hG dX11_letter_185 (flX11_12 _ rfl) rfl rfl ?_
      refine pm_getf hG dX11_letter_188 (flX11_224 _ rfl) rfl rfl ?_
      refine pm_iloadn hG dX11_letter_191 rfl ?_
      refine pm_bipush (v := 11) hG dX11_letter_192 (by decide) ?_
      refine pm_callV (As := [.int za, .int 11]) (rest := []) hG hR dX11_letter_194 (lkX11_152 _ rfl) okV_X9_get rfl rfl (tb_get (d := 0) rfl rfl (pm_tw_of 40 12 (by decide) (by decide) (by decide))) rfl rfl hdd (Nat.le_refl _) (Nat.le_refl _) (by decide) (pm_ki (fun v20 σ' cnt' hq => ?_))
      obtain ⟨I20, A20, rfl, rfl, h20⟩ := hv_id (kp := kp) (I := I1) (A := A1) h1 hq.2
      exact pm_iret hG hF dX11_letter_197 rfl (Nat.le_refl _) (Nat.le_refl _) ⟨_, rfl, _, _, rfl, rfl, h20⟩
    by_cases c21 : zb = 9
    · refine pm_top (v := 9) c21 ?_
      refine pm_tswIn (tgt := 198) hG dX11_letter_22 (by decide) (by decide) rfl rfl ?_
      refine pm_aloadn hG dX11_letter_198 rfl ?_
      refine pm_getf hG dX11_letter_199 (flX11_12 _ rfl) rfl rfl ?_
      refine pm_getf hG dX11_letter_202 (flX11_224 _ rfl) rfl rfl ?_
      refine pm_iloadn hG dX11_letter_205 rfl ?_
      refine pm_iconst (v := 5) hG dX11_letter_206 (by decide) ?_
      refine pm_callV (As := [.int za, .int 5]) (rest := []) hG hR dX11_letter_207 (lkX11_152 _ rfl) okV_X9_get rfl rfl (tb_get (d := 0) rfl rfl (pm_tw_of 40 12 (by decide) (by decide) (by decide))) rfl rfl hdd (Nat.le_refl _) (Nat.le_refl _) (by decide) (pm_ki (fun v22 σ' cnt' hq => ?_))
      obtain ⟨I22, A22, rfl, rfl, h22⟩ := hv_id (kp := kp) (I := I1) (A := A1) h1 hq.2
      exact pm_iret hG hF dX11_letter_210 rfl (Nat.le_refl _) (Nat.le_refl _) ⟨_, rfl, _, _, rfl, rfl, h22⟩
    have tc3 : ¬ zb.toInt = 0 := fun q => c3 (Int32.toInt_inj.mp q)
    have tc5 : ¬ zb.toInt = 1 := fun q => c5 (Int32.toInt_inj.mp q)
    have tc7 : ¬ zb.toInt = 2 := fun q => c7 (Int32.toInt_inj.mp q)
    have tc9 : ¬ zb.toInt = 3 := fun q => c9 (Int32.toInt_inj.mp q)
    have tc11 : ¬ zb.toInt = 4 := fun q => c11 (Int32.toInt_inj.mp q)
    have tc13 : ¬ zb.toInt = 5 := fun q => c13 (Int32.toInt_inj.mp q)
    have tc15 : ¬ zb.toInt = 6 := fun q => c15 (Int32.toInt_inj.mp q)
    have tc17 : ¬ zb.toInt = 7 := fun q => c17 (Int32.toInt_inj.mp q)
    have tc19 : ¬ zb.toInt = 8 := fun q => c19 (Int32.toInt_inj.mp q)
    have tc21 : ¬ zb.toInt = 9 := fun q => c21 (Int32.toInt_inj.mp q)
    refine pm_tswOut (tgt := 211) hG dX11_letter_22 (by omega) rfl ?_
    refine pm_aloadn hG dX11_letter_211 rfl ?_
    refine pm_ldc hG dX11_letter_212 (ctX11_109 _ rfl) ?_
    refine pm_callV (As := [.int (-1000001)]) (rest := []) hG hR dX11_letter_214 (lkX11_97 _ rfl) okV_X11_told rfl rfl (sx_told (d := 0) (by decide) rfl rfl) rfl rfl hdd (Nat.le_refl _) (Nat.le_refl _) (by decide) (pm_ki (fun v23 σ' cnt' hq => ?_))
    obtain ⟨-, ⟨g23, hg23⟩, hc23⟩ := hq
    obtain ⟨I23, A23, rfl, rfl, h23⟩ := hv_a53 (kp := kp) (I := I1) (A := A1) h1 ⟨hg23, hc23⟩
    exact pm_iret hG hF dX11_letter_217 rfl (Nat.le_refl _) (Nat.le_refl _) ⟨_, rfl, _, _, rfl, rfl, h23⟩
  · refine pm_aloadn hG dX11_letter_14 rfl ?_
    refine pm_ldc hG dX11_letter_15 (ctX11_109 _ rfl) ?_
    refine pm_callV (As := [.int (-1000001)]) (rest := []) hG hR dX11_letter_17 (lkX11_97 _ rfl) okV_X11_told rfl rfl (sx_told (d := 0) (by decide) rfl rfl) rfl rfl hdd (Nat.le_refl _) (Nat.le_refl _) (by decide) (pm_ki (fun v24 σ' cnt' hq => ?_))
    obtain ⟨-, ⟨g24, hg24⟩, hc24⟩ := hq
    obtain ⟨I24, A24, rfl, rfl, h24⟩ := hv_a53 (kp := kp) (I := I1) (A := A1) h1 ⟨hg24, hc24⟩
    exact pm_iret hG hF dX11_letter_20 rfl (Nat.le_refl _) (Nat.le_refl _) ⟨_, rfl, _, _, rfl, rfl, h24⟩

set_option maxRecDepth 100000 in
set_option maxHeartbeats 4000000 in
theorem g_X11_men {ε : Nat → Int32} {d B cnt : Nat} {kp : pm_KP} {ρ : pm_S} {I : Nat → Int32} {A : Nat → Nat → Int32} {za zb : Int32} (hdd : 2 ≤ d) (h : gq ε I) : pm_met mX11_men d 0 0 B [.ref (B + 0), .int za, .int zb] cnt (pm_two (cl_L B kp I A) ρ) (pm_Qi (fun _ σ' cnt' => hvq ε B kp ρ cnt σ' cnt')) := by
  refine pm_enter 1 (by decide) (Nat.le_of_ble_eq_true rfl) rfl (fun G hG hR hF => ?_)
  refine pm_aloadn hG dX11_men_0 rfl ?_
  refine pm_getf hG dX11_men_1 (flX11_12 _ rfl) rfl rfl ?_
  refine pm_getf hG dX11_men_4 (flX11_128 _ rfl) rfl rfl ?_
  refine pm_iloadn hG dX11_men_7 rfl ?_
  refine pm_callV (As := [.int za]) (rest := []) hG hR dX11_men_8 (lkX11_101 _ rfl) okV_X9_has rfl rfl (tb_has (d := 1) rfl) rfl rfl hdd (Nat.le_refl _) (Nat.le_refl _) (by decide) (pm_ki (fun v1 σ' cnt' hq => ?_))
  have b1 := pm_b01 hq.1
  obtain ⟨I1, A1, rfl, rfl, h1⟩ := hv_id (kp := kp) (I := I) (A := A) h hq.2
  refine pm_if_eq (tgt := 25) hG dX11_men_11 rfl (fun c2 => ?_) (fun c2 => ?_)
  · refine pm_aloadn hG dX11_men_25 rfl ?_
    refine pm_ldc hG dX11_men_26 (ctX11_109 _ rfl) ?_
    refine pm_callV (As := [.int (-1000001)]) (rest := []) hG hR dX11_men_28 (lkX11_97 _ rfl) okV_X11_told rfl rfl (sx_told (d := 1) (by decide) rfl rfl) rfl rfl hdd (Nat.le_refl _) (Nat.le_refl _) (by decide) (pm_ki (fun v3 σ' cnt' hq => ?_))
    obtain ⟨-, ⟨g3, hg3⟩, hc3⟩ := hq
    obtain ⟨I3, A3, rfl, rfl, h3⟩ := hv_a53 (kp := kp) (I := I1) (A := A1) h1 ⟨hg3, hc3⟩
    exact pm_iret hG hF dX11_men_31 rfl (Nat.le_refl _) (Nat.le_refl _) ⟨_, rfl, _, _, rfl, rfl, h3⟩
  · refine pm_iloadn hG dX11_men_14 rfl ?_
    refine pm_bipush (v := (-99)) hG dX11_men_15 (by decide) ?_
    refine pm_bipush (v := 99) hG dX11_men_17 (by decide) ?_
    refine pm_callS (As := [.int zb, .int (-99), .int 99]) (rest := []) hG hR dX11_men_19 (lkX11_105 _ rfl) okS_X11_isOutside (sx_isOutside (d := 1)) rfl rfl hdd (Nat.le_refl _) (Nat.le_refl _) (by decide) (pm_ki (fun v4 σ' cnt' hq => ?_))
    have o4 := hq.1
    have b4 := pm_b10 hq.1
    obtain ⟨I4, A4, rfl, rfl, h4⟩ := hv_id (kp := kp) (I := I1) (A := A1) h1 hq.2
    refine pm_if_eq (tgt := 32) hG dX11_men_22 rfl (fun c5 => ?_) (fun c5 => ?_)
    · refine pm_aloadn hG dX11_men_32 rfl ?_
      refine pm_getf hG dX11_men_33 (flX11_12 _ rfl) rfl rfl ?_
      refine pm_iloadn hG dX11_men_36 rfl ?_
      refine pm_callV (As := [.int za]) (rest := []) hG hR dX11_men_37 (lkX11_135 _ rfl) okV_X7_isLiving rfl rfl (g_X7_isLiving (d := 1) (by decide) h4) rfl rfl hdd (Nat.le_refl _) (Nat.le_refl _) (by decide) (pm_ki (fun v6 σ' cnt' hq => ?_))
      obtain ⟨b6, I6, A6, rfl, rfl, h6⟩ := hq
      refine pm_if_ne (tgt := 50) hG dX11_men_40 rfl (fun c7 => ?_) (fun c7 => ?_)
      · refine pm_aloadn hG dX11_men_50 rfl ?_
        refine pm_getf hG dX11_men_51 (flX11_12 _ rfl) rfl rfl ?_
        refine pm_getf hG dX11_men_54 (flX11_128 _ rfl) rfl rfl ?_
        refine pm_iloadn hG dX11_men_57 rfl ?_
        refine pm_bipush (v := 8) hG dX11_men_58 (by decide) ?_
        refine pm_callV (As := [.int za, .int 8]) (rest := []) hG hR dX11_men_60 (lkX11_152 _ rfl) okV_X9_get rfl rfl (tb_get (d := 1) rfl rfl (pm_tw_of 20 14 (by decide) (by decide) (by decide))) rfl rfl hdd (Nat.le_refl _) (Nat.le_refl _) (by decide) (pm_ki (fun v8 σ' cnt' hq => ?_))
        obtain ⟨I8, A8, rfl, rfl, h8⟩ := hv_id (kp := kp) (I := I6) (A := A6) h6 hq.2
        refine pm_iloadn hG dX11_men_63 rfl ?_
        refine pm_iadd hG dX11_men_64 ?_
        refine pm_istoreXn (loc' := [some (.ref (B + 0)), some (.int za), some (.int zb), some (.int (v8 + zb))]) hG dX11_men_65 (by decide) (pm_c1b rfl) rfl ?_
        refine pm_iloadn hG dX11_men_66 rfl ?_
        refine pm_iconst (v := 0) hG dX11_men_67 (by decide) ?_
        refine pm_sipush (v := 999) hG dX11_men_68 (by decide) ?_
        refine pm_callS (As := [.int (v8 + zb), .int 0, .int 999]) (rest := []) hG hR dX11_men_71 (lkX11_105 _ rfl) okS_X11_isOutside (sx_isOutside (d := 1)) rfl rfl hdd (Nat.le_refl _) (Nat.le_refl _) (by decide) (pm_ki (fun v9 σ' cnt' hq => ?_))
        have o9 := hq.1
        have b9 := pm_b10 hq.1
        obtain ⟨I9, A9, rfl, rfl, h9⟩ := hv_id (kp := kp) (I := I8) (A := A8) h8 hq.2
        refine pm_if_eq (tgt := 84) hG dX11_men_74 rfl (fun c10 => ?_) (fun c10 => ?_)
        · refine pm_aloadn hG dX11_men_84 rfl ?_
          refine pm_getf hG dX11_men_85 (flX11_12 _ rfl) rfl rfl ?_
          refine pm_getf hG dX11_men_88 (flX11_128 _ rfl) rfl rfl ?_
          refine pm_iloadn hG dX11_men_91 rfl ?_
          refine pm_bipush (v := 8) hG dX11_men_92 (by decide) ?_
          refine pm_iloadn hG dX11_men_94 rfl ?_
          refine pm_callV (As := [.int za, .int 8, .int (v8 + zb)]) (rest := []) hG hR dX11_men_95 (lkX11_170 _ rfl) okV_X9_set rfl rfl (tb_set (d := 1) (rows := nI 20) (width := nI 14) (f := cmx kp.2 (A9 7)) rfl rfl (pm_tw_of 20 14 (by decide) (by decide) (by decide)) (by decide)) rfl rfl hdd (Nat.le_refl _) (Nat.le_refl _) (by decide) (pm_kv (fun σ' cnt' hq => ?_))
          obtain ⟨I11, A11, rfl, rfl, h11⟩ := hv_s7 (kp := kp) (I := I9) (A := A9) (ts7 8 (by decide) (by decide)) h9 hq
          refine pm_iloadn hG dX11_men_98 rfl ?_
          exact pm_iret hG hF dX11_men_99 rfl (Nat.le_refl _) (Nat.le_refl _) ⟨_, rfl, _, _, rfl, rfl, h11⟩
        · refine pm_aloadn hG dX11_men_77 rfl ?_
          refine pm_ldc hG dX11_men_78 (ctX11_109 _ rfl) ?_
          refine pm_callV (As := [.int (-1000001)]) (rest := []) hG hR dX11_men_80 (lkX11_97 _ rfl) okV_X11_told rfl rfl (sx_told (d := 1) (by decide) rfl rfl) rfl rfl hdd (Nat.le_refl _) (Nat.le_refl _) (by decide) (pm_ki (fun v12 σ' cnt' hq => ?_))
          obtain ⟨-, ⟨g12, hg12⟩, hc12⟩ := hq
          obtain ⟨I12, A12, rfl, rfl, h12⟩ := hv_a53 (kp := kp) (I := I9) (A := A9) h9 ⟨hg12, hc12⟩
          exact pm_iret hG hF dX11_men_83 rfl (Nat.le_refl _) (Nat.le_refl _) ⟨_, rfl, _, _, rfl, rfl, h12⟩
      · refine pm_aloadn hG dX11_men_43 rfl ?_
        refine pm_ldc hG dX11_men_44 (ctX11_138 _ rfl) ?_
        refine pm_callV (As := [.int (-1000003)]) (rest := []) hG hR dX11_men_46 (lkX11_97 _ rfl) okV_X11_told rfl rfl (sx_told (d := 1) (by decide) rfl rfl) rfl rfl hdd (Nat.le_refl _) (Nat.le_refl _) (by decide) (pm_ki (fun v13 σ' cnt' hq => ?_))
        obtain ⟨-, ⟨g13, hg13⟩, hc13⟩ := hq
        obtain ⟨I13, A13, rfl, rfl, h13⟩ := hv_a53 (kp := kp) (I := I6) (A := A6) h6 ⟨hg13, hc13⟩
        exact pm_iret hG hF dX11_men_49 rfl (Nat.le_refl _) (Nat.le_refl _) ⟨_, rfl, _, _, rfl, rfl, h13⟩
    · refine pm_aloadn hG dX11_men_25 rfl ?_
      refine pm_ldc hG dX11_men_26 (ctX11_109 _ rfl) ?_
      refine pm_callV (As := [.int (-1000001)]) (rest := []) hG hR dX11_men_28 (lkX11_97 _ rfl) okV_X11_told rfl rfl (sx_told (d := 1) (by decide) rfl rfl) rfl rfl hdd (Nat.le_refl _) (Nat.le_refl _) (by decide) (pm_ki (fun v14 σ' cnt' hq => ?_))
      obtain ⟨-, ⟨g14, hg14⟩, hc14⟩ := hq
      obtain ⟨I14, A14, rfl, rfl, h14⟩ := hv_a53 (kp := kp) (I := I4) (A := A4) h4 ⟨hg14, hc14⟩
      exact pm_iret hG hF dX11_men_31 rfl (Nat.le_refl _) (Nat.le_refl _) ⟨_, rfl, _, _, rfl, rfl, h14⟩

set_option maxRecDepth 100000 in
set_option maxHeartbeats 4000000 in
theorem g_X8_has {ε : Nat → Int32} {d B cnt : Nat} {kp : pm_KP} {ρ : pm_S} {I : Nat → Int32} {A : Nat → Nat → Int32} {za : Int32} (hdd : 1 ≤ d) (h : gq ε I) : pm_met mX8_has d 0 0 B [.ref (B + 48), .int za] cnt (pm_two (cl_L B kp I A) ρ) (pm_Qi (fun v σ' cnt' => (v = 0 ∨ v = 1) ∧ hvq ε B kp ρ cnt σ' cnt')) := by
  refine pm_enter 0 (by decide) (Nat.le_of_ble_eq_true rfl) rfl (fun G hG hR hF => ?_)
  refine pm_iloadn hG dX8_has_0 rfl ?_
  refine pm_if_lt (tgt := 13) hG dX8_has_1 rfl (fun c1 => ?_) (fun c1 => ?_)
  · refine pm_iconst (v := 0) hG dX8_has_13 (by decide) ?_
    exact pm_zret hG hF dX8_has_14 rfl (pm_nz (Or.inl rfl)) (Nat.le_refl _) (Nat.le_refl _) ⟨_, rfl, (Or.inl rfl), _, _, rfl, rfl, h⟩
  · refine pm_iloadn hG dX8_has_4 rfl ?_
    refine pm_iconst (v := 4) hG dX8_has_5 (by decide) ?_
    refine pm_icmp_ge (tgt := 13) hG dX8_has_6 rfl (fun c2 => ?_) (fun c2 => ?_)
    · refine pm_iconst (v := 0) hG dX8_has_13 (by decide) ?_
      exact pm_zret hG hF dX8_has_14 rfl (pm_nz (Or.inl rfl)) (Nat.le_refl _) (Nat.le_refl _) ⟨_, rfl, (Or.inl rfl), _, _, rfl, rfl, h⟩
    · refine pm_iconst (v := 1) hG dX8_has_9 (by decide) ?_
      refine pm_goto (tgt := 14) hG dX8_has_10 rfl ?_
      exact pm_zret hG hF dX8_has_14 rfl (pm_nz (Or.inr rfl)) (Nat.le_refl _) (Nat.le_refl _) ⟨_, rfl, (Or.inr rfl), _, _, rfl, rfl, h⟩

set_option maxRecDepth 100000 in
set_option maxHeartbeats 4000000 in
theorem g_X8_bitsOf {ε : Nat → Int32} {d B cnt : Nat} {kp : pm_KP} {ρ : pm_S} {I : Nat → Int32} {A : Nat → Nat → Int32} {za : Int32} (hdd : 1 ≤ d) (h : gq ε I) : pm_met mX8_bitsOf d 0 0 B [.ref (B + 48), .int za] cnt (pm_two (cl_L B kp I A) ρ) (pm_Qi (fun _ σ' cnt' => hvq ε B kp ρ cnt σ' cnt')) := by
  refine pm_enter 0 (by decide) (Nat.le_of_ble_eq_true rfl) rfl (fun G hG hR hF => ?_)
  refine pm_iloadn hG dX8_bitsOf_0 rfl ?_
  refine pm_if_lt (tgt := 22) hG dX8_bitsOf_1 rfl (fun c1 => ?_) (fun c1 => ?_)
  · refine pm_iconst (v := 0) hG dX8_bitsOf_22 (by decide) ?_
    exact pm_iret hG hF dX8_bitsOf_23 rfl (Nat.le_refl _) (Nat.le_refl _) ⟨_, rfl, _, _, rfl, rfl, h⟩
  · refine pm_iloadn hG dX8_bitsOf_4 rfl ?_
    refine pm_aloadn hG dX8_bitsOf_5 rfl ?_
    refine pm_getf hG dX8_bitsOf_6 (flX8_9 _ rfl) rfl rfl ?_
    refine pm_alen (v := 4) hG dX8_bitsOf_9 rfl (by decide) ?_
    refine pm_icmp_ge (tgt := 22) hG dX8_bitsOf_10 rfl (fun c2 => ?_) (fun c2 => ?_)
    · refine pm_iconst (v := 0) hG dX8_bitsOf_22 (by decide) ?_
      exact pm_iret hG hF dX8_bitsOf_23 rfl (Nat.le_refl _) (Nat.le_refl _) ⟨_, rfl, _, _, rfl, rfl, h⟩
    · refine pm_aloadn hG dX8_bitsOf_13 rfl ?_
      refine pm_getf hG dX8_bitsOf_14 (flX8_9 _ rfl) rfl rfl ?_
      refine pm_iloadn hG dX8_bitsOf_17 rfl ?_
      refine pm_iald hG dX8_bitsOf_18 rfl (pm_ib2 rfl c1 c2) ?_
      refine pm_goto (tgt := 23) hG dX8_bitsOf_19 rfl ?_
      exact pm_iret hG hF dX8_bitsOf_23 rfl (Nat.le_refl _) (Nat.le_refl _) ⟨_, rfl, _, _, rfl, rfl, h⟩

set_option maxRecDepth 100000 in
set_option maxHeartbeats 4000000 in
theorem g_X8_isMissing {ε : Nat → Int32} {d B cnt : Nat} {kp : pm_KP} {ρ : pm_S} {I : Nat → Int32} {A : Nat → Nat → Int32} {za : Int32} (hdd : 2 ≤ d) (h : gq ε I) : pm_met mX8_isMissing d 0 0 B [.ref (B + 48), .int za] cnt (pm_two (cl_L B kp I A) ρ) (pm_Qi (fun v σ' cnt' => (v = 0 ∨ v = 1) ∧ hvq ε B kp ρ cnt σ' cnt')) := by
  refine pm_enter 0 (by decide) (Nat.le_of_ble_eq_true rfl) rfl (fun G hG hR hF => ?_)
  refine pm_aloadn hG dX8_isMissing_0 rfl ?_
  refine pm_iloadn hG dX8_isMissing_1 rfl ?_
  refine pm_callV (As := [.int za]) (rest := []) hG hR dX8_isMissing_2 (lkX8_27 _ rfl) okV_X8_bitsOf rfl rfl (g_X8_bitsOf (d := 1) (by decide) h) rfl rfl hdd (Nat.le_refl _) (Nat.le_refl _) (by decide) (pm_ki (fun v1 σ' cnt' hq => ?_))
  obtain ⟨I1, A1, rfl, rfl, h1⟩ := hq
  refine pm_if_ne (tgt := 12) hG dX8_isMissing_5 rfl (fun c2 => ?_) (fun c2 => ?_)
  · refine pm_iconst (v := 0) hG dX8_isMissing_12 (by decide) ?_
    exact pm_zret hG hF dX8_isMissing_13 rfl (pm_nz (Or.inl rfl)) (Nat.le_refl _) (Nat.le_refl _) ⟨_, rfl, (Or.inl rfl), _, _, rfl, rfl, h1⟩
  · refine pm_iconst (v := 1) hG dX8_isMissing_8 (by decide) ?_
    refine pm_goto (tgt := 13) hG dX8_isMissing_9 rfl ?_
    exact pm_zret hG hF dX8_isMissing_13 rfl (pm_nz (Or.inr rfl)) (Nat.le_refl _) (Nat.le_refl _) ⟨_, rfl, (Or.inr rfl), _, _, rfl, rfl, h1⟩

set_option maxRecDepth 100000 in
set_option maxHeartbeats 4000000 in
theorem g_X8_sizeOf {ε : Nat → Int32} {d B cnt : Nat} {kp : pm_KP} {ρ : pm_S} {I : Nat → Int32} {A : Nat → Nat → Int32} {za : Int32} (hdd : 1 ≤ d) (h : gq ε I) : pm_met mX8_sizeOf d 0 0 B [.ref (B + 48), .int za] cnt (pm_two (cl_L B kp I A) ρ) (pm_Qi (fun _ σ' cnt' => hvq ε B kp ρ cnt σ' cnt')) := by
  refine pm_enter 0 (by decide) (Nat.le_of_ble_eq_true rfl) rfl (fun G hG hR hF => ?_)
  refine pm_iloadn hG dX8_sizeOf_0 rfl ?_
  refine pm_if_lt (tgt := 22) hG dX8_sizeOf_1 rfl (fun c1 => ?_) (fun c1 => ?_)
  · refine pm_iconst (v := 0) hG dX8_sizeOf_22 (by decide) ?_
    exact pm_iret hG hF dX8_sizeOf_23 rfl (Nat.le_refl _) (Nat.le_refl _) ⟨_, rfl, _, _, rfl, rfl, h⟩
  · refine pm_iloadn hG dX8_sizeOf_4 rfl ?_
    refine pm_aloadn hG dX8_sizeOf_5 rfl ?_
    refine pm_getf hG dX8_sizeOf_6 (flX8_15 _ rfl) rfl rfl ?_
    refine pm_alen (v := 4) hG dX8_sizeOf_9 rfl (by decide) ?_
    refine pm_icmp_ge (tgt := 22) hG dX8_sizeOf_10 rfl (fun c2 => ?_) (fun c2 => ?_)
    · refine pm_iconst (v := 0) hG dX8_sizeOf_22 (by decide) ?_
      exact pm_iret hG hF dX8_sizeOf_23 rfl (Nat.le_refl _) (Nat.le_refl _) ⟨_, rfl, _, _, rfl, rfl, h⟩
    · refine pm_aloadn hG dX8_sizeOf_13 rfl ?_
      refine pm_getf hG dX8_sizeOf_14 (flX8_15 _ rfl) rfl rfl ?_
      refine pm_iloadn hG dX8_sizeOf_17 rfl ?_
      refine pm_iald hG dX8_sizeOf_18 rfl (pm_ib2 rfl c1 c2) ?_
      refine pm_goto (tgt := 23) hG dX8_sizeOf_19 rfl ?_
      exact pm_iret hG hF dX8_sizeOf_23 rfl (Nat.le_refl _) (Nat.le_refl _) ⟨_, rfl, _, _, rfl, rfl, h⟩

set_option maxRecDepth 100000 in
set_option maxHeartbeats 4000000 in
theorem g_X8_stand {ε : Nat → Int32} {d B cnt : Nat} {kp : pm_KP} {ρ : pm_S} {I : Nat → Int32} {A : Nat → Nat → Int32} {za zb zc : Int32} (hdd : 2 ≤ d) (h : gq ε I) : pm_met mX8_stand d 0 0 B [.ref (B + 48), .int za, .int zb, .int zc] cnt (pm_two (cl_L B kp I A) ρ) (pm_Qi (fun v σ' cnt' => (v = 0 ∨ v = 1) ∧ hvq ε B kp ρ cnt σ' cnt')) := by
  refine pm_enter 0 (by decide) (Nat.le_of_ble_eq_true rfl) rfl (fun G hG hR hF => ?_)
  refine pm_iloadn hG dX8_stand_0 rfl ?_
  refine pm_if_lt (tgt := 32) hG dX8_stand_1 rfl (fun c1 => ?_) (fun c1 => ?_)
  · refine pm_iconst (v := 0) hG dX8_stand_32 (by decide) ?_
    exact pm_zret hG hF dX8_stand_33 rfl (pm_nz (Or.inl rfl)) (Nat.le_refl _) (Nat.le_refl _) ⟨_, rfl, (Or.inl rfl), _, _, rfl, rfl, h⟩
  · refine pm_iloadn hG dX8_stand_4 rfl ?_
    refine pm_if_lt (tgt := 32) hG dX8_stand_5 rfl (fun c2 => ?_) (fun c2 => ?_)
    · refine pm_iconst (v := 0) hG dX8_stand_32 (by decide) ?_
      exact pm_zret hG hF dX8_stand_33 rfl (pm_nz (Or.inl rfl)) (Nat.le_refl _) (Nat.le_refl _) ⟨_, rfl, (Or.inl rfl), _, _, rfl, rfl, h⟩
    · refine pm_iloadn hG dX8_stand_8 rfl ?_
      refine pm_aloadn hG dX8_stand_9 rfl ?_
      refine pm_iloadn hG dX8_stand_10 rfl ?_
      refine pm_callV (As := [.int za]) (rest := [.int zc]) hG hR dX8_stand_11 (lkX8_39 _ rfl) okV_X8_sizeOf rfl rfl (g_X8_sizeOf (d := 1) (by decide) h) rfl rfl hdd (Nat.le_refl _) (Nat.le_refl _) (by first | decide | exact Nat.le_of_ble_eq_true rfl) (pm_ki (fun v3 σ' cnt' hq => ?_))
      obtain ⟨I3, A3, rfl, rfl, h3⟩ := hq
      refine pm_icmp_gt (tgt := 32) hG dX8_stand_14 rfl (fun c4 => ?_) (fun c4 => ?_)
      · refine pm_iconst (v := 0) hG dX8_stand_32 (by decide) ?_
        exact pm_zret hG hF dX8_stand_33 rfl (pm_nz (Or.inl rfl)) (Nat.le_refl _) (Nat.le_refl _) ⟨_, rfl, (Or.inl rfl), _, _, rfl, rfl, h3⟩
      · refine pm_iloadn hG dX8_stand_17 rfl ?_
        refine pm_aloadn hG dX8_stand_18 rfl ?_
        refine pm_iloadn hG dX8_stand_19 rfl ?_
        refine pm_callV (As := [.int za]) (rest := [.int zb]) hG hR dX8_stand_20 (lkX8_39 _ rfl) okV_X8_sizeOf rfl rfl (g_X8_sizeOf (d := 1) (by decide) h3) rfl rfl hdd (Nat.le_refl _) (Nat.le_refl _) (by first | decide | exact Nat.le_of_ble_eq_true rfl) (pm_ki (fun v5 σ' cnt' hq => ?_))
        obtain ⟨I5, A5, rfl, rfl, h5⟩ := hq
        refine pm_iloadn hG dX8_stand_23 rfl ?_
        refine pm_isub hG dX8_stand_24 ?_
        refine pm_icmp_gt (tgt := 32) hG dX8_stand_25 rfl (fun c6 => ?_) (fun c6 => ?_)
        · refine pm_iconst (v := 0) hG dX8_stand_32 (by decide) ?_
          exact pm_zret hG hF dX8_stand_33 rfl (pm_nz (Or.inl rfl)) (Nat.le_refl _) (Nat.le_refl _) ⟨_, rfl, (Or.inl rfl), _, _, rfl, rfl, h5⟩
        · refine pm_iconst (v := 1) hG dX8_stand_28 (by decide) ?_
          refine pm_goto (tgt := 33) hG dX8_stand_29 rfl ?_
          exact pm_zret hG hF dX8_stand_33 rfl (pm_nz (Or.inr rfl)) (Nat.le_refl _) (Nat.le_refl _) ⟨_, rfl, (Or.inr rfl), _, _, rfl, rfl, h5⟩

set_option maxRecDepth 100000 in
set_option maxHeartbeats 4000000 in
theorem g_X8_transfer {ε : Nat → Int32} {d B cnt : Nat} {kp : pm_KP} {ρ : pm_S} {I : Nat → Int32} {A : Nat → Nat → Int32} {za zb zc zd ze : Int32} (hdd : 2 ≤ d) (h : gq ε I) : pm_met mX8_transfer d 0 0 B [.ref (B + 48), .int za, .int zb, .int zc, .int zd, .int ze] cnt (pm_two (cl_L B kp I A) ρ) (pm_Qv (fun σ' cnt' => hvq ε B kp ρ cnt σ' cnt')) := by
  refine pm_enter 0 (by decide) (Nat.le_of_ble_eq_true rfl) rfl (fun G hG hR hF => ?_)
  refine pm_aloadn hG dX8_transfer_0 rfl ?_
  refine pm_getf hG dX8_transfer_1 (flX8_23 _ rfl) rfl rfl ?_
  refine pm_iloadn hG dX8_transfer_4 rfl ?_
  refine pm_iloadn hG dX8_transfer_5 rfl ?_
  refine pm_iloadn hG dX8_transfer_6 rfl ?_
  refine pm_iloadi hG dX8_transfer_7 rfl ?_
  refine pm_iloadi hG dX8_transfer_9 rfl ?_
  refine pm_callV (As := [.int za, .int zb, .int zc, .int zd, .int ze]) (rest := []) hG hR dX8_transfer_11 (lkX8_49 _ rfl) okV_X9_transfer rfl rfl (tb_transfer (R := 4) (W := 24) (d := 1) (by decide) rfl rfl rfl (by decide) (by decide) (by decide) (by decide)) rfl rfl hdd (Nat.le_refl _) (Nat.le_refl _) (by decide) (pm_kv (fun σ' cnt' hq => ?_))
  obtain ⟨⟨g1, hg1⟩, hc1⟩ := hq
  obtain ⟨I1, A1, rfl, rfl, h1⟩ := hv_a52 (kp := kp) (I := I) (A := A) h ⟨hg1, hc1⟩
  exact pm_vret hG hF dX8_transfer_14 rfl (Nat.le_refl _) (Nat.le_refl _) ⟨rfl, _, _, rfl, rfl, h1⟩

set_option maxRecDepth 100000 in
set_option maxHeartbeats 4000000 in
theorem g_X11_move {ε : Nat → Int32} {d B cnt : Nat} {kp : pm_KP} {ρ : pm_S} {I : Nat → Int32} {A : Nat → Nat → Int32} {za zb zc zd ze : Int32} (hdd : 3 ≤ d) (h : gq ε I) : pm_met mX11_move d 0 0 B [.ref (B + 0), .int za, .int zb, .int zc, .int zd, .int ze] cnt (pm_two (cl_L B kp I A) ρ) (pm_Qi (fun _ σ' cnt' => hvq ε B kp ρ cnt σ' cnt')) := by
  refine pm_enter 0 (by decide) (Nat.le_of_ble_eq_true rfl) rfl (fun G hG hR hF => ?_)
  refine pm_aloadn hG dX11_move_0 rfl ?_
  refine pm_getf hG dX11_move_1 (flX11_74 _ rfl) rfl rfl ?_
  refine pm_iloadn hG dX11_move_4 rfl ?_
  refine pm_callV (As := [.int za]) (rest := []) hG hR dX11_move_5 (lkX11_251 _ rfl) okV_X8_has rfl rfl (g_X8_has (d := 2) (by decide) h) rfl rfl hdd (Nat.le_refl _) (Nat.le_refl _) (by decide) (pm_ki (fun v1 σ' cnt' hq => ?_))
  obtain ⟨b1, I1, A1, rfl, rfl, h1⟩ := hq
  refine pm_if_eq (tgt := 22) hG dX11_move_8 rfl (fun c2 => ?_) (fun c2 => ?_)
  · refine pm_aloadn hG dX11_move_22 rfl ?_
    refine pm_ldc hG dX11_move_23 (ctX11_109 _ rfl) ?_
    refine pm_callV (As := [.int (-1000001)]) (rest := []) hG hR dX11_move_25 (lkX11_97 _ rfl) okV_X11_told rfl rfl (sx_told (d := 2) (by decide) rfl rfl) rfl rfl hdd (Nat.le_refl _) (Nat.le_refl _) (by decide) (pm_ki (fun v3 σ' cnt' hq => ?_))
    obtain ⟨-, ⟨g3, hg3⟩, hc3⟩ := hq
    obtain ⟨I3, A3, rfl, rfl, h3⟩ := hv_a53 (kp := kp) (I := I1) (A := A1) h1 ⟨hg3, hc3⟩
    exact pm_iret hG hF dX11_move_28 rfl (Nat.le_refl _) (Nat.le_refl _) ⟨_, rfl, _, _, rfl, rfl, h3⟩
  · refine pm_aloadn hG dX11_move_11 rfl ?_
    refine pm_getf hG dX11_move_12 (flX11_74 _ rfl) rfl rfl ?_
    refine pm_iloadn hG dX11_move_15 rfl ?_
    refine pm_callV (As := [.int zc]) (rest := []) hG hR dX11_move_16 (lkX11_251 _ rfl) okV_X8_has rfl rfl (g_X8_has (d := 2) (by decide) h1) rfl rfl hdd (Nat.le_refl _) (Nat.le_refl _) (by decide) (pm_ki (fun v4 σ' cnt' hq => ?_))
    obtain ⟨b4, I4, A4, rfl, rfl, h4⟩ := hq
    refine pm_if_ne (tgt := 29) hG dX11_move_19 rfl (fun c5 => ?_) (fun c5 => ?_)
    · refine pm_aloadn hG dX11_move_29 rfl ?_
      refine pm_getf hG dX11_move_30 (flX11_74 _ rfl) rfl rfl ?_
      refine pm_iloadn hG dX11_move_33 rfl ?_
      refine pm_callV (As := [.int za]) (rest := []) hG hR dX11_move_34 (lkX11_255 _ rfl) okV_X8_isMissing rfl rfl (g_X8_isMissing (d := 2) (by decide) h4) rfl rfl hdd (Nat.le_refl _) (Nat.le_refl _) (by decide) (pm_ki (fun v6 σ' cnt' hq => ?_))
      obtain ⟨b6, I6, A6, rfl, rfl, h6⟩ := hq
      refine pm_if_ne (tgt := 51) hG dX11_move_37 rfl (fun c7 => ?_) (fun c7 => ?_)
      · refine pm_aloadn hG dX11_move_51 rfl ?_
        refine pm_ldc hG dX11_move_52 (ctX11_223 _ rfl) ?_
        refine pm_callV (As := [.int (-1000002)]) (rest := []) hG hR dX11_move_54 (lkX11_97 _ rfl) okV_X11_told rfl rfl (sx_told (d := 2) (by decide) rfl rfl) rfl rfl hdd (Nat.le_refl _) (Nat.le_refl _) (by decide) (pm_ki (fun v8 σ' cnt' hq => ?_))
        obtain ⟨-, ⟨g8, hg8⟩, hc8⟩ := hq
        obtain ⟨I8, A8, rfl, rfl, h8⟩ := hv_a53 (kp := kp) (I := I6) (A := A6) h6 ⟨hg8, hc8⟩
        exact pm_iret hG hF dX11_move_57 rfl (Nat.le_refl _) (Nat.le_refl _) ⟨_, rfl, _, _, rfl, rfl, h8⟩
      · refine pm_aloadn hG dX11_move_40 rfl ?_
        refine pm_getf hG dX11_move_41 (flX11_74 _ rfl) rfl rfl ?_
        refine pm_iloadn hG dX11_move_44 rfl ?_
        refine pm_callV (As := [.int zc]) (rest := []) hG hR dX11_move_45 (lkX11_255 _ rfl) okV_X8_isMissing rfl rfl (g_X8_isMissing (d := 2) (by decide) h6) rfl rfl hdd (Nat.le_refl _) (Nat.le_refl _) (by decide) (pm_ki (fun v9 σ' cnt' hq => ?_))
        obtain ⟨b9, I9, A9, rfl, rfl, h9⟩ := hq
        refine pm_if_eq (tgt := 58) hG dX11_move_48 rfl (fun c10 => ?_) (fun c10 => ?_)
        · refine pm_aloadn hG dX11_move_58 rfl ?_
          refine pm_getf hG dX11_move_59 (flX11_74 _ rfl) rfl rfl ?_
          refine pm_iloadn hG dX11_move_62 rfl ?_
          refine pm_callV (As := [.int za]) (rest := []) hG hR dX11_move_63 (lkX11_258 _ rfl) okV_X8_bitsOf rfl rfl (g_X8_bitsOf (d := 2) (by decide) h9) rfl rfl hdd (Nat.le_refl _) (Nat.le_refl _) (by decide) (pm_ki (fun v11 σ' cnt' hq => ?_))
          obtain ⟨I11, A11, rfl, rfl, h11⟩ := hq
          refine pm_aloadn hG dX11_move_66 rfl ?_
          refine pm_getf hG dX11_move_67 (flX11_74 _ rfl) rfl rfl ?_
          refine pm_iloadn hG dX11_move_70 rfl ?_
          refine pm_callV (As := [.int zc]) (rest := [.int v11]) hG hR dX11_move_71 (lkX11_258 _ rfl) okV_X8_bitsOf rfl rfl (g_X8_bitsOf (d := 2) (by decide) h11) rfl rfl hdd (Nat.le_refl _) (Nat.le_refl _) (by first | decide | exact Nat.le_of_ble_eq_true rfl) (pm_ki (fun v12 σ' cnt' hq => ?_))
          obtain ⟨I12, A12, rfl, rfl, h12⟩ := hq
          refine pm_icmp_eq (tgt := 84) hG dX11_move_74 rfl (fun c13 => ?_) (fun c13 => ?_)
          · refine pm_aloadn hG dX11_move_84 rfl ?_
            refine pm_getf hG dX11_move_85 (flX11_74 _ rfl) rfl rfl ?_
            refine pm_iloadn hG dX11_move_88 rfl ?_
            refine pm_iloadn hG dX11_move_89 rfl ?_
            refine pm_iloadi hG dX11_move_90 rfl ?_
            refine pm_callV (As := [.int za, .int zb, .int ze]) (rest := []) hG hR dX11_move_92 (lkX11_370 _ rfl) okV_X8_stand rfl rfl (g_X8_stand (d := 2) (by decide) h12) rfl rfl hdd (Nat.le_refl _) (Nat.le_refl _) (by decide) (pm_ki (fun v14 σ' cnt' hq => ?_))
            obtain ⟨b14, I14, A14, rfl, rfl, h14⟩ := hq
            refine pm_if_eq (tgt := 113) hG dX11_move_95 rfl (fun c15 => ?_) (fun c15 => ?_)
            · refine pm_aloadn hG dX11_move_113 rfl ?_
              refine pm_ldc hG dX11_move_114 (ctX11_109 _ rfl) ?_
              refine pm_callV (As := [.int (-1000001)]) (rest := []) hG hR dX11_move_116 (lkX11_97 _ rfl) okV_X11_told rfl rfl (sx_told (d := 2) (by decide) rfl rfl) rfl rfl hdd (Nat.le_refl _) (Nat.le_refl _) (by decide) (pm_ki (fun v16 σ' cnt' hq => ?_))
              obtain ⟨-, ⟨g16, hg16⟩, hc16⟩ := hq
              obtain ⟨I16, A16, rfl, rfl, h16⟩ := hv_a53 (kp := kp) (I := I14) (A := A14) h14 ⟨hg16, hc16⟩
              exact pm_iret hG hF dX11_move_119 rfl (Nat.le_refl _) (Nat.le_refl _) ⟨_, rfl, _, _, rfl, rfl, h16⟩
            · refine pm_aloadn hG dX11_move_98 rfl ?_
              refine pm_getf hG dX11_move_99 (flX11_74 _ rfl) rfl rfl ?_
              refine pm_iloadn hG dX11_move_102 rfl ?_
              refine pm_iloadi hG dX11_move_103 rfl ?_
              refine pm_iloadi hG dX11_move_105 rfl ?_
              refine pm_callV (As := [.int zc, .int zd, .int ze]) (rest := []) hG hR dX11_move_107 (lkX11_370 _ rfl) okV_X8_stand rfl rfl (g_X8_stand (d := 2) (by decide) h14) rfl rfl hdd (Nat.le_refl _) (Nat.le_refl _) (by decide) (pm_ki (fun v17 σ' cnt' hq => ?_))
              obtain ⟨b17, I17, A17, rfl, rfl, h17⟩ := hq
              refine pm_if_ne (tgt := 120) hG dX11_move_110 rfl (fun c18 => ?_) (fun c18 => ?_)
              · refine pm_aloadn hG dX11_move_120 rfl ?_
                refine pm_getf hG dX11_move_121 (flX11_74 _ rfl) rfl rfl ?_
                refine pm_iloadn hG dX11_move_124 rfl ?_
                refine pm_iloadn hG dX11_move_125 rfl ?_
                refine pm_iloadn hG dX11_move_126 rfl ?_
                refine pm_iloadi hG dX11_move_127 rfl ?_
                refine pm_iloadi hG dX11_move_129 rfl ?_
                refine pm_callV (As := [.int za, .int zb, .int zc, .int zd, .int ze]) (rest := []) hG hR dX11_move_131 (lkX11_373 _ rfl) okV_X8_transfer rfl rfl (g_X8_transfer (d := 2) (by decide) h17) rfl rfl hdd (Nat.le_refl _) (Nat.le_refl _) (by decide) (pm_kv (fun σ' cnt' hq => ?_))
                obtain ⟨I19, A19, rfl, rfl, h19⟩ := hq
                refine pm_iloadi hG dX11_move_134 rfl ?_
                exact pm_iret hG hF dX11_move_136 rfl (Nat.le_refl _) (Nat.le_refl _) ⟨_, rfl, _, _, rfl, rfl, h19⟩
              · refine pm_aloadn hG dX11_move_113 rfl ?_
                refine pm_ldc hG dX11_move_114 (ctX11_109 _ rfl) ?_
                refine pm_callV (As := [.int (-1000001)]) (rest := []) hG hR dX11_move_116 (lkX11_97 _ rfl) okV_X11_told rfl rfl (sx_told (d := 2) (by decide) rfl rfl) rfl rfl hdd (Nat.le_refl _) (Nat.le_refl _) (by decide) (pm_ki (fun v20 σ' cnt' hq => ?_))
                obtain ⟨-, ⟨g20, hg20⟩, hc20⟩ := hq
                obtain ⟨I20, A20, rfl, rfl, h20⟩ := hv_a53 (kp := kp) (I := I17) (A := A17) h17 ⟨hg20, hc20⟩
                exact pm_iret hG hF dX11_move_119 rfl (Nat.le_refl _) (Nat.le_refl _) ⟨_, rfl, _, _, rfl, rfl, h20⟩
          · refine pm_aloadn hG dX11_move_77 rfl ?_
            refine pm_ldc hG dX11_move_78 (ctX11_184 _ rfl) ?_
            refine pm_callV (As := [.int (-1000005)]) (rest := []) hG hR dX11_move_80 (lkX11_97 _ rfl) okV_X11_told rfl rfl (sx_told (d := 2) (by decide) rfl rfl) rfl rfl hdd (Nat.le_refl _) (Nat.le_refl _) (by decide) (pm_ki (fun v21 σ' cnt' hq => ?_))
            obtain ⟨-, ⟨g21, hg21⟩, hc21⟩ := hq
            obtain ⟨I21, A21, rfl, rfl, h21⟩ := hv_a53 (kp := kp) (I := I12) (A := A12) h12 ⟨hg21, hc21⟩
            exact pm_iret hG hF dX11_move_83 rfl (Nat.le_refl _) (Nat.le_refl _) ⟨_, rfl, _, _, rfl, rfl, h21⟩
        · refine pm_aloadn hG dX11_move_51 rfl ?_
          refine pm_ldc hG dX11_move_52 (ctX11_223 _ rfl) ?_
          refine pm_callV (As := [.int (-1000002)]) (rest := []) hG hR dX11_move_54 (lkX11_97 _ rfl) okV_X11_told rfl rfl (sx_told (d := 2) (by decide) rfl rfl) rfl rfl hdd (Nat.le_refl _) (Nat.le_refl _) (by decide) (pm_ki (fun v22 σ' cnt' hq => ?_))
          obtain ⟨-, ⟨g22, hg22⟩, hc22⟩ := hq
          obtain ⟨I22, A22, rfl, rfl, h22⟩ := hv_a53 (kp := kp) (I := I9) (A := A9) h9 ⟨hg22, hc22⟩
          exact pm_iret hG hF dX11_move_57 rfl (Nat.le_refl _) (Nat.le_refl _) ⟨_, rfl, _, _, rfl, rfl, h22⟩
    · refine pm_aloadn hG dX11_move_22 rfl ?_
      refine pm_ldc hG dX11_move_23 (ctX11_109 _ rfl) ?_
      refine pm_callV (As := [.int (-1000001)]) (rest := []) hG hR dX11_move_25 (lkX11_97 _ rfl) okV_X11_told rfl rfl (sx_told (d := 2) (by decide) rfl rfl) rfl rfl hdd (Nat.le_refl _) (Nat.le_refl _) (by decide) (pm_ki (fun v23 σ' cnt' hq => ?_))
      obtain ⟨-, ⟨g23, hg23⟩, hc23⟩ := hq
      obtain ⟨I23, A23, rfl, rfl, h23⟩ := hv_a53 (kp := kp) (I := I4) (A := A4) h4 ⟨hg23, hc23⟩
      exact pm_iret hG hF dX11_move_28 rfl (Nat.le_refl _) (Nat.le_refl _) ⟨_, rfl, _, _, rfl, rfl, h23⟩

set_option maxRecDepth 100000 in
set_option maxHeartbeats 4000000 in
theorem g_X1_prepare {ε : Nat → Int32} {d B cnt : Nat} {kp : pm_KP} {ρ : pm_S} {I : Nat → Int32} {A : Nat → Nat → Int32} {za : Int32} (hdd : 1 ≤ d) (h : gq ε I) : pm_met mX1_prepare d 0 0 B [.ref (B + 40), .int za] cnt (pm_two (cl_L B kp I A) ρ) (pm_Qv (fun σ' cnt' => hvq ε B kp ρ cnt σ' cnt')) := by
  refine pm_enter 1 (by decide) (Nat.le_of_ble_eq_true rfl) rfl (fun G hG hR hF => ?_)
  refine pm_aloadn hG dX1_prepare_0 rfl ?_
  refine pm_iloadn hG dX1_prepare_1 rfl ?_
  refine pm_putf hG dX1_prepare_2 (fwX1_19 _ rfl) rfl rfl rfl ?_
  refine pm_nrm (L' := cl_L B kp (ui I 111 za) A) (by decide) (Nat.le_of_ble_eq_true rfl) rfl ?_
  refine pm_iconst (v := 0) hG dX1_prepare_5 (by decide) ?_
  refine pm_istoreXn (loc' := [some (.ref (B + 40)), some (.int za), some (.int 0)]) hG dX1_prepare_6 (by decide) (pm_c1b rfl) rfl ?_
  have loop7 : ∀ (m7 : Nat) (I2 : Nat → Int32) (A2 : Nat → Nat → Int32) (x2_2 : Int32), gq ε I2 → (¬ x2_2 < 0) → ((5 : Int32).toInt - x2_2.toInt).toNat < m7 → pm_wp mX1_prepare G B 7 [some (.ref (B + 40)), some (.int za), some (.int x2_2)] [] 0 0 cnt (pm_two (cl_L B kp I2 A2) ρ) := by
    intro m7
    induction m7 with
    | zero => intro I2 A2 x2_2 _  _ hm; exact absurd hm (Nat.not_lt_zero _)
    | succ m7 ih7 =>
      intro I2 A2 x2_2 h2 s7 hm7
      refine pm_iloadn hG dX1_prepare_7 rfl ?_
      refine pm_aloadn hG dX1_prepare_8 rfl ?_
      refine pm_getf hG dX1_prepare_9 (flX1_15 _ rfl) rfl rfl ?_
      refine pm_alen (v := 5) hG dX1_prepare_12 rfl (by decide) ?_
      refine pm_icmp_ge (tgt := 40) hG dX1_prepare_13 rfl (fun c3 => ?_) (fun c3 => ?_)
      · exact pm_vret hG hF dX1_prepare_40 rfl (Nat.le_refl _) (Nat.le_refl _) ⟨rfl, _, _, rfl, rfl, h2⟩
      · refine pm_aloadn hG dX1_prepare_16 rfl ?_
        refine pm_getf hG dX1_prepare_17 (flX1_15 _ rfl) rfl rfl ?_
        refine pm_iloadn hG dX1_prepare_20 rfl ?_
        refine pm_aloadn hG dX1_prepare_21 rfl ?_
        refine pm_getf hG dX1_prepare_22 (flX1_9 _ rfl) rfl rfl ?_
        refine pm_getf hG dX1_prepare_25 (flX1_23 _ rfl) rfl rfl ?_
        refine pm_iloadn hG dX1_prepare_28 rfl ?_
        refine pm_iconst (v := 0) hG dX1_prepare_29 (by decide) ?_
        refine pm_callV (As := [.int x2_2, .int 0]) (rest := [.int x2_2, .ref (B + 41)]) hG hR dX1_prepare_30 (lkX1_28 _ rfl) okV_X9_get rfl rfl (tb_get (d := 0) rfl rfl (pm_tw_of 5 1 (by decide) (by decide) (by decide))) rfl rfl hdd (Nat.le_refl _) (Nat.le_refl _) (by first | decide | exact Nat.le_of_ble_eq_true rfl) (pm_ki (fun v4 σ' cnt' hq => ?_))
        obtain ⟨I4, A4, rfl, rfl, h4⟩ := hv_id (kp := kp) (I := I2) (A := A2) h2 hq.2
        refine pm_iast hG dX1_prepare_33 rfl (pm_ib2 rfl s7 c3) ?_
        refine nm_a41 (fun A5 => ?_)
        refine pm_iincX (v := x2_2 + 1) (loc' := [some (.ref (B + 40)), some (.int za), some (.int (x2_2 + 1))]) hG dX1_prepare_34 rfl (by rfl) (by decide) (pm_c1b rfl) rfl ?_
        refine pm_goto (tgt := 7) hG dX1_prepare_37 rfl ?_
        exact ih7 _ _ (x2_2 + 1) h4 (pm_sd1 c3 s7) (Nat.lt_of_lt_of_le (pm_mu1 c3) (Nat.le_of_lt_succ hm7))
  exact loop7 _ _ _ 0 (gq.wi (k := 111) rfl h) (by decide) (Nat.lt_succ_self _)
