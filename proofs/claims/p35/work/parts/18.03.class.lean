set_option maxRecDepth 100000 in
set_option maxHeartbeats 4000000 in
theorem g_X0_choose_k0 {ε : Nat → Int32} {d B cnt : Nat} {kp : pm_KP} {ρ : pm_S} {I : Nat → Int32} {A : Nat → Nat → Int32} {zb zc zd : Int32} (hdd : 11 ≤ d) (h : gq ε I) : pm_met mX0_choose d 0 0 B [.ref (B + 31), .int 0, .int zb, .int zc, .int zd] cnt (pm_two (cl_L B kp I A) ρ) (pm_Qv (fun σ' cnt' => hvq ε B kp ρ cnt σ' cnt')) := by
  refine pm_enter 1 (by decide) (Nat.le_of_ble_eq_true rfl) rfl (fun G hG hR hF => ?_)
  refine pm_iloadn hG dX0_choose_0 rfl ?_
  refine pm_aloadn hG dX0_choose_1 rfl ?_
  refine pm_getf hG dX0_choose_2 (flX0_115 _ rfl) rfl rfl ?_
  refine pm_icmp_le (tgt := 9) hG dX0_choose_5 rfl (fun c1 => ?_) (fun c1 => ?_)
  · refine pm_aloadn hG dX0_choose_9 rfl ?_
    refine pm_iloadi hG dX0_choose_10 rfl ?_
    refine pm_callV (As := [.int zd]) (rest := []) hG hR dX0_choose_12 (lkX0_125 _ rfl) okV_X0_isCarriedWith rfl rfl (g_X0_isCarriedWith (d := 10) (by decide) h) rfl rfl hdd (Nat.le_refl _) (Nat.le_refl _) (by decide) (pm_ki (fun v2 σ' cnt' hq => ?_))
    obtain ⟨b2, I2, A2, rfl, rfl, h2⟩ := hq
    refine pm_if_eq (tgt := 24) hG dX0_choose_15 rfl (fun c3 => ?_) (fun c3 => ?_)
    · refine pm_iloadn hG dX0_choose_24 rfl ?_
      refine pm_bipush (v := 9) hG dX0_choose_25 (by decide) ?_
      refine pm_icmp_ge (tgt := 105) hG dX0_choose_27 rfl (fun q => absurd q (by decide)) (fun _ => ?_)
      refine pm_aloadn hG dX0_choose_30 rfl ?_
      refine pm_getf hG dX0_choose_31 (flX0_36 _ rfl) rfl rfl ?_
      refine pm_iloadn hG dX0_choose_34 rfl ?_
      refine pm_callV (As := [.int 0]) (rest := []) hG hR dX0_choose_35 (lkX0_131 _ rfl) okV_X9_has rfl rfl (tb_has (d := 10) rfl) rfl rfl hdd (Nat.le_refl _) (Nat.le_refl _) (by decide) (pm_ki (fun v4 σ' cnt' hq => ?_))
      have b4 := pm_b01 hq.1
      obtain ⟨I4, A4, rfl, rfl, h4⟩ := hv_id (kp := kp) (I := I2) (A := A2) h2 hq.2
      refine pm_if_eq (tgt := 105) hG dX0_choose_38 rfl (fun c5 => ?_) (fun c5 => ?_)
      · exact pm_vret hG hF dX0_choose_105 rfl (Nat.le_refl _) (Nat.le_refl _) ⟨rfl, _, _, rfl, rfl, h4⟩
      · refine pm_aloadn hG dX0_choose_41 rfl ?_
        refine pm_getf hG dX0_choose_42 (flX0_36 _ rfl) rfl rfl ?_
        refine pm_iloadn hG dX0_choose_45 rfl ?_
        refine pm_iconst (v := 0) hG dX0_choose_46 (by decide) ?_
        refine pm_callV (As := [.int 0, .int 0]) (rest := []) hG hR dX0_choose_47 (lkX0_39 _ rfl) okV_X9_get rfl rfl (tb_get (d := 10) rfl rfl (pm_tw_of 9 1 (by decide) (by decide) (by decide))) rfl rfl hdd (Nat.le_refl _) (Nat.le_refl _) (by decide) (pm_ki (fun v6 σ' cnt' hq => ?_))
        obtain ⟨I6, A6, rfl, rfl, h6⟩ := hv_id (kp := kp) (I := I4) (A := A4) h4 hq.2
        refine pm_istoreXi (loc' := [some (.ref (B + 31)), some (.int 0), some (.int zb), some (.int zc), some (.int zd), some (.int v6)]) hG dX0_choose_50 (by decide) (pm_c1b rfl) rfl ?_
        refine pm_aloadn hG dX0_choose_52 rfl ?_
        refine pm_iloadn hG dX0_choose_53 rfl ?_
        refine pm_iconst (v := 1) hG dX0_choose_54 (by decide) ?_
        refine pm_iadd hG dX0_choose_55 ?_
        refine pm_top (v := 1) (by decide) ?_
        refine pm_iloadn hG dX0_choose_56 rfl ?_
        refine pm_iloadn hG dX0_choose_57 rfl ?_
        refine pm_iloadi hG dX0_choose_58 rfl ?_
        refine pm_callV (As := [.int 1, .int zb, .int zc, .int zd]) (rest := []) hG hR dX0_choose_60 (lkX0_121 _ rfl) okV_X0_choose rfl rfl (g_X0_choose_k1 (d := 10) (by decide) h6) rfl rfl hdd (Nat.le_refl _) (Nat.le_refl _) (by decide) (pm_kv (fun σ' cnt' hq => ?_))
        obtain ⟨I7, A7, rfl, rfl, h7⟩ := hq
        refine pm_aloadn hG dX0_choose_63 rfl ?_
        refine pm_iloadn hG dX0_choose_64 rfl ?_
        refine pm_iconst (v := 1) hG dX0_choose_65 (by decide) ?_
        refine pm_iadd hG dX0_choose_66 ?_
        refine pm_top (v := 1) (by decide) ?_
        refine pm_iloadn hG dX0_choose_67 rfl ?_
        refine pm_iconst (v := 1) hG dX0_choose_68 (by decide) ?_
        refine pm_iloadi hG dX0_choose_69 rfl ?_
        refine pm_ishl hG dX0_choose_71 ?_
        refine pm_ior hG dX0_choose_72 ?_
        refine pm_iloadn hG dX0_choose_73 rfl ?_
        refine pm_aloadn hG dX0_choose_74 rfl ?_
        refine pm_getf hG dX0_choose_75 (flX0_9 _ rfl) rfl rfl ?_
        refine pm_getf hG dX0_choose_78 (flX0_63 _ rfl) rfl rfl ?_
        refine pm_iloadi hG dX0_choose_81 rfl ?_
        refine pm_bipush (v := 12) hG dX0_choose_83 (by decide) ?_
        refine pm_callV (As := [.int v6, .int 12]) (rest := [.int zc, .int (zb ||| (1 <<< (v6 &&& 31))), .int 1, .ref (B + 31)]) hG hR dX0_choose_85 (lkX0_39 _ rfl) okV_X9_get rfl rfl (tb_get (d := 10) rfl rfl (pm_tw_of 20 14 (by decide) (by decide) (by decide))) rfl rfl hdd (Nat.le_refl _) (Nat.le_refl _) (by first | decide | exact Nat.le_of_ble_eq_true rfl) (pm_ki (fun v8 σ' cnt' hq => ?_))
        obtain ⟨I8, A8, rfl, rfl, h8⟩ := hv_id (kp := kp) (I := I7) (A := A7) h7 hq.2
        refine pm_iadd hG dX0_choose_88 ?_
        refine pm_iloadi hG dX0_choose_89 rfl ?_
        refine pm_aloadn hG dX0_choose_91 rfl ?_
        refine pm_getf hG dX0_choose_92 (flX0_33 _ rfl) rfl rfl ?_
        refine pm_iloadi hG dX0_choose_95 rfl ?_
        refine pm_iconst (v := 0) hG dX0_choose_97 (by decide) ?_
        refine pm_callV (As := [.int v6, .int 0]) (rest := [.int zd, .int (zc + v8), .int (zb ||| (1 <<< (v6 &&& 31))), .int 1, .ref (B + 31)]) hG hR dX0_choose_98 (lkX0_39 _ rfl) okV_X9_get rfl rfl (tb_get (d := 10) rfl rfl (pm_tw_of 20 1 (by decide) (by decide) (by decide))) rfl rfl hdd (Nat.le_refl _) (Nat.le_refl _) (by first | decide | exact Nat.le_of_ble_eq_true rfl) (pm_ki (fun v9 σ' cnt' hq => ?_))
        obtain ⟨I9, A9, rfl, rfl, h9⟩ := hv_id (kp := kp) (I := I8) (A := A8) h8 hq.2
        refine pm_iadd hG dX0_choose_101 ?_
        refine pm_callV (As := [.int 1, .int (zb ||| (1 <<< (v6 &&& 31))), .int (zc + v8), .int (zd + v9)]) (rest := []) hG hR dX0_choose_102 (lkX0_121 _ rfl) okV_X0_choose rfl rfl (g_X0_choose_k1 (d := 10) (by decide) h9) rfl rfl hdd (Nat.le_refl _) (Nat.le_refl _) (by decide) (pm_kv (fun σ' cnt' hq => ?_))
        obtain ⟨I10, A10, rfl, rfl, h10⟩ := hq
        exact pm_vret hG hF dX0_choose_105 rfl (Nat.le_refl _) (Nat.le_refl _) ⟨rfl, _, _, rfl, rfl, h10⟩
    · refine pm_aloadn hG dX0_choose_18 rfl ?_
      refine pm_iloadn hG dX0_choose_19 rfl ?_
      refine pm_iloadn hG dX0_choose_20 rfl ?_
      refine pm_callV (As := [.int zb, .int zc]) (rest := []) hG hR dX0_choose_21 (lkX0_128 _ rfl) okV_X0_keepIfBetter rfl rfl (g_X0_keepIfBetter (d := 10) (by decide) h2) rfl rfl hdd (Nat.le_refl _) (Nat.le_refl _) (by decide) (pm_kv (fun σ' cnt' hq => ?_))
      obtain ⟨I11, A11, rfl, rfl, h11⟩ := hq
      refine pm_iloadn hG dX0_choose_24 rfl ?_
      refine pm_bipush (v := 9) hG dX0_choose_25 (by decide) ?_
      refine pm_icmp_ge (tgt := 105) hG dX0_choose_27 rfl (fun q => absurd q (by decide)) (fun _ => ?_)
      refine pm_aloadn hG dX0_choose_30 rfl ?_
      refine pm_getf hG dX0_choose_31 (flX0_36 _ rfl) rfl rfl ?_
      refine pm_iloadn hG dX0_choose_34 rfl ?_
      refine pm_callV (As := [.int 0]) (rest := []) hG hR dX0_choose_35 (lkX0_131 _ rfl) okV_X9_has rfl rfl (tb_has (d := 10) rfl) rfl rfl hdd (Nat.le_refl _) (Nat.le_refl _) (by decide) (pm_ki (fun v12 σ' cnt' hq => ?_))
      have b12 := pm_b01 hq.1
      obtain ⟨I12, A12, rfl, rfl, h12⟩ := hv_id (kp := kp) (I := I11) (A := A11) h11 hq.2
      refine pm_if_eq (tgt := 105) hG dX0_choose_38 rfl (fun c13 => ?_) (fun c13 => ?_)
      · exact pm_vret hG hF dX0_choose_105 rfl (Nat.le_refl _) (Nat.le_refl _) ⟨rfl, _, _, rfl, rfl, h12⟩
      · refine pm_aloadn hG dX0_choose_41 rfl ?_
        refine pm_getf hG dX0_choose_42 (flX0_36 _ rfl) rfl rfl ?_
        refine pm_iloadn hG dX0_choose_45 rfl ?_
        refine pm_iconst (v := 0) hG dX0_choose_46 (by decide) ?_
        refine pm_callV (As := [.int 0, .int 0]) (rest := []) hG hR dX0_choose_47 (lkX0_39 _ rfl) okV_X9_get rfl rfl (tb_get (d := 10) rfl rfl (pm_tw_of 9 1 (by decide) (by decide) (by decide))) rfl rfl hdd (Nat.le_refl _) (Nat.le_refl _) (by decide) (pm_ki (fun v14 σ' cnt' hq => ?_))
        obtain ⟨I14, A14, rfl, rfl, h14⟩ := hv_id (kp := kp) (I := I12) (A := A12) h12 hq.2
        refine pm_istoreXi (loc' := [some (.ref (B + 31)), some (.int 0), some (.int zb), some (.int zc), some (.int zd), some (.int v14)]) hG dX0_choose_50 (by decide) (pm_c1b rfl) rfl ?_
        refine pm_aloadn hG dX0_choose_52 rfl ?_
        refine pm_iloadn hG dX0_choose_53 rfl ?_
        refine pm_iconst (v := 1) hG dX0_choose_54 (by decide) ?_
        refine pm_iadd hG dX0_choose_55 ?_
        refine pm_top (v := 1) (by decide) ?_
        refine pm_iloadn hG dX0_choose_56 rfl ?_
        refine pm_iloadn hG dX0_choose_57 rfl ?_
        refine pm_iloadi hG dX0_choose_58 rfl ?_
        refine pm_callV (As := [.int 1, .int zb, .int zc, .int zd]) (rest := []) hG hR dX0_choose_60 (lkX0_121 _ rfl) okV_X0_choose rfl rfl (g_X0_choose_k1 (d := 10) (by decide) h14) rfl rfl hdd (Nat.le_refl _) (Nat.le_refl _) (by decide) (pm_kv (fun σ' cnt' hq => ?_))
        obtain ⟨I15, A15, rfl, rfl, h15⟩ := hq
        refine pm_aloadn hG dX0_choose_63 rfl ?_
        refine pm_iloadn hG dX0_choose_64 rfl ?_
        refine pm_iconst (v := 1) hG dX0_choose_65 (by decide) ?_
        refine pm_iadd hG dX0_choose_66 ?_
        refine pm_top (v := 1) (by decide) ?_
        refine pm_iloadn hG dX0_choose_67 rfl ?_
        refine pm_iconst (v := 1) hG dX0_choose_68 (by decide) ?_
        refine pm_iloadi hG dX0_choose_69 rfl ?_
        refine pm_ishl hG dX0_choose_71 ?_
        refine pm_ior hG dX0_choose_72 ?_
        refine pm_iloadn hG dX0_choose_73 rfl ?_
        refine pm_aloadn hG dX0_choose_74 rfl ?_
        refine pm_getf hG dX0_choose_75 (flX0_9 _ rfl) rfl rfl ?_
        refine pm_getf hG dX0_choose_78 (flX0_63 _ rfl) rfl rfl ?_
        refine pm_iloadi hG dX0_choose_81 rfl ?_
        refine pm_bipush (v := 12) hG dX0_choose_83 (by decide) ?_
        refine pm_callV (As := [.int v14, .int 12]) (rest := [.int zc, .int (zb ||| (1 <<< (v14 &&& 31))), .int 1, .ref (B + 31)]) hG hR dX0_choose_85 (lkX0_39 _ rfl) okV_X9_get rfl rfl (tb_get (d := 10) rfl rfl (pm_tw_of 20 14 (by decide) (by decide) (by decide))) rfl rfl hdd (Nat.le_refl _) (Nat.le_refl _) (by first | decide | exact Nat.le_of_ble_eq_true rfl) (pm_ki (fun v16 σ' cnt' hq => ?_))
        obtain ⟨I16, A16, rfl, rfl, h16⟩ := hv_id (kp := kp) (I := I15) (A := A15) h15 hq.2
        refine pm_iadd hG dX0_choose_88 ?_
        refine pm_iloadi hG dX0_choose_89 rfl ?_
        refine pm_aloadn hG dX0_choose_91 rfl ?_
        refine pm_getf hG dX0_choose_92 (flX0_33 _ rfl) rfl rfl ?_
        refine pm_iloadi hG dX0_choose_95 rfl ?_
        refine pm_iconst (v := 0) hG dX0_choose_97 (by decide) ?_
        refine pm_callV (As := [.int v14, .int 0]) (rest := [.int zd, .int (zc + v16), .int (zb ||| (1 <<< (v14 &&& 31))), .int 1, .ref (B + 31)]) hG hR dX0_choose_98 (lkX0_39 _ rfl) okV_X9_get rfl rfl (tb_get (d := 10) rfl rfl (pm_tw_of 20 1 (by decide) (by decide) (by decide))) rfl rfl hdd (Nat.le_refl _) (Nat.le_refl _) (by first | decide | exact Nat.le_of_ble_eq_true rfl) (pm_ki (fun v17 σ' cnt' hq => ?_))
        obtain ⟨I17, A17, rfl, rfl, h17⟩ := hv_id (kp := kp) (I := I16) (A := A16) h16 hq.2
        refine pm_iadd hG dX0_choose_101 ?_
        refine pm_callV (As := [.int 1, .int (zb ||| (1 <<< (v14 &&& 31))), .int (zc + v16), .int (zd + v17)]) (rest := []) hG hR dX0_choose_102 (lkX0_121 _ rfl) okV_X0_choose rfl rfl (g_X0_choose_k1 (d := 10) (by decide) h17) rfl rfl hdd (Nat.le_refl _) (Nat.le_refl _) (by decide) (pm_kv (fun σ' cnt' hq => ?_))
        obtain ⟨I18, A18, rfl, rfl, h18⟩ := hq
        exact pm_vret hG hF dX0_choose_105 rfl (Nat.le_refl _) (Nat.le_refl _) ⟨rfl, _, _, rfl, rfl, h18⟩
  · exact pm_vret hG hF dX0_choose_8 rfl (Nat.le_refl _) (Nat.le_refl _) ⟨rfl, _, _, rfl, rfl, h⟩

set_option maxRecDepth 100000 in
set_option maxHeartbeats 4000000 in
theorem g_X0_findCheapest {ε : Nat → Int32} {d B cnt : Nat} {kp : pm_KP} {ρ : pm_S} {I : Nat → Int32} {A : Nat → Nat → Int32} {za : Int32} (hdd : 12 ≤ d) (h : gq ε I) : pm_met mX0_findCheapest d 0 0 B [.ref (B + 31), .int za] cnt (pm_two (cl_L B kp I A) ρ) (pm_Qi (fun v σ' cnt' => (v = 0 ∨ v = 1) ∧ hvq ε B kp ρ cnt σ' cnt')) := by
  refine pm_enter 0 (by decide) (Nat.le_of_ble_eq_true rfl) rfl (fun G hG hR hF => ?_)
  refine pm_aloadn hG dX0_findCheapest_0 rfl ?_
  refine pm_iloadn hG dX0_findCheapest_1 rfl ?_
  refine pm_callV (As := [.int za]) (rest := []) hG hR dX0_findCheapest_2 (lkX0_110 _ rfl) okV_X0_weigh rfl rfl (g_X0_weigh (d := 11) (by decide) h) rfl rfl hdd (Nat.le_refl _) (Nat.le_refl _) (by decide) (pm_kv (fun σ' cnt' hq => ?_))
  obtain ⟨I1, A1, rfl, rfl, h1⟩ := hq
  refine pm_aloadn hG dX0_findCheapest_5 rfl ?_
  refine pm_ldc hG dX0_findCheapest_6 (ctX0_114 _ rfl) ?_
  refine pm_putf hG dX0_findCheapest_8 (fwX0_115 _ rfl) rfl rfl rfl ?_
  refine pm_nrm (L' := cl_L B kp (ui I1 109 1000000) A1) (by decide) (Nat.le_of_ble_eq_true rfl) rfl ?_
  refine pm_aloadn hG dX0_findCheapest_11 rfl ?_
  refine pm_iconst (v := 0) hG dX0_findCheapest_12 (by decide) ?_
  refine pm_putf hG dX0_findCheapest_13 (fwX0_118 _ rfl) rfl rfl rfl ?_
  refine pm_nrm (L' := cl_L B kp (ui (ui I1 109 1000000) 110 0) A1) (by decide) (Nat.le_of_ble_eq_true rfl) rfl ?_
  refine pm_aloadn hG dX0_findCheapest_16 rfl ?_
  refine pm_iconst (v := 0) hG dX0_findCheapest_17 (by decide) ?_
  refine pm_iconst (v := 0) hG dX0_findCheapest_18 (by decide) ?_
  refine pm_iconst (v := 0) hG dX0_findCheapest_19 (by decide) ?_
  refine pm_iconst (v := 0) hG dX0_findCheapest_20 (by decide) ?_
  refine pm_callV (As := [.int 0, .int 0, .int 0, .int 0]) (rest := []) hG hR dX0_findCheapest_21 (lkX0_121 _ rfl) okV_X0_choose rfl rfl (g_X0_choose_k0 (d := 11) (by decide) (gq.wi (k := 110) rfl (gq.wi (k := 109) rfl h1))) rfl rfl hdd (Nat.le_refl _) (Nat.le_refl _) (by decide) (pm_kv (fun σ' cnt' hq => ?_))
  obtain ⟨I4, A4, rfl, rfl, h4⟩ := hq
  refine pm_aloadn hG dX0_findCheapest_24 rfl ?_
  refine pm_getf hG dX0_findCheapest_25 (flX0_115 _ rfl) rfl rfl ?_
  refine pm_ldc hG dX0_findCheapest_28 (ctX0_114 _ rfl) ?_
  refine pm_icmp_ge (tgt := 37) hG dX0_findCheapest_30 rfl (fun c5 => ?_) (fun c5 => ?_)
  · refine pm_iconst (v := 0) hG dX0_findCheapest_37 (by decide) ?_
    exact pm_zret hG hF dX0_findCheapest_38 rfl (pm_nz (Or.inl rfl)) (Nat.le_refl _) (Nat.le_refl _) ⟨_, rfl, (Or.inl rfl), _, _, rfl, rfl, h4⟩
  · refine pm_iconst (v := 1) hG dX0_findCheapest_33 (by decide) ?_
    refine pm_goto (tgt := 38) hG dX0_findCheapest_34 rfl ?_
    exact pm_zret hG hF dX0_findCheapest_38 rfl (pm_nz (Or.inr rfl)) (Nat.le_refl _) (Nat.le_refl _) ⟨_, rfl, (Or.inr rfl), _, _, rfl, rfl, h4⟩

set_option maxRecDepth 100000 in
set_option maxHeartbeats 4000000 in
theorem g_X0_firstBroken {ε : Nat → Int32} {d B cnt : Nat} {kp : pm_KP} {ρ : pm_S} {I : Nat → Int32} {A : Nat → Nat → Int32} {za : Int32} (hdd : 1 ≤ d) (h : gq ε I) : pm_met mX0_firstBroken d 0 0 B [.ref (B + 31), .int za] cnt (pm_two (cl_L B kp I A) ρ) (pm_Qi (fun _ σ' cnt' => hvq ε B kp ρ cnt σ' cnt')) := by
  refine pm_enter 2 (by decide) (Nat.le_of_ble_eq_true rfl) rfl (fun G hG hR hF => ?_)
  refine pm_aloadn hG dX0_firstBroken_0 rfl ?_
  refine pm_getf hG dX0_firstBroken_1 (flX0_25 _ rfl) rfl rfl ?_
  refine pm_callV (As := []) (rest := []) hG hR dX0_firstBroken_4 (lkX0_47 _ rfl) okV_X9_used rfl rfl (tb_used (d := 0) rfl) rfl rfl hdd (Nat.le_refl _) (Nat.le_refl _) (by decide) (pm_ki (fun v1 σ' cnt' hq => ?_))
  obtain ⟨I1, A1, rfl, rfl, h1⟩ := hv_id (kp := kp) (I := I) (A := A) h hq.2
  refine pm_istoreXn (loc' := [some (.ref (B + 31)), some (.int za), some (.int v1), none]) hG dX0_firstBroken_7 (by decide) (pm_c1b rfl) rfl ?_
  refine pm_iconst (v := 0) hG dX0_firstBroken_8 (by decide) ?_
  refine pm_istoreXn (loc' := [some (.ref (B + 31)), some (.int za), some (.int v1), some (.int 0)]) hG dX0_firstBroken_9 (by decide) (pm_c1b rfl) rfl ?_
  have loop10 : ∀ (m10 : Nat) (I2 : Nat → Int32) (A2 : Nat → Nat → Int32) (x2_3 : Int32), gq ε I2 → (¬ x2_3 < 0) → ((v1 : Int32).toInt - x2_3.toInt).toNat < m10 → pm_wp mX0_firstBroken G B 10 [some (.ref (B + 31)), some (.int za), some (.int v1), some (.int x2_3)] [] 0 0 cnt (pm_two (cl_L B kp I2 A2) ρ) := by
    intro m10
    induction m10 with
    | zero => intro I2 A2 x2_3 _  _ hm; exact absurd hm (Nat.not_lt_zero _)
    | succ m10 ih10 =>
      intro I2 A2 x2_3 h2 s10 hm10
      refine pm_iloadn hG dX0_firstBroken_10 rfl ?_
      refine pm_iloadn hG dX0_firstBroken_11 rfl ?_
      refine pm_icmp_ge (tgt := 62) hG dX0_firstBroken_12 rfl (fun c3 => ?_) (fun c3 => ?_)
      · refine pm_iconst (v := (-1)) hG dX0_firstBroken_62 (by decide) ?_
        exact pm_iret hG hF dX0_firstBroken_63 rfl (Nat.le_refl _) (Nat.le_refl _) ⟨_, rfl, _, _, rfl, rfl, h2⟩
      · refine pm_aloadn hG dX0_firstBroken_15 rfl ?_
        refine pm_getf hG dX0_firstBroken_16 (flX0_25 _ rfl) rfl rfl ?_
        refine pm_iloadn hG dX0_firstBroken_19 rfl ?_
        refine pm_iconst (v := 4) hG dX0_firstBroken_20 (by decide) ?_
        refine pm_callV (As := [.int x2_3, .int 4]) (rest := []) hG hR dX0_firstBroken_21 (lkX0_39 _ rfl) okV_X9_get rfl rfl (tb_get (d := 0) rfl rfl (pm_tw_of 30 5 (by decide) (by decide) (by decide))) rfl rfl hdd (Nat.le_refl _) (Nat.le_refl _) (by decide) (pm_ki (fun v4 σ' cnt' hq => ?_))
        obtain ⟨I4, A4, rfl, rfl, h4⟩ := hv_id (kp := kp) (I := I2) (A := A2) h2 hq.2
        refine pm_iconst (v := 2) hG dX0_firstBroken_24 (by decide) ?_
        refine pm_icmp_ne (tgt := 56) hG dX0_firstBroken_25 rfl (fun c5 => ?_) (fun c5 => ?_)
        · refine pm_iincX (v := x2_3 + 1) (loc' := [some (.ref (B + 31)), some (.int za), some (.int v1), some (.int (x2_3 + 1))]) hG dX0_firstBroken_56 rfl (by rfl) (by decide) (pm_c1b rfl) rfl ?_
          refine pm_goto (tgt := 10) hG dX0_firstBroken_59 rfl ?_
          exact ih10 _ _ (x2_3 + 1) h4 (pm_sd1 c3 s10) (Nat.lt_of_lt_of_le (pm_mu1 c3) (Nat.le_of_lt_succ hm10))
        · refine pm_aloadn hG dX0_firstBroken_28 rfl ?_
          refine pm_getf hG dX0_firstBroken_29 (flX0_25 _ rfl) rfl rfl ?_
          refine pm_iloadn hG dX0_firstBroken_32 rfl ?_
          refine pm_iconst (v := 1) hG dX0_firstBroken_33 (by decide) ?_
          refine pm_callV (As := [.int x2_3, .int 1]) (rest := []) hG hR dX0_firstBroken_34 (lkX0_39 _ rfl) okV_X9_get rfl rfl (tb_get (d := 0) rfl rfl (pm_tw_of 30 5 (by decide) (by decide) (by decide))) rfl rfl hdd (Nat.le_refl _) (Nat.le_refl _) (by decide) (pm_ki (fun v6 σ' cnt' hq => ?_))
          obtain ⟨I6, A6, rfl, rfl, h6⟩ := hv_id (kp := kp) (I := I4) (A := A4) h4 hq.2
          refine pm_iloadn hG dX0_firstBroken_37 rfl ?_
          refine pm_icmp_ne (tgt := 56) hG dX0_firstBroken_38 rfl (fun c7 => ?_) (fun c7 => ?_)
          · refine pm_iincX (v := x2_3 + 1) (loc' := [some (.ref (B + 31)), some (.int za), some (.int v1), some (.int (x2_3 + 1))]) hG dX0_firstBroken_56 rfl (by rfl) (by decide) (pm_c1b rfl) rfl ?_
            refine pm_goto (tgt := 10) hG dX0_firstBroken_59 rfl ?_
            exact ih10 _ _ (x2_3 + 1) h6 (pm_sd1 c3 s10) (Nat.lt_of_lt_of_le (pm_mu1 c3) (Nat.le_of_lt_succ hm10))
          · refine pm_aloadn hG dX0_firstBroken_41 rfl ?_
            refine pm_getf hG dX0_firstBroken_42 (flX0_25 _ rfl) rfl rfl ?_
            refine pm_iloadn hG dX0_firstBroken_45 rfl ?_
            refine pm_iconst (v := 3) hG dX0_firstBroken_46 (by decide) ?_
            refine pm_callV (As := [.int x2_3, .int 3]) (rest := []) hG hR dX0_firstBroken_47 (lkX0_39 _ rfl) okV_X9_get rfl rfl (tb_get (d := 0) rfl rfl (pm_tw_of 30 5 (by decide) (by decide) (by decide))) rfl rfl hdd (Nat.le_refl _) (Nat.le_refl _) (by decide) (pm_ki (fun v8 σ' cnt' hq => ?_))
            obtain ⟨I8, A8, rfl, rfl, h8⟩ := hv_id (kp := kp) (I := I6) (A := A6) h6 hq.2
            refine pm_iconst (v := 1) hG dX0_firstBroken_50 (by decide) ?_
            refine pm_icmp_ne (tgt := 56) hG dX0_firstBroken_51 rfl (fun c9 => ?_) (fun c9 => ?_)
            · refine pm_iincX (v := x2_3 + 1) (loc' := [some (.ref (B + 31)), some (.int za), some (.int v1), some (.int (x2_3 + 1))]) hG dX0_firstBroken_56 rfl (by rfl) (by decide) (pm_c1b rfl) rfl ?_
              refine pm_goto (tgt := 10) hG dX0_firstBroken_59 rfl ?_
              exact ih10 _ _ (x2_3 + 1) h8 (pm_sd1 c3 s10) (Nat.lt_of_lt_of_le (pm_mu1 c3) (Nat.le_of_lt_succ hm10))
            · refine pm_iloadn hG dX0_firstBroken_54 rfl ?_
              exact pm_iret hG hF dX0_firstBroken_55 rfl (Nat.le_refl _) (Nat.le_refl _) ⟨_, rfl, _, _, rfl, rfl, h8⟩
  exact loop10 _ _ _ 0 h1 (by decide) (Nat.lt_succ_self _)

set_option maxRecDepth 100000 in
set_option maxHeartbeats 4000000 in
theorem g_X10_note {ε : Nat → Int32} {d B cnt : Nat} {kp : pm_KP} {ρ : pm_S} {I : Nat → Int32} {A : Nat → Nat → Int32} {za : Int32} (hdd : 1 ≤ d) (h : gq ε I) : pm_met mX10_note d 0 0 B [.ref (B + 46), .int za] cnt (pm_two (cl_L B kp I A) ρ) (pm_Qv (fun σ' cnt' => hvq ε B kp ρ cnt σ' cnt')) := by
  refine pm_enter 0 (by decide) (Nat.le_of_ble_eq_true rfl) rfl (fun G hG hR hF => ?_)
  refine pm_aloadn hG dX10_note_0 rfl ?_
  refine pm_getf hG dX10_note_1 (flX10_15 _ rfl) rfl rfl ?_
  refine pm_if_lt (tgt := 39) hG dX10_note_4 rfl (fun c1 => ?_) (fun c1 => ?_)
  · exact pm_vret hG hF dX10_note_39 rfl (Nat.le_refl _) (Nat.le_refl _) ⟨rfl, _, _, rfl, rfl, h⟩
  · refine pm_aloadn hG dX10_note_7 rfl ?_
    refine pm_getf hG dX10_note_8 (flX10_15 _ rfl) rfl rfl ?_
    refine pm_aloadn hG dX10_note_11 rfl ?_
    refine pm_getf hG dX10_note_12 (flX10_11 _ rfl) rfl rfl ?_
    refine pm_alen (v := 40) hG dX10_note_15 rfl (by decide) ?_
    refine pm_icmp_ge (tgt := 39) hG dX10_note_16 rfl (fun c2 => ?_) (fun c2 => ?_)
    · exact pm_vret hG hF dX10_note_39 rfl (Nat.le_refl _) (Nat.le_refl _) ⟨rfl, _, _, rfl, rfl, h⟩
    · refine pm_aloadn hG dX10_note_19 rfl ?_
      refine pm_getf hG dX10_note_20 (flX10_11 _ rfl) rfl rfl ?_
      refine pm_aloadn hG dX10_note_23 rfl ?_
      refine pm_getf hG dX10_note_24 (flX10_15 _ rfl) rfl rfl ?_
      refine pm_iloadn hG dX10_note_27 rfl ?_
      refine pm_iast hG dX10_note_28 rfl (pm_ib2 rfl c1 c2) ?_
      refine nm_a47 (fun A3 => ?_)
      refine pm_aloadn hG dX10_note_29 rfl ?_
      refine pm_dup hG dX10_note_30 rfl ?_
      refine pm_getf hG dX10_note_31 (flX10_15 _ rfl) rfl rfl ?_
      refine pm_iconst (v := 1) hG dX10_note_34 (by decide) ?_
      refine pm_iadd hG dX10_note_35 ?_
      refine pm_putf hG dX10_note_36 (fwX10_15 _ rfl) rfl rfl rfl ?_
      refine pm_nrm (L' := cl_L B kp (ui I 115 ((I 115) + 1)) A3) (by decide) (Nat.le_of_ble_eq_true rfl) rfl ?_
      exact pm_vret hG hF dX10_note_39 rfl (Nat.le_refl _) (Nat.le_refl _) ⟨rfl, _, _, rfl, rfl, (gq.wi (k := 115) rfl h)⟩

set_option maxRecDepth 100000 in
set_option maxHeartbeats 4000000 in
theorem g_X10_actOf_k0 {ε : Nat → Int32} {d B cnt : Nat} {kp : pm_KP} {ρ : pm_S} {I : Nat → Int32} {A : Nat → Nat → Int32} {zb : Int32} (hdd : 2 ≤ d) (h : gq ε I) : pm_met mX10_actOf d 0 0 B [.ref (B + 46), .int 0, .int zb] cnt (pm_two (cl_L B kp I A) ρ) (pm_Qi (fun _ σ' cnt' => hvq ε B kp ρ cnt σ' cnt')) := by
  refine pm_enter 0 (by decide) (Nat.le_of_ble_eq_true rfl) rfl (fun G hG hR hF => ?_)
  refine pm_iloadn hG dX10_actOf_0 rfl ?_
  refine pm_tswOut (tgt := 68) hG dX10_actOf_1 (by decide) rfl ?_
  refine pm_aloadn hG dX10_actOf_68 rfl ?_
  refine pm_bipush (v := 10) hG dX10_actOf_69 (by decide) ?_
  refine pm_callV (As := [.int 10]) (rest := []) hG hR dX10_actOf_71 (lkX10_41 _ rfl) okV_X10_note rfl rfl (g_X10_note (d := 1) (by decide) h) rfl rfl hdd (Nat.le_refl _) (Nat.le_refl _) (by decide) (pm_kv (fun σ' cnt' hq => ?_))
  obtain ⟨I1, A1, rfl, rfl, h1⟩ := hq
  refine pm_iloadn hG dX10_actOf_74 rfl ?_
  refine pm_aloadn hG dX10_actOf_75 rfl ?_
  refine pm_getf hG dX10_actOf_76 (flX10_25 _ rfl) rfl rfl ?_
  refine pm_iadd hG dX10_actOf_79 ?_
  exact pm_iret hG hF dX10_actOf_80 rfl (Nat.le_refl _) (Nat.le_refl _) ⟨_, rfl, _, _, rfl, rfl, h1⟩

set_option maxRecDepth 100000 in
set_option maxHeartbeats 4000000 in
theorem g_X10_actOf_k3 {ε : Nat → Int32} {d B cnt : Nat} {kp : pm_KP} {ρ : pm_S} {I : Nat → Int32} {A : Nat → Nat → Int32} {zb : Int32} (hdd : 3 ≤ d) (h : gq ε I) : pm_met mX10_actOf d 0 0 B [.ref (B + 46), .int 3, .int zb] cnt (pm_two (cl_L B kp I A) ρ) (pm_Qi (fun _ σ' cnt' => hvq ε B kp ρ cnt σ' cnt')) := by
  refine pm_enter 0 (by decide) (Nat.le_of_ble_eq_true rfl) rfl (fun G hG hR hF => ?_)
  refine pm_iloadn hG dX10_actOf_0 rfl ?_
  refine pm_tswIn (tgt := 50) hG dX10_actOf_1 (by decide) (by decide) rfl rfl ?_
  refine pm_aloadn hG dX10_actOf_50 rfl ?_
  refine pm_bipush (v := 20) hG dX10_actOf_51 (by decide) ?_
  refine pm_callV (As := [.int 20]) (rest := []) hG hR dX10_actOf_53 (lkX10_41 _ rfl) okV_X10_note rfl rfl (g_X10_note (d := 2) (by decide) h) rfl rfl hdd (Nat.le_refl _) (Nat.le_refl _) (by decide) (pm_kv (fun σ' cnt' hq => ?_))
  obtain ⟨I1, A1, rfl, rfl, h1⟩ := hq
  refine pm_aloadn hG dX10_actOf_56 rfl ?_
  refine pm_iconst (v := 0) hG dX10_actOf_57 (by decide) ?_
  refine pm_iloadn hG dX10_actOf_58 rfl ?_
  refine pm_callV (As := [.int 0, .int zb]) (rest := []) hG hR dX10_actOf_59 (lkX10_28 _ rfl) okV_X10_actOf rfl rfl (g_X10_actOf_k0 (d := 2) (by decide) h1) rfl rfl hdd (Nat.le_refl _) (Nat.le_refl _) (by decide) (pm_ki (fun v2 σ' cnt' hq => ?_))
  obtain ⟨I2, A2, rfl, rfl, h2⟩ := hq
  refine pm_aloadn hG dX10_actOf_62 rfl ?_
  refine pm_getf hG dX10_actOf_63 (flX10_22 _ rfl) rfl rfl ?_
  refine pm_iadd hG dX10_actOf_66 ?_
  exact pm_iret hG hF dX10_actOf_67 rfl (Nat.le_refl _) (Nat.le_refl _) ⟨_, rfl, _, _, rfl, rfl, h2⟩

set_option maxRecDepth 100000 in
set_option maxHeartbeats 4000000 in
theorem g_X10_actOf {ε : Nat → Int32} {d B cnt : Nat} {kp : pm_KP} {ρ : pm_S} {I : Nat → Int32} {A : Nat → Nat → Int32} {za zb : Int32} (hdd : 4 ≤ d) (h : gq ε I) : pm_met mX10_actOf d 0 0 B [.ref (B + 46), .int za, .int zb] cnt (pm_two (cl_L B kp I A) ρ) (pm_Qi (fun _ σ' cnt' => hvq ε B kp ρ cnt σ' cnt')) := by
  refine pm_enter 0 (by decide) (Nat.le_of_ble_eq_true rfl) rfl (fun G hG hR hF => ?_)
  refine pm_iloadn hG dX10_actOf_0 rfl ?_
  by_cases c1 : za = 1
  · refine pm_top (v := 1) c1 ?_
    refine pm_tswIn (tgt := 50) hG dX10_actOf_1 (by decide) (by decide) rfl rfl ?_
    refine pm_aloadn hG dX10_actOf_50 rfl ?_
    refine pm_bipush (v := 20) hG dX10_actOf_51 (by decide) ?_
    refine pm_callV (As := [.int 20]) (rest := []) hG hR dX10_actOf_53 (lkX10_41 _ rfl) okV_X10_note rfl rfl (g_X10_note (d := 3) (by decide) h) rfl rfl hdd (Nat.le_refl _) (Nat.le_refl _) (by decide) (pm_kv (fun σ' cnt' hq => ?_))
    obtain ⟨I2, A2, rfl, rfl, h2⟩ := hq
    refine pm_aloadn hG dX10_actOf_56 rfl ?_
    refine pm_iconst (v := 0) hG dX10_actOf_57 (by decide) ?_
    refine pm_iloadn hG dX10_actOf_58 rfl ?_
    refine pm_callV (As := [.int 0, .int zb]) (rest := []) hG hR dX10_actOf_59 (lkX10_28 _ rfl) okV_X10_actOf rfl rfl (g_X10_actOf_k0 (d := 3) (by decide) h2) rfl rfl hdd (Nat.le_refl _) (Nat.le_refl _) (by decide) (pm_ki (fun v3 σ' cnt' hq => ?_))
    obtain ⟨I3, A3, rfl, rfl, h3⟩ := hq
    refine pm_aloadn hG dX10_actOf_62 rfl ?_
    refine pm_getf hG dX10_actOf_63 (flX10_22 _ rfl) rfl rfl ?_
    refine pm_iadd hG dX10_actOf_66 ?_
    exact pm_iret hG hF dX10_actOf_67 rfl (Nat.le_refl _) (Nat.le_refl _) ⟨_, rfl, _, _, rfl, rfl, h3⟩
  by_cases c4 : za = 2
  · refine pm_top (v := 2) c4 ?_
    refine pm_tswIn (tgt := 68) hG dX10_actOf_1 (by decide) (by decide) rfl rfl ?_
    refine pm_aloadn hG dX10_actOf_68 rfl ?_
    refine pm_bipush (v := 10) hG dX10_actOf_69 (by decide) ?_
    refine pm_callV (As := [.int 10]) (rest := []) hG hR dX10_actOf_71 (lkX10_41 _ rfl) okV_X10_note rfl rfl (g_X10_note (d := 3) (by decide) h) rfl rfl hdd (Nat.le_refl _) (Nat.le_refl _) (by decide) (pm_kv (fun σ' cnt' hq => ?_))
    obtain ⟨I5, A5, rfl, rfl, h5⟩ := hq
    refine pm_iloadn hG dX10_actOf_74 rfl ?_
    refine pm_aloadn hG dX10_actOf_75 rfl ?_
    refine pm_getf hG dX10_actOf_76 (flX10_25 _ rfl) rfl rfl ?_
    refine pm_iadd hG dX10_actOf_79 ?_
    exact pm_iret hG hF dX10_actOf_80 rfl (Nat.le_refl _) (Nat.le_refl _) ⟨_, rfl, _, _, rfl, rfl, h5⟩
  by_cases c6 : za = 3
  · refine pm_top (v := 3) c6 ?_
    refine pm_tswIn (tgt := 50) hG dX10_actOf_1 (by decide) (by decide) rfl rfl ?_
    refine pm_aloadn hG dX10_actOf_50 rfl ?_
    refine pm_bipush (v := 20) hG dX10_actOf_51 (by decide) ?_
    refine pm_callV (As := [.int 20]) (rest := []) hG hR dX10_actOf_53 (lkX10_41 _ rfl) okV_X10_note rfl rfl (g_X10_note (d := 3) (by decide) h) rfl rfl hdd (Nat.le_refl _) (Nat.le_refl _) (by decide) (pm_kv (fun σ' cnt' hq => ?_))
    obtain ⟨I7, A7, rfl, rfl, h7⟩ := hq
    refine pm_aloadn hG dX10_actOf_56 rfl ?_
    refine pm_iconst (v := 0) hG dX10_actOf_57 (by decide) ?_
    refine pm_iloadn hG dX10_actOf_58 rfl ?_
    refine pm_callV (As := [.int 0, .int zb]) (rest := []) hG hR dX10_actOf_59 (lkX10_28 _ rfl) okV_X10_actOf rfl rfl (g_X10_actOf_k0 (d := 3) (by decide) h7) rfl rfl hdd (Nat.le_refl _) (Nat.le_refl _) (by decide) (pm_ki (fun v8 σ' cnt' hq => ?_))
    obtain ⟨I8, A8, rfl, rfl, h8⟩ := hq
    refine pm_aloadn hG dX10_actOf_62 rfl ?_
    refine pm_getf hG dX10_actOf_63 (flX10_22 _ rfl) rfl rfl ?_
    refine pm_iadd hG dX10_actOf_66 ?_
    exact pm_iret hG hF dX10_actOf_67 rfl (Nat.le_refl _) (Nat.le_refl _) ⟨_, rfl, _, _, rfl, rfl, h8⟩
  by_cases c9 : za = 4
  · refine pm_top (v := 4) c9 ?_
    refine pm_tswIn (tgt := 32) hG dX10_actOf_1 (by decide) (by decide) rfl rfl ?_
    refine pm_aloadn hG dX10_actOf_32 rfl ?_
    refine pm_bipush (v := 50) hG dX10_actOf_33 (by decide) ?_
    refine pm_callV (As := [.int 50]) (rest := []) hG hR dX10_actOf_35 (lkX10_41 _ rfl) okV_X10_note rfl rfl (g_X10_note (d := 3) (by decide) h) rfl rfl hdd (Nat.le_refl _) (Nat.le_refl _) (by decide) (pm_kv (fun σ' cnt' hq => ?_))
    obtain ⟨I10, A10, rfl, rfl, h10⟩ := hq
    refine pm_aloadn hG dX10_actOf_38 rfl ?_
    refine pm_iconst (v := 3) hG dX10_actOf_39 (by decide) ?_
    refine pm_iloadn hG dX10_actOf_40 rfl ?_
    refine pm_aloadn hG dX10_actOf_41 rfl ?_
    refine pm_getf hG dX10_actOf_42 (flX10_25 _ rfl) rfl rfl ?_
    refine pm_isub hG dX10_actOf_45 ?_
    refine pm_callV (As := [.int 3, .int (zb - (I10 118))]) (rest := []) hG hR dX10_actOf_46 (lkX10_28 _ rfl) okV_X10_actOf rfl rfl (g_X10_actOf_k3 (d := 3) (by decide) h10) rfl rfl hdd (Nat.le_refl _) (Nat.le_refl _) (by decide) (pm_ki (fun v11 σ' cnt' hq => ?_))
    obtain ⟨I11, A11, rfl, rfl, h11⟩ := hq
    exact pm_iret hG hF dX10_actOf_49 rfl (Nat.le_refl _) (Nat.le_refl _) ⟨_, rfl, _, _, rfl, rfl, h11⟩
  have tc1 : ¬ za.toInt = 1 := fun q => c1 (Int32.toInt_inj.mp q)
  have tc4 : ¬ za.toInt = 2 := fun q => c4 (Int32.toInt_inj.mp q)
  have tc6 : ¬ za.toInt = 3 := fun q => c6 (Int32.toInt_inj.mp q)
  have tc9 : ¬ za.toInt = 4 := fun q => c9 (Int32.toInt_inj.mp q)
  refine pm_tswOut (tgt := 68) hG dX10_actOf_1 (by omega) rfl ?_
  refine pm_aloadn hG dX10_actOf_68 rfl ?_
  refine pm_bipush (v := 10) hG dX10_actOf_69 (by decide) ?_
  refine pm_callV (As := [.int 10]) (rest := []) hG hR dX10_actOf_71 (lkX10_41 _ rfl) okV_X10_note rfl rfl (g_X10_note (d := 3) (by decide) h) rfl rfl hdd (Nat.le_refl _) (Nat.le_refl _) (by decide) (pm_kv (fun σ' cnt' hq => ?_))
  obtain ⟨I12, A12, rfl, rfl, h12⟩ := hq
  refine pm_iloadn hG dX10_actOf_74 rfl ?_
  refine pm_aloadn hG dX10_actOf_75 rfl ?_
  refine pm_getf hG dX10_actOf_76 (flX10_25 _ rfl) rfl rfl ?_
  refine pm_iadd hG dX10_actOf_79 ?_
  exact pm_iret hG hF dX10_actOf_80 rfl (Nat.le_refl _) (Nat.le_refl _) ⟨_, rfl, _, _, rfl, rfl, h12⟩

set_option maxRecDepth 100000 in
set_option maxHeartbeats 4000000 in
theorem g_X10_begin {ε : Nat → Int32} {d B cnt : Nat} {kp : pm_KP} {ρ : pm_S} {I : Nat → Int32} {A : Nat → Nat → Int32} {za zb zc : Int32} (hdd : 1 ≤ d) (h : gq ε I) : pm_met mX10_begin d 0 0 B [.ref (B + 46), .int za, .int zb, .int zc] cnt (pm_two (cl_L B kp I A) ρ) (pm_Qv (fun σ' cnt' => hvq ε B kp ρ cnt σ' cnt')) := by
  refine pm_enter 0 (by decide) (Nat.le_of_ble_eq_true rfl) rfl (fun G hG hR hF => ?_)
  refine pm_aloadn hG dX10_begin_0 rfl ?_
  refine pm_iconst (v := 0) hG dX10_begin_1 (by decide) ?_
  refine pm_putf hG dX10_begin_2 (fwX10_15 _ rfl) rfl rfl rfl ?_
  refine pm_nrm (L' := cl_L B kp (ui I 115 0) A) (by decide) (Nat.le_of_ble_eq_true rfl) rfl ?_
  refine pm_aloadn hG dX10_begin_5 rfl ?_
  refine pm_iloadn hG dX10_begin_6 rfl ?_
  refine pm_putf hG dX10_begin_7 (fwX10_19 _ rfl) rfl rfl rfl ?_
  refine pm_nrm (L' := cl_L B kp (ui (ui I 115 0) 116 za) A) (by decide) (Nat.le_of_ble_eq_true rfl) rfl ?_
  refine pm_aloadn hG dX10_begin_10 rfl ?_
  refine pm_iloadn hG dX10_begin_11 rfl ?_
  refine pm_putf hG dX10_begin_12 (fwX10_22 _ rfl) rfl rfl rfl ?_
  refine pm_nrm (L' := cl_L B kp (ui (ui (ui I 115 0) 116 za) 117 zb) A) (by decide) (Nat.le_of_ble_eq_true rfl) rfl ?_
  refine pm_aloadn hG dX10_begin_15 rfl ?_
  refine pm_iloadn hG dX10_begin_16 rfl ?_
  refine pm_putf hG dX10_begin_17 (fwX10_25 _ rfl) rfl rfl rfl ?_
  refine pm_nrm (L' := cl_L B kp (ui (ui (ui (ui I 115 0) 116 za) 117 zb) 118 zc) A) (by decide) (Nat.le_of_ble_eq_true rfl) rfl ?_
  exact pm_vret hG hF dX10_begin_20 rfl (Nat.le_refl _) (Nat.le_refl _) ⟨rfl, _, _, rfl, rfl, (gq.wi (k := 118) rfl (gq.wi (k := 117) rfl (gq.wi (k := 116) rfl (gq.wi (k := 115) rfl h))))⟩

set_option maxRecDepth 100000 in
set_option maxHeartbeats 4000000 in
theorem g_X10_bindOf_k1 {ε : Nat → Int32} {d B cnt : Nat} {kp : pm_KP} {ρ : pm_S} {I : Nat → Int32} {A : Nat → Nat → Int32} {zb : Int32} (hdd : 5 ≤ d) (h : gq ε I) : pm_met mX10_bindOf d 0 0 B [.ref (B + 46), .int 1, .int zb] cnt (pm_two (cl_L B kp I A) ρ) (pm_Qi (fun _ σ' cnt' => hvq ε B kp ρ cnt σ' cnt')) := by
  refine pm_enter 0 (by decide) (Nat.le_of_ble_eq_true rfl) rfl (fun G hG hR hF => ?_)
  refine pm_iloadn hG dX10_bindOf_0 rfl ?_
  refine pm_tswOut (tgt := 69) hG dX10_bindOf_1 (by decide) rfl ?_
  refine pm_aloadn hG dX10_bindOf_69 rfl ?_
  refine pm_bipush (v := 11) hG dX10_bindOf_70 (by decide) ?_
  refine pm_callV (As := [.int 11]) (rest := []) hG hR dX10_bindOf_72 (lkX10_41 _ rfl) okV_X10_note rfl rfl (g_X10_note (d := 4) (by decide) h) rfl rfl hdd (Nat.le_refl _) (Nat.le_refl _) (by decide) (pm_kv (fun σ' cnt' hq => ?_))
  obtain ⟨I1, A1, rfl, rfl, h1⟩ := hq
  refine pm_aloadn hG dX10_bindOf_75 rfl ?_
  refine pm_aloadn hG dX10_bindOf_76 rfl ?_
  refine pm_getf hG dX10_bindOf_77 (flX10_19 _ rfl) rfl rfl ?_
  refine pm_iloadn hG dX10_bindOf_80 rfl ?_
  refine pm_callV (As := [.int (I1 116), .int zb]) (rest := []) hG hR dX10_bindOf_81 (lkX10_28 _ rfl) okV_X10_actOf rfl rfl (g_X10_actOf (d := 4) (by decide) h1) rfl rfl hdd (Nat.le_refl _) (Nat.le_refl _) (by decide) (pm_ki (fun v2 σ' cnt' hq => ?_))
  obtain ⟨I2, A2, rfl, rfl, h2⟩ := hq
  refine pm_iconst (v := 2) hG dX10_bindOf_84 (by decide) ?_
  refine pm_imul hG dX10_bindOf_85 ?_
  exact pm_iret hG hF dX10_bindOf_86 rfl (Nat.le_refl _) (Nat.le_refl _) ⟨_, rfl, _, _, rfl, rfl, h2⟩

set_option maxRecDepth 100000 in
set_option maxHeartbeats 4000000 in
theorem g_X10_bindOf_k0 {ε : Nat → Int32} {d B cnt : Nat} {kp : pm_KP} {ρ : pm_S} {I : Nat → Int32} {A : Nat → Nat → Int32} {zb : Int32} (hdd : 5 ≤ d) (h : gq ε I) : pm_met mX10_bindOf d 0 0 B [.ref (B + 46), .int 0, .int zb] cnt (pm_two (cl_L B kp I A) ρ) (pm_Qi (fun _ σ' cnt' => hvq ε B kp ρ cnt σ' cnt')) := by
  refine pm_enter 0 (by decide) (Nat.le_of_ble_eq_true rfl) rfl (fun G hG hR hF => ?_)
  refine pm_iloadn hG dX10_bindOf_0 rfl ?_
  refine pm_tswOut (tgt := 69) hG dX10_bindOf_1 (by decide) rfl ?_
  refine pm_aloadn hG dX10_bindOf_69 rfl ?_
  refine pm_bipush (v := 11) hG dX10_bindOf_70 (by decide) ?_
  refine pm_callV (As := [.int 11]) (rest := []) hG hR dX10_bindOf_72 (lkX10_41 _ rfl) okV_X10_note rfl rfl (g_X10_note (d := 4) (by decide) h) rfl rfl hdd (Nat.le_refl _) (Nat.le_refl _) (by decide) (pm_kv (fun σ' cnt' hq => ?_))
  obtain ⟨I1, A1, rfl, rfl, h1⟩ := hq
  refine pm_aloadn hG dX10_bindOf_75 rfl ?_
  refine pm_aloadn hG dX10_bindOf_76 rfl ?_
  refine pm_getf hG dX10_bindOf_77 (flX10_19 _ rfl) rfl rfl ?_
  refine pm_iloadn hG dX10_bindOf_80 rfl ?_
  refine pm_callV (As := [.int (I1 116), .int zb]) (rest := []) hG hR dX10_bindOf_81 (lkX10_28 _ rfl) okV_X10_actOf rfl rfl (g_X10_actOf (d := 4) (by decide) h1) rfl rfl hdd (Nat.le_refl _) (Nat.le_refl _) (by decide) (pm_ki (fun v2 σ' cnt' hq => ?_))
  obtain ⟨I2, A2, rfl, rfl, h2⟩ := hq
  refine pm_iconst (v := 2) hG dX10_bindOf_84 (by decide) ?_
  refine pm_imul hG dX10_bindOf_85 ?_
  exact pm_iret hG hF dX10_bindOf_86 rfl (Nat.le_refl _) (Nat.le_refl _) ⟨_, rfl, _, _, rfl, rfl, h2⟩

set_option maxRecDepth 100000 in
set_option maxHeartbeats 4000000 in
theorem g_X10_bindOf {ε : Nat → Int32} {d B cnt : Nat} {kp : pm_KP} {ρ : pm_S} {I : Nat → Int32} {A : Nat → Nat → Int32} {za zb : Int32} (hdd : 6 ≤ d) (h : gq ε I) : pm_met mX10_bindOf d 0 0 B [.ref (B + 46), .int za, .int zb] cnt (pm_two (cl_L B kp I A) ρ) (pm_Qi (fun _ σ' cnt' => hvq ε B kp ρ cnt σ' cnt')) := by
  refine pm_enter 0 (by decide) (Nat.le_of_ble_eq_true rfl) rfl (fun G hG hR hF => ?_)
  refine pm_iloadn hG dX10_bindOf_0 rfl ?_
  by_cases c1 : za = 3
  · refine pm_top (v := 3) c1 ?_
    refine pm_tswIn (tgt := 28) hG dX10_bindOf_1 (by decide) (by decide) rfl rfl ?_
    refine pm_aloadn hG dX10_bindOf_28 rfl ?_
    refine pm_bipush (v := 40) hG dX10_bindOf_29 (by decide) ?_
    refine pm_callV (As := [.int 40]) (rest := []) hG hR dX10_bindOf_31 (lkX10_41 _ rfl) okV_X10_note rfl rfl (g_X10_note (d := 5) (by decide) h) rfl rfl hdd (Nat.le_refl _) (Nat.le_refl _) (by decide) (pm_kv (fun σ' cnt' hq => ?_))
    obtain ⟨I2, A2, rfl, rfl, h2⟩ := hq
    refine pm_aloadn hG dX10_bindOf_34 rfl ?_
    refine pm_iconst (v := 1) hG dX10_bindOf_35 (by decide) ?_
    refine pm_iloadn hG dX10_bindOf_36 rfl ?_
    refine pm_callV (As := [.int 1, .int zb]) (rest := []) hG hR dX10_bindOf_37 (lkX10_32 _ rfl) okV_X10_bindOf rfl rfl (g_X10_bindOf_k1 (d := 5) (by decide) h2) rfl rfl hdd (Nat.le_refl _) (Nat.le_refl _) (by decide) (pm_ki (fun v3 σ' cnt' hq => ?_))
    obtain ⟨I3, A3, rfl, rfl, h3⟩ := hq
    refine pm_aloadn hG dX10_bindOf_40 rfl ?_
    refine pm_aloadn hG dX10_bindOf_41 rfl ?_
    refine pm_getf hG dX10_bindOf_42 (flX10_19 _ rfl) rfl rfl ?_
    refine pm_iloadn hG dX10_bindOf_45 rfl ?_
    refine pm_callV (As := [.int (I3 116), .int zb]) (rest := [.int v3]) hG hR dX10_bindOf_46 (lkX10_28 _ rfl) okV_X10_actOf rfl rfl (g_X10_actOf (d := 5) (by decide) h3) rfl rfl hdd (Nat.le_refl _) (Nat.le_refl _) (by first | decide | exact Nat.le_of_ble_eq_true rfl) (pm_ki (fun v4 σ' cnt' hq => ?_))
    obtain ⟨I4, A4, rfl, rfl, h4⟩ := hq
    refine pm_isub hG dX10_bindOf_49 ?_
    exact pm_iret hG hF dX10_bindOf_50 rfl (Nat.le_refl _) (Nat.le_refl _) ⟨_, rfl, _, _, rfl, rfl, h4⟩
  by_cases c5 : za = 4
  · refine pm_top (v := 4) c5 ?_
    refine pm_tswIn (tgt := 28) hG dX10_bindOf_1 (by decide) (by decide) rfl rfl ?_
    refine pm_aloadn hG dX10_bindOf_28 rfl ?_
    refine pm_bipush (v := 40) hG dX10_bindOf_29 (by decide) ?_
    refine pm_callV (As := [.int 40]) (rest := []) hG hR dX10_bindOf_31 (lkX10_41 _ rfl) okV_X10_note rfl rfl (g_X10_note (d := 5) (by decide) h) rfl rfl hdd (Nat.le_refl _) (Nat.le_refl _) (by decide) (pm_kv (fun σ' cnt' hq => ?_))
    obtain ⟨I6, A6, rfl, rfl, h6⟩ := hq
    refine pm_aloadn hG dX10_bindOf_34 rfl ?_
    refine pm_iconst (v := 1) hG dX10_bindOf_35 (by decide) ?_
    refine pm_iloadn hG dX10_bindOf_36 rfl ?_
    refine pm_callV (As := [.int 1, .int zb]) (rest := []) hG hR dX10_bindOf_37 (lkX10_32 _ rfl) okV_X10_bindOf rfl rfl (g_X10_bindOf_k1 (d := 5) (by decide) h6) rfl rfl hdd (Nat.le_refl _) (Nat.le_refl _) (by decide) (pm_ki (fun v7 σ' cnt' hq => ?_))
    obtain ⟨I7, A7, rfl, rfl, h7⟩ := hq
    refine pm_aloadn hG dX10_bindOf_40 rfl ?_
    refine pm_aloadn hG dX10_bindOf_41 rfl ?_
    refine pm_getf hG dX10_bindOf_42 (flX10_19 _ rfl) rfl rfl ?_
    refine pm_iloadn hG dX10_bindOf_45 rfl ?_
    refine pm_callV (As := [.int (I7 116), .int zb]) (rest := [.int v7]) hG hR dX10_bindOf_46 (lkX10_28 _ rfl) okV_X10_actOf rfl rfl (g_X10_actOf (d := 5) (by decide) h7) rfl rfl hdd (Nat.le_refl _) (Nat.le_refl _) (by first | decide | exact Nat.le_of_ble_eq_true rfl) (pm_ki (fun v8 σ' cnt' hq => ?_))
    obtain ⟨I8, A8, rfl, rfl, h8⟩ := hq
    refine pm_isub hG dX10_bindOf_49 ?_
    exact pm_iret hG hF dX10_bindOf_50 rfl (Nat.le_refl _) (Nat.le_refl _) ⟨_, rfl, _, _, rfl, rfl, h8⟩
  by_cases c9 : za = 5
  · refine pm_top (v := 5) c9 ?_
    refine pm_tswIn (tgt := 51) hG dX10_bindOf_1 (by decide) (by decide) rfl rfl ?_
    refine pm_aloadn hG dX10_bindOf_51 rfl ?_
    refine pm_bipush (v := 60) hG dX10_bindOf_52 (by decide) ?_
    refine pm_callV (As := [.int 60]) (rest := []) hG hR dX10_bindOf_54 (lkX10_41 _ rfl) okV_X10_note rfl rfl (g_X10_note (d := 5) (by decide) h) rfl rfl hdd (Nat.le_refl _) (Nat.le_refl _) (by decide) (pm_kv (fun σ' cnt' hq => ?_))
    obtain ⟨I10, A10, rfl, rfl, h10⟩ := hq
    refine pm_aloadn hG dX10_bindOf_57 rfl ?_
    refine pm_iconst (v := 0) hG dX10_bindOf_58 (by decide) ?_
    refine pm_iloadn hG dX10_bindOf_59 rfl ?_
    refine pm_callV (As := [.int 0, .int zb]) (rest := []) hG hR dX10_bindOf_60 (lkX10_32 _ rfl) okV_X10_bindOf rfl rfl (g_X10_bindOf_k0 (d := 5) (by decide) h10) rfl rfl hdd (Nat.le_refl _) (Nat.le_refl _) (by decide) (pm_ki (fun v11 σ' cnt' hq => ?_))
    obtain ⟨I11, A11, rfl, rfl, h11⟩ := hq
    refine pm_aloadn hG dX10_bindOf_63 rfl ?_
    refine pm_getf hG dX10_bindOf_64 (flX10_25 _ rfl) rfl rfl ?_
    refine pm_iadd hG dX10_bindOf_67 ?_
    exact pm_iret hG hF dX10_bindOf_68 rfl (Nat.le_refl _) (Nat.le_refl _) ⟨_, rfl, _, _, rfl, rfl, h11⟩
  have tc1 : ¬ za.toInt = 3 := fun q => c1 (Int32.toInt_inj.mp q)
  have tc5 : ¬ za.toInt = 4 := fun q => c5 (Int32.toInt_inj.mp q)
  have tc9 : ¬ za.toInt = 5 := fun q => c9 (Int32.toInt_inj.mp q)
  refine pm_tswOut (tgt := 69) hG dX10_bindOf_1 (by omega) rfl ?_
  refine pm_aloadn hG dX10_bindOf_69 rfl ?_
  refine pm_bipush (v := 11) hG dX10_bindOf_70 (by decide) ?_
  refine pm_callV (As := [.int 11]) (rest := []) hG hR dX10_bindOf_72 (lkX10_41 _ rfl) okV_X10_note rfl rfl (g_X10_note (d := 5) (by decide) h) rfl rfl hdd (Nat.le_refl _) (Nat.le_refl _) (by decide) (pm_kv (fun σ' cnt' hq => ?_))
  obtain ⟨I12, A12, rfl, rfl, h12⟩ := hq
  refine pm_aloadn hG dX10_bindOf_75 rfl ?_
  refine pm_aloadn hG dX10_bindOf_76 rfl ?_
  refine pm_getf hG dX10_bindOf_77 (flX10_19 _ rfl) rfl rfl ?_
  refine pm_iloadn hG dX10_bindOf_80 rfl ?_
  refine pm_callV (As := [.int (I12 116), .int zb]) (rest := []) hG hR dX10_bindOf_81 (lkX10_28 _ rfl) okV_X10_actOf rfl rfl (g_X10_actOf (d := 5) (by decide) h12) rfl rfl hdd (Nat.le_refl _) (Nat.le_refl _) (by decide) (pm_ki (fun v13 σ' cnt' hq => ?_))
  obtain ⟨I13, A13, rfl, rfl, h13⟩ := hq
  refine pm_iconst (v := 2) hG dX10_bindOf_84 (by decide) ?_
  refine pm_imul hG dX10_bindOf_85 ?_
  exact pm_iret hG hF dX10_bindOf_86 rfl (Nat.le_refl _) (Nat.le_refl _) ⟨_, rfl, _, _, rfl, rfl, h13⟩

set_option maxRecDepth 100000 in
set_option maxHeartbeats 4000000 in
theorem g_X10_bodyAt {ε : Nat → Int32} {d B cnt : Nat} {kp : pm_KP} {ρ : pm_S} {I : Nat → Int32} {A : Nat → Nat → Int32} {za : Int32} (hdd : 1 ≤ d) (h : gq ε I) : pm_met mX10_bodyAt d 0 0 B [.ref (B + 46), .int za] cnt (pm_two (cl_L B kp I A) ρ) (pm_Qi (fun _ σ' cnt' => hvq ε B kp ρ cnt σ' cnt')) := by
  refine pm_enter 0 (by decide) (Nat.le_of_ble_eq_true rfl) rfl (fun G hG hR hF => ?_)
  refine pm_iloadn hG dX10_bodyAt_0 rfl ?_
  refine pm_if_lt (tgt := 30) hG dX10_bodyAt_1 rfl (fun c1 => ?_) (fun c1 => ?_)
  · refine pm_iconst (v := 0) hG dX10_bodyAt_30 (by decide) ?_
    exact pm_iret hG hF dX10_bodyAt_31 rfl (Nat.le_refl _) (Nat.le_refl _) ⟨_, rfl, _, _, rfl, rfl, h⟩
  · refine pm_iloadn hG dX10_bodyAt_4 rfl ?_
    refine pm_aloadn hG dX10_bodyAt_5 rfl ?_
    refine pm_getf hG dX10_bodyAt_6 (flX10_15 _ rfl) rfl rfl ?_
    refine pm_icmp_ge (tgt := 30) hG dX10_bodyAt_9 rfl (fun c2 => ?_) (fun c2 => ?_)
    · refine pm_iconst (v := 0) hG dX10_bodyAt_30 (by decide) ?_
      exact pm_iret hG hF dX10_bodyAt_31 rfl (Nat.le_refl _) (Nat.le_refl _) ⟨_, rfl, _, _, rfl, rfl, h⟩
    · refine pm_iloadn hG dX10_bodyAt_12 rfl ?_
      refine pm_aloadn hG dX10_bodyAt_13 rfl ?_
      refine pm_getf hG dX10_bodyAt_14 (flX10_11 _ rfl) rfl rfl ?_
      refine pm_alen (v := 40) hG dX10_bodyAt_17 rfl (by decide) ?_
      refine pm_icmp_ge (tgt := 30) hG dX10_bodyAt_18 rfl (fun c3 => ?_) (fun c3 => ?_)
      · refine pm_iconst (v := 0) hG dX10_bodyAt_30 (by decide) ?_
        exact pm_iret hG hF dX10_bodyAt_31 rfl (Nat.le_refl _) (Nat.le_refl _) ⟨_, rfl, _, _, rfl, rfl, h⟩
      · refine pm_aloadn hG dX10_bodyAt_21 rfl ?_
        refine pm_getf hG dX10_bodyAt_22 (flX10_11 _ rfl) rfl rfl ?_
        refine pm_iloadn hG dX10_bodyAt_25 rfl ?_
        refine pm_iald hG dX10_bodyAt_26 rfl (pm_ib2 rfl c1 c3) ?_
        refine pm_goto (tgt := 31) hG dX10_bodyAt_27 rfl ?_
        exact pm_iret hG hF dX10_bodyAt_31 rfl (Nat.le_refl _) (Nat.le_refl _) ⟨_, rfl, _, _, rfl, rfl, h⟩

set_option maxRecDepth 100000 in
set_option maxHeartbeats 4000000 in
theorem g_X10_rankOf_k0 {ε : Nat → Int32} {d B cnt : Nat} {kp : pm_KP} {ρ : pm_S} {I : Nat → Int32} {A : Nat → Nat → Int32} {zb : Int32} (hdd : 2 ≤ d) (h : gq ε I) : pm_met mX10_rankOf d 0 0 B [.ref (B + 46), .int 0, .int zb] cnt (pm_two (cl_L B kp I A) ρ) (pm_Qi (fun _ σ' cnt' => hvq ε B kp ρ cnt σ' cnt')) := by
  refine pm_enter 0 (by decide) (Nat.le_of_ble_eq_true rfl) rfl (fun G hG hR hF => ?_)
  refine pm_iloadn hG dX10_rankOf_0 rfl ?_
  refine pm_iconst (v := 2) hG dX10_rankOf_1 (by decide) ?_
  refine pm_icmp_ne (tgt := 20) hG dX10_rankOf_2 rfl (fun _ => ?_) (fun q => absurd q (by decide))
  refine pm_aloadn hG dX10_rankOf_20 rfl ?_
  refine pm_bipush (v := 12) hG dX10_rankOf_21 (by decide) ?_
  refine pm_callV (As := [.int 12]) (rest := []) hG hR dX10_rankOf_23 (lkX10_41 _ rfl) okV_X10_note rfl rfl (g_X10_note (d := 1) (by decide) h) rfl rfl hdd (Nat.le_refl _) (Nat.le_refl _) (by decide) (pm_kv (fun σ' cnt' hq => ?_))
  obtain ⟨I1, A1, rfl, rfl, h1⟩ := hq
  refine pm_iloadn hG dX10_rankOf_26 rfl ?_
  refine pm_aloadn hG dX10_rankOf_27 rfl ?_
  refine pm_getf hG dX10_rankOf_28 (flX10_22 _ rfl) rfl rfl ?_
  refine pm_isub hG dX10_rankOf_31 ?_
  exact pm_iret hG hF dX10_rankOf_32 rfl (Nat.le_refl _) (Nat.le_refl _) ⟨_, rfl, _, _, rfl, rfl, h1⟩

set_option maxRecDepth 100000 in
set_option maxHeartbeats 4000000 in
theorem g_X10_rankOf {ε : Nat → Int32} {d B cnt : Nat} {kp : pm_KP} {ρ : pm_S} {I : Nat → Int32} {A : Nat → Nat → Int32} {za zb : Int32} (hdd : 3 ≤ d) (h : gq ε I) : pm_met mX10_rankOf d 0 0 B [.ref (B + 46), .int za, .int zb] cnt (pm_two (cl_L B kp I A) ρ) (pm_Qi (fun _ σ' cnt' => hvq ε B kp ρ cnt σ' cnt')) := by
  refine pm_enter 0 (by decide) (Nat.le_of_ble_eq_true rfl) rfl (fun G hG hR hF => ?_)
  refine pm_iloadn hG dX10_rankOf_0 rfl ?_
  refine pm_iconst (v := 2) hG dX10_rankOf_1 (by decide) ?_
  refine pm_icmp_ne (tgt := 20) hG dX10_rankOf_2 rfl (fun c1 => ?_) (fun c1 => ?_)
  · refine pm_aloadn hG dX10_rankOf_20 rfl ?_
    refine pm_bipush (v := 12) hG dX10_rankOf_21 (by decide) ?_
    refine pm_callV (As := [.int 12]) (rest := []) hG hR dX10_rankOf_23 (lkX10_41 _ rfl) okV_X10_note rfl rfl (g_X10_note (d := 2) (by decide) h) rfl rfl hdd (Nat.le_refl _) (Nat.le_refl _) (by decide) (pm_kv (fun σ' cnt' hq => ?_))
    obtain ⟨I2, A2, rfl, rfl, h2⟩ := hq
    refine pm_iloadn hG dX10_rankOf_26 rfl ?_
    refine pm_aloadn hG dX10_rankOf_27 rfl ?_
    refine pm_getf hG dX10_rankOf_28 (flX10_22 _ rfl) rfl rfl ?_
    refine pm_isub hG dX10_rankOf_31 ?_
    exact pm_iret hG hF dX10_rankOf_32 rfl (Nat.le_refl _) (Nat.le_refl _) ⟨_, rfl, _, _, rfl, rfl, h2⟩
  · refine pm_aloadn hG dX10_rankOf_5 rfl ?_
    refine pm_bipush (v := 30) hG dX10_rankOf_6 (by decide) ?_
    refine pm_callV (As := [.int 30]) (rest := []) hG hR dX10_rankOf_8 (lkX10_41 _ rfl) okV_X10_note rfl rfl (g_X10_note (d := 2) (by decide) h) rfl rfl hdd (Nat.le_refl _) (Nat.le_refl _) (by decide) (pm_kv (fun σ' cnt' hq => ?_))
    obtain ⟨I3, A3, rfl, rfl, h3⟩ := hq
    refine pm_aloadn hG dX10_rankOf_11 rfl ?_
    refine pm_iconst (v := 0) hG dX10_rankOf_12 (by decide) ?_
    refine pm_iloadn hG dX10_rankOf_13 rfl ?_
    refine pm_callV (As := [.int 0, .int zb]) (rest := []) hG hR dX10_rankOf_14 (lkX10_35 _ rfl) okV_X10_rankOf rfl rfl (g_X10_rankOf_k0 (d := 2) (by decide) h3) rfl rfl hdd (Nat.le_refl _) (Nat.le_refl _) (by decide) (pm_ki (fun v4 σ' cnt' hq => ?_))
    obtain ⟨I4, A4, rfl, rfl, h4⟩ := hq
    refine pm_iconst (v := 3) hG dX10_rankOf_17 (by decide) ?_
    refine pm_imul hG dX10_rankOf_18 ?_
    exact pm_iret hG hF dX10_rankOf_19 rfl (Nat.le_refl _) (Nat.le_refl _) ⟨_, rfl, _, _, rfl, rfl, h4⟩

set_option maxRecDepth 100000 in
set_option maxHeartbeats 4000000 in
theorem g_X10_tellOf_k0 {ε : Nat → Int32} {d B cnt : Nat} {kp : pm_KP} {ρ : pm_S} {I : Nat → Int32} {A : Nat → Nat → Int32} {zb : Int32} (hdd : 7 ≤ d) (h : gq ε I) : pm_met mX10_tellOf d 0 0 B [.ref (B + 46), .int 0, .int zb] cnt (pm_two (cl_L B kp I A) ρ) (pm_Qi (fun _ σ' cnt' => hvq ε B kp ρ cnt σ' cnt')) := by
  refine pm_enter 0 (by decide) (Nat.le_of_ble_eq_true rfl) rfl (fun G hG hR hF => ?_)
  refine pm_iloadn hG dX10_tellOf_0 rfl ?_
  refine pm_tswOut (tgt := 70) hG dX10_tellOf_1 (by decide) rfl ?_
  refine pm_aloadn hG dX10_tellOf_70 rfl ?_
  refine pm_bipush (v := 13) hG dX10_tellOf_71 (by decide) ?_
  refine pm_callV (As := [.int 13]) (rest := []) hG hR dX10_tellOf_73 (lkX10_41 _ rfl) okV_X10_note rfl rfl (g_X10_note (d := 6) (by decide) h) rfl rfl hdd (Nat.le_refl _) (Nat.le_refl _) (by decide) (pm_kv (fun σ' cnt' hq => ?_))
  obtain ⟨I1, A1, rfl, rfl, h1⟩ := hq
  refine pm_aloadn hG dX10_tellOf_76 rfl ?_
  refine pm_aloadn hG dX10_tellOf_77 rfl ?_
  refine pm_getf hG dX10_tellOf_78 (flX10_19 _ rfl) rfl rfl ?_
  refine pm_iloadn hG dX10_tellOf_81 rfl ?_
  refine pm_callV (As := [.int (I1 116), .int zb]) (rest := []) hG hR dX10_tellOf_82 (lkX10_32 _ rfl) okV_X10_bindOf rfl rfl (g_X10_bindOf (d := 6) (by decide) h1) rfl rfl hdd (Nat.le_refl _) (Nat.le_refl _) (by decide) (pm_ki (fun v2 σ' cnt' hq => ?_))
  obtain ⟨I2, A2, rfl, rfl, h2⟩ := hq
  refine pm_aloadn hG dX10_tellOf_85 rfl ?_
  refine pm_aloadn hG dX10_tellOf_86 rfl ?_
  refine pm_getf hG dX10_tellOf_87 (flX10_19 _ rfl) rfl rfl ?_
  refine pm_iloadn hG dX10_tellOf_90 rfl ?_
  refine pm_callV (As := [.int (I2 116), .int zb]) (rest := [.int v2]) hG hR dX10_tellOf_91 (lkX10_35 _ rfl) okV_X10_rankOf rfl rfl (g_X10_rankOf (d := 6) (by decide) h2) rfl rfl hdd (Nat.le_refl _) (Nat.le_refl _) (by first | decide | exact Nat.le_of_ble_eq_true rfl) (pm_ki (fun v3 σ' cnt' hq => ?_))
  obtain ⟨I3, A3, rfl, rfl, h3⟩ := hq
  refine pm_ixor hG dX10_tellOf_94 ?_
  exact pm_iret hG hF dX10_tellOf_95 rfl (Nat.le_refl _) (Nat.le_refl _) ⟨_, rfl, _, _, rfl, rfl, h3⟩

set_option maxRecDepth 100000 in
set_option maxHeartbeats 4000000 in
theorem g_X10_tellOf_k3 {ε : Nat → Int32} {d B cnt : Nat} {kp : pm_KP} {ρ : pm_S} {I : Nat → Int32} {A : Nat → Nat → Int32} {zb : Int32} (hdd : 8 ≤ d) (h : gq ε I) : pm_met mX10_tellOf d 0 0 B [.ref (B + 46), .int 3, .int zb] cnt (pm_two (cl_L B kp I A) ρ) (pm_Qi (fun _ σ' cnt' => hvq ε B kp ρ cnt σ' cnt')) := by
  refine pm_enter 0 (by decide) (Nat.le_of_ble_eq_true rfl) rfl (fun G hG hR hF => ?_)
  refine pm_iloadn hG dX10_tellOf_0 rfl ?_
  refine pm_tswIn (tgt := 55) hG dX10_tellOf_1 (by decide) (by decide) rfl rfl ?_
  refine pm_aloadn hG dX10_tellOf_55 rfl ?_
  refine pm_bipush (v := 21) hG dX10_tellOf_56 (by decide) ?_
  refine pm_callV (As := [.int 21]) (rest := []) hG hR dX10_tellOf_58 (lkX10_41 _ rfl) okV_X10_note rfl rfl (g_X10_note (d := 7) (by decide) h) rfl rfl hdd (Nat.le_refl _) (Nat.le_refl _) (by decide) (pm_kv (fun σ' cnt' hq => ?_))
  obtain ⟨I1, A1, rfl, rfl, h1⟩ := hq
  refine pm_aloadn hG dX10_tellOf_61 rfl ?_
  refine pm_iconst (v := 0) hG dX10_tellOf_62 (by decide) ?_
  refine pm_iloadn hG dX10_tellOf_63 rfl ?_
  refine pm_iconst (v := 1) hG dX10_tellOf_64 (by decide) ?_
  refine pm_iadd hG dX10_tellOf_65 ?_
  refine pm_callV (As := [.int 0, .int (zb + 1)]) (rest := []) hG hR dX10_tellOf_66 (lkX10_38 _ rfl) okV_X10_tellOf rfl rfl (g_X10_tellOf_k0 (d := 7) (by decide) h1) rfl rfl hdd (Nat.le_refl _) (Nat.le_refl _) (by decide) (pm_ki (fun v2 σ' cnt' hq => ?_))
  obtain ⟨I2, A2, rfl, rfl, h2⟩ := hq
  exact pm_iret hG hF dX10_tellOf_69 rfl (Nat.le_refl _) (Nat.le_refl _) ⟨_, rfl, _, _, rfl, rfl, h2⟩

set_option maxRecDepth 100000 in
set_option maxHeartbeats 4000000 in
theorem g_X10_tellOf {ε : Nat → Int32} {d B cnt : Nat} {kp : pm_KP} {ρ : pm_S} {I : Nat → Int32} {A : Nat → Nat → Int32} {za zb : Int32} (hdd : 9 ≤ d) (h : gq ε I) : pm_met mX10_tellOf d 0 0 B [.ref (B + 46), .int za, .int zb] cnt (pm_two (cl_L B kp I A) ρ) (pm_Qi (fun _ σ' cnt' => hvq ε B kp ρ cnt σ' cnt')) := by
  refine pm_enter 0 (by decide) (Nat.le_of_ble_eq_true rfl) rfl (fun G hG hR hF => ?_)
  refine pm_iloadn hG dX10_tellOf_0 rfl ?_
  by_cases c1 : za = 1
  · refine pm_top (v := 1) c1 ?_
    refine pm_tswIn (tgt := 55) hG dX10_tellOf_1 (by decide) (by decide) rfl rfl ?_
    refine pm_aloadn hG dX10_tellOf_55 rfl ?_
    refine pm_bipush (v := 21) hG dX10_tellOf_56 (by decide) ?_
    refine pm_callV (As := [.int 21]) (rest := []) hG hR dX10_tellOf_58 (lkX10_41 _ rfl) okV_X10_note rfl rfl (g_X10_note (d := 8) (by decide) h) rfl rfl hdd (Nat.le_refl _) (Nat.le_refl _) (by decide) (pm_kv (fun σ' cnt' hq => ?_))
    obtain ⟨I2, A2, rfl, rfl, h2⟩ := hq
    refine pm_aloadn hG dX10_tellOf_61 rfl ?_
    refine pm_iconst (v := 0) hG dX10_tellOf_62 (by decide) ?_
    refine pm_iloadn hG dX10_tellOf_63 rfl ?_
    refine pm_iconst (v := 1) hG dX10_tellOf_64 (by decide) ?_
    refine pm_iadd hG dX10_tellOf_65 ?_
    refine pm_callV (As := [.int 0, .int (zb + 1)]) (rest := []) hG hR dX10_tellOf_66 (lkX10_38 _ rfl) okV_X10_tellOf rfl rfl (g_X10_tellOf_k0 (d := 8) (by decide) h2) rfl rfl hdd (Nat.le_refl _) (Nat.le_refl _) (by decide) (pm_ki (fun v3 σ' cnt' hq => ?_))
    obtain ⟨I3, A3, rfl, rfl, h3⟩ := hq
    exact pm_iret hG hF dX10_tellOf_69 rfl (Nat.le_refl _) (Nat.le_refl _) ⟨_, rfl, _, _, rfl, rfl, h3⟩
  by_cases c4 : za = 2
  · refine pm_top (v := 2) c4 ?_
    refine pm_tswIn (tgt := 70) hG dX10_tellOf_1 (by decide) (by decide) rfl rfl ?_
    refine pm_aloadn hG dX10_tellOf_70 rfl ?_
    refine pm_bipush (v := 13) hG dX10_tellOf_71 (by decide) ?_
    refine pm_callV (As := [.int 13]) (rest := []) hG hR dX10_tellOf_73 (lkX10_41 _ rfl) okV_X10_note rfl rfl (g_X10_note (d := 8) (by decide) h) rfl rfl hdd (Nat.le_refl _) (Nat.le_refl _) (by decide) (pm_kv (fun σ' cnt' hq => ?_))
    obtain ⟨I5, A5, rfl, rfl, h5⟩ := hq
    refine pm_aloadn hG dX10_tellOf_76 rfl ?_
    refine pm_aloadn hG dX10_tellOf_77 rfl ?_
    refine pm_getf hG dX10_tellOf_78 (flX10_19 _ rfl) rfl rfl ?_
    refine pm_iloadn hG dX10_tellOf_81 rfl ?_
    refine pm_callV (As := [.int (I5 116), .int zb]) (rest := []) hG hR dX10_tellOf_82 (lkX10_32 _ rfl) okV_X10_bindOf rfl rfl (g_X10_bindOf (d := 8) (by decide) h5) rfl rfl hdd (Nat.le_refl _) (Nat.le_refl _) (by decide) (pm_ki (fun v6 σ' cnt' hq => ?_))
    obtain ⟨I6, A6, rfl, rfl, h6⟩ := hq
    refine pm_aloadn hG dX10_tellOf_85 rfl ?_
    refine pm_aloadn hG dX10_tellOf_86 rfl ?_
    refine pm_getf hG dX10_tellOf_87 (flX10_19 _ rfl) rfl rfl ?_
    refine pm_iloadn hG dX10_tellOf_90 rfl ?_
    refine pm_callV (As := [.int (I6 116), .int zb]) (rest := [.int v6]) hG hR dX10_tellOf_91 (lkX10_35 _ rfl) okV_X10_rankOf rfl rfl (g_X10_rankOf (d := 8) (by decide) h6) rfl rfl hdd (Nat.le_refl _) (Nat.le_refl _) (by first | decide | exact Nat.le_of_ble_eq_true rfl) (pm_ki (fun v7 σ' cnt' hq => ?_))
    obtain ⟨I7, A7, rfl, rfl, h7⟩ := hq
    refine pm_ixor hG dX10_tellOf_94 ?_
    exact pm_iret hG hF dX10_tellOf_95 rfl (Nat.le_refl _) (Nat.le_refl _) ⟨_, rfl, _, _, rfl, rfl, h7⟩
  by_cases c8 : za = 3
  · refine pm_top (v := 3) c8 ?_
    refine pm_tswIn (tgt := 55) hG dX10_tellOf_1 (by decide) (by decide) rfl rfl ?_
    refine pm_aloadn hG dX10_tellOf_55 rfl ?_
    refine pm_bipush (v := 21) hG dX10_tellOf_56 (by decide) ?_
    refine pm_callV (As := [.int 21]) (rest := []) hG hR dX10_tellOf_58 (lkX10_41 _ rfl) okV_X10_note rfl rfl (g_X10_note (d := 8) (by decide) h) rfl rfl hdd (Nat.le_refl _) (Nat.le_refl _) (by decide) (pm_kv (fun σ' cnt' hq => ?_))
    obtain ⟨I9, A9, rfl, rfl, h9⟩ := hq
    refine pm_aloadn hG dX10_tellOf_61 rfl ?_
    refine pm_iconst (v := 0) hG dX10_tellOf_62 (by decide) ?_
    refine pm_iloadn hG dX10_tellOf_63 rfl ?_
    refine pm_iconst (v := 1) hG dX10_tellOf_64 (by decide) ?_
    refine pm_iadd hG dX10_tellOf_65 ?_
    refine pm_callV (As := [.int 0, .int (zb + 1)]) (rest := []) hG hR dX10_tellOf_66 (lkX10_38 _ rfl) okV_X10_tellOf rfl rfl (g_X10_tellOf_k0 (d := 8) (by decide) h9) rfl rfl hdd (Nat.le_refl _) (Nat.le_refl _) (by decide) (pm_ki (fun v10 σ' cnt' hq => ?_))
    obtain ⟨I10, A10, rfl, rfl, h10⟩ := hq
    exact pm_iret hG hF dX10_tellOf_69 rfl (Nat.le_refl _) (Nat.le_refl _) ⟨_, rfl, _, _, rfl, rfl, h10⟩
  by_cases c11 : za = 4
  · refine pm_top (v := 4) c11 ?_
    refine pm_tswIn (tgt := 32) hG dX10_tellOf_1 (by decide) (by decide) rfl rfl ?_
    refine pm_aloadn hG dX10_tellOf_32 rfl ?_
    refine pm_bipush (v := 51) hG dX10_tellOf_33 (by decide) ?_
    refine pm_callV (As := [.int 51]) (rest := []) hG hR dX10_tellOf_35 (lkX10_41 _ rfl) okV_X10_note rfl rfl (g_X10_note (d := 8) (by decide) h) rfl rfl hdd (Nat.le_refl _) (Nat.le_refl _) (by decide) (pm_kv (fun σ' cnt' hq => ?_))
    obtain ⟨I12, A12, rfl, rfl, h12⟩ := hq
    refine pm_aloadn hG dX10_tellOf_38 rfl ?_
    refine pm_aloadn hG dX10_tellOf_39 rfl ?_
    refine pm_getf hG dX10_tellOf_40 (flX10_19 _ rfl) rfl rfl ?_
    refine pm_iloadn hG dX10_tellOf_43 rfl ?_
    refine pm_callV (As := [.int (I12 116), .int zb]) (rest := []) hG hR dX10_tellOf_44 (lkX10_35 _ rfl) okV_X10_rankOf rfl rfl (g_X10_rankOf (d := 8) (by decide) h12) rfl rfl hdd (Nat.le_refl _) (Nat.le_refl _) (by decide) (pm_ki (fun v13 σ' cnt' hq => ?_))
    obtain ⟨I13, A13, rfl, rfl, h13⟩ := hq
    refine pm_aloadn hG dX10_tellOf_47 rfl ?_
    refine pm_iconst (v := 3) hG dX10_tellOf_48 (by decide) ?_
    refine pm_iloadn hG dX10_tellOf_49 rfl ?_
    refine pm_callV (As := [.int 3, .int zb]) (rest := [.int v13]) hG hR dX10_tellOf_50 (lkX10_38 _ rfl) okV_X10_tellOf rfl rfl (g_X10_tellOf_k3 (d := 8) (by decide) h13) rfl rfl hdd (Nat.le_refl _) (Nat.le_refl _) (by first | decide | exact Nat.le_of_ble_eq_true rfl) (pm_ki (fun v14 σ' cnt' hq => ?_))
    obtain ⟨I14, A14, rfl, rfl, h14⟩ := hq
    refine pm_isub hG dX10_tellOf_53 ?_
    exact pm_iret hG hF dX10_tellOf_54 rfl (Nat.le_refl _) (Nat.le_refl _) ⟨_, rfl, _, _, rfl, rfl, h14⟩
  have tc1 : ¬ za.toInt = 1 := fun q => c1 (Int32.toInt_inj.mp q)
  have tc4 : ¬ za.toInt = 2 := fun q => c4 (Int32.toInt_inj.mp q)
  have tc8 : ¬ za.toInt = 3 := fun q => c8 (Int32.toInt_inj.mp q)
  have tc11 : ¬ za.toInt = 4 := fun q => c11 (Int32.toInt_inj.mp q)
  refine pm_tswOut (tgt := 70) hG dX10_tellOf_1 (by omega) rfl ?_
  refine pm_aloadn hG dX10_tellOf_70 rfl ?_
  refine pm_bipush (v := 13) hG dX10_tellOf_71 (by decide) ?_
  refine pm_callV (As := [.int 13]) (rest := []) hG hR dX10_tellOf_73 (lkX10_41 _ rfl) okV_X10_note rfl rfl (g_X10_note (d := 8) (by decide) h) rfl rfl hdd (Nat.le_refl _) (Nat.le_refl _) (by decide) (pm_kv (fun σ' cnt' hq => ?_))
  obtain ⟨I15, A15, rfl, rfl, h15⟩ := hq
  refine pm_aloadn hG dX10_tellOf_76 rfl ?_
  refine pm_aloadn hG dX10_tellOf_77 rfl ?_
  refine pm_getf hG dX10_tellOf_78 (flX10_19 _ rfl) rfl rfl ?_
  refine pm_iloadn hG dX10_tellOf_81 rfl ?_
  refine pm_callV (As := [.int (I15 116), .int zb]) (rest := []) hG hR dX10_tellOf_82 (lkX10_32 _ rfl) okV_X10_bindOf rfl rfl (g_X10_bindOf (d := 8) (by decide) h15) rfl rfl hdd (Nat.le_refl _) (Nat.le_refl _) (by decide) (pm_ki (fun v16 σ' cnt' hq => ?_))
  obtain ⟨I16, A16, rfl, rfl, h16⟩ := hq
  refine pm_aloadn hG dX10_tellOf_85 rfl ?_
  refine pm_aloadn hG dX10_tellOf_86 rfl ?_
  refine pm_getf hG dX10_tellOf_87 (flX10_19 _ rfl) rfl rfl ?_
  refine pm_iloadn hG dX10_tellOf_90 rfl ?_
  refine pm_callV (As := [.int (I16 116), .int zb]) (rest := [.int v16]) hG hR dX10_tellOf_91 (lkX10_35 _ rfl) okV_X10_rankOf rfl rfl (g_X10_rankOf (d := 8) (by decide) h16) rfl rfl hdd (Nat.le_refl _) (Nat.le_refl _) (by first | decide | exact Nat.le_of_ble_eq_true rfl) (pm_ki (fun v17 σ' cnt' hq => ?_))
  obtain ⟨I17, A17, rfl, rfl, h17⟩ := hq
  refine pm_ixor hG dX10_tellOf_94 ?_
  exact pm_iret hG hF dX10_tellOf_95 rfl (Nat.le_refl _) (Nat.le_refl _) ⟨_, rfl, _, _, rfl, rfl, h17⟩

set_option maxRecDepth 100000 in
set_option maxHeartbeats 4000000 in
theorem g_X10_speak {ε : Nat → Int32} {d B cnt : Nat} {kp : pm_KP} {ρ : pm_S} {I : Nat → Int32} {A : Nat → Nat → Int32} {za zb : Int32} (hdd : 10 ≤ d) (h : gq ε I) : pm_met mX10_speak d 0 0 B [.ref (B + 46), .int za, .int zb] cnt (pm_two (cl_L B kp I A) ρ) (pm_Qi (fun _ σ' cnt' => hvq ε B kp ρ cnt σ' cnt')) := by
  refine pm_enter 0 (by decide) (Nat.le_of_ble_eq_true rfl) rfl (fun G hG hR hF => ?_)
  refine pm_iloadn hG dX10_speak_0 rfl ?_
  by_cases c1 : za = 0
  · refine pm_top (v := 0) c1 ?_
    refine pm_tswIn (tgt := 28) hG dX10_speak_1 (by decide) (by decide) rfl rfl ?_
    refine pm_aloadn hG dX10_speak_28 rfl ?_
    refine pm_aloadn hG dX10_speak_29 rfl ?_
    refine pm_getf hG dX10_speak_30 (flX10_19 _ rfl) rfl rfl ?_
    refine pm_iloadn hG dX10_speak_33 rfl ?_
    refine pm_callV (As := [.int (I 116), .int zb]) (rest := []) hG hR dX10_speak_34 (lkX10_28 _ rfl) okV_X10_actOf rfl rfl (g_X10_actOf (d := 9) (by decide) h) rfl rfl hdd (Nat.le_refl _) (Nat.le_refl _) (by decide) (pm_ki (fun v2 σ' cnt' hq => ?_))
    obtain ⟨I2, A2, rfl, rfl, h2⟩ := hq
    exact pm_iret hG hF dX10_speak_37 rfl (Nat.le_refl _) (Nat.le_refl _) ⟨_, rfl, _, _, rfl, rfl, h2⟩
  by_cases c3 : za = 1
  · refine pm_top (v := 1) c3 ?_
    refine pm_tswIn (tgt := 38) hG dX10_speak_1 (by decide) (by decide) rfl rfl ?_
    refine pm_aloadn hG dX10_speak_38 rfl ?_
    refine pm_aloadn hG dX10_speak_39 rfl ?_
    refine pm_getf hG dX10_speak_40 (flX10_19 _ rfl) rfl rfl ?_
    refine pm_iloadn hG dX10_speak_43 rfl ?_
    refine pm_callV (As := [.int (I 116), .int zb]) (rest := []) hG hR dX10_speak_44 (lkX10_32 _ rfl) okV_X10_bindOf rfl rfl (g_X10_bindOf (d := 9) (by decide) h) rfl rfl hdd (Nat.le_refl _) (Nat.le_refl _) (by decide) (pm_ki (fun v4 σ' cnt' hq => ?_))
    obtain ⟨I4, A4, rfl, rfl, h4⟩ := hq
    exact pm_iret hG hF dX10_speak_47 rfl (Nat.le_refl _) (Nat.le_refl _) ⟨_, rfl, _, _, rfl, rfl, h4⟩
  by_cases c5 : za = 2
  · refine pm_top (v := 2) c5 ?_
    refine pm_tswIn (tgt := 48) hG dX10_speak_1 (by decide) (by decide) rfl rfl ?_
    refine pm_aloadn hG dX10_speak_48 rfl ?_
    refine pm_aloadn hG dX10_speak_49 rfl ?_
    refine pm_getf hG dX10_speak_50 (flX10_19 _ rfl) rfl rfl ?_
    refine pm_iloadn hG dX10_speak_53 rfl ?_
    refine pm_callV (As := [.int (I 116), .int zb]) (rest := []) hG hR dX10_speak_54 (lkX10_35 _ rfl) okV_X10_rankOf rfl rfl (g_X10_rankOf (d := 9) (by decide) h) rfl rfl hdd (Nat.le_refl _) (Nat.le_refl _) (by decide) (pm_ki (fun v6 σ' cnt' hq => ?_))
    obtain ⟨I6, A6, rfl, rfl, h6⟩ := hq
    exact pm_iret hG hF dX10_speak_57 rfl (Nat.le_refl _) (Nat.le_refl _) ⟨_, rfl, _, _, rfl, rfl, h6⟩
  have tc1 : ¬ za.toInt = 0 := fun q => c1 (Int32.toInt_inj.mp q)
  have tc3 : ¬ za.toInt = 1 := fun q => c3 (Int32.toInt_inj.mp q)
  have tc5 : ¬ za.toInt = 2 := fun q => c5 (Int32.toInt_inj.mp q)
  refine pm_tswOut (tgt := 58) hG dX10_speak_1 (by omega) rfl ?_
  refine pm_aloadn hG dX10_speak_58 rfl ?_
  refine pm_aloadn hG dX10_speak_59 rfl ?_
  refine pm_getf hG dX10_speak_60 (flX10_19 _ rfl) rfl rfl ?_
  refine pm_iloadn hG dX10_speak_63 rfl ?_
  refine pm_callV (As := [.int (I 116), .int zb]) (rest := []) hG hR dX10_speak_64 (lkX10_38 _ rfl) okV_X10_tellOf rfl rfl (g_X10_tellOf (d := 9) (by decide) h) rfl rfl hdd (Nat.le_refl _) (Nat.le_refl _) (by decide) (pm_ki (fun v7 σ' cnt' hq => ?_))
  obtain ⟨I7, A7, rfl, rfl, h7⟩ := hq
  exact pm_iret hG hF dX10_speak_67 rfl (Nat.le_refl _) (Nat.le_refl _) ⟨_, rfl, _, _, rfl, rfl, h7⟩

set_option maxRecDepth 100000 in
set_option maxHeartbeats 4000000 in
theorem g_X11_about {ε : Nat → Int32} {d B cnt : Nat} {kp : pm_KP} {ρ : pm_S} {I : Nat → Int32} {A : Nat → Nat → Int32} {za zb : Int32} (hdd : 2 ≤ d) (h : gq ε I) : pm_met mX11_about d 0 0 B [.ref (B + 0), .int za, .int zb] cnt (pm_two (cl_L B kp I A) ρ) (pm_Qi (fun _ σ' cnt' => hvq ε B kp ρ cnt σ' cnt')) := by
  refine pm_enter 0 (by decide) (Nat.le_of_ble_eq_true rfl) rfl (fun G hG hR hF => ?_)
  refine pm_aloadn hG dX11_about_0 rfl ?_
  refine pm_getf hG dX11_about_1 (flX11_12 _ rfl) rfl rfl ?_
  refine pm_getf hG dX11_about_4 (flX11_128 _ rfl) rfl rfl ?_
  refine pm_iloadn hG dX11_about_7 rfl ?_
  refine pm_callV (As := [.int za]) (rest := []) hG hR dX11_about_8 (lkX11_101 _ rfl) okV_X9_has rfl rfl (tb_has (d := 1) rfl) rfl rfl hdd (Nat.le_refl _) (Nat.le_refl _) (by decide) (pm_ki (fun v1 σ' cnt' hq => ?_))
  have b1 := pm_b01 hq.1
  obtain ⟨I1, A1, rfl, rfl, h1⟩ := hv_id (kp := kp) (I := I) (A := A) h hq.2
  refine pm_if_ne (tgt := 21) hG dX11_about_11 rfl (fun c2 => ?_) (fun c2 => ?_)
  · refine pm_iloadn hG dX11_about_21 rfl ?_
    by_cases c3 : zb = 0
    · refine pm_top (v := 0) c3 ?_
      refine pm_tswIn (tgt := 76) hG dX11_about_22 (by decide) (by decide) rfl rfl ?_
      refine pm_aloadn hG dX11_about_76 rfl ?_
      refine pm_getf hG dX11_about_77 (flX11_12 _ rfl) rfl rfl ?_
      refine pm_getf hG dX11_about_80 (flX11_128 _ rfl) rfl rfl ?_
      refine pm_iloadn hG dX11_about_83 rfl ?_
      refine pm_iconst (v := 4) hG dX11_about_84 (by decide) ?_
      refine pm_callV (As := [.int za, .int 4]) (rest := []) hG hR dX11_about_85 (lkX11_152 _ rfl) okV_X9_get rfl rfl (tb_get (d := 1) rfl rfl (pm_tw_of 20 14 (by decide) (by decide) (by decide))) rfl rfl hdd (Nat.le_refl _) (Nat.le_refl _) (by decide) (pm_ki (fun v4 σ' cnt' hq => ?_))
      obtain ⟨I4, A4, rfl, rfl, h4⟩ := hv_id (kp := kp) (I := I1) (A := A1) h1 hq.2
      exact pm_iret hG hF dX11_about_88 rfl (Nat.le_refl _) (Nat.le_refl _) ⟨_, rfl, _, _, rfl, rfl, h4⟩
    by_cases c5 : zb = 1
    · refine pm_top (v := 1) c5 ?_
      refine pm_tswIn (tgt := 89) hG dX11_about_22 (by decide) (by decide) rfl rfl ?_
      refine pm_aloadn hG dX11_about_89 rfl ?_
      refine pm_getf hG dX11_about_90 (flX11_12 _ rfl) rfl rfl ?_
      refine pm_getf hG dX11_about_93 (flX11_128 _ rfl) rfl rfl ?_
      refine pm_iloadn hG dX11_about_96 rfl ?_
      refine pm_bipush (v := 7) hG dX11_about_97 (by decide) ?_
      refine pm_callV (As := [.int za, .int 7]) (rest := []) hG hR dX11_about_99 (lkX11_152 _ rfl) okV_X9_get rfl rfl (tb_get (d := 1) rfl rfl (pm_tw_of 20 14 (by decide) (by decide) (by decide))) rfl rfl hdd (Nat.le_refl _) (Nat.le_refl _) (by decide) (pm_ki (fun v6 σ' cnt' hq => ?_))
      obtain ⟨I6, A6, rfl, rfl, h6⟩ := hv_id (kp := kp) (I := I1) (A := A1) h1 hq.2
      exact pm_iret hG hF dX11_about_102 rfl (Nat.le_refl _) (Nat.le_refl _) ⟨_, rfl, _, _, rfl, rfl, h6⟩
    by_cases c7 : zb = 2
    · refine pm_top (v := 2) c7 ?_
      refine pm_tswIn (tgt := 103) hG dX11_about_22 (by decide) (by decide) rfl rfl ?_
      refine pm_aloadn hG dX11_about_103 rfl ?_
      refine pm_getf hG dX11_about_104 (flX11_12 _ rfl) rfl rfl ?_
      refine pm_getf hG dX11_about_107 (flX11_128 _ rfl) rfl rfl ?_
      refine pm_iloadn hG dX11_about_110 rfl ?_
      refine pm_bipush (v := 8) hG dX11_about_111 (by decide) ?_
      refine pm_callV (As := [.int za, .int 8]) (rest := []) hG hR dX11_about_113 (lkX11_152 _ rfl) okV_X9_get rfl rfl (tb_get (d := 1) rfl rfl (pm_tw_of 20 14 (by decide) (by decide) (by decide))) rfl rfl hdd (Nat.le_refl _) (Nat.le_refl _) (by decide) (pm_ki (fun v8 σ' cnt' hq => ?_))
      obtain ⟨I8, A8, rfl, rfl, h8⟩ := hv_id (kp := kp) (I := I1) (A := A1) h1 hq.2
      exact pm_iret hG hF dX11_about_116 rfl (Nat.le_refl _) (Nat.le_refl _) ⟨_, rfl, _, _, rfl, rfl, h8⟩
    by_cases c9 : zb = 3
    · refine pm_top (v := 3) c9 ?_
      refine pm_tswIn (tgt := 117) hG dX11_about_22 (by decide) (by decide) rfl rfl ?_
      refine pm_aloadn hG dX11_about_117 rfl ?_
      refine pm_getf hG dX11_about_118 (flX11_12 _ rfl) rfl rfl ?_
      refine pm_getf hG dX11_about_121 (flX11_128 _ rfl) rfl rfl ?_
      refine pm_iloadn hG dX11_about_124 rfl ?_
      refine pm_iconst (v := 1) hG dX11_about_125 (by decide) ?_
      refine pm_callV (As := [.int za, .int 1]) (rest := []) hG hR dX11_about_126 (lkX11_152 _ rfl) okV_X9_get rfl rfl (tb_get (d := 1) rfl rfl (pm_tw_of 20 14 (by decide) (by decide) (by decide))) rfl rfl hdd (Nat.le_refl _) (Nat.le_refl _) (by decide) (pm_ki (fun v10 σ' cnt' hq => ?_))
      obtain ⟨I10, A10, rfl, rfl, h10⟩ := hv_id (kp := kp) (I := I1) (A := A1) h1 hq.2
      refine pm_aloadn hG dX11_about_129 rfl ?_
      refine pm_getf hG dX11_about_130 (flX11_12 _ rfl) rfl rfl ?_
      refine pm_getf hG dX11_about_133 (flX11_122 _ rfl) rfl rfl ?_
      refine pm_callS (As := [.int v10, .int (I10 102)]) (rest := []) hG hR dX11_about_136 (lkX11_155 _ rfl) okS_X11_yearsBetween (g_X11_yearsBetween (d := 1) (by decide) h10) rfl rfl hdd (Nat.le_refl _) (Nat.le_refl _) (by decide) (pm_ki (fun v11 σ' cnt' hq => ?_))
      obtain ⟨I11, A11, rfl, rfl, h11⟩ := hq
      exact pm_iret hG hF dX11_about_139 rfl (Nat.le_refl _) (Nat.le_refl _) ⟨_, rfl, _, _, rfl, rfl, h11⟩
    by_cases c12 : zb = 4
    · refine pm_top (v := 4) c12 ?_
      refine pm_tswIn (tgt := 140) hG dX11_about_22 (by decide) (by decide) rfl rfl ?_
      refine pm_aloadn hG dX11_about_140 rfl ?_
      refine pm_getf hG dX11_about_141 (flX11_12 _ rfl) rfl rfl ?_
      refine pm_iloadn hG dX11_about_144 rfl ?_
      refine pm_callV (As := [.int za]) (rest := []) hG hR dX11_about_145 (lkX11_158 _ rfl) okV_X7_knownTo rfl rfl (g_X7_knownTo (d := 1) (by decide) h1) rfl rfl hdd (Nat.le_refl _) (Nat.le_refl _) (by decide) (pm_ki (fun v13 σ' cnt' hq => ?_))
      obtain ⟨I13, A13, rfl, rfl, h13⟩ := hq
      exact pm_iret hG hF dX11_about_148 rfl (Nat.le_refl _) (Nat.le_refl _) ⟨_, rfl, _, _, rfl, rfl, h13⟩
    by_cases c14 : zb = 5
    · refine pm_top (v := 5) c14 ?_
      refine pm_tswIn (tgt := 149) hG dX11_about_22 (by decide) (by decide) rfl rfl ?_
      refine pm_aloadn hG dX11_about_149 rfl ?_
      refine pm_getf hG dX11_about_150 (flX11_12 _ rfl) rfl rfl ?_
      refine pm_getf hG dX11_about_153 (flX11_161 _ rfl) rfl rfl ?_
      refine pm_iconst (v := 2) hG dX11_about_156 (by decide) ?_
      refine pm_iloadn hG dX11_about_157 rfl ?_
      obtain ⟨k15, hk15, hu15⟩ := gq.used h1 8 20 (by decide)
      have ht15 : pm_two (cl_L B kp I1 A1) ρ 8 = some (.inr (9, [.int (nI 20), .int (nI 6), .ref (B + 9), .int (nI k15)])) := by rw [← hu15]; rfl
      refine pm_callV (As := [.int 2, .int za]) (rest := []) hG hR dX11_about_158 (lkX11_164 _ rfl) okV_X9_rowsWith rfl rfl (tb_rowsWith (d := 1) (k := 2) ht15 rfl (by decide) (by decide) (by decide) hk15 (by omega) (by decide)) rfl rfl hdd (Nat.le_refl _) (Nat.le_refl _) (by decide) (pm_ki (fun v15 σ' cnt' hq => ?_))
      obtain ⟨I15, A15, rfl, rfl, h15⟩ := hv_id (kp := kp) (I := I1) (A := A1) h1 hq.2
      exact pm_iret hG hF dX11_about_161 rfl (Nat.le_refl _) (Nat.le_refl _) ⟨_, rfl, _, _, rfl, rfl, h15⟩
    by_cases c16 : zb = 6
    · refine pm_top (v := 6) c16 ?_
      refine pm_tswIn (tgt := 162) hG dX11_about_22 (by decide) (by decide) rfl rfl ?_
      refine pm_aloadn hG dX11_about_162 rfl ?_
      refine pm_getf hG dX11_about_163 (flX11_12 _ rfl) rfl rfl ?_
      refine pm_getf hG dX11_about_166 (flX11_128 _ rfl) rfl rfl ?_
      refine pm_iloadn hG dX11_about_169 rfl ?_
      refine pm_bipush (v := 9) hG dX11_about_170 (by decide) ?_
      refine pm_callV (As := [.int za, .int 9]) (rest := []) hG hR dX11_about_172 (lkX11_152 _ rfl) okV_X9_get rfl rfl (tb_get (d := 1) rfl rfl (pm_tw_of 20 14 (by decide) (by decide) (by decide))) rfl rfl hdd (Nat.le_refl _) (Nat.le_refl _) (by decide) (pm_ki (fun v17 σ' cnt' hq => ?_))
      obtain ⟨I17, A17, rfl, rfl, h17⟩ := hv_id (kp := kp) (I := I1) (A := A1) h1 hq.2
      exact pm_iret hG hF dX11_about_175 rfl (Nat.le_refl _) (Nat.le_refl _) ⟨_, rfl, _, _, rfl, rfl, h17⟩
    by_cases c18 : zb = 7
    · refine pm_top (v := 7) c18 ?_
      refine pm_tswIn (tgt := 176) hG dX11_about_22 (by decide) (by decide) rfl rfl ?_
      refine pm_aloadn hG dX11_about_176 rfl ?_
      refine pm_getf hG dX11_about_177 (flX11_12 _ rfl) rfl rfl ?_
      refine pm_getf hG dX11_about_180 (flX11_128 _ rfl) rfl rfl ?_
      refine pm_iloadn hG dX11_about_183 rfl ?_
      refine pm_bipush (v := 13) hG dX11_about_184 (by decide) ?_
      refine pm_callV (As := [.int za, .int 13]) (rest := []) hG hR dX11_about_186 (lkX11_152 _ rfl) okV_X9_get rfl rfl (tb_get (d := 1) rfl rfl (pm_tw_of 20 14 (by decide) (by decide) (by decide))) rfl rfl hdd (Nat.le_refl _) (Nat.le_refl _) (by decide) (pm_ki (fun v19 σ' cnt' hq => ?_))
      obtain ⟨I19, A19, rfl, rfl, h19⟩ := hv_id (kp := kp) (I := I1) (A := A1) h1 hq.2
      exact pm_iret hG hF dX11_about_189 rfl (Nat.le_refl _) (Nat.le_refl _) ⟨_, rfl, _, _, rfl, rfl, h19⟩
    by_cases c20 : zb = 8
    · refine pm_top (v := 8) c20 ?_
      refine pm_tswIn (tgt := 190) hG dX11_about_22 (by decide) (by decide) rfl rfl ?_
      refine pm_aloadn hG dX11_about_190 rfl ?_
      refine pm_getf hG dX11_about_191 (flX11_12 _ rfl) rfl rfl ?_
      refine pm_getf hG dX11_about_194 (flX11_128 _ rfl) rfl rfl ?_
      refine pm_iloadn hG dX11_about_197 rfl ?_
      refine pm_bipush (v := 11) hG dX11_about_198 (by decide) ?_
      refine pm_callV (As := [.int za, .int 11]) (rest := []) hG hR dX11_about_200 (lkX11_152 _ rfl) okV_X9_get rfl rfl (tb_get (d := 1) rfl rfl (pm_tw_of 20 14 (by decide) (by decide) (by decide))) rfl rfl hdd (Nat.le_refl _) (Nat.le_refl _) (by decide) (pm_ki (fun v21 σ' cnt' hq => ?_))
      obtain ⟨I21, A21, rfl, rfl, h21⟩ := hv_id (kp := kp) (I := I1) (A := A1) h1 hq.2
      exact pm_iret hG hF dX11_about_203 rfl (Nat.le_refl _) (Nat.le_refl _) ⟨_, rfl, _, _, rfl, rfl, h21⟩
    by_cases c22 : zb = 9
    · refine pm_top (v := 9) c22 ?_
      refine pm_tswIn (tgt := 204) hG dX11_about_22 (by decide) (by decide) rfl rfl ?_
      refine pm_aloadn hG dX11_about_204 rfl ?_
      refine pm_getf hG dX11_about_205 (flX11_12 _ rfl) rfl rfl ?_
      refine pm_getf hG dX11_about_208 (flX11_128 _ rfl) rfl rfl ?_
      refine pm_iloadn hG dX11_about_211 rfl ?_
      refine pm_bipush (v := 12) hG dX11_about_212 (by decide) ?_
      refine pm_callV (As := [.int za, .int 12]) (rest := []) hG hR dX11_about_214 (lkX11_152 _ rfl) okV_X9_get rfl rfl (tb_get (d := 1) rfl rfl (pm_tw_of 20 14 (by decide) (by decide) (by decide))) rfl rfl hdd (Nat.le_refl _) (Nat.le_refl _) (by decide) (pm_ki (fun v23 σ' cnt' hq => ?_))
      obtain ⟨I23, A23, rfl, rfl, h23⟩ := hv_id (kp := kp) (I := I1) (A := A1) h1 hq.2
      exact pm_iret hG hF dX11_about_217 rfl (Nat.le_refl _) (Nat.le_refl _) ⟨_, rfl, _, _, rfl, rfl, h23⟩
    have tc3 : ¬ zb.toInt = 0 := fun q => c3 (Int32.toInt_inj.mp q)
    have tc5 : ¬ zb.toInt = 1 := fun q => c5 (Int32.toInt_inj.mp q)
    have tc7 : ¬ zb.toInt = 2 := fun q => c7 (Int32.toInt_inj.mp q)
    have tc9 : ¬ zb.toInt = 3 := fun q => c9 (Int32.toInt_inj.mp q)
    have tc12 : ¬ zb.toInt = 4 := fun q => c12 (Int32.toInt_inj.mp q)
    have tc14 : ¬ zb.toInt = 5 := fun q => c14 (Int32.toInt_inj.mp q)
    have tc16 : ¬ zb.toInt = 6 := fun q => c16 (Int32.toInt_inj.mp q)
    have tc18 : ¬ zb.toInt = 7 := fun q => c18 (Int32.toInt_inj.mp q)
    have tc20 : ¬ zb.toInt = 8 := fun q => c20 (Int32.toInt_inj.mp q)
    have tc22 : ¬ zb.toInt = 9 := fun q => c22 (Int32.toInt_inj.mp q)
    refine pm_tswOut (tgt := 218) hG dX11_about_22 (by omega) rfl ?_
    refine pm_aloadn hG dX11_about_218 rfl ?_
    refine pm_ldc hG dX11_about_219 (ctX11_109 _ rfl) ?_
    refine pm_callV (As := [.int (-1000001)]) (rest := []) hG hR dX11_about_221 (lkX11_97 _ rfl) okV_X11_told rfl rfl (sx_told (d := 1) (by decide) rfl rfl) rfl rfl hdd (Nat.le_refl _) (Nat.le_refl _) (by decide) (pm_ki (fun v24 σ' cnt' hq => ?_))
    obtain ⟨-, ⟨g24, hg24⟩, hc24⟩ := hq
    obtain ⟨I24, A24, rfl, rfl, h24⟩ := hv_a53 (kp := kp) (I := I1) (A := A1) h1 ⟨hg24, hc24⟩
    exact pm_iret hG hF dX11_about_224 rfl (Nat.le_refl _) (Nat.le_refl _) ⟨_, rfl, _, _, rfl, rfl, h24⟩
  · refine pm_aloadn hG dX11_about_14 rfl ?_
    refine pm_ldc hG dX11_about_15 (ctX11_109 _ rfl) ?_
    refine pm_callV (As := [.int (-1000001)]) (rest := []) hG hR dX11_about_17 (lkX11_97 _ rfl) okV_X11_told rfl rfl (sx_told (d := 1) (by decide) rfl rfl) rfl rfl hdd (Nat.le_refl _) (Nat.le_refl _) (by decide) (pm_ki (fun v25 σ' cnt' hq => ?_))
    obtain ⟨-, ⟨g25, hg25⟩, hc25⟩ := hq
    obtain ⟨I25, A25, rfl, rfl, h25⟩ := hv_a53 (kp := kp) (I := I1) (A := A1) h1 ⟨hg25, hc25⟩
    exact pm_iret hG hF dX11_about_20 rfl (Nat.le_refl _) (Nat.le_refl _) ⟨_, rfl, _, _, rfl, rfl, h25⟩
