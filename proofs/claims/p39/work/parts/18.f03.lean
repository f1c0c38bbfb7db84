set_option maxRecDepth 100000 in
set_option maxHeartbeats 4000000 in
theorem c_X0_choose_k0 {d : Nat} {B cnt : Nat} {kp : Value} {ρ : pm_S} {S : FS} {zb : Int32} {zc : Int32} {zd : Int32} {R : Int32 × FS} (hdd : 12 ≤ d) (hE : f_X0_choose_k0 S zb zc zd = some R) : pm_met mX0_choose d 0 0 B [.ref (B + 31), .int 0, .int zb, .int zc, .int zd] cnt (cst B kp S ρ) (pm_Qv (fun σ' cnt' => σ' = (cst B kp R.2 ρ) ∧ cnt' = cnt)) := by
  refine pm_enter 1 (by decide) (Nat.le_of_ble_eq_true rfl) rfl (fun G hG hR hF => ?_)
  unfold f_X0_choose_k0 at hE
  refine pm_iloadn hG dX0_choose_0 rfl ?_
  refine pm_aloadn hG dX0_choose_1 rfl ?_
  refine pm_getf hG dX0_choose_2 (flX0_115 _ rfl) rfl rfl ?_
  refine pm_icmp_le (tgt := 9) hG dX0_choose_5 rfl (fun c1 => ?_) (fun c1 => ?_)
  · replace c1 := Int32.not_lt.mpr c1
    replace hE := fx_f c1 hE
    refine pm_aloadn hG dX0_choose_9 rfl ?_
    refine pm_iloadi hG dX0_choose_10 rfl ?_
    refine pm_callV (As := [.int zd]) (rest := []) hG hR dX0_choose_12 (lkX0_125 _ rfl) okV_X0_isCarriedWith rfl rfl (c_X0_isCarriedWith (d := 11) (by decide) rfl) rfl rfl hdd (Nat.le_refl _) (Nat.le_refl _) (by decide) (fx_ki ?_)
    refine pm_if_eq (tgt := 24) hG dX0_choose_15 rfl (fun c2 => ?_) (fun c2 => ?_)
    · replace hE := fx_t c2 hE
      refine pm_iloadn hG dX0_choose_24 rfl ?_
      refine pm_bipush (v := 9) hG dX0_choose_25 (by decide) ?_
      refine pm_icmp_ge (tgt := 105) hG dX0_choose_27 rfl (fun q => absurd q (by decide)) (fun _ => ?_)
      refine pm_aloadn hG dX0_choose_30 rfl ?_
      refine pm_getf hG dX0_choose_31 (flX0_36 _ rfl) rfl rfl ?_
      refine pm_iloadn hG dX0_choose_34 rfl ?_
      refine pm_callV (As := [.int 0]) (rest := []) hG hR dX0_choose_35 (lkX0_131 _ rfl) okV_X9_has rfl rfl (thas_34 (d := 11)) rfl rfl hdd (Nat.le_refl _) (Nat.le_refl _) (by decide) (fx_ki ?_)
      refine pm_if_eq (tgt := 105) hG dX0_choose_38 rfl (fun c3 => ?_) (fun c3 => ?_)
      · replace hE := fx_t c3 hE
        exact pm_vret hG hF dX0_choose_105 rfl (Nat.le_refl _) (Nat.le_refl _) (fx_rvc hE)
      · replace hE := fx_f c3 hE
        refine pm_aloadn hG dX0_choose_41 rfl ?_
        refine pm_getf hG dX0_choose_42 (flX0_36 _ rfl) rfl rfl ?_
        refine pm_iloadn hG dX0_choose_45 rfl ?_
        refine pm_iconst (v := 0) hG dX0_choose_46 (by decide) ?_
        refine pm_callV (As := [.int 0, .int 0]) (rest := []) hG hR dX0_choose_47 (lkX0_39 _ rfl) okV_X9_get rfl rfl (tget_34 (d := 11)) rfl rfl hdd (Nat.le_refl _) (Nat.le_refl _) (by decide) (fx_ki ?_)
        refine fx_letv hE (fun x4 hE => ?_)
        refine pm_istoreXi (loc' := [some (.ref (B + 31)), some (.int 0), some (.int zb), some (.int zc), some (.int zd), some (.int x4)]) hG dX0_choose_50 (by decide) (pm_c1b rfl) rfl ?_
        refine pm_aloadn hG dX0_choose_52 rfl ?_
        refine pm_iloadn hG dX0_choose_53 rfl ?_
        refine pm_iconst (v := 1) hG dX0_choose_54 (by decide) ?_
        refine pm_iadd hG dX0_choose_55 ?_
        refine pm_top (v := 1) (by decide) ?_
        refine pm_iloadn hG dX0_choose_56 rfl ?_
        refine pm_iloadn hG dX0_choose_57 rfl ?_
        refine pm_iloadi hG dX0_choose_58 rfl ?_
        obtain ⟨r6, h5, hE⟩ := fb_some hE
        refine pm_callV (As := [.int 1, .int zb, .int zc, .int zd]) (rest := []) hG hR dX0_choose_60 (lkX0_121 _ rfl) okV_X0_choose rfl rfl (c_X0_choose_k1 (d := 11) (by decide) h5) rfl rfl hdd (Nat.le_refl _) (Nat.le_refl _) (by decide) (fx_kv ?_)
        refine pm_aloadn hG dX0_choose_63 rfl ?_
        refine pm_iloadn hG dX0_choose_64 rfl ?_
        refine pm_iconst (v := 1) hG dX0_choose_65 (by decide) ?_
        refine pm_iadd hG dX0_choose_66 ?_
        refine pm_top (v := 1) (by decide) ?_
        refine pm_iloadn hG dX0_choose_67 rfl ?_
        refine pm_iconst (v := 1) hG dX0_choose_68 (by decide) ?_
        refine pm_iloadi hG dX0_choose_69 rfl ?_
        refine pm_ishl hG dX0_choose_71 ?_
        refine pm_ior hG dX0_choose_72 ?_
        refine pm_iloadn hG dX0_choose_73 rfl ?_
        refine pm_aloadn hG dX0_choose_74 rfl ?_
        refine pm_getf hG dX0_choose_75 (flX0_9 _ rfl) rfl rfl ?_
        refine pm_getf hG dX0_choose_78 (flX0_63 _ rfl) rfl rfl ?_
        refine pm_iloadi hG dX0_choose_81 rfl ?_
        refine pm_bipush (v := 12) hG dX0_choose_83 (by decide) ?_
        refine pm_callV (As := [.int x4, .int 12]) (rest := [.int zc, .int (zb ||| ((1 : Int32) <<< (x4 &&& 31))), .int 1, .ref (B + 31)]) hG hR dX0_choose_85 (lkX0_39 _ rfl) okV_X9_get rfl rfl (tget_6 (d := 11)) rfl rfl hdd (Nat.le_refl _) (Nat.le_refl _) (by first | decide | exact Nat.le_of_ble_eq_true rfl) (fx_ki ?_)
        refine pm_iadd hG dX0_choose_88 ?_
        refine pm_iloadi hG dX0_choose_89 rfl ?_
        refine pm_aloadn hG dX0_choose_91 rfl ?_
        refine pm_getf hG dX0_choose_92 (flX0_33 _ rfl) rfl rfl ?_
        refine pm_iloadi hG dX0_choose_95 rfl ?_
        refine pm_iconst (v := 0) hG dX0_choose_97 (by decide) ?_
        refine pm_callV (As := [.int x4, .int 0]) (rest := [.int zd, .int (zc + (fG 6 20 14 r6.2 x4 12)), .int (zb ||| ((1 : Int32) <<< (x4 &&& 31))), .int 1, .ref (B + 31)]) hG hR dX0_choose_98 (lkX0_39 _ rfl) okV_X9_get rfl rfl (tget_32 (d := 11)) rfl rfl hdd (Nat.le_refl _) (Nat.le_refl _) (by first | decide | exact Nat.le_of_ble_eq_true rfl) (fx_ki ?_)
        refine pm_iadd hG dX0_choose_101 ?_
        obtain ⟨r8, h7, hE⟩ := fb_some hE
        refine pm_callV (As := [.int 1, .int (zb ||| ((1 : Int32) <<< (x4 &&& 31))), .int (zc + (fG 6 20 14 r6.2 x4 12)), .int (zd + (fG 32 20 1 r6.2 x4 0))]) (rest := []) hG hR dX0_choose_102 (lkX0_121 _ rfl) okV_X0_choose rfl rfl (c_X0_choose_k1 (d := 11) (by decide) h7) rfl rfl hdd (Nat.le_refl _) (Nat.le_refl _) (by decide) (fx_kv ?_)
        exact pm_vret hG hF dX0_choose_105 rfl (Nat.le_refl _) (Nat.le_refl _) (fx_rvc hE)
    · replace hE := fx_f c2 hE
      refine pm_aloadn hG dX0_choose_18 rfl ?_
      refine pm_iloadn hG dX0_choose_19 rfl ?_
      refine pm_iloadn hG dX0_choose_20 rfl ?_
      obtain ⟨r10, h9, hE⟩ := fb_some hE
      refine pm_callV (As := [.int zb, .int zc]) (rest := []) hG hR dX0_choose_21 (lkX0_128 _ rfl) okV_X0_keepIfBetter rfl rfl (c_X0_keepIfBetter (d := 11) (by decide) h9) rfl rfl hdd (Nat.le_refl _) (Nat.le_refl _) (by decide) (fx_kv ?_)
      refine pm_iloadn hG dX0_choose_24 rfl ?_
      refine pm_bipush (v := 9) hG dX0_choose_25 (by decide) ?_
      refine pm_icmp_ge (tgt := 105) hG dX0_choose_27 rfl (fun q => absurd q (by decide)) (fun _ => ?_)
      refine pm_aloadn hG dX0_choose_30 rfl ?_
      refine pm_getf hG dX0_choose_31 (flX0_36 _ rfl) rfl rfl ?_
      refine pm_iloadn hG dX0_choose_34 rfl ?_
      refine pm_callV (As := [.int 0]) (rest := []) hG hR dX0_choose_35 (lkX0_131 _ rfl) okV_X9_has rfl rfl (thas_34 (d := 11)) rfl rfl hdd (Nat.le_refl _) (Nat.le_refl _) (by decide) (fx_ki ?_)
      refine pm_if_eq (tgt := 105) hG dX0_choose_38 rfl (fun c11 => ?_) (fun c11 => ?_)
      · replace hE := fx_t c11 hE
        exact pm_vret hG hF dX0_choose_105 rfl (Nat.le_refl _) (Nat.le_refl _) (fx_rvc hE)
      · replace hE := fx_f c11 hE
        refine pm_aloadn hG dX0_choose_41 rfl ?_
        refine pm_getf hG dX0_choose_42 (flX0_36 _ rfl) rfl rfl ?_
        refine pm_iloadn hG dX0_choose_45 rfl ?_
        refine pm_iconst (v := 0) hG dX0_choose_46 (by decide) ?_
        refine pm_callV (As := [.int 0, .int 0]) (rest := []) hG hR dX0_choose_47 (lkX0_39 _ rfl) okV_X9_get rfl rfl (tget_34 (d := 11)) rfl rfl hdd (Nat.le_refl _) (Nat.le_refl _) (by decide) (fx_ki ?_)
        refine fx_letv hE (fun x12 hE => ?_)
        refine pm_istoreXi (loc' := [some (.ref (B + 31)), some (.int 0), some (.int zb), some (.int zc), some (.int zd), some (.int x12)]) hG dX0_choose_50 (by decide) (pm_c1b rfl) rfl ?_
        refine pm_aloadn hG dX0_choose_52 rfl ?_
        refine pm_iloadn hG dX0_choose_53 rfl ?_
        refine pm_iconst (v := 1) hG dX0_choose_54 (by decide) ?_
        refine pm_iadd hG dX0_choose_55 ?_
        refine pm_top (v := 1) (by decide) ?_
        refine pm_iloadn hG dX0_choose_56 rfl ?_
        refine pm_iloadn hG dX0_choose_57 rfl ?_
        refine pm_iloadi hG dX0_choose_58 rfl ?_
        obtain ⟨r14, h13, hE⟩ := fb_some hE
        refine pm_callV (As := [.int 1, .int zb, .int zc, .int zd]) (rest := []) hG hR dX0_choose_60 (lkX0_121 _ rfl) okV_X0_choose rfl rfl (c_X0_choose_k1 (d := 11) (by decide) h13) rfl rfl hdd (Nat.le_refl _) (Nat.le_refl _) (by decide) (fx_kv ?_)
        refine pm_aloadn hG dX0_choose_63 rfl ?_
        refine pm_iloadn hG dX0_choose_64 rfl ?_
        refine pm_iconst (v := 1) hG dX0_choose_65 (by decide) ?_
        refine pm_iadd hG dX0_choose_66 ?_
        refine pm_top (v := 1) (by decide) ?_
        refine pm_iloadn hG dX0_choose_67 rfl ?_
        refine pm_iconst (v := 1) hG dX0_choose_68 (by decide) ?_
        refine pm_iloadi hG dX0_choose_69 rfl ?_
        refine pm_ishl hG dX0_choose_71 ?_
        refine pm_ior hG dX0_choose_72 ?_
        refine pm_iloadn hG dX0_choose_73 rfl ?_
        refine pm_aloadn hG dX0_choose_74 rfl ?_
        refine pm_getf hG dX0_choose_75 (flX0_9 _ rfl) rfl rfl ?_
        refine pm_getf hG dX0_choose_78 (flX0_63 _ rfl) rfl rfl ?_
        refine pm_iloadi hG dX0_choose_81 rfl ?_
        refine pm_bipush (v := 12) hG dX0_choose_83 (by decide) ?_
        refine pm_callV (As := [.int x12, .int 12]) (rest := [.int zc, .int (zb ||| ((1 : Int32) <<< (x12 &&& 31))), .int 1, .ref (B + 31)]) hG hR dX0_choose_85 (lkX0_39 _ rfl) okV_X9_get rfl rfl (tget_6 (d := 11)) rfl rfl hdd (Nat.le_refl _) (Nat.le_refl _) (by first | decide | exact Nat.le_of_ble_eq_true rfl) (fx_ki ?_)
        refine pm_iadd hG dX0_choose_88 ?_
        refine pm_iloadi hG dX0_choose_89 rfl ?_
        refine pm_aloadn hG dX0_choose_91 rfl ?_
        refine pm_getf hG dX0_choose_92 (flX0_33 _ rfl) rfl rfl ?_
        refine pm_iloadi hG dX0_choose_95 rfl ?_
        refine pm_iconst (v := 0) hG dX0_choose_97 (by decide) ?_
        refine pm_callV (As := [.int x12, .int 0]) (rest := [.int zd, .int (zc + (fG 6 20 14 r14.2 x12 12)), .int (zb ||| ((1 : Int32) <<< (x12 &&& 31))), .int 1, .ref (B + 31)]) hG hR dX0_choose_98 (lkX0_39 _ rfl) okV_X9_get rfl rfl (tget_32 (d := 11)) rfl rfl hdd (Nat.le_refl _) (Nat.le_refl _) (by first | decide | exact Nat.le_of_ble_eq_true rfl) (fx_ki ?_)
        refine pm_iadd hG dX0_choose_101 ?_
        obtain ⟨r16, h15, hE⟩ := fb_some hE
        refine pm_callV (As := [.int 1, .int (zb ||| ((1 : Int32) <<< (x12 &&& 31))), .int (zc + (fG 6 20 14 r14.2 x12 12)), .int (zd + (fG 32 20 1 r14.2 x12 0))]) (rest := []) hG hR dX0_choose_102 (lkX0_121 _ rfl) okV_X0_choose rfl rfl (c_X0_choose_k1 (d := 11) (by decide) h15) rfl rfl hdd (Nat.le_refl _) (Nat.le_refl _) (by decide) (fx_kv ?_)
        exact pm_vret hG hF dX0_choose_105 rfl (Nat.le_refl _) (Nat.le_refl _) (fx_rvc hE)
  · replace c1 := Int32.not_le.mp c1
    replace hE := fx_t c1 hE
    exact pm_vret hG hF dX0_choose_8 rfl (Nat.le_refl _) (Nat.le_refl _) (fx_rvc hE)

set_option maxRecDepth 100000 in
set_option maxHeartbeats 4000000 in
theorem c_X0_findCheapest {d : Nat} {B cnt : Nat} {kp : Value} {ρ : pm_S} {S : FS} {za : Int32} {R : Int32 × FS} (hdd : 13 ≤ d) (hE : f_X0_findCheapest S za = some R) : pm_met mX0_findCheapest d 0 0 B [.ref (B + 31), .int za] cnt (cst B kp S ρ) (pm_Qi (fun v σ' cnt' => v = R.1 ∧ σ' = (cst B kp R.2 ρ) ∧ cnt' = cnt)) := by
  refine pm_enter 0 (by decide) (Nat.le_of_ble_eq_true rfl) rfl (fun G hG hR hF => ?_)
  unfold f_X0_findCheapest at hE
  refine pm_aloadn hG dX0_findCheapest_0 rfl ?_
  refine pm_iloadn hG dX0_findCheapest_1 rfl ?_
  obtain ⟨r2, h1, hE⟩ := fb_some hE
  refine pm_callV (As := [.int za]) (rest := []) hG hR dX0_findCheapest_2 (lkX0_110 _ rfl) okV_X0_weigh rfl rfl (c_X0_weigh (d := 12) (by decide) h1) rfl rfl hdd (Nat.le_refl _) (Nat.le_refl _) (by decide) (fx_kv ?_)
  refine pm_aloadn hG dX0_findCheapest_5 rfl ?_
  refine pm_ldc hG dX0_findCheapest_6 (ctX0_114 _ rfl) ?_
  refine pm_putf hG dX0_findCheapest_8 (fwX0_115 _ rfl) rfl rfl rfl ?_
  refine ci_109 ?_
  refine fx_letc hE (fun S3 hE => ?_)
  refine pm_aloadn hG dX0_findCheapest_11 rfl ?_
  refine pm_iconst (v := 0) hG dX0_findCheapest_12 (by decide) ?_
  refine pm_putf hG dX0_findCheapest_13 (fwX0_118 _ rfl) rfl rfl rfl ?_
  refine ci_110 ?_
  refine fx_letc hE (fun S4 hE => ?_)
  refine pm_aloadn hG dX0_findCheapest_16 rfl ?_
  refine pm_iconst (v := 0) hG dX0_findCheapest_17 (by decide) ?_
  refine pm_iconst (v := 0) hG dX0_findCheapest_18 (by decide) ?_
  refine pm_iconst (v := 0) hG dX0_findCheapest_19 (by decide) ?_
  refine pm_iconst (v := 0) hG dX0_findCheapest_20 (by decide) ?_
  obtain ⟨r6, h5, hE⟩ := fb_some hE
  refine pm_callV (As := [.int 0, .int 0, .int 0, .int 0]) (rest := []) hG hR dX0_findCheapest_21 (lkX0_121 _ rfl) okV_X0_choose rfl rfl (c_X0_choose_k0 (d := 12) (by decide) h5) rfl rfl hdd (Nat.le_refl _) (Nat.le_refl _) (by decide) (fx_kv ?_)
  refine pm_aloadn hG dX0_findCheapest_24 rfl ?_
  refine pm_getf hG dX0_findCheapest_25 (flX0_115 _ rfl) rfl rfl ?_
  refine pm_ldc hG dX0_findCheapest_28 (ctX0_114 _ rfl) ?_
  refine pm_icmp_ge (tgt := 37) hG dX0_findCheapest_30 rfl (fun c7 => ?_) (fun c7 => ?_)
  · replace c7 := Int32.not_lt.mpr c7
    replace hE := fx_f c7 hE
    refine pm_iconst (v := 0) hG dX0_findCheapest_37 (by decide) ?_
    exact pm_zret hG hF dX0_findCheapest_38 rfl (by rfl) (Nat.le_refl _) (Nat.le_refl _) (fx_ric hE)
  · replace c7 := Int32.not_le.mp c7
    replace hE := fx_t c7 hE
    refine pm_iconst (v := 1) hG dX0_findCheapest_33 (by decide) ?_
    refine pm_goto (tgt := 38) hG dX0_findCheapest_34 rfl ?_
    exact pm_zret hG hF dX0_findCheapest_38 rfl (by rfl) (Nat.le_refl _) (Nat.le_refl _) (fx_ric hE)

set_option maxRecDepth 100000 in
set_option maxHeartbeats 4000000 in
theorem c_X0_firstBroken {d : Nat} {B cnt : Nat} {kp : Value} {ρ : pm_S} {S : FS} {za : Int32} {R : Int32} (hdd : 1 ≤ d) (hE : q_X0_firstBroken S za = some R) : pm_met mX0_firstBroken d 0 0 B [.ref (B + 31), .int za] cnt (cst B kp S ρ) (pm_Qi (fun v σ' cnt' => v = R ∧ σ' = (cst B kp S ρ) ∧ cnt' = cnt)) := by
  refine pm_enter 2 (by decide) (Nat.le_of_ble_eq_true rfl) rfl (fun G hG hR hF => ?_)
  unfold q_X0_firstBroken at hE
  refine pm_aloadn hG dX0_firstBroken_0 rfl ?_
  refine pm_getf hG dX0_firstBroken_1 (flX0_25 _ rfl) rfl rfl ?_
  refine pm_callV (As := []) (rest := []) hG hR dX0_firstBroken_4 (lkX0_47 _ rfl) okV_X9_used rfl rfl (tused_18 (d := 0)) rfl rfl hdd (Nat.le_refl _) (Nat.le_refl _) (by decide) (fx_ki ?_)
  refine fx_letv hE (fun x1 hE => ?_)
  refine pm_istoreXn (loc' := [some (.ref (B + 31)), some (.int za), some (.int x1), none]) hG dX0_firstBroken_7 (by decide) (pm_c1b rfl) rfl ?_
  refine pm_iconst (v := 0) hG dX0_firstBroken_8 (by decide) ?_
  refine pm_istoreXn (loc' := [some (.ref (B + 31)), some (.int za), some (.int x1), some (.int 0)]) hG dX0_firstBroken_9 (by decide) (pm_c1b rfl) rfl ?_
  have loop10 : ∀ (k10 : Int32 → Option Int32), (∀  (x2_3 : Int32), k10  x2_3 = some R → pm_wp mX0_firstBroken G B 62 [some (.ref (B + 31)), some (.int za), some (.int x1), some (.int x2_3)] [] 0 0 cnt (cst B kp S ρ)) → ∀ (m10 : Nat)  (x2_3 : Int32), l_X0_firstBroken_10 za S x1 k10 m10  x2_3 = some R → pm_wp mX0_firstBroken G B 10 [some (.ref (B + 31)), some (.int za), some (.int x1), some (.int x2_3)] [] 0 0 cnt (cst B kp S ρ) := by
    intro k10 hk10 m10
    induction m10 with
    | zero => intro  x2_3 hE; exact fx_no hE
    | succ m10 ih10 =>
      intro  x2_3 hE
      rw [l_X0_firstBroken_10] at hE
      refine pm_iloadn hG dX0_firstBroken_10 rfl ?_
      refine pm_iloadn hG dX0_firstBroken_11 rfl ?_
      refine pm_icmp_ge (tgt := 62) hG dX0_firstBroken_12 rfl (fun c3 => ?_) (fun c3 => ?_)
      · replace c3 := Int32.not_lt.mpr c3
        replace hE := fx_f c3 hE
        exact hk10 _ hE
      · replace c3 := Int32.not_le.mp c3
        replace hE := fx_t c3 hE
        refine pm_aloadn hG dX0_firstBroken_15 rfl ?_
        refine pm_getf hG dX0_firstBroken_16 (flX0_25 _ rfl) rfl rfl ?_
        refine pm_iloadn hG dX0_firstBroken_19 rfl ?_
        refine pm_iconst (v := 4) hG dX0_firstBroken_20 (by decide) ?_
        refine pm_callV (As := [.int x2_3, .int 4]) (rest := []) hG hR dX0_firstBroken_21 (lkX0_39 _ rfl) okV_X9_get rfl rfl (tget_18 (d := 0)) rfl rfl hdd (Nat.le_refl _) (Nat.le_refl _) (by decide) (fx_ki ?_)
        refine pm_iconst (v := 2) hG dX0_firstBroken_24 (by decide) ?_
        refine pm_icmp_ne (tgt := 56) hG dX0_firstBroken_25 rfl (fun c4 => ?_) (fun c4 => ?_)
        · replace hE := fx_f c4 hE
          refine pm_iincX (v := x2_3 + 1) (loc' := [some (.ref (B + 31)), some (.int za), some (.int x1), some (.int (x2_3 + 1))]) hG dX0_firstBroken_56 rfl (by rfl) (by decide) (pm_c1b rfl) rfl ?_
          refine pm_goto (tgt := 10) hG dX0_firstBroken_59 rfl ?_
          exact ih10 _ hE
        · replace hE := fx_t c4 hE
          refine pm_aloadn hG dX0_firstBroken_28 rfl ?_
          refine pm_getf hG dX0_firstBroken_29 (flX0_25 _ rfl) rfl rfl ?_
          refine pm_iloadn hG dX0_firstBroken_32 rfl ?_
          refine pm_iconst (v := 1) hG dX0_firstBroken_33 (by decide) ?_
          refine pm_callV (As := [.int x2_3, .int 1]) (rest := []) hG hR dX0_firstBroken_34 (lkX0_39 _ rfl) okV_X9_get rfl rfl (tget_18 (d := 0)) rfl rfl hdd (Nat.le_refl _) (Nat.le_refl _) (by decide) (fx_ki ?_)
          refine pm_iloadn hG dX0_firstBroken_37 rfl ?_
          refine pm_icmp_ne (tgt := 56) hG dX0_firstBroken_38 rfl (fun c5 => ?_) (fun c5 => ?_)
          · replace hE := fx_f c5 hE
            refine pm_iincX (v := x2_3 + 1) (loc' := [some (.ref (B + 31)), some (.int za), some (.int x1), some (.int (x2_3 + 1))]) hG dX0_firstBroken_56 rfl (by rfl) (by decide) (pm_c1b rfl) rfl ?_
            refine pm_goto (tgt := 10) hG dX0_firstBroken_59 rfl ?_
            exact ih10 _ hE
          · replace hE := fx_t c5 hE
            refine pm_aloadn hG dX0_firstBroken_41 rfl ?_
            refine pm_getf hG dX0_firstBroken_42 (flX0_25 _ rfl) rfl rfl ?_
            refine pm_iloadn hG dX0_firstBroken_45 rfl ?_
            refine pm_iconst (v := 3) hG dX0_firstBroken_46 (by decide) ?_
            refine pm_callV (As := [.int x2_3, .int 3]) (rest := []) hG hR dX0_firstBroken_47 (lkX0_39 _ rfl) okV_X9_get rfl rfl (tget_18 (d := 0)) rfl rfl hdd (Nat.le_refl _) (Nat.le_refl _) (by decide) (fx_ki ?_)
            refine pm_iconst (v := 1) hG dX0_firstBroken_50 (by decide) ?_
            refine pm_icmp_ne (tgt := 56) hG dX0_firstBroken_51 rfl (fun c6 => ?_) (fun c6 => ?_)
            · replace hE := fx_f c6 hE
              refine pm_iincX (v := x2_3 + 1) (loc' := [some (.ref (B + 31)), some (.int za), some (.int x1), some (.int (x2_3 + 1))]) hG dX0_firstBroken_56 rfl (by rfl) (by decide) (pm_c1b rfl) rfl ?_
              refine pm_goto (tgt := 10) hG dX0_firstBroken_59 rfl ?_
              exact ih10 _ hE
            · replace hE := fx_t c6 hE
              refine pm_iloadn hG dX0_firstBroken_54 rfl ?_
              exact pm_iret hG hF dX0_firstBroken_55 rfl (Nat.le_refl _) (Nat.le_refl _) (fx_pi (Option.some.inj hE))
  refine loop10 _ (fun  x7_3 hE => ?_) _ _ hE
  refine pm_iconst (v := (-1)) hG dX0_firstBroken_62 (by decide) ?_
  exact pm_iret hG hF dX0_firstBroken_63 rfl (Nat.le_refl _) (Nat.le_refl _) (fx_pi (Option.some.inj hE))

set_option maxRecDepth 100000 in
set_option maxHeartbeats 4000000 in
theorem c_X0_unseat {d : Nat} {B cnt : Nat} {kp : Value} {ρ : pm_S} {S : FS} {za : Int32} {R : Int32 × FS} (hdd : 3 ≤ d) (hE : f_X0_unseat S za = some R) : pm_met mX0_unseat d 0 0 B [.ref (B + 31), .int za] cnt (cst B kp S ρ) (pm_Qv (fun σ' cnt' => σ' = (cst B kp R.2 ρ) ∧ cnt' = cnt)) := by
  refine pm_enter 0 (by decide) (Nat.le_of_ble_eq_true rfl) rfl (fun G hG hR hF => ?_)
  unfold f_X0_unseat at hE
  refine pm_aloadn hG dX0_unseat_0 rfl ?_
  refine pm_getf hG dX0_unseat_1 (flX0_9 _ rfl) rfl rfl ?_
  refine pm_getf hG dX0_unseat_4 (flX0_63 _ rfl) rfl rfl ?_
  refine pm_iloadn hG dX0_unseat_7 rfl ?_
  refine pm_bipush (v := 13) hG dX0_unseat_8 (by decide) ?_
  refine pm_iconst (v := 0) hG dX0_unseat_10 (by decide) ?_
  refine pm_callV (As := [.int za, .int 13, .int 0]) (rest := []) hG hR dX0_unseat_11 (lkX0_55 _ rfl) okV_X9_set rfl rfl (tset_6 (d := 2)) rfl rfl hdd (Nat.le_refl _) (Nat.le_refl _) (by decide) (fx_kv ?_)
  refine fx_letc hE (fun S1 hE => ?_)
  refine pm_aloadn hG dX0_unseat_14 rfl ?_
  refine pm_iloadn hG dX0_unseat_15 rfl ?_
  refine pm_iconst (v := 1) hG dX0_unseat_16 (by decide) ?_
  obtain ⟨r3, h2, hE⟩ := fb_some hE
  refine pm_callV (As := [.int za, .int 1]) (rest := []) hG hR dX0_unseat_17 (lkX0_66 _ rfl) okV_X0_endAllOf rfl rfl (c_X0_endAllOf (d := 2) (by decide) h2) rfl rfl hdd (Nat.le_refl _) (Nat.le_refl _) (by decide) (fx_ki ?_)
  refine pm_pop hG dX0_unseat_20 rfl ?_
  exact pm_vret hG hF dX0_unseat_21 rfl (Nat.le_refl _) (Nat.le_refl _) (fx_rvc hE)

set_option maxRecDepth 100000 in
set_option maxHeartbeats 4000000 in
theorem c_X10_note {d : Nat} {B cnt : Nat} {kp : Value} {ρ : pm_S} {S : FS} {za : Int32} {R : Int32 × FS} (hdd : 1 ≤ d) (hE : f_X10_note S za = some R) : pm_met mX10_note d 0 0 B [.ref (B + 46), .int za] cnt (cst B kp S ρ) (pm_Qv (fun σ' cnt' => σ' = (cst B kp R.2 ρ) ∧ cnt' = cnt)) := by
  refine pm_enter 0 (by decide) (Nat.le_of_ble_eq_true rfl) rfl (fun G hG hR hF => ?_)
  unfold f_X10_note at hE
  refine pm_aloadn hG dX10_note_0 rfl ?_
  refine pm_getf hG dX10_note_1 (flX10_15 _ rfl) rfl rfl ?_
  refine pm_if_lt (tgt := 39) hG dX10_note_4 rfl (fun c1 => ?_) (fun c1 => ?_)
  · replace hE := fx_t c1 hE
    exact pm_vret hG hF dX10_note_39 rfl (Nat.le_refl _) (Nat.le_refl _) (fx_rvc hE)
  · replace hE := fx_f c1 hE
    refine pm_aloadn hG dX10_note_7 rfl ?_
    refine pm_getf hG dX10_note_8 (flX10_15 _ rfl) rfl rfl ?_
    refine pm_aloadn hG dX10_note_11 rfl ?_
    refine pm_getf hG dX10_note_12 (flX10_11 _ rfl) rfl rfl ?_
    refine pm_alen (v := 40) hG dX10_note_15 rfl (by decide) ?_
    refine pm_icmp_ge (tgt := 39) hG dX10_note_16 rfl (fun c2 => ?_) (fun c2 => ?_)
    · replace c2 := Int32.not_lt.mpr c2
      replace hE := fx_f c2 hE
      exact pm_vret hG hF dX10_note_39 rfl (Nat.le_refl _) (Nat.le_refl _) (fx_rvc hE)
    · replace c2 := Int32.not_le.mp c2
      replace hE := fx_t c2 hE
      refine pm_aloadn hG dX10_note_19 rfl ?_
      refine pm_getf hG dX10_note_20 (flX10_11 _ rfl) rfl rfl ?_
      refine pm_aloadn hG dX10_note_23 rfl ?_
      refine pm_getf hG dX10_note_24 (flX10_15 _ rfl) rfl rfl ?_
      refine pm_iloadn hG dX10_note_27 rfl ?_
      obtain ⟨j3, hj3, hE⟩ := fb_some hE
      refine fx_iast hG dX10_note_28 rfl hj3 ?_
      refine ca_47 ?_
      refine fx_letc hE (fun S4 hE => ?_)
      refine pm_aloadn hG dX10_note_29 rfl ?_
      refine pm_dup hG dX10_note_30 rfl ?_
      refine pm_getf hG dX10_note_31 (flX10_15 _ rfl) rfl rfl ?_
      refine pm_iconst (v := 1) hG dX10_note_34 (by decide) ?_
      refine pm_iadd hG dX10_note_35 ?_
      refine pm_putf hG dX10_note_36 (fwX10_15 _ rfl) rfl rfl rfl ?_
      refine ci_115 ?_
      refine fx_letc hE (fun S5 hE => ?_)
      exact pm_vret hG hF dX10_note_39 rfl (Nat.le_refl _) (Nat.le_refl _) (fx_rvc hE)

set_option maxRecDepth 100000 in
set_option maxHeartbeats 4000000 in
theorem c_X10_actOf_k0 {d : Nat} {B cnt : Nat} {kp : Value} {ρ : pm_S} {S : FS} {zb : Int32} {R : Int32 × FS} (hdd : 2 ≤ d) (hE : f_X10_actOf_k0 S zb = some R) : pm_met mX10_actOf d 0 0 B [.ref (B + 46), .int 0, .int zb] cnt (cst B kp S ρ) (pm_Qi (fun v σ' cnt' => v = R.1 ∧ σ' = (cst B kp R.2 ρ) ∧ cnt' = cnt)) := by
  refine pm_enter 0 (by decide) (Nat.le_of_ble_eq_true rfl) rfl (fun G hG hR hF => ?_)
  unfold f_X10_actOf_k0 at hE
  refine pm_iloadn hG dX10_actOf_0 rfl ?_
  refine pm_tswOut (tgt := 68) hG dX10_actOf_1 (by decide) rfl ?_
  refine pm_aloadn hG dX10_actOf_68 rfl ?_
  refine pm_bipush (v := 10) hG dX10_actOf_69 (by decide) ?_
  obtain ⟨r2, h1, hE⟩ := fb_some hE
  refine pm_callV (As := [.int 10]) (rest := []) hG hR dX10_actOf_71 (lkX10_41 _ rfl) okV_X10_note rfl rfl (c_X10_note (d := 1) (by decide) h1) rfl rfl hdd (Nat.le_refl _) (Nat.le_refl _) (by decide) (fx_kv ?_)
  refine pm_iloadn hG dX10_actOf_74 rfl ?_
  refine pm_aloadn hG dX10_actOf_75 rfl ?_
  refine pm_getf hG dX10_actOf_76 (flX10_25 _ rfl) rfl rfl ?_
  refine pm_iadd hG dX10_actOf_79 ?_
  exact pm_iret hG hF dX10_actOf_80 rfl (Nat.le_refl _) (Nat.le_refl _) (fx_ric hE)

set_option maxRecDepth 100000 in
set_option maxHeartbeats 4000000 in
theorem c_X10_actOf_k3 {d : Nat} {B cnt : Nat} {kp : Value} {ρ : pm_S} {S : FS} {zb : Int32} {R : Int32 × FS} (hdd : 3 ≤ d) (hE : f_X10_actOf_k3 S zb = some R) : pm_met mX10_actOf d 0 0 B [.ref (B + 46), .int 3, .int zb] cnt (cst B kp S ρ) (pm_Qi (fun v σ' cnt' => v = R.1 ∧ σ' = (cst B kp R.2 ρ) ∧ cnt' = cnt)) := by
  refine pm_enter 0 (by decide) (Nat.le_of_ble_eq_true rfl) rfl (fun G hG hR hF => ?_)
  unfold f_X10_actOf_k3 at hE
  refine pm_iloadn hG dX10_actOf_0 rfl ?_
  refine pm_tswIn (tgt := 50) hG dX10_actOf_1 (by decide) (by decide) rfl rfl ?_
  refine pm_aloadn hG dX10_actOf_50 rfl ?_
  refine pm_bipush (v := 20) hG dX10_actOf_51 (by decide) ?_
  obtain ⟨r2, h1, hE⟩ := fb_some hE
  refine pm_callV (As := [.int 20]) (rest := []) hG hR dX10_actOf_53 (lkX10_41 _ rfl) okV_X10_note rfl rfl (c_X10_note (d := 2) (by decide) h1) rfl rfl hdd (Nat.le_refl _) (Nat.le_refl _) (by decide) (fx_kv ?_)
  refine pm_aloadn hG dX10_actOf_56 rfl ?_
  refine pm_iconst (v := 0) hG dX10_actOf_57 (by decide) ?_
  refine pm_iloadn hG dX10_actOf_58 rfl ?_
  obtain ⟨r4, h3, hE⟩ := fb_some hE
  refine pm_callV (As := [.int 0, .int zb]) (rest := []) hG hR dX10_actOf_59 (lkX10_28 _ rfl) okV_X10_actOf rfl rfl (c_X10_actOf_k0 (d := 2) (by decide) h3) rfl rfl hdd (Nat.le_refl _) (Nat.le_refl _) (by decide) (fx_ki ?_)
  refine pm_aloadn hG dX10_actOf_62 rfl ?_
  refine pm_getf hG dX10_actOf_63 (flX10_22 _ rfl) rfl rfl ?_
  refine pm_iadd hG dX10_actOf_66 ?_
  exact pm_iret hG hF dX10_actOf_67 rfl (Nat.le_refl _) (Nat.le_refl _) (fx_ric hE)

set_option maxRecDepth 100000 in
set_option maxHeartbeats 4000000 in
theorem c_X10_actOf {d : Nat} {B cnt : Nat} {kp : Value} {ρ : pm_S} {S : FS} {za : Int32} {zb : Int32} {R : Int32 × FS} (hdd : 4 ≤ d) (hE : f_X10_actOf S za zb = some R) : pm_met mX10_actOf d 0 0 B [.ref (B + 46), .int za, .int zb] cnt (cst B kp S ρ) (pm_Qi (fun v σ' cnt' => v = R.1 ∧ σ' = (cst B kp R.2 ρ) ∧ cnt' = cnt)) := by
  refine pm_enter 0 (by decide) (Nat.le_of_ble_eq_true rfl) rfl (fun G hG hR hF => ?_)
  unfold f_X10_actOf at hE
  refine pm_iloadn hG dX10_actOf_0 rfl ?_
  by_cases c1 : za = 1
  · replace hE := fx_t c1 hE
    refine pm_top (v := 1) c1 ?_
    refine pm_tswIn (tgt := 50) hG dX10_actOf_1 (by decide) (by decide) rfl rfl ?_
    refine pm_aloadn hG dX10_actOf_50 rfl ?_
    refine pm_bipush (v := 20) hG dX10_actOf_51 (by decide) ?_
    obtain ⟨r3, h2, hE⟩ := fb_some hE
    refine pm_callV (As := [.int 20]) (rest := []) hG hR dX10_actOf_53 (lkX10_41 _ rfl) okV_X10_note rfl rfl (c_X10_note (d := 3) (by decide) h2) rfl rfl hdd (Nat.le_refl _) (Nat.le_refl _) (by decide) (fx_kv ?_)
    refine pm_aloadn hG dX10_actOf_56 rfl ?_
    refine pm_iconst (v := 0) hG dX10_actOf_57 (by decide) ?_
    refine pm_iloadn hG dX10_actOf_58 rfl ?_
    obtain ⟨r5, h4, hE⟩ := fb_some hE
    refine pm_callV (As := [.int 0, .int zb]) (rest := []) hG hR dX10_actOf_59 (lkX10_28 _ rfl) okV_X10_actOf rfl rfl (c_X10_actOf_k0 (d := 3) (by decide) h4) rfl rfl hdd (Nat.le_refl _) (Nat.le_refl _) (by decide) (fx_ki ?_)
    refine pm_aloadn hG dX10_actOf_62 rfl ?_
    refine pm_getf hG dX10_actOf_63 (flX10_22 _ rfl) rfl rfl ?_
    refine pm_iadd hG dX10_actOf_66 ?_
    exact pm_iret hG hF dX10_actOf_67 rfl (Nat.le_refl _) (Nat.le_refl _) (fx_ric hE)
  replace hE := fx_f c1 hE
  by_cases c6 : za = 2
  · replace hE := fx_t c6 hE
    refine pm_top (v := 2) c6 ?_
    refine pm_tswIn (tgt := 68) hG dX10_actOf_1 (by decide) (by decide) rfl rfl ?_
    refine pm_aloadn hG dX10_actOf_68 rfl ?_
    refine pm_bipush (v := 10) hG dX10_actOf_69 (by decide) ?_
    obtain ⟨r8, h7, hE⟩ := fb_some hE
    refine pm_callV (As := [.int 10]) (rest := []) hG hR dX10_actOf_71 (lkX10_41 _ rfl) okV_X10_note rfl rfl (c_X10_note (d := 3) (by decide) h7) rfl rfl hdd (Nat.le_refl _) (Nat.le_refl _) (by decide) (fx_kv ?_)
    refine pm_iloadn hG dX10_actOf_74 rfl ?_
    refine pm_aloadn hG dX10_actOf_75 rfl ?_
    refine pm_getf hG dX10_actOf_76 (flX10_25 _ rfl) rfl rfl ?_
    refine pm_iadd hG dX10_actOf_79 ?_
    exact pm_iret hG hF dX10_actOf_80 rfl (Nat.le_refl _) (Nat.le_refl _) (fx_ric hE)
  replace hE := fx_f c6 hE
  by_cases c9 : za = 3
  · replace hE := fx_t c9 hE
    refine pm_top (v := 3) c9 ?_
    refine pm_tswIn (tgt := 50) hG dX10_actOf_1 (by decide) (by decide) rfl rfl ?_
    refine pm_aloadn hG dX10_actOf_50 rfl ?_
    refine pm_bipush (v := 20) hG dX10_actOf_51 (by decide) ?_
    obtain ⟨r11, h10, hE⟩ := fb_some hE
    refine pm_callV (As := [.int 20]) (rest := []) hG hR dX10_actOf_53 (lkX10_41 _ rfl) okV_X10_note rfl rfl (c_X10_note (d := 3) (by decide) h10) rfl rfl hdd (Nat.le_refl _) (Nat.le_refl _) (by decide) (fx_kv ?_)
    refine pm_aloadn hG dX10_actOf_56 rfl ?_
    refine pm_iconst (v := 0) hG dX10_actOf_57 (by decide) ?_
    refine pm_iloadn hG dX10_actOf_58 rfl ?_
    obtain ⟨r13, h12, hE⟩ := fb_some hE
    refine pm_callV (As := [.int 0, .int zb]) (rest := []) hG hR dX10_actOf_59 (lkX10_28 _ rfl) okV_X10_actOf rfl rfl (c_X10_actOf_k0 (d := 3) (by decide) h12) rfl rfl hdd (Nat.le_refl _) (Nat.le_refl _) (by decide) (fx_ki ?_)
    refine pm_aloadn hG dX10_actOf_62 rfl ?_
    refine pm_getf hG dX10_actOf_63 (flX10_22 _ rfl) rfl rfl ?_
    refine pm_iadd hG dX10_actOf_66 ?_
    exact pm_iret hG hF dX10_actOf_67 rfl (Nat.le_refl _) (Nat.le_refl _) (fx_ric hE)
  replace hE := fx_f c9 hE
  by_cases c14 : za = 4
  · replace hE := fx_t c14 hE
    refine pm_top (v := 4) c14 ?_
    refine pm_tswIn (tgt := 32) hG dX10_actOf_1 (by decide) (by decide) rfl rfl ?_
    refine pm_aloadn hG dX10_actOf_32 rfl ?_
    refine pm_bipush (v := 50) hG dX10_actOf_33 (by decide) ?_
    obtain ⟨r16, h15, hE⟩ := fb_some hE
    refine pm_callV (As := [.int 50]) (rest := []) hG hR dX10_actOf_35 (lkX10_41 _ rfl) okV_X10_note rfl rfl (c_X10_note (d := 3) (by decide) h15) rfl rfl hdd (Nat.le_refl _) (Nat.le_refl _) (by decide) (fx_kv ?_)
    refine pm_aloadn hG dX10_actOf_38 rfl ?_
    refine pm_iconst (v := 3) hG dX10_actOf_39 (by decide) ?_
    refine pm_iloadn hG dX10_actOf_40 rfl ?_
    refine pm_aloadn hG dX10_actOf_41 rfl ?_
    refine pm_getf hG dX10_actOf_42 (flX10_25 _ rfl) rfl rfl ?_
    refine pm_isub hG dX10_actOf_45 ?_
    obtain ⟨r18, h17, hE⟩ := fb_some hE
    refine pm_callV (As := [.int 3, .int (zb - (r16.2.1 118))]) (rest := []) hG hR dX10_actOf_46 (lkX10_28 _ rfl) okV_X10_actOf rfl rfl (c_X10_actOf_k3 (d := 3) (by decide) h17) rfl rfl hdd (Nat.le_refl _) (Nat.le_refl _) (by decide) (fx_ki ?_)
    exact pm_iret hG hF dX10_actOf_49 rfl (Nat.le_refl _) (Nat.le_refl _) (fx_ric hE)
  replace hE := fx_f c14 hE
  have tc1 : ¬ za.toInt = 1 := fun q => c1 (Int32.toInt_inj.mp q)
  have tc6 : ¬ za.toInt = 2 := fun q => c6 (Int32.toInt_inj.mp q)
  have tc9 : ¬ za.toInt = 3 := fun q => c9 (Int32.toInt_inj.mp q)
  have tc14 : ¬ za.toInt = 4 := fun q => c14 (Int32.toInt_inj.mp q)
  refine pm_tswOut (tgt := 68) hG dX10_actOf_1 (by omega) rfl ?_
  refine pm_aloadn hG dX10_actOf_68 rfl ?_
  refine pm_bipush (v := 10) hG dX10_actOf_69 (by decide) ?_
  obtain ⟨r20, h19, hE⟩ := fb_some hE
  refine pm_callV (As := [.int 10]) (rest := []) hG hR dX10_actOf_71 (lkX10_41 _ rfl) okV_X10_note rfl rfl (c_X10_note (d := 3) (by decide) h19) rfl rfl hdd (Nat.le_refl _) (Nat.le_refl _) (by decide) (fx_kv ?_)
  refine pm_iloadn hG dX10_actOf_74 rfl ?_
  refine pm_aloadn hG dX10_actOf_75 rfl ?_
  refine pm_getf hG dX10_actOf_76 (flX10_25 _ rfl) rfl rfl ?_
  refine pm_iadd hG dX10_actOf_79 ?_
  exact pm_iret hG hF dX10_actOf_80 rfl (Nat.le_refl _) (Nat.le_refl _) (fx_ric hE)

set_option maxRecDepth 100000 in
set_option maxHeartbeats 4000000 in
theorem c_X10_begin {d : Nat} {B cnt : Nat} {kp : Value} {ρ : pm_S} {S : FS} {za : Int32} {zb : Int32} {zc : Int32} {R : Int32 × FS} (hdd : 1 ≤ d) (hE : f_X10_begin S za zb zc = some R) : pm_met mX10_begin d 0 0 B [.ref (B + 46), .int za, .int zb, .int zc] cnt (cst B kp S ρ) (pm_Qv (fun σ' cnt' => σ' = (cst B kp R.2 ρ) ∧ cnt' = cnt)) := by
  refine pm_enter 0 (by decide) (Nat.le_of_ble_eq_true rfl) rfl (fun G hG hR hF => ?_)
  unfold f_X10_begin at hE
  refine pm_aloadn hG dX10_begin_0 rfl ?_
  refine pm_iconst (v := 0) hG dX10_begin_1 (by decide) ?_
  refine pm_putf hG dX10_begin_2 (fwX10_15 _ rfl) rfl rfl rfl ?_
  refine ci_115 ?_
  refine fx_letc hE (fun S1 hE => ?_)
  refine pm_aloadn hG dX10_begin_5 rfl ?_
  refine pm_iloadn hG dX10_begin_6 rfl ?_
  refine pm_putf hG dX10_begin_7 (fwX10_19 _ rfl) rfl rfl rfl ?_
  refine ci_116 ?_
  refine fx_letc hE (fun S2 hE => ?_)
  refine pm_aloadn hG dX10_begin_10 rfl ?_
  refine pm_iloadn hG dX10_begin_11 rfl ?_
  refine pm_putf hG dX10_begin_12 (fwX10_22 _ rfl) rfl rfl rfl ?_
  refine ci_117 ?_
  refine fx_letc hE (fun S3 hE => ?_)
  refine pm_aloadn hG dX10_begin_15 rfl ?_
  refine pm_iloadn hG dX10_begin_16 rfl ?_
  refine pm_putf hG dX10_begin_17 (fwX10_25 _ rfl) rfl rfl rfl ?_
  refine ci_118 ?_
  refine fx_letc hE (fun S4 hE => ?_)
  exact pm_vret hG hF dX10_begin_20 rfl (Nat.le_refl _) (Nat.le_refl _) (fx_rvc hE)

set_option maxRecDepth 100000 in
set_option maxHeartbeats 4000000 in
theorem c_X10_bindOf_k1 {d : Nat} {B cnt : Nat} {kp : Value} {ρ : pm_S} {S : FS} {zb : Int32} {R : Int32 × FS} (hdd : 5 ≤ d) (hE : f_X10_bindOf_k1 S zb = some R) : pm_met mX10_bindOf d 0 0 B [.ref (B + 46), .int 1, .int zb] cnt (cst B kp S ρ) (pm_Qi (fun v σ' cnt' => v = R.1 ∧ σ' = (cst B kp R.2 ρ) ∧ cnt' = cnt)) := by
  refine pm_enter 0 (by decide) (Nat.le_of_ble_eq_true rfl) rfl (fun G hG hR hF => ?_)
  unfold f_X10_bindOf_k1 at hE
  refine pm_iloadn hG dX10_bindOf_0 rfl ?_
  refine pm_tswOut (tgt := 69) hG dX10_bindOf_1 (by decide) rfl ?_
  refine pm_aloadn hG dX10_bindOf_69 rfl ?_
  refine pm_bipush (v := 11) hG dX10_bindOf_70 (by decide) ?_
  obtain ⟨r2, h1, hE⟩ := fb_some hE
  refine pm_callV (As := [.int 11]) (rest := []) hG hR dX10_bindOf_72 (lkX10_41 _ rfl) okV_X10_note rfl rfl (c_X10_note (d := 4) (by decide) h1) rfl rfl hdd (Nat.le_refl _) (Nat.le_refl _) (by decide) (fx_kv ?_)
  refine pm_aloadn hG dX10_bindOf_75 rfl ?_
  refine pm_aloadn hG dX10_bindOf_76 rfl ?_
  refine pm_getf hG dX10_bindOf_77 (flX10_19 _ rfl) rfl rfl ?_
  refine pm_iloadn hG dX10_bindOf_80 rfl ?_
  obtain ⟨r4, h3, hE⟩ := fb_some hE
  refine pm_callV (As := [.int (r2.2.1 116), .int zb]) (rest := []) hG hR dX10_bindOf_81 (lkX10_28 _ rfl) okV_X10_actOf rfl rfl (c_X10_actOf (d := 4) (by decide) h3) rfl rfl hdd (Nat.le_refl _) (Nat.le_refl _) (by decide) (fx_ki ?_)
  refine pm_iconst (v := 2) hG dX10_bindOf_84 (by decide) ?_
  refine pm_imul hG dX10_bindOf_85 ?_
  exact pm_iret hG hF dX10_bindOf_86 rfl (Nat.le_refl _) (Nat.le_refl _) (fx_ric hE)

set_option maxRecDepth 100000 in
set_option maxHeartbeats 4000000 in
theorem c_X10_bindOf_k0 {d : Nat} {B cnt : Nat} {kp : Value} {ρ : pm_S} {S : FS} {zb : Int32} {R : Int32 × FS} (hdd : 5 ≤ d) (hE : f_X10_bindOf_k0 S zb = some R) : pm_met mX10_bindOf d 0 0 B [.ref (B + 46), .int 0, .int zb] cnt (cst B kp S ρ) (pm_Qi (fun v σ' cnt' => v = R.1 ∧ σ' = (cst B kp R.2 ρ) ∧ cnt' = cnt)) := by
  refine pm_enter 0 (by decide) (Nat.le_of_ble_eq_true rfl) rfl (fun G hG hR hF => ?_)
  unfold f_X10_bindOf_k0 at hE
  refine pm_iloadn hG dX10_bindOf_0 rfl ?_
  refine pm_tswOut (tgt := 69) hG dX10_bindOf_1 (by decide) rfl ?_
  refine pm_aloadn hG dX10_bindOf_69 rfl ?_
  refine pm_bipush (v := 11) hG dX10_bindOf_70 (by decide) ?_
  obtain ⟨r2, h1, hE⟩ := fb_some hE
  refine pm_callV (As := [.int 11]) (rest := []) hG hR dX10_bindOf_72 (lkX10_41 _ rfl) okV_X10_note rfl rfl (c_X10_note (d := 4) (by decide) h1) rfl rfl hdd (Nat.le_refl _) (Nat.le_refl _) (by decide) (fx_kv ?_)
  refine pm_aloadn hG dX10_bindOf_75 rfl ?_
  refine pm_aloadn hG dX10_bindOf_76 rfl ?_
  refine pm_getf hG dX10_bindOf_77 (flX10_19 _ rfl) rfl rfl ?_
  refine pm_iloadn hG dX10_bindOf_80 rfl ?_
  obtain ⟨r4, h3, hE⟩ := fb_some hE
  refine pm_callV (As := [.int (r2.2.1 116), .int zb]) (rest := []) hG hR dX10_bindOf_81 (lkX10_28 _ rfl) okV_X10_actOf rfl rfl (c_X10_actOf (d := 4) (by decide) h3) rfl rfl hdd (Nat.le_refl _) (Nat.le_refl _) (by decide) (fx_ki ?_)
  refine pm_iconst (v := 2) hG dX10_bindOf_84 (by decide) ?_
  refine pm_imul hG dX10_bindOf_85 ?_
  exact pm_iret hG hF dX10_bindOf_86 rfl (Nat.le_refl _) (Nat.le_refl _) (fx_ric hE)

set_option maxRecDepth 100000 in
set_option maxHeartbeats 4000000 in
theorem c_X10_bindOf {d : Nat} {B cnt : Nat} {kp : Value} {ρ : pm_S} {S : FS} {za : Int32} {zb : Int32} {R : Int32 × FS} (hdd : 6 ≤ d) (hE : f_X10_bindOf S za zb = some R) : pm_met mX10_bindOf d 0 0 B [.ref (B + 46), .int za, .int zb] cnt (cst B kp S ρ) (pm_Qi (fun v σ' cnt' => v = R.1 ∧ σ' = (cst B kp R.2 ρ) ∧ cnt' = cnt)) := by
  refine pm_enter 0 (by decide) (Nat.le_of_ble_eq_true rfl) rfl (fun G hG hR hF => ?_)
  unfold f_X10_bindOf at hE
  refine pm_iloadn hG dX10_bindOf_0 rfl ?_
  by_cases c1 : za = 3
  · replace hE := fx_t c1 hE
    refine pm_top (v := 3) c1 ?_
    refine pm_tswIn (tgt := 28) hG dX10_bindOf_1 (by decide) (by decide) rfl rfl ?_
    refine pm_aloadn hG dX10_bindOf_28 rfl ?_
    refine pm_bipush (v := 40) hG dX10_bindOf_29 (by decide) ?_
    obtain ⟨r3, h2, hE⟩ := fb_some hE
    refine pm_callV (As := [.int 40]) (rest := []) hG hR dX10_bindOf_31 (lkX10_41 _ rfl) okV_X10_note rfl rfl (c_X10_note (d := 5) (by decide) h2) rfl rfl hdd (Nat.le_refl _) (Nat.le_refl _) (by decide) (fx_kv ?_)
    refine pm_aloadn hG dX10_bindOf_34 rfl ?_
    refine pm_iconst (v := 1) hG dX10_bindOf_35 (by decide) ?_
    refine pm_iloadn hG dX10_bindOf_36 rfl ?_
    obtain ⟨r5, h4, hE⟩ := fb_some hE
    refine pm_callV (As := [.int 1, .int zb]) (rest := []) hG hR dX10_bindOf_37 (lkX10_32 _ rfl) okV_X10_bindOf rfl rfl (c_X10_bindOf_k1 (d := 5) (by decide) h4) rfl rfl hdd (Nat.le_refl _) (Nat.le_refl _) (by decide) (fx_ki ?_)
    refine pm_aloadn hG dX10_bindOf_40 rfl ?_
    refine pm_aloadn hG dX10_bindOf_41 rfl ?_
    refine pm_getf hG dX10_bindOf_42 (flX10_19 _ rfl) rfl rfl ?_
    refine pm_iloadn hG dX10_bindOf_45 rfl ?_
    obtain ⟨r7, h6, hE⟩ := fb_some hE
    refine pm_callV (As := [.int (r5.2.1 116), .int zb]) (rest := [.int r5.1]) hG hR dX10_bindOf_46 (lkX10_28 _ rfl) okV_X10_actOf rfl rfl (c_X10_actOf (d := 5) (by decide) h6) rfl rfl hdd (Nat.le_refl _) (Nat.le_refl _) (by first | decide | exact Nat.le_of_ble_eq_true rfl) (fx_ki ?_)
    refine pm_isub hG dX10_bindOf_49 ?_
    exact pm_iret hG hF dX10_bindOf_50 rfl (Nat.le_refl _) (Nat.le_refl _) (fx_ric hE)
  replace hE := fx_f c1 hE
  by_cases c8 : za = 4
  · replace hE := fx_t c8 hE
    refine pm_top (v := 4) c8 ?_
    refine pm_tswIn (tgt := 28) hG dX10_bindOf_1 (by decide) (by decide) rfl rfl ?_
    refine pm_aloadn hG dX10_bindOf_28 rfl ?_
    refine pm_bipush (v := 40) hG dX10_bindOf_29 (by decide) ?_
    obtain ⟨r10, h9, hE⟩ := fb_some hE
    refine pm_callV (As := [.int 40]) (rest := []) hG hR dX10_bindOf_31 (lkX10_41 _ rfl) okV_X10_note rfl rfl (c_X10_note (d := 5) (by decide) h9) rfl rfl hdd (Nat.le_refl _) (Nat.le_refl _) (by decide) (fx_kv ?_)
    refine pm_aloadn hG dX10_bindOf_34 rfl ?_
    refine pm_iconst (v := 1) hG dX10_bindOf_35 (by decide) ?_
    refine pm_iloadn hG dX10_bindOf_36 rfl ?_
    obtain ⟨r12, h11, hE⟩ := fb_some hE
    refine pm_callV (As := [.int 1, .int zb]) (rest := []) hG hR dX10_bindOf_37 (lkX10_32 _ rfl) okV_X10_bindOf rfl rfl (c_X10_bindOf_k1 (d := 5) (by decide) h11) rfl rfl hdd (Nat.le_refl _) (Nat.le_refl _) (by decide) (fx_ki ?_)
    refine pm_aloadn hG dX10_bindOf_40 rfl ?_
    refine pm_aloadn hG dX10_bindOf_41 rfl ?_
    refine pm_getf hG dX10_bindOf_42 (flX10_19 _ rfl) rfl rfl ?_
    refine pm_iloadn hG dX10_bindOf_45 rfl ?_
    obtain ⟨r14, h13, hE⟩ := fb_some hE
    refine pm_callV (As := [.int (r12.2.1 116), .int zb]) (rest := [.int r12.1]) hG hR dX10_bindOf_46 (lkX10_28 _ rfl) okV_X10_actOf rfl rfl (c_X10_actOf (d := 5) (by decide) h13) rfl rfl hdd (Nat.le_refl _) (Nat.le_refl _) (by first | decide | exact Nat.le_of_ble_eq_true rfl) (fx_ki ?_)
    refine pm_isub hG dX10_bindOf_49 ?_
    exact pm_iret hG hF dX10_bindOf_50 rfl (Nat.le_refl _) (Nat.le_refl _) (fx_ric hE)
  replace hE := fx_f c8 hE
  by_cases c15 : za = 5
  · replace hE := fx_t c15 hE
    refine pm_top (v := 5) c15 ?_
    refine pm_tswIn (tgt := 51) hG dX10_bindOf_1 (by decide) (by decide) rfl rfl ?_
    refine pm_aloadn hG dX10_bindOf_51 rfl ?_
    refine pm_bipush (v := 60) hG dX10_bindOf_52 (by decide) ?_
    obtain ⟨r17, h16, hE⟩ := fb_some hE
    refine pm_callV (As := [.int 60]) (rest := []) hG hR dX10_bindOf_54 (lkX10_41 _ rfl) okV_X10_note rfl rfl (c_X10_note (d := 5) (by decide) h16) rfl rfl hdd (Nat.le_refl _) (Nat.le_refl _) (by decide) (fx_kv ?_)
    refine pm_aloadn hG dX10_bindOf_57 rfl ?_
    refine pm_iconst (v := 0) hG dX10_bindOf_58 (by decide) ?_
    refine pm_iloadn hG dX10_bindOf_59 rfl ?_
    obtain ⟨r19, h18, hE⟩ := fb_some hE
    refine pm_callV (As := [.int 0, .int zb]) (rest := []) hG hR dX10_bindOf_60 (lkX10_32 _ rfl) okV_X10_bindOf rfl rfl (c_X10_bindOf_k0 (d := 5) (by decide) h18) rfl rfl hdd (Nat.le_refl _) (Nat.le_refl _) (by decide) (fx_ki ?_)
    refine pm_aloadn hG dX10_bindOf_63 rfl ?_
    refine pm_getf hG dX10_bindOf_64 (flX10_25 _ rfl) rfl rfl ?_
    refine pm_iadd hG dX10_bindOf_67 ?_
    exact pm_iret hG hF dX10_bindOf_68 rfl (Nat.le_refl _) (Nat.le_refl _) (fx_ric hE)
  replace hE := fx_f c15 hE
  have tc1 : ¬ za.toInt = 3 := fun q => c1 (Int32.toInt_inj.mp q)
  have tc8 : ¬ za.toInt = 4 := fun q => c8 (Int32.toInt_inj.mp q)
  have tc15 : ¬ za.toInt = 5 := fun q => c15 (Int32.toInt_inj.mp q)
  refine pm_tswOut (tgt := 69) hG dX10_bindOf_1 (by omega) rfl ?_
  refine pm_aloadn hG dX10_bindOf_69 rfl ?_
  refine pm_bipush (v := 11) hG dX10_bindOf_70 (by decide) ?_
  obtain ⟨r21, h20, hE⟩ := fb_some hE
  refine pm_callV (As := [.int 11]) (rest := []) hG hR dX10_bindOf_72 (lkX10_41 _ rfl) okV_X10_note rfl rfl (c_X10_note (d := 5) (by decide) h20) rfl rfl hdd (Nat.le_refl _) (Nat.le_refl _) (by decide) (fx_kv ?_)
  refine pm_aloadn hG dX10_bindOf_75 rfl ?_
  refine pm_aloadn hG dX10_bindOf_76 rfl ?_
  refine pm_getf hG dX10_bindOf_77 (flX10_19 _ rfl) rfl rfl ?_
  refine pm_iloadn hG dX10_bindOf_80 rfl ?_
  obtain ⟨r23, h22, hE⟩ := fb_some hE
  refine pm_callV (As := [.int (r21.2.1 116), .int zb]) (rest := []) hG hR dX10_bindOf_81 (lkX10_28 _ rfl) okV_X10_actOf rfl rfl (c_X10_actOf (d := 5) (by decide) h22) rfl rfl hdd (Nat.le_refl _) (Nat.le_refl _) (by decide) (fx_ki ?_)
  refine pm_iconst (v := 2) hG dX10_bindOf_84 (by decide) ?_
  refine pm_imul hG dX10_bindOf_85 ?_
  exact pm_iret hG hF dX10_bindOf_86 rfl (Nat.le_refl _) (Nat.le_refl _) (fx_ric hE)

set_option maxRecDepth 100000 in
set_option maxHeartbeats 4000000 in
theorem c_X10_bodyAt {d : Nat} {B cnt : Nat} {kp : Value} {ρ : pm_S} {S : FS} {za : Int32} {R : Int32} (hdd : 1 ≤ d) (hE : q_X10_bodyAt S za = some R) : pm_met mX10_bodyAt d 0 0 B [.ref (B + 46), .int za] cnt (cst B kp S ρ) (pm_Qi (fun v σ' cnt' => v = R ∧ σ' = (cst B kp S ρ) ∧ cnt' = cnt)) := by
  refine pm_enter 0 (by decide) (Nat.le_of_ble_eq_true rfl) rfl (fun G hG hR hF => ?_)
  unfold q_X10_bodyAt at hE
  refine pm_iloadn hG dX10_bodyAt_0 rfl ?_
  refine pm_if_lt (tgt := 30) hG dX10_bodyAt_1 rfl (fun c1 => ?_) (fun c1 => ?_)
  · replace hE := fx_t c1 hE
    refine pm_iconst (v := 0) hG dX10_bodyAt_30 (by decide) ?_
    exact pm_iret hG hF dX10_bodyAt_31 rfl (Nat.le_refl _) (Nat.le_refl _) (fx_pi (Option.some.inj hE))
  · replace hE := fx_f c1 hE
    refine pm_iloadn hG dX10_bodyAt_4 rfl ?_
    refine pm_aloadn hG dX10_bodyAt_5 rfl ?_
    refine pm_getf hG dX10_bodyAt_6 (flX10_15 _ rfl) rfl rfl ?_
    refine pm_icmp_ge (tgt := 30) hG dX10_bodyAt_9 rfl (fun c2 => ?_) (fun c2 => ?_)
    · replace c2 := Int32.not_lt.mpr c2
      replace hE := fx_f c2 hE
      refine pm_iconst (v := 0) hG dX10_bodyAt_30 (by decide) ?_
      exact pm_iret hG hF dX10_bodyAt_31 rfl (Nat.le_refl _) (Nat.le_refl _) (fx_pi (Option.some.inj hE))
    · replace c2 := Int32.not_le.mp c2
      replace hE := fx_t c2 hE
      refine pm_iloadn hG dX10_bodyAt_12 rfl ?_
      refine pm_aloadn hG dX10_bodyAt_13 rfl ?_
      refine pm_getf hG dX10_bodyAt_14 (flX10_11 _ rfl) rfl rfl ?_
      refine pm_alen (v := 40) hG dX10_bodyAt_17 rfl (by decide) ?_
      refine pm_icmp_ge (tgt := 30) hG dX10_bodyAt_18 rfl (fun c3 => ?_) (fun c3 => ?_)
      · replace c3 := Int32.not_lt.mpr c3
        replace hE := fx_f c3 hE
        refine pm_iconst (v := 0) hG dX10_bodyAt_30 (by decide) ?_
        exact pm_iret hG hF dX10_bodyAt_31 rfl (Nat.le_refl _) (Nat.le_refl _) (fx_pi (Option.some.inj hE))
      · replace c3 := Int32.not_le.mp c3
        replace hE := fx_t c3 hE
        refine pm_aloadn hG dX10_bodyAt_21 rfl ?_
        refine pm_getf hG dX10_bodyAt_22 (flX10_11 _ rfl) rfl rfl ?_
        refine pm_iloadn hG dX10_bodyAt_25 rfl ?_
        obtain ⟨j4, hj4, hE⟩ := fb_some hE
        refine fx_iald hG dX10_bodyAt_26 rfl hj4 ?_
        refine pm_goto (tgt := 31) hG dX10_bodyAt_27 rfl ?_
        exact pm_iret hG hF dX10_bodyAt_31 rfl (Nat.le_refl _) (Nat.le_refl _) (fx_pi (Option.some.inj hE))

set_option maxRecDepth 100000 in
set_option maxHeartbeats 4000000 in
theorem c_X10_rankOf_k0 {d : Nat} {B cnt : Nat} {kp : Value} {ρ : pm_S} {S : FS} {zb : Int32} {R : Int32 × FS} (hdd : 2 ≤ d) (hE : f_X10_rankOf_k0 S zb = some R) : pm_met mX10_rankOf d 0 0 B [.ref (B + 46), .int 0, .int zb] cnt (cst B kp S ρ) (pm_Qi (fun v σ' cnt' => v = R.1 ∧ σ' = (cst B kp R.2 ρ) ∧ cnt' = cnt)) := by
  refine pm_enter 0 (by decide) (Nat.le_of_ble_eq_true rfl) rfl (fun G hG hR hF => ?_)
  unfold f_X10_rankOf_k0 at hE
  refine pm_iloadn hG dX10_rankOf_0 rfl ?_
  refine pm_iconst (v := 2) hG dX10_rankOf_1 (by decide) ?_
  refine pm_icmp_ne (tgt := 20) hG dX10_rankOf_2 rfl (fun _ => ?_) (fun q => absurd q (by decide))
  refine pm_aloadn hG dX10_rankOf_20 rfl ?_
  refine pm_bipush (v := 12) hG dX10_rankOf_21 (by decide) ?_
  obtain ⟨r2, h1, hE⟩ := fb_some hE
  refine pm_callV (As := [.int 12]) (rest := []) hG hR dX10_rankOf_23 (lkX10_41 _ rfl) okV_X10_note rfl rfl (c_X10_note (d := 1) (by decide) h1) rfl rfl hdd (Nat.le_refl _) (Nat.le_refl _) (by decide) (fx_kv ?_)
  refine pm_iloadn hG dX10_rankOf_26 rfl ?_
  refine pm_aloadn hG dX10_rankOf_27 rfl ?_
  refine pm_getf hG dX10_rankOf_28 (flX10_22 _ rfl) rfl rfl ?_
  refine pm_isub hG dX10_rankOf_31 ?_
  exact pm_iret hG hF dX10_rankOf_32 rfl (Nat.le_refl _) (Nat.le_refl _) (fx_ric hE)

set_option maxRecDepth 100000 in
set_option maxHeartbeats 4000000 in
theorem c_X10_rankOf {d : Nat} {B cnt : Nat} {kp : Value} {ρ : pm_S} {S : FS} {za : Int32} {zb : Int32} {R : Int32 × FS} (hdd : 3 ≤ d) (hE : f_X10_rankOf S za zb = some R) : pm_met mX10_rankOf d 0 0 B [.ref (B + 46), .int za, .int zb] cnt (cst B kp S ρ) (pm_Qi (fun v σ' cnt' => v = R.1 ∧ σ' = (cst B kp R.2 ρ) ∧ cnt' = cnt)) := by
  refine pm_enter 0 (by decide) (Nat.le_of_ble_eq_true rfl) rfl (fun G hG hR hF => ?_)
  unfold f_X10_rankOf at hE
  refine pm_iloadn hG dX10_rankOf_0 rfl ?_
  refine pm_iconst (v := 2) hG dX10_rankOf_1 (by decide) ?_
  refine pm_icmp_ne (tgt := 20) hG dX10_rankOf_2 rfl (fun c1 => ?_) (fun c1 => ?_)
  · replace hE := fx_f c1 hE
    refine pm_aloadn hG dX10_rankOf_20 rfl ?_
    refine pm_bipush (v := 12) hG dX10_rankOf_21 (by decide) ?_
    obtain ⟨r3, h2, hE⟩ := fb_some hE
    refine pm_callV (As := [.int 12]) (rest := []) hG hR dX10_rankOf_23 (lkX10_41 _ rfl) okV_X10_note rfl rfl (c_X10_note (d := 2) (by decide) h2) rfl rfl hdd (Nat.le_refl _) (Nat.le_refl _) (by decide) (fx_kv ?_)
    refine pm_iloadn hG dX10_rankOf_26 rfl ?_
    refine pm_aloadn hG dX10_rankOf_27 rfl ?_
    refine pm_getf hG dX10_rankOf_28 (flX10_22 _ rfl) rfl rfl ?_
    refine pm_isub hG dX10_rankOf_31 ?_
    exact pm_iret hG hF dX10_rankOf_32 rfl (Nat.le_refl _) (Nat.le_refl _) (fx_ric hE)
  · replace hE := fx_t c1 hE
    refine pm_aloadn hG dX10_rankOf_5 rfl ?_
    refine pm_bipush (v := 30) hG dX10_rankOf_6 (by decide) ?_
    obtain ⟨r5, h4, hE⟩ := fb_some hE
    refine pm_callV (As := [.int 30]) (rest := []) hG hR dX10_rankOf_8 (lkX10_41 _ rfl) okV_X10_note rfl rfl (c_X10_note (d := 2) (by decide) h4) rfl rfl hdd (Nat.le_refl _) (Nat.le_refl _) (by decide) (fx_kv ?_)
    refine pm_aloadn hG dX10_rankOf_11 rfl ?_
    refine pm_iconst (v := 0) hG dX10_rankOf_12 (by decide) ?_
    refine pm_iloadn hG dX10_rankOf_13 rfl ?_
    obtain ⟨r7, h6, hE⟩ := fb_some hE
    refine pm_callV (As := [.int 0, .int zb]) (rest := []) hG hR dX10_rankOf_14 (lkX10_35 _ rfl) okV_X10_rankOf rfl rfl (c_X10_rankOf_k0 (d := 2) (by decide) h6) rfl rfl hdd (Nat.le_refl _) (Nat.le_refl _) (by decide) (fx_ki ?_)
    refine pm_iconst (v := 3) hG dX10_rankOf_17 (by decide) ?_
    refine pm_imul hG dX10_rankOf_18 ?_
    exact pm_iret hG hF dX10_rankOf_19 rfl (Nat.le_refl _) (Nat.le_refl _) (fx_ric hE)

set_option maxRecDepth 100000 in
set_option maxHeartbeats 4000000 in
theorem c_X10_tellOf_k0 {d : Nat} {B cnt : Nat} {kp : Value} {ρ : pm_S} {S : FS} {zb : Int32} {R : Int32 × FS} (hdd : 7 ≤ d) (hE : f_X10_tellOf_k0 S zb = some R) : pm_met mX10_tellOf d 0 0 B [.ref (B + 46), .int 0, .int zb] cnt (cst B kp S ρ) (pm_Qi (fun v σ' cnt' => v = R.1 ∧ σ' = (cst B kp R.2 ρ) ∧ cnt' = cnt)) := by
  refine pm_enter 0 (by decide) (Nat.le_of_ble_eq_true rfl) rfl (fun G hG hR hF => ?_)
  unfold f_X10_tellOf_k0 at hE
  refine pm_iloadn hG dX10_tellOf_0 rfl ?_
  refine pm_tswOut (tgt := 70) hG dX10_tellOf_1 (by decide) rfl ?_
  refine pm_aloadn hG dX10_tellOf_70 rfl ?_
  refine pm_bipush (v := 13) hG dX10_tellOf_71 (by decide) ?_
  obtain ⟨r2, h1, hE⟩ := fb_some hE
  refine pm_callV (As := [.int 13]) (rest := []) hG hR dX10_tellOf_73 (lkX10_41 _ rfl) okV_X10_note rfl rfl (c_X10_note (d := 6) (by decide) h1) rfl rfl hdd (Nat.le_refl _) (Nat.le_refl _) (by decide) (fx_kv ?_)
  refine pm_aloadn hG dX10_tellOf_76 rfl ?_
  refine pm_aloadn hG dX10_tellOf_77 rfl ?_
  refine pm_getf hG dX10_tellOf_78 (flX10_19 _ rfl) rfl rfl ?_
  refine pm_iloadn hG dX10_tellOf_81 rfl ?_
  obtain ⟨r4, h3, hE⟩ := fb_some hE
  refine pm_callV (As := [.int (r2.2.1 116), .int zb]) (rest := []) hG hR dX10_tellOf_82 (lkX10_32 _ rfl) okV_X10_bindOf rfl rfl (c_X10_bindOf (d := 6) (by decide) h3) rfl rfl hdd (Nat.le_refl _) (Nat.le_refl _) (by decide) (fx_ki ?_)
  refine pm_aloadn hG dX10_tellOf_85 rfl ?_
  refine pm_aloadn hG dX10_tellOf_86 rfl ?_
  refine pm_getf hG dX10_tellOf_87 (flX10_19 _ rfl) rfl rfl ?_
  refine pm_iloadn hG dX10_tellOf_90 rfl ?_
  obtain ⟨r6, h5, hE⟩ := fb_some hE
  refine pm_callV (As := [.int (r4.2.1 116), .int zb]) (rest := [.int r4.1]) hG hR dX10_tellOf_91 (lkX10_35 _ rfl) okV_X10_rankOf rfl rfl (c_X10_rankOf (d := 6) (by decide) h5) rfl rfl hdd (Nat.le_refl _) (Nat.le_refl _) (by first | decide | exact Nat.le_of_ble_eq_true rfl) (fx_ki ?_)
  refine pm_ixor hG dX10_tellOf_94 ?_
  exact pm_iret hG hF dX10_tellOf_95 rfl (Nat.le_refl _) (Nat.le_refl _) (fx_ric hE)

set_option maxRecDepth 100000 in
set_option maxHeartbeats 4000000 in
theorem c_X10_tellOf_k3 {d : Nat} {B cnt : Nat} {kp : Value} {ρ : pm_S} {S : FS} {zb : Int32} {R : Int32 × FS} (hdd : 8 ≤ d) (hE : f_X10_tellOf_k3 S zb = some R) : pm_met mX10_tellOf d 0 0 B [.ref (B + 46), .int 3, .int zb] cnt (cst B kp S ρ) (pm_Qi (fun v σ' cnt' => v = R.1 ∧ σ' = (cst B kp R.2 ρ) ∧ cnt' = cnt)) := by
  refine pm_enter 0 (by decide) (Nat.le_of_ble_eq_true rfl) rfl (fun G hG hR hF => ?_)
  unfold f_X10_tellOf_k3 at hE
  refine pm_iloadn hG dX10_tellOf_0 rfl ?_
  refine pm_tswIn (tgt := 55) hG dX10_tellOf_1 (by decide) (by decide) rfl rfl ?_
  refine pm_aloadn hG dX10_tellOf_55 rfl ?_
  refine pm_bipush (v := 21) hG dX10_tellOf_56 (by decide) ?_
  obtain ⟨r2, h1, hE⟩ := fb_some hE
  refine pm_callV (As := [.int 21]) (rest := []) hG hR dX10_tellOf_58 (lkX10_41 _ rfl) okV_X10_note rfl rfl (c_X10_note (d := 7) (by decide) h1) rfl rfl hdd (Nat.le_refl _) (Nat.le_refl _) (by decide) (fx_kv ?_)
  refine pm_aloadn hG dX10_tellOf_61 rfl ?_
  refine pm_iconst (v := 0) hG dX10_tellOf_62 (by decide) ?_
  refine pm_iloadn hG dX10_tellOf_63 rfl ?_
  refine pm_iconst (v := 1) hG dX10_tellOf_64 (by decide) ?_
  refine pm_iadd hG dX10_tellOf_65 ?_
  obtain ⟨r4, h3, hE⟩ := fb_some hE
  refine pm_callV (As := [.int 0, .int (zb + 1)]) (rest := []) hG hR dX10_tellOf_66 (lkX10_38 _ rfl) okV_X10_tellOf rfl rfl (c_X10_tellOf_k0 (d := 7) (by decide) h3) rfl rfl hdd (Nat.le_refl _) (Nat.le_refl _) (by decide) (fx_ki ?_)
  exact pm_iret hG hF dX10_tellOf_69 rfl (Nat.le_refl _) (Nat.le_refl _) (fx_ric hE)

set_option maxRecDepth 100000 in
set_option maxHeartbeats 4000000 in
theorem c_X10_tellOf {d : Nat} {B cnt : Nat} {kp : Value} {ρ : pm_S} {S : FS} {za : Int32} {zb : Int32} {R : Int32 × FS} (hdd : 9 ≤ d) (hE : f_X10_tellOf S za zb = some R) : pm_met mX10_tellOf d 0 0 B [.ref (B + 46), .int za, .int zb] cnt (cst B kp S ρ) (pm_Qi (fun v σ' cnt' => v = R.1 ∧ σ' = (cst B kp R.2 ρ) ∧ cnt' = cnt)) := by
  refine pm_enter 0 (by decide) (Nat.le_of_ble_eq_true rfl) rfl (fun G hG hR hF => ?_)
  unfold f_X10_tellOf at hE
  refine pm_iloadn hG dX10_tellOf_0 rfl ?_
  by_cases c1 : za = 1
  · replace hE := fx_t c1 hE
    refine pm_top (v := 1) c1 ?_
    refine pm_tswIn (tgt := 55) hG dX10_tellOf_1 (by decide) (by decide) rfl rfl ?_
    refine pm_aloadn hG dX10_tellOf_55 rfl ?_
    refine pm_bipush (v := 21) hG dX10_tellOf_56 (by decide) ?_
    obtain ⟨r3, h2, hE⟩ := fb_some hE
    refine pm_callV (As := [.int 21]) (rest := []) hG hR dX10_tellOf_58 (lkX10_41 _ rfl) okV_X10_note rfl rfl (c_X10_note (d := 8) (by decide) h2) rfl rfl hdd (Nat.le_refl _) (Nat.le_refl _) (by decide) (fx_kv ?_)
    refine pm_aloadn hG dX10_tellOf_61 rfl ?_
    refine pm_iconst (v := 0) hG dX10_tellOf_62 (by decide) ?_
    refine pm_iloadn hG dX10_tellOf_63 rfl ?_
    refine pm_iconst (v := 1) hG dX10_tellOf_64 (by decide) ?_
    refine pm_iadd hG dX10_tellOf_65 ?_
    obtain ⟨r5, h4, hE⟩ := fb_some hE
    refine pm_callV (As := [.int 0, .int (zb + 1)]) (rest := []) hG hR dX10_tellOf_66 (lkX10_38 _ rfl) okV_X10_tellOf rfl rfl (c_X10_tellOf_k0 (d := 8) (by decide) h4) rfl rfl hdd (Nat.le_refl _) (Nat.le_refl _) (by decide) (fx_ki ?_)
    exact pm_iret hG hF dX10_tellOf_69 rfl (Nat.le_refl _) (Nat.le_refl _) (fx_ric hE)
  replace hE := fx_f c1 hE
  by_cases c6 : za = 2
  · replace hE := fx_t c6 hE
    refine pm_top (v := 2) c6 ?_
    refine pm_tswIn (tgt := 70) hG dX10_tellOf_1 (by decide) (by decide) rfl rfl ?_
    refine pm_aloadn hG dX10_tellOf_70 rfl ?_
    refine pm_bipush (v := 13) hG dX10_tellOf_71 (by decide) ?_
    obtain ⟨r8, h7, hE⟩ := fb_some hE
    refine pm_callV (As := [.int 13]) (rest := []) hG hR dX10_tellOf_73 (lkX10_41 _ rfl) okV_X10_note rfl rfl (c_X10_note (d := 8) (by decide) h7) rfl rfl hdd (Nat.le_refl _) (Nat.le_refl _) (by decide) (fx_kv ?_)
    refine pm_aloadn hG dX10_tellOf_76 rfl ?_
    refine pm_aloadn hG dX10_tellOf_77 rfl ?_
    refine pm_getf hG dX10_tellOf_78 (flX10_19 _ rfl) rfl rfl ?_
    refine pm_iloadn hG dX10_tellOf_81 rfl ?_
    obtain ⟨r10, h9, hE⟩ := fb_some hE
    refine pm_callV (As := [.int (r8.2.1 116), .int zb]) (rest := []) hG hR dX10_tellOf_82 (lkX10_32 _ rfl) okV_X10_bindOf rfl rfl (c_X10_bindOf (d := 8) (by decide) h9) rfl rfl hdd (Nat.le_refl _) (Nat.le_refl _) (by decide) (fx_ki ?_)
    refine pm_aloadn hG dX10_tellOf_85 rfl ?_
    refine pm_aloadn hG dX10_tellOf_86 rfl ?_
    refine pm_getf hG dX10_tellOf_87 (flX10_19 _ rfl) rfl rfl ?_
    refine pm_iloadn hG dX10_tellOf_90 rfl ?_
    obtain ⟨r12, h11, hE⟩ := fb_some hE
    refine pm_callV (As := [.int (r10.2.1 116), .int zb]) (rest := [.int r10.1]) hG hR dX10_tellOf_91 (lkX10_35 _ rfl) okV_X10_rankOf rfl rfl (c_X10_rankOf (d := 8) (by decide) h11) rfl rfl hdd (Nat.le_refl _) (Nat.le_refl _) (by first | decide | exact Nat.le_of_ble_eq_true rfl) (fx_ki ?_)
    refine pm_ixor hG dX10_tellOf_94 ?_
    exact pm_iret hG hF dX10_tellOf_95 rfl (Nat.le_refl _) (Nat.le_refl _) (fx_ric hE)
  replace hE := fx_f c6 hE
  by_cases c13 : za = 3
  · replace hE := fx_t c13 hE
    refine pm_top (v := 3) c13 ?_
    refine pm_tswIn (tgt := 55) hG dX10_tellOf_1 (by decide) (by decide) rfl rfl ?_
    refine pm_aloadn hG dX10_tellOf_55 rfl ?_
    refine pm_bipush (v := 21) hG dX10_tellOf_56 (by decide) ?_
    obtain ⟨r15, h14, hE⟩ := fb_some hE
    refine pm_callV (As := [.int 21]) (rest := []) hG hR dX10_tellOf_58 (lkX10_41 _ rfl) okV_X10_note rfl rfl (c_X10_note (d := 8) (by decide) h14) rfl rfl hdd (Nat.le_refl _) (Nat.le_refl _) (by decide) (fx_kv ?_)
    refine pm_aloadn hG dX10_tellOf_61 rfl ?_
    refine pm_iconst (v := 0) hG dX10_tellOf_62 (by decide) ?_
    refine pm_iloadn hG dX10_tellOf_63 rfl ?_
    refine pm_iconst (v := 1) hG dX10_tellOf_64 (by decide) ?_
    refine pm_iadd hG dX10_tellOf_65 ?_
    obtain ⟨r17, h16, hE⟩ := fb_some hE
    refine pm_callV (As := [.int 0, .int (zb + 1)]) (rest := []) hG hR dX10_tellOf_66 (lkX10_38 _ rfl) okV_X10_tellOf rfl rfl (c_X10_tellOf_k0 (d := 8) (by decide) h16) rfl rfl hdd (Nat.le_refl _) (Nat.le_refl _) (by decide) (fx_ki ?_)
    exact pm_iret hG hF dX10_tellOf_69 rfl (Nat.le_refl _) (Nat.le_refl _) (fx_ric hE)
  replace hE := fx_f c13 hE
  by_cases c18 : za = 4
  · replace hE := fx_t c18 hE
    refine pm_top (v := 4) c18 ?_
    refine pm_tswIn (tgt := 32) hG dX10_tellOf_1 (by decide) (by decide) rfl rfl ?_
    refine pm_aloadn hG dX10_tellOf_32 rfl ?_
    refine pm_bipush (v := 51) hG dX10_tellOf_33 (by decide) ?_
    obtain ⟨r20, h19, hE⟩ := fb_some hE
    refine pm_callV (As := [.int 51]) (rest := []) hG hR dX10_tellOf_35 (lkX10_41 _ rfl) okV_X10_note rfl rfl (c_X10_note (d := 8) (by decide) h19) rfl rfl hdd (Nat.le_refl _) (Nat.le_refl _) (by decide) (fx_kv ?_)
    refine pm_aloadn hG dX10_tellOf_38 rfl ?_
    refine pm_aloadn hG dX10_tellOf_39 rfl ?_
    refine pm_getf hG dX10_tellOf_40 (flX10_19 _ rfl) rfl rfl ?_
    refine pm_iloadn hG dX10_tellOf_43 rfl ?_
    obtain ⟨r22, h21, hE⟩ := fb_some hE
    refine pm_callV (As := [.int (r20.2.1 116), .int zb]) (rest := []) hG hR dX10_tellOf_44 (lkX10_35 _ rfl) okV_X10_rankOf rfl rfl (c_X10_rankOf (d := 8) (by decide) h21) rfl rfl hdd (Nat.le_refl _) (Nat.le_refl _) (by decide) (fx_ki ?_)
    refine pm_aloadn hG dX10_tellOf_47 rfl ?_
    refine pm_iconst (v := 3) hG dX10_tellOf_48 (by decide) ?_
    refine pm_iloadn hG dX10_tellOf_49 rfl ?_
    obtain ⟨r24, h23, hE⟩ := fb_some hE
    refine pm_callV (As := [.int 3, .int zb]) (rest := [.int r22.1]) hG hR dX10_tellOf_50 (lkX10_38 _ rfl) okV_X10_tellOf rfl rfl (c_X10_tellOf_k3 (d := 8) (by decide) h23) rfl rfl hdd (Nat.le_refl _) (Nat.le_refl _) (by first | decide | exact Nat.le_of_ble_eq_true rfl) (fx_ki ?_)
    refine pm_isub hG dX10_tellOf_53 ?_
    exact pm_iret hG hF dX10_tellOf_54 rfl (Nat.le_refl _) (Nat.le_refl _) (fx_ric hE)
  replace hE := fx_f c18 hE
  have tc1 : ¬ za.toInt = 1 := fun q => c1 (Int32.toInt_inj.mp q)
  have tc6 : ¬ za.toInt = 2 := fun q => c6 (Int32.toInt_inj.mp q)
  have tc13 : ¬ za.toInt = 3 := fun q => c13 (Int32.toInt_inj.mp q)
  have tc18 : ¬ za.toInt = 4 := fun q => c18 (Int32.toInt_inj.mp q)
  refine pm_tswOut (tgt := 70) hG dX10_tellOf_1 (by omega) rfl ?_
  refine pm_aloadn hG dX10_tellOf_70 rfl ?_
  refine pm_bipush (v := 13) hG dX10_tellOf_71 (by decide) ?_
  obtain ⟨r26, h25, hE⟩ := fb_some hE
  refine pm_callV (As := [.int 13]) (rest := []) hG hR dX10_tellOf_73 (lkX10_41 _ rfl) okV_X10_note rfl rfl (c_X10_note (d := 8) (by decide) h25) rfl rfl hdd (Nat.le_refl _) (Nat.le_refl _) (by decide) (fx_kv ?_)
  refine pm_aloadn hG dX10_tellOf_76 rfl ?_
  refine pm_aloadn hG dX10_tellOf_77 rfl ?_
  refine pm_getf hG dX10_tellOf_78 (flX10_19 _ rfl) rfl rfl ?_
  refine pm_iloadn hG dX10_tellOf_81 rfl ?_
  obtain ⟨r28, h27, hE⟩ := fb_some hE
  refine pm_callV (As := [.int (r26.2.1 116), .int zb]) (rest := []) hG hR dX10_tellOf_82 (lkX10_32 _ rfl) okV_X10_bindOf rfl rfl (c_X10_bindOf (d := 8) (by decide) h27) rfl rfl hdd (Nat.le_refl _) (Nat.le_refl _) (by decide) (fx_ki ?_)
  refine pm_aloadn hG dX10_tellOf_85 rfl ?_
  refine pm_aloadn hG dX10_tellOf_86 rfl ?_
  refine pm_getf hG dX10_tellOf_87 (flX10_19 _ rfl) rfl rfl ?_
  refine pm_iloadn hG dX10_tellOf_90 rfl ?_
  obtain ⟨r30, h29, hE⟩ := fb_some hE
  refine pm_callV (As := [.int (r28.2.1 116), .int zb]) (rest := [.int r28.1]) hG hR dX10_tellOf_91 (lkX10_35 _ rfl) okV_X10_rankOf rfl rfl (c_X10_rankOf (d := 8) (by decide) h29) rfl rfl hdd (Nat.le_refl _) (Nat.le_refl _) (by first | decide | exact Nat.le_of_ble_eq_true rfl) (fx_ki ?_)
  refine pm_ixor hG dX10_tellOf_94 ?_
  exact pm_iret hG hF dX10_tellOf_95 rfl (Nat.le_refl _) (Nat.le_refl _) (fx_ric hE)
