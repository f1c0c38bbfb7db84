section
set_option maxRecDepth 100000 in
set_option maxHeartbeats 4000000 in
theorem c_X0_choose_k6 {d : Nat} {B cnt : Nat} {kp : Value} {ρ : pm_S} {S : FS} {zb : Int32} {zc : Int32} {zd : Int32} {R : Int32 × FS} (hdd : 6 ≤ d) (hE : f_X0_choose_k6 S zb zc zd = some R) : pm_met mX0_choose d 0 0 B [.ref (B + 31), .int 6, .int zb, .int zc, .int zd] cnt (cst B kp S ρ) (pm_Qv (fun σ' cnt' => σ' = (cst B kp R.2 ρ) ∧ cnt' = cnt)) := by
  refine pm_enter 1 (by decide) (Nat.le_of_ble_eq_true rfl) rfl (fun G hG hR hF => ?_)
  unfold f_X0_choose_k6 at hE
  refine pm_iloadn hG dX0_choose_0 rfl ?_
  refine pm_aloadn hG dX0_choose_1 rfl ?_
  refine pm_getf hG dX0_choose_2 (flX0_115 _ rfl) rfl rfl ?_
  refine pm_icmp_le (tgt := 9) hG dX0_choose_5 rfl (fun c1 => ?_) (fun c1 => ?_)
  · replace c1 := Int32.not_lt.mpr c1
    replace hE := fx_f c1 hE
    refine pm_aloadn hG dX0_choose_9 rfl ?_
    refine pm_iloadi hG dX0_choose_10 rfl ?_
    refine pm_callV (As := [.int zd]) (rest := []) hG hR dX0_choose_12 (lkX0_125 _ rfl) okV_X0_isCarriedWith rfl rfl (c_X0_isCarriedWith (d := 5) (by decide) rfl) rfl rfl hdd (Nat.le_refl _) (Nat.le_refl _) (by decide) (fx_ki ?_)
    refine pm_if_eq (tgt := 24) hG dX0_choose_15 rfl (fun c2 => ?_) (fun c2 => ?_)
    · replace hE := fx_t c2 hE
      refine pm_iloadn hG dX0_choose_24 rfl ?_
      refine pm_bipush (v := 9) hG dX0_choose_25 (by decide) ?_
      refine pm_icmp_ge (tgt := 105) hG dX0_choose_27 rfl (fun q => absurd q (by decide)) (fun _ => ?_)
      refine pm_aloadn hG dX0_choose_30 rfl ?_
      refine pm_getf hG dX0_choose_31 (flX0_36 _ rfl) rfl rfl ?_
      refine pm_iloadn hG dX0_choose_34 rfl ?_
      refine pm_callV (As := [.int 6]) (rest := []) hG hR dX0_choose_35 (lkX0_131 _ rfl) okV_X9_has rfl rfl (thas_34 (d := 5)) rfl rfl hdd (Nat.le_refl _) (Nat.le_refl _) (by decide) (fx_ki ?_)
      refine pm_if_eq (tgt := 105) hG dX0_choose_38 rfl (fun c3 => ?_) (fun c3 => ?_)
      · replace hE := fx_t c3 hE
        exact pm_vret hG hF dX0_choose_105 rfl (Nat.le_refl _) (Nat.le_refl _) (fx_rvc hE)
      · replace hE := fx_f c3 hE
        refine pm_aloadn hG dX0_choose_41 rfl ?_
        refine pm_getf hG dX0_choose_42 (flX0_36 _ rfl) rfl rfl ?_
        refine pm_iloadn hG dX0_choose_45 rfl ?_
        refine pm_iconst (v := 0) hG dX0_choose_46 (by decide) ?_
        refine pm_callV (As := [.int 6, .int 0]) (rest := []) hG hR dX0_choose_47 (lkX0_39 _ rfl) okV_X9_get rfl rfl (tget_34 (d := 5)) rfl rfl hdd (Nat.le_refl _) (Nat.le_refl _) (by decide) (fx_ki ?_)
        refine fx_letv hE (fun x4 hE => ?_)
        refine pm_istoreXi (loc' := [some (.ref (B + 31)), some (.int 6), some (.int zb), some (.int zc), some (.int zd), some (.int x4)]) hG dX0_choose_50 (by decide) (pm_c1b rfl) rfl ?_
        refine pm_aloadn hG dX0_choose_52 rfl ?_
        refine pm_iloadn hG dX0_choose_53 rfl ?_
        refine pm_iconst (v := 1) hG dX0_choose_54 (by decide) ?_
        refine pm_iadd hG dX0_choose_55 ?_
        refine pm_top (v := 7) (by decide) ?_
        refine pm_iloadn hG dX0_choose_56 rfl ?_
        refine pm_iloadn hG dX0_choose_57 rfl ?_
        refine pm_iloadi hG dX0_choose_58 rfl ?_
        obtain ⟨r6, h5, hE⟩ := fb_some hE
        refine pm_callV (As := [.int 7, .int zb, .int zc, .int zd]) (rest := []) hG hR dX0_choose_60 (lkX0_121 _ rfl) okV_X0_choose rfl rfl (c_X0_choose_k7 (d := 5) (by decide) h5) rfl rfl hdd (Nat.le_refl _) (Nat.le_refl _) (by decide) (fx_kv ?_)
        refine pm_aloadn hG dX0_choose_63 rfl ?_
        refine pm_iloadn hG dX0_choose_64 rfl ?_
        refine pm_iconst (v := 1) hG dX0_choose_65 (by decide) ?_
        refine pm_iadd hG dX0_choose_66 ?_
        refine pm_top (v := 7) (by decide) ?_
        refine pm_iloadn hG dX0_choose_67 rfl ?_
        refine pm_iconst (v := 1) hG dX0_choose_68 (by decide) ?_
        refine pm_iloadi hG dX0_choose_69 rfl ?_
        refine pm_ishl hG dX0_choose_71 ?_
        refine pm_ior hG dX0_choose_72 ?_
        refine pm_iloadn hG dX0_choose_73 rfl ?_
        refine pm_aloadn hG dX0_choose_74 rfl ?_
        refine pm_getf hG dX0_choose_75 (flX0_9 _ rfl) rfl rfl ?_
        refine pm_getf hG dX0_choose_78 (flX0_63 _ rfl) rfl rfl ?_
        refine pm_iloadi hG dX0_choose_81 rfl ?_
        refine pm_bipush (v := 12) hG dX0_choose_83 (by decide) ?_
        refine pm_callV (As := [.int x4, .int 12]) (rest := [.int zc, .int (zb ||| ((1 : Int32) <<< (x4 &&& 31))), .int 7, .ref (B + 31)]) hG hR dX0_choose_85 (lkX0_39 _ rfl) okV_X9_get rfl rfl (tget_6 (d := 5)) rfl rfl hdd (Nat.le_refl _) (Nat.le_refl _) (by first | decide | exact Nat.le_of_ble_eq_true rfl) (fx_ki ?_)
        refine pm_iadd hG dX0_choose_88 ?_
        refine pm_iloadi hG dX0_choose_89 rfl ?_
        refine pm_aloadn hG dX0_choose_91 rfl ?_
        refine pm_getf hG dX0_choose_92 (flX0_33 _ rfl) rfl rfl ?_
        refine pm_iloadi hG dX0_choose_95 rfl ?_
        refine pm_iconst (v := 0) hG dX0_choose_97 (by decide) ?_
        refine pm_callV (As := [.int x4, .int 0]) (rest := [.int zd, .int (zc + (fG 6 20 14 r6.2 x4 12)), .int (zb ||| ((1 : Int32) <<< (x4 &&& 31))), .int 7, .ref (B + 31)]) hG hR dX0_choose_98 (lkX0_39 _ rfl) okV_X9_get rfl rfl (tget_32 (d := 5)) rfl rfl hdd (Nat.le_refl _) (Nat.le_refl _) (by first | decide | exact Nat.le_of_ble_eq_true rfl) (fx_ki ?_)
        refine pm_iadd hG dX0_choose_101 ?_
        obtain ⟨r8, h7, hE⟩ := fb_some hE
        refine pm_callV (As := [.int 7, .int (zb ||| ((1 : Int32) <<< (x4 &&& 31))), .int (zc + (fG 6 20 14 r6.2 x4 12)), .int (zd + (fG 32 20 1 r6.2 x4 0))]) (rest := []) hG hR dX0_choose_102 (lkX0_121 _ rfl) okV_X0_choose rfl rfl (c_X0_choose_k7 (d := 5) (by decide) h7) rfl rfl hdd (Nat.le_refl _) (Nat.le_refl _) (by decide) (fx_kv ?_)
        exact pm_vret hG hF dX0_choose_105 rfl (Nat.le_refl _) (Nat.le_refl _) (fx_rvc hE)
    · replace hE := fx_f c2 hE
      refine pm_aloadn hG dX0_choose_18 rfl ?_
      refine pm_iloadn hG dX0_choose_19 rfl ?_
      refine pm_iloadn hG dX0_choose_20 rfl ?_
      obtain ⟨r10, h9, hE⟩ := fb_some hE
      refine pm_callV (As := [.int zb, .int zc]) (rest := []) hG hR dX0_choose_21 (lkX0_128 _ rfl) okV_X0_keepIfBetter rfl rfl (c_X0_keepIfBetter (d := 5) (by decide) h9) rfl rfl hdd (Nat.le_refl _) (Nat.le_refl _) (by decide) (fx_kv ?_)
      refine pm_iloadn hG dX0_choose_24 rfl ?_
      refine pm_bipush (v := 9) hG dX0_choose_25 (by decide) ?_
      refine pm_icmp_ge (tgt := 105) hG dX0_choose_27 rfl (fun q => absurd q (by decide)) (fun _ => ?_)
      refine pm_aloadn hG dX0_choose_30 rfl ?_
      refine pm_getf hG dX0_choose_31 (flX0_36 _ rfl) rfl rfl ?_
      refine pm_iloadn hG dX0_choose_34 rfl ?_
      refine pm_callV (As := [.int 6]) (rest := []) hG hR dX0_choose_35 (lkX0_131 _ rfl) okV_X9_has rfl rfl (thas_34 (d := 5)) rfl rfl hdd (Nat.le_refl _) (Nat.le_refl _) (by decide) (fx_ki ?_)
      refine pm_if_eq (tgt := 105) hG dX0_choose_38 rfl (fun c11 => ?_) (fun c11 => ?_)
      · replace hE := fx_t c11 hE
        exact pm_vret hG hF dX0_choose_105 rfl (Nat.le_refl _) (Nat.le_refl _) (fx_rvc hE)
      · replace hE := fx_f c11 hE
        refine pm_aloadn hG dX0_choose_41 rfl ?_
        refine pm_getf hG dX0_choose_42 (flX0_36 _ rfl) rfl rfl ?_
        refine pm_iloadn hG dX0_choose_45 rfl ?_
        refine pm_iconst (v := 0) hG dX0_choose_46 (by decide) ?_
        refine pm_callV (As := [.int 6, .int 0]) (rest := []) hG hR dX0_choose_47 (lkX0_39 _ rfl) okV_X9_get rfl rfl (tget_34 (d := 5)) rfl rfl hdd (Nat.le_refl _) (Nat.le_refl _) (by decide) (fx_ki ?_)
        refine fx_letv hE (fun x12 hE => ?_)
        refine pm_istoreXi (loc' := [some (.ref (B + 31)), some (.int 6), some (.int zb), some (.int zc), some (.int zd), some (.int x12)]) hG dX0_choose_50 (by decide) (pm_c1b rfl) rfl ?_
        refine pm_aloadn hG dX0_choose_52 rfl ?_
        refine pm_iloadn hG dX0_choose_53 rfl ?_
        refine pm_iconst (v := 1) hG dX0_choose_54 (by decide) ?_
        refine pm_iadd hG dX0_choose_55 ?_
        refine pm_top (v := 7) (by decide) ?_
        refine pm_iloadn hG dX0_choose_56 rfl ?_
        refine pm_iloadn hG dX0_choose_57 rfl ?_
        refine pm_iloadi hG dX0_choose_58 rfl ?_
        obtain ⟨r14, h13, hE⟩ := fb_some hE
        refine pm_callV (As := [.int 7, .int zb, .int zc, .int zd]) (rest := []) hG hR dX0_choose_60 (lkX0_121 _ rfl) okV_X0_choose rfl rfl (c_X0_choose_k7 (d := 5) (by decide) h13) rfl rfl hdd (Nat.le_refl _) (Nat.le_refl _) (by decide) (fx_kv ?_)
        refine pm_aloadn hG dX0_choose_63 rfl ?_
        refine pm_iloadn hG dX0_choose_64 rfl ?_
        refine pm_iconst (v := 1) hG dX0_choose_65 (by decide) ?_
        refine pm_iadd hG dX0_choose_66 ?_
        refine pm_top (v := 7) (by decide) ?_
        refine pm_iloadn hG dX0_choose_67 rfl ?_
        refine pm_iconst (v := 1) hG dX0_choose_68 (by decide) ?_
        refine pm_iloadi hG dX0_choose_69 rfl ?_
        refine pm_ishl hG dX0_choose_71 ?_
        refine pm_ior hG dX0_choose_72 ?_
        refine pm_iloadn hG dX0_choose_73 rfl ?_
        refine pm_aloadn hG dX0_choose_74 rfl ?_
        refine pm_getf hG dX0_choose_75 (flX0_9 _ rfl) rfl rfl ?_
        refine pm_getf hG dX0_choose_78 (flX0_63 _ rfl) rfl rfl ?_
        refine pm_iloadi hG dX0_choose_81 rfl ?_
        refine pm_bipush (v := 12) hG dX0_choose_83 (by decide) ?_
        refine pm_callV (As := [.int x12, .int 12]) (rest := [.int zc, .int (zb ||| ((1 : Int32) <<< (x12 &&& 31))), .int 7, .ref (B + 31)]) hG hR dX0_choose_85 (lkX0_39 _ rfl) okV_X9_get rfl rfl (tget_6 (d := 5)) rfl rfl hdd (Nat.le_refl _) (Nat.le_refl _) (by first | decide | exact Nat.le_of_ble_eq_true rfl) (fx_ki ?_)
        refine pm_iadd hG dX0_choose_88 ?_
        refine pm_iloadi hG dX0_choose_89 rfl ?_
        refine pm_aloadn hG dX0_choose_91 rfl ?_
        refine pm_getf hG dX0_choose_92 (flX0_33 _ rfl) rfl rfl ?_
        refine pm_iloadi hG dX0_choose_95 rfl ?_
        refine pm_iconst (v := 0) hG dX0_choose_97 (by decide) ?_
        refine pm_callV (As := [.int x12, .int 0]) (rest := [.int zd, .int (zc + (fG 6 20 14 r14.2 x12 12)), .int (zb ||| ((1 : Int32) <<< (x12 &&& 31))), .int 7, .ref (B + 31)]) hG hR dX0_choose_98 (lkX0_39 _ rfl) okV_X9_get rfl rfl (tget_32 (d := 5)) rfl rfl hdd (Nat.le_refl _) (Nat.le_refl _) (by first | decide | exact Nat.le_of_ble_eq_true rfl) (fx_ki ?_)
        refine pm_iadd hG dX0_choose_101 ?_
        obtain ⟨r16, h15, hE⟩ := fb_some hE
        refine pm_callV (As := [.int 7, .int (zb ||| ((1 : Int32) <<< (x12 &&& 31))), .int (zc + (fG 6 20 14 r14.2 x12 12)), .int (zd + (fG 32 20 1 r14.2 x12 0))]) (rest := []) hG hR dX0_choose_102 (lkX0_121 _ rfl) okV_X0_choose rfl rfl (c_X0_choose_k7 (d := 5) (by decide) h15) rfl rfl hdd (Nat.le_refl _) (Nat.le_refl _) (by decide) (fx_kv ?_)
        exact pm_vret hG hF dX0_choose_105 rfl (Nat.le_refl _) (Nat.le_refl _) (fx_rvc hE)
  · replace c1 := Int32.not_le.mp c1
    replace hE := fx_t c1 hE
    exact pm_vret hG hF dX0_choose_8 rfl (Nat.le_refl _) (Nat.le_refl _) (fx_rvc hE)

set_option maxRecDepth 100000 in
set_option maxHeartbeats 4000000 in
theorem c_X0_choose_k5 {d : Nat} {B cnt : Nat} {kp : Value} {ρ : pm_S} {S : FS} {zb : Int32} {zc : Int32} {zd : Int32} {R : Int32 × FS} (hdd : 7 ≤ d) (hE : f_X0_choose_k5 S zb zc zd = some R) : pm_met mX0_choose d 0 0 B [.ref (B + 31), .int 5, .int zb, .int zc, .int zd] cnt (cst B kp S ρ) (pm_Qv (fun σ' cnt' => σ' = (cst B kp R.2 ρ) ∧ cnt' = cnt)) := by
  refine pm_enter 1 (by decide) (Nat.le_of_ble_eq_true rfl) rfl (fun G hG hR hF => ?_)
  unfold f_X0_choose_k5 at hE
  refine pm_iloadn hG dX0_choose_0 rfl ?_
  refine pm_aloadn hG dX0_choose_1 rfl ?_
  refine pm_getf hG dX0_choose_2 (flX0_115 _ rfl) rfl rfl ?_
  refine pm_icmp_le (tgt := 9) hG dX0_choose_5 rfl (fun c1 => ?_) (fun c1 => ?_)
  · replace c1 := Int32.not_lt.mpr c1
    replace hE := fx_f c1 hE
    refine pm_aloadn hG dX0_choose_9 rfl ?_
    refine pm_iloadi hG dX0_choose_10 rfl ?_
    refine pm_callV (As := [.int zd]) (rest := []) hG hR dX0_choose_12 (lkX0_125 _ rfl) okV_X0_isCarriedWith rfl rfl (c_X0_isCarriedWith (d := 6) (by decide) rfl) rfl rfl hdd (Nat.le_refl _) (Nat.le_refl _) (by decide) (fx_ki ?_)
    refine pm_if_eq (tgt := 24) hG dX0_choose_15 rfl (fun c2 => ?_) (fun c2 => ?_)
    · replace hE := fx_t c2 hE
      refine pm_iloadn hG dX0_choose_24 rfl ?_
      refine pm_bipush (v := 9) hG dX0_choose_25 (by decide) ?_
      refine pm_icmp_ge (tgt := 105) hG dX0_choose_27 rfl (fun q => absurd q (by decide)) (fun _ => ?_)
      refine pm_aloadn hG dX0_choose_30 rfl ?_
      refine pm_getf hG dX0_choose_31 (flX0_36 _ rfl) rfl rfl ?_
      refine pm_iloadn hG dX0_choose_34 rfl ?_
      refine pm_callV (As := [.int 5]) (rest := []) hG hR dX0_choose_35 (lkX0_131 _ rfl) okV_X9_has rfl rfl (thas_34 (d := 6)) rfl rfl hdd (Nat.le_refl _) (Nat.le_refl _) (by decide) (fx_ki ?_)
      refine pm_if_eq (tgt := 105) hG dX0_choose_38 rfl (fun c3 => ?_) (fun c3 => ?_)
      · replace hE := fx_t c3 hE
        exact pm_vret hG hF dX0_choose_105 rfl (Nat.le_refl _) (Nat.le_refl _) (fx_rvc hE)
      · replace hE := fx_f c3 hE
        refine pm_aloadn hG dX0_choose_41 rfl ?_
        refine pm_getf hG dX0_choose_42 (flX0_36 _ rfl) rfl rfl ?_
        refine pm_iloadn hG dX0_choose_45 rfl ?_
        refine pm_iconst (v := 0) hG dX0_choose_46 (by decide) ?_
        refine pm_callV (As := [.int 5, .int 0]) (rest := []) hG hR dX0_choose_47 (lkX0_39 _ rfl) okV_X9_get rfl rfl (tget_34 (d := 6)) rfl rfl hdd (Nat.le_refl _) (Nat.le_refl _) (by decide) (fx_ki ?_)
        refine fx_letv hE (fun x4 hE => ?_)
        refine pm_istoreXi (loc' := [some (.ref (B + 31)), some (.int 5), some (.int zb), some (.int zc), some (.int zd), some (.int x4)]) hG dX0_choose_50 (by decide) (pm_c1b rfl) rfl ?_
        refine pm_aloadn hG dX0_choose_52 rfl ?_
        refine pm_iloadn hG dX0_choose_53 rfl ?_
        refine pm_iconst (v := 1) hG dX0_choose_54 (by decide) ?_
        refine pm_iadd hG dX0_choose_55 ?_
        refine pm_top (v := 6) (by decide) ?_
        refine pm_iloadn hG dX0_choose_56 rfl ?_
        refine pm_iloadn hG dX0_choose_57 rfl ?_
        refine pm_iloadi hG dX0_choose_58 rfl ?_
        obtain ⟨r6, h5, hE⟩ := fb_some hE
        refine pm_callV (As := [.int 6, .int zb, .int zc, .int zd]) (rest := []) hG hR dX0_choose_60 (lkX0_121 _ rfl) okV_X0_choose rfl rfl (c_X0_choose_k6 (d := 6) (by decide) h5) rfl rfl hdd (Nat.le_refl _) (Nat.le_refl _) (by decide) (fx_kv ?_)
        refine pm_aloadn hG dX0_choose_63 rfl ?_
        refine pm_iloadn hG dX0_choose_64 rfl ?_
        refine pm_iconst (v := 1) hG dX0_choose_65 (by decide) ?_
        refine pm_iadd hG dX0_choose_66 ?_
        refine pm_top (v := 6) (by decide) ?_
        refine pm_iloadn hG dX0_choose_67 rfl ?_
        refine pm_iconst (v := 1) hG dX0_choose_68 (by decide) ?_
        refine pm_iloadi hG dX0_choose_69 rfl ?_
        refine pm_ishl hG dX0_choose_71 ?_
        refine pm_ior hG dX0_choose_72 ?_
        refine pm_iloadn hG dX0_choose_73 rfl ?_
        refine pm_aloadn hG dX0_choose_74 rfl ?_
        refine pm_getf hG dX0_choose_75 (flX0_9 _ rfl) rfl rfl ?_
        refine pm_getf hG dX0_choose_78 (flX0_63 _ rfl) rfl rfl ?_
        refine pm_iloadi hG dX0_choose_81 rfl ?_
        refine pm_bipush (v := 12) hG dX0_choose_83 (by decide) ?_
        refine pm_callV (As := [.int x4, .int 12]) (rest := [.int zc, .int (zb ||| ((1 : Int32) <<< (x4 &&& 31))), .int 6, .ref (B + 31)]) hG hR dX0_choose_85 (lkX0_39 _ rfl) okV_X9_get rfl rfl (tget_6 (d := 6)) rfl rfl hdd (Nat.le_refl _) (Nat.le_refl _) (by first | decide | exact Nat.le_of_ble_eq_true rfl) (fx_ki ?_)
        refine pm_iadd hG dX0_choose_88 ?_
        refine pm_iloadi hG dX0_choose_89 rfl ?_
        refine pm_aloadn hG dX0_choose_91 rfl ?_
        refine pm_getf hG dX0_choose_92 (flX0_33 _ rfl) rfl rfl ?_
        refine pm_iloadi hG dX0_choose_95 rfl ?_
        refine pm_iconst (v := 0) hG dX0_choose_97 (by decide) ?_
        refine pm_callV (As := [.int x4, .int 0]) (rest := [.int zd, .int (zc + (fG 6 20 14 r6.2 x4 12)), .int (zb ||| ((1 : Int32) <<< (x4 &&& 31))), .int 6, .ref (B + 31)]) hG hR dX0_choose_98 (lkX0_39 _ rfl) okV_X9_get rfl rfl (tget_32 (d := 6)) rfl rfl hdd (Nat.le_refl _) (Nat.le_refl _) (by first | decide | exact Nat.le_of_ble_eq_true rfl) (fx_ki ?_)
        refine pm_iadd hG dX0_choose_101 ?_
        obtain ⟨r8, h7, hE⟩ := fb_some hE
        refine pm_callV (As := [.int 6, .int (zb ||| ((1 : Int32) <<< (x4 &&& 31))), .int (zc + (fG 6 20 14 r6.2 x4 12)), .int (zd + (fG 32 20 1 r6.2 x4 0))]) (rest := []) hG hR dX0_choose_102 (lkX0_121 _ rfl) okV_X0_choose rfl rfl (c_X0_choose_k6 (d := 6) (by decide) h7) rfl rfl hdd (Nat.le_refl _) (Nat.le_refl _) (by decide) (fx_kv ?_)
        exact pm_vret hG hF dX0_choose_105 rfl (Nat.le_refl _) (Nat.le_refl _) (fx_rvc hE)
    · replace hE := fx_f c2 hE
      refine pm_aloadn hG dX0_choose_18 rfl ?_
      refine pm_iloadn hG dX0_choose_19 rfl ?_
      refine pm_iloadn hG dX0_choose_20 rfl ?_
      obtain ⟨r10, h9, hE⟩ := fb_some hE
      refine pm_callV (As := [.int zb, .int zc]) (rest := []) hG hR dX0_choose_21 (lkX0_128 _ rfl) okV_X0_keepIfBetter rfl rfl (c_X0_keepIfBetter (d := 6) (by decide) h9) rfl rfl hdd (Nat.le_refl _) (Nat.le_refl _) (by decide) (fx_kv ?_)
      refine pm_iloadn hG dX0_choose_24 rfl ?_
      refine pm_bipush (v := 9) hG dX0_choose_25 (by decide) ?_
      refine pm_icmp_ge (tgt := 105) hG dX0_choose_27 rfl (fun q => absurd q (by decide)) (fun _ => ?_)
      refine pm_aloadn hG dX0_choose_30 rfl ?_
      refine pm_getf hG dX0_choose_31 (flX0_36 _ rfl) rfl rfl ?_
      refine pm_iloadn hG dX0_choose_34 rfl ?_
      refine pm_callV (As := [.int 5]) (rest := []) hG hR dX0_choose_35 (lkX0_131 _ rfl) okV_X9_has rfl rfl (thas_34 (d := 6)) rfl rfl hdd (Nat.le_refl _) (Nat.le_refl _) (by decide) (fx_ki ?_)
      refine pm_if_eq (tgt := 105) hG dX0_choose_38 rfl (fun c11 => ?_) (fun c11 => ?_)
      · replace hE := fx_t c11 hE
        exact pm_vret hG hF dX0_choose_105 rfl (Nat.le_refl _) (Nat.le_refl _) (fx_rvc hE)
      · replace hE := fx_f c11 hE
        refine pm_aloadn hG dX0_choose_41 rfl ?_
        refine pm_getf hG dX0_choose_42 (flX0_36 _ rfl) rfl rfl ?_
        refine pm_iloadn hG dX0_choose_45 rfl ?_
        refine pm_iconst (v := 0) hG dX0_choose_46 (by decide) ?_
        refine pm_callV (As := [.int 5, .int 0]) (rest := []) hG hR dX0_choose_47 (lkX0_39 _ rfl) okV_X9_get rfl rfl (tget_34 (d := 6)) rfl rfl hdd (Nat.le_refl _) (Nat.le_refl _) (by decide) (fx_ki ?_)
        refine fx_letv hE (fun x12 hE => ?_)
        refine pm_istoreXi (loc' := [some (.ref (B + 31)), some (.int 5), some (.int zb), some (.int zc), some (.int zd), some (.int x12)]) hG dX0_choose_50 (by decide) (pm_c1b rfl) rfl ?_
        refine pm_aloadn hG dX0_choose_52 rfl ?_
        refine pm_iloadn hG dX0_choose_53 rfl ?_
        refine pm_iconst (v := 1) hG dX0_choose_54 (by decide) ?_
        refine pm_iadd hG dX0_choose_55 ?_
        refine pm_top (v := 6) (by decide) ?_
        refine pm_iloadn hG dX0_choose_56 rfl ?_
        refine pm_iloadn hG dX0_choose_57 rfl ?_
        refine pm_iloadi hG dX0_choose_58 rfl ?_
        obtain ⟨r14, h13, hE⟩ := fb_some hE
        refine pm_callV (As := [.int 6, .int zb, .int zc, .int zd]) (rest := []) hG hR dX0_choose_60 (lkX0_121 _ rfl) okV_X0_choose rfl rfl (c_X0_choose_k6 (d := 6) (by decide) h13) rfl rfl hdd (Nat.le_refl _) (Nat.le_refl _) (by decide) (fx_kv ?_)
        refine pm_aloadn hG dX0_choose_63 rfl ?_
        refine pm_iloadn hG dX0_choose_64 rfl ?_
        refine pm_iconst (v := 1) hG dX0_choose_65 (by decide) ?_
        refine pm_iadd hG dX0_choose_66 ?_
        refine pm_top (v := 6) (by decide) ?_
        refine pm_iloadn hG dX0_choose_67 rfl ?_
        refine pm_iconst (v := 1) hG dX0_choose_68 (by decide) ?_
        refine pm_iloadi hG dX0_choose_69 rfl ?_
        refine pm_ishl hG dX0_choose_71 ?_
        refine pm_ior hG dX0_choose_72 ?_
        refine pm_iloadn hG dX0_choose_73 rfl ?_
        refine pm_aloadn hG dX0_choose_74 rfl ?_
        refine pm_getf hG dX0_choose_75 (flX0_9 _ rfl) rfl rfl ?_
        refine pm_getf hG dX0_choose_78 (flX0_63 _ rfl) rfl rfl ?_
        refine pm_iloadi hG dX0_choose_81 rfl ?_
        refine pm_bipush (v := 12) hG dX0_choose_83 (by decide) ?_
        refine pm_callV (As := [.int x12, .int 12]) (rest := [.int zc, .int (zb ||| ((1 : Int32) <<< (x12 &&& 31))), .int 6, .ref (B + 31)]) hG hR dX0_choose_85 (lkX0_39 _ rfl) okV_X9_get rfl rfl (tget_6 (d := 6)) rfl rfl hdd (Nat.le_refl _) (Nat.le_refl _) (by first | decide | exact Nat.le_of_ble_eq_true rfl) (fx_ki ?_)
        refine pm_iadd hG dX0_choose_88 ?_
        refine pm_iloadi hG dX0_choose_89 rfl ?_
        refine pm_aloadn hG dX0_choose_91 rfl ?_
        refine pm_getf hG dX0_choose_92 (flX0_33 _ rfl) rfl rfl ?_
        refine pm_iloadi hG dX0_choose_95 rfl ?_
        refine pm_iconst (v := 0) hG dX0_choose_97 (by decide) ?_
        refine pm_callV (As := [.int x12, .int 0]) (rest := [.int zd, .int (zc + (fG 6 20 14 r14.2 x12 12)), .int (zb ||| ((1 : Int32) <<< (x12 &&& 31))), .int 6, .ref (B + 31)]) hG hR dX0_choose_98 (lkX0_39 _ rfl) okV_X9_get rfl rfl (tget_32 (d := 6)) rfl rfl hdd (Nat.le_refl _) (Nat.le_refl _) (by first | decide | exact Nat.le_of_ble_eq_true rfl) (fx_ki ?_)
        refine pm_iadd hG dX0_choose_101 ?_
        obtain ⟨r16, h15, hE⟩ := fb_some hE
        refine pm_callV (As := [.int 6, .int (zb ||| ((1 : Int32) <<< (x12 &&& 31))), .int (zc + (fG 6 20 14 r14.2 x12 12)), .int (zd + (fG 32 20 1 r14.2 x12 0))]) (rest := []) hG hR dX0_choose_102 (lkX0_121 _ rfl) okV_X0_choose rfl rfl (c_X0_choose_k6 (d := 6) (by decide) h15) rfl rfl hdd (Nat.le_refl _) (Nat.le_refl _) (by decide) (fx_kv ?_)
        exact pm_vret hG hF dX0_choose_105 rfl (Nat.le_refl _) (Nat.le_refl _) (fx_rvc hE)
  · replace c1 := Int32.not_le.mp c1
    replace hE := fx_t c1 hE
    exact pm_vret hG hF dX0_choose_8 rfl (Nat.le_refl _) (Nat.le_refl _) (fx_rvc hE)

set_option maxRecDepth 100000 in
set_option maxHeartbeats 4000000 in
theorem c_X0_choose_k4 {d : Nat} {B cnt : Nat} {kp : Value} {ρ : pm_S} {S : FS} {zb : Int32} {zc : Int32} {zd : Int32} {R : Int32 × FS} (hdd : 8 ≤ d) (hE : f_X0_choose_k4 S zb zc zd = some R) : pm_met mX0_choose d 0 0 B [.ref (B + 31), .int 4, .int zb, .int zc, .int zd] cnt (cst B kp S ρ) (pm_Qv (fun σ' cnt' => σ' = (cst B kp R.2 ρ) ∧ cnt' = cnt)) := by
  refine pm_enter 1 (by decide) (Nat.le_of_ble_eq_true rfl) rfl (fun G hG hR hF => ?_)
  unfold f_X0_choose_k4 at hE
  refine pm_iloadn hG dX0_choose_0 rfl ?_
  refine pm_aloadn hG dX0_choose_1 rfl ?_
  refine pm_getf hG dX0_choose_2 (flX0_115 _ rfl) rfl rfl ?_
  refine pm_icmp_le (tgt := 9) hG dX0_choose_5 rfl (fun c1 => ?_) (fun c1 => ?_)
  · replace c1 := Int32.not_lt.mpr c1
    replace hE := fx_f c1 hE
    refine pm_aloadn hG dX0_choose_9 rfl ?_
    refine pm_iloadi hG dX0_choose_10 rfl ?_
    refine pm_callV (As := [.int zd]) (rest := []) hG hR dX0_choose_12 (lkX0_125 _ rfl) okV_X0_isCarriedWith rfl rfl (c_X0_isCarriedWith (d := 7) (by decide) rfl) rfl rfl hdd (Nat.le_refl _) (Nat.le_refl _) (by decide) (fx_ki ?_)
    refine pm_if_eq (tgt := 24) hG dX0_choose_15 rfl (fun c2 => ?_) (fun c2 => ?_)
    · replace hE := fx_t c2 hE
      refine pm_iloadn hG dX0_choose_24 rfl ?_
      refine pm_bipush (v := 9) hG dX0_choose_25 (by decide) ?_
      refine pm_icmp_ge (tgt := 105) hG dX0_choose_27 rfl (fun q => absurd q (by decide)) (fun _ => ?_)
      refine pm_aloadn hG dX0_choose_30 rfl ?_
      refine pm_getf hG dX0_choose_31 (flX0_36 _ rfl) rfl rfl ?_
      refine pm_iloadn hG dX0_choose_34 rfl ?_
      refine pm_callV (As := [.int 4]) (rest := []) hG hR dX0_choose_35 (lkX0_131 _ rfl) okV_X9_has rfl rfl (thas_34 (d := 7)) rfl rfl hdd (Nat.le_refl _) (Nat.le_refl _) (by decide) (fx_ki ?_)
      refine pm_if_eq (tgt := 105) hG dX0_choose_38 rfl (fun c3 => ?_) (fun c3 => ?_)
      · replace hE := fx_t c3 hE
        exact pm_vret hG hF dX0_choose_105 rfl (Nat.le_refl _) (Nat.le_refl _) (fx_rvc hE)
      · replace hE := fx_f c3 hE
        refine pm_aloadn hG dX0_choose_41 rfl ?_
        refine pm_getf hG dX0_choose_42 (flX0_36 _ rfl) rfl rfl ?_
        refine pm_iloadn hG dX0_choose_45 rfl ?_
        refine pm_iconst (v := 0) hG dX0_choose_46 (by decide) ?_
        refine pm_callV (As := [.int 4, .int 0]) (rest := []) hG hR dX0_choose_47 (lkX0_39 _ rfl) okV_X9_get rfl rfl (tget_34 (d := 7)) rfl rfl hdd (Nat.le_refl _) (Nat.le_refl _) (by decide) (fx_ki ?_)
        refine fx_letv hE (fun x4 hE => ?_)
        refine pm_istoreXi (loc' := [some (.ref (B + 31)), some (.int 4), some (.int zb), some (.int zc), some (.int zd), some (.int x4)]) hG dX0_choose_50 (by decide) (pm_c1b rfl) rfl ?_
        refine pm_aloadn hG dX0_choose_52 rfl ?_
        refine pm_iloadn hG dX0_choose_53 rfl ?_
        refine pm_iconst (v := 1) hG dX0_choose_54 (by decide) ?_
        refine pm_iadd hG dX0_choose_55 ?_
        refine pm_top (v := 5) (by decide) ?_
        refine pm_iloadn hG dX0_choose_56 rfl ?_
        refine pm_iloadn hG dX0_choose_57 rfl ?_
        refine pm_iloadi hG dX0_choose_58 rfl ?_
        obtain ⟨r6, h5, hE⟩ := fb_some hE
        refine pm_callV (As := [.int 5, .int zb, .int zc, .int zd]) (rest := []) hG hR dX0_choose_60 (lkX0_121 _ rfl) okV_X0_choose rfl rfl (c_X0_choose_k5 (d := 7) (by decide) h5) rfl rfl hdd (Nat.le_refl _) (Nat.le_refl _) (by decide) (fx_kv ?_)
        refine pm_aloadn hG dX0_choose_63 rfl ?_
        refine pm_iloadn hG dX0_choose_64 rfl ?_
        refine pm_iconst (v := 1) hG dX0_choose_65 (by decide) ?_
        refine pm_iadd hG dX0_choose_66 ?_
        refine pm_top (v := 5) (by decide) ?_
        refine pm_iloadn hG dX0_choose_67 rfl ?_
        refine pm_iconst (v := 1) hG dX0_choose_68 (by decide) ?_
        refine pm_iloadi hG dX0_choose_69 rfl ?_
        refine pm_ishl hG dX0_choose_71 ?_
        refine pm_ior hG dX0_choose_72 ?_
        refine pm_iloadn hG dX0_choose_73 rfl ?_
        refine pm_aloadn hG dX0_choose_74 rfl ?_
        refine pm_getf hG dX0_choose_75 (flX0_9 _ rfl) rfl rfl ?_
        refine pm_getf hG dX0_choose_78 (flX0_63 _ rfl) rfl rfl ?_
        refine pm_iloadi hG dX0_choose_81 rfl ?_
        refine pm_bipush (v := 12) hG dX0_choose_83 (by decide) ?_
        refine pm_callV (As := [.int x4, .int 12]) (rest := [.int zc, .int (zb ||| ((1 : Int32) <<< (x4 &&& 31))), .int 5, .ref (B + 31)]) hG hR dX0_choose_85 (lkX0_39 _ rfl) okV_X9_get rfl rfl (tget_6 (d := 7)) rfl rfl hdd (Nat.le_refl _) (Nat.le_refl _) (by first | decide | exact Nat.le_of_ble_eq_true rfl) (fx_ki ?_)
        refine pm_iadd hG dX0_choose_88 ?_
        refine pm_iloadi hG dX0_choose_89 rfl ?_
        refine pm_aloadn hG dX0_choose_91 rfl ?_
        refine pm_getf hG dX0_choose_92 (flX0_33 _ rfl) rfl rfl ?_
        refine pm_iloadi hG dX0_choose_95 rfl ?_
        refine pm_iconst (v := 0) hG dX0_choose_97 (by decide) ?_
        refine pm_callV (As := [.int x4, .int 0]) (rest := [.int zd, .int (zc + (fG 6 20 14 r6.2 x4 12)), .int (zb ||| ((1 : Int32) <<< (x4 &&& 31))), .int 5, .ref (B + 31)]) hG hR dX0_choose_98 (lkX0_39 _ rfl) okV_X9_get rfl rfl (tget_32 (d := 7)) rfl rfl hdd (Nat.le_refl _) (Nat.le_refl _) (by first | decide | exact Nat.le_of_ble_eq_true rfl) (fx_ki ?_)
        refine pm_iadd hG dX0_choose_101 ?_
        obtain ⟨r8, h7, hE⟩ := fb_some hE
        refine pm_callV (As := [.int 5, .int (zb ||| ((1 : Int32) <<< (x4 &&& 31))), .int (zc + (fG 6 20 14 r6.2 x4 12)), .int (zd + (fG 32 20 1 r6.2 x4 0))]) (rest := []) hG hR dX0_choose_102 (lkX0_121 _ rfl) okV_X0_choose rfl rfl (c_X0_choose_k5 (d := 7) (by decide) h7) rfl rfl hdd (Nat.le_refl _) (Nat.le_refl _) (by decide) (fx_kv ?_)
        exact pm_vret hG hF dX0_choose_105 rfl (Nat.le_refl _) (Nat.le_refl _) (fx_rvc hE)
    · replace hE := fx_f c2 hE
      refine pm_aloadn hG dX0_choose_18 rfl ?_
      refine pm_iloadn hG dX0_choose_19 rfl ?_
      refine pm_iloadn hG dX0_choose_20 rfl ?_
      obtain ⟨r10, h9, hE⟩ := fb_some hE
      refine pm_callV (As := [.int zb, .int zc]) (rest := []) hG hR dX0_choose_21 (lkX0_128 _ rfl) okV_X0_keepIfBetter rfl rfl (c_X0_keepIfBetter (d := 7) (by decide) h9) rfl rfl hdd (Nat.le_refl _) (Nat.le_refl _) (by decide) (fx_kv ?_)
      refine pm_iloadn hG dX0_choose_24 rfl ?_
      refine pm_bipush (v := 9) hG dX0_choose_25 (by decide) ?_
      refine pm_icmp_ge (tgt := 105) hG dX0_choose_27 rfl (fun q => absurd q (by decide)) (fun _ => ?_)
      refine pm_aloadn hG dX0_choose_30 rfl ?_
      refine pm_getf hG dX0_choose_31 (flX0_36 _ rfl) rfl rfl ?_
      refine pm_iloadn hG dX0_choose_34 rfl ?_
      refine pm_callV (As := [.int 4]) (rest := []) hG hR dX0_choose_35 (lkX0_131 _ rfl) okV_X9_has rfl rfl (thas_34 (d := 7)) rfl rfl hdd (Nat.le_refl _) (Nat.le_refl _) (by decide) (fx_ki ?_)
      refine pm_if_eq (tgt := 105) hG dX0_choose_38 rfl (fun c11 => ?_) (fun c11 => ?_)
      · replace hE := fx_t c11 hE
        exact pm_vret hG hF dX0_choose_105 rfl (Nat.le_refl _) (Nat.le_refl _) (fx_rvc hE)
      · replace hE := fx_f c11 hE
        refine pm_aloadn hG dX0_choose_41 rfl ?_
        refine pm_getf hG dX0_choose_42 (flX0_36 _ rfl) rfl rfl ?_
        refine pm_iloadn hG dX0_choose_45 rfl ?_
        refine pm_iconst (v := 0) hG dX0_choose_46 (by decide) ?_
        refine pm_callV (As := [.int 4, .int 0]) (rest := []) hG hR dX0_choose_47 (lkX0_39 _ rfl) okV_X9_get rfl rfl (tget_34 (d := 7)) rfl rfl hdd (Nat.le_refl _) (Nat.le_refl _) (by decide) (fx_ki ?_)
        refine fx_letv hE (fun x12 hE => ?_)
        refine pm_istoreXi (loc' := [some (.ref (B + 31)), some (.int 4), some (.int zb), some (.int zc), some (.int zd), some (.int x12)]) hG dX0_choose_50 (by decide) (pm_c1b rfl) rfl ?_
        refine pm_aloadn hG dX0_choose_52 rfl ?_
        refine pm_iloadn hG dX0_choose_53 rfl ?_
        refine pm_iconst (v := 1) hG dX0_choose_54 (by decide) ?_
        refine pm_iadd hG dX0_choose_55 ?_
        refine pm_top (v := 5) (by decide) ?_
        refine pm_iloadn hG dX0_choose_56 rfl ?_
        refine pm_iloadn hG dX0_choose_57 rfl ?_
        refine pm_iloadi hG dX0_choose_58 rfl ?_
        obtain ⟨r14, h13, hE⟩ := fb_some hE
        refine pm_callV (As := [.int 5, .int zb, .int zc, .int zd]) (rest := []) hG hR dX0_choose_60 (lkX0_121 _ rfl) okV_X0_choose rfl rfl (c_X0_choose_k5 (d := 7) (by decide) h13) rfl rfl hdd (Nat.le_refl _) (Nat.le_refl _) (by decide) (fx_kv ?_)
        refine pm_aloadn hG dX0_choose_63 rfl ?_
        refine pm_iloadn hG dX0_choose_64 rfl ?_
        refine pm_iconst (v := 1) hG dX0_choose_65 (by decide) ?_
        refine pm_iadd hG dX0_choose_66 ?_
        refine pm_top (v := 5) (by decide) ?_
        refine pm_iloadn hG dX0_choose_67 rfl ?_
        refine pm_iconst (v := 1) hG dX0_choose_68 (by decide) ?_
        refine pm_iloadi hG dX0_choose_69 rfl ?_
        refine pm_ishl hG dX0_choose_71 ?_
        refine pm_ior hG dX0_choose_72 ?_
        refine pm_iloadn hG dX0_choose_73 rfl ?_
        refine pm_aloadn hG dX0_choose_74 rfl ?_
        refine pm_getf hG dX0_choose_75 (flX0_9 _ rfl) rfl rfl ?_
        refine pm_getf hG dX0_choose_78 (flX0_63 _ rfl) rfl rfl ?_
        refine pm_iloadi hG dX0_choose_81 rfl ?_
        refine pm_bipush (v := 12) hG dX0_choose_83 (by decide) ?_
        refine pm_callV (As := [.int x12, .int 12]) (rest := [.int zc, .int (zb ||| ((1 : Int32) <<< (x12 &&& 31))), .int 5, .ref (B + 31)]) hG hR dX0_choose_85 (lkX0_39 _ rfl) okV_X9_get rfl rfl (tget_6 (d := 7)) rfl rfl hdd (Nat.le_refl _) (Nat.le_refl _) (by first | decide | exact Nat.le_of_ble_eq_true rfl) (fx_ki ?_)
        refine pm_iadd hG dX0_choose_88 ?_
        refine pm_iloadi hG dX0_choose_89 rfl ?_
        refine pm_aloadn hG dX0_choose_91 rfl ?_
        refine pm_getf hG dX0_choose_92 (flX0_33 _ rfl) rfl rfl ?_
        refine pm_iloadi hG dX0_choose_95 rfl ?_
        refine pm_iconst (v := 0) hG dX0_choose_97 (by decide) ?_
        refine pm_callV (As := [.int x12, .int 0]) (rest := [.int zd, .int (zc + (fG 6 20 14 r14.2 x12 12)), .int (zb ||| ((1 : Int32) <<< (x12 &&& 31))), .int 5, .ref (B + 31)]) hG hR dX0_choose_98 (lkX0_39 _ rfl) okV_X9_get rfl rfl (tget_32 (d := 7)) rfl rfl hdd (Nat.le_refl _) (Nat.le_refl _) (by first | decide | exact Nat.le_of_ble_eq_true rfl) (fx_ki ?_)
        refine pm_iadd hG dX0_choose_101 ?_
        obtain ⟨r16, h15, hE⟩ := fb_some hE
        refine pm_callV (As := [.int 5, .int (zb ||| ((1 : Int32) <<< (x12 &&& 31))), .int (zc + (fG 6 20 14 r14.2 x12 12)), .int (zd + (fG 32 20 1 r14.2 x12 0))]) (rest := []) hG hR dX0_choose_102 (lkX0_121 _ rfl) okV_X0_choose rfl rfl (c_X0_choose_k5 (d := 7) (by decide) h15) rfl rfl hdd (Nat.le_refl _) (Nat.le_refl _) (by decide) (fx_kv ?_)
        exact pm_vret hG hF dX0_choose_105 rfl (Nat.le_refl _) (Nat.le_refl _) (fx_rvc hE)
  · replace c1 := Int32.not_le.mp c1
    replace hE := fx_t c1 hE
    exact pm_vret hG hF dX0_choose_8 rfl (Nat.le_refl _) (Nat.le_refl _) (fx_rvc hE)

set_option maxRecDepth 100000 in
set_option maxHeartbeats 4000000 in
theorem c_X0_choose_k3 {d : Nat} {B cnt : Nat} {kp : Value} {ρ : pm_S} {S : FS} {zb : Int32} {zc : Int32} {zd : Int32} {R : Int32 × FS} (hdd : 9 ≤ d) (hE : f_X0_choose_k3 S zb zc zd = some R) : pm_met mX0_choose d 0 0 B [.ref (B + 31), .int 3, .int zb, .int zc, .int zd] cnt (cst B kp S ρ) (pm_Qv (fun σ' cnt' => σ' = (cst B kp R.2 ρ) ∧ cnt' = cnt)) := by
  refine pm_enter 1 (by decide) (Nat.le_of_ble_eq_true rfl) rfl (fun G hG hR hF => ?_)
  unfold f_X0_choose_k3 at hE
  refine pm_iloadn hG dX0_choose_0 rfl ?_
  refine pm_aloadn hG dX0_choose_1 rfl ?_
  refine pm_getf hG dX0_choose_2 (flX0_115 _ rfl) rfl rfl ?_
  refine pm_icmp_le (tgt := 9) hG dX0_choose_5 rfl (fun c1 => ?_) (fun c1 => ?_)
  · replace c1 := Int32.not_lt.mpr c1
    replace hE := fx_f c1 hE
    refine pm_aloadn hG dX0_choose_9 rfl ?_
    refine pm_iloadi hG dX0_choose_10 rfl ?_
    refine pm_callV (As := [.int zd]) (rest := []) hG hR dX0_choose_12 (lkX0_125 _ rfl) okV_X0_isCarriedWith rfl rfl (c_X0_isCarriedWith (d := 8) (by decide) rfl) rfl rfl hdd (Nat.le_refl _) (Nat.le_refl _) (by decide) (fx_ki ?_)
    refine pm_if_eq (tgt := 24) hG dX0_choose_15 rfl (fun c2 => ?_) (fun c2 => ?_)
    · replace hE := fx_t c2 hE
      refine pm_iloadn hG dX0_choose_24 rfl ?_
      refine pm_bipush (v := 9) hG dX0_choose_25 (by decide) ?_
      refine pm_icmp_ge (tgt := 105) hG dX0_choose_27 rfl (fun q => absurd q (by decide)) (fun _ => ?_)
      refine pm_aloadn hG dX0_choose_30 rfl ?_
      refine pm_getf hG dX0_choose_31 (flX0_36 _ rfl) rfl rfl ?_
      refine pm_iloadn hG dX0_choose_34 rfl ?_
      refine pm_callV (As := [.int 3]) (rest := []) hG hR dX0_choose_35 (lkX0_131 _ rfl) okV_X9_has rfl rfl (thas_34 (d := 8)) rfl rfl hdd (Nat.le_refl _) (Nat.le_refl _) (by decide) (fx_ki ?_)
      refine pm_if_eq (tgt := 105) hG dX0_choose_38 rfl (fun c3 => ?_) (fun c3 => ?_)
      · replace hE := fx_t c3 hE
        exact pm_vret hG hF dX0_choose_105 rfl (Nat.le_refl _) (Nat.le_refl _) (fx_rvc hE)
      · replace hE := fx_f c3 hE
        refine pm_aloadn hG dX0_choose_41 rfl ?_
        refine pm_getf hG dX0_choose_42 (flX0_36 _ rfl) rfl rfl ?_
        refine pm_iloadn hG dX0_choose_45 rfl ?_
        refine pm_iconst (v := 0) hG dX0_choose_46 (by decide) ?_
        refine pm_callV (As := [.int 3, .int 0]) (rest := []) hG hR dX0_choose_47 (lkX0_39 _ rfl) okV_X9_get rfl rfl (tget_34 (d := 8)) rfl rfl hdd (Nat.le_refl _) (Nat.le_refl _) (by decide) (fx_ki ?_)
        refine fx_letv hE (fun x4 hE => ?_)
        refine pm_istoreXi (loc' := [some (.ref (B + 31)), some (.int 3), some (.int zb), some (.int zc), some (.int zd), some (.int x4)]) hG dX0_choose_50 (by decide) (pm_c1b rfl) rfl ?_
        refine pm_aloadn hG dX0_choose_52 rfl ?_
        refine pm_iloadn hG dX0_choose_53 rfl ?_
        refine pm_iconst (v := 1) hG dX0_choose_54 (by decide) ?_
        refine pm_iadd hG dX0_choose_55 ?_
        refine pm_top (v := 4) (by decide) ?_
        refine pm_iloadn hG dX0_choose_56 rfl ?_
        refine pm_iloadn hG dX0_choose_57 rfl ?_
        refine pm_iloadi hG dX0_choose_58 rfl ?_
        obtain ⟨r6, h5, hE⟩ := fb_some hE
        refine pm_callV (As := [.int 4, .int zb, .int zc, .int zd]) (rest := []) hG hR dX0_choose_60 (lkX0_121 _ rfl) okV_X0_choose rfl rfl (c_X0_choose_k4 (d := 8) (by decide) h5) rfl rfl hdd (Nat.le_refl _) (Nat.le_refl _) (by decide) (fx_kv ?_)
        refine pm_aloadn hG dX0_choose_63 rfl ?_
        refine pm_iloadn hG dX0_choose_64 rfl ?_
        refine pm_iconst (v := 1) hG dX0_choose_65 (by decide) ?_
        refine pm_iadd hG dX0_choose_66 ?_
        refine pm_top (v := 4) (by decide) ?_
        refine pm_iloadn hG dX0_choose_67 rfl ?_
        refine pm_iconst (v := 1) hG dX0_choose_68 (by decide) ?_
        refine pm_iloadi hG dX0_choose_69 rfl ?_
        refine pm_ishl hG dX0_choose_71 ?_
        refine pm_ior hG dX0_choose_72 ?_
        refine pm_iloadn hG dX0_choose_73 rfl ?_
        refine pm_aloadn hG dX0_choose_74 rfl ?_
        refine pm_getf hG dX0_choose_75 (flX0_9 _ rfl) rfl rfl ?_
        refine pm_getf hG dX0_choose_78 (flX0_63 _ rfl) rfl rfl ?_
        refine pm_iloadi hG dX0_choose_81 rfl ?_
        refine pm_bipush (v := 12) hG dX0_choose_83 (by decide) ?_
        refine pm_callV (As := [.int x4, .int 12]) (rest := [.int zc, .int (zb ||| ((1 : Int32) <<< (x4 &&& 31))), .int 4, .ref (B + 31)]) hG hR dX0_choose_85 (lkX0_39 _ rfl) okV_X9_get rfl rfl (tget_6 (d := 8)) rfl rfl hdd (Nat.le_refl _) (Nat.le_refl _) (by first | decide | exact Nat.le_of_ble_eq_true rfl) (fx_ki ?_)
        refine pm_iadd hG dX0_choose_88 ?_
        refine pm_iloadi hG dX0_choose_89 rfl ?_
        refine pm_aloadn hG dX0_choose_91 rfl ?_
        refine pm_getf hG dX0_choose_92 (flX0_33 _ rfl) rfl rfl ?_
        refine pm_iloadi hG dX0_choose_95 rfl ?_
        refine pm_iconst (v := 0) hG dX0_choose_97 (by decide) ?_
        refine pm_callV (As := [.int x4, .int 0]) (rest := [.int zd, .int (zc + (fG 6 20 14 r6.2 x4 12)), .int (zb ||| ((1 : Int32) <<< (x4 &&& 31))), .int 4, .ref (B + 31)]) hG hR dX0_choose_98 (lkX0_39 _ rfl) okV_X9_get rfl rfl (tget_32 (d := 8)) rfl rfl hdd (Nat.le_refl _) (Nat.le_refl _) (by first | decide | exact Nat.le_of_ble_eq_true rfl) (fx_ki ?_)
        refine pm_iadd hG dX0_choose_101 ?_
        obtain ⟨r8, h7, hE⟩ := fb_some hE
        refine pm_callV (As := [.int 4, .int (zb ||| ((1 : Int32) <<< (x4 &&& 31))), .int (zc + (fG 6 20 14 r6.2 x4 12)), .int (zd + (fG 32 20 1 r6.2 x4 0))]) (rest := []) hG hR dX0_choose_102 (lkX0_121 _ rfl) okV_X0_choose rfl rfl (c_X0_choose_k4 (d := 8) (by decide) h7) rfl rfl hdd (Nat.le_refl _) (Nat.le_refl _) (by decide) (fx_kv ?_)
        exact pm_vret hG hF dX0_choose_105 rfl (Nat.le_refl _) (Nat.le_refl _) (fx_rvc hE)
    · replace hE := fx_f c2 hE
      refine pm_aloadn hG dX0_choose_18 rfl ?_
      refine pm_iloadn hG dX0_choose_19 rfl ?_
      refine pm_iloadn hG dX0_choose_20 rfl ?_
      obtain ⟨r10, h9, hE⟩ := fb_some hE
      refine pm_callV (As := [.int zb, .int zc]) (rest := []) hG hR dX0_choose_21 (lkX0_128 _ rfl) okV_X0_keepIfBetter rfl rfl (c_X0_keepIfBetter (d := 8) (by decide) h9) rfl rfl hdd (Nat.le_refl _) (Nat.le_refl _) (by decide) (fx_kv ?_)
      refine pm_iloadn hG dX0_choose_24 rfl ?_
      refine pm_bipush (v := 9) hG dX0_choose_25 (by decide) ?_
      refine pm_icmp_ge (tgt := 105) hG dX0_choose_27 rfl (fun q => absurd q (by decide)) (fun _ => ?_)
      refine pm_aloadn hG dX0_choose_30 rfl ?_
      refine pm_getf hG dX0_choose_31 (flX0_36 _ rfl) rfl rfl ?_
      refine pm_iloadn hG dX0_choose_34 rfl ?_
      refine pm_callV (As := [.int 3]) (rest := []) hG hR dX0_choose_35 (lkX0_131 _ rfl) okV_X9_has rfl rfl (thas_34 (d := 8)) rfl rfl hdd (Nat.le_refl _) (Nat.le_refl _) (by decide) (fx_ki ?_)
      refine pm_if_eq (tgt := 105) hG dX0_choose_38 rfl (fun c11 => ?_) (fun c11 => ?_)
      · replace hE := fx_t c11 hE
        exact pm_vret hG hF dX0_choose_105 rfl (Nat.le_refl _) (Nat.le_refl _) (fx_rvc hE)
      · replace hE := fx_f c11 hE
        refine pm_aloadn hG dX0_choose_41 rfl ?_
        refine pm_getf hG dX0_choose_42 (flX0_36 _ rfl) rfl rfl ?_
        refine pm_iloadn hG dX0_choose_45 rfl ?_
        refine pm_iconst (v := 0) hG dX0_choose_46 (by decide) ?_
        refine pm_callV (As := [.int 3, .int 0]) (rest := []) hG hR dX0_choose_47 (lkX0_39 _ rfl) okV_X9_get rfl rfl (tget_34 (d := 8)) rfl rfl hdd (Nat.le_refl _) (Nat.le_refl _) (by decide) (fx_ki ?_)
        refine fx_letv hE (fun x12 hE => ?_)
        refine pm_istoreXi (loc' := [some (.ref (B + 31)), some (.int 3), some (.int zb), some (.int zc), some (.int zd), some (.int x12)]) hG dX0_choose_50 (by decide) (pm_c1b rfl) rfl ?_
        refine pm_aloadn hG dX0_choose_52 rfl ?_
        refine pm_iloadn hG dX0_choose_53 rfl ?_
        refine pm_iconst (v := 1) hG dX0_choose_54 (by decide) ?_
        refine pm_iadd hG dX0_choose_55 ?_
        refine pm_top (v := 4) (by decide) ?_
        refine pm_iloadn hG dX0_choose_56 rfl ?_
        refine pm_iloadn hG dX0_choose_57 rfl ?_
        refine pm_iloadi hG dX0_choose_58 rfl ?_
        obtain ⟨r14, h13, hE⟩ := fb_some hE
        refine pm_callV (As := [.int 4, .int zb, .int zc, .int zd]) (rest := []) hG hR dX0_choose_60 (lkX0_121 _ rfl) okV_X0_choose rfl rfl (c_X0_choose_k4 (d := 8) (by decide) h13) rfl rfl hdd (Nat.le_refl _) (Nat.le_refl _) (by decide) (fx_kv ?_)
        refine pm_aloadn hG dX0_choose_63 rfl ?_
        refine pm_iloadn hG dX0_choose_64 rfl ?_
        refine pm_iconst (v := 1) hG dX0_choose_65 (by decide) ?_
        refine pm_iadd hG dX0_choose_66 ?_
        refine pm_top (v := 4) (by decide) ?_
        refine pm_iloadn hG dX0_choose_67 rfl ?_
        refine pm_iconst (v := 1) hG dX0_choose_68 (by decide) ?_
        refine pm_iloadi hG dX0_choose_69 rfl ?_
        refine pm_ishl hG dX0_choose_71 ?_
        refine pm_ior hG dX0_choose_72 ?_
        refine pm_iloadn hG dX0_choose_73 rfl ?_
        refine pm_aloadn hG dX0_choose_74 rfl ?_
        refine pm_getf hG dX0_choose_75 (flX0_9 _ rfl) rfl rfl ?_
        refine pm_getf hG dX0_choose_78 (flX0_63 _ rfl) rfl rfl ?_
        refine pm_iloadi hG dX0_choose_81 rfl ?_
        refine pm_bipush (v := 12) hG dX0_choose_83 (by decide) ?_
        refine pm_callV (As := [.int x12, .int 12]) (rest := [.int zc, .int (zb ||| ((1 : Int32) <<< (x12 &&& 31))), .int 4, .ref (B + 31)]) hG hR dX0_choose_85 (lkX0_39 _ rfl) okV_X9_get rfl rfl (tget_6 (d := 8)) rfl rfl hdd (Nat.le_refl _) (Nat.le_refl _) (by first | decide | exact Nat.le_of_ble_eq_true rfl) (fx_ki ?_)
        refine pm_iadd hG dX0_choose_88 ?_
        refine pm_iloadi hG dX0_choose_89 rfl ?_
        refine pm_aloadn hG dX0_choose_91 rfl ?_
        refine pm_getf hG dX0_choose_92 (flX0_33 _ rfl) rfl rfl ?_
        refine pm_iloadi hG dX0_choose_95 rfl ?_
        refine pm_iconst (v := 0) hG dX0_choose_97 (by decide) ?_
        refine pm_callV (As := [.int x12, .int 0]) (rest := [.int zd, .int (zc + (fG 6 20 14 r14.2 x12 12)), .int (zb ||| ((1 : Int32) <<< (x12 &&& 31))), .int 4, .ref (B + 31)]) hG hR dX0_choose_98 (lkX0_39 _ rfl) okV_X9_get rfl rfl (tget_32 (d := 8)) rfl rfl hdd (Nat.le_refl _) (Nat.le_refl _) (by first | decide | exact Nat.le_of_ble_eq_true rfl) (fx_ki ?_)
        refine pm_iadd hG dX0_choose_101 ?_
        obtain ⟨r16, h15, hE⟩ := fb_some hE
        refine pm_callV (As := [.int 4, .int (zb ||| ((1 : Int32) <<< (x12 &&& 31))), .int (zc + (fG 6 20 14 r14.2 x12 12)), .int (zd + (fG 32 20 1 r14.2 x12 0))]) (rest := []) hG hR dX0_choose_102 (lkX0_121 _ rfl) okV_X0_choose rfl rfl (c_X0_choose_k4 (d := 8) (by decide) h15) rfl rfl hdd (Nat.le_refl _) (Nat.le_refl _) (by decide) (fx_kv ?_)
        exact pm_vret hG hF dX0_choose_105 rfl (Nat.le_refl _) (Nat.le_refl _) (fx_rvc hE)
  · replace c1 := Int32.not_le.mp c1
    replace hE := fx_t c1 hE
    exact pm_vret hG hF dX0_choose_8 rfl (Nat.le_refl _) (Nat.le_refl _) (fx_rvc hE)

set_option maxRecDepth 100000 in
set_option maxHeartbeats 4000000 in
theorem c_X0_choose_k2 {d : Nat} {B cnt : Nat} {kp : Value} {ρ : pm_S} {S : FS} {zb : Int32} {zc : Int32} {zd : Int32} {R : Int32 × FS} (hdd : 10 ≤ d) (hE : f_X0_choose_k2 S zb zc zd = some R) : pm_met mX0_choose d 0 0 B [.ref (B + 31), .int 2, .int zb, .int zc, .int zd] cnt (cst B kp S ρ) (pm_Qv (fun σ' cnt' => σ' = (cst B kp R.2 ρ) ∧ cnt' = cnt)) := by
  refine pm_enter 1 (by decide) (Nat.le_of_ble_eq_true rfl) rfl (fun G hG hR hF => ?_)
  unfold f_X0_choose_k2 at hE
  refine pm_iloadn hG dX0_choose_0 rfl ?_
  refine pm_aloadn hG dX0_choose_1 rfl ?_
  refine pm_getf hG dX0_choose_2 (flX0_115 _ rfl) rfl rfl ?_
  refine pm_icmp_le (tgt := 9) hG dX0_choose_5 rfl (fun c1 => ?_) (fun c1 => ?_)
  · replace c1 := Int32.not_lt.mpr c1
    replace hE := fx_f c1 hE
    refine pm_aloadn hG dX0_choose_9 rfl ?_
    refine pm_iloadi hG dX0_choose_10 rfl ?_
    refine pm_callV (As := [.int zd]) (rest := []) hG hR dX0_choose_12 (lkX0_125 _ rfl) okV_X0_isCarriedWith rfl rfl (c_X0_isCarriedWith (d := 9) (by decide) rfl) rfl rfl hdd (Nat.le_refl _) (Nat.le_refl _) (by decide) (fx_ki ?_)
    refine pm_if_eq (tgt := 24) hG dX0_choose_15 rfl (fun c2 => ?_) (fun c2 => ?_)
    · replace hE := fx_t c2 hE
      refine pm_iloadn hG dX0_choose_24 rfl ?_
      refine pm_bipush (v := 9) hG dX0_choose_25 (by decide) ?_
      refine pm_icmp_ge (tgt := 105) hG dX0_choose_27 rfl (fun q => absurd q (by decide)) (fun _ => ?_)
      refine pm_aloadn hG dX0_choose_30 rfl ?_
      refine pm_getf hG dX0_choose_31 (flX0_36 _ rfl) rfl rfl ?_
      refine pm_iloadn hG dX0_choose_34 rfl ?_
      refine pm_callV (As := [.int 2]) (rest := []) hG hR dX0_choose_35 (lkX0_131 _ rfl) okV_X9_has rfl rfl (thas_34 (d := 9)) rfl rfl hdd (Nat.le_refl _) (Nat.le_refl _) (by decide) (fx_ki ?_)
      refine pm_if_eq (tgt := 105) hG dX0_choose_38 rfl (fun c3 => ?_) (fun c3 => ?_)
      · replace hE := fx_t c3 hE
        exact pm_vret hG hF dX0_choose_105 rfl (Nat.le_refl _) (Nat.le_refl _) (fx_rvc hE)
      · replace hE := fx_f c3 hE
        refine pm_aloadn hG dX0_choose_41 rfl ?_
        refine pm_getf hG dX0_choose_42 (flX0_36 _ rfl) rfl rfl ?_
        refine pm_iloadn hG dX0_choose_45 rfl ?_
        refine pm_iconst (v := 0) hG dX0_choose_46 (by decide) ?_
        refine pm_callV (As := [.int 2, .int 0]) (rest := []) hG hR dX0_choose_47 (lkX0_39 _ rfl) okV_X9_get rfl rfl (tget_34 (d := 9)) rfl rfl hdd (Nat.le_refl _) (Nat.le_refl _) (by decide) (fx_ki ?_)
        refine fx_letv hE (fun x4 hE => ?_)
        refine pm_istoreXi (loc' := [some (.ref (B + 31)), some (.int 2), some (.int zb), some (.int zc), some (.int zd), some (.int x4)]) hG dX0_choose_50 (by decide) (pm_c1b rfl) rfl ?_
        refine pm_aloadn hG dX0_choose_52 rfl ?_
        refine pm_iloadn hG dX0_choose_53 rfl ?_
        refine pm_iconst (v := 1) hG dX0_choose_54 (by decide) ?_
        refine pm_iadd hG dX0_choose_55 ?_
        refine pm_top (v := 3) (by decide) ?_
        refine pm_iloadn hG dX0_choose_56 rfl ?_
        refine pm_iloadn hG dX0_choose_57 rfl ?_
        refine pm_iloadi hG dX0_choose_58 rfl ?_
        obtain ⟨r6, h5, hE⟩ := fb_some hE
        refine pm_callV (As := [.int 3, .int zb, .int zc, .int zd]) (rest := []) hG hR dX0_choose_60 (lkX0_121 _ rfl) okV_X0_choose rfl rfl (c_X0_choose_k3 (d := 9) (by decide) h5) rfl rfl hdd (Nat.le_refl _) (Nat.le_refl _) (by decide) (fx_kv ?_)
        refine pm_aloadn hG dX0_choose_63 rfl ?_
        refine pm_iloadn hG dX0_choose_64 rfl ?_
        refine pm_iconst (v := 1) hG dX0_choose_65 (by decide) ?_
        refine pm_iadd hG dX0_choose_66 ?_
        refine pm_top (v := 3) (by decide) ?_
        refine pm_iloadn hG dX0_choose_67 rfl ?_
        refine pm_iconst (v := 1) hG dX0_choose_68 (by decide) ?_
        refine pm_iloadi hG dX0_choose_69 rfl ?_
        refine pm_ishl hG dX0_choose_71 ?_
        refine pm_ior hG dX0_choose_72 ?_
        refine pm_iloadn hG dX0_choose_73 rfl ?_
        refine pm_aloadn hG dX0_choose_74 rfl ?_
        refine pm_getf hG dX0_choose_75 (flX0_9 _ rfl) rfl rfl ?_
        refine pm_getf hG dX0_choose_78 (flX0_63 _ rfl) rfl rfl ?_
        refine pm_iloadi hG dX0_choose_81 rfl ?_
        refine pm_bipush (v := 12) hG dX0_choose_83 (by decide) ?_
        refine pm_callV (As := [.int x4, .int 12]) (rest := [.int zc, .int (zb ||| ((1 : Int32) <<< (x4 &&& 31))), .int 3, .ref (B + 31)]) hG hR dX0_choose_85 (lkX0_39 _ rfl) okV_X9_get rfl rfl (tget_6 (d := 9)) rfl rfl hdd (Nat.le_refl _) (Nat.le_refl _) (by first | decide | exact Nat.le_of_ble_eq_true rfl) (fx_ki ?_)
        refine pm_iadd hG dX0_choose_88 ?_
        refine pm_iloadi hG dX0_choose_89 rfl ?_
        refine pm_aloadn hG dX0_choose_91 rfl ?_
        refine pm_getf hG dX0_choose_92 (flX0_33 _ rfl) rfl rfl ?_
        refine pm_iloadi hG dX0_choose_95 rfl ?_
        refine pm_iconst (v := 0) hG dX0_choose_97 (by decide) ?_
        refine pm_callV (As := [.int x4, .int 0]) (rest := [.int zd, .int (zc + (fG 6 20 14 r6.2 x4 12)), .int (zb ||| ((1 : Int32) <<< (x4 &&& 31))), .int 3, .ref (B + 31)]) hG hR dX0_choose_98 (lkX0_39 _ rfl) okV_X9_get rfl rfl (tget_32 (d := 9)) rfl rfl hdd (Nat.le_refl _) (Nat.le_refl _) (by first | decide | exact Nat.le_of_ble_eq_true rfl) (fx_ki ?_)
        refine pm_iadd hG dX0_choose_101 ?_
        obtain ⟨r8, h7, hE⟩ := fb_some hE
        refine pm_callV (As := [.int 3, .int (zb ||| ((1 : Int32) <<< (x4 &&& 31))), .int (zc + (fG 6 20 14 r6.2 x4 12)), .int (zd + (fG 32 20 1 r6.2 x4 0))]) (rest := []) hG hR dX0_choose_102 (lkX0_121 _ rfl) okV_X0_choose rfl rfl (c_X0_choose_k3 (d := 9) (by decide) h7) rfl rfl hdd (Nat.le_refl _) (Nat.le_refl _) (by decide) (fx_kv ?_)
        exact pm_vret hG hF dX0_choose_105 rfl (Nat.le_refl _) (Nat.le_refl _) (fx_rvc hE)
    · replace hE := fx_f c2 hE
      refine pm_aloadn hG dX0_choose_18 rfl ?_
      refine pm_iloadn hG dX0_choose_19 rfl ?_
      refine pm_iloadn hG dX0_choose_20 rfl ?_
      obtain ⟨r10, h9, hE⟩ := fb_some hE
      refine pm_callV (As := [.int zb, .int zc]) (rest := []) hG hR dX0_choose_21 (lkX0_128 _ rfl) okV_X0_keepIfBetter rfl rfl (c_X0_keepIfBetter (d := 9) (by decide) h9) rfl rfl hdd (Nat.le_refl _) (Nat.le_refl _) (by decide) (fx_kv ?_)
      refine pm_iloadn hG dX0_choose_24 rfl ?_
      refine pm_bipush (v := 9) hG dX0_choose_25 (by decide) ?_
      refine pm_icmp_ge (tgt := 105) hG dX0_choose_27 rfl (fun q => absurd q (by decide)) (fun _ => ?_)
      refine pm_aloadn hG dX0_choose_30 rfl ?_
      refine pm_getf hG dX0_choose_31 (flX0_36 _ rfl) rfl rfl ?_
      refine pm_iloadn hG dX0_choose_34 rfl ?_
      refine pm_callV (As := [.int 2]) (rest := []) hG hR dX0_choose_35 (lkX0_131 _ rfl) okV_X9_has rfl rfl (thas_34 (d := 9)) rfl rfl hdd (Nat.le_refl _) (Nat.le_refl _) (by decide) (fx_ki ?_)
      refine pm_if_eq (tgt := 105) hG dX0_choose_38 rfl (fun c11 => ?_) (fun c11 => ?_)
      · replace hE := fx_t c11 hE
        exact pm_vret hG hF dX0_choose_105 rfl (Nat.le_refl _) (Nat.le_refl _) (fx_rvc hE)
      · replace hE := fx_f c11 hE
        refine pm_aloadn hG dX0_choose_41 rfl ?_
        refine pm_getf hG dX0_choose_42 (flX0_36 _ rfl) rfl rfl ?_
        refine pm_iloadn hG dX0_choose_45 rfl ?_
        refine pm_iconst (v := 0) hG dX0_choose_46 (by decide) ?_
        refine pm_callV (As := [.int 2, .int 0]) (rest := []) hG hR dX0_choose_47 (lkX0_39 _ rfl) okV_X9_get rfl rfl (tget_34 (d := 9)) rfl rfl hdd (Nat.le_refl _) (Nat.le_refl _) (by decide) (fx_ki ?_)
        refine fx_letv hE (fun x12 hE => ?_)
        refine pm_istoreXi (loc' := [some (.ref (B + 31)), some (.int 2), some (.int zb), some (.int zc), some (.int zd), some (.int x12)]) hG dX0_choose_50 (by decide) (pm_c1b rfl) rfl ?_
        refine pm_aloadn hG dX0_choose_52 rfl ?_
        refine pm_iloadn hG dX0_choose_53 rfl ?_
        refine pm_iconst (v := 1) hG dX0_choose_54 (by decide) ?_
        refine pm_iadd hG dX0_choose_55 ?_
        refine pm_top (v := 3) (by decide) ?_
        refine pm_iloadn hG dX0_choose_56 rfl ?_
        refine pm_iloadn hG dX0_choose_57 rfl ?_
        refine pm_iloadi hG dX0_choose_58 rfl ?_
        obtain ⟨r14, h13, hE⟩ := fb_some hE
        refine pm_callV (As := [.int 3, .int zb, .int zc, .int zd]) (rest := []) hG hR dX0_choose_60 (lkX0_121 _ rfl) okV_X0_choose rfl rfl (c_X0_choose_k3 (d := 9) (by decide) h13) rfl rfl hdd (Nat.le_refl _) (Nat.le_refl _) (by decide) (fx_kv ?_)
        refine pm_aloadn hG dX0_choose_63 rfl ?_
        refine pm_iloadn hG dX0_choose_64 rfl ?_
        refine pm_iconst (v := 1) hG dX0_choose_65 (by decide) ?_
        refine pm_iadd hG dX0_choose_66 ?_
        refine pm_top (v := 3) (by decide) ?_
        refine pm_iloadn hG dX0_choose_67 rfl ?_
        refine pm_iconst (v := 1) hG dX0_choose_68 (by decide) ?_
        refine pm_iloadi hG dX0_choose_69 rfl ?_
        refine pm_ishl hG dX0_choose_71 ?_
        refine pm_ior hG dX0_choose_72 ?_
        refine pm_iloadn hG dX0_choose_73 rfl ?_
        refine pm_aloadn hG dX0_choose_74 rfl ?_
        refine pm_getf hG dX0_choose_75 (flX0_9 _ rfl) rfl rfl ?_
        refine pm_getf hG dX0_choose_78 (flX0_63 _ rfl) rfl rfl ?_
        refine pm_iloadi hG dX0_choose_81 rfl ?_
        refine pm_bipush (v := 12) hG dX0_choose_83 (by decide) ?_
        refine pm_callV (As := [.int x12, .int 12]) (rest := [.int zc, .int (zb ||| ((1 : Int32) <<< (x12 &&& 31))), .int 3, .ref (B + 31)]) hG hR dX0_choose_85 (lkX0_39 _ rfl) okV_X9_get rfl rfl (tget_6 (d := 9)) rfl rfl hdd (Nat.le_refl _) (Nat.le_refl _) (by first | decide | exact Nat.le_of_ble_eq_true rfl) (fx_ki ?_)
        refine pm_iadd hG dX0_choose_88 ?_
        refine pm_iloadi hG dX0_choose_89 rfl ?_
        refine pm_aloadn hG dX0_choose_91 rfl ?_
        refine pm_getf hG dX0_choose_92 (flX0_33 _ rfl) rfl rfl ?_
        refine pm_iloadi hG dX0_choose_95 rfl ?_
        refine pm_iconst (v := 0) hG dX0_choose_97 (by decide) ?_
        refine pm_callV (As := [.int x12, .int 0]) (rest := [.int zd, .int (zc + (fG 6 20 14 r14.2 x12 12)), .int (zb ||| ((1 : Int32) <<< (x12 &&& 31))), .int 3, .ref (B + 31)]) hG hR dX0_choose_98 (lkX0_39 _ rfl) okV_X9_get rfl rfl (tget_32 (d := 9)) rfl rfl hdd (Nat.le_refl _) (Nat.le_refl _) (by first | decide | exact Nat.le_of_ble_eq_true rfl) (fx_ki ?_)
        refine pm_iadd hG dX0_choose_101 ?_
        obtain ⟨r16, h15, hE⟩ := fb_some hE
        refine pm_callV (As := [.int 3, .int (zb ||| ((1 : Int32) <<< (x12 &&& 31))), .int (zc + (fG 6 20 14 r14.2 x12 12)), .int (zd + (fG 32 20 1 r14.2 x12 0))]) (rest := []) hG hR dX0_choose_102 (lkX0_121 _ rfl) okV_X0_choose rfl rfl (c_X0_choose_k3 (d := 9) (by decide) h15) rfl rfl hdd (Nat.le_refl _) (Nat.le_refl _) (by decide) (fx_kv ?_)
        exact pm_vret hG hF dX0_choose_105 rfl (Nat.le_refl _) (Nat.le_refl _) (fx_rvc hE)
  · replace c1 := Int32.not_le.mp c1
    replace hE := fx_t c1 hE
    exact pm_vret hG hF dX0_choose_8 rfl (Nat.le_refl _) (Nat.le_refl _) (fx_rvc hE)

set_option maxRecDepth 100000 in
set_option maxHeartbeats 4000000 in
theorem c_X0_choose_k1 {d : Nat} {B cnt : Nat} {kp : Value} {ρ : pm_S} {S : FS} {zb : Int32} {zc : Int32} {zd : Int32} {R : Int32 × FS} (hdd : 11 ≤ d) (hE : f_X0_choose_k1 S zb zc zd = some R) : pm_met mX0_choose d 0 0 B [.ref (B + 31), .int 1, .int zb, .int zc, .int zd] cnt (cst B kp S ρ) (pm_Qv (fun σ' cnt' => σ' = (cst B kp R.2 ρ) ∧ cnt' = cnt)) := by
  refine pm_enter 1 (by decide) (Nat.le_of_ble_eq_true rfl) rfl (fun G hG hR hF => ?_)
  unfold f_X0_choose_k1 at hE
  refine pm_iloadn hG dX0_choose_0 rfl ?_
  refine pm_aloadn hG dX0_choose_1 rfl ?_
  refine pm_getf hG dX0_choose_2 (flX0_115 _ rfl) rfl rfl ?_
  refine pm_icmp_le (tgt := 9) hG dX0_choose_5 rfl (fun c1 => ?_) (fun c1 => ?_)
  · replace c1 := Int32.not_lt.mpr c1
    replace hE := fx_f c1 hE
    refine pm_aloadn hG dX0_choose_9 rfl ?_
    refine pm_iloadi hG dX0_choose_10 rfl ?_
    refine pm_callV (As := [.int zd]) (rest := []) hG hR dX0_choose_12 (lkX0_125 _ rfl) okV_X0_isCarriedWith rfl rfl (c_X0_isCarriedWith (d := 10) (by decide) rfl) rfl rfl hdd (Nat.le_refl _) (Nat.le_refl _) (by decide) (fx_ki ?_)
    refine pm_if_eq (tgt := 24) hG dX0_choose_15 rfl (fun c2 => ?_) (fun c2 => ?_)
    · replace hE := fx_t c2 hE
      refine pm_iloadn hG dX0_choose_24 rfl ?_
      refine pm_bipush (v := 9) hG dX0_choose_25 (by decide) ?_
      refine pm_icmp_ge (tgt := 105) hG dX0_choose_27 rfl (fun q => absurd q (by decide)) (fun _ => ?_)
      refine pm_aloadn hG dX0_choose_30 rfl ?_
      refine pm_getf hG dX0_choose_31 (flX0_36 _ rfl) rfl rfl ?_
      refine pm_iloadn hG dX0_choose_34 rfl ?_
      refine pm_callV (As := [.int 1]) (rest := []) hG hR dX0_choose_35 (lkX0_131 _ rfl) okV_X9_has rfl rfl (thas_34 (d := 10)) rfl rfl hdd (Nat.le_refl _) (Nat.le_refl _) (by decide) (fx_ki ?_)
      refine pm_if_eq (tgt := 105) hG dX0_choose_38 rfl (fun c3 => ?_) (fun c3 => ?_)
      · replace hE := fx_t c3 hE
        exact pm_vret hG hF dX0_choose_105 rfl (Nat.le_refl _) (Nat.le_refl _) (fx_rvc hE)
      · replace hE := fx_f c3 hE
        refine pm_aloadn hG dX0_choose_41 rfl ?_
        refine pm_getf hG dX0_choose_42 (flX0_36 _ rfl) rfl rfl ?_
        refine pm_iloadn hG dX0_choose_45 rfl ?_
        refine pm_iconst (v := 0) hG dX0_choose_46 (by decide) ?_
        refine pm_callV (As := [.int 1, .int 0]) (rest := []) hG hR dX0_choose_47 (lkX0_39 _ rfl) okV_X9_get rfl rfl (tget_34 (d := 10)) rfl rfl hdd (Nat.le_refl _) (Nat.le_refl _) (by decide) (fx_ki ?_)
        refine fx_letv hE (fun x4 hE => ?_)
        refine pm_istoreXi (loc' := [some (.ref (B + 31)), some (.int 1), some (.int zb), some (.int zc), some (.int zd), some (.int x4)]) hG dX0_choose_50 (by decide) (pm_c1b rfl) rfl ?_
        refine pm_aloadn hG dX0_choose_52 rfl ?_
        refine pm_iloadn hG dX0_choose_53 rfl ?_
        refine pm_iconst (v := 1) hG dX0_choose_54 (by decide) ?_
        refine pm_iadd hG dX0_choose_55 ?_
        refine pm_top (v := 2) (by decide) ?_
        refine pm_iloadn hG dX0_choose_56 rfl ?_
        refine pm_iloadn hG dX0_choose_57 rfl ?_
        refine pm_iloadi hG dX0_choose_58 rfl ?_
        obtain ⟨r6, h5, hE⟩ := fb_some hE
        refine pm_callV (As := [.int 2, .int zb, .int zc, .int zd]) (rest := []) hG hR dX0_choose_60 (lkX0_121 _ rfl) okV_X0_choose rfl rfl (c_X0_choose_k2 (d := 10) (by decide) h5) rfl rfl hdd (Nat.le_refl _) (Nat.le_refl _) (by decide) (fx_kv ?_)
        refine pm_aloadn hG dX0_choose_63 rfl ?_
        refine pm_iloadn hG dX0_choose_64 rfl ?_
        refine pm_iconst (v := 1) hG dX0_choose_65 (by decide) ?_
        refine pm_iadd hG dX0_choose_66 ?_
        refine pm_top (v := 2) (by decide) ?_
        refine pm_iloadn hG dX0_choose_67 rfl ?_
        refine pm_iconst (v := 1) hG dX0_choose_68 (by decide) ?_
        refine pm_iloadi hG dX0_choose_69 rfl ?_
        refine pm_ishl hG dX0_choose_71 ?_
        refine pm_ior hG dX0_choose_72 ?_
        refine pm_iloadn hG dX0_choose_73 rfl ?_
        refine pm_aloadn hG dX0_choose_74 rfl ?_
        refine pm_getf hG dX0_choose_75 (flX0_9 _ rfl) rfl rfl ?_
        refine pm_getf hG dX0_choose_78 (flX0_63 _ rfl) rfl rfl ?_
        refine pm_iloadi hG dX0_choose_81 rfl ?_
        refine pm_bipush (v := 12) hG dX0_choose_83 (by decide) ?_
        refine pm_callV (As := [.int x4, .int 12]) (rest := [.int zc, .int (zb ||| ((1 : Int32) <<< (x4 &&& 31))), .int 2, .ref (B + 31)]) hG hR dX0_choose_85 (lkX0_39 _ rfl) okV_X9_get rfl rfl (tget_6 (d := 10)) rfl rfl hdd (Nat.le_refl _) (Nat.le_refl _) (by first | decide | exact Nat.le_of_ble_eq_true rfl) (fx_ki ?_)
        refine pm_iadd hG dX0_choose_88 ?_
        refine pm_iloadi hG dX0_choose_89 rfl ?_
        refine pm_aloadn hG dX0_choose_91 rfl ?_
        refine pm_getf hG dX0_choose_92 (flX0_33 _ rfl) rfl rfl ?_
        refine pm_iloadi hG dX0_choose_95 rfl ?_
        refine pm_iconst (v := 0) hG dX0_choose_97 (by decide) ?_
        refine pm_callV (As := [.int x4, .int 0]) (rest := [.int zd, .int (zc + (fG 6 20 14 r6.2 x4 12)), .int (zb ||| ((1 : Int32) <<< (x4 &&& 31))), .int 2, .ref (B + 31)]) hG hR dX0_choose_98 (lkX0_39 _ rfl) okV_X9_get rfl rfl (tget_32 (d := 10)) rfl rfl hdd (Nat.le_refl _) (Nat.le_refl _) (by first | decide | exact Nat.le_of_ble_eq_true rfl) (fx_ki ?_)
        refine pm_iadd hG dX0_choose_101 ?_
        obtain ⟨r8, h7, hE⟩ := fb_some hE
        refine pm_callV (As := [.int 2, .int (zb ||| ((1 : Int32) <<< (x4 &&& 31))), .int (zc + (fG 6 20 14 r6.2 x4 12)), .int (zd + (fG 32 20 1 r6.2 x4 0))]) (rest := []) hG hR dX0_choose_102 (lkX0_121 _ rfl) okV_X0_choose rfl rfl (c_X0_choose_k2 (d := 10) (by decide) h7) rfl rfl hdd (Nat.le_refl _) (Nat.le_refl _) (by decide) (fx_kv ?_)
        exact pm_vret hG hF dX0_choose_105 rfl (Nat.le_refl _) (Nat.le_refl _) (fx_rvc hE)
    · replace hE := fx_f c2 hE
      refine pm_aloadn hG dX0_choose_18 rfl ?_
      refine pm_iloadn hG dX0_choose_19 rfl ?_
      refine pm_iloadn hG dX0_choose_20 rfl ?_
      obtain ⟨r10, h9, hE⟩ := fb_some hE
      refine pm_callV (As := [.int zb, .int zc]) (rest := []) hG hR dX0_choose_21 (lkX0_128 _ rfl) okV_X0_keepIfBetter rfl rfl (c_X0_keepIfBetter (d := 10) (by decide) h9) rfl rfl hdd (Nat.le_refl _) (Nat.le_refl _) (by decide) (fx_kv ?_)
      refine pm_iloadn hG dX0_choose_24 rfl ?_
      refine pm_bipush (v := 9) hG dX0_choose_25 (by decide) ?_
      refine pm_icmp_ge (tgt := 105) hG dX0_choose_27 rfl (fun q => absurd q (by decide)) (fun _ => ?_)
      refine pm_aloadn hG dX0_choose_30 rfl ?_
      refine pm_getf hG dX0_choose_31 (flX0_36 _ rfl) rfl rfl ?_
      refine pm_iloadn hG dX0_choose_34 rfl ?_
      refine pm_callV (As := [.int 1]) (rest := []) hG hR dX0_choose_35 (lkX0_131 _ rfl) okV_X9_has rfl rfl (thas_34 (d := 10)) rfl rfl hdd (Nat.le_refl _) (Nat.le_refl _) (by decide) (fx_ki ?_)
      refine pm_if_eq (tgt := 105) hG dX0_choose_38 rfl (fun c11 => ?_) (fun c11 => ?_)
      · replace hE := fx_t c11 hE
        exact pm_vret hG hF dX0_choose_105 rfl (Nat.le_refl _) (Nat.le_refl _) (fx_rvc hE)
      · replace hE := fx_f c11 hE
        refine pm_aloadn hG dX0_choose_41 rfl ?_
        refine pm_getf hG dX0_choose_42 (flX0_36 _ rfl) rfl rfl ?_
        refine pm_iloadn hG dX0_choose_45 rfl ?_
        refine pm_iconst (v := 0) hG dX0_choose_46 (by decide) ?_
        refine pm_callV (As := [.int 1, .int 0]) (rest := []) hG hR dX0_choose_47 (lkX0_39 _ rfl) okV_X9_get rfl rfl (tget_34 (d := 10)) rfl rfl hdd (Nat.le_refl _) (Nat.le_refl _) (by decide) (fx_ki ?_)
        refine fx_letv hE (fun x12 hE => ?_)
        refine pm_istoreXi (loc' := [some (.ref (B + 31)), some (.int 1), some (.int zb), some (.int zc), some (.int zd), some (.int x12)]) hG dX0_choose_50 (by decide) (pm_c1b rfl) rfl ?_
        refine pm_aloadn hG dX0_choose_52 rfl ?_
        refine pm_iloadn hG dX0_choose_53 rfl ?_
        refine pm_iconst (v := 1) hG dX0_choose_54 (by decide) ?_
        refine pm_iadd hG dX0_choose_55 ?_
        refine pm_top (v := 2) (by decide) ?_
        refine pm_iloadn hG dX0_choose_56 rfl ?_
        refine pm_iloadn hG dX0_choose_57 rfl ?_
        refine pm_iloadi hG dX0_choose_58 rfl ?_
        obtain ⟨r14, h13, hE⟩ := fb_some hE
        refine pm_callV (As := [.int 2, .int zb, .int zc, .int zd]) (rest := []) hG hR dX0_choose_60 (lkX0_121 _ rfl) okV_X0_choose rfl rfl (c_X0_choose_k2 (d := 10) (by decide) h13) rfl rfl hdd (Nat.le_refl _) (Nat.le_refl _) (by decide) (fx_kv ?_)
        refine pm_aloadn hG dX0_choose_63 rfl ?_
        refine pm_iloadn hG dX0_choose_64 rfl ?_
        refine pm_iconst (v := 1) hG dX0_choose_65 (by decide) ?_
        refine pm_iadd hG dX0_choose_66 ?_
        refine pm_top (v := 2) (by decide) ?_
        refine pm_iloadn hG dX0_choose_67 rfl ?_
        refine pm_iconst (v := 1) hG dX0_choose_68 (by decide) ?_
        refine pm_iloadi hG dX0_choose_69 rfl ?_
        refine pm_ishl hG dX0_choose_71 ?_
        refine pm_ior hG dX0_choose_72 ?_
        refine pm_iloadn hG dX0_choose_73 rfl ?_
        refine pm_aloadn hG dX0_choose_74 rfl ?_
        refine pm_getf hG dX0_choose_75 (flX0_9 _ rfl) rfl rfl ?_
        refine pm_getf hG dX0_choose_78 (flX0_63 _ rfl) rfl rfl ?_
        refine pm_iloadi hG dX0_choose_81 rfl ?_
        refine pm_bipush (v := 12) hG dX0_choose_83 (by decide) ?_
        refine pm_callV (As := [.int x12, .int 12]) (rest := [.int zc, .int (zb ||| ((1 : Int32) <<< (x12 &&& 31))), .int 2, .ref (B + 31)]) hG hR dX0_choose_85 (lkX0_39 _ rfl) okV_X9_get rfl rfl (tget_6 (d := 10)) rfl rfl hdd (Nat.le_refl _) (Nat.le_refl _) (by first | decide | exact Nat.le_of_ble_eq_true rfl) (fx_ki ?_)
        refine pm_iadd hG dX0_choose_88 ?_
        refine pm_iloadi hG dX0_choose_89 rfl ?_
        refine pm_aloadn hG dX0_choose_91 rfl ?_
        refine pm_getf hG dX0_choose_92 (flX0_33 _ rfl) rfl rfl ?_
        refine pm_iloadi hG dX0_choose_95 rfl ?_
        refine pm_iconst (v := 0) hG dX0_choose_97 (by decide) ?_
        refine pm_callV (As := [.int x12, .int 0]) (rest := [.int zd, .int (zc + (fG 6 20 14 r14.2 x12 12)), .int (zb ||| ((1 : Int32) <<< (x12 &&& 31))), .int 2, .ref (B + 31)]) hG hR dX0_choose_98 (lkX0_39 _ rfl) okV_X9_get rfl rfl (tget_32 (d := 10)) rfl rfl hdd (Nat.le_refl _) (Nat.le_refl _) (by first | decide | exact Nat.le_of_ble_eq_true rfl) (fx_ki ?_)
        refine pm_iadd hG dX0_choose_101 ?_
        obtain ⟨r16, h15, hE⟩ := fb_some hE
        refine pm_callV (As := [.int 2, .int (zb ||| ((1 : Int32) <<< (x12 &&& 31))), .int (zc + (fG 6 20 14 r14.2 x12 12)), .int (zd + (fG 32 20 1 r14.2 x12 0))]) (rest := []) hG hR dX0_choose_102 (lkX0_121 _ rfl) okV_X0_choose rfl rfl (c_X0_choose_k2 (d := 10) (by decide) h15) rfl rfl hdd (Nat.le_refl _) (Nat.le_refl _) (by decide) (fx_kv ?_)
        exact pm_vret hG hF dX0_choose_105 rfl (Nat.le_refl _) (Nat.le_refl _) (fx_rvc hE)
  · replace c1 := Int32.not_le.mp c1
    replace hE := fx_t c1 hE
    exact pm_vret hG hF dX0_choose_8 rfl (Nat.le_refl _) (Nat.le_refl _) (fx_rvc hE)
end
section
set_option maxRecDepth 100000 in
set_option maxHeartbeats 4000000 in
theorem c_X0_choose_k0 {d : Nat} {B cnt : Nat} {kp : Value} {ρ : pm_S} {S : FS} {zb : Int32} {zc : Int32} {zd : Int32} {R : Int32 × FS} (hdd : 12 ≤ d) (hE : f_X0_choose_k0 S zb zc zd = some R) : pm_met mX0_choose d 0 0 B [.ref (B + 31), .int 0, .int zb, .int zc, .int zd] cnt (cst B kp S ρ) (pm_Qv (fun σ' cnt' => σ' = (cst B kp R.2 ρ) ∧ cnt' = cnt)) := by
  refine pm_enter 1 (by decide) (Nat.le_of_ble_eq_true rfl) rfl (fun G hG hR hF => ?_)
  unfold f_X0_choose_k0 at hE
  refine pm_iloadn hG dX0_choose_0 rfl ?_
  refine pm_aloadn hG dX0_choose_1 rfl ?_
  refine pm_getf hG dX0_choose_2 (flX0_115 _ rfl) rfl rfl ?_
  refine pm_icmp_le (tgt := 9) hG dX0_choose_5 rfl (fun c1 => ?_) (fun c1 => ?_)
  · replace c1 := Int32.not_lt.mpr c1
    replace hE := fx_f c1 hE
    refine pm_aloadn hG dX0_choose_9 rfl ?_
    refine pm_iloadi hG dX0_choose_10 rfl ?_
    refine pm_callV (As := [.int zd]) (rest := []) hG hR dX0_choose_12 (lkX0_125 _ rfl) okV_X0_isCarriedWith rfl rfl (c_X0_isCarriedWith (d := 11) (by decide) rfl) rfl rfl hdd (Nat.le_refl _) (Nat.le_refl _) (by decide) (fx_ki ?_)
    refine pm_if_eq (tgt := 24) hG dX0_choose_15 rfl (fun c2 => ?_) (fun c2 => ?_)
    · replace hE := fx_t c2 hE
      refine pm_iloadn hG dX0_choose_24 rfl ?_
      refine pm_bipush (v := 9) hG dX0_choose_25 (by decide) ?_
      refine pm_icmp_ge (tgt := 105) hG dX0_choose_27 rfl (fun q => absurd q (by decide)) (fun _ => ?_)
      refine pm_aloadn hG dX0_choose_30 rfl ?_
      refine pm_getf hG dX0_choose_31 (flX0_36 _ rfl) rfl rfl ?_
      refine pm_iloadn hG dX0_choose_34 rfl ?_
      refine pm_callV (As := [.int 0]) (rest := []) hG hR dX0_choose_35 (lkX0_131 _ rfl) okV_X9_has rfl rfl (thas_34 (d := 11)) rfl rfl hdd (Nat.le_refl _) (Nat.le_refl _) (by decide) (fx_ki ?_)
      refine pm_if_eq (tgt := 105) hG dX0_choose_38 rfl (fun c3 => ?_) (fun c3 => ?_)
      · replace hE := fx_t c3 hE
        exact pm_vret hG hF dX0_choose_105 rfl (Nat.le_refl _) (Nat.le_refl _) (fx_rvc hE)
      · replace hE := fx_f c3 hE
        refine pm_aloadn hG dX0_choose_41 rfl ?_
        refine pm_getf hG dX0_choose_42 (flX0_36 _ rfl) rfl rfl ?_
        refine pm_iloadn hG dX0_choose_45 rfl ?_
        refine pm_iconst (v := 0) hG dX0_choose_46 (by decide) ?_
        refine pm_callV (As := [.int 0, .int 0]) (rest := []) hG hR dX0_choose_47 (lkX0_39 _ rfl) okV_X9_get rfl rfl (tget_34 (d := 11)) rfl rfl hdd (Nat.le_refl _) (Nat.le_refl _) (by decide) (fx_ki ?_)
        refine fx_letv hE (fun x4 hE => ?_)
        refine pm_istoreXi (loc' := [some (.ref (B + 31)), some (.int 0), some (.int zb), some (.int zc), some (.int zd), some (.int x4)]) hG dX0_choose_50 (by decide) (pm_c1b rfl) rfl ?_
        refine pm_aloadn hG dX0_choose_52 rfl ?_
        refine pm_iloadn hG dX0_choose_53 rfl ?_
        refine pm_iconst (v := 1) hG dX0_choose_54 (by decide) ?_
        refine pm_iadd hG dX0_choose_55 ?_
        refine pm_top (v := 1) (by decide) ?_
        refine pm_iloadn hG dX0_choose_56 rfl ?_
        refine pm_iloadn hG dX0_choose_57 rfl ?_
        refine pm_iloadi hG dX0_choose_58 rfl ?_
        obtain ⟨r6, h5, hE⟩ := fb_some hE
        refine pm_callV (As := [.int 1, .int zb, .int zc, .int zd]) (rest := []) hG hR dX0_choose_60 (lkX0_121 _ rfl) okV_X0_choose rfl rfl (c_X0_choose_k1 (d := 11) (by decide) h5) rfl rfl hdd (Nat.le_refl _) (Nat.le_refl _) (by decide) (fx_kv ?_)
        refine pm_aloadn hG dX0_choose_63 rfl ?_
        refine pm_iloadn hG dX0_choose_64 rfl ?_
        refine pm_iconst (v := 1) hG dX0_choose_65 (by decide) ?_
        refine pm_iadd hG dX0_choose_66 ?_
        refine pm_top (v := 1) (by decide) ?_
        refine pm_iloadn hG dX0_choose_67 rfl ?_
        refine pm_iconst (v := 1) hG dX0_choose_68 (by decide) ?_
        refine pm_iloadi hG dX0_choose_69 rfl ?_
        refine pm_ishl hG dX0_choose_71 ?_
        refine pm_ior hG dX0_choose_72 ?_
        refine pm_iloadn hG dX0_choose_73 rfl ?_
        refine pm_aloadn hG dX0_choose_74 rfl ?_
        refine pm_getf hG dX0_choose_75 (flX0_9 _ rfl) rfl rfl ?_
        refine pm_getf hG dX0_choose_78 (flX0_63 _ rfl) rfl rfl ?_
        refine pm_iloadi hG dX0_choose_81 rfl ?_
        refine pm_bipush (v := 12) hG dX0_choose_83 (by decide) ?_
        refine pm_callV (As := [.int x4, .int 12]) (rest := [.int zc, .int (zb ||| ((1 : Int32) <<< (x4 &&& 31))), .int 1, .ref (B + 31)]) hG hR dX0_choose_85 (lkX0_39 _ rfl) okV_X9_get rfl rfl (tget_6 (d := 11)) rfl rfl hdd (Nat.le_refl _) (Nat.le_refl _) (by first | decide | exact Nat.le_of_ble_eq_true rfl) (fx_ki ?_)
        refine pm_iadd hG dX0_choose_88 ?_
        refine pm_iloadi hG dX0_choose_89 rfl ?_
        refine pm_aloadn hG dX0_choose_91 rfl ?_
        refine pm_getf hG dX0_choose_92 (flX0_33 _ rfl) rfl rfl ?_
        refine pm_iloadi hG dX0_choose_95 rfl ?_
        refine pm_iconst (v := 0) hG dX0_choose_97 (by decide) ?_
        refine pm_callV (As := [.int x4, .int 0]) (rest := [.int zd, .int (zc + (fG 6 20 14 r6.2 x4 12)), .int (zb ||| ((1 : Int32) <<< (x4 &&& 31))), .int 1, .ref (B + 31)]) hG hR dX0_choose_98 (lkX0_39 _ rfl) okV_X9_get rfl rfl (tget_32 (d := 11)) rfl rfl hdd (Nat.le_refl _) (Nat.le_refl _) (by first | decide | exact Nat.le_of_ble_eq_true rfl) (fx_ki ?_)
        refine pm_iadd hG dX0_choose_101 ?_
        obtain ⟨r8, h7, hE⟩ := fb_some hE
        refine pm_callV (As := [.int 1, .int (zb ||| ((1 : Int32) <<< (x4 &&& 31))), .int (zc + (fG 6 20 14 r6.2 x4 12)), .int (zd + (fG 32 20 1 r6.2 x4 0))]) (rest := []) hG hR dX0_choose_102 (lkX0_121 _ rfl) okV_X0_choose rfl rfl (c_X0_choose_k1 (d := 11) (by decide) h7) rfl rfl hdd (Nat.le_refl _) (Nat.le_refl _) (by decide) (fx_kv ?_)
        exact pm_vret hG hF dX0_choose_105 rfl (Nat.le_refl _) (Nat.le_refl _) (fx_rvc hE)
    · replace hE := fx_f c2 hE
      refine pm_aloadn hG dX0_choose_18 rfl ?_
      refine pm_iloadn hG dX0_choose_19 rfl ?_
      refine pm_iloadn hG dX0_choose_20 rfl ?_
      obtain ⟨r10, h9, hE⟩ := fb_some hE
      refine pm_callV (As := [.int zb, .int zc]) (rest := []) hG hR dX0_choose_21 (lkX0_128 _ rfl) okV_X0_keepIfBetter rfl rfl (c_X0_keepIfBetter (d := 11) (by decide) h9) rfl rfl hdd (Nat.le_refl _) (Nat.le_refl _) (by decide) (fx_kv ?_)
      refine pm_iloadn hG dX0_choose_24 rfl ?_
      refine pm_bipush (v := 9) hG dX0_choose_25 (by decide) ?_
      refine pm_icmp_ge (tgt := 105) hG dX0_choose_27 rfl (fun q => absurd q (by decide)) (fun _ => ?_)
      refine pm_aloadn hG dX0_choose_30 rfl ?_
      refine pm_getf hG dX0_choose_31 (flX0_36 _ rfl) rfl rfl ?_
      refine pm_iloadn hG dX0_choose_34 rfl ?_
      refine pm_callV (As := [.int 0]) (rest := []) hG hR dX0_choose_35 (lkX0_131 _ rfl) okV_X9_has rfl rfl (thas_34 (d := 11)) rfl rfl hdd (Nat.le_refl _) (Nat.le_refl _) (by decide) (fx_ki ?_)
      refine pm_if_eq (tgt := 105) hG dX0_choose_38 rfl (fun c11 => ?_) (fun c11 => ?_)
      · replace hE := fx_t c11 hE
        exact pm_vret hG hF dX0_choose_105 rfl (Nat.le_refl _) (Nat.le_refl _) (fx_rvc hE)
      · replace hE := fx_f c11 hE
        refine pm_aloadn hG dX0_choose_41 rfl ?_
        refine pm_getf hG dX0_choose_42 (flX0_36 _ rfl) rfl rfl ?_
        refine pm_iloadn hG dX0_choose_45 rfl ?_
        refine pm_iconst (v := 0) hG dX0_choose_46 (by decide) ?_
        refine pm_callV (As := [.int 0, .int 0]) (rest := []) hG hR dX0_choose_47 (lkX0_39 _ rfl) okV_X9_get rfl rfl (tget_34 (d := 11)) rfl rfl hdd (Nat.le_refl _) (Nat.le_refl _) (by decide) (fx_ki ?_)
        refine fx_letv hE (fun x12 hE => ?_)
        refine pm_istoreXi (loc' := [some (.ref (B + 31)), some (.int 0), some (.int zb), some (.int zc), some (.int zd), some (.int x12)]) hG dX0_choose_50 (by decide) (pm_c1b rfl) rfl ?_
        refine pm_aloadn hG dX0_choose_52 rfl ?_
        refine pm_iloadn hG dX0_choose_53 rfl ?_
        refine pm_iconst (v := 1) hG dX0_choose_54 (by decide) ?_
        refine pm_iadd hG dX0_choose_55 ?_
        refine pm_top (v := 1) (by decide) ?_
        refine pm_iloadn hG dX0_choose_56 rfl ?_
        refine pm_iloadn hG dX0_choose_57 rfl ?_
        refine pm_iloadi hG dX0_choose_58 rfl ?_
        obtain ⟨r14, h13, hE⟩ := fb_some hE
        refine pm_callV (As := [.int 1, .int zb, .int zc, .int zd]) (rest := []) hG hR dX0_choose_60 (lkX0_121 _ rfl) okV_X0_choose rfl rfl (c_X0_choose_k1 (d := 11) (by decide) h13) rfl rfl hdd (Nat.le_refl _) (Nat.le_refl _) (by decide) (fx_kv ?_)
        refine pm_aloadn hG dX0_choose_63 rfl ?_
        refine pm_iloadn hG dX0_choose_64 rfl ?_
        refine pm_iconst (v := 1) hG dX0_choose_65 (by decide) ?_
        refine pm_iadd hG dX0_choose_66 ?_
        refine pm_top (v := 1) (by decide) ?_
        refine pm_iloadn hG dX0_choose_67 rfl ?_
        refine pm_iconst (v := 1) hG dX0_choose_68 (by decide) ?_
        refine pm_iloadi hG dX0_choose_69 rfl ?_
        refine pm_ishl hG dX0_choose_71 ?_
        refine pm_ior hG dX0_choose_72 ?_
        refine pm_iloadn hG dX0_choose_73 rfl ?_
        refine pm_aloadn hG dX0_choose_74 rfl ?_
        refine pm_getf hG dX0_choose_75 (flX0_9 _ rfl) rfl rfl ?_
        refine pm_getf hG dX0_choose_78 (flX0_63 _ rfl) rfl rfl ?_
        refine pm_iloadi hG dX0_choose_81 rfl ?_
        refine pm_bipush (v := 12) hG dX0_choose_83 (by decide) ?_
        refine pm_callV (As := [.int x12, .int 12]) (rest := [.int zc, .int (zb ||| ((1 : Int32) <<< (x12 &&& 31))), .int 1, .ref (B + 31)]) hG hR dX0_choose_85 (lkX0_39 _ rfl) okV_X9_get rfl rfl (tget_6 (d := 11)) rfl rfl hdd (Nat.le_refl _) (Nat.le_refl _) (by first | decide | exact Nat.le_of_ble_eq_true rfl) (fx_ki ?_)
        refine pm_iadd hG dX0_choose_88 ?_
        refine pm_iloadi hG dX0_choose_89 rfl ?_
        refine pm_aloadn hG dX0_choose_91 rfl ?_
        refine pm_getf hG dX0_choose_92 (flX0_33 _ rfl) rfl rfl ?_
        refine pm_iloadi hG dX0_choose_95 rfl ?_
        refine pm_iconst (v := 0) hG dX0_choose_97 (by decide) ?_
        refine pm_callV (As := [.int x12, .int 0]) (rest := [.int zd, .int (zc + (fG 6 20 14 r14.2 x12 12)), .int (zb ||| ((1 : Int32) <<< (x12 &&& 31))), .int 1, .ref (B + 31)]) hG hR dX0_choose_98 (lkX0_39 _ rfl) okV_X9_get rfl rfl (tget_32 (d := 11)) rfl rfl hdd (Nat.le_refl _) (Nat.le_refl _) (by first | decide | exact Nat.le_of_ble_eq_true rfl) (fx_ki ?_)
        refine pm_iadd hG dX0_choose_101 ?_
        obtain ⟨r16, h15, hE⟩ := fb_some hE
        refine pm_callV (As := [.int 1, .int (zb ||| ((1 : Int32) <<< (x12 &&& 31))), .int (zc + (fG 6 20 14 r14.2 x12 12)), .int (zd + (fG 32 20 1 r14.2 x12 0))]) (rest := []) hG hR dX0_choose_102 (lkX0_121 _ rfl) okV_X0_choose rfl rfl (c_X0_choose_k1 (d := 11) (by decide) h15) rfl rfl hdd (Nat.le_refl _) (Nat.le_refl _) (by decide) (fx_kv ?_)
        exact pm_vret hG hF dX0_choose_105 rfl (Nat.le_refl _) (Nat.le_refl _) (fx_rvc hE)
  · replace c1 := Int32.not_le.mp c1
    replace hE := fx_t c1 hE
    exact pm_vret hG hF dX0_choose_8 rfl (Nat.le_refl _) (Nat.le_refl _) (fx_rvc hE)

set_option maxRecDepth 100000 in
set_option maxHeartbeats 4000000 in
theorem c_X0_findCheapest {d : Nat} {B cnt : Nat} {kp : Value} {ρ : pm_S} {S : FS} {za : Int32} {R : Int32 × FS} (hdd : 13 ≤ d) (hE : f_X0_findCheapest S za = some R) : pm_met mX0_findCheapest d 0 0 B [.ref (B + 31), .int za] cnt (cst B kp S ρ) (pm_Qi (fun v σ' cnt' => v = R.1 ∧ σ' = (cst B kp R.2 ρ) ∧ cnt' = cnt)) := by
  refine pm_enter 0 (by decide) (Nat.le_of_ble_eq_true rfl) rfl (fun G hG hR hF => ?_)
  unfold f_X0_findCheapest at hE
  refine pm_aloadn hG dX0_findCheapest_0 rfl ?_
  refine pm_iloadn hG dX0_findCheapest_1 rfl ?_
  obtain ⟨r2, h1, hE⟩ := fb_some hE
  refine pm_callV (As := [.int za]) (rest := []) hG hR dX0_findCheapest_2 (lkX0_110 _ rfl) okV_X0_weigh rfl rfl (c_X0_weigh (d := 12) (by decide) h1) rfl rfl hdd (Nat.le_refl _) (Nat.le_refl _) (by decide) (fx_kv ?_)
  refine pm_aloadn hG dX0_findCheapest_5 rfl ?_
  refine pm_ldc hG dX0_findCheapest_6 (ctX0_114 _ rfl) ?_
  refine pm_putf hG dX0_findCheapest_8 (fwX0_115 _ rfl) rfl rfl rfl ?_
  refine ci_109 ?_
  refine fx_letc hE (fun S3 hE => ?_)
  refine pm_aloadn hG dX0_findCheapest_11 rfl ?_
  refine pm_iconst (v := 0) hG dX0_findCheapest_12 (by decide) ?_
  refine pm_putf hG dX0_findCheapest_13 (fwX0_118 _ rfl) rfl rfl rfl ?_
  refine ci_110 ?_
  refine fx_letc hE (fun S4 hE => ?_)
  refine pm_aloadn hG dX0_findCheapest_16 rfl ?_
  refine pm_iconst (v := 0) hG dX0_findCheapest_17 (by decide) ?_
  refine pm_iconst (v := 0) hG dX0_findCheapest_18 (by decide) ?_
  refine pm_iconst (v := 0) hG dX0_findCheapest_19 (by decide) ?_
  refine pm_iconst (v := 0) hG dX0_findCheapest_20 (by decide) ?_
  obtain ⟨r6, h5, hE⟩ := fb_some hE
  refine pm_callV (As := [.int 0, .int 0, .int 0, .int 0]) (rest := []) hG hR dX0_findCheapest_21 (lkX0_121 _ rfl) okV_X0_choose rfl rfl (c_X0_choose_k0 (d := 12) (by decide) h5) rfl rfl hdd (Nat.le_refl _) (Nat.le_refl _) (by decide) (fx_kv ?_)
  refine pm_aloadn hG dX0_findCheapest_24 rfl ?_
  refine pm_getf hG dX0_findCheapest_25 (flX0_115 _ rfl) rfl rfl ?_
  refine pm_ldc hG dX0_findCheapest_28 (ctX0_114 _ rfl) ?_
  refine pm_icmp_ge (tgt := 37) hG dX0_findCheapest_30 rfl (fun c7 => ?_) (fun c7 => ?_)
  · replace c7 := Int32.not_lt.mpr c7
    replace hE := fx_f c7 hE
    refine pm_iconst (v := 0) hG dX0_findCheapest_37 (by decide) ?_
    exact pm_zret hG hF dX0_findCheapest_38 rfl (by rfl) (Nat.le_refl _) (Nat.le_refl _) (fx_ric hE)
  · replace c7 := Int32.not_le.mp c7
    replace hE := fx_t c7 hE
    refine pm_iconst (v := 1) hG dX0_findCheapest_33 (by decide) ?_
    refine pm_goto (tgt := 38) hG dX0_findCheapest_34 rfl ?_
    exact pm_zret hG hF dX0_findCheapest_38 rfl (by rfl) (Nat.le_refl _) (Nat.le_refl _) (fx_ric hE)

set_option maxRecDepth 100000 in
set_option maxHeartbeats 4000000 in
theorem c_X0_firstBroken {d : Nat} {B cnt : Nat} {kp : Value} {ρ : pm_S} {S : FS} {za : Int32} {R : Int32} (hdd : 1 ≤ d) (hE : q_X0_firstBroken S za = some R) : pm_met mX0_firstBroken d 0 0 B [.ref (B + 31), .int za] cnt (cst B kp S ρ) (pm_Qi (fun v σ' cnt' => v = R ∧ σ' = (cst B kp S ρ) ∧ cnt' = cnt)) := by
  refine pm_enter 2 (by decide) (Nat.le_of_ble_eq_true rfl) rfl (fun G hG hR hF => ?_)
  unfold q_X0_firstBroken at hE
  refine pm_aloadn hG dX0_firstBroken_0 rfl ?_
  refine pm_getf hG dX0_firstBroken_1 (flX0_25 _ rfl) rfl rfl ?_
  refine pm_callV (As := []) (rest := []) hG hR dX0_firstBroken_4 (lkX0_47 _ rfl) okV_X9_used rfl rfl (tused_18 (d := 0)) rfl rfl hdd (Nat.le_refl _) (Nat.le_refl _) (by decide) (fx_ki ?_)
  refine fx_letv hE (fun x1 hE => ?_)
  refine pm_istoreXn (loc' := [some (.ref (B + 31)), some (.int za), some (.int x1), none]) hG dX0_firstBroken_7 (by decide) (pm_c1b rfl) rfl ?_
  refine pm_iconst (v := 0) hG dX0_firstBroken_8 (by decide) ?_
  refine pm_istoreXn (loc' := [some (.ref (B + 31)), some (.int za), some (.int x1), some (.int 0)]) hG dX0_firstBroken_9 (by decide) (pm_c1b rfl) rfl ?_
  have loop10 : ∀ (k10 : Int32 → Option Int32), (∀  (x2_3 : Int32), k10  x2_3 = some R → pm_wp mX0_firstBroken G B 62 [some (.ref (B + 31)), some (.int za), some (.int x1), some (.int x2_3)] [] 0 0 cnt (cst B kp S ρ)) → ∀ (m10 : Nat)  (x2_3 : Int32), l_X0_firstBroken_10 za S x1 k10 m10  x2_3 = some R → pm_wp mX0_firstBroken G B 10 [some (.ref (B + 31)), some (.int za), some (.int x1), some (.int x2_3)] [] 0 0 cnt (cst B kp S ρ) := by
    intro k10 hk10 m10
    induction m10 with
    | zero => intro  x2_3 hE; exact fx_no hE
    | succ m10 ih10 =>
      intro  x2_3 hE
      rw [l_X0_firstBroken_10] at hE
      refine pm_iloadn hG dX0_firstBroken_10 rfl ?_
      refine pm_iloadn hG dX0_firstBroken_11 rfl ?_
      refine pm_icmp_ge (tgt := 62) hG dX0_firstBroken_12 rfl (fun c3 => ?_) (fun c3 => ?_)
      · replace c3 := Int32.not_lt.mpr c3
        replace hE := fx_f c3 hE
        exact hk10 _ hE
      · replace c3 := Int32.not_le.mp c3
        replace hE := fx_t c3 hE
        refine pm_aloadn hG dX0_firstBroken_15 rfl ?_
        refine pm_getf hG dX0_firstBroken_16 (flX0_25 _ rfl) rfl rfl ?_
        refine pm_iloadn hG dX0_firstBroken_19 rfl ?_
        refine pm_iconst (v := 4) hG dX0_firstBroken_20 (by decide) ?_
        refine pm_callV (As := [.int x2_3, .int 4]) (rest := []) hG hR dX0_firstBroken_21 (lkX0_39 _ rfl) okV_X9_get rfl rfl (tget_18 (d := 0)) rfl rfl hdd (Nat.le_refl _) (Nat.le_refl _) (by decide) (fx_ki ?_)
        refine pm_iconst (v := 2) hG dX0_firstBroken_24 (by decide) ?_
        refine pm_icmp_ne (tgt := 56) hG dX0_firstBroken_25 rfl (fun c4 => ?_) (fun c4 => ?_)
        · replace hE := fx_f c4 hE
          refine pm_iincX (v := x2_3 + 1) (loc' := [some (.ref (B + 31)), some (.int za), some (.int x1), some (.int (x2_3 + 1))]) hG dX0_firstBroken_56 rfl (by rfl) (by decide) (pm_c1b rfl) rfl ?_
          refine pm_goto (tgt := 10) hG dX0_firstBroken_59 rfl ?_
          exact ih10 _ hE
        · replace hE := fx_t c4 hE
          refine pm_aloadn hG dX0_firstBroken_28 rfl ?_
          refine pm_getf hG dX0_firstBroken_29 (flX0_25 _ rfl) rfl rfl ?_
          refine pm_iloadn hG dX0_firstBroken_32 rfl ?_
          refine pm_iconst (v := 1) hG dX0_firstBroken_33 (by decide) ?_
          refine pm_callV (As := [.int x2_3, .int 1]) (rest := []) hG hR dX0_firstBroken_34 (lkX0_39 _ rfl) okV_X9_get rfl rfl (tget_18 (d := 0)) rfl rfl hdd (Nat.le_refl _) (Nat.le_refl _) (by decide) (fx_ki ?_)
          refine pm_iloadn hG dX0_firstBroken_37 rfl ?_
          refine pm_icmp_ne (tgt := 56) hG dX0_firstBroken_38 rfl (fun c5 => ?_) (fun c5 => ?_)
          · replace hE := fx_f c5 hE
            refine pm_iincX (v := x2_3 + 1) (loc' := [some (.ref (B + 31)), some (.int za), some (.int x1), some (.int (x2_3 + 1))]) hG dX0_firstBroken_56 rfl (by rfl) (by decide) (pm_c1b rfl) rfl ?_
            refine pm_goto (tgt := 10) hG dX0_firstBroken_59 rfl ?_
            exact ih10 _ hE
          · replace hE := fx_t c5 hE
            refine pm_aloadn hG dX0_firstBroken_41 rfl ?_
            refine pm_getf hG dX0_firstBroken_42 (flX0_25 _ rfl) rfl rfl ?_
            refine pm_iloadn hG dX0_firstBroken_45 rfl ?_
            refine pm_iconst (v := 3) hG dX0_firstBroken_46 (by decide) ?_
            refine pm_callV (As := [.int x2_3, .int 3]) (rest := []) hG hR dX0_firstBroken_47 (lkX0_39 _ rfl) okV_X9_get rfl rfl (tget_18 (d := 0)) rfl rfl hdd (Nat.le_refl _) (Nat.le_refl _) (by decide) (fx_ki ?_)
            refine pm_iconst (v := 1) hG dX0_firstBroken_50 (by decide) ?_
            refine pm_icmp_ne (tgt := 56) hG dX0_firstBroken_51 rfl (fun c6 => ?_) (fun c6 => ?_)
            · replace hE := fx_f c6 hE
              refine pm_iincX (v := x2_3 + 1) (loc' := [some (.ref (B + 31)), some (.int za), some (.int x1), some (.int (x2_3 + 1))]) hG dX0_firstBroken_56 rfl (by rfl) (by decide) (pm_c1b rfl) rfl ?_
              refine pm_goto (tgt := 10) hG dX0_firstBroken_59 rfl ?_
              exact ih10 _ hE
            · replace hE := fx_t c6 hE
              refine pm_iloadn hG dX0_firstBroken_54 rfl ?_
              exact pm_iret hG hF dX0_firstBroken_55 rfl (Nat.le_refl _) (Nat.le_refl _) (fx_pi (Option.some.inj hE))
  refine loop10 _ (fun  x7_3 hE => ?_) _ _ hE
  refine pm_iconst (v := (-1)) hG dX0_firstBroken_62 (by decide) ?_
  exact pm_iret hG hF dX0_firstBroken_63 rfl (Nat.le_refl _) (Nat.le_refl _) (fx_pi (Option.some.inj hE))

set_option maxRecDepth 100000 in
set_option maxHeartbeats 4000000 in
theorem c_X0_unseat {d : Nat} {B cnt : Nat} {kp : Value} {ρ : pm_S} {S : FS} {za : Int32} {R : Int32 × FS} (hdd : 3 ≤ d) (hE : f_X0_unseat S za = some R) : pm_met mX0_unseat d 0 0 B [.ref (B + 31), .int za] cnt (cst B kp S ρ) (pm_Qv (fun σ' cnt' => σ' = (cst B kp R.2 ρ) ∧ cnt' = cnt)) := by
  refine pm_enter 0 (by decide) (Nat.le_of_ble_eq_true rfl) rfl (fun G hG hR hF => ?_)
  unfold f_X0_unseat at hE
  refine pm_aloadn hG dX0_unseat_0 rfl ?_
  refine pm_getf hG dX0_unseat_1 (flX0_9 _ rfl) rfl rfl ?_
  refine pm_getf hG dX0_unseat_4 (flX0_63 _ rfl) rfl rfl ?_
  refine pm_iloadn hG dX0_unseat_7 rfl ?_
  refine pm_bipush (v := 13) hG dX0_unseat_8 (by decide) ?_
  refine pm_iconst (v := 0) hG dX0_unseat_10 (by decide) ?_
  refine pm_callV (As := [.int za, .int 13, .int 0]) (rest := []) hG hR dX0_unseat_11 (lkX0_55 _ rfl) okV_X9_set rfl rfl (tset_6 (d := 2)) rfl rfl hdd (Nat.le_refl _) (Nat.le_refl _) (by decide) (fx_kv ?_)
  refine fx_letc hE (fun S1 hE => ?_)
  refine pm_aloadn hG dX0_unseat_14 rfl ?_
  refine pm_iloadn hG dX0_unseat_15 rfl ?_
  refine pm_iconst (v := 1) hG dX0_unseat_16 (by decide) ?_
  obtain ⟨r3, h2, hE⟩ := fb_some hE
  refine pm_callV (As := [.int za, .int 1]) (rest := []) hG hR dX0_unseat_17 (lkX0_66 _ rfl) okV_X0_endAllOf rfl rfl (c_X0_endAllOf (d := 2) (by decide) h2) rfl rfl hdd (Nat.le_refl _) (Nat.le_refl _) (by decide) (fx_ki ?_)
  refine pm_pop hG dX0_unseat_20 rfl ?_
  exact pm_vret hG hF dX0_unseat_21 rfl (Nat.le_refl _) (Nat.le_refl _) (fx_rvc hE)

set_option maxRecDepth 100000 in
set_option maxHeartbeats 4000000 in
theorem c_X10_note {d : Nat} {B cnt : Nat} {kp : Value} {ρ : pm_S} {S : FS} {za : Int32} {R : Int32 × FS} (hdd : 1 ≤ d) (hE : f_X10_note S za = some R) : pm_met mX10_note d 0 0 B [.ref (B + 46), .int za] cnt (cst B kp S ρ) (pm_Qv (fun σ' cnt' => σ' = (cst B kp R.2 ρ) ∧ cnt' = cnt)) := by
  refine pm_enter 0 (by decide) (Nat.le_of_ble_eq_true rfl) rfl (fun G hG hR hF => ?_)
  unfold f_X10_note at hE
  refine pm_aloadn hG dX10_note_0 rfl ?_
  refine pm_getf hG dX10_note_1 (flX10_15 _ rfl) rfl rfl ?_
  refine pm_if_lt (tgt := 39) hG dX10_note_4 rfl (fun c1 => ?_) (fun c1 => ?_)
  · replace hE := fx_t c1 hE
    exact pm_vret hG hF dX10_note_39 rfl (Nat.le_refl _) (Nat.le_refl _) (fx_rvc hE)
  · replace hE := fx_f c1 hE
    refine pm_aloadn hG dX10_note_7 rfl ?_
    refine pm_getf hG dX10_note_8 (flX10_15 _ rfl) rfl rfl ?_
    refine pm_aloadn hG dX10_note_11 rfl ?_
    refine pm_getf hG dX10_note_12 (flX10_11 _ rfl) rfl rfl ?_
    refine pm_alen (v := 40) hG dX10_note_15 rfl (by decide) ?_
    refine pm_icmp_ge (tgt := 39) hG dX10_note_16 rfl (fun c2 => ?_) (fun c2 => ?_)
    · replace c2 := Int32.not_lt.mpr c2
      replace hE := fx_f c2 hE
      exact pm_vret hG hF dX10_note_39 rfl (Nat.le_refl _) (Nat.le_refl _) (fx_rvc hE)
    · replace c2 := Int32.not_le.mp c2
      replace hE := fx_t c2 hE
      refine pm_aloadn hG dX10_note_19 rfl ?_
      refine pm_getf hG dX10_note_20 (flX10_11 _ rfl) rfl rfl ?_
      refine pm_aloadn hG dX10_note_23 rfl ?_
      refine pm_getf hG dX10_note_24 (flX10_15 _ rfl) rfl rfl ?_
      refine pm_iloadn hG dX10_note_27 rfl ?_
      obtain ⟨j3, hj3, hE⟩ := fb_some hE
      refine fx_iast hG dX10_note_28 rfl hj3 ?_
      refine ca_47 ?_
      refine fx_letc hE (fun S4 hE => ?_)
      refine pm_aloadn hG dX10_note_29 rfl ?_
      refine pm_dup hG dX10_note_30 rfl ?_
      refine pm_getf hG dX10_note_31 (flX10_15 _ rfl) rfl rfl ?_
      refine pm_iconst (v := 1) hG dX10_note_34 (by decide) ?_
      refine pm_iadd hG dX10_note_35 ?_
      refine pm_putf hG dX10_note_36 (fwX10_15 _ rfl) rfl rfl rfl ?_
      refine ci_115 ?_
      refine fx_letc hE (fun S5 hE => ?_)
      exact pm_vret hG hF dX10_note_39 rfl (Nat.le_refl _) (Nat.le_refl _) (fx_rvc hE)

set_option maxRecDepth 100000 in
set_option maxHeartbeats 4000000 in
theorem c_X10_actOf_k0 {d : Nat} {B cnt : Nat} {kp : Value} {ρ : pm_S} {S : FS} {zb : Int32} {R : Int32 × FS} (hdd : 2 ≤ d) (hE : f_X10_actOf_k0 S zb = some R) : pm_met mX10_actOf d 0 0 B [.ref (B + 46), .int 0, .int zb] cnt (cst B kp S ρ) (pm_Qi (fun v σ' cnt' => v = R.1 ∧ σ' = (cst B kp R.2 ρ) ∧ cnt' = cnt)) := by
  refine pm_enter 0 (by decide) (Nat.le_of_ble_eq_true rfl) rfl (fun G hG hR hF => ?_)
  unfold f_X10_actOf_k0 at hE
  refine pm_iloadn hG dX10_actOf_0 rfl ?_
  refine pm_tswOut (tgt := 68) hG dX10_actOf_1 (by decide) rfl ?_
  refine pm_aloadn hG dX10_actOf_68 rfl ?_
  refine pm_bipush (v := 10) hG dX10_actOf_69 (by decide) ?_
  obtain ⟨r2, h1, hE⟩ := fb_some hE
  refine pm_callV (As := [.int 10]) (rest := []) hG hR dX10_actOf_71 (lkX10_41 _ rfl) okV_X10_note rfl rfl (c_X10_note (d := 1) (by decide) h1) rfl rfl hdd (Nat.le_refl _) (Nat.le_refl _) (by decide) (fx_kv ?_)
  refine pm_iloadn hG dX10_actOf_74 rfl ?_
  refine pm_aloadn hG dX10_actOf_75 rfl ?_
  refine pm_getf hG dX10_actOf_76 (flX10_25 _ rfl) rfl rfl ?_
  refine pm_iadd hG dX10_actOf_79 ?_
  exact pm_iret hG hF dX10_actOf_80 rfl (Nat.le_refl _) (Nat.le_refl _) (fx_ric hE)

set_option maxRecDepth 100000 in
set_option maxHeartbeats 4000000 in
theorem c_X10_actOf_k3 {d : Nat} {B cnt : Nat} {kp : Value} {ρ : pm_S} {S : FS} {zb : Int32} {R : Int32 × FS} (hdd : 3 ≤ d) (hE : f_X10_actOf_k3 S zb = some R) : pm_met mX10_actOf d 0 0 B [.ref (B + 46), .int 3, .int zb] cnt (cst B kp S ρ) (pm_Qi (fun v σ' cnt' => v = R.1 ∧ σ' = (cst B kp R.2 ρ) ∧ cnt' = cnt)) := by
  refine pm_enter 0 (by decide) (Nat.le_of_ble_eq_true rfl) rfl (fun G hG hR hF => ?_)
  unfold f_X10_actOf_k3 at hE
  refine pm_iloadn hG dX10_actOf_0 rfl ?_
  refine pm_tswIn (tgt := 50) hG dX10_actOf_1 (by decide) (by decide) rfl rfl ?_
  refine pm_aloadn hG dX10_actOf_50 rfl ?_
  refine pm_bipush (v := 20) hG dX10_actOf_51 (by decide) ?_
  obtain ⟨r2, h1, hE⟩ := fb_some hE
  refine pm_callV (As := [.int 20]) (rest := []) hG hR dX10_actOf_53 (lkX10_41 _ rfl) okV_X10_note rfl rfl (c_X10_note (d := 2) (by decide) h1) rfl rfl hdd (Nat.le_refl _) (Nat.le_refl _) (by decide) (fx_kv ?_)
  refine pm_aloadn hG dX10_actOf_56 rfl ?_
  refine pm_iconst (v := 0) hG dX10_actOf_57 (by decide) ?_
  refine pm_iloadn hG dX10_actOf_58 rfl ?_
  obtain ⟨r4, h3, hE⟩ := fb_some hE
  refine pm_callV (As := [.int 0, .int zb]) (rest := []) hG hR dX10_actOf_59 (lkX10_28 _ rfl) okV_X10_actOf rfl rfl (c_X10_actOf_k0 (d := 2) (by decide) h3) rfl rfl hdd (Nat.le_refl _) (Nat.le_refl _) (by decide) (fx_ki ?_)
  refine pm_aloadn hG dX10_actOf_62 rfl ?_
  refine pm_getf hG dX10_actOf_63 (flX10_22 _ rfl) rfl rfl ?_
  refine pm_iadd hG dX10_actOf_66 ?_
  exact pm_iret hG hF dX10_actOf_67 rfl (Nat.le_refl _) (Nat.le_refl _) (fx_ric hE)

set_option maxRecDepth 100000 in
set_option maxHeartbeats 4000000 in
theorem c_X10_actOf {d : Nat} {B cnt : Nat} {kp : Value} {ρ : pm_S} {S : FS} {za : Int32} {zb : Int32} {R : Int32 × FS} (hdd : 4 ≤ d) (hE : f_X10_actOf S za zb = some R) : pm_met mX10_actOf d 0 0 B [.ref (B + 46), .int za, .int zb] cnt (cst B kp S ρ) (pm_Qi (fun v σ' cnt' => v = R.1 ∧ σ' = (cst B kp R.2 ρ) ∧ cnt' = cnt)) := by
  refine pm_enter 0 (by decide) (Nat.le_of_ble_eq_true rfl) rfl (fun G hG hR hF => ?_)
  unfold f_X10_actOf at hE
  refine pm_iloadn hG dX10_actOf_0 rfl ?_
  by_cases c1 : za = 1
  · replace hE := fx_t c1 hE
    refine pm_top (v := 1) c1 ?_
    refine pm_tswIn (tgt := 50) hG dX10_actOf_1 (by decide) (by decide) rfl rfl ?_
    refine pm_aloadn hG dX10_actOf_50 rfl ?_
    refine pm_bipush (v := 20) hG dX10_actOf_51 (by decide) ?_
    obtain ⟨r3, h2, hE⟩ := fb_some hE
    refine pm_callV (As := [.int 20]) (rest := []) hG hR dX10_actOf_53 (lkX10_41 _ rfl) okV_X10_note rfl rfl (c_X10_note (d := 3) (by decide) h2) rfl rfl hdd (Nat.le_refl _) (Nat.le_refl _) (by decide) (fx_kv ?_)
    refine pm_aloadn hG dX10_actOf_56 rfl ?_
    refine pm_iconst (v := 0) hG dX10_actOf_57 (by decide) ?_
    refine pm_iloadn hG dX10_actOf_58 rfl ?_
    obtain ⟨r5, h4, hE⟩ := fb_some hE
    refine pm_callV (As := [.int 0, .int zb]) (rest := []) hG hR dX10_actOf_59 (lkX10_28 _ rfl) okV_X10_actOf rfl rfl (c_X10_actOf_k0 (d := 3) (by decide) h4) rfl rfl hdd (Nat.le_refl _) (Nat.le_refl _) (by decide) (fx_ki ?_)
    refine pm_aloadn hG dX10_actOf_62 rfl ?_
    refine pm_getf hG dX10_actOf_63 (flX10_22 _ rfl) rfl rfl ?_
    refine pm_iadd hG dX10_actOf_66 ?_
    exact pm_iret hG hF dX10_actOf_67 rfl (Nat.le_refl _) (Nat.le_refl _) (fx_ric hE)
  replace hE := fx_f c1 hE
  by_cases c6 : za = 2
  · replace hE := fx_t c6 hE
    refine pm_top (v := 2) c6 ?_
    refine pm_tswIn (tgt := 68) hG dX10_actOf_1 (by decide) (by decide) rfl rfl ?_
    refine pm_aloadn hG dX10_actOf_68 rfl ?_
    refine pm_bipush (v := 10) hG dX10_actOf_69 (by decide) ?_
    obtain ⟨r8, h7, hE⟩ := fb_some hE
    refine pm_callV (As := [.int 10]) (rest := []) hG hR dX10_actOf_71 (lkX10_41 _ rfl) okV_X10_note rfl rfl (c_X10_note (d := 3) (by decide) h7) rfl rfl hdd (Nat.le_refl _) (Nat.le_refl _) (by decide) (fx_kv ?_)
    refine pm_iloadn hG dX10_actOf_74 rfl ?_
    refine pm_aloadn hG dX10_actOf_75 rfl ?_
    refine pm_getf hG dX10_actOf_76 (flX10_25 _ rfl) rfl rfl ?_
    refine pm_iadd hG dX10_actOf_79 ?_
    exact pm_iret hG hF dX10_actOf_80 rfl (Nat.le_refl _) (Nat.le_refl _) (fx_ric hE)
  replace hE := fx_f c6 hE
  by_cases c9 : za = 3
  · replace hE := fx_t c9 hE
    refine pm_top (v := 3) c9 ?_
    refine pm_tswIn (tgt := 50) hG dX10_actOf_1 (by decide) (by decide) rfl rfl ?_
    refine pm_aloadn hG dX10_actOf_50 rfl ?_
    refine pm_bipush (v := 20) hG dX10_actOf_51 (by decide) ?_
    obtain ⟨r11, h10, hE⟩ := fb_some hE
    refine pm_callV (As := [.int 20]) (rest := []) hG hR dX10_actOf_53 (lkX10_41 _ rfl) okV_X10_note rfl rfl (c_X10_note (d := 3) (by decide) h10) rfl rfl hdd (Nat.le_refl _) (Nat.le_refl _) (by decide) (fx_kv ?_)
    refine pm_aloadn hG dX10_actOf_56 rfl ?_
    refine pm_iconst (v := 0) hG dX10_actOf_57 (by decide) ?_
    refine pm_iloadn hG dX10_actOf_58 rfl ?_
    obtain ⟨r13, h12, hE⟩ := fb_some hE
    refine pm_callV (As := [.int 0, .int zb]) (rest := []) hG hR dX10_actOf_59 (lkX10_28 _ rfl) okV_X10_actOf rfl rfl (c_X10_actOf_k0 (d := 3) (by decide) h12) rfl rfl hdd (Nat.le_refl _) (Nat.le_refl _) (by decide) (fx_ki ?_)
    refine pm_aloadn hG dX10_actOf_62 rfl ?_
    refine pm_getf hG dX10_actOf_63 (flX10_22 _ rfl) rfl rfl ?_
    refine pm_iadd hG dX10_actOf_66 ?_
    exact pm_iret hG hF dX10_actOf_67 rfl (Nat.le_refl _) (Nat.le_refl _) (fx_ric hE)
  replace hE := fx_f c9 hE
  by_cases c14 : za = 4
  · replace hE := fx_t c14 hE
    refine pm_top (v := 4) c14 ?_
    refine pm_tswIn (tgt := 32) hG dX10_actOf_1 (by decide) (by decide) rfl rfl ?_
    refine pm_aloadn hG dX10_actOf_32 rfl ?_
    refine pm_bipush (v := 50) hG dX10_actOf_33 (by decide) ?_
    obtain ⟨r16, h15, hE⟩ := fb_some hE
    refine pm_callV (As := [.int 50]) (rest := []) hG hR dX10_actOf_35 (lkX10_41 _ rfl) okV_X10_note rfl rfl (c_X10_note (d := 3) (by decide) h15) rfl rfl hdd (Nat.le_refl _) (Nat.le_refl _) (by decide) (fx_kv ?_)
    refine pm_aloadn hG dX10_actOf_38 rfl ?_
    refine pm_iconst (v := 3) hG dX10_actOf_39 (by decide) ?_
    refine pm_iloadn hG dX10_actOf_40 rfl ?_
    refine pm_aloadn hG dX10_actOf_41 rfl ?_
    refine pm_getf hG dX10_actOf_42 (flX10_25 _ rfl) rfl rfl ?_
    refine pm_isub hG dX10_actOf_45 ?_
    obtain ⟨r18, h17, hE⟩ := fb_some hE
    refine pm_callV (As := [.int 3, .int (zb - (r16.2.1 118))]) (rest := []) hG hR dX10_actOf_46 (lkX10_28 _ rfl) okV_X10_actOf rfl rfl (c_X10_actOf_k3 (d := 3) (by decide) h17) rfl rfl hdd (Nat.le_refl _) (Nat.le_refl _) (by decide) (fx_ki ?_)
    exact pm_iret hG hF dX10_actOf_49 rfl (Nat.le_refl _) (Nat.le_refl _) (fx_ric hE)
  replace hE := fx_f c14 hE
  have tc1 : ¬ za.toInt = 1 := fun q => c1 (Int32.toInt_inj.mp q)
  have tc6 : ¬ za.toInt = 2 := fun q => c6 (Int32.toInt_inj.mp q)
  have tc9 : ¬ za.toInt = 3 := fun q => c9 (Int32.toInt_inj.mp q)
  have tc14 : ¬ za.toInt = 4 := fun q => c14 (Int32.toInt_inj.mp q)
  refine pm_tswOut (tgt := 68) hG dX10_actOf_1 (by omega) rfl ?_
  refine pm_aloadn hG dX10_actOf_68 rfl ?_
  refine pm_bipush (v := 10) hG dX10_actOf_69 (by decide) ?_
  obtain ⟨r20, h19, hE⟩ := fb_some hE
  refine pm_callV (As := [.int 10]) (rest := []) hG hR dX10_actOf_71 (lkX10_41 _ rfl) okV_X10_note rfl rfl (c_X10_note (d := 3) (by decide) h19) rfl rfl hdd (Nat.le_refl _) (Nat.le_refl _) (by decide) (fx_kv ?_)
  refine pm_iloadn hG dX10_actOf_74 rfl ?_
  refine pm_aloadn hG dX10_actOf_75 rfl ?_
  refine pm_getf hG dX10_actOf_76 (flX10_25 _ rfl) rfl rfl ?_
  refine pm_iadd hG dX10_actOf_79 ?_
  exact pm_iret hG hF dX10_actOf_80 rfl (Nat.le_refl _) (Nat.le_refl _) (fx_ric hE)

set_option maxRecDepth 100000 in
set_option maxHeartbeats 4000000 in
theorem c_X10_begin {d : Nat} {B cnt : Nat} {kp : Value} {ρ : pm_S} {S : FS} {za : Int32} {zb : Int32} {zc : Int32} {R : Int32 × FS} (hdd : 1 ≤ d) (hE : f_X10_begin S za zb zc = some R) : pm_met mX10_begin d 0 0 B [.ref (B + 46), .int za, .int zb, .int zc] cnt (cst B kp S ρ) (pm_Qv (fun σ' cnt' => σ' = (cst B kp R.2 ρ) ∧ cnt' = cnt)) := by
  refine pm_enter 0 (by decide) (Nat.le_of_ble_eq_true rfl) rfl (fun G hG hR hF => ?_)
  unfold f_X10_begin at hE
  refine pm_aloadn hG dX10_begin_0 rfl ?_
  refine pm_iconst (v := 0) hG dX10_begin_1 (by decide) ?_
  refine pm_putf hG dX10_begin_2 (fwX10_15 _ rfl) rfl rfl rfl ?_
  refine ci_115 ?_
  refine fx_letc hE (fun S1 hE => ?_)
  refine pm_aloadn hG dX10_begin_5 rfl ?_
  refine pm_iloadn hG dX10_begin_6 rfl ?_
  refine pm_putf hG dX10_begin_7 (fwX10_19 _ rfl) rfl rfl rfl ?_
  refine ci_116 ?_
  refine fx_letc hE (fun S2 hE => ?_)
  refine pm_aloadn hG dX10_begin_10 rfl ?_
  refine pm_iloadn hG dX10_begin_11 rfl ?_
  refine pm_putf hG dX10_begin_12 (fwX10_22 _ rfl) rfl rfl rfl ?_
  refine ci_117 ?_
  refine fx_letc hE (fun S3 hE => ?_)
  refine pm_aloadn hG dX10_begin_15 rfl ?_
  refine pm_iloadn hG dX10_begin_16 rfl ?_
  refine pm_putf hG dX10_begin_17 (fwX10_25 _ rfl) rfl rfl rfl ?_
  refine ci_118 ?_
  refine fx_letc hE (fun S4 hE => ?_)
  exact pm_vret hG hF dX10_begin_20 rfl (Nat.le_refl _) (Nat.le_refl _) (fx_rvc hE)

set_option maxRecDepth 100000 in
set_option maxHeartbeats 4000000 in
theorem c_X10_bindOf_k1 {d : Nat} {B cnt : Nat} {kp : Value} {ρ : pm_S} {S : FS} {zb : Int32} {R : Int32 × FS} (hdd : 5 ≤ d) (hE : f_X10_bindOf_k1 S zb = some R) : pm_met mX10_bindOf d 0 0 B [.ref (B + 46), .int 1, .int zb] cnt (cst B kp S ρ) (pm_Qi (fun v σ' cnt' => v = R.1 ∧ σ' = (cst B kp R.2 ρ) ∧ cnt' = cnt)) := by
  refine pm_enter 0 (by decide) (Nat.le_of_ble_eq_true rfl) rfl (fun G hG hR hF => ?_)
  unfold f_X10_bindOf_k1 at hE
  refine pm_iloadn hG dX10_bindOf_0 rfl ?_
  refine pm_tswOut (tgt := 69) hG dX10_bindOf_1 (by decide) rfl ?_
  refine pm_aloadn hG dX10_bindOf_69 rfl ?_
  refine pm_bipush (v := 11) hG dX10_bindOf_70 (by decide) ?_
  obtain ⟨r2, h1, hE⟩ := fb_some hE
  refine pm_callV (As := [.int 11]) (rest := []) hG hR dX10_bindOf_72 (lkX10_41 _ rfl) okV_X10_note rfl rfl (c_X10_note (d := 4) (by decide) h1) rfl rfl hdd (Nat.le_refl _) (Nat.le_refl _) (by decide) (fx_kv ?_)
  refine pm_aloadn hG dX10_bindOf_75 rfl ?_
  refine pm_aloadn hG dX10_bindOf_76 rfl ?_
  refine pm_getf hG dX10_bindOf_77 (flX10_19 _ rfl) rfl rfl ?_
  refine pm_iloadn hG dX10_bindOf_80 rfl ?_
  obtain ⟨r4, h3, hE⟩ := fb_some hE
  refine pm_callV (As := [.int (r2.2.1 116), .int zb]) (rest := []) hG hR dX10_bindOf_81 (lkX10_28 _ rfl) okV_X10_actOf rfl rfl (c_X10_actOf (d := 4) (by decide) h3) rfl rfl hdd (Nat.le_refl _) (Nat.le_refl _) (by decide) (fx_ki ?_)
  refine pm_iconst (v := 2) hG dX10_bindOf_84 (by decide) ?_
  refine pm_imul hG dX10_bindOf_85 ?_
  exact pm_iret hG hF dX10_bindOf_86 rfl (Nat.le_refl _) (Nat.le_refl _) (fx_ric hE)

set_option maxRecDepth 100000 in
set_option maxHeartbeats 4000000 in
theorem c_X10_bindOf_k0 {d : Nat} {B cnt : Nat} {kp : Value} {ρ : pm_S} {S : FS} {zb : Int32} {R : Int32 × FS} (hdd : 5 ≤ d) (hE : f_X10_bindOf_k0 S zb = some R) : pm_met mX10_bindOf d 0 0 B [.ref (B + 46), .int 0, .int zb] cnt (cst B kp S ρ) (pm_Qi (fun v σ' cnt' => v = R.1 ∧ σ' = (cst B kp R.2 ρ) ∧ cnt' = cnt)) := by
  refine pm_enter 0 (by decide) (Nat.le_of_ble_eq_true rfl) rfl (fun G hG hR hF => ?_)
  unfold f_X10_bindOf_k0 at hE
  refine pm_iloadn hG dX10_bindOf_0 rfl ?_
  refine pm_tswOut (tgt := 69) hG dX10_bindOf_1 (by decide) rfl ?_
  refine pm_aloadn hG dX10_bindOf_69 rfl ?_
  refine pm_bipush (v := 11) hG dX10_bindOf_70 (by decide) ?_
  obtain ⟨r2, h1, hE⟩ := fb_some hE
  refine pm_callV (As := [.int 11]) (rest := []) hG hR dX10_bindOf_72 (lkX10_41 _ rfl) okV_X10_note rfl rfl (c_X10_note (d := 4) (by decide) h1) rfl rfl hdd (Nat.le_refl _) (Nat.le_refl _) (by decide) (fx_kv ?_)
  refine pm_aloadn hG dX10_bindOf_75 rfl ?_
  refine pm_aloadn hG dX10_bindOf_76 rfl ?_
  refine pm_getf hG dX10_bindOf_77 (flX10_19 _ rfl) rfl rfl ?_
  refine pm_iloadn hG dX10_bindOf_80 rfl ?_
  obtain ⟨r4, h3, hE⟩ := fb_some hE
  refine pm_callV (As := [.int (r2.2.1 116), .int zb]) (rest := []) hG hR dX10_bindOf_81 (lkX10_28 _ rfl) okV_X10_actOf rfl rfl (c_X10_actOf (d := 4) (by decide) h3) rfl rfl hdd (Nat.le_refl _) (Nat.le_refl _) (by decide) (fx_ki ?_)
  refine pm_iconst (v := 2) hG dX10_bindOf_84 (by decide) ?_
  refine pm_imul hG dX10_bindOf_85 ?_
  exact pm_iret hG hF dX10_bindOf_86 rfl (Nat.le_refl _) (Nat.le_refl _) (fx_ric hE)

set_option maxRecDepth 100000 in
set_option maxHeartbeats 4000000 in
theorem c_X10_bindOf {d : Nat} {B cnt : Nat} {kp : Value} {ρ : pm_S} {S : FS} {za : Int32} {zb : Int32} {R : Int32 × FS} (hdd : 6 ≤ d) (hE : f_X10_bindOf S za zb = some R) : pm_met mX10_bindOf d 0 0 B [.ref (B + 46), .int za, .int zb] cnt (cst B kp S ρ) (pm_Qi (fun v σ' cnt' => v = R.1 ∧ σ' = (cst B kp R.2 ρ) ∧ cnt' = cnt)) := by
  refine pm_enter 0 (by decide) (Nat.le_of_ble_eq_true rfl) rfl (fun G hG hR hF => ?_)
  unfold f_X10_bindOf at hE
  refine pm_iloadn hG dX10_bindOf_0 rfl ?_
  by_cases c1 : za = 3
  · replace hE := fx_t c1 hE
    refine pm_top (v := 3) c1 ?_
    refine pm_tswIn (tgt := 28) hG dX10_bindOf_1 (by decide) (by decide) rfl rfl ?_
    refine pm_aloadn hG dX10_bindOf_28 rfl ?_
    refine pm_bipush (v := 40) hG dX10_bindOf_29 (by decide) ?_
    obtain ⟨r3, h2, hE⟩ := fb_some hE
    refine pm_callV (As := [.int 40]) (rest := []) hG hR dX10_bindOf_31 (lkX10_41 _ rfl) okV_X10_note rfl rfl (c_X10_note (d := 5) (by decide) h2) rfl rfl hdd (Nat.le_refl _) (Nat.le_refl _) (by decide) (fx_kv ?_)
    refine pm_aloadn hG dX10_bindOf_34 rfl ?_
    refine pm_iconst (v := 1) hG dX10_bindOf_35 (by decide) ?_
    refine pm_iloadn hG dX10_bindOf_36 rfl ?_
    obtain ⟨r5, h4, hE⟩ := fb_some hE
    refine pm_callV (As := [.int 1, .int zb]) (rest := []) hG hR dX10_bindOf_37 (lkX10_32 _ rfl) okV_X10_bindOf rfl rfl (c_X10_bindOf_k1 (d := 5) (by decide) h4) rfl rfl hdd (Nat.le_refl _) (Nat.le_refl _) (by decide) (fx_ki ?_)
    refine pm_aloadn hG dX10_bindOf_40 rfl ?_
    refine pm_aloadn hG dX10_bindOf_41 rfl ?_
    refine pm_getf hG dX10_bindOf_42 (flX10_19 _ rfl) rfl rfl ?_
    refine pm_iloadn hG dX10_bindOf_45 rfl ?_
    obtain ⟨r7, h6, hE⟩ := fb_some hE
    refine pm_callV (As := [.int (r5.2.1 116), .int zb]) (rest := [.int r5.1]) hG hR dX10_bindOf_46 (lkX10_28 _ rfl) okV_X10_actOf rfl rfl (c_X10_actOf (d := 5) (by decide) h6) rfl rfl hdd (Nat.le_refl _) (Nat.le_refl _) (by first | decide | exact Nat.le_of_ble_eq_true rfl) (fx_ki ?_)
    refine pm_isub hG dX10_bindOf_49 ?_
    exact pm_iret hG hF dX10_bindOf_50 rfl (Nat.le_refl _) (Nat.le_refl _) (fx_ric hE)
  replace hE := fx_f c1 hE
  by_cases c8 : za = 4
  · replace hE := fx_t c8 hE
    refine pm_top (v := 4) c8 ?_
    refine pm_tswIn (tgt := 28) hG dX10_bindOf_1 (by decide) (by decide) rfl rfl ?_
    refine pm_aloadn hG dX10_bindOf_28 rfl ?_
    refine pm_bipush (v := 40) hG dX10_bindOf_29 (by decide) ?_
    obtain ⟨r10, h9, hE⟩ := fb_some hE
    refine pm_callV (As := [.int 40]) (rest := []) hG hR dX10_bindOf_31 (lkX10_41 _ rfl) okV_X10_note rfl rfl (c_X10_note (d := 5) (by decide) h9) rfl rfl hdd (Nat.le_refl _) (Nat.le_refl _) (by decide) (fx_kv ?_)
    refine pm_aloadn hG dX10_bindOf_34 rfl ?_
    refine pm_iconst (v := 1) hG dX10_bindOf_35 (by decide) ?_
    refine pm_iloadn hG dX10_bindOf_36 rfl ?_
    obtain ⟨r12, h11, hE⟩ := fb_some hE
    refine pm_callV (As := [.int 1, .int zb]) (rest := []) hG hR dX10_bindOf_37 (lkX10_32 _ rfl) okV_X10_bindOf rfl rfl (c_X10_bindOf_k1 (d := 5) (by decide) h11) rfl rfl hdd (Nat.le_refl _) (Nat.le_refl _) (by decide) (fx_ki ?_)
    refine pm_aloadn hG dX10_bindOf_40 rfl ?_
    refine pm_aloadn hG dX10_bindOf_41 rfl ?_
    refine pm_getf hG dX10_bindOf_42 (flX10_19 _ rfl) rfl rfl ?_
    refine pm_iloadn hG dX10_bindOf_45 rfl ?_
    obtain ⟨r14, h13, hE⟩ := fb_some hE
    refine pm_callV (As := [.int (r12.2.1 116), .int zb]) (rest := [.int r12.1]) hG hR dX10_bindOf_46 (lkX10_28 _ rfl) okV_X10_actOf rfl rfl (c_X10_actOf (d := 5) (by decide) h13) rfl rfl hdd (Nat.le_refl _) (Nat.le_refl _) (by first | decide | exact Nat.le_of_ble_eq_true rfl) (fx_ki ?_)
    refine pm_isub hG dX10_bindOf_49 ?_
    exact pm_iret hG hF dX10_bindOf_50 rfl (Nat.le_refl _) (Nat.le_refl _) (fx_ric hE)
  replace hE := fx_f c8 hE
  by_cases c15 : za = 5
  · replace hE := fx_t c15 hE
    refine pm_top (v := 5) c15 ?_
    refine pm_tswIn (tgt := 51) hG dX10_bindOf_1 (by decide) (by decide) rfl rfl ?_
    refine pm_aloadn hG dX10_bindOf_51 rfl ?_
    refine pm_bipush (v := 60) hG dX10_bindOf_52 (by decide) ?_
    obtain ⟨r17, h16, hE⟩ := fb_some hE
    refine pm_callV (As := [.int 60]) (rest := []) hG hR dX10_bindOf_54 (lkX10_41 _ rfl) okV_X10_note rfl rfl (c_X10_note (d := 5) (by decide) h16) rfl rfl hdd (Nat.le_refl _) (Nat.le_refl _) (by decide) (fx_kv ?_)
    refine pm_aloadn hG dX10_bindOf_57 rfl ?_
    refine pm_iconst (v := 0) hG dX10_bindOf_58 (by decide) ?_
    refine pm_iloadn hG dX10_bindOf_59 rfl ?_
    obtain ⟨r19, h18, hE⟩ := fb_some hE
    refine pm_callV (As := [.int 0, .int zb]) (rest := []) hG hR dX10_bindOf_60 (lkX10_32 _ rfl) okV_X10_bindOf rfl rfl (c_X10_bindOf_k0 (d := 5) (by decide) h18) rfl rfl hdd (Nat.le_refl _) (Nat.le_refl _) (by decide) (fx_ki ?_)
    refine pm_aloadn hG dX10_bindOf_63 rfl ?_
    refine pm_getf hG dX10_bindOf_64 (flX10_25 _ rfl) rfl rfl ?_
    refine pm_iadd hG dX10_bindOf_67 ?_
    exact pm_iret hG hF dX10_bindOf_68 rfl (Nat.le_refl _) (Nat.le_refl _) (fx_ric hE)
  replace hE := fx_f c15 hE
  have tc1 : ¬ za.toInt = 3 := fun q => c1 (Int32.toInt_inj.mp q)
  have tc8 : ¬ za.toInt = 4 := fun q => c8 (Int32.toInt_inj.mp q)
  have tc15 : ¬ za.toInt = 5 := fun q => c15 (Int32.toInt_inj.mp q)
  refine pm_tswOut (tgt := 69) hG dX10_bindOf_1 (by omega) rfl ?_
  refine pm_aloadn hG dX10_bindOf_69 rfl ?_
  refine pm_bipush (v := 11) hG dX10_bindOf_70 (by decide) ?_
  obtain ⟨r21, h20, hE⟩ := fb_some hE
  refine pm_callV (As := [.int 11]) (rest := []) hG hR dX10_bindOf_72 (lkX10_41 _ rfl) okV_X10_note rfl rfl (c_X10_note (d := 5) (by decide) h20) rfl rfl hdd (Nat.le_refl _) (Nat.le_refl _) (by decide) (fx_kv ?_)
  refine pm_aloadn hG dX10_bindOf_75 rfl ?_
  refine pm_aloadn hG dX10_bindOf_76 rfl ?_
  refine pm_getf hG dX10_bindOf_77 (flX10_19 _ rfl) rfl rfl ?_
  refine pm_iloadn hG dX10_bindOf_80 rfl ?_
  obtain ⟨r23, h22, hE⟩ := fb_some hE
  refine pm_callV (As := [.int (r21.2.1 116), .int zb]) (rest := []) hG hR dX10_bindOf_81 (lkX10_28 _ rfl) okV_X10_actOf rfl rfl (c_X10_actOf (d := 5) (by decide) h22) rfl rfl hdd (Nat.le_refl _) (Nat.le_refl _) (by decide) (fx_ki ?_)
  refine pm_iconst (v := 2) hG dX10_bindOf_84 (by decide) ?_
  refine pm_imul hG dX10_bindOf_85 ?_
  exact pm_iret hG hF dX10_bindOf_86 rfl (Nat.le_refl _) (Nat.le_refl _) (fx_ric hE)

set_option maxRecDepth 100000 in
set_option maxHeartbeats 4000000 in
theorem c_X10_bodyAt {d : Nat} {B cnt : Nat} {kp : Value} {ρ : pm_S} {S : FS} {za : Int32} {R : Int32} (hdd : 1 ≤ d) (hE : q_X10_bodyAt S za = some R) : pm_met mX10_bodyAt d 0 0 B [.ref (B + 46), .int za] cnt (cst B kp S ρ) (pm_Qi (fun v σ' cnt' => v = R ∧ σ' = (cst B kp S ρ) ∧ cnt' = cnt)) := by
  refine pm_enter 0 (by decide) (Nat.le_of_ble_eq_true rfl) rfl (fun G hG hR hF => ?_)
  unfold q_X10_bodyAt at hE
  refine pm_iloadn hG dX10_bodyAt_0 rfl ?_
  refine pm_if_lt (tgt := 30) hG dX10_bodyAt_1 rfl (fun c1 => ?_) (fun c1 => ?_)
  · replace hE := fx_t c1 hE
    refine pm_iconst (v := 0) hG dX10_bodyAt_30 (by decide) ?_
    exact pm_iret hG hF dX10_bodyAt_31 rfl (Nat.le_refl _) (Nat.le_refl _) (fx_pi (Option.some.inj hE))
  · replace hE := fx_f c1 hE
    refine pm_iloadn hG dX10_bodyAt_4 rfl ?_
    refine pm_aloadn hG dX10_bodyAt_5 rfl ?_
    refine pm_getf hG dX10_bodyAt_6 (flX10_15 _ rfl) rfl rfl ?_
    refine pm_icmp_ge (tgt := 30) hG dX10_bodyAt_9 rfl (fun c2 => ?_) (fun c2 => ?_)
    · replace c2 := Int32.not_lt.mpr c2
      replace hE := fx_f c2 hE
      refine pm_iconst (v := 0) hG dX10_bodyAt_30 (by decide) ?_
      exact pm_iret hG hF dX10_bodyAt_31 rfl (Nat.le_refl _) (Nat.le_refl _) (fx_pi (Option.some.inj hE))
    · replace c2 := Int32.not_le.mp c2
      replace hE := fx_t c2 hE
      refine pm_iloadn hG dX10_bodyAt_12 rfl ?_
      refine pm_aloadn hG dX10_bodyAt_13 rfl ?_
      refine pm_getf hG dX10_bodyAt_14 (flX10_11 _ rfl) rfl rfl ?_
      refine pm_alen (v := 40) hG dX10_bodyAt_17 rfl (by decide) ?_
      refine pm_icmp_ge (tgt := 30) hG dX10_bodyAt_18 rfl (fun c3 => ?_) (fun c3 => ?_)
      · replace c3 := Int32.not_lt.mpr c3
        replace hE := fx_f c3 hE
        refine pm_iconst (v := 0) hG dX10_bodyAt_30 (by decide) ?_
        exact pm_iret hG hF dX10_bodyAt_31 rfl (Nat.le_refl _) (Nat.le_refl _) (fx_pi (Option.some.inj hE))
      · replace c3 := Int32.not_le.mp c3
        replace hE := fx_t c3 hE
        refine pm_aloadn hG dX10_bodyAt_21 rfl ?_
        refine pm_getf hG dX10_bodyAt_22 (flX10_11 _ rfl) rfl rfl ?_
        refine pm_iloadn hG dX10_bodyAt_25 rfl ?_
        obtain ⟨j4, hj4, hE⟩ := fb_some hE
        refine fx_iald hG dX10_bodyAt_26 rfl hj4 ?_
        refine pm_goto (tgt := 31) hG dX10_bodyAt_27 rfl ?_
        exact pm_iret hG hF dX10_bodyAt_31 rfl (Nat.le_refl _) (Nat.le_refl _) (fx_pi (Option.some.inj hE))

set_option maxRecDepth 100000 in
set_option maxHeartbeats 4000000 in
theorem c_X10_rankOf_k0 {d : Nat} {B cnt : Nat} {kp : Value} {ρ : pm_S} {S : FS} {zb : Int32} {R : Int32 × FS} (hdd : 2 ≤ d) (hE : f_X10_rankOf_k0 S zb = some R) : pm_met mX10_rankOf d 0 0 B [.ref (B + 46), .int 0, .int zb] cnt (cst B kp S ρ) (pm_Qi (fun v σ' cnt' => v = R.1 ∧ σ' = (cst B kp R.2 ρ) ∧ cnt' = cnt)) := by
  refine pm_enter 0 (by decide) (Nat.le_of_ble_eq_true rfl) rfl (fun G hG hR hF => ?_)
  unfold f_X10_rankOf_k0 at hE
  refine pm_iloadn hG dX10_rankOf_0 rfl ?_
  refine pm_iconst (v := 2) hG dX10_rankOf_1 (by decide) ?_
  refine pm_icmp_ne (tgt := 20) hG dX10_rankOf_2 rfl (fun _ => ?_) (fun q => absurd q (by decide))
  refine pm_aloadn hG dX10_rankOf_20 rfl ?_
  refine pm_bipush (v := 12) hG dX10_rankOf_21 (by decide) ?_
  obtain ⟨r2, h1, hE⟩ := fb_some hE
  refine pm_callV (As := [.int 12]) (rest := []) hG hR dX10_rankOf_23 (lkX10_41 _ rfl) okV_X10_note rfl rfl (c_X10_note (d := 1) (by decide) h1) rfl rfl hdd (Nat.le_refl _) (Nat.le_refl _) (by decide) (fx_kv ?_)
  refine pm_iloadn hG dX10_rankOf_26 rfl ?_
  refine pm_aloadn hG dX10_rankOf_27 rfl ?_
  refine pm_getf hG dX10_rankOf_28 (flX10_22 _ rfl) rfl rfl ?_
  refine pm_isub hG dX10_rankOf_31 ?_
  exact pm_iret hG hF dX10_rankOf_32 rfl (Nat.le_refl _) (Nat.le_refl _) (fx_ric hE)

set_option maxRecDepth 100000 in
set_option maxHeartbeats 4000000 in
theorem c_X10_rankOf {d : Nat} {B cnt : Nat} {kp : Value} {ρ : pm_S} {S : FS} {za : Int32} {zb : Int32} {R : Int32 × FS} (hdd : 3 ≤ d) (hE : f_X10_rankOf S za zb = some R) : pm_met mX10_rankOf d 0 0 B [.ref (B + 46), .int za, .int zb] cnt (cst B kp S ρ) (pm_Qi (fun v σ' cnt' => v = R.1 ∧ σ' = (cst B kp R.2 ρ) ∧ cnt' = cnt)) := by
  refine pm_enter 0 (by decide) (Nat.le_of_ble_eq_true rfl) rfl (fun G hG hR hF => ?_)
  unfold f_X10_rankOf at hE
  refine pm_iloadn hG dX10_rankOf_0 rfl ?_
  refine pm_iconst (v := 2) hG dX10_rankOf_1 (by decide) ?_
  refine pm_icmp_ne (tgt := 20) hG dX10_rankOf_2 rfl (fun c1 => ?_) (fun c1 => ?_)
  · replace hE := fx_f c1 hE
    refine pm_aloadn hG dX10_rankOf_20 rfl ?_
    refine pm_bipush (v := 12) hG dX10_rankOf_21 (by decide) ?_
    obtain ⟨r3, h2, hE⟩ := fb_some hE
    refine pm_callV (As := [.int 12]) (rest := []) hG hR dX10_rankOf_23 (lkX10_41 _ rfl) okV_X10_note rfl rfl (c_X10_note (d := 2) (by decide) h2) rfl rfl hdd (Nat.le_refl _) (Nat.le_refl _) (by decide) (fx_kv ?_)
    refine pm_iloadn hG dX10_rankOf_26 rfl ?_
    refine pm_aloadn hG dX10_rankOf_27 rfl ?_
    refine pm_getf hG dX10_rankOf_28 (flX10_22 _ rfl) rfl rfl ?_
    refine pm_isub hG dX10_rankOf_31 ?_
    exact pm_iret hG hF dX10_rankOf_32 rfl (Nat.le_refl _) (Nat.le_refl _) (fx_ric hE)
  · replace hE := fx_t c1 hE
    refine pm_aloadn hG dX10_rankOf_5 rfl ?_
    refine pm_bipush (v := 30) hG dX10_rankOf_6 (by decide) ?_
    obtain ⟨r5, h4, hE⟩ := fb_some hE
    refine pm_callV (As := [.int 30]) (rest := []) hG hR dX10_rankOf_8 (lkX10_41 _ rfl) okV_X10_note rfl rfl (c_X10_note (d := 2) (by decide) h4) rfl rfl hdd (Nat.le_refl _) (Nat.le_refl _) (by decide) (fx_kv ?_)
    refine pm_aloadn hG dX10_rankOf_11 rfl ?_
    refine pm_iconst (v := 0) hG dX10_rankOf_12 (by decide) ?_
    refine pm_iloadn hG dX10_rankOf_13 rfl ?_
    obtain ⟨r7, h6, hE⟩ := fb_some hE
    refine pm_callV (As := [.int 0, .int zb]) (rest := []) hG hR dX10_rankOf_14 (lkX10_35 _ rfl) okV_X10_rankOf rfl rfl (c_X10_rankOf_k0 (d := 2) (by decide) h6) rfl rfl hdd (Nat.le_refl _) (Nat.le_refl _) (by decide) (fx_ki ?_)
    refine pm_iconst (v := 3) hG dX10_rankOf_17 (by decide) ?_
    refine pm_imul hG dX10_rankOf_18 ?_
    exact pm_iret hG hF dX10_rankOf_19 rfl (Nat.le_refl _) (Nat.le_refl _) (fx_ric hE)

set_option maxRecDepth 100000 in
set_option maxHeartbeats 4000000 in
theorem c_X10_tellOf_k0 {d : Nat} {B cnt : Nat} {kp : Value} {ρ : pm_S} {S : FS} {zb : Int32} {R : Int32 × FS} (hdd : 7 ≤ d) (hE : f_X10_tellOf_k0 S zb = some R) : pm_met mX10_tellOf d 0 0 B [.ref (B + 46), .int 0, .int zb] cnt (cst B kp S ρ) (pm_Qi (fun v σ' cnt' => v = R.1 ∧ σ' = (cst B kp R.2 ρ) ∧ cnt' = cnt)) := by
  refine pm_enter 0 (by decide) (Nat.le_of_ble_eq_true rfl) rfl (fun G hG hR hF => ?_)
  unfold f_X10_tellOf_k0 at hE
  refine pm_iloadn hG dX10_tellOf_0 rfl ?_
  refine pm_tswOut (tgt := 70) hG dX10_tellOf_1 (by decide) rfl ?_
  refine pm_aloadn hG dX10_tellOf_70 rfl ?_
  refine pm_bipush (v := 13) hG dX10_tellOf_71 (by decide) ?_
  obtain ⟨r2, h1, hE⟩ := fb_some hE
  refine pm_callV (As := [.int 13]) (rest := []) hG hR dX10_tellOf_73 (lkX10_41 _ rfl) okV_X10_note rfl rfl (c_X10_note (d := 6) (by decide) h1) rfl rfl hdd (Nat.le_refl _) (Nat.le_refl _) (by decide) (fx_kv ?_)
  refine pm_aloadn hG dX10_tellOf_76 rfl ?_
  refine pm_aloadn hG dX10_tellOf_77 rfl ?_
  refine pm_getf hG dX10_tellOf_78 (flX10_19 _ rfl) rfl rfl ?_
  refine pm_iloadn hG dX10_tellOf_81 rfl ?_
  obtain ⟨r4, h3, hE⟩ := fb_some hE
  refine pm_callV (As := [.int (r2.2.1 116), .int zb]) (rest := []) hG hR dX10_tellOf_82 (lkX10_32 _ rfl) okV_X10_bindOf rfl rfl (c_X10_bindOf (d := 6) (by decide) h3) rfl rfl hdd (Nat.le_refl _) (Nat.le_refl _) (by decide) (fx_ki ?_)
  refine pm_aloadn hG dX10_tellOf_85 rfl ?_
  refine pm_aloadn hG dX10_tellOf_86 rfl ?_
  refine pm_getf hG dX10_tellOf_87 (flX10_19 _ rfl) rfl rfl ?_
  refine pm_iloadn hG dX10_tellOf_90 rfl ?_
  obtain ⟨r6, h5, hE⟩ := fb_some hE
  refine pm_callV (As := [.int (r4.2.1 116), .int zb]) (rest := [.int r4.1]) hG hR dX10_tellOf_91 (lkX10_35 _ rfl) okV_X10_rankOf rfl rfl (c_X10_rankOf (d := 6) (by decide) h5) rfl rfl hdd (Nat.le_refl _) (Nat.le_refl _) (by first | decide | exact Nat.le_of_ble_eq_true rfl) (fx_ki ?_)
  refine pm_ixor hG dX10_tellOf_94 ?_
  exact pm_iret hG hF dX10_tellOf_95 rfl (Nat.le_refl _) (Nat.le_refl _) (fx_ric hE)

set_option maxRecDepth 100000 in
set_option maxHeartbeats 4000000 in
theorem c_X10_tellOf_k3 {d : Nat} {B cnt : Nat} {kp : Value} {ρ : pm_S} {S : FS} {zb : Int32} {R : Int32 × FS} (hdd : 8 ≤ d) (hE : f_X10_tellOf_k3 S zb = some R) : pm_met mX10_tellOf d 0 0 B [.ref (B + 46), .int 3, .int zb] cnt (cst B kp S ρ) (pm_Qi (fun v σ' cnt' => v = R.1 ∧ σ' = (cst B kp R.2 ρ) ∧ cnt' = cnt)) := by
  refine pm_enter 0 (by decide) (Nat.le_of_ble_eq_true rfl) rfl (fun G hG hR hF => ?_)
  unfold f_X10_tellOf_k3 at hE
  refine pm_iloadn hG dX10_tellOf_0 rfl ?_
  refine pm_tswIn (tgt := 55) hG dX10_tellOf_1 (by decide) (by decide) rfl rfl ?_
  refine pm_aloadn hG dX10_tellOf_55 rfl ?_
  refine pm_bipush (v := 21) hG dX10_tellOf_56 (by decide) ?_
  obtain ⟨r2, h1, hE⟩ := fb_some hE
  refine pm_callV (As := [.int 21]) (rest := []) hG hR dX10_tellOf_58 (lkX10_41 _ rfl) okV_X10_note rfl rfl (c_X10_note (d := 7) (by decide) h1) rfl rfl hdd (Nat.le_refl _) (Nat.le_refl _) (by decide) (fx_kv ?_)
  refine pm_aloadn hG dX10_tellOf_61 rfl ?_
  refine pm_iconst (v := 0) hG dX10_tellOf_62 (by decide) ?_
  refine pm_iloadn hG dX10_tellOf_63 rfl ?_
  refine pm_iconst (v := 1) hG dX10_tellOf_64 (by decide) ?_
  refine pm_iadd hG dX10_tellOf_65 ?_
  obtain ⟨r4, h3, hE⟩ := fb_some hE
  refine pm_callV (As := [.int 0, .int (zb + 1)]) (rest := []) hG hR dX10_tellOf_66 (lkX10_38 _ rfl) okV_X10_tellOf rfl rfl (c_X10_tellOf_k0 (d := 7) (by decide) h3) rfl rfl hdd (Nat.le_refl _) (Nat.le_refl _) (by decide) (fx_ki ?_)
  exact pm_iret hG hF dX10_tellOf_69 rfl (Nat.le_refl _) (Nat.le_refl _) (fx_ric hE)

set_option maxRecDepth 100000 in
set_option maxHeartbeats 4000000 in
theorem c_X10_tellOf {d : Nat} {B cnt : Nat} {kp : Value} {ρ : pm_S} {S : FS} {za : Int32} {zb : Int32} {R : Int32 × FS} (hdd : 9 ≤ d) (hE : f_X10_tellOf S za zb = some R) : pm_met mX10_tellOf d 0 0 B [.ref (B + 46), .int za, .int zb] cnt (cst B kp S ρ) (pm_Qi (fun v σ' cnt' => v = R.1 ∧ σ' = (cst B kp R.2 ρ) ∧ cnt' = cnt)) := by
  refine pm_enter 0 (by decide) (Nat.le_of_ble_eq_true rfl) rfl (fun G hG hR hF => ?_)
  unfold f_X10_tellOf at hE
  refine pm_iloadn hG dX10_tellOf_0 rfl ?_
  by_cases c1 : za = 1
  · replace hE := fx_t c1 hE
    refine pm_top (v := 1) c1 ?_
    refine pm_tswIn (tgt := 55) hG dX10_tellOf_1 (by decide) (by decide) rfl rfl ?_
    refine pm_aloadn hG dX10_tellOf_55 rfl ?_
    refine pm_bipush (v := 21) hG dX10_tellOf_56 (by decide) ?_
    obtain ⟨r3, h2, hE⟩ := fb_some hE
    refine pm_callV (As := [.int 21]) (rest := []) hG hR dX10_tellOf_58 (lkX10_41 _ rfl) okV_X10_note rfl rfl (c_X10_note (d := 8) (by decide) h2) rfl rfl hdd (Nat.le_refl _) (Nat.le_refl _) (by decide) (fx_kv ?_)
    refine pm_aloadn hG dX10_tellOf_61 rfl ?_
    refine pm_iconst (v := 0) hG dX10_tellOf_62 (by decide) ?_
    refine pm_iloadn hG dX10_tellOf_63 rfl ?_
    refine pm_iconst (v := 1) hG dX10_tellOf_64 (by decide) ?_
    refine pm_iadd hG dX10_tellOf_65 ?_
    obtain ⟨r5, h4, hE⟩ := fb_some hE
    refine pm_callV (As := [.int 0, .int (zb + 1)]) (rest := []) hG hR dX10_tellOf_66 (lkX10_38 _ rfl) okV_X10_tellOf rfl rfl (c_X10_tellOf_k0 (d := 8) (by decide) h4) rfl rfl hdd (Nat.le_refl _) (Nat.le_refl _) (by decide) (fx_ki ?_)
    exact pm_iret hG hF dX10_tellOf_69 rfl (Nat.le_refl _) (Nat.le_refl _) (fx_ric hE)
  replace hE := fx_f c1 hE
  by_cases c6 : za = 2
  · replace hE := fx_t c6 hE
    refine pm_top (v := 2) c6 ?_
    refine pm_tswIn (tgt := 70) hG dX10_tellOf_1 (by decide) (by decide) rfl rfl ?_
    refine pm_aloadn hG dX10_tellOf_70 rfl ?_
    refine pm_bipush (v := 13) hG dX10_tellOf_71 (by decide) ?_
    obtain ⟨r8, h7, hE⟩ := fb_some hE
    refine pm_callV (As := [.int 13]) (rest := []) hG hR dX10_tellOf_73 (lkX10_41 _ rfl) okV_X10_note rfl rfl (c_X10_note (d := 8) (by decide) h7) rfl rfl hdd (Nat.le_refl _) (Nat.le_refl _) (by decide) (fx_kv ?_)
    refine pm_aloadn hG dX10_tellOf_76 rfl ?_
    refine pm_aloadn hG dX10_tellOf_77 rfl ?_
    refine pm_getf hG dX10_tellOf_78 (flX10_19 _ rfl) rfl rfl ?_
    refine pm_iloadn hG dX10_tellOf_81 rfl ?_
    obtain ⟨r10, h9, hE⟩ := fb_some hE
    refine pm_callV (As := [.int (r8.2.1 116), .int zb]) (rest := []) hG hR dX10_tellOf_82 (lkX10_32 _ rfl) okV_X10_bindOf rfl rfl (c_X10_bindOf (d := 8) (by decide) h9) rfl rfl hdd (Nat.le_refl _) (Nat.le_refl _) (by decide) (fx_ki ?_)
    refine pm_aloadn hG dX10_tellOf_85 rfl ?_
    refine pm_aloadn hG dX10_tellOf_86 rfl ?_
    refine pm_getf hG dX10_tellOf_87 (flX10_19 _ rfl) rfl rfl ?_
    refine pm_iloadn hG dX10_tellOf_90 rfl ?_
    obtain ⟨r12, h11, hE⟩ := fb_some hE
    refine pm_callV (As := [.int (r10.2.1 116), .int zb]) (rest := [.int r10.1]) hG hR dX10_tellOf_91 (lkX10_35 _ rfl) okV_X10_rankOf rfl rfl (c_X10_rankOf (d := 8) (by decide) h11) rfl rfl hdd (Nat.le_refl _) (Nat.le_refl _) (by first | decide | exact Nat.le_of_ble_eq_true rfl) (fx_ki ?_)
    refine pm_ixor hG dX10_tellOf_94 ?_
    exact pm_iret hG hF dX10_tellOf_95 rfl (Nat.le_refl _) (Nat.le_refl _) (fx_ric hE)
  replace hE := fx_f c6 hE
  by_cases c13 : za = 3
  · replace hE := fx_t c13 hE
    refine pm_top (v := 3) c13 ?_
    refine pm_tswIn (tgt := 55) hG dX10_tellOf_1 (by decide) (by decide) rfl rfl ?_
    refine pm_aloadn hG dX10_tellOf_55 rfl ?_
    refine pm_bipush (v := 21) hG dX10_tellOf_56 (by decide) ?_
    obtain ⟨r15, h14, hE⟩ := fb_some hE
    refine pm_callV (As := [.int 21]) (rest := []) hG hR dX10_tellOf_58 (lkX10_41 _ rfl) okV_X10_note rfl rfl (c_X10_note (d := 8) (by decide) h14) rfl rfl hdd (Nat.le_refl _) (Nat.le_refl _) (by decide) (fx_kv ?_)
    refine pm_aloadn hG dX10_tellOf_61 rfl ?_
    refine pm_iconst (v := 0) hG dX10_tellOf_62 (by decide) ?_
    refine pm_iloadn hG dX10_tellOf_63 rfl ?_
    refine pm_iconst (v := 1) hG dX10_tellOf_64 (by decide) ?_
    refine pm_iadd hG dX10_tellOf_65 ?_
    obtain ⟨r17, h16, hE⟩ := fb_some hE
    refine pm_callV (As := [.int 0, .int (zb + 1)]) (rest := []) hG hR dX10_tellOf_66 (lkX10_38 _ rfl) okV_X10_tellOf rfl rfl (c_X10_tellOf_k0 (d := 8) (by decide) h16) rfl rfl hdd (Nat.le_refl _) (Nat.le_refl _) (by decide) (fx_ki ?_)
    exact pm_iret hG hF dX10_tellOf_69 rfl (Nat.le_refl _) (Nat.le_refl _) (fx_ric hE)
  replace hE := fx_f c13 hE
  by_cases c18 : za = 4
  · replace hE := fx_t c18 hE
    refine pm_top (v := 4) c18 ?_
    refine pm_tswIn (tgt := 32) hG dX10_tellOf_1 (by decide) (by decide) rfl rfl ?_
    refine pm_aloadn hG dX10_tellOf_32 rfl ?_
    refine pm_bipush (v := 51) hG dX10_tellOf_33 (by decide) ?_
    obtain ⟨r20, h19, hE⟩ := fb_some hE
    refine pm_callV (As := [.int 51]) (rest := []) hG hR dX10_tellOf_35 (lkX10_41 _ rfl) okV_X10_note rfl rfl (c_X10_note (d := 8) (by decide) h19) rfl rfl hdd (Nat.le_refl _) (Nat.le_refl _) (by decide) (fx_kv ?_)
    refine pm_aloadn hG dX10_tellOf_38 rfl ?_
    refine pm_aloadn hG dX10_tellOf_39 rfl ?_
    refine pm_getf hG dX10_tellOf_40 (flX10_19 _ rfl) rfl rfl ?_
    refine pm_iloadn hG dX10_tellOf_43 rfl ?_
    obtain ⟨r22, h21, hE⟩ := fb_some hE
    refine pm_callV (As := [.int (r20.2.1 116), .int zb]) (rest := []) hG hR dX10_tellOf_44 (lkX10_35 _ rfl) okV_X10_rankOf rfl rfl (c_X10_rankOf (d := 8) (by decide) h21) rfl rfl hdd (Nat.le_refl _) (Nat.le_refl _) (by decide) (fx_ki ?_)
    refine pm_aloadn hG dX10_tellOf_47 rfl ?_
    refine pm_iconst (v := 3) hG dX10_tellOf_48 (by decide) ?_
    refine pm_iloadn hG dX10_tellOf_49 rfl ?_
    obtain ⟨r24, h23, hE⟩ := fb_some hE
    refine pm_callV (As := [.int 3, .int zb]) (rest := [.int r22.1]) hG hR dX10_tellOf_50 (lkX10_38 _ rfl) okV_X10_tellOf rfl rfl (c_X10_tellOf_k3 (d := 8) (by decide) h23) rfl rfl hdd (Nat.le_refl _) (Nat.le_refl _) (by first | decide | exact Nat.le_of_ble_eq_true rfl) (fx_ki ?_)
    refine pm_isub hG dX10_tellOf_53 ?_
    exact pm_iret hG hF dX10_tellOf_54 rfl (Nat.le_refl _) (Nat.le_refl _) (fx_ric hE)
  replace hE := fx_f c18 hE
  have tc1 : ¬ za.toInt = 1 := fun q => c1 (Int32.toInt_inj.mp q)
  have tc6 : ¬ za.toInt = 2 := fun q => c6 (Int32.toInt_inj.mp q)
  have tc13 : ¬ za.toInt = 3 := fun q => c13 (Int32.toInt_inj.mp q)
  have tc18 : ¬ za.toInt = 4 := fun q => c18 (Int32.toInt_inj.mp q)
  refine pm_tswOut (tgt := 70) hG dX10_tellOf_1 (by omega) rfl ?_
  refine pm_aloadn hG dX10_tellOf_70 rfl ?_
  refine pm_bipush (v := 13) hG dX10_tellOf_71 (by decide) ?_
  obtain ⟨r26, h25, hE⟩ := fb_some hE
  refine pm_callV (As := [.int 13]) (rest := []) hG hR dX10_tellOf_73 (lkX10_41 _ rfl) okV_X10_note rfl rfl (c_X10_note (d := 8) (by decide) h25) rfl rfl hdd (Nat.le_refl _) (Nat.le_refl _) (by decide) (fx_kv ?_)
  refine pm_aloadn hG dX10_tellOf_76 rfl ?_
  refine pm_aloadn hG dX10_tellOf_77 rfl ?_
  refine pm_getf hG dX10_tellOf_78 (flX10_19 _ rfl) rfl rfl ?_
  refine pm_iloadn hG dX10_tellOf_81 rfl ?_
  obtain ⟨r28, h27, hE⟩ := fb_some hE
  refine pm_callV (As := [.int (r26.2.1 116), .int zb]) (rest := []) hG hR dX10_tellOf_82 (lkX10_32 _ rfl) okV_X10_bindOf rfl rfl (c_X10_bindOf (d := 8) (by decide) h27) rfl rfl hdd (Nat.le_refl _) (Nat.le_refl _) (by decide) (fx_ki ?_)
  refine pm_aloadn hG dX10_tellOf_85 rfl ?_
  refine pm_aloadn hG dX10_tellOf_86 rfl ?_
  refine pm_getf hG dX10_tellOf_87 (flX10_19 _ rfl) rfl rfl ?_
  refine pm_iloadn hG dX10_tellOf_90 rfl ?_
  obtain ⟨r30, h29, hE⟩ := fb_some hE
  refine pm_callV (As := [.int (r28.2.1 116), .int zb]) (rest := [.int r28.1]) hG hR dX10_tellOf_91 (lkX10_35 _ rfl) okV_X10_rankOf rfl rfl (c_X10_rankOf (d := 8) (by decide) h29) rfl rfl hdd (Nat.le_refl _) (Nat.le_refl _) (by first | decide | exact Nat.le_of_ble_eq_true rfl) (fx_ki ?_)
  refine pm_ixor hG dX10_tellOf_94 ?_
  exact pm_iret hG hF dX10_tellOf_95 rfl (Nat.le_refl _) (Nat.le_refl _) (fx_ric hE)
end
section
set_option maxRecDepth 100000 in
set_option maxHeartbeats 4000000 in
theorem c_X10_speak {d : Nat} {B cnt : Nat} {kp : Value} {ρ : pm_S} {S : FS} {za : Int32} {zb : Int32} {R : Int32 × FS} (hdd : 10 ≤ d) (hE : f_X10_speak S za zb = some R) : pm_met mX10_speak d 0 0 B [.ref (B + 46), .int za, .int zb] cnt (cst B kp S ρ) (pm_Qi (fun v σ' cnt' => v = R.1 ∧ σ' = (cst B kp R.2 ρ) ∧ cnt' = cnt)) := by
  refine pm_enter 0 (by decide) (Nat.le_of_ble_eq_true rfl) rfl (fun G hG hR hF => ?_)
  unfold f_X10_speak at hE
  refine pm_iloadn hG dX10_speak_0 rfl ?_
  by_cases c1 : za = 0
  · replace hE := fx_t c1 hE
    refine pm_top (v := 0) c1 ?_
    refine pm_tswIn (tgt := 28) hG dX10_speak_1 (by decide) (by decide) rfl rfl ?_
    refine pm_aloadn hG dX10_speak_28 rfl ?_
    refine pm_aloadn hG dX10_speak_29 rfl ?_
    refine pm_getf hG dX10_speak_30 (flX10_19 _ rfl) rfl rfl ?_
    refine pm_iloadn hG dX10_speak_33 rfl ?_
    obtain ⟨r3, h2, hE⟩ := fb_some hE
    refine pm_callV (As := [.int (S.1 116), .int zb]) (rest := []) hG hR dX10_speak_34 (lkX10_28 _ rfl) okV_X10_actOf rfl rfl (c_X10_actOf (d := 9) (by decide) h2) rfl rfl hdd (Nat.le_refl _) (Nat.le_refl _) (by decide) (fx_ki ?_)
    exact pm_iret hG hF dX10_speak_37 rfl (Nat.le_refl _) (Nat.le_refl _) (fx_ric hE)
  replace hE := fx_f c1 hE
  by_cases c4 : za = 1
  · replace hE := fx_t c4 hE
    refine pm_top (v := 1) c4 ?_
    refine pm_tswIn (tgt := 38) hG dX10_speak_1 (by decide) (by decide) rfl rfl ?_
    refine pm_aloadn hG dX10_speak_38 rfl ?_
    refine pm_aloadn hG dX10_speak_39 rfl ?_
    refine pm_getf hG dX10_speak_40 (flX10_19 _ rfl) rfl rfl ?_
    refine pm_iloadn hG dX10_speak_43 rfl ?_
    obtain ⟨r6, h5, hE⟩ := fb_some hE
    refine pm_callV (As := [.int (S.1 116), .int zb]) (rest := []) hG hR dX10_speak_44 (lkX10_32 _ rfl) okV_X10_bindOf rfl rfl (c_X10_bindOf (d := 9) (by decide) h5) rfl rfl hdd (Nat.le_refl _) (Nat.le_refl _) (by decide) (fx_ki ?_)
    exact pm_iret hG hF dX10_speak_47 rfl (Nat.le_refl _) (Nat.le_refl _) (fx_ric hE)
  replace hE := fx_f c4 hE
  by_cases c7 : za = 2
  · replace hE := fx_t c7 hE
    refine pm_top (v := 2) c7 ?_
    refine pm_tswIn (tgt := 48) hG dX10_speak_1 (by decide) (by decide) rfl rfl ?_
    refine pm_aloadn hG dX10_speak_48 rfl ?_
    refine pm_aloadn hG dX10_speak_49 rfl ?_
    refine pm_getf hG dX10_speak_50 (flX10_19 _ rfl) rfl rfl ?_
    refine pm_iloadn hG dX10_speak_53 rfl ?_
    obtain ⟨r9, h8, hE⟩ := fb_some hE
    refine pm_callV (As := [.int (S.1 116), .int zb]) (rest := []) hG hR dX10_speak_54 (lkX10_35 _ rfl) okV_X10_rankOf rfl rfl (c_X10_rankOf (d := 9) (by decide) h8) rfl rfl hdd (Nat.le_refl _) (Nat.le_refl _) (by decide) (fx_ki ?_)
    exact pm_iret hG hF dX10_speak_57 rfl (Nat.le_refl _) (Nat.le_refl _) (fx_ric hE)
  replace hE := fx_f c7 hE
  have tc1 : ¬ za.toInt = 0 := fun q => c1 (Int32.toInt_inj.mp q)
  have tc4 : ¬ za.toInt = 1 := fun q => c4 (Int32.toInt_inj.mp q)
  have tc7 : ¬ za.toInt = 2 := fun q => c7 (Int32.toInt_inj.mp q)
  refine pm_tswOut (tgt := 58) hG dX10_speak_1 (by omega) rfl ?_
  refine pm_aloadn hG dX10_speak_58 rfl ?_
  refine pm_aloadn hG dX10_speak_59 rfl ?_
  refine pm_getf hG dX10_speak_60 (flX10_19 _ rfl) rfl rfl ?_
  refine pm_iloadn hG dX10_speak_63 rfl ?_
  obtain ⟨r11, h10, hE⟩ := fb_some hE
  refine pm_callV (As := [.int (S.1 116), .int zb]) (rest := []) hG hR dX10_speak_64 (lkX10_38 _ rfl) okV_X10_tellOf rfl rfl (c_X10_tellOf (d := 9) (by decide) h10) rfl rfl hdd (Nat.le_refl _) (Nat.le_refl _) (by decide) (fx_ki ?_)
  exact pm_iret hG hF dX10_speak_67 rfl (Nat.le_refl _) (Nat.le_refl _) (fx_ric hE)

set_option maxRecDepth 100000 in
set_option maxHeartbeats 4000000 in
theorem c_X11_told {d : Nat} {B cnt : Nat} {kp : Value} {ρ : pm_S} {S : FS} {za : Int32} {R : Int32 × FS} (hdd : 1 ≤ d) (hE : f_X11_told S za = some R) : pm_met mX11_told d 0 0 B [.ref (B + 0), .int za] cnt (cst B kp S ρ) (pm_Qi (fun v σ' cnt' => v = R.1 ∧ σ' = (cst B kp R.2 ρ) ∧ cnt' = cnt)) := by
  refine pm_enter 2 (by decide) (Nat.le_of_ble_eq_true rfl) rfl (fun G hG hR hF => ?_)
  unfold f_X11_told at hE
  refine pm_ldc2 hG dX11_told_0 (ctX11_404 _ rfl) ?_
  refine pm_iloadn hG dX11_told_3 rfl ?_
  refine pm_i2l hG dX11_told_4 rfl ?_
  refine pm_lsub hG dX11_told_5 ?_
  refine pm_lstoreXn (loc' := [some (.ref (B + 0)), some (.int za), some (.long ((-1000000) - za.toInt64)), none]) hG dX11_told_6 (by decide) (pm_c1b rfl) rfl ?_
  refine pm_lloadn hG dX11_told_7 rfl ?_
  refine pm_lconst (v := 1) hG dX11_told_8 (by decide) ?_
  refine pm_lcmp hG dX11_told_9 ?_
  refine pm_if_lt (tgt := 43) hG dX11_told_10 rfl (fun c1 => ?_) (fun c1 => ?_)
  · replace hE := fx_t c1 hE
    refine pm_iloadn hG dX11_told_43 rfl ?_
    exact pm_iret hG hF dX11_told_44 rfl (Nat.le_refl _) (Nat.le_refl _) (fx_ric hE)
  · replace hE := fx_f c1 hE
    refine pm_lloadn hG dX11_told_13 rfl ?_
    refine pm_ldc2 hG dX11_told_14 (ctX11_406 _ rfl) ?_
    refine pm_lcmp hG dX11_told_17 ?_
    refine pm_if_gt (tgt := 43) hG dX11_told_18 rfl (fun c2 => ?_) (fun c2 => ?_)
    · replace hE := fx_t c2 hE
      refine pm_iloadn hG dX11_told_43 rfl ?_
      exact pm_iret hG hF dX11_told_44 rfl (Nat.le_refl _) (Nat.le_refl _) (fx_ric hE)
    · replace hE := fx_f c2 hE
      refine pm_lloadn hG dX11_told_21 rfl ?_
      refine pm_aloadn hG dX11_told_22 rfl ?_
      refine pm_getf hG dX11_told_23 (flX11_78 _ rfl) rfl rfl ?_
      refine pm_alen (v := 6) hG dX11_told_26 rfl (by decide) ?_
      refine pm_i2l (v := 6) hG dX11_told_27 (by decide) ?_
      refine pm_lcmp hG dX11_told_28 ?_
      refine pm_if_ge (tgt := 43) hG dX11_told_29 rfl (fun c3 => ?_) (fun c3 => ?_)
      · replace c3 := Int32.not_lt.mpr c3
        replace hE := fx_f c3 hE
        refine pm_iloadn hG dX11_told_43 rfl ?_
        exact pm_iret hG hF dX11_told_44 rfl (Nat.le_refl _) (Nat.le_refl _) (fx_ric hE)
      · replace c3 := Int32.not_le.mp c3
        replace hE := fx_t c3 hE
        refine pm_aloadn hG dX11_told_32 rfl ?_
        refine pm_getf hG dX11_told_33 (flX11_78 _ rfl) rfl rfl ?_
        refine pm_lloadn hG dX11_told_36 rfl ?_
        refine pm_l2i hG dX11_told_37 rfl ?_
        refine pm_dup2 hG dX11_told_38 rfl rfl ?_
        obtain ⟨j4, hj4, hE⟩ := fb_some hE
        refine fx_iald hG dX11_told_39 rfl hj4 ?_
        refine pm_iconst (v := 1) hG dX11_told_40 (by decide) ?_
        refine pm_iadd hG dX11_told_41 ?_
        refine fx_iast hG dX11_told_42 rfl hj4 ?_
        refine ca_53 ?_
        refine fx_letc hE (fun S5 hE => ?_)
        refine pm_iloadn hG dX11_told_43 rfl ?_
        exact pm_iret hG hF dX11_told_44 rfl (Nat.le_refl _) (Nat.le_refl _) (fx_ric hE)

set_option maxRecDepth 100000 in
set_option maxHeartbeats 4000000 in
theorem c_X11_about {d : Nat} {B cnt : Nat} {kp : Value} {ρ : pm_S} {S : FS} {za : Int32} {zb : Int32} {R : Int32 × FS} (hdd : 2 ≤ d) (hE : f_X11_about S za zb = some R) : pm_met mX11_about d 0 0 B [.ref (B + 0), .int za, .int zb] cnt (cst B kp S ρ) (pm_Qi (fun v σ' cnt' => v = R.1 ∧ σ' = (cst B kp R.2 ρ) ∧ cnt' = cnt)) := by
  refine pm_enter 0 (by decide) (Nat.le_of_ble_eq_true rfl) rfl (fun G hG hR hF => ?_)
  unfold f_X11_about at hE
  refine pm_aloadn hG dX11_about_0 rfl ?_
  refine pm_getf hG dX11_about_1 (flX11_12 _ rfl) rfl rfl ?_
  refine pm_getf hG dX11_about_4 (flX11_128 _ rfl) rfl rfl ?_
  refine pm_iloadn hG dX11_about_7 rfl ?_
  refine pm_callV (As := [.int za]) (rest := []) hG hR dX11_about_8 (lkX11_101 _ rfl) okV_X9_has rfl rfl (thas_6 (d := 1)) rfl rfl hdd (Nat.le_refl _) (Nat.le_refl _) (by decide) (fx_ki ?_)
  refine pm_if_ne (tgt := 21) hG dX11_about_11 rfl (fun c1 => ?_) (fun c1 => ?_)
  · replace hE := fx_f c1 hE
    refine pm_iloadn hG dX11_about_21 rfl ?_
    by_cases c2 : zb = 0
    · replace hE := fx_t c2 hE
      refine pm_top (v := 0) c2 ?_
      refine pm_tswIn (tgt := 76) hG dX11_about_22 (by decide) (by decide) rfl rfl ?_
      refine pm_aloadn hG dX11_about_76 rfl ?_
      refine pm_getf hG dX11_about_77 (flX11_12 _ rfl) rfl rfl ?_
      refine pm_getf hG dX11_about_80 (flX11_128 _ rfl) rfl rfl ?_
      refine pm_iloadn hG dX11_about_83 rfl ?_
      refine pm_iconst (v := 4) hG dX11_about_84 (by decide) ?_
      refine pm_callV (As := [.int za, .int 4]) (rest := []) hG hR dX11_about_85 (lkX11_152 _ rfl) okV_X9_get rfl rfl (tget_6 (d := 1)) rfl rfl hdd (Nat.le_refl _) (Nat.le_refl _) (by decide) (fx_ki ?_)
      exact pm_iret hG hF dX11_about_88 rfl (Nat.le_refl _) (Nat.le_refl _) (fx_ric hE)
    replace hE := fx_f c2 hE
    by_cases c3 : zb = 1
    · replace hE := fx_t c3 hE
      refine pm_top (v := 1) c3 ?_
      refine pm_tswIn (tgt := 89) hG dX11_about_22 (by decide) (by decide) rfl rfl ?_
      refine pm_aloadn hG dX11_about_89 rfl ?_
      refine pm_getf hG dX11_about_90 (flX11_12 _ rfl) rfl rfl ?_
      refine pm_getf hG dX11_about_93 (flX11_128 _ rfl) rfl rfl ?_
      refine pm_iloadn hG dX11_about_96 rfl ?_
      refine pm_bipush (v := 7) hG dX11_about_97 (by decide) ?_
      refine pm_callV (As := [.int za, .int 7]) (rest := []) hG hR dX11_about_99 (lkX11_152 _ rfl) okV_X9_get rfl rfl (tget_6 (d := 1)) rfl rfl hdd (Nat.le_refl _) (Nat.le_refl _) (by decide) (fx_ki ?_)
      exact pm_iret hG hF dX11_about_102 rfl (Nat.le_refl _) (Nat.le_refl _) (fx_ric hE)
    replace hE := fx_f c3 hE
    by_cases c4 : zb = 2
    · replace hE := fx_t c4 hE
      refine pm_top (v := 2) c4 ?_
      refine pm_tswIn (tgt := 103) hG dX11_about_22 (by decide) (by decide) rfl rfl ?_
      refine pm_aloadn hG dX11_about_103 rfl ?_
      refine pm_getf hG dX11_about_104 (flX11_12 _ rfl) rfl rfl ?_
      refine pm_getf hG dX11_about_107 (flX11_128 _ rfl) rfl rfl ?_
      refine pm_iloadn hG dX11_about_110 rfl ?_
      refine pm_bipush (v := 8) hG dX11_about_111 (by decide) ?_
      refine pm_callV (As := [.int za, .int 8]) (rest := []) hG hR dX11_about_113 (lkX11_152 _ rfl) okV_X9_get rfl rfl (tget_6 (d := 1)) rfl rfl hdd (Nat.le_refl _) (Nat.le_refl _) (by decide) (fx_ki ?_)
      exact pm_iret hG hF dX11_about_116 rfl (Nat.le_refl _) (Nat.le_refl _) (fx_ric hE)
    replace hE := fx_f c4 hE
    by_cases c5 : zb = 3
    · replace hE := fx_t c5 hE
      refine pm_top (v := 3) c5 ?_
      refine pm_tswIn (tgt := 117) hG dX11_about_22 (by decide) (by decide) rfl rfl ?_
      refine pm_aloadn hG dX11_about_117 rfl ?_
      refine pm_getf hG dX11_about_118 (flX11_12 _ rfl) rfl rfl ?_
      refine pm_getf hG dX11_about_121 (flX11_128 _ rfl) rfl rfl ?_
      refine pm_iloadn hG dX11_about_124 rfl ?_
      refine pm_iconst (v := 1) hG dX11_about_125 (by decide) ?_
      refine pm_callV (As := [.int za, .int 1]) (rest := []) hG hR dX11_about_126 (lkX11_152 _ rfl) okV_X9_get rfl rfl (tget_6 (d := 1)) rfl rfl hdd (Nat.le_refl _) (Nat.le_refl _) (by decide) (fx_ki ?_)
      refine pm_aloadn hG dX11_about_129 rfl ?_
      refine pm_getf hG dX11_about_130 (flX11_12 _ rfl) rfl rfl ?_
      refine pm_getf hG dX11_about_133 (flX11_122 _ rfl) rfl rfl ?_
      refine pm_callS (As := [.int (fG 6 20 14 S za 1), .int (S.1 102)]) (rest := []) hG hR dX11_about_136 (lkX11_155 _ rfl) okS_X11_yearsBetween (c_X11_yearsBetween (d := 1) (by decide) rfl) rfl rfl hdd (Nat.le_refl _) (Nat.le_refl _) (by decide) (fx_ki ?_)
      exact pm_iret hG hF dX11_about_139 rfl (Nat.le_refl _) (Nat.le_refl _) (fx_ric hE)
    replace hE := fx_f c5 hE
    by_cases c6 : zb = 4
    · replace hE := fx_t c6 hE
      refine pm_top (v := 4) c6 ?_
      refine pm_tswIn (tgt := 140) hG dX11_about_22 (by decide) (by decide) rfl rfl ?_
      refine pm_aloadn hG dX11_about_140 rfl ?_
      refine pm_getf hG dX11_about_141 (flX11_12 _ rfl) rfl rfl ?_
      refine pm_iloadn hG dX11_about_144 rfl ?_
      refine pm_callV (As := [.int za]) (rest := []) hG hR dX11_about_145 (lkX11_158 _ rfl) okV_X7_knownTo rfl rfl (c_X7_knownTo (d := 1) (by decide) rfl) rfl rfl hdd (Nat.le_refl _) (Nat.le_refl _) (by decide) (fx_ki ?_)
      exact pm_iret hG hF dX11_about_148 rfl (Nat.le_refl _) (Nat.le_refl _) (fx_ric hE)
    replace hE := fx_f c6 hE
    by_cases c7 : zb = 5
    · replace hE := fx_t c7 hE
      refine pm_top (v := 5) c7 ?_
      refine pm_tswIn (tgt := 149) hG dX11_about_22 (by decide) (by decide) rfl rfl ?_
      refine pm_aloadn hG dX11_about_149 rfl ?_
      refine pm_getf hG dX11_about_150 (flX11_12 _ rfl) rfl rfl ?_
      refine pm_getf hG dX11_about_153 (flX11_161 _ rfl) rfl rfl ?_
      refine pm_iconst (v := 2) hG dX11_about_156 (by decide) ?_
      refine pm_iloadn hG dX11_about_157 rfl ?_
      obtain ⟨x9, h8, hE⟩ := fb_some hE
      refine pm_callV (As := [.int 2, .int za]) (rest := []) hG hR dX11_about_158 (lkX11_164 _ rfl) okV_X9_rowsWith rfl rfl (trowsWith_8 (d := 1) (k := 2) (by decide) rfl h8) rfl rfl hdd (Nat.le_refl _) (Nat.le_refl _) (by decide) (fx_ki ?_)
      exact pm_iret hG hF dX11_about_161 rfl (Nat.le_refl _) (Nat.le_refl _) (fx_ric hE)
    replace hE := fx_f c7 hE
    by_cases c10 : zb = 6
    · replace hE := fx_t c10 hE
      refine pm_top (v := 6) c10 ?_
      refine pm_tswIn (tgt := 162) hG dX11_about_22 (by decide) (by decide) rfl rfl ?_
      refine pm_aloadn hG dX11_about_162 rfl ?_
      refine pm_getf hG dX11_about_163 (flX11_12 _ rfl) rfl rfl ?_
      refine pm_getf hG dX11_about_166 (flX11_128 _ rfl) rfl rfl ?_
      refine pm_iloadn hG dX11_about_169 rfl ?_
      refine pm_bipush (v := 9) hG dX11_about_170 (by decide) ?_
      refine pm_callV (As := [.int za, .int 9]) (rest := []) hG hR dX11_about_172 (lkX11_152 _ rfl) okV_X9_get rfl rfl (tget_6 (d := 1)) rfl rfl hdd (Nat.le_refl _) (Nat.le_refl _) (by decide) (fx_ki ?_)
      exact pm_iret hG hF dX11_about_175 rfl (Nat.le_refl _) (Nat.le_refl _) (fx_ric hE)
    replace hE := fx_f c10 hE
    by_cases c11 : zb = 7
    · replace hE := fx_t c11 hE
      refine pm_top (v := 7) c11 ?_
      refine pm_tswIn (tgt := 176) hG dX11_about_22 (by decide) (by decide) rfl rfl ?_
      refine pm_aloadn hG dX11_about_176 rfl ?_
      refine pm_getf hG dX11_about_177 (flX11_12 _ rfl) rfl rfl ?_
      refine pm_getf hG dX11_about_180 (flX11_128 _ rfl) rfl rfl ?_
      refine pm_iloadn hG dX11_about_183 rfl ?_
      refine pm_bipush (v := 13) hG dX11_about_184 (by decide) ?_
      refine pm_callV (As := [.int za, .int 13]) (rest := []) hG hR dX11_about_186 (lkX11_152 _ rfl) okV_X9_get rfl rfl (tget_6 (d := 1)) rfl rfl hdd (Nat.le_refl _) (Nat.le_refl _) (by decide) (fx_ki ?_)
      exact pm_iret hG hF dX11_about_189 rfl (Nat.le_refl _) (Nat.le_refl _) (fx_ric hE)
    replace hE := fx_f c11 hE
    by_cases c12 : zb = 8
    · replace hE := fx_t c12 hE
      refine pm_top (v := 8) c12 ?_
      refine pm_tswIn (tgt := 190) hG dX11_about_22 (by decide) (by decide) rfl rfl ?_
      refine pm_aloadn hG dX11_about_190 rfl ?_
      refine pm_getf hG dX11_about_191 (flX11_12 _ rfl) rfl rfl ?_
      refine pm_getf hG dX11_about_194 (flX11_128 _ rfl) rfl rfl ?_
      refine pm_iloadn hG dX11_about_197 rfl ?_
      refine pm_bipush (v := 11) hG dX11_about_198 (by decide) ?_
      refine pm_callV (As := [.int za, .int 11]) (rest := []) hG hR dX11_about_200 (lkX11_152 _ rfl) okV_X9_get rfl rfl (tget_6 (d := 1)) rfl rfl hdd (Nat.le_refl _) (Nat.le_refl _) (by decide) (fx_ki ?_)
      exact pm_iret hG hF dX11_about_203 rfl (Nat.le_refl _) (Nat.le_refl _) (fx_ric hE)
    replace hE := fx_f c12 hE
    by_cases c13 : zb = 9
    · replace hE := fx_t c13 hE
      refine pm_top (v := 9) c13 ?_
      refine pm_tswIn (tgt := 204) hG dX11_about_22 (by decide) (by decide) rfl rfl ?_
      refine pm_aloadn hG dX11_about_204 rfl ?_
      refine pm_getf hG dX11_about_205 (flX11_12 _ rfl) rfl rfl ?_
      refine pm_getf hG dX11_about_208 (flX11_128 _ rfl) rfl rfl ?_
      refine pm_iloadn hG dX11_about_211 rfl ?_
      refine pm_bipush (v := 12) hG dX11_about_212 (by decide) ?_
      refine pm_callV (As := [.int za, .int 12]) (rest := []) hG hR dX11_about_214 (lkX11_152 _ rfl) okV_X9_get rfl rfl (tget_6 (d := 1)) rfl rfl hdd (Nat.le_refl _) (Nat.le_refl _) (by decide) (fx_ki ?_)
      exact pm_iret hG hF dX11_about_217 rfl (Nat.le_refl _) (Nat.le_refl _) (fx_ric hE)
    replace hE := fx_f c13 hE
    have tc2 : ¬ zb.toInt = 0 := fun q => c2 (Int32.toInt_inj.mp q)
    have tc3 : ¬ zb.toInt = 1 := fun q => c3 (Int32.toInt_inj.mp q)
    have tc4 : ¬ zb.toInt = 2 := fun q => c4 (Int32.toInt_inj.mp q)
    have tc5 : ¬ zb.toInt = 3 := fun q => c5 (Int32.toInt_inj.mp q)
    have tc6 : ¬ zb.toInt = 4 := fun q => c6 (Int32.toInt_inj.mp q)
    have tc7 : ¬ zb.toInt = 5 := fun q => c7 (Int32.toInt_inj.mp q)
    have tc10 : ¬ zb.toInt = 6 := fun q => c10 (Int32.toInt_inj.mp q)
    have tc11 : ¬ zb.toInt = 7 := fun q => c11 (Int32.toInt_inj.mp q)
    have tc12 : ¬ zb.toInt = 8 := fun q => c12 (Int32.toInt_inj.mp q)
    have tc13 : ¬ zb.toInt = 9 := fun q => c13 (Int32.toInt_inj.mp q)
    refine pm_tswOut (tgt := 218) hG dX11_about_22 (by omega) rfl ?_
    refine pm_aloadn hG dX11_about_218 rfl ?_
    refine pm_ldc hG dX11_about_219 (ctX11_109 _ rfl) ?_
    obtain ⟨r15, h14, hE⟩ := fb_some hE
    refine pm_callV (As := [.int (-1000001)]) (rest := []) hG hR dX11_about_221 (lkX11_97 _ rfl) okV_X11_told rfl rfl (c_X11_told (d := 1) (by decide) h14) rfl rfl hdd (Nat.le_refl _) (Nat.le_refl _) (by decide) (fx_ki ?_)
    exact pm_iret hG hF dX11_about_224 rfl (Nat.le_refl _) (Nat.le_refl _) (fx_ric hE)
  · replace hE := fx_t c1 hE
    refine pm_aloadn hG dX11_about_14 rfl ?_
    refine pm_ldc hG dX11_about_15 (ctX11_109 _ rfl) ?_
    obtain ⟨r17, h16, hE⟩ := fb_some hE
    refine pm_callV (As := [.int (-1000001)]) (rest := []) hG hR dX11_about_17 (lkX11_97 _ rfl) okV_X11_told rfl rfl (c_X11_told (d := 1) (by decide) h16) rfl rfl hdd (Nat.le_refl _) (Nat.le_refl _) (by decide) (fx_ki ?_)
    exact pm_iret hG hF dX11_about_20 rfl (Nat.le_refl _) (Nat.le_refl _) (fx_ric hE)

set_option maxRecDepth 100000 in
set_option maxHeartbeats 4000000 in
theorem c_X2_namesDay {d : Nat} {B cnt : Nat} {kp : Value} {ρ : pm_S} {S : FS} {za : Int32} {R : Int32} (hdd : 1 ≤ d) (hE : p_X2_namesDay S za = R) : pm_met mX2_namesDay d 0 0 B [.ref (B + 26), .int za] cnt (cst B kp S ρ) (pm_Qi (fun v σ' cnt' => v = R ∧ σ' = (cst B kp S ρ) ∧ cnt' = cnt)) := by
  refine pm_enter 0 (by decide) (Nat.le_of_ble_eq_true rfl) rfl (fun G hG hR hF => ?_)
  unfold p_X2_namesDay at hE
  refine pm_aloadn hG dX2_namesDay_0 rfl ?_
  refine pm_getf hG dX2_namesDay_1 (flX2_9 _ rfl) rfl rfl ?_
  refine pm_getf hG dX2_namesDay_4 (flX2_43 _ rfl) rfl rfl ?_
  refine pm_iloadn hG dX2_namesDay_7 rfl ?_
  refine pm_iconst (v := 5) hG dX2_namesDay_8 (by decide) ?_
  refine pm_callV (As := [.int za, .int 5]) (rest := []) hG hR dX2_namesDay_9 (lkX2_67 _ rfl) okV_X9_get rfl rfl (tget_10 (d := 0)) rfl rfl hdd (Nat.le_refl _) (Nat.le_refl _) (by decide) (fx_ki ?_)
  refine pm_if_eq (tgt := 19) hG dX2_namesDay_12 rfl (fun c1 => ?_) (fun c1 => ?_)
  · replace hE := fx_t c1 hE
    refine pm_iconst (v := 0) hG dX2_namesDay_19 (by decide) ?_
    exact pm_zret hG hF dX2_namesDay_20 rfl (by rfl) (Nat.le_refl _) (Nat.le_refl _) (fx_pi hE)
  · replace hE := fx_f c1 hE
    refine pm_iconst (v := 1) hG dX2_namesDay_15 (by decide) ?_
    refine pm_goto (tgt := 20) hG dX2_namesDay_16 rfl ?_
    exact pm_zret hG hF dX2_namesDay_20 rfl (by rfl) (Nat.le_refl _) (Nat.le_refl _) (fx_pi hE)

set_option maxRecDepth 100000 in
set_option maxHeartbeats 4000000 in
theorem c_X2_nextBeginning {d : Nat} {B cnt : Nat} {kp : Value} {ρ : pm_S} {S : FS} {za : Int32} {zb : Int32} {R : Int32} (hdd : 1 ≤ d) (hE : q_X2_nextBeginning S za zb = some R) : pm_met mX2_nextBeginning d 0 0 B [.ref (B + 26), .int za, .int zb] cnt (cst B kp S ρ) (pm_Qi (fun v σ' cnt' => v = R ∧ σ' = (cst B kp S ρ) ∧ cnt' = cnt)) := by
  refine pm_enter 4 (by decide) (Nat.le_of_ble_eq_true rfl) rfl (fun G hG hR hF => ?_)
  unfold q_X2_nextBeginning at hE
  refine pm_sipush (v := 2001) hG dX2_nextBeginning_0 (by decide) ?_
  refine pm_istoreXn (loc' := [some (.ref (B + 26)), some (.int za), some (.int zb), some (.int 2001), none, none, none]) hG dX2_nextBeginning_3 (by decide) (pm_c1b rfl) rfl ?_
  refine pm_aloadn hG dX2_nextBeginning_4 rfl ?_
  refine pm_getf hG dX2_nextBeginning_5 (flX2_9 _ rfl) rfl rfl ?_
  refine pm_getf hG dX2_nextBeginning_8 (flX2_43 _ rfl) rfl rfl ?_
  refine pm_callV (As := []) (rest := []) hG hR dX2_nextBeginning_11 (lkX2_53 _ rfl) okV_X9_used rfl rfl (tused_10 (d := 0)) rfl rfl hdd (Nat.le_refl _) (Nat.le_refl _) (by decide) (fx_ki ?_)
  refine fx_letv hE (fun x1 hE => ?_)
  refine pm_istoreXi (loc' := [some (.ref (B + 26)), some (.int za), some (.int zb), some (.int 2001), some (.int x1), none, none]) hG dX2_nextBeginning_14 (by decide) (pm_c1b rfl) rfl ?_
  refine pm_iconst (v := 0) hG dX2_nextBeginning_16 (by decide) ?_
  refine pm_istoreXi (loc' := [some (.ref (B + 26)), some (.int za), some (.int zb), some (.int 2001), some (.int x1), some (.int 0), none]) hG dX2_nextBeginning_17 (by decide) (pm_c1b rfl) rfl ?_
  have loop19 : ∀ (k19 : Int32 → Int32 → Option Int32), (∀  (x2_3 : Int32) (x2_5 : Int32), k19  x2_3 x2_5 = some R → pm_wp mX2_nextBeginning G B 77 [some (.ref (B + 26)), some (.int za), some (.int zb), some (.int x2_3), some (.int x1), some (.int x2_5), none] [] 0 0 cnt (cst B kp S ρ)) → ∀ (m19 : Nat)  (x2_3 : Int32) (x2_5 : Int32), l_X2_nextBeginning_19 za zb S x1 k19 m19  x2_3 x2_5 = some R → pm_wp mX2_nextBeginning G B 19 [some (.ref (B + 26)), some (.int za), some (.int zb), some (.int x2_3), some (.int x1), some (.int x2_5), none] [] 0 0 cnt (cst B kp S ρ) := by
    intro k19 hk19 m19
    induction m19 with
    | zero => intro  x2_3 x2_5 hE; exact fx_no hE
    | succ m19 ih19 =>
      intro  x2_3 x2_5 hE
      rw [l_X2_nextBeginning_19] at hE
      refine pm_iloadi hG dX2_nextBeginning_19 rfl ?_
      refine pm_iloadi hG dX2_nextBeginning_21 rfl ?_
      refine pm_icmp_ge (tgt := 77) hG dX2_nextBeginning_23 rfl (fun c3 => ?_) (fun c3 => ?_)
      · replace c3 := Int32.not_lt.mpr c3
        replace hE := fx_f c3 hE
        exact hk19 _ _ hE
      · replace c3 := Int32.not_le.mp c3
        replace hE := fx_t c3 hE
        refine pm_aloadn hG dX2_nextBeginning_26 rfl ?_
        refine pm_getf hG dX2_nextBeginning_27 (flX2_9 _ rfl) rfl rfl ?_
        refine pm_getf hG dX2_nextBeginning_30 (flX2_43 _ rfl) rfl rfl ?_
        refine pm_iloadi hG dX2_nextBeginning_33 rfl ?_
        refine pm_iconst (v := 1) hG dX2_nextBeginning_35 (by decide) ?_
        refine pm_callV (As := [.int x2_5, .int 1]) (rest := []) hG hR dX2_nextBeginning_36 (lkX2_67 _ rfl) okV_X9_get rfl rfl (tget_10 (d := 0)) rfl rfl hdd (Nat.le_refl _) (Nat.le_refl _) (by decide) (fx_ki ?_)
        refine fx_letv hE (fun x4 hE => ?_)
        refine pm_istoreXi (loc' := [some (.ref (B + 26)), some (.int za), some (.int zb), some (.int x2_3), some (.int x1), some (.int x2_5), some (.int x4)]) hG dX2_nextBeginning_39 (by decide) (pm_c1b rfl) rfl ?_
        refine pm_iloadi hG dX2_nextBeginning_41 rfl ?_
        refine pm_iloadn hG dX2_nextBeginning_43 rfl ?_
        refine pm_icmp_le (tgt := 71) hG dX2_nextBeginning_44 rfl (fun c5 => ?_) (fun c5 => ?_)
        · replace c5 := Int32.not_lt.mpr c5
          replace hE := fx_f c5 hE
          refine pm_iincX (v := x2_5 + 1) (loc' := [some (.ref (B + 26)), some (.int za), some (.int zb), some (.int x2_3), some (.int x1), some (.int (x2_5 + 1)), some (.int x4)]) hG dX2_nextBeginning_71 rfl (by rfl) (by decide) (pm_c1b rfl) rfl ?_
          refine pm_goto (tgt := 19) hG dX2_nextBeginning_74 rfl ?_
          refine pm_fg 6 (loc' := [some (.ref (B + 26)), some (.int za), some (.int zb), some (.int x2_3), some (.int x1), some (.int (x2_5 + 1)), none]) rfl ?_
          exact ih19 _ _ hE
        · replace c5 := Int32.not_le.mp c5
          replace hE := fx_t c5 hE
          refine pm_aloadn hG dX2_nextBeginning_47 rfl ?_
          refine pm_getf hG dX2_nextBeginning_48 (flX2_9 _ rfl) rfl rfl ?_
          refine pm_getf hG dX2_nextBeginning_51 (flX2_43 _ rfl) rfl rfl ?_
          refine pm_iloadi hG dX2_nextBeginning_54 rfl ?_
          refine pm_iconst (v := 0) hG dX2_nextBeginning_56 (by decide) ?_
          refine pm_callV (As := [.int x2_5, .int 0]) (rest := []) hG hR dX2_nextBeginning_57 (lkX2_67 _ rfl) okV_X9_get rfl rfl (tget_10 (d := 0)) rfl rfl hdd (Nat.le_refl _) (Nat.le_refl _) (by decide) (fx_ki ?_)
          refine pm_iloadn hG dX2_nextBeginning_60 rfl ?_
          refine pm_icmp_ne (tgt := 71) hG dX2_nextBeginning_61 rfl (fun c6 => ?_) (fun c6 => ?_)
          · replace hE := fx_f c6 hE
            refine pm_iincX (v := x2_5 + 1) (loc' := [some (.ref (B + 26)), some (.int za), some (.int zb), some (.int x2_3), some (.int x1), some (.int (x2_5 + 1)), some (.int x4)]) hG dX2_nextBeginning_71 rfl (by rfl) (by decide) (pm_c1b rfl) rfl ?_
            refine pm_goto (tgt := 19) hG dX2_nextBeginning_74 rfl ?_
            refine pm_fg 6 (loc' := [some (.ref (B + 26)), some (.int za), some (.int zb), some (.int x2_3), some (.int x1), some (.int (x2_5 + 1)), none]) rfl ?_
            exact ih19 _ _ hE
          · replace hE := fx_t c6 hE
            refine pm_iloadn hG dX2_nextBeginning_64 rfl ?_
            refine pm_iloadi hG dX2_nextBeginning_65 rfl ?_
            refine pm_mmin hG hR dX2_nextBeginning_67 (mmX2_74 _ rfl) pm_mwmin (by omega) (by first | decide | exact Nat.le_of_ble_eq_true rfl) (Nat.le_refl _) (Nat.le_refl _) ?_
            refine pm_top (v := imin x2_3 x4) rfl ?_
            refine fx_letv hE (fun x7 hE => ?_)
            refine pm_istoreXn (loc' := [some (.ref (B + 26)), some (.int za), some (.int zb), some (.int x7), some (.int x1), some (.int x2_5), some (.int x4)]) hG dX2_nextBeginning_70 (by decide) (pm_c1b rfl) rfl ?_
            refine pm_iincX (v := x2_5 + 1) (loc' := [some (.ref (B + 26)), some (.int za), some (.int zb), some (.int x7), some (.int x1), some (.int (x2_5 + 1)), some (.int x4)]) hG dX2_nextBeginning_71 rfl (by rfl) (by decide) (pm_c1b rfl) rfl ?_
            refine pm_goto (tgt := 19) hG dX2_nextBeginning_74 rfl ?_
            refine pm_fg 6 (loc' := [some (.ref (B + 26)), some (.int za), some (.int zb), some (.int x7), some (.int x1), some (.int (x2_5 + 1)), none]) rfl ?_
            exact ih19 _ _ hE
  refine loop19 _ (fun  x8_3 x8_5 hE => ?_) _ _ _ hE
  refine pm_iloadn hG dX2_nextBeginning_77 rfl ?_
  exact pm_iret hG hF dX2_nextBeginning_78 rfl (Nat.le_refl _) (Nat.le_refl _) (fx_pi (Option.some.inj hE))

set_option maxRecDepth 100000 in
set_option maxHeartbeats 4000000 in
theorem c_X4_dayOfAge {d : Nat} {B cnt : Nat} {kp : Value} {ρ : pm_S} {S : FS} {R : Int32 × FS} (hdd : 4 ≤ d) (hE : f_X4_dayOfAge S = some R) : pm_met mX4_dayOfAge d 0 0 B [.ref (B + 37)] cnt (cst B kp S ρ) (pm_Qi (fun v σ' cnt' => v = R.1 ∧ σ' = (cst B kp R.2 ρ) ∧ cnt' = cnt)) := by
  refine pm_enter 6 (by decide) (Nat.le_of_ble_eq_true rfl) rfl (fun G hG hR hF => ?_)
  unfold f_X4_dayOfAge at hE
  refine pm_aloadn hG dX4_dayOfAge_0 rfl ?_
  refine pm_getf hG dX4_dayOfAge_1 (flX4_9 _ rfl) rfl rfl ?_
  refine pm_getf hG dX4_dayOfAge_4 (flX4_31 _ rfl) rfl rfl ?_
  refine pm_iconst (v := 0) hG dX4_dayOfAge_7 (by decide) ?_
  refine pm_callV (As := [.int 0]) (rest := []) hG hR dX4_dayOfAge_8 (lkX4_48 _ rfl) okV_X9_has rfl rfl (thas_6 (d := 3)) rfl rfl hdd (Nat.le_refl _) (Nat.le_refl _) (by decide) (fx_ki ?_)
  refine pm_if_ne (tgt := 17) hG dX4_dayOfAge_11 rfl (fun c1 => ?_) (fun c1 => ?_)
  · replace hE := fx_f c1 hE
    refine pm_aloadn hG dX4_dayOfAge_17 rfl ?_
    refine pm_getf hG dX4_dayOfAge_18 (flX4_9 _ rfl) rfl rfl ?_
    refine pm_getf hG dX4_dayOfAge_21 (flX4_31 _ rfl) rfl rfl ?_
    refine pm_iconst (v := 0) hG dX4_dayOfAge_24 (by decide) ?_
    refine pm_iconst (v := 1) hG dX4_dayOfAge_25 (by decide) ?_
    refine pm_callV (As := [.int 0, .int 1]) (rest := []) hG hR dX4_dayOfAge_26 (lkX4_51 _ rfl) okV_X9_get rfl rfl (tget_6 (d := 3)) rfl rfl hdd (Nat.le_refl _) (Nat.le_refl _) (by decide) (fx_ki ?_)
    refine fx_letv hE (fun x2 hE => ?_)
    refine pm_istoreXn (loc' := [some (.ref (B + 37)), some (.int x2), none, none, none, none, none]) hG dX4_dayOfAge_29 (by decide) (pm_c1b rfl) rfl ?_
    refine pm_iconst (v := (-1)) hG dX4_dayOfAge_30 (by decide) ?_
    refine pm_istoreXn (loc' := [some (.ref (B + 37)), some (.int x2), some (.int (-1)), none, none, none, none]) hG dX4_dayOfAge_31 (by decide) (pm_c1b rfl) rfl ?_
    refine pm_aloadn hG dX4_dayOfAge_32 rfl ?_
    refine pm_getf hG dX4_dayOfAge_33 (flX4_9 _ rfl) rfl rfl ?_
    refine pm_getf hG dX4_dayOfAge_36 (flX4_59 _ rfl) rfl rfl ?_
    refine fx_letv hE (fun x3 hE => ?_)
    refine pm_istoreXn (loc' := [some (.ref (B + 37)), some (.int x2), some (.int (-1)), some (.int x3), none, none, none]) hG dX4_dayOfAge_39 (by decide) (pm_c1b rfl) rfl ?_
    refine pm_aloadn hG dX4_dayOfAge_40 rfl ?_
    refine pm_getf hG dX4_dayOfAge_41 (flX4_9 _ rfl) rfl rfl ?_
    refine pm_getf hG dX4_dayOfAge_44 (flX4_59 _ rfl) rfl rfl ?_
    refine fx_letv hE (fun x4 hE => ?_)
    refine pm_istoreXi (loc' := [some (.ref (B + 37)), some (.int x2), some (.int (-1)), some (.int x3), some (.int x4), none, none]) hG dX4_dayOfAge_47 (by decide) (pm_c1b rfl) rfl ?_
    have loop49 : ∀ (k49 : FS → Int32 → Int32 → Int32 → Option (Int32 × FS)), (∀ (S5 : FS) (x5_2 : Int32) (x5_3 : Int32) (x5_4 : Int32), k49 S5  x5_2 x5_3 x5_4 = some R → pm_wp mX4_dayOfAge G B 171 [some (.ref (B + 37)), some (.int x2), some (.int x5_2), some (.int x5_3), some (.int x5_4), none, none] [] 0 0 cnt (cst B kp S5 ρ)) → ∀ (m49 : Nat) (S5 : FS) (x5_2 : Int32) (x5_3 : Int32) (x5_4 : Int32), l_X4_dayOfAge_49 x2 k49 m49 S5  x5_2 x5_3 x5_4 = some R → pm_wp mX4_dayOfAge G B 49 [some (.ref (B + 37)), some (.int x2), some (.int x5_2), some (.int x5_3), some (.int x5_4), none, none] [] 0 0 cnt (cst B kp S5 ρ) := by
      intro k49 hk49 m49
      induction m49 with
      | zero => intro S5  x5_2 x5_3 x5_4 hE; exact fx_no hE
      | succ m49 ih49 =>
        intro S5  x5_2 x5_3 x5_4 hE
        rw [l_X4_dayOfAge_49] at hE
        refine pm_iloadi hG dX4_dayOfAge_49 rfl ?_
        refine pm_sipush (v := 2000) hG dX4_dayOfAge_51 (by decide) ?_
        refine pm_icmp_gt (tgt := 171) hG dX4_dayOfAge_54 rfl (fun c6 => ?_) (fun c6 => ?_)
        · replace hE := fx_t c6 hE
          exact hk49 _ _ _ _ hE
        · replace hE := fx_f c6 hE
          refine pm_iloadi hG dX4_dayOfAge_57 rfl ?_
          refine pm_iloadn hG dX4_dayOfAge_59 rfl ?_
          refine pm_icmp_ne (tgt := 67) hG dX4_dayOfAge_60 rfl (fun c7 => ?_) (fun c7 => ?_)
          · replace hE := fx_f c7 hE
            refine pm_iconst (v := 0) hG dX4_dayOfAge_67 (by decide) ?_
            refine pm_istoreXi (loc' := [some (.ref (B + 37)), some (.int x2), some (.int x5_2), some (.int x5_3), some (.int x5_4), some (.int 0), none]) hG dX4_dayOfAge_68 (by decide) (pm_c1b rfl) rfl ?_
            refine pm_iloadi hG dX4_dayOfAge_70 rfl ?_
            refine pm_if_eq (tgt := 104) hG dX4_dayOfAge_72 rfl (fun _ => ?_) (fun q => absurd q (by decide))
            refine pm_iloadi hG dX4_dayOfAge_104 rfl ?_
            refine pm_if_ne (tgt := 131) hG dX4_dayOfAge_106 rfl (fun q => absurd q (by decide)) (fun _ => ?_)
            refine pm_iloadi hG dX4_dayOfAge_109 rfl ?_
            refine pm_iloadn hG dX4_dayOfAge_111 rfl ?_
            refine pm_isub hG dX4_dayOfAge_112 ?_
            refine pm_sipush (v := 360) hG dX4_dayOfAge_113 (by decide) ?_
            refine pm_irem hG dX4_dayOfAge_116 (by decide) ?_
            refine pm_if_eq (tgt := 131) hG dX4_dayOfAge_117 rfl (fun c8 => ?_) (fun c8 => ?_)
            · replace hE := fx_t c8 hE
              refine pm_iconst (v := 1) hG dX4_dayOfAge_131 (by decide) ?_
              refine pm_goto (tgt := 136) hG dX4_dayOfAge_132 rfl ?_
              refine pm_istoreXi (loc' := [some (.ref (B + 37)), some (.int x2), some (.int x5_2), some (.int x5_3), some (.int x5_4), some (.int 0), some (.int 1)]) hG dX4_dayOfAge_136 (by decide) (pm_c1b rfl) rfl ?_
              refine pm_iloadi hG dX4_dayOfAge_138 rfl ?_
              refine pm_if_eq (tgt := 165) hG dX4_dayOfAge_140 rfl (fun q => absurd q (by decide)) (fun _ => ?_)
              refine pm_iloadn hG dX4_dayOfAge_143 rfl ?_
              refine pm_if_lt (tgt := 162) hG dX4_dayOfAge_144 rfl (fun c9 => ?_) (fun c9 => ?_)
              · replace hE := fx_t c9 hE
                refine pm_iloadi hG dX4_dayOfAge_162 rfl ?_
                exact pm_iret hG hF dX4_dayOfAge_164 rfl (Nat.le_refl _) (Nat.le_refl _) (fx_ric hE)
              · replace hE := fx_f c9 hE
                refine pm_aloadn hG dX4_dayOfAge_147 rfl ?_
                refine pm_getf hG dX4_dayOfAge_148 (flX4_15 _ rfl) rfl rfl ?_
                refine pm_iloadn hG dX4_dayOfAge_151 rfl ?_
                refine pm_iconst (v := 0) hG dX4_dayOfAge_152 (by decide) ?_
                refine pm_iconst (v := (-1)) hG dX4_dayOfAge_153 (by decide) ?_
                refine pm_iloadi hG dX4_dayOfAge_154 rfl ?_
                obtain ⟨r11, h10, hE⟩ := fb_some hE
                refine pm_callV (As := [.int x5_2, .int 0, .int (-1), .int x5_4]) (rest := []) hG hR dX4_dayOfAge_156 (lkX4_91 _ rfl) okV_X2_comesTo rfl rfl (c_X2_comesTo (d := 3) (by decide) h10) rfl rfl hdd (Nat.le_refl _) (Nat.le_refl _) (by decide) (fx_ki ?_)
                refine pm_if_eq (tgt := 165) hG dX4_dayOfAge_159 rfl (fun c12 => ?_) (fun c12 => ?_)
                · replace hE := fx_t c12 hE
                  refine pm_iincX (v := x5_4 + 1) (loc' := [some (.ref (B + 37)), some (.int x2), some (.int x5_2), some (.int x5_3), some (.int (x5_4 + 1)), some (.int 0), some (.int 1)]) hG dX4_dayOfAge_165 rfl (by rfl) (by decide) (pm_c1b rfl) rfl ?_
                  refine pm_goto (tgt := 49) hG dX4_dayOfAge_168 rfl ?_
                  refine pm_fg 5 (loc' := [some (.ref (B + 37)), some (.int x2), some (.int x5_2), some (.int x5_3), some (.int (x5_4 + 1)), none, some (.int 1)]) rfl ?_
                  refine pm_fg 6 (loc' := [some (.ref (B + 37)), some (.int x2), some (.int x5_2), some (.int x5_3), some (.int (x5_4 + 1)), none, none]) rfl ?_
                  exact ih49 _ _ _ _ hE
                · replace hE := fx_f c12 hE
                  refine pm_iloadi hG dX4_dayOfAge_162 rfl ?_
                  exact pm_iret hG hF dX4_dayOfAge_164 rfl (Nat.le_refl _) (Nat.le_refl _) (fx_ric hE)
            · replace hE := fx_f c8 hE
              refine pm_aloadn hG dX4_dayOfAge_120 rfl ?_
              refine pm_getf hG dX4_dayOfAge_121 (flX4_15 _ rfl) rfl rfl ?_
              refine pm_iloadn hG dX4_dayOfAge_124 rfl ?_
              refine pm_callV (As := [.int x5_2]) (rest := []) hG hR dX4_dayOfAge_125 (lkX4_88 _ rfl) okV_X2_namesDay rfl rfl (c_X2_namesDay (d := 3) (by decide) rfl) rfl rfl hdd (Nat.le_refl _) (Nat.le_refl _) (by decide) (fx_ki ?_)
              refine pm_if_eq (tgt := 135) hG dX4_dayOfAge_128 rfl (fun c13 => ?_) (fun c13 => ?_)
              · replace hE := fx_t c13 hE
                refine pm_iconst (v := 0) hG dX4_dayOfAge_135 (by decide) ?_
                refine pm_istoreXi (loc' := [some (.ref (B + 37)), some (.int x2), some (.int x5_2), some (.int x5_3), some (.int x5_4), some (.int 0), some (.int 0)]) hG dX4_dayOfAge_136 (by decide) (pm_c1b rfl) rfl ?_
                refine pm_iloadi hG dX4_dayOfAge_138 rfl ?_
                refine pm_if_eq (tgt := 165) hG dX4_dayOfAge_140 rfl (fun _ => ?_) (fun q => absurd q (by decide))
                refine pm_iincX (v := x5_4 + 1) (loc' := [some (.ref (B + 37)), some (.int x2), some (.int x5_2), some (.int x5_3), some (.int (x5_4 + 1)), some (.int 0), some (.int 0)]) hG dX4_dayOfAge_165 rfl (by rfl) (by decide) (pm_c1b rfl) rfl ?_
                refine pm_goto (tgt := 49) hG dX4_dayOfAge_168 rfl ?_
                refine pm_fg 5 (loc' := [some (.ref (B + 37)), some (.int x2), some (.int x5_2), some (.int x5_3), some (.int (x5_4 + 1)), none, some (.int 0)]) rfl ?_
                refine pm_fg 6 (loc' := [some (.ref (B + 37)), some (.int x2), some (.int x5_2), some (.int x5_3), some (.int (x5_4 + 1)), none, none]) rfl ?_
                exact ih49 _ _ _ _ hE
              · replace hE := fx_f c13 hE
                refine pm_iconst (v := 1) hG dX4_dayOfAge_131 (by decide) ?_
                refine pm_goto (tgt := 136) hG dX4_dayOfAge_132 rfl ?_
                refine pm_istoreXi (loc' := [some (.ref (B + 37)), some (.int x2), some (.int x5_2), some (.int x5_3), some (.int x5_4), some (.int 0), some (.int 1)]) hG dX4_dayOfAge_136 (by decide) (pm_c1b rfl) rfl ?_
                refine pm_iloadi hG dX4_dayOfAge_138 rfl ?_
                refine pm_if_eq (tgt := 165) hG dX4_dayOfAge_140 rfl (fun q => absurd q (by decide)) (fun _ => ?_)
                refine pm_iloadn hG dX4_dayOfAge_143 rfl ?_
                refine pm_if_lt (tgt := 162) hG dX4_dayOfAge_144 rfl (fun c14 => ?_) (fun c14 => ?_)
                · replace hE := fx_t c14 hE
                  refine pm_iloadi hG dX4_dayOfAge_162 rfl ?_
                  exact pm_iret hG hF dX4_dayOfAge_164 rfl (Nat.le_refl _) (Nat.le_refl _) (fx_ric hE)
                · replace hE := fx_f c14 hE
                  refine pm_aloadn hG dX4_dayOfAge_147 rfl ?_
                  refine pm_getf hG dX4_dayOfAge_148 (flX4_15 _ rfl) rfl rfl ?_
                  refine pm_iloadn hG dX4_dayOfAge_151 rfl ?_
                  refine pm_iconst (v := 0) hG dX4_dayOfAge_152 (by decide) ?_
                  refine pm_iconst (v := (-1)) hG dX4_dayOfAge_153 (by decide) ?_
                  refine pm_iloadi hG dX4_dayOfAge_154 rfl ?_
                  obtain ⟨r16, h15, hE⟩ := fb_some hE
                  refine pm_callV (As := [.int x5_2, .int 0, .int (-1), .int x5_4]) (rest := []) hG hR dX4_dayOfAge_156 (lkX4_91 _ rfl) okV_X2_comesTo rfl rfl (c_X2_comesTo (d := 3) (by decide) h15) rfl rfl hdd (Nat.le_refl _) (Nat.le_refl _) (by decide) (fx_ki ?_)
                  refine pm_if_eq (tgt := 165) hG dX4_dayOfAge_159 rfl (fun c17 => ?_) (fun c17 => ?_)
                  · replace hE := fx_t c17 hE
                    refine pm_iincX (v := x5_4 + 1) (loc' := [some (.ref (B + 37)), some (.int x2), some (.int x5_2), some (.int x5_3), some (.int (x5_4 + 1)), some (.int 0), some (.int 1)]) hG dX4_dayOfAge_165 rfl (by rfl) (by decide) (pm_c1b rfl) rfl ?_
                    refine pm_goto (tgt := 49) hG dX4_dayOfAge_168 rfl ?_
                    refine pm_fg 5 (loc' := [some (.ref (B + 37)), some (.int x2), some (.int x5_2), some (.int x5_3), some (.int (x5_4 + 1)), none, some (.int 1)]) rfl ?_
                    refine pm_fg 6 (loc' := [some (.ref (B + 37)), some (.int x2), some (.int x5_2), some (.int x5_3), some (.int (x5_4 + 1)), none, none]) rfl ?_
                    exact ih49 _ _ _ _ hE
                  · replace hE := fx_f c17 hE
                    refine pm_iloadi hG dX4_dayOfAge_162 rfl ?_
                    exact pm_iret hG hF dX4_dayOfAge_164 rfl (Nat.le_refl _) (Nat.le_refl _) (fx_ric hE)
          · replace hE := fx_t c7 hE
            refine pm_iconst (v := 1) hG dX4_dayOfAge_63 (by decide) ?_
            refine pm_goto (tgt := 68) hG dX4_dayOfAge_64 rfl ?_
            refine pm_istoreXi (loc' := [some (.ref (B + 37)), some (.int x2), some (.int x5_2), some (.int x5_3), some (.int x5_4), some (.int 1), none]) hG dX4_dayOfAge_68 (by decide) (pm_c1b rfl) rfl ?_
            refine pm_iloadi hG dX4_dayOfAge_70 rfl ?_
            refine pm_if_eq (tgt := 104) hG dX4_dayOfAge_72 rfl (fun q => absurd q (by decide)) (fun _ => ?_)
            refine pm_aloadn hG dX4_dayOfAge_75 rfl ?_
            refine pm_getf hG dX4_dayOfAge_76 (flX4_15 _ rfl) rfl rfl ?_
            refine pm_iconst (v := 3) hG dX4_dayOfAge_79 (by decide) ?_
            refine pm_iloadi hG dX4_dayOfAge_80 rfl ?_
            refine pm_aloadn hG dX4_dayOfAge_82 rfl ?_
            refine pm_getf hG dX4_dayOfAge_83 (flX4_9 _ rfl) rfl rfl ?_
            refine pm_getf hG dX4_dayOfAge_86 (flX4_59 _ rfl) rfl rfl ?_
            obtain ⟨x19, h18, hE⟩ := fb_some hE
            refine pm_callV (As := [.int 3, .int x5_4, .int (S5.1 102)]) (rest := []) hG hR dX4_dayOfAge_89 (lkX4_81 _ rfl) okV_X2_inForce rfl rfl (c_X2_inForce (d := 3) (by decide) h18) rfl rfl hdd (Nat.le_refl _) (Nat.le_refl _) (by decide) (fx_ki ?_)
            refine pm_istoreXn (loc' := [some (.ref (B + 37)), some (.int x2), some (.int x19), some (.int x5_3), some (.int x5_4), some (.int 1), none]) hG dX4_dayOfAge_92 (by decide) (pm_c1b rfl) rfl ?_
            refine pm_aloadn hG dX4_dayOfAge_93 rfl ?_
            refine pm_getf hG dX4_dayOfAge_94 (flX4_15 _ rfl) rfl rfl ?_
            refine pm_iconst (v := 3) hG dX4_dayOfAge_97 (by decide) ?_
            refine pm_iloadi hG dX4_dayOfAge_98 rfl ?_
            obtain ⟨x21, h20, hE⟩ := fb_some hE
            refine pm_callV (As := [.int 3, .int x5_4]) (rest := []) hG hR dX4_dayOfAge_100 (lkX4_85 _ rfl) okV_X2_nextBeginning rfl rfl (c_X2_nextBeginning (d := 3) (by decide) h20) rfl rfl hdd (Nat.le_refl _) (Nat.le_refl _) (by decide) (fx_ki ?_)
            refine pm_istoreXn (loc' := [some (.ref (B + 37)), some (.int x2), some (.int x19), some (.int x21), some (.int x5_4), some (.int 1), none]) hG dX4_dayOfAge_103 (by decide) (pm_c1b rfl) rfl ?_
            refine pm_iloadi hG dX4_dayOfAge_104 rfl ?_
            refine pm_if_ne (tgt := 131) hG dX4_dayOfAge_106 rfl (fun _ => ?_) (fun q => absurd q (by decide))
            refine pm_iconst (v := 1) hG dX4_dayOfAge_131 (by decide) ?_
            refine pm_goto (tgt := 136) hG dX4_dayOfAge_132 rfl ?_
            refine pm_istoreXi (loc' := [some (.ref (B + 37)), some (.int x2), some (.int x19), some (.int x21), some (.int x5_4), some (.int 1), some (.int 1)]) hG dX4_dayOfAge_136 (by decide) (pm_c1b rfl) rfl ?_
            refine pm_iloadi hG dX4_dayOfAge_138 rfl ?_
            refine pm_if_eq (tgt := 165) hG dX4_dayOfAge_140 rfl (fun q => absurd q (by decide)) (fun _ => ?_)
            refine pm_iloadn hG dX4_dayOfAge_143 rfl ?_
            refine pm_if_lt (tgt := 162) hG dX4_dayOfAge_144 rfl (fun c22 => ?_) (fun c22 => ?_)
            · replace hE := fx_t c22 hE
              refine pm_iloadi hG dX4_dayOfAge_162 rfl ?_
              exact pm_iret hG hF dX4_dayOfAge_164 rfl (Nat.le_refl _) (Nat.le_refl _) (fx_ric hE)
            · replace hE := fx_f c22 hE
              refine pm_aloadn hG dX4_dayOfAge_147 rfl ?_
              refine pm_getf hG dX4_dayOfAge_148 (flX4_15 _ rfl) rfl rfl ?_
              refine pm_iloadn hG dX4_dayOfAge_151 rfl ?_
              refine pm_iconst (v := 0) hG dX4_dayOfAge_152 (by decide) ?_
              refine pm_iconst (v := (-1)) hG dX4_dayOfAge_153 (by decide) ?_
              refine pm_iloadi hG dX4_dayOfAge_154 rfl ?_
              obtain ⟨r24, h23, hE⟩ := fb_some hE
              refine pm_callV (As := [.int x19, .int 0, .int (-1), .int x5_4]) (rest := []) hG hR dX4_dayOfAge_156 (lkX4_91 _ rfl) okV_X2_comesTo rfl rfl (c_X2_comesTo (d := 3) (by decide) h23) rfl rfl hdd (Nat.le_refl _) (Nat.le_refl _) (by decide) (fx_ki ?_)
              refine pm_if_eq (tgt := 165) hG dX4_dayOfAge_159 rfl (fun c25 => ?_) (fun c25 => ?_)
              · replace hE := fx_t c25 hE
                refine pm_iincX (v := x5_4 + 1) (loc' := [some (.ref (B + 37)), some (.int x2), some (.int x19), some (.int x21), some (.int (x5_4 + 1)), some (.int 1), some (.int 1)]) hG dX4_dayOfAge_165 rfl (by rfl) (by decide) (pm_c1b rfl) rfl ?_
                refine pm_goto (tgt := 49) hG dX4_dayOfAge_168 rfl ?_
                refine pm_fg 5 (loc' := [some (.ref (B + 37)), some (.int x2), some (.int x19), some (.int x21), some (.int (x5_4 + 1)), none, some (.int 1)]) rfl ?_
                refine pm_fg 6 (loc' := [some (.ref (B + 37)), some (.int x2), some (.int x19), some (.int x21), some (.int (x5_4 + 1)), none, none]) rfl ?_
                exact ih49 _ _ _ _ hE
              · replace hE := fx_f c25 hE
                refine pm_iloadi hG dX4_dayOfAge_162 rfl ?_
                exact pm_iret hG hF dX4_dayOfAge_164 rfl (Nat.le_refl _) (Nat.le_refl _) (fx_ric hE)
    refine loop49 _ (fun S26 x26_2 x26_3 x26_4 hE => ?_) _ _ _ _ _ hE
    refine pm_ldc hG dX4_dayOfAge_171 (ctX4_55 _ rfl) ?_
    exact pm_iret hG hF dX4_dayOfAge_173 rfl (Nat.le_refl _) (Nat.le_refl _) (fx_ric hE)
  · replace hE := fx_t c1 hE
    refine pm_ldc hG dX4_dayOfAge_14 (ctX4_55 _ rfl) ?_
    exact pm_iret hG hF dX4_dayOfAge_16 rfl (Nat.le_refl _) (Nat.le_refl _) (fx_ric hE)

set_option maxRecDepth 100000 in
set_option maxHeartbeats 4000000 in
theorem c_X2_ruling {d : Nat} {B cnt : Nat} {kp : Value} {ρ : pm_S} {S : FS} {za : Int32} {zb : Int32} {zc : Int32} {zd : Int32} {ze : Int32} {R : Int32 × FS} (hdd : 4 ≤ d) (hE : f_X2_ruling S za zb zc zd ze = some R) : pm_met mX2_ruling d 0 0 B [.ref (B + 26), .int za, .int zb, .int zc, .int zd, .int ze] cnt (cst B kp S ρ) (pm_Qi (fun v σ' cnt' => v = R.1 ∧ σ' = (cst B kp R.2 ρ) ∧ cnt' = cnt)) := by
  refine pm_enter 1 (by decide) (Nat.le_of_ble_eq_true rfl) rfl (fun G hG hR hF => ?_)
  unfold f_X2_ruling at hE
  refine pm_aloadn hG dX2_ruling_0 rfl ?_
  refine pm_iloadn hG dX2_ruling_1 rfl ?_
  refine pm_iloadn hG dX2_ruling_2 rfl ?_
  refine pm_iloadn hG dX2_ruling_3 rfl ?_
  obtain ⟨x2, h1, hE⟩ := fb_some hE
  refine pm_callV (As := [.int za, .int zb, .int zc]) (rest := []) hG hR dX2_ruling_4 (lkX2_79 _ rfl) okV_X2_inForce rfl rfl (c_X2_inForce (d := 3) (by decide) h1) rfl rfl hdd (Nat.le_refl _) (Nat.le_refl _) (by decide) (fx_ki ?_)
  refine pm_istoreXi (loc' := [some (.ref (B + 26)), some (.int za), some (.int zb), some (.int zc), some (.int zd), some (.int ze), some (.int x2)]) hG dX2_ruling_7 (by decide) (pm_c1b rfl) rfl ?_
  refine pm_iloadi hG dX2_ruling_9 rfl ?_
  refine pm_if_ge (tgt := 18) hG dX2_ruling_11 rfl (fun c3 => ?_) (fun c3 => ?_)
  · replace c3 := Int32.not_lt.mpr c3
    replace hE := fx_f c3 hE
    refine pm_aloadn hG dX2_ruling_18 rfl ?_
    refine pm_iloadi hG dX2_ruling_19 rfl ?_
    refine pm_iloadi hG dX2_ruling_21 rfl ?_
    refine pm_iloadi hG dX2_ruling_23 rfl ?_
    refine pm_iloadn hG dX2_ruling_25 rfl ?_
    obtain ⟨r5, h4, hE⟩ := fb_some hE
    refine pm_callV (As := [.int x2, .int zd, .int ze, .int zb]) (rest := []) hG hR dX2_ruling_26 (lkX2_83 _ rfl) okV_X2_comesTo rfl rfl (c_X2_comesTo (d := 3) (by decide) h4) rfl rfl hdd (Nat.le_refl _) (Nat.le_refl _) (by decide) (fx_ki ?_)
    exact pm_iret hG hF dX2_ruling_29 rfl (Nat.le_refl _) (Nat.le_refl _) (fx_ric hE)
  · replace c3 := Int32.not_le.mp c3
    replace hE := fx_t c3 hE
    refine pm_iconst (v := 1) hG dX2_ruling_14 (by decide) ?_
    refine pm_goto (tgt := 29) hG dX2_ruling_15 rfl ?_
    exact pm_iret hG hF dX2_ruling_29 rfl (Nat.le_refl _) (Nat.le_refl _) (fx_ric hE)

set_option maxRecDepth 100000 in
set_option maxHeartbeats 4000000 in
theorem c_X4_fateOf {d : Nat} {B cnt : Nat} {kp : Value} {ρ : pm_S} {S : FS} {za : Int32} {R : Int32 × FS} (hdd : 5 ≤ d) (hE : f_X4_fateOf S za = some R) : pm_met mX4_fateOf d 0 0 B [.ref (B + 37), .int za] cnt (cst B kp S ρ) (pm_Qi (fun v σ' cnt' => v = R.1 ∧ σ' = (cst B kp R.2 ρ) ∧ cnt' = cnt)) := by
  refine pm_enter 3 (by decide) (Nat.le_of_ble_eq_true rfl) rfl (fun G hG hR hF => ?_)
  unfold f_X4_fateOf at hE
  refine pm_aloadn hG dX4_fateOf_0 rfl ?_
  obtain ⟨r2, h1, hE⟩ := fb_some hE
  refine pm_callV (As := []) (rest := []) hG hR dX4_fateOf_1 (lkX4_95 _ rfl) okV_X4_dayOfAge rfl rfl (c_X4_dayOfAge (d := 4) (by decide) h1) rfl rfl hdd (Nat.le_refl _) (Nat.le_refl _) (by decide) (fx_ki ?_)
  refine pm_istoreXn (loc' := [some (.ref (B + 37)), some (.int za), some (.int r2.1), none, none]) hG dX4_fateOf_4 (by decide) (pm_c1b rfl) rfl ?_
  refine pm_iloadn hG dX4_fateOf_5 rfl ?_
  refine pm_if_ge (tgt := 12) hG dX4_fateOf_6 rfl (fun c3 => ?_) (fun c3 => ?_)
  · replace c3 := Int32.not_lt.mpr c3
    replace hE := fx_f c3 hE
    refine pm_aloadn hG dX4_fateOf_12 rfl ?_
    refine pm_getf hG dX4_fateOf_13 (flX4_9 _ rfl) rfl rfl ?_
    refine pm_getf hG dX4_fateOf_16 (flX4_98 _ rfl) rfl rfl ?_
    refine pm_iloadn hG dX4_fateOf_19 rfl ?_
    refine pm_iconst (v := 2) hG dX4_fateOf_20 (by decide) ?_
    refine pm_callV (As := [.int za, .int 2]) (rest := []) hG hR dX4_fateOf_21 (lkX4_51 _ rfl) okV_X9_get rfl rfl (tget_8 (d := 4)) rfl rfl hdd (Nat.le_refl _) (Nat.le_refl _) (by decide) (fx_ki ?_)
    refine fx_letv hE (fun x4 hE => ?_)
    refine pm_istoreXn (loc' := [some (.ref (B + 37)), some (.int za), some (.int r2.1), some (.int x4), none]) hG dX4_fateOf_24 (by decide) (pm_c1b rfl) rfl ?_
    refine pm_aloadn hG dX4_fateOf_25 rfl ?_
    refine pm_getf hG dX4_fateOf_26 (flX4_15 _ rfl) rfl rfl ?_
    refine pm_iconst (v := 4) hG dX4_fateOf_29 (by decide) ?_
    refine pm_iloadn hG dX4_fateOf_30 rfl ?_
    refine pm_aloadn hG dX4_fateOf_31 rfl ?_
    refine pm_getf hG dX4_fateOf_32 (flX4_9 _ rfl) rfl rfl ?_
    refine pm_getf hG dX4_fateOf_35 (flX4_59 _ rfl) rfl rfl ?_
    refine pm_iloadn hG dX4_fateOf_38 rfl ?_
    refine pm_iconst (v := (-1)) hG dX4_fateOf_39 (by decide) ?_
    obtain ⟨r6, h5, hE⟩ := fb_some hE
    refine pm_callV (As := [.int 4, .int r2.1, .int (r2.2.1 102), .int x4, .int (-1)]) (rest := []) hG hR dX4_fateOf_40 (lkX4_63 _ rfl) okV_X2_ruling rfl rfl (c_X2_ruling (d := 4) (by decide) h5) rfl rfl hdd (Nat.le_refl _) (Nat.le_refl _) (by decide) (fx_ki ?_)
    refine pm_istoreXi (loc' := [some (.ref (B + 37)), some (.int za), some (.int r2.1), some (.int x4), some (.int r6.1)]) hG dX4_fateOf_43 (by decide) (pm_c1b rfl) rfl ?_
    refine pm_iloadi hG dX4_fateOf_45 rfl ?_
    refine pm_if_eq (tgt := 56) hG dX4_fateOf_47 rfl (fun c7 => ?_) (fun c7 => ?_)
    · replace hE := fx_t c7 hE
      refine pm_iloadi hG dX4_fateOf_56 rfl ?_
      refine pm_goto (tgt := 62) hG dX4_fateOf_58 rfl ?_
      exact pm_iret hG hF dX4_fateOf_62 rfl (Nat.le_refl _) (Nat.le_refl _) (fx_ric hE)
    · replace hE := fx_f c7 hE
      refine pm_iloadi hG dX4_fateOf_50 rfl ?_
      refine pm_iconst (v := 1) hG dX4_fateOf_52 (by decide) ?_
      refine pm_icmp_ne (tgt := 61) hG dX4_fateOf_53 rfl (fun c8 => ?_) (fun c8 => ?_)
      · replace hE := fx_f c8 hE
        refine pm_iconst (v := 2) hG dX4_fateOf_61 (by decide) ?_
        exact pm_iret hG hF dX4_fateOf_62 rfl (Nat.le_refl _) (Nat.le_refl _) (fx_ric hE)
      · replace hE := fx_t c8 hE
        refine pm_iloadi hG dX4_fateOf_56 rfl ?_
        refine pm_goto (tgt := 62) hG dX4_fateOf_58 rfl ?_
        exact pm_iret hG hF dX4_fateOf_62 rfl (Nat.le_refl _) (Nat.le_refl _) (fx_ric hE)
  · replace c3 := Int32.not_le.mp c3
    replace hE := fx_t c3 hE
    refine pm_ldc hG dX4_fateOf_9 (ctX4_55 _ rfl) ?_
    exact pm_iret hG hF dX4_fateOf_11 rfl (Nat.le_refl _) (Nat.le_refl _) (fx_ric hE)

set_option maxRecDepth 100000 in
set_option maxHeartbeats 4000000 in
theorem c_X11_after {d : Nat} {B cnt : Nat} {kp : Value} {ρ : pm_S} {S : FS} {za : Int32} {R : Int32 × FS} (hdd : 6 ≤ d) (hE : f_X11_after S za = some R) : pm_met mX11_after d 0 0 B [.ref (B + 0), .int za] cnt (cst B kp S ρ) (pm_Qi (fun v σ' cnt' => v = R.1 ∧ σ' = (cst B kp R.2 ρ) ∧ cnt' = cnt)) := by
  refine pm_enter 0 (by decide) (Nat.le_of_ble_eq_true rfl) rfl (fun G hG hR hF => ?_)
  unfold f_X11_after at hE
  refine pm_aloadn hG dX11_after_0 rfl ?_
  refine pm_aloadn hG dX11_after_1 rfl ?_
  refine pm_getf hG dX11_after_2 (flX11_12 _ rfl) rfl rfl ?_
  refine pm_getf hG dX11_after_5 (flX11_161 _ rfl) rfl rfl ?_
  refine pm_iloadn hG dX11_after_8 rfl ?_
  refine pm_callV (As := [.int za]) (rest := [.ref (B + 0)]) hG hR dX11_after_9 (lkX11_101 _ rfl) okV_X9_has rfl rfl (thas_8 (d := 5)) rfl rfl hdd (Nat.le_refl _) (Nat.le_refl _) (by first | decide | exact Nat.le_of_ble_eq_true rfl) (fx_ki ?_)
  refine pm_if_eq (tgt := 26) hG dX11_after_12 rfl (fun c1 => ?_) (fun c1 => ?_)
  · replace hE := fx_t c1 hE
    refine pm_ldc hG dX11_after_26 (ctX11_109 _ rfl) ?_
    obtain ⟨r3, h2, hE⟩ := fb_some hE
    refine pm_callV (As := [.int (-1000001)]) (rest := []) hG hR dX11_after_28 (lkX11_97 _ rfl) okV_X11_told rfl rfl (c_X11_told (d := 5) (by decide) h2) rfl rfl hdd (Nat.le_refl _) (Nat.le_refl _) (by decide) (fx_ki ?_)
    exact pm_iret hG hF dX11_after_31 rfl (Nat.le_refl _) (Nat.le_refl _) (fx_ric hE)
  · replace hE := fx_f c1 hE
    refine pm_aloadn hG dX11_after_15 rfl ?_
    refine pm_getf hG dX11_after_16 (flX11_46 _ rfl) rfl rfl ?_
    refine pm_iloadn hG dX11_after_19 rfl ?_
    obtain ⟨r5, h4, hE⟩ := fb_some hE
    refine pm_callV (As := [.int za]) (rest := [.ref (B + 0)]) hG hR dX11_after_20 (lkX11_332 _ rfl) okV_X4_fateOf rfl rfl (c_X4_fateOf (d := 5) (by decide) h4) rfl rfl hdd (Nat.le_refl _) (Nat.le_refl _) (by first | decide | exact Nat.le_of_ble_eq_true rfl) (fx_ki ?_)
    refine pm_goto (tgt := 28) hG dX11_after_23 rfl ?_
    obtain ⟨r7, h6, hE⟩ := fb_some hE
    refine pm_callV (As := [.int r5.1]) (rest := []) hG hR dX11_after_28 (lkX11_97 _ rfl) okV_X11_told rfl rfl (c_X11_told (d := 5) (by decide) h6) rfl rfl hdd (Nat.le_refl _) (Nat.le_refl _) (by decide) (fx_ki ?_)
    exact pm_iret hG hF dX11_after_31 rfl (Nat.le_refl _) (Nat.le_refl _) (fx_ric hE)

set_option maxRecDepth 100000 in
set_option maxHeartbeats 4000000 in
theorem c_X11_age {d : Nat} {B cnt : Nat} {kp : Value} {ρ : pm_S} {S : FS} {R : Int32 × FS} (hdd : 5 ≤ d) (hE : f_X11_age S = some R) : pm_met mX11_age d 0 0 B [.ref (B + 0)] cnt (cst B kp S ρ) (pm_Qi (fun v σ' cnt' => v = R.1 ∧ σ' = (cst B kp R.2 ρ) ∧ cnt' = cnt)) := by
  refine pm_enter 0 (by decide) (Nat.le_of_ble_eq_true rfl) rfl (fun G hG hR hF => ?_)
  unfold f_X11_age at hE
  refine pm_aloadn hG dX11_age_0 rfl ?_
  refine pm_aloadn hG dX11_age_1 rfl ?_
  refine pm_getf hG dX11_age_2 (flX11_46 _ rfl) rfl rfl ?_
  obtain ⟨r2, h1, hE⟩ := fb_some hE
  refine pm_callV (As := []) (rest := [.ref (B + 0)]) hG hR dX11_age_5 (lkX11_329 _ rfl) okV_X4_dayOfAge rfl rfl (c_X4_dayOfAge (d := 4) (by decide) h1) rfl rfl hdd (Nat.le_refl _) (Nat.le_refl _) (by first | decide | exact Nat.le_of_ble_eq_true rfl) (fx_ki ?_)
  obtain ⟨r4, h3, hE⟩ := fb_some hE
  refine pm_callV (As := [.int r2.1]) (rest := []) hG hR dX11_age_8 (lkX11_97 _ rfl) okV_X11_told rfl rfl (c_X11_told (d := 4) (by decide) h3) rfl rfl hdd (Nat.le_refl _) (Nat.le_refl _) (by decide) (fx_ki ?_)
  exact pm_iret hG hF dX11_age_11 rfl (Nat.le_refl _) (Nat.le_refl _) (fx_ric hE)

set_option maxRecDepth 100000 in
set_option maxHeartbeats 4000000 in
theorem c_X11_as {d : Nat} {B cnt : Nat} {kp : Value} {ρ : pm_S} {S : FS} {za : Int32} {zb : Int32} {R : Int32 × FS} (hdd : 2 ≤ d) (hE : f_X11_as S za zb = some R) : pm_met mX11_as d 0 0 B [.ref (B + 0), .int za, .int zb] cnt (cst B kp S ρ) (pm_Qi (fun v σ' cnt' => v = R.1 ∧ σ' = (cst B kp R.2 ρ) ∧ cnt' = cnt)) := by
  refine pm_enter 0 (by decide) (Nat.le_of_ble_eq_true rfl) rfl (fun G hG hR hF => ?_)
  unfold f_X11_as at hE
  refine pm_aloadn hG dX11_as_0 rfl ?_
  refine pm_getf hG dX11_as_1 (flX11_12 _ rfl) rfl rfl ?_
  refine pm_getf hG dX11_as_4 (flX11_161 _ rfl) rfl rfl ?_
  refine pm_iloadn hG dX11_as_7 rfl ?_
  refine pm_callV (As := [.int za]) (rest := []) hG hR dX11_as_8 (lkX11_101 _ rfl) okV_X9_has rfl rfl (thas_8 (d := 1)) rfl rfl hdd (Nat.le_refl _) (Nat.le_refl _) (by decide) (fx_ki ?_)
  refine pm_if_eq (tgt := 23) hG dX11_as_11 rfl (fun c1 => ?_) (fun c1 => ?_)
  · replace hE := fx_t c1 hE
    refine pm_aloadn hG dX11_as_23 rfl ?_
    refine pm_ldc hG dX11_as_24 (ctX11_109 _ rfl) ?_
    obtain ⟨r3, h2, hE⟩ := fb_some hE
    refine pm_callV (As := [.int (-1000001)]) (rest := []) hG hR dX11_as_26 (lkX11_97 _ rfl) okV_X11_told rfl rfl (c_X11_told (d := 1) (by decide) h2) rfl rfl hdd (Nat.le_refl _) (Nat.le_refl _) (by decide) (fx_ki ?_)
    exact pm_iret hG hF dX11_as_29 rfl (Nat.le_refl _) (Nat.le_refl _) (fx_ric hE)
  · replace hE := fx_f c1 hE
    refine pm_iloadn hG dX11_as_14 rfl ?_
    refine pm_iconst (v := 0) hG dX11_as_15 (by decide) ?_
    refine pm_iconst (v := 5) hG dX11_as_16 (by decide) ?_
    refine pm_callS (As := [.int zb, .int 0, .int 5]) (rest := []) hG hR dX11_as_17 (lkX11_105 _ rfl) okS_X11_isOutside (tOut (d := 1)) rfl rfl hdd (Nat.le_refl _) (Nat.le_refl _) (by decide) (fx_ki ?_)
    refine pm_if_eq (tgt := 30) hG dX11_as_20 rfl (fun c4 => ?_) (fun c4 => ?_)
    · replace hE := fx_t c4 hE
      refine pm_aloadn hG dX11_as_30 rfl ?_
      refine pm_aloadn hG dX11_as_31 rfl ?_
      refine pm_getf hG dX11_as_32 (flX11_12 _ rfl) rfl rfl ?_
      refine pm_iloadn hG dX11_as_35 rfl ?_
      refine pm_iloadn hG dX11_as_36 rfl ?_
      obtain ⟨x6, h5, hE⟩ := fb_some hE
      refine pm_callV (As := [.int za, .int zb]) (rest := [.ref (B + 0)]) hG hR dX11_as_37 (lkX11_180 _ rfl) okV_X7_isOfKind rfl rfl (c_X7_isOfKind (d := 1) (by decide) h5) rfl rfl hdd (Nat.le_refl _) (Nat.le_refl _) (by first | decide | exact Nat.le_of_ble_eq_true rfl) (fx_ki ?_)
      refine pm_if_eq (tgt := 58) hG dX11_as_40 rfl (fun c7 => ?_) (fun c7 => ?_)
      · replace hE := fx_t c7 hE
        refine pm_ldc hG dX11_as_58 (ctX11_184 _ rfl) ?_
        obtain ⟨r9, h8, hE⟩ := fb_some hE
        refine pm_callV (As := [.int (-1000005)]) (rest := []) hG hR dX11_as_60 (lkX11_97 _ rfl) okV_X11_told rfl rfl (c_X11_told (d := 1) (by decide) h8) rfl rfl hdd (Nat.le_refl _) (Nat.le_refl _) (by decide) (fx_ki ?_)
        exact pm_iret hG hF dX11_as_63 rfl (Nat.le_refl _) (Nat.le_refl _) (fx_ric hE)
      · replace hE := fx_f c7 hE
        refine pm_aloadn hG dX11_as_43 rfl ?_
        refine pm_getf hG dX11_as_44 (flX11_12 _ rfl) rfl rfl ?_
        refine pm_getf hG dX11_as_47 (flX11_161 _ rfl) rfl rfl ?_
        refine pm_iloadn hG dX11_as_50 rfl ?_
        refine pm_iconst (v := 1) hG dX11_as_51 (by decide) ?_
        refine pm_callV (As := [.int za, .int 1]) (rest := [.ref (B + 0)]) hG hR dX11_as_52 (lkX11_152 _ rfl) okV_X9_get rfl rfl (tget_8 (d := 1)) rfl rfl hdd (Nat.le_refl _) (Nat.le_refl _) (by first | decide | exact Nat.le_of_ble_eq_true rfl) (fx_ki ?_)
        refine pm_goto (tgt := 60) hG dX11_as_55 rfl ?_
        obtain ⟨r11, h10, hE⟩ := fb_some hE
        refine pm_callV (As := [.int (fG 8 20 6 S za 1)]) (rest := []) hG hR dX11_as_60 (lkX11_97 _ rfl) okV_X11_told rfl rfl (c_X11_told (d := 1) (by decide) h10) rfl rfl hdd (Nat.le_refl _) (Nat.le_refl _) (by decide) (fx_ki ?_)
        exact pm_iret hG hF dX11_as_63 rfl (Nat.le_refl _) (Nat.le_refl _) (fx_ric hE)
    · replace hE := fx_f c4 hE
      refine pm_aloadn hG dX11_as_23 rfl ?_
      refine pm_ldc hG dX11_as_24 (ctX11_109 _ rfl) ?_
      obtain ⟨r13, h12, hE⟩ := fb_some hE
      refine pm_callV (As := [.int (-1000001)]) (rest := []) hG hR dX11_as_26 (lkX11_97 _ rfl) okV_X11_told rfl rfl (c_X11_told (d := 1) (by decide) h12) rfl rfl hdd (Nat.le_refl _) (Nat.le_refl _) (by decide) (fx_ki ?_)
      exact pm_iret hG hF dX11_as_29 rfl (Nat.le_refl _) (Nat.le_refl _) (fx_ric hE)

set_option maxRecDepth 100000 in
set_option maxHeartbeats 4000000 in
theorem c_X11_breaks {d : Nat} {B cnt : Nat} {kp : Value} {ρ : pm_S} {S : FS} {za : Int32} {R : Int32 × FS} (hdd : 2 ≤ d) (hE : f_X11_breaks S za = some R) : pm_met mX11_breaks d 0 0 B [.ref (B + 0), .int za] cnt (cst B kp S ρ) (pm_Qi (fun v σ' cnt' => v = R.1 ∧ σ' = (cst B kp R.2 ρ) ∧ cnt' = cnt)) := by
  refine pm_enter 0 (by decide) (Nat.le_of_ble_eq_true rfl) rfl (fun G hG hR hF => ?_)
  unfold f_X11_breaks at hE
  refine pm_aloadn hG dX11_breaks_0 rfl ?_
  refine pm_getf hG dX11_breaks_1 (flX11_12 _ rfl) rfl rfl ?_
  refine pm_getf hG dX11_breaks_4 (flX11_277 _ rfl) rfl rfl ?_
  refine pm_iloadn hG dX11_breaks_7 rfl ?_
  refine pm_callV (As := [.int za]) (rest := []) hG hR dX11_breaks_8 (lkX11_101 _ rfl) okV_X9_has rfl rfl (thas_18 (d := 1)) rfl rfl hdd (Nat.le_refl _) (Nat.le_refl _) (by decide) (fx_ki ?_)
  refine pm_if_ne (tgt := 21) hG dX11_breaks_11 rfl (fun c1 => ?_) (fun c1 => ?_)
  · replace hE := fx_f c1 hE
    refine pm_aloadn hG dX11_breaks_21 rfl ?_
    refine pm_getf hG dX11_breaks_22 (flX11_30 _ rfl) rfl rfl ?_
    refine pm_iloadn hG dX11_breaks_25 rfl ?_
    refine pm_callV (As := [.int za]) (rest := []) hG hR dX11_breaks_26 (lkX11_284 _ rfl) okV_X0_stands rfl rfl (c_X0_stands (d := 1) (by decide) rfl) rfl rfl hdd (Nat.le_refl _) (Nat.le_refl _) (by decide) (fx_ki ?_)
    refine pm_if_ne (tgt := 39) hG dX11_breaks_29 rfl (fun c2 => ?_) (fun c2 => ?_)
    · replace hE := fx_f c2 hE
      refine pm_aloadn hG dX11_breaks_39 rfl ?_
      refine pm_getf hG dX11_breaks_40 (flX11_12 _ rfl) rfl rfl ?_
      refine pm_getf hG dX11_breaks_43 (flX11_277 _ rfl) rfl rfl ?_
      refine pm_iloadn hG dX11_breaks_46 rfl ?_
      refine pm_iconst (v := 4) hG dX11_breaks_47 (by decide) ?_
      refine pm_iconst (v := 2) hG dX11_breaks_48 (by decide) ?_
      refine pm_callV (As := [.int za, .int 4, .int 2]) (rest := []) hG hR dX11_breaks_49 (lkX11_170 _ rfl) okV_X9_set rfl rfl (tset_18 (d := 1)) rfl rfl hdd (Nat.le_refl _) (Nat.le_refl _) (by decide) (fx_kv ?_)
      refine fx_letc hE (fun S3 hE => ?_)
      refine pm_iconst (v := 1) hG dX11_breaks_52 (by decide) ?_
      exact pm_iret hG hF dX11_breaks_53 rfl (Nat.le_refl _) (Nat.le_refl _) (fx_ric hE)
    · replace hE := fx_t c2 hE
      refine pm_aloadn hG dX11_breaks_32 rfl ?_
      refine pm_ldc hG dX11_breaks_33 (ctX11_138 _ rfl) ?_
      obtain ⟨r5, h4, hE⟩ := fb_some hE
      refine pm_callV (As := [.int (-1000003)]) (rest := []) hG hR dX11_breaks_35 (lkX11_97 _ rfl) okV_X11_told rfl rfl (c_X11_told (d := 1) (by decide) h4) rfl rfl hdd (Nat.le_refl _) (Nat.le_refl _) (by decide) (fx_ki ?_)
      exact pm_iret hG hF dX11_breaks_38 rfl (Nat.le_refl _) (Nat.le_refl _) (fx_ric hE)
  · replace hE := fx_t c1 hE
    refine pm_aloadn hG dX11_breaks_14 rfl ?_
    refine pm_ldc hG dX11_breaks_15 (ctX11_109 _ rfl) ?_
    obtain ⟨r7, h6, hE⟩ := fb_some hE
    refine pm_callV (As := [.int (-1000001)]) (rest := []) hG hR dX11_breaks_17 (lkX11_97 _ rfl) okV_X11_told rfl rfl (c_X11_told (d := 1) (by decide) h6) rfl rfl hdd (Nat.le_refl _) (Nat.le_refl _) (by decide) (fx_ki ?_)
    exact pm_iret hG hF dX11_breaks_20 rfl (Nat.le_refl _) (Nat.le_refl _) (fx_ric hE)

set_option maxRecDepth 100000 in
set_option maxHeartbeats 4000000 in
theorem c_X11_buying {d : Nat} {B cnt : Nat} {kp : Value} {ρ : pm_S} {S : FS} {za : Int32} {zb : Int32} {R : Int32 × FS} (hdd : 14 ≤ d) (hE : f_X11_buying S za zb = some R) : pm_met mX11_buying d 0 0 B [.ref (B + 0), .int za, .int zb] cnt (cst B kp S ρ) (pm_Qi (fun v σ' cnt' => v = R.1 ∧ σ' = (cst B kp R.2 ρ) ∧ cnt' = cnt)) := by
  refine pm_enter 0 (by decide) (Nat.le_of_ble_eq_true rfl) rfl (fun G hG hR hF => ?_)
  unfold f_X11_buying at hE
  refine pm_iloadn hG dX11_buying_0 rfl ?_
  refine pm_iconst (v := 0) hG dX11_buying_1 (by decide) ?_
  refine pm_iconst (v := 5) hG dX11_buying_2 (by decide) ?_
  refine pm_callS (As := [.int za, .int 0, .int 5]) (rest := []) hG hR dX11_buying_3 (lkX11_105 _ rfl) okS_X11_isOutside (tOut (d := 13)) rfl rfl hdd (Nat.le_refl _) (Nat.le_refl _) (by decide) (fx_ki ?_)
  refine pm_if_ne (tgt := 18) hG dX11_buying_6 rfl (fun c1 => ?_) (fun c1 => ?_)
  · replace hE := fx_f c1 hE
    refine pm_aloadn hG dX11_buying_18 rfl ?_
    refine pm_ldc hG dX11_buying_19 (ctX11_109 _ rfl) ?_
    obtain ⟨r3, h2, hE⟩ := fb_some hE
    refine pm_callV (As := [.int (-1000001)]) (rest := []) hG hR dX11_buying_21 (lkX11_97 _ rfl) okV_X11_told rfl rfl (c_X11_told (d := 13) (by decide) h2) rfl rfl hdd (Nat.le_refl _) (Nat.le_refl _) (by decide) (fx_ki ?_)
    exact pm_iret hG hF dX11_buying_24 rfl (Nat.le_refl _) (Nat.le_refl _) (fx_ric hE)
  · replace hE := fx_t c1 hE
    refine pm_iloadn hG dX11_buying_9 rfl ?_
    refine pm_iconst (v := 0) hG dX11_buying_10 (by decide) ?_
    refine pm_iconst (v := 1) hG dX11_buying_11 (by decide) ?_
    refine pm_callS (As := [.int zb, .int 0, .int 1]) (rest := []) hG hR dX11_buying_12 (lkX11_105 _ rfl) okS_X11_isOutside (tOut (d := 13)) rfl rfl hdd (Nat.le_refl _) (Nat.le_refl _) (by decide) (fx_ki ?_)
    refine pm_if_eq (tgt := 25) hG dX11_buying_15 rfl (fun c4 => ?_) (fun c4 => ?_)
    · replace hE := fx_t c4 hE
      refine pm_aloadn hG dX11_buying_25 rfl ?_
      refine pm_getf hG dX11_buying_26 (flX11_30 _ rfl) rfl rfl ?_
      refine pm_iloadn hG dX11_buying_29 rfl ?_
      obtain ⟨r6, h5, hE⟩ := fb_some hE
      refine pm_callV (As := [.int za]) (rest := []) hG hR dX11_buying_30 (lkX11_302 _ rfl) okV_X0_findCheapest rfl rfl (c_X0_findCheapest (d := 13) (by decide) h5) rfl rfl hdd (Nat.le_refl _) (Nat.le_refl _) (by decide) (fx_ki ?_)
      refine pm_if_ne (tgt := 43) hG dX11_buying_33 rfl (fun c7 => ?_) (fun c7 => ?_)
      · replace hE := fx_f c7 hE
        refine pm_iloadn hG dX11_buying_43 rfl ?_
        refine pm_if_ne (tgt := 57) hG dX11_buying_44 rfl (fun c8 => ?_) (fun c8 => ?_)
        · replace hE := fx_f c8 hE
          refine pm_aloadn hG dX11_buying_57 rfl ?_
          refine pm_getf hG dX11_buying_58 (flX11_30 _ rfl) rfl rfl ?_
          refine pm_getf hG dX11_buying_61 (flX11_308 _ rfl) rfl rfl ?_
          exact pm_iret hG hF dX11_buying_64 rfl (Nat.le_refl _) (Nat.le_refl _) (fx_ric hE)
        · replace hE := fx_t c8 hE
          refine pm_aloadn hG dX11_buying_47 rfl ?_
          refine pm_getf hG dX11_buying_48 (flX11_30 _ rfl) rfl rfl ?_
          refine pm_getf hG dX11_buying_51 (flX11_305 _ rfl) rfl rfl ?_
          refine pm_goto (tgt := 64) hG dX11_buying_54 rfl ?_
          exact pm_iret hG hF dX11_buying_64 rfl (Nat.le_refl _) (Nat.le_refl _) (fx_ric hE)
      · replace hE := fx_t c7 hE
        refine pm_aloadn hG dX11_buying_36 rfl ?_
        refine pm_ldc hG dX11_buying_37 (ctX11_223 _ rfl) ?_
        obtain ⟨r10, h9, hE⟩ := fb_some hE
        refine pm_callV (As := [.int (-1000002)]) (rest := []) hG hR dX11_buying_39 (lkX11_97 _ rfl) okV_X11_told rfl rfl (c_X11_told (d := 13) (by decide) h9) rfl rfl hdd (Nat.le_refl _) (Nat.le_refl _) (by decide) (fx_ki ?_)
        exact pm_iret hG hF dX11_buying_42 rfl (Nat.le_refl _) (Nat.le_refl _) (fx_ric hE)
    · replace hE := fx_f c4 hE
      refine pm_aloadn hG dX11_buying_18 rfl ?_
      refine pm_ldc hG dX11_buying_19 (ctX11_109 _ rfl) ?_
      obtain ⟨r12, h11, hE⟩ := fb_some hE
      refine pm_callV (As := [.int (-1000001)]) (rest := []) hG hR dX11_buying_21 (lkX11_97 _ rfl) okV_X11_told rfl rfl (c_X11_told (d := 13) (by decide) h11) rfl rfl hdd (Nat.le_refl _) (Nat.le_refl _) (by decide) (fx_ki ?_)
      exact pm_iret hG hF dX11_buying_24 rfl (Nat.le_refl _) (Nat.le_refl _) (fx_ric hE)
end
