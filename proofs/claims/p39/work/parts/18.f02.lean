set_option maxRecDepth 100000 in
set_option maxHeartbeats 4000000 in
theorem c_X0_choose_k6 {d : Nat} {B cnt : Nat} {kp : Value} {ρ : pm_S} {S : FS} {zb : Int32} {zc : Int32} {zd : Int32} {R : Int32 × FS} (hdd : 6 ≤ d) (hE : f_X0_choose_k6 S zb zc zd = some R) : pm_met mX0_choose d 0 0 B [.ref (B + 31), .int 6, .int zb, .int zc, .int zd] cnt (cst B kp S ρ) (pm_Qv (fun σ' cnt' => σ' = (cst B kp R.2 ρ) ∧ cnt' = cnt)) := by
  refine pm_enter 1 (by decide) (Nat.le_of_ble_eq_true rfl) rfl (fun G hG hR hF => ?_)
  unfold f_X0_choose_k6 at hE
  refine pm_iloadn hG dX0_choose_0 rfl ?_
  refine pm_aloadn hG dX0_choose_1 rfl ?_
  refine pm_getf hG dX0_choose_2 (flX0_115 _ rfl) rfl rfl ?_
  refine pm_icmp_le (tgt := 9) hG dX0_choose_5 rfl (fun c1 => ?_) (fun c1 => ?_)
  · replace c1 := Int32.not_lt.mpr c1
    replace hE := fx_f c1 hE
    refine pm_aloadn hG dX0_choose_9 rfl ?_
    refine pm_iloadi hG dX0_choose_10 rfl ?_
    refine pm_callV (As := [.int zd]) (rest := []) hG hR dX0_choose_12 (lkX0_125 _ rfl) okV_X0_isCarriedWith rfl rfl (c_X0_isCarriedWith (d := 5) (by decide) rfl) rfl rfl hdd (Nat.le_refl _) (Nat.le_refl _) (by decide) (fx_ki ?_)
    refine pm_if_eq (tgt := 24) hG dX0_choose_15 rfl (fun c2 => ?_) (fun c2 => ?_)
    · replace hE := fx_t c2 hE
      refine pm_iloadn hG dX0_choose_24 rfl ?_
      refine pm_bipush (v := 9) hG dX0_choose_25 (by decide) ?_
      refine pm_icmp_ge (tgt := 105) hG dX0_choose_27 rfl (fun q => absurd q (by decide)) (fun _ => ?_)
      refine pm_aloadn hG dX0_choose_30 rfl ?_
      refine pm_getf hG dX0_choose_31 (flX0_36 _ rfl) rfl rfl ?_
      refine pm_iloadn hG dX0_choose_34 rfl ?_
      refine pm_callV (As := [.int 6]) (rest := []) hG hR dX0_choose_35 (lkX0_131 _ rfl) okV_X9_has rfl rfl (thas_34 (d := 5)) rfl rfl hdd (Nat.le_refl _) (Nat.le_refl _) (by decide) (fx_ki ?_)
      refine pm_if_eq (tgt := 105) hG dX0_choose_38 rfl (fun c3 => ?_) (fun c3 => ?_)
      · replace hE := fx_t c3 hE
        exact pm_vret hG hF dX0_choose_105 rfl (Nat.le_refl _) (Nat.le_refl _) (fx_rvc hE)
      · replace hE := fx_f c3 hE
        refine pm_aloadn hG dX0_choose_41 rfl ?_
        refine pm_getf hG dX0_choose_42 (flX0_36 _ rfl) rfl rfl ?_
        refine pm_iloadn hG dX0_choose_45 rfl ?_
        refine pm_iconst (v := 0) hG dX0_choose_46 (by decide) ?_
        refine pm_callV (As := [.int 6, .int 0]) (rest := []) hG hR dX0_choose_47 (lkX0_39 _ rfl) okV_X9_get rfl rfl (tget_34 (d := 5)) rfl rfl hdd (Nat.le_refl _) (Nat.le_refl _) (by decide) (fx_ki ?_)
        refine fx_letv hE (fun x4 hE => ?_)
        refine pm_istoreXi (loc' := [some (.ref (B + 31)), some (.int 6), some (.int zb), some (.int zc), some (.int zd), some (.int x4)]) hG dX0_choose_50 (by decide) (pm_c1b rfl) rfl ?_
        refine pm_aloadn hG dX0_choose_52 rfl ?_
        refine pm_iloadn hG dX0_choose_53 rfl ?_
        refine pm_iconst (v := 1) hG dX0_choose_54 (by decide) ?_
        refine pm_iadd hG dX0_choose_55 ?_
        refine pm_top (v := 7) (by decide) ?_
        refine pm_iloadn hG dX0_choose_56 rfl ?_
        refine pm_iloadn hG dX0_choose_57 rfl ?_
        refine pm_iloadi hG dX0_choose_58 rfl ?_
        obtain ⟨r6, h5, hE⟩ := fb_some hE
        refine pm_callV (As := [.int 7, .int zb, .int zc, .int zd]) (rest := []) hG hR dX0_choose_60 (lkX0_121 _ rfl) okV_X0_choose rfl rfl (c_X0_choose_k7 (d := 5) (by decide) h5) rfl rfl hdd (Nat.le_refl _) (Nat.le_refl _) (by decide) (fx_kv ?_)
        refine pm_aloadn hG dX0_choose_63 rfl ?_
        refine pm_iloadn hG dX0_choose_64 rfl ?_
        refine pm_iconst (v := 1) hG dX0_choose_65 (by decide) ?_
        refine pm_iadd hG dX0_choose_66 ?_
        refine pm_top (v := 7) (by decide) ?_
        refine pm_iloadn hG dX0_choose_67 rfl ?_
        refine pm_iconst (v := 1) hG dX0_choose_68 (by decide) ?_
        refine pm_iloadi hG dX0_choose_69 rfl ?_
        refine pm_ishl hG dX0_choose_71 ?_
        refine pm_ior hG dX0_choose_72 ?_
        refine pm_iloadn hG dX0_choose_73 rfl ?_
        refine pm_aloadn hG dX0_choose_74 rfl ?_
        refine pm_getf hG dX0_choose_75 (flX0_9 _ rfl) rfl rfl ?_
        refine pm_getf hG dX0_choose_78 (flX0_63 _ rfl) rfl rfl ?_
        refine pm_iloadi hG dX0_choose_81 rfl ?_
        refine pm_bipush (v := 12) hG dX0_choose_83 (by decide) ?_
        refine pm_callV (As := [.int x4, .int 12]) (rest := [.int zc, .int (zb ||| ((1 : Int32) <<< (x4 &&& 31))), .int 7, .ref (B + 31)]) hG hR dX0_choose_85 (lkX0_39 _ rfl) okV_X9_get rfl rfl (tget_6 (d := 5)) rfl rfl hdd (Nat.le_refl _) (Nat.le_refl _) (by first | decide | exact Nat.le_of_ble_eq_true rfl) (fx_ki ?_)
        refine pm_iadd hG dX0_choose_88 ?_
        refine pm_iloadi hG dX0_choose_89 rfl ?_
        refine pm_aloadn hG dX0_choose_91 rfl ?_
        refine pm_getf hG dX0_choose_92 (flX0_33 _ rfl) rfl rfl ?_
        refine pm_iloadi hG dX0_choose_95 rfl ?_
        refine pm_iconst (v := 0) hG dX0_choose_97 (by decide) ?_
        refine pm_callV (As := [.int x4, .int 0]) (rest := [.int zd, .int (zc + (fG 6 20 14 r6.2 x4 12)), .int (zb ||| ((1 : Int32) <<< (x4 &&& 31))), .int 7, .ref (B + 31)]) hG hR dX0_choose_98 (lkX0_39 _ rfl) okV_X9_get rfl rfl (tget_32 (d := 5)) rfl rfl hdd (Nat.le_refl _) (Nat.le_refl _) (by first | decide | exact Nat.le_of_ble_eq_true rfl) (fx_ki ?_)
        refine pm_iadd hG dX0_choose_101 ?_
        obtain ⟨r8, h7, hE⟩ := fb_some hE
        refine pm_callV (As := [.int 7, .int (zb ||| ((1 : Int32) <<< (x4 &&& 31))), .int (zc + (fG 6 20 14 r6.2 x4 12)), .int (zd + (fG 32 20 1 r6.2 x4 0))]) (rest := []) hG hR dX0_choose_102 (lkX0_121 _ rfl) okV_X0_choose rfl rfl (c_X0_choose_k7 (d := 5) (by decide) h7) rfl rfl hdd (Nat.le_refl _) (Nat.le_refl _) (by decide) (fx_kv ?_)
        exact pm_vret hG hF dX0_choose_105 rfl (Nat.le_refl _) (Nat.le_refl _) (fx_rvc hE)
    · replace hE := fx_f c2 hE
      refine pm_aloadn hG dX0_choose_18 rfl ?_
      refine pm_iloadn hG dX0_choose_19 rfl ?_
      refine pm_iloadn hG dX0_choose_20 rfl ?_
      obtain ⟨r10, h9, hE⟩ := fb_some hE
      refine pm_callV (As := [.int zb, .int zc]) (rest := []) hG hR dX0_choose_21 (lkX0_128 _ rfl) okV_X0_keepIfBetter rfl rfl (c_X0_keepIfBetter (d := 5) (by decide) h9) rfl rfl hdd (Nat.le_refl _) (Nat.le_refl _) (by decide) (fx_kv ?_)
      refine pm_iloadn hG dX0_choose_24 rfl ?_
      refine pm_bipush (v := 9) hG dX0_choose_25 (by decide) ?_
      refine pm_icmp_ge (tgt := 105) hG dX0_choose_27 rfl (fun q => absurd q (by decide)) (fun _ => ?_)
      refine pm_aloadn hG dX0_choose_30 rfl ?_
      refine pm_getf hG dX0_choose_31 (flX0_36 _ rfl) rfl rfl ?_
      refine pm_iloadn hG dX0_choose_34 rfl ?_
      refine pm_callV (As := [.int 6]) (rest := []) hG hR dX0_choose_35 (lkX0_131 _ rfl) okV_X9_has rfl rfl (thas_34 (d := 5)) rfl rfl hdd (Nat.le_refl _) (Nat.le_refl _) (by decide) (fx_ki ?_)
      refine pm_if_eq (tgt := 105) hG dX0_choose_38 rfl (fun c11 => ?_) (fun c11 => ?_)
      · replace hE := fx_t c11 hE
        exact pm_vret hG hF dX0_choose_105 rfl (Nat.le_refl _) (Nat.le_refl _) (fx_rvc hE)
      · replace hE := fx_f c11 hE
        refine pm_aloadn hG dX0_choose_41 rfl ?_
        refine pm_getf hG dX0_choose_42 (flX0_36 _ rfl) rfl rfl ?_
        refine pm_iloadn hG dX0_choose_45 rfl ?_
        refine pm_iconst (v := 0) hG dX0_choose_46 (by decide) ?_
        refine pm_callV (As := [.int 6, .int 0]) (rest := []) hG hR dX0_choose_47 (lkX0_39 _ rfl) okV_X9_get rfl rfl (tget_34 (d := 5)) rfl rfl hdd (Nat.le_refl _) (Nat.le_refl _) (by decide) (fx_ki ?_)
        refine fx_letv hE (fun x12 hE => ?_)
        refine pm_istoreXi (loc' := [some (.ref (B + 31)), some (.int 6), some (.int zb), some (.int zc), some (.int zd), some (.int x12)]) hG dX0_choose_50 (by decide) (pm_c1b rfl) rfl ?_
        refine pm_aloadn hG dX0_choose_52 rfl ?_
        refine pm_iloadn hG dX0_choose_53 rfl ?_
        refine pm_iconst (v := 1) hG dX0_choose_54 (by decide) ?_
        refine pm_iadd hG dX0_choose_55 ?_
        refine pm_top (v := 7) (by decide) ?_
        refine pm_iloadn hG dX0_choose_56 rfl ?_
        refine pm_iloadn hG dX0_choose_57 rfl ?_
        refine pm_iloadi hG dX0_choose_58 rfl ?_
        obtain ⟨r14, h13, hE⟩ := fb_some hE
        refine pm_callV (As := [.int 7, .int zb, .int zc, .int zd]) (rest := []) hG hR dX0_choose_60 (lkX0_121 _ rfl) okV_X0_choose rfl rfl (c_X0_choose_k7 (d := 5) (by decide) h13) rfl rfl hdd (Nat.le_refl _) (Nat.le_refl _) (by decide) (fx_kv ?_)
        refine pm_aloadn hG dX0_choose_63 rfl ?_
        refine pm_iloadn hG dX0_choose_64 rfl ?_
        refine pm_iconst (v := 1) hG dX0_choose_65 (by decide) ?_
        refine pm_iadd hG dX0_choose_66 ?_
        refine pm_top (v := 7) (by decide) ?_
        refine pm_iloadn hG dX0_choose_67 rfl ?_
        refine pm_iconst (v := 1) hG dX0_choose_68 (by decide) ?_
        refine pm_iloadi hG dX0_choose_69 rfl ?_
        refine pm_ishl hG dX0_choose_71 ?_
        refine pm_ior hG dX0_choose_72 ?_
        refine pm_iloadn hG dX0_choose_73 rfl ?_
        refine pm_aloadn hG dX0_choose_74 rfl ?_
        refine pm_getf hG dX0_choose_75 (flX0_9 _ rfl) rfl rfl ?_
        refine pm_getf hG dX0_choose_78 (flX0_63 _ rfl) rfl rfl ?_
        refine pm_iloadi hG dX0_choose_81 rfl ?_
        refine pm_bipush (v := 12) hG dX0_choose_83 (by decide) ?_
        refine pm_callV (As := [.int x12, .int 12]) (rest := [.int zc, .int (zb ||| ((1 : Int32) <<< (x12 &&& 31))), .int 7, .ref (B + 31)]) hG hR dX0_choose_85 (lkX0_39 _ rfl) okV_X9_get rfl rfl (tget_6 (d := 5)) rfl rfl hdd (Nat.le_refl _) (Nat.le_refl _) (by first | decide | exact Nat.le_of_ble_eq_true rfl) (fx_ki ?_)
        refine pm_iadd hG dX0_choose_88 ?_
        refine pm_iloadi hG dX0_choose_89 rfl ?_
        refine pm_aloadn hG dX0_choose_91 rfl ?_
        refine pm_getf hG dX0_choose_92 (flX0_33 _ rfl) rfl rfl ?_
        refine pm_iloadi hG dX0_choose_95 rfl ?_
        refine pm_iconst (v := 0) hG dX0_choose_97 (by decide) ?_
        refine pm_callV (As := [.int x12, .int 0]) (rest := [.int zd, .int (zc + (fG 6 20 14 r14.2 x12 12)), .int (zb ||| ((1 : Int32) <<< (x12 &&& 31))), .int 7, .ref (B + 31)]) hG hR dX0_choose_98 (lkX0_39 _ rfl) okV_X9_get rfl rfl (tget_32 (d := 5)) rfl rfl hdd (Nat.le_refl _) (Nat.le_refl _) (by first | decide | exact Nat.le_of_ble_eq_true rfl) (fx_ki ?_)
        refine pm_iadd hG dX0_choose_101 ?_
        obtain ⟨r16, h15, hE⟩ := fb_some hE
        refine pm_callV (As := [.int 7, .int (zb ||| ((1 : Int32) <<< (x12 &&& 31))), .int (zc + (fG 6 20 14 r14.2 x12 12)), .int (zd + (fG 32 20 1 r14.2 x12 0))]) (rest := []) hG hR dX0_choose_102 (lkX0_121 _ rfl) okV_X0_choose rfl rfl (c_X0_choose_k7 (d := 5) (by decide) h15) rfl rfl hdd (Nat.le_refl _) (Nat.le_refl _) (by decide) (fx_kv ?_)
        exact pm_vret hG hF dX0_choose_105 rfl (Nat.le_refl _) (Nat.le_refl _) (fx_rvc hE)
  · replace c1 := Int32.not_le.mp c1
    replace hE := fx_t c1 hE
    exact pm_vret hG hF dX0_choose_8 rfl (Nat.le_refl _) (Nat.le_refl _) (fx_rvc hE)

set_option maxRecDepth 100000 in
set_option maxHeartbeats 4000000 in
theorem c_X0_choose_k5 {d : Nat} {B cnt : Nat} {kp : Value} {ρ : pm_S} {S : FS} {zb : Int32} {zc : Int32} {zd : Int32} {R : Int32 × FS} (hdd : 7 ≤ d) (hE : f_X0_choose_k5 S zb zc zd = some R) : pm_met mX0_choose d 0 0 B [.ref (B + 31), .int 5, .int zb, .int zc, .int zd] cnt (cst B kp S ρ) (pm_Qv (fun σ' cnt' => σ' = (cst B kp R.2 ρ) ∧ cnt' = cnt)) := by
  refine pm_enter 1 (by decide) (Nat.le_of_ble_eq_true rfl) rfl (fun G hG hR hF => ?_)
  unfold f_X0_choose_k5 at hE
  refine pm_iloadn hG dX0_choose_0 rfl ?_
  refine pm_aloadn hG dX0_choose_1 rfl ?_
  refine pm_getf hG dX0_choose_2 (flX0_115 _ rfl) rfl rfl ?_
  refine pm_icmp_le (tgt := 9) hG dX0_choose_5 rfl (fun c1 => ?_) (fun c1 => ?_)
  · replace c1 := Int32.not_lt.mpr c1
    replace hE := fx_f c1 hE
    refine pm_aloadn hG dX0_choose_9 rfl ?_
    refine pm_iloadi hG dX0_choose_10 rfl ?_
    refine pm_callV (As := [.int zd]) (rest := []) hG hR dX0_choose_12 (lkX0_125 _ rfl) okV_X0_isCarriedWith rfl rfl (c_X0_isCarriedWith (d := 6) (by decide) rfl) rfl rfl hdd (Nat.le_refl _) (Nat.le_refl _) (by decide) (fx_ki ?_)
    refine pm_if_eq (tgt := 24) hG dX0_choose_15 rfl (fun c2 => ?_) (fun c2 => ?_)
    · replace hE := fx_t c2 hE
      refine pm_iloadn hG dX0_choose_24 rfl ?_
      refine pm_bipush (v := 9) hG dX0_choose_25 (by decide) ?_
      refine pm_icmp_ge (tgt := 105) hG dX0_choose_27 rfl (fun q => absurd q (by decide)) (fun _ => ?_)
      refine pm_aloadn hG dX0_choose_30 rfl ?_
      refine pm_getf hG dX0_choose_31 (flX0_36 _ rfl) rfl rfl ?_
      refine pm_iloadn hG dX0_choose_34 rfl ?_
      refine pm_callV (As := [.int 5]) (rest := []) hG hR dX0_choose_35 (lkX0_131 _ rfl) okV_X9_has rfl rfl (thas_34 (d := 6)) rfl rfl hdd (Nat.le_refl _) (Nat.le_refl _) (by decide) (fx_ki ?_)
      refine pm_if_eq (tgt := 105) hG dX0_choose_38 rfl (fun c3 => ?_) (fun c3 => ?_)
      · replace hE := fx_t c3 hE
        exact pm_vret hG hF dX0_choose_105 rfl (Nat.le_refl _) (Nat.le_refl _) (fx_rvc hE)
      · replace hE := fx_f c3 hE
        refine pm_aloadn hG dX0_choose_41 rfl ?_
        refine pm_getf hG dX0_choose_42 (flX0_36 _ rfl) rfl rfl ?_
        refine pm_iloadn hG dX0_choose_45 rfl ?_
        refine pm_iconst (v := 0) hG dX0_choose_46 (by decide) ?_
        refine pm_callV (As := [.int 5, .int 0]) (rest := []) hG hR dX0_choose_47 (lkX0_39 _ rfl) okV_X9_get rfl rfl (tget_34 (d := 6)) rfl rfl hdd (Nat.le_refl _) (Nat.le_refl _) (by decide) (fx_ki ?_)
        refine fx_letv hE (fun x4 hE => ?_)
        refine pm_istoreXi (loc' := [some (.ref (B + 31)), some (.int 5), some (.int zb), some (.int zc), some (.int zd), some (.int x4)]) hG dX0_choose_50 (by decide) (pm_c1b rfl) rfl ?_
        refine pm_aloadn hG dX0_choose_52 rfl ?_
        refine pm_iloadn hG dX0_choose_53 rfl ?_
        refine pm_iconst (v := 1) hG dX0_choose_54 (by decide) ?_
        refine pm_iadd hG dX0_choose_55 ?_
        refine pm_top (v := 6) (by decide) ?_
        refine pm_iloadn hG dX0_choose_56 rfl ?_
        refine pm_iloadn hG dX0_choose_57 rfl ?_
        refine pm_iloadi hG dX0_choose_58 rfl ?_
        obtain ⟨r6, h5, hE⟩ := fb_some hE
        refine pm_callV (As := [.int 6, .int zb, .int zc, .int zd]) (rest := []) hG hR dX0_choose_60 (lkX0_121 _ rfl) okV_X0_choose rfl rfl (c_X0_choose_k6 (d := 6) (by decide) h5) rfl rfl hdd (Nat.le_refl _) (Nat.le_refl _) (by decide) (fx_kv ?_)
        refine pm_aloadn hG dX0_choose_63 rfl ?_
        refine pm_iloadn hG dX0_choose_64 rfl ?_
        refine pm_iconst (v := 1) hG dX0_choose_65 (by decide) ?_
        refine pm_iadd hG dX0_choose_66 ?_
        refine pm_top (v := 6) (by decide) ?_
        refine pm_iloadn hG dX0_choose_67 rfl ?_
        refine pm_iconst (v := 1) hG dX0_choose_68 (by decide) ?_
        refine pm_iloadi hG dX0_choose_69 rfl ?_
        refine pm_ishl hG dX0_choose_71 ?_
        refine pm_ior hG dX0_choose_72 ?_
        refine pm_iloadn hG dX0_choose_73 rfl ?_
        refine pm_aloadn hG dX0_choose_74 rfl ?_
        refine pm_getf hG dX0_choose_75 (flX0_9 _ rfl) rfl rfl ?_
        refine pm_getf hG dX0_choose_78 (flX0_63 _ rfl) rfl rfl ?_
        refine pm_iloadi hG dX0_choose_81 rfl ?_
        refine pm_bipush (v := 12) hG dX0_choose_83 (by decide) ?_
        refine pm_callV (As := [.int x4, .int 12]) (rest := [.int zc, .int (zb ||| ((1 : Int32) <<< (x4 &&& 31))), .int 6, .ref (B + 31)]) hG hR dX0_choose_85 (lkX0_39 _ rfl) okV_X9_get rfl rfl (tget_6 (d := 6)) rfl rfl hdd (Nat.le_refl _) (Nat.le_refl _) (by first | decide | exact Nat.le_of_ble_eq_true rfl) (fx_ki ?_)
        refine pm_iadd hG dX0_choose_88 ?_
        refine pm_iloadi hG dX0_choose_89 rfl ?_
        refine pm_aloadn hG dX0_choose_91 rfl ?_
        refine pm_getf hG dX0_choose_92 (flX0_33 _ rfl) rfl rfl ?_
        refine pm_iloadi hG dX0_choose_95 rfl ?_
        refine pm_iconst (v := 0) hG dX0_choose_97 (by decide) ?_
        refine pm_callV (As := [.int x4, .int 0]) (rest := [.int zd, .int (zc + (fG 6 20 14 r6.2 x4 12)), .int (zb ||| ((1 : Int32) <<< (x4 &&& 31))), .int 6, .ref (B + 31)]) hG hR dX0_choose_98 (lkX0_39 _ rfl) okV_X9_get rfl rfl (tget_32 (d := 6)) rfl rfl hdd (Nat.le_refl _) (Nat.le_refl _) (by first | decide | exact Nat.le_of_ble_eq_true rfl) (fx_ki ?_)
        refine pm_iadd hG dX0_choose_101 ?_
        obtain ⟨r8, h7, hE⟩ := fb_some hE
        refine pm_callV (As := [.int 6, .int (zb ||| ((1 : Int32) <<< (x4 &&& 31))), .int (zc + (fG 6 20 14 r6.2 x4 12)), .int (zd + (fG 32 20 1 r6.2 x4 0))]) (rest := []) hG hR dX0_choose_102 (lkX0_121 _ rfl) okV_X0_choose rfl rfl (c_X0_choose_k6 (d := 6) (by decide) h7) rfl rfl hdd (Nat.le_refl _) (Nat.le_refl _) (by decide) (fx_kv ?_)
        exact pm_vret hG hF dX0_choose_105 rfl (Nat.le_refl _) (Nat.le_refl _) (fx_rvc hE)
    · replace hE := fx_f c2 hE
      refine pm_aloadn hG dX0_choose_18 rfl ?_
      refine pm_iloadn hG dX0_choose_19 rfl ?_
      refine pm_iloadn hG dX0_choose_20 rfl ?_
      obtain ⟨r10, h9, hE⟩ := fb_some hE
      refine pm_callV (As := [.int zb, .int zc]) (rest := []) hG hR dX0_choose_21 (lkX0_128 _ rfl) okV_X0_keepIfBetter rfl rfl (c_X0_keepIfBetter (d := 6) (by decide) h9) rfl rfl hdd (Nat.le_refl _) (Nat.le_refl _) (by decide) (fx_kv ?_)
      refine pm_iloadn hG dX0_choose_24 rfl ?_
      refine pm_bipush (v := 9) hG dX0_choose_25 (by decide) ?_
      refine pm_icmp_ge (tgt := 105) hG dX0_choose_27 rfl (fun q => absurd q (by decide)) (fun _ => ?_)
      refine pm_aloadn hG dX0_choose_30 rfl ?_
      refine pm_getf hG dX0_choose_31 (flX0_36 _ rfl) rfl rfl ?_
      refine pm_iloadn hG dX0_choose_34 rfl ?_
      refine pm_callV (As := [.int 5]) (rest := []) hG hR dX0_choose_35 (lkX0_131 _ rfl) okV_X9_has rfl rfl (thas_34 (d := 6)) rfl rfl hdd (Nat.le_refl _) (Nat.le_refl _) (by decide) (fx_ki ?_)
      refine pm_if_eq (tgt := 105) hG dX0_choose_38 rfl (fun c11 => ?_) (fun c11 => ?_)
      · replace hE := fx_t c11 hE
        exact pm_vret hG hF dX0_choose_105 rfl (Nat.le_refl _) (Nat.le_refl _) (fx_rvc hE)
      · replace hE := fx_f c11 hE
        refine pm_aloadn hG dX0_choose_41 rfl ?_
        refine pm_getf hG dX0_choose_42 (flX0_36 _ rfl) rfl rfl ?_
        refine pm_iloadn hG dX0_choose_45 rfl ?_
        refine pm_iconst (v := 0) hG dX0_choose_46 (by decide) ?_
        refine pm_callV (As := [.int 5, .int 0]) (rest := []) hG hR dX0_choose_47 (lkX0_39 _ rfl) okV_X9_get rfl rfl (tget_34 (d := 6)) rfl rfl hdd (Nat.le_refl _) (Nat.le_refl _) (by decide) (fx_ki ?_)
        refine fx_letv hE (fun x12 hE => ?_)
        refine pm_istoreXi (loc' := [some (.ref (B + 31)), some (.int 5), some (.int zb), some (.int zc), some (.int zd), some (.int x12)]) hG dX0_choose_50 (by decide) (pm_c1b rfl) rfl ?_
        refine pm_aloadn hG dX0_choose_52 rfl ?_
        refine pm_iloadn hG dX0_choose_53 rfl ?_
        refine pm_iconst (v := 1) hG dX0_choose_54 (by decide) ?_
        refine pm_iadd hG dX0_choose_55 ?_
        refine pm_top (v := 6) (by decide) ?_
        refine pm_iloadn hG dX0_choose_56 rfl ?_
        refine pm_iloadn hG dX0_choose_57 rfl ?_
        refine pm_iloadi hG dX0_choose_58 rfl ?_
        obtain ⟨r14, h13, hE⟩ := fb_some hE
        refine pm_callV (As := [.int 6, .int zb, .int zc, .int zd]) (rest := []) hG hR dX0_choose_60 (lkX0_121 _ rfl) okV_X0_choose rfl rfl (c_X0_choose_k6 (d := 6) (by decide) h13) rfl rfl hdd (Nat.le_refl _) (Nat.le_refl _) (by decide) (fx_kv ?_)
        refine pm_aloadn hG dX0_choose_63 rfl ?_
        refine pm_iloadn hG dX0_choose_64 rfl ?_
        refine pm_iconst (v := 1) hG dX0_choose_65 (by decide) ?_
        refine pm_iadd hG dX0_choose_66 ?_
        refine pm_top (v := 6) (by decide) ?_
        refine pm_iloadn hG dX0_choose_67 rfl ?_
        refine pm_iconst (v := 1) hG dX0_choose_68 (by decide) ?_
        refine pm_iloadi hG dX0_choose_69 rfl ?_
        refine pm_ishl hG dX0_choose_71 ?_
        refine pm_ior hG dX0_choose_72 ?_
        refine pm_iloadn hG dX0_choose_73 rfl ?_
        refine pm_aloadn hG dX0_choose_74 rfl ?_
        refine pm_getf hG dX0_choose_75 (flX0_9 _ rfl) rfl rfl ?_
        refine pm_getf hG dX0_choose_78 (flX0_63 _ rfl) rfl rfl ?_
        refine pm_iloadi hG dX0_choose_81 rfl ?_
        refine pm_bipush (v := 12) hG dX0_choose_83 (by decide) ?_
        refine pm_callV (As := [.int x12, .int 12]) (rest := [.int zc, .int (zb ||| ((1 : Int32) <<< (x12 &&& 31))), .int 6, .ref (B + 31)]) hG hR dX0_choose_85 (lkX0_39 _ rfl) okV_X9_get rfl rfl (tget_6 (d := 6)) rfl rfl hdd (Nat.le_refl _) (Nat.le_refl _) (by first | decide | exact Nat.le_of_ble_eq_true rfl) (fx_ki ?_)
        refine pm_iadd hG dX0_choose_88 ?_
        refine pm_iloadi hG dX0_choose_89 rfl ?_
        refine pm_aloadn hG dX0_choose_91 rfl ?_
        refine pm_getf hG dX0_choose_92 (flX0_33 _ rfl) rfl rfl ?_
        refine pm_iloadi hG dX0_choose_95 rfl ?_
        refine pm_iconst (v := 0) hG dX0_choose_97 (by decide) ?_
        refine pm_callV (As := [.int x12, .int 0]) (rest := [.int zd, .int (zc + (fG 6 20 14 r14.2 x12 12)), .int (zb ||| ((1 : Int32) <<< (x12 &&& 31))), .int 6, .ref (B + 31)]) hG hR dX0_choose_98 (lkX0_39 _ rfl) okV_X9_get rfl rfl (tget_32 (d := 6)) rfl rfl hdd (Nat.le_refl _) (Nat.le_refl _) (by first | decide | exact Nat.le_of_ble_eq_true rfl) (fx_ki ?_)
        refine pm_iadd hG dX0_choose_101 ?_
        obtain ⟨r16, h15, hE⟩ := fb_some hE
        refine pm_callV (As := [.int 6, .int (zb ||| ((1 : Int32) <<< (x12 &&& 31))), .int (zc + (fG 6 20 14 r14.2 x12 12)), .int (zd + (fG 32 20 1 r14.2 x12 0))]) (rest := []) hG hR dX0_choose_102 (lkX0_121 _ rfl) okV_X0_choose rfl rfl (c_X0_choose_k6 (d := 6) (by decide) h15) rfl rfl hdd (Nat.le_refl _) (Nat.le_refl _) (by decide) (fx_kv ?_)
        exact pm_vret hG hF dX0_choose_105 rfl (Nat.le_refl _) (Nat.le_refl _) (fx_rvc hE)
  · replace c1 := Int32.not_le.mp c1
    replace hE := fx_t c1 hE
    exact pm_vret hG hF dX0_choose_8 rfl (Nat.le_refl _) (Nat.le_refl _) (fx_rvc hE)

set_option maxRecDepth 100000 in
set_option maxHeartbeats 4000000 in
theorem c_X0_choose_k4 {d : Nat} {B cnt : Nat} {kp : Value} {ρ : pm_S} {S : FS} {zb : Int32} {zc : Int32} {zd : Int32} {R : Int32 × FS} (hdd : 8 ≤ d) (hE : f_X0_choose_k4 S zb zc zd = some R) : pm_met mX0_choose d 0 0 B [.ref (B + 31), .int 4, .int zb, .int zc, .int zd] cnt (cst B kp S ρ) (pm_Qv (fun σ' cnt' => σ' = (cst B kp R.2 ρ) ∧ cnt' = cnt)) := by
  refine pm_enter 1 (by decide) (Nat.le_of_ble_eq_true rfl) rfl (fun G hG hR hF => ?_)
  unfold f_X0_choose_k4 at hE
  refine pm_iloadn hG dX0_choose_0 rfl ?_
  refine pm_aloadn hG dX0_choose_1 rfl ?_
  refine pm_getf hG dX0_choose_2 (flX0_115 _ rfl) rfl rfl ?_
  refine pm_icmp_le (tgt := 9) hG dX0_choose_5 rfl (fun c1 => ?_) (fun c1 => ?_)
  · replace c1 := Int32.not_lt.mpr c1
    replace hE := fx_f c1 hE
    refine pm_aloadn hG dX0_choose_9 rfl ?_
    refine pm_iloadi hG dX0_choose_10 rfl ?_
    refine pm_callV (As := [.int zd]) (rest := []) hG hR dX0_choose_12 (lkX0_125 _ rfl) okV_X0_isCarriedWith rfl rfl (c_X0_isCarriedWith (d := 7) (by decide) rfl) rfl rfl hdd (Nat.le_refl _) (Nat.le_refl _) (by decide) (fx_ki ?_)
    refine pm_if_eq (tgt := 24) hG dX0_choose_15 rfl (fun c2 => ?_) (fun c2 => ?_)
    · replace hE := fx_t c2 hE
      refine pm_iloadn hG dX0_choose_24 rfl ?_
      refine pm_bipush (v := 9) hG dX0_choose_25 (by decide) ?_
      refine pm_icmp_ge (tgt := 105) hG dX0_choose_27 rfl (fun q => absurd q (by decide)) (fun _ => ?_)
      refine pm_aloadn hG dX0_choose_30 rfl ?_
      refine pm_getf hG dX0_choose_31 (flX0_36 _ rfl) rfl rfl ?_
      refine pm_iloadn hG dX0_choose_34 rfl ?_
      refine pm_callV (As := [.int 4]) (rest := []) hG hR dX0_choose_35 (lkX0_131 _ rfl) okV_X9_has rfl rfl (thas_34 (d := 7)) rfl rfl hdd (Nat.le_refl _) (Nat.le_refl _) (by decide) (fx_ki ?_)
      refine pm_if_eq (tgt := 105) hG dX0_choose_38 rfl (fun c3 => ?_) (fun c3 => ?_)
      · replace hE := fx_t c3 hE
        exact pm_vret hG hF dX0_choose_105 rfl (Nat.le_refl _) (Nat.le_refl _) (fx_rvc hE)
      · replace hE := fx_f c3 hE
        refine pm_aloadn hG dX0_choose_41 rfl ?_
        refine pm_getf hG dX0_choose_42 (flX0_36 _ rfl) rfl rfl ?_
        refine pm_iloadn hG dX0_choose_45 rfl ?_
        refine pm_iconst (v := 0) hG dX0_choose_46 (by decide) ?_
        refine pm_callV (As := [.int 4, .int 0]) (rest := []) hG hR dX0_choose_47 (lkX0_39 _ rfl) okV_X9_get rfl rfl (tget_34 (d := 7)) rfl rfl hdd (Nat.le_refl _) (Nat.le_refl _) (by decide) (fx_ki ?_)
        refine fx_letv hE (fun x4 hE => ?_)
        refine pm_istoreXi (loc' := [some (.ref (B + 31)), some (.int 4), some (.int zb), some (.int zc), some (.int zd), some (.int x4)]) hG dX0_choose_50 (by decide) (pm_c1b rfl) rfl ?_
        refine pm_aloadn hG dX0_choose_52 rfl ?_
        refine pm_iloadn hG dX0_choose_53 rfl ?_
        refine pm_iconst (v := 1) hG dX0_choose_54 (by decide) ?_
        refine pm_iadd hG dX0_choose_55 ?_
        refine pm_top (v := 5) (by decide) ?_
        refine pm_iloadn hG dX0_choose_56 rfl ?_
        refine pm_iloadn hG dX0_choose_57 rfl ?_
        refine pm_iloadi hG dX0_choose_58 rfl ?_
        obtain ⟨r6, h5, hE⟩ := fb_some hE
        refine pm_callV (As := [.int 5, .int zb, .int zc, .int zd]) (rest := []) hG hR dX0_choose_60 (lkX0_121 _ rfl) okV_X0_choose rfl rfl (c_X0_choose_k5 (d := 7) (by decide) h5) rfl rfl hdd (Nat.le_refl _) (Nat.le_refl _) (by decide) (fx_kv ?_)
        refine pm_aloadn hG dX0_choose_63 rfl ?_
        refine pm_iloadn hG dX0_choose_64 rfl ?_
        refine pm_iconst (v := 1) hG dX0_choose_65 (by decide) ?_
        refine pm_iadd hG dX0_choose_66 ?_
        refine pm_top (v := 5) (by decide) ?_
        refine pm_iloadn hG dX0_choose_67 rfl ?_
        refine pm_iconst (v := 1) hG dX0_choose_68 (by decide) ?_
        refine pm_iloadi hG dX0_choose_69 rfl ?_
        refine pm_ishl hG dX0_choose_71 ?_
        refine pm_ior hG dX0_choose_72 ?_
        refine pm_iloadn hG dX0_choose_73 rfl ?_
        refine pm_aloadn hG dX0_choose_74 rfl ?_
        refine pm_getf hG dX0_choose_75 (flX0_9 _ rfl) rfl rfl ?_
        refine pm_getf hG dX0_choose_78 (flX0_63 _ rfl) rfl rfl ?_
        refine pm_iloadi hG dX0_choose_81 rfl ?_
        refine pm_bipush (v := 12) hG dX0_choose_83 (by decide) ?_
        refine pm_callV (As := [.int x4, .int 12]) (rest := [.int zc, .int (zb ||| ((1 : Int32) <<< (x4 &&& 31))), .int 5, .ref (B + 31)]) hG hR dX0_choose_85 (lkX0_39 _ rfl) okV_X9_get rfl rfl (tget_6 (d := 7)) rfl rfl hdd (Nat.le_refl _) (Nat.le_refl _) (by first | decide | exact Nat.le_of_ble_eq_true rfl) (fx_ki ?_)
        refine pm_iadd hG dX0_choose_88 ?_
        refine pm_iloadi hG dX0_choose_89 rfl ?_
        refine pm_aloadn hG dX0_choose_91 rfl ?_
        refine pm_getf hG dX0_choose_92 (flX0_33 _ rfl) rfl rfl ?_
        refine pm_iloadi hG dX0_choose_95 rfl ?_
        refine pm_iconst (v := 0) hG dX0_choose_97 (by decide) ?_
        refine pm_callV (As := [.int x4, .int 0]) (rest := [.int zd, .int (zc + (fG 6 20 14 r6.2 x4 12)), .int (zb ||| ((1 : Int32) <<< (x4 &&& 31))), .int 5, .ref (B + 31)]) hG hR dX0_choose_98 (lkX0_39 _ rfl) okV_X9_get rfl rfl (tget_32 (d := 7)) rfl rfl hdd (Nat.le_refl _) (Nat.le_refl _) (by first | decide | exact Nat.le_of_ble_eq_true rfl) (fx_ki ?_)
        refine pm_iadd hG dX0_choose_101 ?_
        obtain ⟨r8, h7, hE⟩ := fb_some hE
        refine pm_callV (As := [.int 5, .int (zb ||| ((1 : Int32) <<< (x4 &&& 31))), .int (zc + (fG 6 20 14 r6.2 x4 12)), .int (zd + (fG 32 20 1 r6.2 x4 0))]) (rest := []) hG hR dX0_choose_102 (lkX0_121 _ rfl) okV_X0_choose rfl rfl (c_X0_choose_k5 (d := 7) (by decide) h7) rfl rfl hdd (Nat.le_refl _) (Nat.le_refl _) (by decide) (fx_kv ?_)
        exact pm_vret hG hF dX0_choose_105 rfl (Nat.le_refl _) (Nat.le_refl _) (fx_rvc hE)
    · replace hE := fx_f c2 hE
      refine pm_aloadn hG dX0_choose_18 rfl ?_
      refine pm_iloadn hG dX0_choose_19 rfl ?_
      refine pm_iloadn hG dX0_choose_20 rfl ?_
      obtain ⟨r10, h9, hE⟩ := fb_some hE
      refine pm_callV (As := [.int zb, .int zc]) (rest := []) hG hR dX0_choose_21 (lkX0_128 _ rfl) okV_X0_keepIfBetter rfl rfl (c_X0_keepIfBetter (d := 7) (by decide) h9) rfl rfl hdd (Nat.le_refl _) (Nat.le_refl _) (by decide) (fx_kv ?_)
      refine pm_iloadn hG dX0_choose_24 rfl ?_
      refine pm_bipush (v := 9) hG dX0_choose_25 (by decide) ?_
      refine pm_icmp_ge (tgt := 105) hG dX0_choose_27 rfl (fun q => absurd q (by decide)) (fun _ => ?_)
      refine pm_aloadn hG dX0_choose_30 rfl ?_
      refine pm_getf hG dX0_choose_31 (flX0_36 _ rfl) rfl rfl ?_
      refine pm_iloadn hG dX0_choose_34 rfl ?_
      refine pm_callV (As := [.int 4]) (rest := []) hG hR dX0_choose_35 (lkX0_131 _ rfl) okV_X9_has rfl rfl (thas_34 (d := 7)) rfl rfl hdd (Nat.le_refl _) (Nat.le_refl _) (by decide) (fx_ki ?_)
      refine pm_if_eq (tgt := 105) hG dX0_choose_38 rfl (fun c11 => ?_) (fun c11 => ?_)
      · replace hE := fx_t c11 hE
        exact pm_vret hG hF dX0_choose_105 rfl (Nat.le_refl _) (Nat.le_refl _) (fx_rvc hE)
      · replace hE := fx_f c11 hE
        refine pm_aloadn hG dX0_choose_41 rfl ?_
        refine pm_getf hG dX0_choose_42 (flX0_36 _ rfl) rfl rfl ?_
        refine pm_iloadn hG dX0_choose_45 rfl ?_
        refine pm_iconst (v := 0) hG dX0_choose_46 (by decide) ?_
        refine pm_callV (As := [.int 4, .int 0]) (rest := []) hG hR dX0_choose_47 (lkX0_39 _ rfl) okV_X9_get rfl rfl (tget_34 (d := 7)) rfl rfl hdd (Nat.le_refl _) (Nat.le_refl _) (by decide) (fx_ki ?_)
        refine fx_letv hE (fun x12 hE => ?_)
        refine pm_istoreXi (loc' := [some (.ref (B + 31)), some (.int 4), some (.int zb), some (.int zc), some (.int zd), some (.int x12)]) hG dX0_choose_50 (by decide) (pm_c1b rfl) rfl ?_
        refine pm_aloadn hG dX0_choose_52 rfl ?_
        refine pm_iloadn hG dX0_choose_53 rfl ?_
        refine pm_iconst (v := 1) hG dX0_choose_54 (by decide) ?_
        refine pm_iadd hG dX0_choose_55 ?_
        refine pm_top (v := 5) (by decide) ?_
        refine pm_iloadn hG dX0_choose_56 rfl ?_
        refine pm_iloadn hG dX0_choose_57 rfl ?_
        refine pm_iloadi hG dX0_choose_58 rfl ?_
        obtain ⟨r14, h13, hE⟩ := fb_some hE
        refine pm_callV (As := [.int 5, .int zb, .int zc, .int zd]) (rest := []) hG hR dX0_choose_60 (lkX0_121 _ rfl) okV_X0_choose rfl rfl (c_X0_choose_k5 (d := 7) (by decide) h13) rfl rfl hdd (Nat.le_refl _) (Nat.le_refl _) (by decide) (fx_kv ?_)
        refine pm_aloadn hG dX0_choose_63 rfl ?_
        refine pm_iloadn hG dX0_choose_64 rfl ?_
        refine pm_iconst (v := 1) hG dX0_choose_65 (by decide) ?_
        refine pm_iadd hG dX0_choose_66 ?_
        refine pm_top (v := 5) (by decide) ?_
        refine pm_iloadn hG dX0_choose_67 rfl ?_
        refine pm_iconst (v := 1) hG dX0_choose_68 (by decide) ?_
        refine pm_iloadi hG dX0_choose_69 rfl ?_
        refine pm_ishl hG dX0_choose_71 ?_
        refine pm_ior hG dX0_choose_72 ?_
        refine pm_iloadn hG dX0_choose_73 rfl ?_
        refine pm_aloadn hG dX0_choose_74 rfl ?_
        refine pm_getf hG dX0_choose_75 (flX0_9 _ rfl) rfl rfl ?_
        refine pm_getf hG dX0_choose_78 (flX0_63 _ rfl) rfl rfl ?_
        refine pm_iloadi hG dX0_choose_81 rfl ?_
        refine pm_bipush (v := 12) hG dX0_choose_83 (by decide) ?_
        refine pm_callV (As := [.int x12, .int 12]) (rest := [.int zc, .int (zb ||| ((1 : Int32) <<< (x12 &&& 31))), .int 5, .ref (B + 31)]) hG hR dX0_choose_85 (lkX0_39 _ rfl) okV_X9_get rfl rfl (tget_6 (d := 7)) rfl rfl hdd (Nat.le_refl _) (Nat.le_refl _) (by first | decide | exact Nat.le_of_ble_eq_true rfl) (fx_ki ?_)
        refine pm_iadd hG dX0_choose_88 ?_
        refine pm_iloadi hG dX0_choose_89 rfl ?_
        refine pm_aloadn hG dX0_choose_91 rfl ?_
        refine pm_getf hG dX0_choose_92 (flX0_33 _ rfl) rfl rfl ?_
        refine pm_iloadi hG dX0_choose_95 rfl ?_
        refine pm_iconst (v := 0) hG dX0_choose_97 (by decide) ?_
        refine pm_callV (As := [.int x12, .int 0]) (rest := [.int zd, .int (zc + (fG 6 20 14 r14.2 x12 12)), .int (zb ||| ((1 : Int32) <<< (x12 &&& 31))), .int 5, .ref (B + 31)]) hG hR dX0_choose_98 (lkX0_39 _ rfl) okV_X9_get rfl rfl (tget_32 (d := 7)) rfl rfl hdd (Nat.le_refl _) (Nat.le_refl _) (by first | decide | exact Nat.le_of_ble_eq_true rfl) (fx_ki ?_)
        refine pm_iadd hG dX0_choose_101 ?_
        obtain ⟨r16, h15, hE⟩ := fb_some hE
        refine pm_callV (As := [.int 5, .int (zb ||| ((1 : Int32) <<< (x12 &&& 31))), .int (zc + (fG 6 20 14 r14.2 x12 12)), .int (zd + (fG 32 20 1 r14.2 x12 0))]) (rest := []) hG hR dX0_choose_102 (lkX0_121 _ rfl) okV_X0_choose rfl rfl (c_X0_choose_k5 (d := 7) (by decide) h15) rfl rfl hdd (Nat.le_refl _) (Nat.le_refl _) (by decide) (fx_kv ?_)
        exact pm_vret hG hF dX0_choose_105 rfl (Nat.le_refl _) (Nat.le_refl _) (fx_rvc hE)
  · replace c1 := Int32.not_le.mp c1
    replace hE := fx_t c1 hE
    exact pm_vret hG hF dX0_choose_8 rfl (Nat.le_refl _) (Nat.le_refl _) (fx_rvc hE)

set_option maxRecDepth 100000 in
set_option maxHeartbeats 4000000 in
theorem c_X0_choose_k3 {d : Nat} {B cnt : Nat} {kp : Value} {ρ : pm_S} {S : FS} {zb : Int32} {zc : Int32} {zd : Int32} {R : Int32 × FS} (hdd : 9 ≤ d) (hE : f_X0_choose_k3 S zb zc zd = some R) : pm_met mX0_choose d 0 0 B [.ref (B + 31), .int 3, .int zb, .int zc, .int zd] cnt (cst B kp S ρ) (pm_Qv (fun σ' cnt' => σ' = (cst B kp R.2 ρ) ∧ cnt' = cnt)) := by
  refine pm_enter 1 (by decide) (Nat.le_of_ble_eq_true rfl) rfl (fun G hG hR hF => ?_)
  unfold f_X0_choose_k3 at hE
  refine pm_iloadn hG dX0_choose_0 rfl ?_
  refine pm_aloadn hG dX0_choose_1 rfl ?_
  refine pm_getf hG dX0_choose_2 (flX0_115 _ rfl) rfl rfl ?_
  refine pm_icmp_le (tgt := 9) hG dX0_choose_5 rfl (fun c1 => ?_) (fun c1 => ?_)
  · replace c1 := Int32.not_lt.mpr c1
    replace hE := fx_f c1 hE
    refine pm_aloadn hG dX0_choose_9 rfl ?_
    refine pm_iloadi hG dX0_choose_10 rfl ?_
    refine pm_callV (As := [.int zd]) (rest := []) hG hR dX0_choose_12 (lkX0_125 _ rfl) okV_X0_isCarriedWith rfl rfl (c_X0_isCarriedWith (d := 8) (by decide) rfl) rfl rfl hdd (Nat.le_refl _) (Nat.le_refl _) (by decide) (fx_ki ?_)
    refine pm_if_eq (tgt := 24) hG dX0_choose_15 rfl (fun c2 => ?_) (fun c2 => ?_)
    · replace hE := fx_t c2 hE
      refine pm_iloadn hG dX0_choose_24 rfl ?_
      refine pm_bipush (v := 9) hG dX0_choose_25 (by decide) ?_
      refine pm_icmp_ge (tgt := 105) hG dX0_choose_27 rfl (fun q => absurd q (by decide)) (fun _ => ?_)
      refine pm_aloadn hG dX0_choose_30 rfl ?_
      refine pm_getf hG dX0_choose_31 (flX0_36 _ rfl) rfl rfl ?_
      refine pm_iloadn hG dX0_choose_34 rfl ?_
      refine pm_callV (As := [.int 3]) (rest := []) hG hR dX0_choose_35 (lkX0_131 _ rfl) okV_X9_has rfl rfl (thas_34 (d := 8)) rfl rfl hdd (Nat.le_refl _) (Nat.le_refl _) (by decide) (fx_ki ?_)
      refine pm_if_eq (tgt := 105) hG dX0_choose_38 rfl (fun c3 => ?_) (fun c3 => ?_)
      · replace hE := fx_t c3 hE
        exact pm_vret hG hF dX0_choose_105 rfl (Nat.le_refl _) (Nat.le_refl _) (fx_rvc hE)
      · replace hE := fx_f c3 hE
        refine pm_aloadn hG dX0_choose_41 rfl ?_
        refine pm_getf hG dX0_choose_42 (flX0_36 _ rfl) rfl rfl ?_
        refine pm_iloadn hG dX0_choose_45 rfl ?_
        refine pm_iconst (v := 0) hG dX0_choose_46 (by decide) ?_
        refine pm_callV (As := [.int 3, .int 0]) (rest := []) hG hR dX0_choose_47 (lkX0_39 _ rfl) okV_X9_get rfl rfl (tget_34 (d := 8)) rfl rfl hdd (Nat.le_refl _) (Nat.le_refl _) (by decide) (fx_ki ?_)
        refine fx_letv hE (fun x4 hE => ?_)
        refine pm_istoreXi (loc' := [some (.ref (B + 31)), some (.int 3), some (.int zb), some (.int zc), some (.int zd), some (.int x4)]) hG dX0_choose_50 (by decide) (pm_c1b rfl) rfl ?_
        refine pm_aloadn hG dX0_choose_52 rfl ?_
        refine pm_iloadn hG dX0_choose_53 rfl ?_
        refine pm_iconst (v := 1) hG dX0_choose_54 (by decide) ?_
        refine pm_iadd hG dX0_choose_55 ?_
        refine pm_top (v := 4) (by decide) ?_
        refine pm_iloadn hG dX0_choose_56 rfl ?_
        refine pm_iloadn hG dX0_choose_57 rfl ?_
        refine pm_iloadi hG dX0_choose_58 rfl ?_
        obtain ⟨r6, h5, hE⟩ := fb_some hE
        refine pm_callV (As := [.int 4, .int zb, .int zc, .int zd]) (rest := []) hG hR dX0_choose_60 (lkX0_121 _ rfl) okV_X0_choose rfl rfl (c_X0_choose_k4 (d := 8) (by decide) h5) rfl rfl hdd (Nat.le_refl _) (Nat.le_refl _) (by decide) (fx_kv ?_)
        refine pm_aloadn hG dX0_choose_63 rfl ?_
        refine pm_iloadn hG dX0_choose_64 rfl ?_
        refine pm_iconst (v := 1) hG dX0_choose_65 (by decide) ?_
        refine pm_iadd hG dX0_choose_66 ?_
        refine pm_top (v := 4) (by decide) ?_
        refine pm_iloadn hG dX0_choose_67 rfl ?_
        refine pm_iconst (v := 1) hG dX0_choose_68 (by decide) ?_
        refine pm_iloadi hG dX0_choose_69 rfl ?_
        refine pm_ishl hG dX0_choose_71 ?_
        refine pm_ior hG dX0_choose_72 ?_
        refine pm_iloadn hG dX0_choose_73 rfl ?_
        refine pm_aloadn hG dX0_choose_74 rfl ?_
        refine pm_getf hG dX0_choose_75 (flX0_9 _ rfl) rfl rfl ?_
        refine pm_getf hG dX0_choose_78 (flX0_63 _ rfl) rfl rfl ?_
        refine pm_iloadi hG dX0_choose_81 rfl ?_
        refine pm_bipush (v := 12) hG dX0_choose_83 (by decide) ?_
        refine pm_callV (As := [.int x4, .int 12]) (rest := [.int zc, .int (zb ||| ((1 : Int32) <<< (x4 &&& 31))), .int 4, .ref (B + 31)]) hG hR dX0_choose_85 (lkX0_39 _ rfl) okV_X9_get rfl rfl (tget_6 (d := 8)) rfl rfl hdd (Nat.le_refl _) (Nat.le_refl _) (by first | decide | exact Nat.le_of_ble_eq_true rfl) (fx_ki ?_)
        refine pm_iadd hG dX0_choose_88 ?_
        refine pm_iloadi hG dX0_choose_89 rfl ?_
        refine pm_aloadn hG dX0_choose_91 rfl ?_
        refine pm_getf hG dX0_choose_92 (flX0_33 _ rfl) rfl rfl ?_
        refine pm_iloadi hG dX0_choose_95 rfl ?_
        refine pm_iconst (v := 0) hG dX0_choose_97 (by decide) ?_
        refine pm_callV (As := [.int x4, .int 0]) (rest := [.int zd, .int (zc + (fG 6 20 14 r6.2 x4 12)), .int (zb ||| ((1 : Int32) <<< (x4 &&& 31))), .int 4, .ref (B + 31)]) hG hR dX0_choose_98 (lkX0_39 _ rfl) okV_X9_get rfl rfl (tget_32 (d := 8)) rfl rfl hdd (Nat.le_refl _) (Nat.le_refl _) (by first | decide | exact Nat.le_of_ble_eq_true rfl) (fx_ki ?_)
        refine pm_iadd hG dX0_choose_101 ?_
        obtain ⟨r8, h7, hE⟩ := fb_some hE
        refine pm_callV (As := [.int 4, .int (zb ||| ((1 : Int32) <<< (x4 &&& 31))), .int (zc + (fG 6 20 14 r6.2 x4 12)), .int (zd + (fG 32 20 1 r6.2 x4 0))]) (rest := []) hG hR dX0_choose_102 (lkX0_121 _ rfl) okV_X0_choose rfl rfl (c_X0_choose_k4 (d := 8) (by decide) h7) rfl rfl hdd (Nat.le_refl _) (Nat.le_refl _) (by decide) (fx_kv ?_)
        exact pm_vret hG hF dX0_choose_105 rfl (Nat.le_refl _) (Nat.le_refl _) (fx_rvc hE)
    · replace hE := fx_f c2 hE
      refine pm_aloadn hG dX0_choose_18 rfl ?_
      refine pm_iloadn hG dX0_choose_19 rfl ?_
      refine pm_iloadn hG dX0_choose_20 rfl ?_
      obtain ⟨r10, h9, hE⟩ := fb_some hE
      refine pm_callV (As := [.int zb, .int zc]) (rest := []) hG hR dX0_choose_21 (lkX0_128 _ rfl) okV_X0_keepIfBetter rfl rfl (c_X0_keepIfBetter (d := 8) (by decide) h9) rfl rfl hdd (Nat.le_refl _) (Nat.le_refl _) (by decide) (fx_kv ?_)
      refine pm_iloadn hG dX0_choose_24 rfl ?_
      refine pm_bipush (v := 9) hG dX0_choose_25 (by decide) ?_
      refine pm_icmp_ge (tgt := 105) hG dX0_choose_27 rfl (fun q => absurd q (by decide)) (fun _ => ?_)
      refine pm_aloadn hG dX0_choose_30 rfl ?_
      refine pm_getf hG dX0_choose_31 (flX0_36 _ rfl) rfl rfl ?_
      refine pm_iloadn hG dX0_choose_34 rfl ?_
      refine pm_callV (As := [.int 3]) (rest := []) hG hR dX0_choose_35 (lkX0_131 _ rfl) okV_X9_has rfl rfl (thas_34 (d := 8)) rfl rfl hdd (Nat.le_refl _) (Nat.le_refl _) (by decide) (fx_ki ?_)
      refine pm_if_eq (tgt := 105) hG dX0_choose_38 rfl (fun c11 => ?_) (fun c11 => ?_)
      · replace hE := fx_t c11 hE
        exact pm_vret hG hF dX0_choose_105 rfl (Nat.le_refl _) (Nat.le_refl _) (fx_rvc hE)
      · replace hE := fx_f c11 hE
        refine pm_aloadn hG dX0_choose_41 rfl ?_
        refine pm_getf hG dX0_choose_42 (flX0_36 _ rfl) rfl rfl ?_
        refine pm_iloadn hG dX0_choose_45 rfl ?_
        refine pm_iconst (v := 0) hG dX0_choose_46 (by decide) ?_
        refine pm_callV (As := [.int 3, .int 0]) (rest := []) hG hR dX0_choose_47 (lkX0_39 _ rfl) okV_X9_get rfl rfl (tget_34 (d := 8)) rfl rfl hdd (Nat.le_refl _) (Nat.le_refl _) (by decide) (fx_ki ?_)
        refine fx_letv hE (fun x12 hE => ?_)
        refine pm_istoreXi (loc' := [some (.ref (B + 31)), some (.int 3), some (.int zb), some (.int zc), some (.int zd), some (.int x12)]) hG dX0_choose_50 (by decide) (pm_c1b rfl) rfl ?_
        refine pm_aloadn hG dX0_choose_52 rfl ?_
        refine pm_iloadn hG dX0_choose_53 rfl ?_
        refine pm_iconst (v := 1) hG dX0_choose_54 (by decide) ?_
        refine pm_iadd hG dX0_choose_55 ?_
        refine pm_top (v := 4) (by decide) ?_
        refine pm_iloadn hG dX0_choose_56 rfl ?_
        refine pm_iloadn hG dX0_choose_57 rfl ?_
        refine pm_iloadi hG dX0_choose_58 rfl ?_
        obtain ⟨r14, h13, hE⟩ := fb_some hE
        refine pm_callV (As := [.int 4, .int zb, .int zc, .int zd]) (rest := []) hG hR dX0_choose_60 (lkX0_121 _ rfl) okV_X0_choose rfl rfl (c_X0_choose_k4 (d := 8) (by decide) h13) rfl rfl hdd (Nat.le_refl _) (Nat.le_refl _) (by decide) (fx_kv ?_)
        refine pm_aloadn hG dX0_choose_63 rfl ?_
        refine pm_iloadn hG dX0_choose_64 rfl ?_
        refine pm_iconst (v := 1) hG dX0_choose_65 (by decide) ?_
        refine pm_iadd hG dX0_choose_66 ?_
        refine pm_top (v := 4) (by decide) ?_
        refine pm_iloadn hG dX0_choose_67 rfl ?_
        refine pm_iconst (v := 1) hG dX0_choose_68 (by decide) ?_
        refine pm_iloadi hG dX0_choose_69 rfl ?_
        refine pm_ishl hG dX0_choose_71 ?_
        refine pm_ior hG dX0_choose_72 ?_
        refine pm_iloadn hG dX0_choose_73 rfl ?_
        refine pm_aloadn hG dX0_choose_74 rfl ?_
        refine pm_getf hG dX0_choose_75 (flX0_9 _ rfl) rfl rfl ?_
        refine pm_getf hG dX0_choose_78 (flX0_63 _ rfl) rfl rfl ?_
        refine pm_iloadi hG dX0_choose_81 rfl ?_
        refine pm_bipush (v := 12) hG dX0_choose_83 (by decide) ?_
        refine pm_callV (As := [.int x12, .int 12]) (rest := [.int zc, .int (zb ||| ((1 : Int32) <<< (x12 &&& 31))), .int 4, .ref (B + 31)]) hG hR dX0_choose_85 (lkX0_39 _ rfl) okV_X9_get rfl rfl (tget_6 (d := 8)) rfl rfl hdd (Nat.le_refl _) (Nat.le_refl _) (by first | decide | exact Nat.le_of_ble_eq_true rfl) (fx_ki ?_)
        refine pm_iadd hG dX0_choose_88 ?_
        refine pm_iloadi hG dX0_choose_89 rfl ?_
        refine pm_aloadn hG dX0_choose_91 rfl ?_
        refine pm_getf hG dX0_choose_92 (flX0_33 _ rfl) rfl rfl ?_
        refine pm_iloadi hG dX0_choose_95 rfl ?_
        refine pm_iconst (v := 0) hG dX0_choose_97 (by decide) ?_
        refine pm_callV (As := [.int x12, .int 0]) (rest := [.int zd, .int (zc + (fG 6 20 14 r14.2 x12 12)), .int (zb ||| ((1 : Int32) <<< (x12 &&& 31))), .int 4, .ref (B + 31)]) hG hR dX0_choose_98 (lkX0_39 _ rfl) okV_X9_get rfl rfl (tget_32 (d := 8)) rfl rfl hdd (Nat.le_refl _) (Nat.le_refl _) (by first | decide | exact Nat.le_of_ble_eq_true rfl) (fx_ki ?_)
        refine pm_iadd hG dX0_choose_101 ?_
        obtain ⟨r16, h15, hE⟩ := fb_some hE
        refine pm_callV (As := [.int 4, .int (zb ||| ((1 : Int32) <<< (x12 &&& 31))), .int (zc + (fG 6 20 14 r14.2 x12 12)), .int (zd + (fG 32 20 1 r14.2 x12 0))]) (rest := []) hG hR dX0_choose_102 (lkX0_121 _ rfl) okV_X0_choose rfl rfl (c_X0_choose_k4 (d := 8) (by decide) h15) rfl rfl hdd (Nat.le_refl _) (Nat.le_refl _) (by decide) (fx_kv ?_)
        exact pm_vret hG hF dX0_choose_105 rfl (Nat.le_refl _) (Nat.le_refl _) (fx_rvc hE)
  · replace c1 := Int32.not_le.mp c1
    replace hE := fx_t c1 hE
    exact pm_vret hG hF dX0_choose_8 rfl (Nat.le_refl _) (Nat.le_refl _) (fx_rvc hE)

set_option maxRecDepth 100000 in
set_option maxHeartbeats 4000000 in
theorem c_X0_choose_k2 {d : Nat} {B cnt : Nat} {kp : Value} {ρ : pm_S} {S : FS} {zb : Int32} {zc : Int32} {zd : Int32} {R : Int32 × FS} (hdd : 10 ≤ d) (hE : f_X0_choose_k2 S zb zc zd = some R) : pm_met mX0_choose d 0 0 B [.ref (B + 31), .int 2, .int zb, .int zc, .int zd] cnt (cst B kp S ρ) (pm_Qv (fun σ' cnt' => σ' = (cst B kp R.2 ρ) ∧ cnt' = cnt)) := by
  refine pm_enter 1 (by decide) (Nat.le_of_ble_eq_true rfl) rfl (fun G hG hR hF => ?_)
  unfold f_X0_choose_k2 at hE
  refine pm_iloadn hG dX0_choose_0 rfl ?_
  refine pm_aloadn hG dX0_choose_1 rfl ?_
  refine pm_getf hG dX0_choose_2 (flX0_115 _ rfl) rfl rfl ?_
  refine pm_icmp_le (tgt := 9) hG dX0_choose_5 rfl (fun c1 => ?_) (fun c1 => ?_)
  · replace c1 := Int32.not_lt.mpr c1
    replace hE := fx_f c1 hE
    refine pm_aloadn hG dX0_choose_9 rfl ?_
    refine pm_iloadi hG dX0_choose_10 rfl ?_
    refine pm_callV (As := [.int zd]) (rest := []) hG hR dX0_choose_12 (lkX0_125 _ rfl) okV_X0_isCarriedWith rfl rfl (c_X0_isCarriedWith (d := 9) (by decide) rfl) rfl rfl hdd (Nat.le_refl _) (Nat.le_refl _) (by decide) (fx_ki ?_)
    refine pm_if_eq (tgt := 24) hG dX0_choose_15 rfl (fun c2 => ?_) (fun c2 => ?_)
    · replace hE := fx_t c2 hE
      refine pm_iloadn hG dX0_choose_24 rfl ?_
      refine pm_bipush (v := 9) hG dX0_choose_25 (by decide) ?_
      refine pm_icmp_ge (tgt := 105) hG dX0_choose_27 rfl (fun q => absurd q (by decide)) (fun _ => ?_)
      refine pm_aloadn hG dX0_choose_30 rfl ?_
      refine pm_getf hG dX0_choose_31 (flX0_36 _ rfl) rfl rfl ?_
      refine pm_iloadn hG dX0_choose_34 rfl ?_
      refine pm_callV (As := [.int 2]) (rest := []) hG hR dX0_choose_35 (lkX0_131 _ rfl) okV_X9_has rfl rfl (thas_34 (d := 9)) rfl rfl hdd (Nat.le_refl _) (Nat.le_refl _) (by decide) (fx_ki ?_)
      refine pm_if_eq (tgt := 105) hG dX0_choose_38 rfl (fun c3 => ?_) (fun c3 => ?_)
      · replace hE := fx_t c3 hE
        exact pm_vret hG hF dX0_choose_105 rfl (Nat.le_refl _) (Nat.le_refl _) (fx_rvc hE)
      · replace hE := fx_f c3 hE
        refine pm_aloadn hG dX0_choose_41 rfl ?_
        refine pm_getf hG dX0_choose_42 (flX0_36 _ rfl) rfl rfl ?_
        refine pm_iloadn hG dX0_choose_45 rfl ?_
        refine pm_iconst (v := 0) hG dX0_choose_46 (by decide) ?_
        refine pm_callV (As := [.int 2, .int 0]) (rest := []) hG hR dX0_choose_47 (lkX0_39 _ rfl) okV_X9_get rfl rfl (tget_34 (d := 9)) rfl rfl hdd (Nat.le_refl _) (Nat.le_refl _) (by decide) (fx_ki ?_)
        refine fx_letv hE (fun x4 hE => ?_)
        refine pm_istoreXi (loc' := [some (.ref (B + 31)), some (.int 2), some (.int zb), some (.int zc), some (.int zd), some (.int x4)]) hG dX0_choose_50 (by decide) (pm_c1b rfl) rfl ?_
        refine pm_aloadn hG dX0_choose_52 rfl ?_
        refine pm_iloadn hG dX0_choose_53 rfl ?_
        refine pm_iconst (v := 1) hG dX0_choose_54 (by decide) ?_
        refine pm_iadd hG dX0_choose_55 ?_
        refine pm_top (v := 3) (by decide) ?_
        refine pm_iloadn hG dX0_choose_56 rfl ?_
        refine pm_iloadn hG dX0_choose_57 rfl ?_
        refine pm_iloadi hG dX0_choose_58 rfl ?_
        obtain ⟨r6, h5, hE⟩ := fb_some hE
        refine pm_callV (As := [.int 3, .int zb, .int zc, .int zd]) (rest := []) hG hR dX0_choose_60 (lkX0_121 _ rfl) okV_X0_choose rfl rfl (c_X0_choose_k3 (d := 9) (by decide) h5) rfl rfl hdd (Nat.le_refl _) (Nat.le_refl _) (by decide) (fx_kv ?_)
        refine pm_aloadn hG dX0_choose_63 rfl ?_
        refine pm_iloadn hG dX0_choose_64 rfl ?_
        refine pm_iconst (v := 1) hG dX0_choose_65 (by decide) ?_
        refine pm_iadd hG dX0_choose_66 ?_
        refine pm_top (v := 3) (by decide) ?_
        refine pm_iloadn hG dX0_choose_67 rfl ?_
        refine pm_iconst (v := 1) hG dX0_choose_68 (by decide) ?_
        refine pm_iloadi hG dX0_choose_69 rfl ?_
        refine pm_ishl hG dX0_choose_71 ?_
        refine pm_ior hG dX0_choose_72 ?_
        refine pm_iloadn hG dX0_choose_73 rfl ?_
        refine pm_aloadn hG dX0_choose_74 rfl ?_
        refine pm_getf hG dX0_choose_75 (flX0_9 _ rfl) rfl rfl ?_
        refine pm_getf hG dX0_choose_78 (flX0_63 _ rfl) rfl rfl ?_
        refine pm_iloadi hG dX0_choose_81 rfl ?_
        refine pm_bipush (v := 12) hG dX0_choose_83 (by decide) ?_
        refine pm_callV (As := [.int x4, .int 12]) (rest := [.int zc, .int (zb ||| ((1 : Int32) <<< (x4 &&& 31))), .int 3, .ref (B + 31)]) hG hR dX0_choose_85 (lkX0_39 _ rfl) okV_X9_get rfl rfl (tget_6 (d := 9)) rfl rfl hdd (Nat.le_refl _) (Nat.le_refl _) (by first | decide | exact Nat.le_of_ble_eq_true rfl) (fx_ki ?_)
        refine pm_iadd hG dX0_choose_88 ?_
        refine pm_iloadi hG dX0_choose_89 rfl ?_
        refine pm_aloadn hG dX0_choose_91 rfl ?_
        refine pm_getf hG dX0_choose_92 (flX0_33 _ rfl) rfl rfl ?_
        refine pm_iloadi hG dX0_choose_95 rfl ?_
        refine pm_iconst (v := 0) hG dX0_choose_97 (by decide) ?_
        refine pm_callV (As := [.int x4, .int 0]) (rest := [.int zd, .int (zc + (fG 6 20 14 r6.2 x4 12)), .int (zb ||| ((1 : Int32) <<< (x4 &&& 31))), .int 3, .ref (B + 31)]) hG hR dX0_choose_98 (lkX0_39 _ rfl) okV_X9_get rfl rfl (tget_32 (d := 9)) rfl rfl hdd (Nat.le_refl _) (Nat.le_refl _) (by first | decide | exact Nat.le_of_ble_eq_true rfl) (fx_ki ?_)
        refine pm_iadd hG dX0_choose_101 ?_
        obtain ⟨r8, h7, hE⟩ := fb_some hE
        refine pm_callV (As := [.int 3, .int (zb ||| ((1 : Int32) <<< (x4 &&& 31))), .int (zc + (fG 6 20 14 r6.2 x4 12)), .int (zd + (fG 32 20 1 r6.2 x4 0))]) (rest := []) hG hR dX0_choose_102 (lkX0_121 _ rfl) okV_X0_choose rfl rfl (c_X0_choose_k3 (d := 9) (by decide) h7) rfl rfl hdd (Nat.le_refl _) (Nat.le_refl _) (by decide) (fx_kv ?_)
        exact pm_vret hG hF dX0_choose_105 rfl (Nat.le_refl _) (Nat.le_refl _) (fx_rvc hE)
    · replace hE := fx_f c2 hE
      refine pm_aloadn hG dX0_choose_18 rfl ?_
      refine pm_iloadn hG dX0_choose_19 rfl ?_
      refine pm_iloadn hG dX0_choose_20 rfl ?_
      obtain ⟨r10, h9, hE⟩ := fb_some hE
      refine pm_callV (As := [.int zb, .int zc]) (rest := []) hG hR dX0_choose_21 (lkX0_128 _ rfl) okV_X0_keepIfBetter rfl rfl (c_X0_keepIfBetter (d := 9) (by decide) h9) rfl rfl hdd (Nat.le_refl _) (Nat.le_refl _) (by decide) (fx_kv ?_)
      refine pm_iloadn hG dX0_choose_24 rfl ?_
      refine pm_bipush (v := 9) hG dX0_choose_25 (by decide) ?_
      refine pm_icmp_ge (tgt := 105) hG dX0_choose_27 rfl (fun q => absurd q (by decide)) (fun _ => ?_)
      refine pm_aloadn hG dX0_choose_30 rfl ?_
      refine pm_getf hG dX0_choose_31 (flX0_36 _ rfl) rfl rfl ?_
      refine pm_iloadn hG dX0_choose_34 rfl ?_
      refine pm_callV (As := [.int 2]) (rest := []) hG hR dX0_choose_35 (lkX0_131 _ rfl) okV_X9_has rfl rfl (thas_34 (d := 9)) rfl rfl hdd (Nat.le_refl _) (Nat.le_refl _) (by decide) (fx_ki ?_)
      refine pm_if_eq (tgt := 105) hG dX0_choose_38 rfl (fun c11 => ?_) (fun c11 => ?_)
      · replace hE := fx_t c11 hE
        exact pm_vret hG hF dX0_choose_105 rfl (Nat.le_refl _) (Nat.le_refl _) (fx_rvc hE)
      · replace hE := fx_f c11 hE
        refine pm_aloadn hG dX0_choose_41 rfl ?_
        refine pm_getf hG dX0_choose_42 (flX0_36 _ rfl) rfl rfl ?_
        refine pm_iloadn hG dX0_choose_45 rfl ?_
        refine pm_iconst (v := 0) hG dX0_choose_46 (by decide) ?_
        refine pm_callV (As := [.int 2, .int 0]) (rest := []) hG hR dX0_choose_47 (lkX0_39 _ rfl) okV_X9_get rfl rfl (tget_34 (d := 9)) rfl rfl hdd (Nat.le_refl _) (Nat.le_refl _) (by decide) (fx_ki ?_)
        refine fx_letv hE (fun x12 hE => ?_)
        refine pm_istoreXi (loc' := [some (.ref (B + 31)), some (.int 2), some (.int zb), some (.int zc), some (.int zd), some (.int x12)]) hG dX0_choose_50 (by decide) (pm_c1b rfl) rfl ?_
        refine pm_aloadn hG dX0_choose_52 rfl ?_
        refine pm_iloadn hG dX0_choose_53 rfl ?_
        refine pm_iconst (v := 1) hG dX0_choose_54 (by decide) ?_
        refine pm_iadd hG dX0_choose_55 ?_
        refine pm_top (v := 3) (by decide) ?_
        refine pm_iloadn hG dX0_choose_56 rfl ?_
        refine pm_iloadn hG dX0_choose_57 rfl ?_
        refine pm_iloadi hG dX0_choose_58 rfl ?_
        obtain ⟨r14, h13, hE⟩ := fb_some hE
        refine pm_callV (As := [.int 3, .int zb, .int zc, .int zd]) (rest := []) hG hR dX0_choose_60 (lkX0_121 _ rfl) okV_X0_choose rfl rfl (c_X0_choose_k3 (d := 9) (by decide) h13) rfl rfl hdd (Nat.le_refl _) (Nat.le_refl _) (by decide) (fx_kv ?_)
        refine pm_aloadn hG dX0_choose_63 rfl ?_
        refine pm_iloadn hG dX0_choose_64 rfl ?_
        refine pm_iconst (v := 1) hG dX0_choose_65 (by decide) ?_
        refine pm_iadd hG dX0_choose_66 ?_
        refine pm_top (v := 3) (by decide) ?_
        refine pm_iloadn hG dX0_choose_67 rfl ?_
        refine pm_iconst (v := 1) hG dX0_choose_68 (by decide) ?_
        refine pm_iloadi hG dX0_choose_69 rfl ?_
        refine pm_ishl hG dX0_choose_71 ?_
        refine pm_ior hG dX0_choose_72 ?_
        refine pm_iloadn hG dX0_choose_73 rfl ?_
        refine pm_aloadn hG dX0_choose_74 rfl ?_
        refine pm_getf hG dX0_choose_75 (flX0_9 _ rfl) rfl rfl ?_
        refine pm_getf hG dX0_choose_78 (flX0_63 _ rfl) rfl rfl ?_
        refine pm_iloadi hG dX0_choose_81 rfl ?_
        refine pm_bipush (v := 12) hG dX0_choose_83 (by decide) ?_
        refine pm_callV (As := [.int x12, .int 12]) (rest := [.int zc, .int (zb ||| ((1 : Int32) <<< (x12 &&& 31))), .int 3, .ref (B + 31)]) hG hR dX0_choose_85 (lkX0_39 _ rfl) okV_X9_get rfl rfl (tget_6 (d := 9)) rfl rfl hdd (Nat.le_refl _) (Nat.le_refl _) (by first | decide | exact Nat.le_of_ble_eq_true rfl) (fx_ki ?_)
        refine pm_iadd hG dX0_choose_88 ?_
        refine pm_iloadi hG dX0_choose_89 rfl ?_
        refine pm_aloadn hG dX0_choose_91 rfl ?_
        refine pm_getf hG dX0_choose_92 (flX0_33 _ rfl) rfl rfl ?_
        refine pm_iloadi hG dX0_choose_95 rfl ?_
        refine pm_iconst (v := 0) hG dX0_choose_97 (by decide) ?_
        refine pm_callV (As := [.int x12, .int 0]) (rest := [.int zd, .int (zc + (fG 6 20 14 r14.2 x12 12)), .int (zb ||| ((1 : Int32) <<< (x12 &&& 31))), .int 3, .ref (B + 31)]) hG hR dX0_choose_98 (lkX0_39 _ rfl) okV_X9_get rfl rfl (tget_32 (d := 9)) rfl rfl hdd (Nat.le_refl _) (Nat.le_refl _) (by first | decide | exact Nat.le_of_ble_eq_true rfl) (fx_ki ?_)
        refine pm_iadd hG dX0_choose_101 ?_
        obtain ⟨r16, h15, hE⟩ := fb_some hE
        refine pm_callV (As := [.int 3, .int (zb ||| ((1 : Int32) <<< (x12 &&& 31))), .int (zc + (fG 6 20 14 r14.2 x12 12)), .int (zd + (fG 32 20 1 r14.2 x12 0))]) (rest := []) hG hR dX0_choose_102 (lkX0_121 _ rfl) okV_X0_choose rfl rfl (c_X0_choose_k3 (d := 9) (by decide) h15) rfl rfl hdd (Nat.le_refl _) (Nat.le_refl _) (by decide) (fx_kv ?_)
        exact pm_vret hG hF dX0_choose_105 rfl (Nat.le_refl _) (Nat.le_refl _) (fx_rvc hE)
  · replace c1 := Int32.not_le.mp c1
    replace hE := fx_t c1 hE
    exact pm_vret hG hF dX0_choose_8 rfl (Nat.le_refl _) (Nat.le_refl _) (fx_rvc hE)

set_option maxRecDepth 100000 in
set_option maxHeartbeats 4000000 in
theorem c_X0_choose_k1 {d : Nat} {B cnt : Nat} {kp : Value} {ρ : pm_S} {S : FS} {zb : Int32} {zc : Int32} {zd : Int32} {R : Int32 × FS} (hdd : 11 ≤ d) (hE : f_X0_choose_k1 S zb zc zd = some R) : pm_met mX0_choose d 0 0 B [.ref (B + 31), .int 1, .int zb, .int zc, .int zd] cnt (cst B kp S ρ) (pm_Qv (fun σ' cnt' => σ' = (cst B kp R.2 ρ) ∧ cnt' = cnt)) := by
  refine pm_enter 1 (by decide) (Nat.le_of_ble_eq_true rfl) rfl (fun G hG hR hF => ?_)
  unfold f_X0_choose_k1 at hE
  refine pm_iloadn hG dX0_choose_0 rfl ?_
  refine pm_aloadn hG dX0_choose_1 rfl ?_
  refine pm_getf hG dX0_choose_2 (flX0_115 _ rfl) rfl rfl ?_
  refine pm_icmp_le (tgt := 9) hG dX0_choose_5 rfl (fun c1 => ?_) (fun c1 => ?_)
  · replace c1 := Int32.not_lt.mpr c1
    replace hE := fx_f c1 hE
    refine pm_aloadn hG dX0_choose_9 rfl ?_
    refine pm_iloadi hG dX0_choose_10 rfl ?_
    refine pm_callV (As := [.int zd]) (rest := []) hG hR dX0_choose_12 (lkX0_125 _ rfl) okV_X0_isCarriedWith rfl rfl (c_X0_isCarriedWith (d := 10) (by decide) rfl) rfl rfl hdd (Nat.le_refl _) (Nat.le_refl _) (by decide) (fx_ki ?_)
    refine pm_if_eq (tgt := 24) hG dX0_choose_15 rfl (fun c2 => ?_) (fun c2 => ?_)
    · replace hE := fx_t c2 hE
      refine pm_iloadn hG dX0_choose_24 rfl ?_
      refine pm_bipush (v := 9) hG dX0_choose_25 (by decide) ?_
      refine pm_icmp_ge (tgt := 105) hG dX0_choose_27 rfl (fun q => absurd q (by decide)) (fun _ => ?_)
      refine pm_aloadn hG dX0_choose_30 rfl ?_
      refine pm_getf hG dX0_choose_31 (flX0_36 _ rfl) rfl rfl ?_
      refine pm_iloadn hG dX0_choose_34 rfl ?_
      refine pm_callV (As := [.int 1]) (rest := []) hG hR dX0_choose_35 (lkX0_131 _ rfl) okV_X9_has rfl rfl (thas_34 (d := 10)) rfl rfl hdd (Nat.le_refl _) (Nat.le_refl _) (by decide) (fx_ki ?_)
      refine pm_if_eq (tgt := 105) hG dX0_choose_38 rfl (fun c3 => ?_) (fun c3 => ?_)
      · replace hE := fx_t c3 hE
        exact pm_vret hG hF dX0_choose_105 rfl (Nat.le_refl _) (Nat.le_refl _) (fx_rvc hE)
      · replace hE := fx_f c3 hE
        refine pm_aloadn hG dX0_choose_41 rfl ?_
        refine pm_getf hG dX0_choose_42 (flX0_36 _ rfl) rfl rfl ?_
        refine pm_iloadn hG dX0_choose_45 rfl ?_
        refine pm_iconst (v := 0) hG dX0_choose_46 (by decide) ?_
        refine pm_callV (As := [.int 1, .int 0]) (rest := []) hG hR dX0_choose_47 (lkX0_39 _ rfl) okV_X9_get rfl rfl (tget_34 (d := 10)) rfl rfl hdd (Nat.le_refl _) (Nat.le_refl _) (by decide) (fx_ki ?_)
        refine fx_letv hE (fun x4 hE => ?_)
        refine pm_istoreXi (loc' := [some (.ref (B + 31)), some (.int 1), some (.int zb), some (.int zc), some (.int zd), some (.int x4)]) hG dX0_choose_50 (by decide) (pm_c1b rfl) rfl ?_
        refine pm_aloadn hG dX0_choose_52 rfl ?_
        refine pm_iloadn hG dX0_choose_53 rfl ?_
        refine pm_iconst (v := 1) hG dX0_choose_54 (by decide) ?_
        refine pm_iadd hG dX0_choose_55 ?_
        refine pm_top (v := 2) (by decide) ?_
        refine pm_iloadn hG dX0_choose_56 rfl ?_
        refine pm_iloadn hG dX0_choose_57 rfl ?_
        refine pm_iloadi hG dX0_choose_58 rfl ?_
        obtain ⟨r6, h5, hE⟩ := fb_some hE
        refine pm_callV (As := [.int 2, .int zb, .int zc, .int zd]) (rest := []) hG hR dX0_choose_60 (lkX0_121 _ rfl) okV_X0_choose rfl rfl (c_X0_choose_k2 (d := 10) (by decide) h5) rfl rfl hdd (Nat.le_refl _) (Nat.le_refl _) (by decide) (fx_kv ?_)
        refine pm_aloadn hG dX0_choose_63 rfl ?_
        refine pm_iloadn hG dX0_choose_64 rfl ?_
        refine pm_iconst (v := 1) hG dX0_choose_65 (by decide) ?_
        refine pm_iadd hG dX0_choose_66 ?_
        refine pm_top (v := 2) (by decide) ?_
        refine pm_iloadn hG dX0_choose_67 rfl ?_
        refine pm_iconst (v := 1) hG dX0_choose_68 (by decide) ?_
        refine pm_iloadi hG dX0_choose_69 rfl ?_
        refine pm_ishl hG dX0_choose_71 ?_
        refine pm_ior hG dX0_choose_72 ?_
        refine pm_iloadn hG dX0_choose_73 rfl ?_
        refine pm_aloadn hG dX0_choose_74 rfl ?_
        refine pm_getf hG dX0_choose_75 (flX0_9 _ rfl) rfl rfl ?_
        refine pm_getf hG dX0_choose_78 (flX0_63 _ rfl) rfl rfl ?_
        refine pm_iloadi hG dX0_choose_81 rfl ?_
        refine pm_bipush (v := 12) hG dX0_choose_83 (by decide) ?_
        refine pm_callV (As := [.int x4, .int 12]) (rest := [.int zc, .int (zb ||| ((1 : Int32) <<< (x4 &&& 31))), .int 2, .ref (B + 31)]) hG hR dX0_choose_85 (lkX0_39 _ rfl) okV_X9_get rfl rfl (tget_6 (d := 10)) rfl rfl hdd (Nat.le_refl _) (Nat.le_refl _) (by first | decide | exact Nat.le_of_ble_eq_true rfl) (fx_ki ?_)
        refine pm_iadd hG dX0_choose_88 ?_
        refine pm_iloadi hG dX0_choose_89 rfl ?_
        refine pm_aloadn hG dX0_choose_91 rfl ?_
        refine pm_getf hG dX0_choose_92 (flX0_33 _ rfl) rfl rfl ?_
        refine pm_iloadi hG dX0_choose_95 rfl ?_
        refine pm_iconst (v := 0) hG dX0_choose_97 (by decide) ?_
        refine pm_callV (As := [.int x4, .int 0]) (rest := [.int zd, .int (zc + (fG 6 20 14 r6.2 x4 12)), .int (zb ||| ((1 : Int32) <<< (x4 &&& 31))), .int 2, .ref (B + 31)]) hG hR dX0_choose_98 (lkX0_39 _ rfl) okV_X9_get rfl rfl (tget_32 (d := 10)) rfl rfl hdd (Nat.le_refl _) (Nat.le_refl _) (by first | decide | exact Nat.le_of_ble_eq_true rfl) (fx_ki ?_)
        refine pm_iadd hG dX0_choose_101 ?_
        obtain ⟨r8, h7, hE⟩ := fb_some hE
        refine pm_callV (As := [.int 2, .int (zb ||| ((1 : Int32) <<< (x4 &&& 31))), .int (zc + (fG 6 20 14 r6.2 x4 12)), .int (zd + (fG 32 20 1 r6.2 x4 0))]) (rest := []) hG hR dX0_choose_102 (lkX0_121 _ rfl) okV_X0_choose rfl rfl (c_X0_choose_k2 (d := 10) (by decide) h7) rfl rfl hdd (Nat.le_refl _) (Nat.le_refl _) (by decide) (fx_kv ?_)
        exact pm_vret hG hF dX0_choose_105 rfl (Nat.le_refl _) (Nat.le_refl _) (fx_rvc hE)
    · replace hE := fx_f c2 hE
      refine pm_aloadn hG dX0_choose_18 rfl ?_
      refine pm_iloadn hG dX0_choose_19 rfl ?_
      refine pm_iloadn hG dX0_choose_20 rfl ?_
      obtain ⟨r10, h9, hE⟩ := fb_some hE
      refine pm_callV (As := [.int zb, .int zc]) (rest := []) hG hR dX0_choose_21 (lkX0_128 _ rfl) okV_X0_keepIfBetter rfl rfl (c_X0_keepIfBetter (d := 10) (by decide) h9) rfl rfl hdd (Nat.le_refl _) (Nat.le_refl _) (by decide) (fx_kv ?_)
      refine pm_iloadn hG dX0_choose_24 rfl ?_
      refine pm_bipush (v := 9) hG dX0_choose_25 (by decide) ?_
      refine pm_icmp_ge (tgt := 105) hG dX0_choose_27 rfl (fun q => absurd q (by decide)) (fun _ => ?_)
      refine pm_aloadn hG dX0_choose_30 rfl ?_
      refine pm_getf hG dX0_choose_31 (flX0_36 _ rfl) rfl rfl ?_
      refine pm_iloadn hG dX0_choose_34 rfl ?_
      refine pm_callV (As := [.int 1]) (rest := []) hG hR dX0_choose_35 (lkX0_131 _ rfl) okV_X9_has rfl rfl (thas_34 (d := 10)) rfl rfl hdd (Nat.le_refl _) (Nat.le_refl _) (by decide) (fx_ki ?_)
      refine pm_if_eq (tgt := 105) hG dX0_choose_38 rfl (fun c11 => ?_) (fun c11 => ?_)
      · replace hE := fx_t c11 hE
        exact pm_vret hG hF dX0_choose_105 rfl (Nat.le_refl _) (Nat.le_refl _) (fx_rvc hE)
      · replace hE := fx_f c11 hE
        refine pm_aloadn hG dX0_choose_41 rfl ?_
        refine pm_getf hG dX0_choose_42 (flX0_36 _ rfl) rfl rfl ?_
        refine pm_iloadn hG dX0_choose_45 rfl ?_
        refine pm_iconst (v := 0) hG dX0_choose_46 (by decide) ?_
        refine pm_callV (As := [.int 1, .int 0]) (rest := []) hG hR dX0_choose_47 (lkX0_39 _ rfl) okV_X9_get rfl rfl (tget_34 (d := 10)) rfl rfl hdd (Nat.le_refl _) (Nat.le_refl _) (by decide) (fx_ki ?_)
        refine fx_letv hE (fun x12 hE => ?_)
        refine pm_istoreXi (loc' := [some (.ref (B + 31)), some (.int 1), some (.int zb), some (.int zc), some (.int zd), some (.int x12)]) hG dX0_choose_50 (by decide) (pm_c1b rfl) rfl ?_
        refine pm_aloadn hG dX0_choose_52 rfl ?_
        refine pm_iloadn hG dX0_choose_53 rfl ?_
        refine pm_iconst (v := 1) hG dX0_choose_54 (by decide) ?_
        refine pm_iadd hG dX0_choose_55 ?_
        refine pm_top (v := 2) (by decide) ?_
        refine pm_iloadn hG dX0_choose_56 rfl ?_
        refine pm_iloadn hG dX0_choose_57 rfl ?_
        refine pm_iloadi hG dX0_choose_58 rfl ?_
        obtain ⟨r14, h13, hE⟩ := fb_some hE
        refine pm_callV (As := [.int 2, .int zb, .int zc, .int zd]) (rest := []) hG hR dX0_choose_60 (lkX0_121 _ rfl) okV_X0_choose rfl rfl (c_X0_choose_k2 (d := 10) (by decide) h13) rfl rfl hdd (Nat.le_refl _) (Nat.le_refl _) (by decide) (fx_kv ?_)
        refine pm_aloadn hG dX0_choose_63 rfl ?_
        refine pm_iloadn hG dX0_choose_64 rfl ?_
        refine pm_iconst (v := 1) hG dX0_choose_65 (by decide) ?_
        refine pm_iadd hG dX0_choose_66 ?_
        refine pm_top (v := 2) (by decide) ?_
        refine pm_iloadn hG dX0_choose_67 rfl ?_
        refine pm_iconst (v := 1) hG dX0_choose_68 (by decide) ?_
        refine pm_iloadi hG dX0_choose_69 rfl ?_
        refine pm_ishl hG dX0_choose_71 ?_
        refine pm_ior hG dX0_choose_72 ?_
        refine pm_iloadn hG dX0_choose_73 rfl ?_
        refine pm_aloadn hG dX0_choose_74 rfl ?_
        refine pm_getf hG dX0_choose_75 (flX0_9 _ rfl) rfl rfl ?_
        refine pm_getf hG dX0_choose_78 (flX0_63 _ rfl) rfl rfl ?_
        refine pm_iloadi hG dX0_choose_81 rfl ?_
        refine pm_bipush (v := 12) hG dX0_choose_83 (by decide) ?_
        refine pm_callV (As := [.int x12, .int 12]) (rest := [.int zc, .int (zb ||| ((1 : Int32) <<< (x12 &&& 31))), .int 2, .ref (B + 31)]) hG hR dX0_choose_85 (lkX0_39 _ rfl) okV_X9_get rfl rfl (tget_6 (d := 10)) rfl rfl hdd (Nat.le_refl _) (Nat.le_refl _) (by first | decide | exact Nat.le_of_ble_eq_true rfl) (fx_ki ?_)
        refine pm_iadd hG dX0_choose_88 ?_
        refine pm_iloadi hG dX0_choose_89 rfl ?_
        refine pm_aloadn hG dX0_choose_91 rfl ?_
        refine pm_getf hG dX0_choose_92 (flX0_33 _ rfl) rfl rfl ?_
        refine pm_iloadi hG dX0_choose_95 rfl ?_
        refine pm_iconst (v := 0) hG dX0_choose_97 (by decide) ?_
        refine pm_callV (As := [.int x12, .int 0]) (rest := [.int zd, .int (zc + (fG 6 20 14 r14.2 x12 12)), .int (zb ||| ((1 : Int32) <<< (x12 &&& 31))), .int 2, .ref (B + 31)]) hG hR dX0_choose_98 (lkX0_39 _ rfl) okV_X9_get rfl rfl (tget_32 (d := 10)) rfl rfl hdd (Nat.le_refl _) (Nat.le_refl _) (by first | decide | exact Nat.le_of_ble_eq_true rfl) (fx_ki ?_)
        refine pm_iadd hG dX0_choose_101 ?_
        obtain ⟨r16, h15, hE⟩ := fb_some hE
        refine pm_callV (As := [.int 2, .int (zb ||| ((1 : Int32) <<< (x12 &&& 31))), .int (zc + (fG 6 20 14 r14.2 x12 12)), .int (zd + (fG 32 20 1 r14.2 x12 0))]) (rest := []) hG hR dX0_choose_102 (lkX0_121 _ rfl) okV_X0_choose rfl rfl (c_X0_choose_k2 (d := 10) (by decide) h15) rfl rfl hdd (Nat.le_refl _) (Nat.le_refl _) (by decide) (fx_kv ?_)
        exact pm_vret hG hF dX0_choose_105 rfl (Nat.le_refl _) (Nat.le_refl _) (fx_rvc hE)
  · replace c1 := Int32.not_le.mp c1
    replace hE := fx_t c1 hE
    exact pm_vret hG hF dX0_choose_8 rfl (Nat.le_refl _) (Nat.le_refl _) (fx_rvc hE)
