set_option maxRecDepth 100000 in
set_option maxHeartbeats 4000000 in
theorem c_X3_mark {d : Nat} {B cnt : Nat} {kp : Value} {ρ : pm_S} {S : FS} {za : Int32} {zb : Int32} {R : Int32 × FS} (hdd : 4 ≤ d) (hE : f_X3_mark S za zb = some R) : pm_met mX3_mark d 0 0 B [.ref (B + 36), .int za, .int zb] cnt (cst B kp S ρ) (pm_Qi (fun v σ' cnt' => v = R.1 ∧ σ' = (cst B kp R.2 ρ) ∧ cnt' = cnt)) := by
  refine pm_enter 5 (by decide) (Nat.le_of_ble_eq_true rfl) rfl (fun G hG hR hF => ?_)
  unfold f_X3_mark at hE
  refine pm_aloadn hG dX3_mark_0 rfl ?_
  refine pm_getf hG dX3_mark_1 (flX3_9 _ rfl) rfl rfl ?_
  refine pm_iloadn hG dX3_mark_4 rfl ?_
  refine pm_callV (As := [.int zb]) (rest := []) hG hR dX3_mark_5 (lkX3_52 _ rfl) okV_X7_whoHas rfl rfl (c_X7_whoHas (d := 3) (by decide) rfl) rfl rfl hdd (Nat.le_refl _) (Nat.le_refl _) (by decide) (fx_ki ?_)
  refine fx_letv hE (fun x1 hE => ?_)
  refine pm_istoreXn (loc' := [some (.ref (B + 36)), some (.int za), some (.int zb), some (.int x1), none, none, none, none]) hG dX3_mark_8 (by decide) (pm_c1b rfl) rfl ?_
  refine pm_aloadn hG dX3_mark_9 rfl ?_
  refine pm_getf hG dX3_mark_10 (flX3_29 _ rfl) rfl rfl ?_
  refine pm_iloadn hG dX3_mark_13 rfl ?_
  refine pm_iconst (v := 3) hG dX3_mark_14 (by decide) ?_
  refine pm_callV (As := [.int za, .int 3]) (rest := []) hG hR dX3_mark_15 (lkX3_35 _ rfl) okV_X9_get rfl rfl (tget_14 (d := 3)) rfl rfl hdd (Nat.le_refl _) (Nat.le_refl _) (by decide) (fx_ki ?_)
  refine fx_letv hE (fun x2 hE => ?_)
  refine pm_istoreXi (loc' := [some (.ref (B + 36)), some (.int za), some (.int zb), some (.int x1), some (.int x2), none, none, none]) hG dX3_mark_18 (by decide) (pm_c1b rfl) rfl ?_
  refine pm_aloadn hG dX3_mark_20 rfl ?_
  refine pm_iloadn hG dX3_mark_21 rfl ?_
  refine pm_callV (As := [.int za]) (rest := []) hG hR dX3_mark_22 (lkX3_55 _ rfl) okV_X3_isSent rfl rfl (c_X3_isSent (d := 3) (by decide) rfl) rfl rfl hdd (Nat.le_refl _) (Nat.le_refl _) (by decide) (fx_ki ?_)
  refine pm_if_ne (tgt := 56) hG dX3_mark_25 rfl (fun c3 => ?_) (fun c3 => ?_)
  · replace hE := fx_f c3 hE
    refine pm_ldc hG dX3_mark_56 (ctX3_62 _ rfl) ?_
    exact pm_iret hG hF dX3_mark_58 rfl (Nat.le_refl _) (Nat.le_refl _) (fx_ric hE)
  · replace hE := fx_t c3 hE
    refine pm_aloadn hG dX3_mark_28 rfl ?_
    refine pm_getf hG dX3_mark_29 (flX3_9 _ rfl) rfl rfl ?_
    refine pm_iloadn hG dX3_mark_32 rfl ?_
    refine pm_callV (As := [.int x1]) (rest := []) hG hR dX3_mark_33 (lkX3_59 _ rfl) okV_X7_isInTown rfl rfl (c_X7_isInTown (d := 3) (by decide) rfl) rfl rfl hdd (Nat.le_refl _) (Nat.le_refl _) (by decide) (fx_ki ?_)
    refine pm_if_eq (tgt := 56) hG dX3_mark_36 rfl (fun c4 => ?_) (fun c4 => ?_)
    · replace hE := fx_t c4 hE
      refine pm_ldc hG dX3_mark_56 (ctX3_62 _ rfl) ?_
      exact pm_iret hG hF dX3_mark_58 rfl (Nat.le_refl _) (Nat.le_refl _) (fx_ric hE)
    · replace hE := fx_f c4 hE
      refine pm_aloadn hG dX3_mark_39 rfl ?_
      refine pm_getf hG dX3_mark_40 (flX3_9 _ rfl) rfl rfl ?_
      refine pm_getf hG dX3_mark_43 (flX3_32 _ rfl) rfl rfl ?_
      refine pm_iloadn hG dX3_mark_46 rfl ?_
      refine pm_iconst (v := 4) hG dX3_mark_47 (by decide) ?_
      refine pm_callV (As := [.int x1, .int 4]) (rest := []) hG hR dX3_mark_48 (lkX3_35 _ rfl) okV_X9_get rfl rfl (tget_6 (d := 3)) rfl rfl hdd (Nat.le_refl _) (Nat.le_refl _) (by decide) (fx_ki ?_)
      refine pm_iloadi hG dX3_mark_51 rfl ?_
      refine pm_icmp_eq (tgt := 59) hG dX3_mark_53 rfl (fun c5 => ?_) (fun c5 => ?_)
      · replace hE := fx_t c5 hE
        refine pm_aloadn hG dX3_mark_59 rfl ?_
        refine pm_getf hG dX3_mark_60 (flX3_9 _ rfl) rfl rfl ?_
        refine pm_getf hG dX3_mark_63 (flX3_63 _ rfl) rfl rfl ?_
        refine pm_iloadn hG dX3_mark_66 rfl ?_
        refine pm_iconst (v := 5) hG dX3_mark_67 (by decide) ?_
        refine pm_callV (As := [.int zb, .int 5]) (rest := []) hG hR dX3_mark_68 (lkX3_35 _ rfl) okV_X9_get rfl rfl (tget_8 (d := 3)) rfl rfl hdd (Nat.le_refl _) (Nat.le_refl _) (by decide) (fx_ki ?_)
        refine fx_letv hE (fun x6 hE => ?_)
        refine pm_istoreXi (loc' := [some (.ref (B + 36)), some (.int za), some (.int zb), some (.int x1), some (.int x2), some (.int x6), none, none]) hG dX3_mark_71 (by decide) (pm_c1b rfl) rfl ?_
        refine pm_aloadn hG dX3_mark_73 rfl ?_
        refine pm_getf hG dX3_mark_74 (flX3_29 _ rfl) rfl rfl ?_
        refine pm_iloadn hG dX3_mark_77 rfl ?_
        refine pm_iconst (v := 4) hG dX3_mark_78 (by decide) ?_
        refine pm_callV (As := [.int za, .int 4]) (rest := []) hG hR dX3_mark_79 (lkX3_35 _ rfl) okV_X9_get rfl rfl (tget_14 (d := 3)) rfl rfl hdd (Nat.le_refl _) (Nat.le_refl _) (by decide) (fx_ki ?_)
        refine fx_letv hE (fun x7 hE => ?_)
        refine pm_istoreXi (loc' := [some (.ref (B + 36)), some (.int za), some (.int zb), some (.int x1), some (.int x2), some (.int x6), some (.int x7), none]) hG dX3_mark_82 (by decide) (pm_c1b rfl) rfl ?_
        refine pm_aloadn hG dX3_mark_84 rfl ?_
        refine pm_iloadi hG dX3_mark_85 rfl ?_
        obtain ⟨x9, h8, hE⟩ := fb_some hE
        refine pm_callV (As := [.int x6]) (rest := []) hG hR dX3_mark_87 (lkX3_66 _ rfl) okV_X3_handsWith rfl rfl (c_X3_handsWith (d := 3) (by decide) h8) rfl rfl hdd (Nat.le_refl _) (Nat.le_refl _) (by decide) (fx_ki ?_)
        refine pm_aloadn hG dX3_mark_90 rfl ?_
        refine pm_getf hG dX3_mark_91 (flX3_9 _ rfl) rfl rfl ?_
        refine pm_iloadi hG dX3_mark_94 rfl ?_
        obtain ⟨x11, h10, hE⟩ := fb_some hE
        refine pm_callV (As := [.int x2]) (rest := [.int x9]) hG hR dX3_mark_96 (lkX3_49 _ rfl) okV_X7_livingIn rfl rfl (c_X7_livingIn (d := 3) (by decide) h10) rfl rfl hdd (Nat.le_refl _) (Nat.le_refl _) (by first | decide | exact Nat.le_of_ble_eq_true rfl) (fx_ki ?_)
        refine pm_iand hG dX3_mark_99 ?_
        refine fx_letv hE (fun x12 hE => ?_)
        refine pm_istoreXi (loc' := [some (.ref (B + 36)), some (.int za), some (.int zb), some (.int x1), some (.int x2), some (.int x6), some (.int x7), some (.int x12)]) hG dX3_mark_100 (by decide) (pm_c1b rfl) rfl ?_
        refine pm_aloadn hG dX3_mark_102 rfl ?_
        refine pm_getf hG dX3_mark_103 (flX3_29 _ rfl) rfl rfl ?_
        refine pm_iloadn hG dX3_mark_106 rfl ?_
        refine pm_iconst (v := 5) hG dX3_mark_107 (by decide) ?_
        refine pm_iloadi hG dX3_mark_108 rfl ?_
        refine pm_if_ne (tgt := 118) hG dX3_mark_110 rfl (fun c13 => ?_) (fun c13 => ?_)
        · replace hE := fx_f c13 hE
          refine pm_aloadn hG dX3_mark_118 rfl ?_
          refine pm_getf hG dX3_mark_119 (flX3_29 _ rfl) rfl rfl ?_
          refine pm_iloadn hG dX3_mark_122 rfl ?_
          refine pm_iconst (v := 5) hG dX3_mark_123 (by decide) ?_
          refine pm_callV (As := [.int za, .int 5]) (rest := [.int 5, .int za, .ref (B + 14)]) hG hR dX3_mark_124 (lkX3_35 _ rfl) okV_X9_get rfl rfl (tget_14 (d := 3)) rfl rfl hdd (Nat.le_refl _) (Nat.le_refl _) (by first | decide | exact Nat.le_of_ble_eq_true rfl) (fx_ki ?_)
          refine pm_iloadi hG dX3_mark_127 rfl ?_
          refine pm_iand hG dX3_mark_129 ?_
          refine pm_callV (As := [.int za, .int 5, .int ((fG 14 40 12 S za 5) &&& x12)]) (rest := []) hG hR dX3_mark_130 (lkX3_45 _ rfl) okV_X9_set rfl rfl (tset_14 (d := 3)) rfl rfl hdd (Nat.le_refl _) (Nat.le_refl _) (by decide) (fx_kv ?_)
          refine fx_letc hE (fun S14 hE => ?_)
          refine pm_aloadn hG dX3_mark_133 rfl ?_
          refine pm_getf hG dX3_mark_134 (flX3_29 _ rfl) rfl rfl ?_
          refine pm_iloadn hG dX3_mark_137 rfl ?_
          refine pm_iconst (v := 4) hG dX3_mark_138 (by decide) ?_
          refine pm_iloadi hG dX3_mark_139 rfl ?_
          refine pm_iconst (v := 1) hG dX3_mark_141 (by decide) ?_
          refine pm_iloadi hG dX3_mark_142 rfl ?_
          refine pm_ishl hG dX3_mark_144 ?_
          refine pm_ior hG dX3_mark_145 ?_
          refine pm_callV (As := [.int za, .int 4, .int (x7 ||| ((1 : Int32) <<< (x6 &&& 31)))]) (rest := []) hG hR dX3_mark_146 (lkX3_45 _ rfl) okV_X9_set rfl rfl (tset_14 (d := 3)) rfl rfl hdd (Nat.le_refl _) (Nat.le_refl _) (by decide) (fx_kv ?_)
          refine fx_letc hE (fun S15 hE => ?_)
          refine pm_aloadn hG dX3_mark_149 rfl ?_
          refine pm_getf hG dX3_mark_150 (flX3_29 _ rfl) rfl rfl ?_
          refine pm_iloadn hG dX3_mark_153 rfl ?_
          refine pm_iconst (v := 4) hG dX3_mark_154 (by decide) ?_
          refine pm_callV (As := [.int za, .int 4]) (rest := []) hG hR dX3_mark_155 (lkX3_35 _ rfl) okV_X9_get rfl rfl (tget_14 (d := 3)) rfl rfl hdd (Nat.le_refl _) (Nat.le_refl _) (by decide) (fx_ki ?_)
          refine pm_callS (As := [.int (fG 14 40 12 S15 za 4)]) (rest := []) hG hR dX3_mark_158 (lkX3_69 _ rfl) okS_J6_bitCount_0f7a4 (c_J6_bitCount_0f7a4 (d := 3) (by decide) rfl) rfl rfl hdd (Nat.le_refl _) (Nat.le_refl _) (by decide) (fx_ki ?_)
          exact pm_iret hG hF dX3_mark_161 rfl (Nat.le_refl _) (Nat.le_refl _) (fx_ric hE)
        · replace hE := fx_t c13 hE
          refine pm_iloadi hG dX3_mark_113 rfl ?_
          refine pm_goto (tgt := 130) hG dX3_mark_115 rfl ?_
          refine pm_callV (As := [.int za, .int 5, .int x12]) (rest := []) hG hR dX3_mark_130 (lkX3_45 _ rfl) okV_X9_set rfl rfl (tset_14 (d := 3)) rfl rfl hdd (Nat.le_refl _) (Nat.le_refl _) (by decide) (fx_kv ?_)
          refine fx_letc hE (fun S16 hE => ?_)
          refine pm_aloadn hG dX3_mark_133 rfl ?_
          refine pm_getf hG dX3_mark_134 (flX3_29 _ rfl) rfl rfl ?_
          refine pm_iloadn hG dX3_mark_137 rfl ?_
          refine pm_iconst (v := 4) hG dX3_mark_138 (by decide) ?_
          refine pm_iloadi hG dX3_mark_139 rfl ?_
          refine pm_iconst (v := 1) hG dX3_mark_141 (by decide) ?_
          refine pm_iloadi hG dX3_mark_142 rfl ?_
          refine pm_ishl hG dX3_mark_144 ?_
          refine pm_ior hG dX3_mark_145 ?_
          refine pm_callV (As := [.int za, .int 4, .int (x7 ||| ((1 : Int32) <<< (x6 &&& 31)))]) (rest := []) hG hR dX3_mark_146 (lkX3_45 _ rfl) okV_X9_set rfl rfl (tset_14 (d := 3)) rfl rfl hdd (Nat.le_refl _) (Nat.le_refl _) (by decide) (fx_kv ?_)
          refine fx_letc hE (fun S17 hE => ?_)
          refine pm_aloadn hG dX3_mark_149 rfl ?_
          refine pm_getf hG dX3_mark_150 (flX3_29 _ rfl) rfl rfl ?_
          refine pm_iloadn hG dX3_mark_153 rfl ?_
          refine pm_iconst (v := 4) hG dX3_mark_154 (by decide) ?_
          refine pm_callV (As := [.int za, .int 4]) (rest := []) hG hR dX3_mark_155 (lkX3_35 _ rfl) okV_X9_get rfl rfl (tget_14 (d := 3)) rfl rfl hdd (Nat.le_refl _) (Nat.le_refl _) (by decide) (fx_ki ?_)
          refine pm_callS (As := [.int (fG 14 40 12 S17 za 4)]) (rest := []) hG hR dX3_mark_158 (lkX3_69 _ rfl) okS_J6_bitCount_0f7a4 (c_J6_bitCount_0f7a4 (d := 3) (by decide) rfl) rfl rfl hdd (Nat.le_refl _) (Nat.le_refl _) (by decide) (fx_ki ?_)
          exact pm_iret hG hF dX3_mark_161 rfl (Nat.le_refl _) (Nat.le_refl _) (fx_ric hE)
      · replace hE := fx_f c5 hE
        refine pm_ldc hG dX3_mark_56 (ctX3_62 _ rfl) ?_
        exact pm_iret hG hF dX3_mark_58 rfl (Nat.le_refl _) (Nat.le_refl _) (fx_ric hE)

set_option maxRecDepth 100000 in
set_option maxHeartbeats 4000000 in
theorem c_X11_press {d : Nat} {B cnt : Nat} {kp : Value} {ρ : pm_S} {S : FS} {za : Int32} {zb : Int32} {R : Int32 × FS} (hdd : 5 ≤ d) (hE : f_X11_press S za zb = some R) : pm_met mX11_press d 0 0 B [.ref (B + 0), .int za, .int zb] cnt (cst B kp S ρ) (pm_Qi (fun v σ' cnt' => v = R.1 ∧ σ' = (cst B kp R.2 ρ) ∧ cnt' = cnt)) := by
  refine pm_enter 0 (by decide) (Nat.le_of_ble_eq_true rfl) rfl (fun G hG hR hF => ?_)
  unfold f_X11_press at hE
  refine pm_aloadn hG dX11_press_0 rfl ?_
  refine pm_getf hG dX11_press_1 (flX11_12 _ rfl) rfl rfl ?_
  refine pm_getf hG dX11_press_4 (flX11_224 _ rfl) rfl rfl ?_
  refine pm_iloadn hG dX11_press_7 rfl ?_
  refine pm_callV (As := [.int za]) (rest := []) hG hR dX11_press_8 (lkX11_101 _ rfl) okV_X9_has rfl rfl (thas_14 (d := 4)) rfl rfl hdd (Nat.le_refl _) (Nat.le_refl _) (by decide) (fx_ki ?_)
  refine pm_if_eq (tgt := 28) hG dX11_press_11 rfl (fun c1 => ?_) (fun c1 => ?_)
  · replace hE := fx_t c1 hE
    refine pm_aloadn hG dX11_press_28 rfl ?_
    refine pm_ldc hG dX11_press_29 (ctX11_109 _ rfl) ?_
    obtain ⟨r3, h2, hE⟩ := fb_some hE
    refine pm_callV (As := [.int (-1000001)]) (rest := []) hG hR dX11_press_31 (lkX11_97 _ rfl) okV_X11_told rfl rfl (c_X11_told (d := 4) (by decide) h2) rfl rfl hdd (Nat.le_refl _) (Nat.le_refl _) (by decide) (fx_ki ?_)
    exact pm_iret hG hF dX11_press_34 rfl (Nat.le_refl _) (Nat.le_refl _) (fx_ric hE)
  · replace hE := fx_f c1 hE
    refine pm_aloadn hG dX11_press_14 rfl ?_
    refine pm_getf hG dX11_press_15 (flX11_12 _ rfl) rfl rfl ?_
    refine pm_getf hG dX11_press_18 (flX11_161 _ rfl) rfl rfl ?_
    refine pm_iloadn hG dX11_press_21 rfl ?_
    refine pm_callV (As := [.int zb]) (rest := []) hG hR dX11_press_22 (lkX11_101 _ rfl) okV_X9_has rfl rfl (thas_8 (d := 4)) rfl rfl hdd (Nat.le_refl _) (Nat.le_refl _) (by decide) (fx_ki ?_)
    refine pm_if_ne (tgt := 35) hG dX11_press_25 rfl (fun c4 => ?_) (fun c4 => ?_)
    · replace hE := fx_f c4 hE
      refine pm_aloadn hG dX11_press_35 rfl ?_
      refine pm_aloadn hG dX11_press_36 rfl ?_
      refine pm_getf hG dX11_press_37 (flX11_12 _ rfl) rfl rfl ?_
      refine pm_iloadn hG dX11_press_40 rfl ?_
      refine pm_iconst (v := 2) hG dX11_press_41 (by decide) ?_
      obtain ⟨x6, h5, hE⟩ := fb_some hE
      refine pm_callV (As := [.int zb, .int 2]) (rest := [.ref (B + 0)]) hG hR dX11_press_42 (lkX11_180 _ rfl) okV_X7_isOfKind rfl rfl (c_X7_isOfKind (d := 4) (by decide) h5) rfl rfl hdd (Nat.le_refl _) (Nat.le_refl _) (by first | decide | exact Nat.le_of_ble_eq_true rfl) (fx_ki ?_)
      refine pm_if_eq (tgt := 60) hG dX11_press_45 rfl (fun c7 => ?_) (fun c7 => ?_)
      · replace hE := fx_t c7 hE
        refine pm_ldc hG dX11_press_60 (ctX11_184 _ rfl) ?_
        obtain ⟨r9, h8, hE⟩ := fb_some hE
        refine pm_callV (As := [.int (-1000005)]) (rest := []) hG hR dX11_press_62 (lkX11_97 _ rfl) okV_X11_told rfl rfl (c_X11_told (d := 4) (by decide) h8) rfl rfl hdd (Nat.le_refl _) (Nat.le_refl _) (by decide) (fx_ki ?_)
        exact pm_iret hG hF dX11_press_65 rfl (Nat.le_refl _) (Nat.le_refl _) (fx_ric hE)
      · replace hE := fx_f c7 hE
        refine pm_aloadn hG dX11_press_48 rfl ?_
        refine pm_getf hG dX11_press_49 (flX11_39 _ rfl) rfl rfl ?_
        refine pm_iloadn hG dX11_press_52 rfl ?_
        refine pm_iloadn hG dX11_press_53 rfl ?_
        obtain ⟨r11, h10, hE⟩ := fb_some hE
        refine pm_callV (As := [.int za, .int zb]) (rest := [.ref (B + 0)]) hG hR dX11_press_54 (lkX11_233 _ rfl) okV_X3_mark rfl rfl (c_X3_mark (d := 4) (by decide) h10) rfl rfl hdd (Nat.le_refl _) (Nat.le_refl _) (by first | decide | exact Nat.le_of_ble_eq_true rfl) (fx_ki ?_)
        refine pm_goto (tgt := 62) hG dX11_press_57 rfl ?_
        obtain ⟨r13, h12, hE⟩ := fb_some hE
        refine pm_callV (As := [.int r11.1]) (rest := []) hG hR dX11_press_62 (lkX11_97 _ rfl) okV_X11_told rfl rfl (c_X11_told (d := 4) (by decide) h12) rfl rfl hdd (Nat.le_refl _) (Nat.le_refl _) (by decide) (fx_ki ?_)
        exact pm_iret hG hF dX11_press_65 rfl (Nat.le_refl _) (Nat.le_refl _) (fx_ric hE)
    · replace hE := fx_t c4 hE
      refine pm_aloadn hG dX11_press_28 rfl ?_
      refine pm_ldc hG dX11_press_29 (ctX11_109 _ rfl) ?_
      obtain ⟨r15, h14, hE⟩ := fb_some hE
      refine pm_callV (As := [.int (-1000001)]) (rest := []) hG hR dX11_press_31 (lkX11_97 _ rfl) okV_X11_told rfl rfl (c_X11_told (d := 4) (by decide) h14) rfl rfl hdd (Nat.le_refl _) (Nat.le_refl _) (by decide) (fx_ki ?_)
      exact pm_iret hG hF dX11_press_34 rfl (Nat.le_refl _) (Nat.le_refl _) (fx_ric hE)

set_option maxRecDepth 100000 in
set_option maxHeartbeats 4000000 in
theorem c_X11_price {d : Nat} {B cnt : Nat} {kp : Value} {ρ : pm_S} {S : FS} {za : Int32} {zb : Int32} {R : Int32 × FS} (hdd : 2 ≤ d) (hE : f_X11_price S za zb = some R) : pm_met mX11_price d 0 0 B [.ref (B + 0), .int za, .int zb] cnt (cst B kp S ρ) (pm_Qi (fun v σ' cnt' => v = R.1 ∧ σ' = (cst B kp R.2 ρ) ∧ cnt' = cnt)) := by
  refine pm_enter 0 (by decide) (Nat.le_of_ble_eq_true rfl) rfl (fun G hG hR hF => ?_)
  unfold f_X11_price at hE
  refine pm_aloadn hG dX11_price_0 rfl ?_
  refine pm_getf hG dX11_price_1 (flX11_12 _ rfl) rfl rfl ?_
  refine pm_getf hG dX11_price_4 (flX11_128 _ rfl) rfl rfl ?_
  refine pm_iloadn hG dX11_price_7 rfl ?_
  refine pm_callV (As := [.int za]) (rest := []) hG hR dX11_price_8 (lkX11_101 _ rfl) okV_X9_has rfl rfl (thas_6 (d := 1)) rfl rfl hdd (Nat.le_refl _) (Nat.le_refl _) (by decide) (fx_ki ?_)
  refine pm_if_eq (tgt := 25) hG dX11_price_11 rfl (fun c1 => ?_) (fun c1 => ?_)
  · replace hE := fx_t c1 hE
    refine pm_aloadn hG dX11_price_25 rfl ?_
    refine pm_ldc hG dX11_price_26 (ctX11_109 _ rfl) ?_
    obtain ⟨r3, h2, hE⟩ := fb_some hE
    refine pm_callV (As := [.int (-1000001)]) (rest := []) hG hR dX11_price_28 (lkX11_97 _ rfl) okV_X11_told rfl rfl (c_X11_told (d := 1) (by decide) h2) rfl rfl hdd (Nat.le_refl _) (Nat.le_refl _) (by decide) (fx_ki ?_)
    exact pm_iret hG hF dX11_price_31 rfl (Nat.le_refl _) (Nat.le_refl _) (fx_ric hE)
  · replace hE := fx_f c1 hE
    refine pm_iloadn hG dX11_price_14 rfl ?_
    refine pm_iconst (v := 1) hG dX11_price_15 (by decide) ?_
    refine pm_sipush (v := 999) hG dX11_price_16 (by decide) ?_
    refine pm_callS (As := [.int zb, .int 1, .int 999]) (rest := []) hG hR dX11_price_19 (lkX11_105 _ rfl) okS_X11_isOutside (tOut (d := 1)) rfl rfl hdd (Nat.le_refl _) (Nat.le_refl _) (by decide) (fx_ki ?_)
    refine pm_if_eq (tgt := 32) hG dX11_price_22 rfl (fun c4 => ?_) (fun c4 => ?_)
    · replace hE := fx_t c4 hE
      refine pm_aloadn hG dX11_price_32 rfl ?_
      refine pm_getf hG dX11_price_33 (flX11_12 _ rfl) rfl rfl ?_
      refine pm_getf hG dX11_price_36 (flX11_128 _ rfl) rfl rfl ?_
      refine pm_iloadn hG dX11_price_39 rfl ?_
      refine pm_bipush (v := 12) hG dX11_price_40 (by decide) ?_
      refine pm_iloadn hG dX11_price_42 rfl ?_
      refine pm_callV (As := [.int za, .int 12, .int zb]) (rest := []) hG hR dX11_price_43 (lkX11_248 _ rfl) okV_X9_swap rfl rfl (tswap_6 (d := 1) (by decide)) rfl rfl hdd (Nat.le_refl _) (Nat.le_refl _) (by decide) (fx_ki ?_)
      refine fx_letc hE (fun S5 hE => ?_)
      exact pm_iret hG hF dX11_price_46 rfl (Nat.le_refl _) (Nat.le_refl _) (fx_ric hE)
    · replace hE := fx_f c4 hE
      refine pm_aloadn hG dX11_price_25 rfl ?_
      refine pm_ldc hG dX11_price_26 (ctX11_109 _ rfl) ?_
      obtain ⟨r7, h6, hE⟩ := fb_some hE
      refine pm_callV (As := [.int (-1000001)]) (rest := []) hG hR dX11_price_28 (lkX11_97 _ rfl) okV_X11_told rfl rfl (c_X11_told (d := 1) (by decide) h6) rfl rfl hdd (Nat.le_refl _) (Nat.le_refl _) (by decide) (fx_ki ?_)
      exact pm_iret hG hF dX11_price_31 rfl (Nat.le_refl _) (Nat.le_refl _) (fx_ric hE)

set_option maxRecDepth 100000 in
set_option maxHeartbeats 4000000 in
theorem c_X11_promise {d : Nat} {B cnt : Nat} {kp : Value} {ρ : pm_S} {S : FS} {za : Int32} {zb : Int32} {zc : Int32} {zd : Int32} {R : Int32 × FS} (hdd : 3 ≤ d) (hE : f_X11_promise S za zb zc zd = some R) : pm_met mX11_promise d 0 0 B [.ref (B + 0), .int za, .int zb, .int zc, .int zd] cnt (cst B kp S ρ) (pm_Qi (fun v σ' cnt' => v = R.1 ∧ σ' = (cst B kp R.2 ρ) ∧ cnt' = cnt)) := by
  refine pm_enter 0 (by decide) (Nat.le_of_ble_eq_true rfl) rfl (fun G hG hR hF => ?_)
  unfold f_X11_promise at hE
  refine pm_aloadn hG dX11_promise_0 rfl ?_
  refine pm_getf hG dX11_promise_1 (flX11_12 _ rfl) rfl rfl ?_
  refine pm_getf hG dX11_promise_4 (flX11_128 _ rfl) rfl rfl ?_
  refine pm_iloadn hG dX11_promise_7 rfl ?_
  refine pm_callV (As := [.int za]) (rest := []) hG hR dX11_promise_8 (lkX11_101 _ rfl) okV_X9_has rfl rfl (thas_6 (d := 2)) rfl rfl hdd (Nat.le_refl _) (Nat.le_refl _) (by decide) (fx_ki ?_)
  refine pm_if_eq (tgt := 40) hG dX11_promise_11 rfl (fun c1 => ?_) (fun c1 => ?_)
  · replace hE := fx_t c1 hE
    refine pm_aloadn hG dX11_promise_40 rfl ?_
    refine pm_ldc hG dX11_promise_41 (ctX11_109 _ rfl) ?_
    obtain ⟨r3, h2, hE⟩ := fb_some hE
    refine pm_callV (As := [.int (-1000001)]) (rest := []) hG hR dX11_promise_43 (lkX11_97 _ rfl) okV_X11_told rfl rfl (c_X11_told (d := 2) (by decide) h2) rfl rfl hdd (Nat.le_refl _) (Nat.le_refl _) (by decide) (fx_ki ?_)
    exact pm_iret hG hF dX11_promise_46 rfl (Nat.le_refl _) (Nat.le_refl _) (fx_ric hE)
  · replace hE := fx_f c1 hE
    refine pm_iloadn hG dX11_promise_14 rfl ?_
    refine pm_iconst (v := 0) hG dX11_promise_15 (by decide) ?_
    refine pm_iconst (v := 5) hG dX11_promise_16 (by decide) ?_
    refine pm_callS (As := [.int zb, .int 0, .int 5]) (rest := []) hG hR dX11_promise_17 (lkX11_105 _ rfl) okS_X11_isOutside (tOut (d := 2)) rfl rfl hdd (Nat.le_refl _) (Nat.le_refl _) (by decide) (fx_ki ?_)
    refine pm_if_ne (tgt := 40) hG dX11_promise_20 rfl (fun c4 => ?_) (fun c4 => ?_)
    · replace hE := fx_f c4 hE
      refine pm_aloadn hG dX11_promise_40 rfl ?_
      refine pm_ldc hG dX11_promise_41 (ctX11_109 _ rfl) ?_
      obtain ⟨r6, h5, hE⟩ := fb_some hE
      refine pm_callV (As := [.int (-1000001)]) (rest := []) hG hR dX11_promise_43 (lkX11_97 _ rfl) okV_X11_told rfl rfl (c_X11_told (d := 2) (by decide) h5) rfl rfl hdd (Nat.le_refl _) (Nat.le_refl _) (by decide) (fx_ki ?_)
      exact pm_iret hG hF dX11_promise_46 rfl (Nat.le_refl _) (Nat.le_refl _) (fx_ric hE)
    · replace hE := fx_t c4 hE
      refine pm_iloadn hG dX11_promise_23 rfl ?_
      refine pm_aloadn hG dX11_promise_24 rfl ?_
      refine pm_getf hG dX11_promise_25 (flX11_12 _ rfl) rfl rfl ?_
      refine pm_getf hG dX11_promise_28 (flX11_122 _ rfl) rfl rfl ?_
      refine pm_sipush (v := 2000) hG dX11_promise_31 (by decide) ?_
      refine pm_callS (As := [.int zc, .int (S.1 102), .int 2000]) (rest := []) hG hR dX11_promise_34 (lkX11_105 _ rfl) okS_X11_isOutside (tOut (d := 2)) rfl rfl hdd (Nat.le_refl _) (Nat.le_refl _) (by decide) (fx_ki ?_)
      refine pm_if_eq (tgt := 47) hG dX11_promise_37 rfl (fun c7 => ?_) (fun c7 => ?_)
      · replace hE := fx_t c7 hE
        refine pm_aloadn hG dX11_promise_47 rfl ?_
        refine pm_getf hG dX11_promise_48 (flX11_12 _ rfl) rfl rfl ?_
        refine pm_getf hG dX11_promise_51 (flX11_128 _ rfl) rfl rfl ?_
        refine pm_iloadn hG dX11_promise_54 rfl ?_
        refine pm_bipush (v := 13) hG dX11_promise_55 (by decide) ?_
        refine pm_callV (As := [.int za, .int 13]) (rest := []) hG hR dX11_promise_57 (lkX11_152 _ rfl) okV_X9_get rfl rfl (tget_6 (d := 2)) rfl rfl hdd (Nat.le_refl _) (Nat.le_refl _) (by decide) (fx_ki ?_)
        refine pm_if_ne (tgt := 70) hG dX11_promise_60 rfl (fun c8 => ?_) (fun c8 => ?_)
        · replace hE := fx_f c8 hE
          refine pm_aloadn hG dX11_promise_70 rfl ?_
          refine pm_aloadn hG dX11_promise_71 rfl ?_
          refine pm_getf hG dX11_promise_72 (flX11_12 _ rfl) rfl rfl ?_
          refine pm_getf hG dX11_promise_75 (flX11_277 _ rfl) rfl rfl ?_
          refine pm_callV (As := []) (rest := [.ref (B + 0)]) hG hR dX11_promise_78 (lkX11_86 _ rfl) okV_X9_isFull rfl rfl (tisFull_18 (d := 2)) rfl rfl hdd (Nat.le_refl _) (Nat.le_refl _) (by first | decide | exact Nat.le_of_ble_eq_true rfl) (fx_ki ?_)
          refine pm_if_eq (tgt := 89) hG dX11_promise_81 rfl (fun c9 => ?_) (fun c9 => ?_)
          · replace hE := fx_t c9 hE
            refine pm_aloadn hG dX11_promise_89 rfl ?_
            refine pm_getf hG dX11_promise_90 (flX11_30 _ rfl) rfl rfl ?_
            refine pm_iloadn hG dX11_promise_93 rfl ?_
            refine pm_iloadn hG dX11_promise_94 rfl ?_
            refine pm_iloadn hG dX11_promise_95 rfl ?_
            refine pm_iloadi hG dX11_promise_96 rfl ?_
            obtain ⟨r11, h10, hE⟩ := fb_some hE
            refine pm_callV (As := [.int za, .int zb, .int zc, .int zd]) (rest := [.ref (B + 0)]) hG hR dX11_promise_98 (lkX11_280 _ rfl) okV_X0_addPromise rfl rfl (c_X0_addPromise (d := 2) (by decide) h10) rfl rfl hdd (Nat.le_refl _) (Nat.le_refl _) (by first | decide | exact Nat.le_of_ble_eq_true rfl) (fx_ki ?_)
            obtain ⟨r13, h12, hE⟩ := fb_some hE
            refine pm_callV (As := [.int r11.1]) (rest := []) hG hR dX11_promise_101 (lkX11_97 _ rfl) okV_X11_told rfl rfl (c_X11_told (d := 2) (by decide) h12) rfl rfl hdd (Nat.le_refl _) (Nat.le_refl _) (by decide) (fx_ki ?_)
            exact pm_iret hG hF dX11_promise_104 rfl (Nat.le_refl _) (Nat.le_refl _) (fx_ric hE)
          · replace hE := fx_f c9 hE
            refine pm_ldc hG dX11_promise_84 (ctX11_92 _ rfl) ?_
            refine pm_goto (tgt := 101) hG dX11_promise_86 rfl ?_
            obtain ⟨r15, h14, hE⟩ := fb_some hE
            refine pm_callV (As := [.int (-1000004)]) (rest := []) hG hR dX11_promise_101 (lkX11_97 _ rfl) okV_X11_told rfl rfl (c_X11_told (d := 2) (by decide) h14) rfl rfl hdd (Nat.le_refl _) (Nat.le_refl _) (by decide) (fx_ki ?_)
            exact pm_iret hG hF dX11_promise_104 rfl (Nat.le_refl _) (Nat.le_refl _) (fx_ric hE)
        · replace hE := fx_t c8 hE
          refine pm_aloadn hG dX11_promise_63 rfl ?_
          refine pm_ldc hG dX11_promise_64 (ctX11_138 _ rfl) ?_
          obtain ⟨r17, h16, hE⟩ := fb_some hE
          refine pm_callV (As := [.int (-1000003)]) (rest := []) hG hR dX11_promise_66 (lkX11_97 _ rfl) okV_X11_told rfl rfl (c_X11_told (d := 2) (by decide) h16) rfl rfl hdd (Nat.le_refl _) (Nat.le_refl _) (by decide) (fx_ki ?_)
          exact pm_iret hG hF dX11_promise_69 rfl (Nat.le_refl _) (Nat.le_refl _) (fx_ric hE)
      · replace hE := fx_f c7 hE
        refine pm_aloadn hG dX11_promise_40 rfl ?_
        refine pm_ldc hG dX11_promise_41 (ctX11_109 _ rfl) ?_
        obtain ⟨r19, h18, hE⟩ := fb_some hE
        refine pm_callV (As := [.int (-1000001)]) (rest := []) hG hR dX11_promise_43 (lkX11_97 _ rfl) okV_X11_told rfl rfl (c_X11_told (d := 2) (by decide) h18) rfl rfl hdd (Nat.le_refl _) (Nat.le_refl _) (by decide) (fx_ki ?_)
        exact pm_iret hG hF dX11_promise_46 rfl (Nat.le_refl _) (Nat.le_refl _) (fx_ric hE)

set_option maxRecDepth 100000 in
set_option maxHeartbeats 4000000 in
theorem c_X8_setNumber {d : Nat} {B cnt : Nat} {kp : Value} {ρ : pm_S} {S : FS} {za : Int32} {zb : Int32} {zc : Int32} {R : Int32 × FS} (hdd : 2 ≤ d) (hE : f_X8_setNumber S za zb zc = some R) : pm_met mX8_setNumber d 0 0 B [.ref (B + 48), .int za, .int zb, .int zc] cnt (cst B kp S ρ) (pm_Qv (fun σ' cnt' => σ' = (cst B kp R.2 ρ) ∧ cnt' = cnt)) := by
  refine pm_enter 1 (by decide) (Nat.le_of_ble_eq_true rfl) rfl (fun G hG hR hF => ?_)
  unfold f_X8_setNumber at hE
  refine pm_aloadn hG dX8_setNumber_0 rfl ?_
  refine pm_iloadn hG dX8_setNumber_1 rfl ?_
  obtain ⟨x2, h1, hE⟩ := fb_some hE
  refine pm_callV (As := [.int za]) (rest := []) hG hR dX8_setNumber_2 (lkX8_27 _ rfl) okV_X8_bitsOf rfl rfl (c_X8_bitsOf (d := 1) (by decide) h1) rfl rfl hdd (Nat.le_refl _) (Nat.le_refl _) (by decide) (fx_ki ?_)
  refine pm_istoreXi (loc' := [some (.ref (B + 48)), some (.int za), some (.int zb), some (.int zc), some (.int x2)]) hG dX8_setNumber_5 (by decide) (pm_c1b rfl) rfl ?_
  refine pm_aloadn hG dX8_setNumber_7 rfl ?_
  refine pm_getf hG dX8_setNumber_8 (flX8_23 _ rfl) rfl rfl ?_
  refine pm_iloadn hG dX8_setNumber_11 rfl ?_
  refine pm_iloadn hG dX8_setNumber_12 rfl ?_
  refine pm_iloadi hG dX8_setNumber_13 rfl ?_
  refine pm_bipush (v := 8) hG dX8_setNumber_15 (by decide) ?_
  refine pm_icmp_ne (tgt := 25) hG dX8_setNumber_17 rfl (fun c3 => ?_) (fun c3 => ?_)
  · replace hE := fx_f c3 hE
    refine pm_iloadi hG dX8_setNumber_25 rfl ?_
    refine pm_bipush (v := 16) hG dX8_setNumber_27 (by decide) ?_
    refine pm_icmp_ne (tgt := 37) hG dX8_setNumber_29 rfl (fun c4 => ?_) (fun c4 => ?_)
    · replace hE := fx_f c4 hE
      refine pm_iloadn hG dX8_setNumber_37 rfl ?_
      refine pm_callV (As := [.int za, .int zb, .int zc]) (rest := []) hG hR dX8_setNumber_38 (lkX8_31 _ rfl) okV_X9_set rfl rfl (tset_51 (d := 1)) rfl rfl hdd (Nat.le_refl _) (Nat.le_refl _) (by decide) (fx_kv ?_)
      refine fx_letc hE (fun S5 hE => ?_)
      exact pm_vret hG hF dX8_setNumber_41 rfl (Nat.le_refl _) (Nat.le_refl _) (fx_rvc hE)
    · replace hE := fx_t c4 hE
      refine pm_iloadn hG dX8_setNumber_32 rfl ?_
      refine pm_i2s hG dX8_setNumber_33 rfl ?_
      refine pm_goto (tgt := 38) hG dX8_setNumber_34 rfl ?_
      refine pm_callV (As := [.int za, .int zb, .int zc.toInt16.toInt32]) (rest := []) hG hR dX8_setNumber_38 (lkX8_31 _ rfl) okV_X9_set rfl rfl (tset_51 (d := 1)) rfl rfl hdd (Nat.le_refl _) (Nat.le_refl _) (by decide) (fx_kv ?_)
      refine fx_letc hE (fun S6 hE => ?_)
      exact pm_vret hG hF dX8_setNumber_41 rfl (Nat.le_refl _) (Nat.le_refl _) (fx_rvc hE)
  · replace hE := fx_t c3 hE
    refine pm_iloadn hG dX8_setNumber_20 rfl ?_
    refine pm_i2b hG dX8_setNumber_21 rfl ?_
    refine pm_goto (tgt := 38) hG dX8_setNumber_22 rfl ?_
    refine pm_callV (As := [.int za, .int zb, .int zc.toInt8.toInt32]) (rest := []) hG hR dX8_setNumber_38 (lkX8_31 _ rfl) okV_X9_set rfl rfl (tset_51 (d := 1)) rfl rfl hdd (Nat.le_refl _) (Nat.le_refl _) (by decide) (fx_kv ?_)
    refine fx_letc hE (fun S7 hE => ?_)
    exact pm_vret hG hF dX8_setNumber_41 rfl (Nat.le_refl _) (Nat.le_refl _) (fx_rvc hE)

set_option maxRecDepth 100000 in
set_option maxHeartbeats 4000000 in
theorem c_X11_put {d : Nat} {B cnt : Nat} {kp : Value} {ρ : pm_S} {S : FS} {za : Int32} {zb : Int32} {zc : Int32} {R : Int32 × FS} (hdd : 3 ≤ d) (hE : f_X11_put S za zb zc = some R) : pm_met mX11_put d 0 0 B [.ref (B + 0), .int za, .int zb, .int zc] cnt (cst B kp S ρ) (pm_Qi (fun v σ' cnt' => v = R.1 ∧ σ' = (cst B kp R.2 ρ) ∧ cnt' = cnt)) := by
  refine pm_enter 0 (by decide) (Nat.le_of_ble_eq_true rfl) rfl (fun G hG hR hF => ?_)
  unfold f_X11_put at hE
  refine pm_aloadn hG dX11_put_0 rfl ?_
  refine pm_getf hG dX11_put_1 (flX11_74 _ rfl) rfl rfl ?_
  refine pm_iloadn hG dX11_put_4 rfl ?_
  refine pm_callV (As := [.int za]) (rest := []) hG hR dX11_put_5 (lkX11_251 _ rfl) okV_X8_has rfl rfl (c_X8_has (d := 2) (by decide) rfl) rfl rfl hdd (Nat.le_refl _) (Nat.le_refl _) (by decide) (fx_ki ?_)
  refine pm_if_ne (tgt := 18) hG dX11_put_8 rfl (fun c1 => ?_) (fun c1 => ?_)
  · replace hE := fx_f c1 hE
    refine pm_aloadn hG dX11_put_18 rfl ?_
    refine pm_getf hG dX11_put_19 (flX11_74 _ rfl) rfl rfl ?_
    refine pm_iloadn hG dX11_put_22 rfl ?_
    obtain ⟨x3, h2, hE⟩ := fb_some hE
    refine pm_callV (As := [.int za]) (rest := []) hG hR dX11_put_23 (lkX11_255 _ rfl) okV_X8_isMissing rfl rfl (c_X8_isMissing (d := 2) (by decide) h2) rfl rfl hdd (Nat.le_refl _) (Nat.le_refl _) (by decide) (fx_ki ?_)
    refine pm_if_eq (tgt := 36) hG dX11_put_26 rfl (fun c4 => ?_) (fun c4 => ?_)
    · replace hE := fx_t c4 hE
      refine pm_iloadn hG dX11_put_36 rfl ?_
      refine pm_if_lt (tgt := 52) hG dX11_put_37 rfl (fun c5 => ?_) (fun c5 => ?_)
      · replace hE := fx_t c5 hE
        refine pm_aloadn hG dX11_put_52 rfl ?_
        refine pm_ldc hG dX11_put_53 (ctX11_109 _ rfl) ?_
        obtain ⟨r7, h6, hE⟩ := fb_some hE
        refine pm_callV (As := [.int (-1000001)]) (rest := []) hG hR dX11_put_55 (lkX11_97 _ rfl) okV_X11_told rfl rfl (c_X11_told (d := 2) (by decide) h6) rfl rfl hdd (Nat.le_refl _) (Nat.le_refl _) (by decide) (fx_ki ?_)
        exact pm_iret hG hF dX11_put_58 rfl (Nat.le_refl _) (Nat.le_refl _) (fx_ric hE)
      · replace hE := fx_f c5 hE
        refine pm_iloadn hG dX11_put_40 rfl ?_
        refine pm_aloadn hG dX11_put_41 rfl ?_
        refine pm_getf hG dX11_put_42 (flX11_74 _ rfl) rfl rfl ?_
        refine pm_iloadn hG dX11_put_45 rfl ?_
        obtain ⟨x9, h8, hE⟩ := fb_some hE
        refine pm_callV (As := [.int za]) (rest := [.int zb]) hG hR dX11_put_46 (lkX11_261 _ rfl) okV_X8_sizeOf rfl rfl (c_X8_sizeOf (d := 2) (by decide) h8) rfl rfl hdd (Nat.le_refl _) (Nat.le_refl _) (by first | decide | exact Nat.le_of_ble_eq_true rfl) (fx_ki ?_)
        refine pm_icmp_lt (tgt := 59) hG dX11_put_49 rfl (fun c10 => ?_) (fun c10 => ?_)
        · replace hE := fx_t c10 hE
          refine pm_aloadn hG dX11_put_59 rfl ?_
          refine pm_getf hG dX11_put_60 (flX11_74 _ rfl) rfl rfl ?_
          refine pm_iloadn hG dX11_put_63 rfl ?_
          refine pm_iloadn hG dX11_put_64 rfl ?_
          refine pm_iloadn hG dX11_put_65 rfl ?_
          obtain ⟨r12, h11, hE⟩ := fb_some hE
          refine pm_callV (As := [.int za, .int zb, .int zc]) (rest := []) hG hR dX11_put_66 (lkX11_367 _ rfl) okV_X8_setNumber rfl rfl (c_X8_setNumber (d := 2) (by decide) h11) rfl rfl hdd (Nat.le_refl _) (Nat.le_refl _) (by decide) (fx_kv ?_)
          refine pm_iconst (v := 1) hG dX11_put_69 (by decide) ?_
          exact pm_iret hG hF dX11_put_70 rfl (Nat.le_refl _) (Nat.le_refl _) (fx_ric hE)
        · replace hE := fx_f c10 hE
          refine pm_aloadn hG dX11_put_52 rfl ?_
          refine pm_ldc hG dX11_put_53 (ctX11_109 _ rfl) ?_
          obtain ⟨r14, h13, hE⟩ := fb_some hE
          refine pm_callV (As := [.int (-1000001)]) (rest := []) hG hR dX11_put_55 (lkX11_97 _ rfl) okV_X11_told rfl rfl (c_X11_told (d := 2) (by decide) h13) rfl rfl hdd (Nat.le_refl _) (Nat.le_refl _) (by decide) (fx_ki ?_)
          exact pm_iret hG hF dX11_put_58 rfl (Nat.le_refl _) (Nat.le_refl _) (fx_ric hE)
    · replace hE := fx_f c4 hE
      refine pm_aloadn hG dX11_put_29 rfl ?_
      refine pm_ldc hG dX11_put_30 (ctX11_223 _ rfl) ?_
      obtain ⟨r16, h15, hE⟩ := fb_some hE
      refine pm_callV (As := [.int (-1000002)]) (rest := []) hG hR dX11_put_32 (lkX11_97 _ rfl) okV_X11_told rfl rfl (c_X11_told (d := 2) (by decide) h15) rfl rfl hdd (Nat.le_refl _) (Nat.le_refl _) (by decide) (fx_ki ?_)
      exact pm_iret hG hF dX11_put_35 rfl (Nat.le_refl _) (Nat.le_refl _) (fx_ric hE)
  · replace hE := fx_t c1 hE
    refine pm_aloadn hG dX11_put_11 rfl ?_
    refine pm_ldc hG dX11_put_12 (ctX11_109 _ rfl) ?_
    obtain ⟨r18, h17, hE⟩ := fb_some hE
    refine pm_callV (As := [.int (-1000001)]) (rest := []) hG hR dX11_put_14 (lkX11_97 _ rfl) okV_X11_told rfl rfl (c_X11_told (d := 2) (by decide) h17) rfl rfl hdd (Nat.le_refl _) (Nat.le_refl _) (by decide) (fx_ki ?_)
    exact pm_iret hG hF dX11_put_17 rfl (Nat.le_refl _) (Nat.le_refl _) (fx_ric hE)

set_option maxRecDepth 100000 in
set_option maxHeartbeats 4000000 in
theorem c_X11_rent {d : Nat} {B cnt : Nat} {kp : Value} {ρ : pm_S} {S : FS} {za : Int32} {zb : Int32} {R : Int32 × FS} (hdd : 2 ≤ d) (hE : f_X11_rent S za zb = some R) : pm_met mX11_rent d 0 0 B [.ref (B + 0), .int za, .int zb] cnt (cst B kp S ρ) (pm_Qi (fun v σ' cnt' => v = R.1 ∧ σ' = (cst B kp R.2 ρ) ∧ cnt' = cnt)) := by
  refine pm_enter 0 (by decide) (Nat.le_of_ble_eq_true rfl) rfl (fun G hG hR hF => ?_)
  unfold f_X11_rent at hE
  refine pm_aloadn hG dX11_rent_0 rfl ?_
  refine pm_getf hG dX11_rent_1 (flX11_12 _ rfl) rfl rfl ?_
  refine pm_getf hG dX11_rent_4 (flX11_82 _ rfl) rfl rfl ?_
  refine pm_iloadn hG dX11_rent_7 rfl ?_
  refine pm_callV (As := [.int za]) (rest := []) hG hR dX11_rent_8 (lkX11_101 _ rfl) okV_X9_has rfl rfl (thas_2 (d := 1)) rfl rfl hdd (Nat.le_refl _) (Nat.le_refl _) (by decide) (fx_ki ?_)
  refine pm_if_eq (tgt := 25) hG dX11_rent_11 rfl (fun c1 => ?_) (fun c1 => ?_)
  · replace hE := fx_t c1 hE
    refine pm_aloadn hG dX11_rent_25 rfl ?_
    refine pm_ldc hG dX11_rent_26 (ctX11_109 _ rfl) ?_
    obtain ⟨r3, h2, hE⟩ := fb_some hE
    refine pm_callV (As := [.int (-1000001)]) (rest := []) hG hR dX11_rent_28 (lkX11_97 _ rfl) okV_X11_told rfl rfl (c_X11_told (d := 1) (by decide) h2) rfl rfl hdd (Nat.le_refl _) (Nat.le_refl _) (by decide) (fx_ki ?_)
    exact pm_iret hG hF dX11_rent_31 rfl (Nat.le_refl _) (Nat.le_refl _) (fx_ric hE)
  · replace hE := fx_f c1 hE
    refine pm_iloadn hG dX11_rent_14 rfl ?_
    refine pm_iconst (v := 0) hG dX11_rent_15 (by decide) ?_
    refine pm_sipush (v := 999) hG dX11_rent_16 (by decide) ?_
    refine pm_callS (As := [.int zb, .int 0, .int 999]) (rest := []) hG hR dX11_rent_19 (lkX11_105 _ rfl) okS_X11_isOutside (tOut (d := 1)) rfl rfl hdd (Nat.le_refl _) (Nat.le_refl _) (by decide) (fx_ki ?_)
    refine pm_if_eq (tgt := 32) hG dX11_rent_22 rfl (fun c4 => ?_) (fun c4 => ?_)
    · replace hE := fx_t c4 hE
      refine pm_aloadn hG dX11_rent_32 rfl ?_
      refine pm_getf hG dX11_rent_33 (flX11_12 _ rfl) rfl rfl ?_
      refine pm_getf hG dX11_rent_36 (flX11_82 _ rfl) rfl rfl ?_
      refine pm_iloadn hG dX11_rent_39 rfl ?_
      refine pm_iconst (v := 0) hG dX11_rent_40 (by decide) ?_
      refine pm_iloadn hG dX11_rent_41 rfl ?_
      refine pm_callV (As := [.int za, .int 0, .int zb]) (rest := []) hG hR dX11_rent_42 (lkX11_248 _ rfl) okV_X9_swap rfl rfl (tswap_2 (d := 1) (by decide)) rfl rfl hdd (Nat.le_refl _) (Nat.le_refl _) (by decide) (fx_ki ?_)
      refine fx_letc hE (fun S5 hE => ?_)
      exact pm_iret hG hF dX11_rent_45 rfl (Nat.le_refl _) (Nat.le_refl _) (fx_ric hE)
    · replace hE := fx_f c4 hE
      refine pm_aloadn hG dX11_rent_25 rfl ?_
      refine pm_ldc hG dX11_rent_26 (ctX11_109 _ rfl) ?_
      obtain ⟨r7, h6, hE⟩ := fb_some hE
      refine pm_callV (As := [.int (-1000001)]) (rest := []) hG hR dX11_rent_28 (lkX11_97 _ rfl) okV_X11_told rfl rfl (c_X11_told (d := 1) (by decide) h6) rfl rfl hdd (Nat.le_refl _) (Nat.le_refl _) (by decide) (fx_ki ?_)
      exact pm_iret hG hF dX11_rent_31 rfl (Nat.le_refl _) (Nat.le_refl _) (fx_ric hE)

set_option maxRecDepth 100000 in
set_option maxHeartbeats 4000000 in
theorem c_X8_isWidth {d : Nat} {B cnt : Nat} {kp : Value} {ρ : pm_S} {S : FS} {za : Int32} {R : Int32} (hdd : 1 ≤ d) (hE : p_X8_isWidth S za = R) : pm_met mX8_isWidth d 0 0 B [.ref (B + 48), .int za] cnt (cst B kp S ρ) (pm_Qi (fun v σ' cnt' => v = R ∧ σ' = (cst B kp S ρ) ∧ cnt' = cnt)) := by
  refine pm_enter 0 (by decide) (Nat.le_of_ble_eq_true rfl) rfl (fun G hG hR hF => ?_)
  unfold p_X8_isWidth at hE
  refine pm_iloadn hG dX8_isWidth_0 rfl ?_
  refine pm_bipush (v := 8) hG dX8_isWidth_1 (by decide) ?_
  refine pm_icmp_eq (tgt := 18) hG dX8_isWidth_3 rfl (fun c1 => ?_) (fun c1 => ?_)
  · replace hE := fx_t c1 hE
    refine pm_iconst (v := 1) hG dX8_isWidth_18 (by decide) ?_
    refine pm_goto (tgt := 23) hG dX8_isWidth_19 rfl ?_
    exact pm_zret hG hF dX8_isWidth_23 rfl (by rfl) (Nat.le_refl _) (Nat.le_refl _) (fx_pi hE)
  · replace hE := fx_f c1 hE
    refine pm_iloadn hG dX8_isWidth_6 rfl ?_
    refine pm_bipush (v := 16) hG dX8_isWidth_7 (by decide) ?_
    refine pm_icmp_eq (tgt := 18) hG dX8_isWidth_9 rfl (fun c2 => ?_) (fun c2 => ?_)
    · replace hE := fx_t c2 hE
      refine pm_iconst (v := 1) hG dX8_isWidth_18 (by decide) ?_
      refine pm_goto (tgt := 23) hG dX8_isWidth_19 rfl ?_
      exact pm_zret hG hF dX8_isWidth_23 rfl (by rfl) (Nat.le_refl _) (Nat.le_refl _) (fx_pi hE)
    · replace hE := fx_f c2 hE
      refine pm_iloadn hG dX8_isWidth_12 rfl ?_
      refine pm_bipush (v := 32) hG dX8_isWidth_13 (by decide) ?_
      refine pm_icmp_ne (tgt := 22) hG dX8_isWidth_15 rfl (fun c3 => ?_) (fun c3 => ?_)
      · replace hE := fx_f c3 hE
        refine pm_iconst (v := 0) hG dX8_isWidth_22 (by decide) ?_
        exact pm_zret hG hF dX8_isWidth_23 rfl (by rfl) (Nat.le_refl _) (Nat.le_refl _) (fx_pi hE)
      · replace hE := fx_t c3 hE
        refine pm_iconst (v := 1) hG dX8_isWidth_18 (by decide) ?_
        refine pm_goto (tgt := 23) hG dX8_isWidth_19 rfl ?_
        exact pm_zret hG hF dX8_isWidth_23 rfl (by rfl) (Nat.le_refl _) (Nat.le_refl _) (fx_pi hE)

set_option maxRecDepth 100000 in
set_option maxHeartbeats 4000000 in
theorem c_X11_takeRents {d : Nat} {B cnt : Nat} {kp : Value} {ρ : pm_S} {S : FS} {za : Int32} {zb : Int32} {R : Int32 × FS} (hdd : 2 ≤ d) (hE : f_X11_takeRents S za zb = some R) : pm_met mX11_takeRents d 0 0 B [.ref (B + 0), .int za, .int zb] cnt (cst B kp S ρ) (pm_Qi (fun v σ' cnt' => v = R.1 ∧ σ' = (cst B kp R.2 ρ) ∧ cnt' = cnt)) := by
  refine pm_enter 3 (by decide) (Nat.le_of_ble_eq_true rfl) rfl (fun G hG hR hF => ?_)
  unfold f_X11_takeRents at hE
  refine pm_iconst (v := 0) hG dX11_takeRents_0 (by decide) ?_
  refine pm_istoreXn (loc' := [some (.ref (B + 0)), some (.int za), some (.int zb), some (.int 0), none, none]) hG dX11_takeRents_1 (by decide) (pm_c1b rfl) rfl ?_
  refine pm_iconst (v := 0) hG dX11_takeRents_2 (by decide) ?_
  refine pm_istoreXi (loc' := [some (.ref (B + 0)), some (.int za), some (.int zb), some (.int 0), some (.int 0), none]) hG dX11_takeRents_3 (by decide) (pm_c1b rfl) rfl ?_
  have loop5 : ∀ (k5 : FS → Int32 → Int32 → Option (Int32 × FS)), (∀ (S1 : FS) (x1_3 : Int32) (x1_4 : Int32), k5 S1  x1_3 x1_4 = some R → pm_wp mX11_takeRents G B 52 [some (.ref (B + 0)), some (.int za), some (.int zb), some (.int x1_3), some (.int x1_4), none] [] 0 0 cnt (cst B kp S1 ρ)) → ∀ (m5 : Nat) (S1 : FS) (x1_3 : Int32) (x1_4 : Int32), l_X11_takeRents_5 za zb k5 m5 S1  x1_3 x1_4 = some R → pm_wp mX11_takeRents G B 5 [some (.ref (B + 0)), some (.int za), some (.int zb), some (.int x1_3), some (.int x1_4), none] [] 0 0 cnt (cst B kp S1 ρ) := by
    intro k5 hk5 m5
    induction m5 with
    | zero => intro S1  x1_3 x1_4 hE; exact fx_no hE
    | succ m5 ih5 =>
      intro S1  x1_3 x1_4 hE
      rw [l_X11_takeRents_5] at hE
      refine pm_iloadi hG dX11_takeRents_5 rfl ?_
      refine pm_iloadn hG dX11_takeRents_7 rfl ?_
      refine pm_icmp_ge (tgt := 52) hG dX11_takeRents_8 rfl (fun c2 => ?_) (fun c2 => ?_)
      · replace c2 := Int32.not_lt.mpr c2
        replace hE := fx_f c2 hE
        exact hk5 _ _ _ hE
      · replace c2 := Int32.not_le.mp c2
        replace hE := fx_t c2 hE
        refine pm_aloadn hG dX11_takeRents_11 rfl ?_
        refine pm_getf hG dX11_takeRents_12 (flX11_74 _ rfl) rfl rfl ?_
        refine pm_iloadn hG dX11_takeRents_15 rfl ?_
        refine pm_iloadi hG dX11_takeRents_16 rfl ?_
        refine pm_callV (As := [.int za, .int x1_4]) (rest := []) hG hR dX11_takeRents_18 (lkX11_338 _ rfl) okV_X8_numberAt rfl rfl (c_X8_numberAt (d := 1) (by decide) rfl) rfl rfl hdd (Nat.le_refl _) (Nat.le_refl _) (by decide) (fx_ki ?_)
        refine fx_letv hE (fun x3 hE => ?_)
        refine pm_istoreXi (loc' := [some (.ref (B + 0)), some (.int za), some (.int zb), some (.int x1_3), some (.int x1_4), some (.int x3)]) hG dX11_takeRents_21 (by decide) (pm_c1b rfl) rfl ?_
        refine pm_iloadi hG dX11_takeRents_23 rfl ?_
        refine pm_if_lt (tgt := 46) hG dX11_takeRents_25 rfl (fun c4 => ?_) (fun c4 => ?_)
        · replace hE := fx_t c4 hE
          refine pm_iincX (v := x1_4 + 1) (loc' := [some (.ref (B + 0)), some (.int za), some (.int zb), some (.int x1_3), some (.int (x1_4 + 1)), some (.int x3)]) hG dX11_takeRents_46 rfl (by rfl) (by decide) (pm_c1b rfl) rfl ?_
          refine pm_goto (tgt := 5) hG dX11_takeRents_49 rfl ?_
          refine pm_fg 5 (loc' := [some (.ref (B + 0)), some (.int za), some (.int zb), some (.int x1_3), some (.int (x1_4 + 1)), none]) rfl ?_
          exact ih5 _ _ _ hE
        · replace hE := fx_f c4 hE
          refine pm_aloadn hG dX11_takeRents_28 rfl ?_
          refine pm_getf hG dX11_takeRents_29 (flX11_12 _ rfl) rfl rfl ?_
          refine pm_getf hG dX11_takeRents_32 (flX11_82 _ rfl) rfl rfl ?_
          refine pm_iloadi hG dX11_takeRents_35 rfl ?_
          refine pm_iconst (v := 0) hG dX11_takeRents_37 (by decide) ?_
          refine pm_iloadi hG dX11_takeRents_38 rfl ?_
          refine pm_callV (As := [.int x1_4, .int 0, .int x3]) (rest := []) hG hR dX11_takeRents_40 (lkX11_170 _ rfl) okV_X9_set rfl rfl (tset_2 (d := 1)) rfl rfl hdd (Nat.le_refl _) (Nat.le_refl _) (by decide) (fx_kv ?_)
          refine fx_letc hE (fun S5 hE => ?_)
          refine pm_iincX (v := x1_3 + 1) (loc' := [some (.ref (B + 0)), some (.int za), some (.int zb), some (.int (x1_3 + 1)), some (.int x1_4), some (.int x3)]) hG dX11_takeRents_43 rfl (by rfl) (by decide) (pm_c1b rfl) rfl ?_
          refine pm_iincX (v := x1_4 + 1) (loc' := [some (.ref (B + 0)), some (.int za), some (.int zb), some (.int (x1_3 + 1)), some (.int (x1_4 + 1)), some (.int x3)]) hG dX11_takeRents_46 rfl (by rfl) (by decide) (pm_c1b rfl) rfl ?_
          refine pm_goto (tgt := 5) hG dX11_takeRents_49 rfl ?_
          refine pm_fg 5 (loc' := [some (.ref (B + 0)), some (.int za), some (.int zb), some (.int (x1_3 + 1)), some (.int (x1_4 + 1)), none]) rfl ?_
          exact ih5 _ _ _ hE
  refine loop5 _ (fun S6 x6_3 x6_4 hE => ?_) _ _ _ _ hE
  refine pm_iloadn hG dX11_takeRents_52 rfl ?_
  exact pm_iret hG hF dX11_takeRents_53 rfl (Nat.le_refl _) (Nat.le_refl _) (fx_ric hE)

set_option maxRecDepth 100000 in
set_option maxHeartbeats 4000000 in
theorem c_X11_rents {d : Nat} {B cnt : Nat} {kp : Value} {ρ : pm_S} {S : FS} {za : Int32} {zb : Int32} {R : Int32 × FS} (hdd : 3 ≤ d) (hE : f_X11_rents S za zb = some R) : pm_met mX11_rents d 0 0 B [.ref (B + 0), .int za, .int zb] cnt (cst B kp S ρ) (pm_Qi (fun v σ' cnt' => v = R.1 ∧ σ' = (cst B kp R.2 ρ) ∧ cnt' = cnt)) := by
  refine pm_enter 1 (by decide) (Nat.le_of_ble_eq_true rfl) rfl (fun G hG hR hF => ?_)
  unfold f_X11_rents at hE
  refine pm_aloadn hG dX11_rents_0 rfl ?_
  refine pm_getf hG dX11_rents_1 (flX11_74 _ rfl) rfl rfl ?_
  refine pm_iloadn hG dX11_rents_4 rfl ?_
  refine pm_callV (As := [.int za]) (rest := []) hG hR dX11_rents_5 (lkX11_251 _ rfl) okV_X8_has rfl rfl (c_X8_has (d := 2) (by decide) rfl) rfl rfl hdd (Nat.le_refl _) (Nat.le_refl _) (by decide) (fx_ki ?_)
  refine pm_if_eq (tgt := 22) hG dX11_rents_8 rfl (fun c1 => ?_) (fun c1 => ?_)
  · replace hE := fx_t c1 hE
    refine pm_aloadn hG dX11_rents_22 rfl ?_
    refine pm_ldc hG dX11_rents_23 (ctX11_109 _ rfl) ?_
    obtain ⟨r3, h2, hE⟩ := fb_some hE
    refine pm_callV (As := [.int (-1000001)]) (rest := []) hG hR dX11_rents_25 (lkX11_97 _ rfl) okV_X11_told rfl rfl (c_X11_told (d := 2) (by decide) h2) rfl rfl hdd (Nat.le_refl _) (Nat.le_refl _) (by decide) (fx_ki ?_)
    exact pm_iret hG hF dX11_rents_28 rfl (Nat.le_refl _) (Nat.le_refl _) (fx_ric hE)
  · replace hE := fx_f c1 hE
    refine pm_aloadn hG dX11_rents_11 rfl ?_
    refine pm_getf hG dX11_rents_12 (flX11_74 _ rfl) rfl rfl ?_
    refine pm_iloadn hG dX11_rents_15 rfl ?_
    refine pm_callV (As := [.int zb]) (rest := []) hG hR dX11_rents_16 (lkX11_252 _ rfl) okV_X8_isWidth rfl rfl (c_X8_isWidth (d := 2) (by decide) rfl) rfl rfl hdd (Nat.le_refl _) (Nat.le_refl _) (by decide) (fx_ki ?_)
    refine pm_if_ne (tgt := 29) hG dX11_rents_19 rfl (fun c4 => ?_) (fun c4 => ?_)
    · replace hE := fx_f c4 hE
      refine pm_aloadn hG dX11_rents_29 rfl ?_
      refine pm_getf hG dX11_rents_30 (flX11_74 _ rfl) rfl rfl ?_
      refine pm_iloadn hG dX11_rents_33 rfl ?_
      obtain ⟨x6, h5, hE⟩ := fb_some hE
      refine pm_callV (As := [.int za]) (rest := []) hG hR dX11_rents_34 (lkX11_255 _ rfl) okV_X8_isMissing rfl rfl (c_X8_isMissing (d := 2) (by decide) h5) rfl rfl hdd (Nat.le_refl _) (Nat.le_refl _) (by decide) (fx_ki ?_)
      refine pm_if_eq (tgt := 47) hG dX11_rents_37 rfl (fun c7 => ?_) (fun c7 => ?_)
      · replace hE := fx_t c7 hE
        refine pm_aloadn hG dX11_rents_47 rfl ?_
        refine pm_getf hG dX11_rents_48 (flX11_74 _ rfl) rfl rfl ?_
        refine pm_iloadn hG dX11_rents_51 rfl ?_
        obtain ⟨x9, h8, hE⟩ := fb_some hE
        refine pm_callV (As := [.int za]) (rest := []) hG hR dX11_rents_52 (lkX11_258 _ rfl) okV_X8_bitsOf rfl rfl (c_X8_bitsOf (d := 2) (by decide) h8) rfl rfl hdd (Nat.le_refl _) (Nat.le_refl _) (by decide) (fx_ki ?_)
        refine pm_iloadn hG dX11_rents_55 rfl ?_
        refine pm_icmp_eq (tgt := 66) hG dX11_rents_56 rfl (fun c10 => ?_) (fun c10 => ?_)
        · replace hE := fx_t c10 hE
          refine pm_aloadn hG dX11_rents_66 rfl ?_
          refine pm_getf hG dX11_rents_67 (flX11_74 _ rfl) rfl rfl ?_
          refine pm_iloadn hG dX11_rents_70 rfl ?_
          obtain ⟨x12, h11, hE⟩ := fb_some hE
          refine pm_callV (As := [.int za]) (rest := []) hG hR dX11_rents_71 (lkX11_261 _ rfl) okV_X8_sizeOf rfl rfl (c_X8_sizeOf (d := 2) (by decide) h11) rfl rfl hdd (Nat.le_refl _) (Nat.le_refl _) (by decide) (fx_ki ?_)
          refine pm_istoreXn (loc' := [some (.ref (B + 0)), some (.int za), some (.int zb), some (.int x12)]) hG dX11_rents_74 (by decide) (pm_c1b rfl) rfl ?_
          refine pm_iloadn hG dX11_rents_75 rfl ?_
          refine pm_aloadn hG dX11_rents_76 rfl ?_
          refine pm_getf hG dX11_rents_77 (flX11_12 _ rfl) rfl rfl ?_
          refine pm_getf hG dX11_rents_80 (flX11_82 _ rfl) rfl rfl ?_
          refine pm_callV (As := []) (rest := [.int x12]) hG hR dX11_rents_83 (lkX11_203 _ rfl) okV_X9_used rfl rfl (tused_2 (d := 2)) rfl rfl hdd (Nat.le_refl _) (Nat.le_refl _) (by first | decide | exact Nat.le_of_ble_eq_true rfl) (fx_ki ?_)
          refine pm_icmp_le (tgt := 96) hG dX11_rents_86 rfl (fun c13 => ?_) (fun c13 => ?_)
          · replace c13 := Int32.not_lt.mpr c13
            replace hE := fx_f c13 hE
            refine pm_aloadn hG dX11_rents_96 rfl ?_
            refine pm_aloadn hG dX11_rents_97 rfl ?_
            refine pm_getf hG dX11_rents_98 (flX11_74 _ rfl) rfl rfl ?_
            refine pm_iloadn hG dX11_rents_101 rfl ?_
            refine pm_iconst (v := (-1)) hG dX11_rents_102 (by decide) ?_
            refine pm_sipush (v := 999) hG dX11_rents_103 (by decide) ?_
            obtain ⟨x15, h14, hE⟩ := fb_some hE
            refine pm_callV (As := [.int za, .int (-1), .int 999]) (rest := [.ref (B + 0)]) hG hR dX11_rents_106 (lkX11_264 _ rfl) okV_X8_areAllWithin rfl rfl (c_X8_areAllWithin (d := 2) (by decide) h14) rfl rfl hdd (Nat.le_refl _) (Nat.le_refl _) (by first | decide | exact Nat.le_of_ble_eq_true rfl) (fx_ki ?_)
            refine pm_if_eq (tgt := 121) hG dX11_rents_109 rfl (fun c16 => ?_) (fun c16 => ?_)
            · replace hE := fx_t c16 hE
              refine pm_ldc hG dX11_rents_121 (ctX11_109 _ rfl) ?_
              obtain ⟨r18, h17, hE⟩ := fb_some hE
              refine pm_callV (As := [.int (-1000001)]) (rest := []) hG hR dX11_rents_123 (lkX11_97 _ rfl) okV_X11_told rfl rfl (c_X11_told (d := 2) (by decide) h17) rfl rfl hdd (Nat.le_refl _) (Nat.le_refl _) (by decide) (fx_ki ?_)
              exact pm_iret hG hF dX11_rents_126 rfl (Nat.le_refl _) (Nat.le_refl _) (fx_ric hE)
            · replace hE := fx_f c16 hE
              refine pm_aloadn hG dX11_rents_112 rfl ?_
              refine pm_iloadn hG dX11_rents_113 rfl ?_
              refine pm_iloadn hG dX11_rents_114 rfl ?_
              obtain ⟨r20, h19, hE⟩ := fb_some hE
              refine pm_callV (As := [.int za, .int x12]) (rest := [.ref (B + 0)]) hG hR dX11_rents_115 (lkX11_267 _ rfl) okV_X11_takeRents rfl rfl (c_X11_takeRents (d := 2) (by decide) h19) rfl rfl hdd (Nat.le_refl _) (Nat.le_refl _) (by first | decide | exact Nat.le_of_ble_eq_true rfl) (fx_ki ?_)
              refine pm_goto (tgt := 123) hG dX11_rents_118 rfl ?_
              obtain ⟨r22, h21, hE⟩ := fb_some hE
              refine pm_callV (As := [.int r20.1]) (rest := []) hG hR dX11_rents_123 (lkX11_97 _ rfl) okV_X11_told rfl rfl (c_X11_told (d := 2) (by decide) h21) rfl rfl hdd (Nat.le_refl _) (Nat.le_refl _) (by decide) (fx_ki ?_)
              exact pm_iret hG hF dX11_rents_126 rfl (Nat.le_refl _) (Nat.le_refl _) (fx_ric hE)
          · replace c13 := Int32.not_le.mp c13
            replace hE := fx_t c13 hE
            refine pm_aloadn hG dX11_rents_89 rfl ?_
            refine pm_ldc hG dX11_rents_90 (ctX11_138 _ rfl) ?_
            obtain ⟨r24, h23, hE⟩ := fb_some hE
            refine pm_callV (As := [.int (-1000003)]) (rest := []) hG hR dX11_rents_92 (lkX11_97 _ rfl) okV_X11_told rfl rfl (c_X11_told (d := 2) (by decide) h23) rfl rfl hdd (Nat.le_refl _) (Nat.le_refl _) (by decide) (fx_ki ?_)
            exact pm_iret hG hF dX11_rents_95 rfl (Nat.le_refl _) (Nat.le_refl _) (fx_ric hE)
        · replace hE := fx_f c10 hE
          refine pm_aloadn hG dX11_rents_59 rfl ?_
          refine pm_ldc hG dX11_rents_60 (ctX11_184 _ rfl) ?_
          obtain ⟨r26, h25, hE⟩ := fb_some hE
          refine pm_callV (As := [.int (-1000005)]) (rest := []) hG hR dX11_rents_62 (lkX11_97 _ rfl) okV_X11_told rfl rfl (c_X11_told (d := 2) (by decide) h25) rfl rfl hdd (Nat.le_refl _) (Nat.le_refl _) (by decide) (fx_ki ?_)
          exact pm_iret hG hF dX11_rents_65 rfl (Nat.le_refl _) (Nat.le_refl _) (fx_ric hE)
      · replace hE := fx_f c7 hE
        refine pm_aloadn hG dX11_rents_40 rfl ?_
        refine pm_ldc hG dX11_rents_41 (ctX11_223 _ rfl) ?_
        obtain ⟨r28, h27, hE⟩ := fb_some hE
        refine pm_callV (As := [.int (-1000002)]) (rest := []) hG hR dX11_rents_43 (lkX11_97 _ rfl) okV_X11_told rfl rfl (c_X11_told (d := 2) (by decide) h27) rfl rfl hdd (Nat.le_refl _) (Nat.le_refl _) (by decide) (fx_ki ?_)
        exact pm_iret hG hF dX11_rents_46 rfl (Nat.le_refl _) (Nat.le_refl _) (fx_ric hE)
    · replace hE := fx_t c4 hE
      refine pm_aloadn hG dX11_rents_22 rfl ?_
      refine pm_ldc hG dX11_rents_23 (ctX11_109 _ rfl) ?_
      obtain ⟨r30, h29, hE⟩ := fb_some hE
      refine pm_callV (As := [.int (-1000001)]) (rest := []) hG hR dX11_rents_25 (lkX11_97 _ rfl) okV_X11_told rfl rfl (c_X11_told (d := 2) (by decide) h29) rfl rfl hdd (Nat.le_refl _) (Nat.le_refl _) (by decide) (fx_ki ?_)
      exact pm_iret hG hF dX11_rents_28 rfl (Nat.le_refl _) (Nat.le_refl _) (fx_ric hE)

set_option maxRecDepth 100000 in
set_option maxHeartbeats 4000000 in
theorem c_X7_join {d : Nat} {B cnt : Nat} {kp : Value} {ρ : pm_S} {S : FS} {za : Int32} {zb : Int32} {zc : Int32} {R : Int32 × FS} (hdd : 1 ≤ d) (hE : f_X7_join S za zb zc = some R) : pm_met mX7_join d 0 0 B [.ref (B + 1), .int za, .int zb, .int zc] cnt (cst B kp S ρ) (pm_Qi (fun v σ' cnt' => v = R.1 ∧ σ' = (cst B kp R.2 ρ) ∧ cnt' = cnt)) := by
  refine pm_enter 5 (by decide) (Nat.le_of_ble_eq_true rfl) rfl (fun G hG hR hF => ?_)
  unfold f_X7_join at hE
  refine pm_aloadn hG dX7_join_0 rfl ?_
  refine pm_getf hG dX7_join_1 (flX7_14 _ rfl) rfl rfl ?_
  refine pm_callV (As := []) (rest := []) hG hR dX7_join_4 (lkX7_79 _ rfl) okV_X9_used rfl rfl (tused_2 (d := 0)) rfl rfl hdd (Nat.le_refl _) (Nat.le_refl _) (by decide) (fx_ki ?_)
  refine fx_letv hE (fun x1 hE => ?_)
  refine pm_istoreXi (loc' := [some (.ref (B + 1)), some (.int za), some (.int zb), some (.int zc), some (.int x1), none, none, none, none]) hG dX7_join_7 (by decide) (pm_c1b rfl) rfl ?_
  refine pm_iconst (v := 0) hG dX7_join_9 (by decide) ?_
  refine pm_istoreXi (loc' := [some (.ref (B + 1)), some (.int za), some (.int zb), some (.int zc), some (.int x1), some (.int 0), none, none, none]) hG dX7_join_10 (by decide) (pm_c1b rfl) rfl ?_
  have loop12 : ∀ (k12 : FS → Int32 → Option (Int32 × FS)), (∀ (S2 : FS) (x2_5 : Int32), k12 S2  x2_5 = some R → pm_wp mX7_join G B 123 [some (.ref (B + 1)), some (.int za), some (.int zb), some (.int zc), some (.int x1), some (.int x2_5), none, none, none] [] 0 0 cnt (cst B kp S2 ρ)) → ∀ (m12 : Nat) (S2 : FS) (x2_5 : Int32), l_X7_join_12 za zb zc x1 k12 m12 S2  x2_5 = some R → pm_wp mX7_join G B 12 [some (.ref (B + 1)), some (.int za), some (.int zb), some (.int zc), some (.int x1), some (.int x2_5), none, none, none] [] 0 0 cnt (cst B kp S2 ρ) := by
    intro k12 hk12 m12
    induction m12 with
    | zero => intro S2  x2_5 hE; exact fx_no hE
    | succ m12 ih12 =>
      intro S2  x2_5 hE
      rw [l_X7_join_12] at hE
      refine pm_iloadi hG dX7_join_12 rfl ?_
      refine pm_iloadi hG dX7_join_14 rfl ?_
      refine pm_icmp_ge (tgt := 123) hG dX7_join_16 rfl (fun c3 => ?_) (fun c3 => ?_)
      · replace c3 := Int32.not_lt.mpr c3
        replace hE := fx_f c3 hE
        exact hk12 _ _ hE
      · replace c3 := Int32.not_le.mp c3
        replace hE := fx_t c3 hE
        refine pm_iconst (v := 0) hG dX7_join_19 (by decide) ?_
        refine pm_istoreXi (loc' := [some (.ref (B + 1)), some (.int za), some (.int zb), some (.int zc), some (.int x1), some (.int x2_5), some (.int 0), none, none]) hG dX7_join_20 (by decide) (pm_c1b rfl) rfl ?_
        have loop22 : ∀ (k22 : FS → Int32 → Option (Int32 × FS)), (∀ (S4 : FS) (x4_6 : Int32), k22 S4  x4_6 = some R → pm_wp mX7_join G B 117 [some (.ref (B + 1)), some (.int za), some (.int zb), some (.int zc), some (.int x1), some (.int x2_5), some (.int x4_6), none, none] [] 0 0 cnt (cst B kp S4 ρ)) → ∀ (m22 : Nat) (S4 : FS) (x4_6 : Int32), l_X7_join_22 za zb zc x1 x2_5 k22 m22 S4  x4_6 = some R → pm_wp mX7_join G B 22 [some (.ref (B + 1)), some (.int za), some (.int zb), some (.int zc), some (.int x1), some (.int x2_5), some (.int x4_6), none, none] [] 0 0 cnt (cst B kp S4 ρ) := by
          intro k22 hk22 m22
          induction m22 with
          | zero => intro S4  x4_6 hE; exact fx_no hE
          | succ m22 ih22 =>
            intro S4  x4_6 hE
            rw [l_X7_join_22] at hE
            refine pm_iloadi hG dX7_join_22 rfl ?_
            refine pm_iloadi hG dX7_join_24 rfl ?_
            refine pm_icmp_ge (tgt := 117) hG dX7_join_26 rfl (fun c5 => ?_) (fun c5 => ?_)
            · replace c5 := Int32.not_lt.mpr c5
              replace hE := fx_f c5 hE
              exact hk22 _ _ hE
            · replace c5 := Int32.not_le.mp c5
              replace hE := fx_t c5 hE
              refine pm_aloadn hG dX7_join_29 rfl ?_
              refine pm_getf hG dX7_join_30 (flX7_20 _ rfl) rfl rfl ?_
              refine pm_iloadi hG dX7_join_33 rfl ?_
              refine pm_iloadn hG dX7_join_35 rfl ?_
              refine pm_callV (As := [.int x2_5, .int za]) (rest := []) hG hR dX7_join_36 (lkX7_83 _ rfl) okV_X9_get rfl rfl (tget_4 (d := 0)) rfl rfl hdd (Nat.le_refl _) (Nat.le_refl _) (by decide) (fx_ki ?_)
              refine pm_iloadn hG dX7_join_39 rfl ?_
              refine pm_iadd hG dX7_join_40 ?_
              refine pm_aloadn hG dX7_join_41 rfl ?_
              refine pm_getf hG dX7_join_42 (flX7_20 _ rfl) rfl rfl ?_
              refine pm_iloadn hG dX7_join_45 rfl ?_
              refine pm_iloadi hG dX7_join_46 rfl ?_
              refine pm_callV (As := [.int zb, .int x4_6]) (rest := [.int ((fG 4 10 10 S4 x2_5 za) + zc)]) hG hR dX7_join_48 (lkX7_83 _ rfl) okV_X9_get rfl rfl (tget_4 (d := 0)) rfl rfl hdd (Nat.le_refl _) (Nat.le_refl _) (by first | decide | exact Nat.le_of_ble_eq_true rfl) (fx_ki ?_)
              refine pm_iadd hG dX7_join_51 ?_
              refine fx_letv hE (fun x6 hE => ?_)
              refine pm_istoreXi (loc' := [some (.ref (B + 1)), some (.int za), some (.int zb), some (.int zc), some (.int x1), some (.int x2_5), some (.int x4_6), some (.int x6), none]) hG dX7_join_52 (by decide) (pm_c1b rfl) rfl ?_
              refine pm_aloadn hG dX7_join_54 rfl ?_
              refine pm_getf hG dX7_join_55 (flX7_20 _ rfl) rfl rfl ?_
              refine pm_iloadi hG dX7_join_58 rfl ?_
              refine pm_iloadn hG dX7_join_60 rfl ?_
              refine pm_callV (As := [.int x2_5, .int zb]) (rest := []) hG hR dX7_join_61 (lkX7_83 _ rfl) okV_X9_get rfl rfl (tget_4 (d := 0)) rfl rfl hdd (Nat.le_refl _) (Nat.le_refl _) (by decide) (fx_ki ?_)
              refine pm_iloadn hG dX7_join_64 rfl ?_
              refine pm_iadd hG dX7_join_65 ?_
              refine pm_aloadn hG dX7_join_66 rfl ?_
              refine pm_getf hG dX7_join_67 (flX7_20 _ rfl) rfl rfl ?_
              refine pm_iloadn hG dX7_join_70 rfl ?_
              refine pm_iloadi hG dX7_join_71 rfl ?_
              refine pm_callV (As := [.int za, .int x4_6]) (rest := [.int ((fG 4 10 10 S4 x2_5 zb) + zc)]) hG hR dX7_join_73 (lkX7_83 _ rfl) okV_X9_get rfl rfl (tget_4 (d := 0)) rfl rfl hdd (Nat.le_refl _) (Nat.le_refl _) (by first | decide | exact Nat.le_of_ble_eq_true rfl) (fx_ki ?_)
              refine pm_iadd hG dX7_join_76 ?_
              refine fx_letv hE (fun x7 hE => ?_)
              refine pm_istoreXi (loc' := [some (.ref (B + 1)), some (.int za), some (.int zb), some (.int zc), some (.int x1), some (.int x2_5), some (.int x4_6), some (.int x6), some (.int x7)]) hG dX7_join_77 (by decide) (pm_c1b rfl) rfl ?_
              refine pm_aloadn hG dX7_join_79 rfl ?_
              refine pm_getf hG dX7_join_80 (flX7_20 _ rfl) rfl rfl ?_
              refine pm_iloadi hG dX7_join_83 rfl ?_
              refine pm_iloadi hG dX7_join_85 rfl ?_
              refine pm_aloadn hG dX7_join_87 rfl ?_
              refine pm_getf hG dX7_join_88 (flX7_20 _ rfl) rfl rfl ?_
              refine pm_iloadi hG dX7_join_91 rfl ?_
              refine pm_iloadi hG dX7_join_93 rfl ?_
              refine pm_callV (As := [.int x2_5, .int x4_6]) (rest := [.int x4_6, .int x2_5, .ref (B + 4)]) hG hR dX7_join_95 (lkX7_83 _ rfl) okV_X9_get rfl rfl (tget_4 (d := 0)) rfl rfl hdd (Nat.le_refl _) (Nat.le_refl _) (by first | decide | exact Nat.le_of_ble_eq_true rfl) (fx_ki ?_)
              refine pm_iloadi hG dX7_join_98 rfl ?_
              refine pm_iloadi hG dX7_join_100 rfl ?_
              refine pm_mmin hG hR dX7_join_102 (mmX7_87 _ rfl) pm_mwmin (by omega) (by first | decide | exact Nat.le_of_ble_eq_true rfl) (Nat.le_refl _) (Nat.le_refl _) ?_
              refine pm_top (v := imin x6 x7) rfl ?_
              refine pm_mmin hG hR dX7_join_105 (mmX7_87 _ rfl) pm_mwmin (by omega) (by first | decide | exact Nat.le_of_ble_eq_true rfl) (Nat.le_refl _) (Nat.le_refl _) ?_
              refine pm_top (v := imin (fG 4 10 10 S4 x2_5 x4_6) (imin x6 x7)) rfl ?_
              refine pm_callV (As := [.int x2_5, .int x4_6, .int (imin (fG 4 10 10 S4 x2_5 x4_6) (imin x6 x7))]) (rest := []) hG hR dX7_join_108 (lkX7_61 _ rfl) okV_X9_set rfl rfl (tset_4 (d := 0)) rfl rfl hdd (Nat.le_refl _) (Nat.le_refl _) (by decide) (fx_kv ?_)
              refine fx_letc hE (fun S8 hE => ?_)
              refine pm_iincX (v := x4_6 + 1) (loc' := [some (.ref (B + 1)), some (.int za), some (.int zb), some (.int zc), some (.int x1), some (.int x2_5), some (.int (x4_6 + 1)), some (.int x6), some (.int x7)]) hG dX7_join_111 rfl (by rfl) (by decide) (pm_c1b rfl) rfl ?_
              refine pm_goto (tgt := 22) hG dX7_join_114 rfl ?_
              refine pm_fg 7 (loc' := [some (.ref (B + 1)), some (.int za), some (.int zb), some (.int zc), some (.int x1), some (.int x2_5), some (.int (x4_6 + 1)), none, some (.int x7)]) rfl ?_
              refine pm_fg 8 (loc' := [some (.ref (B + 1)), some (.int za), some (.int zb), some (.int zc), some (.int x1), some (.int x2_5), some (.int (x4_6 + 1)), none, none]) rfl ?_
              exact ih22 _ _ hE
        refine loop22 _ (fun S9 x9_6 hE => ?_) _ _ _ hE
        refine pm_iincX (v := x2_5 + 1) (loc' := [some (.ref (B + 1)), some (.int za), some (.int zb), some (.int zc), some (.int x1), some (.int (x2_5 + 1)), some (.int x9_6), none, none]) hG dX7_join_117 rfl (by rfl) (by decide) (pm_c1b rfl) rfl ?_
        refine pm_goto (tgt := 12) hG dX7_join_120 rfl ?_
        refine pm_fg 6 (loc' := [some (.ref (B + 1)), some (.int za), some (.int zb), some (.int zc), some (.int x1), some (.int (x2_5 + 1)), none, none, none]) rfl ?_
        exact ih12 _ _ hE
  refine loop12 _ (fun S10 x10_5 hE => ?_) _ _ _ hE
  refine pm_aloadn hG dX7_join_123 rfl ?_
  refine pm_dup hG dX7_join_124 rfl ?_
  refine pm_getf hG dX7_join_125 (flX7_69 _ rfl) rfl rfl ?_
  refine pm_iconst (v := 1) hG dX7_join_128 (by decide) ?_
  refine pm_iadd hG dX7_join_129 ?_
  refine pm_putf hG dX7_join_130 (fwX7_69 _ rfl) rfl rfl rfl ?_
  refine ci_101 ?_
  refine fx_letc hE (fun S11 hE => ?_)
  refine pm_aloadn hG dX7_join_133 rfl ?_
  refine pm_getf hG dX7_join_134 (flX7_69 _ rfl) rfl rfl ?_
  exact pm_iret hG hF dX7_join_137 rfl (Nat.le_refl _) (Nat.le_refl _) (fx_ric hE)

set_option maxRecDepth 100000 in
set_option maxHeartbeats 4000000 in
theorem c_X11_road {d : Nat} {B cnt : Nat} {kp : Value} {ρ : pm_S} {S : FS} {za : Int32} {zb : Int32} {zc : Int32} {R : Int32 × FS} (hdd : 2 ≤ d) (hE : f_X11_road S za zb zc = some R) : pm_met mX11_road d 0 0 B [.ref (B + 0), .int za, .int zb, .int zc] cnt (cst B kp S ρ) (pm_Qi (fun v σ' cnt' => v = R.1 ∧ σ' = (cst B kp R.2 ρ) ∧ cnt' = cnt)) := by
  refine pm_enter 0 (by decide) (Nat.le_of_ble_eq_true rfl) rfl (fun G hG hR hF => ?_)
  unfold f_X11_road at hE
  refine pm_aloadn hG dX11_road_0 rfl ?_
  refine pm_getf hG dX11_road_1 (flX11_12 _ rfl) rfl rfl ?_
  refine pm_getf hG dX11_road_4 (flX11_82 _ rfl) rfl rfl ?_
  refine pm_iloadn hG dX11_road_7 rfl ?_
  refine pm_callV (As := [.int za]) (rest := []) hG hR dX11_road_8 (lkX11_101 _ rfl) okV_X9_has rfl rfl (thas_2 (d := 1)) rfl rfl hdd (Nat.le_refl _) (Nat.le_refl _) (by decide) (fx_ki ?_)
  refine pm_if_eq (tgt := 43) hG dX11_road_11 rfl (fun c1 => ?_) (fun c1 => ?_)
  · replace hE := fx_t c1 hE
    refine pm_aloadn hG dX11_road_43 rfl ?_
    refine pm_ldc hG dX11_road_44 (ctX11_109 _ rfl) ?_
    obtain ⟨r3, h2, hE⟩ := fb_some hE
    refine pm_callV (As := [.int (-1000001)]) (rest := []) hG hR dX11_road_46 (lkX11_97 _ rfl) okV_X11_told rfl rfl (c_X11_told (d := 1) (by decide) h2) rfl rfl hdd (Nat.le_refl _) (Nat.le_refl _) (by decide) (fx_ki ?_)
    exact pm_iret hG hF dX11_road_49 rfl (Nat.le_refl _) (Nat.le_refl _) (fx_ric hE)
  · replace hE := fx_f c1 hE
    refine pm_aloadn hG dX11_road_14 rfl ?_
    refine pm_getf hG dX11_road_15 (flX11_12 _ rfl) rfl rfl ?_
    refine pm_getf hG dX11_road_18 (flX11_82 _ rfl) rfl rfl ?_
    refine pm_iloadn hG dX11_road_21 rfl ?_
    refine pm_callV (As := [.int zb]) (rest := []) hG hR dX11_road_22 (lkX11_101 _ rfl) okV_X9_has rfl rfl (thas_2 (d := 1)) rfl rfl hdd (Nat.le_refl _) (Nat.le_refl _) (by decide) (fx_ki ?_)
    refine pm_if_eq (tgt := 43) hG dX11_road_25 rfl (fun c4 => ?_) (fun c4 => ?_)
    · replace hE := fx_t c4 hE
      refine pm_aloadn hG dX11_road_43 rfl ?_
      refine pm_ldc hG dX11_road_44 (ctX11_109 _ rfl) ?_
      obtain ⟨r6, h5, hE⟩ := fb_some hE
      refine pm_callV (As := [.int (-1000001)]) (rest := []) hG hR dX11_road_46 (lkX11_97 _ rfl) okV_X11_told rfl rfl (c_X11_told (d := 1) (by decide) h5) rfl rfl hdd (Nat.le_refl _) (Nat.le_refl _) (by decide) (fx_ki ?_)
      exact pm_iret hG hF dX11_road_49 rfl (Nat.le_refl _) (Nat.le_refl _) (fx_ric hE)
    · replace hE := fx_f c4 hE
      refine pm_iloadn hG dX11_road_28 rfl ?_
      refine pm_iloadn hG dX11_road_29 rfl ?_
      refine pm_icmp_eq (tgt := 43) hG dX11_road_30 rfl (fun c7 => ?_) (fun c7 => ?_)
      · replace hE := fx_t c7 hE
        refine pm_aloadn hG dX11_road_43 rfl ?_
        refine pm_ldc hG dX11_road_44 (ctX11_109 _ rfl) ?_
        obtain ⟨r9, h8, hE⟩ := fb_some hE
        refine pm_callV (As := [.int (-1000001)]) (rest := []) hG hR dX11_road_46 (lkX11_97 _ rfl) okV_X11_told rfl rfl (c_X11_told (d := 1) (by decide) h8) rfl rfl hdd (Nat.le_refl _) (Nat.le_refl _) (by decide) (fx_ki ?_)
        exact pm_iret hG hF dX11_road_49 rfl (Nat.le_refl _) (Nat.le_refl _) (fx_ric hE)
      · replace hE := fx_f c7 hE
        refine pm_iloadn hG dX11_road_33 rfl ?_
        refine pm_iconst (v := 1) hG dX11_road_34 (by decide) ?_
        refine pm_bipush (v := 9) hG dX11_road_35 (by decide) ?_
        refine pm_callS (As := [.int zc, .int 1, .int 9]) (rest := []) hG hR dX11_road_37 (lkX11_105 _ rfl) okS_X11_isOutside (tOut (d := 1)) rfl rfl hdd (Nat.le_refl _) (Nat.le_refl _) (by decide) (fx_ki ?_)
        refine pm_if_eq (tgt := 50) hG dX11_road_40 rfl (fun c10 => ?_) (fun c10 => ?_)
        · replace hE := fx_t c10 hE
          refine pm_aloadn hG dX11_road_50 rfl ?_
          refine pm_aloadn hG dX11_road_51 rfl ?_
          refine pm_getf hG dX11_road_52 (flX11_12 _ rfl) rfl rfl ?_
          refine pm_getf hG dX11_road_55 (flX11_110 _ rfl) rfl rfl ?_
          refine pm_bipush (v := 20) hG dX11_road_58 (by decide) ?_
          refine pm_icmp_lt (tgt := 68) hG dX11_road_60 rfl (fun c11 => ?_) (fun c11 => ?_)
          · replace hE := fx_t c11 hE
            refine pm_aloadn hG dX11_road_68 rfl ?_
            refine pm_getf hG dX11_road_69 (flX11_12 _ rfl) rfl rfl ?_
            refine pm_iloadn hG dX11_road_72 rfl ?_
            refine pm_iloadn hG dX11_road_73 rfl ?_
            refine pm_iloadn hG dX11_road_74 rfl ?_
            obtain ⟨r13, h12, hE⟩ := fb_some hE
            refine pm_callV (As := [.int za, .int zb, .int zc]) (rest := [.ref (B + 0)]) hG hR dX11_road_75 (lkX11_114 _ rfl) okV_X7_join rfl rfl (c_X7_join (d := 1) (by decide) h12) rfl rfl hdd (Nat.le_refl _) (Nat.le_refl _) (by first | decide | exact Nat.le_of_ble_eq_true rfl) (fx_ki ?_)
            obtain ⟨r15, h14, hE⟩ := fb_some hE
            refine pm_callV (As := [.int r13.1]) (rest := []) hG hR dX11_road_78 (lkX11_97 _ rfl) okV_X11_told rfl rfl (c_X11_told (d := 1) (by decide) h14) rfl rfl hdd (Nat.le_refl _) (Nat.le_refl _) (by decide) (fx_ki ?_)
            exact pm_iret hG hF dX11_road_81 rfl (Nat.le_refl _) (Nat.le_refl _) (fx_ric hE)
          · replace hE := fx_f c11 hE
            refine pm_ldc hG dX11_road_63 (ctX11_92 _ rfl) ?_
            refine pm_goto (tgt := 78) hG dX11_road_65 rfl ?_
            obtain ⟨r17, h16, hE⟩ := fb_some hE
            refine pm_callV (As := [.int (-1000004)]) (rest := []) hG hR dX11_road_78 (lkX11_97 _ rfl) okV_X11_told rfl rfl (c_X11_told (d := 1) (by decide) h16) rfl rfl hdd (Nat.le_refl _) (Nat.le_refl _) (by decide) (fx_ki ?_)
            exact pm_iret hG hF dX11_road_81 rfl (Nat.le_refl _) (Nat.le_refl _) (fx_ric hE)
        · replace hE := fx_f c10 hE
          refine pm_aloadn hG dX11_road_43 rfl ?_
          refine pm_ldc hG dX11_road_44 (ctX11_109 _ rfl) ?_
          obtain ⟨r19, h18, hE⟩ := fb_some hE
          refine pm_callV (As := [.int (-1000001)]) (rest := []) hG hR dX11_road_46 (lkX11_97 _ rfl) okV_X11_told rfl rfl (c_X11_told (d := 1) (by decide) h18) rfl rfl hdd (Nat.le_refl _) (Nat.le_refl _) (by decide) (fx_ki ?_)
          exact pm_iret hG hF dX11_road_49 rfl (Nat.le_refl _) (Nat.le_refl _) (fx_ric hE)
