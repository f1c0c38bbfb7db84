section
set_option maxRecDepth 100000 in
set_option maxHeartbeats 4000000 in
theorem c_X3_mark {d : Nat} {B cnt : Nat} {kp : Value} {ρ : pm_S} {S : FS} {za : Int32} {zb : Int32} {R : Int32 × FS} (hdd : 4 ≤ d) (hE : f_X3_mark S za zb = some R) : pm_met mX3_mark d 0 0 B [.ref (B + 36), .int za, .int zb] cnt (cst B kp S ρ) (pm_Qi (fun v σ' cnt' => v = R.1 ∧ σ' = (cst B kp R.2 ρ) ∧ cnt' = cnt)) := by
  refine pm_enter 5 (by decide) (Nat.le_of_ble_eq_true rfl) rfl (fun G hG hR hF => ?_)
  unfold f_X3_mark at hE
  refine pm_aloadn hG dX3_mark_0 rfl ?_
  refine pm_getf hG dX3_mark_1 (flX3_9 _ rfl) rfl rfl ?_
  refine pm_iloadn hG dX3_mark_4 rfl ?_
  refine pm_callV (As := [.int zb]) (rest := []) hG hR dX3_mark_5 (lkX3_52 _ rfl) okV_X7_whoHas rfl rfl (c_X7_whoHas (d := 3) (by decide) rfl) rfl rfl hdd (Nat.le_refl _) (Nat.le_refl _) (by decide) (fx_ki ?_)
  refine fx_letv hE (fun x1 hE => ?_)
  refine pm_istoreXn (loc' := [some (.ref (B + 36)), some (.int za), some (.int zb), some (.int x1), none, none, none, none]) hG dX3_mark_8 (by decide) (pm_c1b rfl) rfl ?_
  refine pm_aloadn hG dX3_mark_9 rfl ?_
  refine pm_getf hG dX3_mark_10 (flX3_29 _ rfl) rfl rfl ?_
  refine pm_iloadn hG dX3_mark_13 rfl ?_
  refine pm_iconst (v := 3) hG dX3_mark_14 (by decide) ?_
  refine pm_callV (As := [.int za, .int 3]) (rest := []) hG hR dX3_mark_15 (lkX3_35 _ rfl) okV_X9_get rfl rfl (tget_14 (d := 3)) rfl rfl hdd (Nat.le_refl _) (Nat.le_refl _) (by decide) (fx_ki ?_)
  refine fx_letv hE (fun x2 hE => ?_)
  refine pm_istoreXi (loc' := [some (.ref (B + 36)), some (.int za), some (.int zb), some (.int x1), some (.int x2), none, none, none]) hG dX3_mark_18 (by decide) (pm_c1b rfl) rfl ?_
  refine pm_aloadn hG dX3_mark_20 rfl ?_
  refine pm_iloadn hG dX3_mark_21 rfl ?_
  refine pm_callV (As := [.int za]) (rest := []) hG hR dX3_mark_22 (lkX3_55 _ rfl) okV_X3_isSent rfl rfl (c_X3_isSent (d := 3) (by decide) rfl) rfl rfl hdd (Nat.le_refl _) (Nat.le_refl _) (by decide) (fx_ki ?_)
  refine pm_if_ne (tgt := 56) hG dX3_mark_25 rfl (fun c3 => ?_) (fun c3 => ?_)
  · replace hE := fx_f c3 hE
    refine pm_ldc hG dX3_mark_56 (ctX3_62 _ rfl) ?_
    exact pm_iret hG hF dX3_mark_58 rfl (Nat.le_refl _) (Nat.le_refl _) (fx_ric hE)
  · replace hE := fx_t c3 hE
    refine pm_aloadn hG dX3_mark_28 rfl ?_
    refine pm_getf hG dX3_mark_29 (flX3_9 _ rfl) rfl rfl ?_
    refine pm_iloadn hG dX3_mark_32 rfl ?_
    refine pm_callV (As := [.int x1]) (rest := []) hG hR dX3_mark_33 (lkX3_59 _ rfl) okV_X7_isInTown rfl rfl (c_X7_isInTown (d := 3) (by decide) rfl) rfl rfl hdd (Nat.le_refl _) (Nat.le_refl _) (by decide) (fx_ki ?_)
    refine pm_if_eq (tgt := 56) hG dX3_mark_36 rfl (fun c4 => ?_) (fun c4 => ?_)
    · replace hE := fx_t c4 hE
      refine pm_ldc hG dX3_mark_56 (ctX3_62 _ rfl) ?_
      exact pm_iret hG hF dX3_mark_58 rfl (Nat.le_refl _) (Nat.le_refl _) (fx_ric hE)
    · replace hE := fx_f c4 hE
      refine pm_aloadn hG dX3_mark_39 rfl ?_
      refine pm_getf hG dX3_mark_40 (flX3_9 _ rfl) rfl rfl ?_
      refine pm_getf hG dX3_mark_43 (flX3_32 _ rfl) rfl rfl ?_
      refine pm_iloadn hG dX3_mark_46 rfl ?_
      refine pm_iconst (v := 4) hG dX3_mark_47 (by decide) ?_
      refine pm_callV (As := [.int x1, .int 4]) (rest := []) hG hR dX3_mark_48 (lkX3_35 _ rfl) okV_X9_get rfl rfl (tget_6 (d := 3)) rfl rfl hdd (Nat.le_refl _) (Nat.le_refl _) (by decide) (fx_ki ?_)
      refine pm_iloadi hG dX3_mark_51 rfl ?_
      refine pm_icmp_eq (tgt := 59) hG dX3_mark_53 rfl (fun c5 => ?_) (fun c5 => ?_)
      · replace hE := fx_t c5 hE
        refine pm_aloadn hG dX3_mark_59 rfl ?_
        refine pm_getf hG dX3_mark_60 (flX3_9 _ rfl) rfl rfl ?_
        refine pm_getf hG dX3_mark_63 (flX3_63 _ rfl) rfl rfl ?_
        refine pm_iloadn hG dX3_mark_66 rfl ?_
        refine pm_iconst (v := 5) hG dX3_mark_67 (by decide) ?_
        refine pm_callV (As := [.int zb, .int 5]) (rest := []) hG hR dX3_mark_68 (lkX3_35 _ rfl) okV_X9_get rfl rfl (tget_8 (d := 3)) rfl rfl hdd (Nat.le_refl _) (Nat.le_refl _) (by decide) (fx_ki ?_)
        refine fx_letv hE (fun x6 hE => ?_)
        refine pm_istoreXi (loc' := [some (.ref (B + 36)), some (.int za), some (.int zb), some (.int x1), some (.int x2), some (.int x6), none, none]) hG dX3_mark_71 (by decide) (pm_c1b rfl) rfl ?_
        refine pm_aloadn hG dX3_mark_73 rfl ?_
        refine pm_getf hG dX3_mark_74 (flX3_29 _ rfl) rfl rfl ?_
        refine pm_iloadn hG dX3_mark_77 rfl ?_
        refine pm_iconst (v := 4) hG dX3_mark_78 (by decide) ?_
        refine pm_callV (As := [.int za, .int 4]) (rest := []) hG hR dX3_mark_79 (lkX3_35 _ rfl) okV_X9_get rfl rfl (tget_14 (d := 3)) rfl rfl hdd (Nat.le_refl _) (Nat.le_refl _) (by decide) (fx_ki ?_)
        refine fx_letv hE (fun x7 hE => ?_)
        refine pm_istoreXi (loc' := [some (.ref (B + 36)), some (.int za), some (.int zb), some (.int x1), some (.int x2), some (.int x6), some (.int x7), none]) hG dX3_mark_82 (by decide) (pm_c1b rfl) rfl ?_
        refine pm_aloadn hG dX3_mark_84 rfl ?_
        refine pm_iloadi hG dX3_mark_85 rfl ?_
        obtain ⟨x9, h8, hE⟩ := fb_some hE
        refine pm_callV (As := [.int x6]) (rest := []) hG hR dX3_mark_87 (lkX3_66 _ rfl) okV_X3_handsWith rfl rfl (c_X3_handsWith (d := 3) (by decide) h8) rfl rfl hdd (Nat.le_refl _) (Nat.le_refl _) (by decide) (fx_ki ?_)
        refine pm_aloadn hG dX3_mark_90 rfl ?_
        refine pm_getf hG dX3_mark_91 (flX3_9 _ rfl) rfl rfl ?_
        refine pm_iloadi hG dX3_mark_94 rfl ?_
        obtain ⟨x11, h10, hE⟩ := fb_some hE
        refine pm_callV (As := [.int x2]) (rest := [.int x9]) hG hR dX3_mark_96 (lkX3_49 _ rfl) okV_X7_livingIn rfl rfl (c_X7_livingIn (d := 3) (by decide) h10) rfl rfl hdd (Nat.le_refl _) (Nat.le_refl _) (by first | decide | exact Nat.le_of_ble_eq_true rfl) (fx_ki ?_)
        refine pm_iand hG dX3_mark_99 ?_
        refine fx_letv hE (fun x12 hE => ?_)
        refine pm_istoreXi (loc' := [some (.ref (B + 36)), some (.int za), some (.int zb), some (.int x1), some (.int x2), some (.int x6), some (.int x7), some (.int x12)]) hG dX3_mark_100 (by decide) (pm_c1b rfl) rfl ?_
        refine pm_aloadn hG dX3_mark_102 rfl ?_
        refine pm_getf hG dX3_mark_103 (flX3_29 _ rfl) rfl rfl ?_
        refine pm_iloadn hG dX3_mark_106 rfl ?_
        refine pm_iconst (v := 5) hG dX3_mark_107 (by decide) ?_
        refine pm_iloadi hG dX3_mark_108 rfl ?_
        refine pm_if_ne (tgt := 118) hG dX3_mark_110 rfl (fun c13 => ?_) (fun c13 => ?_)
        · replace hE := fx_f c13 hE
          refine pm_aloadn hG dX3_mark_118 rfl ?_
          refine pm_getf hG dX3_mark_119 (flX3_29 _ rfl) rfl rfl ?_
          refine pm_iloadn hG dX3_mark_122 rfl ?_
          refine pm_iconst (v := 5) hG dX3_mark_123 (by decide) ?_
          refine pm_callV (As := [.int za, .int 5]) (rest := [.int 5, .int za, .ref (B + 14)]) hG hR dX3_mark_124 (lkX3_35 _ rfl) okV_X9_get rfl rfl (tget_14 (d := 3)) rfl rfl hdd (Nat.le_refl _) (Nat.le_refl _) (by first | decide | exact Nat.le_of_ble_eq_true rfl) (fx_ki ?_)
          refine pm_iloadi hG dX3_mark_127 rfl ?_
          refine pm_iand hG dX3_mark_129 ?_
          refine pm_callV (As := [.int za, .int 5, .int ((fG 14 40 12 S za 5) &&& x12)]) (rest := []) hG hR dX3_mark_130 (lkX3_45 _ rfl) okV_X9_set rfl rfl (tset_14 (d := 3)) rfl rfl hdd (Nat.le_refl _) (Nat.le_refl _) (by decide) (fx_kv ?_)
          refine fx_letc hE (fun S14 hE => ?_)
          refine pm_aloadn hG dX3_mark_133 rfl ?_
          refine pm_getf hG dX3_mark_134 (flX3_29 _ rfl) rfl rfl ?_
          refine pm_iloadn hG dX3_mark_137 rfl ?_
          refine pm_iconst (v := 4) hG dX3_mark_138 (by decide) ?_
          refine pm_iloadi hG dX3_mark_139 rfl ?_
          refine pm_iconst (v := 1) hG dX3_mark_141 (by decide) ?_
          refine pm_iloadi hG dX3_mark_142 rfl ?_
          refine pm_ishl hG dX3_mark_144 ?_
          refine pm_ior hG dX3_mark_145 ?_
          refine pm_callV (As := [.int za, .int 4, .int (x7 ||| ((1 : Int32) <<< (x6 &&& 31)))]) (rest := []) hG hR dX3_mark_146 (lkX3_45 _ rfl) okV_X9_set rfl rfl (tset_14 (d := 3)) rfl rfl hdd (Nat.le_refl _) (Nat.le_refl _) (by decide) (fx_kv ?_)
          refine fx_letc hE (fun S15 hE => ?_)
          refine pm_aloadn hG dX3_mark_149 rfl ?_
          refine pm_getf hG dX3_mark_150 (flX3_29 _ rfl) rfl rfl ?_
          refine pm_iloadn hG dX3_mark_153 rfl ?_
          refine pm_iconst (v := 4) hG dX3_mark_154 (by decide) ?_
          refine pm_callV (As := [.int za, .int 4]) (rest := []) hG hR dX3_mark_155 (lkX3_35 _ rfl) okV_X9_get rfl rfl (tget_14 (d := 3)) rfl rfl hdd (Nat.le_refl _) (Nat.le_refl _) (by decide) (fx_ki ?_)
          refine pm_callS (As := [.int (fG 14 40 12 S15 za 4)]) (rest := []) hG hR dX3_mark_158 (lkX3_69 _ rfl) okS_J6_bitCount_0f7a4 (c_J6_bitCount_0f7a4 (d := 3) (by decide) rfl) rfl rfl hdd (Nat.le_refl _) (Nat.le_refl _) (by decide) (fx_ki ?_)
          exact pm_iret hG hF dX3_mark_161 rfl (Nat.le_refl _) (Nat.le_refl _) (fx_ric hE)
        · replace hE := fx_t c13 hE
          refine pm_iloadi hG dX3_mark_113 rfl ?_
          refine pm_goto (tgt := 130) hG dX3_mark_115 rfl ?_
          refine pm_callV (As := [.int za, .int 5, .int x12]) (rest := []) hG hR dX3_mark_130 (lkX3_45 _ rfl) okV_X9_set rfl rfl (tset_14 (d := 3)) rfl rfl hdd (Nat.le_refl _) (Nat.le_refl _) (by decide) (fx_kv ?_)
          refine fx_letc hE (fun S16 hE => ?_)
          refine pm_aloadn hG dX3_mark_133 rfl ?_
          refine pm_getf hG dX3_mark_134 (flX3_29 _ rfl) rfl rfl ?_
          refine pm_iloadn hG dX3_mark_137 rfl ?_
          refine pm_iconst (v := 4) hG dX3_mark_138 (by decide) ?_
          refine pm_iloadi hG dX3_mark_139 rfl ?_
          refine pm_iconst (v := 1) hG dX3_mark_141 (by decide) ?_
          refine pm_iloadi hG dX3_mark_142 rfl ?_
          refine pm_ishl hG dX3_mark_144 ?_
          refine pm_ior hG dX3_mark_145 ?_
          refine pm_callV (As := [.int za, .int 4, .int (x7 ||| ((1 : Int32) <<< (x6 &&& 31)))]) (rest := []) hG hR dX3_mark_146 (lkX3_45 _ rfl) okV_X9_set rfl rfl (tset_14 (d := 3)) rfl rfl hdd (Nat.le_refl _) (Nat.le_refl _) (by decide) (fx_kv ?_)
          refine fx_letc hE (fun S17 hE => ?_)
          refine pm_aloadn hG dX3_mark_149 rfl ?_
          refine pm_getf hG dX3_mark_150 (flX3_29 _ rfl) rfl rfl ?_
          refine pm_iloadn hG dX3_mark_153 rfl ?_
          refine pm_iconst (v := 4) hG dX3_mark_154 (by decide) ?_
          refine pm_callV (As := [.int za, .int 4]) (rest := []) hG hR dX3_mark_155 (lkX3_35 _ rfl) okV_X9_get rfl rfl (tget_14 (d := 3)) rfl rfl hdd (Nat.le_refl _) (Nat.le_refl _) (by decide) (fx_ki ?_)
          refine pm_callS (As := [.int (fG 14 40 12 S17 za 4)]) (rest := []) hG hR dX3_mark_158 (lkX3_69 _ rfl) okS_J6_bitCount_0f7a4 (c_J6_bitCount_0f7a4 (d := 3) (by decide) rfl) rfl rfl hdd (Nat.le_refl _) (Nat.le_refl _) (by decide) (fx_ki ?_)
          exact pm_iret hG hF dX3_mark_161 rfl (Nat.le_refl _) (Nat.le_refl _) (fx_ric hE)
      · replace hE := fx_f c5 hE
        refine pm_ldc hG dX3_mark_56 (ctX3_62 _ rfl) ?_
        exact pm_iret hG hF dX3_mark_58 rfl (Nat.le_refl _) (Nat.le_refl _) (fx_ric hE)

set_option maxRecDepth 100000 in
set_option maxHeartbeats 4000000 in
theorem c_X11_press {d : Nat} {B cnt : Nat} {kp : Value} {ρ : pm_S} {S : FS} {za : Int32} {zb : Int32} {R : Int32 × FS} (hdd : 5 ≤ d) (hE : f_X11_press S za zb = some R) : pm_met mX11_press d 0 0 B [.ref (B + 0), .int za, .int zb] cnt (cst B kp S ρ) (pm_Qi (fun v σ' cnt' => v = R.1 ∧ σ' = (cst B kp R.2 ρ) ∧ cnt' = cnt)) := by
  refine pm_enter 0 (by decide) (Nat.le_of_ble_eq_true rfl) rfl (fun G hG hR hF => ?_)
  unfold f_X11_press at hE
  refine pm_aloadn hG dX11_press_0 rfl ?_
  refine pm_getf hG dX11_press_1 (flX11_12 _ rfl) rfl rfl ?_
  refine pm_getf hG dX11_press_4 (flX11_224 _ rfl) rfl rfl ?_
  refine pm_iloadn hG dX11_press_7 rfl ?_
  refine pm_callV (As := [.int za]) (rest := []) hG hR dX11_press_8 (lkX11_101 _ rfl) okV_X9_has rfl rfl (thas_14 (d := 4)) rfl rfl hdd (Nat.le_refl _) (Nat.le_refl _) (by decide) (fx_ki ?_)
  refine pm_if_eq (tgt := 28) hG dX11_press_11 rfl (fun c1 => ?_) (fun c1 => ?_)
  · replace hE := fx_t c1 hE
    refine pm_aloadn hG dX11_press_28 rfl ?_
    refine pm_ldc hG dX11_press_29 (ctX11_109 _ rfl) ?_
    obtain ⟨r3, h2, hE⟩ := fb_some hE
    refine pm_callV (As := [.int (-1000001)]) (rest := []) hG hR dX11_press_31 (lkX11_97 _ rfl) okV_X11_told rfl rfl (c_X11_told (d := 4) (by decide) h2) rfl rfl hdd (Nat.le_refl _) (Nat.le_refl _) (by decide) (fx_ki ?_)
    exact pm_iret hG hF dX11_press_34 rfl (Nat.le_refl _) (Nat.le_refl _) (fx_ric hE)
  · replace hE := fx_f c1 hE
    refine pm_aloadn hG dX11_press_14 rfl ?_
    refine pm_getf hG dX11_press_15 (flX11_12 _ rfl) rfl rfl ?_
    refine pm_getf hG dX11_press_18 (flX11_161 _ rfl) rfl rfl ?_
    refine pm_iloadn hG dX11_press_21 rfl ?_
    refine pm_callV (As := [.int zb]) (rest := []) hG hR dX11_press_22 (lkX11_101 _ rfl) okV_X9_has rfl rfl (thas_8 (d := 4)) rfl rfl hdd (Nat.le_refl _) (Nat.le_refl _) (by decide) (fx_ki ?_)
    refine pm_if_ne (tgt := 35) hG dX11_press_25 rfl (fun c4 => ?_) (fun c4 => ?_)
    · replace hE := fx_f c4 hE
      refine pm_aloadn hG dX11_press_35 rfl ?_
      refine pm_aloadn hG dX11_press_36 rfl ?_
      refine pm_getf hG dX11_press_37 (flX11_12 _ rfl) rfl rfl ?_
      refine pm_iloadn hG dX11_press_40 rfl ?_
      refine pm_iconst (v := 2) hG dX11_press_41 (by decide) ?_
      obtain ⟨x6, h5, hE⟩ := fb_some hE
      refine pm_callV (As := [.int zb, .int 2]) (rest := [.ref (B + 0)]) hG hR dX11_press_42 (lkX11_180 _ rfl) okV_X7_isOfKind rfl rfl (c_X7_isOfKind (d := 4) (by decide) h5) rfl rfl hdd (Nat.le_refl _) (Nat.le_refl _) (by first | decide | exact Nat.le_of_ble_eq_true rfl) (fx_ki ?_)
      refine pm_if_eq (tgt := 60) hG dX11_press_45 rfl (fun c7 => ?_) (fun c7 => ?_)
      · replace hE := fx_t c7 hE
        refine pm_ldc hG dX11_press_60 (ctX11_184 _ rfl) ?_
        obtain ⟨r9, h8, hE⟩ := fb_some hE
        refine pm_callV (As := [.int (-1000005)]) (rest := []) hG hR dX11_press_62 (lkX11_97 _ rfl) okV_X11_told rfl rfl (c_X11_told (d := 4) (by decide) h8) rfl rfl hdd (Nat.le_refl _) (Nat.le_refl _) (by decide) (fx_ki ?_)
        exact pm_iret hG hF dX11_press_65 rfl (Nat.le_refl _) (Nat.le_refl _) (fx_ric hE)
      · replace hE := fx_f c7 hE
        refine pm_aloadn hG dX11_press_48 rfl ?_
        refine pm_getf hG dX11_press_49 (flX11_39 _ rfl) rfl rfl ?_
        refine pm_iloadn hG dX11_press_52 rfl ?_
        refine pm_iloadn hG dX11_press_53 rfl ?_
        obtain ⟨r11, h10, hE⟩ := fb_some hE
        refine pm_callV (As := [.int za, .int zb]) (rest := [.ref (B + 0)]) hG hR dX11_press_54 (lkX11_233 _ rfl) okV_X3_mark rfl rfl (c_X3_mark (d := 4) (by decide) h10) rfl rfl hdd (Nat.le_refl _) (Nat.le_refl _) (by first | decide | exact Nat.le_of_ble_eq_true rfl) (fx_ki ?_)
        refine pm_goto (tgt := 62) hG dX11_press_57 rfl ?_
        obtain ⟨r13, h12, hE⟩ := fb_some hE
        refine pm_callV (As := [.int r11.1]) (rest := []) hG hR dX11_press_62 (lkX11_97 _ rfl) okV_X11_told rfl rfl (c_X11_told (d := 4) (by decide) h12) rfl rfl hdd (Nat.le_refl _) (Nat.le_refl _) (by decide) (fx_ki ?_)
        exact pm_iret hG hF dX11_press_65 rfl (Nat.le_refl _) (Nat.le_refl _) (fx_ric hE)
    · replace hE := fx_t c4 hE
      refine pm_aloadn hG dX11_press_28 rfl ?_
      refine pm_ldc hG dX11_press_29 (ctX11_109 _ rfl) ?_
      obtain ⟨r15, h14, hE⟩ := fb_some hE
      refine pm_callV (As := [.int (-1000001)]) (rest := []) hG hR dX11_press_31 (lkX11_97 _ rfl) okV_X11_told rfl rfl (c_X11_told (d := 4) (by decide) h14) rfl rfl hdd (Nat.le_refl _) (Nat.le_refl _) (by decide) (fx_ki ?_)
      exact pm_iret hG hF dX11_press_34 rfl (Nat.le_refl _) (Nat.le_refl _) (fx_ric hE)

set_option maxRecDepth 100000 in
set_option maxHeartbeats 4000000 in
theorem c_X11_price {d : Nat} {B cnt : Nat} {kp : Value} {ρ : pm_S} {S : FS} {za : Int32} {zb : Int32} {R : Int32 × FS} (hdd : 2 ≤ d) (hE : f_X11_price S za zb = some R) : pm_met mX11_price d 0 0 B [.ref (B + 0), .int za, .int zb] cnt (cst B kp S ρ) (pm_Qi (fun v σ' cnt' => v = R.1 ∧ σ' = (cst B kp R.2 ρ) ∧ cnt' = cnt)) := by
  refine pm_enter 0 (by decide) (Nat.le_of_ble_eq_true rfl) rfl (fun G hG hR hF => ?_)
  unfold f_X11_price at hE
  refine pm_aloadn hG dX11_price_0 rfl ?_
  refine pm_getf hG dX11_price_1 (flX11_12 _ rfl) rfl rfl ?_
  refine pm_getf hG dX11_price_4 (flX11_128 _ rfl) rfl rfl ?_
  refine pm_iloadn hG dX11_price_7 rfl ?_
  refine pm_callV (As := [.int za]) (rest := []) hG hR dX11_price_8 (lkX11_101 _ rfl) okV_X9_has rfl rfl (thas_6 (d := 1)) rfl rfl hdd (Nat.le_refl _) (Nat.le_refl _) (by decide) (fx_ki ?_)
  refine pm_if_eq (tgt := 25) hG dX11_price_11 rfl (fun c1 => ?_) (fun c1 => ?_)
  · replace hE := fx_t c1 hE
    refine pm_aloadn hG dX11_price_25 rfl ?_
    refine pm_ldc hG dX11_price_26 (ctX11_109 _ rfl) ?_
    obtain ⟨r3, h2, hE⟩ := fb_some hE
    refine pm_callV (As := [.int (-1000001)]) (rest := []) hG hR dX11_price_28 (lkX11_97 _ rfl) okV_X11_told rfl rfl (c_X11_told (d := 1) (by decide) h2) rfl rfl hdd (Nat.le_refl _) (Nat.le_refl _) (by decide) (fx_ki ?_)
    exact pm_iret hG hF dX11_price_31 rfl (Nat.le_refl _) (Nat.le_refl _) (fx_ric hE)
  · replace hE := fx_f c1 hE
    refine pm_iloadn hG dX11_price_14 rfl ?_
    refine pm_iconst (v := 1) hG dX11_price_15 (by decide) ?_
    refine pm_sipush (v := 999) hG dX11_price_16 (by decide) ?_
    refine pm_callS (As := [.int zb, .int 1, .int 999]) (rest := []) hG hR dX11_price_19 (lkX11_105 _ rfl) okS_X11_isOutside (tOut (d := 1)) rfl rfl hdd (Nat.le_refl _) (Nat.le_refl _) (by decide) (fx_ki ?_)
    refine pm_if_eq (tgt := 32) hG dX11_price_22 rfl (fun c4 => ?_) (fun c4 => ?_)
    · replace hE := fx_t c4 hE
      refine pm_aloadn hG dX11_price_32 rfl ?_
      refine pm_getf hG dX11_price_33 (flX11_12 _ rfl) rfl rfl ?_
      refine pm_getf hG dX11_price_36 (flX11_128 _ rfl) rfl rfl ?_
      refine pm_iloadn hG dX11_price_39 rfl ?_
      refine pm_bipush (v := 12) hG dX11_price_40 (by decide) ?_
      refine pm_iloadn hG dX11_price_42 rfl ?_
      refine pm_callV (As := [.int za, .int 12, .int zb]) (rest := []) hG hR dX11_price_43 (lkX11_248 _ rfl) okV_X9_swap rfl rfl (tswap_6 (d := 1) (by decide)) rfl rfl hdd (Nat.le_refl _) (Nat.le_refl _) (by decide) (fx_ki ?_)
      refine fx_letc hE (fun S5 hE => ?_)
      exact pm_iret hG hF dX11_price_46 rfl (Nat.le_refl _) (Nat.le_refl _) (fx_ric hE)
    · replace hE := fx_f c4 hE
      refine pm_aloadn hG dX11_price_25 rfl ?_
      refine pm_ldc hG dX11_price_26 (ctX11_109 _ rfl) ?_
      obtain ⟨r7, h6, hE⟩ := fb_some hE
      refine pm_callV (As := [.int (-1000001)]) (rest := []) hG hR dX11_price_28 (lkX11_97 _ rfl) okV_X11_told rfl rfl (c_X11_told (d := 1) (by decide) h6) rfl rfl hdd (Nat.le_refl _) (Nat.le_refl _) (by decide) (fx_ki ?_)
      exact pm_iret hG hF dX11_price_31 rfl (Nat.le_refl _) (Nat.le_refl _) (fx_ric hE)

set_option maxRecDepth 100000 in
set_option maxHeartbeats 4000000 in
theorem c_X11_promise {d : Nat} {B cnt : Nat} {kp : Value} {ρ : pm_S} {S : FS} {za : Int32} {zb : Int32} {zc : Int32} {zd : Int32} {R : Int32 × FS} (hdd : 3 ≤ d) (hE : f_X11_promise S za zb zc zd = some R) : pm_met mX11_promise d 0 0 B [.ref (B + 0), .int za, .int zb, .int zc, .int zd] cnt (cst B kp S ρ) (pm_Qi (fun v σ' cnt' => v = R.1 ∧ σ' = (cst B kp R.2 ρ) ∧ cnt' = cnt)) := by
  refine pm_enter 0 (by decide) (Nat.le_of_ble_eq_true rfl) rfl (fun G hG hR hF => ?_)
  unfold f_X11_promise at hE
  refine pm_aloadn hG dX11_promise_0 rfl ?_
  refine pm_getf hG dX11_promise_1 (flX11_12 _ rfl) rfl rfl ?_
  refine pm_getf hG dX11_promise_4 (flX11_128 _ rfl) rfl rfl ?_
  refine pm_iloadn hG dX11_promise_7 rfl ?_
  refine pm_callV (As := [.int za]) (rest := []) hG hR dX11_promise_8 (lkX11_101 _ rfl) okV_X9_has rfl rfl (thas_6 (d := 2)) rfl rfl hdd (Nat.le_refl _) (Nat.le_refl _) (by decide) (fx_ki ?_)
  refine pm_if_eq (tgt := 40) hG dX11_promise_11 rfl (fun c1 => ?_) (fun c1 => ?_)
  · replace hE := fx_t c1 hE
    refine pm_aloadn hG dX11_promise_40 rfl ?_
    refine pm_ldc hG dX11_promise_41 (ctX11_109 _ rfl) ?_
    obtain ⟨r3, h2, hE⟩ := fb_some hE
    refine pm_callV (As := [.int (-1000001)]) (rest := []) hG hR dX11_promise_43 (lkX11_97 _ rfl) okV_X11_told rfl rfl (c_X11_told (d := 2) (by decide) h2) rfl rfl hdd (Nat.le_refl _) (Nat.le_refl _) (by decide) (fx_ki ?_)
    exact pm_iret hG hF dX11_promise_46 rfl (Nat.le_refl _) (Nat.le_refl _) (fx_ric hE)
  · replace hE := fx_f c1 hE
    refine pm_iloadn hG dX11_promise_14 rfl ?_
    refine pm_iconst (v := 0) hG dX11_promise_15 (by decide) ?_
    refine pm_iconst (v := 5) hG dX11_promise_16 (by decide) ?_
    refine pm_callS (As := [.int zb, .int 0, .int 5]) (rest := []) hG hR dX11_promise_17 (lkX11_105 _ rfl) okS_X11_isOutside (tOut (d := 2)) rfl rfl hdd (Nat.le_refl _) (Nat.le_refl _) (by decide) (fx_ki ?_)
    refine pm_if_ne (tgt := 40) hG dX11_promise_20 rfl (fun c4 => ?_) (fun c4 => ?_)
    · replace hE := fx_f c4 hE
      refine pm_aloadn hG dX11_promise_40 rfl ?_
      refine pm_ldc hG dX11_promise_41 (ctX11_109 _ rfl) ?_
      obtain ⟨r6, h5, hE⟩ := fb_some hE
      refine pm_callV (As := [.int (-1000001)]) (rest := []) hG hR dX11_promise_43 (lkX11_97 _ rfl) okV_X11_told rfl rfl (c_X11_told (d := 2) (by decide) h5) rfl rfl hdd (Nat.le_refl _) (Nat.le_refl _) (by decide) (fx_ki ?_)
      exact pm_iret hG hF dX11_promise_46 rfl (Nat.le_refl _) (Nat.le_refl _) (fx_ric hE)
    · replace hE := fx_t c4 hE
      refine pm_iloadn hG dX11_promise_23 rfl ?_
      refine pm_aloadn hG dX11_promise_24 rfl ?_
      refine pm_getf hG dX11_promise_25 (flX11_12 _ rfl) rfl rfl ?_
      refine pm_getf hG dX11_promise_28 (flX11_122 _ rfl) rfl rfl ?_
      refine pm_sipush (v := 2000) hG dX11_promise_31 (by decide) ?_
      refine pm_callS (As := [.int zc, .int (S.1 102), .int 2000]) (rest := []) hG hR dX11_promise_34 (lkX11_105 _ rfl) okS_X11_isOutside (tOut (d := 2)) rfl rfl hdd (Nat.le_refl _) (Nat.le_refl _) (by decide) (fx_ki ?_)
      refine pm_if_eq (tgt := 47) hG dX11_promise_37 rfl (fun c7 => ?_) (fun c7 => ?_)
      · replace hE := fx_t c7 hE
        refine pm_aloadn hG dX11_promise_47 rfl ?_
        refine pm_getf hG dX11_promise_48 (flX11_12 _ rfl) rfl rfl ?_
        refine pm_getf hG dX11_promise_51 (flX11_128 _ rfl) rfl rfl ?_
        refine pm_iloadn hG dX11_promise_54 rfl ?_
        refine pm_bipush (v := 13) hG dX11_promise_55 (by decide) ?_
        refine pm_callV (As := [.int za, .int 13]) (rest := []) hG hR dX11_promise_57 (lkX11_152 _ rfl) okV_X9_get rfl rfl (tget_6 (d := 2)) rfl rfl hdd (Nat.le_refl _) (Nat.le_refl _) (by decide) (fx_ki ?_)
        refine pm_if_ne (tgt := 70) hG dX11_promise_60 rfl (fun c8 => ?_) (fun c8 => ?_)
        · replace hE := fx_f c8 hE
          refine pm_aloadn hG dX11_promise_70 rfl ?_
          refine pm_aloadn hG dX11_promise_71 rfl ?_
          refine pm_getf hG dX11_promise_72 (flX11_12 _ rfl) rfl rfl ?_
          refine pm_getf hG dX11_promise_75 (flX11_277 _ rfl) rfl rfl ?_
          refine pm_callV (As := []) (rest := [.ref (B + 0)]) hG hR dX11_promise_78 (lkX11_86 _ rfl) okV_X9_isFull rfl rfl (tisFull_18 (d := 2)) rfl rfl hdd (Nat.le_refl _) (Nat.le_refl _) (by first | decide | exact Nat.le_of_ble_eq_true rfl) (fx_ki ?_)
          refine pm_if_eq (tgt := 89) hG dX11_promise_81 rfl (fun c9 => ?_) (fun c9 => ?_)
          · replace hE := fx_t c9 hE
            refine pm_aloadn hG dX11_promise_89 rfl ?_
            refine pm_getf hG dX11_promise_90 (flX11_30 _ rfl) rfl rfl ?_
            refine pm_iloadn hG dX11_promise_93 rfl ?_
            refine pm_iloadn hG dX11_promise_94 rfl ?_
            refine pm_iloadn hG dX11_promise_95 rfl ?_
            refine pm_iloadi hG dX11_promise_96 rfl ?_
            obtain ⟨r11, h10, hE⟩ := fb_some hE
            refine pm_callV (As := [.int za, .int zb, .int zc, .int zd]) (rest := [.ref (B + 0)]) hG hR dX11_promise_98 (lkX11_280 _ rfl) okV_X0_addPromise rfl rfl (c_X0_addPromise (d := 2) (by decide) h10) rfl rfl hdd (Nat.le_refl _) (Nat.le_refl _) (by first | decide | exact Nat.le_of_ble_eq_true rfl) (fx_ki ?_)
            obtain ⟨r13, h12, hE⟩ := fb_some hE
            refine pm_callV (As := [.int r11.1]) (rest := []) hG hR dX11_promise_101 (lkX11_97 _ rfl) okV_X11_told rfl rfl (c_X11_told (d := 2) (by decide) h12) rfl rfl hdd (Nat.le_refl _) (Nat.le_refl _) (by decide) (fx_ki ?_)
            exact pm_iret hG hF dX11_promise_104 rfl (Nat.le_refl _) (Nat.le_refl _) (fx_ric hE)
          · replace hE := fx_f c9 hE
            refine pm_ldc hG dX11_promise_84 (ctX11_92 _ rfl) ?_
            refine pm_goto (tgt := 101) hG dX11_promise_86 rfl ?_
            obtain ⟨r15, h14, hE⟩ := fb_some hE
            refine pm_callV (As := [.int (-1000004)]) (rest := []) hG hR dX11_promise_101 (lkX11_97 _ rfl) okV_X11_told rfl rfl (c_X11_told (d := 2) (by decide) h14) rfl rfl hdd (Nat.le_refl _) (Nat.le_refl _) (by decide) (fx_ki ?_)
            exact pm_iret hG hF dX11_promise_104 rfl (Nat.le_refl _) (Nat.le_refl _) (fx_ric hE)
        · replace hE := fx_t c8 hE
          refine pm_aloadn hG dX11_promise_63 rfl ?_
          refine pm_ldc hG dX11_promise_64 (ctX11_138 _ rfl) ?_
          obtain ⟨r17, h16, hE⟩ := fb_some hE
          refine pm_callV (As := [.int (-1000003)]) (rest := []) hG hR dX11_promise_66 (lkX11_97 _ rfl) okV_X11_told rfl rfl (c_X11_told (d := 2) (by decide) h16) rfl rfl hdd (Nat.le_refl _) (Nat.le_refl _) (by decide) (fx_ki ?_)
          exact pm_iret hG hF dX11_promise_69 rfl (Nat.le_refl _) (Nat.le_refl _) (fx_ric hE)
      · replace hE := fx_f c7 hE
        refine pm_aloadn hG dX11_promise_40 rfl ?_
        refine pm_ldc hG dX11_promise_41 (ctX11_109 _ rfl) ?_
        obtain ⟨r19, h18, hE⟩ := fb_some hE
        refine pm_callV (As := [.int (-1000001)]) (rest := []) hG hR dX11_promise_43 (lkX11_97 _ rfl) okV_X11_told rfl rfl (c_X11_told (d := 2) (by decide) h18) rfl rfl hdd (Nat.le_refl _) (Nat.le_refl _) (by decide) (fx_ki ?_)
        exact pm_iret hG hF dX11_promise_46 rfl (Nat.le_refl _) (Nat.le_refl _) (fx_ric hE)

set_option maxRecDepth 100000 in
set_option maxHeartbeats 4000000 in
theorem c_X8_setNumber {d : Nat} {B cnt : Nat} {kp : Value} {ρ : pm_S} {S : FS} {za : Int32} {zb : Int32} {zc : Int32} {R : Int32 × FS} (hdd : 2 ≤ d) (hE : f_X8_setNumber S za zb zc = some R) : pm_met mX8_setNumber d 0 0 B [.ref (B + 48), .int za, .int zb, .int zc] cnt (cst B kp S ρ) (pm_Qv (fun σ' cnt' => σ' = (cst B kp R.2 ρ) ∧ cnt' = cnt)) := by
  refine pm_enter 1 (by decide) (Nat.le_of_ble_eq_true rfl) rfl (fun G hG hR hF => ?_)
  unfold f_X8_setNumber at hE
  refine pm_aloadn hG dX8_setNumber_0 rfl ?_
  refine pm_iloadn hG dX8_setNumber_1 rfl ?_
  obtain ⟨x2, h1, hE⟩ := fb_some hE
  refine pm_callV (As := [.int za]) (rest := []) hG hR dX8_setNumber_2 (lkX8_27 _ rfl) okV_X8_bitsOf rfl rfl (c_X8_bitsOf (d := 1) (by decide) h1) rfl rfl hdd (Nat.le_refl _) (Nat.le_refl _) (by decide) (fx_ki ?_)
  refine pm_istoreXi (loc' := [some (.ref (B + 48)), some (.int za), some (.int zb), some (.int zc), some (.int x2)]) hG dX8_setNumber_5 (by decide) (pm_c1b rfl) rfl ?_
  refine pm_aloadn hG dX8_setNumber_7 rfl ?_
  refine pm_getf hG dX8_setNumber_8 (flX8_23 _ rfl) rfl rfl ?_
  refine pm_iloadn hG dX8_setNumber_11 rfl ?_
  refine pm_iloadn hG dX8_setNumber_12 rfl ?_
  refine pm_iloadi hG dX8_setNumber_13 rfl ?_
  refine pm_bipush (v := 8) hG dX8_setNumber_15 (by decide) ?_
  refine pm_icmp_ne (tgt := 25) hG dX8_setNumber_17 rfl (fun c3 => ?_) (fun c3 => ?_)
  · replace hE := fx_f c3 hE
    refine pm_iloadi hG dX8_setNumber_25 rfl ?_
    refine pm_bipush (v := 16) hG dX8_setNumber_27 (by decide) ?_
    refine pm_icmp_ne (tgt := 37) hG dX8_setNumber_29 rfl (fun c4 => ?_) (fun c4 => ?_)
    · replace hE := fx_f c4 hE
      refine pm_iloadn hG dX8_setNumber_37 rfl ?_
      refine pm_callV (As := [.int za, .int zb, .int zc]) (rest := []) hG hR dX8_setNumber_38 (lkX8_31 _ rfl) okV_X9_set rfl rfl (tset_51 (d := 1)) rfl rfl hdd (Nat.le_refl _) (Nat.le_refl _) (by decide) (fx_kv ?_)
      refine fx_letc hE (fun S5 hE => ?_)
      exact pm_vret hG hF dX8_setNumber_41 rfl (Nat.le_refl _) (Nat.le_refl _) (fx_rvc hE)
    · replace hE := fx_t c4 hE
      refine pm_iloadn hG dX8_setNumber_32 rfl ?_
      refine pm_i2s hG dX8_setNumber_33 rfl ?_
      refine pm_goto (tgt := 38) hG dX8_setNumber_34 rfl ?_
      refine pm_callV (As := [.int za, .int zb, .int zc.toInt16.toInt32]) (rest := []) hG hR dX8_setNumber_38 (lkX8_31 _ rfl) okV_X9_set rfl rfl (tset_51 (d := 1)) rfl rfl hdd (Nat.le_refl _) (Nat.le_refl _) (by decide) (fx_kv ?_)
      refine fx_letc hE (fun S6 hE => ?_)
      exact pm_vret hG hF dX8_setNumber_41 rfl (Nat.le_refl _) (Nat.le_refl _) (fx_rvc hE)
  · replace hE := fx_t c3 hE
    refine pm_iloadn hG dX8_setNumber_20 rfl ?_
    refine pm_i2b hG dX8_setNumber_21 rfl ?_
    refine pm_goto (tgt := 38) hG dX8_setNumber_22 rfl ?_
    refine pm_callV (As := [.int za, .int zb, .int zc.toInt8.toInt32]) (rest := []) hG hR dX8_setNumber_38 (lkX8_31 _ rfl) okV_X9_set rfl rfl (tset_51 (d := 1)) rfl rfl hdd (Nat.le_refl _) (Nat.le_refl _) (by decide) (fx_kv ?_)
    refine fx_letc hE (fun S7 hE => ?_)
    exact pm_vret hG hF dX8_setNumber_41 rfl (Nat.le_refl _) (Nat.le_refl _) (fx_rvc hE)

set_option maxRecDepth 100000 in
set_option maxHeartbeats 4000000 in
theorem c_X11_put {d : Nat} {B cnt : Nat} {kp : Value} {ρ : pm_S} {S : FS} {za : Int32} {zb : Int32} {zc : Int32} {R : Int32 × FS} (hdd : 3 ≤ d) (hE : f_X11_put S za zb zc = some R) : pm_met mX11_put d 0 0 B [.ref (B + 0), .int za, .int zb, .int zc] cnt (cst B kp S ρ) (pm_Qi (fun v σ' cnt' => v = R.1 ∧ σ' = (cst B kp R.2 ρ) ∧ cnt' = cnt)) := by
  refine pm_enter 0 (by decide) (Nat.le_of_ble_eq_true rfl) rfl (fun G hG hR hF => ?_)
  unfold f_X11_put at hE
  refine pm_aloadn hG dX11_put_0 rfl ?_
  refine pm_getf hG dX11_put_1 (flX11_74 _ rfl) rfl rfl ?_
  refine pm_iloadn hG dX11_put_4 rfl ?_
  refine pm_callV (As := [.int za]) (rest := []) hG hR dX11_put_5 (lkX11_251 _ rfl) okV_X8_has rfl rfl (c_X8_has (d := 2) (by decide) rfl) rfl rfl hdd (Nat.le_refl _) (Nat.le_refl _) (by decide) (fx_ki ?_)
  refine pm_if_ne (tgt := 18) hG dX11_put_8 rfl (fun c1 => ?_) (fun c1 => ?_)
  · replace hE := fx_f c1 hE
    refine pm_aloadn hG dX11_put_18 rfl ?_
    refine pm_getf hG dX11_put_19 (flX11_74 _ rfl) rfl rfl ?_
    refine pm_iloadn hG dX11_put_22 rfl ?_
    obtain ⟨x3, h2, hE⟩ := fb_some hE
    refine pm_callV (As := [.int za]) (rest := []) hG hR dX11_put_23 (lkX11_255 _ rfl) okV_X8_isMissing rfl rfl (c_X8_isMissing (d := 2) (by decide) h2) rfl rfl hdd (Nat.le_refl _) (Nat.le_refl _) (by decide) (fx_ki ?_)
    refine pm_if_eq (tgt := 36) hG dX11_put_26 rfl (fun c4 => ?_) (fun c4 => ?_)
    · replace hE := fx_t c4 hE
      refine pm_iloadn hG dX11_put_36 rfl ?_
      refine pm_if_lt (tgt := 52) hG dX11_put_37 rfl (fun c5 => ?_) (fun c5 => ?_)
      · replace hE := fx_t c5 hE
        refine pm_aloadn hG dX11_put_52 rfl ?_
        refine pm_ldc hG dX11_put_53 (ctX11_109 _ rfl) ?_
        obtain ⟨r7, h6, hE⟩ := fb_some hE
        refine pm_callV (As := [.int (-1000001)]) (rest := []) hG hR dX11_put_55 (lkX11_97 _ rfl) okV_X11_told rfl rfl (c_X11_told (d := 2) (by decide) h6) rfl rfl hdd (Nat.le_refl _) (Nat.le_refl _) (by decide) (fx_ki ?_)
        exact pm_iret hG hF dX11_put_58 rfl (Nat.le_refl _) (Nat.le_refl _) (fx_ric hE)
      · replace hE := fx_f c5 hE
        refine pm_iloadn hG dX11_put_40 rfl ?_
        refine pm_aloadn hG dX11_put_41 rfl ?_
        refine pm_getf hG dX11_put_42 (flX11_74 _ rfl) rfl rfl ?_
        refine pm_iloadn hG dX11_put_45 rfl ?_
        obtain ⟨x9, h8, hE⟩ := fb_some hE
        refine pm_callV (As := [.int za]) (rest := [.int zb]) hG hR dX11_put_46 (lkX11_261 _ rfl) okV_X8_sizeOf rfl rfl (c_X8_sizeOf (d := 2) (by decide) h8) rfl rfl hdd (Nat.le_refl _) (Nat.le_refl _) (by first | decide | exact Nat.le_of_ble_eq_true rfl) (fx_ki ?_)
        refine pm_icmp_lt (tgt := 59) hG dX11_put_49 rfl (fun c10 => ?_) (fun c10 => ?_)
        · replace hE := fx_t c10 hE
          refine pm_aloadn hG dX11_put_59 rfl ?_
          refine pm_getf hG dX11_put_60 (flX11_74 _ rfl) rfl rfl ?_
          refine pm_iloadn hG dX11_put_63 rfl ?_
          refine pm_iloadn hG dX11_put_64 rfl ?_
          refine pm_iloadn hG dX11_put_65 rfl ?_
          obtain ⟨r12, h11, hE⟩ := fb_some hE
          refine pm_callV (As := [.int za, .int zb, .int zc]) (rest := []) hG hR dX11_put_66 (lkX11_367 _ rfl) okV_X8_setNumber rfl rfl (c_X8_setNumber (d := 2) (by decide) h11) rfl rfl hdd (Nat.le_refl _) (Nat.le_refl _) (by decide) (fx_kv ?_)
          refine pm_iconst (v := 1) hG dX11_put_69 (by decide) ?_
          exact pm_iret hG hF dX11_put_70 rfl (Nat.le_refl _) (Nat.le_refl _) (fx_ric hE)
        · replace hE := fx_f c10 hE
          refine pm_aloadn hG dX11_put_52 rfl ?_
          refine pm_ldc hG dX11_put_53 (ctX11_109 _ rfl) ?_
          obtain ⟨r14, h13, hE⟩ := fb_some hE
          refine pm_callV (As := [.int (-1000001)]) (rest := []) hG hR dX11_put_55 (lkX11_97 _ rfl) okV_X11_told rfl rfl (c_X11_told (d := 2) (by decide) h13) rfl rfl hdd (Nat.le_refl _) (Nat.le_refl _) (by decide) (fx_ki ?_)
          exact pm_iret hG hF dX11_put_58 rfl (Nat.le_refl _) (Nat.le_refl _) (fx_ric hE)
    · replace hE := fx_f c4 hE
      refine pm_aloadn hG dX11_put_29 rfl ?_
      refine pm_ldc hG dX11_put_30 (ctX11_223 _ rfl) ?_
      obtain ⟨r16, h15, hE⟩ := fb_some hE
      refine pm_callV (As := [.int (-1000002)]) (rest := []) hG hR dX11_put_32 (lkX11_97 _ rfl) okV_X11_told rfl rfl (c_X11_told (d := 2) (by decide) h15) rfl rfl hdd (Nat.le_refl _) (Nat.le_refl _) (by decide) (fx_ki ?_)
      exact pm_iret hG hF dX11_put_35 rfl (Nat.le_refl _) (Nat.le_refl _) (fx_ric hE)
  · replace hE := fx_t c1 hE
    refine pm_aloadn hG dX11_put_11 rfl ?_
    refine pm_ldc hG dX11_put_12 (ctX11_109 _ rfl) ?_
    obtain ⟨r18, h17, hE⟩ := fb_some hE
    refine pm_callV (As := [.int (-1000001)]) (rest := []) hG hR dX11_put_14 (lkX11_97 _ rfl) okV_X11_told rfl rfl (c_X11_told (d := 2) (by decide) h17) rfl rfl hdd (Nat.le_refl _) (Nat.le_refl _) (by decide) (fx_ki ?_)
    exact pm_iret hG hF dX11_put_17 rfl (Nat.le_refl _) (Nat.le_refl _) (fx_ric hE)

set_option maxRecDepth 100000 in
set_option maxHeartbeats 4000000 in
theorem c_X11_rent {d : Nat} {B cnt : Nat} {kp : Value} {ρ : pm_S} {S : FS} {za : Int32} {zb : Int32} {R : Int32 × FS} (hdd : 2 ≤ d) (hE : f_X11_rent S za zb = some R) : pm_met mX11_rent d 0 0 B [.ref (B + 0), .int za, .int zb] cnt (cst B kp S ρ) (pm_Qi (fun v σ' cnt' => v = R.1 ∧ σ' = (cst B kp R.2 ρ) ∧ cnt' = cnt)) := by
  refine pm_enter 0 (by decide) (Nat.le_of_ble_eq_true rfl) rfl (fun G hG hR hF => ?_)
  unfold f_X11_rent at hE
  refine pm_aloadn hG dX11_rent_0 rfl ?_
  refine pm_getf hG dX11_rent_1 (flX11_12 _ rfl) rfl rfl ?_
  refine pm_getf hG dX11_rent_4 (flX11_82 _ rfl) rfl rfl ?_
  refine pm_iloadn hG dX11_rent_7 rfl ?_
  refine pm_callV (As := [.int za]) (rest := []) hG hR dX11_rent_8 (lkX11_101 _ rfl) okV_X9_has rfl rfl (thas_2 (d := 1)) rfl rfl hdd (Nat.le_refl _) (Nat.le_refl _) (by decide) (fx_ki ?_)
  refine pm_if_eq (tgt := 25) hG dX11_rent_11 rfl (fun c1 => ?_) (fun c1 => ?_)
  · replace hE := fx_t c1 hE
    refine pm_aloadn hG dX11_rent_25 rfl ?_
    refine pm_ldc hG dX11_rent_26 (ctX11_109 _ rfl) ?_
    obtain ⟨r3, h2, hE⟩ := fb_some hE
    refine pm_callV (As := [.int (-1000001)]) (rest := []) hG hR dX11_rent_28 (lkX11_97 _ rfl) okV_X11_told rfl rfl (c_X11_told (d := 1) (by decide) h2) rfl rfl hdd (Nat.le_refl _) (Nat.le_refl _) (by decide) (fx_ki ?_)
    exact pm_iret hG hF dX11_rent_31 rfl (Nat.le_refl _) (Nat.le_refl _) (fx_ric hE)
  · replace hE := fx_f c1 hE
    refine pm_iloadn hG dX11_rent_14 rfl ?_
    refine pm_iconst (v := 0) hG dX11_rent_15 (by decide) ?_
    refine pm_sipush (v := 999) hG dX11_rent_16 (by decide) ?_
    refine pm_callS (As := [.int zb, .int 0, .int 999]) (rest := []) hG hR dX11_rent_19 (lkX11_105 _ rfl) okS_X11_isOutside (tOut (d := 1)) rfl rfl hdd (Nat.le_refl _) (Nat.le_refl _) (by decide) (fx_ki ?_)
    refine pm_if_eq (tgt := 32) hG dX11_rent_22 rfl (fun c4 => ?_) (fun c4 => ?_)
    · replace hE := fx_t c4 hE
      refine pm_aloadn hG dX11_rent_32 rfl ?_
      refine pm_getf hG dX11_rent_33 (flX11_12 _ rfl) rfl rfl ?_
      refine pm_getf hG dX11_rent_36 (flX11_82 _ rfl) rfl rfl ?_
      refine pm_iloadn hG dX11_rent_39 rfl ?_
      refine pm_iconst (v := 0) hG dX11_rent_40 (by decide) ?_
      refine pm_iloadn hG dX11_rent_41 rfl ?_
      refine pm_callV (As := [.int za, .int 0, .int zb]) (rest := []) hG hR dX11_rent_42 (lkX11_248 _ rfl) okV_X9_swap rfl rfl (tswap_2 (d := 1) (by decide)) rfl rfl hdd (Nat.le_refl _) (Nat.le_refl _) (by decide) (fx_ki ?_)
      refine fx_letc hE (fun S5 hE => ?_)
      exact pm_iret hG hF dX11_rent_45 rfl (Nat.le_refl _) (Nat.le_refl _) (fx_ric hE)
    · replace hE := fx_f c4 hE
      refine pm_aloadn hG dX11_rent_25 rfl ?_
      refine pm_ldc hG dX11_rent_26 (ctX11_109 _ rfl) ?_
      obtain ⟨r7, h6, hE⟩ := fb_some hE
      refine pm_callV (As := [.int (-1000001)]) (rest := []) hG hR dX11_rent_28 (lkX11_97 _ rfl) okV_X11_told rfl rfl (c_X11_told (d := 1) (by decide) h6) rfl rfl hdd (Nat.le_refl _) (Nat.le_refl _) (by decide) (fx_ki ?_)
      exact pm_iret hG hF dX11_rent_31 rfl (Nat.le_refl _) (Nat.le_refl _) (fx_ric hE)

set_option maxRecDepth 100000 in
set_option maxHeartbeats 4000000 in
theorem c_X8_isWidth {d : Nat} {B cnt : Nat} {kp : Value} {ρ : pm_S} {S : FS} {za : Int32} {R : Int32} (hdd : 1 ≤ d) (hE : p_X8_isWidth S za = R) : pm_met mX8_isWidth d 0 0 B [.ref (B + 48), .int za] cnt (cst B kp S ρ) (pm_Qi (fun v σ' cnt' => v = R ∧ σ' = (cst B kp S ρ) ∧ cnt' = cnt)) := by
  refine pm_enter 0 (by decide) (Nat.le_of_ble_eq_true rfl) rfl (fun G hG hR hF => ?_)
  unfold p_X8_isWidth at hE
  refine pm_iloadn hG dX8_isWidth_0 rfl ?_
  refine pm_bipush (v := 8) hG dX8_isWidth_1 (by decide) ?_
  refine pm_icmp_eq (tgt := 18) hG dX8_isWidth_3 rfl (fun c1 => ?_) (fun c1 => ?_)
  · replace hE := fx_t c1 hE
    refine pm_iconst (v := 1) hG dX8_isWidth_18 (by decide) ?_
    refine pm_goto (tgt := 23) hG dX8_isWidth_19 rfl ?_
    exact pm_zret hG hF dX8_isWidth_23 rfl (by rfl) (Nat.le_refl _) (Nat.le_refl _) (fx_pi hE)
  · replace hE := fx_f c1 hE
    refine pm_iloadn hG dX8_isWidth_6 rfl ?_
    refine pm_bipush (v := 16) hG dX8_isWidth_7 (by decide) ?_
    refine pm_icmp_eq (tgt := 18) hG dX8_isWidth_9 rfl (fun c2 => ?_) (fun c2 => ?_)
    · replace hE := fx_t c2 hE
      refine pm_iconst (v := 1) hG dX8_isWidth_18 (by decide) ?_
      refine pm_goto (tgt := 23) hG dX8_isWidth_19 rfl ?_
      exact pm_zret hG hF dX8_isWidth_23 rfl (by rfl) (Nat.le_refl _) (Nat.le_refl _) (fx_pi hE)
    · replace hE := fx_f c2 hE
      refine pm_iloadn hG dX8_isWidth_12 rfl ?_
      refine pm_bipush (v := 32) hG dX8_isWidth_13 (by decide) ?_
      refine pm_icmp_ne (tgt := 22) hG dX8_isWidth_15 rfl (fun c3 => ?_) (fun c3 => ?_)
      · replace hE := fx_f c3 hE
        refine pm_iconst (v := 0) hG dX8_isWidth_22 (by decide) ?_
        exact pm_zret hG hF dX8_isWidth_23 rfl (by rfl) (Nat.le_refl _) (Nat.le_refl _) (fx_pi hE)
      · replace hE := fx_t c3 hE
        refine pm_iconst (v := 1) hG dX8_isWidth_18 (by decide) ?_
        refine pm_goto (tgt := 23) hG dX8_isWidth_19 rfl ?_
        exact pm_zret hG hF dX8_isWidth_23 rfl (by rfl) (Nat.le_refl _) (Nat.le_refl _) (fx_pi hE)

set_option maxRecDepth 100000 in
set_option maxHeartbeats 4000000 in
theorem c_X11_takeRents {d : Nat} {B cnt : Nat} {kp : Value} {ρ : pm_S} {S : FS} {za : Int32} {zb : Int32} {R : Int32 × FS} (hdd : 2 ≤ d) (hE : f_X11_takeRents S za zb = some R) : pm_met mX11_takeRents d 0 0 B [.ref (B + 0), .int za, .int zb] cnt (cst B kp S ρ) (pm_Qi (fun v σ' cnt' => v = R.1 ∧ σ' = (cst B kp R.2 ρ) ∧ cnt' = cnt)) := by
  refine pm_enter 3 (by decide) (Nat.le_of_ble_eq_true rfl) rfl (fun G hG hR hF => ?_)
  unfold f_X11_takeRents at hE
  refine pm_iconst (v := 0) hG dX11_takeRents_0 (by decide) ?_
  refine pm_istoreXn (loc' := [some (.ref (B + 0)), some (.int za), some (.int zb), some (.int 0), none, none]) hG dX11_takeRents_1 (by decide) (pm_c1b rfl) rfl ?_
  refine pm_iconst (v := 0) hG dX11_takeRents_2 (by decide) ?_
  refine pm_istoreXi (loc' := [some (.ref (B + 0)), some (.int za), some (.int zb), some (.int 0), some (.int 0), none]) hG dX11_takeRents_3 (by decide) (pm_c1b rfl) rfl ?_
  have loop5 : ∀ (k5 : FS → Int32 → Int32 → Option (Int32 × FS)), (∀ (S1 : FS) (x1_3 : Int32) (x1_4 : Int32), k5 S1  x1_3 x1_4 = some R → pm_wp mX11_takeRents G B 52 [some (.ref (B + 0)), some (.int za), some (.int zb), some (.int x1_3), some (.int x1_4), none] [] 0 0 cnt (cst B kp S1 ρ)) → ∀ (m5 : Nat) (S1 : FS) (x1_3 : Int32) (x1_4 : Int32), l_X11_takeRents_5 za zb k5 m5 S1  x1_3 x1_4 = some R → pm_wp mX11_takeRents G B 5 [some (.ref (B + 0)), some (.int za), some (.int zb), some (.int x1_3), some (.int x1_4), none] [] 0 0 cnt (cst B kp S1 ρ) := by
    intro k5 hk5 m5
    induction m5 with
    | zero => intro S1  x1_3 x1_4 hE; exact fx_no hE
    | succ m5 ih5 =>
      intro S1  x1_3 x1_4 hE
      rw [l_X11_takeRents_5] at hE
      refine pm_iloadi hG dX11_takeRents_5 rfl ?_
      refine pm_iloadn hG dX11_takeRents_7 rfl ?_
      refine pm_icmp_ge (tgt := 52) hG dX11_takeRents_8 rfl (fun c2 => ?_) (fun c2 => ?_)
      · replace c2 := Int32.not_lt.mpr c2
        replace hE := fx_f c2 hE
        exact hk5 _ _ _ hE
      · replace c2 := Int32.not_le.mp c2
        replace hE := fx_t c2 hE
        refine pm_aloadn hG dX11_takeRents_11 rfl ?_
        refine pm_getf hG dX11_takeRents_12 (flX11_74 _ rfl) rfl rfl ?_
        refine pm_iloadn hG dX11_takeRents_15 rfl ?_
        refine pm_iloadi hG dX11_takeRents_16 rfl ?_
        refine pm_callV (As := [.int za, .int x1_4]) (rest := []) hG hR dX11_takeRents_18 (lkX11_338 _ rfl) okV_X8_numberAt rfl rfl (c_X8_numberAt (d := 1) (by decide) rfl) rfl rfl hdd (Nat.le_refl _) (Nat.le_refl _) (by decide) (fx_ki ?_)
        refine fx_letv hE (fun x3 hE => ?_)
        refine pm_istoreXi (loc' := [some (.ref (B + 0)), some (.int za), some (.int zb), some (.int x1_3), some (.int x1_4), some (.int x3)]) hG dX11_takeRents_21 (by decide) (pm_c1b rfl) rfl ?_
        refine pm_iloadi hG dX11_takeRents_23 rfl ?_
        refine pm_if_lt (tgt := 46) hG dX11_takeRents_25 rfl (fun c4 => ?_) (fun c4 => ?_)
        · replace hE := fx_t c4 hE
          refine pm_iincX (v := x1_4 + 1) (loc' := [some (.ref (B + 0)), some (.int za), some (.int zb), some (.int x1_3), some (.int (x1_4 + 1)), some (.int x3)]) hG dX11_takeRents_46 rfl (by rfl) (by decide) (pm_c1b rfl) rfl ?_
          refine pm_goto (tgt := 5) hG dX11_takeRents_49 rfl ?_
          refine pm_fg 5 (loc' := [some (.ref (B + 0)), some (.int za), some (.int zb), some (.int x1_3), some (.int (x1_4 + 1)), none]) rfl ?_
          exact ih5 _ _ _ hE
        · replace hE := fx_f c4 hE
          refine pm_aloadn hG dX11_takeRents_28 rfl ?_
          refine pm_getf hG dX11_takeRents_29 (flX11_12 _ rfl) rfl rfl ?_
          refine pm_getf hG dX11_takeRents_32 (flX11_82 _ rfl) rfl rfl ?_
          refine pm_iloadi hG dX11_takeRents_35 rfl ?_
          refine pm_iconst (v := 0) hG dX11_takeRents_37 (by decide) ?_
          refine pm_iloadi hG dX11_takeRents_38 rfl ?_
          refine pm_callV (As := [.int x1_4, .int 0, .int x3]) (rest := []) hG hR dX11_takeRents_40 (lkX11_170 _ rfl) okV_X9_set rfl rfl (tset_2 (d := 1)) rfl rfl hdd (Nat.le_refl _) (Nat.le_refl _) (by decide) (fx_kv ?_)
          refine fx_letc hE (fun S5 hE => ?_)
          refine pm_iincX (v := x1_3 + 1) (loc' := [some (.ref (B + 0)), some (.int za), some (.int zb), some (.int (x1_3 + 1)), some (.int x1_4), some (.int x3)]) hG dX11_takeRents_43 rfl (by rfl) (by decide) (pm_c1b rfl) rfl ?_
          refine pm_iincX (v := x1_4 + 1) (loc' := [some (.ref (B + 0)), some (.int za), some (.int zb), some (.int (x1_3 + 1)), some (.int (x1_4 + 1)), some (.int x3)]) hG dX11_takeRents_46 rfl (by rfl) (by decide) (pm_c1b rfl) rfl ?_
          refine pm_goto (tgt := 5) hG dX11_takeRents_49 rfl ?_
          refine pm_fg 5 (loc' := [some (.ref (B + 0)), some (.int za), some (.int zb), some (.int (x1_3 + 1)), some (.int (x1_4 + 1)), none]) rfl ?_
          exact ih5 _ _ _ hE
  refine loop5 _ (fun S6 x6_3 x6_4 hE => ?_) _ _ _ _ hE
  refine pm_iloadn hG dX11_takeRents_52 rfl ?_
  exact pm_iret hG hF dX11_takeRents_53 rfl (Nat.le_refl _) (Nat.le_refl _) (fx_ric hE)

set_option maxRecDepth 100000 in
set_option maxHeartbeats 4000000 in
theorem c_X11_rents {d : Nat} {B cnt : Nat} {kp : Value} {ρ : pm_S} {S : FS} {za : Int32} {zb : Int32} {R : Int32 × FS} (hdd : 3 ≤ d) (hE : f_X11_rents S za zb = some R) : pm_met mX11_rents d 0 0 B [.ref (B + 0), .int za, .int zb] cnt (cst B kp S ρ) (pm_Qi (fun v σ' cnt' => v = R.1 ∧ σ' = (cst B kp R.2 ρ) ∧ cnt' = cnt)) := by
  refine pm_enter 1 (by decide) (Nat.le_of_ble_eq_true rfl) rfl (fun G hG hR hF => ?_)
  unfold f_X11_rents at hE
  refine pm_aloadn hG dX11_rents_0 rfl ?_
  refine pm_getf hG dX11_rents_1 (flX11_74 _ rfl) rfl rfl ?_
  refine pm_iloadn hG dX11_rents_4 rfl ?_
  refine pm_callV (As := [.int za]) (rest := []) hG hR dX11_rents_5 (lkX11_251 _ rfl) okV_X8_has rfl rfl (c_X8_has (d := 2) (by decide) rfl) rfl rfl hdd (Nat.le_refl _) (Nat.le_refl _) (by decide) (fx_ki ?_)
  refine pm_if_eq (tgt := 22) hG dX11_rents_8 rfl (fun c1 => ?_) (fun c1 => ?_)
  · replace hE := fx_t c1 hE
    refine pm_aloadn hG dX11_rents_22 rfl ?_
    refine pm_ldc hG dX11_rents_23 (ctX11_109 _ rfl) ?_
    obtain ⟨r3, h2, hE⟩ := fb_some hE
    refine pm_callV (As := [.int (-1000001)]) (rest := []) hG hR dX11_rents_25 (lkX11_97 _ rfl) okV_X11_told rfl rfl (c_X11_told (d := 2) (by decide) h2) rfl rfl hdd (Nat.le_refl _) (Nat.le_refl _) (by decide) (fx_ki ?_)
    exact pm_iret hG hF dX11_rents_28 rfl (Nat.le_refl _) (Nat.le_refl _) (fx_ric hE)
  · replace hE := fx_f c1 hE
    refine pm_aloadn hG dX11_rents_11 rfl ?_
    refine pm_getf hG dX11_rents_12 (flX11_74 _ rfl) rfl rfl ?_
    refine pm_iloadn hG dX11_rents_15 rfl ?_
    refine pm_callV (As := [.int zb]) (rest := []) hG hR dX11_rents_16 (lkX11_252 _ rfl) okV_X8_isWidth rfl rfl (c_X8_isWidth (d := 2) (by decide) rfl) rfl rfl hdd (Nat.le_refl _) (Nat.le_refl _) (by decide) (fx_ki ?_)
    refine pm_if_ne (tgt := 29) hG dX11_rents_19 rfl (fun c4 => ?_) (fun c4 => ?_)
    · replace hE := fx_f c4 hE
      refine pm_aloadn hG dX11_rents_29 rfl ?_
      refine pm_getf hG dX11_rents_30 (flX11_74 _ rfl) rfl rfl ?_
      refine pm_iloadn hG dX11_rents_33 rfl ?_
      obtain ⟨x6, h5, hE⟩ := fb_some hE
      refine pm_callV (As := [.int za]) (rest := []) hG hR dX11_rents_34 (lkX11_255 _ rfl) okV_X8_isMissing rfl rfl (c_X8_isMissing (d := 2) (by decide) h5) rfl rfl hdd (Nat.le_refl _) (Nat.le_refl _) (by decide) (fx_ki ?_)
      refine pm_if_eq (tgt := 47) hG dX11_rents_37 rfl (fun c7 => ?_) (fun c7 => ?_)
      · replace hE := fx_t c7 hE
        refine pm_aloadn hG dX11_rents_47 rfl ?_
        refine pm_getf hG dX11_rents_48 (flX11_74 _ rfl) rfl rfl ?_
        refine pm_iloadn hG dX11_rents_51 rfl ?_
        obtain ⟨x9, h8, hE⟩ := fb_some hE
        refine pm_callV (As := [.int za]) (rest := []) hG hR dX11_rents_52 (lkX11_258 _ rfl) okV_X8_bitsOf rfl rfl (c_X8_bitsOf (d := 2) (by decide) h8) rfl rfl hdd (Nat.le_refl _) (Nat.le_refl _) (by decide) (fx_ki ?_)
        refine pm_iloadn hG dX11_rents_55 rfl ?_
        refine pm_icmp_eq (tgt := 66) hG dX11_rents_56 rfl (fun c10 => ?_) (fun c10 => ?_)
        · replace hE := fx_t c10 hE
          refine pm_aloadn hG dX11_rents_66 rfl ?_
          refine pm_getf hG dX11_rents_67 (flX11_74 _ rfl) rfl rfl ?_
          refine pm_iloadn hG dX11_rents_70 rfl ?_
          obtain ⟨x12, h11, hE⟩ := fb_some hE
          refine pm_callV (As := [.int za]) (rest := []) hG hR dX11_rents_71 (lkX11_261 _ rfl) okV_X8_sizeOf rfl rfl (c_X8_sizeOf (d := 2) (by decide) h11) rfl rfl hdd (Nat.le_refl _) (Nat.le_refl _) (by decide) (fx_ki ?_)
          refine pm_istoreXn (loc' := [some (.ref (B + 0)), some (.int za), some (.int zb), some (.int x12)]) hG dX11_rents_74 (by decide) (pm_c1b rfl) rfl ?_
          refine pm_iloadn hG dX11_rents_75 rfl ?_
          refine pm_aloadn hG dX11_rents_76 rfl ?_
          refine pm_getf hG dX11_rents_77 (flX11_12 _ rfl) rfl rfl ?_
          refine pm_getf hG dX11_rents_80 (flX11_82 _ rfl) rfl rfl ?_
          refine pm_callV (As := []) (rest := [.int x12]) hG hR dX11_rents_83 (lkX11_203 _ rfl) okV_X9_used rfl rfl (tused_2 (d := 2)) rfl rfl hdd (Nat.le_refl _) (Nat.le_refl _) (by first | decide | exact Nat.le_of_ble_eq_true rfl) (fx_ki ?_)
          refine pm_icmp_le (tgt := 96) hG dX11_rents_86 rfl (fun c13 => ?_) (fun c13 => ?_)
          · replace c13 := Int32.not_lt.mpr c13
            replace hE := fx_f c13 hE
            refine pm_aloadn hG dX11_rents_96 rfl ?_
            refine pm_aloadn hG dX11_rents_97 rfl ?_
            refine pm_getf hG dX11_rents_98 (flX11_74 _ rfl) rfl rfl ?_
            refine pm_iloadn hG dX11_rents_101 rfl ?_
            refine pm_iconst (v := (-1)) hG dX11_rents_102 (by decide) ?_
            refine pm_sipush (v := 999) hG dX11_rents_103 (by decide) ?_
            obtain ⟨x15, h14, hE⟩ := fb_some hE
            refine pm_callV (As := [.int za, .int (-1), .int 999]) (rest := [.ref (B + 0)]) hG hR dX11_rents_106 (lkX11_264 _ rfl) okV_X8_areAllWithin rfl rfl (c_X8_areAllWithin (d := 2) (by decide) h14) rfl rfl hdd (Nat.le_refl _) (Nat.le_refl _) (by first | decide | exact Nat.le_of_ble_eq_true rfl) (fx_ki ?_)
            refine pm_if_eq (tgt := 121) hG dX11_rents_109 rfl (fun c16 => ?_) (fun c16 => ?_)
            · replace hE := fx_t c16 hE
              refine pm_ldc hG dX11_rents_121 (ctX11_109 _ rfl) ?_
              obtain ⟨r18, h17, hE⟩ := fb_some hE
              refine pm_callV (As := [.int (-1000001)]) (rest := []) hG hR dX11_rents_123 (lkX11_97 _ rfl) okV_X11_told rfl rfl (c_X11_told (d := 2) (by decide) h17) rfl rfl hdd (Nat.le_refl _) (Nat.le_refl _) (by decide) (fx_ki ?_)
              exact pm_iret hG hF dX11_rents_126 rfl (Nat.le_refl _) (Nat.le_refl _) (fx_ric hE)
            · replace hE := fx_f c16 hE
              refine pm_aloadn hG dX11_rents_112 rfl ?_
              refine pm_iloadn hG dX11_rents_113 rfl ?_
              refine pm_iloadn hG dX11_rents_114 rfl ?_
              obtain ⟨r20, h19, hE⟩ := fb_some hE
              refine pm_callV (As := [.int za, .int x12]) (rest := [.ref (B + 0)]) hG hR dX11_rents_115 (lkX11_267 _ rfl) okV_X11_takeRents rfl rfl (c_X11_takeRents (d := 2) (by decide) h19) rfl rfl hdd (Nat.le_refl _) (Nat.le_refl _) (by first | decide | exact Nat.le_of_ble_eq_true rfl) (fx_ki ?_)
              refine pm_goto (tgt := 123) hG dX11_rents_118 rfl ?_
              obtain ⟨r22, h21, hE⟩ := fb_some hE
              refine pm_callV (As := [.int r20.1]) (rest := []) hG hR dX11_rents_123 (lkX11_97 _ rfl) okV_X11_told rfl rfl (c_X11_told (d := 2) (by decide) h21) rfl rfl hdd (Nat.le_refl _) (Nat.le_refl _) (by decide) (fx_ki ?_)
              exact pm_iret hG hF dX11_rents_126 rfl (Nat.le_refl _) (Nat.le_refl _) (fx_ric hE)
          · replace c13 := Int32.not_le.mp c13
            replace hE := fx_t c13 hE
            refine pm_aloadn hG dX11_rents_89 rfl ?_
            refine pm_ldc hG dX11_rents_90 (ctX11_138 _ rfl) ?_
            obtain ⟨r24, h23, hE⟩ := fb_some hE
            refine pm_callV (As := [.int (-1000003)]) (rest := []) hG hR dX11_rents_92 (lkX11_97 _ rfl) okV_X11_told rfl rfl (c_X11_told (d := 2) (by decide) h23) rfl rfl hdd (Nat.le_refl _) (Nat.le_refl _) (by decide) (fx_ki ?_)
            exact pm_iret hG hF dX11_rents_95 rfl (Nat.le_refl _) (Nat.le_refl _) (fx_ric hE)
        · replace hE := fx_f c10 hE
          refine pm_aloadn hG dX11_rents_59 rfl ?_
          refine pm_ldc hG dX11_rents_60 (ctX11_184 _ rfl) ?_
          obtain ⟨r26, h25, hE⟩ := fb_some hE
          refine pm_callV (As := [.int (-1000005)]) (rest := []) hG hR dX11_rents_62 (lkX11_97 _ rfl) okV_X11_told rfl rfl (c_X11_told (d := 2) (by decide) h25) rfl rfl hdd (Nat.le_refl _) (Nat.le_refl _) (by decide) (fx_ki ?_)
          exact pm_iret hG hF dX11_rents_65 rfl (Nat.le_refl _) (Nat.le_refl _) (fx_ric hE)
      · replace hE := fx_f c7 hE
        refine pm_aloadn hG dX11_rents_40 rfl ?_
        refine pm_ldc hG dX11_rents_41 (ctX11_223 _ rfl) ?_
        obtain ⟨r28, h27, hE⟩ := fb_some hE
        refine pm_callV (As := [.int (-1000002)]) (rest := []) hG hR dX11_rents_43 (lkX11_97 _ rfl) okV_X11_told rfl rfl (c_X11_told (d := 2) (by decide) h27) rfl rfl hdd (Nat.le_refl _) (Nat.le_refl _) (by decide) (fx_ki ?_)
        exact pm_iret hG hF dX11_rents_46 rfl (Nat.le_refl _) (Nat.le_refl _) (fx_ric hE)
    · replace hE := fx_t c4 hE
      refine pm_aloadn hG dX11_rents_22 rfl ?_
      refine pm_ldc hG dX11_rents_23 (ctX11_109 _ rfl) ?_
      obtain ⟨r30, h29, hE⟩ := fb_some hE
      refine pm_callV (As := [.int (-1000001)]) (rest := []) hG hR dX11_rents_25 (lkX11_97 _ rfl) okV_X11_told rfl rfl (c_X11_told (d := 2) (by decide) h29) rfl rfl hdd (Nat.le_refl _) (Nat.le_refl _) (by decide) (fx_ki ?_)
      exact pm_iret hG hF dX11_rents_28 rfl (Nat.le_refl _) (Nat.le_refl _) (fx_ric hE)

set_option maxRecDepth 100000 in
set_option maxHeartbeats 4000000 in
theorem c_X7_join {d : Nat} {B cnt : Nat} {kp : Value} {ρ : pm_S} {S : FS} {za : Int32} {zb : Int32} {zc : Int32} {R : Int32 × FS} (hdd : 1 ≤ d) (hE : f_X7_join S za zb zc = some R) : pm_met mX7_join d 0 0 B [.ref (B + 1), .int za, .int zb, .int zc] cnt (cst B kp S ρ) (pm_Qi (fun v σ' cnt' => v = R.1 ∧ σ' = (cst B kp R.2 ρ) ∧ cnt' = cnt)) := by
  refine pm_enter 5 (by decide) (Nat.le_of_ble_eq_true rfl) rfl (fun G hG hR hF => ?_)
  unfold f_X7_join at hE
  refine pm_aloadn hG dX7_join_0 rfl ?_
  refine pm_getf hG dX7_join_1 (flX7_14 _ rfl) rfl rfl ?_
  refine pm_callV (As := []) (rest := []) hG hR dX7_join_4 (lkX7_79 _ rfl) okV_X9_used rfl rfl (tused_2 (d := 0)) rfl rfl hdd (Nat.le_refl _) (Nat.le_refl _) (by decide) (fx_ki ?_)
  refine fx_letv hE (fun x1 hE => ?_)
  refine pm_istoreXi (loc' := [some (.ref (B + 1)), some (.int za), some (.int zb), some (.int zc), some (.int x1), none, none, none, none]) hG dX7_join_7 (by decide) (pm_c1b rfl) rfl ?_
  refine pm_iconst (v := 0) hG dX7_join_9 (by decide) ?_
  refine pm_istoreXi (loc' := [some (.ref (B + 1)), some (.int za), some (.int zb), some (.int zc), some (.int x1), some (.int 0), none, none, none]) hG dX7_join_10 (by decide) (pm_c1b rfl) rfl ?_
  have loop12 : ∀ (k12 : FS → Int32 → Option (Int32 × FS)), (∀ (S2 : FS) (x2_5 : Int32), k12 S2  x2_5 = some R → pm_wp mX7_join G B 123 [some (.ref (B + 1)), some (.int za), some (.int zb), some (.int zc), some (.int x1), some (.int x2_5), none, none, none] [] 0 0 cnt (cst B kp S2 ρ)) → ∀ (m12 : Nat) (S2 : FS) (x2_5 : Int32), l_X7_join_12 za zb zc x1 k12 m12 S2  x2_5 = some R → pm_wp mX7_join G B 12 [some (.ref (B + 1)), some (.int za), some (.int zb), some (.int zc), some (.int x1), some (.int x2_5), none, none, none] [] 0 0 cnt (cst B kp S2 ρ) := by
    intro k12 hk12 m12
    induction m12 with
    | zero => intro S2  x2_5 hE; exact fx_no hE
    | succ m12 ih12 =>
      intro S2  x2_5 hE
      rw [l_X7_join_12] at hE
      refine pm_iloadi hG dX7_join_12 rfl ?_
      refine pm_iloadi hG dX7_join_14 rfl ?_
      refine pm_icmp_ge (tgt := 123) hG dX7_join_16 rfl (fun c3 => ?_) (fun c3 => ?_)
      · replace c3 := Int32.not_lt.mpr c3
        replace hE := fx_f c3 hE
        exact hk12 _ _ hE
      · replace c3 := Int32.not_le.mp c3
        replace hE := fx_t c3 hE
        refine pm_iconst (v := 0) hG dX7_join_19 (by decide) ?_
        refine pm_istoreXi (loc' := [some (.ref (B + 1)), some (.int za), some (.int zb), some (.int zc), some (.int x1), some (.int x2_5), some (.int 0), none, none]) hG dX7_join_20 (by decide) (pm_c1b rfl) rfl ?_
        have loop22 : ∀ (k22 : FS → Int32 → Option (Int32 × FS)), (∀ (S4 : FS) (x4_6 : Int32), k22 S4  x4_6 = some R → pm_wp mX7_join G B 117 [some (.ref (B + 1)), some (.int za), some (.int zb), some (.int zc), some (.int x1), some (.int x2_5), some (.int x4_6), none, none] [] 0 0 cnt (cst B kp S4 ρ)) → ∀ (m22 : Nat) (S4 : FS) (x4_6 : Int32), l_X7_join_22 za zb zc x1 x2_5 k22 m22 S4  x4_6 = some R → pm_wp mX7_join G B 22 [some (.ref (B + 1)), some (.int za), some (.int zb), some (.int zc), some (.int x1), some (.int x2_5), some (.int x4_6), none, none] [] 0 0 cnt (cst B kp S4 ρ) := by
          intro k22 hk22 m22
          induction m22 with
          | zero => intro S4  x4_6 hE; exact fx_no hE
          | succ m22 ih22 =>
            intro S4  x4_6 hE
            rw [l_X7_join_22] at hE
            refine pm_iloadi hG dX7_join_22 rfl ?_
            refine pm_iloadi hG dX7_join_24 rfl ?_
            refine pm_icmp_ge (tgt := 117) hG dX7_join_26 rfl (fun c5 => ?_) (fun c5 => ?_)
            · replace c5 := Int32.not_lt.mpr c5
              replace hE := fx_f c5 hE
              exact hk22 _ _ hE
            · replace c5 := Int32.not_le.mp c5
              replace hE := fx_t c5 hE
              refine pm_aloadn hG dX7_join_29 rfl ?_
              refine pm_getf hG dX7_join_30 (flX7_20 _ rfl) rfl rfl ?_
              refine pm_iloadi hG dX7_join_33 rfl ?_
              refine pm_iloadn hG dX7_join_35 rfl ?_
              refine pm_callV (As := [.int x2_5, .int za]) (rest := []) hG hR dX7_join_36 (lkX7_83 _ rfl) okV_X9_get rfl rfl (tget_4 (d := 0)) rfl rfl hdd (Nat.le_refl _) (Nat.le_refl _) (by decide) (fx_ki ?_)
              refine pm_iloadn hG dX7_join_39 rfl ?_
              refine pm_iadd hG dX7_join_40 ?_
              refine pm_aloadn hG dX7_join_41 rfl ?_
              refine pm_getf hG dX7_join_42 (flX7_20 _ rfl) rfl rfl ?_
              refine pm_iloadn hG dX7_join_45 rfl ?_
              refine pm_iloadi hG dX7_join_46 rfl ?_
              refine pm_callV (As := [.int zb, .int x4_6]) (rest := [.int ((fG 4 10 10 S4 x2_5 za) + zc)]) hG hR dX7_join_48 (lkX7_83 _ rfl) okV_X9_get rfl rfl (tget_4 (d := 0)) rfl rfl hdd (Nat.le_refl _) (Nat.le_refl _) (by first | decide | exact Nat.le_of_ble_eq_true rfl) (fx_ki ?_)
              refine pm_iadd hG dX7_join_51 ?_
              refine fx_letv hE (fun x6 hE => ?_)
              refine pm_istoreXi (loc' := [some (.ref (B + 1)), some (.int za), some (.int zb), some (.int zc), some (.int x1), some (.int x2_5), some (.int x4_6), some (.int x6), none]) hG dX7_join_52 (by decide) (pm_c1b rfl) rfl ?_
              refine pm_aloadn hG dX7_join_54 rfl ?_
              refine pm_getf hG dX7_join_55 (flX7_20 _ rfl) rfl rfl ?_
              refine pm_iloadi hG dX7_join_58 rfl ?_
              refine pm_iloadn hG dX7_join_60 rfl ?_
              refine pm_callV (As := [.int x2_5, .int zb]) (rest := []) hG hR dX7_join_61 (lkX7_83 _ rfl) okV_X9_get rfl rfl (tget_4 (d := 0)) rfl rfl hdd (Nat.le_refl _) (Nat.le_refl _) (by decide) (fx_ki ?_)
              refine pm_iloadn hG dX7_join_64 rfl ?_
              refine pm_iadd hG dX7_join_65 ?_
              refine pm_aloadn hG dX7_join_66 rfl ?_
              refine pm_getf hG dX7_join_67 (flX7_20 _ rfl) rfl rfl ?_
              refine pm_iloadn hG dX7_join_70 rfl ?_
              refine pm_iloadi hG dX7_join_71 rfl ?_
              refine pm_callV (As := [.int za, .int x4_6]) (rest := [.int ((fG 4 10 10 S4 x2_5 zb) + zc)]) hG hR dX7_join_73 (lkX7_83 _ rfl) okV_X9_get rfl rfl (tget_4 (d := 0)) rfl rfl hdd (Nat.le_refl _) (Nat.le_refl _) (by first | decide | exact Nat.le_of_ble_eq_true rfl) (fx_ki ?_)
              refine pm_iadd hG dX7_join_76 ?_
              refine fx_letv hE (fun x7 hE => ?_)
              refine pm_istoreXi (loc' := [some (.ref (B + 1)), some (.int za), some (.int zb), some (.int zc), some (.int x1), some (.int x2_5), some (.int x4_6), some (.int x6), some (.int x7)]) hG dX7_join_77 (by decide) (pm_c1b rfl) rfl ?_
              refine pm_aloadn hG dX7_join_79 rfl ?_
              refine pm_getf hG dX7_join_80 (flX7_20 _ rfl) rfl rfl ?_
              refine pm_iloadi hG dX7_join_83 rfl ?_
              refine pm_iloadi hG dX7_join_85 rfl ?_
              refine pm_aloadn hG dX7_join_87 rfl ?_
              refine pm_getf hG dX7_join_88 (flX7_20 _ rfl) rfl rfl ?_
              refine pm_iloadi hG dX7_join_91 rfl ?_
              refine pm_iloadi hG dX7_join_93 rfl ?_
              refine pm_callV (As := [.int x2_5, .int x4_6]) (rest := [.int x4_6, .int x2_5, .ref (B + 4)]) hG hR dX7_join_95 (lkX7_83 _ rfl) okV_X9_get rfl rfl (tget_4 (d := 0)) rfl rfl hdd (Nat.le_refl _) (Nat.le_refl _) (by first | decide | exact Nat.le_of_ble_eq_true rfl) (fx_ki ?_)
              refine pm_iloadi hG dX7_join_98 rfl ?_
              refine pm_iloadi hG dX7_join_100 rfl ?_
              refine pm_mmin hG hR dX7_join_102 (mmX7_87 _ rfl) pm_mwmin (by omega) (by first | decide | exact Nat.le_of_ble_eq_true rfl) (Nat.le_refl _) (Nat.le_refl _) ?_
              refine pm_top (v := imin x6 x7) rfl ?_
              refine pm_mmin hG hR dX7_join_105 (mmX7_87 _ rfl) pm_mwmin (by omega) (by first | decide | exact Nat.le_of_ble_eq_true rfl) (Nat.le_refl _) (Nat.le_refl _) ?_
              refine pm_top (v := imin (fG 4 10 10 S4 x2_5 x4_6) (imin x6 x7)) rfl ?_
              refine pm_callV (As := [.int x2_5, .int x4_6, .int (imin (fG 4 10 10 S4 x2_5 x4_6) (imin x6 x7))]) (rest := []) hG hR dX7_join_108 (lkX7_61 _ rfl) okV_X9_set rfl rfl (tset_4 (d := 0)) rfl rfl hdd (Nat.le_refl _) (Nat.le_refl _) (by decide) (fx_kv ?_)
              refine fx_letc hE (fun S8 hE => ?_)
              refine pm_iincX (v := x4_6 + 1) (loc' := [some (.ref (B + 1)), some (.int za), some (.int zb), some (.int zc), some (.int x1), some (.int x2_5), some (.int (x4_6 + 1)), some (.int x6), some (.int x7)]) hG dX7_join_111 rfl (by rfl) (by decide) (pm_c1b rfl) rfl ?_
              refine pm_goto (tgt := 22) hG dX7_join_114 rfl ?_
              refine pm_fg 7 (loc' := [some (.ref (B + 1)), some (.int za), some (.int zb), some (.int zc), some (.int x1), some (.int x2_5), some (.int (x4_6 + 1)), none, some (.int x7)]) rfl ?_
              refine pm_fg 8 (loc' := [some (.ref (B + 1)), some (.int za), some (.int zb), some (.int zc), some (.int x1), some (.int x2_5), some (.int (x4_6 + 1)), none, none]) rfl ?_
              exact ih22 _ _ hE
        refine loop22 _ (fun S9 x9_6 hE => ?_) _ _ _ hE
        refine pm_iincX (v := x2_5 + 1) (loc' := [some (.ref (B + 1)), some (.int za), some (.int zb), some (.int zc), some (.int x1), some (.int (x2_5 + 1)), some (.int x9_6), none, none]) hG dX7_join_117 rfl (by rfl) (by decide) (pm_c1b rfl) rfl ?_
        refine pm_goto (tgt := 12) hG dX7_join_120 rfl ?_
        refine pm_fg 6 (loc' := [some (.ref (B + 1)), some (.int za), some (.int zb), some (.int zc), some (.int x1), some (.int (x2_5 + 1)), none, none, none]) rfl ?_
        exact ih12 _ _ hE
  refine loop12 _ (fun S10 x10_5 hE => ?_) _ _ _ hE
  refine pm_aloadn hG dX7_join_123 rfl ?_
  refine pm_dup hG dX7_join_124 rfl ?_
  refine pm_getf hG dX7_join_125 (flX7_69 _ rfl) rfl rfl ?_
  refine pm_iconst (v := 1) hG dX7_join_128 (by decide) ?_
  refine pm_iadd hG dX7_join_129 ?_
  refine pm_putf hG dX7_join_130 (fwX7_69 _ rfl) rfl rfl rfl ?_
  refine ci_101 ?_
  refine fx_letc hE (fun S11 hE => ?_)
  refine pm_aloadn hG dX7_join_133 rfl ?_
  refine pm_getf hG dX7_join_134 (flX7_69 _ rfl) rfl rfl ?_
  exact pm_iret hG hF dX7_join_137 rfl (Nat.le_refl _) (Nat.le_refl _) (fx_ric hE)

set_option maxRecDepth 100000 in
set_option maxHeartbeats 4000000 in
theorem c_X11_road {d : Nat} {B cnt : Nat} {kp : Value} {ρ : pm_S} {S : FS} {za : Int32} {zb : Int32} {zc : Int32} {R : Int32 × FS} (hdd : 2 ≤ d) (hE : f_X11_road S za zb zc = some R) : pm_met mX11_road d 0 0 B [.ref (B + 0), .int za, .int zb, .int zc] cnt (cst B kp S ρ) (pm_Qi (fun v σ' cnt' => v = R.1 ∧ σ' = (cst B kp R.2 ρ) ∧ cnt' = cnt)) := by
  refine pm_enter 0 (by decide) (Nat.le_of_ble_eq_true rfl) rfl (fun G hG hR hF => ?_)
  unfold f_X11_road at hE
  refine pm_aloadn hG dX11_road_0 rfl ?_
  refine pm_getf hG dX11_road_1 (flX11_12 _ rfl) rfl rfl ?_
  refine pm_getf hG dX11_road_4 (flX11_82 _ rfl) rfl rfl ?_
  refine pm_iloadn hG dX11_road_7 rfl ?_
  refine pm_callV (As := [.int za]) (rest := []) hG hR dX11_road_8 (lkX11_101 _ rfl) okV_X9_has rfl rfl (thas_2 (d := 1)) rfl rfl hdd (Nat.le_refl _) (Nat.le_refl _) (by decide) (fx_ki ?_)
  refine pm_if_eq (tgt := 43) hG dX11_road_11 rfl (fun c1 => ?_) (fun c1 => ?_)
  · replace hE := fx_t c1 hE
    refine pm_aloadn hG dX11_road_43 rfl ?_
    refine pm_ldc hG dX11_road_44 (ctX11_109 _ rfl) ?_
    obtain ⟨r3, h2, hE⟩ := fb_some hE
    refine pm_callV (As := [.int (-1000001)]) (rest := []) hG hR dX11_road_46 (lkX11_97 _ rfl) okV_X11_told rfl rfl (c_X11_told (d := 1) (by decide) h2) rfl rfl hdd (Nat.le_refl _) (Nat.le_refl _) (by decide) (fx_ki ?_)
    exact pm_iret hG hF dX11_road_49 rfl (Nat.le_refl _) (Nat.le_refl _) (fx_ric hE)
  · replace hE := fx_f c1 hE
    refine pm_aloadn hG dX11_road_14 rfl ?_
    refine pm_getf hG dX11_road_15 (flX11_12 _ rfl) rfl rfl ?_
    refine pm_getf hG dX11_road_18 (flX11_82 _ rfl) rfl rfl ?_
    refine pm_iloadn hG dX11_road_21 rfl ?_
    refine pm_callV (As := [.int zb]) (rest := []) hG hR dX11_road_22 (lkX11_101 _ rfl) okV_X9_has rfl rfl (thas_2 (d := 1)) rfl rfl hdd (Nat.le_refl _) (Nat.le_refl _) (by decide) (fx_ki ?_)
    refine pm_if_eq (tgt := 43) hG dX11_road_25 rfl (fun c4 => ?_) (fun c4 => ?_)
    · replace hE := fx_t c4 hE
      refine pm_aloadn hG dX11_road_43 rfl ?_
      refine pm_ldc hG dX11_road_44 (ctX11_109 _ rfl) ?_
      obtain ⟨r6, h5, hE⟩ := fb_some hE
      refine pm_callV (As := [.int (-1000001)]) (rest := []) hG hR dX11_road_46 (lkX11_97 _ rfl) okV_X11_told rfl rfl (c_X11_told (d := 1) (by decide) h5) rfl rfl hdd (Nat.le_refl _) (Nat.le_refl _) (by decide) (fx_ki ?_)
      exact pm_iret hG hF dX11_road_49 rfl (Nat.le_refl _) (Nat.le_refl _) (fx_ric hE)
    · replace hE := fx_f c4 hE
      refine pm_iloadn hG dX11_road_28 rfl ?_
      refine pm_iloadn hG dX11_road_29 rfl ?_
      refine pm_icmp_eq (tgt := 43) hG dX11_road_30 rfl (fun c7 => ?_) (fun c7 => ?_)
      · replace hE := fx_t c7 hE
        refine pm_aloadn hG dX11_road_43 rfl ?_
        refine pm_ldc hG dX11_road_44 (ctX11_109 _ rfl) ?_
        obtain ⟨r9, h8, hE⟩ := fb_some hE
        refine pm_callV (As := [.int (-1000001)]) (rest := []) hG hR dX11_road_46 (lkX11_97 _ rfl) okV_X11_told rfl rfl (c_X11_told (d := 1) (by decide) h8) rfl rfl hdd (Nat.le_refl _) (Nat.le_refl _) (by decide) (fx_ki ?_)
        exact pm_iret hG hF dX11_road_49 rfl (Nat.le_refl _) (Nat.le_refl _) (fx_ric hE)
      · replace hE := fx_f c7 hE
        refine pm_iloadn hG dX11_road_33 rfl ?_
        refine pm_iconst (v := 1) hG dX11_road_34 (by decide) ?_
        refine pm_bipush (v := 9) hG dX11_road_35 (by decide) ?_
        refine pm_callS (As := [.int zc, .int 1, .int 9]) (rest := []) hG hR dX11_road_37 (lkX11_105 _ rfl) okS_X11_isOutside (tOut (d := 1)) rfl rfl hdd (Nat.le_refl _) (Nat.le_refl _) (by decide) (fx_ki ?_)
        refine pm_if_eq (tgt := 50) hG dX11_road_40 rfl (fun c10 => ?_) (fun c10 => ?_)
        · replace hE := fx_t c10 hE
          refine pm_aloadn hG dX11_road_50 rfl ?_
          refine pm_aloadn hG dX11_road_51 rfl ?_
          refine pm_getf hG dX11_road_52 (flX11_12 _ rfl) rfl rfl ?_
          refine pm_getf hG dX11_road_55 (flX11_110 _ rfl) rfl rfl ?_
          refine pm_bipush (v := 20) hG dX11_road_58 (by decide) ?_
          refine pm_icmp_lt (tgt := 68) hG dX11_road_60 rfl (fun c11 => ?_) (fun c11 => ?_)
          · replace hE := fx_t c11 hE
            refine pm_aloadn hG dX11_road_68 rfl ?_
            refine pm_getf hG dX11_road_69 (flX11_12 _ rfl) rfl rfl ?_
            refine pm_iloadn hG dX11_road_72 rfl ?_
            refine pm_iloadn hG dX11_road_73 rfl ?_
            refine pm_iloadn hG dX11_road_74 rfl ?_
            obtain ⟨r13, h12, hE⟩ := fb_some hE
            refine pm_callV (As := [.int za, .int zb, .int zc]) (rest := [.ref (B + 0)]) hG hR dX11_road_75 (lkX11_114 _ rfl) okV_X7_join rfl rfl (c_X7_join (d := 1) (by decide) h12) rfl rfl hdd (Nat.le_refl _) (Nat.le_refl _) (by first | decide | exact Nat.le_of_ble_eq_true rfl) (fx_ki ?_)
            obtain ⟨r15, h14, hE⟩ := fb_some hE
            refine pm_callV (As := [.int r13.1]) (rest := []) hG hR dX11_road_78 (lkX11_97 _ rfl) okV_X11_told rfl rfl (c_X11_told (d := 1) (by decide) h14) rfl rfl hdd (Nat.le_refl _) (Nat.le_refl _) (by decide) (fx_ki ?_)
            exact pm_iret hG hF dX11_road_81 rfl (Nat.le_refl _) (Nat.le_refl _) (fx_ric hE)
          · replace hE := fx_f c11 hE
            refine pm_ldc hG dX11_road_63 (ctX11_92 _ rfl) ?_
            refine pm_goto (tgt := 78) hG dX11_road_65 rfl ?_
            obtain ⟨r17, h16, hE⟩ := fb_some hE
            refine pm_callV (As := [.int (-1000004)]) (rest := []) hG hR dX11_road_78 (lkX11_97 _ rfl) okV_X11_told rfl rfl (c_X11_told (d := 1) (by decide) h16) rfl rfl hdd (Nat.le_refl _) (Nat.le_refl _) (by decide) (fx_ki ?_)
            exact pm_iret hG hF dX11_road_81 rfl (Nat.le_refl _) (Nat.le_refl _) (fx_ric hE)
        · replace hE := fx_f c10 hE
          refine pm_aloadn hG dX11_road_43 rfl ?_
          refine pm_ldc hG dX11_road_44 (ctX11_109 _ rfl) ?_
          obtain ⟨r19, h18, hE⟩ := fb_some hE
          refine pm_callV (As := [.int (-1000001)]) (rest := []) hG hR dX11_road_46 (lkX11_97 _ rfl) okV_X11_told rfl rfl (c_X11_told (d := 1) (by decide) h18) rfl rfl hdd (Nat.le_refl _) (Nat.le_refl _) (by decide) (fx_ki ?_)
          exact pm_iret hG hF dX11_road_49 rfl (Nat.le_refl _) (Nat.le_refl _) (fx_ric hE)
end
section
set_option maxRecDepth 100000 in
set_option maxHeartbeats 4000000 in
theorem c_X11_says {d : Nat} {B cnt : Nat} {kp : Value} {ρ : pm_S} {S : FS} {za : Int32} {zb : Int32} {zc : Int32} {R : Int32 × FS} (hdd : 4 ≤ d) (hE : f_X11_says S za zb zc = some R) : pm_met mX11_says d 0 0 B [.ref (B + 0), .int za, .int zb, .int zc] cnt (cst B kp S ρ) (pm_Qi (fun v σ' cnt' => v = R.1 ∧ σ' = (cst B kp R.2 ρ) ∧ cnt' = cnt)) := by
  refine pm_enter 2 (by decide) (Nat.le_of_ble_eq_true rfl) rfl (fun G hG hR hF => ?_)
  unfold f_X11_says at hE
  refine pm_iloadn hG dX11_says_0 rfl ?_
  refine pm_iconst (v := (-1)) hG dX11_says_1 (by decide) ?_
  refine pm_icmp_eq (tgt := 19) hG dX11_says_2 rfl (fun c1 => ?_) (fun c1 => ?_)
  · replace hE := fx_t c1 hE
    refine pm_iconst (v := 1) hG dX11_says_19 (by decide) ?_
    refine pm_goto (tgt := 24) hG dX11_says_20 rfl ?_
    refine pm_istoreXi (loc' := [some (.ref (B + 0)), some (.int za), some (.int zb), some (.int zc), some (.int 1), none]) hG dX11_says_24 (by decide) (pm_c1b rfl) rfl ?_
    refine pm_iloadn hG dX11_says_26 rfl ?_
    refine pm_iconst (v := (-1)) hG dX11_says_27 (by decide) ?_
    refine pm_icmp_eq (tgt := 45) hG dX11_says_28 rfl (fun c2 => ?_) (fun c2 => ?_)
    · replace hE := fx_t c2 hE
      refine pm_iconst (v := 1) hG dX11_says_45 (by decide) ?_
      refine pm_goto (tgt := 50) hG dX11_says_46 rfl ?_
      refine pm_istoreXi (loc' := [some (.ref (B + 0)), some (.int za), some (.int zb), some (.int zc), some (.int 1), some (.int 1)]) hG dX11_says_50 (by decide) (pm_c1b rfl) rfl ?_
      refine pm_aloadn hG dX11_says_52 rfl ?_
      refine pm_getf hG dX11_says_53 (flX11_12 _ rfl) rfl rfl ?_
      refine pm_getf hG dX11_says_56 (flX11_209 _ rfl) rfl rfl ?_
      refine pm_iloadn hG dX11_says_59 rfl ?_
      refine pm_callV (As := [.int za]) (rest := []) hG hR dX11_says_60 (lkX11_101 _ rfl) okV_X9_has rfl rfl (thas_10 (d := 3)) rfl rfl hdd (Nat.le_refl _) (Nat.le_refl _) (by decide) (fx_ki ?_)
      refine pm_if_eq (tgt := 76) hG dX11_says_63 rfl (fun c3 => ?_) (fun c3 => ?_)
      · replace hE := fx_t c3 hE
        refine pm_aloadn hG dX11_says_76 rfl ?_
        refine pm_ldc hG dX11_says_77 (ctX11_109 _ rfl) ?_
        obtain ⟨r5, h4, hE⟩ := fb_some hE
        refine pm_callV (As := [.int (-1000001)]) (rest := []) hG hR dX11_says_79 (lkX11_97 _ rfl) okV_X11_told rfl rfl (c_X11_told (d := 3) (by decide) h4) rfl rfl hdd (Nat.le_refl _) (Nat.le_refl _) (by decide) (fx_ki ?_)
        exact pm_iret hG hF dX11_says_82 rfl (Nat.le_refl _) (Nat.le_refl _) (fx_ric hE)
      · replace hE := fx_f c3 hE
        refine pm_iloadi hG dX11_says_66 rfl ?_
        refine pm_if_eq (tgt := 76) hG dX11_says_68 rfl (fun q => absurd q (by decide)) (fun _ => ?_)
        refine pm_iloadi hG dX11_says_71 rfl ?_
        refine pm_if_ne (tgt := 83) hG dX11_says_73 rfl (fun _ => ?_) (fun q => absurd q (by decide))
        refine pm_aloadn hG dX11_says_83 rfl ?_
        refine pm_getf hG dX11_says_84 (flX11_21 _ rfl) rfl rfl ?_
        refine pm_iloadn hG dX11_says_87 rfl ?_
        refine pm_iloadn hG dX11_says_88 rfl ?_
        refine pm_iloadn hG dX11_says_89 rfl ?_
        refine pm_aloadn hG dX11_says_90 rfl ?_
        refine pm_getf hG dX11_says_91 (flX11_12 _ rfl) rfl rfl ?_
        refine pm_getf hG dX11_says_94 (flX11_122 _ rfl) rfl rfl ?_
        obtain ⟨r7, h6, hE⟩ := fb_some hE
        refine pm_callV (As := [.int za, .int zb, .int zc, .int (S.1 102)]) (rest := []) hG hR dX11_says_97 (lkX11_226 _ rfl) okV_X2_comesTo rfl rfl (c_X2_comesTo (d := 3) (by decide) h6) rfl rfl hdd (Nat.le_refl _) (Nat.le_refl _) (by decide) (fx_ki ?_)
        exact pm_iret hG hF dX11_says_100 rfl (Nat.le_refl _) (Nat.le_refl _) (fx_ric hE)
    · replace hE := fx_f c2 hE
      refine pm_aloadn hG dX11_says_31 rfl ?_
      refine pm_getf hG dX11_says_32 (flX11_12 _ rfl) rfl rfl ?_
      refine pm_getf hG dX11_says_35 (flX11_224 _ rfl) rfl rfl ?_
      refine pm_iloadn hG dX11_says_38 rfl ?_
      refine pm_callV (As := [.int zc]) (rest := []) hG hR dX11_says_39 (lkX11_101 _ rfl) okV_X9_has rfl rfl (thas_14 (d := 3)) rfl rfl hdd (Nat.le_refl _) (Nat.le_refl _) (by decide) (fx_ki ?_)
      refine pm_if_eq (tgt := 49) hG dX11_says_42 rfl (fun c8 => ?_) (fun c8 => ?_)
      · replace hE := fx_t c8 hE
        refine pm_iconst (v := 0) hG dX11_says_49 (by decide) ?_
        refine pm_istoreXi (loc' := [some (.ref (B + 0)), some (.int za), some (.int zb), some (.int zc), some (.int 1), some (.int 0)]) hG dX11_says_50 (by decide) (pm_c1b rfl) rfl ?_
        refine pm_aloadn hG dX11_says_52 rfl ?_
        refine pm_getf hG dX11_says_53 (flX11_12 _ rfl) rfl rfl ?_
        refine pm_getf hG dX11_says_56 (flX11_209 _ rfl) rfl rfl ?_
        refine pm_iloadn hG dX11_says_59 rfl ?_
        refine pm_callV (As := [.int za]) (rest := []) hG hR dX11_says_60 (lkX11_101 _ rfl) okV_X9_has rfl rfl (thas_10 (d := 3)) rfl rfl hdd (Nat.le_refl _) (Nat.le_refl _) (by decide) (fx_ki ?_)
        refine pm_if_eq (tgt := 76) hG dX11_says_63 rfl (fun c9 => ?_) (fun c9 => ?_)
        · replace hE := fx_t c9 hE
          refine pm_aloadn hG dX11_says_76 rfl ?_
          refine pm_ldc hG dX11_says_77 (ctX11_109 _ rfl) ?_
          obtain ⟨r11, h10, hE⟩ := fb_some hE
          refine pm_callV (As := [.int (-1000001)]) (rest := []) hG hR dX11_says_79 (lkX11_97 _ rfl) okV_X11_told rfl rfl (c_X11_told (d := 3) (by decide) h10) rfl rfl hdd (Nat.le_refl _) (Nat.le_refl _) (by decide) (fx_ki ?_)
          exact pm_iret hG hF dX11_says_82 rfl (Nat.le_refl _) (Nat.le_refl _) (fx_ric hE)
        · replace hE := fx_f c9 hE
          refine pm_iloadi hG dX11_says_66 rfl ?_
          refine pm_if_eq (tgt := 76) hG dX11_says_68 rfl (fun q => absurd q (by decide)) (fun _ => ?_)
          refine pm_iloadi hG dX11_says_71 rfl ?_
          refine pm_if_ne (tgt := 83) hG dX11_says_73 rfl (fun q => absurd q (by decide)) (fun _ => ?_)
          refine pm_aloadn hG dX11_says_76 rfl ?_
          refine pm_ldc hG dX11_says_77 (ctX11_109 _ rfl) ?_
          obtain ⟨r13, h12, hE⟩ := fb_some hE
          refine pm_callV (As := [.int (-1000001)]) (rest := []) hG hR dX11_says_79 (lkX11_97 _ rfl) okV_X11_told rfl rfl (c_X11_told (d := 3) (by decide) h12) rfl rfl hdd (Nat.le_refl _) (Nat.le_refl _) (by decide) (fx_ki ?_)
          exact pm_iret hG hF dX11_says_82 rfl (Nat.le_refl _) (Nat.le_refl _) (fx_ric hE)
      · replace hE := fx_f c8 hE
        refine pm_iconst (v := 1) hG dX11_says_45 (by decide) ?_
        refine pm_goto (tgt := 50) hG dX11_says_46 rfl ?_
        refine pm_istoreXi (loc' := [some (.ref (B + 0)), some (.int za), some (.int zb), some (.int zc), some (.int 1), some (.int 1)]) hG dX11_says_50 (by decide) (pm_c1b rfl) rfl ?_
        refine pm_aloadn hG dX11_says_52 rfl ?_
        refine pm_getf hG dX11_says_53 (flX11_12 _ rfl) rfl rfl ?_
        refine pm_getf hG dX11_says_56 (flX11_209 _ rfl) rfl rfl ?_
        refine pm_iloadn hG dX11_says_59 rfl ?_
        refine pm_callV (As := [.int za]) (rest := []) hG hR dX11_says_60 (lkX11_101 _ rfl) okV_X9_has rfl rfl (thas_10 (d := 3)) rfl rfl hdd (Nat.le_refl _) (Nat.le_refl _) (by decide) (fx_ki ?_)
        refine pm_if_eq (tgt := 76) hG dX11_says_63 rfl (fun c14 => ?_) (fun c14 => ?_)
        · replace hE := fx_t c14 hE
          refine pm_aloadn hG dX11_says_76 rfl ?_
          refine pm_ldc hG dX11_says_77 (ctX11_109 _ rfl) ?_
          obtain ⟨r16, h15, hE⟩ := fb_some hE
          refine pm_callV (As := [.int (-1000001)]) (rest := []) hG hR dX11_says_79 (lkX11_97 _ rfl) okV_X11_told rfl rfl (c_X11_told (d := 3) (by decide) h15) rfl rfl hdd (Nat.le_refl _) (Nat.le_refl _) (by decide) (fx_ki ?_)
          exact pm_iret hG hF dX11_says_82 rfl (Nat.le_refl _) (Nat.le_refl _) (fx_ric hE)
        · replace hE := fx_f c14 hE
          refine pm_iloadi hG dX11_says_66 rfl ?_
          refine pm_if_eq (tgt := 76) hG dX11_says_68 rfl (fun q => absurd q (by decide)) (fun _ => ?_)
          refine pm_iloadi hG dX11_says_71 rfl ?_
          refine pm_if_ne (tgt := 83) hG dX11_says_73 rfl (fun _ => ?_) (fun q => absurd q (by decide))
          refine pm_aloadn hG dX11_says_83 rfl ?_
          refine pm_getf hG dX11_says_84 (flX11_21 _ rfl) rfl rfl ?_
          refine pm_iloadn hG dX11_says_87 rfl ?_
          refine pm_iloadn hG dX11_says_88 rfl ?_
          refine pm_iloadn hG dX11_says_89 rfl ?_
          refine pm_aloadn hG dX11_says_90 rfl ?_
          refine pm_getf hG dX11_says_91 (flX11_12 _ rfl) rfl rfl ?_
          refine pm_getf hG dX11_says_94 (flX11_122 _ rfl) rfl rfl ?_
          obtain ⟨r18, h17, hE⟩ := fb_some hE
          refine pm_callV (As := [.int za, .int zb, .int zc, .int (S.1 102)]) (rest := []) hG hR dX11_says_97 (lkX11_226 _ rfl) okV_X2_comesTo rfl rfl (c_X2_comesTo (d := 3) (by decide) h17) rfl rfl hdd (Nat.le_refl _) (Nat.le_refl _) (by decide) (fx_ki ?_)
          exact pm_iret hG hF dX11_says_100 rfl (Nat.le_refl _) (Nat.le_refl _) (fx_ric hE)
  · replace hE := fx_f c1 hE
    refine pm_aloadn hG dX11_says_5 rfl ?_
    refine pm_getf hG dX11_says_6 (flX11_12 _ rfl) rfl rfl ?_
    refine pm_getf hG dX11_says_9 (flX11_128 _ rfl) rfl rfl ?_
    refine pm_iloadn hG dX11_says_12 rfl ?_
    refine pm_callV (As := [.int zb]) (rest := []) hG hR dX11_says_13 (lkX11_101 _ rfl) okV_X9_has rfl rfl (thas_6 (d := 3)) rfl rfl hdd (Nat.le_refl _) (Nat.le_refl _) (by decide) (fx_ki ?_)
    refine pm_if_eq (tgt := 23) hG dX11_says_16 rfl (fun c19 => ?_) (fun c19 => ?_)
    · replace hE := fx_t c19 hE
      refine pm_iconst (v := 0) hG dX11_says_23 (by decide) ?_
      refine pm_istoreXi (loc' := [some (.ref (B + 0)), some (.int za), some (.int zb), some (.int zc), some (.int 0), none]) hG dX11_says_24 (by decide) (pm_c1b rfl) rfl ?_
      refine pm_iloadn hG dX11_says_26 rfl ?_
      refine pm_iconst (v := (-1)) hG dX11_says_27 (by decide) ?_
      refine pm_icmp_eq (tgt := 45) hG dX11_says_28 rfl (fun c20 => ?_) (fun c20 => ?_)
      · replace hE := fx_t c20 hE
        refine pm_iconst (v := 1) hG dX11_says_45 (by decide) ?_
        refine pm_goto (tgt := 50) hG dX11_says_46 rfl ?_
        refine pm_istoreXi (loc' := [some (.ref (B + 0)), some (.int za), some (.int zb), some (.int zc), some (.int 0), some (.int 1)]) hG dX11_says_50 (by decide) (pm_c1b rfl) rfl ?_
        refine pm_aloadn hG dX11_says_52 rfl ?_
        refine pm_getf hG dX11_says_53 (flX11_12 _ rfl) rfl rfl ?_
        refine pm_getf hG dX11_says_56 (flX11_209 _ rfl) rfl rfl ?_
        refine pm_iloadn hG dX11_says_59 rfl ?_
        refine pm_callV (As := [.int za]) (rest := []) hG hR dX11_says_60 (lkX11_101 _ rfl) okV_X9_has rfl rfl (thas_10 (d := 3)) rfl rfl hdd (Nat.le_refl _) (Nat.le_refl _) (by decide) (fx_ki ?_)
        refine pm_if_eq (tgt := 76) hG dX11_says_63 rfl (fun c21 => ?_) (fun c21 => ?_)
        · replace hE := fx_t c21 hE
          refine pm_aloadn hG dX11_says_76 rfl ?_
          refine pm_ldc hG dX11_says_77 (ctX11_109 _ rfl) ?_
          obtain ⟨r23, h22, hE⟩ := fb_some hE
          refine pm_callV (As := [.int (-1000001)]) (rest := []) hG hR dX11_says_79 (lkX11_97 _ rfl) okV_X11_told rfl rfl (c_X11_told (d := 3) (by decide) h22) rfl rfl hdd (Nat.le_refl _) (Nat.le_refl _) (by decide) (fx_ki ?_)
          exact pm_iret hG hF dX11_says_82 rfl (Nat.le_refl _) (Nat.le_refl _) (fx_ric hE)
        · replace hE := fx_f c21 hE
          refine pm_iloadi hG dX11_says_66 rfl ?_
          refine pm_if_eq (tgt := 76) hG dX11_says_68 rfl (fun _ => ?_) (fun q => absurd q (by decide))
          refine pm_aloadn hG dX11_says_76 rfl ?_
          refine pm_ldc hG dX11_says_77 (ctX11_109 _ rfl) ?_
          obtain ⟨r25, h24, hE⟩ := fb_some hE
          refine pm_callV (As := [.int (-1000001)]) (rest := []) hG hR dX11_says_79 (lkX11_97 _ rfl) okV_X11_told rfl rfl (c_X11_told (d := 3) (by decide) h24) rfl rfl hdd (Nat.le_refl _) (Nat.le_refl _) (by decide) (fx_ki ?_)
          exact pm_iret hG hF dX11_says_82 rfl (Nat.le_refl _) (Nat.le_refl _) (fx_ric hE)
      · replace hE := fx_f c20 hE
        refine pm_aloadn hG dX11_says_31 rfl ?_
        refine pm_getf hG dX11_says_32 (flX11_12 _ rfl) rfl rfl ?_
        refine pm_getf hG dX11_says_35 (flX11_224 _ rfl) rfl rfl ?_
        refine pm_iloadn hG dX11_says_38 rfl ?_
        refine pm_callV (As := [.int zc]) (rest := []) hG hR dX11_says_39 (lkX11_101 _ rfl) okV_X9_has rfl rfl (thas_14 (d := 3)) rfl rfl hdd (Nat.le_refl _) (Nat.le_refl _) (by decide) (fx_ki ?_)
        refine pm_if_eq (tgt := 49) hG dX11_says_42 rfl (fun c26 => ?_) (fun c26 => ?_)
        · replace hE := fx_t c26 hE
          refine pm_iconst (v := 0) hG dX11_says_49 (by decide) ?_
          refine pm_istoreXi (loc' := [some (.ref (B + 0)), some (.int za), some (.int zb), some (.int zc), some (.int 0), some (.int 0)]) hG dX11_says_50 (by decide) (pm_c1b rfl) rfl ?_
          refine pm_aloadn hG dX11_says_52 rfl ?_
          refine pm_getf hG dX11_says_53 (flX11_12 _ rfl) rfl rfl ?_
          refine pm_getf hG dX11_says_56 (flX11_209 _ rfl) rfl rfl ?_
          refine pm_iloadn hG dX11_says_59 rfl ?_
          refine pm_callV (As := [.int za]) (rest := []) hG hR dX11_says_60 (lkX11_101 _ rfl) okV_X9_has rfl rfl (thas_10 (d := 3)) rfl rfl hdd (Nat.le_refl _) (Nat.le_refl _) (by decide) (fx_ki ?_)
          refine pm_if_eq (tgt := 76) hG dX11_says_63 rfl (fun c27 => ?_) (fun c27 => ?_)
          · replace hE := fx_t c27 hE
            refine pm_aloadn hG dX11_says_76 rfl ?_
            refine pm_ldc hG dX11_says_77 (ctX11_109 _ rfl) ?_
            obtain ⟨r29, h28, hE⟩ := fb_some hE
            refine pm_callV (As := [.int (-1000001)]) (rest := []) hG hR dX11_says_79 (lkX11_97 _ rfl) okV_X11_told rfl rfl (c_X11_told (d := 3) (by decide) h28) rfl rfl hdd (Nat.le_refl _) (Nat.le_refl _) (by decide) (fx_ki ?_)
            exact pm_iret hG hF dX11_says_82 rfl (Nat.le_refl _) (Nat.le_refl _) (fx_ric hE)
          · replace hE := fx_f c27 hE
            refine pm_iloadi hG dX11_says_66 rfl ?_
            refine pm_if_eq (tgt := 76) hG dX11_says_68 rfl (fun _ => ?_) (fun q => absurd q (by decide))
            refine pm_aloadn hG dX11_says_76 rfl ?_
            refine pm_ldc hG dX11_says_77 (ctX11_109 _ rfl) ?_
            obtain ⟨r31, h30, hE⟩ := fb_some hE
            refine pm_callV (As := [.int (-1000001)]) (rest := []) hG hR dX11_says_79 (lkX11_97 _ rfl) okV_X11_told rfl rfl (c_X11_told (d := 3) (by decide) h30) rfl rfl hdd (Nat.le_refl _) (Nat.le_refl _) (by decide) (fx_ki ?_)
            exact pm_iret hG hF dX11_says_82 rfl (Nat.le_refl _) (Nat.le_refl _) (fx_ric hE)
        · replace hE := fx_f c26 hE
          refine pm_iconst (v := 1) hG dX11_says_45 (by decide) ?_
          refine pm_goto (tgt := 50) hG dX11_says_46 rfl ?_
          refine pm_istoreXi (loc' := [some (.ref (B + 0)), some (.int za), some (.int zb), some (.int zc), some (.int 0), some (.int 1)]) hG dX11_says_50 (by decide) (pm_c1b rfl) rfl ?_
          refine pm_aloadn hG dX11_says_52 rfl ?_
          refine pm_getf hG dX11_says_53 (flX11_12 _ rfl) rfl rfl ?_
          refine pm_getf hG dX11_says_56 (flX11_209 _ rfl) rfl rfl ?_
          refine pm_iloadn hG dX11_says_59 rfl ?_
          refine pm_callV (As := [.int za]) (rest := []) hG hR dX11_says_60 (lkX11_101 _ rfl) okV_X9_has rfl rfl (thas_10 (d := 3)) rfl rfl hdd (Nat.le_refl _) (Nat.le_refl _) (by decide) (fx_ki ?_)
          refine pm_if_eq (tgt := 76) hG dX11_says_63 rfl (fun c32 => ?_) (fun c32 => ?_)
          · replace hE := fx_t c32 hE
            refine pm_aloadn hG dX11_says_76 rfl ?_
            refine pm_ldc hG dX11_says_77 (ctX11_109 _ rfl) ?_
            obtain ⟨r34, h33, hE⟩ := fb_some hE
            refine pm_callV (As := [.int (-1000001)]) (rest := []) hG hR dX11_says_79 (lkX11_97 _ rfl) okV_X11_told rfl rfl (c_X11_told (d := 3) (by decide) h33) rfl rfl hdd (Nat.le_refl _) (Nat.le_refl _) (by decide) (fx_ki ?_)
            exact pm_iret hG hF dX11_says_82 rfl (Nat.le_refl _) (Nat.le_refl _) (fx_ric hE)
          · replace hE := fx_f c32 hE
            refine pm_iloadi hG dX11_says_66 rfl ?_
            refine pm_if_eq (tgt := 76) hG dX11_says_68 rfl (fun _ => ?_) (fun q => absurd q (by decide))
            refine pm_aloadn hG dX11_says_76 rfl ?_
            refine pm_ldc hG dX11_says_77 (ctX11_109 _ rfl) ?_
            obtain ⟨r36, h35, hE⟩ := fb_some hE
            refine pm_callV (As := [.int (-1000001)]) (rest := []) hG hR dX11_says_79 (lkX11_97 _ rfl) okV_X11_told rfl rfl (c_X11_told (d := 3) (by decide) h35) rfl rfl hdd (Nat.le_refl _) (Nat.le_refl _) (by decide) (fx_ki ?_)
            exact pm_iret hG hF dX11_says_82 rfl (Nat.le_refl _) (Nat.le_refl _) (fx_ric hE)
    · replace hE := fx_f c19 hE
      refine pm_iconst (v := 1) hG dX11_says_19 (by decide) ?_
      refine pm_goto (tgt := 24) hG dX11_says_20 rfl ?_
      refine pm_istoreXi (loc' := [some (.ref (B + 0)), some (.int za), some (.int zb), some (.int zc), some (.int 1), none]) hG dX11_says_24 (by decide) (pm_c1b rfl) rfl ?_
      refine pm_iloadn hG dX11_says_26 rfl ?_
      refine pm_iconst (v := (-1)) hG dX11_says_27 (by decide) ?_
      refine pm_icmp_eq (tgt := 45) hG dX11_says_28 rfl (fun c37 => ?_) (fun c37 => ?_)
      · replace hE := fx_t c37 hE
        refine pm_iconst (v := 1) hG dX11_says_45 (by decide) ?_
        refine pm_goto (tgt := 50) hG dX11_says_46 rfl ?_
        refine pm_istoreXi (loc' := [some (.ref (B + 0)), some (.int za), some (.int zb), some (.int zc), some (.int 1), some (.int 1)]) hG dX11_says_50 (by decide) (pm_c1b rfl) rfl ?_
        refine pm_aloadn hG dX11_says_52 rfl ?_
        refine pm_getf hG dX11_says_53 (flX11_12 _ rfl) rfl rfl ?_
        refine pm_getf hG dX11_says_56 (flX11_209 _ rfl) rfl rfl ?_
        refine pm_iloadn hG dX11_says_59 rfl ?_
        refine pm_callV (As := [.int za]) (rest := []) hG hR dX11_says_60 (lkX11_101 _ rfl) okV_X9_has rfl rfl (thas_10 (d := 3)) rfl rfl hdd (Nat.le_refl _) (Nat.le_refl _) (by decide) (fx_ki ?_)
        refine pm_if_eq (tgt := 76) hG dX11_says_63 rfl (fun c38 => ?_) (fun c38 => ?_)
        · replace hE := fx_t c38 hE
          refine pm_aloadn hG dX11_says_76 rfl ?_
          refine pm_ldc hG dX11_says_77 (ctX11_109 _ rfl) ?_
          obtain ⟨r40, h39, hE⟩ := fb_some hE
          refine pm_callV (As := [.int (-1000001)]) (rest := []) hG hR dX11_says_79 (lkX11_97 _ rfl) okV_X11_told rfl rfl (c_X11_told (d := 3) (by decide) h39) rfl rfl hdd (Nat.le_refl _) (Nat.le_refl _) (by decide) (fx_ki ?_)
          exact pm_iret hG hF dX11_says_82 rfl (Nat.le_refl _) (Nat.le_refl _) (fx_ric hE)
        · replace hE := fx_f c38 hE
          refine pm_iloadi hG dX11_says_66 rfl ?_
          refine pm_if_eq (tgt := 76) hG dX11_says_68 rfl (fun q => absurd q (by decide)) (fun _ => ?_)
          refine pm_iloadi hG dX11_says_71 rfl ?_
          refine pm_if_ne (tgt := 83) hG dX11_says_73 rfl (fun _ => ?_) (fun q => absurd q (by decide))
          refine pm_aloadn hG dX11_says_83 rfl ?_
          refine pm_getf hG dX11_says_84 (flX11_21 _ rfl) rfl rfl ?_
          refine pm_iloadn hG dX11_says_87 rfl ?_
          refine pm_iloadn hG dX11_says_88 rfl ?_
          refine pm_iloadn hG dX11_says_89 rfl ?_
          refine pm_aloadn hG dX11_says_90 rfl ?_
          refine pm_getf hG dX11_says_91 (flX11_12 _ rfl) rfl rfl ?_
          refine pm_getf hG dX11_says_94 (flX11_122 _ rfl) rfl rfl ?_
          obtain ⟨r42, h41, hE⟩ := fb_some hE
          refine pm_callV (As := [.int za, .int zb, .int zc, .int (S.1 102)]) (rest := []) hG hR dX11_says_97 (lkX11_226 _ rfl) okV_X2_comesTo rfl rfl (c_X2_comesTo (d := 3) (by decide) h41) rfl rfl hdd (Nat.le_refl _) (Nat.le_refl _) (by decide) (fx_ki ?_)
          exact pm_iret hG hF dX11_says_100 rfl (Nat.le_refl _) (Nat.le_refl _) (fx_ric hE)
      · replace hE := fx_f c37 hE
        refine pm_aloadn hG dX11_says_31 rfl ?_
        refine pm_getf hG dX11_says_32 (flX11_12 _ rfl) rfl rfl ?_
        refine pm_getf hG dX11_says_35 (flX11_224 _ rfl) rfl rfl ?_
        refine pm_iloadn hG dX11_says_38 rfl ?_
        refine pm_callV (As := [.int zc]) (rest := []) hG hR dX11_says_39 (lkX11_101 _ rfl) okV_X9_has rfl rfl (thas_14 (d := 3)) rfl rfl hdd (Nat.le_refl _) (Nat.le_refl _) (by decide) (fx_ki ?_)
        refine pm_if_eq (tgt := 49) hG dX11_says_42 rfl (fun c43 => ?_) (fun c43 => ?_)
        · replace hE := fx_t c43 hE
          refine pm_iconst (v := 0) hG dX11_says_49 (by decide) ?_
          refine pm_istoreXi (loc' := [some (.ref (B + 0)), some (.int za), some (.int zb), some (.int zc), some (.int 1), some (.int 0)]) hG dX11_says_50 (by decide) (pm_c1b rfl) rfl ?_
          refine pm_aloadn hG dX11_says_52 rfl ?_
          refine pm_getf hG dX11_says_53 (flX11_12 _ rfl) rfl rfl ?_
          refine pm_getf hG dX11_says_56 (flX11_209 _ rfl) rfl rfl ?_
          refine pm_iloadn hG dX11_says_59 rfl ?_
          refine pm_callV (As := [.int za]) (rest := []) hG hR dX11_says_60 (lkX11_101 _ rfl) okV_X9_has rfl rfl (thas_10 (d := 3)) rfl rfl hdd (Nat.le_refl _) (Nat.le_refl _) (by decide) (fx_ki ?_)
          refine pm_if_eq (tgt := 76) hG dX11_says_63 rfl (fun c44 => ?_) (fun c44 => ?_)
          · replace hE := fx_t c44 hE
            refine pm_aloadn hG dX11_says_76 rfl ?_
            refine pm_ldc hG dX11_says_77 (ctX11_109 _ rfl) ?_
            obtain ⟨r46, h45, hE⟩ := fb_some hE
            refine pm_callV (As := [.int (-1000001)]) (rest := []) hG hR dX11_says_79 (lkX11_97 _ rfl) okV_X11_told rfl rfl (c_X11_told (d := 3) (by decide) h45) rfl rfl hdd (Nat.le_refl _) (Nat.le_refl _) (by decide) (fx_ki ?_)
            exact pm_iret hG hF dX11_says_82 rfl (Nat.le_refl _) (Nat.le_refl _) (fx_ric hE)
          · replace hE := fx_f c44 hE
            refine pm_iloadi hG dX11_says_66 rfl ?_
            refine pm_if_eq (tgt := 76) hG dX11_says_68 rfl (fun q => absurd q (by decide)) (fun _ => ?_)
            refine pm_iloadi hG dX11_says_71 rfl ?_
            refine pm_if_ne (tgt := 83) hG dX11_says_73 rfl (fun q => absurd q (by decide)) (fun _ => ?_)
            refine pm_aloadn hG dX11_says_76 rfl ?_
            refine pm_ldc hG dX11_says_77 (ctX11_109 _ rfl) ?_
            obtain ⟨r48, h47, hE⟩ := fb_some hE
            refine pm_callV (As := [.int (-1000001)]) (rest := []) hG hR dX11_says_79 (lkX11_97 _ rfl) okV_X11_told rfl rfl (c_X11_told (d := 3) (by decide) h47) rfl rfl hdd (Nat.le_refl _) (Nat.le_refl _) (by decide) (fx_ki ?_)
            exact pm_iret hG hF dX11_says_82 rfl (Nat.le_refl _) (Nat.le_refl _) (fx_ric hE)
        · replace hE := fx_f c43 hE
          refine pm_iconst (v := 1) hG dX11_says_45 (by decide) ?_
          refine pm_goto (tgt := 50) hG dX11_says_46 rfl ?_
          refine pm_istoreXi (loc' := [some (.ref (B + 0)), some (.int za), some (.int zb), some (.int zc), some (.int 1), some (.int 1)]) hG dX11_says_50 (by decide) (pm_c1b rfl) rfl ?_
          refine pm_aloadn hG dX11_says_52 rfl ?_
          refine pm_getf hG dX11_says_53 (flX11_12 _ rfl) rfl rfl ?_
          refine pm_getf hG dX11_says_56 (flX11_209 _ rfl) rfl rfl ?_
          refine pm_iloadn hG dX11_says_59 rfl ?_
          refine pm_callV (As := [.int za]) (rest := []) hG hR dX11_says_60 (lkX11_101 _ rfl) okV_X9_has rfl rfl (thas_10 (d := 3)) rfl rfl hdd (Nat.le_refl _) (Nat.le_refl _) (by decide) (fx_ki ?_)
          refine pm_if_eq (tgt := 76) hG dX11_says_63 rfl (fun c49 => ?_) (fun c49 => ?_)
          · replace hE := fx_t c49 hE
            refine pm_aloadn hG dX11_says_76 rfl ?_
            refine pm_ldc hG dX11_says_77 (ctX11_109 _ rfl) ?_
            obtain ⟨r51, h50, hE⟩ := fb_some hE
            refine pm_callV (As := [.int (-1000001)]) (rest := []) hG hR dX11_says_79 (lkX11_97 _ rfl) okV_X11_told rfl rfl (c_X11_told (d := 3) (by decide) h50) rfl rfl hdd (Nat.le_refl _) (Nat.le_refl _) (by decide) (fx_ki ?_)
            exact pm_iret hG hF dX11_says_82 rfl (Nat.le_refl _) (Nat.le_refl _) (fx_ric hE)
          · replace hE := fx_f c49 hE
            refine pm_iloadi hG dX11_says_66 rfl ?_
            refine pm_if_eq (tgt := 76) hG dX11_says_68 rfl (fun q => absurd q (by decide)) (fun _ => ?_)
            refine pm_iloadi hG dX11_says_71 rfl ?_
            refine pm_if_ne (tgt := 83) hG dX11_says_73 rfl (fun _ => ?_) (fun q => absurd q (by decide))
            refine pm_aloadn hG dX11_says_83 rfl ?_
            refine pm_getf hG dX11_says_84 (flX11_21 _ rfl) rfl rfl ?_
            refine pm_iloadn hG dX11_says_87 rfl ?_
            refine pm_iloadn hG dX11_says_88 rfl ?_
            refine pm_iloadn hG dX11_says_89 rfl ?_
            refine pm_aloadn hG dX11_says_90 rfl ?_
            refine pm_getf hG dX11_says_91 (flX11_12 _ rfl) rfl rfl ?_
            refine pm_getf hG dX11_says_94 (flX11_122 _ rfl) rfl rfl ?_
            obtain ⟨r53, h52, hE⟩ := fb_some hE
            refine pm_callV (As := [.int za, .int zb, .int zc, .int (S.1 102)]) (rest := []) hG hR dX11_says_97 (lkX11_226 _ rfl) okV_X2_comesTo rfl rfl (c_X2_comesTo (d := 3) (by decide) h52) rfl rfl hdd (Nat.le_refl _) (Nat.le_refl _) (by decide) (fx_ki ?_)
            exact pm_iret hG hF dX11_says_100 rfl (Nat.le_refl _) (Nat.le_refl _) (fx_ric hE)

set_option maxRecDepth 100000 in
set_option maxHeartbeats 4000000 in
theorem c_X11_seat {d : Nat} {B cnt : Nat} {kp : Value} {ρ : pm_S} {S : FS} {za : Int32} {zb : Int32} {R : Int32 × FS} (hdd : 4 ≤ d) (hE : f_X11_seat S za zb = some R) : pm_met mX11_seat d 0 0 B [.ref (B + 0), .int za, .int zb] cnt (cst B kp S ρ) (pm_Qi (fun v σ' cnt' => v = R.1 ∧ σ' = (cst B kp R.2 ρ) ∧ cnt' = cnt)) := by
  refine pm_enter 1 (by decide) (Nat.le_of_ble_eq_true rfl) rfl (fun G hG hR hF => ?_)
  unfold f_X11_seat at hE
  refine pm_aloadn hG dX11_seat_0 rfl ?_
  refine pm_getf hG dX11_seat_1 (flX11_12 _ rfl) rfl rfl ?_
  refine pm_getf hG dX11_seat_4 (flX11_128 _ rfl) rfl rfl ?_
  refine pm_iloadn hG dX11_seat_7 rfl ?_
  refine pm_callV (As := [.int za]) (rest := []) hG hR dX11_seat_8 (lkX11_101 _ rfl) okV_X9_has rfl rfl (thas_6 (d := 3)) rfl rfl hdd (Nat.le_refl _) (Nat.le_refl _) (by decide) (fx_ki ?_)
  refine pm_if_ne (tgt := 21) hG dX11_seat_11 rfl (fun c1 => ?_) (fun c1 => ?_)
  · replace hE := fx_f c1 hE
    refine pm_aloadn hG dX11_seat_21 rfl ?_
    refine pm_getf hG dX11_seat_22 (flX11_12 _ rfl) rfl rfl ?_
    refine pm_getf hG dX11_seat_25 (flX11_128 _ rfl) rfl rfl ?_
    refine pm_iloadn hG dX11_seat_28 rfl ?_
    refine pm_bipush (v := 13) hG dX11_seat_29 (by decide) ?_
    refine pm_callV (As := [.int za, .int 13]) (rest := []) hG hR dX11_seat_31 (lkX11_152 _ rfl) okV_X9_get rfl rfl (tget_6 (d := 3)) rfl rfl hdd (Nat.le_refl _) (Nat.le_refl _) (by decide) (fx_ki ?_)
    refine pm_if_eq (tgt := 41) hG dX11_seat_34 rfl (fun c2 => ?_) (fun c2 => ?_)
    · replace hE := fx_t c2 hE
      refine pm_iconst (v := 0) hG dX11_seat_41 (by decide) ?_
      refine pm_istoreXn (loc' := [some (.ref (B + 0)), some (.int za), some (.int zb), some (.int 0)]) hG dX11_seat_42 (by decide) (pm_c1b rfl) rfl ?_
      refine pm_aloadn hG dX11_seat_43 rfl ?_
      refine pm_getf hG dX11_seat_44 (flX11_12 _ rfl) rfl rfl ?_
      refine pm_iloadn hG dX11_seat_47 rfl ?_
      refine pm_callV (As := [.int za]) (rest := []) hG hR dX11_seat_48 (lkX11_135 _ rfl) okV_X7_isLiving rfl rfl (c_X7_isLiving (d := 3) (by decide) rfl) rfl rfl hdd (Nat.le_refl _) (Nat.le_refl _) (by decide) (fx_ki ?_)
      refine pm_if_eq (tgt := 59) hG dX11_seat_51 rfl (fun c3 => ?_) (fun c3 => ?_)
      · replace hE := fx_t c3 hE
        refine pm_aloadn hG dX11_seat_59 rfl ?_
        refine pm_ldc hG dX11_seat_60 (ctX11_138 _ rfl) ?_
        obtain ⟨r5, h4, hE⟩ := fb_some hE
        refine pm_callV (As := [.int (-1000003)]) (rest := []) hG hR dX11_seat_62 (lkX11_97 _ rfl) okV_X11_told rfl rfl (c_X11_told (d := 3) (by decide) h4) rfl rfl hdd (Nat.le_refl _) (Nat.le_refl _) (by decide) (fx_ki ?_)
        exact pm_iret hG hF dX11_seat_65 rfl (Nat.le_refl _) (Nat.le_refl _) (fx_ric hE)
      · replace hE := fx_f c3 hE
        refine pm_iloadn hG dX11_seat_54 rfl ?_
        refine pm_iloadn hG dX11_seat_55 rfl ?_
        refine pm_icmp_ne (tgt := 66) hG dX11_seat_56 rfl (fun c6 => ?_) (fun c6 => ?_)
        · replace hE := fx_f c6 hE
          refine pm_iloadn hG dX11_seat_66 rfl ?_
          refine pm_if_eq (tgt := 95) hG dX11_seat_67 rfl (fun q => absurd q (Ne.symm c6)) (fun _ => ?_)
          refine pm_aloadn hG dX11_seat_70 rfl ?_
          refine pm_getf hG dX11_seat_71 (flX11_12 _ rfl) rfl rfl ?_
          refine pm_getf hG dX11_seat_74 (flX11_128 _ rfl) rfl rfl ?_
          refine pm_bipush (v := 13) hG dX11_seat_77 (by decide) ?_
          refine pm_iconst (v := 1) hG dX11_seat_79 (by decide) ?_
          obtain ⟨x8, h7, hE⟩ := fb_some hE
          refine pm_callV (As := [.int 13, .int 1]) (rest := []) hG hR dX11_seat_80 (lkX11_164 _ rfl) okV_X9_rowsWith rfl rfl (trowsWith_6 (d := 3) (k := 13) (by decide) rfl h7) rfl rfl hdd (Nat.le_refl _) (Nat.le_refl _) (by decide) (fx_ki ?_)
          refine pm_bipush (v := 9) hG dX11_seat_83 (by decide) ?_
          refine pm_icmp_lt (tgt := 95) hG dX11_seat_85 rfl (fun c9 => ?_) (fun c9 => ?_)
          · replace hE := fx_t c9 hE
            refine pm_iloadn hG dX11_seat_95 rfl ?_
            refine pm_if_eq (tgt := 116) hG dX11_seat_96 rfl (fun q => absurd q (Ne.symm c6)) (fun _ => ?_)
            refine pm_aloadn hG dX11_seat_99 rfl ?_
            refine pm_getf hG dX11_seat_100 (flX11_12 _ rfl) rfl rfl ?_
            refine pm_getf hG dX11_seat_103 (flX11_128 _ rfl) rfl rfl ?_
            refine pm_iloadn hG dX11_seat_106 rfl ?_
            refine pm_bipush (v := 13) hG dX11_seat_107 (by decide) ?_
            refine pm_iconst (v := 1) hG dX11_seat_109 (by decide) ?_
            refine pm_callV (As := [.int za, .int 13, .int 1]) (rest := []) hG hR dX11_seat_110 (lkX11_170 _ rfl) okV_X9_set rfl rfl (tset_6 (d := 3)) rfl rfl hdd (Nat.le_refl _) (Nat.le_refl _) (by decide) (fx_kv ?_)
            refine fx_letc hE (fun S10 hE => ?_)
            refine pm_goto (tgt := 124) hG dX11_seat_113 rfl ?_
            refine pm_aloadn hG dX11_seat_124 rfl ?_
            refine pm_getf hG dX11_seat_125 (flX11_12 _ rfl) rfl rfl ?_
            refine pm_getf hG dX11_seat_128 (flX11_128 _ rfl) rfl rfl ?_
            refine pm_bipush (v := 13) hG dX11_seat_131 (by decide) ?_
            refine pm_iconst (v := 1) hG dX11_seat_133 (by decide) ?_
            obtain ⟨x12, h11, hE⟩ := fb_some hE
            refine pm_callV (As := [.int 13, .int 1]) (rest := []) hG hR dX11_seat_134 (lkX11_164 _ rfl) okV_X9_rowsWith rfl rfl (trowsWith_6 (d := 3) (k := 13) (by decide) rfl h11) rfl rfl hdd (Nat.le_refl _) (Nat.le_refl _) (by decide) (fx_ki ?_)
            exact pm_iret hG hF dX11_seat_137 rfl (Nat.le_refl _) (Nat.le_refl _) (fx_ric hE)
          · replace hE := fx_f c9 hE
            refine pm_aloadn hG dX11_seat_88 rfl ?_
            refine pm_ldc hG dX11_seat_89 (ctX11_92 _ rfl) ?_
            obtain ⟨r14, h13, hE⟩ := fb_some hE
            refine pm_callV (As := [.int (-1000004)]) (rest := []) hG hR dX11_seat_91 (lkX11_97 _ rfl) okV_X11_told rfl rfl (c_X11_told (d := 3) (by decide) h13) rfl rfl hdd (Nat.le_refl _) (Nat.le_refl _) (by decide) (fx_ki ?_)
            exact pm_iret hG hF dX11_seat_94 rfl (Nat.le_refl _) (Nat.le_refl _) (fx_ric hE)
        · replace hE := fx_t c6 hE
          refine pm_aloadn hG dX11_seat_59 rfl ?_
          refine pm_ldc hG dX11_seat_60 (ctX11_138 _ rfl) ?_
          obtain ⟨r16, h15, hE⟩ := fb_some hE
          refine pm_callV (As := [.int (-1000003)]) (rest := []) hG hR dX11_seat_62 (lkX11_97 _ rfl) okV_X11_told rfl rfl (c_X11_told (d := 3) (by decide) h15) rfl rfl hdd (Nat.le_refl _) (Nat.le_refl _) (by decide) (fx_ki ?_)
          exact pm_iret hG hF dX11_seat_65 rfl (Nat.le_refl _) (Nat.le_refl _) (fx_ric hE)
    · replace hE := fx_f c2 hE
      refine pm_iconst (v := 1) hG dX11_seat_37 (by decide) ?_
      refine pm_goto (tgt := 42) hG dX11_seat_38 rfl ?_
      refine pm_istoreXn (loc' := [some (.ref (B + 0)), some (.int za), some (.int zb), some (.int 1)]) hG dX11_seat_42 (by decide) (pm_c1b rfl) rfl ?_
      refine pm_aloadn hG dX11_seat_43 rfl ?_
      refine pm_getf hG dX11_seat_44 (flX11_12 _ rfl) rfl rfl ?_
      refine pm_iloadn hG dX11_seat_47 rfl ?_
      refine pm_callV (As := [.int za]) (rest := []) hG hR dX11_seat_48 (lkX11_135 _ rfl) okV_X7_isLiving rfl rfl (c_X7_isLiving (d := 3) (by decide) rfl) rfl rfl hdd (Nat.le_refl _) (Nat.le_refl _) (by decide) (fx_ki ?_)
      refine pm_if_eq (tgt := 59) hG dX11_seat_51 rfl (fun c17 => ?_) (fun c17 => ?_)
      · replace hE := fx_t c17 hE
        refine pm_aloadn hG dX11_seat_59 rfl ?_
        refine pm_ldc hG dX11_seat_60 (ctX11_138 _ rfl) ?_
        obtain ⟨r19, h18, hE⟩ := fb_some hE
        refine pm_callV (As := [.int (-1000003)]) (rest := []) hG hR dX11_seat_62 (lkX11_97 _ rfl) okV_X11_told rfl rfl (c_X11_told (d := 3) (by decide) h18) rfl rfl hdd (Nat.le_refl _) (Nat.le_refl _) (by decide) (fx_ki ?_)
        exact pm_iret hG hF dX11_seat_65 rfl (Nat.le_refl _) (Nat.le_refl _) (fx_ric hE)
      · replace hE := fx_f c17 hE
        refine pm_iloadn hG dX11_seat_54 rfl ?_
        refine pm_iloadn hG dX11_seat_55 rfl ?_
        refine pm_icmp_ne (tgt := 66) hG dX11_seat_56 rfl (fun c20 => ?_) (fun c20 => ?_)
        · replace hE := fx_f c20 hE
          refine pm_iloadn hG dX11_seat_66 rfl ?_
          refine pm_if_eq (tgt := 95) hG dX11_seat_67 rfl (fun c21 => ?_) (fun c21 => ?_)
          · replace hE := fx_t c21 hE
            refine pm_iloadn hG dX11_seat_95 rfl ?_
            refine pm_if_eq (tgt := 116) hG dX11_seat_96 rfl (fun _ => ?_) (fun q => absurd c21 q)
            refine pm_aloadn hG dX11_seat_116 rfl ?_
            refine pm_getf hG dX11_seat_117 (flX11_30 _ rfl) rfl rfl ?_
            refine pm_iloadn hG dX11_seat_120 rfl ?_
            obtain ⟨r23, h22, hE⟩ := fb_some hE
            refine pm_callV (As := [.int za]) (rest := []) hG hR dX11_seat_121 (lkX11_139 _ rfl) okV_X0_unseat rfl rfl (c_X0_unseat (d := 3) (by decide) h22) rfl rfl hdd (Nat.le_refl _) (Nat.le_refl _) (by decide) (fx_kv ?_)
            refine pm_aloadn hG dX11_seat_124 rfl ?_
            refine pm_getf hG dX11_seat_125 (flX11_12 _ rfl) rfl rfl ?_
            refine pm_getf hG dX11_seat_128 (flX11_128 _ rfl) rfl rfl ?_
            refine pm_bipush (v := 13) hG dX11_seat_131 (by decide) ?_
            refine pm_iconst (v := 1) hG dX11_seat_133 (by decide) ?_
            obtain ⟨x25, h24, hE⟩ := fb_some hE
            refine pm_callV (As := [.int 13, .int 1]) (rest := []) hG hR dX11_seat_134 (lkX11_164 _ rfl) okV_X9_rowsWith rfl rfl (trowsWith_6 (d := 3) (k := 13) (by decide) rfl h24) rfl rfl hdd (Nat.le_refl _) (Nat.le_refl _) (by decide) (fx_ki ?_)
            exact pm_iret hG hF dX11_seat_137 rfl (Nat.le_refl _) (Nat.le_refl _) (fx_ric hE)
          · replace hE := fx_f c21 hE
            refine pm_aloadn hG dX11_seat_70 rfl ?_
            refine pm_getf hG dX11_seat_71 (flX11_12 _ rfl) rfl rfl ?_
            refine pm_getf hG dX11_seat_74 (flX11_128 _ rfl) rfl rfl ?_
            refine pm_bipush (v := 13) hG dX11_seat_77 (by decide) ?_
            refine pm_iconst (v := 1) hG dX11_seat_79 (by decide) ?_
            obtain ⟨x27, h26, hE⟩ := fb_some hE
            refine pm_callV (As := [.int 13, .int 1]) (rest := []) hG hR dX11_seat_80 (lkX11_164 _ rfl) okV_X9_rowsWith rfl rfl (trowsWith_6 (d := 3) (k := 13) (by decide) rfl h26) rfl rfl hdd (Nat.le_refl _) (Nat.le_refl _) (by decide) (fx_ki ?_)
            refine pm_bipush (v := 9) hG dX11_seat_83 (by decide) ?_
            refine pm_icmp_lt (tgt := 95) hG dX11_seat_85 rfl (fun c28 => ?_) (fun c28 => ?_)
            · replace hE := fx_t c28 hE
              refine pm_iloadn hG dX11_seat_95 rfl ?_
              refine pm_if_eq (tgt := 116) hG dX11_seat_96 rfl (fun q => absurd q c21) (fun _ => ?_)
              refine pm_aloadn hG dX11_seat_99 rfl ?_
              refine pm_getf hG dX11_seat_100 (flX11_12 _ rfl) rfl rfl ?_
              refine pm_getf hG dX11_seat_103 (flX11_128 _ rfl) rfl rfl ?_
              refine pm_iloadn hG dX11_seat_106 rfl ?_
              refine pm_bipush (v := 13) hG dX11_seat_107 (by decide) ?_
              refine pm_iconst (v := 1) hG dX11_seat_109 (by decide) ?_
              refine pm_callV (As := [.int za, .int 13, .int 1]) (rest := []) hG hR dX11_seat_110 (lkX11_170 _ rfl) okV_X9_set rfl rfl (tset_6 (d := 3)) rfl rfl hdd (Nat.le_refl _) (Nat.le_refl _) (by decide) (fx_kv ?_)
              refine fx_letc hE (fun S29 hE => ?_)
              refine pm_goto (tgt := 124) hG dX11_seat_113 rfl ?_
              refine pm_aloadn hG dX11_seat_124 rfl ?_
              refine pm_getf hG dX11_seat_125 (flX11_12 _ rfl) rfl rfl ?_
              refine pm_getf hG dX11_seat_128 (flX11_128 _ rfl) rfl rfl ?_
              refine pm_bipush (v := 13) hG dX11_seat_131 (by decide) ?_
              refine pm_iconst (v := 1) hG dX11_seat_133 (by decide) ?_
              obtain ⟨x31, h30, hE⟩ := fb_some hE
              refine pm_callV (As := [.int 13, .int 1]) (rest := []) hG hR dX11_seat_134 (lkX11_164 _ rfl) okV_X9_rowsWith rfl rfl (trowsWith_6 (d := 3) (k := 13) (by decide) rfl h30) rfl rfl hdd (Nat.le_refl _) (Nat.le_refl _) (by decide) (fx_ki ?_)
              exact pm_iret hG hF dX11_seat_137 rfl (Nat.le_refl _) (Nat.le_refl _) (fx_ric hE)
            · replace hE := fx_f c28 hE
              refine pm_aloadn hG dX11_seat_88 rfl ?_
              refine pm_ldc hG dX11_seat_89 (ctX11_92 _ rfl) ?_
              obtain ⟨r33, h32, hE⟩ := fb_some hE
              refine pm_callV (As := [.int (-1000004)]) (rest := []) hG hR dX11_seat_91 (lkX11_97 _ rfl) okV_X11_told rfl rfl (c_X11_told (d := 3) (by decide) h32) rfl rfl hdd (Nat.le_refl _) (Nat.le_refl _) (by decide) (fx_ki ?_)
              exact pm_iret hG hF dX11_seat_94 rfl (Nat.le_refl _) (Nat.le_refl _) (fx_ric hE)
        · replace hE := fx_t c20 hE
          refine pm_aloadn hG dX11_seat_59 rfl ?_
          refine pm_ldc hG dX11_seat_60 (ctX11_138 _ rfl) ?_
          obtain ⟨r35, h34, hE⟩ := fb_some hE
          refine pm_callV (As := [.int (-1000003)]) (rest := []) hG hR dX11_seat_62 (lkX11_97 _ rfl) okV_X11_told rfl rfl (c_X11_told (d := 3) (by decide) h34) rfl rfl hdd (Nat.le_refl _) (Nat.le_refl _) (by decide) (fx_ki ?_)
          exact pm_iret hG hF dX11_seat_65 rfl (Nat.le_refl _) (Nat.le_refl _) (fx_ric hE)
  · replace hE := fx_t c1 hE
    refine pm_aloadn hG dX11_seat_14 rfl ?_
    refine pm_ldc hG dX11_seat_15 (ctX11_109 _ rfl) ?_
    obtain ⟨r37, h36, hE⟩ := fb_some hE
    refine pm_callV (As := [.int (-1000001)]) (rest := []) hG hR dX11_seat_17 (lkX11_97 _ rfl) okV_X11_told rfl rfl (c_X11_told (d := 3) (by decide) h36) rfl rfl hdd (Nat.le_refl _) (Nat.le_refl _) (by decide) (fx_ki ?_)
    exact pm_iret hG hF dX11_seat_20 rfl (Nat.le_refl _) (Nat.le_refl _) (fx_ric hE)

set_option maxRecDepth 100000 in
set_option maxHeartbeats 4000000 in
theorem c_X3_dispatch {d : Nat} {B cnt : Nat} {kp : Value} {ρ : pm_S} {S : FS} {za : Int32} {zb : Int32} {R : Int32 × FS} (hdd : 3 ≤ d) (hE : f_X3_dispatch S za zb = some R) : pm_met mX3_dispatch d 0 0 B [.ref (B + 36), .int za, .int zb] cnt (cst B kp S ρ) (pm_Qi (fun v σ' cnt' => v = R.1 ∧ σ' = (cst B kp R.2 ρ) ∧ cnt' = cnt)) := by
  refine pm_enter 2 (by decide) (Nat.le_of_ble_eq_true rfl) rfl (fun G hG hR hF => ?_)
  unfold f_X3_dispatch at hE
  refine pm_aloadn hG dX3_dispatch_0 rfl ?_
  refine pm_iloadn hG dX3_dispatch_1 rfl ?_
  refine pm_callV (As := [.int za]) (rest := []) hG hR dX3_dispatch_2 (lkX3_55 _ rfl) okV_X3_isSent rfl rfl (c_X3_isSent (d := 2) (by decide) rfl) rfl rfl hdd (Nat.le_refl _) (Nat.le_refl _) (by decide) (fx_ki ?_)
  refine pm_if_ne (tgt := 19) hG dX3_dispatch_5 rfl (fun c1 => ?_) (fun c1 => ?_)
  · replace hE := fx_f c1 hE
    refine pm_ldc hG dX3_dispatch_19 (ctX3_62 _ rfl) ?_
    exact pm_iret hG hF dX3_dispatch_21 rfl (Nat.le_refl _) (Nat.le_refl _) (fx_ric hE)
  · replace hE := fx_t c1 hE
    refine pm_aloadn hG dX3_dispatch_8 rfl ?_
    refine pm_getf hG dX3_dispatch_9 (flX3_9 _ rfl) rfl rfl ?_
    refine pm_iloadn hG dX3_dispatch_12 rfl ?_
    refine pm_callV (As := [.int zb]) (rest := []) hG hR dX3_dispatch_13 (lkX3_59 _ rfl) okV_X7_isInTown rfl rfl (c_X7_isInTown (d := 2) (by decide) rfl) rfl rfl hdd (Nat.le_refl _) (Nat.le_refl _) (by decide) (fx_ki ?_)
    refine pm_if_ne (tgt := 22) hG dX3_dispatch_16 rfl (fun c2 => ?_) (fun c2 => ?_)
    · replace hE := fx_f c2 hE
      refine pm_aloadn hG dX3_dispatch_22 rfl ?_
      refine pm_getf hG dX3_dispatch_23 (flX3_9 _ rfl) rfl rfl ?_
      refine pm_getf hG dX3_dispatch_26 (flX3_32 _ rfl) rfl rfl ?_
      refine pm_iloadn hG dX3_dispatch_29 rfl ?_
      refine pm_iconst (v := 4) hG dX3_dispatch_30 (by decide) ?_
      refine pm_callV (As := [.int zb, .int 4]) (rest := []) hG hR dX3_dispatch_31 (lkX3_35 _ rfl) okV_X9_get rfl rfl (tget_6 (d := 2)) rfl rfl hdd (Nat.le_refl _) (Nat.le_refl _) (by decide) (fx_ki ?_)
      refine fx_letv hE (fun x3 hE => ?_)
      refine pm_istoreXn (loc' := [some (.ref (B + 36)), some (.int za), some (.int zb), some (.int x3), none]) hG dX3_dispatch_34 (by decide) (pm_c1b rfl) rfl ?_
      refine pm_aloadn hG dX3_dispatch_35 rfl ?_
      refine pm_getf hG dX3_dispatch_36 (flX3_9 _ rfl) rfl rfl ?_
      refine pm_aloadn hG dX3_dispatch_39 rfl ?_
      refine pm_getf hG dX3_dispatch_40 (flX3_29 _ rfl) rfl rfl ?_
      refine pm_iloadn hG dX3_dispatch_43 rfl ?_
      refine pm_iconst (v := 3) hG dX3_dispatch_44 (by decide) ?_
      refine pm_callV (As := [.int za, .int 3]) (rest := [.ref (B + 1)]) hG hR dX3_dispatch_45 (lkX3_35 _ rfl) okV_X9_get rfl rfl (tget_14 (d := 2)) rfl rfl hdd (Nat.le_refl _) (Nat.le_refl _) (by first | decide | exact Nat.le_of_ble_eq_true rfl) (fx_ki ?_)
      refine pm_iloadn hG dX3_dispatch_48 rfl ?_
      refine pm_callV (As := [.int (fG 14 40 12 S za 3), .int x3]) (rest := []) hG hR dX3_dispatch_49 (lkX3_78 _ rfl) okV_X7_wayBetween rfl rfl (c_X7_wayBetween (d := 2) (by decide) rfl) rfl rfl hdd (Nat.le_refl _) (Nat.le_refl _) (by decide) (fx_ki ?_)
      refine fx_letv hE (fun x4 hE => ?_)
      refine pm_istoreXi (loc' := [some (.ref (B + 36)), some (.int za), some (.int zb), some (.int x3), some (.int x4)]) hG dX3_dispatch_52 (by decide) (pm_c1b rfl) rfl ?_
      refine pm_iloadi hG dX3_dispatch_54 rfl ?_
      refine pm_if_ge (tgt := 62) hG dX3_dispatch_56 rfl (fun c5 => ?_) (fun c5 => ?_)
      · replace c5 := Int32.not_lt.mpr c5
        replace hE := fx_f c5 hE
        refine pm_aloadn hG dX3_dispatch_62 rfl ?_
        refine pm_getf hG dX3_dispatch_63 (flX3_29 _ rfl) rfl rfl ?_
        refine pm_iloadn hG dX3_dispatch_66 rfl ?_
        refine pm_bipush (v := 6) hG dX3_dispatch_67 (by decide) ?_
        refine pm_iloadn hG dX3_dispatch_69 rfl ?_
        refine pm_callV (As := [.int za, .int 6, .int zb]) (rest := []) hG hR dX3_dispatch_70 (lkX3_45 _ rfl) okV_X9_set rfl rfl (tset_14 (d := 2)) rfl rfl hdd (Nat.le_refl _) (Nat.le_refl _) (by decide) (fx_kv ?_)
        refine fx_letc hE (fun S6 hE => ?_)
        refine pm_aloadn hG dX3_dispatch_73 rfl ?_
        refine pm_getf hG dX3_dispatch_74 (flX3_29 _ rfl) rfl rfl ?_
        refine pm_iloadn hG dX3_dispatch_77 rfl ?_
        refine pm_bipush (v := 7) hG dX3_dispatch_78 (by decide) ?_
        refine pm_iloadn hG dX3_dispatch_80 rfl ?_
        refine pm_callV (As := [.int za, .int 7, .int x3]) (rest := []) hG hR dX3_dispatch_81 (lkX3_45 _ rfl) okV_X9_set rfl rfl (tset_14 (d := 2)) rfl rfl hdd (Nat.le_refl _) (Nat.le_refl _) (by decide) (fx_kv ?_)
        refine fx_letc hE (fun S7 hE => ?_)
        refine pm_aloadn hG dX3_dispatch_84 rfl ?_
        refine pm_getf hG dX3_dispatch_85 (flX3_29 _ rfl) rfl rfl ?_
        refine pm_iloadn hG dX3_dispatch_88 rfl ?_
        refine pm_bipush (v := 8) hG dX3_dispatch_89 (by decide) ?_
        refine pm_aloadn hG dX3_dispatch_91 rfl ?_
        refine pm_getf hG dX3_dispatch_92 (flX3_9 _ rfl) rfl rfl ?_
        refine pm_getf hG dX3_dispatch_95 (flX3_82 _ rfl) rfl rfl ?_
        refine pm_iloadi hG dX3_dispatch_98 rfl ?_
        refine pm_iadd hG dX3_dispatch_100 ?_
        refine pm_callV (As := [.int za, .int 8, .int ((S7.1 102) + x4)]) (rest := []) hG hR dX3_dispatch_101 (lkX3_45 _ rfl) okV_X9_set rfl rfl (tset_14 (d := 2)) rfl rfl hdd (Nat.le_refl _) (Nat.le_refl _) (by decide) (fx_kv ?_)
        refine fx_letc hE (fun S8 hE => ?_)
        refine pm_aloadn hG dX3_dispatch_104 rfl ?_
        refine pm_getf hG dX3_dispatch_105 (flX3_9 _ rfl) rfl rfl ?_
        refine pm_getf hG dX3_dispatch_108 (flX3_82 _ rfl) rfl rfl ?_
        refine pm_iloadi hG dX3_dispatch_111 rfl ?_
        refine pm_iadd hG dX3_dispatch_113 ?_
        exact pm_iret hG hF dX3_dispatch_114 rfl (Nat.le_refl _) (Nat.le_refl _) (fx_ric hE)
      · replace c5 := Int32.not_le.mp c5
        replace hE := fx_t c5 hE
        refine pm_ldc hG dX3_dispatch_59 (ctX3_81 _ rfl) ?_
        exact pm_iret hG hF dX3_dispatch_61 rfl (Nat.le_refl _) (Nat.le_refl _) (fx_ric hE)
    · replace hE := fx_t c2 hE
      refine pm_ldc hG dX3_dispatch_19 (ctX3_62 _ rfl) ?_
      exact pm_iret hG hF dX3_dispatch_21 rfl (Nat.le_refl _) (Nat.le_refl _) (fx_ric hE)

set_option maxRecDepth 100000 in
set_option maxHeartbeats 4000000 in
theorem c_X11_send {d : Nat} {B cnt : Nat} {kp : Value} {ρ : pm_S} {S : FS} {za : Int32} {zb : Int32} {R : Int32 × FS} (hdd : 4 ≤ d) (hE : f_X11_send S za zb = some R) : pm_met mX11_send d 0 0 B [.ref (B + 0), .int za, .int zb] cnt (cst B kp S ρ) (pm_Qi (fun v σ' cnt' => v = R.1 ∧ σ' = (cst B kp R.2 ρ) ∧ cnt' = cnt)) := by
  refine pm_enter 0 (by decide) (Nat.le_of_ble_eq_true rfl) rfl (fun G hG hR hF => ?_)
  unfold f_X11_send at hE
  refine pm_aloadn hG dX11_send_0 rfl ?_
  refine pm_getf hG dX11_send_1 (flX11_12 _ rfl) rfl rfl ?_
  refine pm_getf hG dX11_send_4 (flX11_224 _ rfl) rfl rfl ?_
  refine pm_iloadn hG dX11_send_7 rfl ?_
  refine pm_callV (As := [.int za]) (rest := []) hG hR dX11_send_8 (lkX11_101 _ rfl) okV_X9_has rfl rfl (thas_14 (d := 3)) rfl rfl hdd (Nat.le_refl _) (Nat.le_refl _) (by decide) (fx_ki ?_)
  refine pm_if_eq (tgt := 28) hG dX11_send_11 rfl (fun c1 => ?_) (fun c1 => ?_)
  · replace hE := fx_t c1 hE
    refine pm_aloadn hG dX11_send_28 rfl ?_
    refine pm_ldc hG dX11_send_29 (ctX11_109 _ rfl) ?_
    obtain ⟨r3, h2, hE⟩ := fb_some hE
    refine pm_callV (As := [.int (-1000001)]) (rest := []) hG hR dX11_send_31 (lkX11_97 _ rfl) okV_X11_told rfl rfl (c_X11_told (d := 3) (by decide) h2) rfl rfl hdd (Nat.le_refl _) (Nat.le_refl _) (by decide) (fx_ki ?_)
    exact pm_iret hG hF dX11_send_34 rfl (Nat.le_refl _) (Nat.le_refl _) (fx_ric hE)
  · replace hE := fx_f c1 hE
    refine pm_aloadn hG dX11_send_14 rfl ?_
    refine pm_getf hG dX11_send_15 (flX11_12 _ rfl) rfl rfl ?_
    refine pm_getf hG dX11_send_18 (flX11_128 _ rfl) rfl rfl ?_
    refine pm_iloadn hG dX11_send_21 rfl ?_
    refine pm_callV (As := [.int zb]) (rest := []) hG hR dX11_send_22 (lkX11_101 _ rfl) okV_X9_has rfl rfl (thas_6 (d := 3)) rfl rfl hdd (Nat.le_refl _) (Nat.le_refl _) (by decide) (fx_ki ?_)
    refine pm_if_ne (tgt := 35) hG dX11_send_25 rfl (fun c4 => ?_) (fun c4 => ?_)
    · replace hE := fx_f c4 hE
      refine pm_aloadn hG dX11_send_35 rfl ?_
      refine pm_aloadn hG dX11_send_36 rfl ?_
      refine pm_getf hG dX11_send_37 (flX11_39 _ rfl) rfl rfl ?_
      refine pm_iloadn hG dX11_send_40 rfl ?_
      refine pm_iloadn hG dX11_send_41 rfl ?_
      obtain ⟨r6, h5, hE⟩ := fb_some hE
      refine pm_callV (As := [.int za, .int zb]) (rest := [.ref (B + 0)]) hG hR dX11_send_42 (lkX11_236 _ rfl) okV_X3_dispatch rfl rfl (c_X3_dispatch (d := 3) (by decide) h5) rfl rfl hdd (Nat.le_refl _) (Nat.le_refl _) (by first | decide | exact Nat.le_of_ble_eq_true rfl) (fx_ki ?_)
      obtain ⟨r8, h7, hE⟩ := fb_some hE
      refine pm_callV (As := [.int r6.1]) (rest := []) hG hR dX11_send_45 (lkX11_97 _ rfl) okV_X11_told rfl rfl (c_X11_told (d := 3) (by decide) h7) rfl rfl hdd (Nat.le_refl _) (Nat.le_refl _) (by decide) (fx_ki ?_)
      exact pm_iret hG hF dX11_send_48 rfl (Nat.le_refl _) (Nat.le_refl _) (fx_ric hE)
    · replace hE := fx_t c4 hE
      refine pm_aloadn hG dX11_send_28 rfl ?_
      refine pm_ldc hG dX11_send_29 (ctX11_109 _ rfl) ?_
      obtain ⟨r10, h9, hE⟩ := fb_some hE
      refine pm_callV (As := [.int (-1000001)]) (rest := []) hG hR dX11_send_31 (lkX11_97 _ rfl) okV_X11_told rfl rfl (c_X11_told (d := 3) (by decide) h9) rfl rfl hdd (Nat.le_refl _) (Nat.le_refl _) (by decide) (fx_ki ?_)
      exact pm_iret hG hF dX11_send_34 rfl (Nat.le_refl _) (Nat.le_refl _) (fx_ric hE)

set_option maxRecDepth 100000 in
set_option maxHeartbeats 4000000 in
theorem c_X8_layOut {d : Nat} {B cnt : Nat} {kp : Value} {ρ : pm_S} {S : FS} {za : Int32} {zb : Int32} {zc : Int32} {R : Int32 × FS} (hdd : 1 ≤ d) (hE : f_X8_layOut S za zb zc = some R) : pm_met mX8_layOut d 0 0 B [.ref (B + 48), .int za, .int zb, .int zc] cnt (cst B kp S ρ) (pm_Qv (fun σ' cnt' => σ' = (cst B kp R.2 ρ) ∧ cnt' = cnt)) := by
  refine pm_enter 1 (by decide) (Nat.le_of_ble_eq_true rfl) rfl (fun G hG hR hF => ?_)
  unfold f_X8_layOut at hE
  have join36 : ∀ (S1 : FS), j_X8_layOut_36 za S1 = some R → pm_wp mX8_layOut G B 36 [some (.ref (B + 48)), some (.int za), some (.int zb), some (.int zc), none] [] 0 0 cnt (cst B kp S1 ρ) := by
    intro S1 hE
    unfold j_X8_layOut_36 at hE
    refine pm_iconst (v := 0) hG dX8_layOut_36 (by decide) ?_
    refine pm_istoreXi (loc' := [some (.ref (B + 48)), some (.int za), some (.int zb), some (.int zc), some (.int 0)]) hG dX8_layOut_37 (by decide) (pm_c1b rfl) rfl ?_
    have loop39 : ∀ (k39 : FS → Int32 → Option (Int32 × FS)), (∀ (S2 : FS) (x2_4 : Int32), k39 S2  x2_4 = some R → pm_wp mX8_layOut G B 63 [some (.ref (B + 48)), some (.int za), some (.int zb), some (.int zc), some (.int x2_4)] [] 0 0 cnt (cst B kp S2 ρ)) → ∀ (m39 : Nat) (S2 : FS) (x2_4 : Int32), l_X8_layOut_39 za k39 m39 S2  x2_4 = some R → pm_wp mX8_layOut G B 39 [some (.ref (B + 48)), some (.int za), some (.int zb), some (.int zc), some (.int x2_4)] [] 0 0 cnt (cst B kp S2 ρ) := by
      intro k39 hk39 m39
      induction m39 with
      | zero => intro S2  x2_4 hE; exact fx_no hE
      | succ m39 ih39 =>
        intro S2  x2_4 hE
        rw [l_X8_layOut_39] at hE
        refine pm_iloadi hG dX8_layOut_39 rfl ?_
        refine pm_bipush (v := 24) hG dX8_layOut_41 (by decide) ?_
        refine pm_icmp_ge (tgt := 63) hG dX8_layOut_43 rfl (fun c3 => ?_) (fun c3 => ?_)
        · replace c3 := Int32.not_lt.mpr c3
          replace hE := fx_f c3 hE
          exact hk39 _ _ hE
        · replace c3 := Int32.not_le.mp c3
          replace hE := fx_t c3 hE
          refine pm_aloadn hG dX8_layOut_46 rfl ?_
          refine pm_getf hG dX8_layOut_47 (flX8_23 _ rfl) rfl rfl ?_
          refine pm_iloadn hG dX8_layOut_50 rfl ?_
          refine pm_iloadi hG dX8_layOut_51 rfl ?_
          refine pm_iconst (v := 0) hG dX8_layOut_53 (by decide) ?_
          refine pm_callV (As := [.int za, .int x2_4, .int 0]) (rest := []) hG hR dX8_layOut_54 (lkX8_31 _ rfl) okV_X9_set rfl rfl (tset_51 (d := 0)) rfl rfl hdd (Nat.le_refl _) (Nat.le_refl _) (by decide) (fx_kv ?_)
          refine fx_letc hE (fun S4 hE => ?_)
          refine pm_iincX (v := x2_4 + 1) (loc' := [some (.ref (B + 48)), some (.int za), some (.int zb), some (.int zc), some (.int (x2_4 + 1))]) hG dX8_layOut_57 rfl (by rfl) (by decide) (pm_c1b rfl) rfl ?_
          refine pm_goto (tgt := 39) hG dX8_layOut_60 rfl ?_
          exact ih39 _ _ hE
    refine loop39 _ (fun S5 x5_4 hE => ?_) _ _ _ hE
    exact pm_vret hG hF dX8_layOut_63 rfl (Nat.le_refl _) (Nat.le_refl _) (fx_rvc hE)
  refine pm_iloadn hG dX8_layOut_0 rfl ?_
  refine pm_if_lt (tgt := 36) hG dX8_layOut_1 rfl (fun c6 => ?_) (fun c6 => ?_)
  · replace hE := fx_t c6 hE
    exact join36 _ hE
  · replace hE := fx_f c6 hE
    refine pm_iloadn hG dX8_layOut_4 rfl ?_
    refine pm_aloadn hG dX8_layOut_5 rfl ?_
    refine pm_getf hG dX8_layOut_6 (flX8_9 _ rfl) rfl rfl ?_
    refine pm_alen (v := 4) hG dX8_layOut_9 rfl (by decide) ?_
    refine pm_icmp_ge (tgt := 36) hG dX8_layOut_10 rfl (fun c7 => ?_) (fun c7 => ?_)
    · replace c7 := Int32.not_lt.mpr c7
      replace hE := fx_f c7 hE
      exact join36 _ hE
    · replace c7 := Int32.not_le.mp c7
      replace hE := fx_t c7 hE
      refine pm_iloadn hG dX8_layOut_13 rfl ?_
      refine pm_aloadn hG dX8_layOut_14 rfl ?_
      refine pm_getf hG dX8_layOut_15 (flX8_15 _ rfl) rfl rfl ?_
      refine pm_alen (v := 4) hG dX8_layOut_18 rfl (by decide) ?_
      refine pm_icmp_ge (tgt := 36) hG dX8_layOut_19 rfl (fun q => absurd c7 (Int32.not_lt.mpr q)) (fun _ => ?_)
      refine pm_aloadn hG dX8_layOut_22 rfl ?_
      refine pm_getf hG dX8_layOut_23 (flX8_9 _ rfl) rfl rfl ?_
      refine pm_iloadn hG dX8_layOut_26 rfl ?_
      refine pm_iloadn hG dX8_layOut_27 rfl ?_
      obtain ⟨j8, hj8, hE⟩ := fb_some hE
      refine fx_iast hG dX8_layOut_28 rfl hj8 ?_
      refine ca_49 ?_
      refine fx_letc hE (fun S9 hE => ?_)
      refine pm_aloadn hG dX8_layOut_29 rfl ?_
      refine pm_getf hG dX8_layOut_30 (flX8_15 _ rfl) rfl rfl ?_
      refine pm_iloadn hG dX8_layOut_33 rfl ?_
      refine pm_iloadn hG dX8_layOut_34 rfl ?_
      refine fx_iast hG dX8_layOut_35 rfl hj8 ?_
      refine ca_50 ?_
      refine fx_letc hE (fun S10 hE => ?_)
      exact join36 _ hE

set_option maxRecDepth 100000 in
set_option maxHeartbeats 4000000 in
theorem c_X11_sheet {d : Nat} {B cnt : Nat} {kp : Value} {ρ : pm_S} {S : FS} {za : Int32} {zb : Int32} {zc : Int32} {R : Int32 × FS} (hdd : 2 ≤ d) (hE : f_X11_sheet S za zb zc = some R) : pm_met mX11_sheet d 0 0 B [.ref (B + 0), .int za, .int zb, .int zc] cnt (cst B kp S ρ) (pm_Qi (fun v σ' cnt' => v = R.1 ∧ σ' = (cst B kp R.2 ρ) ∧ cnt' = cnt)) := by
  refine pm_enter 0 (by decide) (Nat.le_of_ble_eq_true rfl) rfl (fun G hG hR hF => ?_)
  unfold f_X11_sheet at hE
  refine pm_aloadn hG dX11_sheet_0 rfl ?_
  refine pm_getf hG dX11_sheet_1 (flX11_74 _ rfl) rfl rfl ?_
  refine pm_iloadn hG dX11_sheet_4 rfl ?_
  refine pm_callV (As := [.int za]) (rest := []) hG hR dX11_sheet_5 (lkX11_251 _ rfl) okV_X8_has rfl rfl (c_X8_has (d := 1) (by decide) rfl) rfl rfl hdd (Nat.le_refl _) (Nat.le_refl _) (by decide) (fx_ki ?_)
  refine pm_if_eq (tgt := 26) hG dX11_sheet_8 rfl (fun c1 => ?_) (fun c1 => ?_)
  · replace hE := fx_t c1 hE
    refine pm_aloadn hG dX11_sheet_26 rfl ?_
    refine pm_ldc hG dX11_sheet_27 (ctX11_109 _ rfl) ?_
    obtain ⟨r3, h2, hE⟩ := fb_some hE
    refine pm_callV (As := [.int (-1000001)]) (rest := []) hG hR dX11_sheet_29 (lkX11_97 _ rfl) okV_X11_told rfl rfl (c_X11_told (d := 1) (by decide) h2) rfl rfl hdd (Nat.le_refl _) (Nat.le_refl _) (by decide) (fx_ki ?_)
    exact pm_iret hG hF dX11_sheet_32 rfl (Nat.le_refl _) (Nat.le_refl _) (fx_ric hE)
  · replace hE := fx_f c1 hE
    refine pm_iloadn hG dX11_sheet_11 rfl ?_
    refine pm_if_eq (tgt := 33) hG dX11_sheet_12 rfl (fun c4 => ?_) (fun c4 => ?_)
    · replace hE := fx_t c4 hE
      refine pm_iloadn hG dX11_sheet_33 rfl ?_
      refine pm_if_eq (tgt := 48) hG dX11_sheet_34 rfl (fun _ => ?_) (fun q => absurd c4 q)
      refine pm_iloadn hG dX11_sheet_48 rfl ?_
      refine pm_if_eq (tgt := 65) hG dX11_sheet_49 rfl (fun _ => ?_) (fun q => absurd c4 q)
      refine pm_aloadn hG dX11_sheet_65 rfl ?_
      refine pm_getf hG dX11_sheet_66 (flX11_74 _ rfl) rfl rfl ?_
      refine pm_iloadn hG dX11_sheet_69 rfl ?_
      refine pm_iloadn hG dX11_sheet_70 rfl ?_
      refine pm_iloadn hG dX11_sheet_71 rfl ?_
      refine pm_if_ne (tgt := 79) hG dX11_sheet_72 rfl (fun q => absurd c4 q) (fun _ => ?_)
      refine pm_iconst (v := 0) hG dX11_sheet_75 (by decide) ?_
      refine pm_goto (tgt := 80) hG dX11_sheet_76 rfl ?_
      obtain ⟨r6, h5, hE⟩ := fb_some hE
      refine pm_callV (As := [.int za, .int zb, .int 0]) (rest := []) hG hR dX11_sheet_80 (lkX11_364 _ rfl) okV_X8_layOut rfl rfl (c_X8_layOut (d := 1) (by decide) h5) rfl rfl hdd (Nat.le_refl _) (Nat.le_refl _) (by decide) (fx_kv ?_)
      refine pm_iconst (v := 1) hG dX11_sheet_83 (by decide) ?_
      exact pm_iret hG hF dX11_sheet_84 rfl (Nat.le_refl _) (Nat.le_refl _) (fx_ric hE)
    · replace hE := fx_f c4 hE
      refine pm_aloadn hG dX11_sheet_15 rfl ?_
      refine pm_getf hG dX11_sheet_16 (flX11_74 _ rfl) rfl rfl ?_
      refine pm_iloadn hG dX11_sheet_19 rfl ?_
      refine pm_callV (As := [.int zb]) (rest := []) hG hR dX11_sheet_20 (lkX11_252 _ rfl) okV_X8_isWidth rfl rfl (c_X8_isWidth (d := 1) (by decide) rfl) rfl rfl hdd (Nat.le_refl _) (Nat.le_refl _) (by decide) (fx_ki ?_)
      refine pm_if_ne (tgt := 33) hG dX11_sheet_23 rfl (fun c7 => ?_) (fun c7 => ?_)
      · replace hE := fx_f c7 hE
        refine pm_iloadn hG dX11_sheet_33 rfl ?_
        refine pm_if_eq (tgt := 48) hG dX11_sheet_34 rfl (fun q => absurd q c4) (fun _ => ?_)
        refine pm_iloadn hG dX11_sheet_37 rfl ?_
        refine pm_if_ge (tgt := 48) hG dX11_sheet_38 rfl (fun c8 => ?_) (fun c8 => ?_)
        · replace c8 := Int32.not_lt.mpr c8
          replace hE := fx_f c8 hE
          refine pm_iloadn hG dX11_sheet_48 rfl ?_
          refine pm_if_eq (tgt := 65) hG dX11_sheet_49 rfl (fun q => absurd q c4) (fun _ => ?_)
          refine pm_iloadn hG dX11_sheet_52 rfl ?_
          refine pm_bipush (v := 24) hG dX11_sheet_53 (by decide) ?_
          refine pm_icmp_le (tgt := 65) hG dX11_sheet_55 rfl (fun c9 => ?_) (fun c9 => ?_)
          · replace c9 := Int32.not_lt.mpr c9
            replace hE := fx_f c9 hE
            refine pm_aloadn hG dX11_sheet_65 rfl ?_
            refine pm_getf hG dX11_sheet_66 (flX11_74 _ rfl) rfl rfl ?_
            refine pm_iloadn hG dX11_sheet_69 rfl ?_
            refine pm_iloadn hG dX11_sheet_70 rfl ?_
            refine pm_iloadn hG dX11_sheet_71 rfl ?_
            refine pm_if_ne (tgt := 79) hG dX11_sheet_72 rfl (fun _ => ?_) (fun q => absurd q c4)
            refine pm_iloadn hG dX11_sheet_79 rfl ?_
            obtain ⟨r11, h10, hE⟩ := fb_some hE
            refine pm_callV (As := [.int za, .int zb, .int zc]) (rest := []) hG hR dX11_sheet_80 (lkX11_364 _ rfl) okV_X8_layOut rfl rfl (c_X8_layOut (d := 1) (by decide) h10) rfl rfl hdd (Nat.le_refl _) (Nat.le_refl _) (by decide) (fx_kv ?_)
            refine pm_iconst (v := 1) hG dX11_sheet_83 (by decide) ?_
            exact pm_iret hG hF dX11_sheet_84 rfl (Nat.le_refl _) (Nat.le_refl _) (fx_ric hE)
          · replace c9 := Int32.not_le.mp c9
            replace hE := fx_t c9 hE
            refine pm_aloadn hG dX11_sheet_58 rfl ?_
            refine pm_ldc hG dX11_sheet_59 (ctX11_109 _ rfl) ?_
            obtain ⟨r13, h12, hE⟩ := fb_some hE
            refine pm_callV (As := [.int (-1000001)]) (rest := []) hG hR dX11_sheet_61 (lkX11_97 _ rfl) okV_X11_told rfl rfl (c_X11_told (d := 1) (by decide) h12) rfl rfl hdd (Nat.le_refl _) (Nat.le_refl _) (by decide) (fx_ki ?_)
            exact pm_iret hG hF dX11_sheet_64 rfl (Nat.le_refl _) (Nat.le_refl _) (fx_ric hE)
        · replace c8 := Int32.not_le.mp c8
          replace hE := fx_t c8 hE
          refine pm_aloadn hG dX11_sheet_41 rfl ?_
          refine pm_ldc hG dX11_sheet_42 (ctX11_138 _ rfl) ?_
          obtain ⟨r15, h14, hE⟩ := fb_some hE
          refine pm_callV (As := [.int (-1000003)]) (rest := []) hG hR dX11_sheet_44 (lkX11_97 _ rfl) okV_X11_told rfl rfl (c_X11_told (d := 1) (by decide) h14) rfl rfl hdd (Nat.le_refl _) (Nat.le_refl _) (by decide) (fx_ki ?_)
          exact pm_iret hG hF dX11_sheet_47 rfl (Nat.le_refl _) (Nat.le_refl _) (fx_ric hE)
      · replace hE := fx_t c7 hE
        refine pm_aloadn hG dX11_sheet_26 rfl ?_
        refine pm_ldc hG dX11_sheet_27 (ctX11_109 _ rfl) ?_
        obtain ⟨r17, h16, hE⟩ := fb_some hE
        refine pm_callV (As := [.int (-1000001)]) (rest := []) hG hR dX11_sheet_29 (lkX11_97 _ rfl) okV_X11_told rfl rfl (c_X11_told (d := 1) (by decide) h16) rfl rfl hdd (Nat.le_refl _) (Nat.le_refl _) (by decide) (fx_ki ?_)
        exact pm_iret hG hF dX11_sheet_32 rfl (Nat.le_refl _) (Nat.le_refl _) (fx_ric hE)

set_option maxRecDepth 100000 in
set_option maxHeartbeats 4000000 in
theorem c_X11_strike {d : Nat} {B cnt : Nat} {kp : Value} {ρ : pm_S} {S : FS} {za : Int32} {R : Int32 × FS} (hdd : 2 ≤ d) (hE : f_X11_strike S za = some R) : pm_met mX11_strike d 0 0 B [.ref (B + 0), .int za] cnt (cst B kp S ρ) (pm_Qi (fun v σ' cnt' => v = R.1 ∧ σ' = (cst B kp R.2 ρ) ∧ cnt' = cnt)) := by
  refine pm_enter 0 (by decide) (Nat.le_of_ble_eq_true rfl) rfl (fun G hG hR hF => ?_)
  unfold f_X11_strike at hE
  refine pm_aloadn hG dX11_strike_0 rfl ?_
  refine pm_getf hG dX11_strike_1 (flX11_12 _ rfl) rfl rfl ?_
  refine pm_getf hG dX11_strike_4 (flX11_209 _ rfl) rfl rfl ?_
  refine pm_iloadn hG dX11_strike_7 rfl ?_
  refine pm_callV (As := [.int za]) (rest := []) hG hR dX11_strike_8 (lkX11_101 _ rfl) okV_X9_has rfl rfl (thas_10 (d := 1)) rfl rfl hdd (Nat.le_refl _) (Nat.le_refl _) (by decide) (fx_ki ?_)
  refine pm_if_ne (tgt := 21) hG dX11_strike_11 rfl (fun c1 => ?_) (fun c1 => ?_)
  · replace hE := fx_f c1 hE
    refine pm_aloadn hG dX11_strike_21 rfl ?_
    refine pm_getf hG dX11_strike_22 (flX11_21 _ rfl) rfl rfl ?_
    refine pm_iloadn hG dX11_strike_25 rfl ?_
    refine pm_callV (As := [.int za]) (rest := []) hG hR dX11_strike_26 (lkX11_214 _ rfl) okV_X2_isStruck rfl rfl (c_X2_isStruck (d := 1) (by decide) rfl) rfl rfl hdd (Nat.le_refl _) (Nat.le_refl _) (by decide) (fx_ki ?_)
    refine pm_if_eq (tgt := 39) hG dX11_strike_29 rfl (fun c2 => ?_) (fun c2 => ?_)
    · replace hE := fx_t c2 hE
      refine pm_aloadn hG dX11_strike_39 rfl ?_
      refine pm_getf hG dX11_strike_40 (flX11_21 _ rfl) rfl rfl ?_
      refine pm_iloadn hG dX11_strike_43 rfl ?_
      obtain ⟨r4, h3, hE⟩ := fb_some hE
      refine pm_callV (As := [.int za]) (rest := []) hG hR dX11_strike_44 (lkX11_217 _ rfl) okV_X2_strikeOut rfl rfl (c_X2_strikeOut (d := 1) (by decide) h3) rfl rfl hdd (Nat.le_refl _) (Nat.le_refl _) (by decide) (fx_kv ?_)
      refine pm_iconst (v := 1) hG dX11_strike_47 (by decide) ?_
      exact pm_iret hG hF dX11_strike_48 rfl (Nat.le_refl _) (Nat.le_refl _) (fx_ric hE)
    · replace hE := fx_f c2 hE
      refine pm_aloadn hG dX11_strike_32 rfl ?_
      refine pm_ldc hG dX11_strike_33 (ctX11_138 _ rfl) ?_
      obtain ⟨r6, h5, hE⟩ := fb_some hE
      refine pm_callV (As := [.int (-1000003)]) (rest := []) hG hR dX11_strike_35 (lkX11_97 _ rfl) okV_X11_told rfl rfl (c_X11_told (d := 1) (by decide) h5) rfl rfl hdd (Nat.le_refl _) (Nat.le_refl _) (by decide) (fx_ki ?_)
      exact pm_iret hG hF dX11_strike_38 rfl (Nat.le_refl _) (Nat.le_refl _) (fx_ric hE)
  · replace hE := fx_t c1 hE
    refine pm_aloadn hG dX11_strike_14 rfl ?_
    refine pm_ldc hG dX11_strike_15 (ctX11_109 _ rfl) ?_
    obtain ⟨r8, h7, hE⟩ := fb_some hE
    refine pm_callV (As := [.int (-1000001)]) (rest := []) hG hR dX11_strike_17 (lkX11_97 _ rfl) okV_X11_told rfl rfl (c_X11_told (d := 1) (by decide) h7) rfl rfl hdd (Nat.le_refl _) (Nat.le_refl _) (by decide) (fx_ki ?_)
    exact pm_iret hG hF dX11_strike_20 rfl (Nat.le_refl _) (Nat.le_refl _) (fx_ric hE)

set_option maxRecDepth 100000 in
set_option maxHeartbeats 4000000 in
theorem c_X11_tell {d : Nat} {B cnt : Nat} {kp : Value} {ρ : pm_S} {S : FS} {za : Int32} {R : Int32 × FS} (hdd : 2 ≤ d) (hE : f_X11_tell S za = some R) : pm_met mX11_tell d 0 0 B [.ref (B + 0), .int za] cnt (cst B kp S ρ) (pm_Qi (fun v σ' cnt' => v = R.1 ∧ σ' = (cst B kp R.2 ρ) ∧ cnt' = cnt)) := by
  refine pm_enter 0 (by decide) (Nat.le_of_ble_eq_true rfl) rfl (fun G hG hR hF => ?_)
  unfold f_X11_tell at hE
  refine pm_aloadn hG dX11_tell_0 rfl ?_
  refine pm_getf hG dX11_tell_1 (flX11_12 _ rfl) rfl rfl ?_
  refine pm_getf hG dX11_tell_4 (flX11_386 _ rfl) rfl rfl ?_
  refine pm_callV (As := []) (rest := []) hG hR dX11_tell_7 (lkX11_86 _ rfl) okV_X9_isFull rfl rfl (tisFull_22 (d := 1)) rfl rfl hdd (Nat.le_refl _) (Nat.le_refl _) (by decide) (fx_ki ?_)
  refine pm_if_eq (tgt := 20) hG dX11_tell_10 rfl (fun c1 => ?_) (fun c1 => ?_)
  · replace hE := fx_t c1 hE
    refine pm_aloadn hG dX11_tell_20 rfl ?_
    refine pm_getf hG dX11_tell_21 (flX11_12 _ rfl) rfl rfl ?_
    refine pm_getf hG dX11_tell_24 (flX11_386 _ rfl) rfl rfl ?_
    refine pm_iloadn hG dX11_tell_27 rfl ?_
    obtain ⟨r3, h2, hE⟩ := fb_some hE
    refine pm_callV (As := [.int za]) (rest := []) hG hR dX11_tell_28 (lkX11_206 _ rfl) okV_X9_append rfl rfl (tappend_22 (d := 1) (by decide) h2) rfl rfl hdd (Nat.le_refl _) (Nat.le_refl _) (by decide) (fx_ki ?_)
    refine pm_pop hG dX11_tell_31 rfl ?_
    refine pm_aloadn hG dX11_tell_32 rfl ?_
    refine pm_getf hG dX11_tell_33 (flX11_12 _ rfl) rfl rfl ?_
    refine pm_getf hG dX11_tell_36 (flX11_386 _ rfl) rfl rfl ?_
    refine pm_callV (As := []) (rest := []) hG hR dX11_tell_39 (lkX11_203 _ rfl) okV_X9_used rfl rfl (tused_22 (d := 1)) rfl rfl hdd (Nat.le_refl _) (Nat.le_refl _) (by decide) (fx_ki ?_)
    exact pm_iret hG hF dX11_tell_42 rfl (Nat.le_refl _) (Nat.le_refl _) (fx_ric hE)
  · replace hE := fx_f c1 hE
    refine pm_aloadn hG dX11_tell_13 rfl ?_
    refine pm_ldc hG dX11_tell_14 (ctX11_92 _ rfl) ?_
    obtain ⟨r5, h4, hE⟩ := fb_some hE
    refine pm_callV (As := [.int (-1000004)]) (rest := []) hG hR dX11_tell_16 (lkX11_97 _ rfl) okV_X11_told rfl rfl (c_X11_told (d := 1) (by decide) h4) rfl rfl hdd (Nat.le_refl _) (Nat.le_refl _) (by decide) (fx_ki ?_)
    exact pm_iret hG hF dX11_tell_19 rfl (Nat.le_refl _) (Nat.le_refl _) (fx_ric hE)
end
section
set_option maxRecDepth 100000 in
set_option maxHeartbeats 4000000 in
theorem c_X7_addTown {d : Nat} {B cnt : Nat} {kp : Value} {ρ : pm_S} {S : FS} {R : Int32 × FS} (hdd : 2 ≤ d) (hE : f_X7_addTown S = some R) : pm_met mX7_addTown d 0 0 B [.ref (B + 1)] cnt (cst B kp S ρ) (pm_Qi (fun v σ' cnt' => v = R.1 ∧ σ' = (cst B kp R.2 ρ) ∧ cnt' = cnt)) := by
  refine pm_enter 1 (by decide) (Nat.le_of_ble_eq_true rfl) rfl (fun G hG hR hF => ?_)
  unfold f_X7_addTown at hE
  refine pm_aloadn hG dX7_addTown_0 rfl ?_
  refine pm_getf hG dX7_addTown_1 (flX7_14 _ rfl) rfl rfl ?_
  refine pm_iconst (v := 0) hG dX7_addTown_4 (by decide) ?_
  obtain ⟨r2, h1, hE⟩ := fb_some hE
  refine pm_callV (As := [.int 0]) (rest := []) hG hR dX7_addTown_5 (lkX7_75 _ rfl) okV_X9_append rfl rfl (tappend_2 (d := 1) (by decide) h1) rfl rfl hdd (Nat.le_refl _) (Nat.le_refl _) (by decide) (fx_ki ?_)
  refine pm_istoreXn (loc' := [some (.ref (B + 1)), some (.int r2.1)]) hG dX7_addTown_8 (by decide) (pm_c1b rfl) rfl ?_
  refine pm_aloadn hG dX7_addTown_9 rfl ?_
  refine pm_getf hG dX7_addTown_10 (flX7_14 _ rfl) rfl rfl ?_
  refine pm_iloadn hG dX7_addTown_13 rfl ?_
  refine pm_iconst (v := 1) hG dX7_addTown_14 (by decide) ?_
  refine pm_iconst (v := (-1)) hG dX7_addTown_15 (by decide) ?_
  refine pm_callV (As := [.int r2.1, .int 1, .int (-1)]) (rest := []) hG hR dX7_addTown_16 (lkX7_61 _ rfl) okV_X9_set rfl rfl (tset_2 (d := 1)) rfl rfl hdd (Nat.le_refl _) (Nat.le_refl _) (by decide) (fx_kv ?_)
  refine fx_letc hE (fun S3 hE => ?_)
  refine pm_iloadn hG dX7_addTown_19 rfl ?_
  exact pm_iret hG hF dX7_addTown_20 rfl (Nat.le_refl _) (Nat.le_refl _) (fx_ric hE)

set_option maxRecDepth 100000 in
set_option maxHeartbeats 4000000 in
theorem c_X11_town {d : Nat} {B cnt : Nat} {kp : Value} {ρ : pm_S} {S : FS} {R : Int32 × FS} (hdd : 3 ≤ d) (hE : f_X11_town S = some R) : pm_met mX11_town d 0 0 B [.ref (B + 0)] cnt (cst B kp S ρ) (pm_Qi (fun v σ' cnt' => v = R.1 ∧ σ' = (cst B kp R.2 ρ) ∧ cnt' = cnt)) := by
  refine pm_enter 0 (by decide) (Nat.le_of_ble_eq_true rfl) rfl (fun G hG hR hF => ?_)
  unfold f_X11_town at hE
  refine pm_aloadn hG dX11_town_0 rfl ?_
  refine pm_aloadn hG dX11_town_1 rfl ?_
  refine pm_getf hG dX11_town_2 (flX11_12 _ rfl) rfl rfl ?_
  refine pm_getf hG dX11_town_5 (flX11_82 _ rfl) rfl rfl ?_
  refine pm_callV (As := []) (rest := [.ref (B + 0)]) hG hR dX11_town_8 (lkX11_86 _ rfl) okV_X9_isFull rfl rfl (tisFull_2 (d := 2)) rfl rfl hdd (Nat.le_refl _) (Nat.le_refl _) (by first | decide | exact Nat.le_of_ble_eq_true rfl) (fx_ki ?_)
  refine pm_if_eq (tgt := 19) hG dX11_town_11 rfl (fun c1 => ?_) (fun c1 => ?_)
  · replace hE := fx_t c1 hE
    refine pm_aloadn hG dX11_town_19 rfl ?_
    refine pm_getf hG dX11_town_20 (flX11_12 _ rfl) rfl rfl ?_
    obtain ⟨r3, h2, hE⟩ := fb_some hE
    refine pm_callV (As := []) (rest := [.ref (B + 0)]) hG hR dX11_town_23 (lkX11_93 _ rfl) okV_X7_addTown rfl rfl (c_X7_addTown (d := 2) (by decide) h2) rfl rfl hdd (Nat.le_refl _) (Nat.le_refl _) (by first | decide | exact Nat.le_of_ble_eq_true rfl) (fx_ki ?_)
    obtain ⟨r5, h4, hE⟩ := fb_some hE
    refine pm_callV (As := [.int r3.1]) (rest := []) hG hR dX11_town_26 (lkX11_97 _ rfl) okV_X11_told rfl rfl (c_X11_told (d := 2) (by decide) h4) rfl rfl hdd (Nat.le_refl _) (Nat.le_refl _) (by decide) (fx_ki ?_)
    exact pm_iret hG hF dX11_town_29 rfl (Nat.le_refl _) (Nat.le_refl _) (fx_ric hE)
  · replace hE := fx_f c1 hE
    refine pm_ldc hG dX11_town_14 (ctX11_92 _ rfl) ?_
    refine pm_goto (tgt := 26) hG dX11_town_16 rfl ?_
    obtain ⟨r7, h6, hE⟩ := fb_some hE
    refine pm_callV (As := [.int (-1000004)]) (rest := []) hG hR dX11_town_26 (lkX11_97 _ rfl) okV_X11_told rfl rfl (c_X11_told (d := 2) (by decide) h6) rfl rfl hdd (Nat.le_refl _) (Nat.le_refl _) (by decide) (fx_ki ?_)
    exact pm_iret hG hF dX11_town_29 rfl (Nat.le_refl _) (Nat.le_refl _) (fx_ric hE)

set_option maxRecDepth 100000 in
set_option maxHeartbeats 4000000 in
theorem c_X11_trace {d : Nat} {B cnt : Nat} {kp : Value} {ρ : pm_S} {S : FS} {za : Int32} {R : Int32 × FS} (hdd : 2 ≤ d) (hE : f_X11_trace S za = some R) : pm_met mX11_trace d 0 0 B [.ref (B + 0), .int za] cnt (cst B kp S ρ) (pm_Qi (fun v σ' cnt' => v = R.1 ∧ σ' = (cst B kp R.2 ρ) ∧ cnt' = cnt)) := by
  refine pm_enter 0 (by decide) (Nat.le_of_ble_eq_true rfl) rfl (fun G hG hR hF => ?_)
  unfold f_X11_trace at hE
  refine pm_aloadn hG dX11_trace_0 rfl ?_
  refine pm_iloadn hG dX11_trace_1 rfl ?_
  refine pm_if_lt (tgt := 27) hG dX11_trace_2 rfl (fun c1 => ?_) (fun c1 => ?_)
  · replace hE := fx_t c1 hE
    refine pm_ldc hG dX11_trace_27 (ctX11_223 _ rfl) ?_
    obtain ⟨r3, h2, hE⟩ := fb_some hE
    refine pm_callV (As := [.int (-1000002)]) (rest := []) hG hR dX11_trace_29 (lkX11_97 _ rfl) okV_X11_told rfl rfl (c_X11_told (d := 1) (by decide) h2) rfl rfl hdd (Nat.le_refl _) (Nat.le_refl _) (by decide) (fx_ki ?_)
    exact pm_iret hG hF dX11_trace_32 rfl (Nat.le_refl _) (Nat.le_refl _) (fx_ric hE)
  · replace hE := fx_f c1 hE
    refine pm_iloadn hG dX11_trace_5 rfl ?_
    refine pm_aloadn hG dX11_trace_6 rfl ?_
    refine pm_getf hG dX11_trace_7 (flX11_67 _ rfl) rfl rfl ?_
    refine pm_getf hG dX11_trace_10 (flX11_358 _ rfl) rfl rfl ?_
    refine pm_icmp_ge (tgt := 27) hG dX11_trace_13 rfl (fun c4 => ?_) (fun c4 => ?_)
    · replace c4 := Int32.not_lt.mpr c4
      replace hE := fx_f c4 hE
      refine pm_ldc hG dX11_trace_27 (ctX11_223 _ rfl) ?_
      obtain ⟨r6, h5, hE⟩ := fb_some hE
      refine pm_callV (As := [.int (-1000002)]) (rest := []) hG hR dX11_trace_29 (lkX11_97 _ rfl) okV_X11_told rfl rfl (c_X11_told (d := 1) (by decide) h5) rfl rfl hdd (Nat.le_refl _) (Nat.le_refl _) (by decide) (fx_ki ?_)
      exact pm_iret hG hF dX11_trace_32 rfl (Nat.le_refl _) (Nat.le_refl _) (fx_ric hE)
    · replace c4 := Int32.not_le.mp c4
      replace hE := fx_t c4 hE
      refine pm_aloadn hG dX11_trace_16 rfl ?_
      refine pm_getf hG dX11_trace_17 (flX11_67 _ rfl) rfl rfl ?_
      refine pm_iloadn hG dX11_trace_20 rfl ?_
      obtain ⟨x8, h7, hE⟩ := fb_some hE
      refine pm_callV (As := [.int za]) (rest := [.ref (B + 0)]) hG hR dX11_trace_21 (lkX11_361 _ rfl) okV_X10_bodyAt rfl rfl (c_X10_bodyAt (d := 1) (by decide) h7) rfl rfl hdd (Nat.le_refl _) (Nat.le_refl _) (by first | decide | exact Nat.le_of_ble_eq_true rfl) (fx_ki ?_)
      refine pm_goto (tgt := 29) hG dX11_trace_24 rfl ?_
      obtain ⟨r10, h9, hE⟩ := fb_some hE
      refine pm_callV (As := [.int x8]) (rest := []) hG hR dX11_trace_29 (lkX11_97 _ rfl) okV_X11_told rfl rfl (c_X11_told (d := 1) (by decide) h9) rfl rfl hdd (Nat.le_refl _) (Nat.le_refl _) (by decide) (fx_ki ?_)
      exact pm_iret hG hF dX11_trace_32 rfl (Nat.le_refl _) (Nat.le_refl _) (fx_ric hE)

set_option maxRecDepth 100000 in
set_option maxHeartbeats 4000000 in
theorem c_X11_voice {d : Nat} {B cnt : Nat} {kp : Value} {ρ : pm_S} {S : FS} {za : Int32} {zb : Int32} {zc : Int32} {R : Int32 × FS} (hdd : 11 ≤ d) (hE : f_X11_voice S za zb zc = some R) : pm_met mX11_voice d 0 0 B [.ref (B + 0), .int za, .int zb, .int zc] cnt (cst B kp S ρ) (pm_Qi (fun v σ' cnt' => v = R.1 ∧ σ' = (cst B kp R.2 ρ) ∧ cnt' = cnt)) := by
  refine pm_enter 0 (by decide) (Nat.le_of_ble_eq_true rfl) rfl (fun G hG hR hF => ?_)
  unfold f_X11_voice at hE
  refine pm_aloadn hG dX11_voice_0 rfl ?_
  refine pm_getf hG dX11_voice_1 (flX11_12 _ rfl) rfl rfl ?_
  refine pm_getf hG dX11_voice_4 (flX11_161 _ rfl) rfl rfl ?_
  refine pm_iloadn hG dX11_voice_7 rfl ?_
  refine pm_callV (As := [.int za]) (rest := []) hG hR dX11_voice_8 (lkX11_101 _ rfl) okV_X9_has rfl rfl (thas_8 (d := 10)) rfl rfl hdd (Nat.le_refl _) (Nat.le_refl _) (by decide) (fx_ki ?_)
  refine pm_if_eq (tgt := 23) hG dX11_voice_11 rfl (fun c1 => ?_) (fun c1 => ?_)
  · replace hE := fx_t c1 hE
    refine pm_aloadn hG dX11_voice_23 rfl ?_
    refine pm_ldc hG dX11_voice_24 (ctX11_109 _ rfl) ?_
    obtain ⟨r3, h2, hE⟩ := fb_some hE
    refine pm_callV (As := [.int (-1000001)]) (rest := []) hG hR dX11_voice_26 (lkX11_97 _ rfl) okV_X11_told rfl rfl (c_X11_told (d := 10) (by decide) h2) rfl rfl hdd (Nat.le_refl _) (Nat.le_refl _) (by decide) (fx_ki ?_)
    exact pm_iret hG hF dX11_voice_29 rfl (Nat.le_refl _) (Nat.le_refl _) (fx_ric hE)
  · replace hE := fx_f c1 hE
    refine pm_iloadn hG dX11_voice_14 rfl ?_
    refine pm_iconst (v := 0) hG dX11_voice_15 (by decide) ?_
    refine pm_iconst (v := 3) hG dX11_voice_16 (by decide) ?_
    refine pm_callS (As := [.int zb, .int 0, .int 3]) (rest := []) hG hR dX11_voice_17 (lkX11_105 _ rfl) okS_X11_isOutside (tOut (d := 10)) rfl rfl hdd (Nat.le_refl _) (Nat.le_refl _) (by decide) (fx_ki ?_)
    refine pm_if_eq (tgt := 30) hG dX11_voice_20 rfl (fun c4 => ?_) (fun c4 => ?_)
    · replace hE := fx_t c4 hE
      refine pm_aloadn hG dX11_voice_30 rfl ?_
      refine pm_getf hG dX11_voice_31 (flX11_67 _ rfl) rfl rfl ?_
      refine pm_aloadn hG dX11_voice_34 rfl ?_
      refine pm_getf hG dX11_voice_35 (flX11_12 _ rfl) rfl rfl ?_
      refine pm_getf hG dX11_voice_38 (flX11_161 _ rfl) rfl rfl ?_
      refine pm_iloadn hG dX11_voice_41 rfl ?_
      refine pm_iconst (v := 0) hG dX11_voice_42 (by decide) ?_
      refine pm_callV (As := [.int za, .int 0]) (rest := [.ref (B + 46)]) hG hR dX11_voice_43 (lkX11_152 _ rfl) okV_X9_get rfl rfl (tget_8 (d := 10)) rfl rfl hdd (Nat.le_refl _) (Nat.le_refl _) (by first | decide | exact Nat.le_of_ble_eq_true rfl) (fx_ki ?_)
      refine pm_iloadn hG dX11_voice_46 rfl ?_
      refine pm_aloadn hG dX11_voice_47 rfl ?_
      refine pm_getf hG dX11_voice_48 (flX11_12 _ rfl) rfl rfl ?_
      refine pm_getf hG dX11_voice_51 (flX11_161 _ rfl) rfl rfl ?_
      refine pm_iloadn hG dX11_voice_54 rfl ?_
      refine pm_iconst (v := 1) hG dX11_voice_55 (by decide) ?_
      refine pm_callV (As := [.int za, .int 1]) (rest := [.int za, .int (fG 8 20 6 S za 0), .ref (B + 46)]) hG hR dX11_voice_56 (lkX11_152 _ rfl) okV_X9_get rfl rfl (tget_8 (d := 10)) rfl rfl hdd (Nat.le_refl _) (Nat.le_refl _) (by first | decide | exact Nat.le_of_ble_eq_true rfl) (fx_ki ?_)
      obtain ⟨r6, h5, hE⟩ := fb_some hE
      refine pm_callV (As := [.int (fG 8 20 6 S za 0), .int za, .int (fG 8 20 6 S za 1)]) (rest := []) hG hR dX11_voice_59 (lkX11_353 _ rfl) okV_X10_begin rfl rfl (c_X10_begin (d := 10) (by decide) h5) rfl rfl hdd (Nat.le_refl _) (Nat.le_refl _) (by decide) (fx_kv ?_)
      refine pm_aloadn hG dX11_voice_62 rfl ?_
      refine pm_getf hG dX11_voice_63 (flX11_67 _ rfl) rfl rfl ?_
      refine pm_iloadn hG dX11_voice_66 rfl ?_
      refine pm_iloadn hG dX11_voice_67 rfl ?_
      obtain ⟨r8, h7, hE⟩ := fb_some hE
      refine pm_callV (As := [.int zb, .int zc]) (rest := []) hG hR dX11_voice_68 (lkX11_355 _ rfl) okV_X10_speak rfl rfl (c_X10_speak (d := 10) (by decide) h7) rfl rfl hdd (Nat.le_refl _) (Nat.le_refl _) (by decide) (fx_ki ?_)
      exact pm_iret hG hF dX11_voice_71 rfl (Nat.le_refl _) (Nat.le_refl _) (fx_ric hE)
    · replace hE := fx_f c4 hE
      refine pm_aloadn hG dX11_voice_23 rfl ?_
      refine pm_ldc hG dX11_voice_24 (ctX11_109 _ rfl) ?_
      obtain ⟨r10, h9, hE⟩ := fb_some hE
      refine pm_callV (As := [.int (-1000001)]) (rest := []) hG hR dX11_voice_26 (lkX11_97 _ rfl) okV_X11_told rfl rfl (c_X11_told (d := 10) (by decide) h9) rfl rfl hdd (Nat.le_refl _) (Nat.le_refl _) (by decide) (fx_ki ?_)
      exact pm_iret hG hF dX11_voice_29 rfl (Nat.le_refl _) (Nat.le_refl _) (fx_ric hE)
end
