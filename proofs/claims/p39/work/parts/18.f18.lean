set_option maxRecDepth 100000 in
set_option maxHeartbeats 4000000 in
theorem c_X11_says {d : Nat} {B cnt : Nat} {kp : Value} {ρ : pm_S} {S : FS} {za : Int32} {zb : Int32} {zc : Int32} {R : Int32 × FS} (hdd : 4 ≤ d) (hE : f_X11_says S za zb zc = some R) : pm_met mX11_says d 0 0 B [.ref (B + 0), .int za, .int zb, .int zc] cnt (cst B kp S ρ) (pm_Qi (fun v σ' cnt' => v = R.1 ∧ σ' = (cst B kp R.2 ρ) ∧ cnt' = cnt)) := by
  refine pm_enter 2 (by decide) (Nat.le_of_ble_eq_true rfl) rfl (fun G hG hR hF => ?_)
  unfold f_X11_says at hE
  refine pm_iloadn hG dX11_says_0 rfl ?_
  refine pm_iconst (v := (-1)) hG dX11_says_1 (by decide) ?_
  refine pm_icmp_eq (tgt := 19) hG dX11_says_2 rfl (fun c1 => ?_) (fun c1 => ?_)
  · replace hE := fx_t c1 hE
    refine pm_iconst (v := 1) hG dX11_says_19 (by decide) ?_
    refine pm_goto (tgt := 24) hG dX11_says_20 rfl ?_
    refine pm_istoreXi (loc' := [some (.ref (B + 0)), some (.int za), some (.int zb), some (.int zc), some (.int 1), none]) hG dX11_says_24 (by decide) (pm_c1b rfl) rfl ?_
    refine pm_iloadn hG dX11_says_26 rfl ?_
    refine pm_iconst (v := (-1)) hG dX11_says_27 (by decide) ?_
    refine pm_icmp_eq (tgt := 45) hG dX11_says_28 rfl (fun c2 => ?_) (fun c2 => ?_)
    · replace hE := fx_t c2 hE
      refine pm_iconst (v := 1) hG dX11_says_45 (by decide) ?_
      refine pm_goto (tgt := 50) hG dX11_says_46 rfl ?_
      refine pm_istoreXi (loc' := [some (.ref (B + 0)), some (.int za), some (.int zb), some (.int zc), some (.int 1), some (.int 1)]) hG dX11_says_50 (by decide) (pm_c1b rfl) rfl ?_
      refine pm_aloadn hG dX11_says_52 rfl ?_
      refine pm_getf hG dX11_says_53 (flX11_12 _ rfl) rfl rfl ?_
      refine pm_getf hG dX11_says_56 (flX11_209 _ rfl) rfl rfl ?_
      refine pm_iloadn hG dX11_says_59 rfl ?_
      refine pm_callV (As := [.int za]) (rest := []) hG hR dX11_says_60 (lkX11_101 _ rfl) okV_X9_has rfl rfl (thas_10 (d := 3)) rfl rfl hdd (Nat.le_refl _) (Nat.le_refl _) (by decide) (fx_ki ?_)
      refine pm_if_eq (tgt := 76) hG dX11_says_63 rfl (fun c3 => ?_) (fun c3 => ?_)
      · replace hE := fx_t c3 hE
        refine pm_aloadn hG dX11_says_76 rfl ?_
        refine pm_ldc hG dX11_says_77 (ctX11_109 _ rfl) ?_
        obtain ⟨r5, h4, hE⟩ := fb_some hE
        refine pm_callV (As := [.int (-1000001)]) (rest := []) hG hR dX11_says_79 (lkX11_97 _ rfl) okV_X11_told rfl rfl (c_X11_told (d := 3) (by decide) h4) rfl rfl hdd (Nat.le_refl _) (Nat.le_refl _) (by decide) (fx_ki ?_)
        exact pm_iret hG hF dX11_says_82 rfl (Nat.le_refl _) (Nat.le_refl _) (fx_ric hE)
      · replace hE := fx_f c3 hE
        refine pm_iloadi hG dX11_says_66 rfl ?_
        refine pm_if_eq (tgt := 76) hG dX11_says_68 rfl (fun q => absurd q (by decide)) (fun _ => ?_)
        refine pm_iloadi hG dX11_says_71 rfl ?_
        refine pm_if_ne (tgt := 83) hG dX11_says_73 rfl (fun _ => ?_) (fun q => absurd q (by decide))
        refine pm_aloadn hG dX11_says_83 rfl ?_
        refine pm_getf hG dX11_says_84 (flX11_21 _ rfl) rfl rfl ?_
        refine pm_iloadn hG dX11_says_87 rfl ?_
        refine pm_iloadn hG dX11_says_88 rfl ?_
        refine pm_iloadn hG dX11_says_89 rfl ?_
        refine pm_aloadn hG dX11_says_90 rfl ?_
        refine pm_getf hG dX11_says_91 (flX11_12 _ rfl) rfl rfl ?_
        refine pm_getf hG dX11_says_94 (flX11_122 _ rfl) rfl rfl ?_
        obtain ⟨r7, h6, hE⟩ := fb_some hE
        refine pm_callV (As := [.int za, .int zb, .int zc, .int (S.1 102)]) (rest := []) hG hR dX11_says_97 (lkX11_226 _ rfl) okV_X2_comesTo rfl rfl (c_X2_comesTo (d := 3) (by decide) h6) rfl rfl hdd (Nat.le_refl _) (Nat.le_refl _) (by decide) (fx_ki ?_)
        exact pm_iret hG hF dX11_says_100 rfl (Nat.le_refl _) (Nat.le_refl _) (fx_ric hE)
    · replace hE := fx_f c2 hE
      refine pm_aloadn hG dX11_says_31 rfl ?_
      refine pm_getf hG dX11_says_32 (flX11_12 _ rfl) rfl rfl ?_
      refine pm_getf hG dX11_says_35 (flX11_224 _ rfl) rfl rfl ?_
      refine pm_iloadn hG dX11_says_38 rfl ?_
      refine pm_callV (As := [.int zc]) (rest := []) hG hR dX11_says_39 (lkX11_101 _ rfl) okV_X9_has rfl rfl (thas_14 (d := 3)) rfl rfl hdd (Nat.le_refl _) (Nat.le_refl _) (by decide) (fx_ki ?_)
      refine pm_if_eq (tgt := 49) hG dX11_says_42 rfl (fun c8 => ?_) (fun c8 => ?_)
      · replace hE := fx_t c8 hE
        refine pm_iconst (v := 0) hG dX11_says_49 (by decide) ?_
        refine pm_istoreXi (loc' := [some (.ref (B + 0)), some (.int za), some (.int zb), some (.int zc), some (.int 1), some (.int 0)]) hG dX11_says_50 (by decide) (pm_c1b rfl) rfl ?_
        refine pm_aloadn hG dX11_says_52 rfl ?_
        refine pm_getf hG dX11_says_53 (flX11_12 _ rfl) rfl rfl ?_
        refine pm_getf hG dX11_says_56 (flX11_209 _ rfl) rfl rfl ?_
        refine pm_iloadn hG dX11_says_59 rfl ?_
        refine pm_callV (As := [.int za]) (rest := []) hG hR dX11_says_60 (lkX11_101 _ rfl) okV_X9_has rfl rfl (thas_10 (d := 3)) rfl rfl hdd (Nat.le_refl _) (Nat.le_refl _) (by decide) (fx_ki ?_)
        refine pm_if_eq (tgt := 76) hG dX11_says_63 rfl (fun c9 => ?_) (fun c9 => ?_)
        · replace hE := fx_t c9 hE
          refine pm_aloadn hG dX11_says_76 rfl ?_
          refine pm_ldc hG dX11_says_77 (ctX11_109 _ rfl) ?_
          obtain ⟨r11, h10, hE⟩ := fb_some hE
          refine pm_callV (As := [.int (-1000001)]) (rest := []) hG hR dX11_says_79 (lkX11_97 _ rfl) okV_X11_told rfl rfl (c_X11_told (d := 3) (by decide) h10) rfl rfl hdd (Nat.le_refl _) (Nat.le_refl _) (by decide) (fx_ki ?_)
          exact pm_iret hG hF dX11_says_82 rfl (Nat.le_refl _) (Nat.le_refl _) (fx_ric hE)
        · replace hE := fx_f c9 hE
          refine pm_iloadi hG dX11_says_66 rfl ?_
          refine pm_if_eq (tgt := 76) hG dX11_says_68 rfl (fun q => absurd q (by decide)) (fun _ => ?_)
          refine pm_iloadi hG dX11_says_71 rfl ?_
          refine pm_if_ne (tgt := 83) hG dX11_says_73 rfl (fun q => absurd q (by decide)) (fun _ => ?_)
          refine pm_aloadn hG dX11_says_76 rfl ?_
          refine pm_ldc hG dX11_says_77 (ctX11_109 _ rfl) ?_
          obtain ⟨r13, h12, hE⟩ := fb_some hE
          refine pm_callV (As := [.int (-1000001)]) (rest := []) hG hR dX11_says_79 (lkX11_97 _ rfl) okV_X11_told rfl rfl (c_X11_told (d := 3) (by decide) h12) rfl rfl hdd (Nat.le_refl _) (Nat.le_refl _) (by decide) (fx_ki ?_)
          exact pm_iret hG hF dX11_says_82 rfl (Nat.le_refl _) (Nat.le_refl _) (fx_ric hE)
      · replace hE := fx_f c8 hE
        refine pm_iconst (v := 1) hG dX11_says_45 (by decide) ?_
        refine pm_goto (tgt := 50) hG dX11_says_46 rfl ?_
        refine pm_istoreXi (loc' := [some (.ref (B + 0)), some (.int za), some (.int zb), some (.int zc), some (.int 1), some (.int 1)]) hG dX11_says_50 (by decide) (pm_c1b rfl) rfl ?_
        refine pm_aloadn hG dX11_says_52 rfl ?_
        refine pm_getf hG dX11_says_53 (flX11_12 _ rfl) rfl rfl ?_
        refine pm_getf hG dX11_says_56 (flX11_209 _ rfl) rfl rfl ?_
        refine pm_iloadn hG dX11_says_59 rfl ?_
        refine pm_callV (As := [.int za]) (rest := []) hG hR dX11_says_60 (lkX11_101 _ rfl) okV_X9_has rfl rfl (thas_10 (d := 3)) rfl rfl hdd (Nat.le_refl _) (Nat.le_refl _) (by decide) (fx_ki ?_)
        refine pm_if_eq (tgt := 76) hG dX11_says_63 rfl (fun c14 => ?_) (fun c14 => ?_)
        · replace hE := fx_t c14 hE
          refine pm_aloadn hG dX11_says_76 rfl ?_
          refine pm_ldc hG dX11_says_77 (ctX11_109 _ rfl) ?_
          obtain ⟨r16, h15, hE⟩ := fb_some hE
          refine pm_callV (As := [.int (-1000001)]) (rest := []) hG hR dX11_says_79 (lkX11_97 _ rfl) okV_X11_told rfl rfl (c_X11_told (d := 3) (by decide) h15) rfl rfl hdd (Nat.le_refl _) (Nat.le_refl _) (by decide) (fx_ki ?_)
          exact pm_iret hG hF dX11_says_82 rfl (Nat.le_refl _) (Nat.le_refl _) (fx_ric hE)
        · replace hE := fx_f c14 hE
          refine pm_iloadi hG dX11_says_66 rfl ?_
          refine pm_if_eq (tgt := 76) hG dX11_says_68 rfl (fun q => absurd q (by decide)) (fun _ => ?_)
          refine pm_iloadi hG dX11_says_71 rfl ?_
          refine pm_if_ne (tgt := 83) hG dX11_says_73 rfl (fun _ => ?_) (fun q => absurd q (by decide))
          refine pm_aloadn hG dX11_says_83 rfl ?_
          refine pm_getf hG dX11_says_84 (flX11_21 _ rfl) rfl rfl ?_
          refine pm_iloadn hG dX11_says_87 rfl ?_
          refine pm_iloadn hG dX11_says_88 rfl ?_
          refine pm_iloadn hG dX11_says_89 rfl ?_
          refine pm_aloadn hG dX11_says_90 rfl ?_
          refine pm_getf hG dX11_says_91 (flX11_12 _ rfl) rfl rfl ?_
          refine pm_getf hG dX11_says_94 (flX11_122 _ rfl) rfl rfl ?_
          obtain ⟨r18, h17, hE⟩ := fb_some hE
          refine pm_callV (As := [.int za, .int zb, .int zc, .int (S.1 102)]) (rest := []) hG hR dX11_says_97 (lkX11_226 _ rfl) okV_X2_comesTo rfl rfl (c_X2_comesTo (d := 3) (by decide) h17) rfl rfl hdd (Nat.le_refl _) (Nat.le_refl _) (by decide) (fx_ki ?_)
          exact pm_iret hG hF dX11_says_100 rfl (Nat.le_refl _) (Nat.le_refl _) (fx_ric hE)
  · replace hE := fx_f c1 hE
    refine pm_aloadn hG dX11_says_5 rfl ?_
    refine pm_getf hG dX11_says_6 (flX11_12 _ rfl) rfl rfl ?_
    refine pm_getf hG dX11_says_9 (flX11_128 _ rfl) rfl rfl ?_
    refine pm_iloadn hG dX11_says_12 rfl ?_
    refine pm_callV (As := [.int zb]) (rest := []) hG hR dX11_says_13 (lkX11_101 _ rfl) okV_X9_has rfl rfl (thas_6 (d := 3)) rfl rfl hdd (Nat.le_refl _) (Nat.le_refl _) (by decide) (fx_ki ?_)
    refine pm_if_eq (tgt := 23) hG dX11_says_16 rfl (fun c19 => ?_) (fun c19 => ?_)
    · replace hE := fx_t c19 hE
      refine pm_iconst (v := 0) hG dX11_says_23 (by decide) ?_
      refine pm_istoreXi (loc' := [some (.ref (B + 0)), some (.int za), some (.int zb), some (.int zc), some (.int 0), none]) hG dX11_says_24 (by decide) (pm_c1b rfl) rfl ?_
      refine pm_iloadn hG dX11_says_26 rfl ?_
      refine pm_iconst (v := (-1)) hG dX11_says_27 (by decide) ?_
      refine pm_icmp_eq (tgt := 45) hG dX11_says_28 rfl (fun c20 => ?_) (fun c20 => ?_)
      · replace hE := fx_t c20 hE
        refine pm_iconst (v := 1) hG dX11_says_45 (by decide) ?_
        refine pm_goto (tgt := 50) hG dX11_says_46 rfl ?_
        refine pm_istoreXi (loc' := [some (.ref (B + 0)), some (.int za), some (.int zb), some (.int zc), some (.int 0), some (.int 1)]) hG dX11_says_50 (by decide) (pm_c1b rfl) rfl ?_
        refine pm_aloadn hG dX11_says_52 rfl ?_
        refine pm_getf hG dX11_says_53 (flX11_12 _ rfl) rfl rfl ?_
        refine pm_getf hG dX11_says_56 (flX11_209 _ rfl) rfl rfl ?_
        refine pm_iloadn hG dX11_says_59 rfl ?_
        refine pm_callV (As := [.int za]) (rest := []) hG hR dX11_says_60 (lkX11_101 _ rfl) okV_X9_has rfl rfl (thas_10 (d := 3)) rfl rfl hdd (Nat.le_refl _) (Nat.le_refl _) (by decide) (fx_ki ?_)
        refine pm_if_eq (tgt := 76) hG dX11_says_63 rfl (fun c21 => ?_) (fun c21 => ?_)
        · replace hE := fx_t c21 hE
          refine pm_aloadn hG dX11_says_76 rfl ?_
          refine pm_ldc hG dX11_says_77 (ctX11_109 _ rfl) ?_
          obtain ⟨r23, h22, hE⟩ := fb_some hE
          refine pm_callV (As := [.int (-1000001)]) (rest := []) hG hR dX11_says_79 (lkX11_97 _ rfl) okV_X11_told rfl rfl (c_X11_told (d := 3) (by decide) h22) rfl rfl hdd (Nat.le_refl _) (Nat.le_refl _) (by decide) (fx_ki ?_)
          exact pm_iret hG hF dX11_says_82 rfl (Nat.le_refl _) (Nat.le_refl _) (fx_ric hE)
        · replace hE := fx_f c21 hE
          refine pm_iloadi hG dX11_says_66 rfl ?_
          refine pm_if_eq (tgt := 76) hG dX11_says_68 rfl (fun _ => ?_) (fun q => absurd q (by decide))
          refine pm_aloadn hG dX11_says_76 rfl ?_
          refine pm_ldc hG dX11_says_77 (ctX11_109 _ rfl) ?_
          obtain ⟨r25, h24, hE⟩ := fb_some hE
          refine pm_callV (As := [.int (-1000001)]) (rest := []) hG hR dX11_says_79 (lkX11_97 _ rfl) okV_X11_told rfl rfl (c_X11_told (d := 3) (by decide) h24) rfl rfl hdd (Nat.le_refl _) (Nat.le_refl _) (by decide) (fx_ki ?_)
          exact pm_iret hG hF dX11_says_82 rfl (Nat.le_refl _) (Nat.le_refl _) (fx_ric hE)
      · replace hE := fx_f c20 hE
        refine pm_aloadn hG dX11_says_31 rfl ?_
        refine pm_getf hG dX11_says_32 (flX11_12 _ rfl) rfl rfl ?_
        refine pm_getf hG dX11_says_35 (flX11_224 _ rfl) rfl rfl ?_
        refine pm_iloadn hG dX11_says_38 rfl ?_
        refine pm_callV (As := [.int zc]) (rest := []) hG hR dX11_says_39 (lkX11_101 _ rfl) okV_X9_has rfl rfl (thas_14 (d := 3)) rfl rfl hdd (Nat.le_refl _) (Nat.le_refl _) (by decide) (fx_ki ?_)
        refine pm_if_eq (tgt := 49) hG dX11_says_42 rfl (fun c26 => ?_) (fun c26 => ?_)
        · replace hE := fx_t c26 hE
          refine pm_iconst (v := 0) hG dX11_says_49 (by decide) ?_
          refine pm_istoreXi (loc' := [some (.ref (B + 0)), some (.int za), some (.int zb), some (.int zc), some (.int 0), some (.int 0)]) hG dX11_says_50 (by decide) (pm_c1b rfl) rfl ?_
          refine pm_aloadn hG dX11_says_52 rfl ?_
          refine pm_getf hG dX11_says_53 (flX11_12 _ rfl) rfl rfl ?_
          refine pm_getf hG dX11_says_56 (flX11_209 _ rfl) rfl rfl ?_
          refine pm_iloadn hG dX11_says_59 rfl ?_
          refine pm_callV (As := [.int za]) (rest := []) hG hR dX11_says_60 (lkX11_101 _ rfl) okV_X9_has rfl rfl (thas_10 (d := 3)) rfl rfl hdd (Nat.le_refl _) (Nat.le_refl _) (by decide) (fx_ki ?_)
          refine pm_if_eq (tgt := 76) hG dX11_says_63 rfl (fun c27 => ?_) (fun c27 => ?_)
          · replace hE := fx_t c27 hE
            refine pm_aloadn hG dX11_says_76 rfl ?_
            refine pm_ldc hG dX11_says_77 (ctX11_109 _ rfl) ?_
            obtain ⟨r29, h28, hE⟩ := fb_some hE
            refine pm_callV (As := [.int (-1000001)]) (rest := []) hG hR dX11_says_79 (lkX11_97 _ rfl) okV_X11_told rfl rfl (c_X11_told (d := 3) (by decide) h28) rfl rfl hdd (Nat.le_refl _) (Nat.le_refl _) (by decide) (fx_ki ?_)
            exact pm_iret hG hF dX11_says_82 rfl (Nat.le_refl _) (Nat.le_refl _) (fx_ric hE)
          · replace hE := fx_f c27 hE
            refine pm_iloadi hG dX11_says_66 rfl ?_
            refine pm_if_eq (tgt := 76) hG dX11_says_68 rfl (fun _ => ?_) (fun q => absurd q (by decide))
            refine pm_aloadn hG dX11_says_76 rfl ?_
            refine pm_ldc hG dX11_says_77 (ctX11_109 _ rfl) ?_
            obtain ⟨r31, h30, hE⟩ := fb_some hE
            refine pm_callV (As := [.int (-1000001)]) (rest := []) hG hR dX11_says_79 (lkX11_97 _ rfl) okV_X11_told rfl rfl (c_X11_told (d := 3) (by decide) h30) rfl rfl hdd (Nat.le_refl _) (Nat.le_refl _) (by decide) (fx_ki ?_)
            exact pm_iret hG hF dX11_says_82 rfl (Nat.le_refl _) (Nat.le_refl _) (fx_ric hE)
        · replace hE := fx_f c26 hE
          refine pm_iconst (v := 1) hG dX11_says_45 (by decide) ?_
          refine pm_goto (tgt := 50) hG dX11_says_46 rfl ?_
          refine pm_istoreXi (loc' := [some (.ref (B + 0)), some (.int za), some (.int zb), some (.int zc), some (.int 0), some (.int 1)]) hG dX11_says_50 (by decide) (pm_c1b rfl) rfl ?_
          refine pm_aloadn hG dX11_says_52 rfl ?_
          refine pm_getf hG dX11_says_53 (flX11_12 _ rfl) rfl rfl ?_
          refine pm_getf hG dX11_says_56 (flX11_209 _ rfl) rfl rfl ?_
          refine pm_iloadn hG dX11_says_59 rfl ?_
          refine pm_callV (As := [.int za]) (rest := []) hG hR dX11_says_60 (lkX11_101 _ rfl) okV_X9_has rfl rfl (thas_10 (d := 3)) rfl rfl hdd (Nat.le_refl _) (Nat.le_refl _) (by decide) (fx_ki ?_)
          refine pm_if_eq (tgt := 76) hG dX11_says_63 rfl (fun c32 => ?_) (fun c32 => ?_)
          · replace hE := fx_t c32 hE
            refine pm_aloadn hG dX11_says_76 rfl ?_
            refine pm_ldc hG dX11_says_77 (ctX11_109 _ rfl) ?_
            obtain ⟨r34, h33, hE⟩ := fb_some hE
            refine pm_callV (As := [.int (-1000001)]) (rest := []) hG hR dX11_says_79 (lkX11_97 _ rfl) okV_X11_told rfl rfl (c_X11_told (d := 3) (by decide) h33) rfl rfl hdd (Nat.le_refl _) (Nat.le_refl _) (by decide) (fx_ki ?_)
            exact pm_iret hG hF dX11_says_82 rfl (Nat.le_refl _) (Nat.le_refl _) (fx_ric hE)
          · replace hE := fx_f c32 hE
            refine pm_iloadi hG dX11_says_66 rfl ?_
            refine pm_if_eq (tgt := 76) hG dX11_says_68 rfl (fun _ => ?_) (fun q => absurd q (by decide))
            refine pm_aloadn hG dX11_says_76 rfl ?_
            refine pm_ldc hG dX11_says_77 (ctX11_109 _ rfl) ?_
            obtain ⟨r36, h35, hE⟩ := fb_some hE
            refine pm_callV (As := [.int (-1000001)]) (rest := []) hG hR dX11_says_79 (lkX11_97 _ rfl) okV_X11_told rfl rfl (c_X11_told (d := 3) (by decide) h35) rfl rfl hdd (Nat.le_refl _) (Nat.le_refl _) (by decide) (fx_ki ?_)
            exact pm_iret hG hF dX11_says_82 rfl (Nat.le_refl _) (Nat.le_refl _) (fx_ric hE)
    · replace hE := fx_f c19 hE
      refine pm_iconst (v := 1) hG dX11_says_19 (by decide) ?_
      refine pm_goto (tgt := 24) hG dX11_says_20 rfl ?_
      refine pm_istoreXi (loc' := [some (.ref (B + 0)), some (.int za), some (.int zb), some (.int zc), some (.int 1), none]) hG dX11_says_24 (by decide) (pm_c1b rfl) rfl ?_
      refine pm_iloadn hG dX11_says_26 rfl ?_
      refine pm_iconst (v := (-1)) hG dX11_says_27 (by decide) ?_
      refine pm_icmp_eq (tgt := 45) hG dX11_says_28 rfl (fun c37 => ?_) (fun c37 => ?_)
      · replace hE := fx_t c37 hE
        refine pm_iconst (v := 1) hG dX11_says_45 (by decide) ?_
        refine pm_goto (tgt := 50) hG dX11_says_46 rfl ?_
        refine pm_istoreXi (loc' := [some (.ref (B + 0)), some (.int za), some (.int zb), some (.int zc), some (.int 1), some (.int 1)]) hG dX11_says_50 (by decide) (pm_c1b rfl) rfl ?_
        refine pm_aloadn hG dX11_says_52 rfl ?_
        refine pm_getf hG dX11_says_53 (flX11_12 _ rfl) rfl rfl ?_
        refine pm_getf hG dX11_says_56 (flX11_209 _ rfl) rfl rfl ?_
        refine pm_iloadn hG dX11_says_59 rfl ?_
        refine pm_callV (As := [.int za]) (rest := []) hG hR dX11_says_60 (lkX11_101 _ rfl) okV_X9_has rfl rfl (thas_10 (d := 3)) rfl rfl hdd (Nat.le_refl _) (Nat.le_refl _) (by decide) (fx_ki ?_)
        refine pm_if_eq (tgt := 76) hG dX11_says_63 rfl (fun c38 => ?_) (fun c38 => ?_)
        · replace hE := fx_t c38 hE
          refine pm_aloadn hG dX11_says_76 rfl ?_
          refine pm_ldc hG dX11_says_77 (ctX11_109 _ rfl) ?_
          obtain ⟨r40, h39, hE⟩ := fb_some hE
          refine pm_callV (As := [.int (-1000001)]) (rest := []) hG hR dX11_says_79 (lkX11_97 _ rfl) okV_X11_told rfl rfl (c_X11_told (d := 3) (by decide) h39) rfl rfl hdd (Nat.le_refl _) (Nat.le_refl _) (by decide) (fx_ki ?_)
          exact pm_iret hG hF dX11_says_82 rfl (Nat.le_refl _) (Nat.le_refl _) (fx_ric hE)
        · replace hE := fx_f c38 hE
          refine pm_iloadi hG dX11_says_66 rfl ?_
          refine pm_if_eq (tgt := 76) hG dX11_says_68 rfl (fun q => absurd q (by decide)) (fun _ => ?_)
          refine pm_iloadi hG dX11_says_71 rfl ?_
          refine pm_if_ne (tgt := 83) hG dX11_says_73 rfl (fun _ => ?_) (fun q => absurd q (by decide))
          refine pm_aloadn hG dX11_says_83 rfl ?_
          refine pm_getf hG dX11_says_84 (flX11_21 _ rfl) rfl rfl ?_
          refine pm_iloadn hG dX11_says_87 rfl ?_
          refine pm_iloadn hG dX11_says_88 rfl ?_
          refine pm_iloadn hG dX11_says_89 rfl ?_
          refine pm_aloadn hG dX11_says_90 rfl ?_
          refine pm_getf hG dX11_says_91 (flX11_12 _ rfl) rfl rfl ?_
          refine pm_getf hG dX11_says_94 (flX11_122 _ rfl) rfl rfl ?_
          obtain ⟨r42, h41, hE⟩ := fb_some hE
          refine pm_callV (As := [.int za, .int zb, .int zc, .int (S.1 102)]) (rest := []) hG hR dX11_says_97 (lkX11_226 _ rfl) okV_X2_comesTo rfl rfl (c_X2_comesTo (d := 3) (by decide) h41) rfl rfl hdd (Nat.le_refl _) (Nat.le_refl _) (by decide) (fx_ki ?_)
          exact pm_iret hG hF dX11_says_100 rfl (Nat.le_refl _) (Nat.le_refl _) (fx_ric hE)
      · replace hE := fx_f c37 hE
        refine pm_aloadn hG dX11_says_31 rfl ?_
        refine pm_getf hG dX11_says_32 (flX11_12 _ rfl) rfl rfl ?_
        refine pm_getf hG dX11_says_35 (flX11_224 _ rfl) rfl rfl ?_
        refine pm_iloadn hG dX11_says_38 rfl ?_
        refine pm_callV (As := [.int zc]) (rest := []) hG hR dX11_says_39 (lkX11_101 _ rfl) okV_X9_has rfl rfl (thas_14 (d := 3)) rfl rfl hdd (Nat.le_refl _) (Nat.le_refl _) (by decide) (fx_ki ?_)
        refine pm_if_eq (tgt := 49) hG dX11_says_42 rfl (fun c43 => ?_) (fun c43 => ?_)
        · replace hE := fx_t c43 hE
          refine pm_iconst (v := 0) hG dX11_says_49 (by decide) ?_
          refine pm_istoreXi (loc' := [some (.ref (B + 0)), some (.int za), some (.int zb), some (.int zc), some (.int 1), some (.int 0)]) hG dX11_says_50 (by decide) (pm_c1b rfl) rfl ?_
          refine pm_aloadn hG dX11_says_52 rfl ?_
          refine pm_getf hG dX11_says_53 (flX11_12 _ rfl) rfl rfl ?_
          refine pm_getf hG dX11_says_56 (flX11_209 _ rfl) rfl rfl ?_
          refine pm_iloadn hG dX11_says_59 rfl ?_
          refine pm_callV (As := [.int za]) (rest := []) hG hR dX11_says_60 (lkX11_101 _ rfl) okV_X9_has rfl rfl (thas_10 (d := 3)) rfl rfl hdd (Nat.le_refl _) (Nat.le_refl _) (by decide) (fx_ki ?_)
          refine pm_if_eq (tgt := 76) hG dX11_says_63 rfl (fun c44 => ?_) (fun c44 => ?_)
          · replace hE := fx_t c44 hE
            refine pm_aloadn hG dX11_says_76 rfl ?_
            refine pm_ldc hG dX11_says_77 (ctX11_109 _ rfl) ?_
            obtain ⟨r46, h45, hE⟩ := fb_some hE
            refine pm_callV (As := [.int (-1000001)]) (rest := []) hG hR dX11_says_79 (lkX11_97 _ rfl) okV_X11_told rfl rfl (c_X11_told (d := 3) (by decide) h45) rfl rfl hdd (Nat.le_refl _) (Nat.le_refl _) (by decide) (fx_ki ?_)
            exact pm_iret hG hF dX11_says_82 rfl (Nat.le_refl _) (Nat.le_refl _) (fx_ric hE)
          · replace hE := fx_f c44 hE
            refine pm_iloadi hG dX11_says_66 rfl ?_
            refine pm_if_eq (tgt := 76) hG dX11_says_68 rfl (fun q => absurd q (by decide)) (fun _ => ?_)
            refine pm_iloadi hG dX11_says_71 rfl ?_
            refine pm_if_ne (tgt := 83) hG dX11_says_73 rfl (fun q => absurd q (by decide)) (fun _ => ?_)
            refine pm_aloadn hG dX11_says_76 rfl ?_
            refine pm_ldc hG dX11_says_77 (ctX11_109 _ rfl) ?_
            obtain ⟨r48, h47, hE⟩ := fb_some hE
            refine pm_callV (As := [.int (-1000001)]) (rest := []) hG hR dX11_says_79 (lkX11_97 _ rfl) okV_X11_told rfl rfl (c_X11_told (d := 3) (by decide) h47) rfl rfl hdd (Nat.le_refl _) (Nat.le_refl _) (by decide) (fx_ki ?_)
            exact pm_iret hG hF dX11_says_82 rfl (Nat.le_refl _) (Nat.le_refl _) (fx_ric hE)
        · replace hE := fx_f c43 hE
          refine pm_iconst (v := 1) hG dX11_says_45 (by decide) ?_
          refine pm_goto (tgt := 50) hG dX11_says_46 rfl ?_
          refine pm_istoreXi (loc' := [some (.ref (B + 0)), some (.int za), some (.int zb), some (.int zc), some (.int 1), some (.int 1)]) hG dX11_says_50 (by decide) (pm_c1b rfl) rfl ?_
          refine pm_aloadn hG dX11_says_52 rfl ?_
          refine pm_getf hG dX11_says_53 (flX11_12 _ rfl) rfl rfl ?_
          refine pm_getf hG dX11_says_56 (flX11_209 _ rfl) rfl rfl ?_
          refine pm_iloadn hG dX11_says_59 rfl ?_
          refine pm_callV (As := [.int za]) (rest := []) hG hR dX11_says_60 (lkX11_101 _ rfl) okV_X9_has rfl rfl (thas_10 (d := 3)) rfl rfl hdd (Nat.le_refl _) (Nat.le_refl _) (by decide) (fx_ki ?_)
          refine pm_if_eq (tgt := 76) hG dX11_says_63 rfl (fun c49 => ?_) (fun c49 => ?_)
          · replace hE := fx_t c49 hE
            refine pm_aloadn hG dX11_says_76 rfl ?_
            refine pm_ldc hG dX11_says_77 (ctX11_109 _ rfl) ?_
            obtain ⟨r51, h50, hE⟩ := fb_some hE
            refine pm_callV (As := [.int (-1000001)]) (rest := []) hG hR dX11_says_79 (lkX11_97 _ rfl) okV_X11_told rfl rfl (c_X11_told (d := 3) (by decide) h50) rfl rfl hdd (Nat.le_refl _) (Nat.le_refl _) (by decide) (fx_ki ?_)
            exact pm_iret hG hF dX11_says_82 rfl (Nat.le_refl _) (Nat.le_refl _) (fx_ric hE)
          · replace hE := fx_f c49 hE
            refine pm_iloadi hG dX11_says_66 rfl ?_
            refine pm_if_eq (tgt := 76) hG dX11_says_68 rfl (fun q => absurd q (by decide)) (fun _ => ?_)
            refine pm_iloadi hG dX11_says_71 rfl ?_
            refine pm_if_ne (tgt := 83) hG dX11_says_73 rfl (fun _ => ?_) (fun q => absurd q (by decide))
            refine pm_aloadn hG dX11_says_83 rfl ?_
            refine pm_getf hG dX11_says_84 (flX11_21 _ rfl) rfl rfl ?_
            refine pm_iloadn hG dX11_says_87 rfl ?_
            refine pm_iloadn hG dX11_says_88 rfl ?_
            refine pm_iloadn hG dX11_says_89 rfl ?_
            refine pm_aloadn hG dX11_says_90 rfl ?_
            refine pm_getf hG dX11_says_91 (flX11_12 _ rfl) rfl rfl ?_
            refine pm_getf hG dX11_says_94 (flX11_122 _ rfl) rfl rfl ?_
            obtain ⟨r53, h52, hE⟩ := fb_some hE
            refine pm_callV (As := [.int za, .int zb, .int zc, .int (S.1 102)]) (rest := []) hG hR dX11_says_97 (lkX11_226 _ rfl) okV_X2_comesTo rfl rfl (c_X2_comesTo (d := 3) (by decide) h52) rfl rfl hdd (Nat.le_refl _) (Nat.le_refl _) (by decide) (fx_ki ?_)
            exact pm_iret hG hF dX11_says_100 rfl (Nat.le_refl _) (Nat.le_refl _) (fx_ric hE)

set_option maxRecDepth 100000 in
set_option maxHeartbeats 4000000 in
theorem c_X11_seat {d : Nat} {B cnt : Nat} {kp : Value} {ρ : pm_S} {S : FS} {za : Int32} {zb : Int32} {R : Int32 × FS} (hdd : 4 ≤ d) (hE : f_X11_seat S za zb = some R) : pm_met mX11_seat d 0 0 B [.ref (B + 0), .int za, .int zb] cnt (cst B kp S ρ) (pm_Qi (fun v σ' cnt' => v = R.1 ∧ σ' = (cst B kp R.2 ρ) ∧ cnt' = cnt)) := by
  refine pm_enter 1 (by decide) (Nat.le_of_ble_eq_true rfl) rfl (fun G hG hR hF => ?_)
  unfold f_X11_seat at hE
  refine pm_aloadn hG dX11_seat_0 rfl ?_
  refine pm_getf hG dX11_seat_1 (flX11_12 _ rfl) rfl rfl ?_
  refine pm_getf hG dX11_seat_4 (flX11_128 _ rfl) rfl rfl ?_
  refine pm_iloadn hG dX11_seat_7 rfl ?_
  refine pm_callV (As := [.int za]) (rest := []) hG hR dX11_seat_8 (lkX11_101 _ rfl) okV_X9_has rfl rfl (thas_6 (d := 3)) rfl rfl hdd (Nat.le_refl _) (Nat.le_refl _) (by decide) (fx_ki ?_)
  refine pm_if_ne (tgt := 21) hG dX11_seat_11 rfl (fun c1 => ?_) (fun c1 => ?_)
  · replace hE := fx_f c1 hE
    refine pm_aloadn hG dX11_seat_21 rfl ?_
    refine pm_getf hG dX11_seat_22 (flX11_12 _ rfl) rfl rfl ?_
    refine pm_getf hG dX11_seat_25 (flX11_128 _ rfl) rfl rfl ?_
    refine pm_iloadn hG dX11_seat_28 rfl ?_
    refine pm_bipush (v := 13) hG dX11_seat_29 (by decide) ?_
    refine pm_callV (As := [.int za, .int 13]) (rest := []) hG hR dX11_seat_31 (lkX11_152 _ rfl) okV_X9_get rfl rfl (tget_6 (d := 3)) rfl rfl hdd (Nat.le_refl _) (Nat.le_refl _) (by decide) (fx_ki ?_)
    refine pm_if_eq (tgt := 41) hG dX11_seat_34 rfl (fun c2 => ?_) (fun c2 => ?_)
    · replace hE := fx_t c2 hE
      refine pm_iconst (v := 0) hG dX11_seat_41 (by decide) ?_
      refine pm_istoreXn (loc' := [some (.ref (B + 0)), some (.int za), some (.int zb), some (.int 0)]) hG dX11_seat_42 (by decide) (pm_c1b rfl) rfl ?_
      refine pm_aloadn hG dX11_seat_43 rfl ?_
      refine pm_getf hG dX11_seat_44 (flX11_12 _ rfl) rfl rfl ?_
      refine pm_iloadn hG dX11_seat_47 rfl ?_
      refine pm_callV (As := [.int za]) (rest := []) hG hR dX11_seat_48 (lkX11_135 _ rfl) okV_X7_isLiving rfl rfl (c_X7_isLiving (d := 3) (by decide) rfl) rfl rfl hdd (Nat.le_refl _) (Nat.le_refl _) (by decide) (fx_ki ?_)
      refine pm_if_eq (tgt := 59) hG dX11_seat_51 rfl (fun c3 => ?_) (fun c3 => ?_)
      · replace hE := fx_t c3 hE
        refine pm_aloadn hG dX11_seat_59 rfl ?_
        refine pm_ldc hG dX11_seat_60 (ctX11_138 _ rfl) ?_
        obtain ⟨r5, h4, hE⟩ := fb_some hE
        refine pm_callV (As := [.int (-1000003)]) (rest := []) hG hR dX11_seat_62 (lkX11_97 _ rfl) okV_X11_told rfl rfl (c_X11_told (d := 3) (by decide) h4) rfl rfl hdd (Nat.le_refl _) (Nat.le_refl _) (by decide) (fx_ki ?_)
        exact pm_iret hG hF dX11_seat_65 rfl (Nat.le_refl _) (Nat.le_refl _) (fx_ric hE)
      · replace hE := fx_f c3 hE
        refine pm_iloadn hG dX11_seat_54 rfl ?_
        refine pm_iloadn hG dX11_seat_55 rfl ?_
        refine pm_icmp_ne (tgt := 66) hG dX11_seat_56 rfl (fun c6 => ?_) (fun c6 => ?_)
        · replace hE := fx_f c6 hE
          refine pm_iloadn hG dX11_seat_66 rfl ?_
          refine pm_if_eq (tgt := 95) hG dX11_seat_67 rfl (fun q => absurd q (Ne.symm c6)) (fun _ => ?_)
          refine pm_aloadn hG dX11_seat_70 rfl ?_
          refine pm_getf hG dX11_seat_71 (flX11_12 _ rfl) rfl rfl ?_
          refine pm_getf hG dX11_seat_74 (flX11_128 _ rfl) rfl rfl ?_
          refine pm_bipush (v := 13) hG dX11_seat_77 (by decide) ?_
          refine pm_iconst (v := 1) hG dX11_seat_79 (by decide) ?_
          obtain ⟨x8, h7, hE⟩ := fb_some hE
          refine pm_callV (As := [.int 13, .int 1]) (rest := []) hG hR dX11_seat_80 (lkX11_164 _ rfl) okV_X9_rowsWith rfl rfl (trowsWith_6 (d := 3) (k := 13) (by decide) rfl h7) rfl rfl hdd (Nat.le_refl _) (Nat.le_refl _) (by decide) (fx_ki ?_)
          refine pm_bipush (v := 9) hG dX11_seat_83 (by decide) ?_
          refine pm_icmp_lt (tgt := 95) hG dX11_seat_85 rfl (fun c9 => ?_) (fun c9 => ?_)
          · replace hE := fx_t c9 hE
            refine pm_iloadn hG dX11_seat_95 rfl ?_
            refine pm_if_eq (tgt := 116) hG dX11_seat_96 rfl (fun q => absurd q (Ne.symm c6)) (fun _ => ?_)
            refine pm_aloadn hG dX11_seat_99 rfl ?_
            refine pm_getf hG dX11_seat_100 (flX11_12 _ rfl) rfl rfl ?_
            refine pm_getf hG dX11_seat_103 (flX11_128 _ rfl) rfl rfl ?_
            refine pm_iloadn hG dX11_seat_106 rfl ?_
            refine pm_bipush (v := 13) hG dX11_seat_107 (by decide) ?_
            refine pm_iconst (v := 1) hG dX11_seat_109 (by decide) ?_
            refine pm_callV (As := [.int za, .int 13, .int 1]) (rest := []) hG hR dX11_seat_110 (lkX11_170 _ rfl) okV_X9_set rfl rfl (tset_6 (d := 3)) rfl rfl hdd (Nat.le_refl _) (Nat.le_refl _) (by decide) (fx_kv ?_)
            refine fx_letc hE (fun S10 hE => ?_)
            refine pm_goto (tgt := 124) hG dX11_seat_113 rfl ?_
            refine pm_aloadn hG dX11_seat_124 rfl ?_
            refine pm_getf hG dX11_seat_125 (flX11_12 _ rfl) rfl rfl ?_
            refine pm_getf hG dX11_seat_128 (flX11_128 _ rfl) rfl rfl ?_
            refine pm_bipush (v := 13) hG dX11_seat_131 (by decide) ?_
            refine pm_iconst (v := 1) hG dX11_seat_133 (by decide) ?_
            obtain ⟨x12, h11, hE⟩ := fb_some hE
            refine pm_callV (As := [.int 13, .int 1]) (rest := []) hG hR dX11_seat_134 (lkX11_164 _ rfl) okV_X9_rowsWith rfl rfl (trowsWith_6 (d := 3) (k := 13) (by decide) rfl h11) rfl rfl hdd (Nat.le_refl _) (Nat.le_refl _) (by decide) (fx_ki ?_)
            exact pm_iret hG hF dX11_seat_137 rfl (Nat.le_refl _) (Nat.le_refl _) (fx_ric hE)
          · replace hE := fx_f c9 hE
            refine pm_aloadn hG dX11_seat_88 rfl ?_
            refine pm_ldc hG dX11_seat_89 (ctX11_92 _ rfl) ?_
            obtain ⟨r14, h13, hE⟩ := fb_some hE
            refine pm_callV (As := [.int (-1000004)]) (rest := []) hG hR dX11_seat_91 (lkX11_97 _ rfl) okV_X11_told rfl rfl (c_X11_told (d := 3) (by decide) h13) rfl rfl hdd (Nat.le_refl _) (Nat.le_refl _) (by decide) (fx_ki ?_)
            exact pm_iret hG hF dX11_seat_94 rfl (Nat.le_refl _) (Nat.le_refl _) (fx_ric hE)
        · replace hE := fx_t c6 hE
          refine pm_aloadn hG dX11_seat_59 rfl ?_
          refine pm_ldc hG dX11_seat_60 (ctX11_138 _ rfl) ?_
          obtain ⟨r16, h15, hE⟩ := fb_some hE
          refine pm_callV (As := [.int (-1000003)]) (rest := []) hG hR dX11_seat_62 (lkX11_97 _ rfl) okV_X11_told rfl rfl (c_X11_told (d := 3) (by decide) h15) rfl rfl hdd (Nat.le_refl _) (Nat.le_refl _) (by decide) (fx_ki ?_)
          exact pm_iret hG hF dX11_seat_65 rfl (Nat.le_refl _) (Nat.le_refl _) (fx_ric hE)
    · replace hE := fx_f c2 hE
      refine pm_iconst (v := 1) hG dX11_seat_37 (by decide) ?_
      refine pm_goto (tgt := 42) hG dX11_seat_38 rfl ?_
      refine pm_istoreXn (loc' := [some (.ref (B + 0)), some (.int za), some (.int zb), some (.int 1)]) hG dX11_seat_42 (by decide) (pm_c1b rfl) rfl ?_
      refine pm_aloadn hG dX11_seat_43 rfl ?_
      refine pm_getf hG dX11_seat_44 (flX11_12 _ rfl) rfl rfl ?_
      refine pm_iloadn hG dX11_seat_47 rfl ?_
      refine pm_callV (As := [.int za]) (rest := []) hG hR dX11_seat_48 (lkX11_135 _ rfl) okV_X7_isLiving rfl rfl (c_X7_isLiving (d := 3) (by decide) rfl) rfl rfl hdd (Nat.le_refl _) (Nat.le_refl _) (by decide) (fx_ki ?_)
      refine pm_if_eq (tgt := 59) hG dX11_seat_51 rfl (fun c17 => ?_) (fun c17 => ?_)
      · replace hE := fx_t c17 hE
        refine pm_aloadn hG dX11_seat_59 rfl ?_
        refine pm_ldc hG dX11_seat_60 (ctX11_138 _ rfl) ?_
        obtain ⟨r19, h18, hE⟩ := fb_some hE
        refine pm_callV (As := [.int (-1000003)]) (rest := []) hG hR dX11_seat_62 (lkX11_97 _ rfl) okV_X11_told rfl rfl (c_X11_told (d := 3) (by decide) h18) rfl rfl hdd (Nat.le_refl _) (Nat.le_refl _) (by decide) (fx_ki ?_)
        exact pm_iret hG hF dX11_seat_65 rfl (Nat.le_refl _) (Nat.le_refl _) (fx_ric hE)
      · replace hE := fx_f c17 hE
        refine pm_iloadn hG dX11_seat_54 rfl ?_
        refine pm_iloadn hG dX11_seat_55 rfl ?_
        refine pm_icmp_ne (tgt := 66) hG dX11_seat_56 rfl (fun c20 => ?_) (fun c20 => ?_)
        · replace hE := fx_f c20 hE
          refine pm_iloadn hG dX11_seat_66 rfl ?_
          refine pm_if_eq (tgt := 95) hG dX11_seat_67 rfl (fun c21 => ?_) (fun c21 => ?_)
          · replace hE := fx_t c21 hE
            refine pm_iloadn hG dX11_seat_95 rfl ?_
            refine pm_if_eq (tgt := 116) hG dX11_seat_96 rfl (fun _ => ?_) (fun q => absurd c21 q)
            refine pm_aloadn hG dX11_seat_116 rfl ?_
            refine pm_getf hG dX11_seat_117 (flX11_30 _ rfl) rfl rfl ?_
            refine pm_iloadn hG dX11_seat_120 rfl ?_
            obtain ⟨r23, h22, hE⟩ := fb_some hE
            refine pm_callV (As := [.int za]) (rest := []) hG hR dX11_seat_121 (lkX11_139 _ rfl) okV_X0_unseat rfl rfl (c_X0_unseat (d := 3) (by decide) h22) rfl rfl hdd (Nat.le_refl _) (Nat.le_refl _) (by decide) (fx_kv ?_)
            refine pm_aloadn hG dX11_seat_124 rfl ?_
            refine pm_getf hG dX11_seat_125 (flX11_12 _ rfl) rfl rfl ?_
            refine pm_getf hG dX11_seat_128 (flX11_128 _ rfl) rfl rfl ?_
            refine pm_bipush (v := 13) hG dX11_seat_131 (by decide) ?_
            refine pm_iconst (v := 1) hG dX11_seat_133 (by decide) ?_
            obtain ⟨x25, h24, hE⟩ := fb_some hE
            refine pm_callV (As := [.int 13, .int 1]) (rest := []) hG hR dX11_seat_134 (lkX11_164 _ rfl) okV_X9_rowsWith rfl rfl (trowsWith_6 (d := 3) (k := 13) (by decide) rfl h24) rfl rfl hdd (Nat.le_refl _) (Nat.le_refl _) (by decide) (fx_ki ?_)
            exact pm_iret hG hF dX11_seat_137 rfl (Nat.le_refl _) (Nat.le_refl _) (fx_ric hE)
          · replace hE := fx_f c21 hE
            refine pm_aloadn hG dX11_seat_70 rfl ?_
            refine pm_getf hG dX11_seat_71 (flX11_12 _ rfl) rfl rfl ?_
            refine pm_getf hG dX11_seat_74 (flX11_128 _ rfl) rfl rfl ?_
            refine pm_bipush (v := 13) hG dX11_seat_77 (by decide) ?_
            refine pm_iconst (v := 1) hG dX11_seat_79 (by decide) ?_
            obtain ⟨x27, h26, hE⟩ := fb_some hE
            refine pm_callV (As := [.int 13, .int 1]) (rest := []) hG hR dX11_seat_80 (lkX11_164 _ rfl) okV_X9_rowsWith rfl rfl (trowsWith_6 (d := 3) (k := 13) (by decide) rfl h26) rfl rfl hdd (Nat.le_refl _) (Nat.le_refl _) (by decide) (fx_ki ?_)
            refine pm_bipush (v := 9) hG dX11_seat_83 (by decide) ?_
            refine pm_icmp_lt (tgt := 95) hG dX11_seat_85 rfl (fun c28 => ?_) (fun c28 => ?_)
            · replace hE := fx_t c28 hE
              refine pm_iloadn hG dX11_seat_95 rfl ?_
              refine pm_if_eq (tgt := 116) hG dX11_seat_96 rfl (fun q => absurd q c21) (fun _ => ?_)
              refine pm_aloadn hG dX11_seat_99 rfl ?_
              refine pm_getf hG dX11_seat_100 (flX11_12 _ rfl) rfl rfl ?_
              refine pm_getf hG dX11_seat_103 (flX11_128 _ rfl) rfl rfl ?_
              refine pm_iloadn hG dX11_seat_106 rfl ?_
              refine pm_bipush (v := 13) hG dX11_seat_107 (by decide) ?_
              refine pm_iconst (v := 1) hG dX11_seat_109 (by decide) ?_
              refine pm_callV (As := [.int za, .int 13, .int 1]) (rest := []) hG hR dX11_seat_110 (lkX11_170 _ rfl) okV_X9_set rfl rfl (tset_6 (d := 3)) rfl rfl hdd (Nat.le_refl _) (Nat.le_refl _) (by decide) (fx_kv ?_)
              refine fx_letc hE (fun S29 hE => ?_)
              refine pm_goto (tgt := 124) hG dX11_seat_113 rfl ?_
              refine pm_aloadn hG dX11_seat_124 rfl ?_
              refine pm_getf hG dX11_seat_125 (flX11_12 _ rfl) rfl rfl ?_
              refine pm_getf hG dX11_seat_128 (flX11_128 _ rfl) rfl rfl ?_
              refine pm_bipush (v := 13) hG dX11_seat_131 (by decide) ?_
              refine pm_iconst (v := 1) hG dX11_seat_133 (by decide) ?_
              obtain ⟨x31, h30, hE⟩ := fb_some hE
              refine pm_callV (As := [.int 13, .int 1]) (rest := []) hG hR dX11_seat_134 (lkX11_164 _ rfl) okV_X9_rowsWith rfl rfl (trowsWith_6 (d := 3) (k := 13) (by decide) rfl h30) rfl rfl hdd (Nat.le_refl _) (Nat.le_refl _) (by decide) (fx_ki ?_)
              exact pm_iret hG hF dX11_seat_137 rfl (Nat.le_refl _) (Nat.le_refl _) (fx_ric hE)
            · replace hE := fx_f c28 hE
              refine pm_aloadn hG dX11_seat_88 rfl ?_
              refine pm_ldc hG dX11_seat_89 (ctX11_92 _ rfl) ?_
              obtain ⟨r33, h32, hE⟩ := fb_some hE
              refine pm_callV (As := [.int (-1000004)]) (rest := []) hG hR dX11_seat_91 (lkX11_97 _ rfl) okV_X11_told rfl rfl (c_X11_told (d := 3) (by decide) h32) rfl rfl hdd (Nat.le_refl _) (Nat.le_refl _) (by decide) (fx_ki ?_)
              exact pm_iret hG hF dX11_seat_94 rfl (Nat.le_refl _) (Nat.le_refl _) (fx_ric hE)
        · replace hE := fx_t c20 hE
          refine pm_aloadn hG dX11_seat_59 rfl ?_
          refine pm_ldc hG dX11_seat_60 (ctX11_138 _ rfl) ?_
          obtain ⟨r35, h34, hE⟩ := fb_some hE
          refine pm_callV (As := [.int (-1000003)]) (rest := []) hG hR dX11_seat_62 (lkX11_97 _ rfl) okV_X11_told rfl rfl (c_X11_told (d := 3) (by decide) h34) rfl rfl hdd (Nat.le_refl _) (Nat.le_refl _) (by decide) (fx_ki ?_)
          exact pm_iret hG hF dX11_seat_65 rfl (Nat.le_refl _) (Nat.le_refl _) (fx_ric hE)
  · replace hE := fx_t c1 hE
    refine pm_aloadn hG dX11_seat_14 rfl ?_
    refine pm_ldc hG dX11_seat_15 (ctX11_109 _ rfl) ?_
    obtain ⟨r37, h36, hE⟩ := fb_some hE
    refine pm_callV (As := [.int (-1000001)]) (rest := []) hG hR dX11_seat_17 (lkX11_97 _ rfl) okV_X11_told rfl rfl (c_X11_told (d := 3) (by decide) h36) rfl rfl hdd (Nat.le_refl _) (Nat.le_refl _) (by decide) (fx_ki ?_)
    exact pm_iret hG hF dX11_seat_20 rfl (Nat.le_refl _) (Nat.le_refl _) (fx_ric hE)

set_option maxRecDepth 100000 in
set_option maxHeartbeats 4000000 in
theorem c_X3_dispatch {d : Nat} {B cnt : Nat} {kp : Value} {ρ : pm_S} {S : FS} {za : Int32} {zb : Int32} {R : Int32 × FS} (hdd : 3 ≤ d) (hE : f_X3_dispatch S za zb = some R) : pm_met mX3_dispatch d 0 0 B [.ref (B + 36), .int za, .int zb] cnt (cst B kp S ρ) (pm_Qi (fun v σ' cnt' => v = R.1 ∧ σ' = (cst B kp R.2 ρ) ∧ cnt' = cnt)) := by
  refine pm_enter 2 (by decide) (Nat.le_of_ble_eq_true rfl) rfl (fun G hG hR hF => ?_)
  unfold f_X3_dispatch at hE
  refine pm_aloadn hG dX3_dispatch_0 rfl ?_
  refine pm_iloadn hG dX3_dispatch_1 rfl ?_
  refine pm_callV (As := [.int za]) (rest := []) hG hR dX3_dispatch_2 (lkX3_55 _ rfl) okV_X3_isSent rfl rfl (c_X3_isSent (d := 2) (by decide) rfl) rfl rfl hdd (Nat.le_refl _) (Nat.le_refl _) (by decide) (fx_ki ?_)
  refine pm_if_ne (tgt := 19) hG dX3_dispatch_5 rfl (fun c1 => ?_) (fun c1 => ?_)
  · replace hE := fx_f c1 hE
    refine pm_ldc hG dX3_dispatch_19 (ctX3_62 _ rfl) ?_
    exact pm_iret hG hF dX3_dispatch_21 rfl (Nat.le_refl _) (Nat.le_refl _) (fx_ric hE)
  · replace hE := fx_t c1 hE
    refine pm_aloadn hG dX3_dispatch_8 rfl ?_
    refine pm_getf hG dX3_dispatch_9 (flX3_9 _ rfl) rfl rfl ?_
    refine pm_iloadn hG dX3_dispatch_12 rfl ?_
    refine pm_callV (As := [.int zb]) (rest := []) hG hR dX3_dispatch_13 (lkX3_59 _ rfl) okV_X7_isInTown rfl rfl (c_X7_isInTown (d := 2) (by decide) rfl) rfl rfl hdd (Nat.le_refl _) (Nat.le_refl _) (by decide) (fx_ki ?_)
    refine pm_if_ne (tgt := 22) hG dX3_dispatch_16 rfl (fun c2 => ?_) (fun c2 => ?_)
    · replace hE := fx_f c2 hE
      refine pm_aloadn hG dX3_dispatch_22 rfl ?_
      refine pm_getf hG dX3_dispatch_23 (flX3_9 _ rfl) rfl rfl ?_
      refine pm_getf hG dX3_dispatch_26 (flX3_32 _ rfl) rfl rfl ?_
      refine pm_iloadn hG dX3_dispatch_29 rfl ?_
      refine pm_iconst (v := 4) hG dX3_dispatch_30 (by decide) ?_
      refine pm_callV (As := [.int zb, .int 4]) (rest := []) hG hR dX3_dispatch_31 (lkX3_35 _ rfl) okV_X9_get rfl rfl (tget_6 (d := 2)) rfl rfl hdd (Nat.le_refl _) (Nat.le_refl _) (by decide) (fx_ki ?_)
      refine fx_letv hE (fun x3 hE => ?_)
      refine pm_istoreXn (loc' := [some (.ref (B + 36)), some (.int za), some (.int zb), some (.int x3), none]) hG dX3_dispatch_34 (by decide) (pm_c1b rfl) rfl ?_
      refine pm_aloadn hG dX3_dispatch_35 rfl ?_
      refine pm_getf hG dX3_dispatch_36 (flX3_9 _ rfl) rfl rfl ?_
      refine pm_aloadn hG dX3_dispatch_39 rfl ?_
      refine pm_getf hG dX3_dispatch_40 (flX3_29 _ rfl) rfl rfl ?_
      refine pm_iloadn hG dX3_dispatch_43 rfl ?_
      refine pm_iconst (v := 3) hG dX3_dispatch_44 (by decide) ?_
      refine pm_callV (As := [.int za, .int 3]) (rest := [.ref (B + 1)]) hG hR dX3_dispatch_45 (lkX3_35 _ rfl) okV_X9_get rfl rfl (tget_14 (d := 2)) rfl rfl hdd (Nat.le_refl _) (Nat.le_refl _) (by first | decide | exact Nat.le_of_ble_eq_true rfl) (fx_ki ?_)
      refine pm_iloadn hG dX3_dispatch_48 rfl ?_
      refine pm_callV (As := [.int (fG 14 40 12 S za 3), .int x3]) (rest := []) hG hR dX3_dispatch_49 (lkX3_78 _ rfl) okV_X7_wayBetween rfl rfl (c_X7_wayBetween (d := 2) (by decide) rfl) rfl rfl hdd (Nat.le_refl _) (Nat.le_refl _) (by decide) (fx_ki ?_)
      refine fx_letv hE (fun x4 hE => ?_)
      refine pm_istoreXi (loc' := [some (.ref (B + 36)), some (.int za), some (.int zb), some (.int x3), some (.int x4)]) hG dX3_dispatch_52 (by decide) (pm_c1b rfl) rfl ?_
      refine pm_iloadi hG dX3_dispatch_54 rfl ?_
      refine pm_if_ge (tgt := 62) hG dX3_dispatch_56 rfl (fun c5 => ?_) (fun c5 => ?_)
      · replace c5 := Int32.not_lt.mpr c5
        replace hE := fx_f c5 hE
        refine pm_aloadn hG dX3_dispatch_62 rfl ?_
        refine pm_getf hG dX3_dispatch_63 (flX3_29 _ rfl) rfl rfl ?_
        refine pm_iloadn hG dX3_dispatch_66 rfl ?_
        refine pm_bipush (v := 6) hG dX3_dispatch_67 (by decide) ?_
        refine pm_iloadn hG dX3_dispatch_69 rfl ?_
        refine pm_callV (As := [.int za, .int 6, .int zb]) (rest := []) hG hR dX3_dispatch_70 (lkX3_45 _ rfl) okV_X9_set rfl rfl (tset_14 (d := 2)) rfl rfl hdd (Nat.le_refl _) (Nat.le_refl _) (by decide) (fx_kv ?_)
        refine fx_letc hE (fun S6 hE => ?_)
        refine pm_aloadn hG dX3_dispatch_73 rfl ?_
        refine pm_getf hG dX3_dispatch_74 (flX3_29 _ rfl) rfl rfl ?_
        refine pm_iloadn hG dX3_dispatch_77 rfl ?_
        refine pm_bipush (v := 7) hG dX3_dispatch_78 (by decide) ?_
        refine pm_iloadn hG dX3_dispatch_80 rfl ?_
        refine pm_callV (As := [.int za, .int 7, .int x3]) (rest := []) hG hR dX3_dispatch_81 (lkX3_45 _ rfl) okV_X9_set rfl rfl (tset_14 (d := 2)) rfl rfl hdd (Nat.le_refl _) (Nat.le_refl _) (by decide) (fx_kv ?_)
        refine fx_letc hE (fun S7 hE => ?_)
        refine pm_aloadn hG dX3_dispatch_84 rfl ?_
        refine pm_getf hG dX3_dispatch_85 (flX3_29 _ rfl) rfl rfl ?_
        refine pm_iloadn hG dX3_dispatch_88 rfl ?_
        refine pm_bipush (v := 8) hG dX3_dispatch_89 (by decide) ?_
        refine pm_aloadn hG dX3_dispatch_91 rfl ?_
        refine pm_getf hG dX3_dispatch_92 (flX3_9 _ rfl) rfl rfl ?_
        refine pm_getf hG dX3_dispatch_95 (flX3_82 _ rfl) rfl rfl ?_
        refine pm_iloadi hG dX3_dispatch_98 rfl ?_
        refine pm_iadd hG dX3_dispatch_100 ?_
        refine pm_callV (As := [.int za, .int 8, .int ((S7.1 102) + x4)]) (rest := []) hG hR dX3_dispatch_101 (lkX3_45 _ rfl) okV_X9_set rfl rfl (tset_14 (d := 2)) rfl rfl hdd (Nat.le_refl _) (Nat.le_refl _) (by decide) (fx_kv ?_)
        refine fx_letc hE (fun S8 hE => ?_)
        refine pm_aloadn hG dX3_dispatch_104 rfl ?_
        refine pm_getf hG dX3_dispatch_105 (flX3_9 _ rfl) rfl rfl ?_
        refine pm_getf hG dX3_dispatch_108 (flX3_82 _ rfl) rfl rfl ?_
        refine pm_iloadi hG dX3_dispatch_111 rfl ?_
        refine pm_iadd hG dX3_dispatch_113 ?_
        exact pm_iret hG hF dX3_dispatch_114 rfl (Nat.le_refl _) (Nat.le_refl _) (fx_ric hE)
      · replace c5 := Int32.not_le.mp c5
        replace hE := fx_t c5 hE
        refine pm_ldc hG dX3_dispatch_59 (ctX3_81 _ rfl) ?_
        exact pm_iret hG hF dX3_dispatch_61 rfl (Nat.le_refl _) (Nat.le_refl _) (fx_ric hE)
    · replace hE := fx_t c2 hE
      refine pm_ldc hG dX3_dispatch_19 (ctX3_62 _ rfl) ?_
      exact pm_iret hG hF dX3_dispatch_21 rfl (Nat.le_refl _) (Nat.le_refl _) (fx_ric hE)

set_option maxRecDepth 100000 in
set_option maxHeartbeats 4000000 in
theorem c_X11_send {d : Nat} {B cnt : Nat} {kp : Value} {ρ : pm_S} {S : FS} {za : Int32} {zb : Int32} {R : Int32 × FS} (hdd : 4 ≤ d) (hE : f_X11_send S za zb = some R) : pm_met mX11_send d 0 0 B [.ref (B + 0), .int za, .int zb] cnt (cst B kp S ρ) (pm_Qi (fun v σ' cnt' => v = R.1 ∧ σ' = (cst B kp R.2 ρ) ∧ cnt' = cnt)) := by
  refine pm_enter 0 (by decide) (Nat.le_of_ble_eq_true rfl) rfl (fun G hG hR hF => ?_)
  unfold f_X11_send at hE
  refine pm_aloadn hG dX11_send_0 rfl ?_
  refine pm_getf hG dX11_send_1 (flX11_12 _ rfl) rfl rfl ?_
  refine pm_getf hG dX11_send_4 (flX11_224 _ rfl) rfl rfl ?_
  refine pm_iloadn hG dX11_send_7 rfl ?_
  refine pm_callV (As := [.int za]) (rest := []) hG hR dX11_send_8 (lkX11_101 _ rfl) okV_X9_has rfl rfl (thas_14 (d := 3)) rfl rfl hdd (Nat.le_refl _) (Nat.le_refl _) (by decide) (fx_ki ?_)
  refine pm_if_eq (tgt := 28) hG dX11_send_11 rfl (fun c1 => ?_) (fun c1 => ?_)
  · replace hE := fx_t c1 hE
    refine pm_aloadn hG dX11_send_28 rfl ?_
    refine pm_ldc hG dX11_send_29 (ctX11_109 _ rfl) ?_
    obtain ⟨r3, h2, hE⟩ := fb_some hE
    refine pm_callV (As := [.int (-1000001)]) (rest := []) hG hR dX11_send_31 (lkX11_97 _ rfl) okV_X11_told rfl rfl (c_X11_told (d := 3) (by decide) h2) rfl rfl hdd (Nat.le_refl _) (Nat.le_refl _) (by decide) (fx_ki ?_)
    exact pm_iret hG hF dX11_send_34 rfl (Nat.le_refl _) (Nat.le_refl _) (fx_ric hE)
  · replace hE := fx_f c1 hE
    refine pm_aloadn hG dX11_send_14 rfl ?_
    refine pm_getf hG dX11_send_15 (flX11_12 _ rfl) rfl rfl ?_
    refine pm_getf hG dX11_send_18 (flX11_128 _ rfl) rfl rfl ?_
    refine pm_iloadn hG dX11_send_21 rfl ?_
    refine pm_callV (As := [.int zb]) (rest := []) hG hR dX11_send_22 (lkX11_101 _ rfl) okV_X9_has rfl rfl (thas_6 (d := 3)) rfl rfl hdd (Nat.le_refl _) (Nat.le_refl _) (by decide) (fx_ki ?_)
    refine pm_if_ne (tgt := 35) hG dX11_send_25 rfl (fun c4 => ?_) (fun c4 => ?_)
    · replace hE := fx_f c4 hE
      refine pm_aloadn hG dX11_send_35 rfl ?_
      refine pm_aloadn hG dX11_send_36 rfl ?_
      refine pm_getf hG dX11_send_37 (flX11_39 _ rfl) rfl rfl ?_
      refine pm_iloadn hG dX11_send_40 rfl ?_
      refine pm_iloadn hG dX11_send_41 rfl ?_
      obtain ⟨r6, h5, hE⟩ := fb_some hE
      refine pm_callV (As := [.int za, .int zb]) (rest := [.ref (B + 0)]) hG hR dX11_send_42 (lkX11_236 _ rfl) okV_X3_dispatch rfl rfl (c_X3_dispatch (d := 3) (by decide) h5) rfl rfl hdd (Nat.le_refl _) (Nat.le_refl _) (by first | decide | exact Nat.le_of_ble_eq_true rfl) (fx_ki ?_)
      obtain ⟨r8, h7, hE⟩ := fb_some hE
      refine pm_callV (As := [.int r6.1]) (rest := []) hG hR dX11_send_45 (lkX11_97 _ rfl) okV_X11_told rfl rfl (c_X11_told (d := 3) (by decide) h7) rfl rfl hdd (Nat.le_refl _) (Nat.le_refl _) (by decide) (fx_ki ?_)
      exact pm_iret hG hF dX11_send_48 rfl (Nat.le_refl _) (Nat.le_refl _) (fx_ric hE)
    · replace hE := fx_t c4 hE
      refine pm_aloadn hG dX11_send_28 rfl ?_
      refine pm_ldc hG dX11_send_29 (ctX11_109 _ rfl) ?_
      obtain ⟨r10, h9, hE⟩ := fb_some hE
      refine pm_callV (As := [.int (-1000001)]) (rest := []) hG hR dX11_send_31 (lkX11_97 _ rfl) okV_X11_told rfl rfl (c_X11_told (d := 3) (by decide) h9) rfl rfl hdd (Nat.le_refl _) (Nat.le_refl _) (by decide) (fx_ki ?_)
      exact pm_iret hG hF dX11_send_34 rfl (Nat.le_refl _) (Nat.le_refl _) (fx_ric hE)

set_option maxRecDepth 100000 in
set_option maxHeartbeats 4000000 in
theorem c_X8_layOut {d : Nat} {B cnt : Nat} {kp : Value} {ρ : pm_S} {S : FS} {za : Int32} {zb : Int32} {zc : Int32} {R : Int32 × FS} (hdd : 1 ≤ d) (hE : f_X8_layOut S za zb zc = some R) : pm_met mX8_layOut d 0 0 B [.ref (B + 48), .int za, .int zb, .int zc] cnt (cst B kp S ρ) (pm_Qv (fun σ' cnt' => σ' = (cst B kp R.2 ρ) ∧ cnt' = cnt)) := by
  refine pm_enter 1 (by decide) (Nat.le_of_ble_eq_true rfl) rfl (fun G hG hR hF => ?_)
  unfold f_X8_layOut at hE
  have join36 : ∀ (S1 : FS), j_X8_layOut_36 za S1 = some R → pm_wp mX8_layOut G B 36 [some (.ref (B + 48)), some (.int za), some (.int zb), some (.int zc), none] [] 0 0 cnt (cst B kp S1 ρ) := by
    intro S1 hE
    unfold j_X8_layOut_36 at hE
    refine pm_iconst (v := 0) hG dX8_layOut_36 (by decide) ?_
    refine pm_istoreXi (loc' := [some (.ref (B + 48)), some (.int za), some (.int zb), some (.int zc), some (.int 0)]) hG dX8_layOut_37 (by decide) (pm_c1b rfl) rfl ?_
    have loop39 : ∀ (k39 : FS → Int32 → Option (Int32 × FS)), (∀ (S2 : FS) (x2_4 : Int32), k39 S2  x2_4 = some R → pm_wp mX8_layOut G B 63 [some (.ref (B + 48)), some (.int za), some (.int zb), some (.int zc), some (.int x2_4)] [] 0 0 cnt (cst B kp S2 ρ)) → ∀ (m39 : Nat) (S2 : FS) (x2_4 : Int32), l_X8_layOut_39 za k39 m39 S2  x2_4 = some R → pm_wp mX8_layOut G B 39 [some (.ref (B + 48)), some (.int za), some (.int zb), some (.int zc), some (.int x2_4)] [] 0 0 cnt (cst B kp S2 ρ) := by
      intro k39 hk39 m39
      induction m39 with
      | zero => intro S2  x2_4 hE; exact fx_no hE
      | succ m39 ih39 =>
        intro S2  x2_4 hE
        rw [l_X8_layOut_39] at hE
        refine pm_iloadi hG dX8_layOut_39 rfl ?_
        refine pm_bipush (v := 24) hG dX8_layOut_41 (by decide) ?_
        refine pm_icmp_ge (tgt := 63) hG dX8_layOut_43 rfl (fun c3 => ?_) (fun c3 => ?_)
        · replace c3 := Int32.not_lt.mpr c3
          replace hE := fx_f c3 hE
          exact hk39 _ _ hE
        · replace c3 := Int32.not_le.mp c3
          replace hE := fx_t c3 hE
          refine pm_aloadn hG dX8_layOut_46 rfl ?_
          refine pm_getf hG dX8_layOut_47 (flX8_23 _ rfl) rfl rfl ?_
          refine pm_iloadn hG dX8_layOut_50 rfl ?_
          refine pm_iloadi hG dX8_layOut_51 rfl ?_
          refine pm_iconst (v := 0) hG dX8_layOut_53 (by decide) ?_
          refine pm_callV (As := [.int za, .int x2_4, .int 0]) (rest := []) hG hR dX8_layOut_54 (lkX8_31 _ rfl) okV_X9_set rfl rfl (tset_51 (d := 0)) rfl rfl hdd (Nat.le_refl _) (Nat.le_refl _) (by decide) (fx_kv ?_)
          refine fx_letc hE (fun S4 hE => ?_)
          refine pm_iincX (v := x2_4 + 1) (loc' := [some (.ref (B + 48)), some (.int za), some (.int zb), some (.int zc), some (.int (x2_4 + 1))]) hG dX8_layOut_57 rfl (by rfl) (by decide) (pm_c1b rfl) rfl ?_
          refine pm_goto (tgt := 39) hG dX8_layOut_60 rfl ?_
          exact ih39 _ _ hE
    refine loop39 _ (fun S5 x5_4 hE => ?_) _ _ _ hE
    exact pm_vret hG hF dX8_layOut_63 rfl (Nat.le_refl _) (Nat.le_refl _) (fx_rvc hE)
  refine pm_iloadn hG dX8_layOut_0 rfl ?_
  refine pm_if_lt (tgt := 36) hG dX8_layOut_1 rfl (fun c6 => ?_) (fun c6 => ?_)
  · replace hE := fx_t c6 hE
    exact join36 _ hE
  · replace hE := fx_f c6 hE
    refine pm_iloadn hG dX8_layOut_4 rfl ?_
    refine pm_aloadn hG dX8_layOut_5 rfl ?_
    refine pm_getf hG dX8_layOut_6 (flX8_9 _ rfl) rfl rfl ?_
    refine pm_alen (v := 4) hG dX8_layOut_9 rfl (by decide) ?_
    refine pm_icmp_ge (tgt := 36) hG dX8_layOut_10 rfl (fun c7 => ?_) (fun c7 => ?_)
    · replace c7 := Int32.not_lt.mpr c7
      replace hE := fx_f c7 hE
      exact join36 _ hE
    · replace c7 := Int32.not_le.mp c7
      replace hE := fx_t c7 hE
      refine pm_iloadn hG dX8_layOut_13 rfl ?_
      refine pm_aloadn hG dX8_layOut_14 rfl ?_
      refine pm_getf hG dX8_layOut_15 (flX8_15 _ rfl) rfl rfl ?_
      refine pm_alen (v := 4) hG dX8_layOut_18 rfl (by decide) ?_
      refine pm_icmp_ge (tgt := 36) hG dX8_layOut_19 rfl (fun q => absurd c7 (Int32.not_lt.mpr q)) (fun _ => ?_)
      refine pm_aloadn hG dX8_layOut_22 rfl ?_
      refine pm_getf hG dX8_layOut_23 (flX8_9 _ rfl) rfl rfl ?_
      refine pm_iloadn hG dX8_layOut_26 rfl ?_
      refine pm_iloadn hG dX8_layOut_27 rfl ?_
      obtain ⟨j8, hj8, hE⟩ := fb_some hE
      refine fx_iast hG dX8_layOut_28 rfl hj8 ?_
      refine ca_49 ?_
      refine fx_letc hE (fun S9 hE => ?_)
      refine pm_aloadn hG dX8_layOut_29 rfl ?_
      refine pm_getf hG dX8_layOut_30 (flX8_15 _ rfl) rfl rfl ?_
      refine pm_iloadn hG dX8_layOut_33 rfl ?_
      refine pm_iloadn hG dX8_layOut_34 rfl ?_
      refine fx_iast hG dX8_layOut_35 rfl hj8 ?_
      refine ca_50 ?_
      refine fx_letc hE (fun S10 hE => ?_)
      exact join36 _ hE

set_option maxRecDepth 100000 in
set_option maxHeartbeats 4000000 in
theorem c_X11_sheet {d : Nat} {B cnt : Nat} {kp : Value} {ρ : pm_S} {S : FS} {za : Int32} {zb : Int32} {zc : Int32} {R : Int32 × FS} (hdd : 2 ≤ d) (hE : f_X11_sheet S za zb zc = some R) : pm_met mX11_sheet d 0 0 B [.ref (B + 0), .int za, .int zb, .int zc] cnt (cst B kp S ρ) (pm_Qi (fun v σ' cnt' => v = R.1 ∧ σ' = (cst B kp R.2 ρ) ∧ cnt' = cnt)) := by
  refine pm_enter 0 (by decide) (Nat.le_of_ble_eq_true rfl) rfl (fun G hG hR hF => ?_)
  unfold f_X11_sheet at hE
  refine pm_aloadn hG dX11_sheet_0 rfl ?_
  refine pm_getf hG dX11_sheet_1 (flX11_74 _ rfl) rfl rfl ?_
  refine pm_iloadn hG dX11_sheet_4 rfl ?_
  refine pm_callV (As := [.int za]) (rest := []) hG hR dX11_sheet_5 (lkX11_251 _ rfl) okV_X8_has rfl rfl (c_X8_has (d := 1) (by decide) rfl) rfl rfl hdd (Nat.le_refl _) (Nat.le_refl _) (by decide) (fx_ki ?_)
  refine pm_if_eq (tgt := 26) hG dX11_sheet_8 rfl (fun c1 => ?_) (fun c1 => ?_)
  · replace hE := fx_t c1 hE
    refine pm_aloadn hG dX11_sheet_26 rfl ?_
    refine pm_ldc hG dX11_sheet_27 (ctX11_109 _ rfl) ?_
    obtain ⟨r3, h2, hE⟩ := fb_some hE
    refine pm_callV (As := [.int (-1000001)]) (rest := []) hG hR dX11_sheet_29 (lkX11_97 _ rfl) okV_X11_told rfl rfl (c_X11_told (d := 1) (by decide) h2) rfl rfl hdd (Nat.le_refl _) (Nat.le_refl _) (by decide) (fx_ki ?_)
    exact pm_iret hG hF dX11_sheet_32 rfl (Nat.le_refl _) (Nat.le_refl _) (fx_ric hE)
  · replace hE := fx_f c1 hE
    refine pm_iloadn hG dX11_sheet_11 rfl ?_
    refine pm_if_eq (tgt := 33) hG dX11_sheet_12 rfl (fun c4 => ?_) (fun c4 => ?_)
    · replace hE := fx_t c4 hE
      refine pm_iloadn hG dX11_sheet_33 rfl ?_
      refine pm_if_eq (tgt := 48) hG dX11_sheet_34 rfl (fun _ => ?_) (fun q => absurd c4 q)
      refine pm_iloadn hG dX11_sheet_48 rfl ?_
      refine pm_if_eq (tgt := 65) hG dX11_sheet_49 rfl (fun _ => ?_) (fun q => absurd c4 q)
      refine pm_aloadn hG dX11_sheet_65 rfl ?_
      refine pm_getf hG dX11_sheet_66 (flX11_74 _ rfl) rfl rfl ?_
      refine pm_iloadn hG dX11_sheet_69 rfl ?_
      refine pm_iloadn hG dX11_sheet_70 rfl ?_
      refine pm_iloadn hG dX11_sheet_71 rfl ?_
      refine pm_if_ne (tgt := 79) hG dX11_sheet_72 rfl (fun q => absurd c4 q) (fun _ => ?_)
      refine pm_iconst (v := 0) hG dX11_sheet_75 (by decide) ?_
      refine pm_goto (tgt := 80) hG dX11_sheet_76 rfl ?_
      obtain ⟨r6, h5, hE⟩ := fb_some hE
      refine pm_callV (As := [.int za, .int zb, .int 0]) (rest := []) hG hR dX11_sheet_80 (lkX11_364 _ rfl) okV_X8_layOut rfl rfl (c_X8_layOut (d := 1) (by decide) h5) rfl rfl hdd (Nat.le_refl _) (Nat.le_refl _) (by decide) (fx_kv ?_)
      refine pm_iconst (v := 1) hG dX11_sheet_83 (by decide) ?_
      exact pm_iret hG hF dX11_sheet_84 rfl (Nat.le_refl _) (Nat.le_refl _) (fx_ric hE)
    · replace hE := fx_f c4 hE
      refine pm_aloadn hG dX11_sheet_15 rfl ?_
      refine pm_getf hG dX11_sheet_16 (flX11_74 _ rfl) rfl rfl ?_
      refine pm_iloadn hG dX11_sheet_19 rfl ?_
      refine pm_callV (As := [.int zb]) (rest := []) hG hR dX11_sheet_20 (lkX11_252 _ rfl) okV_X8_isWidth rfl rfl (c_X8_isWidth (d := 1) (by decide) rfl) rfl rfl hdd (Nat.le_refl _) (Nat.le_refl _) (by decide) (fx_ki ?_)
      refine pm_if_ne (tgt := 33) hG dX11_sheet_23 rfl (fun c7 => ?_) (fun c7 => ?_)
      · replace hE := fx_f c7 hE
        refine pm_iloadn hG dX11_sheet_33 rfl ?_
        refine pm_if_eq (tgt := 48) hG dX11_sheet_34 rfl (fun q => absurd q c4) (fun _ => ?_)
        refine pm_iloadn hG dX11_sheet_37 rfl ?_
        refine pm_if_ge (tgt := 48) hG dX11_sheet_38 rfl (fun c8 => ?_) (fun c8 => ?_)
        · replace c8 := Int32.not_lt.mpr c8
          replace hE := fx_f c8 hE
          refine pm_iloadn hG dX11_sheet_48 rfl ?_
          refine pm_if_eq (tgt := 65) hG dX11_sheet_49 rfl (fun q => absurd q c4) (fun _ => ?_)
          refine pm_iloadn hG dX11_sheet_52 rfl ?_
          refine pm_bipush (v := 24) hG dX11_sheet_53 (by decide) ?_
          refine pm_icmp_le (tgt := 65) hG dX11_sheet_55 rfl (fun c9 => ?_) (fun c9 => ?_)
          · replace c9 := Int32.not_lt.mpr c9
            replace hE := fx_f c9 hE
            refine pm_aloadn hG dX11_sheet_65 rfl ?_
            refine pm_getf hG dX11_sheet_66 (flX11_74 _ rfl) rfl rfl ?_
            refine pm_iloadn hG dX11_sheet_69 rfl ?_
            refine pm_iloadn hG dX11_sheet_70 rfl ?_
            refine pm_iloadn hG dX11_sheet_71 rfl ?_
            refine pm_if_ne (tgt := 79) hG dX11_sheet_72 rfl (fun _ => ?_) (fun q => absurd q c4)
            refine pm_iloadn hG dX11_sheet_79 rfl ?_
            obtain ⟨r11, h10, hE⟩ := fb_some hE
            refine pm_callV (As := [.int za, .int zb, .int zc]) (rest := []) hG hR dX11_sheet_80 (lkX11_364 _ rfl) okV_X8_layOut rfl rfl (c_X8_layOut (d := 1) (by decide) h10) rfl rfl hdd (Nat.le_refl _) (Nat.le_refl _) (by decide) (fx_kv ?_)
            refine pm_iconst (v := 1) hG dX11_sheet_83 (by decide) ?_
            exact pm_iret hG hF dX11_sheet_84 rfl (Nat.le_refl _) (Nat.le_refl _) (fx_ric hE)
          · replace c9 := Int32.not_le.mp c9
            replace hE := fx_t c9 hE
            refine pm_aloadn hG dX11_sheet_58 rfl ?_
            refine pm_ldc hG dX11_sheet_59 (ctX11_109 _ rfl) ?_
            obtain ⟨r13, h12, hE⟩ := fb_some hE
            refine pm_callV (As := [.int (-1000001)]) (rest := []) hG hR dX11_sheet_61 (lkX11_97 _ rfl) okV_X11_told rfl rfl (c_X11_told (d := 1) (by decide) h12) rfl rfl hdd (Nat.le_refl _) (Nat.le_refl _) (by decide) (fx_ki ?_)
            exact pm_iret hG hF dX11_sheet_64 rfl (Nat.le_refl _) (Nat.le_refl _) (fx_ric hE)
        · replace c8 := Int32.not_le.mp c8
          replace hE := fx_t c8 hE
          refine pm_aloadn hG dX11_sheet_41 rfl ?_
          refine pm_ldc hG dX11_sheet_42 (ctX11_138 _ rfl) ?_
          obtain ⟨r15, h14, hE⟩ := fb_some hE
          refine pm_callV (As := [.int (-1000003)]) (rest := []) hG hR dX11_sheet_44 (lkX11_97 _ rfl) okV_X11_told rfl rfl (c_X11_told (d := 1) (by decide) h14) rfl rfl hdd (Nat.le_refl _) (Nat.le_refl _) (by decide) (fx_ki ?_)
          exact pm_iret hG hF dX11_sheet_47 rfl (Nat.le_refl _) (Nat.le_refl _) (fx_ric hE)
      · replace hE := fx_t c7 hE
        refine pm_aloadn hG dX11_sheet_26 rfl ?_
        refine pm_ldc hG dX11_sheet_27 (ctX11_109 _ rfl) ?_
        obtain ⟨r17, h16, hE⟩ := fb_some hE
        refine pm_callV (As := [.int (-1000001)]) (rest := []) hG hR dX11_sheet_29 (lkX11_97 _ rfl) okV_X11_told rfl rfl (c_X11_told (d := 1) (by decide) h16) rfl rfl hdd (Nat.le_refl _) (Nat.le_refl _) (by decide) (fx_ki ?_)
        exact pm_iret hG hF dX11_sheet_32 rfl (Nat.le_refl _) (Nat.le_refl _) (fx_ric hE)

set_option maxRecDepth 100000 in
set_option maxHeartbeats 4000000 in
theorem c_X11_strike {d : Nat} {B cnt : Nat} {kp : Value} {ρ : pm_S} {S : FS} {za : Int32} {R : Int32 × FS} (hdd : 2 ≤ d) (hE : f_X11_strike S za = some R) : pm_met mX11_strike d 0 0 B [.ref (B + 0), .int za] cnt (cst B kp S ρ) (pm_Qi (fun v σ' cnt' => v = R.1 ∧ σ' = (cst B kp R.2 ρ) ∧ cnt' = cnt)) := by
  refine pm_enter 0 (by decide) (Nat.le_of_ble_eq_true rfl) rfl (fun G hG hR hF => ?_)
  unfold f_X11_strike at hE
  refine pm_aloadn hG dX11_strike_0 rfl ?_
  refine pm_getf hG dX11_strike_1 (flX11_12 _ rfl) rfl rfl ?_
  refine pm_getf hG dX11_strike_4 (flX11_209 _ rfl) rfl rfl ?_
  refine pm_iloadn hG dX11_strike_7 rfl ?_
  refine pm_callV (As := [.int za]) (rest := []) hG hR dX11_strike_8 (lkX11_101 _ rfl) okV_X9_has rfl rfl (thas_10 (d := 1)) rfl rfl hdd (Nat.le_refl _) (Nat.le_refl _) (by decide) (fx_ki ?_)
  refine pm_if_ne (tgt := 21) hG dX11_strike_11 rfl (fun c1 => ?_) (fun c1 => ?_)
  · replace hE := fx_f c1 hE
    refine pm_aloadn hG dX11_strike_21 rfl ?_
    refine pm_getf hG dX11_strike_22 (flX11_21 _ rfl) rfl rfl ?_
    refine pm_iloadn hG dX11_strike_25 rfl ?_
    refine pm_callV (As := [.int za]) (rest := []) hG hR dX11_strike_26 (lkX11_214 _ rfl) okV_X2_isStruck rfl rfl (c_X2_isStruck (d := 1) (by decide) rfl) rfl rfl hdd (Nat.le_refl _) (Nat.le_refl _) (by decide) (fx_ki ?_)
    refine pm_if_eq (tgt := 39) hG dX11_strike_29 rfl (fun c2 => ?_) (fun c2 => ?_)
    · replace hE := fx_t c2 hE
      refine pm_aloadn hG dX11_strike_39 rfl ?_
      refine pm_getf hG dX11_strike_40 (flX11_21 _ rfl) rfl rfl ?_
      refine pm_iloadn hG dX11_strike_43 rfl ?_
      obtain ⟨r4, h3, hE⟩ := fb_some hE
      refine pm_callV (As := [.int za]) (rest := []) hG hR dX11_strike_44 (lkX11_217 _ rfl) okV_X2_strikeOut rfl rfl (c_X2_strikeOut (d := 1) (by decide) h3) rfl rfl hdd (Nat.le_refl _) (Nat.le_refl _) (by decide) (fx_kv ?_)
      refine pm_iconst (v := 1) hG dX11_strike_47 (by decide) ?_
      exact pm_iret hG hF dX11_strike_48 rfl (Nat.le_refl _) (Nat.le_refl _) (fx_ric hE)
    · replace hE := fx_f c2 hE
      refine pm_aloadn hG dX11_strike_32 rfl ?_
      refine pm_ldc hG dX11_strike_33 (ctX11_138 _ rfl) ?_
      obtain ⟨r6, h5, hE⟩ := fb_some hE
      refine pm_callV (As := [.int (-1000003)]) (rest := []) hG hR dX11_strike_35 (lkX11_97 _ rfl) okV_X11_told rfl rfl (c_X11_told (d := 1) (by decide) h5) rfl rfl hdd (Nat.le_refl _) (Nat.le_refl _) (by decide) (fx_ki ?_)
      exact pm_iret hG hF dX11_strike_38 rfl (Nat.le_refl _) (Nat.le_refl _) (fx_ric hE)
  · replace hE := fx_t c1 hE
    refine pm_aloadn hG dX11_strike_14 rfl ?_
    refine pm_ldc hG dX11_strike_15 (ctX11_109 _ rfl) ?_
    obtain ⟨r8, h7, hE⟩ := fb_some hE
    refine pm_callV (As := [.int (-1000001)]) (rest := []) hG hR dX11_strike_17 (lkX11_97 _ rfl) okV_X11_told rfl rfl (c_X11_told (d := 1) (by decide) h7) rfl rfl hdd (Nat.le_refl _) (Nat.le_refl _) (by decide) (fx_ki ?_)
    exact pm_iret hG hF dX11_strike_20 rfl (Nat.le_refl _) (Nat.le_refl _) (fx_ric hE)

set_option maxRecDepth 100000 in
set_option maxHeartbeats 4000000 in
theorem c_X11_tell {d : Nat} {B cnt : Nat} {kp : Value} {ρ : pm_S} {S : FS} {za : Int32} {R : Int32 × FS} (hdd : 2 ≤ d) (hE : f_X11_tell S za = some R) : pm_met mX11_tell d 0 0 B [.ref (B + 0), .int za] cnt (cst B kp S ρ) (pm_Qi (fun v σ' cnt' => v = R.1 ∧ σ' = (cst B kp R.2 ρ) ∧ cnt' = cnt)) := by
  refine pm_enter 0 (by decide) (Nat.le_of_ble_eq_true rfl) rfl (fun G hG hR hF => ?_)
  unfold f_X11_tell at hE
  refine pm_aloadn hG dX11_tell_0 rfl ?_
  refine pm_getf hG dX11_tell_1 (flX11_12 _ rfl) rfl rfl ?_
  refine pm_getf hG dX11_tell_4 (flX11_386 _ rfl) rfl rfl ?_
  refine pm_callV (As := []) (rest := []) hG hR dX11_tell_7 (lkX11_86 _ rfl) okV_X9_isFull rfl rfl (tisFull_22 (d := 1)) rfl rfl hdd (Nat.le_refl _) (Nat.le_refl _) (by decide) (fx_ki ?_)
  refine pm_if_eq (tgt := 20) hG dX11_tell_10 rfl (fun c1 => ?_) (fun c1 => ?_)
  · replace hE := fx_t c1 hE
    refine pm_aloadn hG dX11_tell_20 rfl ?_
    refine pm_getf hG dX11_tell_21 (flX11_12 _ rfl) rfl rfl ?_
    refine pm_getf hG dX11_tell_24 (flX11_386 _ rfl) rfl rfl ?_
    refine pm_iloadn hG dX11_tell_27 rfl ?_
    obtain ⟨r3, h2, hE⟩ := fb_some hE
    refine pm_callV (As := [.int za]) (rest := []) hG hR dX11_tell_28 (lkX11_206 _ rfl) okV_X9_append rfl rfl (tappend_22 (d := 1) (by decide) h2) rfl rfl hdd (Nat.le_refl _) (Nat.le_refl _) (by decide) (fx_ki ?_)
    refine pm_pop hG dX11_tell_31 rfl ?_
    refine pm_aloadn hG dX11_tell_32 rfl ?_
    refine pm_getf hG dX11_tell_33 (flX11_12 _ rfl) rfl rfl ?_
    refine pm_getf hG dX11_tell_36 (flX11_386 _ rfl) rfl rfl ?_
    refine pm_callV (As := []) (rest := []) hG hR dX11_tell_39 (lkX11_203 _ rfl) okV_X9_used rfl rfl (tused_22 (d := 1)) rfl rfl hdd (Nat.le_refl _) (Nat.le_refl _) (by decide) (fx_ki ?_)
    exact pm_iret hG hF dX11_tell_42 rfl (Nat.le_refl _) (Nat.le_refl _) (fx_ric hE)
  · replace hE := fx_f c1 hE
    refine pm_aloadn hG dX11_tell_13 rfl ?_
    refine pm_ldc hG dX11_tell_14 (ctX11_92 _ rfl) ?_
    obtain ⟨r5, h4, hE⟩ := fb_some hE
    refine pm_callV (As := [.int (-1000004)]) (rest := []) hG hR dX11_tell_16 (lkX11_97 _ rfl) okV_X11_told rfl rfl (c_X11_told (d := 1) (by decide) h4) rfl rfl hdd (Nat.le_refl _) (Nat.le_refl _) (by decide) (fx_ki ?_)
    exact pm_iret hG hF dX11_tell_19 rfl (Nat.le_refl _) (Nat.le_refl _) (fx_ric hE)
