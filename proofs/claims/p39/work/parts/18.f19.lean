set_option maxRecDepth 100000 in
set_option maxHeartbeats 4000000 in
theorem c_X7_addTown {d : Nat} {B cnt : Nat} {kp : Value} {ρ : pm_S} {S : FS} {R : Int32 × FS} (hdd : 2 ≤ d) (hE : f_X7_addTown S = some R) : pm_met mX7_addTown d 0 0 B [.ref (B + 1)] cnt (cst B kp S ρ) (pm_Qi (fun v σ' cnt' => v = R.1 ∧ σ' = (cst B kp R.2 ρ) ∧ cnt' = cnt)) := by
  refine pm_enter 1 (by decide) (Nat.le_of_ble_eq_true rfl) rfl (fun G hG hR hF => ?_)
  unfold f_X7_addTown at hE
  refine pm_aloadn hG dX7_addTown_0 rfl ?_
  refine pm_getf hG dX7_addTown_1 (flX7_14 _ rfl) rfl rfl ?_
  refine pm_iconst (v := 0) hG dX7_addTown_4 (by decide) ?_
  obtain ⟨r2, h1, hE⟩ := fb_some hE
  refine pm_callV (As := [.int 0]) (rest := []) hG hR dX7_addTown_5 (lkX7_75 _ rfl) okV_X9_append rfl rfl (tappend_2 (d := 1) (by decide) h1) rfl rfl hdd (Nat.le_refl _) (Nat.le_refl _) (by decide) (fx_ki ?_)
  refine pm_istoreXn (loc' := [some (.ref (B + 1)), some (.int r2.1)]) hG dX7_addTown_8 (by decide) (pm_c1b rfl) rfl ?_
  refine pm_aloadn hG dX7_addTown_9 rfl ?_
  refine pm_getf hG dX7_addTown_10 (flX7_14 _ rfl) rfl rfl ?_
  refine pm_iloadn hG dX7_addTown_13 rfl ?_
  refine pm_iconst (v := 1) hG dX7_addTown_14 (by decide) ?_
  refine pm_iconst (v := (-1)) hG dX7_addTown_15 (by decide) ?_
  refine pm_callV (As := [.int r2.1, .int 1, .int (-1)]) (rest := []) hG hR dX7_addTown_16 (lkX7_61 _ rfl) okV_X9_set rfl rfl (tset_2 (d := 1)) rfl rfl hdd (Nat.le_refl _) (Nat.le_refl _) (by decide) (fx_kv ?_)
  refine fx_letc hE (fun S3 hE => ?_)
  refine pm_iloadn hG dX7_addTown_19 rfl ?_
  exact pm_iret hG hF dX7_addTown_20 rfl (Nat.le_refl _) (Nat.le_refl _) (fx_ric hE)

set_option maxRecDepth 100000 in
set_option maxHeartbeats 4000000 in
theorem c_X11_town {d : Nat} {B cnt : Nat} {kp : Value} {ρ : pm_S} {S : FS} {R : Int32 × FS} (hdd : 3 ≤ d) (hE : f_X11_town S = some R) : pm_met mX11_town d 0 0 B [.ref (B + 0)] cnt (cst B kp S ρ) (pm_Qi (fun v σ' cnt' => v = R.1 ∧ σ' = (cst B kp R.2 ρ) ∧ cnt' = cnt)) := by
  refine pm_enter 0 (by decide) (Nat.le_of_ble_eq_true rfl) rfl (fun G hG hR hF => ?_)
  unfold f_X11_town at hE
  refine pm_aloadn hG dX11_town_0 rfl ?_
  refine pm_aloadn hG dX11_town_1 rfl ?_
  refine pm_getf hG dX11_town_2 (flX11_12 _ rfl) rfl rfl ?_
  refine pm_getf hG dX11_town_5 (flX11_82 _ rfl) rfl rfl ?_
  refine pm_callV (As := []) (rest := [.ref (B + 0)]) hG hR dX11_town_8 (lkX11_86 _ rfl) okV_X9_isFull rfl rfl (tisFull_2 (d := 2)) rfl rfl hdd (Nat.le_refl _) (Nat.le_refl _) (by first | decide | exact Nat.le_of_ble_eq_true rfl) (fx_ki ?_)
  refine pm_if_eq (tgt := 19) hG dX11_town_11 rfl (fun c1 => ?_) (fun c1 => ?_)
  · replace hE := fx_t c1 hE
    refine pm_aloadn hG dX11_town_19 rfl ?_
    refine pm_getf hG dX11_town_20 (flX11_12 _ rfl) rfl rfl ?_
    obtain ⟨r3, h2, hE⟩ := fb_some hE
    refine pm_callV (As := []) (rest := [.ref (B + 0)]) hG hR dX11_town_23 (lkX11_93 _ rfl) okV_X7_addTown rfl rfl (c_X7_addTown (d := 2) (by decide) h2) rfl rfl hdd (Nat.le_refl _) (Nat.le_refl _) (by first | decide | exact Nat.le_of_ble_eq_true rfl) (fx_ki ?_)
    obtain ⟨r5, h4, hE⟩ := fb_some hE
    refine pm_callV (As := [.int r3.1]) (rest := []) hG hR dX11_town_26 (lkX11_97 _ rfl) okV_X11_told rfl rfl (c_X11_told (d := 2) (by decide) h4) rfl rfl hdd (Nat.le_refl _) (Nat.le_refl _) (by decide) (fx_ki ?_)
    exact pm_iret hG hF dX11_town_29 rfl (Nat.le_refl _) (Nat.le_refl _) (fx_ric hE)
  · replace hE := fx_f c1 hE
    refine pm_ldc hG dX11_town_14 (ctX11_92 _ rfl) ?_
    refine pm_goto (tgt := 26) hG dX11_town_16 rfl ?_
    obtain ⟨r7, h6, hE⟩ := fb_some hE
    refine pm_callV (As := [.int (-1000004)]) (rest := []) hG hR dX11_town_26 (lkX11_97 _ rfl) okV_X11_told rfl rfl (c_X11_told (d := 2) (by decide) h6) rfl rfl hdd (Nat.le_refl _) (Nat.le_refl _) (by decide) (fx_ki ?_)
    exact pm_iret hG hF dX11_town_29 rfl (Nat.le_refl _) (Nat.le_refl _) (fx_ric hE)

set_option maxRecDepth 100000 in
set_option maxHeartbeats 4000000 in
theorem c_X11_trace {d : Nat} {B cnt : Nat} {kp : Value} {ρ : pm_S} {S : FS} {za : Int32} {R : Int32 × FS} (hdd : 2 ≤ d) (hE : f_X11_trace S za = some R) : pm_met mX11_trace d 0 0 B [.ref (B + 0), .int za] cnt (cst B kp S ρ) (pm_Qi (fun v σ' cnt' => v = R.1 ∧ σ' = (cst B kp R.2 ρ) ∧ cnt' = cnt)) := by
  refine pm_enter 0 (by decide) (Nat.le_of_ble_eq_true rfl) rfl (fun G hG hR hF => ?_)
  unfold f_X11_trace at hE
  refine pm_aloadn hG dX11_trace_0 rfl ?_
  refine pm_iloadn hG dX11_trace_1 rfl ?_
  refine pm_if_lt (tgt := 27) hG dX11_trace_2 rfl (fun c1 => ?_) (fun c1 => ?_)
  · replace hE := fx_t c1 hE
    refine pm_ldc hG dX11_trace_27 (ctX11_223 _ rfl) ?_
    obtain ⟨r3, h2, hE⟩ := fb_some hE
    refine pm_callV (As := [.int (-1000002)]) (rest := []) hG hR dX11_trace_29 (lkX11_97 _ rfl) okV_X11_told rfl rfl (c_X11_told (d := 1) (by decide) h2) rfl rfl hdd (Nat.le_refl _) (Nat.le_refl _) (by decide) (fx_ki ?_)
    exact pm_iret hG hF dX11_trace_32 rfl (Nat.le_refl _) (Nat.le_refl _) (fx_ric hE)
  · replace hE := fx_f c1 hE
    refine pm_iloadn hG dX11_trace_5 rfl ?_
    refine pm_aloadn hG dX11_trace_6 rfl ?_
    refine pm_getf hG dX11_trace_7 (flX11_67 _ rfl) rfl rfl ?_
    refine pm_getf hG dX11_trace_10 (flX11_358 _ rfl) rfl rfl ?_
    refine pm_icmp_ge (tgt := 27) hG dX11_trace_13 rfl (fun c4 => ?_) (fun c4 => ?_)
    · replace c4 := Int32.not_lt.mpr c4
      replace hE := fx_f c4 hE
      refine pm_ldc hG dX11_trace_27 (ctX11_223 _ rfl) ?_
      obtain ⟨r6, h5, hE⟩ := fb_some hE
      refine pm_callV (As := [.int (-1000002)]) (rest := []) hG hR dX11_trace_29 (lkX11_97 _ rfl) okV_X11_told rfl rfl (c_X11_told (d := 1) (by decide) h5) rfl rfl hdd (Nat.le_refl _) (Nat.le_refl _) (by decide) (fx_ki ?_)
      exact pm_iret hG hF dX11_trace_32 rfl (Nat.le_refl _) (Nat.le_refl _) (fx_ric hE)
    · replace c4 := Int32.not_le.mp c4
      replace hE := fx_t c4 hE
      refine pm_aloadn hG dX11_trace_16 rfl ?_
      refine pm_getf hG dX11_trace_17 (flX11_67 _ rfl) rfl rfl ?_
      refine pm_iloadn hG dX11_trace_20 rfl ?_
      obtain ⟨x8, h7, hE⟩ := fb_some hE
      refine pm_callV (As := [.int za]) (rest := [.ref (B + 0)]) hG hR dX11_trace_21 (lkX11_361 _ rfl) okV_X10_bodyAt rfl rfl (c_X10_bodyAt (d := 1) (by decide) h7) rfl rfl hdd (Nat.le_refl _) (Nat.le_refl _) (by first | decide | exact Nat.le_of_ble_eq_true rfl) (fx_ki ?_)
      refine pm_goto (tgt := 29) hG dX11_trace_24 rfl ?_
      obtain ⟨r10, h9, hE⟩ := fb_some hE
      refine pm_callV (As := [.int x8]) (rest := []) hG hR dX11_trace_29 (lkX11_97 _ rfl) okV_X11_told rfl rfl (c_X11_told (d := 1) (by decide) h9) rfl rfl hdd (Nat.le_refl _) (Nat.le_refl _) (by decide) (fx_ki ?_)
      exact pm_iret hG hF dX11_trace_32 rfl (Nat.le_refl _) (Nat.le_refl _) (fx_ric hE)

set_option maxRecDepth 100000 in
set_option maxHeartbeats 4000000 in
theorem c_X11_voice {d : Nat} {B cnt : Nat} {kp : Value} {ρ : pm_S} {S : FS} {za : Int32} {zb : Int32} {zc : Int32} {R : Int32 × FS} (hdd : 11 ≤ d) (hE : f_X11_voice S za zb zc = some R) : pm_met mX11_voice d 0 0 B [.ref (B + 0), .int za, .int zb, .int zc] cnt (cst B kp S ρ) (pm_Qi (fun v σ' cnt' => v = R.1 ∧ σ' = (cst B kp R.2 ρ) ∧ cnt' = cnt)) := by
  refine pm_enter 0 (by decide) (Nat.le_of_ble_eq_true rfl) rfl (fun G hG hR hF => ?_)
  unfold f_X11_voice at hE
  refine pm_aloadn hG dX11_voice_0 rfl ?_
  refine pm_getf hG dX11_voice_1 (flX11_12 _ rfl) rfl rfl ?_
  refine pm_getf hG dX11_voice_4 (flX11_161 _ rfl) rfl rfl ?_
  refine pm_iloadn hG dX11_voice_7 rfl ?_
  refine pm_callV (As := [.int za]) (rest := []) hG hR dX11_voice_8 (lkX11_101 _ rfl) okV_X9_has rfl rfl (thas_8 (d := 10)) rfl rfl hdd (Nat.le_refl _) (Nat.le_refl _) (by decide) (fx_ki ?_)
  refine pm_if_eq (tgt := 23) hG dX11_voice_11 rfl (fun c1 => ?_) (fun c1 => ?_)
  · replace hE := fx_t c1 hE
    refine pm_aloadn hG dX11_voice_23 rfl ?_
    refine pm_ldc hG dX11_voice_24 (ctX11_109 _ rfl) ?_
    obtain ⟨r3, h2, hE⟩ := fb_some hE
    refine pm_callV (As := [.int (-1000001)]) (rest := []) hG hR dX11_voice_26 (lkX11_97 _ rfl) okV_X11_told rfl rfl (c_X11_told (d := 10) (by decide) h2) rfl rfl hdd (Nat.le_refl _) (Nat.le_refl _) (by decide) (fx_ki ?_)
    exact pm_iret hG hF dX11_voice_29 rfl (Nat.le_refl _) (Nat.le_refl _) (fx_ric hE)
  · replace hE := fx_f c1 hE
    refine pm_iloadn hG dX11_voice_14 rfl ?_
    refine pm_iconst (v := 0) hG dX11_voice_15 (by decide) ?_
    refine pm_iconst (v := 3) hG dX11_voice_16 (by decide) ?_
    refine pm_callS (As := [.int zb, .int 0, .int 3]) (rest := []) hG hR dX11_voice_17 (lkX11_105 _ rfl) okS_X11_isOutside (tOut (d := 10)) rfl rfl hdd (Nat.le_refl _) (Nat.le_refl _) (by decide) (fx_ki ?_)
    refine pm_if_eq (tgt := 30) hG dX11_voice_20 rfl (fun c4 => ?_) (fun c4 => ?_)
    · replace hE := fx_t c4 hE
      refine pm_aloadn hG dX11_voice_30 rfl ?_
      refine pm_getf hG dX11_voice_31 (flX11_67 _ rfl) rfl rfl ?_
      refine pm_aloadn hG dX11_voice_34 rfl ?_
      refine pm_getf hG dX11_voice_35 (flX11_12 _ rfl) rfl rfl ?_
      refine pm_getf hG dX11_voice_38 (flX11_161 _ rfl) rfl rfl ?_
      refine pm_iloadn hG dX11_voice_41 rfl ?_
      refine pm_iconst (v := 0) hG dX11_voice_42 (by decide) ?_
      refine pm_callV (As := [.int za, .int 0]) (rest := [.ref (B + 46)]) hG hR dX11_voice_43 (lkX11_152 _ rfl) okV_X9_get rfl rfl (tget_8 (d := 10)) rfl rfl hdd (Nat.le_refl _) (Nat.le_refl _) (by first | decide | exact Nat.le_of_ble_eq_true rfl) (fx_ki ?_)
      refine pm_iloadn hG dX11_voice_46 rfl ?_
      refine pm_aloadn hG dX11_voice_47 rfl ?_
      refine pm_getf hG dX11_voice_48 (flX11_12 _ rfl) rfl rfl ?_
      refine pm_getf hG dX11_voice_51 (flX11_161 _ rfl) rfl rfl ?_
      refine pm_iloadn hG dX11_voice_54 rfl ?_
      refine pm_iconst (v := 1) hG dX11_voice_55 (by decide) ?_
      refine pm_callV (As := [.int za, .int 1]) (rest := [.int za, .int (fG 8 20 6 S za 0), .ref (B + 46)]) hG hR dX11_voice_56 (lkX11_152 _ rfl) okV_X9_get rfl rfl (tget_8 (d := 10)) rfl rfl hdd (Nat.le_refl _) (Nat.le_refl _) (by first | decide | exact Nat.le_of_ble_eq_true rfl) (fx_ki ?_)
      obtain ⟨r6, h5, hE⟩ := fb_some hE
      refine pm_callV (As := [.int (fG 8 20 6 S za 0), .int za, .int (fG 8 20 6 S za 1)]) (rest := []) hG hR dX11_voice_59 (lkX11_353 _ rfl) okV_X10_begin rfl rfl (c_X10_begin (d := 10) (by decide) h5) rfl rfl hdd (Nat.le_refl _) (Nat.le_refl _) (by decide) (fx_kv ?_)
      refine pm_aloadn hG dX11_voice_62 rfl ?_
      refine pm_getf hG dX11_voice_63 (flX11_67 _ rfl) rfl rfl ?_
      refine pm_iloadn hG dX11_voice_66 rfl ?_
      refine pm_iloadn hG dX11_voice_67 rfl ?_
      obtain ⟨r8, h7, hE⟩ := fb_some hE
      refine pm_callV (As := [.int zb, .int zc]) (rest := []) hG hR dX11_voice_68 (lkX11_355 _ rfl) okV_X10_speak rfl rfl (c_X10_speak (d := 10) (by decide) h7) rfl rfl hdd (Nat.le_refl _) (Nat.le_refl _) (by decide) (fx_ki ?_)
      exact pm_iret hG hF dX11_voice_71 rfl (Nat.le_refl _) (Nat.le_refl _) (fx_ric hE)
    · replace hE := fx_f c4 hE
      refine pm_aloadn hG dX11_voice_23 rfl ?_
      refine pm_ldc hG dX11_voice_24 (ctX11_109 _ rfl) ?_
      obtain ⟨r10, h9, hE⟩ := fb_some hE
      refine pm_callV (As := [.int (-1000001)]) (rest := []) hG hR dX11_voice_26 (lkX11_97 _ rfl) okV_X11_told rfl rfl (c_X11_told (d := 10) (by decide) h9) rfl rfl hdd (Nat.le_refl _) (Nat.le_refl _) (by decide) (fx_ki ?_)
      exact pm_iret hG hF dX11_voice_29 rfl (Nat.le_refl _) (Nat.le_refl _) (fx_ric hE)
