set_option maxRecDepth 100000 in
set_option maxHeartbeats 4000000 in
theorem c_X12_trace {d : Nat} {B cnt : Nat} {σ : pm_S} {S : FS} {za : Int32} {R : Int32 × FS} (hdd : 2 ≤ d) (hE : f_X12_trace S za = some R) : pm_met mX12_trace d 0 0 B [.ref (B + 54), .int za] cnt (mst B S σ) (pm_Qi (fun v σ' cnt' => v = R.1 ∧ σ' = (mst B R.2 σ) ∧ cnt' = cnt)) := by
  refine pm_enter 0 (by decide) (Nat.le_of_ble_eq_true rfl) rfl (fun G hG hR hF => ?_)
  unfold f_X12_trace at hE
  refine pm_iloadn hG dX12_trace_0 rfl ?_
  refine pm_iconst (v := 0) hG dX12_trace_1 (by decide) ?_
  refine pm_aloadn hG dX12_trace_2 rfl ?_
  refine pm_getf hG dX12_trace_3 (flX12_283 _ rfl) rfl rfl ?_
  refine pm_iconst (v := 1) hG dX12_trace_6 (by decide) ?_
  refine pm_isub hG dX12_trace_7 ?_
  refine pm_callS (As := [.int za, .int 0, .int ((S.1 22) - 1)]) (rest := []) hG hR dX12_trace_8 (lkX12_68 _ rfl) okS_X12_in (c_X12_in (d := 1) (by decide) rfl) rfl rfl hdd (Nat.le_refl _) (Nat.le_refl _) (by decide) (fx_ki ?_)
  refine pm_if_eq (tgt := 23) hG dX12_trace_11 rfl (fun c1 => ?_) (fun c1 => ?_)
  · replace hE := fx_t c1 hE
    refine pm_aloadn hG dX12_trace_23 rfl ?_
    refine pm_iconst (v := 2) hG dX12_trace_24 (by decide) ?_
    obtain ⟨r3, h2, hE⟩ := fb_some hE
    refine pm_callV (As := [.int 2]) (rest := []) hG hR dX12_trace_25 (lkX12_80 _ rfl) okV_X12_finds rfl rfl (c_X12_finds (d := 1) (by decide) h2) rfl rfl hdd (Nat.le_refl _) (Nat.le_refl _) (by decide) (fx_ki ?_)
    exact pm_iret hG hF dX12_trace_28 rfl (Nat.le_refl _) (Nat.le_refl _) (fx_rim hE)
  · replace hE := fx_f c1 hE
    refine pm_aloadn hG dX12_trace_14 rfl ?_
    refine pm_getf hG dX12_trace_15 (flX12_52 _ rfl) rfl rfl ?_
    refine pm_iloadn hG dX12_trace_18 rfl ?_
    obtain ⟨j4, hj4, hE⟩ := fb_some hE
    refine fx_iald hG dX12_trace_19 rfl hj4 ?_
    refine pm_goto (tgt := 28) hG dX12_trace_20 rfl ?_
    exact pm_iret hG hF dX12_trace_28 rfl (Nat.le_refl _) (Nat.le_refl _) (fx_rim hE)

set_option maxRecDepth 100000 in
set_option maxHeartbeats 4000000 in
theorem c_X12_voice {d : Nat} {B cnt : Nat} {σ : pm_S} {S : FS} {za : Int32} {zb : Int32} {zc : Int32} {R : Int32 × FS} (hdd : 10 ≤ d) (hE : f_X12_voice S za zb zc = some R) : pm_met mX12_voice d 0 0 B [.ref (B + 54), .int za, .int zb, .int zc] cnt (mst B S σ) (pm_Qi (fun v σ' cnt' => v = R.1 ∧ σ' = (mst B R.2 σ) ∧ cnt' = cnt)) := by
  refine pm_enter 0 (by decide) (Nat.le_of_ble_eq_true rfl) rfl (fun G hG hR hF => ?_)
  unfold f_X12_voice at hE
  refine pm_aloadn hG dX12_voice_0 rfl ?_
  refine pm_iloadn hG dX12_voice_1 rfl ?_
  refine pm_callV (As := [.int za]) (rest := []) hG hR dX12_voice_2 (lkX12_132 _ rfl) okV_X12_isPower rfl rfl (c_X12_isPower (d := 9) (by decide) rfl) rfl rfl hdd (Nat.le_refl _) (Nat.le_refl _) (by decide) (fx_ki ?_)
  refine pm_if_eq (tgt := 17) hG dX12_voice_5 rfl (fun c1 => ?_) (fun c1 => ?_)
  · replace hE := fx_t c1 hE
    refine pm_aloadn hG dX12_voice_17 rfl ?_
    refine pm_iconst (v := 1) hG dX12_voice_18 (by decide) ?_
    obtain ⟨r3, h2, hE⟩ := fb_some hE
    refine pm_callV (As := [.int 1]) (rest := []) hG hR dX12_voice_19 (lkX12_80 _ rfl) okV_X12_finds rfl rfl (c_X12_finds (d := 9) (by decide) h2) rfl rfl hdd (Nat.le_refl _) (Nat.le_refl _) (by decide) (fx_ki ?_)
    exact pm_iret hG hF dX12_voice_22 rfl (Nat.le_refl _) (Nat.le_refl _) (fx_rim hE)
  · replace hE := fx_f c1 hE
    refine pm_iloadn hG dX12_voice_8 rfl ?_
    refine pm_iconst (v := 0) hG dX12_voice_9 (by decide) ?_
    refine pm_iconst (v := 3) hG dX12_voice_10 (by decide) ?_
    refine pm_callS (As := [.int zb, .int 0, .int 3]) (rest := []) hG hR dX12_voice_11 (lkX12_68 _ rfl) okS_X12_in (c_X12_in (d := 9) (by decide) rfl) rfl rfl hdd (Nat.le_refl _) (Nat.le_refl _) (by decide) (fx_ki ?_)
    refine pm_if_ne (tgt := 23) hG dX12_voice_14 rfl (fun c4 => ?_) (fun c4 => ?_)
    · replace hE := fx_f c4 hE
      refine pm_aloadn hG dX12_voice_23 rfl ?_
      refine pm_iconst (v := 0) hG dX12_voice_24 (by decide) ?_
      refine pm_putf hG dX12_voice_25 (fwX12_283 _ rfl) rfl rfl rfl ?_
      refine mi_22 ?_
      refine fx_letm hE (fun S5 hE => ?_)
      refine pm_iloadn hG dX12_voice_28 rfl ?_
      by_cases c6 : zb = 0
      · replace hE := fx_t c6 hE
        refine pm_top (v := 0) c6 ?_
        refine pm_tswIn (tgt := 56) hG dX12_voice_29 (by decide) (by decide) rfl rfl ?_
        refine pm_aloadn hG dX12_voice_56 rfl ?_
        refine pm_iloadn hG dX12_voice_57 rfl ?_
        refine pm_iloadn hG dX12_voice_58 rfl ?_
        obtain ⟨r8, h7, hE⟩ := fb_some hE
        refine pm_callV (As := [.int za, .int zc]) (rest := []) hG hR dX12_voice_59 (lkX12_295 _ rfl) okV_X12_actsOf rfl rfl (c_X12_actsOf (d := 9) (by decide) h7) rfl rfl hdd (Nat.le_refl _) (Nat.le_refl _) (by decide) (fx_ki ?_)
        exact pm_iret hG hF dX12_voice_62 rfl (Nat.le_refl _) (Nat.le_refl _) (fx_rim hE)
      replace hE := fx_f c6 hE
      by_cases c9 : zb = 1
      · replace hE := fx_t c9 hE
        refine pm_top (v := 1) c9 ?_
        refine pm_tswIn (tgt := 63) hG dX12_voice_29 (by decide) (by decide) rfl rfl ?_
        refine pm_aloadn hG dX12_voice_63 rfl ?_
        refine pm_iloadn hG dX12_voice_64 rfl ?_
        refine pm_iloadn hG dX12_voice_65 rfl ?_
        obtain ⟨r11, h10, hE⟩ := fb_some hE
        refine pm_callV (As := [.int za, .int zc]) (rest := []) hG hR dX12_voice_66 (lkX12_304 _ rfl) okV_X12_bindsOf rfl rfl (c_X12_bindsOf (d := 9) (by decide) h10) rfl rfl hdd (Nat.le_refl _) (Nat.le_refl _) (by decide) (fx_ki ?_)
        exact pm_iret hG hF dX12_voice_69 rfl (Nat.le_refl _) (Nat.le_refl _) (fx_rim hE)
      replace hE := fx_f c9 hE
      by_cases c12 : zb = 2
      · replace hE := fx_t c12 hE
        refine pm_top (v := 2) c12 ?_
        refine pm_tswIn (tgt := 70) hG dX12_voice_29 (by decide) (by decide) rfl rfl ?_
        refine pm_aloadn hG dX12_voice_70 rfl ?_
        refine pm_iloadn hG dX12_voice_71 rfl ?_
        refine pm_iloadn hG dX12_voice_72 rfl ?_
        obtain ⟨r14, h13, hE⟩ := fb_some hE
        refine pm_callV (As := [.int za, .int zc]) (rest := []) hG hR dX12_voice_73 (lkX12_307 _ rfl) okV_X12_ranksOf rfl rfl (c_X12_ranksOf (d := 9) (by decide) h13) rfl rfl hdd (Nat.le_refl _) (Nat.le_refl _) (by decide) (fx_ki ?_)
        exact pm_iret hG hF dX12_voice_76 rfl (Nat.le_refl _) (Nat.le_refl _) (fx_rim hE)
      replace hE := fx_f c12 hE
      have tc6 : ¬ zb.toInt = 0 := fun q => c6 (Int32.toInt_inj.mp q)
      have tc9 : ¬ zb.toInt = 1 := fun q => c9 (Int32.toInt_inj.mp q)
      have tc12 : ¬ zb.toInt = 2 := fun q => c12 (Int32.toInt_inj.mp q)
      refine pm_tswOut (tgt := 77) hG dX12_voice_29 (by omega) rfl ?_
      refine pm_aloadn hG dX12_voice_77 rfl ?_
      refine pm_iloadn hG dX12_voice_78 rfl ?_
      refine pm_iloadn hG dX12_voice_79 rfl ?_
      obtain ⟨r16, h15, hE⟩ := fb_some hE
      refine pm_callV (As := [.int za, .int zc]) (rest := []) hG hR dX12_voice_80 (lkX12_316 _ rfl) okV_X12_tellsOf rfl rfl (c_X12_tellsOf (d := 9) (by decide) h15) rfl rfl hdd (Nat.le_refl _) (Nat.le_refl _) (by decide) (fx_ki ?_)
      exact pm_iret hG hF dX12_voice_83 rfl (Nat.le_refl _) (Nat.le_refl _) (fx_rim hE)
    · replace hE := fx_t c4 hE
      refine pm_aloadn hG dX12_voice_17 rfl ?_
      refine pm_iconst (v := 1) hG dX12_voice_18 (by decide) ?_
      obtain ⟨r18, h17, hE⟩ := fb_some hE
      refine pm_callV (As := [.int 1]) (rest := []) hG hR dX12_voice_19 (lkX12_80 _ rfl) okV_X12_finds rfl rfl (c_X12_finds (d := 9) (by decide) h17) rfl rfl hdd (Nat.le_refl _) (Nat.le_refl _) (by decide) (fx_ki ?_)
      exact pm_iret hG hF dX12_voice_22 rfl (Nat.le_refl _) (Nat.le_refl _) (fx_rim hE)
