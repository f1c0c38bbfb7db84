set_option maxRecDepth 100000 in
set_option maxHeartbeats 4000000 in
theorem m_trace {d B cnt p0 t0 : Nat} {σ : pm_S} {I : Nat → Int32} {A : Nat → Nat → Int32} {n k z : Nat → Int32} {ac wt pl im : Int32} {za : Int32} (hdd : 2 ≤ d) (hn : KI n) (hz : SZ z) (ht0 : t0 ≤ 40)  : pm_met mX12_trace d 0 0 B [.ref (B + 54), .int za] cnt (pm_mid σ (md_L B I A n k z ac wt pl (nI p0) (nI t0) im)) (pm_Qi (fun v σ' cnt' => (∃ (I' : Nat → Int32) (A' : Nat → Nat → Int32), σ' = pm_mid σ (md_L B I' A' n k z ac wt pl (nI p0) (nI t0) im)) ∧ cnt = cnt')) := by
  refine pm_enter 0 (by decide) (Nat.le_of_ble_eq_true rfl) rfl (fun G hG hR hF => ?_)
  refine pm_iloadn hG dX12_trace_0 rfl ?_
  refine pm_iconst (v := nI 0) hG dX12_trace_1 (by decide) ?_
  refine pm_aloadn hG dX12_trace_2 rfl ?_
  refine pm_getf hG dX12_trace_3 (flX12_283 _ rfl) rfl rfl ?_
  refine pm_iconst (v := nI 1) hG dX12_trace_6 (by decide) ?_
  refine pm_isub hG dX12_trace_7 ?_
  refine pm_callS (As := [.int za, .int (nI 0), .int ((nI t0) - (nI 1))]) (rest := []) hG hR dX12_trace_8 (lkX12_68 _ rfl) okS_X12_in (m_in (d := 1)) rfl rfl hdd (Nat.le_refl _) (Nat.le_refl _) (by decide) (pm_ki (fun v1 σ' cnt' hq => ?_))
  obtain ⟨hq, rfl, rfl⟩ := hq
  rcases hq with ⟨rfl, ac2, bc2⟩ | ⟨rfl, c2⟩
  · obtain ⟨k3, hk3, ek3⟩ := in_cnt (c := t0) (by omega) ac2 bc2
    refine pm_ifN_eq (tgt := 23) hG dX12_trace_11 rfl (by omega) (fun q => absurd q (by omega)) (fun _ => ?_)
    refine pm_aloadn hG dX12_trace_14 rfl ?_
    refine pm_getf hG dX12_trace_15 (flX12_52 _ rfl) rfl rfl ?_
    refine pm_iloadn hG dX12_trace_18 rfl ?_
    refine pm_top (v := nI k3) ek3 ?_
    refine pm_ialdN hG dX12_trace_19 rfl (by decide) (by omega) ?_
    refine pm_any (fun x4 => ?_)
    refine pm_goto (tgt := 28) hG dX12_trace_20 rfl ?_
    exact pm_iret hG hF dX12_trace_28 rfl (Nat.le_refl _) (Nat.le_refl _) ⟨_, rfl, ⟨_, _, rfl⟩, rfl⟩
  · refine pm_ifN_eq (tgt := 23) hG dX12_trace_11 rfl (by omega) (fun _ => ?_) (fun q => absurd q (by omega))
    refine pm_aloadn hG dX12_trace_23 rfl ?_
    refine pm_iconst (v := nI 2) hG dX12_trace_24 (by decide) ?_
    refine pm_callV (As := [.int (nI 2)]) (rest := []) hG hR dX12_trace_25 (lkX12_80 _ rfl) okV_X12_finds rfl rfl (m_finds (d := 1) (by decide) hn hz (by omega)) rfl rfl hdd (Nat.le_refl _) (Nat.le_refl _) (by decide) (pm_ki (fun v5 σ' cnt' hq => ?_))
    obtain ⟨⟨I6, A6, rfl⟩, rfl, fv5⟩ := hq
    exact pm_iret hG hF dX12_trace_28 rfl (Nat.le_refl _) (Nat.le_refl _) ⟨_, rfl, ⟨_, _, rfl⟩, rfl⟩

set_option maxRecDepth 100000 in
set_option maxHeartbeats 4000000 in
theorem m_voice {d B cnt p0 t0 : Nat} {σ : pm_S} {I : Nat → Int32} {A : Nat → Nat → Int32} {n k z : Nat → Int32} {ac wt pl im : Int32} {za zb zc : Int32} (hdd : 10 ≤ d) (hn : KI n) (hz : SZ z) (ht0 : t0 ≤ 40)  : pm_met mX12_voice d 0 0 B [.ref (B + 54), .int za, .int zb, .int zc] cnt (pm_mid σ (md_L B I A n k z ac wt pl (nI p0) (nI t0) im)) (pm_Qi (fun v σ' cnt' => (∃ (I' : Nat → Int32) (A' : Nat → Nat → Int32) (t0' : Nat), σ' = pm_mid σ (md_L B I' A' n k z ac wt pl (nI p0) (nI t0') im) ∧ t0' ≤ 40) ∧ cnt = cnt')) := by
  refine pm_enter 0 (by decide) (Nat.le_of_ble_eq_true rfl) rfl (fun G hG hR hF => ?_)
  refine pm_aloadn hG dX12_voice_0 rfl ?_
  refine pm_iloadn hG dX12_voice_1 rfl ?_
  obtain ⟨k1, hk1, ek1⟩ := KI.nat hn (show kd 3 = (1, 21, false) by decide)
  refine pm_callV (As := [.int za]) (rest := []) hG hR dX12_voice_2 (lkX12_132 _ rfl) okV_X12_isPower rfl rfl (m_isPower (d := 9) (by decide) ek1 (by omega)) rfl rfl hdd (Nat.le_refl _) (Nat.le_refl _) (by decide) (pm_ki (fun v2 σ' cnt' hq => ?_))
  obtain ⟨hq, rfl, rfl⟩ := hq
  rcases hq with ⟨rfl, k4, hk4, ek4⟩ | rfl
  · refine pm_ifN_eq (tgt := 17) hG dX12_voice_5 rfl (by omega) (fun q => absurd q (by omega)) (fun _ => ?_)
    refine pm_iloadn hG dX12_voice_8 rfl ?_
    refine pm_iconst (v := nI 0) hG dX12_voice_9 (by decide) ?_
    refine pm_iconst (v := nI 3) hG dX12_voice_10 (by decide) ?_
    refine pm_callS (As := [.int zb, .int (nI 0), .int (nI 3)]) (rest := []) hG hR dX12_voice_11 (lkX12_68 _ rfl) okS_X12_in (m_in (d := 9)) rfl rfl hdd (Nat.le_refl _) (Nat.le_refl _) (by decide) (pm_ki (fun v5 σ' cnt' hq => ?_))
    obtain ⟨hq, rfl, rfl⟩ := hq
    rcases hq with ⟨rfl, ac6, bc6⟩ | ⟨rfl, c6⟩
    · obtain ⟨k7, hk7, ek7⟩ := in_nat (by omega) (by omega) ac6 bc6
      refine pm_ifN_ne (tgt := 23) hG dX12_voice_14 rfl (by omega) (fun _ => ?_) (fun q => absurd q (by omega))
      refine pm_aloadn hG dX12_voice_23 rfl ?_
      refine pm_iconst (v := nI 0) hG dX12_voice_24 (by decide) ?_
      refine pm_putf hG dX12_voice_25 (fwX12_283 _ rfl) rfl rfl rfl ?_
      refine mdn_traced ?_
      refine pm_iloadn hG dX12_voice_28 rfl ?_
      refine pm_top (v := nI k7) ek7 ?_
      by_cases c8 : nI k7 = nI 0
      · refine pm_top (v := nI 0) c8 ?_
        have tc8 := nI_inj (by omega) (by omega) c8
        refine pm_tswIn (tgt := 56) hG dX12_voice_29 (by decide) (by decide) rfl rfl ?_
        refine pm_aloadn hG dX12_voice_56 rfl ?_
        refine pm_iloadn hG dX12_voice_57 rfl ?_
        refine pm_top (v := nI k4) ek4 ?_
        refine pm_iloadn hG dX12_voice_58 rfl ?_
        refine pm_callV (As := [.int (nI k4), .int zc]) (rest := []) hG hR dX12_voice_59 (lkX12_295 _ rfl) okV_X12_actsOf rfl rfl (m_actsOf (d := 9) (by decide) hn hz (by omega) (by omega)) rfl rfl hdd (Nat.le_refl _) (Nat.le_refl _) (by decide) (pm_ki (fun v9 σ' cnt' hq => ?_))
        obtain ⟨⟨I10, A10, t10, rfl, ht10⟩, rfl⟩ := hq
        exact pm_iret hG hF dX12_voice_62 rfl (Nat.le_refl _) (Nat.le_refl _) ⟨_, rfl, ⟨_, _, _, rfl, by omega⟩, rfl⟩
      by_cases c11 : nI k7 = nI 1
      · refine pm_top (v := nI 1) c11 ?_
        have tc11 := nI_inj (by omega) (by omega) c11
        refine pm_tswIn (tgt := 63) hG dX12_voice_29 (by decide) (by decide) rfl rfl ?_
        refine pm_aloadn hG dX12_voice_63 rfl ?_
        refine pm_iloadn hG dX12_voice_64 rfl ?_
        refine pm_top (v := nI k4) ek4 ?_
        refine pm_iloadn hG dX12_voice_65 rfl ?_
        refine pm_callV (As := [.int (nI k4), .int zc]) (rest := []) hG hR dX12_voice_66 (lkX12_304 _ rfl) okV_X12_bindsOf rfl rfl (m_bindsOf (d := 9) (by decide) hn hz (by omega) (by omega)) rfl rfl hdd (Nat.le_refl _) (Nat.le_refl _) (by decide) (pm_ki (fun v12 σ' cnt' hq => ?_))
        obtain ⟨⟨I13, A13, t13, rfl, ht13⟩, rfl⟩ := hq
        exact pm_iret hG hF dX12_voice_69 rfl (Nat.le_refl _) (Nat.le_refl _) ⟨_, rfl, ⟨_, _, _, rfl, by omega⟩, rfl⟩
      by_cases c14 : nI k7 = nI 2
      · refine pm_top (v := nI 2) c14 ?_
        have tc14 := nI_inj (by omega) (by omega) c14
        refine pm_tswIn (tgt := 70) hG dX12_voice_29 (by decide) (by decide) rfl rfl ?_
        refine pm_aloadn hG dX12_voice_70 rfl ?_
        refine pm_iloadn hG dX12_voice_71 rfl ?_
        refine pm_top (v := nI k4) ek4 ?_
        refine pm_iloadn hG dX12_voice_72 rfl ?_
        refine pm_callV (As := [.int (nI k4), .int zc]) (rest := []) hG hR dX12_voice_73 (lkX12_307 _ rfl) okV_X12_ranksOf rfl rfl (m_ranksOf (d := 9) (by decide) hn hz (by omega) (by omega)) rfl rfl hdd (Nat.le_refl _) (Nat.le_refl _) (by decide) (pm_ki (fun v15 σ' cnt' hq => ?_))
        obtain ⟨⟨I16, A16, t16, rfl, ht16⟩, rfl⟩ := hq
        exact pm_iret hG hF dX12_voice_76 rfl (Nat.le_refl _) (Nat.le_refl _) ⟨_, rfl, ⟨_, _, _, rfl, by omega⟩, rfl⟩
      have tc8 : ¬ (nI k7).toInt = 0 := fun q => c8 (Int32.toInt_inj.mp (q.trans (by decide)))
      have tc11 : ¬ (nI k7).toInt = 1 := fun q => c11 (Int32.toInt_inj.mp (q.trans (by decide)))
      have tc14 : ¬ (nI k7).toInt = 2 := fun q => c14 (Int32.toInt_inj.mp (q.trans (by decide)))
      refine pm_tswOut (tgt := 77) hG dX12_voice_29 (by omega) rfl ?_
      refine pm_aloadn hG dX12_voice_77 rfl ?_
      refine pm_iloadn hG dX12_voice_78 rfl ?_
      refine pm_top (v := nI k4) ek4 ?_
      refine pm_iloadn hG dX12_voice_79 rfl ?_
      refine pm_callV (As := [.int (nI k4), .int zc]) (rest := []) hG hR dX12_voice_80 (lkX12_316 _ rfl) okV_X12_tellsOf rfl rfl (m_tellsOf (d := 9) (by decide) hn hz (by omega) (by omega)) rfl rfl hdd (Nat.le_refl _) (Nat.le_refl _) (by decide) (pm_ki (fun v17 σ' cnt' hq => ?_))
      obtain ⟨⟨I18, A18, t18, rfl, ht18⟩, rfl⟩ := hq
      exact pm_iret hG hF dX12_voice_83 rfl (Nat.le_refl _) (Nat.le_refl _) ⟨_, rfl, ⟨_, _, _, rfl, by omega⟩, rfl⟩
    · refine pm_ifN_ne (tgt := 23) hG dX12_voice_14 rfl (by omega) (fun q => absurd q (by omega)) (fun _ => ?_)
      refine pm_aloadn hG dX12_voice_17 rfl ?_
      refine pm_iconst (v := nI 1) hG dX12_voice_18 (by decide) ?_
      refine pm_callV (As := [.int (nI 1)]) (rest := []) hG hR dX12_voice_19 (lkX12_80 _ rfl) okV_X12_finds rfl rfl (m_finds (d := 9) (by decide) hn hz (by omega)) rfl rfl hdd (Nat.le_refl _) (Nat.le_refl _) (by decide) (pm_ki (fun v19 σ' cnt' hq => ?_))
      obtain ⟨⟨I20, A20, rfl⟩, rfl, fv19⟩ := hq
      exact pm_iret hG hF dX12_voice_22 rfl (Nat.le_refl _) (Nat.le_refl _) ⟨_, rfl, ⟨_, _, _, rfl, by omega⟩, rfl⟩
  · refine pm_ifN_eq (tgt := 17) hG dX12_voice_5 rfl (by omega) (fun _ => ?_) (fun q => absurd q (by omega))
    refine pm_aloadn hG dX12_voice_17 rfl ?_
    refine pm_iconst (v := nI 1) hG dX12_voice_18 (by decide) ?_
    refine pm_callV (As := [.int (nI 1)]) (rest := []) hG hR dX12_voice_19 (lkX12_80 _ rfl) okV_X12_finds rfl rfl (m_finds (d := 9) (by decide) hn hz (by omega)) rfl rfl hdd (Nat.le_refl _) (Nat.le_refl _) (by decide) (pm_ki (fun v21 σ' cnt' hq => ?_))
    obtain ⟨⟨I22, A22, rfl⟩, rfl, fv21⟩ := hq
    exact pm_iret hG hF dX12_voice_22 rfl (Nat.le_refl _) (Nat.le_refl _) ⟨_, rfl, ⟨_, _, _, rfl, by omega⟩, rfl⟩
