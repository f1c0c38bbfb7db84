set_option maxRecDepth 100000 in
set_option maxHeartbeats 4000000 in
theorem m_trace {d B cnt p0 t0 : Nat} {σ : pm_S} {I : Nat → Int32} {A : Nat → Nat → Int32} {n k z : Nat → Int32} {ac wt pl im : Int32} {za : Int32} (hdd : 2 ≤ d) (hn : KI n) (hz : SZ z) (ht0 : t0 ≤ 40)  : pm_met mX12_trace d 0 0 B [.ref (B + 54), .int za] cnt (pm_mid σ (md_L B I A n k z ac wt pl (nI p0) (nI t0) im)) (pm_Qi (fun v σ' cnt' => (∃ (I' : Nat → Int32) (A' : Nat → Nat → Int32), σ' = pm_mid σ (md_L B I' A' n k z ac wt pl (nI p0) (nI t0) im)) ∧ cnt = cnt')) := by
  refine pm_enter 0 (by decide) (Nat.le_of_ble_eq_true rfl) rfl (fun G hG hR hF => ?_)
  refine pm_iloadn hG dX12_trace_0 rfl ?_
  refine pm_iconst (v := nI 0) hG dX12_trace_1 (by decide) ?_
  refine pm_aloadn hG dX12_trace_2 rfl ?_
  refine pm_getf hG dX12_trace_3 (flX12_283 _ rfl) rfl rfl ?_
  refine pm_iconst (v := nI 1) hG dX12_trace_6 (by decide) ?_
  refine pm_isub hG dX12_trace_7 ?_
  refine pm_callS (As := [.int za, .int (nI 0), .int ((nI t0) - (nI 1))]) (rest := []) hG hR dX12_trace_8 (lkX12_68 _ rfl) okS_X12_in (m_in (d := 1)) rfl rfl hdd (Nat.le_refl _) (Nat.le_refl _) (by decide) (pm_ki (fun v1 σ' cnt' hq => ?_))
  obtain ⟨hq, rfl, rfl⟩ := hq
  rcases hq with ⟨rfl, ac2, bc2⟩ | ⟨rfl, c2⟩
  · obtain ⟨k3, hk3, ek3⟩ := in_cnt (c := t0) (by omega) ac2 bc2
    refine pm_ifN_eq (tgt := 23) hG dX12_trace_11 rfl (by omega) (fun q => absurd q (by omega)) (fun _ => ?_)
    refine pm_aloadn hG dX12_trace_14 rfl ?_
    refine pm_getf hG dX12_trace_15 (flX12_52 _ rfl) rfl rfl ?_
    refine pm_iloadn hG dX12_trace_18 rfl ?_
    refine pm_top (v := nI k3) ek3 ?_
    refine pm_ialdN hG dX12_trace_19 rfl (by decide) (by omega) ?_
    refine pm_any (fun x4 => ?_)
    refine pm_goto (tgt := 28) hG dX12_trace_20 rfl ?_
    exact pm_iret hG hF dX12_trace_28 rfl (Nat.le_refl _) (Nat.le_refl _) ⟨_, rfl, ⟨_, _, rfl⟩, rfl⟩
  · refine pm_ifN_eq (tgt := 23) hG dX12_trace_11 rfl (by omega) (fun _ => ?_) (fun q => absurd q (by omega))
    refine pm_aloadn hG dX12_trace_23 rfl ?_
    refine pm_iconst (v := nI 2) hG dX12_trace_24 (by decide) ?_
    refine pm_callV (As := [.int (nI 2)]) (rest := []) hG hR dX12_trace_25 (lkX12_80 _ rfl) okV_X12_finds rfl rfl (m_finds (d := 1) (by decide) hn hz (by omega)) rfl rfl hdd (Nat.le_refl _) (Nat.le_refl _) (by decide) (pm_ki (fun v5 σ' cnt' hq => ?_))
    obtain ⟨⟨I6, A6, rfl⟩, rfl, fv5⟩ := hq
    exact pm_iret hG hF dX12_trace_28 rfl (Nat.le_refl _) (Nat.le_refl _) ⟨_, rfl, ⟨_, _, rfl⟩, rfl⟩

set_option maxRecDepth 100000 in
set_option maxHeartbeats 4000000 in
theorem m_voice {d B cnt p0 t0 : Nat} {σ : pm_S} {I : Nat → Int32} {A : Nat → Nat → Int32} {n k z : Nat → Int32} {ac wt pl im : Int32} {za zb zc : Int32} (hdd : 10 ≤ d) (hn : KI n) (hz : SZ z) (ht0 : t0 ≤ 40)  : pm_met mX12_voice d 0 0 B [.ref (B + 54), .int za, .int zb, .int zc] cnt (pm_mid σ (md_L B I A n k z ac wt pl (nI p0) (nI t0) im)) (pm_Qi (fun v σ' cnt' => (∃ (I' : Nat → Int32) (A' : Nat → Nat → Int32) (t0' : Nat), σ' = pm_mid σ (md_L B I' A' n k z ac wt pl (nI p0) (nI t0') im) ∧ t0' ≤ 40) ∧ cnt = cnt')) := by
  refine pm_enter 0 (by decide) (Nat.le_of_ble_eq_true rfl) rfl (fun G hG hR hF => ?_)
  refine pm_aloadn hG dX12_voice_0 rfl ?_
  refine pm_iloadn hG dX12_voice_1 rfl ?_
  obtain ⟨k1, hk1, ek1⟩ := KI.nat hn (show kd 3 = (1, 21, false) by decide)
  refine pm_callV (As := [.int za]) (rest := []) hG hR dX12_voice_2 (lkX12_132 _ rfl) okV_X12_isPower rfl rfl (m_isPower (d := 9) (by decide) ek1 (by omega)) rfl rfl hdd (Nat.le_refl _) (Nat.le_refl _) (by decide) (pm_ki (fun v2 σ' cnt' hq => ?_))
  obtain ⟨hq, rfl, rfl⟩ := hq
  rcases hq with ⟨rfl, k4, hk4, ek4⟩ | rfl
  · refine pm_ifN_eq (tgt := 17) hG dX12_voice_5 rfl (by omega) (fun q => absurd q (by omega)) (fun _ => ?_)
    refine pm_iloadn hG dX12_voice_8 rfl ?_
    refine pm_iconst (v := nI 0) hG dX12_voice_9 (by decide) ?_
    refine pm_iconst (v := nI 3) hG dX12_voice_10 (by decide) ?_
    refine pm_callS (As := [.int zb, .int (nI 0), .int (nI 3)]) (rest := []) hG hR dX12_voice_11 (lkX12_68 _ rfl) okS_X12_in (m_in (d := 9)) rfl rfl hdd (Nat.le_refl _) (Nat.le_refl _) (by decide) (pm_ki (fun v5 σ' cnt' hq => ?_))
    obtain ⟨hq, rfl, rfl⟩ := hq
    rcases hq with ⟨rfl, ac6, bc6⟩ | ⟨rfl, c6⟩
    · obtain ⟨k7, hk7, ek7⟩ := in_nat (by omega) (by omega) ac6 bc6
      refine pm_ifN_ne (tgt := 23) hG dX12_voice_14 rfl (by omega) (fun _ => ?_) (fun q => absurd q (by omega))
      refine pm_aloadn hG dX12_voice_23 rfl ?_
      refine pm_iconst (v := nI 0) hG dX12_voice_24 (by decide) ?_
      refine pm_putf hG dX12_voice_25 (fwX12_283 _ rfl) rfl rfl rfl ?_
      refine mdn_traced ?_
      refine pm_iloadn hG dX12_voice_28 rfl ?_
      refine pm_top (v := nI k7) ek7 ?_
      by_cases c8 : nI k7 = nI 0
      · refine pm_top (v := nI 0) c8 ?_
        have tc8 := nI_inj (by omega) (by omega) c8
        refine pm_tswIn (tgt := 56) hG dX12_voice_29 (by decide) (by decide) rfl rfl ?_
        refine pm_aloadn hG dX12_voice_56 rfl ?_
        refine pm_iloadn hG dX12_voice_57 rfl ?_
        refine pm_top (v := nI k4) ek4 ?_
        refine pm_iloadn hG dX12_voice_58 rfl ?_
        refine pm_callV (As := [.int (nI k4), .int zc]) (rest := []) hG hR dX12_voice_59 (lkX12_295 _ rfl) okV_X12_actsOf rfl rfl (m_actsOf (d := 9) (by decide) hn hz (by omega) (by omega)) rfl rfl hdd (Nat.le_refl _) (Nat.le_refl _) (by decide) (pm_ki (fun v9 σ' cnt' hq => ?_))
        obtain ⟨⟨I10, A10, t10, rfl, ht10⟩, rfl⟩ := hq
        exact pm_iret hG hF dX12_voice_62 rfl (Nat.le_refl _) (Nat.le_refl _) ⟨_, rfl, ⟨_, _, _, rfl, by omega⟩, rfl⟩
      by_cases c11 : nI k7 = nI 1
      · refine pm_top (v := nI 1) c11 ?_
        have tc11 := nI_inj (by omega) (by omega) c11
        refine pm_tswIn (tgt := 63) hG dX12_voice_29 (by decide) (by decide) rfl rfl ?_
        refine pm_aloadn hG dX12_voice_63 rfl ?_
        refine pm_iloadn hG dX12_voice_64 rfl ?_
        refine pm_top (v := nI k4) ek4 ?_
        refine pm_iloadn hG dX12_voice_65 rfl ?_
        refine pm_callV (As := [.int (nI k4), .int zc]) (rest := []) hG hR dX12_voice_66 (lkX12_304 _ rfl) okV_X12_bindsOf rfl rfl (m_bindsOf (d := 9) (by decide) hn hz (by omega) (by omega)) rfl rfl hdd (Nat.le_refl _) (Nat.le_refl _) (by decide) (pm_ki (fun v12 σ' cnt' hq => ?_))
        obtain ⟨⟨I13, A13, t13, rfl, ht13⟩, rfl⟩ := hq
        exact pm_iret hG hF dX12_voice_69 rfl (Nat.le_refl _) (Nat.le_refl _) ⟨_, rfl, ⟨_, _, _, rfl, by omega⟩, rfl⟩
      by_cases c14 : nI k7 = nI 2
      · refine pm_top (v := nI 2) c14 ?_
        have tc14 := nI_inj (by omega) (by omega) c14
        refine pm_tswIn (tgt := 70) hG dX12_voice_29 (by decide) (by decide) rfl rfl ?_
        refine pm_aloadn hG dX12_voice_70 rfl ?_
        refine pm_iloadn hG dX12_voice_71 rfl ?_
        refine pm_top (v := nI k4) ek4 ?_
        refine pm_iloadn hG dX12_voice_72 rfl ?_
        refine pm_callV (As := [.int (nI k4), .int zc]) (rest := []) hG hR dX12_voice_73 (lkX12_307 _ rfl) okV_X12_ranksOf rfl rfl (m_ranksOf (d := 9) (by decide) hn hz (by omega) (by omega)) rfl rfl hdd (Nat.le_refl _) (Nat.le_refl _) (by decide) (pm_ki (fun v15 σ' cnt' hq => ?_))
        obtain ⟨⟨I16, A16, t16, rfl, ht16⟩, rfl⟩ := hq
        exact pm_iret hG hF dX12_voice_76 rfl (Nat.le_refl _) (Nat.le_refl _) ⟨_, rfl, ⟨_, _, _, rfl, by omega⟩, rfl⟩
      have tc8 : ¬ (nI k7).toInt = 0 := fun q => c8 (Int32.toInt_inj.mp (q.trans (by decide)))
      have tc11 : ¬ (nI k7).toInt = 1 := fun q => c11 (Int32.toInt_inj.mp (q.trans (by decide)))
      have tc14 : ¬ (nI k7).toInt = 2 := fun q => c14 (Int32.toInt_inj.mp (q.trans (by decide)))
      refine pm_tswOut (tgt := 77) hG dX12_voice_29 (by omega) rfl ?_
      refine pm_aloadn hG dX12_voice_77 rfl ?_
      refine pm_iloadn hG dX12_voice_78 rfl ?_
      refine pm_top (v := nI k4) ek4 ?_
      refine pm_iloadn hG dX12_voice_79 rfl ?_
      refine pm_callV (As := [.int (nI k4), .int zc]) (rest := []) hG hR dX12_voice_80 (lkX12_316 _ rfl) okV_X12_tellsOf rfl rfl (m_tellsOf (d := 9) (by decide) hn hz (by omega) (by omega)) rfl rfl hdd (Nat.le_refl _) (Nat.le_refl _) (by decide) (pm_ki (fun v17 σ' cnt' hq => ?_))
      obtain ⟨⟨I18, A18, t18, rfl, ht18⟩, rfl⟩ := hq
      exact pm_iret hG hF dX12_voice_83 rfl (Nat.le_refl _) (Nat.le_refl _) ⟨_, rfl, ⟨_, _, _, rfl, by omega⟩, rfl⟩
    · refine pm_ifN_ne (tgt := 23) hG dX12_voice_14 rfl (by omega) (fun q => absurd q (by omega)) (fun _ => ?_)
      refine pm_aloadn hG dX12_voice_17 rfl ?_
      refine pm_iconst (v := nI 1) hG dX12_voice_18 (by decide) ?_
      refine pm_callV (As := [.int (nI 1)]) (rest := []) hG hR dX12_voice_19 (lkX12_80 _ rfl) okV_X12_finds rfl rfl (m_finds (d := 9) (by decide) hn hz (by omega)) rfl rfl hdd (Nat.le_refl _) (Nat.le_refl _) (by decide) (pm_ki (fun v19 σ' cnt' hq => ?_))
      obtain ⟨⟨I20, A20, rfl⟩, rfl, fv19⟩ := hq
      exact pm_iret hG hF dX12_voice_22 rfl (Nat.le_refl _) (Nat.le_refl _) ⟨_, rfl, ⟨_, _, _, rfl, by omega⟩, rfl⟩
  · refine pm_ifN_eq (tgt := 17) hG dX12_voice_5 rfl (by omega) (fun _ => ?_) (fun q => absurd q (by omega))
    refine pm_aloadn hG dX12_voice_17 rfl ?_
    refine pm_iconst (v := nI 1) hG dX12_voice_18 (by decide) ?_
    refine pm_callV (As := [.int (nI 1)]) (rest := []) hG hR dX12_voice_19 (lkX12_80 _ rfl) okV_X12_finds rfl rfl (m_finds (d := 9) (by decide) hn hz (by omega)) rfl rfl hdd (Nat.le_refl _) (Nat.le_refl _) (by decide) (pm_ki (fun v21 σ' cnt' hq => ?_))
    obtain ⟨⟨I22, A22, rfl⟩, rfl, fv21⟩ := hq
    exact pm_iret hG hF dX12_voice_22 rfl (Nat.le_refl _) (Nat.le_refl _) ⟨_, rfl, ⟨_, _, _, rfl, by omega⟩, rfl⟩

set_option maxRecDepth 100000 in
set_option maxHeartbeats 4000000 in
theorem m_seat_c1 {d B cnt p0 t0 : Nat} {σ : pm_S} {I : Nat → Int32} {A : Nat → Nat → Int32} {n k z : Nat → Int32} {ac wt pl im : Int32} {za : Int32} (hdd : 2 ≤ d) (hn : KI n) (hr : NR n) (hz : SZ z)  : pm_met mX12_seat d 0 0 B [.ref (B + 54), .int za, .int (nI 1)] cnt (pm_mid σ (md_L B I A n k z ac wt pl (nI p0) (nI t0) im)) (pm_Qi (fun v σ' cnt' => (∃ (I' : Nat → Int32) (A' : Nat → Nat → Int32) (n' : Nat → Int32), σ' = pm_mid σ (md_L B I' A' n' k z ac wt pl (nI p0) (nI t0) im) ∧ KI n' ∧ NR n' ∧ n' 0 = n 0 ∧ n' 2 = n 2 ∧ n' 7 = n 7 ∧ n' 8 = n 8 ∧ v = vSe1 (mT n) (n 2) za ∧ ∀ j : Nat, t7u (n 2).toNatClampNeg j → mT n' j = tSe1 (mT n) (n 2) za j) ∧ cnt = cnt')) := by
  obtain ⟨kc0, hkc0, ekc0⟩ := KI.nat hn (show kd 0 = (1, 11, true) by decide)
  obtain ⟨kc2, hkc2, ekc2⟩ := KI.nat hn (show kd 2 = (1, 21, true) by decide)
  obtain ⟨kc7, hkc7, ekc7⟩ := KI.nat hn (show kd 7 = (1, 31, false) by decide)
  obtain ⟨kc8, hkc8, ekc8⟩ := KI.nat hn (show kd 8 = (1, 2001, false) by decide)
  refine pm_enter 0 (by decide) (Nat.le_of_ble_eq_true rfl) rfl (fun G hG hR hF => ?_)
  refine pm_aloadn hG dX12_seat_0 rfl ?_
  refine pm_iloadn hG dX12_seat_1 rfl ?_
  refine pm_callV (As := [.int za]) (rest := []) hG hR dX12_seat_2 (lkX12_91 _ rfl) okV_X12_isPerson rfl rfl (m_isPerson (d := 1) (by decide) ekc2 (by omega)) rfl rfl hdd (Nat.le_refl _) (Nat.le_refl _) (by decide) (pm_ki (fun v1 σ' cnt' hq => ?_))
  obtain ⟨hq, rfl, rfl⟩ := hq
  rcases hq with ⟨rfl, k3, hk3, ek3⟩ | ⟨rfl, ntk3⟩
  · refine pm_ifN_ne (tgt := 14) hG dX12_seat_5 rfl (by omega) (fun _ => ?_) (fun q => absurd q (by omega))
    refine pm_aloadn hG dX12_seat_14 rfl ?_
    refine pm_iloadn hG dX12_seat_15 rfl ?_
    refine pm_top (v := nI k3) ek3 ?_
    rcases KI.opt hn (show kd (14 * k3 + 119) = (2, 2001, false) from (kd_P (k := k3) (c := 9) (by omega) (by omega) (by decide))) with ek4 | ⟨k4, hk4, ek4⟩
    · refine pm_callV (As := [.int (nI k3)]) (rest := []) hG hR dX12_seat_16 (lkX12_101 _ rfl) okV_X12_lives rfl rfl (m_lives1 (d := 1) (by decide) (by omega) (by omega : 14 * k3 + 119 = 14 * k3 + 119) ek4) rfl rfl hdd (Nat.le_refl _) (Nat.le_refl _) (by decide) (pm_ki (fun v5 σ' cnt' hq => ?_))
      obtain ⟨rfl, rfl, rfl⟩ := hq
      refine pm_ifN_eq (tgt := 42) hG dX12_seat_19 rfl (by omega) (fun q => absurd q (by omega)) (fun _ => ?_)
      refine pm_aloadn hG dX12_seat_22 rfl ?_
      refine pm_iloadn hG dX12_seat_23 rfl ?_
      refine pm_top (v := nI k3) ek3 ?_
      refine pm_bipush (v := nI 11) hG dX12_seat_24 (by decide) ?_
      refine pm_callV (As := [.int (nI k3), .int (nI 11)]) (rest := []) hG hR dX12_seat_26 (lkX12_72 _ rfl) okV_X12_man rfl rfl (m_man (d := 1) (e := 14 * k3 + 121) (by omega) (by omega) (by omega)) rfl rfl hdd (Nat.le_refl _) (Nat.le_refl _) (by decide) (pm_ki (fun v6 σ' cnt' hq => ?_))
      obtain ⟨rfl, rfl, rfl⟩ := hq
      obtain ⟨k7, hk7, ek7⟩ := KI.nat hn (show kd (14 * k3 + 121) = (1, 2, true) from (kd_P (k := k3) (c := 11) (by omega) (by omega) (by decide)))
      refine pm_top (v := nI k7) ek7 ?_
      refine pm_iconst (v := nI 1) hG dX12_seat_29 (by decide) ?_
      refine pm_icmpN_ne (tgt := 37) hG dX12_seat_30 rfl (by omega) (by omega) (fun c8 => ?_) (fun c8 => ?_)
      · refine pm_iconst (v := nI 0) hG dX12_seat_37 (by decide) ?_
        refine pm_iloadn hG dX12_seat_38 rfl ?_
        refine pm_icmpN_ne (tgt := 48) hG dX12_seat_39 rfl (by omega) (by omega) (fun _ => ?_) (fun q => absurd q (by omega))
        refine pm_iloadn hG dX12_seat_48 rfl ?_
        refine pm_ifN_eq (tgt := 67) hG dX12_seat_49 rfl (by omega) (fun q => absurd q (by omega)) (fun _ => ?_)
        refine pm_aloadn hG dX12_seat_52 rfl ?_
        refine pm_callV (As := []) (rest := []) hG hR dX12_seat_53 (lkX12_243 _ rfl) okV_X12_seatedMany rfl rfl (m_seatedMany (d := 1) (by decide) hn ekc2 (by omega)) rfl rfl hdd (Nat.le_refl _) (Nat.le_refl _) (by decide) (pm_ki (fun v9 σ' cnt' hq => ?_))
        obtain ⟨rfl, rfl, rfl⟩ := hq
        have h10 : stN n kc2 ≤ 9 := Nat.le_trans (stN_mono (by omega)) hr.2.2.1.1
        refine pm_bipush (v := nI 9) hG dX12_seat_56 (by decide) ?_
        refine pm_icmpN_ne (tgt := 67) hG dX12_seat_58 rfl (by omega) (by omega) (fun c11 => ?_) (fun c11 => ?_)
        · refine pm_iloadn hG dX12_seat_67 rfl ?_
          refine pm_ifN_eq (tgt := 82) hG dX12_seat_68 rfl (by omega) (fun q => absurd q (by omega)) (fun _ => ?_)
          refine pm_aloadn hG dX12_seat_71 rfl ?_
          refine pm_iloadn hG dX12_seat_72 rfl ?_
          refine pm_top (v := nI k3) ek3 ?_
          refine pm_bipush (v := nI 11) hG dX12_seat_73 (by decide) ?_
          refine pm_iconst (v := nI 1) hG dX12_seat_75 (by decide) ?_
          refine pm_callV (As := [.int (nI k3), .int (nI 11), .int (nI 1)]) (rest := []) hG hR dX12_seat_76 (lkX12_97 _ rfl) okV_X12_sets rfl rfl (m_sets (d := 1) (e := 14 * k3 + 121) (by omega) (by omega) (by omega)) rfl rfl hdd (Nat.le_refl _) (Nat.le_refl _) (by decide) (pm_kv (fun σ' cnt' hq => ?_))
          obtain ⟨rfl, rfl⟩ := hq
          obtain ⟨n_12, en_12⟩ : ∃ f : Nat → Int32, f = upd n (14 * k3 + 121) (nI 1) := ⟨_, rfl⟩
          rw [← en_12]
          have hnn_12 := KI.w en_12 hn (okv_n (show kd (14 * k3 + 121) = (1, 2, true) from (kd_P (k := k3) (c := 11) (by omega) (by omega) (by decide))) (by omega))
          have hrn_12 := NRx.seat (p := k3) (c := kc2) en_12 hr ekc2 (by omega) (by omega)
          have ksn_12 := KSs.w (a := 14 * k3 + 121) (b := 14 * k3 + 121) en_12 KSs.rf (by unfold tS; omega)
          have e13 : n_12 0 = nI kc0 := by rw [en_12, pk_un (by omega)]; exact ekc0
          have e14 : n_12 2 = nI kc2 := by rw [en_12, pk_un (by omega)]; exact ekc2
          have e15 : n_12 7 = nI kc7 := by rw [en_12, pk_un (by omega)]; exact ekc7
          have e16 : n_12 8 = nI kc8 := by rw [en_12, pk_un (by omega)]; exact ekc8
          have e17 : n_12 (14 * k3 + 119) = (-1) := by rw [en_12, pk_un (by omega)]; exact ek4
          have e18 : n_12 (14 * k3 + 121) = nI 1 := by rw [en_12, pk_us]
          refine pm_goto (tgt := 87) hG dX12_seat_79 rfl ?_
          refine pm_aloadn hG dX12_seat_87 rfl ?_
          refine pm_callV (As := []) (rest := []) hG hR dX12_seat_88 (lkX12_243 _ rfl) okV_X12_seatedMany rfl rfl (m_seatedMany (d := 1) (by decide) hnn_12 e14 (by omega)) rfl rfl hdd (Nat.le_refl _) (Nat.le_refl _) (by decide) (pm_ki (fun v19 σ' cnt' hq => ?_))
          obtain ⟨rfl, rfl, rfl⟩ := hq
          have h20 : stN n_12 kc2 ≤ 9 := Nat.le_trans (stN_mono (by omega)) hrn_12.2.2.1.1
          exact pm_iret hG hF dX12_seat_91 rfl (Nat.le_refl _) (Nat.le_refl _) ⟨_, rfl, ⟨_, _, _, rfl, hnn_12, hrn_12, e13.trans ekc0.symm, e14.trans ekc2.symm, e15.trans ekc7.symm, e16.trans ekc8.symm, ⟨(congrArg nI ((cS_st hnn_12 e14 (by omega)).symm.trans ((congrArg (cS (mT n_12)) (e14.trans ekc2.symm)).trans (cS_u ekc2 (by omega) (tW_y ek3 (by omega : k3 < kc2) (by omega) ksn_12 e18))))).trans (vSe1_d (T := mT n) (p := n 2) (x := za) (nt_in ekc2 (by omega) ek3 (by omega)) (fun q => q.elim (fun q => q (lv_y ek3 ekc2 (by omega) (by omega) ek4).2) (fun q => q (((s13_0 ek3 (by omega)).trans ek7).trans (congrArg nI (show _ = 0 by omega))))) (by rw [cS_st hn ekc2 (by omega)]; omega)).1, fun j hj => by rw [(vSe1_d (T := mT n) (p := n 2) (x := za) (nt_in ekc2 (by omega) ek3 (by omega)) (fun q => q.elim (fun q => q (lv_y ek3 ekc2 (by omega) (by omega) ek4).2) (fun q => q (((s13_0 ek3 (by omega)).trans ek7).trans (congrArg nI (show _ = 0 by omega))))) (by rw [cS_st hn ekc2 (by omega)]; omega)).2]; exact tW_y ek3 (by omega : k3 < kc2) (by omega) ksn_12 e18 j (by rw [ekc2, nI_clamp (by omega)] at hj; exact hj)⟩⟩, rfl⟩
        · refine pm_aloadn hG dX12_seat_61 rfl ?_
          refine pm_iconst (v := nI 4) hG dX12_seat_62 (by decide) ?_
          refine pm_callV (As := [.int (nI 4)]) (rest := []) hG hR dX12_seat_63 (lkX12_80 _ rfl) okV_X12_finds rfl rfl (m_finds (d := 1) (by decide) hn hz (by omega)) rfl rfl hdd (Nat.le_refl _) (Nat.le_refl _) (by decide) (pm_ki (fun v21 σ' cnt' hq => ?_))
          obtain ⟨⟨I22, A22, rfl⟩, rfl, fv21⟩ := hq
          exact pm_iret hG hF dX12_seat_66 rfl (Nat.le_refl _) (Nat.le_refl _) ⟨_, rfl, ⟨_, _, _, rfl, hn, hr, ekc0.trans ekc0.symm, ekc2.trans ekc2.symm, ekc7.trans ekc7.symm, ekc8.trans ekc8.symm, ⟨fv21.trans ((by decide : (-1000000 : Int32) - nI 4 = -1000004).trans (vSe1_c (T := mT n) (p := n 2) (x := za) (nt_in ekc2 (by omega) ek3 (by omega)) (fun q => q.elim (fun q => q (lv_y ek3 ekc2 (by omega) (by omega) ek4).2) (fun q => q (((s13_0 ek3 (by omega)).trans ek7).trans (congrArg nI (show _ = 0 by omega))))) (by rw [cS_st hn ekc2 (by omega)]; omega)).1), fun j _ => by rw [(vSe1_c (T := mT n) (p := n 2) (x := za) (nt_in ekc2 (by omega) ek3 (by omega)) (fun q => q.elim (fun q => q (lv_y ek3 ekc2 (by omega) (by omega) ek4).2) (fun q => q (((s13_0 ek3 (by omega)).trans ek7).trans (congrArg nI (show _ = 0 by omega))))) (by rw [cS_st hn ekc2 (by omega)]; omega)).2]⟩⟩, rfl⟩
      · refine pm_iconst (v := nI 1) hG dX12_seat_33 (by decide) ?_
        refine pm_goto (tgt := 38) hG dX12_seat_34 rfl ?_
        refine pm_iloadn hG dX12_seat_38 rfl ?_
        refine pm_icmpN_ne (tgt := 48) hG dX12_seat_39 rfl (by omega) (by omega) (fun q => absurd q (by omega)) (fun _ => ?_)
        refine pm_aloadn hG dX12_seat_42 rfl ?_
        refine pm_iconst (v := nI 3) hG dX12_seat_43 (by decide) ?_
        refine pm_callV (As := [.int (nI 3)]) (rest := []) hG hR dX12_seat_44 (lkX12_80 _ rfl) okV_X12_finds rfl rfl (m_finds (d := 1) (by decide) hn hz (by omega)) rfl rfl hdd (Nat.le_refl _) (Nat.le_refl _) (by decide) (pm_ki (fun v23 σ' cnt' hq => ?_))
        obtain ⟨⟨I24, A24, rfl⟩, rfl, fv23⟩ := hq
        exact pm_iret hG hF dX12_seat_47 rfl (Nat.le_refl _) (Nat.le_refl _) ⟨_, rfl, ⟨_, _, _, rfl, hn, hr, ekc0.trans ekc0.symm, ekc2.trans ekc2.symm, ekc7.trans ekc7.symm, ekc8.trans ekc8.symm, ⟨fv23.trans ((by decide : (-1000000 : Int32) - nI 3 = -1000003).trans (vSe1_b (T := mT n) (p := n 2) (x := za) (nt_in ekc2 (by omega) ek3 (by omega)) (Or.inr (fun q => absurd (nI_inj (b := 0) (by omega) (by omega) (((s13_0 ek3 (by omega)).trans ek7).symm.trans q)) (by omega)))).1), fun j _ => by rw [(vSe1_b (T := mT n) (p := n 2) (x := za) (nt_in ekc2 (by omega) ek3 (by omega)) (Or.inr (fun q => absurd (nI_inj (b := 0) (by omega) (by omega) (((s13_0 ek3 (by omega)).trans ek7).symm.trans q)) (by omega)))).2]⟩⟩, rfl⟩
    · refine pm_callV (As := [.int (nI k3)]) (rest := []) hG hR dX12_seat_16 (lkX12_101 _ rfl) okV_X12_lives rfl rfl (m_lives0 (d := 1) (by decide) (by omega) (by omega : 14 * k3 + 119 = 14 * k3 + 119) ek4 (by omega)) rfl rfl hdd (Nat.le_refl _) (Nat.le_refl _) (by decide) (pm_ki (fun v25 σ' cnt' hq => ?_))
      obtain ⟨rfl, rfl, rfl⟩ := hq
      refine pm_ifN_eq (tgt := 42) hG dX12_seat_19 rfl (by omega) (fun _ => ?_) (fun q => absurd q (by omega))
      refine pm_aloadn hG dX12_seat_42 rfl ?_
      refine pm_iconst (v := nI 3) hG dX12_seat_43 (by decide) ?_
      refine pm_callV (As := [.int (nI 3)]) (rest := []) hG hR dX12_seat_44 (lkX12_80 _ rfl) okV_X12_finds rfl rfl (m_finds (d := 1) (by decide) hn hz (by omega)) rfl rfl hdd (Nat.le_refl _) (Nat.le_refl _) (by decide) (pm_ki (fun v26 σ' cnt' hq => ?_))
      obtain ⟨⟨I27, A27, rfl⟩, rfl, fv26⟩ := hq
      exact pm_iret hG hF dX12_seat_47 rfl (Nat.le_refl _) (Nat.le_refl _) ⟨_, rfl, ⟨_, _, _, rfl, hn, hr, ekc0.trans ekc0.symm, ekc2.trans ekc2.symm, ekc7.trans ekc7.symm, ekc8.trans ekc8.symm, ⟨fv26.trans ((by decide : (-1000000 : Int32) - nI 3 = -1000003).trans (vSe1_b (T := mT n) (p := n 2) (x := za) (nt_in ekc2 (by omega) ek3 (by omega)) (Or.inl (lv_n ek3 (by omega) ek4 (by omega)))).1), fun j _ => by rw [(vSe1_b (T := mT n) (p := n 2) (x := za) (nt_in ekc2 (by omega) ek3 (by omega)) (Or.inl (lv_n ek3 (by omega) ek4 (by omega)))).2]⟩⟩, rfl⟩
  · refine pm_ifN_ne (tgt := 14) hG dX12_seat_5 rfl (by omega) (fun q => absurd q (by omega)) (fun _ => ?_)
    refine pm_aloadn hG dX12_seat_8 rfl ?_
    refine pm_iconst (v := nI 1) hG dX12_seat_9 (by decide) ?_
    refine pm_callV (As := [.int (nI 1)]) (rest := []) hG hR dX12_seat_10 (lkX12_80 _ rfl) okV_X12_finds rfl rfl (m_finds (d := 1) (by decide) hn hz (by omega)) rfl rfl hdd (Nat.le_refl _) (Nat.le_refl _) (by decide) (pm_ki (fun v28 σ' cnt' hq => ?_))
    obtain ⟨⟨I29, A29, rfl⟩, rfl, fv28⟩ := hq
    exact pm_iret hG hF dX12_seat_13 rfl (Nat.le_refl _) (Nat.le_refl _) ⟨_, rfl, ⟨_, _, _, rfl, hn, hr, ekc0.trans ekc0.symm, ekc2.trans ekc2.symm, ekc7.trans ekc7.symm, ekc8.trans ekc8.symm, ⟨fv28.trans ((by decide : (-1000000 : Int32) - nI 1 = -1000001).trans (vSe1_a (T := mT n) (p := n 2) (x := za) (nt_out ekc2 (by omega) ntk3)).1), fun j _ => by rw [(vSe1_a (T := mT n) (p := n 2) (x := za) (nt_out ekc2 (by omega) ntk3)).2]⟩⟩, rfl⟩

set_option maxRecDepth 100000 in
set_option maxHeartbeats 4000000 in
theorem m_seat_c0 {d B cnt p0 t0 : Nat} {σ : pm_S} {I : Nat → Int32} {A : Nat → Nat → Int32} {n k z : Nat → Int32} {ac wt pl im : Int32} {za : Int32} (hdd : 2 ≤ d) (hn : KI n) (hr : NR n) (hz : SZ z)  : pm_met mX12_seat d 0 0 B [.ref (B + 54), .int za, .int (nI 0)] cnt (pm_mid σ (md_L B I A n k z ac wt pl (nI p0) (nI t0) im)) (pm_Qi (fun v σ' cnt' => (∃ (I' : Nat → Int32) (A' : Nat → Nat → Int32) (n' : Nat → Int32), σ' = pm_mid σ (md_L B I' A' n' k z ac wt pl (nI p0) (nI t0) im) ∧ KI n' ∧ NR n' ∧ n' 0 = n 0 ∧ n' 2 = n 2 ∧ n' 7 = n 7 ∧ n' 8 = n 8 ∧ v = vSe0 (mT n) (n 2) za ∧ ∀ j : Nat, t7u (n 2).toNatClampNeg j → mT n' j = tSe0 (mT n) (n 2) za j) ∧ cnt = cnt')) := by
  obtain ⟨kc0, hkc0, ekc0⟩ := KI.nat hn (show kd 0 = (1, 11, true) by decide)
  obtain ⟨kc2, hkc2, ekc2⟩ := KI.nat hn (show kd 2 = (1, 21, true) by decide)
  obtain ⟨kc7, hkc7, ekc7⟩ := KI.nat hn (show kd 7 = (1, 31, false) by decide)
  obtain ⟨kc8, hkc8, ekc8⟩ := KI.nat hn (show kd 8 = (1, 2001, false) by decide)
  refine pm_enter 0 (by decide) (Nat.le_of_ble_eq_true rfl) rfl (fun G hG hR hF => ?_)
  refine pm_aloadn hG dX12_seat_0 rfl ?_
  refine pm_iloadn hG dX12_seat_1 rfl ?_
  refine pm_callV (As := [.int za]) (rest := []) hG hR dX12_seat_2 (lkX12_91 _ rfl) okV_X12_isPerson rfl rfl (m_isPerson (d := 1) (by decide) ekc2 (by omega)) rfl rfl hdd (Nat.le_refl _) (Nat.le_refl _) (by decide) (pm_ki (fun v1 σ' cnt' hq => ?_))
  obtain ⟨hq, rfl, rfl⟩ := hq
  rcases hq with ⟨rfl, k3, hk3, ek3⟩ | ⟨rfl, ntk3⟩
  · refine pm_ifN_ne (tgt := 14) hG dX12_seat_5 rfl (by omega) (fun _ => ?_) (fun q => absurd q (by omega))
    refine pm_aloadn hG dX12_seat_14 rfl ?_
    refine pm_iloadn hG dX12_seat_15 rfl ?_
    refine pm_top (v := nI k3) ek3 ?_
    rcases KI.opt hn (show kd (14 * k3 + 119) = (2, 2001, false) from (kd_P (k := k3) (c := 9) (by omega) (by omega) (by decide))) with ek4 | ⟨k4, hk4, ek4⟩
    · refine pm_callV (As := [.int (nI k3)]) (rest := []) hG hR dX12_seat_16 (lkX12_101 _ rfl) okV_X12_lives rfl rfl (m_lives1 (d := 1) (by decide) (by omega) (by omega : 14 * k3 + 119 = 14 * k3 + 119) ek4) rfl rfl hdd (Nat.le_refl _) (Nat.le_refl _) (by decide) (pm_ki (fun v5 σ' cnt' hq => ?_))
      obtain ⟨rfl, rfl, rfl⟩ := hq
      refine pm_ifN_eq (tgt := 42) hG dX12_seat_19 rfl (by omega) (fun q => absurd q (by omega)) (fun _ => ?_)
      refine pm_aloadn hG dX12_seat_22 rfl ?_
      refine pm_iloadn hG dX12_seat_23 rfl ?_
      refine pm_top (v := nI k3) ek3 ?_
      refine pm_bipush (v := nI 11) hG dX12_seat_24 (by decide) ?_
      refine pm_callV (As := [.int (nI k3), .int (nI 11)]) (rest := []) hG hR dX12_seat_26 (lkX12_72 _ rfl) okV_X12_man rfl rfl (m_man (d := 1) (e := 14 * k3 + 121) (by omega) (by omega) (by omega)) rfl rfl hdd (Nat.le_refl _) (Nat.le_refl _) (by decide) (pm_ki (fun v6 σ' cnt' hq => ?_))
      obtain ⟨rfl, rfl, rfl⟩ := hq
      obtain ⟨k7, hk7, ek7⟩ := KI.nat hn (show kd (14 * k3 + 121) = (1, 2, true) from (kd_P (k := k3) (c := 11) (by omega) (by omega) (by decide)))
      refine pm_top (v := nI k7) ek7 ?_
      refine pm_iconst (v := nI 1) hG dX12_seat_29 (by decide) ?_
      refine pm_icmpN_ne (tgt := 37) hG dX12_seat_30 rfl (by omega) (by omega) (fun c8 => ?_) (fun c8 => ?_)
      · refine pm_iconst (v := nI 0) hG dX12_seat_37 (by decide) ?_
        refine pm_iloadn hG dX12_seat_38 rfl ?_
        refine pm_icmpN_ne (tgt := 48) hG dX12_seat_39 rfl (by omega) (by omega) (fun q => absurd q (by omega)) (fun _ => ?_)
        refine pm_aloadn hG dX12_seat_42 rfl ?_
        refine pm_iconst (v := nI 3) hG dX12_seat_43 (by decide) ?_
        refine pm_callV (As := [.int (nI 3)]) (rest := []) hG hR dX12_seat_44 (lkX12_80 _ rfl) okV_X12_finds rfl rfl (m_finds (d := 1) (by decide) hn hz (by omega)) rfl rfl hdd (Nat.le_refl _) (Nat.le_refl _) (by decide) (pm_ki (fun v9 σ' cnt' hq => ?_))
        obtain ⟨⟨I10, A10, rfl⟩, rfl, fv9⟩ := hq
        exact pm_iret hG hF dX12_seat_47 rfl (Nat.le_refl _) (Nat.le_refl _) ⟨_, rfl, ⟨_, _, _, rfl, hn, hr, ekc0.trans ekc0.symm, ekc2.trans ekc2.symm, ekc7.trans ekc7.symm, ekc8.trans ekc8.symm, ⟨fv9.trans ((by decide : (-1000000 : Int32) - nI 3 = -1000003).trans (vSe0_b (T := mT n) (p := n 2) (x := za) (nt_in ekc2 (by omega) ek3 (by omega)) (Or.inr (((s13_0 ek3 (by omega)).trans ek7).trans (congrArg nI (show _ = 0 by omega))))).1), fun j _ => by rw [(vSe0_b (T := mT n) (p := n 2) (x := za) (nt_in ekc2 (by omega) ek3 (by omega)) (Or.inr (((s13_0 ek3 (by omega)).trans ek7).trans (congrArg nI (show _ = 0 by omega))))).2]⟩⟩, rfl⟩
      · refine pm_iconst (v := nI 1) hG dX12_seat_33 (by decide) ?_
        refine pm_goto (tgt := 38) hG dX12_seat_34 rfl ?_
        refine pm_iloadn hG dX12_seat_38 rfl ?_
        refine pm_icmpN_ne (tgt := 48) hG dX12_seat_39 rfl (by omega) (by omega) (fun _ => ?_) (fun q => absurd q (by omega))
        refine pm_iloadn hG dX12_seat_48 rfl ?_
        refine pm_ifN_eq (tgt := 67) hG dX12_seat_49 rfl (by omega) (fun _ => ?_) (fun q => absurd q (by omega))
        refine pm_iloadn hG dX12_seat_67 rfl ?_
        refine pm_ifN_eq (tgt := 82) hG dX12_seat_68 rfl (by omega) (fun _ => ?_) (fun q => absurd q (by omega))
        refine pm_aloadn hG dX12_seat_82 rfl ?_
        refine pm_iloadn hG dX12_seat_83 rfl ?_
        refine pm_top (v := nI k3) ek3 ?_
        refine pm_callV (As := [.int (nI k3)]) (rest := []) hG hR dX12_seat_84 (lkX12_107 _ rfl) okV_X12_leaves rfl rfl (m_leaves (d := 1) (by decide) hn hr hz (by omega)) rfl rfl hdd (Nat.le_refl _) (Nat.le_refl _) (by decide) (pm_kv (fun σ' cnt' hq => ?_))
        obtain ⟨⟨n_12, rfl, hn12, hr12, hc12_0, hc12_2, hc12_7, hc12_8, hx12⟩, rfl⟩ := hq
        have e13 : n_12 (14 * k3 + 119) = (-1) := (hx12.2 _ (by unfold tS; omega) (by omega) (by omega)).trans ek4
        have ks_14 := KSs.tr (a := 14 * k3 + 121) (b := 14 * k3 + 121) hx12.2 KSs.rf (by omega)
        have e15 : n_12 0 = nI kc0 := hc12_0.trans ekc0
        have e16 : n_12 2 = nI kc2 := hc12_2.trans ekc2
        have e17 : n_12 7 = nI kc7 := hc12_7.trans ekc7
        have e18 : n_12 8 = nI kc8 := hc12_8.trans ekc8
        refine pm_aloadn hG dX12_seat_87 rfl ?_
        refine pm_callV (As := []) (rest := []) hG hR dX12_seat_88 (lkX12_243 _ rfl) okV_X12_seatedMany rfl rfl (m_seatedMany (d := 1) (by decide) hn12 e16 (by omega)) rfl rfl hdd (Nat.le_refl _) (Nat.le_refl _) (by decide) (pm_ki (fun v19 σ' cnt' hq => ?_))
        obtain ⟨rfl, rfl, rfl⟩ := hq
        have h20 : stN n_12 kc2 ≤ 9 := Nat.le_trans (stN_mono (by omega)) hr12.2.2.1.1
        exact pm_iret hG hF dX12_seat_91 rfl (Nat.le_refl _) (Nat.le_refl _) ⟨_, rfl, ⟨_, _, _, rfl, hn12, hr12, e15.trans ekc0.symm, e16.trans ekc2.symm, e17.trans ekc7.symm, e18.trans ekc8.symm, ⟨(congrArg nI ((cS_st hn12 e16 (by omega)).symm.trans ((congrArg (cS (mT n_12)) (e16.trans ekc2.symm)).trans (cS_u ekc2 (by omega) (tW_y ek3 (by omega : k3 < kc2) (by omega) ks_14 hx12.1))))).trans (vSe0_d (T := mT n) (p := n 2) (x := za) (nt_in ekc2 (by omega) ek3 (by omega)) (fun q => q.elim (fun q => q (lv_y ek3 ekc2 (by omega) (by omega) ek4).2) (fun q => (fun q => absurd (nI_inj (b := 0) (by omega) (by omega) (((s13_0 ek3 (by omega)).trans ek7).symm.trans q)) (by omega)) q))).1, fun j hj => by rw [(vSe0_d (T := mT n) (p := n 2) (x := za) (nt_in ekc2 (by omega) ek3 (by omega)) (fun q => q.elim (fun q => q (lv_y ek3 ekc2 (by omega) (by omega) ek4).2) (fun q => (fun q => absurd (nI_inj (b := 0) (by omega) (by omega) (((s13_0 ek3 (by omega)).trans ek7).symm.trans q)) (by omega)) q))).2]; exact tW_y ek3 (by omega : k3 < kc2) (by omega) ks_14 hx12.1 j (by rw [ekc2, nI_clamp (by omega)] at hj; exact hj)⟩⟩, rfl⟩
    · refine pm_callV (As := [.int (nI k3)]) (rest := []) hG hR dX12_seat_16 (lkX12_101 _ rfl) okV_X12_lives rfl rfl (m_lives0 (d := 1) (by decide) (by omega) (by omega : 14 * k3 + 119 = 14 * k3 + 119) ek4 (by omega)) rfl rfl hdd (Nat.le_refl _) (Nat.le_refl _) (by decide) (pm_ki (fun v21 σ' cnt' hq => ?_))
      obtain ⟨rfl, rfl, rfl⟩ := hq
      refine pm_ifN_eq (tgt := 42) hG dX12_seat_19 rfl (by omega) (fun _ => ?_) (fun q => absurd q (by omega))
      refine pm_aloadn hG dX12_seat_42 rfl ?_
      refine pm_iconst (v := nI 3) hG dX12_seat_43 (by decide) ?_
      refine pm_callV (As := [.int (nI 3)]) (rest := []) hG hR dX12_seat_44 (lkX12_80 _ rfl) okV_X12_finds rfl rfl (m_finds (d := 1) (by decide) hn hz (by omega)) rfl rfl hdd (Nat.le_refl _) (Nat.le_refl _) (by decide) (pm_ki (fun v22 σ' cnt' hq => ?_))
      obtain ⟨⟨I23, A23, rfl⟩, rfl, fv22⟩ := hq
      exact pm_iret hG hF dX12_seat_47 rfl (Nat.le_refl _) (Nat.le_refl _) ⟨_, rfl, ⟨_, _, _, rfl, hn, hr, ekc0.trans ekc0.symm, ekc2.trans ekc2.symm, ekc7.trans ekc7.symm, ekc8.trans ekc8.symm, ⟨fv22.trans ((by decide : (-1000000 : Int32) - nI 3 = -1000003).trans (vSe0_b (T := mT n) (p := n 2) (x := za) (nt_in ekc2 (by omega) ek3 (by omega)) (Or.inl (lv_n ek3 (by omega) ek4 (by omega)))).1), fun j _ => by rw [(vSe0_b (T := mT n) (p := n 2) (x := za) (nt_in ekc2 (by omega) ek3 (by omega)) (Or.inl (lv_n ek3 (by omega) ek4 (by omega)))).2]⟩⟩, rfl⟩
  · refine pm_ifN_ne (tgt := 14) hG dX12_seat_5 rfl (by omega) (fun q => absurd q (by omega)) (fun _ => ?_)
    refine pm_aloadn hG dX12_seat_8 rfl ?_
    refine pm_iconst (v := nI 1) hG dX12_seat_9 (by decide) ?_
    refine pm_callV (As := [.int (nI 1)]) (rest := []) hG hR dX12_seat_10 (lkX12_80 _ rfl) okV_X12_finds rfl rfl (m_finds (d := 1) (by decide) hn hz (by omega)) rfl rfl hdd (Nat.le_refl _) (Nat.le_refl _) (by decide) (pm_ki (fun v24 σ' cnt' hq => ?_))
    obtain ⟨⟨I25, A25, rfl⟩, rfl, fv24⟩ := hq
    exact pm_iret hG hF dX12_seat_13 rfl (Nat.le_refl _) (Nat.le_refl _) ⟨_, rfl, ⟨_, _, _, rfl, hn, hr, ekc0.trans ekc0.symm, ekc2.trans ekc2.symm, ekc7.trans ekc7.symm, ekc8.trans ekc8.symm, ⟨fv24.trans ((by decide : (-1000000 : Int32) - nI 1 = -1000001).trans (vSe0_a (T := mT n) (p := n 2) (x := za) (nt_out ekc2 (by omega) ntk3)).1), fun j _ => by rw [(vSe0_a (T := mT n) (p := n 2) (x := za) (nt_out ekc2 (by omega) ntk3)).2]⟩⟩, rfl⟩
