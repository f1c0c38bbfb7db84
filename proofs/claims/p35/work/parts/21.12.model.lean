set_option maxRecDepth 100000 in
set_option maxHeartbeats 4000000 in
theorem m_letter {d B cnt p0 t0 : Nat} {σ : pm_S} {I : Nat → Int32} {A : Nat → Nat → Int32} {n k z : Nat → Int32} {ac wt pl im : Int32} {za zb : Int32} (hdd : 2 ≤ d) (hn : KI n) (hz : SZ z)  : pm_met mX12_letter d 0 0 B [.ref (B + 54), .int za, .int zb] cnt (pm_mid σ (md_L B I A n k z ac wt pl (nI p0) (nI t0) im)) (pm_Qi (fun v σ' cnt' => (∃ (I' : Nat → Int32) (A' : Nat → Nat → Int32), σ' = pm_mid σ (md_L B I' A' n k z ac wt pl (nI p0) (nI t0) im)) ∧ cnt = cnt')) := by
  refine pm_enter 0 (by decide) (Nat.le_of_ble_eq_true rfl) rfl (fun G hG hR hF => ?_)
  refine pm_aloadn hG dX12_letter_0 rfl ?_
  refine pm_iloadn hG dX12_letter_1 rfl ?_
  obtain ⟨k1, hk1, ek1⟩ := KI.nat hn (show kd 5 = (1, 41, true) by decide)
  refine pm_callV (As := [.int za]) (rest := []) hG hR dX12_letter_2 (lkX12_211 _ rfl) okV_X12_isLetter rfl rfl (m_isLetter (d := 1) (by decide) ek1 (by omega)) rfl rfl hdd (Nat.le_refl _) (Nat.le_refl _) (by decide) (pm_ki (fun v2 σ' cnt' hq => ?_))
  obtain ⟨hq, rfl, rfl⟩ := hq
  rcases hq with ⟨rfl, k4, hk4, ek4⟩ | rfl
  · refine pm_ifN_eq (tgt := 27) hG dX12_letter_5 rfl (by omega) (fun q => absurd q (by omega)) (fun _ => ?_)
    refine pm_iloadn hG dX12_letter_8 rfl ?_
    refine pm_iconst (v := nI 0) hG dX12_letter_9 (by decide) ?_
    refine pm_bipush (v := nI 9) hG dX12_letter_10 (by decide) ?_
    refine pm_callS (As := [.int zb, .int (nI 0), .int (nI 9)]) (rest := []) hG hR dX12_letter_12 (lkX12_68 _ rfl) okS_X12_in (m_in (d := 1)) rfl rfl hdd (Nat.le_refl _) (Nat.le_refl _) (by decide) (pm_ki (fun v5 σ' cnt' hq => ?_))
    obtain ⟨hq, rfl, rfl⟩ := hq
    rcases hq with ⟨rfl, ac6, bc6⟩ | ⟨rfl, c6⟩
    · obtain ⟨k7, hk7, ek7⟩ := in_nat (by omega) (by omega) ac6 bc6
      refine pm_ifN_eq (tgt := 27) hG dX12_letter_15 rfl (by omega) (fun q => absurd q (by omega)) (fun _ => ?_)
      refine pm_aloadn hG dX12_letter_18 rfl ?_
      refine pm_iloadn hG dX12_letter_19 rfl ?_
      refine pm_top (v := nI k4) ek4 ?_
      refine pm_iloadn hG dX12_letter_20 rfl ?_
      refine pm_top (v := nI k7) ek7 ?_
      refine pm_callV (As := [.int (nI k4), .int (nI k7)]) (rest := []) hG hR dX12_letter_21 (lkX12_199 _ rfl) okV_X12_of rfl rfl (m_of (d := 1) (e := 12 * k4 + k7 + 1290) (by omega) (by omega) (by omega)) rfl rfl hdd (Nat.le_refl _) (Nat.le_refl _) (by decide) (pm_ki (fun v8 σ' cnt' hq => ?_))
      obtain ⟨rfl, rfl, rfl⟩ := hq
      refine pm_gen (fun x9 ex9 => ?_)
      refine pm_goto (tgt := 32) hG dX12_letter_24 rfl ?_
      exact pm_iret hG hF dX12_letter_32 rfl (Nat.le_refl _) (Nat.le_refl _) ⟨_, rfl, ⟨_, _, rfl⟩, rfl⟩
    · refine pm_ifN_eq (tgt := 27) hG dX12_letter_15 rfl (by omega) (fun _ => ?_) (fun q => absurd q (by omega))
      refine pm_aloadn hG dX12_letter_27 rfl ?_
      refine pm_iconst (v := nI 1) hG dX12_letter_28 (by decide) ?_
      refine pm_callV (As := [.int (nI 1)]) (rest := []) hG hR dX12_letter_29 (lkX12_80 _ rfl) okV_X12_finds rfl rfl (m_finds (d := 1) (by decide) hn hz (by omega)) rfl rfl hdd (Nat.le_refl _) (Nat.le_refl _) (by decide) (pm_ki (fun v10 σ' cnt' hq => ?_))
      obtain ⟨⟨I11, A11, rfl⟩, rfl, fv10⟩ := hq
      exact pm_iret hG hF dX12_letter_32 rfl (Nat.le_refl _) (Nat.le_refl _) ⟨_, rfl, ⟨_, _, rfl⟩, rfl⟩
  · refine pm_ifN_eq (tgt := 27) hG dX12_letter_5 rfl (by omega) (fun _ => ?_) (fun q => absurd q (by omega))
    refine pm_aloadn hG dX12_letter_27 rfl ?_
    refine pm_iconst (v := nI 1) hG dX12_letter_28 (by decide) ?_
    refine pm_callV (As := [.int (nI 1)]) (rest := []) hG hR dX12_letter_29 (lkX12_80 _ rfl) okV_X12_finds rfl rfl (m_finds (d := 1) (by decide) hn hz (by omega)) rfl rfl hdd (Nat.le_refl _) (Nat.le_refl _) (by decide) (pm_ki (fun v12 σ' cnt' hq => ?_))
    obtain ⟨⟨I13, A13, rfl⟩, rfl, fv12⟩ := hq
    exact pm_iret hG hF dX12_letter_32 rfl (Nat.le_refl _) (Nat.le_refl _) ⟨_, rfl, ⟨_, _, rfl⟩, rfl⟩

set_option maxRecDepth 100000 in
set_option maxHeartbeats 4000000 in
theorem m_men {d B cnt p0 t0 : Nat} {σ : pm_S} {I : Nat → Int32} {A : Nat → Nat → Int32} {n k z : Nat → Int32} {ac wt pl im : Int32} {za zb : Int32} (hdd : 2 ≤ d) (hn : KI n) (hr : NR n) (hz : SZ z)  : pm_met mX12_men d 0 0 B [.ref (B + 54), .int za, .int zb] cnt (pm_mid σ (md_L B I A n k z ac wt pl (nI p0) (nI t0) im)) (pm_Qi (fun v σ' cnt' => (∃ (I' : Nat → Int32) (A' : Nat → Nat → Int32) (n' : Nat → Int32), σ' = pm_mid σ (md_L B I' A' n' k z ac wt pl (nI p0) (nI t0) im) ∧ KI n' ∧ NR n' ∧ n' 0 = n 0 ∧ n' 2 = n 2 ∧ n' 7 = n 7 ∧ n' 8 = n 8 ∧ KS n' n) ∧ cnt = cnt')) := by
  obtain ⟨kc0, hkc0, ekc0⟩ := KI.nat hn (show kd 0 = (1, 11, true) by decide)
  obtain ⟨kc2, hkc2, ekc2⟩ := KI.nat hn (show kd 2 = (1, 21, true) by decide)
  obtain ⟨kc7, hkc7, ekc7⟩ := KI.nat hn (show kd 7 = (1, 31, false) by decide)
  obtain ⟨kc8, hkc8, ekc8⟩ := KI.nat hn (show kd 8 = (1, 2001, false) by decide)
  refine pm_enter 0 (by decide) (Nat.le_of_ble_eq_true rfl) rfl (fun G hG hR hF => ?_)
  refine pm_aloadn hG dX12_men_0 rfl ?_
  refine pm_iloadn hG dX12_men_1 rfl ?_
  refine pm_callV (As := [.int za]) (rest := []) hG hR dX12_men_2 (lkX12_91 _ rfl) okV_X12_isPerson rfl rfl (m_isPerson (d := 1) (by decide) ekc2 (by omega)) rfl rfl hdd (Nat.le_refl _) (Nat.le_refl _) (by decide) (pm_ki (fun v1 σ' cnt' hq => ?_))
  obtain ⟨hq, rfl, rfl⟩ := hq
  rcases hq with ⟨rfl, k3, hk3, ek3⟩ | ⟨rfl, ntk3⟩
  · refine pm_ifN_eq (tgt := 19) hG dX12_men_5 rfl (by omega) (fun q => absurd q (by omega)) (fun _ => ?_)
    refine pm_iloadn hG dX12_men_8 rfl ?_
    refine pm_bipush (v := (-99)) hG dX12_men_9 (by decide) ?_
    refine pm_bipush (v := nI 99) hG dX12_men_11 (by decide) ?_
    refine pm_callS (As := [.int zb, .int (-99), .int (nI 99)]) (rest := []) hG hR dX12_men_13 (lkX12_68 _ rfl) okS_X12_in (m_in (d := 1)) rfl rfl hdd (Nat.le_refl _) (Nat.le_refl _) (by decide) (pm_ki (fun v4 σ' cnt' hq => ?_))
    obtain ⟨hq, rfl, rfl⟩ := hq
    rcases hq with ⟨rfl, ac5, bc5⟩ | ⟨rfl, c5⟩
    · refine pm_ifN_ne (tgt := 25) hG dX12_men_16 rfl (by omega) (fun _ => ?_) (fun q => absurd q (by omega))
      refine pm_aloadn hG dX12_men_25 rfl ?_
      refine pm_iloadn hG dX12_men_26 rfl ?_
      refine pm_top (v := nI k3) ek3 ?_
      rcases KI.opt hn (show kd (14 * k3 + 119) = (2, 2001, false) from (kd_P (k := k3) (c := 9) (by omega) (by omega) (by decide))) with ek6 | ⟨k6, hk6, ek6⟩
      · refine pm_callV (As := [.int (nI k3)]) (rest := []) hG hR dX12_men_27 (lkX12_101 _ rfl) okV_X12_lives rfl rfl (m_lives1 (d := 1) (by decide) (by omega) (by omega : 14 * k3 + 119 = 14 * k3 + 119) ek6) rfl rfl hdd (Nat.le_refl _) (Nat.le_refl _) (by decide) (pm_ki (fun v7 σ' cnt' hq => ?_))
        obtain ⟨rfl, rfl, rfl⟩ := hq
        refine pm_ifN_ne (tgt := 39) hG dX12_men_30 rfl (by omega) (fun _ => ?_) (fun q => absurd q (by omega))
        refine pm_aloadn hG dX12_men_39 rfl ?_
        refine pm_iloadn hG dX12_men_40 rfl ?_
        refine pm_top (v := nI k3) ek3 ?_
        refine pm_bipush (v := nI 8) hG dX12_men_41 (by decide) ?_
        refine pm_callV (As := [.int (nI k3), .int (nI 8)]) (rest := []) hG hR dX12_men_43 (lkX12_72 _ rfl) okV_X12_man rfl rfl (m_man (d := 1) (e := 14 * k3 + 118) (by omega) (by omega) (by omega)) rfl rfl hdd (Nat.le_refl _) (Nat.le_refl _) (by decide) (pm_ki (fun v8 σ' cnt' hq => ?_))
        obtain ⟨rfl, rfl, rfl⟩ := hq
        refine pm_gen (fun x9 ex9 => ?_)
        refine pm_iloadn hG dX12_men_46 rfl ?_
        refine pm_iadd hG dX12_men_47 ?_
        refine pm_iconst (v := nI 0) hG dX12_men_48 (by decide) ?_
        refine pm_sipush (v := nI 999) hG dX12_men_49 (by decide) ?_
        refine pm_callS (As := [.int (x9 + zb), .int (nI 0), .int (nI 999)]) (rest := []) hG hR dX12_men_52 (lkX12_68 _ rfl) okS_X12_in (m_in (d := 1)) rfl rfl hdd (Nat.le_refl _) (Nat.le_refl _) (by decide) (pm_ki (fun v10 σ' cnt' hq => ?_))
        obtain ⟨hq, rfl, rfl⟩ := hq
        rcases hq with ⟨rfl, ac11, bc11⟩ | ⟨rfl, c11⟩
        · obtain ⟨k12, hk12, ek12⟩ := in_nat (by omega) (by omega) ac11 bc11
          refine pm_ifN_ne (tgt := 64) hG dX12_men_55 rfl (by omega) (fun _ => ?_) (fun q => absurd q (by omega))
          refine pm_aloadn hG dX12_men_64 rfl ?_
          refine pm_iloadn hG dX12_men_65 rfl ?_
          refine pm_top (v := nI k3) ek3 ?_
          refine pm_bipush (v := nI 8) hG dX12_men_66 (by decide) ?_
          refine pm_aloadn hG dX12_men_68 rfl ?_
          refine pm_iloadn hG dX12_men_69 rfl ?_
          refine pm_top (v := nI k3) ek3 ?_
          refine pm_bipush (v := nI 8) hG dX12_men_70 (by decide) ?_
          refine pm_callV (As := [.int (nI k3), .int (nI 8)]) (rest := [.int (nI 8), .int (nI k3), .ref (B + 54)]) hG hR dX12_men_72 (lkX12_72 _ rfl) okV_X12_man rfl rfl (m_man (d := 1) (e := 14 * k3 + 118) (by omega) (by omega) (by omega)) rfl rfl hdd (Nat.le_refl _) (Nat.le_refl _) (Nat.le_of_ble_eq_true rfl) (pm_ki (fun v13 σ' cnt' hq => ?_))
          obtain ⟨rfl, rfl, rfl⟩ := hq
          refine pm_top (v := x9) ex9 ?_
          refine pm_iloadn hG dX12_men_75 rfl ?_
          refine pm_iadd hG dX12_men_76 ?_
          refine pm_top (v := nI k12) ek12 ?_
          refine pm_callV (As := [.int (nI k3), .int (nI 8), .int (nI k12)]) (rest := []) hG hR dX12_men_77 (lkX12_97 _ rfl) okV_X12_sets rfl rfl (m_sets (d := 1) (e := 14 * k3 + 118) (by omega) (by omega) (by omega)) rfl rfl hdd (Nat.le_refl _) (Nat.le_refl _) (by decide) (pm_kv (fun σ' cnt' hq => ?_))
          obtain ⟨rfl, rfl⟩ := hq
          obtain ⟨n_14, en_14⟩ : ∃ f : Nat → Int32, f = upd n (14 * k3 + 118) (nI k12) := ⟨_, rfl⟩
          rw [← en_14]
          have hnn_14 := KI.w en_14 hn (okv_f (show kd (14 * k3 + 118) = (0, 0, false) from (kd_P (k := k3) (c := 8) (by omega) (by omega) (by decide))))
          have hrn_14 := NRx.w en_14 hr (by rw [(show kd (14 * k3 + 118) = (0, 0, false) from (kd_P (k := k3) (c := 8) (by omega) (by omega) (by decide)))])
          have ksn_14 := KS.w en_14 KS.rf (by unfold tS; omega)
          have e15 : n_14 0 = nI kc0 := by rw [en_14, pk_un (by omega)]; exact ekc0
          have e16 : n_14 2 = nI kc2 := by rw [en_14, pk_un (by omega)]; exact ekc2
          have e17 : n_14 7 = nI kc7 := by rw [en_14, pk_un (by omega)]; exact ekc7
          have e18 : n_14 8 = nI kc8 := by rw [en_14, pk_un (by omega)]; exact ekc8
          have e19 : n_14 (14 * k3 + 119) = (-1) := by rw [en_14, pk_un (by omega)]; exact ek6
          have e20 : n_14 (14 * k3 + 118) = nI k12 := by rw [en_14, pk_us]
          refine pm_aloadn hG dX12_men_80 rfl ?_
          refine pm_iloadn hG dX12_men_81 rfl ?_
          refine pm_top (v := nI k3) ek3 ?_
          refine pm_bipush (v := nI 8) hG dX12_men_82 (by decide) ?_
          refine pm_callV (As := [.int (nI k3), .int (nI 8)]) (rest := []) hG hR dX12_men_84 (lkX12_72 _ rfl) okV_X12_man rfl rfl (m_man (d := 1) (e := 14 * k3 + 118) (by omega) (by omega) (by omega)) rfl rfl hdd (Nat.le_refl _) (Nat.le_refl _) (by decide) (pm_ki (fun v21 σ' cnt' hq => ?_))
          obtain ⟨rfl, rfl, rfl⟩ := hq
          refine pm_top (v := nI k12) e20 ?_
          exact pm_iret hG hF dX12_men_87 rfl (Nat.le_refl _) (Nat.le_refl _) ⟨_, rfl, ⟨_, _, _, rfl, hnn_14, hrn_14, e15.trans ekc0.symm, e16.trans ekc2.symm, e17.trans ekc7.symm, e18.trans ekc8.symm, ksn_14⟩, rfl⟩
        · refine pm_ifN_ne (tgt := 64) hG dX12_men_55 rfl (by omega) (fun q => absurd q (by omega)) (fun _ => ?_)
          refine pm_aloadn hG dX12_men_58 rfl ?_
          refine pm_iconst (v := nI 1) hG dX12_men_59 (by decide) ?_
          refine pm_callV (As := [.int (nI 1)]) (rest := []) hG hR dX12_men_60 (lkX12_80 _ rfl) okV_X12_finds rfl rfl (m_finds (d := 1) (by decide) hn hz (by omega)) rfl rfl hdd (Nat.le_refl _) (Nat.le_refl _) (by decide) (pm_ki (fun v22 σ' cnt' hq => ?_))
          obtain ⟨⟨I23, A23, rfl⟩, rfl, fv22⟩ := hq
          exact pm_iret hG hF dX12_men_63 rfl (Nat.le_refl _) (Nat.le_refl _) ⟨_, rfl, ⟨_, _, _, rfl, hn, hr, ekc0.trans ekc0.symm, ekc2.trans ekc2.symm, ekc7.trans ekc7.symm, ekc8.trans ekc8.symm, KS.rf⟩, rfl⟩
      · refine pm_callV (As := [.int (nI k3)]) (rest := []) hG hR dX12_men_27 (lkX12_101 _ rfl) okV_X12_lives rfl rfl (m_lives0 (d := 1) (by decide) (by omega) (by omega : 14 * k3 + 119 = 14 * k3 + 119) ek6 (by omega)) rfl rfl hdd (Nat.le_refl _) (Nat.le_refl _) (by decide) (pm_ki (fun v24 σ' cnt' hq => ?_))
        obtain ⟨rfl, rfl, rfl⟩ := hq
        refine pm_ifN_ne (tgt := 39) hG dX12_men_30 rfl (by omega) (fun q => absurd q (by omega)) (fun _ => ?_)
        refine pm_aloadn hG dX12_men_33 rfl ?_
        refine pm_iconst (v := nI 3) hG dX12_men_34 (by decide) ?_
        refine pm_callV (As := [.int (nI 3)]) (rest := []) hG hR dX12_men_35 (lkX12_80 _ rfl) okV_X12_finds rfl rfl (m_finds (d := 1) (by decide) hn hz (by omega)) rfl rfl hdd (Nat.le_refl _) (Nat.le_refl _) (by decide) (pm_ki (fun v25 σ' cnt' hq => ?_))
        obtain ⟨⟨I26, A26, rfl⟩, rfl, fv25⟩ := hq
        exact pm_iret hG hF dX12_men_38 rfl (Nat.le_refl _) (Nat.le_refl _) ⟨_, rfl, ⟨_, _, _, rfl, hn, hr, ekc0.trans ekc0.symm, ekc2.trans ekc2.symm, ekc7.trans ekc7.symm, ekc8.trans ekc8.symm, KS.rf⟩, rfl⟩
    · refine pm_ifN_ne (tgt := 25) hG dX12_men_16 rfl (by omega) (fun q => absurd q (by omega)) (fun _ => ?_)
      refine pm_aloadn hG dX12_men_19 rfl ?_
      refine pm_iconst (v := nI 1) hG dX12_men_20 (by decide) ?_
      refine pm_callV (As := [.int (nI 1)]) (rest := []) hG hR dX12_men_21 (lkX12_80 _ rfl) okV_X12_finds rfl rfl (m_finds (d := 1) (by decide) hn hz (by omega)) rfl rfl hdd (Nat.le_refl _) (Nat.le_refl _) (by decide) (pm_ki (fun v27 σ' cnt' hq => ?_))
      obtain ⟨⟨I28, A28, rfl⟩, rfl, fv27⟩ := hq
      exact pm_iret hG hF dX12_men_24 rfl (Nat.le_refl _) (Nat.le_refl _) ⟨_, rfl, ⟨_, _, _, rfl, hn, hr, ekc0.trans ekc0.symm, ekc2.trans ekc2.symm, ekc7.trans ekc7.symm, ekc8.trans ekc8.symm, KS.rf⟩, rfl⟩
  · refine pm_ifN_eq (tgt := 19) hG dX12_men_5 rfl (by omega) (fun _ => ?_) (fun q => absurd q (by omega))
    refine pm_aloadn hG dX12_men_19 rfl ?_
    refine pm_iconst (v := nI 1) hG dX12_men_20 (by decide) ?_
    refine pm_callV (As := [.int (nI 1)]) (rest := []) hG hR dX12_men_21 (lkX12_80 _ rfl) okV_X12_finds rfl rfl (m_finds (d := 1) (by decide) hn hz (by omega)) rfl rfl hdd (Nat.le_refl _) (Nat.le_refl _) (by decide) (pm_ki (fun v29 σ' cnt' hq => ?_))
    obtain ⟨⟨I30, A30, rfl⟩, rfl, fv29⟩ := hq
    exact pm_iret hG hF dX12_men_24 rfl (Nat.le_refl _) (Nat.le_refl _) ⟨_, rfl, ⟨_, _, _, rfl, hn, hr, ekc0.trans ekc0.symm, ekc2.trans ekc2.symm, ekc7.trans ekc7.symm, ekc8.trans ekc8.symm, KS.rf⟩, rfl⟩

set_option maxRecDepth 100000 in
set_option maxHeartbeats 4000000 in
theorem m_move {d B cnt p0 t0 : Nat} {σ : pm_S} {I : Nat → Int32} {A : Nat → Nat → Int32} {n k z : Nat → Int32} {ac wt pl im : Int32} {za zb zc zd ze : Int32} (hdd : 2 ≤ d) (hn : KI n) (hz : SZ z)  : pm_met mX12_move d 0 0 B [.ref (B + 54), .int za, .int zb, .int zc, .int zd, .int ze] cnt (pm_mid σ (md_L B I A n k z ac wt pl (nI p0) (nI t0) im)) (pm_Qi (fun v σ' cnt' => (∃ (I' : Nat → Int32) (A' : Nat → Nat → Int32), σ' = pm_mid σ (md_L B I' A' n k z ac wt pl (nI p0) (nI t0) im)) ∧ cnt = cnt')) := by
  refine pm_enter 1 (by decide) (Nat.le_of_ble_eq_true rfl) rfl (fun G hG hR hF => ?_)
  refine pm_iloadn hG dX12_move_0 rfl ?_
  refine pm_callS (As := [.int za]) (rest := []) hG hR dX12_move_1 (lkX12_239 _ rfl) okS_X12_isSheet (m_isSheet (d := 1) (by decide)) rfl rfl hdd (Nat.le_refl _) (Nat.le_refl _) (by decide) (pm_ki (fun v1 σ' cnt' hq => ?_))
  obtain ⟨hq, rfl, rfl⟩ := hq
  rcases hq with ⟨rfl, ac2, bc2⟩ | ⟨rfl, c2⟩
  · obtain ⟨k3, hk3, ek3⟩ := in_nat (by omega) (by omega) ac2 bc2
    refine pm_ifN_eq (tgt := 14) hG dX12_move_4 rfl (by omega) (fun q => absurd q (by omega)) (fun _ => ?_)
    refine pm_iloadn hG dX12_move_7 rfl ?_
    refine pm_callS (As := [.int zc]) (rest := []) hG hR dX12_move_8 (lkX12_239 _ rfl) okS_X12_isSheet (m_isSheet (d := 1) (by decide)) rfl rfl hdd (Nat.le_refl _) (Nat.le_refl _) (by decide) (pm_ki (fun v4 σ' cnt' hq => ?_))
    obtain ⟨hq, rfl, rfl⟩ := hq
    rcases hq with ⟨rfl, ac5, bc5⟩ | ⟨rfl, c5⟩
    · obtain ⟨k6, hk6, ek6⟩ := in_nat (by omega) (by omega) ac5 bc5
      refine pm_ifN_ne (tgt := 20) hG dX12_move_11 rfl (by omega) (fun _ => ?_) (fun q => absurd q (by omega))
      refine pm_aloadn hG dX12_move_20 rfl ?_
      refine pm_getf hG dX12_move_21 (flX12_55 _ rfl) rfl rfl ?_
      refine pm_iloadn hG dX12_move_24 rfl ?_
      refine pm_top (v := nI k3) ek3 ?_
      refine pm_ialdN hG dX12_move_25 rfl (by decide) (by omega) ?_
      refine pm_any (fun x7 => ?_)
      refine pm_if_eq (tgt := 38) hG dX12_move_26 rfl (fun c8 => ?_) (fun c8 => ?_)
      · refine pm_aloadn hG dX12_move_38 rfl ?_
        refine pm_iconst (v := nI 2) hG dX12_move_39 (by decide) ?_
        refine pm_callV (As := [.int (nI 2)]) (rest := []) hG hR dX12_move_40 (lkX12_80 _ rfl) okV_X12_finds rfl rfl (m_finds (d := 1) (by decide) hn hz (by omega)) rfl rfl hdd (Nat.le_refl _) (Nat.le_refl _) (by decide) (pm_ki (fun v9 σ' cnt' hq => ?_))
        obtain ⟨⟨I10, A10, rfl⟩, rfl, fv9⟩ := hq
        exact pm_iret hG hF dX12_move_43 rfl (Nat.le_refl _) (Nat.le_refl _) ⟨_, rfl, ⟨_, _, rfl⟩, rfl⟩
      · refine pm_aloadn hG dX12_move_29 rfl ?_
        refine pm_getf hG dX12_move_30 (flX12_55 _ rfl) rfl rfl ?_
        refine pm_iloadn hG dX12_move_33 rfl ?_
        refine pm_top (v := nI k6) ek6 ?_
        refine pm_ialdN hG dX12_move_34 rfl (by decide) (by omega) ?_
        refine pm_any (fun x11 => ?_)
        refine pm_if_ne (tgt := 44) hG dX12_move_35 rfl (fun c12 => ?_) (fun c12 => ?_)
        · refine pm_aloadn hG dX12_move_44 rfl ?_
          refine pm_getf hG dX12_move_45 (flX12_55 _ rfl) rfl rfl ?_
          refine pm_iloadn hG dX12_move_48 rfl ?_
          refine pm_top (v := nI k3) ek3 ?_
          refine pm_ialdN hG dX12_move_49 rfl (by decide) (by omega) ?_
          refine pm_any (fun x13 => ?_)
          refine pm_aloadn hG dX12_move_50 rfl ?_
          refine pm_getf hG dX12_move_51 (flX12_55 _ rfl) rfl rfl ?_
          refine pm_iloadn hG dX12_move_54 rfl ?_
          refine pm_top (v := nI k6) ek6 ?_
          refine pm_ialdN hG dX12_move_55 rfl (by decide) (by omega) ?_
          refine pm_any (fun x14 => ?_)
          refine pm_icmp_eq (tgt := 65) hG dX12_move_56 rfl (fun c15 => ?_) (fun c15 => ?_)
          · refine pm_iloadi hG dX12_move_65 rfl ?_
            refine pm_if_lt (tgt := 114) hG dX12_move_67 rfl (fun c16 => ?_) (fun c16 => ?_)
            · refine pm_aloadn hG dX12_move_114 rfl ?_
              refine pm_iconst (v := nI 1) hG dX12_move_115 (by decide) ?_
              refine pm_callV (As := [.int (nI 1)]) (rest := []) hG hR dX12_move_116 (lkX12_80 _ rfl) okV_X12_finds rfl rfl (m_finds (d := 1) (by decide) hn hz (by omega)) rfl rfl hdd (Nat.le_refl _) (Nat.le_refl _) (by decide) (pm_ki (fun v17 σ' cnt' hq => ?_))
              obtain ⟨⟨I18, A18, rfl⟩, rfl, fv17⟩ := hq
              exact pm_iret hG hF dX12_move_119 rfl (Nat.le_refl _) (Nat.le_refl _) ⟨_, rfl, ⟨_, _, rfl⟩, rfl⟩
            · obtain ⟨k19, hk19, ek19⟩ := nI_of c16
              refine pm_iloadn hG dX12_move_70 rfl ?_
              refine pm_if_lt (tgt := 114) hG dX12_move_71 rfl (fun c20 => ?_) (fun c20 => ?_)
              · refine pm_aloadn hG dX12_move_114 rfl ?_
                refine pm_iconst (v := nI 1) hG dX12_move_115 (by decide) ?_
                refine pm_callV (As := [.int (nI 1)]) (rest := []) hG hR dX12_move_116 (lkX12_80 _ rfl) okV_X12_finds rfl rfl (m_finds (d := 1) (by decide) hn hz (by omega)) rfl rfl hdd (Nat.le_refl _) (Nat.le_refl _) (by decide) (pm_ki (fun v21 σ' cnt' hq => ?_))
                obtain ⟨⟨I22, A22, rfl⟩, rfl, fv21⟩ := hq
                exact pm_iret hG hF dX12_move_119 rfl (Nat.le_refl _) (Nat.le_refl _) ⟨_, rfl, ⟨_, _, rfl⟩, rfl⟩
              · obtain ⟨k23, hk23, ek23⟩ := nI_of c20
                refine pm_iloadi hG dX12_move_74 rfl ?_
                refine pm_if_lt (tgt := 114) hG dX12_move_76 rfl (fun c24 => ?_) (fun c24 => ?_)
                · refine pm_aloadn hG dX12_move_114 rfl ?_
                  refine pm_iconst (v := nI 1) hG dX12_move_115 (by decide) ?_
                  refine pm_callV (As := [.int (nI 1)]) (rest := []) hG hR dX12_move_116 (lkX12_80 _ rfl) okV_X12_finds rfl rfl (m_finds (d := 1) (by decide) hn hz (by omega)) rfl rfl hdd (Nat.le_refl _) (Nat.le_refl _) (by decide) (pm_ki (fun v25 σ' cnt' hq => ?_))
                  obtain ⟨⟨I26, A26, rfl⟩, rfl, fv25⟩ := hq
                  exact pm_iret hG hF dX12_move_119 rfl (Nat.le_refl _) (Nat.le_refl _) ⟨_, rfl, ⟨_, _, rfl⟩, rfl⟩
                · obtain ⟨k27, hk27, ek27⟩ := nI_of c24
                  refine pm_iloadn hG dX12_move_79 rfl ?_
                  refine pm_top (v := nI k23) ek23 ?_
                  refine pm_i2l hG dX12_move_80 rfl ?_
                  refine pm_iloadi hG dX12_move_81 rfl ?_
                  refine pm_top (v := nI k19) ek19 ?_
                  refine pm_i2l hG dX12_move_83 rfl ?_
                  refine pm_ladd hG dX12_move_84 ?_
                  refine pm_aloadn hG dX12_move_85 rfl ?_
                  refine pm_getf hG dX12_move_86 (flX12_58 _ rfl) rfl rfl ?_
                  refine pm_iloadn hG dX12_move_89 rfl ?_
                  refine pm_top (v := nI k3) ek3 ?_
                  refine pm_ialdN hG dX12_move_90 rfl (by decide) (by omega) ?_
                  obtain ⟨k28, hk28, ek28⟩ := hz k3 (by omega)
                  refine pm_top (v := nI k28) ek28 ?_
                  refine pm_i2l hG dX12_move_91 rfl ?_
                  refine pm_lcmp hG dX12_move_92 ?_
                  refine pm_if_gt (tgt := 114) hG dX12_move_93 rfl (fun c29 => ?_) (fun c29 => ?_)
                  · refine pm_aloadn hG dX12_move_114 rfl ?_
                    refine pm_iconst (v := nI 1) hG dX12_move_115 (by decide) ?_
                    refine pm_callV (As := [.int (nI 1)]) (rest := []) hG hR dX12_move_116 (lkX12_80 _ rfl) okV_X12_finds rfl rfl (m_finds (d := 1) (by decide) hn hz (by omega)) rfl rfl hdd (Nat.le_refl _) (Nat.le_refl _) (by decide) (pm_ki (fun v30 σ' cnt' hq => ?_))
                    obtain ⟨⟨I31, A31, rfl⟩, rfl, fv30⟩ := hq
                    exact pm_iret hG hF dX12_move_119 rfl (Nat.le_refl _) (Nat.le_refl _) ⟨_, rfl, ⟨_, _, rfl⟩, rfl⟩
                  · have lc29 := lcmp_le (by omega) (by omega) (by omega) c29
                    refine pm_iloadi hG dX12_move_96 rfl ?_
                    refine pm_top (v := nI k27) ek27 ?_
                    refine pm_i2l hG dX12_move_98 rfl ?_
                    refine pm_iloadi hG dX12_move_99 rfl ?_
                    refine pm_top (v := nI k19) ek19 ?_
                    refine pm_i2l hG dX12_move_101 rfl ?_
                    refine pm_ladd hG dX12_move_102 ?_
                    refine pm_aloadn hG dX12_move_103 rfl ?_
                    refine pm_getf hG dX12_move_104 (flX12_58 _ rfl) rfl rfl ?_
                    refine pm_iloadn hG dX12_move_107 rfl ?_
                    refine pm_top (v := nI k6) ek6 ?_
                    refine pm_ialdN hG dX12_move_108 rfl (by decide) (by omega) ?_
                    obtain ⟨k32, hk32, ek32⟩ := hz k6 (by omega)
                    refine pm_top (v := nI k32) ek32 ?_
                    refine pm_i2l hG dX12_move_109 rfl ?_
                    refine pm_lcmp hG dX12_move_110 ?_
                    refine pm_if_le (tgt := 120) hG dX12_move_111 rfl (fun c33 => ?_) (fun c33 => ?_)
                    · have lc33 := lcmp_le (by omega) (by omega) (by omega) (Int32.not_lt.mpr c33)
                      refine pm_iconst (v := nI 0) hG dX12_move_120 (by decide) ?_
                      refine pm_istoreXi (loc' := [some (.ref (B + 54)), some (.int za), some (.int zb), some (.int zc), some (.int zd), some (.int ze), some (.int (nI 0))]) hG dX12_move_121 (by decide) (pm_c1b rfl) rfl ?_
                      have loop123_34 : ∀ (m34 : Nat) (I34 : Nat → Int32) (A34 : Nat → Nat → Int32) (i34 : Nat), i34 ≤ 2147483647 → 2147483647 - i34 < m34 → pm_wp mX12_move G B 123 [some (.ref (B + 54)), some (.int za), some (.int zb), some (.int zc), some (.int zd), some (.int ze), some (.int (nI i34))] [] 0 0 cnt (pm_mid σ (md_L B I34 A34 n k z ac wt pl (nI p0) (nI t0) im)) := by
                        intro m34
                        induction m34 with
                        | zero => intro I34 A34 i34 _ hm; exact absurd hm (Nat.not_lt_zero _)
                        | succ m34 ih34 =>
                          intro I34 A34 i34 hi34 hm34
                          refine pm_iloadi hG dX12_move_123 rfl ?_
                          refine pm_iloadi hG dX12_move_125 rfl ?_
                          refine pm_top (v := nI k19) ek19 ?_
                          refine pm_icmpN_ge (tgt := 157) hG dX12_move_127 rfl (by omega) (by omega) (fun c35 => ?_) (fun c35 => ?_)
                          · refine pm_iconst (v := nI 0) hG dX12_move_157 (by decide) ?_
                            refine pm_istoreXi (loc' := [some (.ref (B + 54)), some (.int za), some (.int zb), some (.int zc), some (.int zd), some (.int ze), some (.int (nI 0))]) hG dX12_move_158 (by decide) (pm_c1b rfl) rfl ?_
                            have loop160_36 : ∀ (m36 : Nat) (I36 : Nat → Int32) (A36 : Nat → Nat → Int32) (i36 : Nat), i36 ≤ 2147483647 → 2147483647 - i36 < m36 → pm_wp mX12_move G B 160 [some (.ref (B + 54)), some (.int za), some (.int zb), some (.int zc), some (.int zd), some (.int ze), some (.int (nI i36))] [] 0 0 cnt (pm_mid σ (md_L B I36 A36 n k z ac wt pl (nI p0) (nI t0) im)) := by
                              intro m36
                              induction m36 with
                              | zero => intro I36 A36 i36 _ hm; exact absurd hm (Nat.not_lt_zero _)
                              | succ m36 ih36 =>
                                intro I36 A36 i36 hi36 hm36
                                refine pm_iloadi hG dX12_move_160 rfl ?_
                                refine pm_iloadi hG dX12_move_162 rfl ?_
                                refine pm_top (v := nI k19) ek19 ?_
                                refine pm_icmpN_ge (tgt := 195) hG dX12_move_164 rfl (by omega) (by omega) (fun c37 => ?_) (fun c37 => ?_)
                                · refine pm_iloadi hG dX12_move_195 rfl ?_
                                  refine pm_top (v := nI k19) ek19 ?_
                                  exact pm_iret hG hF dX12_move_197 rfl (Nat.le_refl _) (Nat.le_refl _) ⟨_, rfl, ⟨_, _, rfl⟩, rfl⟩
                                · refine pm_aloadn hG dX12_move_167 rfl ?_
                                  refine pm_getf hG dX12_move_168 (flX12_61 _ rfl) rfl rfl ?_
                                  refine pm_bipush (v := nI 24) hG dX12_move_171 (by decide) ?_
                                  refine pm_iloadn hG dX12_move_173 rfl ?_
                                  refine pm_top (v := nI k6) ek6 ?_
                                  refine pm_imulN (c := 24 * k6) hG dX12_move_174 (by omega) ?_
                                  refine pm_iloadi hG dX12_move_175 rfl ?_
                                  refine pm_top (v := nI k27) ek27 ?_
                                  refine pm_iaddN (c := k27 + 24 * k6) hG dX12_move_177 (by omega) ?_
                                  refine pm_iloadi hG dX12_move_178 rfl ?_
                                  refine pm_iaddN (c := i36 + k27 + 24 * k6) hG dX12_move_180 (by omega) ?_
                                  refine pm_aloadn hG dX12_move_181 rfl ?_
                                  refine pm_getf hG dX12_move_182 (flX12_64 _ rfl) rfl rfl ?_
                                  refine pm_iloadi hG dX12_move_185 rfl ?_
                                  refine pm_ialdN hG dX12_move_187 rfl (by decide) (by omega) ?_
                                  refine pm_any (fun x38 => ?_)
                                  refine pm_iastN hG dX12_move_188 rfl (by decide) (by omega) ?_
                                  refine mdn_sheets (fun A_39 => ?_)
                                  refine pm_iincX (v := nI (i36 + 1)) (loc' := [some (.ref (B + 54)), some (.int za), some (.int zb), some (.int zc), some (.int zd), some (.int ze), some (.int (nI (i36 + 1)))]) hG dX12_move_189 rfl (nI_1 _) (by decide) (pm_c1b rfl) rfl ?_
                                  refine pm_goto (tgt := 160) hG dX12_move_192 rfl ?_
                                  exact ih36 I36 A_39 (i36 + 1) (by omega) (by omega)
                            exact loop160_36 _ I34 A34 0 (by omega) (Nat.lt_succ_self _)
                          · refine pm_aloadn hG dX12_move_130 rfl ?_
                            refine pm_getf hG dX12_move_131 (flX12_64 _ rfl) rfl rfl ?_
                            refine pm_iloadi hG dX12_move_134 rfl ?_
                            refine pm_aloadn hG dX12_move_136 rfl ?_
                            refine pm_getf hG dX12_move_137 (flX12_61 _ rfl) rfl rfl ?_
                            refine pm_bipush (v := nI 24) hG dX12_move_140 (by decide) ?_
                            refine pm_iloadn hG dX12_move_142 rfl ?_
                            refine pm_top (v := nI k3) ek3 ?_
                            refine pm_imulN (c := 24 * k3) hG dX12_move_143 (by omega) ?_
                            refine pm_iloadn hG dX12_move_144 rfl ?_
                            refine pm_top (v := nI k23) ek23 ?_
                            refine pm_iaddN (c := k23 + 24 * k3) hG dX12_move_145 (by omega) ?_
                            refine pm_iloadi hG dX12_move_146 rfl ?_
                            refine pm_iaddN (c := i34 + k23 + 24 * k3) hG dX12_move_148 (by omega) ?_
                            refine pm_ialdN hG dX12_move_149 rfl (by decide) (by omega) ?_
                            refine pm_any (fun x40 => ?_)
                            refine pm_iastN hG dX12_move_150 rfl (by decide) (by omega) ?_
                            refine mdn_carried (fun A_41 => ?_)
                            refine pm_iincX (v := nI (i34 + 1)) (loc' := [some (.ref (B + 54)), some (.int za), some (.int zb), some (.int zc), some (.int zd), some (.int ze), some (.int (nI (i34 + 1)))]) hG dX12_move_151 rfl (nI_1 _) (by decide) (pm_c1b rfl) rfl ?_
                            refine pm_goto (tgt := 123) hG dX12_move_154 rfl ?_
                            exact ih34 I34 A_41 (i34 + 1) (by omega) (by omega)
                      exact loop123_34 _ I A 0 (by omega) (Nat.lt_succ_self _)
                    · refine pm_aloadn hG dX12_move_114 rfl ?_
                      refine pm_iconst (v := nI 1) hG dX12_move_115 (by decide) ?_
                      refine pm_callV (As := [.int (nI 1)]) (rest := []) hG hR dX12_move_116 (lkX12_80 _ rfl) okV_X12_finds rfl rfl (m_finds (d := 1) (by decide) hn hz (by omega)) rfl rfl hdd (Nat.le_refl _) (Nat.le_refl _) (by decide) (pm_ki (fun v42 σ' cnt' hq => ?_))
                      obtain ⟨⟨I43, A43, rfl⟩, rfl, fv42⟩ := hq
                      exact pm_iret hG hF dX12_move_119 rfl (Nat.le_refl _) (Nat.le_refl _) ⟨_, rfl, ⟨_, _, rfl⟩, rfl⟩
          · refine pm_aloadn hG dX12_move_59 rfl ?_
            refine pm_iconst (v := nI 5) hG dX12_move_60 (by decide) ?_
            refine pm_callV (As := [.int (nI 5)]) (rest := []) hG hR dX12_move_61 (lkX12_80 _ rfl) okV_X12_finds rfl rfl (m_finds (d := 1) (by decide) hn hz (by omega)) rfl rfl hdd (Nat.le_refl _) (Nat.le_refl _) (by decide) (pm_ki (fun v44 σ' cnt' hq => ?_))
            obtain ⟨⟨I45, A45, rfl⟩, rfl, fv44⟩ := hq
            exact pm_iret hG hF dX12_move_64 rfl (Nat.le_refl _) (Nat.le_refl _) ⟨_, rfl, ⟨_, _, rfl⟩, rfl⟩
        · refine pm_aloadn hG dX12_move_38 rfl ?_
          refine pm_iconst (v := nI 2) hG dX12_move_39 (by decide) ?_
          refine pm_callV (As := [.int (nI 2)]) (rest := []) hG hR dX12_move_40 (lkX12_80 _ rfl) okV_X12_finds rfl rfl (m_finds (d := 1) (by decide) hn hz (by omega)) rfl rfl hdd (Nat.le_refl _) (Nat.le_refl _) (by decide) (pm_ki (fun v46 σ' cnt' hq => ?_))
          obtain ⟨⟨I47, A47, rfl⟩, rfl, fv46⟩ := hq
          exact pm_iret hG hF dX12_move_43 rfl (Nat.le_refl _) (Nat.le_refl _) ⟨_, rfl, ⟨_, _, rfl⟩, rfl⟩
    · refine pm_ifN_ne (tgt := 20) hG dX12_move_11 rfl (by omega) (fun q => absurd q (by omega)) (fun _ => ?_)
      refine pm_aloadn hG dX12_move_14 rfl ?_
      refine pm_iconst (v := nI 1) hG dX12_move_15 (by decide) ?_
      refine pm_callV (As := [.int (nI 1)]) (rest := []) hG hR dX12_move_16 (lkX12_80 _ rfl) okV_X12_finds rfl rfl (m_finds (d := 1) (by decide) hn hz (by omega)) rfl rfl hdd (Nat.le_refl _) (Nat.le_refl _) (by decide) (pm_ki (fun v48 σ' cnt' hq => ?_))
      obtain ⟨⟨I49, A49, rfl⟩, rfl, fv48⟩ := hq
      exact pm_iret hG hF dX12_move_19 rfl (Nat.le_refl _) (Nat.le_refl _) ⟨_, rfl, ⟨_, _, rfl⟩, rfl⟩
  · refine pm_ifN_eq (tgt := 14) hG dX12_move_4 rfl (by omega) (fun _ => ?_) (fun q => absurd q (by omega))
    refine pm_aloadn hG dX12_move_14 rfl ?_
    refine pm_iconst (v := nI 1) hG dX12_move_15 (by decide) ?_
    refine pm_callV (As := [.int (nI 1)]) (rest := []) hG hR dX12_move_16 (lkX12_80 _ rfl) okV_X12_finds rfl rfl (m_finds (d := 1) (by decide) hn hz (by omega)) rfl rfl hdd (Nat.le_refl _) (Nat.le_refl _) (by decide) (pm_ki (fun v50 σ' cnt' hq => ?_))
    obtain ⟨⟨I51, A51, rfl⟩, rfl, fv50⟩ := hq
    exact pm_iret hG hF dX12_move_19 rfl (Nat.le_refl _) (Nat.le_refl _) ⟨_, rfl, ⟨_, _, rfl⟩, rfl⟩

set_option maxRecDepth 100000 in
set_option maxHeartbeats 4000000 in
theorem m_winsBy_m_c1 {d B cnt p0 t0 : Nat} {σ : pm_S} {I : Nat → Int32} {A : Nat → Nat → Int32} {n k z : Nat → Int32} {ac wt pl im : Int32} {zc zd ze : Int32} (hdd : 1 ≤ d) (hn : KI n) (hz : SZ z)  : pm_met mX12_winsBy d 0 0 B [.ref (B + 54), .int (-1), .int (nI 1), .int zc, .int zd, .int ze] cnt (pm_mid σ (md_L B I A n k z ac wt pl (nI p0) (nI t0) im)) (pm_Qi (fun v σ' cnt' => (∃ (I' : Nat → Int32) (A' : Nat → Nat → Int32), σ' = pm_mid σ (md_L B I' A' n k z ac wt pl (nI p0) (nI t0) im)) ∧ cnt = cnt' ∧ (v = 0 ∨ v = 1))) := by
  refine pm_enter 6 (by decide) (Nat.le_of_ble_eq_true rfl) rfl (fun G hG hR hF => ?_)
  refine pm_iloadn hG dX12_winsBy_0 rfl ?_
  refine pm_iloadi hG dX12_winsBy_1 rfl ?_
  refine pm_icmp_ne (tgt := 8) hG dX12_winsBy_3 rfl (fun c1 => ?_) (fun c1 => ?_)
  · refine pm_iloadn hG dX12_winsBy_8 rfl ?_
    refine pm_iconst (v := nI 1) hG dX12_winsBy_9 (by decide) ?_
    refine pm_icmpN_ne (tgt := 15) hG dX12_winsBy_10 rfl (by omega) (by omega) (fun q => absurd q (by omega)) (fun _ => ?_)
    refine pm_iconst (v := nI 0) hG dX12_winsBy_13 (by decide) ?_
    exact pm_zret hG hF dX12_winsBy_14 rfl (pm_nz (Or.inl rfl)) (Nat.le_refl _) (Nat.le_refl _) ⟨_, rfl, ⟨_, _, rfl⟩, rfl, (Or.inl rfl)⟩
  · refine pm_iconst (v := nI 1) hG dX12_winsBy_6 (by decide) ?_
    exact pm_zret hG hF dX12_winsBy_7 rfl (pm_nz (Or.inr rfl)) (Nat.le_refl _) (Nat.le_refl _) ⟨_, rfl, ⟨_, _, rfl⟩, rfl, (Or.inr rfl)⟩

set_option maxRecDepth 100000 in
set_option maxHeartbeats 4000000 in
theorem m_winsBy_n5_c1 {d B cnt p0 t0 : Nat} {σ : pm_S} {I : Nat → Int32} {A : Nat → Nat → Int32} {n k z : Nat → Int32} {ac wt pl im : Int32} {zc zd ze : Int32} {ba : Nat} (hdd : 1 ≤ d) (hn : KI n) (hz : SZ z) (hba : ba < 5) : pm_met mX12_winsBy d 0 0 B [.ref (B + 54), .int (nI ba), .int (nI 1), .int zc, .int zd, .int ze] cnt (pm_mid σ (md_L B I A n k z ac wt pl (nI p0) (nI t0) im)) (pm_Qi (fun v σ' cnt' => (∃ (I' : Nat → Int32) (A' : Nat → Nat → Int32), σ' = pm_mid σ (md_L B I' A' n k z ac wt pl (nI p0) (nI t0) im)) ∧ cnt = cnt' ∧ (v = 0 ∨ v = 1))) := by
  refine pm_enter 6 (by decide) (Nat.le_of_ble_eq_true rfl) rfl (fun G hG hR hF => ?_)
  refine pm_iloadn hG dX12_winsBy_0 rfl ?_
  refine pm_iloadi hG dX12_winsBy_1 rfl ?_
  refine pm_icmp_ne (tgt := 8) hG dX12_winsBy_3 rfl (fun c1 => ?_) (fun c1 => ?_)
  · refine pm_iloadn hG dX12_winsBy_8 rfl ?_
    refine pm_iconst (v := nI 1) hG dX12_winsBy_9 (by decide) ?_
    refine pm_icmpN_ne (tgt := 15) hG dX12_winsBy_10 rfl (by omega) (by omega) (fun q => absurd q (by omega)) (fun _ => ?_)
    refine pm_iconst (v := nI 0) hG dX12_winsBy_13 (by decide) ?_
    exact pm_zret hG hF dX12_winsBy_14 rfl (pm_nz (Or.inl rfl)) (Nat.le_refl _) (Nat.le_refl _) ⟨_, rfl, ⟨_, _, rfl⟩, rfl, (Or.inl rfl)⟩
  · refine pm_iconst (v := nI 1) hG dX12_winsBy_6 (by decide) ?_
    exact pm_zret hG hF dX12_winsBy_7 rfl (pm_nz (Or.inr rfl)) (Nat.le_refl _) (Nat.le_refl _) ⟨_, rfl, ⟨_, _, rfl⟩, rfl, (Or.inr rfl)⟩

set_option maxRecDepth 100000 in
set_option maxHeartbeats 4000000 in
theorem m_wins_c1 {d B cnt p0 t0 : Nat} {σ : pm_S} {I : Nat → Int32} {A : Nat → Nat → Int32} {n k z : Nat → Int32} {ac wt pl im : Int32} {zb zc zd : Int32} (hdd : 3 ≤ d) (hn : KI n) (hz : SZ z)  : pm_met mX12_wins d 0 0 B [.ref (B + 54), .int (nI 1), .int zb, .int zc, .int zd] cnt (pm_mid σ (md_L B I A n k z ac wt pl (nI p0) (nI t0) im)) (pm_Qi (fun v σ' cnt' => (∃ (I' : Nat → Int32) (A' : Nat → Nat → Int32), σ' = pm_mid σ (md_L B I' A' n k z ac wt pl (nI p0) (nI t0) im)) ∧ cnt = cnt' ∧ (v = 0 ∨ v = 1))) := by
  refine pm_enter 2 (by decide) (Nat.le_of_ble_eq_true rfl) rfl (fun G hG hR hF => ?_)
  refine pm_aloadn hG dX12_wins_0 rfl ?_
  refine pm_iconst (v := (-1)) hG dX12_wins_1 (by decide) ?_
  refine pm_iloadn hG dX12_wins_2 rfl ?_
  refine pm_iloadn hG dX12_wins_3 rfl ?_
  refine pm_iloadn hG dX12_wins_4 rfl ?_
  refine pm_iloadi hG dX12_wins_5 rfl ?_
  refine pm_callV (As := [.int (-1), .int (nI 1), .int zb, .int zc, .int zd]) (rest := []) hG hR dX12_wins_7 (lkX12_260 _ rfl) okV_X12_winsBy rfl rfl (m_winsBy_m_c1 (d := 2) (by decide) hn hz) rfl rfl hdd (Nat.le_refl _) (Nat.le_refl _) (by decide) (pm_ki (fun v1 σ' cnt' hq => ?_))
  obtain ⟨⟨I2, A2, rfl⟩, rfl, bv1⟩ := hq
  refine pm_istoreXi (loc' := [some (.ref (B + 54)), some (.int (nI 1)), some (.int zb), some (.int zc), some (.int zd), some (.int v1), none]) hG dX12_wins_10 (by decide) (pm_c1b rfl) rfl ?_
  refine pm_iconst (v := nI 0) hG dX12_wins_12 (by decide) ?_
  refine pm_istoreXi (loc' := [some (.ref (B + 54)), some (.int (nI 1)), some (.int zb), some (.int zc), some (.int zd), some (.int v1), some (.int (nI 0))]) hG dX12_wins_13 (by decide) (pm_c1b rfl) rfl ?_
  have loop15_3 : ∀ (m3 : Nat) (I3 : Nat → Int32) (A3 : Nat → Nat → Int32) (x3_5 : Int32) (i3 : Nat), (x3_5 = 0 ∨ x3_5 = 1) → i3 ≤ 5 → 5 - i3 < m3 → pm_wp mX12_wins G B 15 [some (.ref (B + 54)), some (.int (nI 1)), some (.int zb), some (.int zc), some (.int zd), some (.int x3_5), some (.int (nI i3))] [] 0 0 cnt (pm_mid σ (md_L B I3 A3 n k z ac wt pl (nI p0) (nI t0) im)) := by
    intro m3
    induction m3 with
    | zero => intro I3 A3 x3_5 i3 _ _ hm; exact absurd hm (Nat.not_lt_zero _)
    | succ m3 ih3 =>
      intro I3 A3 x3_5 i3 bx3_5 hi3 hm3
      refine pm_iloadi hG dX12_wins_15 rfl ?_
      refine pm_iconst (v := nI 5) hG dX12_wins_17 (by decide) ?_
      refine pm_icmpN_ge (tgt := 64) hG dX12_wins_18 rfl (by omega) (by omega) (fun c4 => ?_) (fun c4 => ?_)
      · refine pm_iloadi hG dX12_wins_64 rfl ?_
        exact pm_zret hG hF dX12_wins_66 rfl (pm_nz bx3_5) (Nat.le_refl _) (Nat.le_refl _) ⟨_, rfl, ⟨_, _, rfl⟩, rfl, bx3_5⟩
      · refine pm_iloadi hG dX12_wins_21 rfl ?_
        refine pm_if_ne (tgt := 64) hG dX12_wins_23 rfl (fun c5 => ?_) (fun c5 => ?_)
        · refine pm_iloadi hG dX12_wins_64 rfl ?_
          exact pm_zret hG hF dX12_wins_66 rfl (pm_nz bx3_5) (Nat.le_refl _) (Nat.le_refl _) ⟨_, rfl, ⟨_, _, rfl⟩, rfl, bx3_5⟩
        · refine pm_aloadn hG dX12_wins_26 rfl ?_
          refine pm_iloadn hG dX12_wins_27 rfl ?_
          refine pm_iloadn hG dX12_wins_28 rfl ?_
          refine pm_iloadi hG dX12_wins_29 rfl ?_
          refine pm_callV (As := [.int zb, .int zc, .int (nI i3)]) (rest := []) hG hR dX12_wins_31 (lkX12_264 _ rfl) okV_X12_canTake rfl rfl (m_canTake (d := 2) (by decide) hn hz (by omega)) rfl rfl hdd (Nat.le_refl _) (Nat.le_refl _) (by decide) (pm_ki (fun v6 σ' cnt' hq => ?_))
          obtain ⟨rfl, rfl, bv6⟩ := hq
          refine pm_if_eq (tgt := 55) hG dX12_wins_34 rfl (fun c8 => ?_) (fun c8 => ?_)
          · refine pm_iconst (v := nI 0) hG dX12_wins_55 (by decide) ?_
            refine pm_istoreXi (loc' := [some (.ref (B + 54)), some (.int (nI 1)), some (.int zb), some (.int zc), some (.int zd), some (.int (nI 0)), some (.int (nI i3))]) hG dX12_wins_56 (by decide) (pm_c1b rfl) rfl ?_
            refine pm_iincX (v := nI (i3 + 1)) (loc' := [some (.ref (B + 54)), some (.int (nI 1)), some (.int zb), some (.int zc), some (.int zd), some (.int (nI 0)), some (.int (nI (i3 + 1)))]) hG dX12_wins_58 rfl (nI_1 _) (by decide) (pm_c1b rfl) rfl ?_
            refine pm_goto (tgt := 15) hG dX12_wins_61 rfl ?_
            exact ih3 I3 A3 (nI 0) (i3 + 1) (Or.inl rfl) (by omega) (by omega)
          · refine pm_aloadn hG dX12_wins_37 rfl ?_
            refine pm_iloadi hG dX12_wins_38 rfl ?_
            refine pm_iloadn hG dX12_wins_40 rfl ?_
            refine pm_iloadn hG dX12_wins_41 rfl ?_
            refine pm_iloadn hG dX12_wins_42 rfl ?_
            refine pm_iloadi hG dX12_wins_43 rfl ?_
            refine pm_callV (As := [.int (nI i3), .int (nI 1), .int zb, .int zc, .int zd]) (rest := []) hG hR dX12_wins_45 (lkX12_260 _ rfl) okV_X12_winsBy rfl rfl (m_winsBy_n5_c1 (d := 2) (by decide) hn hz (by omega)) rfl rfl hdd (Nat.le_refl _) (Nat.le_refl _) (by decide) (pm_ki (fun v9 σ' cnt' hq => ?_))
            obtain ⟨⟨I10, A10, rfl⟩, rfl, bv9⟩ := hq
            refine pm_if_eq (tgt := 55) hG dX12_wins_48 rfl (fun c11 => ?_) (fun c11 => ?_)
            · refine pm_iconst (v := nI 0) hG dX12_wins_55 (by decide) ?_
              refine pm_istoreXi (loc' := [some (.ref (B + 54)), some (.int (nI 1)), some (.int zb), some (.int zc), some (.int zd), some (.int (nI 0)), some (.int (nI i3))]) hG dX12_wins_56 (by decide) (pm_c1b rfl) rfl ?_
              refine pm_iincX (v := nI (i3 + 1)) (loc' := [some (.ref (B + 54)), some (.int (nI 1)), some (.int zb), some (.int zc), some (.int zd), some (.int (nI 0)), some (.int (nI (i3 + 1)))]) hG dX12_wins_58 rfl (nI_1 _) (by decide) (pm_c1b rfl) rfl ?_
              refine pm_goto (tgt := 15) hG dX12_wins_61 rfl ?_
              exact ih3 I10 A10 (nI 0) (i3 + 1) (Or.inl rfl) (by omega) (by omega)
            · refine pm_iconst (v := nI 1) hG dX12_wins_51 (by decide) ?_
              refine pm_goto (tgt := 56) hG dX12_wins_52 rfl ?_
              refine pm_istoreXi (loc' := [some (.ref (B + 54)), some (.int (nI 1)), some (.int zb), some (.int zc), some (.int zd), some (.int (nI 1)), some (.int (nI i3))]) hG dX12_wins_56 (by decide) (pm_c1b rfl) rfl ?_
              refine pm_iincX (v := nI (i3 + 1)) (loc' := [some (.ref (B + 54)), some (.int (nI 1)), some (.int zb), some (.int zc), some (.int zd), some (.int (nI 1)), some (.int (nI (i3 + 1)))]) hG dX12_wins_58 rfl (nI_1 _) (by decide) (pm_c1b rfl) rfl ?_
              refine pm_goto (tgt := 15) hG dX12_wins_61 rfl ?_
              exact ih3 I10 A10 (nI 1) (i3 + 1) (Or.inr rfl) (by omega) (by omega)
  exact loop15_3 _ I2 A2 v1 0 bv1 (by omega) (Nat.lt_succ_self _)

set_option maxRecDepth 100000 in
set_option maxHeartbeats 4000000 in
theorem m_winsBy_m_c2 {d B cnt p0 t0 : Nat} {σ : pm_S} {I : Nat → Int32} {A : Nat → Nat → Int32} {n k z : Nat → Int32} {ac wt pl im : Int32} {zc zd ze : Int32} (hdd : 4 ≤ d) (hn : KI n) (hz : SZ z)  : pm_met mX12_winsBy d 0 0 B [.ref (B + 54), .int (-1), .int (nI 2), .int zc, .int zd, .int ze] cnt (pm_mid σ (md_L B I A n k z ac wt pl (nI p0) (nI t0) im)) (pm_Qi (fun v σ' cnt' => (∃ (I' : Nat → Int32) (A' : Nat → Nat → Int32), σ' = pm_mid σ (md_L B I' A' n k z ac wt pl (nI p0) (nI t0) im)) ∧ cnt = cnt' ∧ (v = 0 ∨ v = 1))) := by
  refine pm_enter 6 (by decide) (Nat.le_of_ble_eq_true rfl) rfl (fun G hG hR hF => ?_)
  refine pm_iloadn hG dX12_winsBy_0 rfl ?_
  refine pm_iloadi hG dX12_winsBy_1 rfl ?_
  refine pm_icmp_ne (tgt := 8) hG dX12_winsBy_3 rfl (fun c1 => ?_) (fun c1 => ?_)
  · refine pm_iloadn hG dX12_winsBy_8 rfl ?_
    refine pm_iconst (v := nI 1) hG dX12_winsBy_9 (by decide) ?_
    refine pm_icmpN_ne (tgt := 15) hG dX12_winsBy_10 rfl (by omega) (by omega) (fun _ => ?_) (fun q => absurd q (by omega))
    refine pm_iloadn hG dX12_winsBy_15 rfl ?_
    refine pm_if_ge (tgt := 23) hG dX12_winsBy_16 rfl (fun q => absurd q (by decide)) (fun _ => ?_)
    refine pm_iloadn hG dX12_winsBy_19 rfl ?_
    refine pm_goto (tgt := 28) hG dX12_winsBy_20 rfl ?_
    refine pm_istoreXi (loc' := [some (.ref (B + 54)), some (.int (-1)), some (.int (nI 2)), some (.int zc), some (.int zd), some (.int ze), some (.int zc), none, none, none, none, none]) hG dX12_winsBy_28 (by decide) (pm_c1b rfl) rfl ?_
    refine pm_iloadn hG dX12_winsBy_30 rfl ?_
    refine pm_if_ge (tgt := 39) hG dX12_winsBy_31 rfl (fun q => absurd q (by decide)) (fun _ => ?_)
    refine pm_iloadi hG dX12_winsBy_34 rfl ?_
    refine pm_goto (tgt := 48) hG dX12_winsBy_36 rfl ?_
    refine pm_istoreXi (loc' := [some (.ref (B + 54)), some (.int (-1)), some (.int (nI 2)), some (.int zc), some (.int zd), some (.int ze), some (.int zc), some (.int zd), none, none, none, none]) hG dX12_winsBy_48 (by decide) (pm_c1b rfl) rfl ?_
    refine pm_aloadn hG dX12_winsBy_50 rfl ?_
    refine pm_iloadn hG dX12_winsBy_51 rfl ?_
    refine pm_iconst (v := nI 1) hG dX12_winsBy_52 (by decide) ?_
    refine pm_isubN (c := 1) hG dX12_winsBy_53 (by omega) ?_
    refine pm_iloadi hG dX12_winsBy_54 rfl ?_
    refine pm_iloadi hG dX12_winsBy_56 rfl ?_
    refine pm_iloadi hG dX12_winsBy_58 rfl ?_
    refine pm_callV (As := [.int (nI 1), .int zc, .int zd, .int ze]) (rest := []) hG hR dX12_winsBy_60 (lkX12_256 _ rfl) okV_X12_wins rfl rfl (m_wins_c1 (d := 3) (by decide) hn hz) rfl rfl hdd (Nat.le_refl _) (Nat.le_refl _) (by decide) (pm_ki (fun v2 σ' cnt' hq => ?_))
    obtain ⟨⟨I3, A3, rfl⟩, rfl, bv2⟩ := hq
    refine pm_istoreXi (loc' := [some (.ref (B + 54)), some (.int (-1)), some (.int (nI 2)), some (.int zc), some (.int zd), some (.int ze), some (.int zc), some (.int zd), some (.int v2), none, none, none]) hG dX12_winsBy_63 (by decide) (pm_c1b rfl) rfl ?_
    refine pm_iconst (v := nI 0) hG dX12_winsBy_65 (by decide) ?_
    refine pm_istoreXi (loc' := [some (.ref (B + 54)), some (.int (-1)), some (.int (nI 2)), some (.int zc), some (.int zd), some (.int ze), some (.int zc), some (.int zd), some (.int v2), some (.int (nI 0)), none, none]) hG dX12_winsBy_66 (by decide) (pm_c1b rfl) rfl ?_
    have loop68_4 : ∀ (m4 : Nat) (I4 : Nat → Int32) (A4 : Nat → Nat → Int32) (x4_8 : Int32) (i4 : Nat), (x4_8 = 0 ∨ x4_8 = 1) → i4 ≤ 5 → 5 - i4 < m4 → pm_wp mX12_winsBy G B 68 [some (.ref (B + 54)), some (.int (-1)), some (.int (nI 2)), some (.int zc), some (.int zd), some (.int ze), some (.int zc), some (.int zd), some (.int x4_8), some (.int (nI i4)), none, none] [] 0 0 cnt (pm_mid σ (md_L B I4 A4 n k z ac wt pl (nI p0) (nI t0) im)) := by
      intro m4
      induction m4 with
      | zero => intro I4 A4 x4_8 i4 _ _ hm; exact absurd hm (Nat.not_lt_zero _)
      | succ m4 ih4 =>
        intro I4 A4 x4_8 i4 bx4_8 hi4 hm4
        refine pm_iloadi hG dX12_winsBy_68 rfl ?_
        refine pm_iconst (v := nI 5) hG dX12_winsBy_70 (by decide) ?_
        refine pm_icmpN_ge (tgt := 226) hG dX12_winsBy_71 rfl (by omega) (by omega) (fun c5 => ?_) (fun c5 => ?_)
        · refine pm_iloadi hG dX12_winsBy_226 rfl ?_
          exact pm_zret hG hF dX12_winsBy_228 rfl (pm_nz bx4_8) (Nat.le_refl _) (Nat.le_refl _) ⟨_, rfl, ⟨_, _, rfl⟩, rfl, bx4_8⟩
        · refine pm_iloadi hG dX12_winsBy_74 rfl ?_
          refine pm_if_eq (tgt := 226) hG dX12_winsBy_76 rfl (fun c6 => ?_) (fun c6 => ?_)
          · refine pm_iloadi hG dX12_winsBy_226 rfl ?_
            refine pm_top (v := nI 0) c6 ?_
            exact pm_zret hG hF dX12_winsBy_228 rfl (pm_nz (Or.inl rfl)) (Nat.le_refl _) (Nat.le_refl _) ⟨_, rfl, ⟨_, _, rfl⟩, rfl, (Or.inl rfl)⟩
          · refine pm_iconst (v := (-1)) hG dX12_winsBy_79 (by decide) ?_
            refine pm_istoreXi (loc' := [some (.ref (B + 54)), some (.int (-1)), some (.int (nI 2)), some (.int zc), some (.int zd), some (.int ze), some (.int zc), some (.int zd), some (.int x4_8), some (.int (nI i4)), some (.int (-1)), none]) hG dX12_winsBy_80 (by decide) (pm_c1b rfl) rfl ?_
            have loop7 : ∀ (m7 : Nat) (I7 : Nat → Int32) (A7 : Nat → Nat → Int32) (x7 : Int32) (s7 : Nat), (x7 = 0 ∨ x7 = 1) → s7 ≤ 2 → 2 - s7 < m7 → pm_wp mX12_winsBy G B 82 [some (.ref (B + 54)), some (.int (-1)), some (.int (nI 2)), some (.int zc), some (.int zd), some (.int ze), some (.int zc), some (.int zd), some (.int x7), some (.int (nI i4)), some (.int (sdI s7)), none] [] 0 0 cnt (pm_mid σ (md_L B I7 A7 n k z ac wt pl (nI p0) (nI t0) im)) := by
              intro m7
              induction m7 with
              | zero => intro I7 A7 x7 s7 _ _ hm; exact absurd hm (Nat.not_lt_zero _)
              | succ m7 ih7 =>
                intro I7 A7 x7 s7 b7 hs7 hm7
                rcases (show s7 = 0 ∨ s7 = 1 ∨ s7 = 2 by omega) with rfl | rfl | rfl
                · refine pm_le (loc' := [some (.ref (B + 54)), some (.int (-1)), some (.int (nI 2)), some (.int zc), some (.int zd), some (.int ze), some (.int zc), some (.int zd), some (.int x7), some (.int (nI i4)), some (.int (-1)), none]) rfl ?_
                  refine pm_iloadi hG dX12_winsBy_82 rfl ?_
                  refine pm_iconst (v := nI 1) hG dX12_winsBy_84 (by decide) ?_
                  refine pm_icmp_gt (tgt := 220) hG dX12_winsBy_85 rfl (fun q => absurd q (by decide)) (fun _ => ?_)
                  refine pm_iloadi hG dX12_winsBy_88 rfl ?_
                  refine pm_if_eq (tgt := 220) hG dX12_winsBy_90 rfl (fun c8 => ?_) (fun c8 => ?_)
                  · refine pm_iincX (v := nI (i4 + 1)) (loc' := [some (.ref (B + 54)), some (.int (-1)), some (.int (nI 2)), some (.int zc), some (.int zd), some (.int ze), some (.int zc), some (.int zd), some (.int x7), some (.int (nI (i4 + 1))), some (.int (-1)), none]) hG dX12_winsBy_220 rfl (nI_1 _) (by decide) (pm_c1b rfl) rfl ?_
                    refine pm_goto (tgt := 68) hG dX12_winsBy_223 rfl ?_
                    refine pm_fg 10 (loc' := [some (.ref (B + 54)), some (.int (-1)), some (.int (nI 2)), some (.int zc), some (.int zd), some (.int ze), some (.int zc), some (.int zd), some (.int x7), some (.int (nI (i4 + 1))), none, none]) rfl ?_
                    exact ih4 I7 A7 x7 (i4 + 1) b7 (by omega) (by omega)
                  · refine pm_iloadi hG dX12_winsBy_93 rfl ?_
                    refine pm_iloadi hG dX12_winsBy_95 rfl ?_
                    refine pm_iadd hG dX12_winsBy_97 ?_
                    refine pm_istoreXi (loc' := [some (.ref (B + 54)), some (.int (-1)), some (.int (nI 2)), some (.int zc), some (.int zd), some (.int ze), some (.int zc), some (.int zd), some (.int x7), some (.int (nI i4)), some (.int (-1)), some (.int ((nI i4) + (-1)))]) hG dX12_winsBy_98 (by decide) (pm_c1b rfl) rfl ?_
                    refine pm_iloadi hG dX12_winsBy_100 rfl ?_
                    refine pm_iconst (v := nI 0) hG dX12_winsBy_102 (by decide) ?_
                    refine pm_iconst (v := nI 4) hG dX12_winsBy_103 (by decide) ?_
                    refine pm_callS (As := [.int ((nI i4) + (-1)), .int (nI 0), .int (nI 4)]) (rest := []) hG hR dX12_winsBy_104 (lkX12_68 _ rfl) okS_X12_in (m_in (d := 3)) rfl rfl hdd (Nat.le_refl _) (Nat.le_refl _) (by decide) (pm_ki (fun v9 σ' cnt' hq => ?_))
                    obtain ⟨hq, rfl, rfl⟩ := hq
                    rcases hq with ⟨rfl, ac10, bc10⟩ | ⟨rfl, c10⟩
                    · obtain ⟨k11, hk11, ek11⟩ := in_nat (by omega) (by omega) ac10 bc10
                      refine pm_ifN_eq (tgt := 214) hG dX12_winsBy_107 rfl (by omega) (fun q => absurd q (by omega)) (fun _ => ?_)
                      refine pm_iloadi hG dX12_winsBy_110 rfl ?_
                      refine pm_iloadi hG dX12_winsBy_112 rfl ?_
                      refine pm_callS (As := [.int zc, .int (nI i4)]) (rest := []) hG hR dX12_winsBy_114 (lkX12_253 _ rfl) okS_X12_isTaken (m_isTaken (d := 3) (by decide) hn hz) rfl rfl hdd (Nat.le_refl _) (Nat.le_refl _) (by decide) (pm_ki (fun v12 σ' cnt' hq => ?_))
                      obtain ⟨rfl, rfl, bv12⟩ := hq
                      refine pm_if_ne (tgt := 214) hG dX12_winsBy_117 rfl (fun c14 => ?_) (fun c14 => ?_)
                      · refine pm_iincX (v := nI 1) (loc' := [some (.ref (B + 54)), some (.int (-1)), some (.int (nI 2)), some (.int zc), some (.int zd), some (.int ze), some (.int zc), some (.int zd), some (.int x7), some (.int (nI i4)), some (.int (nI 1)), some (.int ((nI i4) + (-1)))]) hG dX12_winsBy_214 rfl (by decide) (by decide) (pm_c1b rfl) rfl ?_
                        refine pm_goto (tgt := 82) hG dX12_winsBy_217 rfl ?_
                        refine pm_fg 11 (loc' := [some (.ref (B + 54)), some (.int (-1)), some (.int (nI 2)), some (.int zc), some (.int zd), some (.int ze), some (.int zc), some (.int zd), some (.int x7), some (.int (nI i4)), some (.int (nI 1)), none]) rfl ?_
                        exact ih7 I7 A7 x7 1 b7 (by omega) (by omega)
                      · refine pm_iloadi hG dX12_winsBy_120 rfl ?_
                        refine pm_iloadi hG dX12_winsBy_122 rfl ?_
                        refine pm_top (v := nI k11) ek11 ?_
                        refine pm_callS (As := [.int zc, .int (nI k11)]) (rest := []) hG hR dX12_winsBy_124 (lkX12_253 _ rfl) okS_X12_isTaken (m_isTaken (d := 3) (by decide) hn hz) rfl rfl hdd (Nat.le_refl _) (Nat.le_refl _) (by decide) (pm_ki (fun v15 σ' cnt' hq => ?_))
                        obtain ⟨rfl, rfl, bv15⟩ := hq
                        refine pm_if_ne (tgt := 214) hG dX12_winsBy_127 rfl (fun c17 => ?_) (fun c17 => ?_)
                        · refine pm_iincX (v := nI 1) (loc' := [some (.ref (B + 54)), some (.int (-1)), some (.int (nI 2)), some (.int zc), some (.int zd), some (.int ze), some (.int zc), some (.int zd), some (.int x7), some (.int (nI i4)), some (.int (nI 1)), some (.int ((nI i4) + (-1)))]) hG dX12_winsBy_214 rfl (by decide) (by decide) (pm_c1b rfl) rfl ?_
                          refine pm_goto (tgt := 82) hG dX12_winsBy_217 rfl ?_
                          refine pm_fg 11 (loc' := [some (.ref (B + 54)), some (.int (-1)), some (.int (nI 2)), some (.int zc), some (.int zd), some (.int ze), some (.int zc), some (.int zd), some (.int x7), some (.int (nI i4)), some (.int (nI 1)), none]) rfl ?_
                          exact ih7 I7 A7 x7 1 b7 (by omega) (by omega)
                        · refine pm_aloadn hG dX12_winsBy_130 rfl ?_
                          refine pm_getf hG dX12_winsBy_131 (flX12_43 _ rfl) rfl rfl ?_
                          refine pm_iloadi hG dX12_winsBy_134 rfl ?_
                          refine pm_ialdN hG dX12_winsBy_136 rfl (by decide) (by omega) ?_
                          refine pm_any (fun x18 => ?_)
                          refine pm_if_eq (tgt := 214) hG dX12_winsBy_137 rfl (fun c19 => ?_) (fun c19 => ?_)
                          · refine pm_iincX (v := nI 1) (loc' := [some (.ref (B + 54)), some (.int (-1)), some (.int (nI 2)), some (.int zc), some (.int zd), some (.int ze), some (.int zc), some (.int zd), some (.int x7), some (.int (nI i4)), some (.int (nI 1)), some (.int ((nI i4) + (-1)))]) hG dX12_winsBy_214 rfl (by decide) (by decide) (pm_c1b rfl) rfl ?_
                            refine pm_goto (tgt := 82) hG dX12_winsBy_217 rfl ?_
                            refine pm_fg 11 (loc' := [some (.ref (B + 54)), some (.int (-1)), some (.int (nI 2)), some (.int zc), some (.int zd), some (.int ze), some (.int zc), some (.int zd), some (.int x7), some (.int (nI i4)), some (.int (nI 1)), none]) rfl ?_
                            exact ih7 I7 A7 x7 1 b7 (by omega) (by omega)
                          · refine pm_aloadn hG dX12_winsBy_140 rfl ?_
                            refine pm_getf hG dX12_winsBy_141 (flX12_43 _ rfl) rfl rfl ?_
                            refine pm_iloadi hG dX12_winsBy_144 rfl ?_
                            refine pm_top (v := nI k11) ek11 ?_
                            refine pm_ialdN hG dX12_winsBy_146 rfl (by decide) (by omega) ?_
                            refine pm_any (fun x20 => ?_)
                            refine pm_bipush (v := nI 6) hG dX12_winsBy_147 (by decide) ?_
                            refine pm_icmp_ne (tgt := 155) hG dX12_winsBy_149 rfl (fun c21 => ?_) (fun c21 => ?_)
                            · refine pm_aloadn hG dX12_winsBy_155 rfl ?_
                              refine pm_getf hG dX12_winsBy_156 (flX12_43 _ rfl) rfl rfl ?_
                              refine pm_iloadi hG dX12_winsBy_159 rfl ?_
                              refine pm_dup2 hG dX12_winsBy_161 rfl rfl ?_
                              refine pm_ialdN hG dX12_winsBy_162 rfl (by decide) (by omega) ?_
                              refine pm_any (fun x22 => ?_)
                              refine pm_iconst (v := nI 1) hG dX12_winsBy_163 (by decide) ?_
                              refine pm_isub hG dX12_winsBy_164 ?_
                              refine pm_iastN hG dX12_winsBy_165 rfl (by decide) (by omega) ?_
                              refine mdn_guards (fun A_23 => ?_)
                              refine pm_aloadn hG dX12_winsBy_166 rfl ?_
                              refine pm_getf hG dX12_winsBy_167 (flX12_43 _ rfl) rfl rfl ?_
                              refine pm_iloadi hG dX12_winsBy_170 rfl ?_
                              refine pm_top (v := nI k11) ek11 ?_
                              refine pm_dup2 hG dX12_winsBy_172 rfl rfl ?_
                              refine pm_ialdN hG dX12_winsBy_173 rfl (by decide) (by omega) ?_
                              refine pm_any (fun x24 => ?_)
                              refine pm_iconst (v := nI 1) hG dX12_winsBy_174 (by decide) ?_
                              refine pm_iadd hG dX12_winsBy_175 ?_
                              refine pm_iastN hG dX12_winsBy_176 rfl (by decide) (by omega) ?_
                              refine mdn_guards (fun A_25 => ?_)
                              refine pm_aloadn hG dX12_winsBy_177 rfl ?_
                              refine pm_iloadn hG dX12_winsBy_178 rfl ?_
                              refine pm_iconst (v := nI 1) hG dX12_winsBy_179 (by decide) ?_
                              refine pm_isubN (c := 1) hG dX12_winsBy_180 (by omega) ?_
                              refine pm_iloadi hG dX12_winsBy_181 rfl ?_
                              refine pm_iloadi hG dX12_winsBy_183 rfl ?_
                              refine pm_iloadi hG dX12_winsBy_185 rfl ?_
                              refine pm_callV (As := [.int (nI 1), .int zc, .int zd, .int ze]) (rest := []) hG hR dX12_winsBy_187 (lkX12_256 _ rfl) okV_X12_wins rfl rfl (m_wins_c1 (d := 3) (by decide) hn hz) rfl rfl hdd (Nat.le_refl _) (Nat.le_refl _) (by decide) (pm_ki (fun v26 σ' cnt' hq => ?_))
                              obtain ⟨⟨I27, A27, rfl⟩, rfl, bv26⟩ := hq
                              refine pm_istoreXi (loc' := [some (.ref (B + 54)), some (.int (-1)), some (.int (nI 2)), some (.int zc), some (.int zd), some (.int ze), some (.int zc), some (.int zd), some (.int v26), some (.int (nI i4)), some (.int (-1)), some (.int ((nI i4) + (-1)))]) hG dX12_winsBy_190 (by decide) (pm_c1b rfl) rfl ?_
                              refine pm_aloadn hG dX12_winsBy_192 rfl ?_
                              refine pm_getf hG dX12_winsBy_193 (flX12_43 _ rfl) rfl rfl ?_
                              refine pm_iloadi hG dX12_winsBy_196 rfl ?_
                              refine pm_dup2 hG dX12_winsBy_198 rfl rfl ?_
                              refine pm_ialdN hG dX12_winsBy_199 rfl (by decide) (by omega) ?_
                              refine pm_any (fun x28 => ?_)
                              refine pm_iconst (v := nI 1) hG dX12_winsBy_200 (by decide) ?_
                              refine pm_iadd hG dX12_winsBy_201 ?_
                              refine pm_iastN hG dX12_winsBy_202 rfl (by decide) (by omega) ?_
                              refine mdn_guards (fun A_29 => ?_)
                              refine pm_aloadn hG dX12_winsBy_203 rfl ?_
                              refine pm_getf hG dX12_winsBy_204 (flX12_43 _ rfl) rfl rfl ?_
                              refine pm_iloadi hG dX12_winsBy_207 rfl ?_
                              refine pm_top (v := nI k11) ek11 ?_
                              refine pm_dup2 hG dX12_winsBy_209 rfl rfl ?_
                              refine pm_ialdN hG dX12_winsBy_210 rfl (by decide) (by omega) ?_
                              refine pm_any (fun x30 => ?_)
                              refine pm_iconst (v := nI 1) hG dX12_winsBy_211 (by decide) ?_
                              refine pm_isub hG dX12_winsBy_212 ?_
                              refine pm_iastN hG dX12_winsBy_213 rfl (by decide) (by omega) ?_
                              refine mdn_guards (fun A_31 => ?_)
                              refine pm_iincX (v := nI 1) (loc' := [some (.ref (B + 54)), some (.int (-1)), some (.int (nI 2)), some (.int zc), some (.int zd), some (.int ze), some (.int zc), some (.int zd), some (.int v26), some (.int (nI i4)), some (.int (nI 1)), some (.int ((nI i4) + (-1)))]) hG dX12_winsBy_214 rfl (by decide) (by decide) (pm_c1b rfl) rfl ?_
                              refine pm_goto (tgt := 82) hG dX12_winsBy_217 rfl ?_
                              refine pm_fg 11 (loc' := [some (.ref (B + 54)), some (.int (-1)), some (.int (nI 2)), some (.int zc), some (.int zd), some (.int ze), some (.int zc), some (.int zd), some (.int v26), some (.int (nI i4)), some (.int (nI 1)), none]) rfl ?_
                              exact ih7 I27 A_31 v26 1 bv26 (by omega) (by omega)
                            · refine pm_goto (tgt := 214) hG dX12_winsBy_152 rfl ?_
                              refine pm_iincX (v := nI 1) (loc' := [some (.ref (B + 54)), some (.int (-1)), some (.int (nI 2)), some (.int zc), some (.int zd), some (.int ze), some (.int zc), some (.int zd), some (.int x7), some (.int (nI i4)), some (.int (nI 1)), some (.int ((nI i4) + (-1)))]) hG dX12_winsBy_214 rfl (by decide) (by decide) (pm_c1b rfl) rfl ?_
                              refine pm_goto (tgt := 82) hG dX12_winsBy_217 rfl ?_
                              refine pm_fg 11 (loc' := [some (.ref (B + 54)), some (.int (-1)), some (.int (nI 2)), some (.int zc), some (.int zd), some (.int ze), some (.int zc), some (.int zd), some (.int x7), some (.int (nI i4)), some (.int (nI 1)), none]) rfl ?_
                              exact ih7 I7 A7 x7 1 b7 (by omega) (by omega)
                    · refine pm_ifN_eq (tgt := 214) hG dX12_winsBy_107 rfl (by omega) (fun _ => ?_) (fun q => absurd q (by omega))
                      refine pm_iincX (v := nI 1) (loc' := [some (.ref (B + 54)), some (.int (-1)), some (.int (nI 2)), some (.int zc), some (.int zd), some (.int ze), some (.int zc), some (.int zd), some (.int x7), some (.int (nI i4)), some (.int (nI 1)), some (.int ((nI i4) + (-1)))]) hG dX12_winsBy_214 rfl (by decide) (by decide) (pm_c1b rfl) rfl ?_
                      refine pm_goto (tgt := 82) hG dX12_winsBy_217 rfl ?_
                      refine pm_fg 11 (loc' := [some (.ref (B + 54)), some (.int (-1)), some (.int (nI 2)), some (.int zc), some (.int zd), some (.int ze), some (.int zc), some (.int zd), some (.int x7), some (.int (nI i4)), some (.int (nI 1)), none]) rfl ?_
                      exact ih7 I7 A7 x7 1 b7 (by omega) (by omega)
                · refine pm_le (loc' := [some (.ref (B + 54)), some (.int (-1)), some (.int (nI 2)), some (.int zc), some (.int zd), some (.int ze), some (.int zc), some (.int zd), some (.int x7), some (.int (nI i4)), some (.int (nI 1)), none]) rfl ?_
                  refine pm_iloadi hG dX12_winsBy_82 rfl ?_
                  refine pm_iconst (v := nI 1) hG dX12_winsBy_84 (by decide) ?_
                  refine pm_icmpN_gt (tgt := 220) hG dX12_winsBy_85 rfl (by omega) (by omega) (fun q => absurd q (by omega)) (fun _ => ?_)
                  refine pm_iloadi hG dX12_winsBy_88 rfl ?_
                  refine pm_if_eq (tgt := 220) hG dX12_winsBy_90 rfl (fun c32 => ?_) (fun c32 => ?_)
                  · refine pm_iincX (v := nI (i4 + 1)) (loc' := [some (.ref (B + 54)), some (.int (-1)), some (.int (nI 2)), some (.int zc), some (.int zd), some (.int ze), some (.int zc), some (.int zd), some (.int x7), some (.int (nI (i4 + 1))), some (.int (nI 1)), none]) hG dX12_winsBy_220 rfl (nI_1 _) (by decide) (pm_c1b rfl) rfl ?_
                    refine pm_goto (tgt := 68) hG dX12_winsBy_223 rfl ?_
                    refine pm_fg 10 (loc' := [some (.ref (B + 54)), some (.int (-1)), some (.int (nI 2)), some (.int zc), some (.int zd), some (.int ze), some (.int zc), some (.int zd), some (.int x7), some (.int (nI (i4 + 1))), none, none]) rfl ?_
                    exact ih4 I7 A7 x7 (i4 + 1) b7 (by omega) (by omega)
                  · refine pm_iloadi hG dX12_winsBy_93 rfl ?_
                    refine pm_iloadi hG dX12_winsBy_95 rfl ?_
                    refine pm_iaddN (c := i4 + 1) hG dX12_winsBy_97 (by omega) ?_
                    refine pm_istoreXi (loc' := [some (.ref (B + 54)), some (.int (-1)), some (.int (nI 2)), some (.int zc), some (.int zd), some (.int ze), some (.int zc), some (.int zd), some (.int x7), some (.int (nI i4)), some (.int (nI 1)), some (.int (nI (i4 + 1)))]) hG dX12_winsBy_98 (by decide) (pm_c1b rfl) rfl ?_
                    refine pm_iloadi hG dX12_winsBy_100 rfl ?_
                    refine pm_iconst (v := nI 0) hG dX12_winsBy_102 (by decide) ?_
                    refine pm_iconst (v := nI 4) hG dX12_winsBy_103 (by decide) ?_
                    refine pm_callS (As := [.int (nI (i4 + 1)), .int (nI 0), .int (nI 4)]) (rest := []) hG hR dX12_winsBy_104 (lkX12_68 _ rfl) okS_X12_in (m_in (d := 3)) rfl rfl hdd (Nat.le_refl _) (Nat.le_refl _) (by decide) (pm_ki (fun v33 σ' cnt' hq => ?_))
                    obtain ⟨hq, rfl, rfl⟩ := hq
                    rcases hq with ⟨rfl, ac34, bc34⟩ | ⟨rfl, c34⟩
                    · have ic34 := (nI_leI (by omega) (by omega)).mp (Int32.not_lt.mp ac34)
                      have jc34 := (nI_leI (by omega) (by omega)).mp (Int32.not_lt.mp bc34)
                      refine pm_ifN_eq (tgt := 214) hG dX12_winsBy_107 rfl (by omega) (fun q => absurd q (by omega)) (fun _ => ?_)
                      refine pm_iloadi hG dX12_winsBy_110 rfl ?_
                      refine pm_iloadi hG dX12_winsBy_112 rfl ?_
                      refine pm_callS (As := [.int zc, .int (nI i4)]) (rest := []) hG hR dX12_winsBy_114 (lkX12_253 _ rfl) okS_X12_isTaken (m_isTaken (d := 3) (by decide) hn hz) rfl rfl hdd (Nat.le_refl _) (Nat.le_refl _) (by decide) (pm_ki (fun v35 σ' cnt' hq => ?_))
                      obtain ⟨rfl, rfl, bv35⟩ := hq
                      refine pm_if_ne (tgt := 214) hG dX12_winsBy_117 rfl (fun c37 => ?_) (fun c37 => ?_)
                      · refine pm_iincX (v := nI 3) (loc' := [some (.ref (B + 54)), some (.int (-1)), some (.int (nI 2)), some (.int zc), some (.int zd), some (.int ze), some (.int zc), some (.int zd), some (.int x7), some (.int (nI i4)), some (.int (nI 3)), some (.int (nI (i4 + 1)))]) hG dX12_winsBy_214 rfl (by decide) (by decide) (pm_c1b rfl) rfl ?_
                        refine pm_goto (tgt := 82) hG dX12_winsBy_217 rfl ?_
                        refine pm_fg 11 (loc' := [some (.ref (B + 54)), some (.int (-1)), some (.int (nI 2)), some (.int zc), some (.int zd), some (.int ze), some (.int zc), some (.int zd), some (.int x7), some (.int (nI i4)), some (.int (nI 3)), none]) rfl ?_
                        exact ih7 I7 A7 x7 2 b7 (by omega) (by omega)
                      · refine pm_iloadi hG dX12_winsBy_120 rfl ?_
                        refine pm_iloadi hG dX12_winsBy_122 rfl ?_
                        refine pm_callS (As := [.int zc, .int (nI (i4 + 1))]) (rest := []) hG hR dX12_winsBy_124 (lkX12_253 _ rfl) okS_X12_isTaken (m_isTaken (d := 3) (by decide) hn hz) rfl rfl hdd (Nat.le_refl _) (Nat.le_refl _) (by decide) (pm_ki (fun v38 σ' cnt' hq => ?_))
                        obtain ⟨rfl, rfl, bv38⟩ := hq
                        refine pm_if_ne (tgt := 214) hG dX12_winsBy_127 rfl (fun c40 => ?_) (fun c40 => ?_)
                        · refine pm_iincX (v := nI 3) (loc' := [some (.ref (B + 54)), some (.int (-1)), some (.int (nI 2)), some (.int zc), some (.int zd), some (.int ze), some (.int zc), some (.int zd), some (.int x7), some (.int (nI i4)), some (.int (nI 3)), some (.int (nI (i4 + 1)))]) hG dX12_winsBy_214 rfl (by decide) (by decide) (pm_c1b rfl) rfl ?_
                          refine pm_goto (tgt := 82) hG dX12_winsBy_217 rfl ?_
                          refine pm_fg 11 (loc' := [some (.ref (B + 54)), some (.int (-1)), some (.int (nI 2)), some (.int zc), some (.int zd), some (.int ze), some (.int zc), some (.int zd), some (.int x7), some (.int (nI i4)), some (.int (nI 3)), none]) rfl ?_
                          exact ih7 I7 A7 x7 2 b7 (by omega) (by omega)
                        · refine pm_aloadn hG dX12_winsBy_130 rfl ?_
                          refine pm_getf hG dX12_winsBy_131 (flX12_43 _ rfl) rfl rfl ?_
                          refine pm_iloadi hG dX12_winsBy_134 rfl ?_
                          refine pm_ialdN hG dX12_winsBy_136 rfl (by decide) (by omega) ?_
                          refine pm_any (fun x41 => ?_)
                          refine pm_if_eq (tgt := 214) hG dX12_winsBy_137 rfl (fun c42 => ?_) (fun c42 => ?_)
                          · refine pm_iincX (v := nI 3) (loc' := [some (.ref (B + 54)), some (.int (-1)), some (.int (nI 2)), some (.int zc), some (.int zd), some (.int ze), some (.int zc), some (.int zd), some (.int x7), some (.int (nI i4)), some (.int (nI 3)), some (.int (nI (i4 + 1)))]) hG dX12_winsBy_214 rfl (by decide) (by decide) (pm_c1b rfl) rfl ?_
                            refine pm_goto (tgt := 82) hG dX12_winsBy_217 rfl ?_
                            refine pm_fg 11 (loc' := [some (.ref (B + 54)), some (.int (-1)), some (.int (nI 2)), some (.int zc), some (.int zd), some (.int ze), some (.int zc), some (.int zd), some (.int x7), some (.int (nI i4)), some (.int (nI 3)), none]) rfl ?_
                            exact ih7 I7 A7 x7 2 b7 (by omega) (by omega)
                          · refine pm_aloadn hG dX12_winsBy_140 rfl ?_
                            refine pm_getf hG dX12_winsBy_141 (flX12_43 _ rfl) rfl rfl ?_
                            refine pm_iloadi hG dX12_winsBy_144 rfl ?_
                            refine pm_ialdN hG dX12_winsBy_146 rfl (by decide) (by omega) ?_
                            refine pm_any (fun x43 => ?_)
                            refine pm_bipush (v := nI 6) hG dX12_winsBy_147 (by decide) ?_
                            refine pm_icmp_ne (tgt := 155) hG dX12_winsBy_149 rfl (fun c44 => ?_) (fun c44 => ?_)
                            · refine pm_aloadn hG dX12_winsBy_155 rfl ?_
                              refine pm_getf hG dX12_winsBy_156 (flX12_43 _ rfl) rfl rfl ?_
                              refine pm_iloadi hG dX12_winsBy_159 rfl ?_
                              refine pm_dup2 hG dX12_winsBy_161 rfl rfl ?_
                              refine pm_ialdN hG dX12_winsBy_162 rfl (by decide) (by omega) ?_
                              refine pm_any (fun x45 => ?_)
                              refine pm_iconst (v := nI 1) hG dX12_winsBy_163 (by decide) ?_
                              refine pm_isub hG dX12_winsBy_164 ?_
                              refine pm_iastN hG dX12_winsBy_165 rfl (by decide) (by omega) ?_
                              refine mdn_guards (fun A_46 => ?_)
                              refine pm_aloadn hG dX12_winsBy_166 rfl ?_
                              refine pm_getf hG dX12_winsBy_167 (flX12_43 _ rfl) rfl rfl ?_
                              refine pm_iloadi hG dX12_winsBy_170 rfl ?_
                              refine pm_dup2 hG dX12_winsBy_172 rfl rfl ?_
                              refine pm_ialdN hG dX12_winsBy_173 rfl (by decide) (by omega) ?_
                              refine pm_any (fun x47 => ?_)
                              refine pm_iconst (v := nI 1) hG dX12_winsBy_174 (by decide) ?_
                              refine pm_iadd hG dX12_winsBy_175 ?_
                              refine pm_iastN hG dX12_winsBy_176 rfl (by decide) (by omega) ?_
                              refine mdn_guards (fun A_48 => ?_)
                              refine pm_aloadn hG dX12_winsBy_177 rfl ?_
                              refine pm_iloadn hG dX12_winsBy_178 rfl ?_
                              refine pm_iconst (v := nI 1) hG dX12_winsBy_179 (by decide) ?_
                              refine pm_isubN (c := 1) hG dX12_winsBy_180 (by omega) ?_
                              refine pm_iloadi hG dX12_winsBy_181 rfl ?_
                              refine pm_iloadi hG dX12_winsBy_183 rfl ?_
                              refine pm_iloadi hG dX12_winsBy_185 rfl ?_
                              refine pm_callV (As := [.int (nI 1), .int zc, .int zd, .int ze]) (rest := []) hG hR dX12_winsBy_187 (lkX12_256 _ rfl) okV_X12_wins rfl rfl (m_wins_c1 (d := 3) (by decide) hn hz) rfl rfl hdd (Nat.le_refl _) (Nat.le_refl _) (by decide) (pm_ki (fun v49 σ' cnt' hq => ?_))
                              obtain ⟨⟨I50, A50, rfl⟩, rfl, bv49⟩ := hq
                              refine pm_istoreXi (loc' := [some (.ref (B + 54)), some (.int (-1)), some (.int (nI 2)), some (.int zc), some (.int zd), some (.int ze), some (.int zc), some (.int zd), some (.int v49), some (.int (nI i4)), some (.int (nI 1)), some (.int (nI (i4 + 1)))]) hG dX12_winsBy_190 (by decide) (pm_c1b rfl) rfl ?_
                              refine pm_aloadn hG dX12_winsBy_192 rfl ?_
                              refine pm_getf hG dX12_winsBy_193 (flX12_43 _ rfl) rfl rfl ?_
                              refine pm_iloadi hG dX12_winsBy_196 rfl ?_
                              refine pm_dup2 hG dX12_winsBy_198 rfl rfl ?_
                              refine pm_ialdN hG dX12_winsBy_199 rfl (by decide) (by omega) ?_
                              refine pm_any (fun x51 => ?_)
                              refine pm_iconst (v := nI 1) hG dX12_winsBy_200 (by decide) ?_
                              refine pm_iadd hG dX12_winsBy_201 ?_
                              refine pm_iastN hG dX12_winsBy_202 rfl (by decide) (by omega) ?_
                              refine mdn_guards (fun A_52 => ?_)
                              refine pm_aloadn hG dX12_winsBy_203 rfl ?_
                              refine pm_getf hG dX12_winsBy_204 (flX12_43 _ rfl) rfl rfl ?_
                              refine pm_iloadi hG dX12_winsBy_207 rfl ?_
                              refine pm_dup2 hG dX12_winsBy_209 rfl rfl ?_
                              refine pm_ialdN hG dX12_winsBy_210 rfl (by decide) (by omega) ?_
                              refine pm_any (fun x53 => ?_)
                              refine pm_iconst (v := nI 1) hG dX12_winsBy_211 (by decide) ?_
                              refine pm_isub hG dX12_winsBy_212 ?_
                              refine pm_iastN hG dX12_winsBy_213 rfl (by decide) (by omega) ?_
                              refine mdn_guards (fun A_54 => ?_)
                              refine pm_iincX (v := nI 3) (loc' := [some (.ref (B + 54)), some (.int (-1)), some (.int (nI 2)), some (.int zc), some (.int zd), some (.int ze), some (.int zc), some (.int zd), some (.int v49), some (.int (nI i4)), some (.int (nI 3)), some (.int (nI (i4 + 1)))]) hG dX12_winsBy_214 rfl (by decide) (by decide) (pm_c1b rfl) rfl ?_
                              refine pm_goto (tgt := 82) hG dX12_winsBy_217 rfl ?_
                              refine pm_fg 11 (loc' := [some (.ref (B + 54)), some (.int (-1)), some (.int (nI 2)), some (.int zc), some (.int zd), some (.int ze), some (.int zc), some (.int zd), some (.int v49), some (.int (nI i4)), some (.int (nI 3)), none]) rfl ?_
                              exact ih7 I50 A_54 v49 2 bv49 (by omega) (by omega)
                            · refine pm_goto (tgt := 214) hG dX12_winsBy_152 rfl ?_
                              refine pm_iincX (v := nI 3) (loc' := [some (.ref (B + 54)), some (.int (-1)), some (.int (nI 2)), some (.int zc), some (.int zd), some (.int ze), some (.int zc), some (.int zd), some (.int x7), some (.int (nI i4)), some (.int (nI 3)), some (.int (nI (i4 + 1)))]) hG dX12_winsBy_214 rfl (by decide) (by decide) (pm_c1b rfl) rfl ?_
                              refine pm_goto (tgt := 82) hG dX12_winsBy_217 rfl ?_
                              refine pm_fg 11 (loc' := [some (.ref (B + 54)), some (.int (-1)), some (.int (nI 2)), some (.int zc), some (.int zd), some (.int ze), some (.int zc), some (.int zd), some (.int x7), some (.int (nI i4)), some (.int (nI 3)), none]) rfl ?_
                              exact ih7 I7 A7 x7 2 b7 (by omega) (by omega)
                    · refine pm_ifN_eq (tgt := 214) hG dX12_winsBy_107 rfl (by omega) (fun _ => ?_) (fun q => absurd q (by omega))
                      refine pm_iincX (v := nI 3) (loc' := [some (.ref (B + 54)), some (.int (-1)), some (.int (nI 2)), some (.int zc), some (.int zd), some (.int ze), some (.int zc), some (.int zd), some (.int x7), some (.int (nI i4)), some (.int (nI 3)), some (.int (nI (i4 + 1)))]) hG dX12_winsBy_214 rfl (by decide) (by decide) (pm_c1b rfl) rfl ?_
                      refine pm_goto (tgt := 82) hG dX12_winsBy_217 rfl ?_
                      refine pm_fg 11 (loc' := [some (.ref (B + 54)), some (.int (-1)), some (.int (nI 2)), some (.int zc), some (.int zd), some (.int ze), some (.int zc), some (.int zd), some (.int x7), some (.int (nI i4)), some (.int (nI 3)), none]) rfl ?_
                      exact ih7 I7 A7 x7 2 b7 (by omega) (by omega)
                · refine pm_le (loc' := [some (.ref (B + 54)), some (.int (-1)), some (.int (nI 2)), some (.int zc), some (.int zd), some (.int ze), some (.int zc), some (.int zd), some (.int x7), some (.int (nI i4)), some (.int (nI 3)), none]) rfl ?_
                  refine pm_iloadi hG dX12_winsBy_82 rfl ?_
                  refine pm_iconst (v := nI 1) hG dX12_winsBy_84 (by decide) ?_
                  refine pm_icmpN_gt (tgt := 220) hG dX12_winsBy_85 rfl (by omega) (by omega) (fun _ => ?_) (fun q => absurd q (by omega))
                  refine pm_iincX (v := nI (i4 + 1)) (loc' := [some (.ref (B + 54)), some (.int (-1)), some (.int (nI 2)), some (.int zc), some (.int zd), some (.int ze), some (.int zc), some (.int zd), some (.int x7), some (.int (nI (i4 + 1))), some (.int (nI 3)), none]) hG dX12_winsBy_220 rfl (nI_1 _) (by decide) (pm_c1b rfl) rfl ?_
                  refine pm_goto (tgt := 68) hG dX12_winsBy_223 rfl ?_
                  refine pm_fg 10 (loc' := [some (.ref (B + 54)), some (.int (-1)), some (.int (nI 2)), some (.int zc), some (.int zd), some (.int ze), some (.int zc), some (.int zd), some (.int x7), some (.int (nI (i4 + 1))), none, none]) rfl ?_
                  exact ih4 I7 A7 x7 (i4 + 1) b7 (by omega) (by omega)
            exact loop7 _ I4 A4 x4_8 0 bx4_8 (by omega) (Nat.lt_succ_self _)
    exact loop68_4 _ I3 A3 v2 0 bv2 (by omega) (Nat.lt_succ_self _)
  · refine pm_iconst (v := nI 1) hG dX12_winsBy_6 (by decide) ?_
    exact pm_zret hG hF dX12_winsBy_7 rfl (pm_nz (Or.inr rfl)) (Nat.le_refl _) (Nat.le_refl _) ⟨_, rfl, ⟨_, _, rfl⟩, rfl, (Or.inr rfl)⟩
