set_option maxRecDepth 100000 in
set_option maxHeartbeats 4000000 in
theorem m_held {d B cnt p0 t0 : Nat} {σ : pm_S} {I : Nat → Int32} {A : Nat → Nat → Int32} {n k z : Nat → Int32} {ac wt pl im : Int32} {y : Nat → Int32} {za zb : Int32} (hdd : 2 ≤ d) (hn : KI n) (hz : SZ z)  : pm_met mX12_held d 0 0 B [.ref (B + 54), .int za, .int zb] cnt (pm_mid σ (md_L B I A n k z ac wt pl (nI p0) (nI t0) im y)) (pm_Qi (fun v σ' cnt' => (∃ (I' : Nat → Int32) (A' : Nat → Nat → Int32), σ' = pm_mid σ (md_L B I' A' n k z ac wt pl (nI p0) (nI t0) im y)) ∧ cnt = cnt')) := by
  refine pm_enter 0 (by decide) (Nat.le_of_ble_eq_true rfl) rfl (fun G hG hR hF => ?_)
  refine pm_aloadn hG dX12_held_0 rfl ?_
  refine pm_iloadn hG dX12_held_1 rfl ?_
  obtain ⟨k1, hk1, ek1⟩ := KI.nat hn (show kd 3 = (1, 21, false) by decide)
  refine pm_callV (As := [.int za]) (rest := []) hG hR dX12_held_2 (lkX12_132 _ rfl) okV_X12_isPower rfl rfl (m_isPower (d := 1) (by decide) ek1 (by omega)) rfl rfl hdd (Nat.le_refl _) (Nat.le_refl _) (by decide) (pm_ki (fun v2 σ' cnt' hq => ?_))
  obtain ⟨hq, rfl, rfl⟩ := hq
  rcases hq with ⟨rfl, k4, hk4, ek4⟩ | rfl
  · refine pm_ifN_ne (tgt := 14) hG dX12_held_5 rfl (by omega) (fun _ => ?_) (fun q => absurd q (by omega))
    refine pm_iloadn hG dX12_held_14 rfl ?_
    by_cases c5 : zb = nI 0
    · refine pm_top (v := nI 0) c5 ?_
      refine pm_tswIn (tgt := 48) hG dX12_held_15 (by decide) (by decide) rfl rfl ?_
      refine pm_aloadn hG dX12_held_48 rfl ?_
      refine pm_iloadn hG dX12_held_49 rfl ?_
      refine pm_top (v := nI k4) ek4 ?_
      refine pm_iconst (v := nI 0) hG dX12_held_50 (by decide) ?_
      refine pm_callV (As := [.int (nI k4), .int (nI 0)]) (rest := []) hG hR dX12_held_51 (lkX12_110 _ rfl) okV_X12_its rfl rfl (m_its (d := 1) (e := 6 * k4 + 390) (by omega) (by omega) (by omega)) rfl rfl hdd (Nat.le_refl _) (Nat.le_refl _) (by decide) (pm_ki (fun v6 σ' cnt' hq => ?_))
      obtain ⟨rfl, rfl, rfl⟩ := hq
      refine pm_gen (fun x7 ex7 => ?_)
      exact pm_iret hG hF dX12_held_54 rfl (Nat.le_refl _) (Nat.le_refl _) ⟨_, rfl, ⟨_, _, rfl⟩, rfl⟩
    by_cases c8 : zb = nI 1
    · refine pm_top (v := nI 1) c8 ?_
      refine pm_tswIn (tgt := 55) hG dX12_held_15 (by decide) (by decide) rfl rfl ?_
      refine pm_aloadn hG dX12_held_55 rfl ?_
      refine pm_iloadn hG dX12_held_56 rfl ?_
      refine pm_top (v := nI k4) ek4 ?_
      refine pm_iconst (v := nI 1) hG dX12_held_57 (by decide) ?_
      refine pm_callV (As := [.int (nI k4), .int (nI 1)]) (rest := []) hG hR dX12_held_58 (lkX12_110 _ rfl) okV_X12_its rfl rfl (m_its (d := 1) (e := 6 * k4 + 391) (by omega) (by omega) (by omega)) rfl rfl hdd (Nat.le_refl _) (Nat.le_refl _) (by decide) (pm_ki (fun v9 σ' cnt' hq => ?_))
      obtain ⟨rfl, rfl, rfl⟩ := hq
      rcases KI.opt hn (show kd (6 * k4 + 391) = (2, 20, false) from (kd_W (k := k4) (c := 1) (by omega) (by omega) (by decide))) with ek10 | ⟨k10, hk10, ek10⟩
      · refine pm_top (v := (-1)) ek10 ?_
        exact pm_iret hG hF dX12_held_61 rfl (Nat.le_refl _) (Nat.le_refl _) ⟨_, rfl, ⟨_, _, rfl⟩, rfl⟩
      · refine pm_top (v := nI k10) ek10 ?_
        exact pm_iret hG hF dX12_held_61 rfl (Nat.le_refl _) (Nat.le_refl _) ⟨_, rfl, ⟨_, _, rfl⟩, rfl⟩
    by_cases c11 : zb = nI 2
    · refine pm_top (v := nI 2) c11 ?_
      refine pm_tswIn (tgt := 62) hG dX12_held_15 (by decide) (by decide) rfl rfl ?_
      refine pm_aloadn hG dX12_held_62 rfl ?_
      refine pm_iloadn hG dX12_held_63 rfl ?_
      refine pm_top (v := nI k4) ek4 ?_
      rcases KI.opt hn (show kd (6 * k4 + 392) = (2, 20, false) from (kd_W (k := k4) (c := 2) (by omega) (by omega) (by decide))) with ek12 | ⟨k12, hk12, ek12⟩
      · rcases KI.opt hn (show kd (6 * k4 + 391) = (2, 20, false) from (kd_W (k := k4) (c := 1) (by omega) (by omega) (by decide))) with ek13 | ⟨k13, hk13, ek13⟩
        · refine pm_callV (As := [.int (nI k4)]) (rest := []) hG hR dX12_held_64 (lkX12_139 _ rfl) okV_X12_whoHas rfl rfl (m_whoHas0 (d := 1) (e := 6 * k4 + 392) (e2 := 6 * k4 + 391) (by decide) (by omega) (by omega) (by omega) ek12 ek13) rfl rfl hdd (Nat.le_refl _) (Nat.le_refl _) (by decide) (pm_ki (fun v14 σ' cnt' hq => ?_))
          obtain ⟨rfl, rfl, rfl⟩ := hq
          exact pm_iret hG hF dX12_held_67 rfl (Nat.le_refl _) (Nat.le_refl _) ⟨_, rfl, ⟨_, _, rfl⟩, rfl⟩
        · refine pm_callV (As := [.int (nI k4)]) (rest := []) hG hR dX12_held_64 (lkX12_139 _ rfl) okV_X12_whoHas rfl rfl (m_whoHas0 (d := 1) (e := 6 * k4 + 392) (e2 := 6 * k4 + 391) (by decide) (by omega) (by omega) (by omega) ek12 ek13) rfl rfl hdd (Nat.le_refl _) (Nat.le_refl _) (by decide) (pm_ki (fun v15 σ' cnt' hq => ?_))
          obtain ⟨rfl, rfl, rfl⟩ := hq
          exact pm_iret hG hF dX12_held_67 rfl (Nat.le_refl _) (Nat.le_refl _) ⟨_, rfl, ⟨_, _, rfl⟩, rfl⟩
      · refine pm_callV (As := [.int (nI k4)]) (rest := []) hG hR dX12_held_64 (lkX12_139 _ rfl) okV_X12_whoHas rfl rfl (m_whoHas1 (d := 1) (e := 6 * k4 + 392) (by decide) (by omega) (by omega) ek12 (by omega)) rfl rfl hdd (Nat.le_refl _) (Nat.le_refl _) (by decide) (pm_ki (fun v16 σ' cnt' hq => ?_))
        obtain ⟨rfl, rfl, rfl⟩ := hq
        exact pm_iret hG hF dX12_held_67 rfl (Nat.le_refl _) (Nat.le_refl _) ⟨_, rfl, ⟨_, _, rfl⟩, rfl⟩
    by_cases c17 : zb = nI 3
    · refine pm_top (v := nI 3) c17 ?_
      refine pm_tswIn (tgt := 68) hG dX12_held_15 (by decide) (by decide) rfl rfl ?_
      refine pm_aloadn hG dX12_held_68 rfl ?_
      refine pm_iloadn hG dX12_held_69 rfl ?_
      refine pm_top (v := nI k4) ek4 ?_
      refine pm_iconst (v := nI 0) hG dX12_held_70 (by decide) ?_
      refine pm_callV (As := [.int (nI k4), .int (nI 0)]) (rest := []) hG hR dX12_held_71 (lkX12_110 _ rfl) okV_X12_its rfl rfl (m_its (d := 1) (e := 6 * k4 + 390) (by omega) (by omega) (by omega)) rfl rfl hdd (Nat.le_refl _) (Nat.le_refl _) (by decide) (pm_ki (fun v18 σ' cnt' hq => ?_))
      obtain ⟨rfl, rfl, rfl⟩ := hq
      refine pm_gen (fun x19 ex19 => ?_)
      refine pm_iconst (v := nI 2) hG dX12_held_74 (by decide) ?_
      refine pm_icmp_ne (tgt := 87) hG dX12_held_75 rfl (fun c20 => ?_) (fun c20 => ?_)
      · refine pm_iconst (v := (-1)) hG dX12_held_87 (by decide) ?_
        exact pm_iret hG hF dX12_held_88 rfl (Nat.le_refl _) (Nat.le_refl _) ⟨_, rfl, ⟨_, _, rfl⟩, rfl⟩
      · refine pm_aloadn hG dX12_held_78 rfl ?_
        refine pm_iloadn hG dX12_held_79 rfl ?_
        refine pm_top (v := nI k4) ek4 ?_
        refine pm_iconst (v := nI 5) hG dX12_held_80 (by decide) ?_
        refine pm_callV (As := [.int (nI k4), .int (nI 5)]) (rest := []) hG hR dX12_held_81 (lkX12_110 _ rfl) okV_X12_its rfl rfl (m_its (d := 1) (e := 6 * k4 + 395) (by omega) (by omega) (by omega)) rfl rfl hdd (Nat.le_refl _) (Nat.le_refl _) (by decide) (pm_ki (fun v21 σ' cnt' hq => ?_))
        obtain ⟨rfl, rfl, rfl⟩ := hq
        refine pm_gen (fun x22 ex22 => ?_)
        refine pm_goto (tgt := 88) hG dX12_held_84 rfl ?_
        exact pm_iret hG hF dX12_held_88 rfl (Nat.le_refl _) (Nat.le_refl _) ⟨_, rfl, ⟨_, _, rfl⟩, rfl⟩
    by_cases c23 : zb = nI 4
    · refine pm_top (v := nI 4) c23 ?_
      refine pm_tswIn (tgt := 89) hG dX12_held_15 (by decide) (by decide) rfl rfl ?_
      refine pm_aloadn hG dX12_held_89 rfl ?_
      refine pm_iloadn hG dX12_held_90 rfl ?_
      refine pm_top (v := nI k4) ek4 ?_
      refine pm_iconst (v := nI 3) hG dX12_held_91 (by decide) ?_
      refine pm_callV (As := [.int (nI k4), .int (nI 3)]) (rest := []) hG hR dX12_held_92 (lkX12_110 _ rfl) okV_X12_its rfl rfl (m_its (d := 1) (e := 6 * k4 + 393) (by omega) (by omega) (by omega)) rfl rfl hdd (Nat.le_refl _) (Nat.le_refl _) (by decide) (pm_ki (fun v24 σ' cnt' hq => ?_))
      obtain ⟨rfl, rfl, rfl⟩ := hq
      refine pm_gen (fun x25 ex25 => ?_)
      exact pm_iret hG hF dX12_held_95 rfl (Nat.le_refl _) (Nat.le_refl _) ⟨_, rfl, ⟨_, _, rfl⟩, rfl⟩
    have tc5 : ¬ zb.toInt = 0 := fun q => c5 (Int32.toInt_inj.mp (q.trans (by decide)))
    have tc8 : ¬ zb.toInt = 1 := fun q => c8 (Int32.toInt_inj.mp (q.trans (by decide)))
    have tc11 : ¬ zb.toInt = 2 := fun q => c11 (Int32.toInt_inj.mp (q.trans (by decide)))
    have tc17 : ¬ zb.toInt = 3 := fun q => c17 (Int32.toInt_inj.mp (q.trans (by decide)))
    have tc23 : ¬ zb.toInt = 4 := fun q => c23 (Int32.toInt_inj.mp (q.trans (by decide)))
    refine pm_tswOut (tgt := 96) hG dX12_held_15 (by omega) rfl ?_
    refine pm_aloadn hG dX12_held_96 rfl ?_
    refine pm_iconst (v := nI 1) hG dX12_held_97 (by decide) ?_
    refine pm_callV (As := [.int (nI 1)]) (rest := []) hG hR dX12_held_98 (lkX12_80 _ rfl) okV_X12_finds rfl rfl (m_finds (d := 1) (by decide) hn hz (by omega)) rfl rfl hdd (Nat.le_refl _) (Nat.le_refl _) (by decide) (pm_ki (fun v26 σ' cnt' hq => ?_))
    obtain ⟨⟨I27, A27, rfl⟩, rfl, fv26⟩ := hq
    exact pm_iret hG hF dX12_held_101 rfl (Nat.le_refl _) (Nat.le_refl _) ⟨_, rfl, ⟨_, _, rfl⟩, rfl⟩
  · refine pm_ifN_ne (tgt := 14) hG dX12_held_5 rfl (by omega) (fun q => absurd q (by omega)) (fun _ => ?_)
    refine pm_aloadn hG dX12_held_8 rfl ?_
    refine pm_iconst (v := nI 1) hG dX12_held_9 (by decide) ?_
    refine pm_callV (As := [.int (nI 1)]) (rest := []) hG hR dX12_held_10 (lkX12_80 _ rfl) okV_X12_finds rfl rfl (m_finds (d := 1) (by decide) hn hz (by omega)) rfl rfl hdd (Nat.le_refl _) (Nat.le_refl _) (by decide) (pm_ki (fun v28 σ' cnt' hq => ?_))
    obtain ⟨⟨I29, A29, rfl⟩, rfl, fv28⟩ := hq
    exact pm_iret hG hF dX12_held_13 rfl (Nat.le_refl _) (Nat.le_refl _) ⟨_, rfl, ⟨_, _, rfl⟩, rfl⟩
