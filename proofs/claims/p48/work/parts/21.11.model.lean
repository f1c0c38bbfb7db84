set_option maxRecDepth 100000 in
set_option maxHeartbeats 4000000 in
theorem m_held {d B cnt p0 t0 : Nat} {σ : pm_S} {I : Nat → Int32} {A : Nat → Nat → Int32} {n k z : Nat → Int32} {ac wt pl : Int32} {za zb : Int32} (hdd : 2 ≤ d) (hn : KI n) (hz : SZ z)  : pm_met mX12_held d 0 0 B [.ref (B + 54), .int za, .int zb] cnt (pm_mid σ (md_L B I A n k z ac wt pl (nI p0) (nI t0))) (pm_Qi (fun v σ' cnt' => (∃ (I' : Nat → Int32) (A' : Nat → Nat → Int32), σ' = pm_mid σ (md_L B I' A' n k z ac wt pl (nI p0) (nI t0))) ∧ cnt' = cnt)) := by
  refine pm_enter 0 (by decide) (Nat.le_of_ble_eq_true rfl) rfl (fun G hG hR hF => ?_)
  refine pm_aloadn hG dX12_held_0 rfl ?_
  refine pm_iloadn hG dX12_held_1 rfl ?_
  obtain ⟨k1, hk1, ek1⟩ := KI.nat hn (show kd 3 = (1, 21, false) by decide)
  refine pm_callV (As := [.int za]) (rest := []) hG hR dX12_held_2 (lkX12_132 _ rfl) okV_X12_isPower rfl rfl (m_isPower (d := 1) (by decide) ek1 (by omega)) rfl rfl hdd (Nat.le_refl _) (Nat.le_refl _) (by decide) (pm_ki (fun v2 σ' cnt' hq => ?_))
  obtain ⟨hq, rfl, rfl⟩ := hq
  rcases hq with ⟨rfl, k4, hk4, ek4⟩ | rfl
  · refine pm_ifN_ne (tgt := 14) hG dX12_held_5 rfl (by omega) (fun _ => ?_) (fun q => absurd q (by omega))
    refine pm_iloadn hG dX12_held_14 rfl ?_
    by_cases c5 : zb = nI 0
    · refine pm_top (v := nI 0) c5 ?_
      refine pm_tswIn (tgt := 48) hG dX12_held_15 (by decide) (by decide) rfl rfl ?_
      refine pm_aloadn hG dX12_held_48 rfl ?_
      refine pm_iloadn hG dX12_held_49 rfl ?_
      refine pm_top (v := nI k4) ek4 ?_
      refine pm_iconst (v := nI 0) hG dX12_held_50 (by decide) ?_
      refine pm_callV (As := [.int (nI k4), .int (nI 0)]) (rest := []) hG hR dX12_held_51 (lkX12_110 _ rfl) okV_X12_its rfl rfl (m_its (d := 1) (e := 6 * k4 + 390) (by omega) (by omega) (by omega)) rfl rfl hdd (Nat.le_refl _) (Nat.le_refl _) (by decide) (pm_ki (fun v6 σ' cnt' hq => ?_))
      obtain ⟨rfl, rfl, rfl⟩ := hq
      refine pm_gen (fun x7 ex7 => ?_)
      exact pm_iret hG hF dX12_held_54 rfl (Nat.le_refl _) (Nat.le_refl _) ⟨_, rfl, ⟨_, _, rfl⟩, rfl⟩
    by_cases c8 : zb = nI 1
    · refine pm_top (v := nI 1) c8 ?_
      refine pm_tswIn (tgt := 55) hG dX12_held_15 (by decide) (by decide) rfl rfl ?_
      refine pm_aloadn hG dX12_held_55 rfl ?_
      refine pm_iloadn hG dX12_held_56 rfl ?_
      refine pm_top (v := nI k4) ek4 ?_
      refine pm_iconst (v := nI 1) hG dX12_held_57 (by decide) ?_
      refine pm_callV (As := [.int (nI k4), .int (nI 1)]) (rest := []) hG hR dX12_held_58 (lkX12_110 _ rfl) okV_X12_its rfl rfl (m_its (d := 1) (e := 6 * k4 + 391) (by omega) (by omega) (by omega)) rfl rfl hdd (Nat.le_refl _) (Nat.le_refl _) (by decide) (pm_ki (fun v9 σ' cnt' hq => ?_))
      obtain ⟨rfl, rfl, rfl⟩ := hq
      rcases KI.opt hn (show kd (6 * k4 + 391) = (2, 20, false) from (kd_W (k := k4) (c := 1) (by omega) (by omega) (by decide))) with ek10 | ⟨k10, hk10, ek10⟩
      · refine pm_top (v := (-1)) ek10 ?_
        exact pm_iret hG hF dX12_held_61 rfl (Nat.le_refl _) (Nat.le_refl _) ⟨_, rfl, ⟨_, _, rfl⟩, rfl⟩
      · refine pm_top (v := nI k10) ek10 ?_
        exact pm_iret hG hF dX12_held_61 rfl (Nat.le_refl _) (Nat.le_refl _) ⟨_, rfl, ⟨_, _, rfl⟩, rfl⟩
    by_cases c11 : zb = nI 2
    · refine pm_top (v := nI 2) c11 ?_
      refine pm_tswIn (tgt := 62) hG dX12_held_15 (by decide) (by decide) rfl rfl ?_
      refine pm_aloadn hG dX12_held_62 rfl ?_
      refine pm_iloadn hG dX12_held_63 rfl ?_
      refine pm_top (v := nI k4) ek4 ?_
      rcases KI.opt hn (show kd (6 * k4 + 392) = (2, 20, false) from (kd_W (k := k4) (c := 2) (by omega) (by omega) (by decide))) with ek12 | ⟨k12, hk12, ek12⟩
      · rcases KI.opt hn (show kd (6 * k4 + 391) = (2, 20, false) from (kd_W (k := k4) (c := 1) (by omega) (by omega) (by decide))) with ek13 | ⟨k13, hk13, ek13⟩
        · refine pm_callV (As := [.int (nI k4)]) (rest := []) hG hR dX12_held_64 (lkX12_139 _ rfl) okV_X12_whoHas rfl rfl (m_whoHas0 (d := 1) (e := 6 * k4 + 392) (e2 := 6 * k4 + 391) (by decide) (by omega) (by omega) (by omega) ek12 ek13) rfl rfl hdd (Nat.le_refl _) (Nat.le_refl _) (by decide) (pm_ki (fun v14 σ' cnt' hq => ?_))
          obtain ⟨rfl, rfl, rfl⟩ := hq
          exact pm_iret hG hF dX12_held_67 rfl (Nat.le_refl _) (Nat.le_refl _) ⟨_, rfl, ⟨_, _, rfl⟩, rfl⟩
        · refine pm_callV (As := [.int (nI k4)]) (rest := []) hG hR dX12_held_64 (lkX12_139 _ rfl) okV_X12_whoHas rfl rfl (m_whoHas0 (d := 1) (e := 6 * k4 + 392) (e2 := 6 * k4 + 391) (by decide) (by omega) (by omega) (by omega) ek12 ek13) rfl rfl hdd (Nat.le_refl _) (Nat.le_refl _) (by decide) (pm_ki (fun v15 σ' cnt' hq => ?_))
          obtain ⟨rfl, rfl, rfl⟩ := hq
          exact pm_iret hG hF dX12_held_67 rfl (Nat.le_refl _) (Nat.le_refl _) ⟨_, rfl, ⟨_, _, rfl⟩, rfl⟩
      · refine pm_callV (As := [.int (nI k4)]) (rest := []) hG hR dX12_held_64 (lkX12_139 _ rfl) okV_X12_whoHas rfl rfl (m_whoHas1 (d := 1) (e := 6 * k4 + 392) (by decide) (by omega) (by omega) ek12 (by omega)) rfl rfl hdd (Nat.le_refl _) (Nat.le_refl _) (by decide) (pm_ki (fun v16 σ' cnt' hq => ?_))
        obtain ⟨rfl, rfl, rfl⟩ := hq
        exact pm_iret hG hF dX12_held_67 rfl (Nat.le_refl _) (Nat.le_refl _) ⟨_, rfl, ⟨_, _, rfl⟩, rfl⟩
    by_cases c17 : zb = nI 3
    · refine pm_top (v := nI 3) c17 ?_
      refine pm_tswIn (tgt := 68) hG dX12_held_15 (by decide) (by decide) rfl rfl ?_
      refine pm_aloadn hG dX12_held_68 rfl ?_
      refine pm_iloadn hG dX12_held_69 rfl ?_
      refine pm_top (v := nI k4) ek4 ?_
      refine pm_iconst (v := nI 0) hG dX12_held_70 (by decide) ?_
      refine pm_callV (As := [.int (nI k4), .int (nI 0)]) (rest := []) hG hR dX12_held_71 (lkX12_110 _ rfl) okV_X12_its rfl rfl (m_its (d := 1) (e := 6 * k4 + 390) (by omega) (by omega) (by omega)) rfl rfl hdd (Nat.le_refl _) (Nat.le_refl _) (by decide) (pm_ki (fun v18 σ' cnt' hq => ?_))
      obtain ⟨rfl, rfl, rfl⟩ := hq
      refine pm_gen (fun x19 ex19 => ?_)
      refine pm_iconst (v := nI 2) hG dX12_held_74 (by decide) ?_
      refine pm_icmp_ne (tgt := 87) hG dX12_held_75 rfl (fun c20 => ?_) (fun c20 => ?_)
      · refine pm_iconst (v := (-1)) hG dX12_held_87 (by decide) ?_
        exact pm_iret hG hF dX12_held_88 rfl (Nat.le_refl _) (Nat.le_refl _) ⟨_, rfl, ⟨_, _, rfl⟩, rfl⟩
      · refine pm_aloadn hG dX12_held_78 rfl ?_
        refine pm_iloadn hG dX12_held_79 rfl ?_
        refine pm_top (v := nI k4) ek4 ?_
        refine pm_iconst (v := nI 5) hG dX12_held_80 (by decide) ?_
        refine pm_callV (As := [.int (nI k4), .int (nI 5)]) (rest := []) hG hR dX12_held_81 (lkX12_110 _ rfl) okV_X12_its rfl rfl (m_its (d := 1) (e := 6 * k4 + 395) (by omega) (by omega) (by omega)) rfl rfl hdd (Nat.le_refl _) (Nat.le_refl _) (by decide) (pm_ki (fun v21 σ' cnt' hq => ?_))
        obtain ⟨rfl, rfl, rfl⟩ := hq
        refine pm_gen (fun x22 ex22 => ?_)
        refine pm_goto (tgt := 88) hG dX12_held_84 rfl ?_
        exact pm_iret hG hF dX12_held_88 rfl (Nat.le_refl _) (Nat.le_refl _) ⟨_, rfl, ⟨_, _, rfl⟩, rfl⟩
    by_cases c23 : zb = nI 4
    · refine pm_top (v := nI 4) c23 ?_
      refine pm_tswIn (tgt := 89) hG dX12_held_15 (by decide) (by decide) rfl rfl ?_
      refine pm_aloadn hG dX12_held_89 rfl ?_
      refine pm_iloadn hG dX12_held_90 rfl ?_
      refine pm_top (v := nI k4) ek4 ?_
      refine pm_iconst (v := nI 3) hG dX12_held_91 (by decide) ?_
      refine pm_callV (As := [.int (nI k4), .int (nI 3)]) (rest := []) hG hR dX12_held_92 (lkX12_110 _ rfl) okV_X12_its rfl rfl (m_its (d := 1) (e := 6 * k4 + 393) (by omega) (by omega) (by omega)) rfl rfl hdd (Nat.le_refl _) (Nat.le_refl _) (by decide) (pm_ki (fun v24 σ' cnt' hq => ?_))
      obtain ⟨rfl, rfl, rfl⟩ := hq
      refine pm_gen (fun x25 ex25 => ?_)
      exact pm_iret hG hF dX12_held_95 rfl (Nat.le_refl _) (Nat.le_refl _) ⟨_, rfl, ⟨_, _, rfl⟩, rfl⟩
    have tc5 : ¬ zb.toInt = 0 := fun q => c5 (Int32.toInt_inj.mp (q.trans (by decide)))
    have tc8 : ¬ zb.toInt = 1 := fun q => c8 (Int32.toInt_inj.mp (q.trans (by decide)))
    have tc11 : ¬ zb.toInt = 2 := fun q => c11 (Int32.toInt_inj.mp (q.trans (by decide)))
    have tc17 : ¬ zb.toInt = 3 := fun q => c17 (Int32.toInt_inj.mp (q.trans (by decide)))
    have tc23 : ¬ zb.toInt = 4 := fun q => c23 (Int32.toInt_inj.mp (q.trans (by decide)))
    refine pm_tswOut (tgt := 96) hG dX12_held_15 (by omega) rfl ?_
    refine pm_aloadn hG dX12_held_96 rfl ?_
    refine pm_iconst (v := nI 1) hG dX12_held_97 (by decide) ?_
    refine pm_callV (As := [.int (nI 1)]) (rest := []) hG hR dX12_held_98 (lkX12_80 _ rfl) okV_X12_finds rfl rfl (m_finds (d := 1) (by decide) hn hz (by omega)) rfl rfl hdd (Nat.le_refl _) (Nat.le_refl _) (by decide) (pm_ki (fun v26 σ' cnt' hq => ?_))
    obtain ⟨⟨I27, A27, rfl⟩, rfl⟩ := hq
    exact pm_iret hG hF dX12_held_101 rfl (Nat.le_refl _) (Nat.le_refl _) ⟨_, rfl, ⟨_, _, rfl⟩, rfl⟩
  · refine pm_ifN_ne (tgt := 14) hG dX12_held_5 rfl (by omega) (fun q => absurd q (by omega)) (fun _ => ?_)
    refine pm_aloadn hG dX12_held_8 rfl ?_
    refine pm_iconst (v := nI 1) hG dX12_held_9 (by decide) ?_
    refine pm_callV (As := [.int (nI 1)]) (rest := []) hG hR dX12_held_10 (lkX12_80 _ rfl) okV_X12_finds rfl rfl (m_finds (d := 1) (by decide) hn hz (by omega)) rfl rfl hdd (Nat.le_refl _) (Nat.le_refl _) (by decide) (pm_ki (fun v28 σ' cnt' hq => ?_))
    obtain ⟨⟨I29, A29, rfl⟩, rfl⟩ := hq
    exact pm_iret hG hF dX12_held_13 rfl (Nat.le_refl _) (Nat.le_refl _) ⟨_, rfl, ⟨_, _, rfl⟩, rfl⟩

set_option maxRecDepth 100000 in
set_option maxHeartbeats 4000000 in
theorem m_image {d B cnt p0 t0 : Nat} {σ : pm_S} {I : Nat → Int32} {A : Nat → Nat → Int32} {n k z : Nat → Int32} {ac wt pl : Int32} (hdd : 1 ≤ d) (hn : KI n) (hr : NR n) (hz : SZ z)  : pm_met mX12_image d 0 0 B [.ref (B + 54)] cnt (pm_mid σ (md_L B I A n k z ac wt pl (nI p0) (nI t0))) (pm_Qi (fun v σ' cnt' => (∃ (I' : Nat → Int32) (A' : Nat → Nat → Int32) (k' : Nat → Int32), σ' = pm_mid σ (md_L B I' A' n k' z ac wt pl (nI p0) (nI t0)) ∧ KI k' ∧ NR k') ∧ cnt' = cnt)) := by
  refine pm_enter 1 (by decide) (Nat.le_of_ble_eq_true rfl) rfl (fun G hG hR hF => ?_)
  refine pm_iconst (v := nI 0) hG dX12_image_0 (by decide) ?_
  refine pm_istoreXn (loc' := [some (.ref (B + 54)), some (.int (nI 0))]) hG dX12_image_1 (by decide) (pm_c1b rfl) rfl ?_
  have loop2_1 : ∀ (m1 : Nat) (I1 : Nat → Int32) (A1 : Nat → Nat → Int32) (k_1 : Nat → Int32) (i1 : Nat), i1 ≤ 2071 → (∀ j : Nat, j < i1 → k_1 j = n j) → 2071 - i1 < m1 → pm_wp mX12_image G B 2 [some (.ref (B + 54)), some (.int (nI i1))] [] 0 0 cnt (pm_mid σ (md_L B I1 A1 n k_1 z ac wt pl (nI p0) (nI t0))) := by
    intro m1
    induction m1 with
    | zero => intro I1 A1 k_1 i1 _ _ hm; exact absurd hm (Nat.not_lt_zero _)
    | succ m1 ih1 =>
      intro I1 A1 k_1 i1 hi1 cpy1 hm1
      refine pm_iloadn hG dX12_image_2 rfl ?_
      refine pm_sipush (v := nI 2071) hG dX12_image_3 (by decide) ?_
      refine pm_icmpN_ge (tgt := 27) hG dX12_image_6 rfl (by omega) (by omega) (fun c2 => ?_) (fun c2 => ?_)
      · refine pm_aloadn hG dX12_image_27 rfl ?_
        refine pm_dup hG dX12_image_28 rfl ?_
        refine pm_getf hG dX12_image_29 (flX12_319 _ rfl) rfl rfl ?_
        refine pm_any (fun x3 => ?_)
        refine pm_iconst (v := nI 1) hG dX12_image_32 (by decide) ?_
        refine pm_iadd hG dX12_image_33 ?_
        refine pm_putf hG dX12_image_34 (fwX12_319 _ rfl) rfl rfl rfl ?_
        refine mdn_images (fun I_4 => ?_)
        refine pm_aloadn hG dX12_image_37 rfl ?_
        refine pm_getf hG dX12_image_38 (flX12_319 _ rfl) rfl rfl ?_
        refine pm_any (fun x5 => ?_)
        exact pm_iret hG hF dX12_image_41 rfl (Nat.le_refl _) (Nat.le_refl _) ⟨_, rfl, ⟨_, _, _, rfl, KI.eqv cpy1 (by omega) hn, NR.eqv cpy1 (by omega) hr⟩, rfl⟩
      · refine pm_aloadn hG dX12_image_9 rfl ?_
        refine pm_getf hG dX12_image_10 (flX12_13 _ rfl) rfl rfl ?_
        refine pm_iloadn hG dX12_image_13 rfl ?_
        refine pm_aloadn hG dX12_image_14 rfl ?_
        refine pm_getf hG dX12_image_15 (flX12_7 _ rfl) rfl rfl ?_
        refine pm_iloadn hG dX12_image_18 rfl ?_
        refine pm_ialdN hG dX12_image_19 rfl (by decide) (by omega) ?_
        refine pm_gen (fun x6 ex6 => ?_)
        refine pm_iastN hG dX12_image_20 rfl (by decide) (by omega) ?_
        refine mdn_kept (fun k_7 ek_7 => ?_)
        have ck_7 := cpy_step cpy1 ek_7 ex6
        refine pm_iincX (v := nI (i1 + 1)) (loc' := [some (.ref (B + 54)), some (.int (nI (i1 + 1)))]) hG dX12_image_21 rfl (nI_1 _) (by decide) (pm_c1b rfl) rfl ?_
        refine pm_goto (tgt := 2) hG dX12_image_24 rfl ?_
        exact ih1 I1 A1 k_7 (i1 + 1) (by omega) ck_7 (by omega)
  exact loop2_1 _ I A k 0 (by omega) (fun _ h => absurd h (Nat.not_lt_zero _)) (Nat.lt_succ_self _)

set_option maxRecDepth 100000 in
set_option maxHeartbeats 4000000 in
theorem m_isParent {d B cnt p0 t0 : Nat} {σ : pm_S} {I : Nat → Int32} {A : Nat → Nat → Int32} {n k z : Nat → Int32} {ac wt pl : Int32} {za zb zc : Int32} (hdd : 2 ≤ d) (hn : KI n) (hz : SZ z)  : pm_met mX12_isParent d 0 0 B [.ref (B + 54), .int za, .int zb, .int zc] cnt (pm_mid σ (md_L B I A n k z ac wt pl (nI p0) (nI t0))) (pm_Qi (fun v σ' cnt' => σ' = pm_mid σ (md_L B I A n k z ac wt pl (nI p0) (nI t0)) ∧ cnt' = cnt ∧ (v = nI 0 ∨ (v = nI 1 ∧ (za = -1 ∨ ∃ j : Nat, j < 20 ∧ za = nI j))))) := by
  refine pm_enter 0 (by decide) (Nat.le_of_ble_eq_true rfl) rfl (fun G hG hR hF => ?_)
  refine pm_iloadn hG dX12_isParent_0 rfl ?_
  refine pm_iconst (v := (-1)) hG dX12_isParent_1 (by decide) ?_
  refine pm_icmp_eq (tgt := 33) hG dX12_isParent_2 rfl (fun c1 => ?_) (fun c1 => ?_)
  · refine pm_iconst (v := nI 1) hG dX12_isParent_33 (by decide) ?_
    refine pm_goto (tgt := 38) hG dX12_isParent_34 rfl ?_
    exact pm_zret hG hF dX12_isParent_38 rfl (pm_nz (Or.inr rfl)) (Nat.le_refl _) (Nat.le_refl _) ⟨_, rfl, rfl, rfl, Or.inr ⟨rfl, Or.inl c1⟩⟩
  · refine pm_aloadn hG dX12_isParent_5 rfl ?_
    refine pm_iloadn hG dX12_isParent_6 rfl ?_
    obtain ⟨k2, hk2, ek2⟩ := KI.nat hn (show kd 2 = (1, 21, true) by decide)
    refine pm_callV (As := [.int za]) (rest := []) hG hR dX12_isParent_7 (lkX12_91 _ rfl) okV_X12_isPerson rfl rfl (m_isPerson (d := 1) (by decide) ek2 (by omega)) rfl rfl hdd (Nat.le_refl _) (Nat.le_refl _) (by decide) (pm_ki (fun v3 σ' cnt' hq => ?_))
    obtain ⟨hq, rfl, rfl⟩ := hq
    rcases hq with ⟨rfl, k5, hk5, ek5⟩ | rfl
    · refine pm_ifN_eq (tgt := 37) hG dX12_isParent_10 rfl (by omega) (fun q => absurd q (by omega)) (fun _ => ?_)
      refine pm_aloadn hG dX12_isParent_13 rfl ?_
      refine pm_iloadn hG dX12_isParent_14 rfl ?_
      refine pm_top (v := nI k5) ek5 ?_
      refine pm_iconst (v := nI 0) hG dX12_isParent_15 (by decide) ?_
      refine pm_callV (As := [.int (nI k5), .int (nI 0)]) (rest := []) hG hR dX12_isParent_16 (lkX12_72 _ rfl) okV_X12_man rfl rfl (m_man (d := 1) (e := 14 * k5 + 110) (by omega) (by omega) (by omega)) rfl rfl hdd (Nat.le_refl _) (Nat.le_refl _) (by decide) (pm_ki (fun v6 σ' cnt' hq => ?_))
      obtain ⟨rfl, rfl, rfl⟩ := hq
      refine pm_gen (fun x7 ex7 => ?_)
      refine pm_iloadn hG dX12_isParent_19 rfl ?_
      refine pm_icmp_ne (tgt := 37) hG dX12_isParent_20 rfl (fun c8 => ?_) (fun c8 => ?_)
      · refine pm_iconst (v := nI 0) hG dX12_isParent_37 (by decide) ?_
        exact pm_zret hG hF dX12_isParent_38 rfl (pm_nz (Or.inl rfl)) (Nat.le_refl _) (Nat.le_refl _) ⟨_, rfl, rfl, rfl, Or.inl rfl⟩
      · refine pm_aloadn hG dX12_isParent_23 rfl ?_
        refine pm_iloadn hG dX12_isParent_24 rfl ?_
        refine pm_top (v := nI k5) ek5 ?_
        refine pm_iconst (v := nI 1) hG dX12_isParent_25 (by decide) ?_
        refine pm_callV (As := [.int (nI k5), .int (nI 1)]) (rest := []) hG hR dX12_isParent_26 (lkX12_72 _ rfl) okV_X12_man rfl rfl (m_man (d := 1) (e := 14 * k5 + 111) (by omega) (by omega) (by omega)) rfl rfl hdd (Nat.le_refl _) (Nat.le_refl _) (by decide) (pm_ki (fun v9 σ' cnt' hq => ?_))
        obtain ⟨rfl, rfl, rfl⟩ := hq
        refine pm_gen (fun x10 ex10 => ?_)
        refine pm_iloadn hG dX12_isParent_29 rfl ?_
        refine pm_icmp_ge (tgt := 37) hG dX12_isParent_30 rfl (fun c11 => ?_) (fun c11 => ?_)
        · refine pm_iconst (v := nI 0) hG dX12_isParent_37 (by decide) ?_
          exact pm_zret hG hF dX12_isParent_38 rfl (pm_nz (Or.inl rfl)) (Nat.le_refl _) (Nat.le_refl _) ⟨_, rfl, rfl, rfl, Or.inl rfl⟩
        · refine pm_iconst (v := nI 1) hG dX12_isParent_33 (by decide) ?_
          refine pm_goto (tgt := 38) hG dX12_isParent_34 rfl ?_
          exact pm_zret hG hF dX12_isParent_38 rfl (pm_nz (Or.inr rfl)) (Nat.le_refl _) (Nat.le_refl _) ⟨_, rfl, rfl, rfl, Or.inr ⟨rfl, Or.inr ⟨k5, by omega, ek5⟩⟩⟩
    · refine pm_ifN_eq (tgt := 37) hG dX12_isParent_10 rfl (by omega) (fun _ => ?_) (fun q => absurd q (by omega))
      refine pm_iconst (v := nI 0) hG dX12_isParent_37 (by decide) ?_
      exact pm_zret hG hF dX12_isParent_38 rfl (pm_nz (Or.inl rfl)) (Nat.le_refl _) (Nat.le_refl _) ⟨_, rfl, rfl, rfl, Or.inl rfl⟩

set_option maxRecDepth 100000 in
set_option maxHeartbeats 4000000 in
theorem m_lend {d B cnt p0 t0 : Nat} {σ : pm_S} {I : Nat → Int32} {A : Nat → Nat → Int32} {n k z : Nat → Int32} {ac wt pl : Int32} {za zb zc : Int32} (hdd : 2 ≤ d) (hn : KI n) (hr : NR n) (hz : SZ z)  : pm_met mX12_lend d 0 0 B [.ref (B + 54), .int za, .int zb, .int zc] cnt (pm_mid σ (md_L B I A n k z ac wt pl (nI p0) (nI t0))) (pm_Qi (fun v σ' cnt' => (∃ (I' : Nat → Int32) (A' : Nat → Nat → Int32) (n' : Nat → Int32), σ' = pm_mid σ (md_L B I' A' n' k z ac wt pl (nI p0) (nI t0)) ∧ KI n' ∧ NR n') ∧ cnt' = cnt)) := by
  refine pm_enter 0 (by decide) (Nat.le_of_ble_eq_true rfl) rfl (fun G hG hR hF => ?_)
  refine pm_aloadn hG dX12_lend_0 rfl ?_
  refine pm_iloadn hG dX12_lend_1 rfl ?_
  obtain ⟨k1, hk1, ek1⟩ := KI.nat hn (show kd 3 = (1, 21, false) by decide)
  refine pm_callV (As := [.int za]) (rest := []) hG hR dX12_lend_2 (lkX12_132 _ rfl) okV_X12_isPower rfl rfl (m_isPower (d := 1) (by decide) ek1 (by omega)) rfl rfl hdd (Nat.le_refl _) (Nat.le_refl _) (by decide) (pm_ki (fun v2 σ' cnt' hq => ?_))
  obtain ⟨hq, rfl, rfl⟩ := hq
  rcases hq with ⟨rfl, k4, hk4, ek4⟩ | rfl
  · refine pm_ifN_eq (tgt := 41) hG dX12_lend_5 rfl (by omega) (fun q => absurd q (by omega)) (fun _ => ?_)
    refine pm_aloadn hG dX12_lend_8 rfl ?_
    refine pm_iloadn hG dX12_lend_9 rfl ?_
    obtain ⟨k5, hk5, ek5⟩ := KI.nat hn (show kd 2 = (1, 21, true) by decide)
    refine pm_callV (As := [.int zb]) (rest := []) hG hR dX12_lend_10 (lkX12_91 _ rfl) okV_X12_isPerson rfl rfl (m_isPerson (d := 1) (by decide) ek5 (by omega)) rfl rfl hdd (Nat.le_refl _) (Nat.le_refl _) (by decide) (pm_ki (fun v6 σ' cnt' hq => ?_))
    obtain ⟨hq, rfl, rfl⟩ := hq
    rcases hq with ⟨rfl, k8, hk8, ek8⟩ | rfl
    · refine pm_ifN_eq (tgt := 41) hG dX12_lend_13 rfl (by omega) (fun q => absurd q (by omega)) (fun _ => ?_)
      refine pm_aloadn hG dX12_lend_16 rfl ?_
      refine pm_iloadn hG dX12_lend_17 rfl ?_
      refine pm_top (v := nI k8) ek8 ?_
      rcases KI.opt hn (show kd (14 * k8 + 119) = (2, 2001, false) from (kd_P (k := k8) (c := 9) (by omega) (by omega) (by decide))) with ek9 | ⟨k9, hk9, ek9⟩
      · refine pm_callV (As := [.int (nI k8)]) (rest := []) hG hR dX12_lend_18 (lkX12_101 _ rfl) okV_X12_lives rfl rfl (m_lives1 (d := 1) (by decide) (by omega) (by omega : 14 * k8 + 119 = 14 * k8 + 119) ek9) rfl rfl hdd (Nat.le_refl _) (Nat.le_refl _) (by decide) (pm_ki (fun v10 σ' cnt' hq => ?_))
        obtain ⟨rfl, rfl, rfl⟩ := hq
        refine pm_ifN_eq (tgt := 41) hG dX12_lend_21 rfl (by omega) (fun q => absurd q (by omega)) (fun _ => ?_)
        refine pm_iloadn hG dX12_lend_24 rfl ?_
        refine pm_aloadn hG dX12_lend_25 rfl ?_
        refine pm_getf hG dX12_lend_26 (flX12_7 _ rfl) rfl rfl ?_
        refine pm_bipush (v := nI 8) hG dX12_lend_29 (by decide) ?_
        refine pm_ialdN hG dX12_lend_31 rfl (by decide) (by omega) ?_
        obtain ⟨k11, hk11, ek11⟩ := KI.nat hn (show kd 8 = (1, 2001, false) by decide)
        refine pm_top (v := nI k11) ek11 ?_
        refine pm_sipush (v := nI 2000) hG dX12_lend_32 (by decide) ?_
        refine pm_callS (As := [.int zc, .int (nI k11), .int (nI 2000)]) (rest := []) hG hR dX12_lend_35 (lkX12_68 _ rfl) okS_X12_in (m_in (d := 1)) rfl rfl hdd (Nat.le_refl _) (Nat.le_refl _) (by decide) (pm_ki (fun v12 σ' cnt' hq => ?_))
        obtain ⟨hq, rfl, rfl⟩ := hq
        rcases hq with ⟨rfl, ac13, bc13⟩ | ⟨rfl, c13⟩
        · obtain ⟨k14, hk14, ek14⟩ := in_nat (by omega) (by omega) ac13 bc13
          refine pm_ifN_ne (tgt := 47) hG dX12_lend_38 rfl (by omega) (fun _ => ?_) (fun q => absurd q (by omega))
          refine pm_aloadn hG dX12_lend_47 rfl ?_
          refine pm_iloadn hG dX12_lend_48 rfl ?_
          refine pm_top (v := nI k4) ek4 ?_
          refine pm_iconst (v := nI 0) hG dX12_lend_49 (by decide) ?_
          refine pm_callV (As := [.int (nI k4), .int (nI 0)]) (rest := []) hG hR dX12_lend_50 (lkX12_110 _ rfl) okV_X12_its rfl rfl (m_its (d := 1) (e := 6 * k4 + 390) (by omega) (by omega) (by omega)) rfl rfl hdd (Nat.le_refl _) (Nat.le_refl _) (by decide) (pm_ki (fun v15 σ' cnt' hq => ?_))
          obtain ⟨rfl, rfl, rfl⟩ := hq
          refine pm_gen (fun x16 ex16 => ?_)
          refine pm_iconst (v := nI 2) hG dX12_lend_53 (by decide) ?_
          refine pm_icmp_eq (tgt := 63) hG dX12_lend_54 rfl (fun c17 => ?_) (fun c17 => ?_)
          · refine pm_aloadn hG dX12_lend_63 rfl ?_
            refine pm_iloadn hG dX12_lend_64 rfl ?_
            refine pm_top (v := nI k4) ek4 ?_
            refine pm_iconst (v := nI 1) hG dX12_lend_65 (by decide) ?_
            refine pm_callV (As := [.int (nI k4), .int (nI 1)]) (rest := []) hG hR dX12_lend_66 (lkX12_110 _ rfl) okV_X12_its rfl rfl (m_its (d := 1) (e := 6 * k4 + 391) (by omega) (by omega) (by omega)) rfl rfl hdd (Nat.le_refl _) (Nat.le_refl _) (by decide) (pm_ki (fun v18 σ' cnt' hq => ?_))
            obtain ⟨rfl, rfl, rfl⟩ := hq
            rcases KI.opt hn (show kd (6 * k4 + 391) = (2, 20, false) from (kd_W (k := k4) (c := 1) (by omega) (by omega) (by decide))) with ek19 | ⟨k19, hk19, ek19⟩
            · refine pm_top (v := (-1)) ek19 ?_
              refine pm_if_lt (tgt := 91) hG dX12_lend_69 rfl (fun _ => ?_) (fun q => absurd q (by decide))
              refine pm_aloadn hG dX12_lend_91 rfl ?_
              refine pm_iconst (v := nI 3) hG dX12_lend_92 (by decide) ?_
              refine pm_callV (As := [.int (nI 3)]) (rest := []) hG hR dX12_lend_93 (lkX12_80 _ rfl) okV_X12_finds rfl rfl (m_finds (d := 1) (by decide) hn hz (by omega)) rfl rfl hdd (Nat.le_refl _) (Nat.le_refl _) (by decide) (pm_ki (fun v20 σ' cnt' hq => ?_))
              obtain ⟨⟨I21, A21, rfl⟩, rfl⟩ := hq
              exact pm_iret hG hF dX12_lend_96 rfl (Nat.le_refl _) (Nat.le_refl _) ⟨_, rfl, ⟨_, _, _, rfl, hn, hr⟩, rfl⟩
            · refine pm_top (v := nI k19) ek19 ?_
              refine pm_ifN_lt hG dX12_lend_69 rfl (by omega) ?_
              refine pm_aloadn hG dX12_lend_72 rfl ?_
              refine pm_iloadn hG dX12_lend_73 rfl ?_
              refine pm_top (v := nI k4) ek4 ?_
              refine pm_iconst (v := nI 2) hG dX12_lend_74 (by decide) ?_
              refine pm_callV (As := [.int (nI k4), .int (nI 2)]) (rest := []) hG hR dX12_lend_75 (lkX12_110 _ rfl) okV_X12_its rfl rfl (m_its (d := 1) (e := 6 * k4 + 392) (by omega) (by omega) (by omega)) rfl rfl hdd (Nat.le_refl _) (Nat.le_refl _) (by decide) (pm_ki (fun v22 σ' cnt' hq => ?_))
              obtain ⟨rfl, rfl, rfl⟩ := hq
              rcases KI.opt hn (show kd (6 * k4 + 392) = (2, 20, false) from (kd_W (k := k4) (c := 2) (by omega) (by omega) (by decide))) with ek23 | ⟨k23, hk23, ek23⟩
              · refine pm_top (v := (-1)) ek23 ?_
                refine pm_if_ge (tgt := 91) hG dX12_lend_78 rfl (fun q => absurd q (by decide)) (fun _ => ?_)
                refine pm_aloadn hG dX12_lend_81 rfl ?_
                refine pm_iloadn hG dX12_lend_82 rfl ?_
                refine pm_top (v := nI k4) ek4 ?_
                refine pm_iconst (v := nI 1) hG dX12_lend_83 (by decide) ?_
                refine pm_callV (As := [.int (nI k4), .int (nI 1)]) (rest := []) hG hR dX12_lend_84 (lkX12_110 _ rfl) okV_X12_its rfl rfl (m_its (d := 1) (e := 6 * k4 + 391) (by omega) (by omega) (by omega)) rfl rfl hdd (Nat.le_refl _) (Nat.le_refl _) (by decide) (pm_ki (fun v24 σ' cnt' hq => ?_))
                obtain ⟨rfl, rfl, rfl⟩ := hq
                refine pm_top (v := nI k19) ek19 ?_
                refine pm_iloadn hG dX12_lend_87 rfl ?_
                refine pm_top (v := nI k8) ek8 ?_
                refine pm_icmpN_ne (tgt := 97) hG dX12_lend_88 rfl (by omega) (by omega) (fun c25 => ?_) (fun c25 => ?_)
                · refine pm_aloadn hG dX12_lend_97 rfl ?_
                  refine pm_iloadn hG dX12_lend_98 rfl ?_
                  refine pm_top (v := nI k4) ek4 ?_
                  refine pm_iconst (v := nI 2) hG dX12_lend_99 (by decide) ?_
                  refine pm_iloadn hG dX12_lend_100 rfl ?_
                  refine pm_top (v := nI k8) ek8 ?_
                  refine pm_callV (As := [.int (nI k4), .int (nI 2), .int (nI k8)]) (rest := []) hG hR dX12_lend_101 (lkX12_113 _ rfl) okV_X12_makes rfl rfl (m_makes (d := 1) (e := 6 * k4 + 392) (by omega) (by omega) (by omega)) rfl rfl hdd (Nat.le_refl _) (Nat.le_refl _) (by decide) (pm_kv (fun σ' cnt' hq => ?_))
                  obtain ⟨rfl, rfl⟩ := hq
                  obtain ⟨n_26, en_26⟩ : ∃ f : Nat → Int32, f = upd n (6 * k4 + 392) (nI k8) := ⟨_, rfl⟩
                  rw [← en_26]
                  have hnn_26 := KI.w en_26 hn (okv_o (show kd (6 * k4 + 392) = (2, 20, false) from (kd_W (k := k4) (c := 2) (by omega) (by omega) (by decide))) (by omega))
                  have hrn_26 := NRx.w en_26 hr (by rw [(show kd (6 * k4 + 392) = (2, 20, false) from (kd_W (k := k4) (c := 2) (by omega) (by omega) (by decide)))])
                  have e27 : n_26 3 = nI k1 := by rw [en_26, pk_un (by omega)]; exact ek1
                  have e28 : n_26 2 = nI k5 := by rw [en_26, pk_un (by omega)]; exact ek5
                  have e29 : n_26 (14 * k8 + 119) = (-1) := by rw [en_26, pk_un (by omega)]; exact ek9
                  have e30 : n_26 8 = nI k11 := by rw [en_26, pk_un (by omega)]; exact ek11
                  have e31 : n_26 (6 * k4 + 390) = x16 := by rw [en_26, pk_un (by omega)]; exact ex16
                  have e32 : n_26 (6 * k4 + 391) = nI k19 := by rw [en_26, pk_un (by omega)]; exact ek19
                  have e33 : n_26 (6 * k4 + 392) = nI k8 := by rw [en_26, pk_us]
                  refine pm_aloadn hG dX12_lend_104 rfl ?_
                  refine pm_iloadn hG dX12_lend_105 rfl ?_
                  refine pm_top (v := nI k4) ek4 ?_
                  refine pm_iconst (v := nI 3) hG dX12_lend_106 (by decide) ?_
                  refine pm_iloadn hG dX12_lend_107 rfl ?_
                  refine pm_top (v := nI k14) ek14 ?_
                  refine pm_callV (As := [.int (nI k4), .int (nI 3), .int (nI k14)]) (rest := []) hG hR dX12_lend_108 (lkX12_113 _ rfl) okV_X12_makes rfl rfl (m_makes (d := 1) (e := 6 * k4 + 393) (by omega) (by omega) (by omega)) rfl rfl hdd (Nat.le_refl _) (Nat.le_refl _) (by decide) (pm_kv (fun σ' cnt' hq => ?_))
                  obtain ⟨rfl, rfl⟩ := hq
                  obtain ⟨n_34, en_34⟩ : ∃ f : Nat → Int32, f = upd n_26 (6 * k4 + 393) (nI k14) := ⟨_, rfl⟩
                  rw [← en_34]
                  have hnn_34 := KI.w en_34 hnn_26 (okv_f (show kd (6 * k4 + 393) = (0, 0, false) from (kd_W (k := k4) (c := 3) (by omega) (by omega) (by decide))))
                  have hrn_34 := NRx.w en_34 hrn_26 (by rw [(show kd (6 * k4 + 393) = (0, 0, false) from (kd_W (k := k4) (c := 3) (by omega) (by omega) (by decide)))])
                  have e35 : n_34 3 = nI k1 := by rw [en_34, pk_un (by omega)]; exact e27
                  have e36 : n_34 2 = nI k5 := by rw [en_34, pk_un (by omega)]; exact e28
                  have e37 : n_34 (14 * k8 + 119) = (-1) := by rw [en_34, pk_un (by omega)]; exact e29
                  have e38 : n_34 8 = nI k11 := by rw [en_34, pk_un (by omega)]; exact e30
                  have e39 : n_34 (6 * k4 + 390) = x16 := by rw [en_34, pk_un (by omega)]; exact e31
                  have e40 : n_34 (6 * k4 + 391) = nI k19 := by rw [en_34, pk_un (by omega)]; exact e32
                  have e41 : n_34 (6 * k4 + 392) = nI k8 := by rw [en_34, pk_un (by omega)]; exact e33
                  have e42 : n_34 (6 * k4 + 393) = nI k14 := by rw [en_34, pk_us]
                  refine pm_iconst (v := nI 1) hG dX12_lend_111 (by decide) ?_
                  exact pm_iret hG hF dX12_lend_112 rfl (Nat.le_refl _) (Nat.le_refl _) ⟨_, rfl, ⟨_, _, _, rfl, hnn_34, hrn_34⟩, rfl⟩
                · refine pm_aloadn hG dX12_lend_91 rfl ?_
                  refine pm_iconst (v := nI 3) hG dX12_lend_92 (by decide) ?_
                  refine pm_callV (As := [.int (nI 3)]) (rest := []) hG hR dX12_lend_93 (lkX12_80 _ rfl) okV_X12_finds rfl rfl (m_finds (d := 1) (by decide) hn hz (by omega)) rfl rfl hdd (Nat.le_refl _) (Nat.le_refl _) (by decide) (pm_ki (fun v43 σ' cnt' hq => ?_))
                  obtain ⟨⟨I44, A44, rfl⟩, rfl⟩ := hq
                  exact pm_iret hG hF dX12_lend_96 rfl (Nat.le_refl _) (Nat.le_refl _) ⟨_, rfl, ⟨_, _, _, rfl, hn, hr⟩, rfl⟩
              · refine pm_top (v := nI k23) ek23 ?_
                refine pm_ifN_ge (tgt := 91) hG dX12_lend_78 rfl (by omega) ?_
                refine pm_aloadn hG dX12_lend_91 rfl ?_
                refine pm_iconst (v := nI 3) hG dX12_lend_92 (by decide) ?_
                refine pm_callV (As := [.int (nI 3)]) (rest := []) hG hR dX12_lend_93 (lkX12_80 _ rfl) okV_X12_finds rfl rfl (m_finds (d := 1) (by decide) hn hz (by omega)) rfl rfl hdd (Nat.le_refl _) (Nat.le_refl _) (by decide) (pm_ki (fun v45 σ' cnt' hq => ?_))
                obtain ⟨⟨I46, A46, rfl⟩, rfl⟩ := hq
                exact pm_iret hG hF dX12_lend_96 rfl (Nat.le_refl _) (Nat.le_refl _) ⟨_, rfl, ⟨_, _, _, rfl, hn, hr⟩, rfl⟩
          · refine pm_aloadn hG dX12_lend_57 rfl ?_
            refine pm_iconst (v := nI 5) hG dX12_lend_58 (by decide) ?_
            refine pm_callV (As := [.int (nI 5)]) (rest := []) hG hR dX12_lend_59 (lkX12_80 _ rfl) okV_X12_finds rfl rfl (m_finds (d := 1) (by decide) hn hz (by omega)) rfl rfl hdd (Nat.le_refl _) (Nat.le_refl _) (by decide) (pm_ki (fun v47 σ' cnt' hq => ?_))
            obtain ⟨⟨I48, A48, rfl⟩, rfl⟩ := hq
            exact pm_iret hG hF dX12_lend_62 rfl (Nat.le_refl _) (Nat.le_refl _) ⟨_, rfl, ⟨_, _, _, rfl, hn, hr⟩, rfl⟩
        · refine pm_ifN_ne (tgt := 47) hG dX12_lend_38 rfl (by omega) (fun q => absurd q (by omega)) (fun _ => ?_)
          refine pm_aloadn hG dX12_lend_41 rfl ?_
          refine pm_iconst (v := nI 1) hG dX12_lend_42 (by decide) ?_
          refine pm_callV (As := [.int (nI 1)]) (rest := []) hG hR dX12_lend_43 (lkX12_80 _ rfl) okV_X12_finds rfl rfl (m_finds (d := 1) (by decide) hn hz (by omega)) rfl rfl hdd (Nat.le_refl _) (Nat.le_refl _) (by decide) (pm_ki (fun v49 σ' cnt' hq => ?_))
          obtain ⟨⟨I50, A50, rfl⟩, rfl⟩ := hq
          exact pm_iret hG hF dX12_lend_46 rfl (Nat.le_refl _) (Nat.le_refl _) ⟨_, rfl, ⟨_, _, _, rfl, hn, hr⟩, rfl⟩
      · refine pm_callV (As := [.int (nI k8)]) (rest := []) hG hR dX12_lend_18 (lkX12_101 _ rfl) okV_X12_lives rfl rfl (m_lives0 (d := 1) (by decide) (by omega) (by omega : 14 * k8 + 119 = 14 * k8 + 119) ek9 (by omega)) rfl rfl hdd (Nat.le_refl _) (Nat.le_refl _) (by decide) (pm_ki (fun v51 σ' cnt' hq => ?_))
        obtain ⟨rfl, rfl, rfl⟩ := hq
        refine pm_ifN_eq (tgt := 41) hG dX12_lend_21 rfl (by omega) (fun _ => ?_) (fun q => absurd q (by omega))
        refine pm_aloadn hG dX12_lend_41 rfl ?_
        refine pm_iconst (v := nI 1) hG dX12_lend_42 (by decide) ?_
        refine pm_callV (As := [.int (nI 1)]) (rest := []) hG hR dX12_lend_43 (lkX12_80 _ rfl) okV_X12_finds rfl rfl (m_finds (d := 1) (by decide) hn hz (by omega)) rfl rfl hdd (Nat.le_refl _) (Nat.le_refl _) (by decide) (pm_ki (fun v52 σ' cnt' hq => ?_))
        obtain ⟨⟨I53, A53, rfl⟩, rfl⟩ := hq
        exact pm_iret hG hF dX12_lend_46 rfl (Nat.le_refl _) (Nat.le_refl _) ⟨_, rfl, ⟨_, _, _, rfl, hn, hr⟩, rfl⟩
    · refine pm_ifN_eq (tgt := 41) hG dX12_lend_13 rfl (by omega) (fun _ => ?_) (fun q => absurd q (by omega))
      refine pm_aloadn hG dX12_lend_41 rfl ?_
      refine pm_iconst (v := nI 1) hG dX12_lend_42 (by decide) ?_
      refine pm_callV (As := [.int (nI 1)]) (rest := []) hG hR dX12_lend_43 (lkX12_80 _ rfl) okV_X12_finds rfl rfl (m_finds (d := 1) (by decide) hn hz (by omega)) rfl rfl hdd (Nat.le_refl _) (Nat.le_refl _) (by decide) (pm_ki (fun v54 σ' cnt' hq => ?_))
      obtain ⟨⟨I55, A55, rfl⟩, rfl⟩ := hq
      exact pm_iret hG hF dX12_lend_46 rfl (Nat.le_refl _) (Nat.le_refl _) ⟨_, rfl, ⟨_, _, _, rfl, hn, hr⟩, rfl⟩
  · refine pm_ifN_eq (tgt := 41) hG dX12_lend_5 rfl (by omega) (fun _ => ?_) (fun q => absurd q (by omega))
    refine pm_aloadn hG dX12_lend_41 rfl ?_
    refine pm_iconst (v := nI 1) hG dX12_lend_42 (by decide) ?_
    refine pm_callV (As := [.int (nI 1)]) (rest := []) hG hR dX12_lend_43 (lkX12_80 _ rfl) okV_X12_finds rfl rfl (m_finds (d := 1) (by decide) hn hz (by omega)) rfl rfl hdd (Nat.le_refl _) (Nat.le_refl _) (by decide) (pm_ki (fun v56 σ' cnt' hq => ?_))
    obtain ⟨⟨I57, A57, rfl⟩, rfl⟩ := hq
    exact pm_iret hG hF dX12_lend_46 rfl (Nat.le_refl _) (Nat.le_refl _) ⟨_, rfl, ⟨_, _, _, rfl, hn, hr⟩, rfl⟩

set_option maxRecDepth 100000 in
set_option maxHeartbeats 4000000 in
theorem m_letter {d B cnt p0 t0 : Nat} {σ : pm_S} {I : Nat → Int32} {A : Nat → Nat → Int32} {n k z : Nat → Int32} {ac wt pl : Int32} {za zb : Int32} (hdd : 2 ≤ d) (hn : KI n) (hz : SZ z)  : pm_met mX12_letter d 0 0 B [.ref (B + 54), .int za, .int zb] cnt (pm_mid σ (md_L B I A n k z ac wt pl (nI p0) (nI t0))) (pm_Qi (fun v σ' cnt' => (∃ (I' : Nat → Int32) (A' : Nat → Nat → Int32), σ' = pm_mid σ (md_L B I' A' n k z ac wt pl (nI p0) (nI t0))) ∧ cnt' = cnt)) := by
  refine pm_enter 0 (by decide) (Nat.le_of_ble_eq_true rfl) rfl (fun G hG hR hF => ?_)
  refine pm_aloadn hG dX12_letter_0 rfl ?_
  refine pm_iloadn hG dX12_letter_1 rfl ?_
  obtain ⟨k1, hk1, ek1⟩ := KI.nat hn (show kd 5 = (1, 41, true) by decide)
  refine pm_callV (As := [.int za]) (rest := []) hG hR dX12_letter_2 (lkX12_211 _ rfl) okV_X12_isLetter rfl rfl (m_isLetter (d := 1) (by decide) ek1 (by omega)) rfl rfl hdd (Nat.le_refl _) (Nat.le_refl _) (by decide) (pm_ki (fun v2 σ' cnt' hq => ?_))
  obtain ⟨hq, rfl, rfl⟩ := hq
  rcases hq with ⟨rfl, k4, hk4, ek4⟩ | rfl
  · refine pm_ifN_eq (tgt := 27) hG dX12_letter_5 rfl (by omega) (fun q => absurd q (by omega)) (fun _ => ?_)
    refine pm_iloadn hG dX12_letter_8 rfl ?_
    refine pm_iconst (v := nI 0) hG dX12_letter_9 (by decide) ?_
    refine pm_bipush (v := nI 9) hG dX12_letter_10 (by decide) ?_
    refine pm_callS (As := [.int zb, .int (nI 0), .int (nI 9)]) (rest := []) hG hR dX12_letter_12 (lkX12_68 _ rfl) okS_X12_in (m_in (d := 1)) rfl rfl hdd (Nat.le_refl _) (Nat.le_refl _) (by decide) (pm_ki (fun v5 σ' cnt' hq => ?_))
    obtain ⟨hq, rfl, rfl⟩ := hq
    rcases hq with ⟨rfl, ac6, bc6⟩ | ⟨rfl, c6⟩
    · obtain ⟨k7, hk7, ek7⟩ := in_nat (by omega) (by omega) ac6 bc6
      refine pm_ifN_eq (tgt := 27) hG dX12_letter_15 rfl (by omega) (fun q => absurd q (by omega)) (fun _ => ?_)
      refine pm_aloadn hG dX12_letter_18 rfl ?_
      refine pm_iloadn hG dX12_letter_19 rfl ?_
      refine pm_top (v := nI k4) ek4 ?_
      refine pm_iloadn hG dX12_letter_20 rfl ?_
      refine pm_top (v := nI k7) ek7 ?_
      refine pm_callV (As := [.int (nI k4), .int (nI k7)]) (rest := []) hG hR dX12_letter_21 (lkX12_199 _ rfl) okV_X12_of rfl rfl (m_of (d := 1) (e := 12 * k4 + k7 + 1290) (by omega) (by omega) (by omega)) rfl rfl hdd (Nat.le_refl _) (Nat.le_refl _) (by decide) (pm_ki (fun v8 σ' cnt' hq => ?_))
      obtain ⟨rfl, rfl, rfl⟩ := hq
      refine pm_gen (fun x9 ex9 => ?_)
      refine pm_goto (tgt := 32) hG dX12_letter_24 rfl ?_
      exact pm_iret hG hF dX12_letter_32 rfl (Nat.le_refl _) (Nat.le_refl _) ⟨_, rfl, ⟨_, _, rfl⟩, rfl⟩
    · refine pm_ifN_eq (tgt := 27) hG dX12_letter_15 rfl (by omega) (fun _ => ?_) (fun q => absurd q (by omega))
      refine pm_aloadn hG dX12_letter_27 rfl ?_
      refine pm_iconst (v := nI 1) hG dX12_letter_28 (by decide) ?_
      refine pm_callV (As := [.int (nI 1)]) (rest := []) hG hR dX12_letter_29 (lkX12_80 _ rfl) okV_X12_finds rfl rfl (m_finds (d := 1) (by decide) hn hz (by omega)) rfl rfl hdd (Nat.le_refl _) (Nat.le_refl _) (by decide) (pm_ki (fun v10 σ' cnt' hq => ?_))
      obtain ⟨⟨I11, A11, rfl⟩, rfl⟩ := hq
      exact pm_iret hG hF dX12_letter_32 rfl (Nat.le_refl _) (Nat.le_refl _) ⟨_, rfl, ⟨_, _, rfl⟩, rfl⟩
  · refine pm_ifN_eq (tgt := 27) hG dX12_letter_5 rfl (by omega) (fun _ => ?_) (fun q => absurd q (by omega))
    refine pm_aloadn hG dX12_letter_27 rfl ?_
    refine pm_iconst (v := nI 1) hG dX12_letter_28 (by decide) ?_
    refine pm_callV (As := [.int (nI 1)]) (rest := []) hG hR dX12_letter_29 (lkX12_80 _ rfl) okV_X12_finds rfl rfl (m_finds (d := 1) (by decide) hn hz (by omega)) rfl rfl hdd (Nat.le_refl _) (Nat.le_refl _) (by decide) (pm_ki (fun v12 σ' cnt' hq => ?_))
    obtain ⟨⟨I13, A13, rfl⟩, rfl⟩ := hq
    exact pm_iret hG hF dX12_letter_32 rfl (Nat.le_refl _) (Nat.le_refl _) ⟨_, rfl, ⟨_, _, rfl⟩, rfl⟩

set_option maxRecDepth 100000 in
set_option maxHeartbeats 4000000 in
theorem m_men {d B cnt p0 t0 : Nat} {σ : pm_S} {I : Nat → Int32} {A : Nat → Nat → Int32} {n k z : Nat → Int32} {ac wt pl : Int32} {za zb : Int32} (hdd : 2 ≤ d) (hn : KI n) (hr : NR n) (hz : SZ z)  : pm_met mX12_men d 0 0 B [.ref (B + 54), .int za, .int zb] cnt (pm_mid σ (md_L B I A n k z ac wt pl (nI p0) (nI t0))) (pm_Qi (fun v σ' cnt' => (∃ (I' : Nat → Int32) (A' : Nat → Nat → Int32) (n' : Nat → Int32), σ' = pm_mid σ (md_L B I' A' n' k z ac wt pl (nI p0) (nI t0)) ∧ KI n' ∧ NR n') ∧ cnt' = cnt)) := by
  refine pm_enter 0 (by decide) (Nat.le_of_ble_eq_true rfl) rfl (fun G hG hR hF => ?_)
  refine pm_aloadn hG dX12_men_0 rfl ?_
  refine pm_iloadn hG dX12_men_1 rfl ?_
  obtain ⟨k1, hk1, ek1⟩ := KI.nat hn (show kd 2 = (1, 21, true) by decide)
  refine pm_callV (As := [.int za]) (rest := []) hG hR dX12_men_2 (lkX12_91 _ rfl) okV_X12_isPerson rfl rfl (m_isPerson (d := 1) (by decide) ek1 (by omega)) rfl rfl hdd (Nat.le_refl _) (Nat.le_refl _) (by decide) (pm_ki (fun v2 σ' cnt' hq => ?_))
  obtain ⟨hq, rfl, rfl⟩ := hq
  rcases hq with ⟨rfl, k4, hk4, ek4⟩ | rfl
  · refine pm_ifN_eq (tgt := 19) hG dX12_men_5 rfl (by omega) (fun q => absurd q (by omega)) (fun _ => ?_)
    refine pm_iloadn hG dX12_men_8 rfl ?_
    refine pm_bipush (v := (-99)) hG dX12_men_9 (by decide) ?_
    refine pm_bipush (v := nI 99) hG dX12_men_11 (by decide) ?_
    refine pm_callS (As := [.int zb, .int (-99), .int (nI 99)]) (rest := []) hG hR dX12_men_13 (lkX12_68 _ rfl) okS_X12_in (m_in (d := 1)) rfl rfl hdd (Nat.le_refl _) (Nat.le_refl _) (by decide) (pm_ki (fun v5 σ' cnt' hq => ?_))
    obtain ⟨hq, rfl, rfl⟩ := hq
    rcases hq with ⟨rfl, ac6, bc6⟩ | ⟨rfl, c6⟩
    · refine pm_ifN_ne (tgt := 25) hG dX12_men_16 rfl (by omega) (fun _ => ?_) (fun q => absurd q (by omega))
      refine pm_aloadn hG dX12_men_25 rfl ?_
      refine pm_iloadn hG dX12_men_26 rfl ?_
      refine pm_top (v := nI k4) ek4 ?_
      rcases KI.opt hn (show kd (14 * k4 + 119) = (2, 2001, false) from (kd_P (k := k4) (c := 9) (by omega) (by omega) (by decide))) with ek7 | ⟨k7, hk7, ek7⟩
      · refine pm_callV (As := [.int (nI k4)]) (rest := []) hG hR dX12_men_27 (lkX12_101 _ rfl) okV_X12_lives rfl rfl (m_lives1 (d := 1) (by decide) (by omega) (by omega : 14 * k4 + 119 = 14 * k4 + 119) ek7) rfl rfl hdd (Nat.le_refl _) (Nat.le_refl _) (by decide) (pm_ki (fun v8 σ' cnt' hq => ?_))
        obtain ⟨rfl, rfl, rfl⟩ := hq
        refine pm_ifN_ne (tgt := 39) hG dX12_men_30 rfl (by omega) (fun _ => ?_) (fun q => absurd q (by omega))
        refine pm_aloadn hG dX12_men_39 rfl ?_
        refine pm_iloadn hG dX12_men_40 rfl ?_
        refine pm_top (v := nI k4) ek4 ?_
        refine pm_bipush (v := nI 8) hG dX12_men_41 (by decide) ?_
        refine pm_callV (As := [.int (nI k4), .int (nI 8)]) (rest := []) hG hR dX12_men_43 (lkX12_72 _ rfl) okV_X12_man rfl rfl (m_man (d := 1) (e := 14 * k4 + 118) (by omega) (by omega) (by omega)) rfl rfl hdd (Nat.le_refl _) (Nat.le_refl _) (by decide) (pm_ki (fun v9 σ' cnt' hq => ?_))
        obtain ⟨rfl, rfl, rfl⟩ := hq
        refine pm_gen (fun x10 ex10 => ?_)
        refine pm_iloadn hG dX12_men_46 rfl ?_
        refine pm_iadd hG dX12_men_47 ?_
        refine pm_iconst (v := nI 0) hG dX12_men_48 (by decide) ?_
        refine pm_sipush (v := nI 999) hG dX12_men_49 (by decide) ?_
        refine pm_callS (As := [.int (x10 + zb), .int (nI 0), .int (nI 999)]) (rest := []) hG hR dX12_men_52 (lkX12_68 _ rfl) okS_X12_in (m_in (d := 1)) rfl rfl hdd (Nat.le_refl _) (Nat.le_refl _) (by decide) (pm_ki (fun v11 σ' cnt' hq => ?_))
        obtain ⟨hq, rfl, rfl⟩ := hq
        rcases hq with ⟨rfl, ac12, bc12⟩ | ⟨rfl, c12⟩
        · obtain ⟨k13, hk13, ek13⟩ := in_nat (by omega) (by omega) ac12 bc12
          refine pm_ifN_ne (tgt := 64) hG dX12_men_55 rfl (by omega) (fun _ => ?_) (fun q => absurd q (by omega))
          refine pm_aloadn hG dX12_men_64 rfl ?_
          refine pm_iloadn hG dX12_men_65 rfl ?_
          refine pm_top (v := nI k4) ek4 ?_
          refine pm_bipush (v := nI 8) hG dX12_men_66 (by decide) ?_
          refine pm_aloadn hG dX12_men_68 rfl ?_
          refine pm_iloadn hG dX12_men_69 rfl ?_
          refine pm_top (v := nI k4) ek4 ?_
          refine pm_bipush (v := nI 8) hG dX12_men_70 (by decide) ?_
          refine pm_callV (As := [.int (nI k4), .int (nI 8)]) (rest := [.int (nI 8), .int (nI k4), .ref (B + 54)]) hG hR dX12_men_72 (lkX12_72 _ rfl) okV_X12_man rfl rfl (m_man (d := 1) (e := 14 * k4 + 118) (by omega) (by omega) (by omega)) rfl rfl hdd (Nat.le_refl _) (Nat.le_refl _) (Nat.le_of_ble_eq_true rfl) (pm_ki (fun v14 σ' cnt' hq => ?_))
          obtain ⟨rfl, rfl, rfl⟩ := hq
          refine pm_top (v := x10) ex10 ?_
          refine pm_iloadn hG dX12_men_75 rfl ?_
          refine pm_iadd hG dX12_men_76 ?_
          refine pm_top (v := nI k13) ek13 ?_
          refine pm_callV (As := [.int (nI k4), .int (nI 8), .int (nI k13)]) (rest := []) hG hR dX12_men_77 (lkX12_97 _ rfl) okV_X12_sets rfl rfl (m_sets (d := 1) (e := 14 * k4 + 118) (by omega) (by omega) (by omega)) rfl rfl hdd (Nat.le_refl _) (Nat.le_refl _) (by decide) (pm_kv (fun σ' cnt' hq => ?_))
          obtain ⟨rfl, rfl⟩ := hq
          obtain ⟨n_15, en_15⟩ : ∃ f : Nat → Int32, f = upd n (14 * k4 + 118) (nI k13) := ⟨_, rfl⟩
          rw [← en_15]
          have hnn_15 := KI.w en_15 hn (okv_f (show kd (14 * k4 + 118) = (0, 0, false) from (kd_P (k := k4) (c := 8) (by omega) (by omega) (by decide))))
          have hrn_15 := NRx.w en_15 hr (by rw [(show kd (14 * k4 + 118) = (0, 0, false) from (kd_P (k := k4) (c := 8) (by omega) (by omega) (by decide)))])
          have e16 : n_15 2 = nI k1 := by rw [en_15, pk_un (by omega)]; exact ek1
          have e17 : n_15 (14 * k4 + 119) = (-1) := by rw [en_15, pk_un (by omega)]; exact ek7
          have e18 : n_15 (14 * k4 + 118) = nI k13 := by rw [en_15, pk_us]
          refine pm_aloadn hG dX12_men_80 rfl ?_
          refine pm_iloadn hG dX12_men_81 rfl ?_
          refine pm_top (v := nI k4) ek4 ?_
          refine pm_bipush (v := nI 8) hG dX12_men_82 (by decide) ?_
          refine pm_callV (As := [.int (nI k4), .int (nI 8)]) (rest := []) hG hR dX12_men_84 (lkX12_72 _ rfl) okV_X12_man rfl rfl (m_man (d := 1) (e := 14 * k4 + 118) (by omega) (by omega) (by omega)) rfl rfl hdd (Nat.le_refl _) (Nat.le_refl _) (by decide) (pm_ki (fun v19 σ' cnt' hq => ?_))
          obtain ⟨rfl, rfl, rfl⟩ := hq
          refine pm_top (v := nI k13) e18 ?_
          exact pm_iret hG hF dX12_men_87 rfl (Nat.le_refl _) (Nat.le_refl _) ⟨_, rfl, ⟨_, _, _, rfl, hnn_15, hrn_15⟩, rfl⟩
        · refine pm_ifN_ne (tgt := 64) hG dX12_men_55 rfl (by omega) (fun q => absurd q (by omega)) (fun _ => ?_)
          refine pm_aloadn hG dX12_men_58 rfl ?_
          refine pm_iconst (v := nI 1) hG dX12_men_59 (by decide) ?_
          refine pm_callV (As := [.int (nI 1)]) (rest := []) hG hR dX12_men_60 (lkX12_80 _ rfl) okV_X12_finds rfl rfl (m_finds (d := 1) (by decide) hn hz (by omega)) rfl rfl hdd (Nat.le_refl _) (Nat.le_refl _) (by decide) (pm_ki (fun v20 σ' cnt' hq => ?_))
          obtain ⟨⟨I21, A21, rfl⟩, rfl⟩ := hq
          exact pm_iret hG hF dX12_men_63 rfl (Nat.le_refl _) (Nat.le_refl _) ⟨_, rfl, ⟨_, _, _, rfl, hn, hr⟩, rfl⟩
      · refine pm_callV (As := [.int (nI k4)]) (rest := []) hG hR dX12_men_27 (lkX12_101 _ rfl) okV_X12_lives rfl rfl (m_lives0 (d := 1) (by decide) (by omega) (by omega : 14 * k4 + 119 = 14 * k4 + 119) ek7 (by omega)) rfl rfl hdd (Nat.le_refl _) (Nat.le_refl _) (by decide) (pm_ki (fun v22 σ' cnt' hq => ?_))
        obtain ⟨rfl, rfl, rfl⟩ := hq
        refine pm_ifN_ne (tgt := 39) hG dX12_men_30 rfl (by omega) (fun q => absurd q (by omega)) (fun _ => ?_)
        refine pm_aloadn hG dX12_men_33 rfl ?_
        refine pm_iconst (v := nI 3) hG dX12_men_34 (by decide) ?_
        refine pm_callV (As := [.int (nI 3)]) (rest := []) hG hR dX12_men_35 (lkX12_80 _ rfl) okV_X12_finds rfl rfl (m_finds (d := 1) (by decide) hn hz (by omega)) rfl rfl hdd (Nat.le_refl _) (Nat.le_refl _) (by decide) (pm_ki (fun v23 σ' cnt' hq => ?_))
        obtain ⟨⟨I24, A24, rfl⟩, rfl⟩ := hq
        exact pm_iret hG hF dX12_men_38 rfl (Nat.le_refl _) (Nat.le_refl _) ⟨_, rfl, ⟨_, _, _, rfl, hn, hr⟩, rfl⟩
    · refine pm_ifN_ne (tgt := 25) hG dX12_men_16 rfl (by omega) (fun q => absurd q (by omega)) (fun _ => ?_)
      refine pm_aloadn hG dX12_men_19 rfl ?_
      refine pm_iconst (v := nI 1) hG dX12_men_20 (by decide) ?_
      refine pm_callV (As := [.int (nI 1)]) (rest := []) hG hR dX12_men_21 (lkX12_80 _ rfl) okV_X12_finds rfl rfl (m_finds (d := 1) (by decide) hn hz (by omega)) rfl rfl hdd (Nat.le_refl _) (Nat.le_refl _) (by decide) (pm_ki (fun v25 σ' cnt' hq => ?_))
      obtain ⟨⟨I26, A26, rfl⟩, rfl⟩ := hq
      exact pm_iret hG hF dX12_men_24 rfl (Nat.le_refl _) (Nat.le_refl _) ⟨_, rfl, ⟨_, _, _, rfl, hn, hr⟩, rfl⟩
  · refine pm_ifN_eq (tgt := 19) hG dX12_men_5 rfl (by omega) (fun _ => ?_) (fun q => absurd q (by omega))
    refine pm_aloadn hG dX12_men_19 rfl ?_
    refine pm_iconst (v := nI 1) hG dX12_men_20 (by decide) ?_
    refine pm_callV (As := [.int (nI 1)]) (rest := []) hG hR dX12_men_21 (lkX12_80 _ rfl) okV_X12_finds rfl rfl (m_finds (d := 1) (by decide) hn hz (by omega)) rfl rfl hdd (Nat.le_refl _) (Nat.le_refl _) (by decide) (pm_ki (fun v27 σ' cnt' hq => ?_))
    obtain ⟨⟨I28, A28, rfl⟩, rfl⟩ := hq
    exact pm_iret hG hF dX12_men_24 rfl (Nat.le_refl _) (Nat.le_refl _) ⟨_, rfl, ⟨_, _, _, rfl, hn, hr⟩, rfl⟩

set_option maxRecDepth 100000 in
set_option maxHeartbeats 4000000 in
theorem m_move {d B cnt p0 t0 : Nat} {σ : pm_S} {I : Nat → Int32} {A : Nat → Nat → Int32} {n k z : Nat → Int32} {ac wt pl : Int32} {za zb zc zd ze : Int32} (hdd : 2 ≤ d) (hn : KI n) (hz : SZ z)  : pm_met mX12_move d 0 0 B [.ref (B + 54), .int za, .int zb, .int zc, .int zd, .int ze] cnt (pm_mid σ (md_L B I A n k z ac wt pl (nI p0) (nI t0))) (pm_Qi (fun v σ' cnt' => (∃ (I' : Nat → Int32) (A' : Nat → Nat → Int32), σ' = pm_mid σ (md_L B I' A' n k z ac wt pl (nI p0) (nI t0))) ∧ cnt' = cnt)) := by
  refine pm_enter 1 (by decide) (Nat.le_of_ble_eq_true rfl) rfl (fun G hG hR hF => ?_)
  refine pm_iloadn hG dX12_move_0 rfl ?_
  refine pm_callS (As := [.int za]) (rest := []) hG hR dX12_move_1 (lkX12_239 _ rfl) okS_X12_isSheet (m_isSheet (d := 1) (by decide)) rfl rfl hdd (Nat.le_refl _) (Nat.le_refl _) (by decide) (pm_ki (fun v1 σ' cnt' hq => ?_))
  obtain ⟨hq, rfl, rfl⟩ := hq
  rcases hq with ⟨rfl, ac2, bc2⟩ | ⟨rfl, c2⟩
  · obtain ⟨k3, hk3, ek3⟩ := in_nat (by omega) (by omega) ac2 bc2
    refine pm_ifN_eq (tgt := 14) hG dX12_move_4 rfl (by omega) (fun q => absurd q (by omega)) (fun _ => ?_)
    refine pm_iloadn hG dX12_move_7 rfl ?_
    refine pm_callS (As := [.int zc]) (rest := []) hG hR dX12_move_8 (lkX12_239 _ rfl) okS_X12_isSheet (m_isSheet (d := 1) (by decide)) rfl rfl hdd (Nat.le_refl _) (Nat.le_refl _) (by decide) (pm_ki (fun v4 σ' cnt' hq => ?_))
    obtain ⟨hq, rfl, rfl⟩ := hq
    rcases hq with ⟨rfl, ac5, bc5⟩ | ⟨rfl, c5⟩
    · obtain ⟨k6, hk6, ek6⟩ := in_nat (by omega) (by omega) ac5 bc5
      refine pm_ifN_ne (tgt := 20) hG dX12_move_11 rfl (by omega) (fun _ => ?_) (fun q => absurd q (by omega))
      refine pm_aloadn hG dX12_move_20 rfl ?_
      refine pm_getf hG dX12_move_21 (flX12_55 _ rfl) rfl rfl ?_
      refine pm_iloadn hG dX12_move_24 rfl ?_
      refine pm_top (v := nI k3) ek3 ?_
      refine pm_ialdN hG dX12_move_25 rfl (by decide) (by omega) ?_
      refine pm_any (fun x7 => ?_)
      refine pm_if_eq (tgt := 38) hG dX12_move_26 rfl (fun c8 => ?_) (fun c8 => ?_)
      · refine pm_aloadn hG dX12_move_38 rfl ?_
        refine pm_iconst (v := nI 2) hG dX12_move_39 (by decide) ?_
        refine pm_callV (As := [.int (nI 2)]) (rest := []) hG hR dX12_move_40 (lkX12_80 _ rfl) okV_X12_finds rfl rfl (m_finds (d := 1) (by decide) hn hz (by omega)) rfl rfl hdd (Nat.le_refl _) (Nat.le_refl _) (by decide) (pm_ki (fun v9 σ' cnt' hq => ?_))
        obtain ⟨⟨I10, A10, rfl⟩, rfl⟩ := hq
        exact pm_iret hG hF dX12_move_43 rfl (Nat.le_refl _) (Nat.le_refl _) ⟨_, rfl, ⟨_, _, rfl⟩, rfl⟩
      · refine pm_aloadn hG dX12_move_29 rfl ?_
        refine pm_getf hG dX12_move_30 (flX12_55 _ rfl) rfl rfl ?_
        refine pm_iloadn hG dX12_move_33 rfl ?_
        refine pm_top (v := nI k6) ek6 ?_
        refine pm_ialdN hG dX12_move_34 rfl (by decide) (by omega) ?_
        refine pm_any (fun x11 => ?_)
        refine pm_if_ne (tgt := 44) hG dX12_move_35 rfl (fun c12 => ?_) (fun c12 => ?_)
        · refine pm_aloadn hG dX12_move_44 rfl ?_
          refine pm_getf hG dX12_move_45 (flX12_55 _ rfl) rfl rfl ?_
          refine pm_iloadn hG dX12_move_48 rfl ?_
          refine pm_top (v := nI k3) ek3 ?_
          refine pm_ialdN hG dX12_move_49 rfl (by decide) (by omega) ?_
          refine pm_any (fun x13 => ?_)
          refine pm_aloadn hG dX12_move_50 rfl ?_
          refine pm_getf hG dX12_move_51 (flX12_55 _ rfl) rfl rfl ?_
          refine pm_iloadn hG dX12_move_54 rfl ?_
          refine pm_top (v := nI k6) ek6 ?_
          refine pm_ialdN hG dX12_move_55 rfl (by decide) (by omega) ?_
          refine pm_any (fun x14 => ?_)
          refine pm_icmp_eq (tgt := 65) hG dX12_move_56 rfl (fun c15 => ?_) (fun c15 => ?_)
          · refine pm_iloadi hG dX12_move_65 rfl ?_
            refine pm_if_lt (tgt := 114) hG dX12_move_67 rfl (fun c16 => ?_) (fun c16 => ?_)
            · refine pm_aloadn hG dX12_move_114 rfl ?_
              refine pm_iconst (v := nI 1) hG dX12_move_115 (by decide) ?_
              refine pm_callV (As := [.int (nI 1)]) (rest := []) hG hR dX12_move_116 (lkX12_80 _ rfl) okV_X12_finds rfl rfl (m_finds (d := 1) (by decide) hn hz (by omega)) rfl rfl hdd (Nat.le_refl _) (Nat.le_refl _) (by decide) (pm_ki (fun v17 σ' cnt' hq => ?_))
              obtain ⟨⟨I18, A18, rfl⟩, rfl⟩ := hq
              exact pm_iret hG hF dX12_move_119 rfl (Nat.le_refl _) (Nat.le_refl _) ⟨_, rfl, ⟨_, _, rfl⟩, rfl⟩
            · obtain ⟨k19, hk19, ek19⟩ := nI_of c16
              refine pm_iloadn hG dX12_move_70 rfl ?_
              refine pm_if_lt (tgt := 114) hG dX12_move_71 rfl (fun c20 => ?_) (fun c20 => ?_)
              · refine pm_aloadn hG dX12_move_114 rfl ?_
                refine pm_iconst (v := nI 1) hG dX12_move_115 (by decide) ?_
                refine pm_callV (As := [.int (nI 1)]) (rest := []) hG hR dX12_move_116 (lkX12_80 _ rfl) okV_X12_finds rfl rfl (m_finds (d := 1) (by decide) hn hz (by omega)) rfl rfl hdd (Nat.le_refl _) (Nat.le_refl _) (by decide) (pm_ki (fun v21 σ' cnt' hq => ?_))
                obtain ⟨⟨I22, A22, rfl⟩, rfl⟩ := hq
                exact pm_iret hG hF dX12_move_119 rfl (Nat.le_refl _) (Nat.le_refl _) ⟨_, rfl, ⟨_, _, rfl⟩, rfl⟩
              · obtain ⟨k23, hk23, ek23⟩ := nI_of c20
                refine pm_iloadi hG dX12_move_74 rfl ?_
                refine pm_if_lt (tgt := 114) hG dX12_move_76 rfl (fun c24 => ?_) (fun c24 => ?_)
                · refine pm_aloadn hG dX12_move_114 rfl ?_
                  refine pm_iconst (v := nI 1) hG dX12_move_115 (by decide) ?_
                  refine pm_callV (As := [.int (nI 1)]) (rest := []) hG hR dX12_move_116 (lkX12_80 _ rfl) okV_X12_finds rfl rfl (m_finds (d := 1) (by decide) hn hz (by omega)) rfl rfl hdd (Nat.le_refl _) (Nat.le_refl _) (by decide) (pm_ki (fun v25 σ' cnt' hq => ?_))
                  obtain ⟨⟨I26, A26, rfl⟩, rfl⟩ := hq
                  exact pm_iret hG hF dX12_move_119 rfl (Nat.le_refl _) (Nat.le_refl _) ⟨_, rfl, ⟨_, _, rfl⟩, rfl⟩
                · obtain ⟨k27, hk27, ek27⟩ := nI_of c24
                  refine pm_iloadn hG dX12_move_79 rfl ?_
                  refine pm_top (v := nI k23) ek23 ?_
                  refine pm_i2l hG dX12_move_80 rfl ?_
                  refine pm_iloadi hG dX12_move_81 rfl ?_
                  refine pm_top (v := nI k19) ek19 ?_
                  refine pm_i2l hG dX12_move_83 rfl ?_
                  refine pm_ladd hG dX12_move_84 ?_
                  refine pm_aloadn hG dX12_move_85 rfl ?_
                  refine pm_getf hG dX12_move_86 (flX12_58 _ rfl) rfl rfl ?_
                  refine pm_iloadn hG dX12_move_89 rfl ?_
                  refine pm_top (v := nI k3) ek3 ?_
                  refine pm_ialdN hG dX12_move_90 rfl (by decide) (by omega) ?_
                  obtain ⟨k28, hk28, ek28⟩ := hz k3 (by omega)
                  refine pm_top (v := nI k28) ek28 ?_
                  refine pm_i2l hG dX12_move_91 rfl ?_
                  refine pm_lcmp hG dX12_move_92 ?_
                  refine pm_any (fun x29 => ?_)
                  refine pm_if_gt (tgt := 114) hG dX12_move_93 rfl (fun c30 => ?_) (fun c30 => ?_)
                  · refine pm_aloadn hG dX12_move_114 rfl ?_
                    refine pm_iconst (v := nI 1) hG dX12_move_115 (by decide) ?_
                    refine pm_callV (As := [.int (nI 1)]) (rest := []) hG hR dX12_move_116 (lkX12_80 _ rfl) okV_X12_finds rfl rfl (m_finds (d := 1) (by decide) hn hz (by omega)) rfl rfl hdd (Nat.le_refl _) (Nat.le_refl _) (by decide) (pm_ki (fun v31 σ' cnt' hq => ?_))
                    obtain ⟨⟨I32, A32, rfl⟩, rfl⟩ := hq
                    exact pm_iret hG hF dX12_move_119 rfl (Nat.le_refl _) (Nat.le_refl _) ⟨_, rfl, ⟨_, _, rfl⟩, rfl⟩
                  · refine pm_iloadi hG dX12_move_96 rfl ?_
                    refine pm_top (v := nI k27) ek27 ?_
                    refine pm_i2l hG dX12_move_98 rfl ?_
                    refine pm_iloadi hG dX12_move_99 rfl ?_
                    refine pm_top (v := nI k19) ek19 ?_
                    refine pm_i2l hG dX12_move_101 rfl ?_
                    refine pm_ladd hG dX12_move_102 ?_
                    refine pm_aloadn hG dX12_move_103 rfl ?_
                    refine pm_getf hG dX12_move_104 (flX12_58 _ rfl) rfl rfl ?_
                    refine pm_iloadn hG dX12_move_107 rfl ?_
                    refine pm_top (v := nI k6) ek6 ?_
                    refine pm_ialdN hG dX12_move_108 rfl (by decide) (by omega) ?_
                    obtain ⟨k33, hk33, ek33⟩ := hz k6 (by omega)
                    refine pm_top (v := nI k33) ek33 ?_
                    refine pm_i2l hG dX12_move_109 rfl ?_
                    refine pm_lcmp hG dX12_move_110 ?_
                    refine pm_any (fun x34 => ?_)
                    refine pm_if_le (tgt := 120) hG dX12_move_111 rfl (fun c35 => ?_) (fun c35 => ?_)
                    · refine pm_iconst (v := nI 0) hG dX12_move_120 (by decide) ?_
                      refine pm_istoreXi (loc' := [some (.ref (B + 54)), some (.int za), some (.int zb), some (.int zc), some (.int zd), some (.int ze), some (.int (nI 0))]) hG dX12_move_121 (by decide) (pm_c1b rfl) rfl ?_
                      have loop123_36 : ∀ (m36 : Nat) (I36 : Nat → Int32) (A36 : Nat → Nat → Int32) (i36 : Nat), i36 ≤ 2147483647 → 2147483647 - i36 < m36 → pm_wp mX12_move G B 123 [some (.ref (B + 54)), some (.int za), some (.int zb), some (.int zc), some (.int zd), some (.int ze), some (.int (nI i36))] [] 0 0 cnt (pm_mid σ (md_L B I36 A36 n k z ac wt pl (nI p0) (nI t0))) := by
                        intro m36
                        induction m36 with
                        | zero => intro I36 A36 i36 _ hm; exact absurd hm (Nat.not_lt_zero _)
                        | succ m36 ih36 =>
                          intro I36 A36 i36 hi36 hm36
                          refine pm_iloadi hG dX12_move_123 rfl ?_
                          refine pm_iloadi hG dX12_move_125 rfl ?_
                          refine pm_top (v := nI k19) ek19 ?_
                          refine pm_icmpN_ge (tgt := 157) hG dX12_move_127 rfl (by omega) (by omega) (fun c37 => ?_) (fun c37 => ?_)
                          · refine pm_iconst (v := nI 0) hG dX12_move_157 (by decide) ?_
                            refine pm_istoreXi (loc' := [some (.ref (B + 54)), some (.int za), some (.int zb), some (.int zc), some (.int zd), some (.int ze), some (.int (nI 0))]) hG dX12_move_158 (by decide) (pm_c1b rfl) rfl ?_
                            have loop160_38 : ∀ (m38 : Nat) (I38 : Nat → Int32) (A38 : Nat → Nat → Int32) (i38 : Nat), i38 ≤ 2147483647 → 2147483647 - i38 < m38 → pm_wp mX12_move G B 160 [some (.ref (B + 54)), some (.int za), some (.int zb), some (.int zc), some (.int zd), some (.int ze), some (.int (nI i38))] [] 0 0 cnt (pm_mid σ (md_L B I38 A38 n k z ac wt pl (nI p0) (nI t0))) := by
                              intro m38
                              induction m38 with
                              | zero => intro I38 A38 i38 _ hm; exact absurd hm (Nat.not_lt_zero _)
                              | succ m38 ih38 =>
                                intro I38 A38 i38 hi38 hm38
                                refine pm_iloadi hG dX12_move_160 rfl ?_
                                refine pm_iloadi hG dX12_move_162 rfl ?_
                                refine pm_top (v := nI k19) ek19 ?_
                                refine pm_icmpN_ge (tgt := 195) hG dX12_move_164 rfl (by omega) (by omega) (fun c39 => ?_) (fun c39 => ?_)
                                · refine pm_iloadi hG dX12_move_195 rfl ?_
                                  refine pm_top (v := nI k19) ek19 ?_
                                  exact pm_iret hG hF dX12_move_197 rfl (Nat.le_refl _) (Nat.le_refl _) ⟨_, rfl, ⟨_, _, rfl⟩, rfl⟩
                                · refine pm_aloadn hG dX12_move_167 rfl ?_
                                  refine pm_getf hG dX12_move_168 (flX12_61 _ rfl) rfl rfl ?_
                                  refine pm_bipush (v := nI 24) hG dX12_move_171 (by decide) ?_
                                  refine pm_iloadn hG dX12_move_173 rfl ?_
                                  refine pm_top (v := nI k6) ek6 ?_
                                  refine pm_imulN (c := 24 * k6) hG dX12_move_174 (by omega) ?_
                                  refine pm_iloadi hG dX12_move_175 rfl ?_
                                  refine pm_top (v := nI k27) ek27 ?_
                                  refine pm_iaddN (c := k27 + 24 * k6) hG dX12_move_177 (by omega) ?_
                                  refine pm_iloadi hG dX12_move_178 rfl ?_
                                  refine pm_iaddN (c := i38 + k27 + 24 * k6) hG dX12_move_180 (by omega) ?_
                                  refine pm_aloadn hG dX12_move_181 rfl ?_
                                  refine pm_getf hG dX12_move_182 (flX12_64 _ rfl) rfl rfl ?_
                                  refine pm_iloadi hG dX12_move_185 rfl ?_
                                  refine pm_ialdN hG dX12_move_187 rfl (by decide) (by omega) ?_
                                  refine pm_any (fun x40 => ?_)
                                  refine pm_iastN hG dX12_move_188 rfl (by decide) (by omega) ?_
                                  refine mdn_sheets (fun A_41 => ?_)
                                  refine pm_iincX (v := nI (i38 + 1)) (loc' := [some (.ref (B + 54)), some (.int za), some (.int zb), some (.int zc), some (.int zd), some (.int ze), some (.int (nI (i38 + 1)))]) hG dX12_move_189 rfl (nI_1 _) (by decide) (pm_c1b rfl) rfl ?_
                                  refine pm_goto (tgt := 160) hG dX12_move_192 rfl ?_
                                  exact ih38 I38 A_41 (i38 + 1) (by omega) (by omega)
                            exact loop160_38 _ I36 A36 0 (by omega) (Nat.lt_succ_self _)
                          · refine pm_aloadn hG dX12_move_130 rfl ?_
                            refine pm_getf hG dX12_move_131 (flX12_64 _ rfl) rfl rfl ?_
                            refine pm_iloadi hG dX12_move_134 rfl ?_
                            refine pm_aloadn hG dX12_move_136 rfl ?_
                            refine pm_getf hG dX12_move_137 (flX12_61 _ rfl) rfl rfl ?_
                            refine pm_bipush (v := nI 24) hG dX12_move_140 (by decide) ?_
                            refine pm_iloadn hG dX12_move_142 rfl ?_
                            refine pm_top (v := nI k3) ek3 ?_
                            refine pm_imulN (c := 24 * k3) hG dX12_move_143 (by omega) ?_
                            refine pm_iloadn hG dX12_move_144 rfl ?_
                            refine pm_top (v := nI k23) ek23 ?_
                            refine pm_iaddN (c := k23 + 24 * k3) hG dX12_move_145 (by omega) ?_
                            refine pm_iloadi hG dX12_move_146 rfl ?_
                            refine pm_iaddN (c := i36 + k23 + 24 * k3) hG dX12_move_148 (by omega) ?_
                            refine pm_ialdN hG dX12_move_149 rfl (by decide) (by omega) ?_
                            refine pm_any (fun x42 => ?_)
                            refine pm_iastN hG dX12_move_150 rfl (by decide) (by omega) ?_
                            refine mdn_carried (fun A_43 => ?_)
                            refine pm_iincX (v := nI (i36 + 1)) (loc' := [some (.ref (B + 54)), some (.int za), some (.int zb), some (.int zc), some (.int zd), some (.int ze), some (.int (nI (i36 + 1)))]) hG dX12_move_151 rfl (nI_1 _) (by decide) (pm_c1b rfl) rfl ?_
                            refine pm_goto (tgt := 123) hG dX12_move_154 rfl ?_
                            exact ih36 I36 A_43 (i36 + 1) (by omega) (by omega)
                      exact loop123_36 _ I A 0 (by omega) (Nat.lt_succ_self _)
                    · refine pm_aloadn hG dX12_move_114 rfl ?_
                      refine pm_iconst (v := nI 1) hG dX12_move_115 (by decide) ?_
                      refine pm_callV (As := [.int (nI 1)]) (rest := []) hG hR dX12_move_116 (lkX12_80 _ rfl) okV_X12_finds rfl rfl (m_finds (d := 1) (by decide) hn hz (by omega)) rfl rfl hdd (Nat.le_refl _) (Nat.le_refl _) (by decide) (pm_ki (fun v44 σ' cnt' hq => ?_))
                      obtain ⟨⟨I45, A45, rfl⟩, rfl⟩ := hq
                      exact pm_iret hG hF dX12_move_119 rfl (Nat.le_refl _) (Nat.le_refl _) ⟨_, rfl, ⟨_, _, rfl⟩, rfl⟩
          · refine pm_aloadn hG dX12_move_59 rfl ?_
            refine pm_iconst (v := nI 5) hG dX12_move_60 (by decide) ?_
            refine pm_callV (As := [.int (nI 5)]) (rest := []) hG hR dX12_move_61 (lkX12_80 _ rfl) okV_X12_finds rfl rfl (m_finds (d := 1) (by decide) hn hz (by omega)) rfl rfl hdd (Nat.le_refl _) (Nat.le_refl _) (by decide) (pm_ki (fun v46 σ' cnt' hq => ?_))
            obtain ⟨⟨I47, A47, rfl⟩, rfl⟩ := hq
            exact pm_iret hG hF dX12_move_64 rfl (Nat.le_refl _) (Nat.le_refl _) ⟨_, rfl, ⟨_, _, rfl⟩, rfl⟩
        · refine pm_aloadn hG dX12_move_38 rfl ?_
          refine pm_iconst (v := nI 2) hG dX12_move_39 (by decide) ?_
          refine pm_callV (As := [.int (nI 2)]) (rest := []) hG hR dX12_move_40 (lkX12_80 _ rfl) okV_X12_finds rfl rfl (m_finds (d := 1) (by decide) hn hz (by omega)) rfl rfl hdd (Nat.le_refl _) (Nat.le_refl _) (by decide) (pm_ki (fun v48 σ' cnt' hq => ?_))
          obtain ⟨⟨I49, A49, rfl⟩, rfl⟩ := hq
          exact pm_iret hG hF dX12_move_43 rfl (Nat.le_refl _) (Nat.le_refl _) ⟨_, rfl, ⟨_, _, rfl⟩, rfl⟩
    · refine pm_ifN_ne (tgt := 20) hG dX12_move_11 rfl (by omega) (fun q => absurd q (by omega)) (fun _ => ?_)
      refine pm_aloadn hG dX12_move_14 rfl ?_
      refine pm_iconst (v := nI 1) hG dX12_move_15 (by decide) ?_
      refine pm_callV (As := [.int (nI 1)]) (rest := []) hG hR dX12_move_16 (lkX12_80 _ rfl) okV_X12_finds rfl rfl (m_finds (d := 1) (by decide) hn hz (by omega)) rfl rfl hdd (Nat.le_refl _) (Nat.le_refl _) (by decide) (pm_ki (fun v50 σ' cnt' hq => ?_))
      obtain ⟨⟨I51, A51, rfl⟩, rfl⟩ := hq
      exact pm_iret hG hF dX12_move_19 rfl (Nat.le_refl _) (Nat.le_refl _) ⟨_, rfl, ⟨_, _, rfl⟩, rfl⟩
  · refine pm_ifN_eq (tgt := 14) hG dX12_move_4 rfl (by omega) (fun _ => ?_) (fun q => absurd q (by omega))
    refine pm_aloadn hG dX12_move_14 rfl ?_
    refine pm_iconst (v := nI 1) hG dX12_move_15 (by decide) ?_
    refine pm_callV (As := [.int (nI 1)]) (rest := []) hG hR dX12_move_16 (lkX12_80 _ rfl) okV_X12_finds rfl rfl (m_finds (d := 1) (by decide) hn hz (by omega)) rfl rfl hdd (Nat.le_refl _) (Nat.le_refl _) (by decide) (pm_ki (fun v52 σ' cnt' hq => ?_))
    obtain ⟨⟨I53, A53, rfl⟩, rfl⟩ := hq
    exact pm_iret hG hF dX12_move_19 rfl (Nat.le_refl _) (Nat.le_refl _) ⟨_, rfl, ⟨_, _, rfl⟩, rfl⟩
