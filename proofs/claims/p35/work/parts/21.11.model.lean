set_option maxRecDepth 100000 in
set_option maxHeartbeats 4000000 in
theorem m_held {d B cnt p0 t0 : Nat} {σ : pm_S} {I : Nat → Int32} {A : Nat → Nat → Int32} {n k z : Nat → Int32} {ac wt pl im : Int32} {za zb : Int32} (hdd : 2 ≤ d) (hn : KI n) (hz : SZ z)  : pm_met mX12_held d 0 0 B [.ref (B + 54), .int za, .int zb] cnt (pm_mid σ (md_L B I A n k z ac wt pl (nI p0) (nI t0) im)) (pm_Qi (fun v σ' cnt' => (∃ (I' : Nat → Int32) (A' : Nat → Nat → Int32), σ' = pm_mid σ (md_L B I' A' n k z ac wt pl (nI p0) (nI t0) im)) ∧ cnt = cnt')) := by
  refine pm_enter 0 (by decide) (Nat.le_of_ble_eq_true rfl) rfl (fun G hG hR hF => ?_)
  refine pm_aloadn hG dX12_held_0 rfl ?_
  refine pm_iloadn hG dX12_held_1 rfl ?_
  obtain ⟨k1, hk1, ek1⟩ := KI.nat hn (show kd 3 = (1, 21, false) by decide)
  refine pm_callV (As := [.int za]) (rest := []) hG hR dX12_held_2 (lkX12_132 _ rfl) okV_X12_isPower rfl rfl (m_isPower (d := 1) (by decide) ek1 (by omega)) rfl rfl hdd (Nat.le_refl _) (Nat.le_refl _) (by decide) (pm_ki (fun v2 σ' cnt' hq => ?_))
  obtain ⟨hq, rfl, rfl⟩ := hq
  rcases hq with ⟨rfl, k4, hk4, ek4⟩ | rfl
  · refine pm_ifN_ne (tgt := 14) hG dX12_held_5 rfl (by omega) (fun _ => ?_) (fun q => absurd q (by omega))
    refine pm_iloadn hG dX12_held_14 rfl ?_
    by_cases c5 : zb = nI 0
    · refine pm_top (v := nI 0) c5 ?_
      refine pm_tswIn (tgt := 48) hG dX12_held_15 (by decide) (by decide) rfl rfl ?_
      refine pm_aloadn hG dX12_held_48 rfl ?_
      refine pm_iloadn hG dX12_held_49 rfl ?_
      refine pm_top (v := nI k4) ek4 ?_
      refine pm_iconst (v := nI 0) hG dX12_held_50 (by decide) ?_
      refine pm_callV (As := [.int (nI k4), .int (nI 0)]) (rest := []) hG hR dX12_held_51 (lkX12_110 _ rfl) okV_X12_its rfl rfl (m_its (d := 1) (e := 6 * k4 + 390) (by omega) (by omega) (by omega)) rfl rfl hdd (Nat.le_refl _) (Nat.le_refl _) (by decide) (pm_ki (fun v6 σ' cnt' hq => ?_))
      obtain ⟨rfl, rfl, rfl⟩ := hq
      refine pm_gen (fun x7 ex7 => ?_)
      exact pm_iret hG hF dX12_held_54 rfl (Nat.le_refl _) (Nat.le_refl _) ⟨_, rfl, ⟨_, _, rfl⟩, rfl⟩
    by_cases c8 : zb = nI 1
    · refine pm_top (v := nI 1) c8 ?_
      refine pm_tswIn (tgt := 55) hG dX12_held_15 (by decide) (by decide) rfl rfl ?_
      refine pm_aloadn hG dX12_held_55 rfl ?_
      refine pm_iloadn hG dX12_held_56 rfl ?_
      refine pm_top (v := nI k4) ek4 ?_
      refine pm_iconst (v := nI 1) hG dX12_held_57 (by decide) ?_
      refine pm_callV (As := [.int (nI k4), .int (nI 1)]) (rest := []) hG hR dX12_held_58 (lkX12_110 _ rfl) okV_X12_its rfl rfl (m_its (d := 1) (e := 6 * k4 + 391) (by omega) (by omega) (by omega)) rfl rfl hdd (Nat.le_refl _) (Nat.le_refl _) (by decide) (pm_ki (fun v9 σ' cnt' hq => ?_))
      obtain ⟨rfl, rfl, rfl⟩ := hq
      rcases KI.opt hn (show kd (6 * k4 + 391) = (2, 20, false) from (kd_W (k := k4) (c := 1) (by omega) (by omega) (by decide))) with ek10 | ⟨k10, hk10, ek10⟩
      · refine pm_top (v := (-1)) ek10 ?_
        exact pm_iret hG hF dX12_held_61 rfl (Nat.le_refl _) (Nat.le_refl _) ⟨_, rfl, ⟨_, _, rfl⟩, rfl⟩
      · refine pm_top (v := nI k10) ek10 ?_
        exact pm_iret hG hF dX12_held_61 rfl (Nat.le_refl _) (Nat.le_refl _) ⟨_, rfl, ⟨_, _, rfl⟩, rfl⟩
    by_cases c11 : zb = nI 2
    · refine pm_top (v := nI 2) c11 ?_
      refine pm_tswIn (tgt := 62) hG dX12_held_15 (by decide) (by decide) rfl rfl ?_
      refine pm_aloadn hG dX12_held_62 rfl ?_
      refine pm_iloadn hG dX12_held_63 rfl ?_
      refine pm_top (v := nI k4) ek4 ?_
      rcases KI.opt hn (show kd (6 * k4 + 392) = (2, 20, false) from (kd_W (k := k4) (c := 2) (by omega) (by omega) (by decide))) with ek12 | ⟨k12, hk12, ek12⟩
      · rcases KI.opt hn (show kd (6 * k4 + 391) = (2, 20, false) from (kd_W (k := k4) (c := 1) (by omega) (by omega) (by decide))) with ek13 | ⟨k13, hk13, ek13⟩
        · refine pm_callV (As := [.int (nI k4)]) (rest := []) hG hR dX12_held_64 (lkX12_139 _ rfl) okV_X12_whoHas rfl rfl (m_whoHas0 (d := 1) (e := 6 * k4 + 392) (e2 := 6 * k4 + 391) (by decide) (by omega) (by omega) (by omega) ek12 ek13) rfl rfl hdd (Nat.le_refl _) (Nat.le_refl _) (by decide) (pm_ki (fun v14 σ' cnt' hq => ?_))
          obtain ⟨rfl, rfl, rfl⟩ := hq
          exact pm_iret hG hF dX12_held_67 rfl (Nat.le_refl _) (Nat.le_refl _) ⟨_, rfl, ⟨_, _, rfl⟩, rfl⟩
        · refine pm_callV (As := [.int (nI k4)]) (rest := []) hG hR dX12_held_64 (lkX12_139 _ rfl) okV_X12_whoHas rfl rfl (m_whoHas0 (d := 1) (e := 6 * k4 + 392) (e2 := 6 * k4 + 391) (by decide) (by omega) (by omega) (by omega) ek12 ek13) rfl rfl hdd (Nat.le_refl _) (Nat.le_refl _) (by decide) (pm_ki (fun v15 σ' cnt' hq => ?_))
          obtain ⟨rfl, rfl, rfl⟩ := hq
          exact pm_iret hG hF dX12_held_67 rfl (Nat.le_refl _) (Nat.le_refl _) ⟨_, rfl, ⟨_, _, rfl⟩, rfl⟩
      · refine pm_callV (As := [.int (nI k4)]) (rest := []) hG hR dX12_held_64 (lkX12_139 _ rfl) okV_X12_whoHas rfl rfl (m_whoHas1 (d := 1) (e := 6 * k4 + 392) (by decide) (by omega) (by omega) ek12 (by omega)) rfl rfl hdd (Nat.le_refl _) (Nat.le_refl _) (by decide) (pm_ki (fun v16 σ' cnt' hq => ?_))
        obtain ⟨rfl, rfl, rfl⟩ := hq
        exact pm_iret hG hF dX12_held_67 rfl (Nat.le_refl _) (Nat.le_refl _) ⟨_, rfl, ⟨_, _, rfl⟩, rfl⟩
    by_cases c17 : zb = nI 3
    · refine pm_top (v := nI 3) c17 ?_
      refine pm_tswIn (tgt := 68) hG dX12_held_15 (by decide) (by decide) rfl rfl ?_
      refine pm_aloadn hG dX12_held_68 rfl ?_
      refine pm_iloadn hG dX12_held_69 rfl ?_
      refine pm_top (v := nI k4) ek4 ?_
      refine pm_iconst (v := nI 0) hG dX12_held_70 (by decide) ?_
      refine pm_callV (As := [.int (nI k4), .int (nI 0)]) (rest := []) hG hR dX12_held_71 (lkX12_110 _ rfl) okV_X12_its rfl rfl (m_its (d := 1) (e := 6 * k4 + 390) (by omega) (by omega) (by omega)) rfl rfl hdd (Nat.le_refl _) (Nat.le_refl _) (by decide) (pm_ki (fun v18 σ' cnt' hq => ?_))
      obtain ⟨rfl, rfl, rfl⟩ := hq
      refine pm_gen (fun x19 ex19 => ?_)
      refine pm_iconst (v := nI 2) hG dX12_held_74 (by decide) ?_
      refine pm_icmp_ne (tgt := 87) hG dX12_held_75 rfl (fun c20 => ?_) (fun c20 => ?_)
      · refine pm_iconst (v := (-1)) hG dX12_held_87 (by decide) ?_
        exact pm_iret hG hF dX12_held_88 rfl (Nat.le_refl _) (Nat.le_refl _) ⟨_, rfl, ⟨_, _, rfl⟩, rfl⟩
      · refine pm_aloadn hG dX12_held_78 rfl ?_
        refine pm_iloadn hG dX12_held_79 rfl ?_
        refine pm_top (v := nI k4) ek4 ?_
        refine pm_iconst (v := nI 5) hG dX12_held_80 (by decide) ?_
        refine pm_callV (As := [.int (nI k4), .int (nI 5)]) (rest := []) hG hR dX12_held_81 (lkX12_110 _ rfl) okV_X12_its rfl rfl (m_its (d := 1) (e := 6 * k4 + 395) (by omega) (by omega) (by omega)) rfl rfl hdd (Nat.le_refl _) (Nat.le_refl _) (by decide) (pm_ki (fun v21 σ' cnt' hq => ?_))
        obtain ⟨rfl, rfl, rfl⟩ := hq
        refine pm_gen (fun x22 ex22 => ?_)
        refine pm_goto (tgt := 88) hG dX12_held_84 rfl ?_
        exact pm_iret hG hF dX12_held_88 rfl (Nat.le_refl _) (Nat.le_refl _) ⟨_, rfl, ⟨_, _, rfl⟩, rfl⟩
    by_cases c23 : zb = nI 4
    · refine pm_top (v := nI 4) c23 ?_
      refine pm_tswIn (tgt := 89) hG dX12_held_15 (by decide) (by decide) rfl rfl ?_
      refine pm_aloadn hG dX12_held_89 rfl ?_
      refine pm_iloadn hG dX12_held_90 rfl ?_
      refine pm_top (v := nI k4) ek4 ?_
      refine pm_iconst (v := nI 3) hG dX12_held_91 (by decide) ?_
      refine pm_callV (As := [.int (nI k4), .int (nI 3)]) (rest := []) hG hR dX12_held_92 (lkX12_110 _ rfl) okV_X12_its rfl rfl (m_its (d := 1) (e := 6 * k4 + 393) (by omega) (by omega) (by omega)) rfl rfl hdd (Nat.le_refl _) (Nat.le_refl _) (by decide) (pm_ki (fun v24 σ' cnt' hq => ?_))
      obtain ⟨rfl, rfl, rfl⟩ := hq
      refine pm_gen (fun x25 ex25 => ?_)
      exact pm_iret hG hF dX12_held_95 rfl (Nat.le_refl _) (Nat.le_refl _) ⟨_, rfl, ⟨_, _, rfl⟩, rfl⟩
    have tc5 : ¬ zb.toInt = 0 := fun q => c5 (Int32.toInt_inj.mp (q.trans (by decide)))
    have tc8 : ¬ zb.toInt = 1 := fun q => c8 (Int32.toInt_inj.mp (q.trans (by decide)))
    have tc11 : ¬ zb.toInt = 2 := fun q => c11 (Int32.toInt_inj.mp (q.trans (by decide)))
    have tc17 : ¬ zb.toInt = 3 := fun q => c17 (Int32.toInt_inj.mp (q.trans (by decide)))
    have tc23 : ¬ zb.toInt = 4 := fun q => c23 (Int32.toInt_inj.mp (q.trans (by decide)))
    refine pm_tswOut (tgt := 96) hG dX12_held_15 (by omega) rfl ?_
    refine pm_aloadn hG dX12_held_96 rfl ?_
    refine pm_iconst (v := nI 1) hG dX12_held_97 (by decide) ?_
    refine pm_callV (As := [.int (nI 1)]) (rest := []) hG hR dX12_held_98 (lkX12_80 _ rfl) okV_X12_finds rfl rfl (m_finds (d := 1) (by decide) hn hz (by omega)) rfl rfl hdd (Nat.le_refl _) (Nat.le_refl _) (by decide) (pm_ki (fun v26 σ' cnt' hq => ?_))
    obtain ⟨⟨I27, A27, rfl⟩, rfl, fv26⟩ := hq
    exact pm_iret hG hF dX12_held_101 rfl (Nat.le_refl _) (Nat.le_refl _) ⟨_, rfl, ⟨_, _, rfl⟩, rfl⟩
  · refine pm_ifN_ne (tgt := 14) hG dX12_held_5 rfl (by omega) (fun q => absurd q (by omega)) (fun _ => ?_)
    refine pm_aloadn hG dX12_held_8 rfl ?_
    refine pm_iconst (v := nI 1) hG dX12_held_9 (by decide) ?_
    refine pm_callV (As := [.int (nI 1)]) (rest := []) hG hR dX12_held_10 (lkX12_80 _ rfl) okV_X12_finds rfl rfl (m_finds (d := 1) (by decide) hn hz (by omega)) rfl rfl hdd (Nat.le_refl _) (Nat.le_refl _) (by decide) (pm_ki (fun v28 σ' cnt' hq => ?_))
    obtain ⟨⟨I29, A29, rfl⟩, rfl, fv28⟩ := hq
    exact pm_iret hG hF dX12_held_13 rfl (Nat.le_refl _) (Nat.le_refl _) ⟨_, rfl, ⟨_, _, rfl⟩, rfl⟩

set_option maxRecDepth 100000 in
set_option maxHeartbeats 4000000 in
theorem m_image {d B cnt p0 t0 : Nat} {σ : pm_S} {I : Nat → Int32} {A : Nat → Nat → Int32} {n k z : Nat → Int32} {ac wt pl im : Int32} (hdd : 1 ≤ d) (hn : KI n) (hr : NR n) (hz : SZ z)  : pm_met mX12_image d 0 0 B [.ref (B + 54)] cnt (pm_mid σ (md_L B I A n k z ac wt pl (nI p0) (nI t0) im)) (pm_Qi (fun v σ' cnt' => (∃ (I' : Nat → Int32) (A' : Nat → Nat → Int32) (k' : Nat → Int32) (im' : Int32), σ' = pm_mid σ (md_L B I' A' n k' z ac wt pl (nI p0) (nI t0) im') ∧ KI k' ∧ NR k' ∧ (∀ j : Nat, j < 2071 → k' j = n j) ∧ v = im + nI 1 ∧ im' = im + nI 1) ∧ cnt = cnt')) := by
  refine pm_enter 1 (by decide) (Nat.le_of_ble_eq_true rfl) rfl (fun G hG hR hF => ?_)
  refine pm_iconst (v := nI 0) hG dX12_image_0 (by decide) ?_
  refine pm_istoreXn (loc' := [some (.ref (B + 54)), some (.int (nI 0))]) hG dX12_image_1 (by decide) (pm_c1b rfl) rfl ?_
  have loop2_1 : ∀ (m1 : Nat) (I1 : Nat → Int32) (A1 : Nat → Nat → Int32) (k_1 : Nat → Int32) (i1 : Nat), i1 ≤ 2071 → (∀ j : Nat, j < i1 → k_1 j = n j) → 2071 - i1 < m1 → pm_wp mX12_image G B 2 [some (.ref (B + 54)), some (.int (nI i1))] [] 0 0 cnt (pm_mid σ (md_L B I1 A1 n k_1 z ac wt pl (nI p0) (nI t0) im)) := by
    intro m1
    induction m1 with
    | zero => intro I1 A1 k_1 i1 _ _ hm; exact absurd hm (Nat.not_lt_zero _)
    | succ m1 ih1 =>
      intro I1 A1 k_1 i1 hi1 cpy1 hm1
      refine pm_iloadn hG dX12_image_2 rfl ?_
      refine pm_sipush (v := nI 2071) hG dX12_image_3 (by decide) ?_
      refine pm_icmpN_ge (tgt := 27) hG dX12_image_6 rfl (by omega) (by omega) (fun c2 => ?_) (fun c2 => ?_)
      · refine pm_aloadn hG dX12_image_27 rfl ?_
        refine pm_dup hG dX12_image_28 rfl ?_
        refine pm_getf hG dX12_image_29 (flX12_319 _ rfl) rfl rfl ?_
        refine pm_iconst (v := nI 1) hG dX12_image_32 (by decide) ?_
        refine pm_iadd hG dX12_image_33 ?_
        refine pm_putf hG dX12_image_34 (fwX12_319 _ rfl) rfl rfl rfl ?_
        refine mdn_images ?_
        refine pm_aloadn hG dX12_image_37 rfl ?_
        refine pm_getf hG dX12_image_38 (flX12_319 _ rfl) rfl rfl ?_
        exact pm_iret hG hF dX12_image_41 rfl (Nat.le_refl _) (Nat.le_refl _) ⟨_, rfl, ⟨_, _, _, _, rfl, KI.eqv cpy1 (by omega) hn, NR.eqv cpy1 (by omega) hr, ⟨fun j hj => cpy1 j (by omega), rfl, rfl⟩⟩, rfl⟩
      · refine pm_aloadn hG dX12_image_9 rfl ?_
        refine pm_getf hG dX12_image_10 (flX12_13 _ rfl) rfl rfl ?_
        refine pm_iloadn hG dX12_image_13 rfl ?_
        refine pm_aloadn hG dX12_image_14 rfl ?_
        refine pm_getf hG dX12_image_15 (flX12_7 _ rfl) rfl rfl ?_
        refine pm_iloadn hG dX12_image_18 rfl ?_
        refine pm_ialdN hG dX12_image_19 rfl (by decide) (by omega) ?_
        refine pm_gen (fun x3 ex3 => ?_)
        refine pm_iastN hG dX12_image_20 rfl (by decide) (by omega) ?_
        refine mdn_kept (fun k_4 ek_4 => ?_)
        have ck_4 := cpy_step cpy1 ek_4 ex3
        refine pm_iincX (v := nI (i1 + 1)) (loc' := [some (.ref (B + 54)), some (.int (nI (i1 + 1)))]) hG dX12_image_21 rfl (nI_1 _) (by decide) (pm_c1b rfl) rfl ?_
        refine pm_goto (tgt := 2) hG dX12_image_24 rfl ?_
        exact ih1 I1 A1 k_4 (i1 + 1) (by omega) ck_4 (by omega)
  exact loop2_1 _ I A k 0 (by omega) (fun _ h => absurd h (Nat.not_lt_zero _)) (Nat.lt_succ_self _)

set_option maxRecDepth 100000 in
set_option maxHeartbeats 4000000 in
theorem m_isParent {d B cnt p0 t0 : Nat} {σ : pm_S} {I : Nat → Int32} {A : Nat → Nat → Int32} {n k z : Nat → Int32} {ac wt pl im : Int32} {za zb zc : Int32} (hdd : 2 ≤ d) (hn : KI n) (hz : SZ z)  : pm_met mX12_isParent d 0 0 B [.ref (B + 54), .int za, .int zb, .int zc] cnt (pm_mid σ (md_L B I A n k z ac wt pl (nI p0) (nI t0) im)) (pm_Qi (fun v σ' cnt' => σ' = pm_mid σ (md_L B I A n k z ac wt pl (nI p0) (nI t0) im) ∧ cnt = cnt' ∧ ((v = nI 0 ∧ ¬ par (pN n) (n 2) za zb zc) ∨ (v = nI 1 ∧ par (pN n) (n 2) za zb zc ∧ (za = -1 ∨ ∃ j : Nat, j < 20 ∧ za = nI j))))) := by
  obtain ⟨kc2, hkc2, ekc2⟩ := KI.nat hn (show kd 2 = (1, 21, true) by decide)
  refine pm_enter 0 (by decide) (Nat.le_of_ble_eq_true rfl) rfl (fun G hG hR hF => ?_)
  refine pm_iloadn hG dX12_isParent_0 rfl ?_
  refine pm_iconst (v := (-1)) hG dX12_isParent_1 (by decide) ?_
  refine pm_icmp_eq (tgt := 33) hG dX12_isParent_2 rfl (fun c1 => ?_) (fun c1 => ?_)
  · refine pm_iconst (v := nI 1) hG dX12_isParent_33 (by decide) ?_
    refine pm_goto (tgt := 38) hG dX12_isParent_34 rfl ?_
    exact pm_zret hG hF dX12_isParent_38 rfl (pm_nz (Or.inr rfl)) (Nat.le_refl _) (Nat.le_refl _) ⟨_, rfl, rfl, rfl, Or.inr ⟨rfl, Or.inl c1, Or.inl c1⟩⟩
  · refine pm_aloadn hG dX12_isParent_5 rfl ?_
    refine pm_iloadn hG dX12_isParent_6 rfl ?_
    refine pm_callV (As := [.int za]) (rest := []) hG hR dX12_isParent_7 (lkX12_91 _ rfl) okV_X12_isPerson rfl rfl (m_isPerson (d := 1) (by decide) ekc2 (by omega)) rfl rfl hdd (Nat.le_refl _) (Nat.le_refl _) (by decide) (pm_ki (fun v2 σ' cnt' hq => ?_))
    obtain ⟨hq, rfl, rfl⟩ := hq
    rcases hq with ⟨rfl, k4, hk4, ek4⟩ | ⟨rfl, ntk4⟩
    · refine pm_ifN_eq (tgt := 37) hG dX12_isParent_10 rfl (by omega) (fun q => absurd q (by omega)) (fun _ => ?_)
      refine pm_aloadn hG dX12_isParent_13 rfl ?_
      refine pm_iloadn hG dX12_isParent_14 rfl ?_
      refine pm_top (v := nI k4) ek4 ?_
      refine pm_iconst (v := nI 0) hG dX12_isParent_15 (by decide) ?_
      refine pm_callV (As := [.int (nI k4), .int (nI 0)]) (rest := []) hG hR dX12_isParent_16 (lkX12_72 _ rfl) okV_X12_man rfl rfl (m_man (d := 1) (e := 14 * k4 + 110) (by omega) (by omega) (by omega)) rfl rfl hdd (Nat.le_refl _) (Nat.le_refl _) (by decide) (pm_ki (fun v5 σ' cnt' hq => ?_))
      obtain ⟨rfl, rfl, rfl⟩ := hq
      refine pm_gen (fun x6 ex6 => ?_)
      refine pm_iloadn hG dX12_isParent_19 rfl ?_
      refine pm_icmp_ne (tgt := 37) hG dX12_isParent_20 rfl (fun c7 => ?_) (fun c7 => ?_)
      · refine pm_iconst (v := nI 0) hG dX12_isParent_37 (by decide) ?_
        exact pm_zret hG hF dX12_isParent_38 rfl (pm_nz (Or.inl rfl)) (Nat.le_refl _) (Nat.le_refl _) ⟨_, rfl, rfl, rfl, Or.inl ⟨rfl, par_n1 c1 ek4 (by omega) ex6 c7⟩⟩
      · refine pm_aloadn hG dX12_isParent_23 rfl ?_
        refine pm_iloadn hG dX12_isParent_24 rfl ?_
        refine pm_top (v := nI k4) ek4 ?_
        refine pm_iconst (v := nI 1) hG dX12_isParent_25 (by decide) ?_
        refine pm_callV (As := [.int (nI k4), .int (nI 1)]) (rest := []) hG hR dX12_isParent_26 (lkX12_72 _ rfl) okV_X12_man rfl rfl (m_man (d := 1) (e := 14 * k4 + 111) (by omega) (by omega) (by omega)) rfl rfl hdd (Nat.le_refl _) (Nat.le_refl _) (by decide) (pm_ki (fun v8 σ' cnt' hq => ?_))
        obtain ⟨rfl, rfl, rfl⟩ := hq
        refine pm_gen (fun x9 ex9 => ?_)
        refine pm_iloadn hG dX12_isParent_29 rfl ?_
        refine pm_icmp_ge (tgt := 37) hG dX12_isParent_30 rfl (fun c10 => ?_) (fun c10 => ?_)
        · refine pm_iconst (v := nI 0) hG dX12_isParent_37 (by decide) ?_
          exact pm_zret hG hF dX12_isParent_38 rfl (pm_nz (Or.inl rfl)) (Nat.le_refl _) (Nat.le_refl _) ⟨_, rfl, rfl, rfl, Or.inl ⟨rfl, par_n2 c1 ek4 (by omega) ex9 (Int32.not_lt.mpr c10)⟩⟩
        · refine pm_iconst (v := nI 1) hG dX12_isParent_33 (by decide) ?_
          refine pm_goto (tgt := 38) hG dX12_isParent_34 rfl ?_
          exact pm_zret hG hF dX12_isParent_38 rfl (pm_nz (Or.inr rfl)) (Nat.le_refl _) (Nat.le_refl _) ⟨_, rfl, rfl, rfl, Or.inr ⟨rfl, par_y ek4 ekc2 (by omega) (by omega) ex6 c7 ex9 (Int32.not_le.mp c10), Or.inr ⟨k4, by omega, ek4⟩⟩⟩
    · refine pm_ifN_eq (tgt := 37) hG dX12_isParent_10 rfl (by omega) (fun _ => ?_) (fun q => absurd q (by omega))
      refine pm_iconst (v := nI 0) hG dX12_isParent_37 (by decide) ?_
      exact pm_zret hG hF dX12_isParent_38 rfl (pm_nz (Or.inl rfl)) (Nat.le_refl _) (Nat.le_refl _) ⟨_, rfl, rfl, rfl, Or.inl ⟨rfl, par_n0 ekc2 (by omega) c1 ntk4⟩⟩

set_option maxRecDepth 100000 in
set_option maxHeartbeats 4000000 in
theorem m_law {d B cnt p0 t0 : Nat} {σ : pm_S} {I : Nat → Int32} {A : Nat → Nat → Int32} {n k z : Nat → Int32} {ac wt pl im : Int32} {za zb : Int32} (hdd : 5 ≤ d) (hn : KI n) (hr : NR n) (hz : SZ z)  : pm_met mX12_law d 0 0 B [.ref (B + 54), .int za, .int zb] cnt (pm_mid σ (md_L B I A n k z ac wt pl (nI p0) (nI t0) im)) (pm_Qi (fun v σ' cnt' => (∃ (I' : Nat → Int32) (A' : Nat → Nat → Int32) (n' : Nat → Int32) (ac' : Int32) (wt' : Int32) (pl' : Int32), σ' = pm_mid σ (md_L B I' A' n' k z ac' wt' pl' (nI p0) (nI t0) im) ∧ KI n' ∧ NR n' ∧ n' 0 = n 0 ∧ n' 2 = n 2 ∧ n' 7 = n 7 ∧ n' 8 = n 8 ∧ KS n' n) ∧ cnt = cnt')) := by
  obtain ⟨kc0, hkc0, ekc0⟩ := KI.nat hn (show kd 0 = (1, 11, true) by decide)
  obtain ⟨kc2, hkc2, ekc2⟩ := KI.nat hn (show kd 2 = (1, 21, true) by decide)
  obtain ⟨kc7, hkc7, ekc7⟩ := KI.nat hn (show kd 7 = (1, 31, false) by decide)
  obtain ⟨kc8, hkc8, ekc8⟩ := KI.nat hn (show kd 8 = (1, 2001, false) by decide)
  refine pm_enter 4 (by decide) (Nat.le_of_ble_eq_true rfl) rfl (fun G hG hR hF => ?_)
  refine pm_iloadn hG dX12_law_0 rfl ?_
  refine pm_iconst (v := nI 0) hG dX12_law_1 (by decide) ?_
  refine pm_iconst (v := nI 4) hG dX12_law_2 (by decide) ?_
  refine pm_callS (As := [.int za, .int (nI 0), .int (nI 4)]) (rest := []) hG hR dX12_law_3 (lkX12_68 _ rfl) okS_X12_in (m_in (d := 4)) rfl rfl hdd (Nat.le_refl _) (Nat.le_refl _) (by decide) (pm_ki (fun v1 σ' cnt' hq => ?_))
  obtain ⟨hq, rfl, rfl⟩ := hq
  rcases hq with ⟨rfl, ac2, bc2⟩ | ⟨rfl, c2⟩
  · obtain ⟨k3, hk3, ek3⟩ := in_nat (by omega) (by omega) ac2 bc2
    refine pm_ifN_eq (tgt := 16) hG dX12_law_6 rfl (by omega) (fun q => absurd q (by omega)) (fun _ => ?_)
    refine pm_iloadn hG dX12_law_9 rfl ?_
    refine pm_callS (As := [.int zb]) (rest := []) hG hR dX12_law_10 (lkX12_186 _ rfl) okS_X12_isDay (m_isDay (d := 4) (by decide)) rfl rfl hdd (Nat.le_refl _) (Nat.le_refl _) (by decide) (pm_ki (fun v4 σ' cnt' hq => ?_))
    obtain ⟨hq, rfl, rfl⟩ := hq
    rcases hq with ⟨rfl, ac5, bc5⟩ | ⟨rfl, c5⟩
    · obtain ⟨k6, hk6, ek6⟩ := in_nat (by omega) (by omega) ac5 bc5
      refine pm_ifN_ne (tgt := 22) hG dX12_law_13 rfl (by omega) (fun _ => ?_) (fun q => absurd q (by omega))
      refine pm_aloadn hG dX12_law_22 rfl ?_
      refine pm_getf hG dX12_law_23 (flX12_7 _ rfl) rfl rfl ?_
      refine pm_iconst (v := nI 4) hG dX12_law_26 (by decide) ?_
      refine pm_ialdN hG dX12_law_27 rfl (by decide) (by omega) ?_
      obtain ⟨k7, hk7, ek7⟩ := KI.nat hn (show kd 4 = (1, 13, false) by decide)
      refine pm_top (v := nI k7) ek7 ?_
      refine pm_istoreXn (loc' := [some (.ref (B + 54)), some (.int za), some (.int zb), some (.int (nI k7)), none, none, none]) hG dX12_law_28 (by decide) (pm_c1b rfl) rfl ?_
      refine pm_iloadn hG dX12_law_29 rfl ?_
      refine pm_bipush (v := nI 12) hG dX12_law_30 (by decide) ?_
      refine pm_icmpN_ne (tgt := 41) hG dX12_law_32 rfl (by omega) (by omega) (fun c8 => ?_) (fun c8 => ?_)
      · refine pm_aloadn hG dX12_law_41 rfl ?_
        obtain ⟨k9, hk9, ek9⟩ := KI.nat hn (show kd 10 = (1, 61, false) by decide)
        refine pm_callV (As := []) (rest := []) hG hR dX12_law_42 (lkX12_189 _ rfl) okV_X12_reads rfl rfl (m_reads (d := 4) (by decide) hn ek9 (by omega)) rfl rfl hdd (Nat.le_refl _) (Nat.le_refl _) (by decide) (pm_ki (fun v10 σ' cnt' hq => ?_))
        obtain ⟨A_11, a_11, w_11, p_11, rfl, b_11, rfl, hq⟩ := hq
        rcases hq with rfl | ⟨rfl, D11, hD11⟩
        · refine pm_istoreXi (loc' := [some (.ref (B + 54)), some (.int za), some (.int zb), some (.int (nI k7)), some (.int (nI 0)), none, none]) hG dX12_law_45 (by decide) (pm_c1b rfl) rfl ?_
          refine pm_aloadn hG dX12_law_47 rfl ?_
          refine pm_getf hG dX12_law_48 (flX12_7 _ rfl) rfl rfl ?_
          refine pm_bipush (v := nI 10) hG dX12_law_51 (by decide) ?_
          refine pm_iconst (v := nI 0) hG dX12_law_53 (by decide) ?_
          refine pm_iastN hG dX12_law_54 rfl (by decide) (by omega) ?_
          refine mdn_now (fun n_12 en_12 => ?_)
          have hnn_12 := KI.w en_12 hn (okv_n (show kd 10 = (1, 61, false) by decide) (by omega))
          have hrn_12 := NRx.w en_12 hr (by rw [(show kd 10 = (1, 61, false) by decide)])
          have ksn_12 := KS.w en_12 KS.rf (by unfold tS; omega)
          have e13 : n_12 0 = nI kc0 := by rw [en_12, pk_un (by omega)]; exact ekc0
          have e14 : n_12 2 = nI kc2 := by rw [en_12, pk_un (by omega)]; exact ekc2
          have e15 : n_12 7 = nI kc7 := by rw [en_12, pk_un (by omega)]; exact ekc7
          have e16 : n_12 8 = nI kc8 := by rw [en_12, pk_un (by omega)]; exact ekc8
          have e17 : n_12 4 = nI k7 := by rw [en_12, pk_un (by omega)]; exact ek7
          have e18 : n_12 10 = nI 0 := by rw [en_12, pk_us]
          refine pm_iloadi hG dX12_law_55 rfl ?_
          refine pm_ifN_ne (tgt := 68) hG dX12_law_57 rfl (by omega) (fun q => absurd q (by omega)) (fun _ => ?_)
          refine pm_bipush (v := (-10)) hG dX12_law_60 (by decide) ?_
          refine pm_aloadn hG dX12_law_62 rfl ?_
          refine pm_getf hG dX12_law_63 (flX12_157 _ rfl) rfl rfl ?_
          refine pm_isub hG dX12_law_66 ?_
          exact pm_iret hG hF dX12_law_67 rfl (Nat.le_refl _) (Nat.le_refl _) ⟨_, rfl, ⟨_, _, _, _, _, _, rfl, hnn_12, hrn_12, e13.trans ekc0.symm, e14.trans ekc2.symm, e15.trans ekc7.symm, e16.trans ekc8.symm, ksn_12⟩, rfl⟩
        · refine pm_istoreXi (loc' := [some (.ref (B + 54)), some (.int za), some (.int zb), some (.int (nI k7)), some (.int (nI 1)), none, none]) hG dX12_law_45 (by decide) (pm_c1b rfl) rfl ?_
          refine pm_aloadn hG dX12_law_47 rfl ?_
          refine pm_getf hG dX12_law_48 (flX12_7 _ rfl) rfl rfl ?_
          refine pm_bipush (v := nI 10) hG dX12_law_51 (by decide) ?_
          refine pm_iconst (v := nI 0) hG dX12_law_53 (by decide) ?_
          refine pm_iastN hG dX12_law_54 rfl (by decide) (by omega) ?_
          refine mdn_now (fun n_19 en_19 => ?_)
          have hnn_19 := KI.w en_19 hn (okv_n (show kd 10 = (1, 61, false) by decide) (by omega))
          have hrn_19 := NRx.w en_19 hr (by rw [(show kd 10 = (1, 61, false) by decide)])
          have ksn_19 := KS.w en_19 KS.rf (by unfold tS; omega)
          have e20 : n_19 0 = nI kc0 := by rw [en_19, pk_un (by omega)]; exact ekc0
          have e21 : n_19 2 = nI kc2 := by rw [en_19, pk_un (by omega)]; exact ekc2
          have e22 : n_19 7 = nI kc7 := by rw [en_19, pk_un (by omega)]; exact ekc7
          have e23 : n_19 8 = nI kc8 := by rw [en_19, pk_un (by omega)]; exact ekc8
          have e24 : n_19 4 = nI k7 := by rw [en_19, pk_un (by omega)]; exact ek7
          have e25 : n_19 10 = nI 0 := by rw [en_19, pk_us]
          refine pm_iloadi hG dX12_law_55 rfl ?_
          refine pm_ifN_ne (tgt := 68) hG dX12_law_57 rfl (by omega) (fun _ => ?_) (fun q => absurd q (by omega))
          refine pm_sipush (v := nI 510) hG dX12_law_68 (by decide) ?_
          refine pm_bipush (v := nI 65) hG dX12_law_71 (by decide) ?_
          refine pm_iloadn hG dX12_law_73 rfl ?_
          refine pm_imulN (c := 65 * k7) hG dX12_law_74 (by omega) ?_
          refine pm_iaddN (c := 65 * k7 + 510) hG dX12_law_75 (by omega) ?_
          refine pm_istoreXi (loc' := [some (.ref (B + 54)), some (.int za), some (.int zb), some (.int (nI k7)), some (.int (nI 1)), some (.int (nI (65 * k7 + 510))), none]) hG dX12_law_76 (by decide) (pm_c1b rfl) rfl ?_
          refine pm_aloadn hG dX12_law_78 rfl ?_
          refine pm_getf hG dX12_law_79 (flX12_7 _ rfl) rfl rfl ?_
          refine pm_iconst (v := nI 4) hG dX12_law_82 (by decide) ?_
          refine pm_dup2 hG dX12_law_83 rfl rfl ?_
          refine pm_ialdN hG dX12_law_84 rfl (by decide) (by omega) ?_
          refine pm_top (v := nI k7) e24 ?_
          refine pm_iconst (v := nI 1) hG dX12_law_85 (by decide) ?_
          refine pm_iaddN (c := k7 + 1) hG dX12_law_86 (by omega) ?_
          refine pm_iastN hG dX12_law_87 rfl (by decide) (by omega) ?_
          refine mdn_now (fun n_26 en_26 => ?_)
          have hnn_26 := KI.w en_26 hnn_19 (okv_n (show kd 4 = (1, 13, false) by decide) (by omega))
          have hrn_26 := NRx.w en_26 hrn_19 (by rw [(show kd 4 = (1, 13, false) by decide)])
          have ksn_26 := KS.w en_26 ksn_19 (by unfold tS; omega)
          have e27 : n_26 0 = nI kc0 := by rw [en_26, pk_un (by omega)]; exact e20
          have e28 : n_26 2 = nI kc2 := by rw [en_26, pk_un (by omega)]; exact e21
          have e29 : n_26 7 = nI kc7 := by rw [en_26, pk_un (by omega)]; exact e22
          have e30 : n_26 8 = nI kc8 := by rw [en_26, pk_un (by omega)]; exact e23
          have e31 : n_26 10 = nI 0 := by rw [en_26, pk_un (by omega)]; exact e25
          have e32 : n_26 4 = nI (k7 + 1) := by rw [en_26, pk_us]
          refine pm_aloadn hG dX12_law_88 rfl ?_
          refine pm_getf hG dX12_law_89 (flX12_7 _ rfl) rfl rfl ?_
          refine pm_iloadi hG dX12_law_92 rfl ?_
          refine pm_iloadn hG dX12_law_94 rfl ?_
          refine pm_top (v := nI k3) ek3 ?_
          refine pm_iastN hG dX12_law_95 rfl (by decide) (by omega) ?_
          refine mdn_now (fun n_33 en_33 => ?_)
          have hnn_33 := KI.w en_33 hnn_26 (okv_f (show kd (65 * k7 + 510) = (0, 0, false) from (kd_L (k := k7) (c := 0) (by omega) (by omega) (by decide))))
          have hrn_33 := NRx.w en_33 hrn_26 (by rw [(show kd (65 * k7 + 510) = (0, 0, false) from (kd_L (k := k7) (c := 0) (by omega) (by omega) (by decide)))])
          have ksn_33 := KS.w en_33 ksn_26 (by unfold tS; omega)
          have e34 : n_33 0 = nI kc0 := by rw [en_33, pk_un (by omega)]; exact e27
          have e35 : n_33 2 = nI kc2 := by rw [en_33, pk_un (by omega)]; exact e28
          have e36 : n_33 7 = nI kc7 := by rw [en_33, pk_un (by omega)]; exact e29
          have e37 : n_33 8 = nI kc8 := by rw [en_33, pk_un (by omega)]; exact e30
          have e38 : n_33 10 = nI 0 := by rw [en_33, pk_un (by omega)]; exact e31
          have e39 : n_33 4 = nI (k7 + 1) := by rw [en_33, pk_un (by omega)]; exact e32
          have e40 : n_33 (65 * k7 + 510) = nI k3 := by rw [en_33, pk_us]
          refine pm_aloadn hG dX12_law_96 rfl ?_
          refine pm_getf hG dX12_law_97 (flX12_7 _ rfl) rfl rfl ?_
          refine pm_iloadi hG dX12_law_100 rfl ?_
          refine pm_iconst (v := nI 1) hG dX12_law_102 (by decide) ?_
          refine pm_iaddN (c := 65 * k7 + 511) hG dX12_law_103 (by omega) ?_
          refine pm_iloadn hG dX12_law_104 rfl ?_
          refine pm_top (v := nI k6) ek6 ?_
          refine pm_iastN hG dX12_law_105 rfl (by decide) (by omega) ?_
          refine mdn_now (fun n_41 en_41 => ?_)
          have hnn_41 := KI.w en_41 hnn_33 (okv_f (show kd (65 * k7 + 511) = (0, 0, false) from (kd_L (k := k7) (c := 1) (by omega) (by omega) (by decide))))
          have hrn_41 := NRx.w en_41 hrn_33 (by rw [(show kd (65 * k7 + 511) = (0, 0, false) from (kd_L (k := k7) (c := 1) (by omega) (by omega) (by decide)))])
          have ksn_41 := KS.w en_41 ksn_33 (by unfold tS; omega)
          have e42 : n_41 0 = nI kc0 := by rw [en_41, pk_un (by omega)]; exact e34
          have e43 : n_41 2 = nI kc2 := by rw [en_41, pk_un (by omega)]; exact e35
          have e44 : n_41 7 = nI kc7 := by rw [en_41, pk_un (by omega)]; exact e36
          have e45 : n_41 8 = nI kc8 := by rw [en_41, pk_un (by omega)]; exact e37
          have e46 : n_41 10 = nI 0 := by rw [en_41, pk_un (by omega)]; exact e38
          have e47 : n_41 4 = nI (k7 + 1) := by rw [en_41, pk_un (by omega)]; exact e39
          have e48 : n_41 (65 * k7 + 511) = nI k6 := by rw [en_41, pk_us]
          refine pm_aloadn hG dX12_law_106 rfl ?_
          refine pm_getf hG dX12_law_107 (flX12_7 _ rfl) rfl rfl ?_
          refine pm_iloadi hG dX12_law_110 rfl ?_
          refine pm_iconst (v := nI 2) hG dX12_law_112 (by decide) ?_
          refine pm_iaddN (c := 65 * k7 + 512) hG dX12_law_113 (by omega) ?_
          refine pm_aloadn hG dX12_law_114 rfl ?_
          refine pm_getf hG dX12_law_115 (flX12_7 _ rfl) rfl rfl ?_
          refine pm_bipush (v := nI 8) hG dX12_law_118 (by decide) ?_
          refine pm_ialdN hG dX12_law_120 rfl (by decide) (by omega) ?_
          refine pm_top (v := nI kc8) e45 ?_
          refine pm_iastN hG dX12_law_121 rfl (by decide) (by omega) ?_
          refine mdn_now (fun n_49 en_49 => ?_)
          have hnn_49 := KI.w en_49 hnn_41 (okv_f (show kd (65 * k7 + 512) = (0, 0, false) from (kd_L (k := k7) (c := 2) (by omega) (by omega) (by decide))))
          have hrn_49 := NRx.w en_49 hrn_41 (by rw [(show kd (65 * k7 + 512) = (0, 0, false) from (kd_L (k := k7) (c := 2) (by omega) (by omega) (by decide)))])
          have ksn_49 := KS.w en_49 ksn_41 (by unfold tS; omega)
          have e50 : n_49 0 = nI kc0 := by rw [en_49, pk_un (by omega)]; exact e42
          have e51 : n_49 2 = nI kc2 := by rw [en_49, pk_un (by omega)]; exact e43
          have e52 : n_49 7 = nI kc7 := by rw [en_49, pk_un (by omega)]; exact e44
          have e53 : n_49 8 = nI kc8 := by rw [en_49, pk_un (by omega)]; exact e45
          have e54 : n_49 10 = nI 0 := by rw [en_49, pk_un (by omega)]; exact e46
          have e55 : n_49 4 = nI (k7 + 1) := by rw [en_49, pk_un (by omega)]; exact e47
          have e56 : n_49 (65 * k7 + 512) = nI kc8 := by rw [en_49, pk_us]
          refine pm_aloadn hG dX12_law_122 rfl ?_
          refine pm_getf hG dX12_law_123 (flX12_7 _ rfl) rfl rfl ?_
          refine pm_iloadi hG dX12_law_126 rfl ?_
          refine pm_iconst (v := nI 3) hG dX12_law_128 (by decide) ?_
          refine pm_iaddN (c := 65 * k7 + 513) hG dX12_law_129 (by omega) ?_
          refine pm_iconst (v := (-1)) hG dX12_law_130 (by decide) ?_
          refine pm_iastN hG dX12_law_131 rfl (by decide) (by omega) ?_
          refine mdn_now (fun n_57 en_57 => ?_)
          have hnn_57 := KI.w en_57 hnn_49 (okv_f (show kd (65 * k7 + 513) = (0, 0, false) from (kd_L (k := k7) (c := 3) (by omega) (by omega) (by decide))))
          have hrn_57 := NRx.w en_57 hrn_49 (by rw [(show kd (65 * k7 + 513) = (0, 0, false) from (kd_L (k := k7) (c := 3) (by omega) (by omega) (by decide)))])
          have ksn_57 := KS.w en_57 ksn_49 (by unfold tS; omega)
          have e58 : n_57 0 = nI kc0 := by rw [en_57, pk_un (by omega)]; exact e50
          have e59 : n_57 2 = nI kc2 := by rw [en_57, pk_un (by omega)]; exact e51
          have e60 : n_57 7 = nI kc7 := by rw [en_57, pk_un (by omega)]; exact e52
          have e61 : n_57 8 = nI kc8 := by rw [en_57, pk_un (by omega)]; exact e53
          have e62 : n_57 10 = nI 0 := by rw [en_57, pk_un (by omega)]; exact e54
          have e63 : n_57 4 = nI (k7 + 1) := by rw [en_57, pk_un (by omega)]; exact e55
          have e64 : n_57 (65 * k7 + 513) = (-1) := by rw [en_57, pk_us]
          refine pm_aloadn hG dX12_law_132 rfl ?_
          refine pm_getf hG dX12_law_133 (flX12_7 _ rfl) rfl rfl ?_
          refine pm_iloadi hG dX12_law_136 rfl ?_
          refine pm_iconst (v := nI 4) hG dX12_law_138 (by decide) ?_
          refine pm_iaddN (c := 65 * k7 + 514) hG dX12_law_139 (by omega) ?_
          refine pm_aloadn hG dX12_law_140 rfl ?_
          refine pm_getf hG dX12_law_141 (flX12_144 _ rfl) rfl rfl ?_
          refine pm_iastN hG dX12_law_144 rfl (by decide) (by omega) ?_
          refine mdn_now (fun n_65 en_65 => ?_)
          have hnn_65 := KI.w en_65 hnn_57 (okv_n (show kd (65 * k7 + 514) = (1, 61, true) from (kd_L (k := k7) (c := 4) (by omega) (by omega) (by decide))) (by omega))
          have hrn_65 := NRL.w (l := k7) en_65 (NRL.of k7 hrn_57) (by omega)
          have lcn_65 : n_65 (65 * k7 + 514) = nI a_11 := by rw [en_65, pk_us]
          have ksn_65 := KS.w en_65 ksn_57 (by unfold tS; omega)
          have e66 : n_65 0 = nI kc0 := by rw [en_65, pk_un (by omega)]; exact e58
          have e67 : n_65 2 = nI kc2 := by rw [en_65, pk_un (by omega)]; exact e59
          have e68 : n_65 7 = nI kc7 := by rw [en_65, pk_un (by omega)]; exact e60
          have e69 : n_65 8 = nI kc8 := by rw [en_65, pk_un (by omega)]; exact e61
          have e70 : n_65 10 = nI 0 := by rw [en_65, pk_un (by omega)]; exact e62
          have e71 : n_65 4 = nI (k7 + 1) := by rw [en_65, pk_un (by omega)]; exact e63
          have e72 : n_65 (65 * k7 + 514) = nI a_11 := by rw [en_65, pk_us]
          refine pm_iconst (v := nI 0) hG dX12_law_145 (by decide) ?_
          refine pm_istoreXi (loc' := [some (.ref (B + 54)), some (.int za), some (.int zb), some (.int (nI k7)), some (.int (nI 1)), some (.int (nI (65 * k7 + 510))), some (.int (nI 0))]) hG dX12_law_146 (by decide) (pm_c1b rfl) rfl ?_
          have loop148_73 : ∀ (m73 : Nat) (n_73 : Nat → Int32) (i73 : Nat), n_73 0 = nI kc0 → n_73 2 = nI kc2 → n_73 7 = nI kc7 → n_73 8 = nI kc8 → i73 ≤ 60 → KI n_73 → NRL k7 n_73 → n_73 (65 * k7 + 514) = nI a_11 → (∀ j : Nat, j < i73 → n_73 (65 * k7 + 515 + j) = A_11 60 j) → KS n_73 n → 60 - i73 < m73 → pm_wp mX12_law G B 148 [some (.ref (B + 54)), some (.int za), some (.int zb), some (.int (nI k7)), some (.int (nI 1)), some (.int (nI (65 * k7 + 510))), some (.int (nI i73))] [] 0 0 cnt (pm_mid σ (md_L B I A_11 n_73 k z (nI a_11) (nI w_11) (nI p_11) (nI p0) (nI t0) im)) := by
            intro m73
            induction m73 with
            | zero => intro n_73 i73 _ _ _ _ _ _ _ _ _ _ hm; exact absurd hm (Nat.not_lt_zero _)
            | succ m73 ih73 =>
              intro n_73 i73 kc73_0 kc73_2 kc73_7 kc73_8 hi73 hn73 hr73 lc73 lcp73 ks73 hm73
              refine pm_iloadi hG dX12_law_148 rfl ?_
              refine pm_aloadn hG dX12_law_150 rfl ?_
              refine pm_getf hG dX12_law_151 (flX12_144 _ rfl) rfl rfl ?_
              refine pm_icmpN_ge (tgt := 182) hG dX12_law_154 rfl (by omega) (by omega) (fun c74 => ?_) (fun c74 => ?_)
              · refine pm_iloadn hG dX12_law_182 rfl ?_
                exact pm_iret hG hF dX12_law_183 rfl (Nat.le_refl _) (Nat.le_refl _) ⟨_, rfl, ⟨_, _, _, _, _, _, rfl, hn73, (NRL.cl hr73 lc73 (by omega) (fun j hj => lcp73 j (by omega)) hD11), kc73_0.trans ekc0.symm, kc73_2.trans ekc2.symm, kc73_7.trans ekc7.symm, kc73_8.trans ekc8.symm, ks73⟩, rfl⟩
              · refine pm_aloadn hG dX12_law_157 rfl ?_
                refine pm_getf hG dX12_law_158 (flX12_7 _ rfl) rfl rfl ?_
                refine pm_iloadi hG dX12_law_161 rfl ?_
                refine pm_iconst (v := nI 5) hG dX12_law_163 (by decide) ?_
                refine pm_iaddN (c := 65 * k7 + 515) hG dX12_law_164 (by omega) ?_
                refine pm_iloadi hG dX12_law_165 rfl ?_
                refine pm_iaddN (c := i73 + 65 * k7 + 515) hG dX12_law_167 (by omega) ?_
                refine pm_aloadn hG dX12_law_168 rfl ?_
                refine pm_getf hG dX12_law_169 (flX12_25 _ rfl) rfl rfl ?_
                refine pm_iloadi hG dX12_law_172 rfl ?_
                refine pm_ialdN hG dX12_law_174 rfl (by decide) (by omega) ?_
                refine pm_gen (fun x75 ex75 => ?_)
                refine pm_iastN hG dX12_law_175 rfl (by decide) (by omega) ?_
                refine mdn_now (fun n_76 en_76 => ?_)
                have hnn_76 := KI.w en_76 hn73 (okv_f (show kd (i73 + 65 * k7 + 515) = (0, 0, true) from (kd_Lc (k := k7) (c := i73 + 5) (by omega) (by omega) (by omega) (by omega))))
                have hrn_76 := NRL.w (l := k7) en_76 hr73 (by omega)
                have lcn_76 : n_76 (65 * k7 + 514) = nI a_11 := by rw [en_76, pk_un (by omega)]; exact lc73
                have cpn_76 := cpyL (b := 65 * k7 + 515) lcp73 en_76 (by omega) ex75
                have ksn_76 := KS.w en_76 ks73 (by unfold tS; omega)
                have e77 : n_76 0 = nI kc0 := by rw [en_76, pk_un (by omega)]; exact kc73_0
                have e78 : n_76 2 = nI kc2 := by rw [en_76, pk_un (by omega)]; exact kc73_2
                have e79 : n_76 7 = nI kc7 := by rw [en_76, pk_un (by omega)]; exact kc73_7
                have e80 : n_76 8 = nI kc8 := by rw [en_76, pk_un (by omega)]; exact kc73_8
                have e81 : n_76 (i73 + 65 * k7 + 515) = x75 := by rw [en_76, pk_us]
                refine pm_iincX (v := nI (i73 + 1)) (loc' := [some (.ref (B + 54)), some (.int za), some (.int zb), some (.int (nI k7)), some (.int (nI 1)), some (.int (nI (65 * k7 + 510))), some (.int (nI (i73 + 1)))]) hG dX12_law_176 rfl (nI_1 _) (by decide) (pm_c1b rfl) rfl ?_
                refine pm_goto (tgt := 148) hG dX12_law_179 rfl ?_
                exact ih73 n_76 (i73 + 1) (e77.trans (congrArg nI (by omega))) (e78.trans (congrArg nI (by omega))) (e79.trans (congrArg nI (by omega))) (e80.trans (congrArg nI (by omega))) (by omega) hnn_76 hrn_76 lcn_76 cpn_76 ksn_76 (by omega)
          exact loop148_73 _ n_65 0 (e66.trans (congrArg nI (by omega))) (e67.trans (congrArg nI (by omega))) (e68.trans (congrArg nI (by omega))) (e69.trans (congrArg nI (by omega))) (by omega) hnn_65 hrn_65 lcn_65 (fun _ h => absurd h (Nat.not_lt_zero _)) ksn_65 (Nat.lt_succ_self _)
      · refine pm_aloadn hG dX12_law_35 rfl ?_
        refine pm_iconst (v := nI 4) hG dX12_law_36 (by decide) ?_
        refine pm_callV (As := [.int (nI 4)]) (rest := []) hG hR dX12_law_37 (lkX12_80 _ rfl) okV_X12_finds rfl rfl (m_finds (d := 4) (by decide) hn hz (by omega)) rfl rfl hdd (Nat.le_refl _) (Nat.le_refl _) (by decide) (pm_ki (fun v82 σ' cnt' hq => ?_))
        obtain ⟨⟨I83, A83, rfl⟩, rfl, fv82⟩ := hq
        exact pm_iret hG hF dX12_law_40 rfl (Nat.le_refl _) (Nat.le_refl _) ⟨_, rfl, ⟨_, _, _, _, _, _, rfl, hn, hr, ekc0.trans ekc0.symm, ekc2.trans ekc2.symm, ekc7.trans ekc7.symm, ekc8.trans ekc8.symm, KS.rf⟩, rfl⟩
    · refine pm_ifN_ne (tgt := 22) hG dX12_law_13 rfl (by omega) (fun q => absurd q (by omega)) (fun _ => ?_)
      refine pm_aloadn hG dX12_law_16 rfl ?_
      refine pm_iconst (v := nI 1) hG dX12_law_17 (by decide) ?_
      refine pm_callV (As := [.int (nI 1)]) (rest := []) hG hR dX12_law_18 (lkX12_80 _ rfl) okV_X12_finds rfl rfl (m_finds (d := 4) (by decide) hn hz (by omega)) rfl rfl hdd (Nat.le_refl _) (Nat.le_refl _) (by decide) (pm_ki (fun v84 σ' cnt' hq => ?_))
      obtain ⟨⟨I85, A85, rfl⟩, rfl, fv84⟩ := hq
      exact pm_iret hG hF dX12_law_21 rfl (Nat.le_refl _) (Nat.le_refl _) ⟨_, rfl, ⟨_, _, _, _, _, _, rfl, hn, hr, ekc0.trans ekc0.symm, ekc2.trans ekc2.symm, ekc7.trans ekc7.symm, ekc8.trans ekc8.symm, KS.rf⟩, rfl⟩
  · refine pm_ifN_eq (tgt := 16) hG dX12_law_6 rfl (by omega) (fun _ => ?_) (fun q => absurd q (by omega))
    refine pm_aloadn hG dX12_law_16 rfl ?_
    refine pm_iconst (v := nI 1) hG dX12_law_17 (by decide) ?_
    refine pm_callV (As := [.int (nI 1)]) (rest := []) hG hR dX12_law_18 (lkX12_80 _ rfl) okV_X12_finds rfl rfl (m_finds (d := 4) (by decide) hn hz (by omega)) rfl rfl hdd (Nat.le_refl _) (Nat.le_refl _) (by decide) (pm_ki (fun v86 σ' cnt' hq => ?_))
    obtain ⟨⟨I87, A87, rfl⟩, rfl, fv86⟩ := hq
    exact pm_iret hG hF dX12_law_21 rfl (Nat.le_refl _) (Nat.le_refl _) ⟨_, rfl, ⟨_, _, _, _, _, _, rfl, hn, hr, ekc0.trans ekc0.symm, ekc2.trans ekc2.symm, ekc7.trans ekc7.symm, ekc8.trans ekc8.symm, KS.rf⟩, rfl⟩

set_option maxRecDepth 100000 in
set_option maxHeartbeats 4000000 in
theorem m_lend {d B cnt p0 t0 : Nat} {σ : pm_S} {I : Nat → Int32} {A : Nat → Nat → Int32} {n k z : Nat → Int32} {ac wt pl im : Int32} {za zb zc : Int32} (hdd : 2 ≤ d) (hn : KI n) (hr : NR n) (hz : SZ z)  : pm_met mX12_lend d 0 0 B [.ref (B + 54), .int za, .int zb, .int zc] cnt (pm_mid σ (md_L B I A n k z ac wt pl (nI p0) (nI t0) im)) (pm_Qi (fun v σ' cnt' => (∃ (I' : Nat → Int32) (A' : Nat → Nat → Int32) (n' : Nat → Int32), σ' = pm_mid σ (md_L B I' A' n' k z ac wt pl (nI p0) (nI t0) im) ∧ KI n' ∧ NR n' ∧ n' 0 = n 0 ∧ n' 2 = n 2 ∧ n' 7 = n 7 ∧ n' 8 = n 8 ∧ KS n' n) ∧ cnt = cnt')) := by
  obtain ⟨kc0, hkc0, ekc0⟩ := KI.nat hn (show kd 0 = (1, 11, true) by decide)
  obtain ⟨kc2, hkc2, ekc2⟩ := KI.nat hn (show kd 2 = (1, 21, true) by decide)
  obtain ⟨kc7, hkc7, ekc7⟩ := KI.nat hn (show kd 7 = (1, 31, false) by decide)
  obtain ⟨kc8, hkc8, ekc8⟩ := KI.nat hn (show kd 8 = (1, 2001, false) by decide)
  refine pm_enter 0 (by decide) (Nat.le_of_ble_eq_true rfl) rfl (fun G hG hR hF => ?_)
  refine pm_aloadn hG dX12_lend_0 rfl ?_
  refine pm_iloadn hG dX12_lend_1 rfl ?_
  obtain ⟨k1, hk1, ek1⟩ := KI.nat hn (show kd 3 = (1, 21, false) by decide)
  refine pm_callV (As := [.int za]) (rest := []) hG hR dX12_lend_2 (lkX12_132 _ rfl) okV_X12_isPower rfl rfl (m_isPower (d := 1) (by decide) ek1 (by omega)) rfl rfl hdd (Nat.le_refl _) (Nat.le_refl _) (by decide) (pm_ki (fun v2 σ' cnt' hq => ?_))
  obtain ⟨hq, rfl, rfl⟩ := hq
  rcases hq with ⟨rfl, k4, hk4, ek4⟩ | rfl
  · refine pm_ifN_eq (tgt := 41) hG dX12_lend_5 rfl (by omega) (fun q => absurd q (by omega)) (fun _ => ?_)
    refine pm_aloadn hG dX12_lend_8 rfl ?_
    refine pm_iloadn hG dX12_lend_9 rfl ?_
    refine pm_callV (As := [.int zb]) (rest := []) hG hR dX12_lend_10 (lkX12_91 _ rfl) okV_X12_isPerson rfl rfl (m_isPerson (d := 1) (by decide) ekc2 (by omega)) rfl rfl hdd (Nat.le_refl _) (Nat.le_refl _) (by decide) (pm_ki (fun v5 σ' cnt' hq => ?_))
    obtain ⟨hq, rfl, rfl⟩ := hq
    rcases hq with ⟨rfl, k7, hk7, ek7⟩ | ⟨rfl, ntk7⟩
    · refine pm_ifN_eq (tgt := 41) hG dX12_lend_13 rfl (by omega) (fun q => absurd q (by omega)) (fun _ => ?_)
      refine pm_aloadn hG dX12_lend_16 rfl ?_
      refine pm_iloadn hG dX12_lend_17 rfl ?_
      refine pm_top (v := nI k7) ek7 ?_
      rcases KI.opt hn (show kd (14 * k7 + 119) = (2, 2001, false) from (kd_P (k := k7) (c := 9) (by omega) (by omega) (by decide))) with ek8 | ⟨k8, hk8, ek8⟩
      · refine pm_callV (As := [.int (nI k7)]) (rest := []) hG hR dX12_lend_18 (lkX12_101 _ rfl) okV_X12_lives rfl rfl (m_lives1 (d := 1) (by decide) (by omega) (by omega : 14 * k7 + 119 = 14 * k7 + 119) ek8) rfl rfl hdd (Nat.le_refl _) (Nat.le_refl _) (by decide) (pm_ki (fun v9 σ' cnt' hq => ?_))
        obtain ⟨rfl, rfl, rfl⟩ := hq
        refine pm_ifN_eq (tgt := 41) hG dX12_lend_21 rfl (by omega) (fun q => absurd q (by omega)) (fun _ => ?_)
        refine pm_iloadn hG dX12_lend_24 rfl ?_
        refine pm_aloadn hG dX12_lend_25 rfl ?_
        refine pm_getf hG dX12_lend_26 (flX12_7 _ rfl) rfl rfl ?_
        refine pm_bipush (v := nI 8) hG dX12_lend_29 (by decide) ?_
        refine pm_ialdN hG dX12_lend_31 rfl (by decide) (by omega) ?_
        refine pm_top (v := nI kc8) ekc8 ?_
        refine pm_sipush (v := nI 2000) hG dX12_lend_32 (by decide) ?_
        refine pm_callS (As := [.int zc, .int (nI kc8), .int (nI 2000)]) (rest := []) hG hR dX12_lend_35 (lkX12_68 _ rfl) okS_X12_in (m_in (d := 1)) rfl rfl hdd (Nat.le_refl _) (Nat.le_refl _) (by decide) (pm_ki (fun v10 σ' cnt' hq => ?_))
        obtain ⟨hq, rfl, rfl⟩ := hq
        rcases hq with ⟨rfl, ac11, bc11⟩ | ⟨rfl, c11⟩
        · obtain ⟨k12, hk12, ek12⟩ := in_nat (by omega) (by omega) ac11 bc11
          refine pm_ifN_ne (tgt := 47) hG dX12_lend_38 rfl (by omega) (fun _ => ?_) (fun q => absurd q (by omega))
          refine pm_aloadn hG dX12_lend_47 rfl ?_
          refine pm_iloadn hG dX12_lend_48 rfl ?_
          refine pm_top (v := nI k4) ek4 ?_
          refine pm_iconst (v := nI 0) hG dX12_lend_49 (by decide) ?_
          refine pm_callV (As := [.int (nI k4), .int (nI 0)]) (rest := []) hG hR dX12_lend_50 (lkX12_110 _ rfl) okV_X12_its rfl rfl (m_its (d := 1) (e := 6 * k4 + 390) (by omega) (by omega) (by omega)) rfl rfl hdd (Nat.le_refl _) (Nat.le_refl _) (by decide) (pm_ki (fun v13 σ' cnt' hq => ?_))
          obtain ⟨rfl, rfl, rfl⟩ := hq
          refine pm_gen (fun x14 ex14 => ?_)
          refine pm_iconst (v := nI 2) hG dX12_lend_53 (by decide) ?_
          refine pm_icmp_eq (tgt := 63) hG dX12_lend_54 rfl (fun c15 => ?_) (fun c15 => ?_)
          · refine pm_aloadn hG dX12_lend_63 rfl ?_
            refine pm_iloadn hG dX12_lend_64 rfl ?_
            refine pm_top (v := nI k4) ek4 ?_
            refine pm_iconst (v := nI 1) hG dX12_lend_65 (by decide) ?_
            refine pm_callV (As := [.int (nI k4), .int (nI 1)]) (rest := []) hG hR dX12_lend_66 (lkX12_110 _ rfl) okV_X12_its rfl rfl (m_its (d := 1) (e := 6 * k4 + 391) (by omega) (by omega) (by omega)) rfl rfl hdd (Nat.le_refl _) (Nat.le_refl _) (by decide) (pm_ki (fun v16 σ' cnt' hq => ?_))
            obtain ⟨rfl, rfl, rfl⟩ := hq
            rcases KI.opt hn (show kd (6 * k4 + 391) = (2, 20, false) from (kd_W (k := k4) (c := 1) (by omega) (by omega) (by decide))) with ek17 | ⟨k17, hk17, ek17⟩
            · refine pm_top (v := (-1)) ek17 ?_
              refine pm_if_lt (tgt := 91) hG dX12_lend_69 rfl (fun _ => ?_) (fun q => absurd q (by decide))
              refine pm_aloadn hG dX12_lend_91 rfl ?_
              refine pm_iconst (v := nI 3) hG dX12_lend_92 (by decide) ?_
              refine pm_callV (As := [.int (nI 3)]) (rest := []) hG hR dX12_lend_93 (lkX12_80 _ rfl) okV_X12_finds rfl rfl (m_finds (d := 1) (by decide) hn hz (by omega)) rfl rfl hdd (Nat.le_refl _) (Nat.le_refl _) (by decide) (pm_ki (fun v18 σ' cnt' hq => ?_))
              obtain ⟨⟨I19, A19, rfl⟩, rfl, fv18⟩ := hq
              exact pm_iret hG hF dX12_lend_96 rfl (Nat.le_refl _) (Nat.le_refl _) ⟨_, rfl, ⟨_, _, _, rfl, hn, hr, ekc0.trans ekc0.symm, ekc2.trans ekc2.symm, ekc7.trans ekc7.symm, ekc8.trans ekc8.symm, KS.rf⟩, rfl⟩
            · refine pm_top (v := nI k17) ek17 ?_
              refine pm_ifN_lt hG dX12_lend_69 rfl (by omega) ?_
              refine pm_aloadn hG dX12_lend_72 rfl ?_
              refine pm_iloadn hG dX12_lend_73 rfl ?_
              refine pm_top (v := nI k4) ek4 ?_
              refine pm_iconst (v := nI 2) hG dX12_lend_74 (by decide) ?_
              refine pm_callV (As := [.int (nI k4), .int (nI 2)]) (rest := []) hG hR dX12_lend_75 (lkX12_110 _ rfl) okV_X12_its rfl rfl (m_its (d := 1) (e := 6 * k4 + 392) (by omega) (by omega) (by omega)) rfl rfl hdd (Nat.le_refl _) (Nat.le_refl _) (by decide) (pm_ki (fun v20 σ' cnt' hq => ?_))
              obtain ⟨rfl, rfl, rfl⟩ := hq
              rcases KI.opt hn (show kd (6 * k4 + 392) = (2, 20, false) from (kd_W (k := k4) (c := 2) (by omega) (by omega) (by decide))) with ek21 | ⟨k21, hk21, ek21⟩
              · refine pm_top (v := (-1)) ek21 ?_
                refine pm_if_ge (tgt := 91) hG dX12_lend_78 rfl (fun q => absurd q (by decide)) (fun _ => ?_)
                refine pm_aloadn hG dX12_lend_81 rfl ?_
                refine pm_iloadn hG dX12_lend_82 rfl ?_
                refine pm_top (v := nI k4) ek4 ?_
                refine pm_iconst (v := nI 1) hG dX12_lend_83 (by decide) ?_
                refine pm_callV (As := [.int (nI k4), .int (nI 1)]) (rest := []) hG hR dX12_lend_84 (lkX12_110 _ rfl) okV_X12_its rfl rfl (m_its (d := 1) (e := 6 * k4 + 391) (by omega) (by omega) (by omega)) rfl rfl hdd (Nat.le_refl _) (Nat.le_refl _) (by decide) (pm_ki (fun v22 σ' cnt' hq => ?_))
                obtain ⟨rfl, rfl, rfl⟩ := hq
                refine pm_top (v := nI k17) ek17 ?_
                refine pm_iloadn hG dX12_lend_87 rfl ?_
                refine pm_top (v := nI k7) ek7 ?_
                refine pm_icmpN_ne (tgt := 97) hG dX12_lend_88 rfl (by omega) (by omega) (fun c23 => ?_) (fun c23 => ?_)
                · refine pm_aloadn hG dX12_lend_97 rfl ?_
                  refine pm_iloadn hG dX12_lend_98 rfl ?_
                  refine pm_top (v := nI k4) ek4 ?_
                  refine pm_iconst (v := nI 2) hG dX12_lend_99 (by decide) ?_
                  refine pm_iloadn hG dX12_lend_100 rfl ?_
                  refine pm_top (v := nI k7) ek7 ?_
                  refine pm_callV (As := [.int (nI k4), .int (nI 2), .int (nI k7)]) (rest := []) hG hR dX12_lend_101 (lkX12_113 _ rfl) okV_X12_makes rfl rfl (m_makes (d := 1) (e := 6 * k4 + 392) (by omega) (by omega) (by omega)) rfl rfl hdd (Nat.le_refl _) (Nat.le_refl _) (by decide) (pm_kv (fun σ' cnt' hq => ?_))
                  obtain ⟨rfl, rfl⟩ := hq
                  obtain ⟨n_24, en_24⟩ : ∃ f : Nat → Int32, f = upd n (6 * k4 + 392) (nI k7) := ⟨_, rfl⟩
                  rw [← en_24]
                  have hnn_24 := KI.w en_24 hn (okv_o (show kd (6 * k4 + 392) = (2, 20, false) from (kd_W (k := k4) (c := 2) (by omega) (by omega) (by decide))) (by omega))
                  have hrn_24 := NRx.w en_24 hr (by rw [(show kd (6 * k4 + 392) = (2, 20, false) from (kd_W (k := k4) (c := 2) (by omega) (by omega) (by decide)))])
                  have ksn_24 := KS.w en_24 KS.rf (by unfold tS; omega)
                  have e25 : n_24 0 = nI kc0 := by rw [en_24, pk_un (by omega)]; exact ekc0
                  have e26 : n_24 2 = nI kc2 := by rw [en_24, pk_un (by omega)]; exact ekc2
                  have e27 : n_24 7 = nI kc7 := by rw [en_24, pk_un (by omega)]; exact ekc7
                  have e28 : n_24 8 = nI kc8 := by rw [en_24, pk_un (by omega)]; exact ekc8
                  have e29 : n_24 3 = nI k1 := by rw [en_24, pk_un (by omega)]; exact ek1
                  have e30 : n_24 (14 * k7 + 119) = (-1) := by rw [en_24, pk_un (by omega)]; exact ek8
                  have e31 : n_24 (6 * k4 + 390) = x14 := by rw [en_24, pk_un (by omega)]; exact ex14
                  have e32 : n_24 (6 * k4 + 391) = nI k17 := by rw [en_24, pk_un (by omega)]; exact ek17
                  have e33 : n_24 (6 * k4 + 392) = nI k7 := by rw [en_24, pk_us]
                  refine pm_aloadn hG dX12_lend_104 rfl ?_
                  refine pm_iloadn hG dX12_lend_105 rfl ?_
                  refine pm_top (v := nI k4) ek4 ?_
                  refine pm_iconst (v := nI 3) hG dX12_lend_106 (by decide) ?_
                  refine pm_iloadn hG dX12_lend_107 rfl ?_
                  refine pm_top (v := nI k12) ek12 ?_
                  refine pm_callV (As := [.int (nI k4), .int (nI 3), .int (nI k12)]) (rest := []) hG hR dX12_lend_108 (lkX12_113 _ rfl) okV_X12_makes rfl rfl (m_makes (d := 1) (e := 6 * k4 + 393) (by omega) (by omega) (by omega)) rfl rfl hdd (Nat.le_refl _) (Nat.le_refl _) (by decide) (pm_kv (fun σ' cnt' hq => ?_))
                  obtain ⟨rfl, rfl⟩ := hq
                  obtain ⟨n_34, en_34⟩ : ∃ f : Nat → Int32, f = upd n_24 (6 * k4 + 393) (nI k12) := ⟨_, rfl⟩
                  rw [← en_34]
                  have hnn_34 := KI.w en_34 hnn_24 (okv_f (show kd (6 * k4 + 393) = (0, 0, false) from (kd_W (k := k4) (c := 3) (by omega) (by omega) (by decide))))
                  have hrn_34 := NRx.w en_34 hrn_24 (by rw [(show kd (6 * k4 + 393) = (0, 0, false) from (kd_W (k := k4) (c := 3) (by omega) (by omega) (by decide)))])
                  have ksn_34 := KS.w en_34 ksn_24 (by unfold tS; omega)
                  have e35 : n_34 0 = nI kc0 := by rw [en_34, pk_un (by omega)]; exact e25
                  have e36 : n_34 2 = nI kc2 := by rw [en_34, pk_un (by omega)]; exact e26
                  have e37 : n_34 7 = nI kc7 := by rw [en_34, pk_un (by omega)]; exact e27
                  have e38 : n_34 8 = nI kc8 := by rw [en_34, pk_un (by omega)]; exact e28
                  have e39 : n_34 3 = nI k1 := by rw [en_34, pk_un (by omega)]; exact e29
                  have e40 : n_34 (14 * k7 + 119) = (-1) := by rw [en_34, pk_un (by omega)]; exact e30
                  have e41 : n_34 (6 * k4 + 390) = x14 := by rw [en_34, pk_un (by omega)]; exact e31
                  have e42 : n_34 (6 * k4 + 391) = nI k17 := by rw [en_34, pk_un (by omega)]; exact e32
                  have e43 : n_34 (6 * k4 + 392) = nI k7 := by rw [en_34, pk_un (by omega)]; exact e33
                  have e44 : n_34 (6 * k4 + 393) = nI k12 := by rw [en_34, pk_us]
                  refine pm_iconst (v := nI 1) hG dX12_lend_111 (by decide) ?_
                  exact pm_iret hG hF dX12_lend_112 rfl (Nat.le_refl _) (Nat.le_refl _) ⟨_, rfl, ⟨_, _, _, rfl, hnn_34, hrn_34, e35.trans ekc0.symm, e36.trans ekc2.symm, e37.trans ekc7.symm, e38.trans ekc8.symm, ksn_34⟩, rfl⟩
                · refine pm_aloadn hG dX12_lend_91 rfl ?_
                  refine pm_iconst (v := nI 3) hG dX12_lend_92 (by decide) ?_
                  refine pm_callV (As := [.int (nI 3)]) (rest := []) hG hR dX12_lend_93 (lkX12_80 _ rfl) okV_X12_finds rfl rfl (m_finds (d := 1) (by decide) hn hz (by omega)) rfl rfl hdd (Nat.le_refl _) (Nat.le_refl _) (by decide) (pm_ki (fun v45 σ' cnt' hq => ?_))
                  obtain ⟨⟨I46, A46, rfl⟩, rfl, fv45⟩ := hq
                  exact pm_iret hG hF dX12_lend_96 rfl (Nat.le_refl _) (Nat.le_refl _) ⟨_, rfl, ⟨_, _, _, rfl, hn, hr, ekc0.trans ekc0.symm, ekc2.trans ekc2.symm, ekc7.trans ekc7.symm, ekc8.trans ekc8.symm, KS.rf⟩, rfl⟩
              · refine pm_top (v := nI k21) ek21 ?_
                refine pm_ifN_ge (tgt := 91) hG dX12_lend_78 rfl (by omega) ?_
                refine pm_aloadn hG dX12_lend_91 rfl ?_
                refine pm_iconst (v := nI 3) hG dX12_lend_92 (by decide) ?_
                refine pm_callV (As := [.int (nI 3)]) (rest := []) hG hR dX12_lend_93 (lkX12_80 _ rfl) okV_X12_finds rfl rfl (m_finds (d := 1) (by decide) hn hz (by omega)) rfl rfl hdd (Nat.le_refl _) (Nat.le_refl _) (by decide) (pm_ki (fun v47 σ' cnt' hq => ?_))
                obtain ⟨⟨I48, A48, rfl⟩, rfl, fv47⟩ := hq
                exact pm_iret hG hF dX12_lend_96 rfl (Nat.le_refl _) (Nat.le_refl _) ⟨_, rfl, ⟨_, _, _, rfl, hn, hr, ekc0.trans ekc0.symm, ekc2.trans ekc2.symm, ekc7.trans ekc7.symm, ekc8.trans ekc8.symm, KS.rf⟩, rfl⟩
          · refine pm_aloadn hG dX12_lend_57 rfl ?_
            refine pm_iconst (v := nI 5) hG dX12_lend_58 (by decide) ?_
            refine pm_callV (As := [.int (nI 5)]) (rest := []) hG hR dX12_lend_59 (lkX12_80 _ rfl) okV_X12_finds rfl rfl (m_finds (d := 1) (by decide) hn hz (by omega)) rfl rfl hdd (Nat.le_refl _) (Nat.le_refl _) (by decide) (pm_ki (fun v49 σ' cnt' hq => ?_))
            obtain ⟨⟨I50, A50, rfl⟩, rfl, fv49⟩ := hq
            exact pm_iret hG hF dX12_lend_62 rfl (Nat.le_refl _) (Nat.le_refl _) ⟨_, rfl, ⟨_, _, _, rfl, hn, hr, ekc0.trans ekc0.symm, ekc2.trans ekc2.symm, ekc7.trans ekc7.symm, ekc8.trans ekc8.symm, KS.rf⟩, rfl⟩
        · refine pm_ifN_ne (tgt := 47) hG dX12_lend_38 rfl (by omega) (fun q => absurd q (by omega)) (fun _ => ?_)
          refine pm_aloadn hG dX12_lend_41 rfl ?_
          refine pm_iconst (v := nI 1) hG dX12_lend_42 (by decide) ?_
          refine pm_callV (As := [.int (nI 1)]) (rest := []) hG hR dX12_lend_43 (lkX12_80 _ rfl) okV_X12_finds rfl rfl (m_finds (d := 1) (by decide) hn hz (by omega)) rfl rfl hdd (Nat.le_refl _) (Nat.le_refl _) (by decide) (pm_ki (fun v51 σ' cnt' hq => ?_))
          obtain ⟨⟨I52, A52, rfl⟩, rfl, fv51⟩ := hq
          exact pm_iret hG hF dX12_lend_46 rfl (Nat.le_refl _) (Nat.le_refl _) ⟨_, rfl, ⟨_, _, _, rfl, hn, hr, ekc0.trans ekc0.symm, ekc2.trans ekc2.symm, ekc7.trans ekc7.symm, ekc8.trans ekc8.symm, KS.rf⟩, rfl⟩
      · refine pm_callV (As := [.int (nI k7)]) (rest := []) hG hR dX12_lend_18 (lkX12_101 _ rfl) okV_X12_lives rfl rfl (m_lives0 (d := 1) (by decide) (by omega) (by omega : 14 * k7 + 119 = 14 * k7 + 119) ek8 (by omega)) rfl rfl hdd (Nat.le_refl _) (Nat.le_refl _) (by decide) (pm_ki (fun v53 σ' cnt' hq => ?_))
        obtain ⟨rfl, rfl, rfl⟩ := hq
        refine pm_ifN_eq (tgt := 41) hG dX12_lend_21 rfl (by omega) (fun _ => ?_) (fun q => absurd q (by omega))
        refine pm_aloadn hG dX12_lend_41 rfl ?_
        refine pm_iconst (v := nI 1) hG dX12_lend_42 (by decide) ?_
        refine pm_callV (As := [.int (nI 1)]) (rest := []) hG hR dX12_lend_43 (lkX12_80 _ rfl) okV_X12_finds rfl rfl (m_finds (d := 1) (by decide) hn hz (by omega)) rfl rfl hdd (Nat.le_refl _) (Nat.le_refl _) (by decide) (pm_ki (fun v54 σ' cnt' hq => ?_))
        obtain ⟨⟨I55, A55, rfl⟩, rfl, fv54⟩ := hq
        exact pm_iret hG hF dX12_lend_46 rfl (Nat.le_refl _) (Nat.le_refl _) ⟨_, rfl, ⟨_, _, _, rfl, hn, hr, ekc0.trans ekc0.symm, ekc2.trans ekc2.symm, ekc7.trans ekc7.symm, ekc8.trans ekc8.symm, KS.rf⟩, rfl⟩
    · refine pm_ifN_eq (tgt := 41) hG dX12_lend_13 rfl (by omega) (fun _ => ?_) (fun q => absurd q (by omega))
      refine pm_aloadn hG dX12_lend_41 rfl ?_
      refine pm_iconst (v := nI 1) hG dX12_lend_42 (by decide) ?_
      refine pm_callV (As := [.int (nI 1)]) (rest := []) hG hR dX12_lend_43 (lkX12_80 _ rfl) okV_X12_finds rfl rfl (m_finds (d := 1) (by decide) hn hz (by omega)) rfl rfl hdd (Nat.le_refl _) (Nat.le_refl _) (by decide) (pm_ki (fun v56 σ' cnt' hq => ?_))
      obtain ⟨⟨I57, A57, rfl⟩, rfl, fv56⟩ := hq
      exact pm_iret hG hF dX12_lend_46 rfl (Nat.le_refl _) (Nat.le_refl _) ⟨_, rfl, ⟨_, _, _, rfl, hn, hr, ekc0.trans ekc0.symm, ekc2.trans ekc2.symm, ekc7.trans ekc7.symm, ekc8.trans ekc8.symm, KS.rf⟩, rfl⟩
  · refine pm_ifN_eq (tgt := 41) hG dX12_lend_5 rfl (by omega) (fun _ => ?_) (fun q => absurd q (by omega))
    refine pm_aloadn hG dX12_lend_41 rfl ?_
    refine pm_iconst (v := nI 1) hG dX12_lend_42 (by decide) ?_
    refine pm_callV (As := [.int (nI 1)]) (rest := []) hG hR dX12_lend_43 (lkX12_80 _ rfl) okV_X12_finds rfl rfl (m_finds (d := 1) (by decide) hn hz (by omega)) rfl rfl hdd (Nat.le_refl _) (Nat.le_refl _) (by decide) (pm_ki (fun v58 σ' cnt' hq => ?_))
    obtain ⟨⟨I59, A59, rfl⟩, rfl, fv58⟩ := hq
    exact pm_iret hG hF dX12_lend_46 rfl (Nat.le_refl _) (Nat.le_refl _) ⟨_, rfl, ⟨_, _, _, rfl, hn, hr, ekc0.trans ekc0.symm, ekc2.trans ekc2.symm, ekc7.trans ekc7.symm, ekc8.trans ekc8.symm, KS.rf⟩, rfl⟩
