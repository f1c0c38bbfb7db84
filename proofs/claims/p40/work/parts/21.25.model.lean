set_option maxRecDepth 100000 in
set_option maxHeartbeats 4000000 in
theorem m_restore {d B cnt p0 t0 : Nat} {σ : pm_S} {I : Nat → Int32} {A : Nat → Nat → Int32} {n k z : Nat → Int32} {ac wt pl im : Int32} (hdd : 2 ≤ d) (hn : KI n) (hr : NR n) (hz : SZ z) (hk : KI k) (hkr : NR k) : pm_met mX12_restore d 0 0 B [.ref (B + 54)] cnt (pm_mid σ (md_L B I A n k z ac wt pl (nI p0) (nI t0) im)) (pm_Qi (fun v σ' cnt' => (∃ (I' : Nat → Int32) (A' : Nat → Nat → Int32) (n' : Nat → Int32), σ' = pm_mid σ (md_L B I' A' n' k z ac wt pl (nI p0) (nI t0) im) ∧ KI n' ∧ NR n' ∧ (im = 0 → n' = n ∧ v = (-1000000) - nI 2) ∧ (im ≠ 0 → (∀ j : Nat, j < 2071 → n' j = k j) ∧ v = k 8)) ∧ cnt = cnt')) := by
  refine pm_enter 1 (by decide) (Nat.le_of_ble_eq_true rfl) rfl (fun G hG hR hF => ?_)
  refine pm_aloadn hG dX12_restore_0 rfl ?_
  refine pm_getf hG dX12_restore_1 (flX12_319 _ rfl) rfl rfl ?_
  refine pm_if_ne (tgt := 13) hG dX12_restore_4 rfl (fun c1 => ?_) (fun c1 => ?_)
  · refine pm_iconst (v := nI 0) hG dX12_restore_13 (by decide) ?_
    refine pm_istoreXn (loc' := [some (.ref (B + 54)), some (.int (nI 0))]) hG dX12_restore_14 (by decide) (pm_c1b rfl) rfl ?_
    have loop15_2 : ∀ (m2 : Nat) (n_2 : Nat → Int32) (i2 : Nat), i2 ≤ 2071 → (∀ j : Nat, j < i2 → n_2 j = k j) → 2071 - i2 < m2 → pm_wp mX12_restore G B 15 [some (.ref (B + 54)), some (.int (nI i2))] [] 0 0 cnt (pm_mid σ (md_L B I A n_2 k z ac wt pl (nI p0) (nI t0) im)) := by
      intro m2
      induction m2 with
      | zero => intro n_2 i2 _ _ hm; exact absurd hm (Nat.not_lt_zero _)
      | succ m2 ih2 =>
        intro n_2 i2 hi2 cpy2 hm2
        refine pm_iloadn hG dX12_restore_15 rfl ?_
        refine pm_sipush (v := nI 2071) hG dX12_restore_16 (by decide) ?_
        refine pm_icmpN_ge (tgt := 40) hG dX12_restore_19 rfl (by omega) (by omega) (fun c3 => ?_) (fun c3 => ?_)
        · have hnR : KI n_2 := KI.eqv cpy2 (by omega) hk
          have hrR : NR n_2 := NR.eqv cpy2 (by omega) hkr
          refine pm_aloadn hG dX12_restore_40 rfl ?_
          refine pm_getf hG dX12_restore_41 (flX12_7 _ rfl) rfl rfl ?_
          refine pm_bipush (v := nI 8) hG dX12_restore_44 (by decide) ?_
          refine pm_ialdN hG dX12_restore_46 rfl (by decide) (by omega) ?_
          obtain ⟨k4, hk4, ek4⟩ := KI.nat hnR (show kd 8 = (1, 2001, false) by decide)
          refine pm_top (v := nI k4) ek4 ?_
          exact pm_iret hG hF dX12_restore_47 rfl (Nat.le_refl _) (Nat.le_refl _) ⟨_, rfl, ⟨_, _, _, rfl, hnR, hrR, ⟨fun q => (by first | exact absurd q c1 | exact absurd c1 q), fun _ => ⟨fun j hj => cpy2 j (by omega), ek4.symm.trans (cpy2 8 (by omega))⟩⟩⟩, rfl⟩
        · refine pm_aloadn hG dX12_restore_22 rfl ?_
          refine pm_getf hG dX12_restore_23 (flX12_7 _ rfl) rfl rfl ?_
          refine pm_iloadn hG dX12_restore_26 rfl ?_
          refine pm_aloadn hG dX12_restore_27 rfl ?_
          refine pm_getf hG dX12_restore_28 (flX12_13 _ rfl) rfl rfl ?_
          refine pm_iloadn hG dX12_restore_31 rfl ?_
          refine pm_ialdN hG dX12_restore_32 rfl (by decide) (by omega) ?_
          refine pm_gen (fun x5 ex5 => ?_)
          refine pm_iastN hG dX12_restore_33 rfl (by decide) (by omega) ?_
          refine mdn_now (fun n_6 en_6 => ?_)
          have cn_6 := cpy_step cpy2 en_6 ex5
          refine pm_iincX (v := nI (i2 + 1)) (loc' := [some (.ref (B + 54)), some (.int (nI (i2 + 1)))]) hG dX12_restore_34 rfl (nI_1 _) (by decide) (pm_c1b rfl) rfl ?_
          refine pm_goto (tgt := 15) hG dX12_restore_37 rfl ?_
          exact ih2 n_6 (i2 + 1) (by omega) cn_6 (by omega)
    exact loop15_2 _ n 0 (by omega) (fun _ h => absurd h (Nat.not_lt_zero _)) (Nat.lt_succ_self _)
  · refine pm_aloadn hG dX12_restore_7 rfl ?_
    refine pm_iconst (v := nI 2) hG dX12_restore_8 (by decide) ?_
    refine pm_callV (As := [.int (nI 2)]) (rest := []) hG hR dX12_restore_9 (lkX12_80 _ rfl) okV_X12_finds rfl rfl (m_finds (d := 1) (by decide) hn hz (by omega)) rfl rfl hdd (Nat.le_refl _) (Nat.le_refl _) (by decide) (pm_ki (fun v7 σ' cnt' hq => ?_))
    obtain ⟨⟨I8, A8, rfl⟩, rfl, fv7⟩ := hq
    exact pm_iret hG hF dX12_restore_12 rfl (Nat.le_refl _) (Nat.le_refl _) ⟨_, rfl, ⟨_, _, _, rfl, hn, hr, ⟨fun _ => ⟨rfl, fv7⟩, fun q => (by first | exact absurd q c1 | exact absurd c1 q)⟩⟩, rfl⟩

set_option maxRecDepth 100000 in
set_option maxHeartbeats 4000000 in
theorem m_road {d B cnt p0 t0 : Nat} {σ : pm_S} {I : Nat → Int32} {A : Nat → Nat → Int32} {n k z : Nat → Int32} {ac wt pl im : Int32} {za zb zc : Int32} (hdd : 2 ≤ d) (hn : KI n) (hr : NR n) (hz : SZ z)  : pm_met mX12_road d 0 0 B [.ref (B + 54), .int za, .int zb, .int zc] cnt (pm_mid σ (md_L B I A n k z ac wt pl (nI p0) (nI t0) im)) (pm_Qi (fun v σ' cnt' => (∃ (I' : Nat → Int32) (A' : Nat → Nat → Int32) (n' : Nat → Int32), σ' = pm_mid σ (md_L B I' A' n' k z ac wt pl (nI p0) (nI t0) im) ∧ KI n' ∧ NR n' ∧ KS n' n) ∧ cnt = cnt')) := by
  refine pm_enter 1 (by decide) (Nat.le_of_ble_eq_true rfl) rfl (fun G hG hR hF => ?_)
  refine pm_aloadn hG dX12_road_0 rfl ?_
  refine pm_iloadn hG dX12_road_1 rfl ?_
  obtain ⟨k1, hk1, ek1⟩ := KI.nat hn (show kd 0 = (1, 11, true) by decide)
  refine pm_callV (As := [.int za]) (rest := []) hG hR dX12_road_2 (lkX12_84 _ rfl) okV_X12_isTown rfl rfl (m_isTown (d := 1) (by decide) ek1 (by omega)) rfl rfl hdd (Nat.le_refl _) (Nat.le_refl _) (by decide) (pm_ki (fun v2 σ' cnt' hq => ?_))
  obtain ⟨hq, rfl, rfl⟩ := hq
  rcases hq with ⟨rfl, k4, hk4, ek4⟩ | rfl
  · refine pm_ifN_eq (tgt := 31) hG dX12_road_5 rfl (by omega) (fun q => absurd q (by omega)) (fun _ => ?_)
    refine pm_aloadn hG dX12_road_8 rfl ?_
    refine pm_iloadn hG dX12_road_9 rfl ?_
    refine pm_callV (As := [.int zb]) (rest := []) hG hR dX12_road_10 (lkX12_84 _ rfl) okV_X12_isTown rfl rfl (m_isTown (d := 1) (by decide) ek1 (by omega)) rfl rfl hdd (Nat.le_refl _) (Nat.le_refl _) (by decide) (pm_ki (fun v5 σ' cnt' hq => ?_))
    obtain ⟨hq, rfl, rfl⟩ := hq
    rcases hq with ⟨rfl, k7, hk7, ek7⟩ | rfl
    · refine pm_ifN_eq (tgt := 31) hG dX12_road_13 rfl (by omega) (fun q => absurd q (by omega)) (fun _ => ?_)
      refine pm_iloadn hG dX12_road_16 rfl ?_
      refine pm_top (v := nI k4) ek4 ?_
      refine pm_iloadn hG dX12_road_17 rfl ?_
      refine pm_top (v := nI k7) ek7 ?_
      refine pm_icmpN_eq (tgt := 31) hG dX12_road_18 rfl (by omega) (by omega) (fun c8 => ?_) (fun c8 => ?_)
      · refine pm_aloadn hG dX12_road_31 rfl ?_
        refine pm_iconst (v := nI 1) hG dX12_road_32 (by decide) ?_
        refine pm_callV (As := [.int (nI 1)]) (rest := []) hG hR dX12_road_33 (lkX12_80 _ rfl) okV_X12_finds rfl rfl (m_finds (d := 1) (by decide) hn hz (by omega)) rfl rfl hdd (Nat.le_refl _) (Nat.le_refl _) (by decide) (pm_ki (fun v9 σ' cnt' hq => ?_))
        obtain ⟨⟨I10, A10, rfl⟩, rfl, fv9⟩ := hq
        exact pm_iret hG hF dX12_road_36 rfl (Nat.le_refl _) (Nat.le_refl _) ⟨_, rfl, ⟨_, _, _, rfl, hn, hr, KS.rf⟩, rfl⟩
      · refine pm_iloadn hG dX12_road_21 rfl ?_
        refine pm_iconst (v := nI 1) hG dX12_road_22 (by decide) ?_
        refine pm_bipush (v := nI 9) hG dX12_road_23 (by decide) ?_
        refine pm_callS (As := [.int zc, .int (nI 1), .int (nI 9)]) (rest := []) hG hR dX12_road_25 (lkX12_68 _ rfl) okS_X12_in (m_in (d := 1)) rfl rfl hdd (Nat.le_refl _) (Nat.le_refl _) (by decide) (pm_ki (fun v11 σ' cnt' hq => ?_))
        obtain ⟨hq, rfl, rfl⟩ := hq
        rcases hq with ⟨rfl, ac12, bc12⟩ | ⟨rfl, c12⟩
        · obtain ⟨k13, hk13, ek13⟩ := in_nat (by omega) (by omega) ac12 bc12
          refine pm_ifN_ne (tgt := 37) hG dX12_road_28 rfl (by omega) (fun _ => ?_) (fun q => absurd q (by omega))
          refine pm_aloadn hG dX12_road_37 rfl ?_
          refine pm_getf hG dX12_road_38 (flX12_7 _ rfl) rfl rfl ?_
          refine pm_iconst (v := nI 1) hG dX12_road_41 (by decide) ?_
          refine pm_ialdN hG dX12_road_42 rfl (by decide) (by omega) ?_
          obtain ⟨k14, hk14, ek14⟩ := KI.nat hn (show kd 1 = (1, 21, false) by decide)
          refine pm_top (v := nI k14) ek14 ?_
          refine pm_istoreXi (loc' := [some (.ref (B + 54)), some (.int za), some (.int zb), some (.int zc), some (.int (nI k14))]) hG dX12_road_43 (by decide) (pm_c1b rfl) rfl ?_
          refine pm_iloadi hG dX12_road_45 rfl ?_
          refine pm_bipush (v := nI 20) hG dX12_road_47 (by decide) ?_
          refine pm_icmpN_ne (tgt := 58) hG dX12_road_49 rfl (by omega) (by omega) (fun c15 => ?_) (fun c15 => ?_)
          · refine pm_aloadn hG dX12_road_58 rfl ?_
            refine pm_getf hG dX12_road_59 (flX12_7 _ rfl) rfl rfl ?_
            refine pm_iconst (v := nI 1) hG dX12_road_62 (by decide) ?_
            refine pm_dup2 hG dX12_road_63 rfl rfl ?_
            refine pm_ialdN hG dX12_road_64 rfl (by decide) (by omega) ?_
            refine pm_top (v := nI k14) ek14 ?_
            refine pm_iconst (v := nI 1) hG dX12_road_65 (by decide) ?_
            refine pm_iaddN (c := k14 + 1) hG dX12_road_66 (by omega) ?_
            refine pm_iastN hG dX12_road_67 rfl (by decide) (by omega) ?_
            refine mdn_now (fun n_16 en_16 => ?_)
            have hnn_16 := KI.w en_16 hn (okv_n (show kd 1 = (1, 21, false) by decide) (by omega))
            have hrn_16 := NRx.w en_16 hr (by rw [(show kd 1 = (1, 21, false) by decide)])
            have ksn_16 := KS.w en_16 KS.rf (by unfold tS; omega)
            have e17 : n_16 0 = nI k1 := by rw [en_16, pk_un (by omega)]; exact ek1
            have e18 : n_16 1 = nI (k14 + 1) := by rw [en_16, pk_us]
            refine pm_aloadn hG dX12_road_68 rfl ?_
            refine pm_getf hG dX12_road_69 (flX12_7 _ rfl) rfl rfl ?_
            refine pm_bipush (v := nI 50) hG dX12_road_72 (by decide) ?_
            refine pm_iconst (v := nI 3) hG dX12_road_74 (by decide) ?_
            refine pm_iloadi hG dX12_road_75 rfl ?_
            refine pm_imulN (c := 3 * k14) hG dX12_road_77 (by omega) ?_
            refine pm_iaddN (c := 3 * k14 + 50) hG dX12_road_78 (by omega) ?_
            refine pm_iloadn hG dX12_road_79 rfl ?_
            refine pm_top (v := nI k4) ek4 ?_
            refine pm_iastN hG dX12_road_80 rfl (by decide) (by omega) ?_
            refine mdn_now (fun n_19 en_19 => ?_)
            have hnn_19 := KI.w en_19 hnn_16 (okv_n (show kd (3 * k14 + 50) = (1, 10, false) from (kd_R (k := k14) (c := 0) (by omega) (by omega) (by decide))) (by omega))
            have hrn_19 := NRx.w en_19 hrn_16 (by rw [(show kd (3 * k14 + 50) = (1, 10, false) from (kd_R (k := k14) (c := 0) (by omega) (by omega) (by decide)))])
            have ksn_19 := KS.w en_19 ksn_16 (by unfold tS; omega)
            have e20 : n_19 0 = nI k1 := by rw [en_19, pk_un (by omega)]; exact e17
            have e21 : n_19 1 = nI (k14 + 1) := by rw [en_19, pk_un (by omega)]; exact e18
            have e22 : n_19 (3 * k14 + 50) = nI k4 := by rw [en_19, pk_us]
            refine pm_aloadn hG dX12_road_81 rfl ?_
            refine pm_getf hG dX12_road_82 (flX12_7 _ rfl) rfl rfl ?_
            refine pm_bipush (v := nI 50) hG dX12_road_85 (by decide) ?_
            refine pm_iconst (v := nI 3) hG dX12_road_87 (by decide) ?_
            refine pm_iloadi hG dX12_road_88 rfl ?_
            refine pm_imulN (c := 3 * k14) hG dX12_road_90 (by omega) ?_
            refine pm_iaddN (c := 3 * k14 + 50) hG dX12_road_91 (by omega) ?_
            refine pm_iconst (v := nI 1) hG dX12_road_92 (by decide) ?_
            refine pm_iaddN (c := 3 * k14 + 51) hG dX12_road_93 (by omega) ?_
            refine pm_iloadn hG dX12_road_94 rfl ?_
            refine pm_top (v := nI k7) ek7 ?_
            refine pm_iastN hG dX12_road_95 rfl (by decide) (by omega) ?_
            refine mdn_now (fun n_23 en_23 => ?_)
            have hnn_23 := KI.w en_23 hnn_19 (okv_n (show kd (3 * k14 + 51) = (1, 10, false) from (kd_R (k := k14) (c := 1) (by omega) (by omega) (by decide))) (by omega))
            have hrn_23 := NRx.w en_23 hrn_19 (by rw [(show kd (3 * k14 + 51) = (1, 10, false) from (kd_R (k := k14) (c := 1) (by omega) (by omega) (by decide)))])
            have ksn_23 := KS.w en_23 ksn_19 (by unfold tS; omega)
            have e24 : n_23 0 = nI k1 := by rw [en_23, pk_un (by omega)]; exact e20
            have e25 : n_23 1 = nI (k14 + 1) := by rw [en_23, pk_un (by omega)]; exact e21
            have e26 : n_23 (3 * k14 + 50) = nI k4 := by rw [en_23, pk_un (by omega)]; exact e22
            have e27 : n_23 (3 * k14 + 51) = nI k7 := by rw [en_23, pk_us]
            refine pm_aloadn hG dX12_road_96 rfl ?_
            refine pm_getf hG dX12_road_97 (flX12_7 _ rfl) rfl rfl ?_
            refine pm_bipush (v := nI 50) hG dX12_road_100 (by decide) ?_
            refine pm_iconst (v := nI 3) hG dX12_road_102 (by decide) ?_
            refine pm_iloadi hG dX12_road_103 rfl ?_
            refine pm_imulN (c := 3 * k14) hG dX12_road_105 (by omega) ?_
            refine pm_iaddN (c := 3 * k14 + 50) hG dX12_road_106 (by omega) ?_
            refine pm_iconst (v := nI 2) hG dX12_road_107 (by decide) ?_
            refine pm_iaddN (c := 3 * k14 + 52) hG dX12_road_108 (by omega) ?_
            refine pm_iloadn hG dX12_road_109 rfl ?_
            refine pm_top (v := nI k13) ek13 ?_
            refine pm_iastN hG dX12_road_110 rfl (by decide) (by omega) ?_
            refine mdn_now (fun n_28 en_28 => ?_)
            have hnn_28 := KI.w en_28 hnn_23 (okv_n (show kd (3 * k14 + 52) = (1, 10, false) from (kd_R (k := k14) (c := 2) (by omega) (by omega) (by decide))) (by omega))
            have hrn_28 := NRx.w en_28 hrn_23 (by rw [(show kd (3 * k14 + 52) = (1, 10, false) from (kd_R (k := k14) (c := 2) (by omega) (by omega) (by decide)))])
            have ksn_28 := KS.w en_28 ksn_23 (by unfold tS; omega)
            have e29 : n_28 0 = nI k1 := by rw [en_28, pk_un (by omega)]; exact e24
            have e30 : n_28 1 = nI (k14 + 1) := by rw [en_28, pk_un (by omega)]; exact e25
            have e31 : n_28 (3 * k14 + 50) = nI k4 := by rw [en_28, pk_un (by omega)]; exact e26
            have e32 : n_28 (3 * k14 + 51) = nI k7 := by rw [en_28, pk_un (by omega)]; exact e27
            have e33 : n_28 (3 * k14 + 52) = nI k13 := by rw [en_28, pk_us]
            refine pm_iloadi hG dX12_road_111 rfl ?_
            refine pm_iconst (v := nI 1) hG dX12_road_113 (by decide) ?_
            refine pm_iaddN (c := k14 + 1) hG dX12_road_114 (by omega) ?_
            exact pm_iret hG hF dX12_road_115 rfl (Nat.le_refl _) (Nat.le_refl _) ⟨_, rfl, ⟨_, _, _, rfl, hnn_28, hrn_28, ksn_28⟩, rfl⟩
          · refine pm_aloadn hG dX12_road_52 rfl ?_
            refine pm_iconst (v := nI 4) hG dX12_road_53 (by decide) ?_
            refine pm_callV (As := [.int (nI 4)]) (rest := []) hG hR dX12_road_54 (lkX12_80 _ rfl) okV_X12_finds rfl rfl (m_finds (d := 1) (by decide) hn hz (by omega)) rfl rfl hdd (Nat.le_refl _) (Nat.le_refl _) (by decide) (pm_ki (fun v34 σ' cnt' hq => ?_))
            obtain ⟨⟨I35, A35, rfl⟩, rfl, fv34⟩ := hq
            exact pm_iret hG hF dX12_road_57 rfl (Nat.le_refl _) (Nat.le_refl _) ⟨_, rfl, ⟨_, _, _, rfl, hn, hr, KS.rf⟩, rfl⟩
        · refine pm_ifN_ne (tgt := 37) hG dX12_road_28 rfl (by omega) (fun q => absurd q (by omega)) (fun _ => ?_)
          refine pm_aloadn hG dX12_road_31 rfl ?_
          refine pm_iconst (v := nI 1) hG dX12_road_32 (by decide) ?_
          refine pm_callV (As := [.int (nI 1)]) (rest := []) hG hR dX12_road_33 (lkX12_80 _ rfl) okV_X12_finds rfl rfl (m_finds (d := 1) (by decide) hn hz (by omega)) rfl rfl hdd (Nat.le_refl _) (Nat.le_refl _) (by decide) (pm_ki (fun v36 σ' cnt' hq => ?_))
          obtain ⟨⟨I37, A37, rfl⟩, rfl, fv36⟩ := hq
          exact pm_iret hG hF dX12_road_36 rfl (Nat.le_refl _) (Nat.le_refl _) ⟨_, rfl, ⟨_, _, _, rfl, hn, hr, KS.rf⟩, rfl⟩
    · refine pm_ifN_eq (tgt := 31) hG dX12_road_13 rfl (by omega) (fun _ => ?_) (fun q => absurd q (by omega))
      refine pm_aloadn hG dX12_road_31 rfl ?_
      refine pm_iconst (v := nI 1) hG dX12_road_32 (by decide) ?_
      refine pm_callV (As := [.int (nI 1)]) (rest := []) hG hR dX12_road_33 (lkX12_80 _ rfl) okV_X12_finds rfl rfl (m_finds (d := 1) (by decide) hn hz (by omega)) rfl rfl hdd (Nat.le_refl _) (Nat.le_refl _) (by decide) (pm_ki (fun v38 σ' cnt' hq => ?_))
      obtain ⟨⟨I39, A39, rfl⟩, rfl, fv38⟩ := hq
      exact pm_iret hG hF dX12_road_36 rfl (Nat.le_refl _) (Nat.le_refl _) ⟨_, rfl, ⟨_, _, _, rfl, hn, hr, KS.rf⟩, rfl⟩
  · refine pm_ifN_eq (tgt := 31) hG dX12_road_5 rfl (by omega) (fun _ => ?_) (fun q => absurd q (by omega))
    refine pm_aloadn hG dX12_road_31 rfl ?_
    refine pm_iconst (v := nI 1) hG dX12_road_32 (by decide) ?_
    refine pm_callV (As := [.int (nI 1)]) (rest := []) hG hR dX12_road_33 (lkX12_80 _ rfl) okV_X12_finds rfl rfl (m_finds (d := 1) (by decide) hn hz (by omega)) rfl rfl hdd (Nat.le_refl _) (Nat.le_refl _) (by decide) (pm_ki (fun v40 σ' cnt' hq => ?_))
    obtain ⟨⟨I41, A41, rfl⟩, rfl, fv40⟩ := hq
    exact pm_iret hG hF dX12_road_36 rfl (Nat.le_refl _) (Nat.le_refl _) ⟨_, rfl, ⟨_, _, _, rfl, hn, hr, KS.rf⟩, rfl⟩

set_option maxRecDepth 100000 in
set_option maxHeartbeats 4000000 in
theorem m_setNames_m_n40 {d B cnt p0 t0 : Nat} {σ : pm_S} {I : Nat → Int32} {A : Nat → Nat → Int32} {n k z : Nat → Int32} {ac wt pl im : Int32} {zc : Int32} {bb : Nat} (hdd : 2 ≤ d) (hn : KI n) (hz : SZ z) (hbb : bb < 40) : pm_met mX12_setNames d 0 0 B [.ref (B + 54), .int (-1), .int (nI bb), .int zc] cnt (pm_mid σ (md_L B I A n k z ac wt pl (nI p0) (nI t0) im)) (pm_Qv (fun σ' cnt' => (∃ (I' : Nat → Int32) (A' : Nat → Nat → Int32), σ' = pm_mid σ (md_L B I' A' n k z ac wt pl (nI p0) (nI t0) im)) ∧ cnt = cnt')) := by
  refine pm_enter 0 (by decide) (Nat.le_of_ble_eq_true rfl) rfl (fun G hG hR hF => ?_)
  refine pm_aloadn hG dX12_setNames_0 rfl ?_
  refine pm_getf hG dX12_setNames_1 (flX12_34 _ rfl) rfl rfl ?_
  refine pm_iconst (v := nI 0) hG dX12_setNames_4 (by decide) ?_
  refine pm_iloadn hG dX12_setNames_5 rfl ?_
  refine pm_if_ge (tgt := 13) hG dX12_setNames_6 rfl (fun q => absurd q (by decide)) (fun _ => ?_)
  refine pm_iconst (v := nI 0) hG dX12_setNames_9 (by decide) ?_
  refine pm_goto (tgt := 25) hG dX12_setNames_10 rfl ?_
  refine pm_iastN hG dX12_setNames_25 rfl (by decide) (by omega) ?_
  refine mdn_names (fun A_1 => ?_)
  refine pm_aloadn hG dX12_setNames_26 rfl ?_
  refine pm_getf hG dX12_setNames_27 (flX12_34 _ rfl) rfl rfl ?_
  refine pm_iconst (v := nI 1) hG dX12_setNames_30 (by decide) ?_
  refine pm_iloadn hG dX12_setNames_31 rfl ?_
  refine pm_if_ge (tgt := 39) hG dX12_setNames_32 rfl (fun q => absurd q (by decide)) (fun _ => ?_)
  refine pm_iconst (v := nI 0) hG dX12_setNames_35 (by decide) ?_
  refine pm_goto (tgt := 45) hG dX12_setNames_36 rfl ?_
  refine pm_iastN hG dX12_setNames_45 rfl (by decide) (by omega) ?_
  refine mdn_names (fun A_2 => ?_)
  refine pm_aloadn hG dX12_setNames_46 rfl ?_
  refine pm_getf hG dX12_setNames_47 (flX12_34 _ rfl) rfl rfl ?_
  refine pm_iconst (v := nI 2) hG dX12_setNames_50 (by decide) ?_
  refine pm_iloadn hG dX12_setNames_51 rfl ?_
  refine pm_if_ge (tgt := 59) hG dX12_setNames_52 rfl (fun q => absurd q (by decide)) (fun _ => ?_)
  refine pm_iconst (v := nI 0) hG dX12_setNames_55 (by decide) ?_
  refine pm_goto (tgt := 64) hG dX12_setNames_56 rfl ?_
  refine pm_iastN hG dX12_setNames_64 rfl (by decide) (by omega) ?_
  refine mdn_names (fun A_3 => ?_)
  refine pm_aloadn hG dX12_setNames_65 rfl ?_
  refine pm_getf hG dX12_setNames_66 (flX12_34 _ rfl) rfl rfl ?_
  refine pm_iconst (v := nI 3) hG dX12_setNames_69 (by decide) ?_
  refine pm_iloadn hG dX12_setNames_70 rfl ?_
  refine pm_if_ge (tgt := 78) hG dX12_setNames_71 rfl (fun q => absurd q (by decide)) (fun _ => ?_)
  refine pm_iconst (v := nI 0) hG dX12_setNames_74 (by decide) ?_
  refine pm_goto (tgt := 85) hG dX12_setNames_75 rfl ?_
  refine pm_iastN hG dX12_setNames_85 rfl (by decide) (by omega) ?_
  refine mdn_names (fun A_4 => ?_)
  refine pm_aloadn hG dX12_setNames_86 rfl ?_
  refine pm_getf hG dX12_setNames_87 (flX12_34 _ rfl) rfl rfl ?_
  refine pm_iconst (v := nI 4) hG dX12_setNames_90 (by decide) ?_
  refine pm_iloadn hG dX12_setNames_91 rfl ?_
  refine pm_if_ge (tgt := 99) hG dX12_setNames_92 rfl (fun q => absurd q (by decide)) (fun _ => ?_)
  refine pm_iconst (v := nI 0) hG dX12_setNames_95 (by decide) ?_
  refine pm_goto (tgt := 106) hG dX12_setNames_96 rfl ?_
  refine pm_iastN hG dX12_setNames_106 rfl (by decide) (by omega) ?_
  refine mdn_names (fun A_5 => ?_)
  refine pm_aloadn hG dX12_setNames_107 rfl ?_
  refine pm_getf hG dX12_setNames_108 (flX12_34 _ rfl) rfl rfl ?_
  refine pm_iconst (v := nI 5) hG dX12_setNames_111 (by decide) ?_
  refine pm_iloadn hG dX12_setNames_112 rfl ?_
  refine pm_if_ge (tgt := 120) hG dX12_setNames_113 rfl (fun q => absurd q (by decide)) (fun _ => ?_)
  refine pm_iconst (v := nI 0) hG dX12_setNames_116 (by decide) ?_
  refine pm_goto (tgt := 140) hG dX12_setNames_117 rfl ?_
  refine pm_iastN hG dX12_setNames_140 rfl (by decide) (by omega) ?_
  refine mdn_names (fun A_6 => ?_)
  refine pm_aloadn hG dX12_setNames_141 rfl ?_
  refine pm_getf hG dX12_setNames_142 (flX12_34 _ rfl) rfl rfl ?_
  refine pm_bipush (v := nI 6) hG dX12_setNames_145 (by decide) ?_
  refine pm_iloadn hG dX12_setNames_147 rfl ?_
  refine pm_if_ge (tgt := 155) hG dX12_setNames_148 rfl (fun q => absurd q (by decide)) (fun _ => ?_)
  refine pm_iconst (v := nI 0) hG dX12_setNames_151 (by decide) ?_
  refine pm_goto (tgt := 160) hG dX12_setNames_152 rfl ?_
  refine pm_iastN hG dX12_setNames_160 rfl (by decide) (by omega) ?_
  refine mdn_names (fun A_7 => ?_)
  refine pm_aloadn hG dX12_setNames_161 rfl ?_
  refine pm_getf hG dX12_setNames_162 (flX12_34 _ rfl) rfl rfl ?_
  refine pm_bipush (v := nI 7) hG dX12_setNames_165 (by decide) ?_
  refine pm_iloadn hG dX12_setNames_167 rfl ?_
  refine pm_ifN_ge (tgt := 175) hG dX12_setNames_168 rfl (by omega) ?_
  refine pm_aloadn hG dX12_setNames_175 rfl ?_
  refine pm_iloadn hG dX12_setNames_176 rfl ?_
  refine pm_iconst (v := nI 3) hG dX12_setNames_177 (by decide) ?_
  refine pm_callV (As := [.int (nI bb), .int (nI 3)]) (rest := [.int (nI 7), .ref (B + 63)]) hG hR dX12_setNames_178 (lkX12_199 _ rfl) okV_X12_of rfl rfl (m_of (d := 1) (e := 12 * bb + 1293) (by omega) (by omega) (by omega)) rfl rfl hdd (Nat.le_refl _) (Nat.le_refl _) (Nat.le_of_ble_eq_true rfl) (pm_ki (fun v8 σ' cnt' hq => ?_))
  obtain ⟨rfl, rfl, rfl⟩ := hq
  refine pm_gen (fun x9 ex9 => ?_)
  refine pm_callS (As := [.int x9]) (rest := [.int (nI 7), .ref (B + 63)]) hG hR dX12_setNames_181 (lkX12_202 _ rfl) okS_X12_bits (m_bits (d := 1) (by decide) hn hz) rfl rfl hdd (Nat.le_refl _) (Nat.le_refl _) (Nat.le_of_ble_eq_true rfl) (pm_ki (fun v10 σ' cnt' hq => ?_))
  obtain ⟨rfl, rfl⟩ := hq
  refine pm_iastN hG dX12_setNames_184 rfl (by decide) (by omega) ?_
  refine mdn_names (fun A_12 => ?_)
  refine pm_aloadn hG dX12_setNames_185 rfl ?_
  refine pm_getf hG dX12_setNames_186 (flX12_34 _ rfl) rfl rfl ?_
  refine pm_bipush (v := nI 8) hG dX12_setNames_189 (by decide) ?_
  refine pm_iloadn hG dX12_setNames_191 rfl ?_
  refine pm_ifN_ge (tgt := 199) hG dX12_setNames_192 rfl (by omega) ?_
  refine pm_aloadn hG dX12_setNames_199 rfl ?_
  refine pm_iloadn hG dX12_setNames_200 rfl ?_
  refine pm_iconst (v := nI 1) hG dX12_setNames_201 (by decide) ?_
  refine pm_callV (As := [.int (nI bb), .int (nI 1)]) (rest := [.int (nI 8), .ref (B + 63)]) hG hR dX12_setNames_202 (lkX12_199 _ rfl) okV_X12_of rfl rfl (m_of (d := 1) (e := 12 * bb + 1291) (by omega) (by omega) (by omega)) rfl rfl hdd (Nat.le_refl _) (Nat.le_refl _) (Nat.le_of_ble_eq_true rfl) (pm_ki (fun v13 σ' cnt' hq => ?_))
  obtain ⟨rfl, rfl, rfl⟩ := hq
  refine pm_gen (fun x14 ex14 => ?_)
  refine pm_iastN hG dX12_setNames_205 rfl (by decide) (by omega) ?_
  refine mdn_names (fun A_15 => ?_)
  refine pm_aloadn hG dX12_setNames_206 rfl ?_
  refine pm_getf hG dX12_setNames_207 (flX12_34 _ rfl) rfl rfl ?_
  refine pm_bipush (v := nI 9) hG dX12_setNames_210 (by decide) ?_
  refine pm_iloadn hG dX12_setNames_212 rfl ?_
  refine pm_ifN_ge (tgt := 220) hG dX12_setNames_213 rfl (by omega) ?_
  refine pm_aloadn hG dX12_setNames_220 rfl ?_
  refine pm_iloadn hG dX12_setNames_221 rfl ?_
  refine pm_iconst (v := nI 2) hG dX12_setNames_222 (by decide) ?_
  refine pm_callV (As := [.int (nI bb), .int (nI 2)]) (rest := [.int (nI 9), .ref (B + 63)]) hG hR dX12_setNames_223 (lkX12_199 _ rfl) okV_X12_of rfl rfl (m_of (d := 1) (e := 12 * bb + 1292) (by omega) (by omega) (by omega)) rfl rfl hdd (Nat.le_refl _) (Nat.le_refl _) (Nat.le_of_ble_eq_true rfl) (pm_ki (fun v16 σ' cnt' hq => ?_))
  obtain ⟨rfl, rfl, rfl⟩ := hq
  obtain ⟨k17, hk17, ek17⟩ := KI.nat hn (show kd (12 * bb + 1292) = (1, 1000, false) from (kd_E (k := bb) (c := 2) (by omega) (by omega) (by decide)))
  refine pm_top (v := nI k17) ek17 ?_
  refine pm_iastN hG dX12_setNames_226 rfl (by decide) (by omega) ?_
  refine mdn_names (fun A_18 => ?_)
  refine pm_aloadn hG dX12_setNames_227 rfl ?_
  refine pm_getf hG dX12_setNames_228 (flX12_34 _ rfl) rfl rfl ?_
  refine pm_bipush (v := nI 10) hG dX12_setNames_231 (by decide) ?_
  refine pm_iloadn hG dX12_setNames_233 rfl ?_
  refine pm_iastN hG dX12_setNames_234 rfl (by decide) (by omega) ?_
  refine mdn_names (fun A_19 => ?_)
  exact pm_vret hG hF dX12_setNames_235 rfl (Nat.le_refl _) (Nat.le_refl _) ⟨rfl, ⟨_, _, rfl⟩, rfl⟩

set_option maxRecDepth 100000 in
set_option maxHeartbeats 4000000 in
theorem m_comesTo_n12_m_n40 {d B cnt p0 t0 : Nat} {σ : pm_S} {I : Nat → Int32} {A : Nat → Nat → Int32} {n k z : Nat → Int32} {ac wt pl im : Int32} {zd : Int32} {ba bc : Nat} (hdd : 3 ≤ d) (hn : KI n) (hr : NR n) (hz : SZ z) (hba : ba < 12) (hbc : bc < 40) : pm_met mX12_comesTo d 0 0 B [.ref (B + 54), .int (nI ba), .int (-1), .int (nI bc), .int zd] cnt (pm_mid σ (md_L B I A n k z ac wt pl (nI p0) (nI t0) im)) (pm_Qi (fun v σ' cnt' => (∃ (I' : Nat → Int32) (A' : Nat → Nat → Int32), σ' = pm_mid σ (md_L B I' A' n k z ac wt pl (nI p0) (nI t0) im)) ∧ cnt = cnt')) := by
  refine pm_enter 4 (by decide) (Nat.le_of_ble_eq_true rfl) rfl (fun G hG hR hF => ?_)
  refine pm_iloadn hG dX12_comesTo_0 rfl ?_
  refine pm_ifN_ge (tgt := 6) hG dX12_comesTo_1 rfl (by omega) ?_
  refine pm_aloadn hG dX12_comesTo_6 rfl ?_
  refine pm_iloadn hG dX12_comesTo_7 rfl ?_
  refine pm_iloadn hG dX12_comesTo_8 rfl ?_
  refine pm_iloadi hG dX12_comesTo_9 rfl ?_
  refine pm_callV (As := [.int (-1), .int (nI bc), .int zd]) (rest := []) hG hR dX12_comesTo_11 (lkX12_205 _ rfl) okV_X12_setNames rfl rfl (m_setNames_m_n40 (d := 2) (by decide) hn hz (by omega)) rfl rfl hdd (Nat.le_refl _) (Nat.le_refl _) (by decide) (pm_kv (fun σ' cnt' hq => ?_))
  obtain ⟨⟨I2, A2, rfl⟩, rfl⟩ := hq
  refine pm_iconst (v := nI 0) hG dX12_comesTo_14 (by decide) ?_
  refine pm_istoreXi (loc' := [some (.ref (B + 54)), some (.int (nI ba)), some (.int (-1)), some (.int (nI bc)), some (.int zd), some (.int (nI 0)), none, none, none]) hG dX12_comesTo_15 (by decide) (pm_c1b rfl) rfl ?_
  refine pm_sipush (v := nI 510) hG dX12_comesTo_17 (by decide) ?_
  refine pm_bipush (v := nI 65) hG dX12_comesTo_20 (by decide) ?_
  refine pm_iloadn hG dX12_comesTo_22 rfl ?_
  refine pm_imulN (c := 65 * ba) hG dX12_comesTo_23 (by omega) ?_
  refine pm_iaddN (c := 65 * ba + 510) hG dX12_comesTo_24 (by omega) ?_
  refine pm_iconst (v := nI 5) hG dX12_comesTo_25 (by decide) ?_
  refine pm_iaddN (c := 65 * ba + 515) hG dX12_comesTo_26 (by omega) ?_
  refine pm_istoreXi (loc' := [some (.ref (B + 54)), some (.int (nI ba)), some (.int (-1)), some (.int (nI bc)), some (.int zd), some (.int (nI 0)), some (.int (nI (65 * ba + 515))), none, none]) hG dX12_comesTo_27 (by decide) (pm_c1b rfl) rfl ?_
  refine pm_iloadi hG dX12_comesTo_29 rfl ?_
  refine pm_istoreXi (loc' := [some (.ref (B + 54)), some (.int (nI ba)), some (.int (-1)), some (.int (nI bc)), some (.int zd), some (.int (nI 0)), some (.int (nI (65 * ba + 515))), some (.int (nI (65 * ba + 515))), none]) hG dX12_comesTo_31 (by decide) (pm_c1b rfl) rfl ?_
  obtain ⟨lC, eC, hC, cC⟩ := hr.2.2.2 ba (by omega)
  have fC : n (65 * ba + 514) = nI lC := eC
  have loopC : ∀ (mC : Nat) (rC : Nat) (IC : Nat → Int32) (AC : Nat → Nat → Int32) (jC dC : Nat), cOK (fun q => n (65 * ba + 515 + q)) rC jC dC → dC ≤ jC → jC + rC = lC → rC < mC → pm_wp mX12_comesTo G B 33 [some (.ref (B + 54)), some (.int (nI ba)), some (.int (-1)), some (.int (nI bc)), some (.int zd), some (.int (nI dC)), some (.int (nI (65 * ba + 515))), some (.int (nI (65 * ba + jC + 515))), none] [] 0 0 cnt (pm_mid σ (md_L B IC AC n k z ac wt pl (nI p0) (nI t0) im)) := by
    intro mC
    induction mC with
    | zero => intro rC IC AC jC dC _ _ _ hm; exact absurd hm (Nat.not_lt_zero _)
    | succ mC ihC =>
      intro rC IC AC jC dC kC hdC hjC hmC
      refine pm_iloadi hG dX12_comesTo_33 rfl ?_
      refine pm_iloadi hG dX12_comesTo_35 rfl ?_
      refine pm_aloadn hG dX12_comesTo_37 rfl ?_
      refine pm_getf hG dX12_comesTo_38 (flX12_7 _ rfl) rfl rfl ?_
      refine pm_iloadi hG dX12_comesTo_41 rfl ?_
      refine pm_iconst (v := nI 1) hG dX12_comesTo_43 (by decide) ?_
      refine pm_isubN (c := 65 * ba + 514) hG dX12_comesTo_44 (by omega) ?_
      refine pm_ialdN hG dX12_comesTo_45 rfl (by decide) (by omega) ?_
      refine pm_top (v := nI lC) fC ?_
      refine pm_iaddN (c := 65 * ba + lC + 515) hG dX12_comesTo_46 (by omega) ?_
      refine pm_icmpN_ge (tgt := 177) hG dX12_comesTo_47 rfl (by omega) (by omega) (fun c3 => ?_) (fun c3 => ?_)
      · refine pm_aloadn hG dX12_comesTo_177 rfl ?_
        refine pm_getf hG dX12_comesTo_178 (flX12_31 _ rfl) rfl rfl ?_
        refine pm_iconst (v := nI 0) hG dX12_comesTo_181 (by decide) ?_
        refine pm_ialdN hG dX12_comesTo_182 rfl (by decide) (by omega) ?_
        refine pm_any (fun x4 => ?_)
        exact pm_iret hG hF dX12_comesTo_183 rfl (Nat.le_refl _) (Nat.le_refl _) ⟨_, rfl, ⟨_, _, rfl⟩, rfl⟩
      · refine pm_aloadn hG dX12_comesTo_50 rfl ?_
        refine pm_getf hG dX12_comesTo_51 (flX12_7 _ rfl) rfl rfl ?_
        refine pm_iloadi hG dX12_comesTo_54 rfl ?_
        refine pm_ialdN hG dX12_comesTo_56 rfl (by decide) (by omega) ?_
        refine pm_gen (fun x5 ex5 => ?_)
        refine pm_istoreXi (loc' := [some (.ref (B + 54)), some (.int (nI ba)), some (.int (-1)), some (.int (nI bc)), some (.int zd), some (.int (nI dC)), some (.int (nI (65 * ba + 515))), some (.int (nI (65 * ba + jC + 515))), some (.int x5)]) hG dX12_comesTo_57 (by decide) (pm_c1b rfl) rfl ?_
        obtain ⟨rD, rfl⟩ : ∃ rD : Nat, rC = rD + 1 := ⟨rC - 1, by omega⟩
        have fx : n (65 * ba + 515 + jC) = x5 := by
          rw [show 65 * ba + 515 + jC = 65 * ba + jC + 515 by omega]; exact ex5
        unfold cOK at kC
        rw [fx] at kC
        rcases kC with ⟨g1, g2, g3⟩ | ⟨g1, g2, g3⟩ | ⟨g1, g2, g3, g4⟩
        · refine pm_iloadi hG dX12_comesTo_59 rfl ?_
          refine pm_bipush (v := (-100)) hG dX12_comesTo_61 (by decide) ?_
          refine pm_icmp_le (tgt := 98) hG dX12_comesTo_63 rfl (fun q => absurd q g1) (fun _ => ?_)
          refine pm_aloadn hG dX12_comesTo_66 rfl ?_
          refine pm_getf hG dX12_comesTo_67 (flX12_31 _ rfl) rfl rfl ?_
          refine pm_iloadi hG dX12_comesTo_70 rfl ?_
          refine pm_iloadi hG dX12_comesTo_72 rfl ?_
          refine pm_if_ge (tgt := 89) hG dX12_comesTo_74 rfl (fun _ => ?_) (fun cx => ?_)
          · refine pm_iloadi hG dX12_comesTo_89 rfl ?_
            refine pm_iastN hG dX12_comesTo_91 rfl (by decide) (by omega) ?_
            refine mdn_row (fun A_6 => ?_)
            refine pm_iincX (v := nI (dC + 1)) (loc' := [some (.ref (B + 54)), some (.int (nI ba)), some (.int (-1)), some (.int (nI bc)), some (.int zd), some (.int (nI (dC + 1))), some (.int (nI (65 * ba + 515))), some (.int (nI (65 * ba + jC + 515))), some (.int x5)]) hG dX12_comesTo_92 rfl (nI_1 _) (by decide) (pm_c1b rfl) rfl ?_
            refine pm_goto (tgt := 171) hG dX12_comesTo_95 rfl ?_
            refine pm_iincX (v := nI (65 * ba + jC + 516)) (loc' := [some (.ref (B + 54)), some (.int (nI ba)), some (.int (-1)), some (.int (nI bc)), some (.int zd), some (.int (nI (dC + 1))), some (.int (nI (65 * ba + 515))), some (.int (nI (65 * ba + jC + 516))), some (.int x5)]) hG dX12_comesTo_171 rfl (nI_1 _) (by decide) (pm_c1b rfl) rfl ?_
            refine pm_goto (tgt := 33) hG dX12_comesTo_174 rfl ?_
            refine pm_fg 8 (loc' := [some (.ref (B + 54)), some (.int (nI ba)), some (.int (-1)), some (.int (nI bc)), some (.int zd), some (.int (nI (dC + 1))), some (.int (nI (65 * ba + 515))), some (.int (nI (65 * ba + jC + 516))), none]) rfl ?_
            exact ihC _ _ _ (jC + 1) (dC + 1) g3 (by omega) (by omega) (Nat.lt_of_succ_lt_succ hmC)
          · obtain ⟨kC, hkC, ekC⟩ := g2 (Int32.not_le.mp cx)
            refine pm_aloadn hG dX12_comesTo_77 rfl ?_
            refine pm_getf hG dX12_comesTo_78 (flX12_34 _ rfl) rfl rfl ?_
            refine pm_iconst (v := (-1)) hG dX12_comesTo_81 (by decide) ?_
            refine pm_iloadi hG dX12_comesTo_82 rfl ?_
            refine pm_isub hG dX12_comesTo_84 ?_
            refine pm_top (v := nI kC) ekC ?_
            refine pm_ialdN hG dX12_comesTo_85 rfl (by decide) (by omega) ?_
            refine pm_any (fun x7 => ?_)
            refine pm_goto (tgt := 91) hG dX12_comesTo_86 rfl ?_
            refine pm_iastN hG dX12_comesTo_91 rfl (by decide) (by omega) ?_
            refine mdn_row (fun A_8 => ?_)
            refine pm_iincX (v := nI (dC + 1)) (loc' := [some (.ref (B + 54)), some (.int (nI ba)), some (.int (-1)), some (.int (nI bc)), some (.int zd), some (.int (nI (dC + 1))), some (.int (nI (65 * ba + 515))), some (.int (nI (65 * ba + jC + 515))), some (.int x5)]) hG dX12_comesTo_92 rfl (nI_1 _) (by decide) (pm_c1b rfl) rfl ?_
            refine pm_goto (tgt := 171) hG dX12_comesTo_95 rfl ?_
            refine pm_iincX (v := nI (65 * ba + jC + 516)) (loc' := [some (.ref (B + 54)), some (.int (nI ba)), some (.int (-1)), some (.int (nI bc)), some (.int zd), some (.int (nI (dC + 1))), some (.int (nI (65 * ba + 515))), some (.int (nI (65 * ba + jC + 516))), some (.int x5)]) hG dX12_comesTo_171 rfl (nI_1 _) (by decide) (pm_c1b rfl) rfl ?_
            refine pm_goto (tgt := 33) hG dX12_comesTo_174 rfl ?_
            refine pm_fg 8 (loc' := [some (.ref (B + 54)), some (.int (nI ba)), some (.int (-1)), some (.int (nI bc)), some (.int zd), some (.int (nI (dC + 1))), some (.int (nI (65 * ba + 515))), some (.int (nI (65 * ba + jC + 516))), none]) rfl ?_
            exact ihC _ _ _ (jC + 1) (dC + 1) g3 (by omega) (by omega) (Nat.lt_of_succ_lt_succ hmC)
        · refine pm_iloadi hG dX12_comesTo_59 rfl ?_
          refine pm_top (v := (-133)) g1 ?_
          refine pm_bipush (v := (-100)) hG dX12_comesTo_61 (by decide) ?_
          refine pm_icmp_le (tgt := 98) hG dX12_comesTo_63 rfl (fun _ => ?_) (fun q => absurd q (by decide))
          refine pm_iloadi hG dX12_comesTo_98 rfl ?_
          refine pm_top (v := (-133)) g1 ?_
          refine pm_sipush (v := (-133)) hG dX12_comesTo_100 (by decide) ?_
          refine pm_icmp_ne (tgt := 135) hG dX12_comesTo_103 rfl (fun q => absurd q (by decide)) (fun _ => ?_)
          refine pm_aloadn hG dX12_comesTo_106 rfl ?_
          refine pm_getf hG dX12_comesTo_107 (flX12_31 _ rfl) rfl rfl ?_
          refine pm_iloadi hG dX12_comesTo_110 rfl ?_
          refine pm_iconst (v := nI 1) hG dX12_comesTo_112 (by decide) ?_
          obtain ⟨q9, hq9⟩ : ∃ q9 : Nat, dC = 1 + q9 := ⟨dC - (1), by omega⟩
          refine pm_isubN (c := q9) hG dX12_comesTo_113 (by omega) ?_
          refine pm_aloadn hG dX12_comesTo_114 rfl ?_
          refine pm_getf hG dX12_comesTo_115 (flX12_31 _ rfl) rfl rfl ?_
          refine pm_iloadi hG dX12_comesTo_118 rfl ?_
          refine pm_iconst (v := nI 1) hG dX12_comesTo_120 (by decide) ?_
          obtain ⟨q10, hq10⟩ : ∃ q10 : Nat, dC = 1 + q10 := ⟨dC - (1), by omega⟩
          refine pm_isubN (c := q10) hG dX12_comesTo_121 (by omega) ?_
          refine pm_ialdN hG dX12_comesTo_122 rfl (by decide) (by omega) ?_
          refine pm_any (fun x11 => ?_)
          refine pm_if_ne (tgt := 130) hG dX12_comesTo_123 rfl (fun c12 => ?_) (fun c12 => ?_)
          · refine pm_iconst (v := nI 0) hG dX12_comesTo_130 (by decide) ?_
            refine pm_iastN hG dX12_comesTo_131 rfl (by decide) (by omega) ?_
            refine mdn_row (fun A_13 => ?_)
            refine pm_goto (tgt := 171) hG dX12_comesTo_132 rfl ?_
            refine pm_iincX (v := nI (65 * ba + jC + 516)) (loc' := [some (.ref (B + 54)), some (.int (nI ba)), some (.int (-1)), some (.int (nI bc)), some (.int zd), some (.int (nI dC)), some (.int (nI (65 * ba + 515))), some (.int (nI (65 * ba + jC + 516))), some (.int x5)]) hG dX12_comesTo_171 rfl (nI_1 _) (by decide) (pm_c1b rfl) rfl ?_
            refine pm_goto (tgt := 33) hG dX12_comesTo_174 rfl ?_
            refine pm_fg 8 (loc' := [some (.ref (B + 54)), some (.int (nI ba)), some (.int (-1)), some (.int (nI bc)), some (.int zd), some (.int (nI dC)), some (.int (nI (65 * ba + 515))), some (.int (nI (65 * ba + jC + 516))), none]) rfl ?_
            exact ihC _ _ _ (jC + 1) dC g3 (by omega) (by omega) (Nat.lt_of_succ_lt_succ hmC)
          · refine pm_iconst (v := nI 1) hG dX12_comesTo_126 (by decide) ?_
            refine pm_goto (tgt := 131) hG dX12_comesTo_127 rfl ?_
            refine pm_iastN hG dX12_comesTo_131 rfl (by decide) (by omega) ?_
            refine mdn_row (fun A_14 => ?_)
            refine pm_goto (tgt := 171) hG dX12_comesTo_132 rfl ?_
            refine pm_iincX (v := nI (65 * ba + jC + 516)) (loc' := [some (.ref (B + 54)), some (.int (nI ba)), some (.int (-1)), some (.int (nI bc)), some (.int zd), some (.int (nI dC)), some (.int (nI (65 * ba + 515))), some (.int (nI (65 * ba + jC + 516))), some (.int x5)]) hG dX12_comesTo_171 rfl (nI_1 _) (by decide) (pm_c1b rfl) rfl ?_
            refine pm_goto (tgt := 33) hG dX12_comesTo_174 rfl ?_
            refine pm_fg 8 (loc' := [some (.ref (B + 54)), some (.int (nI ba)), some (.int (-1)), some (.int (nI bc)), some (.int zd), some (.int (nI dC)), some (.int (nI (65 * ba + 515))), some (.int (nI (65 * ba + jC + 516))), none]) rfl ?_
            exact ihC _ _ _ (jC + 1) dC g3 (by omega) (by omega) (Nat.lt_of_succ_lt_succ hmC)
        · refine pm_iloadi hG dX12_comesTo_59 rfl ?_
          refine pm_bipush (v := (-100)) hG dX12_comesTo_61 (by decide) ?_
          refine pm_icmp_le (tgt := 98) hG dX12_comesTo_63 rfl (fun _ => ?_) (fun q => absurd g1 q)
          refine pm_iloadi hG dX12_comesTo_98 rfl ?_
          refine pm_sipush (v := (-133)) hG dX12_comesTo_100 (by decide) ?_
          refine pm_icmp_ne (tgt := 135) hG dX12_comesTo_103 rfl (fun _ => ?_) (fun q => absurd q g2)
          obtain ⟨dD, rfl⟩ : ∃ dD : Nat, dC = dD + 1 + 1 := ⟨dC - 2, by omega⟩
          refine pm_iincX (v := nI (dD + 1)) (loc' := [some (.ref (B + 54)), some (.int (nI ba)), some (.int (-1)), some (.int (nI bc)), some (.int zd), some (.int (nI (dD + 1))), some (.int (nI (65 * ba + 515))), some (.int (nI (65 * ba + jC + 515))), some (.int x5)]) hG dX12_comesTo_135 rfl (pk_m1 (dD + 1)) (by decide) (pm_c1b rfl) rfl ?_
          refine pm_aloadn hG dX12_comesTo_138 rfl ?_
          refine pm_getf hG dX12_comesTo_139 (flX12_31 _ rfl) rfl rfl ?_
          refine pm_iloadi hG dX12_comesTo_142 rfl ?_
          refine pm_iconst (v := nI 1) hG dX12_comesTo_144 (by decide) ?_
          refine pm_isubN (c := dD) hG dX12_comesTo_145 (by omega) ?_
          refine pm_bipush (v := (-100)) hG dX12_comesTo_146 (by decide) ?_
          refine pm_iloadi hG dX12_comesTo_148 rfl ?_
          refine pm_isub hG dX12_comesTo_150 ?_
          refine pm_aloadn hG dX12_comesTo_151 rfl ?_
          refine pm_getf hG dX12_comesTo_152 (flX12_31 _ rfl) rfl rfl ?_
          refine pm_iloadi hG dX12_comesTo_155 rfl ?_
          refine pm_iconst (v := nI 1) hG dX12_comesTo_157 (by decide) ?_
          refine pm_isubN (c := dD) hG dX12_comesTo_158 (by omega) ?_
          refine pm_ialdN hG dX12_comesTo_159 rfl (by decide) (by omega) ?_
          refine pm_any (fun x15 => ?_)
          refine pm_aloadn hG dX12_comesTo_160 rfl ?_
          refine pm_getf hG dX12_comesTo_161 (flX12_31 _ rfl) rfl rfl ?_
          refine pm_iloadi hG dX12_comesTo_164 rfl ?_
          refine pm_ialdN hG dX12_comesTo_166 rfl (by decide) (by omega) ?_
          refine pm_any (fun x16 => ?_)
          refine pm_callS (As := [.int ((-100) - x5), .int x15, .int x16]) (rest := [.int (nI dD), .ref (B + 62)]) hG hR dX12_comesTo_167 (lkX12_208 _ rfl) okS_X12_done (m_done (d := 2) (by decide) hn hz) rfl rfl hdd (Nat.le_refl _) (Nat.le_refl _) (Nat.le_of_ble_eq_true rfl) (pm_ki (fun v17 σ' cnt' hq => ?_))
          obtain ⟨rfl, rfl⟩ := hq
          refine pm_iastN hG dX12_comesTo_170 rfl (by decide) (by omega) ?_
          refine mdn_row (fun A_19 => ?_)
          refine pm_iincX (v := nI (65 * ba + jC + 516)) (loc' := [some (.ref (B + 54)), some (.int (nI ba)), some (.int (-1)), some (.int (nI bc)), some (.int zd), some (.int (nI (dD + 1))), some (.int (nI (65 * ba + 515))), some (.int (nI (65 * ba + jC + 516))), some (.int x5)]) hG dX12_comesTo_171 rfl (nI_1 _) (by decide) (pm_c1b rfl) rfl ?_
          refine pm_goto (tgt := 33) hG dX12_comesTo_174 rfl ?_
          refine pm_fg 8 (loc' := [some (.ref (B + 54)), some (.int (nI ba)), some (.int (-1)), some (.int (nI bc)), some (.int zd), some (.int (nI (dD + 1))), some (.int (nI (65 * ba + 515))), some (.int (nI (65 * ba + jC + 516))), none]) rfl ?_
          exact ihC _ _ _ (jC + 1) (dD + 1) g4 (by omega) (by omega) (Nat.lt_of_succ_lt_succ hmC)
  exact loopC _ lC I2 A2 0 0 cC (Nat.le_refl _) (Nat.zero_add _) (Nat.lt_succ_self _)

set_option maxRecDepth 100000 in
set_option maxHeartbeats 4000000 in
theorem m_says {d B cnt p0 t0 : Nat} {σ : pm_S} {I : Nat → Int32} {A : Nat → Nat → Int32} {n k z : Nat → Int32} {ac wt pl im : Int32} {za zb zc : Int32} (hdd : 4 ≤ d) (hn : KI n) (hr : NR n) (hz : SZ z)  : pm_met mX12_says d 0 0 B [.ref (B + 54), .int za, .int zb, .int zc] cnt (pm_mid σ (md_L B I A n k z ac wt pl (nI p0) (nI t0) im)) (pm_Qi (fun v σ' cnt' => (∃ (I' : Nat → Int32) (A' : Nat → Nat → Int32), σ' = pm_mid σ (md_L B I' A' n k z ac wt pl (nI p0) (nI t0) im)) ∧ cnt = cnt')) := by
  refine pm_enter 0 (by decide) (Nat.le_of_ble_eq_true rfl) rfl (fun G hG hR hF => ?_)
  refine pm_aloadn hG dX12_says_0 rfl ?_
  refine pm_iloadn hG dX12_says_1 rfl ?_
  obtain ⟨k1, hk1, ek1⟩ := KI.nat hn (show kd 4 = (1, 13, false) by decide)
  refine pm_callV (As := [.int za]) (rest := []) hG hR dX12_says_2 (lkX12_192 _ rfl) okV_X12_isLaw rfl rfl (m_isLaw (d := 3) (by decide) ek1 (by omega)) rfl rfl hdd (Nat.le_refl _) (Nat.le_refl _) (by decide) (pm_ki (fun v2 σ' cnt' hq => ?_))
  obtain ⟨hq, rfl, rfl⟩ := hq
  rcases hq with ⟨rfl, k4, hk4, ek4⟩ | rfl
  · refine pm_ifN_eq (tgt := 34) hG dX12_says_5 rfl (by omega) (fun q => absurd q (by omega)) (fun _ => ?_)
    refine pm_iloadn hG dX12_says_8 rfl ?_
    refine pm_iconst (v := (-1)) hG dX12_says_9 (by decide) ?_
    refine pm_icmp_eq (tgt := 21) hG dX12_says_10 rfl (fun c5 => ?_) (fun c5 => ?_)
    · refine pm_iloadn hG dX12_says_21 rfl ?_
      refine pm_iconst (v := (-1)) hG dX12_says_22 (by decide) ?_
      refine pm_icmp_eq (tgt := 40) hG dX12_says_23 rfl (fun c6 => ?_) (fun c6 => ?_)
      · refine pm_aloadn hG dX12_says_40 rfl ?_
        refine pm_iloadn hG dX12_says_41 rfl ?_
        refine pm_top (v := nI k4) ek4 ?_
        refine pm_iloadn hG dX12_says_42 rfl ?_
        refine pm_top (v := (-1)) c5 ?_
        refine pm_iloadn hG dX12_says_43 rfl ?_
        refine pm_top (v := (-1)) c6 ?_
        refine pm_aloadn hG dX12_says_44 rfl ?_
        refine pm_getf hG dX12_says_45 (flX12_7 _ rfl) rfl rfl ?_
        refine pm_bipush (v := nI 8) hG dX12_says_48 (by decide) ?_
        refine pm_ialdN hG dX12_says_50 rfl (by decide) (by omega) ?_
        obtain ⟨k7, hk7, ek7⟩ := KI.nat hn (show kd 8 = (1, 2001, false) by decide)
        refine pm_top (v := nI k7) ek7 ?_
        refine pm_callV (As := [.int (nI k4), .int (-1), .int (-1), .int (nI k7)]) (rest := []) hG hR dX12_says_51 (lkX12_214 _ rfl) okV_X12_comesTo rfl rfl (m_comesTo_n12_m_m (d := 3) (by decide) hn hr hz (by omega)) rfl rfl hdd (Nat.le_refl _) (Nat.le_refl _) (by decide) (pm_ki (fun v8 σ' cnt' hq => ?_))
        obtain ⟨⟨I9, A9, rfl⟩, rfl⟩ := hq
        exact pm_iret hG hF dX12_says_54 rfl (Nat.le_refl _) (Nat.le_refl _) ⟨_, rfl, ⟨_, _, rfl⟩, rfl⟩
      · refine pm_aloadn hG dX12_says_26 rfl ?_
        refine pm_iloadn hG dX12_says_27 rfl ?_
        obtain ⟨k10, hk10, ek10⟩ := KI.nat hn (show kd 5 = (1, 41, true) by decide)
        refine pm_callV (As := [.int zc]) (rest := []) hG hR dX12_says_28 (lkX12_211 _ rfl) okV_X12_isLetter rfl rfl (m_isLetter (d := 3) (by decide) ek10 (by omega)) rfl rfl hdd (Nat.le_refl _) (Nat.le_refl _) (by decide) (pm_ki (fun v11 σ' cnt' hq => ?_))
        obtain ⟨hq, rfl, rfl⟩ := hq
        rcases hq with ⟨rfl, k13, hk13, ek13⟩ | rfl
        · refine pm_ifN_ne (tgt := 40) hG dX12_says_31 rfl (by omega) (fun _ => ?_) (fun q => absurd q (by omega))
          refine pm_aloadn hG dX12_says_40 rfl ?_
          refine pm_iloadn hG dX12_says_41 rfl ?_
          refine pm_top (v := nI k4) ek4 ?_
          refine pm_iloadn hG dX12_says_42 rfl ?_
          refine pm_top (v := (-1)) c5 ?_
          refine pm_iloadn hG dX12_says_43 rfl ?_
          refine pm_top (v := nI k13) ek13 ?_
          refine pm_aloadn hG dX12_says_44 rfl ?_
          refine pm_getf hG dX12_says_45 (flX12_7 _ rfl) rfl rfl ?_
          refine pm_bipush (v := nI 8) hG dX12_says_48 (by decide) ?_
          refine pm_ialdN hG dX12_says_50 rfl (by decide) (by omega) ?_
          obtain ⟨k14, hk14, ek14⟩ := KI.nat hn (show kd 8 = (1, 2001, false) by decide)
          refine pm_top (v := nI k14) ek14 ?_
          refine pm_callV (As := [.int (nI k4), .int (-1), .int (nI k13), .int (nI k14)]) (rest := []) hG hR dX12_says_51 (lkX12_214 _ rfl) okV_X12_comesTo rfl rfl (m_comesTo_n12_m_n40 (d := 3) (by decide) hn hr hz (by omega) (by omega)) rfl rfl hdd (Nat.le_refl _) (Nat.le_refl _) (by decide) (pm_ki (fun v15 σ' cnt' hq => ?_))
          obtain ⟨⟨I16, A16, rfl⟩, rfl⟩ := hq
          exact pm_iret hG hF dX12_says_54 rfl (Nat.le_refl _) (Nat.le_refl _) ⟨_, rfl, ⟨_, _, rfl⟩, rfl⟩
        · refine pm_ifN_ne (tgt := 40) hG dX12_says_31 rfl (by omega) (fun q => absurd q (by omega)) (fun _ => ?_)
          refine pm_aloadn hG dX12_says_34 rfl ?_
          refine pm_iconst (v := nI 1) hG dX12_says_35 (by decide) ?_
          refine pm_callV (As := [.int (nI 1)]) (rest := []) hG hR dX12_says_36 (lkX12_80 _ rfl) okV_X12_finds rfl rfl (m_finds (d := 3) (by decide) hn hz (by omega)) rfl rfl hdd (Nat.le_refl _) (Nat.le_refl _) (by decide) (pm_ki (fun v17 σ' cnt' hq => ?_))
          obtain ⟨⟨I18, A18, rfl⟩, rfl, fv17⟩ := hq
          exact pm_iret hG hF dX12_says_39 rfl (Nat.le_refl _) (Nat.le_refl _) ⟨_, rfl, ⟨_, _, rfl⟩, rfl⟩
    · refine pm_aloadn hG dX12_says_13 rfl ?_
      refine pm_iloadn hG dX12_says_14 rfl ?_
      obtain ⟨k19, hk19, ek19⟩ := KI.nat hn (show kd 2 = (1, 21, true) by decide)
      refine pm_callV (As := [.int zb]) (rest := []) hG hR dX12_says_15 (lkX12_91 _ rfl) okV_X12_isPerson rfl rfl (m_isPerson (d := 3) (by decide) ek19 (by omega)) rfl rfl hdd (Nat.le_refl _) (Nat.le_refl _) (by decide) (pm_ki (fun v20 σ' cnt' hq => ?_))
      obtain ⟨hq, rfl, rfl⟩ := hq
      rcases hq with ⟨rfl, k22, hk22, ek22⟩ | rfl
      · refine pm_ifN_eq (tgt := 34) hG dX12_says_18 rfl (by omega) (fun q => absurd q (by omega)) (fun _ => ?_)
        refine pm_iloadn hG dX12_says_21 rfl ?_
        refine pm_iconst (v := (-1)) hG dX12_says_22 (by decide) ?_
        refine pm_icmp_eq (tgt := 40) hG dX12_says_23 rfl (fun c23 => ?_) (fun c23 => ?_)
        · refine pm_aloadn hG dX12_says_40 rfl ?_
          refine pm_iloadn hG dX12_says_41 rfl ?_
          refine pm_top (v := nI k4) ek4 ?_
          refine pm_iloadn hG dX12_says_42 rfl ?_
          refine pm_top (v := nI k22) ek22 ?_
          refine pm_iloadn hG dX12_says_43 rfl ?_
          refine pm_top (v := (-1)) c23 ?_
          refine pm_aloadn hG dX12_says_44 rfl ?_
          refine pm_getf hG dX12_says_45 (flX12_7 _ rfl) rfl rfl ?_
          refine pm_bipush (v := nI 8) hG dX12_says_48 (by decide) ?_
          refine pm_ialdN hG dX12_says_50 rfl (by decide) (by omega) ?_
          obtain ⟨k24, hk24, ek24⟩ := KI.nat hn (show kd 8 = (1, 2001, false) by decide)
          refine pm_top (v := nI k24) ek24 ?_
          refine pm_callV (As := [.int (nI k4), .int (nI k22), .int (-1), .int (nI k24)]) (rest := []) hG hR dX12_says_51 (lkX12_214 _ rfl) okV_X12_comesTo rfl rfl (m_comesTo_n12_n20_m (d := 3) (by decide) hn hr hz (by omega) (by omega)) rfl rfl hdd (Nat.le_refl _) (Nat.le_refl _) (by decide) (pm_ki (fun v25 σ' cnt' hq => ?_))
          obtain ⟨⟨I26, A26, rfl⟩, rfl⟩ := hq
          exact pm_iret hG hF dX12_says_54 rfl (Nat.le_refl _) (Nat.le_refl _) ⟨_, rfl, ⟨_, _, rfl⟩, rfl⟩
        · refine pm_aloadn hG dX12_says_26 rfl ?_
          refine pm_iloadn hG dX12_says_27 rfl ?_
          obtain ⟨k27, hk27, ek27⟩ := KI.nat hn (show kd 5 = (1, 41, true) by decide)
          refine pm_callV (As := [.int zc]) (rest := []) hG hR dX12_says_28 (lkX12_211 _ rfl) okV_X12_isLetter rfl rfl (m_isLetter (d := 3) (by decide) ek27 (by omega)) rfl rfl hdd (Nat.le_refl _) (Nat.le_refl _) (by decide) (pm_ki (fun v28 σ' cnt' hq => ?_))
          obtain ⟨hq, rfl, rfl⟩ := hq
          rcases hq with ⟨rfl, k30, hk30, ek30⟩ | rfl
          · refine pm_ifN_ne (tgt := 40) hG dX12_says_31 rfl (by omega) (fun _ => ?_) (fun q => absurd q (by omega))
            refine pm_aloadn hG dX12_says_40 rfl ?_
            refine pm_iloadn hG dX12_says_41 rfl ?_
            refine pm_top (v := nI k4) ek4 ?_
            refine pm_iloadn hG dX12_says_42 rfl ?_
            refine pm_top (v := nI k22) ek22 ?_
            refine pm_iloadn hG dX12_says_43 rfl ?_
            refine pm_top (v := nI k30) ek30 ?_
            refine pm_aloadn hG dX12_says_44 rfl ?_
            refine pm_getf hG dX12_says_45 (flX12_7 _ rfl) rfl rfl ?_
            refine pm_bipush (v := nI 8) hG dX12_says_48 (by decide) ?_
            refine pm_ialdN hG dX12_says_50 rfl (by decide) (by omega) ?_
            obtain ⟨k31, hk31, ek31⟩ := KI.nat hn (show kd 8 = (1, 2001, false) by decide)
            refine pm_top (v := nI k31) ek31 ?_
            refine pm_callV (As := [.int (nI k4), .int (nI k22), .int (nI k30), .int (nI k31)]) (rest := []) hG hR dX12_says_51 (lkX12_214 _ rfl) okV_X12_comesTo rfl rfl (m_comesTo_n12_n20_n40 (d := 3) (by decide) hn hr hz (by omega) (by omega) (by omega)) rfl rfl hdd (Nat.le_refl _) (Nat.le_refl _) (by decide) (pm_ki (fun v32 σ' cnt' hq => ?_))
            obtain ⟨⟨I33, A33, rfl⟩, rfl⟩ := hq
            exact pm_iret hG hF dX12_says_54 rfl (Nat.le_refl _) (Nat.le_refl _) ⟨_, rfl, ⟨_, _, rfl⟩, rfl⟩
          · refine pm_ifN_ne (tgt := 40) hG dX12_says_31 rfl (by omega) (fun q => absurd q (by omega)) (fun _ => ?_)
            refine pm_aloadn hG dX12_says_34 rfl ?_
            refine pm_iconst (v := nI 1) hG dX12_says_35 (by decide) ?_
            refine pm_callV (As := [.int (nI 1)]) (rest := []) hG hR dX12_says_36 (lkX12_80 _ rfl) okV_X12_finds rfl rfl (m_finds (d := 3) (by decide) hn hz (by omega)) rfl rfl hdd (Nat.le_refl _) (Nat.le_refl _) (by decide) (pm_ki (fun v34 σ' cnt' hq => ?_))
            obtain ⟨⟨I35, A35, rfl⟩, rfl, fv34⟩ := hq
            exact pm_iret hG hF dX12_says_39 rfl (Nat.le_refl _) (Nat.le_refl _) ⟨_, rfl, ⟨_, _, rfl⟩, rfl⟩
      · refine pm_ifN_eq (tgt := 34) hG dX12_says_18 rfl (by omega) (fun _ => ?_) (fun q => absurd q (by omega))
        refine pm_aloadn hG dX12_says_34 rfl ?_
        refine pm_iconst (v := nI 1) hG dX12_says_35 (by decide) ?_
        refine pm_callV (As := [.int (nI 1)]) (rest := []) hG hR dX12_says_36 (lkX12_80 _ rfl) okV_X12_finds rfl rfl (m_finds (d := 3) (by decide) hn hz (by omega)) rfl rfl hdd (Nat.le_refl _) (Nat.le_refl _) (by decide) (pm_ki (fun v36 σ' cnt' hq => ?_))
        obtain ⟨⟨I37, A37, rfl⟩, rfl, fv36⟩ := hq
        exact pm_iret hG hF dX12_says_39 rfl (Nat.le_refl _) (Nat.le_refl _) ⟨_, rfl, ⟨_, _, rfl⟩, rfl⟩
  · refine pm_ifN_eq (tgt := 34) hG dX12_says_5 rfl (by omega) (fun _ => ?_) (fun q => absurd q (by omega))
    refine pm_aloadn hG dX12_says_34 rfl ?_
    refine pm_iconst (v := nI 1) hG dX12_says_35 (by decide) ?_
    refine pm_callV (As := [.int (nI 1)]) (rest := []) hG hR dX12_says_36 (lkX12_80 _ rfl) okV_X12_finds rfl rfl (m_finds (d := 3) (by decide) hn hz (by omega)) rfl rfl hdd (Nat.le_refl _) (Nat.le_refl _) (by decide) (pm_ki (fun v38 σ' cnt' hq => ?_))
    obtain ⟨⟨I39, A39, rfl⟩, rfl, fv38⟩ := hq
    exact pm_iret hG hF dX12_says_39 rfl (Nat.le_refl _) (Nat.le_refl _) ⟨_, rfl, ⟨_, _, rfl⟩, rfl⟩
