set_option maxRecDepth 100000 in
set_option maxHeartbeats 4000000 in
theorem m_knownTo {d B cnt p0 t0 : Nat} {σ : pm_S} {I : Nat → Int32} {A : Nat → Nat → Int32} {n k z : Nat → Int32} {ac wt pl im : Int32} {y : Nat → Int32} {ba : Nat} (hdd : 3 ≤ d) (hn : KI n) (hz : SZ z) (hba : ba < 20) : pm_met mX12_knownTo d 0 0 B [.ref (B + 54), .int (nI ba)] cnt (pm_mid σ (md_L B I A n k z ac wt pl (nI p0) (nI t0) im y)) (pm_Qi (fun v σ' cnt' => (∃ (I' : Nat → Int32) (A' : Nat → Nat → Int32), σ' = pm_mid σ (md_L B I' A' n k z ac wt pl (nI p0) (nI t0) im y)) ∧ cnt = cnt')) := by
  refine pm_enter 1 (by decide) (Nat.le_of_ble_eq_true rfl) rfl (fun G hG hR hF => ?_)
  refine pm_aloadn hG dX12_knownTo_0 rfl ?_
  refine pm_iloadn hG dX12_knownTo_1 rfl ?_
  refine pm_iconst (v := nI 4) hG dX12_knownTo_2 (by decide) ?_
  refine pm_callV (As := [.int (nI ba), .int (nI 4)]) (rest := []) hG hR dX12_knownTo_3 (lkX12_72 _ rfl) okV_X12_man rfl rfl (m_man (d := 2) (e := 14 * ba + 114) (by omega) (by omega) (by omega)) rfl rfl hdd (Nat.le_refl _) (Nat.le_refl _) (by decide) (pm_ki (fun v1 σ' cnt' hq => ?_))
  obtain ⟨rfl, rfl, rfl⟩ := hq
  rcases KI.opt hn (show kd (14 * ba + 114) = (2, 10, false) from (kd_P (k := ba) (c := 4) (by omega) (by omega) (by decide))) with ek2 | ⟨k2, hk2, ek2⟩
  · refine pm_top (v := (-1)) ek2 ?_
    refine pm_if_lt (tgt := 17) hG dX12_knownTo_6 rfl (fun _ => ?_) (fun q => absurd q (by decide))
    refine pm_aloadn hG dX12_knownTo_17 rfl ?_
    refine pm_iloadn hG dX12_knownTo_18 rfl ?_
    refine pm_bipush (v := nI 10) hG dX12_knownTo_19 (by decide) ?_
    refine pm_callV (As := [.int (nI ba), .int (nI 10)]) (rest := []) hG hR dX12_knownTo_21 (lkX12_72 _ rfl) okV_X12_man rfl rfl (m_man (d := 2) (e := 14 * ba + 120) (by omega) (by omega) (by omega)) rfl rfl hdd (Nat.le_refl _) (Nat.le_refl _) (by decide) (pm_ki (fun v3 σ' cnt' hq => ?_))
    obtain ⟨rfl, rfl, rfl⟩ := hq
    refine pm_gen (fun x4 ex4 => ?_)
    exact pm_iret hG hF dX12_knownTo_24 rfl (Nat.le_refl _) (Nat.le_refl _) ⟨_, rfl, ⟨_, _, rfl⟩, rfl⟩
  · refine pm_top (v := nI k2) ek2 ?_
    refine pm_ifN_lt hG dX12_knownTo_6 rfl (by omega) ?_
    refine pm_aloadn hG dX12_knownTo_9 rfl ?_
    refine pm_iloadn hG dX12_knownTo_10 rfl ?_
    rcases KI.opt hn (show kd (14 * ba + 119) = (2, 2001, false) from (kd_P (k := ba) (c := 9) (by omega) (by omega) (by decide))) with ek5 | ⟨k5, hk5, ek5⟩
    · refine pm_callV (As := [.int (nI ba)]) (rest := []) hG hR dX12_knownTo_11 (lkX12_101 _ rfl) okV_X12_lives rfl rfl (m_lives1 (d := 2) (by decide) (by omega) (by omega : 14 * ba + 119 = 14 * ba + 119) ek5) rfl rfl hdd (Nat.le_refl _) (Nat.le_refl _) (by decide) (pm_ki (fun v6 σ' cnt' hq => ?_))
      obtain ⟨rfl, rfl, rfl⟩ := hq
      refine pm_ifN_ne (tgt := 25) hG dX12_knownTo_14 rfl (by omega) (fun _ => ?_) (fun q => absurd q (by omega))
      refine pm_aloadn hG dX12_knownTo_25 rfl ?_
      refine pm_iconst (v := nI 0) hG dX12_knownTo_26 (by decide) ?_
      refine pm_aloadn hG dX12_knownTo_27 rfl ?_
      refine pm_iloadn hG dX12_knownTo_28 rfl ?_
      refine pm_iconst (v := nI 4) hG dX12_knownTo_29 (by decide) ?_
      refine pm_callV (As := [.int (nI ba), .int (nI 4)]) (rest := [.int (nI 0), .ref (B + 54)]) hG hR dX12_knownTo_30 (lkX12_72 _ rfl) okV_X12_man rfl rfl (m_man (d := 2) (e := 14 * ba + 114) (by omega) (by omega) (by omega)) rfl rfl hdd (Nat.le_refl _) (Nat.le_refl _) (Nat.le_of_ble_eq_true rfl) (pm_ki (fun v7 σ' cnt' hq => ?_))
      obtain ⟨rfl, rfl, rfl⟩ := hq
      refine pm_top (v := nI k2) ek2 ?_
      refine pm_callV (As := [.int (nI 0), .int (nI k2)]) (rest := []) hG hR dX12_knownTo_33 (lkX12_88 _ rfl) okV_X12_farOf rfl rfl (m_farOf (d := 2) (by decide) hn hz (by omega)) rfl rfl hdd (Nat.le_refl _) (Nat.le_refl _) (by decide) (pm_ki (fun v8 σ' cnt' hq => ?_))
      obtain ⟨⟨I9, A9, rfl⟩, rfl⟩ := hq
      refine pm_istoreXn (loc' := [some (.ref (B + 54)), some (.int (nI ba)), some (.int v8)]) hG dX12_knownTo_36 (by decide) (pm_c1b rfl) rfl ?_
      refine pm_iloadn hG dX12_knownTo_37 rfl ?_
      refine pm_if_lt (tgt := 60) hG dX12_knownTo_38 rfl (fun c10 => ?_) (fun c10 => ?_)
      · refine pm_aloadn hG dX12_knownTo_60 rfl ?_
        refine pm_iloadn hG dX12_knownTo_61 rfl ?_
        refine pm_bipush (v := nI 10) hG dX12_knownTo_62 (by decide) ?_
        refine pm_callV (As := [.int (nI ba), .int (nI 10)]) (rest := []) hG hR dX12_knownTo_64 (lkX12_72 _ rfl) okV_X12_man rfl rfl (m_man (d := 2) (e := 14 * ba + 120) (by omega) (by omega) (by omega)) rfl rfl hdd (Nat.le_refl _) (Nat.le_refl _) (by decide) (pm_ki (fun v11 σ' cnt' hq => ?_))
        obtain ⟨rfl, rfl, rfl⟩ := hq
        refine pm_gen (fun x12 ex12 => ?_)
        refine pm_goto (tgt := 79) hG dX12_knownTo_67 rfl ?_
        exact pm_iret hG hF dX12_knownTo_79 rfl (Nat.le_refl _) (Nat.le_refl _) ⟨_, rfl, ⟨_, _, rfl⟩, rfl⟩
      · obtain ⟨k13, hk13, ek13⟩ := nI_of c10
        refine pm_aloadn hG dX12_knownTo_41 rfl ?_
        refine pm_getf hG dX12_knownTo_42 (flX12_7 _ rfl) rfl rfl ?_
        refine pm_bipush (v := nI 8) hG dX12_knownTo_45 (by decide) ?_
        refine pm_ialdN hG dX12_knownTo_47 rfl (by decide) (by omega) ?_
        obtain ⟨k14, hk14, ek14⟩ := KI.nat hn (show kd 8 = (1, 2001, false) by decide)
        refine pm_top (v := nI k14) ek14 ?_
        refine pm_iloadn hG dX12_knownTo_48 rfl ?_
        refine pm_top (v := nI k13) ek13 ?_
        refine pm_isub hG dX12_knownTo_49 ?_
        refine pm_aloadn hG dX12_knownTo_50 rfl ?_
        refine pm_iloadn hG dX12_knownTo_51 rfl ?_
        refine pm_bipush (v := nI 10) hG dX12_knownTo_52 (by decide) ?_
        refine pm_callV (As := [.int (nI ba), .int (nI 10)]) (rest := [.int ((nI k14) - (nI k13))]) hG hR dX12_knownTo_54 (lkX12_72 _ rfl) okV_X12_man rfl rfl (m_man (d := 2) (e := 14 * ba + 120) (by omega) (by omega) (by omega)) rfl rfl hdd (Nat.le_refl _) (Nat.le_refl _) (Nat.le_of_ble_eq_true rfl) (pm_ki (fun v15 σ' cnt' hq => ?_))
        obtain ⟨rfl, rfl, rfl⟩ := hq
        refine pm_gen (fun x16 ex16 => ?_)
        refine pm_icmp_ge (tgt := 70) hG dX12_knownTo_57 rfl (fun c17 => ?_) (fun c17 => ?_)
        · refine pm_aloadn hG dX12_knownTo_70 rfl ?_
          refine pm_getf hG dX12_knownTo_71 (flX12_7 _ rfl) rfl rfl ?_
          refine pm_bipush (v := nI 8) hG dX12_knownTo_74 (by decide) ?_
          refine pm_ialdN hG dX12_knownTo_76 rfl (by decide) (by omega) ?_
          refine pm_top (v := nI k14) ek14 ?_
          refine pm_iloadn hG dX12_knownTo_77 rfl ?_
          refine pm_top (v := nI k13) ek13 ?_
          refine pm_isub hG dX12_knownTo_78 ?_
          exact pm_iret hG hF dX12_knownTo_79 rfl (Nat.le_refl _) (Nat.le_refl _) ⟨_, rfl, ⟨_, _, rfl⟩, rfl⟩
        · refine pm_aloadn hG dX12_knownTo_60 rfl ?_
          refine pm_iloadn hG dX12_knownTo_61 rfl ?_
          refine pm_bipush (v := nI 10) hG dX12_knownTo_62 (by decide) ?_
          refine pm_callV (As := [.int (nI ba), .int (nI 10)]) (rest := []) hG hR dX12_knownTo_64 (lkX12_72 _ rfl) okV_X12_man rfl rfl (m_man (d := 2) (e := 14 * ba + 120) (by omega) (by omega) (by omega)) rfl rfl hdd (Nat.le_refl _) (Nat.le_refl _) (by decide) (pm_ki (fun v18 σ' cnt' hq => ?_))
          obtain ⟨rfl, rfl, rfl⟩ := hq
          refine pm_top (v := x16) ex16 ?_
          refine pm_goto (tgt := 79) hG dX12_knownTo_67 rfl ?_
          exact pm_iret hG hF dX12_knownTo_79 rfl (Nat.le_refl _) (Nat.le_refl _) ⟨_, rfl, ⟨_, _, rfl⟩, rfl⟩
    · refine pm_callV (As := [.int (nI ba)]) (rest := []) hG hR dX12_knownTo_11 (lkX12_101 _ rfl) okV_X12_lives rfl rfl (m_lives0 (d := 2) (by decide) (by omega) (by omega : 14 * ba + 119 = 14 * ba + 119) ek5 (by omega)) rfl rfl hdd (Nat.le_refl _) (Nat.le_refl _) (by decide) (pm_ki (fun v19 σ' cnt' hq => ?_))
      obtain ⟨rfl, rfl, rfl⟩ := hq
      refine pm_ifN_ne (tgt := 25) hG dX12_knownTo_14 rfl (by omega) (fun q => absurd q (by omega)) (fun _ => ?_)
      refine pm_aloadn hG dX12_knownTo_17 rfl ?_
      refine pm_iloadn hG dX12_knownTo_18 rfl ?_
      refine pm_bipush (v := nI 10) hG dX12_knownTo_19 (by decide) ?_
      refine pm_callV (As := [.int (nI ba), .int (nI 10)]) (rest := []) hG hR dX12_knownTo_21 (lkX12_72 _ rfl) okV_X12_man rfl rfl (m_man (d := 2) (e := 14 * ba + 120) (by omega) (by omega) (by omega)) rfl rfl hdd (Nat.le_refl _) (Nat.le_refl _) (by decide) (pm_ki (fun v20 σ' cnt' hq => ?_))
      obtain ⟨rfl, rfl, rfl⟩ := hq
      refine pm_gen (fun x21 ex21 => ?_)
      exact pm_iret hG hF dX12_knownTo_24 rfl (Nat.le_refl _) (Nat.le_refl _) ⟨_, rfl, ⟨_, _, rfl⟩, rfl⟩
