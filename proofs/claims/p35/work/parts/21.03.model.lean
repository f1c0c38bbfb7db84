set_option maxRecDepth 100000 in
set_option maxHeartbeats 4000000 in
theorem m_after {d B cnt p0 t0 : Nat} {σ : pm_S} {I : Nat → Int32} {A : Nat → Nat → Int32} {n k z : Nat → Int32} {ac wt pl im : Int32} {za : Int32} (hdd : 5 ≤ d) (hn : KI n) (hr : NR n) (hz : SZ z)  : pm_met mX12_after d 0 0 B [.ref (B + 54), .int za] cnt (pm_mid σ (md_L B I A n k z ac wt pl (nI p0) (nI t0) im)) (pm_Qi (fun v σ' cnt' => (∃ (I' : Nat → Int32) (A' : Nat → Nat → Int32), σ' = pm_mid σ (md_L B I' A' n k z ac wt pl (nI p0) (nI t0) im)) ∧ cnt = cnt')) := by
  refine pm_enter 2 (by decide) (Nat.le_of_ble_eq_true rfl) rfl (fun G hG hR hF => ?_)
  refine pm_aloadn hG dX12_after_0 rfl ?_
  refine pm_iloadn hG dX12_after_1 rfl ?_
  obtain ⟨k1, hk1, ek1⟩ := KI.nat hn (show kd 3 = (1, 21, false) by decide)
  refine pm_callV (As := [.int za]) (rest := []) hG hR dX12_after_2 (lkX12_132 _ rfl) okV_X12_isPower rfl rfl (m_isPower (d := 4) (by decide) ek1 (by omega)) rfl rfl hdd (Nat.le_refl _) (Nat.le_refl _) (by decide) (pm_ki (fun v2 σ' cnt' hq => ?_))
  obtain ⟨hq, rfl, rfl⟩ := hq
  rcases hq with ⟨rfl, k4, hk4, ek4⟩ | rfl
  · refine pm_ifN_ne (tgt := 14) hG dX12_after_5 rfl (by omega) (fun _ => ?_) (fun q => absurd q (by omega))
    refine pm_aloadn hG dX12_after_14 rfl ?_
    refine pm_callV (As := []) (rest := []) hG hR dX12_after_15 (lkX12_267 _ rfl) okV_X12_ageDay rfl rfl (m_ageDay (d := 4) (by decide) hn hr hz) rfl rfl hdd (Nat.le_refl _) (Nat.le_refl _) (by decide) (pm_ki (fun v5 σ' cnt' hq => ?_))
    obtain ⟨⟨I6, A6, rfl⟩, rfl⟩ := hq
    refine pm_istoreXn (loc' := [some (.ref (B + 54)), some (.int za), some (.int v5), none]) hG dX12_after_18 (by decide) (pm_c1b rfl) rfl ?_
    refine pm_iloadn hG dX12_after_19 rfl ?_
    refine pm_if_ge (tgt := 29) hG dX12_after_20 rfl (fun c7 => ?_) (fun c7 => ?_)
    · obtain ⟨k8, hk8, ek8⟩ := nI_of (Int32.not_lt.mpr c7)
      refine pm_aloadn hG dX12_after_29 rfl ?_
      refine pm_aloadn hG dX12_after_30 rfl ?_
      refine pm_iconst (v := nI 4) hG dX12_after_31 (by decide) ?_
      refine pm_iloadn hG dX12_after_32 rfl ?_
      refine pm_top (v := nI k8) ek8 ?_
      refine pm_aloadn hG dX12_after_33 rfl ?_
      refine pm_getf hG dX12_after_34 (flX12_7 _ rfl) rfl rfl ?_
      refine pm_bipush (v := nI 8) hG dX12_after_37 (by decide) ?_
      refine pm_ialdN hG dX12_after_39 rfl (by decide) (by omega) ?_
      obtain ⟨k9, hk9, ek9⟩ := KI.nat hn (show kd 8 = (1, 2001, false) by decide)
      refine pm_top (v := nI k9) ek9 ?_
      refine pm_callV (As := [.int (nI 4), .int (nI k8), .int (nI k9)]) (rest := [.ref (B + 54)]) hG hR dX12_after_40 (lkX12_195 _ rfl) okV_X12_inForce rfl rfl (m_inForce (d := 4) (by decide) hn hz) rfl rfl hdd (Nat.le_refl _) (Nat.le_refl _) (Nat.le_of_ble_eq_true rfl) (pm_ki (fun v10 σ' cnt' hq => ?_))
      obtain ⟨rfl, rfl, rv10⟩ := hq
      rcases rv10 with rfl | ⟨k12, hk12, rfl⟩
      · refine pm_aloadn hG dX12_after_43 rfl ?_
        refine pm_iloadn hG dX12_after_44 rfl ?_
        refine pm_top (v := nI k4) ek4 ?_
        refine pm_iconst (v := nI 1) hG dX12_after_45 (by decide) ?_
        refine pm_callV (As := [.int (nI k4), .int (nI 1)]) (rest := [.int (-1), .ref (B + 54)]) hG hR dX12_after_46 (lkX12_110 _ rfl) okV_X12_its rfl rfl (m_its (d := 4) (e := 6 * k4 + 391) (by omega) (by omega) (by omega)) rfl rfl hdd (Nat.le_refl _) (Nat.le_refl _) (Nat.le_of_ble_eq_true rfl) (pm_ki (fun v13 σ' cnt' hq => ?_))
        obtain ⟨rfl, rfl, rfl⟩ := hq
        rcases KI.opt hn (show kd (6 * k4 + 391) = (2, 20, false) from (kd_W (k := k4) (c := 1) (by omega) (by omega) (by decide))) with ek14 | ⟨k14, hk14, ek14⟩
        · refine pm_top (v := (-1)) ek14 ?_
          refine pm_iconst (v := (-1)) hG dX12_after_49 (by decide) ?_
          refine pm_iloadn hG dX12_after_50 rfl ?_
          refine pm_top (v := nI k8) ek8 ?_
          refine pm_callV (As := [.int (-1), .int (-1), .int (-1), .int (nI k8)]) (rest := []) hG hR dX12_after_51 (lkX12_214 _ rfl) okV_X12_comesTo rfl rfl (m_comesTo_m_m_m (d := 4) (by decide) hn hr hz) rfl rfl hdd (Nat.le_refl _) (Nat.le_refl _) (by decide) (pm_ki (fun v15 σ' cnt' hq => ?_))
          obtain ⟨⟨I16, A16, rfl⟩, rfl⟩ := hq
          refine pm_istoreXn (loc' := [some (.ref (B + 54)), some (.int za), some (.int v5), some (.int v15)]) hG dX12_after_54 (by decide) (pm_c1b rfl) rfl ?_
          refine pm_iloadn hG dX12_after_55 rfl ?_
          refine pm_if_eq (tgt := 64) hG dX12_after_56 rfl (fun c17 => ?_) (fun c17 => ?_)
          · refine pm_iloadn hG dX12_after_64 rfl ?_
            refine pm_top (v := nI 0) c17 ?_
            refine pm_goto (tgt := 69) hG dX12_after_65 rfl ?_
            exact pm_iret hG hF dX12_after_69 rfl (Nat.le_refl _) (Nat.le_refl _) ⟨_, rfl, ⟨_, _, rfl⟩, rfl⟩
          · refine pm_iloadn hG dX12_after_59 rfl ?_
            refine pm_iconst (v := nI 1) hG dX12_after_60 (by decide) ?_
            refine pm_icmp_ne (tgt := 68) hG dX12_after_61 rfl (fun c18 => ?_) (fun c18 => ?_)
            · refine pm_iconst (v := nI 2) hG dX12_after_68 (by decide) ?_
              exact pm_iret hG hF dX12_after_69 rfl (Nat.le_refl _) (Nat.le_refl _) ⟨_, rfl, ⟨_, _, rfl⟩, rfl⟩
            · refine pm_iloadn hG dX12_after_64 rfl ?_
              refine pm_top (v := nI 1) c18 ?_
              refine pm_goto (tgt := 69) hG dX12_after_65 rfl ?_
              exact pm_iret hG hF dX12_after_69 rfl (Nat.le_refl _) (Nat.le_refl _) ⟨_, rfl, ⟨_, _, rfl⟩, rfl⟩
        · refine pm_top (v := nI k14) ek14 ?_
          refine pm_iconst (v := (-1)) hG dX12_after_49 (by decide) ?_
          refine pm_iloadn hG dX12_after_50 rfl ?_
          refine pm_top (v := nI k8) ek8 ?_
          refine pm_callV (As := [.int (-1), .int (nI k14), .int (-1), .int (nI k8)]) (rest := []) hG hR dX12_after_51 (lkX12_214 _ rfl) okV_X12_comesTo rfl rfl (m_comesTo_m_n20_m (d := 4) (by decide) hn hr hz (by omega)) rfl rfl hdd (Nat.le_refl _) (Nat.le_refl _) (by decide) (pm_ki (fun v19 σ' cnt' hq => ?_))
          obtain ⟨⟨I20, A20, rfl⟩, rfl⟩ := hq
          refine pm_istoreXn (loc' := [some (.ref (B + 54)), some (.int za), some (.int v5), some (.int v19)]) hG dX12_after_54 (by decide) (pm_c1b rfl) rfl ?_
          refine pm_iloadn hG dX12_after_55 rfl ?_
          refine pm_if_eq (tgt := 64) hG dX12_after_56 rfl (fun c21 => ?_) (fun c21 => ?_)
          · refine pm_iloadn hG dX12_after_64 rfl ?_
            refine pm_top (v := nI 0) c21 ?_
            refine pm_goto (tgt := 69) hG dX12_after_65 rfl ?_
            exact pm_iret hG hF dX12_after_69 rfl (Nat.le_refl _) (Nat.le_refl _) ⟨_, rfl, ⟨_, _, rfl⟩, rfl⟩
          · refine pm_iloadn hG dX12_after_59 rfl ?_
            refine pm_iconst (v := nI 1) hG dX12_after_60 (by decide) ?_
            refine pm_icmp_ne (tgt := 68) hG dX12_after_61 rfl (fun c22 => ?_) (fun c22 => ?_)
            · refine pm_iconst (v := nI 2) hG dX12_after_68 (by decide) ?_
              exact pm_iret hG hF dX12_after_69 rfl (Nat.le_refl _) (Nat.le_refl _) ⟨_, rfl, ⟨_, _, rfl⟩, rfl⟩
            · refine pm_iloadn hG dX12_after_64 rfl ?_
              refine pm_top (v := nI 1) c22 ?_
              refine pm_goto (tgt := 69) hG dX12_after_65 rfl ?_
              exact pm_iret hG hF dX12_after_69 rfl (Nat.le_refl _) (Nat.le_refl _) ⟨_, rfl, ⟨_, _, rfl⟩, rfl⟩
      · refine pm_aloadn hG dX12_after_43 rfl ?_
        refine pm_iloadn hG dX12_after_44 rfl ?_
        refine pm_top (v := nI k4) ek4 ?_
        refine pm_iconst (v := nI 1) hG dX12_after_45 (by decide) ?_
        refine pm_callV (As := [.int (nI k4), .int (nI 1)]) (rest := [.int (nI k12), .ref (B + 54)]) hG hR dX12_after_46 (lkX12_110 _ rfl) okV_X12_its rfl rfl (m_its (d := 4) (e := 6 * k4 + 391) (by omega) (by omega) (by omega)) rfl rfl hdd (Nat.le_refl _) (Nat.le_refl _) (Nat.le_of_ble_eq_true rfl) (pm_ki (fun v23 σ' cnt' hq => ?_))
        obtain ⟨rfl, rfl, rfl⟩ := hq
        rcases KI.opt hn (show kd (6 * k4 + 391) = (2, 20, false) from (kd_W (k := k4) (c := 1) (by omega) (by omega) (by decide))) with ek24 | ⟨k24, hk24, ek24⟩
        · refine pm_top (v := (-1)) ek24 ?_
          refine pm_iconst (v := (-1)) hG dX12_after_49 (by decide) ?_
          refine pm_iloadn hG dX12_after_50 rfl ?_
          refine pm_top (v := nI k8) ek8 ?_
          refine pm_callV (As := [.int (nI k12), .int (-1), .int (-1), .int (nI k8)]) (rest := []) hG hR dX12_after_51 (lkX12_214 _ rfl) okV_X12_comesTo rfl rfl (m_comesTo_n12_m_m (d := 4) (by decide) hn hr hz (by omega)) rfl rfl hdd (Nat.le_refl _) (Nat.le_refl _) (by decide) (pm_ki (fun v25 σ' cnt' hq => ?_))
          obtain ⟨⟨I26, A26, rfl⟩, rfl⟩ := hq
          refine pm_istoreXn (loc' := [some (.ref (B + 54)), some (.int za), some (.int v5), some (.int v25)]) hG dX12_after_54 (by decide) (pm_c1b rfl) rfl ?_
          refine pm_iloadn hG dX12_after_55 rfl ?_
          refine pm_if_eq (tgt := 64) hG dX12_after_56 rfl (fun c27 => ?_) (fun c27 => ?_)
          · refine pm_iloadn hG dX12_after_64 rfl ?_
            refine pm_top (v := nI 0) c27 ?_
            refine pm_goto (tgt := 69) hG dX12_after_65 rfl ?_
            exact pm_iret hG hF dX12_after_69 rfl (Nat.le_refl _) (Nat.le_refl _) ⟨_, rfl, ⟨_, _, rfl⟩, rfl⟩
          · refine pm_iloadn hG dX12_after_59 rfl ?_
            refine pm_iconst (v := nI 1) hG dX12_after_60 (by decide) ?_
            refine pm_icmp_ne (tgt := 68) hG dX12_after_61 rfl (fun c28 => ?_) (fun c28 => ?_)
            · refine pm_iconst (v := nI 2) hG dX12_after_68 (by decide) ?_
              exact pm_iret hG hF dX12_after_69 rfl (Nat.le_refl _) (Nat.le_refl _) ⟨_, rfl, ⟨_, _, rfl⟩, rfl⟩
            · refine pm_iloadn hG dX12_after_64 rfl ?_
              refine pm_top (v := nI 1) c28 ?_
              refine pm_goto (tgt := 69) hG dX12_after_65 rfl ?_
              exact pm_iret hG hF dX12_after_69 rfl (Nat.le_refl _) (Nat.le_refl _) ⟨_, rfl, ⟨_, _, rfl⟩, rfl⟩
        · refine pm_top (v := nI k24) ek24 ?_
          refine pm_iconst (v := (-1)) hG dX12_after_49 (by decide) ?_
          refine pm_iloadn hG dX12_after_50 rfl ?_
          refine pm_top (v := nI k8) ek8 ?_
          refine pm_callV (As := [.int (nI k12), .int (nI k24), .int (-1), .int (nI k8)]) (rest := []) hG hR dX12_after_51 (lkX12_214 _ rfl) okV_X12_comesTo rfl rfl (m_comesTo_n12_n20_m (d := 4) (by decide) hn hr hz (by omega) (by omega)) rfl rfl hdd (Nat.le_refl _) (Nat.le_refl _) (by decide) (pm_ki (fun v29 σ' cnt' hq => ?_))
          obtain ⟨⟨I30, A30, rfl⟩, rfl⟩ := hq
          refine pm_istoreXn (loc' := [some (.ref (B + 54)), some (.int za), some (.int v5), some (.int v29)]) hG dX12_after_54 (by decide) (pm_c1b rfl) rfl ?_
          refine pm_iloadn hG dX12_after_55 rfl ?_
          refine pm_if_eq (tgt := 64) hG dX12_after_56 rfl (fun c31 => ?_) (fun c31 => ?_)
          · refine pm_iloadn hG dX12_after_64 rfl ?_
            refine pm_top (v := nI 0) c31 ?_
            refine pm_goto (tgt := 69) hG dX12_after_65 rfl ?_
            exact pm_iret hG hF dX12_after_69 rfl (Nat.le_refl _) (Nat.le_refl _) ⟨_, rfl, ⟨_, _, rfl⟩, rfl⟩
          · refine pm_iloadn hG dX12_after_59 rfl ?_
            refine pm_iconst (v := nI 1) hG dX12_after_60 (by decide) ?_
            refine pm_icmp_ne (tgt := 68) hG dX12_after_61 rfl (fun c32 => ?_) (fun c32 => ?_)
            · refine pm_iconst (v := nI 2) hG dX12_after_68 (by decide) ?_
              exact pm_iret hG hF dX12_after_69 rfl (Nat.le_refl _) (Nat.le_refl _) ⟨_, rfl, ⟨_, _, rfl⟩, rfl⟩
            · refine pm_iloadn hG dX12_after_64 rfl ?_
              refine pm_top (v := nI 1) c32 ?_
              refine pm_goto (tgt := 69) hG dX12_after_65 rfl ?_
              exact pm_iret hG hF dX12_after_69 rfl (Nat.le_refl _) (Nat.le_refl _) ⟨_, rfl, ⟨_, _, rfl⟩, rfl⟩
    · refine pm_aloadn hG dX12_after_23 rfl ?_
      refine pm_iconst (v := nI 2) hG dX12_after_24 (by decide) ?_
      refine pm_callV (As := [.int (nI 2)]) (rest := []) hG hR dX12_after_25 (lkX12_80 _ rfl) okV_X12_finds rfl rfl (m_finds (d := 4) (by decide) hn hz (by omega)) rfl rfl hdd (Nat.le_refl _) (Nat.le_refl _) (by decide) (pm_ki (fun v33 σ' cnt' hq => ?_))
      obtain ⟨⟨I34, A34, rfl⟩, rfl, fv33⟩ := hq
      exact pm_iret hG hF dX12_after_28 rfl (Nat.le_refl _) (Nat.le_refl _) ⟨_, rfl, ⟨_, _, rfl⟩, rfl⟩
  · refine pm_ifN_ne (tgt := 14) hG dX12_after_5 rfl (by omega) (fun q => absurd q (by omega)) (fun _ => ?_)
    refine pm_aloadn hG dX12_after_8 rfl ?_
    refine pm_iconst (v := nI 1) hG dX12_after_9 (by decide) ?_
    refine pm_callV (As := [.int (nI 1)]) (rest := []) hG hR dX12_after_10 (lkX12_80 _ rfl) okV_X12_finds rfl rfl (m_finds (d := 4) (by decide) hn hz (by omega)) rfl rfl hdd (Nat.le_refl _) (Nat.le_refl _) (by decide) (pm_ki (fun v35 σ' cnt' hq => ?_))
    obtain ⟨⟨I36, A36, rfl⟩, rfl, fv35⟩ := hq
    exact pm_iret hG hF dX12_after_13 rfl (Nat.le_refl _) (Nat.le_refl _) ⟨_, rfl, ⟨_, _, rfl⟩, rfl⟩

set_option maxRecDepth 100000 in
set_option maxHeartbeats 4000000 in
theorem m_age {d B cnt p0 t0 : Nat} {σ : pm_S} {I : Nat → Int32} {A : Nat → Nat → Int32} {n k z : Nat → Int32} {ac wt pl im : Int32} (hdd : 5 ≤ d) (hn : KI n) (hr : NR n) (hz : SZ z)  : pm_met mX12_age d 0 0 B [.ref (B + 54)] cnt (pm_mid σ (md_L B I A n k z ac wt pl (nI p0) (nI t0) im)) (pm_Qi (fun v σ' cnt' => (∃ (I' : Nat → Int32) (A' : Nat → Nat → Int32), σ' = pm_mid σ (md_L B I' A' n k z ac wt pl (nI p0) (nI t0) im)) ∧ cnt = cnt')) := by
  refine pm_enter 1 (by decide) (Nat.le_of_ble_eq_true rfl) rfl (fun G hG hR hF => ?_)
  refine pm_aloadn hG dX12_age_0 rfl ?_
  refine pm_callV (As := []) (rest := []) hG hR dX12_age_1 (lkX12_267 _ rfl) okV_X12_ageDay rfl rfl (m_ageDay (d := 4) (by decide) hn hr hz) rfl rfl hdd (Nat.le_refl _) (Nat.le_refl _) (by decide) (pm_ki (fun v1 σ' cnt' hq => ?_))
  obtain ⟨⟨I2, A2, rfl⟩, rfl⟩ := hq
  refine pm_istoreXn (loc' := [some (.ref (B + 54)), some (.int v1)]) hG dX12_age_4 (by decide) (pm_c1b rfl) rfl ?_
  refine pm_iloadn hG dX12_age_5 rfl ?_
  refine pm_if_ge (tgt := 17) hG dX12_age_6 rfl (fun c3 => ?_) (fun c3 => ?_)
  · obtain ⟨k4, hk4, ek4⟩ := nI_of (Int32.not_lt.mpr c3)
    refine pm_iloadn hG dX12_age_17 rfl ?_
    refine pm_top (v := nI k4) ek4 ?_
    exact pm_iret hG hF dX12_age_18 rfl (Nat.le_refl _) (Nat.le_refl _) ⟨_, rfl, ⟨_, _, rfl⟩, rfl⟩
  · refine pm_aloadn hG dX12_age_9 rfl ?_
    refine pm_iconst (v := nI 2) hG dX12_age_10 (by decide) ?_
    refine pm_callV (As := [.int (nI 2)]) (rest := []) hG hR dX12_age_11 (lkX12_80 _ rfl) okV_X12_finds rfl rfl (m_finds (d := 4) (by decide) hn hz (by omega)) rfl rfl hdd (Nat.le_refl _) (Nat.le_refl _) (by decide) (pm_ki (fun v5 σ' cnt' hq => ?_))
    obtain ⟨⟨I6, A6, rfl⟩, rfl, fv5⟩ := hq
    refine pm_goto (tgt := 18) hG dX12_age_14 rfl ?_
    exact pm_iret hG hF dX12_age_18 rfl (Nat.le_refl _) (Nat.le_refl _) ⟨_, rfl, ⟨_, _, rfl⟩, rfl⟩

set_option maxRecDepth 100000 in
set_option maxHeartbeats 4000000 in
theorem m_isUnder {d B cnt p0 t0 : Nat} {σ : pm_S} {I : Nat → Int32} {A : Nat → Nat → Int32} {n k z : Nat → Int32} {ac wt pl im : Int32} {za zb : Int32} (hdd : 1 ≤ d) (hn : KI n) (hz : SZ z)  : pm_met mX12_isUnder d 0 0 B [.int za, .int zb] cnt (pm_mid σ (md_L B I A n k z ac wt pl (nI p0) (nI t0) im)) (pm_Qi (fun v σ' cnt' => σ' = pm_mid σ (md_L B I A n k z ac wt pl (nI p0) (nI t0) im) ∧ cnt = cnt' ∧ (v = 0 ∨ v = 1))) := by
  refine pm_enter 0 (by decide) (Nat.le_of_ble_eq_true rfl) rfl (fun G hG hR hF => ?_)
  refine pm_iloadn hG dX12_isUnder_0 rfl ?_
  refine pm_if_eq (tgt := 34) hG dX12_isUnder_1 rfl (fun c1 => ?_) (fun c1 => ?_)
  · refine pm_iconst (v := nI 1) hG dX12_isUnder_34 (by decide) ?_
    refine pm_goto (tgt := 39) hG dX12_isUnder_35 rfl ?_
    exact pm_zret hG hF dX12_isUnder_39 rfl (pm_nz (Or.inr rfl)) (Nat.le_refl _) (Nat.le_refl _) ⟨_, rfl, rfl, rfl, (Or.inr rfl)⟩
  · refine pm_iloadn hG dX12_isUnder_4 rfl ?_
    refine pm_iloadn hG dX12_isUnder_5 rfl ?_
    refine pm_icmp_eq (tgt := 34) hG dX12_isUnder_6 rfl (fun c2 => ?_) (fun c2 => ?_)
    · refine pm_iconst (v := nI 1) hG dX12_isUnder_34 (by decide) ?_
      refine pm_goto (tgt := 39) hG dX12_isUnder_35 rfl ?_
      exact pm_zret hG hF dX12_isUnder_39 rfl (pm_nz (Or.inr rfl)) (Nat.le_refl _) (Nat.le_refl _) ⟨_, rfl, rfl, rfl, (Or.inr rfl)⟩
    · refine pm_iloadn hG dX12_isUnder_9 rfl ?_
      refine pm_iconst (v := nI 1) hG dX12_isUnder_10 (by decide) ?_
      refine pm_icmp_ne (tgt := 24) hG dX12_isUnder_11 rfl (fun c3 => ?_) (fun c3 => ?_)
      · refine pm_iloadn hG dX12_isUnder_24 rfl ?_
        refine pm_iconst (v := nI 3) hG dX12_isUnder_25 (by decide) ?_
        refine pm_icmp_ne (tgt := 38) hG dX12_isUnder_26 rfl (fun c4 => ?_) (fun c4 => ?_)
        · refine pm_iconst (v := nI 0) hG dX12_isUnder_38 (by decide) ?_
          exact pm_zret hG hF dX12_isUnder_39 rfl (pm_nz (Or.inl rfl)) (Nat.le_refl _) (Nat.le_refl _) ⟨_, rfl, rfl, rfl, (Or.inl rfl)⟩
        · refine pm_iloadn hG dX12_isUnder_29 rfl ?_
          refine pm_iconst (v := nI 4) hG dX12_isUnder_30 (by decide) ?_
          refine pm_icmp_ne (tgt := 38) hG dX12_isUnder_31 rfl (fun c5 => ?_) (fun c5 => ?_)
          · refine pm_iconst (v := nI 0) hG dX12_isUnder_38 (by decide) ?_
            exact pm_zret hG hF dX12_isUnder_39 rfl (pm_nz (Or.inl rfl)) (Nat.le_refl _) (Nat.le_refl _) ⟨_, rfl, rfl, rfl, (Or.inl rfl)⟩
          · refine pm_iconst (v := nI 1) hG dX12_isUnder_34 (by decide) ?_
            refine pm_goto (tgt := 39) hG dX12_isUnder_35 rfl ?_
            exact pm_zret hG hF dX12_isUnder_39 rfl (pm_nz (Or.inr rfl)) (Nat.le_refl _) (Nat.le_refl _) ⟨_, rfl, rfl, rfl, (Or.inr rfl)⟩
      · refine pm_iloadn hG dX12_isUnder_14 rfl ?_
        refine pm_iconst (v := nI 3) hG dX12_isUnder_15 (by decide) ?_
        refine pm_icmp_eq (tgt := 34) hG dX12_isUnder_16 rfl (fun c6 => ?_) (fun c6 => ?_)
        · refine pm_iconst (v := nI 1) hG dX12_isUnder_34 (by decide) ?_
          refine pm_goto (tgt := 39) hG dX12_isUnder_35 rfl ?_
          exact pm_zret hG hF dX12_isUnder_39 rfl (pm_nz (Or.inr rfl)) (Nat.le_refl _) (Nat.le_refl _) ⟨_, rfl, rfl, rfl, (Or.inr rfl)⟩
        · refine pm_iloadn hG dX12_isUnder_19 rfl ?_
          refine pm_iconst (v := nI 4) hG dX12_isUnder_20 (by decide) ?_
          refine pm_icmp_eq (tgt := 34) hG dX12_isUnder_21 rfl (fun c7 => ?_) (fun c7 => ?_)
          · refine pm_iconst (v := nI 1) hG dX12_isUnder_34 (by decide) ?_
            refine pm_goto (tgt := 39) hG dX12_isUnder_35 rfl ?_
            exact pm_zret hG hF dX12_isUnder_39 rfl (pm_nz (Or.inr rfl)) (Nat.le_refl _) (Nat.le_refl _) ⟨_, rfl, rfl, rfl, (Or.inr rfl)⟩
          · refine pm_iloadn hG dX12_isUnder_24 rfl ?_
            refine pm_top (v := nI 1) c3 ?_
            refine pm_iconst (v := nI 3) hG dX12_isUnder_25 (by decide) ?_
            refine pm_icmpN_ne (tgt := 38) hG dX12_isUnder_26 rfl (by omega) (by omega) (fun _ => ?_) (fun q => absurd q (by omega))
            refine pm_iconst (v := nI 0) hG dX12_isUnder_38 (by decide) ?_
            exact pm_zret hG hF dX12_isUnder_39 rfl (pm_nz (Or.inl rfl)) (Nat.le_refl _) (Nat.le_refl _) ⟨_, rfl, rfl, rfl, (Or.inl rfl)⟩

set_option maxRecDepth 100000 in
set_option maxHeartbeats 4000000 in
theorem m_as {d B cnt p0 t0 : Nat} {σ : pm_S} {I : Nat → Int32} {A : Nat → Nat → Int32} {n k z : Nat → Int32} {ac wt pl im : Int32} {za zb : Int32} (hdd : 2 ≤ d) (hn : KI n) (hz : SZ z)  : pm_met mX12_as d 0 0 B [.ref (B + 54), .int za, .int zb] cnt (pm_mid σ (md_L B I A n k z ac wt pl (nI p0) (nI t0) im)) (pm_Qi (fun v σ' cnt' => (∃ (I' : Nat → Int32) (A' : Nat → Nat → Int32), σ' = pm_mid σ (md_L B I' A' n k z ac wt pl (nI p0) (nI t0) im)) ∧ cnt = cnt')) := by
  refine pm_enter 0 (by decide) (Nat.le_of_ble_eq_true rfl) rfl (fun G hG hR hF => ?_)
  refine pm_aloadn hG dX12_as_0 rfl ?_
  refine pm_iloadn hG dX12_as_1 rfl ?_
  obtain ⟨k1, hk1, ek1⟩ := KI.nat hn (show kd 3 = (1, 21, false) by decide)
  refine pm_callV (As := [.int za]) (rest := []) hG hR dX12_as_2 (lkX12_132 _ rfl) okV_X12_isPower rfl rfl (m_isPower (d := 1) (by decide) ek1 (by omega)) rfl rfl hdd (Nat.le_refl _) (Nat.le_refl _) (by decide) (pm_ki (fun v2 σ' cnt' hq => ?_))
  obtain ⟨hq, rfl, rfl⟩ := hq
  rcases hq with ⟨rfl, k4, hk4, ek4⟩ | rfl
  · refine pm_ifN_eq (tgt := 17) hG dX12_as_5 rfl (by omega) (fun q => absurd q (by omega)) (fun _ => ?_)
    refine pm_iloadn hG dX12_as_8 rfl ?_
    refine pm_iconst (v := nI 0) hG dX12_as_9 (by decide) ?_
    refine pm_iconst (v := nI 5) hG dX12_as_10 (by decide) ?_
    refine pm_callS (As := [.int zb, .int (nI 0), .int (nI 5)]) (rest := []) hG hR dX12_as_11 (lkX12_68 _ rfl) okS_X12_in (m_in (d := 1)) rfl rfl hdd (Nat.le_refl _) (Nat.le_refl _) (by decide) (pm_ki (fun v5 σ' cnt' hq => ?_))
    obtain ⟨hq, rfl, rfl⟩ := hq
    rcases hq with ⟨rfl, ac6, bc6⟩ | ⟨rfl, c6⟩
    · obtain ⟨k7, hk7, ek7⟩ := in_nat (by omega) (by omega) ac6 bc6
      refine pm_ifN_ne (tgt := 23) hG dX12_as_14 rfl (by omega) (fun _ => ?_) (fun q => absurd q (by omega))
      refine pm_aloadn hG dX12_as_23 rfl ?_
      refine pm_iloadn hG dX12_as_24 rfl ?_
      refine pm_top (v := nI k4) ek4 ?_
      refine pm_iconst (v := nI 0) hG dX12_as_25 (by decide) ?_
      refine pm_callV (As := [.int (nI k4), .int (nI 0)]) (rest := []) hG hR dX12_as_26 (lkX12_110 _ rfl) okV_X12_its rfl rfl (m_its (d := 1) (e := 6 * k4 + 390) (by omega) (by omega) (by omega)) rfl rfl hdd (Nat.le_refl _) (Nat.le_refl _) (by decide) (pm_ki (fun v8 σ' cnt' hq => ?_))
      obtain ⟨rfl, rfl, rfl⟩ := hq
      refine pm_gen (fun x9 ex9 => ?_)
      refine pm_iloadn hG dX12_as_29 rfl ?_
      refine pm_top (v := nI k7) ek7 ?_
      refine pm_callS (As := [.int x9, .int (nI k7)]) (rest := []) hG hR dX12_as_30 (lkX12_135 _ rfl) okS_X12_isUnder (m_isUnder (d := 1) (by decide) hn hz) rfl rfl hdd (Nat.le_refl _) (Nat.le_refl _) (by decide) (pm_ki (fun v10 σ' cnt' hq => ?_))
      obtain ⟨rfl, rfl, bv10⟩ := hq
      refine pm_if_eq (tgt := 45) hG dX12_as_33 rfl (fun c12 => ?_) (fun c12 => ?_)
      · refine pm_aloadn hG dX12_as_45 rfl ?_
        refine pm_iconst (v := nI 5) hG dX12_as_46 (by decide) ?_
        refine pm_callV (As := [.int (nI 5)]) (rest := []) hG hR dX12_as_47 (lkX12_80 _ rfl) okV_X12_finds rfl rfl (m_finds (d := 1) (by decide) hn hz (by omega)) rfl rfl hdd (Nat.le_refl _) (Nat.le_refl _) (by decide) (pm_ki (fun v13 σ' cnt' hq => ?_))
        obtain ⟨⟨I14, A14, rfl⟩, rfl, fv13⟩ := hq
        exact pm_iret hG hF dX12_as_50 rfl (Nat.le_refl _) (Nat.le_refl _) ⟨_, rfl, ⟨_, _, rfl⟩, rfl⟩
      · refine pm_aloadn hG dX12_as_36 rfl ?_
        refine pm_iloadn hG dX12_as_37 rfl ?_
        refine pm_top (v := nI k4) ek4 ?_
        refine pm_iconst (v := nI 4) hG dX12_as_38 (by decide) ?_
        refine pm_callV (As := [.int (nI k4), .int (nI 4)]) (rest := []) hG hR dX12_as_39 (lkX12_110 _ rfl) okV_X12_its rfl rfl (m_its (d := 1) (e := 6 * k4 + 394) (by omega) (by omega) (by omega)) rfl rfl hdd (Nat.le_refl _) (Nat.le_refl _) (by decide) (pm_ki (fun v15 σ' cnt' hq => ?_))
        obtain ⟨rfl, rfl, rfl⟩ := hq
        refine pm_gen (fun x16 ex16 => ?_)
        refine pm_goto (tgt := 50) hG dX12_as_42 rfl ?_
        exact pm_iret hG hF dX12_as_50 rfl (Nat.le_refl _) (Nat.le_refl _) ⟨_, rfl, ⟨_, _, rfl⟩, rfl⟩
    · refine pm_ifN_ne (tgt := 23) hG dX12_as_14 rfl (by omega) (fun q => absurd q (by omega)) (fun _ => ?_)
      refine pm_aloadn hG dX12_as_17 rfl ?_
      refine pm_iconst (v := nI 1) hG dX12_as_18 (by decide) ?_
      refine pm_callV (As := [.int (nI 1)]) (rest := []) hG hR dX12_as_19 (lkX12_80 _ rfl) okV_X12_finds rfl rfl (m_finds (d := 1) (by decide) hn hz (by omega)) rfl rfl hdd (Nat.le_refl _) (Nat.le_refl _) (by decide) (pm_ki (fun v17 σ' cnt' hq => ?_))
      obtain ⟨⟨I18, A18, rfl⟩, rfl, fv17⟩ := hq
      exact pm_iret hG hF dX12_as_22 rfl (Nat.le_refl _) (Nat.le_refl _) ⟨_, rfl, ⟨_, _, rfl⟩, rfl⟩
  · refine pm_ifN_eq (tgt := 17) hG dX12_as_5 rfl (by omega) (fun _ => ?_) (fun q => absurd q (by omega))
    refine pm_aloadn hG dX12_as_17 rfl ?_
    refine pm_iconst (v := nI 1) hG dX12_as_18 (by decide) ?_
    refine pm_callV (As := [.int (nI 1)]) (rest := []) hG hR dX12_as_19 (lkX12_80 _ rfl) okV_X12_finds rfl rfl (m_finds (d := 1) (by decide) hn hz (by omega)) rfl rfl hdd (Nat.le_refl _) (Nat.le_refl _) (by decide) (pm_ki (fun v19 σ' cnt' hq => ?_))
    obtain ⟨⟨I20, A20, rfl⟩, rfl, fv19⟩ := hq
    exact pm_iret hG hF dX12_as_22 rfl (Nat.le_refl _) (Nat.le_refl _) ⟨_, rfl, ⟨_, _, rfl⟩, rfl⟩

set_option maxRecDepth 100000 in
set_option maxHeartbeats 4000000 in
theorem m_bindsPower {d B cnt p0 t0 : Nat} {σ : pm_S} {I : Nat → Int32} {A : Nat → Nat → Int32} {n k z : Nat → Int32} {ac wt pl im : Int32} {zb : Int32} {ba : Nat} (hdd : 5 ≤ d) (hn : KI n) (hz : SZ z) (ht0 : t0 ≤ 40) (hba : ba < 20) : pm_met mX12_bindsPower d 0 0 B [.ref (B + 54), .int (nI ba), .int zb] cnt (pm_mid σ (md_L B I A n k z ac wt pl (nI p0) (nI t0) im)) (pm_Qi (fun v σ' cnt' => (∃ (I' : Nat → Int32) (A' : Nat → Nat → Int32) (t0' : Nat), σ' = pm_mid σ (md_L B I' A' n k z ac wt pl (nI p0) (nI t0') im) ∧ t0' ≤ 40) ∧ cnt = cnt')) := by
  refine pm_enter 0 (by decide) (Nat.le_of_ble_eq_true rfl) rfl (fun G hG hR hF => ?_)
  refine pm_aloadn hG dX12_bindsPower_0 rfl ?_
  refine pm_bipush (v := nI 11) hG dX12_bindsPower_1 (by decide) ?_
  refine pm_callV (As := [.int (nI 11)]) (rest := []) hG hR dX12_bindsPower_3 (lkX12_286 _ rfl) okV_X12_ran rfl rfl (m_ran (d := 4) (by decide) hn hz (by omega)) rfl rfl hdd (Nat.le_refl _) (Nat.le_refl _) (by decide) (pm_kv (fun σ' cnt' hq => ?_))
  obtain ⟨⟨I2, A2, t2, rfl, ht2⟩, rfl⟩ := hq
  refine pm_aloadn hG dX12_bindsPower_6 rfl ?_
  refine pm_iloadn hG dX12_bindsPower_7 rfl ?_
  refine pm_iloadn hG dX12_bindsPower_8 rfl ?_
  refine pm_callV (As := [.int (nI ba), .int zb]) (rest := []) hG hR dX12_bindsPower_9 (lkX12_295 _ rfl) okV_X12_actsOf rfl rfl (m_actsOf (d := 4) (by decide) hn hz (by omega) (by omega)) rfl rfl hdd (Nat.le_refl _) (Nat.le_refl _) (by decide) (pm_ki (fun v3 σ' cnt' hq => ?_))
  obtain ⟨⟨I4, A4, t4, rfl, ht4⟩, rfl⟩ := hq
  refine pm_iconst (v := nI 2) hG dX12_bindsPower_12 (by decide) ?_
  refine pm_imul hG dX12_bindsPower_13 ?_
  exact pm_iret hG hF dX12_bindsPower_14 rfl (Nat.le_refl _) (Nat.le_refl _) ⟨_, rfl, ⟨_, _, _, rfl, by omega⟩, rfl⟩

set_option maxRecDepth 100000 in
set_option maxHeartbeats 4000000 in
theorem m_bindsOf {d B cnt p0 t0 : Nat} {σ : pm_S} {I : Nat → Int32} {A : Nat → Nat → Int32} {n k z : Nat → Int32} {ac wt pl im : Int32} {zb : Int32} {ba : Nat} (hdd : 6 ≤ d) (hn : KI n) (hz : SZ z) (ht0 : t0 ≤ 40) (hba : ba < 20) : pm_met mX12_bindsOf d 0 0 B [.ref (B + 54), .int (nI ba), .int zb] cnt (pm_mid σ (md_L B I A n k z ac wt pl (nI p0) (nI t0) im)) (pm_Qi (fun v σ' cnt' => (∃ (I' : Nat → Int32) (A' : Nat → Nat → Int32) (t0' : Nat), σ' = pm_mid σ (md_L B I' A' n k z ac wt pl (nI p0) (nI t0') im) ∧ t0' ≤ 40) ∧ cnt = cnt')) := by
  refine pm_enter 2 (by decide) (Nat.le_of_ble_eq_true rfl) rfl (fun G hG hR hF => ?_)
  refine pm_aloadn hG dX12_bindsOf_0 rfl ?_
  refine pm_iloadn hG dX12_bindsOf_1 rfl ?_
  refine pm_iconst (v := nI 0) hG dX12_bindsOf_2 (by decide) ?_
  refine pm_callV (As := [.int (nI ba), .int (nI 0)]) (rest := []) hG hR dX12_bindsOf_3 (lkX12_110 _ rfl) okV_X12_its rfl rfl (m_its (d := 5) (e := 6 * ba + 390) (by omega) (by omega) (by omega)) rfl rfl hdd (Nat.le_refl _) (Nat.le_refl _) (by decide) (pm_ki (fun v1 σ' cnt' hq => ?_))
  obtain ⟨rfl, rfl, rfl⟩ := hq
  refine pm_gen (fun x2 ex2 => ?_)
  refine pm_istoreXn (loc' := [some (.ref (B + 54)), some (.int (nI ba)), some (.int zb), some (.int x2), none]) hG dX12_bindsOf_6 (by decide) (pm_c1b rfl) rfl ?_
  refine pm_iloadn hG dX12_bindsOf_7 rfl ?_
  refine pm_iconst (v := nI 3) hG dX12_bindsOf_8 (by decide) ?_
  refine pm_icmp_eq (tgt := 17) hG dX12_bindsOf_9 rfl (fun c3 => ?_) (fun c3 => ?_)
  · refine pm_aloadn hG dX12_bindsOf_17 rfl ?_
    refine pm_bipush (v := nI 40) hG dX12_bindsOf_18 (by decide) ?_
    refine pm_callV (As := [.int (nI 40)]) (rest := []) hG hR dX12_bindsOf_20 (lkX12_286 _ rfl) okV_X12_ran rfl rfl (m_ran (d := 5) (by decide) hn hz (by omega)) rfl rfl hdd (Nat.le_refl _) (Nat.le_refl _) (by decide) (pm_kv (fun σ' cnt' hq => ?_))
    obtain ⟨⟨I5, A5, t5, rfl, ht5⟩, rfl⟩ := hq
    refine pm_aloadn hG dX12_bindsOf_23 rfl ?_
    refine pm_iloadn hG dX12_bindsOf_24 rfl ?_
    refine pm_iloadn hG dX12_bindsOf_25 rfl ?_
    refine pm_callV (As := [.int (nI ba), .int zb]) (rest := []) hG hR dX12_bindsOf_26 (lkX12_298 _ rfl) okV_X12_bindsPower rfl rfl (m_bindsPower (d := 5) (by decide) hn hz (by omega) (by omega)) rfl rfl hdd (Nat.le_refl _) (Nat.le_refl _) (by decide) (pm_ki (fun v6 σ' cnt' hq => ?_))
    obtain ⟨⟨I7, A7, t7, rfl, ht7⟩, rfl⟩ := hq
    refine pm_istoreXi (loc' := [some (.ref (B + 54)), some (.int (nI ba)), some (.int zb), some (.int x2), some (.int v6)]) hG dX12_bindsOf_29 (by decide) (pm_c1b rfl) rfl ?_
    refine pm_iloadi hG dX12_bindsOf_31 rfl ?_
    refine pm_aloadn hG dX12_bindsOf_33 rfl ?_
    refine pm_iloadn hG dX12_bindsOf_34 rfl ?_
    refine pm_iloadn hG dX12_bindsOf_35 rfl ?_
    refine pm_callV (As := [.int (nI ba), .int zb]) (rest := [.int v6]) hG hR dX12_bindsOf_36 (lkX12_295 _ rfl) okV_X12_actsOf rfl rfl (m_actsOf (d := 5) (by decide) hn hz (by omega) (by omega)) rfl rfl hdd (Nat.le_refl _) (Nat.le_refl _) (Nat.le_of_ble_eq_true rfl) (pm_ki (fun v8 σ' cnt' hq => ?_))
    obtain ⟨⟨I9, A9, t9, rfl, ht9⟩, rfl⟩ := hq
    refine pm_isub hG dX12_bindsOf_39 ?_
    exact pm_iret hG hF dX12_bindsOf_40 rfl (Nat.le_refl _) (Nat.le_refl _) ⟨_, rfl, ⟨_, _, _, rfl, by omega⟩, rfl⟩
  · refine pm_iloadn hG dX12_bindsOf_12 rfl ?_
    refine pm_iconst (v := nI 4) hG dX12_bindsOf_13 (by decide) ?_
    refine pm_icmp_ne (tgt := 41) hG dX12_bindsOf_14 rfl (fun c10 => ?_) (fun c10 => ?_)
    · refine pm_iloadn hG dX12_bindsOf_41 rfl ?_
      refine pm_iconst (v := nI 5) hG dX12_bindsOf_42 (by decide) ?_
      refine pm_icmp_eq (tgt := 53) hG dX12_bindsOf_43 rfl (fun c11 => ?_) (fun c11 => ?_)
      · refine pm_aloadn hG dX12_bindsOf_53 rfl ?_
        refine pm_bipush (v := nI 60) hG dX12_bindsOf_54 (by decide) ?_
        refine pm_callV (As := [.int (nI 60)]) (rest := []) hG hR dX12_bindsOf_56 (lkX12_286 _ rfl) okV_X12_ran rfl rfl (m_ran (d := 5) (by decide) hn hz (by omega)) rfl rfl hdd (Nat.le_refl _) (Nat.le_refl _) (by decide) (pm_kv (fun σ' cnt' hq => ?_))
        obtain ⟨⟨I13, A13, t13, rfl, ht13⟩, rfl⟩ := hq
        refine pm_aloadn hG dX12_bindsOf_59 rfl ?_
        refine pm_iloadn hG dX12_bindsOf_60 rfl ?_
        refine pm_iloadn hG dX12_bindsOf_61 rfl ?_
        refine pm_callV (As := [.int (nI ba), .int zb]) (rest := []) hG hR dX12_bindsOf_62 (lkX12_298 _ rfl) okV_X12_bindsPower rfl rfl (m_bindsPower (d := 5) (by decide) hn hz (by omega) (by omega)) rfl rfl hdd (Nat.le_refl _) (Nat.le_refl _) (by decide) (pm_ki (fun v14 σ' cnt' hq => ?_))
        obtain ⟨⟨I15, A15, t15, rfl, ht15⟩, rfl⟩ := hq
        refine pm_aloadn hG dX12_bindsOf_65 rfl ?_
        refine pm_iloadn hG dX12_bindsOf_66 rfl ?_
        refine pm_iconst (v := nI 4) hG dX12_bindsOf_67 (by decide) ?_
        refine pm_callV (As := [.int (nI ba), .int (nI 4)]) (rest := [.int v14]) hG hR dX12_bindsOf_68 (lkX12_110 _ rfl) okV_X12_its rfl rfl (m_its (d := 5) (e := 6 * ba + 394) (by omega) (by omega) (by omega)) rfl rfl hdd (Nat.le_refl _) (Nat.le_refl _) (Nat.le_of_ble_eq_true rfl) (pm_ki (fun v16 σ' cnt' hq => ?_))
        obtain ⟨rfl, rfl, rfl⟩ := hq
        refine pm_gen (fun x17 ex17 => ?_)
        refine pm_iadd hG dX12_bindsOf_71 ?_
        exact pm_iret hG hF dX12_bindsOf_72 rfl (Nat.le_refl _) (Nat.le_refl _) ⟨_, rfl, ⟨_, _, _, rfl, by omega⟩, rfl⟩
      · refine pm_aloadn hG dX12_bindsOf_46 rfl ?_
        refine pm_iloadn hG dX12_bindsOf_47 rfl ?_
        refine pm_iloadn hG dX12_bindsOf_48 rfl ?_
        refine pm_callV (As := [.int (nI ba), .int zb]) (rest := []) hG hR dX12_bindsOf_49 (lkX12_298 _ rfl) okV_X12_bindsPower rfl rfl (m_bindsPower (d := 5) (by decide) hn hz (by omega) (by omega)) rfl rfl hdd (Nat.le_refl _) (Nat.le_refl _) (by decide) (pm_ki (fun v18 σ' cnt' hq => ?_))
        obtain ⟨⟨I19, A19, t19, rfl, ht19⟩, rfl⟩ := hq
        exact pm_iret hG hF dX12_bindsOf_52 rfl (Nat.le_refl _) (Nat.le_refl _) ⟨_, rfl, ⟨_, _, _, rfl, by omega⟩, rfl⟩
    · refine pm_aloadn hG dX12_bindsOf_17 rfl ?_
      refine pm_bipush (v := nI 40) hG dX12_bindsOf_18 (by decide) ?_
      refine pm_callV (As := [.int (nI 40)]) (rest := []) hG hR dX12_bindsOf_20 (lkX12_286 _ rfl) okV_X12_ran rfl rfl (m_ran (d := 5) (by decide) hn hz (by omega)) rfl rfl hdd (Nat.le_refl _) (Nat.le_refl _) (by decide) (pm_kv (fun σ' cnt' hq => ?_))
      obtain ⟨⟨I21, A21, t21, rfl, ht21⟩, rfl⟩ := hq
      refine pm_aloadn hG dX12_bindsOf_23 rfl ?_
      refine pm_iloadn hG dX12_bindsOf_24 rfl ?_
      refine pm_iloadn hG dX12_bindsOf_25 rfl ?_
      refine pm_callV (As := [.int (nI ba), .int zb]) (rest := []) hG hR dX12_bindsOf_26 (lkX12_298 _ rfl) okV_X12_bindsPower rfl rfl (m_bindsPower (d := 5) (by decide) hn hz (by omega) (by omega)) rfl rfl hdd (Nat.le_refl _) (Nat.le_refl _) (by decide) (pm_ki (fun v22 σ' cnt' hq => ?_))
      obtain ⟨⟨I23, A23, t23, rfl, ht23⟩, rfl⟩ := hq
      refine pm_istoreXi (loc' := [some (.ref (B + 54)), some (.int (nI ba)), some (.int zb), some (.int x2), some (.int v22)]) hG dX12_bindsOf_29 (by decide) (pm_c1b rfl) rfl ?_
      refine pm_iloadi hG dX12_bindsOf_31 rfl ?_
      refine pm_aloadn hG dX12_bindsOf_33 rfl ?_
      refine pm_iloadn hG dX12_bindsOf_34 rfl ?_
      refine pm_iloadn hG dX12_bindsOf_35 rfl ?_
      refine pm_callV (As := [.int (nI ba), .int zb]) (rest := [.int v22]) hG hR dX12_bindsOf_36 (lkX12_295 _ rfl) okV_X12_actsOf rfl rfl (m_actsOf (d := 5) (by decide) hn hz (by omega) (by omega)) rfl rfl hdd (Nat.le_refl _) (Nat.le_refl _) (Nat.le_of_ble_eq_true rfl) (pm_ki (fun v24 σ' cnt' hq => ?_))
      obtain ⟨⟨I25, A25, t25, rfl, ht25⟩, rfl⟩ := hq
      refine pm_isub hG dX12_bindsOf_39 ?_
      exact pm_iret hG hF dX12_bindsOf_40 rfl (Nat.le_refl _) (Nat.le_refl _) ⟨_, rfl, ⟨_, _, _, rfl, by omega⟩, rfl⟩

set_option maxRecDepth 100000 in
set_option maxHeartbeats 4000000 in
theorem m_bits {d B cnt p0 t0 : Nat} {σ : pm_S} {I : Nat → Int32} {A : Nat → Nat → Int32} {n k z : Nat → Int32} {ac wt pl im : Int32} {za : Int32} (hdd : 1 ≤ d) (hn : KI n) (hz : SZ z)  : pm_met mX12_bits d 0 0 B [.int za] cnt (pm_mid σ (md_L B I A n k z ac wt pl (nI p0) (nI t0) im)) (pm_Qi (fun v σ' cnt' => σ' = pm_mid σ (md_L B I A n k z ac wt pl (nI p0) (nI t0) im) ∧ cnt = cnt')) := by
  refine pm_enter 2 (by decide) (Nat.le_of_ble_eq_true rfl) rfl (fun G hG hR hF => ?_)
  refine pm_iconst (v := nI 0) hG dX12_bits_0 (by decide) ?_
  refine pm_istoreXn (loc' := [some (.int za), some (.int (nI 0)), none]) hG dX12_bits_1 (by decide) (pm_c1b rfl) rfl ?_
  refine pm_iloadn hG dX12_bits_2 rfl ?_
  refine pm_istoreXn (loc' := [some (.int za), some (.int (nI 0)), some (.int za)]) hG dX12_bits_3 (by decide) (pm_c1b rfl) rfl ?_
  have loop : ∀ (m : Nat) (c y : Int32), y.toBitVec.toNat < m → pm_wp mX12_bits G B 4 [some (.int za), some (.int c), some (.int y)] [] 0 0 cnt (pm_mid σ (md_L B I A n k z ac wt pl (nI p0) (nI t0) im)) := by
    intro m
    induction m with
    | zero => intro c y hm; exact absurd hm (Nat.not_lt_zero _)
    | succ m ih =>
      intro c y hm
      refine pm_iloadn hG dX12_bits_4 rfl ?_
      refine pm_if_eq (tgt := 20) hG dX12_bits_5 rfl (fun hz0 => ?_) (fun hz0 => ?_)
      · refine pm_iloadn hG dX12_bits_20 rfl ?_
        exact pm_iret hG hF dX12_bits_21 rfl (Nat.le_refl _) (Nat.le_refl _) ⟨_, rfl, rfl, rfl⟩
      · refine pm_iincX (v := c + 1) (loc' := [some (.int za), some (.int (c + 1)), some (.int y)]) hG dX12_bits_8 rfl (by rfl) (by decide) (pm_c1b rfl) rfl ?_
        refine pm_iloadn hG dX12_bits_11 rfl ?_
        refine pm_iloadn hG dX12_bits_12 rfl ?_
        refine pm_iconst (v := nI 1) hG dX12_bits_13 (by decide) ?_
        refine pm_isub hG dX12_bits_14 ?_
        refine pm_iand hG dX12_bits_15 ?_
        refine pm_istoreXn (loc' := [some (.int za), some (.int (c + 1)), some (.int (y &&& (y - nI 1)))]) hG dX12_bits_16 (by decide) (pm_c1b rfl) rfl ?_
        refine pm_goto (tgt := 4) hG dX12_bits_17 rfl ?_
        exact ih _ _ (Nat.lt_of_lt_of_le (pm_bt hz0) (Nat.le_of_lt_succ hm))
  exact loop _ _ _ (Nat.lt_succ_self _)

set_option maxRecDepth 100000 in
set_option maxHeartbeats 4000000 in
theorem m_stands {d B cnt p0 t0 : Nat} {σ : pm_S} {I : Nat → Int32} {A : Nat → Nat → Int32} {n k z : Nat → Int32} {ac wt pl im : Int32} {ba : Nat} (hdd : 1 ≤ d) (hn : KI n) (hz : SZ z) (hba : ba < 30) : pm_met mX12_stands d 0 0 B [.ref (B + 54), .int (nI ba)] cnt (pm_mid σ (md_L B I A n k z ac wt pl (nI p0) (nI t0) im)) (pm_Qi (fun v σ' cnt' => σ' = pm_mid σ (md_L B I A n k z ac wt pl (nI p0) (nI t0) im) ∧ cnt = cnt' ∧ (v = 0 ∨ v = 1))) := by
  refine pm_enter 0 (by decide) (Nat.le_of_ble_eq_true rfl) rfl (fun G hG hR hF => ?_)
  refine pm_aloadn hG dX12_stands_0 rfl ?_
  refine pm_iloadn hG dX12_stands_1 rfl ?_
  refine pm_iconst (v := nI 4) hG dX12_stands_2 (by decide) ?_
  refine pm_callV (As := [.int (nI ba), .int (nI 4)]) (rest := []) hG hR dX12_stands_3 (lkX12_223 _ rfl) okV_X12_promised rfl rfl (m_promised (d := 0) (e := 6 * ba + 1810) (by omega) (by omega) (by omega)) rfl rfl hdd (Nat.le_refl _) (Nat.le_refl _) (by decide) (pm_ki (fun v1 σ' cnt' hq => ?_))
  obtain ⟨rfl, rfl, rfl⟩ := hq
  refine pm_gen (fun x2 ex2 => ?_)
  refine pm_if_ne (tgt := 38) hG dX12_stands_6 rfl (fun c3 => ?_) (fun c3 => ?_)
  · refine pm_iconst (v := nI 0) hG dX12_stands_38 (by decide) ?_
    exact pm_zret hG hF dX12_stands_39 rfl (pm_nz (Or.inl rfl)) (Nat.le_refl _) (Nat.le_refl _) ⟨_, rfl, rfl, rfl, (Or.inl rfl)⟩
  · refine pm_aloadn hG dX12_stands_9 rfl ?_
    refine pm_iloadn hG dX12_stands_10 rfl ?_
    refine pm_iconst (v := nI 5) hG dX12_stands_11 (by decide) ?_
    refine pm_callV (As := [.int (nI ba), .int (nI 5)]) (rest := []) hG hR dX12_stands_12 (lkX12_223 _ rfl) okV_X12_promised rfl rfl (m_promised (d := 0) (e := 6 * ba + 1811) (by omega) (by omega) (by omega)) rfl rfl hdd (Nat.le_refl _) (Nat.le_refl _) (by decide) (pm_ki (fun v4 σ' cnt' hq => ?_))
    obtain ⟨rfl, rfl, rfl⟩ := hq
    refine pm_gen (fun x5 ex5 => ?_)
    refine pm_if_ne (tgt := 38) hG dX12_stands_15 rfl (fun c6 => ?_) (fun c6 => ?_)
    · refine pm_iconst (v := nI 0) hG dX12_stands_38 (by decide) ?_
      exact pm_zret hG hF dX12_stands_39 rfl (pm_nz (Or.inl rfl)) (Nat.le_refl _) (Nat.le_refl _) ⟨_, rfl, rfl, rfl, (Or.inl rfl)⟩
    · refine pm_aloadn hG dX12_stands_18 rfl ?_
      refine pm_getf hG dX12_stands_19 (flX12_7 _ rfl) rfl rfl ?_
      refine pm_bipush (v := nI 8) hG dX12_stands_22 (by decide) ?_
      refine pm_ialdN hG dX12_stands_24 rfl (by decide) (by omega) ?_
      obtain ⟨k7, hk7, ek7⟩ := KI.nat hn (show kd 8 = (1, 2001, false) by decide)
      refine pm_top (v := nI k7) ek7 ?_
      refine pm_aloadn hG dX12_stands_25 rfl ?_
      refine pm_iloadn hG dX12_stands_26 rfl ?_
      refine pm_iconst (v := nI 2) hG dX12_stands_27 (by decide) ?_
      refine pm_callV (As := [.int (nI ba), .int (nI 2)]) (rest := [.int (nI k7)]) hG hR dX12_stands_28 (lkX12_223 _ rfl) okV_X12_promised rfl rfl (m_promised (d := 0) (e := 6 * ba + 1808) (by omega) (by omega) (by omega)) rfl rfl hdd (Nat.le_refl _) (Nat.le_refl _) (Nat.le_of_ble_eq_true rfl) (pm_ki (fun v8 σ' cnt' hq => ?_))
      obtain ⟨rfl, rfl, rfl⟩ := hq
      refine pm_gen (fun x9 ex9 => ?_)
      refine pm_icmp_gt (tgt := 38) hG dX12_stands_31 rfl (fun c10 => ?_) (fun c10 => ?_)
      · refine pm_iconst (v := nI 0) hG dX12_stands_38 (by decide) ?_
        exact pm_zret hG hF dX12_stands_39 rfl (pm_nz (Or.inl rfl)) (Nat.le_refl _) (Nat.le_refl _) ⟨_, rfl, rfl, rfl, (Or.inl rfl)⟩
      · refine pm_iconst (v := nI 1) hG dX12_stands_34 (by decide) ?_
        refine pm_goto (tgt := 39) hG dX12_stands_35 rfl ?_
        exact pm_zret hG hF dX12_stands_39 rfl (pm_nz (Or.inr rfl)) (Nat.le_refl _) (Nat.le_refl _) ⟨_, rfl, rfl, rfl, (Or.inr rfl)⟩

set_option maxRecDepth 100000 in
set_option maxHeartbeats 4000000 in
theorem m_breaks {d B cnt p0 t0 : Nat} {σ : pm_S} {I : Nat → Int32} {A : Nat → Nat → Int32} {n k z : Nat → Int32} {ac wt pl im : Int32} {za : Int32} (hdd : 2 ≤ d) (hn : KI n) (hr : NR n) (hz : SZ z)  : pm_met mX12_breaks d 0 0 B [.ref (B + 54), .int za] cnt (pm_mid σ (md_L B I A n k z ac wt pl (nI p0) (nI t0) im)) (pm_Qi (fun v σ' cnt' => (∃ (I' : Nat → Int32) (A' : Nat → Nat → Int32) (n' : Nat → Int32), σ' = pm_mid σ (md_L B I' A' n' k z ac wt pl (nI p0) (nI t0) im) ∧ KI n' ∧ NR n' ∧ n' 0 = n 0 ∧ n' 2 = n 2 ∧ n' 7 = n 7 ∧ n' 8 = n 8 ∧ KS n' n) ∧ cnt = cnt')) := by
  obtain ⟨kc0, hkc0, ekc0⟩ := KI.nat hn (show kd 0 = (1, 11, true) by decide)
  obtain ⟨kc2, hkc2, ekc2⟩ := KI.nat hn (show kd 2 = (1, 21, true) by decide)
  obtain ⟨kc7, hkc7, ekc7⟩ := KI.nat hn (show kd 7 = (1, 31, false) by decide)
  obtain ⟨kc8, hkc8, ekc8⟩ := KI.nat hn (show kd 8 = (1, 2001, false) by decide)
  refine pm_enter 0 (by decide) (Nat.le_of_ble_eq_true rfl) rfl (fun G hG hR hF => ?_)
  refine pm_iloadn hG dX12_breaks_0 rfl ?_
  refine pm_iconst (v := nI 0) hG dX12_breaks_1 (by decide) ?_
  refine pm_aloadn hG dX12_breaks_2 rfl ?_
  refine pm_getf hG dX12_breaks_3 (flX12_7 _ rfl) rfl rfl ?_
  refine pm_bipush (v := nI 7) hG dX12_breaks_6 (by decide) ?_
  refine pm_ialdN hG dX12_breaks_8 rfl (by decide) (by omega) ?_
  refine pm_top (v := nI kc7) ekc7 ?_
  refine pm_iconst (v := nI 1) hG dX12_breaks_9 (by decide) ?_
  refine pm_isub hG dX12_breaks_10 ?_
  refine pm_callS (As := [.int za, .int (nI 0), .int ((nI kc7) - (nI 1))]) (rest := []) hG hR dX12_breaks_11 (lkX12_68 _ rfl) okS_X12_in (m_in (d := 1)) rfl rfl hdd (Nat.le_refl _) (Nat.le_refl _) (by decide) (pm_ki (fun v1 σ' cnt' hq => ?_))
  obtain ⟨hq, rfl, rfl⟩ := hq
  rcases hq with ⟨rfl, ac2, bc2⟩ | ⟨rfl, c2⟩
  · obtain ⟨k3, hk3, ek3⟩ := in_cnt (c := kc7) (by omega) ac2 bc2
    refine pm_ifN_ne (tgt := 23) hG dX12_breaks_14 rfl (by omega) (fun _ => ?_) (fun q => absurd q (by omega))
    refine pm_aloadn hG dX12_breaks_23 rfl ?_
    refine pm_iloadn hG dX12_breaks_24 rfl ?_
    refine pm_top (v := nI k3) ek3 ?_
    refine pm_callV (As := [.int (nI k3)]) (rest := []) hG hR dX12_breaks_25 (lkX12_226 _ rfl) okV_X12_stands rfl rfl (m_stands (d := 1) (by decide) hn hz (by omega)) rfl rfl hdd (Nat.le_refl _) (Nat.le_refl _) (by decide) (pm_ki (fun v4 σ' cnt' hq => ?_))
    obtain ⟨rfl, rfl, bv4⟩ := hq
    refine pm_if_ne (tgt := 37) hG dX12_breaks_28 rfl (fun c6 => ?_) (fun c6 => ?_)
    · refine pm_aloadn hG dX12_breaks_37 rfl ?_
      refine pm_getf hG dX12_breaks_38 (flX12_7 _ rfl) rfl rfl ?_
      refine pm_sipush (v := nI 1806) hG dX12_breaks_41 (by decide) ?_
      refine pm_bipush (v := nI 6) hG dX12_breaks_44 (by decide) ?_
      refine pm_iloadn hG dX12_breaks_46 rfl ?_
      refine pm_top (v := nI k3) ek3 ?_
      refine pm_imulN (c := 6 * k3) hG dX12_breaks_47 (by omega) ?_
      refine pm_iaddN (c := 6 * k3 + 1806) hG dX12_breaks_48 (by omega) ?_
      refine pm_iconst (v := nI 4) hG dX12_breaks_49 (by decide) ?_
      refine pm_iaddN (c := 6 * k3 + 1810) hG dX12_breaks_50 (by omega) ?_
      refine pm_iconst (v := nI 1) hG dX12_breaks_51 (by decide) ?_
      refine pm_iastN hG dX12_breaks_52 rfl (by decide) (by omega) ?_
      refine mdn_now (fun n_7 en_7 => ?_)
      have hnn_7 := KI.w en_7 hn (okv_f (show kd (6 * k3 + 1810) = (0, 0, false) from (kd_Q (k := k3) (c := 4) (by omega) (by omega) (by decide))))
      have hrn_7 := NRx.w en_7 hr (by rw [(show kd (6 * k3 + 1810) = (0, 0, false) from (kd_Q (k := k3) (c := 4) (by omega) (by omega) (by decide)))])
      have ksn_7 := KS.w en_7 KS.rf (by unfold tS; omega)
      have e8 : n_7 0 = nI kc0 := by rw [en_7, pk_un (by omega)]; exact ekc0
      have e9 : n_7 2 = nI kc2 := by rw [en_7, pk_un (by omega)]; exact ekc2
      have e10 : n_7 7 = nI kc7 := by rw [en_7, pk_un (by omega)]; exact ekc7
      have e11 : n_7 8 = nI kc8 := by rw [en_7, pk_un (by omega)]; exact ekc8
      have e12 : n_7 (6 * k3 + 1810) = nI 1 := by rw [en_7, pk_us]
      refine pm_iconst (v := nI 1) hG dX12_breaks_53 (by decide) ?_
      exact pm_iret hG hF dX12_breaks_54 rfl (Nat.le_refl _) (Nat.le_refl _) ⟨_, rfl, ⟨_, _, _, rfl, hnn_7, hrn_7, e8.trans ekc0.symm, e9.trans ekc2.symm, e10.trans ekc7.symm, e11.trans ekc8.symm, ksn_7⟩, rfl⟩
    · refine pm_aloadn hG dX12_breaks_31 rfl ?_
      refine pm_iconst (v := nI 3) hG dX12_breaks_32 (by decide) ?_
      refine pm_callV (As := [.int (nI 3)]) (rest := []) hG hR dX12_breaks_33 (lkX12_80 _ rfl) okV_X12_finds rfl rfl (m_finds (d := 1) (by decide) hn hz (by omega)) rfl rfl hdd (Nat.le_refl _) (Nat.le_refl _) (by decide) (pm_ki (fun v13 σ' cnt' hq => ?_))
      obtain ⟨⟨I14, A14, rfl⟩, rfl, fv13⟩ := hq
      exact pm_iret hG hF dX12_breaks_36 rfl (Nat.le_refl _) (Nat.le_refl _) ⟨_, rfl, ⟨_, _, _, rfl, hn, hr, ekc0.trans ekc0.symm, ekc2.trans ekc2.symm, ekc7.trans ekc7.symm, ekc8.trans ekc8.symm, KS.rf⟩, rfl⟩
  · refine pm_ifN_ne (tgt := 23) hG dX12_breaks_14 rfl (by omega) (fun q => absurd q (by omega)) (fun _ => ?_)
    refine pm_aloadn hG dX12_breaks_17 rfl ?_
    refine pm_iconst (v := nI 1) hG dX12_breaks_18 (by decide) ?_
    refine pm_callV (As := [.int (nI 1)]) (rest := []) hG hR dX12_breaks_19 (lkX12_80 _ rfl) okV_X12_finds rfl rfl (m_finds (d := 1) (by decide) hn hz (by omega)) rfl rfl hdd (Nat.le_refl _) (Nat.le_refl _) (by decide) (pm_ki (fun v15 σ' cnt' hq => ?_))
    obtain ⟨⟨I16, A16, rfl⟩, rfl, fv15⟩ := hq
    exact pm_iret hG hF dX12_breaks_22 rfl (Nat.le_refl _) (Nat.le_refl _) ⟨_, rfl, ⟨_, _, _, rfl, hn, hr, ekc0.trans ekc0.symm, ekc2.trans ekc2.symm, ekc7.trans ekc7.symm, ekc8.trans ekc8.symm, KS.rf⟩, rfl⟩

set_option maxRecDepth 100000 in
set_option maxHeartbeats 4000000 in
theorem m_weigh {d B cnt p0 t0 : Nat} {σ : pm_S} {I : Nat → Int32} {A : Nat → Nat → Int32} {n k z : Nat → Int32} {ac wt pl im : Int32} {za : Int32} (hdd : 4 ≤ d) (hn : KI n) (hr : NR n) (hz : SZ z)  : pm_met mX12_weigh d 0 0 B [.ref (B + 54), .int za] cnt (pm_mid σ (md_L B I A n k z ac wt pl (nI p0) (nI t0) im)) (pm_Qv (fun σ' cnt' => (∃ (I' : Nat → Int32) (A' : Nat → Nat → Int32), σ' = pm_mid σ (md_L B I' A' n k z ac wt pl (nI p0) (nI t0) im)) ∧ cnt = cnt')) := by
  refine pm_enter 5 (by decide) (Nat.le_of_ble_eq_true rfl) rfl (fun G hG hR hF => ?_)
  refine pm_iconst (v := (-1)) hG dX12_weigh_0 (by decide) ?_
  refine pm_istoreXn (loc' := [some (.ref (B + 54)), some (.int za), some (.int (-1)), none, none, none, none]) hG dX12_weigh_1 (by decide) (pm_c1b rfl) rfl ?_
  refine pm_aloadn hG dX12_weigh_2 rfl ?_
  refine pm_getf hG dX12_weigh_3 (flX12_7 _ rfl) rfl rfl ?_
  refine pm_iconst (v := nI 2) hG dX12_weigh_6 (by decide) ?_
  refine pm_ialdN hG dX12_weigh_7 rfl (by decide) (by omega) ?_
  obtain ⟨k1, hk1, ek1⟩ := KI.nat hn (show kd 2 = (1, 21, true) by decide)
  refine pm_top (v := nI k1) ek1 ?_
  refine pm_iconst (v := nI 1) hG dX12_weigh_8 (by decide) ?_
  refine pm_isub hG dX12_weigh_9 ?_
  refine pm_istoreXn (loc' := [some (.ref (B + 54)), some (.int za), some (.int (-1)), some (.int ((nI k1) - (nI 1))), none, none, none]) hG dX12_weigh_10 (by decide) (pm_c1b rfl) rfl ?_
  have loop11_2 : ∀ (m2 : Nat) (I2 : Nat → Int32) (A2 : Nat → Nat → Int32) (x2_2 : Int32) (i2 : Nat), (x2_2 = -1 ∨ ∃ q : Nat, q < 20 ∧ x2_2 = nI q) → i2 ≤ 20 → i2 < m2 → pm_wp mX12_weigh G B 11 [some (.ref (B + 54)), some (.int za), some (.int x2_2), some (.int (nI i2 - nI 1)), none, none, none] [] 0 0 cnt (pm_mid σ (md_L B I2 A2 n k z ac wt pl (nI p0) (nI t0) im)) := by
    intro m2
    induction m2 with
    | zero => intro I2 A2 x2_2 i2 _ _ hm; exact absurd hm (Nat.not_lt_zero _)
    | succ m2 ih2 =>
      intro I2 A2 x2_2 i2 ho2_2 hi2 hm2
      rcases ho2_2 with rfl | ⟨k3, hk3, rfl⟩
      · rcases i2 with _ | i2
        · refine pm_iloadn hG dX12_weigh_11 rfl ?_
          refine pm_top (v := (-1)) (by decide) ?_
          refine pm_if_lt (tgt := 38) hG dX12_weigh_12 rfl (fun _ => ?_) (fun q => absurd q (by decide))
          refine pm_iloadn hG dX12_weigh_38 rfl ?_
          refine pm_if_ge (tgt := 46) hG dX12_weigh_39 rfl (fun q => absurd q (by decide)) (fun _ => ?_)
          refine pm_iconst (v := (-1)) hG dX12_weigh_42 (by decide) ?_
          refine pm_goto (tgt := 63) hG dX12_weigh_43 rfl ?_
          refine pm_istoreXn (loc' := [some (.ref (B + 54)), some (.int za), some (.int (-1)), some (.int (-1)), none, none, none]) hG dX12_weigh_63 (by decide) (pm_c1b rfl) rfl ?_
          refine pm_iconst (v := nI 0) hG dX12_weigh_64 (by decide) ?_
          refine pm_istoreXi (loc' := [some (.ref (B + 54)), some (.int za), some (.int (-1)), some (.int (-1)), some (.int (nI 0)), none, none]) hG dX12_weigh_65 (by decide) (pm_c1b rfl) rfl ?_
          have loop67_4 : ∀ (m4 : Nat) (I4 : Nat → Int32) (A4 : Nat → Nat → Int32) (i4 : Nat), i4 ≤ 20 → 20 - i4 < m4 → pm_wp mX12_weigh G B 67 [some (.ref (B + 54)), some (.int za), some (.int (-1)), some (.int (-1)), some (.int (nI i4)), none, none] [] 0 0 cnt (pm_mid σ (md_L B I4 A4 n k z ac wt pl (nI p0) (nI t0) im)) := by
            intro m4
            induction m4 with
            | zero => intro I4 A4 i4 _ hm; exact absurd hm (Nat.not_lt_zero _)
            | succ m4 ih4 =>
              intro I4 A4 i4 hi4 hm4
              refine pm_iloadi hG dX12_weigh_67 rfl ?_
              refine pm_aloadn hG dX12_weigh_69 rfl ?_
              refine pm_getf hG dX12_weigh_70 (flX12_7 _ rfl) rfl rfl ?_
              refine pm_iconst (v := nI 2) hG dX12_weigh_73 (by decide) ?_
              refine pm_ialdN hG dX12_weigh_74 rfl (by decide) (by omega) ?_
              refine pm_top (v := nI k1) ek1 ?_
              refine pm_icmpN_ge (tgt := 193) hG dX12_weigh_75 rfl (by omega) (by omega) (fun c5 => ?_) (fun c5 => ?_)
              · refine pm_iconst (v := nI 0) hG dX12_weigh_193 (by decide) ?_
                refine pm_istoreXi (loc' := [some (.ref (B + 54)), some (.int za), some (.int (-1)), some (.int (-1)), some (.int (nI 0)), none, none]) hG dX12_weigh_194 (by decide) (pm_c1b rfl) rfl ?_
                have loop196_6 : ∀ (m6 : Nat) (I6 : Nat → Int32) (A6 : Nat → Nat → Int32) (i6 : Nat), i6 ≤ 30 → 30 - i6 < m6 → pm_wp mX12_weigh G B 196 [some (.ref (B + 54)), some (.int za), some (.int (-1)), some (.int (-1)), some (.int (nI i6)), none, none] [] 0 0 cnt (pm_mid σ (md_L B I6 A6 n k z ac wt pl (nI p0) (nI t0) im)) := by
                  intro m6
                  induction m6 with
                  | zero => intro I6 A6 i6 _ hm; exact absurd hm (Nat.not_lt_zero _)
                  | succ m6 ih6 =>
                    intro I6 A6 i6 hi6 hm6
                    refine pm_iloadi hG dX12_weigh_196 rfl ?_
                    refine pm_aloadn hG dX12_weigh_198 rfl ?_
                    refine pm_getf hG dX12_weigh_199 (flX12_7 _ rfl) rfl rfl ?_
                    refine pm_bipush (v := nI 7) hG dX12_weigh_202 (by decide) ?_
                    refine pm_ialdN hG dX12_weigh_204 rfl (by decide) (by omega) ?_
                    obtain ⟨k7, hk7, ek7⟩ := KI.nat hn (show kd 7 = (1, 31, false) by decide)
                    refine pm_top (v := nI k7) ek7 ?_
                    refine pm_icmpN_ge (tgt := 262) hG dX12_weigh_205 rfl (by omega) (by omega) (fun c8 => ?_) (fun c8 => ?_)
                    · exact pm_vret hG hF dX12_weigh_262 rfl (Nat.le_refl _) (Nat.le_refl _) ⟨rfl, ⟨_, _, rfl⟩, rfl⟩
                    · refine pm_aloadn hG dX12_weigh_208 rfl ?_
                      refine pm_iloadi hG dX12_weigh_209 rfl ?_
                      refine pm_iconst (v := nI 1) hG dX12_weigh_211 (by decide) ?_
                      refine pm_callV (As := [.int (nI i6), .int (nI 1)]) (rest := []) hG hR dX12_weigh_212 (lkX12_223 _ rfl) okV_X12_promised rfl rfl (m_promised (d := 3) (e := 6 * i6 + 1807) (by omega) (by omega) (by omega)) rfl rfl hdd (Nat.le_refl _) (Nat.le_refl _) (by decide) (pm_ki (fun v9 σ' cnt' hq => ?_))
                      obtain ⟨rfl, rfl, rfl⟩ := hq
                      refine pm_gen (fun x10 ex10 => ?_)
                      refine pm_iloadn hG dX12_weigh_215 rfl ?_
                      refine pm_icmp_ne (tgt := 256) hG dX12_weigh_216 rfl (fun c11 => ?_) (fun c11 => ?_)
                      · refine pm_iincX (v := nI (i6 + 1)) (loc' := [some (.ref (B + 54)), some (.int za), some (.int (-1)), some (.int (-1)), some (.int (nI (i6 + 1))), none, none]) hG dX12_weigh_256 rfl (nI_1 _) (by decide) (pm_c1b rfl) rfl ?_
                        refine pm_goto (tgt := 196) hG dX12_weigh_259 rfl ?_
                        exact ih6 I6 A6 (i6 + 1) (by omega) (by omega)
                      · refine pm_aloadn hG dX12_weigh_219 rfl ?_
                        refine pm_iloadi hG dX12_weigh_220 rfl ?_
                        refine pm_callV (As := [.int (nI i6)]) (rest := []) hG hR dX12_weigh_222 (lkX12_226 _ rfl) okV_X12_stands rfl rfl (m_stands (d := 3) (by decide) hn hz (by omega)) rfl rfl hdd (Nat.le_refl _) (Nat.le_refl _) (by decide) (pm_ki (fun v12 σ' cnt' hq => ?_))
                        obtain ⟨rfl, rfl, bv12⟩ := hq
                        refine pm_if_eq (tgt := 256) hG dX12_weigh_225 rfl (fun c14 => ?_) (fun c14 => ?_)
                        · refine pm_iincX (v := nI (i6 + 1)) (loc' := [some (.ref (B + 54)), some (.int za), some (.int (-1)), some (.int (-1)), some (.int (nI (i6 + 1))), none, none]) hG dX12_weigh_256 rfl (nI_1 _) (by decide) (pm_c1b rfl) rfl ?_
                          refine pm_goto (tgt := 196) hG dX12_weigh_259 rfl ?_
                          exact ih6 I6 A6 (i6 + 1) (by omega) (by omega)
                        · refine pm_aloadn hG dX12_weigh_228 rfl ?_
                          refine pm_getf hG dX12_weigh_229 (flX12_40 _ rfl) rfl rfl ?_
                          refine pm_aloadn hG dX12_weigh_232 rfl ?_
                          refine pm_iloadi hG dX12_weigh_233 rfl ?_
                          refine pm_iconst (v := nI 0) hG dX12_weigh_235 (by decide) ?_
                          refine pm_callV (As := [.int (nI i6), .int (nI 0)]) (rest := [.ref (B + 65)]) hG hR dX12_weigh_236 (lkX12_223 _ rfl) okV_X12_promised rfl rfl (m_promised (d := 3) (e := 6 * i6 + 1806) (by omega) (by omega) (by omega)) rfl rfl hdd (Nat.le_refl _) (Nat.le_refl _) (Nat.le_of_ble_eq_true rfl) (pm_ki (fun v15 σ' cnt' hq => ?_))
                          obtain ⟨rfl, rfl, rfl⟩ := hq
                          obtain ⟨k16, hk16, ek16⟩ := KI.nat hn (show kd (6 * i6 + 1806) = (1, 20, false) from (kd_Q (k := i6) (c := 0) (by omega) (by omega) (by decide)))
                          refine pm_top (v := nI k16) ek16 ?_
                          refine pm_aloadn hG dX12_weigh_239 rfl ?_
                          refine pm_iloadi hG dX12_weigh_240 rfl ?_
                          refine pm_iconst (v := nI 3) hG dX12_weigh_242 (by decide) ?_
                          refine pm_callV (As := [.int (nI i6), .int (nI 3)]) (rest := [.int (nI k16), .ref (B + 65)]) hG hR dX12_weigh_243 (lkX12_223 _ rfl) okV_X12_promised rfl rfl (m_promised (d := 3) (e := 6 * i6 + 1809) (by omega) (by omega) (by omega)) rfl rfl hdd (Nat.le_refl _) (Nat.le_refl _) (Nat.le_of_ble_eq_true rfl) (pm_ki (fun v17 σ' cnt' hq => ?_))
                          obtain ⟨rfl, rfl, rfl⟩ := hq
                          refine pm_gen (fun x18 ex18 => ?_)
                          refine pm_iconst (v := nI 1) hG dX12_weigh_246 (by decide) ?_
                          refine pm_icmp_ne (tgt := 254) hG dX12_weigh_247 rfl (fun c19 => ?_) (fun c19 => ?_)
                          · refine pm_iconst (v := (-1)) hG dX12_weigh_254 (by decide) ?_
                            refine pm_iastN hG dX12_weigh_255 rfl (by decide) (by omega) ?_
                            refine mdn_voices (fun A_20 => ?_)
                            refine pm_iincX (v := nI (i6 + 1)) (loc' := [some (.ref (B + 54)), some (.int za), some (.int (-1)), some (.int (-1)), some (.int (nI (i6 + 1))), none, none]) hG dX12_weigh_256 rfl (nI_1 _) (by decide) (pm_c1b rfl) rfl ?_
                            refine pm_goto (tgt := 196) hG dX12_weigh_259 rfl ?_
                            exact ih6 I6 A_20 (i6 + 1) (by omega) (by omega)
                          · refine pm_iconst (v := nI 1) hG dX12_weigh_250 (by decide) ?_
                            refine pm_goto (tgt := 255) hG dX12_weigh_251 rfl ?_
                            refine pm_iastN hG dX12_weigh_255 rfl (by decide) (by omega) ?_
                            refine mdn_voices (fun A_21 => ?_)
                            refine pm_iincX (v := nI (i6 + 1)) (loc' := [some (.ref (B + 54)), some (.int za), some (.int (-1)), some (.int (-1)), some (.int (nI (i6 + 1))), none, none]) hG dX12_weigh_256 rfl (nI_1 _) (by decide) (pm_c1b rfl) rfl ?_
                            refine pm_goto (tgt := 196) hG dX12_weigh_259 rfl ?_
                            exact ih6 I6 A_21 (i6 + 1) (by omega) (by omega)
                exact loop196_6 _ I4 A4 0 (by omega) (Nat.lt_succ_self _)
              · refine pm_iconst (v := nI 1) hG dX12_weigh_78 (by decide) ?_
                refine pm_istoreXi (loc' := [some (.ref (B + 54)), some (.int za), some (.int (-1)), some (.int (-1)), some (.int (nI i4)), some (.int (nI 1)), none]) hG dX12_weigh_79 (by decide) (pm_c1b rfl) rfl ?_
                refine pm_iconst (v := nI 0) hG dX12_weigh_81 (by decide) ?_
                refine pm_istoreXi (loc' := [some (.ref (B + 54)), some (.int za), some (.int (-1)), some (.int (-1)), some (.int (nI i4)), some (.int (nI 1)), some (.int (nI 0))]) hG dX12_weigh_82 (by decide) (pm_c1b rfl) rfl ?_
                have loop84_22 : ∀ (m22 : Nat) (I22 : Nat → Int32) (A22 : Nat → Nat → Int32) (x22_5 : Int32) (i22 : Nat), i22 ≤ 20 → 20 - i22 < m22 → pm_wp mX12_weigh G B 84 [some (.ref (B + 54)), some (.int za), some (.int (-1)), some (.int (-1)), some (.int (nI i4)), some (.int x22_5), some (.int (nI i22))] [] 0 0 cnt (pm_mid σ (md_L B I22 A22 n k z ac wt pl (nI p0) (nI t0) im)) := by
                  intro m22
                  induction m22 with
                  | zero => intro I22 A22 x22_5 i22 _ hm; exact absurd hm (Nat.not_lt_zero _)
                  | succ m22 ih22 =>
                    intro I22 A22 x22_5 i22 hi22 hm22
                    refine pm_iloadi hG dX12_weigh_84 rfl ?_
                    refine pm_aloadn hG dX12_weigh_86 rfl ?_
                    refine pm_getf hG dX12_weigh_87 (flX12_7 _ rfl) rfl rfl ?_
                    refine pm_iconst (v := nI 3) hG dX12_weigh_90 (by decide) ?_
                    refine pm_ialdN hG dX12_weigh_91 rfl (by decide) (by omega) ?_
                    obtain ⟨k23, hk23, ek23⟩ := KI.nat hn (show kd 3 = (1, 21, false) by decide)
                    refine pm_top (v := nI k23) ek23 ?_
                    refine pm_icmpN_ge (tgt := 137) hG dX12_weigh_92 rfl (by omega) (by omega) (fun c24 => ?_) (fun c24 => ?_)
                    · refine pm_aloadn hG dX12_weigh_137 rfl ?_
                      refine pm_getf hG dX12_weigh_138 (flX12_37 _ rfl) rfl rfl ?_
                      refine pm_iloadi hG dX12_weigh_141 rfl ?_
                      refine pm_aloadn hG dX12_weigh_143 rfl ?_
                      refine pm_iloadi hG dX12_weigh_144 rfl ?_
                      refine pm_bipush (v := nI 11) hG dX12_weigh_146 (by decide) ?_
                      refine pm_callV (As := [.int (nI i4), .int (nI 11)]) (rest := [.int (nI i4), .ref (B + 64)]) hG hR dX12_weigh_148 (lkX12_72 _ rfl) okV_X12_man rfl rfl (m_man (d := 3) (e := 14 * i4 + 121) (by omega) (by omega) (by omega)) rfl rfl hdd (Nat.le_refl _) (Nat.le_refl _) (Nat.le_of_ble_eq_true rfl) (pm_ki (fun v25 σ' cnt' hq => ?_))
                      obtain ⟨rfl, rfl, rfl⟩ := hq
                      obtain ⟨k26, hk26, ek26⟩ := KI.nat hn (show kd (14 * i4 + 121) = (1, 2, true) from (kd_P (k := i4) (c := 11) (by omega) (by omega) (by decide)))
                      refine pm_top (v := nI k26) ek26 ?_
                      refine pm_ifN_eq (tgt := 172) hG dX12_weigh_151 rfl (by omega) (fun c27 => ?_) (fun c27 => ?_)
                      · refine pm_iconst (v := nI 0) hG dX12_weigh_172 (by decide) ?_
                        refine pm_goto (tgt := 178) hG dX12_weigh_173 rfl ?_
                        refine pm_iastN hG dX12_weigh_178 rfl (by decide) (by omega) ?_
                        refine mdn_weights (fun A_28 => ?_)
                        refine pm_aloadn hG dX12_weigh_179 rfl ?_
                        refine pm_getf hG dX12_weigh_180 (flX12_40 _ rfl) rfl rfl ?_
                        refine pm_iloadi hG dX12_weigh_183 rfl ?_
                        refine pm_iconst (v := nI 0) hG dX12_weigh_185 (by decide) ?_
                        refine pm_iastN hG dX12_weigh_186 rfl (by decide) (by omega) ?_
                        refine mdn_voices (fun A_29 => ?_)
                        refine pm_iincX (v := nI (i4 + 1)) (loc' := [some (.ref (B + 54)), some (.int za), some (.int (-1)), some (.int (-1)), some (.int (nI (i4 + 1))), some (.int x22_5), some (.int (nI i22))]) hG dX12_weigh_187 rfl (nI_1 _) (by decide) (pm_c1b rfl) rfl ?_
                        refine pm_goto (tgt := 67) hG dX12_weigh_190 rfl ?_
                        refine pm_fg 5 (loc' := [some (.ref (B + 54)), some (.int za), some (.int (-1)), some (.int (-1)), some (.int (nI (i4 + 1))), none, some (.int (nI i22))]) rfl ?_
                        refine pm_fg 6 (loc' := [some (.ref (B + 54)), some (.int za), some (.int (-1)), some (.int (-1)), some (.int (nI (i4 + 1))), none, none]) rfl ?_
                        exact ih4 I22 A_29 (i4 + 1) (by omega) (by omega)
                      · refine pm_aloadn hG dX12_weigh_154 rfl ?_
                        refine pm_iloadn hG dX12_weigh_155 rfl ?_
                        refine pm_iloadi hG dX12_weigh_156 rfl ?_
                        refine pm_iconst (v := (-1)) hG dX12_weigh_158 (by decide) ?_
                        refine pm_aloadn hG dX12_weigh_159 rfl ?_
                        refine pm_getf hG dX12_weigh_160 (flX12_7 _ rfl) rfl rfl ?_
                        refine pm_bipush (v := nI 8) hG dX12_weigh_163 (by decide) ?_
                        refine pm_ialdN hG dX12_weigh_165 rfl (by decide) (by omega) ?_
                        obtain ⟨k30, hk30, ek30⟩ := KI.nat hn (show kd 8 = (1, 2001, false) by decide)
                        refine pm_top (v := nI k30) ek30 ?_
                        refine pm_callV (As := [.int (-1), .int (nI i4), .int (-1), .int (nI k30)]) (rest := [.int (nI i4), .ref (B + 64)]) hG hR dX12_weigh_166 (lkX12_214 _ rfl) okV_X12_comesTo rfl rfl (m_comesTo_m_n20_m (d := 3) (by decide) hn hr hz (by omega)) rfl rfl hdd (Nat.le_refl _) (Nat.le_refl _) (Nat.le_of_ble_eq_true rfl) (pm_ki (fun v31 σ' cnt' hq => ?_))
                        obtain ⟨⟨I32, A32, rfl⟩, rfl⟩ := hq
                        refine pm_if_ne (tgt := 176) hG dX12_weigh_169 rfl (fun c33 => ?_) (fun c33 => ?_)
                        · refine pm_iloadi hG dX12_weigh_176 rfl ?_
                          refine pm_iastN hG dX12_weigh_178 rfl (by decide) (by omega) ?_
                          refine mdn_weights (fun A_34 => ?_)
                          refine pm_aloadn hG dX12_weigh_179 rfl ?_
                          refine pm_getf hG dX12_weigh_180 (flX12_40 _ rfl) rfl rfl ?_
                          refine pm_iloadi hG dX12_weigh_183 rfl ?_
                          refine pm_iconst (v := nI 0) hG dX12_weigh_185 (by decide) ?_
                          refine pm_iastN hG dX12_weigh_186 rfl (by decide) (by omega) ?_
                          refine mdn_voices (fun A_35 => ?_)
                          refine pm_iincX (v := nI (i4 + 1)) (loc' := [some (.ref (B + 54)), some (.int za), some (.int (-1)), some (.int (-1)), some (.int (nI (i4 + 1))), some (.int x22_5), some (.int (nI i22))]) hG dX12_weigh_187 rfl (nI_1 _) (by decide) (pm_c1b rfl) rfl ?_
                          refine pm_goto (tgt := 67) hG dX12_weigh_190 rfl ?_
                          refine pm_fg 5 (loc' := [some (.ref (B + 54)), some (.int za), some (.int (-1)), some (.int (-1)), some (.int (nI (i4 + 1))), none, some (.int (nI i22))]) rfl ?_
                          refine pm_fg 6 (loc' := [some (.ref (B + 54)), some (.int za), some (.int (-1)), some (.int (-1)), some (.int (nI (i4 + 1))), none, none]) rfl ?_
                          exact ih4 I32 A_35 (i4 + 1) (by omega) (by omega)
                        · refine pm_iconst (v := nI 0) hG dX12_weigh_172 (by decide) ?_
                          refine pm_goto (tgt := 178) hG dX12_weigh_173 rfl ?_
                          refine pm_iastN hG dX12_weigh_178 rfl (by decide) (by omega) ?_
                          refine mdn_weights (fun A_36 => ?_)
                          refine pm_aloadn hG dX12_weigh_179 rfl ?_
                          refine pm_getf hG dX12_weigh_180 (flX12_40 _ rfl) rfl rfl ?_
                          refine pm_iloadi hG dX12_weigh_183 rfl ?_
                          refine pm_iconst (v := nI 0) hG dX12_weigh_185 (by decide) ?_
                          refine pm_iastN hG dX12_weigh_186 rfl (by decide) (by omega) ?_
                          refine mdn_voices (fun A_37 => ?_)
                          refine pm_iincX (v := nI (i4 + 1)) (loc' := [some (.ref (B + 54)), some (.int za), some (.int (-1)), some (.int (-1)), some (.int (nI (i4 + 1))), some (.int x22_5), some (.int (nI i22))]) hG dX12_weigh_187 rfl (nI_1 _) (by decide) (pm_c1b rfl) rfl ?_
                          refine pm_goto (tgt := 67) hG dX12_weigh_190 rfl ?_
                          refine pm_fg 5 (loc' := [some (.ref (B + 54)), some (.int za), some (.int (-1)), some (.int (-1)), some (.int (nI (i4 + 1))), none, some (.int (nI i22))]) rfl ?_
                          refine pm_fg 6 (loc' := [some (.ref (B + 54)), some (.int za), some (.int (-1)), some (.int (-1)), some (.int (nI (i4 + 1))), none, none]) rfl ?_
                          exact ih4 I32 A_37 (i4 + 1) (by omega) (by omega)
                    · refine pm_iloadi hG dX12_weigh_95 rfl ?_
                      refine pm_aloadn hG dX12_weigh_97 rfl ?_
                      refine pm_iloadi hG dX12_weigh_98 rfl ?_
                      refine pm_iconst (v := nI 1) hG dX12_weigh_100 (by decide) ?_
                      refine pm_callV (As := [.int (nI i22), .int (nI 1)]) (rest := [.int x22_5]) hG hR dX12_weigh_101 (lkX12_110 _ rfl) okV_X12_its rfl rfl (m_its (d := 3) (e := 6 * i22 + 391) (by omega) (by omega) (by omega)) rfl rfl hdd (Nat.le_refl _) (Nat.le_refl _) (Nat.le_of_ble_eq_true rfl) (pm_ki (fun v38 σ' cnt' hq => ?_))
                      obtain ⟨rfl, rfl, rfl⟩ := hq
                      rcases KI.opt hn (show kd (6 * i22 + 391) = (2, 20, false) from (kd_W (k := i22) (c := 1) (by omega) (by omega) (by decide))) with ek39 | ⟨k39, hk39, ek39⟩
                      · refine pm_top (v := (-1)) ek39 ?_
                        refine pm_iloadi hG dX12_weigh_104 rfl ?_
                        refine pm_icmp_ne (tgt := 127) hG dX12_weigh_106 rfl (fun _ => ?_) (fun q => absurd q ((fun q => nI_m1 (by omega) q.symm)))
                        refine pm_iconst (v := nI 0) hG dX12_weigh_127 (by decide) ?_
                        refine pm_iadd hG dX12_weigh_128 ?_
                        refine pm_istoreXi (loc' := [some (.ref (B + 54)), some (.int za), some (.int (-1)), some (.int (-1)), some (.int (nI i4)), some (.int (x22_5 + (nI 0))), some (.int (nI i22))]) hG dX12_weigh_129 (by decide) (pm_c1b rfl) rfl ?_
                        refine pm_iincX (v := nI (i22 + 1)) (loc' := [some (.ref (B + 54)), some (.int za), some (.int (-1)), some (.int (-1)), some (.int (nI i4)), some (.int (x22_5 + (nI 0))), some (.int (nI (i22 + 1)))]) hG dX12_weigh_131 rfl (nI_1 _) (by decide) (pm_c1b rfl) rfl ?_
                        refine pm_goto (tgt := 84) hG dX12_weigh_134 rfl ?_
                        exact ih22 I22 A22 (x22_5 + (nI 0)) (i22 + 1) (by omega) (by omega)
                      · refine pm_top (v := nI k39) ek39 ?_
                        refine pm_iloadi hG dX12_weigh_104 rfl ?_
                        refine pm_icmpN_ne (tgt := 127) hG dX12_weigh_106 rfl (by omega) (by omega) (fun c40 => ?_) (fun c40 => ?_)
                        · refine pm_iconst (v := nI 0) hG dX12_weigh_127 (by decide) ?_
                          refine pm_iadd hG dX12_weigh_128 ?_
                          refine pm_istoreXi (loc' := [some (.ref (B + 54)), some (.int za), some (.int (-1)), some (.int (-1)), some (.int (nI i4)), some (.int (x22_5 + (nI 0))), some (.int (nI i22))]) hG dX12_weigh_129 (by decide) (pm_c1b rfl) rfl ?_
                          refine pm_iincX (v := nI (i22 + 1)) (loc' := [some (.ref (B + 54)), some (.int za), some (.int (-1)), some (.int (-1)), some (.int (nI i4)), some (.int (x22_5 + (nI 0))), some (.int (nI (i22 + 1)))]) hG dX12_weigh_131 rfl (nI_1 _) (by decide) (pm_c1b rfl) rfl ?_
                          refine pm_goto (tgt := 84) hG dX12_weigh_134 rfl ?_
                          exact ih22 I22 A22 (x22_5 + (nI 0)) (i22 + 1) (by omega) (by omega)
                        · refine pm_aloadn hG dX12_weigh_109 rfl ?_
                          refine pm_iloadi hG dX12_weigh_110 rfl ?_
                          refine pm_iconst (v := nI 0) hG dX12_weigh_112 (by decide) ?_
                          refine pm_callV (As := [.int (nI i22), .int (nI 0)]) (rest := [.int x22_5]) hG hR dX12_weigh_113 (lkX12_110 _ rfl) okV_X12_its rfl rfl (m_its (d := 3) (e := 6 * i22 + 390) (by omega) (by omega) (by omega)) rfl rfl hdd (Nat.le_refl _) (Nat.le_refl _) (Nat.le_of_ble_eq_true rfl) (pm_ki (fun v41 σ' cnt' hq => ?_))
                          obtain ⟨rfl, rfl, rfl⟩ := hq
                          refine pm_gen (fun x42 ex42 => ?_)
                          refine pm_iconst (v := nI 1) hG dX12_weigh_116 (by decide) ?_
                          refine pm_callS (As := [.int x42, .int (nI 1)]) (rest := [.int x22_5]) hG hR dX12_weigh_117 (lkX12_135 _ rfl) okS_X12_isUnder (m_isUnder (d := 3) (by decide) hn hz) rfl rfl hdd (Nat.le_refl _) (Nat.le_refl _) (Nat.le_of_ble_eq_true rfl) (pm_ki (fun v43 σ' cnt' hq => ?_))
                          obtain ⟨rfl, rfl, bv43⟩ := hq
                          refine pm_if_eq (tgt := 127) hG dX12_weigh_120 rfl (fun c45 => ?_) (fun c45 => ?_)
                          · refine pm_iconst (v := nI 0) hG dX12_weigh_127 (by decide) ?_
                            refine pm_iadd hG dX12_weigh_128 ?_
                            refine pm_istoreXi (loc' := [some (.ref (B + 54)), some (.int za), some (.int (-1)), some (.int (-1)), some (.int (nI i4)), some (.int (x22_5 + (nI 0))), some (.int (nI i22))]) hG dX12_weigh_129 (by decide) (pm_c1b rfl) rfl ?_
                            refine pm_iincX (v := nI (i22 + 1)) (loc' := [some (.ref (B + 54)), some (.int za), some (.int (-1)), some (.int (-1)), some (.int (nI i4)), some (.int (x22_5 + (nI 0))), some (.int (nI (i22 + 1)))]) hG dX12_weigh_131 rfl (nI_1 _) (by decide) (pm_c1b rfl) rfl ?_
                            refine pm_goto (tgt := 84) hG dX12_weigh_134 rfl ?_
                            exact ih22 I22 A22 (x22_5 + (nI 0)) (i22 + 1) (by omega) (by omega)
                          · refine pm_iconst (v := nI 1) hG dX12_weigh_123 (by decide) ?_
                            refine pm_goto (tgt := 128) hG dX12_weigh_124 rfl ?_
                            refine pm_iadd hG dX12_weigh_128 ?_
                            refine pm_istoreXi (loc' := [some (.ref (B + 54)), some (.int za), some (.int (-1)), some (.int (-1)), some (.int (nI i4)), some (.int (x22_5 + (nI 1))), some (.int (nI i22))]) hG dX12_weigh_129 (by decide) (pm_c1b rfl) rfl ?_
                            refine pm_iincX (v := nI (i22 + 1)) (loc' := [some (.ref (B + 54)), some (.int za), some (.int (-1)), some (.int (-1)), some (.int (nI i4)), some (.int (x22_5 + (nI 1))), some (.int (nI (i22 + 1)))]) hG dX12_weigh_131 rfl (nI_1 _) (by decide) (pm_c1b rfl) rfl ?_
                            refine pm_goto (tgt := 84) hG dX12_weigh_134 rfl ?_
                            exact ih22 I22 A22 (x22_5 + (nI 1)) (i22 + 1) (by omega) (by omega)
                exact loop84_22 _ I4 A4 (nI 1) 0 (by omega) (Nat.lt_succ_self _)
          exact loop67_4 _ I2 A2 0 (by omega) (Nat.lt_succ_self _)
        · refine pm_iloadn hG dX12_weigh_11 rfl ?_
          refine pm_top (v := nI i2) (nI_pred _) ?_
          refine pm_ifN_lt hG dX12_weigh_12 rfl (by omega) ?_
          refine pm_aloadn hG dX12_weigh_15 rfl ?_
          refine pm_iloadn hG dX12_weigh_16 rfl ?_
          refine pm_top (v := nI i2) (nI_pred _) ?_
          refine pm_bipush (v := nI 11) hG dX12_weigh_17 (by decide) ?_
          refine pm_callV (As := [.int (nI i2), .int (nI 11)]) (rest := []) hG hR dX12_weigh_19 (lkX12_72 _ rfl) okV_X12_man rfl rfl (m_man (d := 3) (e := 14 * i2 + 121) (by omega) (by omega) (by omega)) rfl rfl hdd (Nat.le_refl _) (Nat.le_refl _) (by decide) (pm_ki (fun v46 σ' cnt' hq => ?_))
          obtain ⟨rfl, rfl, rfl⟩ := hq
          obtain ⟨k47, hk47, ek47⟩ := KI.nat hn (show kd (14 * i2 + 121) = (1, 2, true) from (kd_P (k := i2) (c := 11) (by omega) (by omega) (by decide)))
          refine pm_top (v := nI k47) ek47 ?_
          refine pm_iconst (v := nI 1) hG dX12_weigh_22 (by decide) ?_
          refine pm_icmpN_ne (tgt := 30) hG dX12_weigh_23 rfl (by omega) (by omega) (fun c48 => ?_) (fun c48 => ?_)
          · refine pm_iloadn hG dX12_weigh_30 rfl ?_
            refine pm_istoreXn (loc' := [some (.ref (B + 54)), some (.int za), some (.int (-1)), some (.int (nI (i2 + 1) - nI 1)), none, none, none]) hG dX12_weigh_31 (by decide) (pm_c1b rfl) rfl ?_
            refine pm_iincX (v := nI (i2 + 1) - nI 1 + (-1)) (loc' := [some (.ref (B + 54)), some (.int za), some (.int (-1)), some (.int (nI (i2 + 1) - nI 1 + (-1))), none, none, none]) hG dX12_weigh_32 rfl (by rfl) (by decide) (pm_c1b rfl) rfl ?_
            refine pm_goto (tgt := 11) hG dX12_weigh_35 rfl ?_
            refine pm_le (loc' := [some (.ref (B + 54)), some (.int za), some (.int (-1)), some (.int (nI i2 - nI 1)), none, none, none]) (by rw [nI_dn]) ?_
            exact ih2 I2 A2 (-1) i2 (Or.inl rfl) (by omega) (by omega)
          · refine pm_iloadn hG dX12_weigh_26 rfl ?_
            refine pm_top (v := nI i2) (nI_pred _) ?_
            refine pm_goto (tgt := 31) hG dX12_weigh_27 rfl ?_
            refine pm_istoreXn (loc' := [some (.ref (B + 54)), some (.int za), some (.int (nI i2)), some (.int (nI (i2 + 1) - nI 1)), none, none, none]) hG dX12_weigh_31 (by decide) (pm_c1b rfl) rfl ?_
            refine pm_iincX (v := nI (i2 + 1) - nI 1 + (-1)) (loc' := [some (.ref (B + 54)), some (.int za), some (.int (nI i2)), some (.int (nI (i2 + 1) - nI 1 + (-1))), none, none, none]) hG dX12_weigh_32 rfl (by rfl) (by decide) (pm_c1b rfl) rfl ?_
            refine pm_goto (tgt := 11) hG dX12_weigh_35 rfl ?_
            refine pm_le (loc' := [some (.ref (B + 54)), some (.int za), some (.int (nI i2)), some (.int (nI i2 - nI 1)), none, none, none]) (by rw [nI_dn]) ?_
            exact ih2 I2 A2 (nI i2) i2 (Or.inr ⟨i2, by omega, rfl⟩) (by omega) (by omega)
      · rcases i2 with _ | i2
        · refine pm_iloadn hG dX12_weigh_11 rfl ?_
          refine pm_top (v := (-1)) (by decide) ?_
          refine pm_if_lt (tgt := 38) hG dX12_weigh_12 rfl (fun _ => ?_) (fun q => absurd q (by decide))
          refine pm_iloadn hG dX12_weigh_38 rfl ?_
          refine pm_ifN_ge (tgt := 46) hG dX12_weigh_39 rfl (by omega) ?_
          refine pm_aloadn hG dX12_weigh_46 rfl ?_
          refine pm_iconst (v := nI 0) hG dX12_weigh_47 (by decide) ?_
          refine pm_aloadn hG dX12_weigh_48 rfl ?_
          refine pm_getf hG dX12_weigh_49 (flX12_7 _ rfl) rfl rfl ?_
          refine pm_bipush (v := nI 8) hG dX12_weigh_52 (by decide) ?_
          refine pm_ialdN hG dX12_weigh_54 rfl (by decide) (by omega) ?_
          obtain ⟨k49, hk49, ek49⟩ := KI.nat hn (show kd 8 = (1, 2001, false) by decide)
          refine pm_top (v := nI k49) ek49 ?_
          refine pm_aloadn hG dX12_weigh_55 rfl ?_
          refine pm_iloadn hG dX12_weigh_56 rfl ?_
          refine pm_callV (As := [.int (nI k3)]) (rest := [.int (nI k49), .int (nI 0), .ref (B + 54)]) hG hR dX12_weigh_57 (lkX12_104 _ rfl) okV_X12_knownTo rfl rfl (m_knownTo (d := 3) (by decide) hn hz (by omega)) rfl rfl hdd (Nat.le_refl _) (Nat.le_refl _) (Nat.le_of_ble_eq_true rfl) (pm_ki (fun v50 σ' cnt' hq => ?_))
          obtain ⟨⟨I51, A51, rfl⟩, rfl⟩ := hq
          refine pm_callV (As := [.int (nI 0), .int (nI k49), .int v50]) (rest := []) hG hR dX12_weigh_60 (lkX12_195 _ rfl) okV_X12_inForce rfl rfl (m_inForce (d := 3) (by decide) hn hz) rfl rfl hdd (Nat.le_refl _) (Nat.le_refl _) (by decide) (pm_ki (fun v52 σ' cnt' hq => ?_))
          obtain ⟨rfl, rfl, rv52⟩ := hq
          rcases rv52 with rfl | ⟨k54, hk54, rfl⟩
          · refine pm_istoreXn (loc' := [some (.ref (B + 54)), some (.int za), some (.int (nI k3)), some (.int (-1)), none, none, none]) hG dX12_weigh_63 (by decide) (pm_c1b rfl) rfl ?_
            refine pm_iconst (v := nI 0) hG dX12_weigh_64 (by decide) ?_
            refine pm_istoreXi (loc' := [some (.ref (B + 54)), some (.int za), some (.int (nI k3)), some (.int (-1)), some (.int (nI 0)), none, none]) hG dX12_weigh_65 (by decide) (pm_c1b rfl) rfl ?_
            have loop67_55 : ∀ (m55 : Nat) (I55 : Nat → Int32) (A55 : Nat → Nat → Int32) (i55 : Nat), i55 ≤ 20 → 20 - i55 < m55 → pm_wp mX12_weigh G B 67 [some (.ref (B + 54)), some (.int za), some (.int (nI k3)), some (.int (-1)), some (.int (nI i55)), none, none] [] 0 0 cnt (pm_mid σ (md_L B I55 A55 n k z ac wt pl (nI p0) (nI t0) im)) := by
              intro m55
              induction m55 with
              | zero => intro I55 A55 i55 _ hm; exact absurd hm (Nat.not_lt_zero _)
              | succ m55 ih55 =>
                intro I55 A55 i55 hi55 hm55
                refine pm_iloadi hG dX12_weigh_67 rfl ?_
                refine pm_aloadn hG dX12_weigh_69 rfl ?_
                refine pm_getf hG dX12_weigh_70 (flX12_7 _ rfl) rfl rfl ?_
                refine pm_iconst (v := nI 2) hG dX12_weigh_73 (by decide) ?_
                refine pm_ialdN hG dX12_weigh_74 rfl (by decide) (by omega) ?_
                refine pm_top (v := nI k1) ek1 ?_
                refine pm_icmpN_ge (tgt := 193) hG dX12_weigh_75 rfl (by omega) (by omega) (fun c56 => ?_) (fun c56 => ?_)
                · refine pm_iconst (v := nI 0) hG dX12_weigh_193 (by decide) ?_
                  refine pm_istoreXi (loc' := [some (.ref (B + 54)), some (.int za), some (.int (nI k3)), some (.int (-1)), some (.int (nI 0)), none, none]) hG dX12_weigh_194 (by decide) (pm_c1b rfl) rfl ?_
                  have loop196_57 : ∀ (m57 : Nat) (I57 : Nat → Int32) (A57 : Nat → Nat → Int32) (i57 : Nat), i57 ≤ 30 → 30 - i57 < m57 → pm_wp mX12_weigh G B 196 [some (.ref (B + 54)), some (.int za), some (.int (nI k3)), some (.int (-1)), some (.int (nI i57)), none, none] [] 0 0 cnt (pm_mid σ (md_L B I57 A57 n k z ac wt pl (nI p0) (nI t0) im)) := by
                    intro m57
                    induction m57 with
                    | zero => intro I57 A57 i57 _ hm; exact absurd hm (Nat.not_lt_zero _)
                    | succ m57 ih57 =>
                      intro I57 A57 i57 hi57 hm57
                      refine pm_iloadi hG dX12_weigh_196 rfl ?_
                      refine pm_aloadn hG dX12_weigh_198 rfl ?_
                      refine pm_getf hG dX12_weigh_199 (flX12_7 _ rfl) rfl rfl ?_
                      refine pm_bipush (v := nI 7) hG dX12_weigh_202 (by decide) ?_
                      refine pm_ialdN hG dX12_weigh_204 rfl (by decide) (by omega) ?_
                      obtain ⟨k58, hk58, ek58⟩ := KI.nat hn (show kd 7 = (1, 31, false) by decide)
                      refine pm_top (v := nI k58) ek58 ?_
                      refine pm_icmpN_ge (tgt := 262) hG dX12_weigh_205 rfl (by omega) (by omega) (fun c59 => ?_) (fun c59 => ?_)
                      · exact pm_vret hG hF dX12_weigh_262 rfl (Nat.le_refl _) (Nat.le_refl _) ⟨rfl, ⟨_, _, rfl⟩, rfl⟩
                      · refine pm_aloadn hG dX12_weigh_208 rfl ?_
                        refine pm_iloadi hG dX12_weigh_209 rfl ?_
                        refine pm_iconst (v := nI 1) hG dX12_weigh_211 (by decide) ?_
                        refine pm_callV (As := [.int (nI i57), .int (nI 1)]) (rest := []) hG hR dX12_weigh_212 (lkX12_223 _ rfl) okV_X12_promised rfl rfl (m_promised (d := 3) (e := 6 * i57 + 1807) (by omega) (by omega) (by omega)) rfl rfl hdd (Nat.le_refl _) (Nat.le_refl _) (by decide) (pm_ki (fun v60 σ' cnt' hq => ?_))
                        obtain ⟨rfl, rfl, rfl⟩ := hq
                        refine pm_gen (fun x61 ex61 => ?_)
                        refine pm_iloadn hG dX12_weigh_215 rfl ?_
                        refine pm_icmp_ne (tgt := 256) hG dX12_weigh_216 rfl (fun c62 => ?_) (fun c62 => ?_)
                        · refine pm_iincX (v := nI (i57 + 1)) (loc' := [some (.ref (B + 54)), some (.int za), some (.int (nI k3)), some (.int (-1)), some (.int (nI (i57 + 1))), none, none]) hG dX12_weigh_256 rfl (nI_1 _) (by decide) (pm_c1b rfl) rfl ?_
                          refine pm_goto (tgt := 196) hG dX12_weigh_259 rfl ?_
                          exact ih57 I57 A57 (i57 + 1) (by omega) (by omega)
                        · refine pm_aloadn hG dX12_weigh_219 rfl ?_
                          refine pm_iloadi hG dX12_weigh_220 rfl ?_
                          refine pm_callV (As := [.int (nI i57)]) (rest := []) hG hR dX12_weigh_222 (lkX12_226 _ rfl) okV_X12_stands rfl rfl (m_stands (d := 3) (by decide) hn hz (by omega)) rfl rfl hdd (Nat.le_refl _) (Nat.le_refl _) (by decide) (pm_ki (fun v63 σ' cnt' hq => ?_))
                          obtain ⟨rfl, rfl, bv63⟩ := hq
                          refine pm_if_eq (tgt := 256) hG dX12_weigh_225 rfl (fun c65 => ?_) (fun c65 => ?_)
                          · refine pm_iincX (v := nI (i57 + 1)) (loc' := [some (.ref (B + 54)), some (.int za), some (.int (nI k3)), some (.int (-1)), some (.int (nI (i57 + 1))), none, none]) hG dX12_weigh_256 rfl (nI_1 _) (by decide) (pm_c1b rfl) rfl ?_
                            refine pm_goto (tgt := 196) hG dX12_weigh_259 rfl ?_
                            exact ih57 I57 A57 (i57 + 1) (by omega) (by omega)
                          · refine pm_aloadn hG dX12_weigh_228 rfl ?_
                            refine pm_getf hG dX12_weigh_229 (flX12_40 _ rfl) rfl rfl ?_
                            refine pm_aloadn hG dX12_weigh_232 rfl ?_
                            refine pm_iloadi hG dX12_weigh_233 rfl ?_
                            refine pm_iconst (v := nI 0) hG dX12_weigh_235 (by decide) ?_
                            refine pm_callV (As := [.int (nI i57), .int (nI 0)]) (rest := [.ref (B + 65)]) hG hR dX12_weigh_236 (lkX12_223 _ rfl) okV_X12_promised rfl rfl (m_promised (d := 3) (e := 6 * i57 + 1806) (by omega) (by omega) (by omega)) rfl rfl hdd (Nat.le_refl _) (Nat.le_refl _) (Nat.le_of_ble_eq_true rfl) (pm_ki (fun v66 σ' cnt' hq => ?_))
                            obtain ⟨rfl, rfl, rfl⟩ := hq
                            obtain ⟨k67, hk67, ek67⟩ := KI.nat hn (show kd (6 * i57 + 1806) = (1, 20, false) from (kd_Q (k := i57) (c := 0) (by omega) (by omega) (by decide)))
                            refine pm_top (v := nI k67) ek67 ?_
                            refine pm_aloadn hG dX12_weigh_239 rfl ?_
                            refine pm_iloadi hG dX12_weigh_240 rfl ?_
                            refine pm_iconst (v := nI 3) hG dX12_weigh_242 (by decide) ?_
                            refine pm_callV (As := [.int (nI i57), .int (nI 3)]) (rest := [.int (nI k67), .ref (B + 65)]) hG hR dX12_weigh_243 (lkX12_223 _ rfl) okV_X12_promised rfl rfl (m_promised (d := 3) (e := 6 * i57 + 1809) (by omega) (by omega) (by omega)) rfl rfl hdd (Nat.le_refl _) (Nat.le_refl _) (Nat.le_of_ble_eq_true rfl) (pm_ki (fun v68 σ' cnt' hq => ?_))
                            obtain ⟨rfl, rfl, rfl⟩ := hq
                            refine pm_gen (fun x69 ex69 => ?_)
                            refine pm_iconst (v := nI 1) hG dX12_weigh_246 (by decide) ?_
                            refine pm_icmp_ne (tgt := 254) hG dX12_weigh_247 rfl (fun c70 => ?_) (fun c70 => ?_)
                            · refine pm_iconst (v := (-1)) hG dX12_weigh_254 (by decide) ?_
                              refine pm_iastN hG dX12_weigh_255 rfl (by decide) (by omega) ?_
                              refine mdn_voices (fun A_71 => ?_)
                              refine pm_iincX (v := nI (i57 + 1)) (loc' := [some (.ref (B + 54)), some (.int za), some (.int (nI k3)), some (.int (-1)), some (.int (nI (i57 + 1))), none, none]) hG dX12_weigh_256 rfl (nI_1 _) (by decide) (pm_c1b rfl) rfl ?_
                              refine pm_goto (tgt := 196) hG dX12_weigh_259 rfl ?_
                              exact ih57 I57 A_71 (i57 + 1) (by omega) (by omega)
                            · refine pm_iconst (v := nI 1) hG dX12_weigh_250 (by decide) ?_
                              refine pm_goto (tgt := 255) hG dX12_weigh_251 rfl ?_
                              refine pm_iastN hG dX12_weigh_255 rfl (by decide) (by omega) ?_
                              refine mdn_voices (fun A_72 => ?_)
                              refine pm_iincX (v := nI (i57 + 1)) (loc' := [some (.ref (B + 54)), some (.int za), some (.int (nI k3)), some (.int (-1)), some (.int (nI (i57 + 1))), none, none]) hG dX12_weigh_256 rfl (nI_1 _) (by decide) (pm_c1b rfl) rfl ?_
                              refine pm_goto (tgt := 196) hG dX12_weigh_259 rfl ?_
                              exact ih57 I57 A_72 (i57 + 1) (by omega) (by omega)
                  exact loop196_57 _ I55 A55 0 (by omega) (Nat.lt_succ_self _)
                · refine pm_iconst (v := nI 1) hG dX12_weigh_78 (by decide) ?_
                  refine pm_istoreXi (loc' := [some (.ref (B + 54)), some (.int za), some (.int (nI k3)), some (.int (-1)), some (.int (nI i55)), some (.int (nI 1)), none]) hG dX12_weigh_79 (by decide) (pm_c1b rfl) rfl ?_
                  refine pm_iconst (v := nI 0) hG dX12_weigh_81 (by decide) ?_
                  refine pm_istoreXi (loc' := [some (.ref (B + 54)), some (.int za), some (.int (nI k3)), some (.int (-1)), some (.int (nI i55)), some (.int (nI 1)), some (.int (nI 0))]) hG dX12_weigh_82 (by decide) (pm_c1b rfl) rfl ?_
                  have loop84_73 : ∀ (m73 : Nat) (I73 : Nat → Int32) (A73 : Nat → Nat → Int32) (x73_5 : Int32) (i73 : Nat), i73 ≤ 20 → 20 - i73 < m73 → pm_wp mX12_weigh G B 84 [some (.ref (B + 54)), some (.int za), some (.int (nI k3)), some (.int (-1)), some (.int (nI i55)), some (.int x73_5), some (.int (nI i73))] [] 0 0 cnt (pm_mid σ (md_L B I73 A73 n k z ac wt pl (nI p0) (nI t0) im)) := by
                    intro m73
                    induction m73 with
                    | zero => intro I73 A73 x73_5 i73 _ hm; exact absurd hm (Nat.not_lt_zero _)
                    | succ m73 ih73 =>
                      intro I73 A73 x73_5 i73 hi73 hm73
                      refine pm_iloadi hG dX12_weigh_84 rfl ?_
                      refine pm_aloadn hG dX12_weigh_86 rfl ?_
                      refine pm_getf hG dX12_weigh_87 (flX12_7 _ rfl) rfl rfl ?_
                      refine pm_iconst (v := nI 3) hG dX12_weigh_90 (by decide) ?_
                      refine pm_ialdN hG dX12_weigh_91 rfl (by decide) (by omega) ?_
                      obtain ⟨k74, hk74, ek74⟩ := KI.nat hn (show kd 3 = (1, 21, false) by decide)
                      refine pm_top (v := nI k74) ek74 ?_
                      refine pm_icmpN_ge (tgt := 137) hG dX12_weigh_92 rfl (by omega) (by omega) (fun c75 => ?_) (fun c75 => ?_)
                      · refine pm_aloadn hG dX12_weigh_137 rfl ?_
                        refine pm_getf hG dX12_weigh_138 (flX12_37 _ rfl) rfl rfl ?_
                        refine pm_iloadi hG dX12_weigh_141 rfl ?_
                        refine pm_aloadn hG dX12_weigh_143 rfl ?_
                        refine pm_iloadi hG dX12_weigh_144 rfl ?_
                        refine pm_bipush (v := nI 11) hG dX12_weigh_146 (by decide) ?_
                        refine pm_callV (As := [.int (nI i55), .int (nI 11)]) (rest := [.int (nI i55), .ref (B + 64)]) hG hR dX12_weigh_148 (lkX12_72 _ rfl) okV_X12_man rfl rfl (m_man (d := 3) (e := 14 * i55 + 121) (by omega) (by omega) (by omega)) rfl rfl hdd (Nat.le_refl _) (Nat.le_refl _) (Nat.le_of_ble_eq_true rfl) (pm_ki (fun v76 σ' cnt' hq => ?_))
                        obtain ⟨rfl, rfl, rfl⟩ := hq
                        obtain ⟨k77, hk77, ek77⟩ := KI.nat hn (show kd (14 * i55 + 121) = (1, 2, true) from (kd_P (k := i55) (c := 11) (by omega) (by omega) (by decide)))
                        refine pm_top (v := nI k77) ek77 ?_
                        refine pm_ifN_eq (tgt := 172) hG dX12_weigh_151 rfl (by omega) (fun c78 => ?_) (fun c78 => ?_)
                        · refine pm_iconst (v := nI 0) hG dX12_weigh_172 (by decide) ?_
                          refine pm_goto (tgt := 178) hG dX12_weigh_173 rfl ?_
                          refine pm_iastN hG dX12_weigh_178 rfl (by decide) (by omega) ?_
                          refine mdn_weights (fun A_79 => ?_)
                          refine pm_aloadn hG dX12_weigh_179 rfl ?_
                          refine pm_getf hG dX12_weigh_180 (flX12_40 _ rfl) rfl rfl ?_
                          refine pm_iloadi hG dX12_weigh_183 rfl ?_
                          refine pm_iconst (v := nI 0) hG dX12_weigh_185 (by decide) ?_
                          refine pm_iastN hG dX12_weigh_186 rfl (by decide) (by omega) ?_
                          refine mdn_voices (fun A_80 => ?_)
                          refine pm_iincX (v := nI (i55 + 1)) (loc' := [some (.ref (B + 54)), some (.int za), some (.int (nI k3)), some (.int (-1)), some (.int (nI (i55 + 1))), some (.int x73_5), some (.int (nI i73))]) hG dX12_weigh_187 rfl (nI_1 _) (by decide) (pm_c1b rfl) rfl ?_
                          refine pm_goto (tgt := 67) hG dX12_weigh_190 rfl ?_
                          refine pm_fg 5 (loc' := [some (.ref (B + 54)), some (.int za), some (.int (nI k3)), some (.int (-1)), some (.int (nI (i55 + 1))), none, some (.int (nI i73))]) rfl ?_
                          refine pm_fg 6 (loc' := [some (.ref (B + 54)), some (.int za), some (.int (nI k3)), some (.int (-1)), some (.int (nI (i55 + 1))), none, none]) rfl ?_
                          exact ih55 I73 A_80 (i55 + 1) (by omega) (by omega)
                        · refine pm_aloadn hG dX12_weigh_154 rfl ?_
                          refine pm_iloadn hG dX12_weigh_155 rfl ?_
                          refine pm_iloadi hG dX12_weigh_156 rfl ?_
                          refine pm_iconst (v := (-1)) hG dX12_weigh_158 (by decide) ?_
                          refine pm_aloadn hG dX12_weigh_159 rfl ?_
                          refine pm_getf hG dX12_weigh_160 (flX12_7 _ rfl) rfl rfl ?_
                          refine pm_bipush (v := nI 8) hG dX12_weigh_163 (by decide) ?_
                          refine pm_ialdN hG dX12_weigh_165 rfl (by decide) (by omega) ?_
                          refine pm_top (v := nI k49) ek49 ?_
                          refine pm_callV (As := [.int (-1), .int (nI i55), .int (-1), .int (nI k49)]) (rest := [.int (nI i55), .ref (B + 64)]) hG hR dX12_weigh_166 (lkX12_214 _ rfl) okV_X12_comesTo rfl rfl (m_comesTo_m_n20_m (d := 3) (by decide) hn hr hz (by omega)) rfl rfl hdd (Nat.le_refl _) (Nat.le_refl _) (Nat.le_of_ble_eq_true rfl) (pm_ki (fun v81 σ' cnt' hq => ?_))
                          obtain ⟨⟨I82, A82, rfl⟩, rfl⟩ := hq
                          refine pm_if_ne (tgt := 176) hG dX12_weigh_169 rfl (fun c83 => ?_) (fun c83 => ?_)
                          · refine pm_iloadi hG dX12_weigh_176 rfl ?_
                            refine pm_iastN hG dX12_weigh_178 rfl (by decide) (by omega) ?_
                            refine mdn_weights (fun A_84 => ?_)
                            refine pm_aloadn hG dX12_weigh_179 rfl ?_
                            refine pm_getf hG dX12_weigh_180 (flX12_40 _ rfl) rfl rfl ?_
                            refine pm_iloadi hG dX12_weigh_183 rfl ?_
                            refine pm_iconst (v := nI 0) hG dX12_weigh_185 (by decide) ?_
                            refine pm_iastN hG dX12_weigh_186 rfl (by decide) (by omega) ?_
                            refine mdn_voices (fun A_85 => ?_)
                            refine pm_iincX (v := nI (i55 + 1)) (loc' := [some (.ref (B + 54)), some (.int za), some (.int (nI k3)), some (.int (-1)), some (.int (nI (i55 + 1))), some (.int x73_5), some (.int (nI i73))]) hG dX12_weigh_187 rfl (nI_1 _) (by decide) (pm_c1b rfl) rfl ?_
                            refine pm_goto (tgt := 67) hG dX12_weigh_190 rfl ?_
                            refine pm_fg 5 (loc' := [some (.ref (B + 54)), some (.int za), some (.int (nI k3)), some (.int (-1)), some (.int (nI (i55 + 1))), none, some (.int (nI i73))]) rfl ?_
                            refine pm_fg 6 (loc' := [some (.ref (B + 54)), some (.int za), some (.int (nI k3)), some (.int (-1)), some (.int (nI (i55 + 1))), none, none]) rfl ?_
                            exact ih55 I82 A_85 (i55 + 1) (by omega) (by omega)
                          · refine pm_iconst (v := nI 0) hG dX12_weigh_172 (by decide) ?_
                            refine pm_goto (tgt := 178) hG dX12_weigh_173 rfl ?_
                            refine pm_iastN hG dX12_weigh_178 rfl (by decide) (by omega) ?_
                            refine mdn_weights (fun A_86 => ?_)
                            refine pm_aloadn hG dX12_weigh_179 rfl ?_
                            refine pm_getf hG dX12_weigh_180 (flX12_40 _ rfl) rfl rfl ?_
                            refine pm_iloadi hG dX12_weigh_183 rfl ?_
                            refine pm_iconst (v := nI 0) hG dX12_weigh_185 (by decide) ?_
                            refine pm_iastN hG dX12_weigh_186 rfl (by decide) (by omega) ?_
                            refine mdn_voices (fun A_87 => ?_)
                            refine pm_iincX (v := nI (i55 + 1)) (loc' := [some (.ref (B + 54)), some (.int za), some (.int (nI k3)), some (.int (-1)), some (.int (nI (i55 + 1))), some (.int x73_5), some (.int (nI i73))]) hG dX12_weigh_187 rfl (nI_1 _) (by decide) (pm_c1b rfl) rfl ?_
                            refine pm_goto (tgt := 67) hG dX12_weigh_190 rfl ?_
                            refine pm_fg 5 (loc' := [some (.ref (B + 54)), some (.int za), some (.int (nI k3)), some (.int (-1)), some (.int (nI (i55 + 1))), none, some (.int (nI i73))]) rfl ?_
                            refine pm_fg 6 (loc' := [some (.ref (B + 54)), some (.int za), some (.int (nI k3)), some (.int (-1)), some (.int (nI (i55 + 1))), none, none]) rfl ?_
                            exact ih55 I82 A_87 (i55 + 1) (by omega) (by omega)
                      · refine pm_iloadi hG dX12_weigh_95 rfl ?_
                        refine pm_aloadn hG dX12_weigh_97 rfl ?_
                        refine pm_iloadi hG dX12_weigh_98 rfl ?_
                        refine pm_iconst (v := nI 1) hG dX12_weigh_100 (by decide) ?_
                        refine pm_callV (As := [.int (nI i73), .int (nI 1)]) (rest := [.int x73_5]) hG hR dX12_weigh_101 (lkX12_110 _ rfl) okV_X12_its rfl rfl (m_its (d := 3) (e := 6 * i73 + 391) (by omega) (by omega) (by omega)) rfl rfl hdd (Nat.le_refl _) (Nat.le_refl _) (Nat.le_of_ble_eq_true rfl) (pm_ki (fun v88 σ' cnt' hq => ?_))
                        obtain ⟨rfl, rfl, rfl⟩ := hq
                        rcases KI.opt hn (show kd (6 * i73 + 391) = (2, 20, false) from (kd_W (k := i73) (c := 1) (by omega) (by omega) (by decide))) with ek89 | ⟨k89, hk89, ek89⟩
                        · refine pm_top (v := (-1)) ek89 ?_
                          refine pm_iloadi hG dX12_weigh_104 rfl ?_
                          refine pm_icmp_ne (tgt := 127) hG dX12_weigh_106 rfl (fun _ => ?_) (fun q => absurd q ((fun q => nI_m1 (by omega) q.symm)))
                          refine pm_iconst (v := nI 0) hG dX12_weigh_127 (by decide) ?_
                          refine pm_iadd hG dX12_weigh_128 ?_
                          refine pm_istoreXi (loc' := [some (.ref (B + 54)), some (.int za), some (.int (nI k3)), some (.int (-1)), some (.int (nI i55)), some (.int (x73_5 + (nI 0))), some (.int (nI i73))]) hG dX12_weigh_129 (by decide) (pm_c1b rfl) rfl ?_
                          refine pm_iincX (v := nI (i73 + 1)) (loc' := [some (.ref (B + 54)), some (.int za), some (.int (nI k3)), some (.int (-1)), some (.int (nI i55)), some (.int (x73_5 + (nI 0))), some (.int (nI (i73 + 1)))]) hG dX12_weigh_131 rfl (nI_1 _) (by decide) (pm_c1b rfl) rfl ?_
                          refine pm_goto (tgt := 84) hG dX12_weigh_134 rfl ?_
                          exact ih73 I73 A73 (x73_5 + (nI 0)) (i73 + 1) (by omega) (by omega)
                        · refine pm_top (v := nI k89) ek89 ?_
                          refine pm_iloadi hG dX12_weigh_104 rfl ?_
                          refine pm_icmpN_ne (tgt := 127) hG dX12_weigh_106 rfl (by omega) (by omega) (fun c90 => ?_) (fun c90 => ?_)
                          · refine pm_iconst (v := nI 0) hG dX12_weigh_127 (by decide) ?_
                            refine pm_iadd hG dX12_weigh_128 ?_
                            refine pm_istoreXi (loc' := [some (.ref (B + 54)), some (.int za), some (.int (nI k3)), some (.int (-1)), some (.int (nI i55)), some (.int (x73_5 + (nI 0))), some (.int (nI i73))]) hG dX12_weigh_129 (by decide) (pm_c1b rfl) rfl ?_
                            refine pm_iincX (v := nI (i73 + 1)) (loc' := [some (.ref (B + 54)), some (.int za), some (.int (nI k3)), some (.int (-1)), some (.int (nI i55)), some (.int (x73_5 + (nI 0))), some (.int (nI (i73 + 1)))]) hG dX12_weigh_131 rfl (nI_1 _) (by decide) (pm_c1b rfl) rfl ?_
                            refine pm_goto (tgt := 84) hG dX12_weigh_134 rfl ?_
                            exact ih73 I73 A73 (x73_5 + (nI 0)) (i73 + 1) (by omega) (by omega)
                          · refine pm_aloadn hG dX12_weigh_109 rfl ?_
                            refine pm_iloadi hG dX12_weigh_110 rfl ?_
                            refine pm_iconst (v := nI 0) hG dX12_weigh_112 (by decide) ?_
                            refine pm_callV (As := [.int (nI i73), .int (nI 0)]) (rest := [.int x73_5]) hG hR dX12_weigh_113 (lkX12_110 _ rfl) okV_X12_its rfl rfl (m_its (d := 3) (e := 6 * i73 + 390) (by omega) (by omega) (by omega)) rfl rfl hdd (Nat.le_refl _) (Nat.le_refl _) (Nat.le_of_ble_eq_true rfl) (pm_ki (fun v91 σ' cnt' hq => ?_))
                            obtain ⟨rfl, rfl, rfl⟩ := hq
                            refine pm_gen (fun x92 ex92 => ?_)
                            refine pm_iconst (v := nI 1) hG dX12_weigh_116 (by decide) ?_
                            refine pm_callS (As := [.int x92, .int (nI 1)]) (rest := [.int x73_5]) hG hR dX12_weigh_117 (lkX12_135 _ rfl) okS_X12_isUnder (m_isUnder (d := 3) (by decide) hn hz) rfl rfl hdd (Nat.le_refl _) (Nat.le_refl _) (Nat.le_of_ble_eq_true rfl) (pm_ki (fun v93 σ' cnt' hq => ?_))
                            obtain ⟨rfl, rfl, bv93⟩ := hq
                            refine pm_if_eq (tgt := 127) hG dX12_weigh_120 rfl (fun c95 => ?_) (fun c95 => ?_)
                            · refine pm_iconst (v := nI 0) hG dX12_weigh_127 (by decide) ?_
                              refine pm_iadd hG dX12_weigh_128 ?_
                              refine pm_istoreXi (loc' := [some (.ref (B + 54)), some (.int za), some (.int (nI k3)), some (.int (-1)), some (.int (nI i55)), some (.int (x73_5 + (nI 0))), some (.int (nI i73))]) hG dX12_weigh_129 (by decide) (pm_c1b rfl) rfl ?_
                              refine pm_iincX (v := nI (i73 + 1)) (loc' := [some (.ref (B + 54)), some (.int za), some (.int (nI k3)), some (.int (-1)), some (.int (nI i55)), some (.int (x73_5 + (nI 0))), some (.int (nI (i73 + 1)))]) hG dX12_weigh_131 rfl (nI_1 _) (by decide) (pm_c1b rfl) rfl ?_
                              refine pm_goto (tgt := 84) hG dX12_weigh_134 rfl ?_
                              exact ih73 I73 A73 (x73_5 + (nI 0)) (i73 + 1) (by omega) (by omega)
                            · refine pm_iconst (v := nI 1) hG dX12_weigh_123 (by decide) ?_
                              refine pm_goto (tgt := 128) hG dX12_weigh_124 rfl ?_
                              refine pm_iadd hG dX12_weigh_128 ?_
                              refine pm_istoreXi (loc' := [some (.ref (B + 54)), some (.int za), some (.int (nI k3)), some (.int (-1)), some (.int (nI i55)), some (.int (x73_5 + (nI 1))), some (.int (nI i73))]) hG dX12_weigh_129 (by decide) (pm_c1b rfl) rfl ?_
                              refine pm_iincX (v := nI (i73 + 1)) (loc' := [some (.ref (B + 54)), some (.int za), some (.int (nI k3)), some (.int (-1)), some (.int (nI i55)), some (.int (x73_5 + (nI 1))), some (.int (nI (i73 + 1)))]) hG dX12_weigh_131 rfl (nI_1 _) (by decide) (pm_c1b rfl) rfl ?_
                              refine pm_goto (tgt := 84) hG dX12_weigh_134 rfl ?_
                              exact ih73 I73 A73 (x73_5 + (nI 1)) (i73 + 1) (by omega) (by omega)
                  exact loop84_73 _ I55 A55 (nI 1) 0 (by omega) (Nat.lt_succ_self _)
            exact loop67_55 _ I51 A51 0 (by omega) (Nat.lt_succ_self _)
          · refine pm_istoreXn (loc' := [some (.ref (B + 54)), some (.int za), some (.int (nI k3)), some (.int (nI k54)), none, none, none]) hG dX12_weigh_63 (by decide) (pm_c1b rfl) rfl ?_
            refine pm_iconst (v := nI 0) hG dX12_weigh_64 (by decide) ?_
            refine pm_istoreXi (loc' := [some (.ref (B + 54)), some (.int za), some (.int (nI k3)), some (.int (nI k54)), some (.int (nI 0)), none, none]) hG dX12_weigh_65 (by decide) (pm_c1b rfl) rfl ?_
            have loop67_96 : ∀ (m96 : Nat) (I96 : Nat → Int32) (A96 : Nat → Nat → Int32) (i96 : Nat), i96 ≤ 20 → 20 - i96 < m96 → pm_wp mX12_weigh G B 67 [some (.ref (B + 54)), some (.int za), some (.int (nI k3)), some (.int (nI k54)), some (.int (nI i96)), none, none] [] 0 0 cnt (pm_mid σ (md_L B I96 A96 n k z ac wt pl (nI p0) (nI t0) im)) := by
              intro m96
              induction m96 with
              | zero => intro I96 A96 i96 _ hm; exact absurd hm (Nat.not_lt_zero _)
              | succ m96 ih96 =>
                intro I96 A96 i96 hi96 hm96
                refine pm_iloadi hG dX12_weigh_67 rfl ?_
                refine pm_aloadn hG dX12_weigh_69 rfl ?_
                refine pm_getf hG dX12_weigh_70 (flX12_7 _ rfl) rfl rfl ?_
                refine pm_iconst (v := nI 2) hG dX12_weigh_73 (by decide) ?_
                refine pm_ialdN hG dX12_weigh_74 rfl (by decide) (by omega) ?_
                refine pm_top (v := nI k1) ek1 ?_
                refine pm_icmpN_ge (tgt := 193) hG dX12_weigh_75 rfl (by omega) (by omega) (fun c97 => ?_) (fun c97 => ?_)
                · refine pm_iconst (v := nI 0) hG dX12_weigh_193 (by decide) ?_
                  refine pm_istoreXi (loc' := [some (.ref (B + 54)), some (.int za), some (.int (nI k3)), some (.int (nI k54)), some (.int (nI 0)), none, none]) hG dX12_weigh_194 (by decide) (pm_c1b rfl) rfl ?_
                  have loop196_98 : ∀ (m98 : Nat) (I98 : Nat → Int32) (A98 : Nat → Nat → Int32) (i98 : Nat), i98 ≤ 30 → 30 - i98 < m98 → pm_wp mX12_weigh G B 196 [some (.ref (B + 54)), some (.int za), some (.int (nI k3)), some (.int (nI k54)), some (.int (nI i98)), none, none] [] 0 0 cnt (pm_mid σ (md_L B I98 A98 n k z ac wt pl (nI p0) (nI t0) im)) := by
                    intro m98
                    induction m98 with
                    | zero => intro I98 A98 i98 _ hm; exact absurd hm (Nat.not_lt_zero _)
                    | succ m98 ih98 =>
                      intro I98 A98 i98 hi98 hm98
                      refine pm_iloadi hG dX12_weigh_196 rfl ?_
                      refine pm_aloadn hG dX12_weigh_198 rfl ?_
                      refine pm_getf hG dX12_weigh_199 (flX12_7 _ rfl) rfl rfl ?_
                      refine pm_bipush (v := nI 7) hG dX12_weigh_202 (by decide) ?_
                      refine pm_ialdN hG dX12_weigh_204 rfl (by decide) (by omega) ?_
                      obtain ⟨k99, hk99, ek99⟩ := KI.nat hn (show kd 7 = (1, 31, false) by decide)
                      refine pm_top (v := nI k99) ek99 ?_
                      refine pm_icmpN_ge (tgt := 262) hG dX12_weigh_205 rfl (by omega) (by omega) (fun c100 => ?_) (fun c100 => ?_)
                      · exact pm_vret hG hF dX12_weigh_262 rfl (Nat.le_refl _) (Nat.le_refl _) ⟨rfl, ⟨_, _, rfl⟩, rfl⟩
                      · refine pm_aloadn hG dX12_weigh_208 rfl ?_
                        refine pm_iloadi hG dX12_weigh_209 rfl ?_
                        refine pm_iconst (v := nI 1) hG dX12_weigh_211 (by decide) ?_
                        refine pm_callV (As := [.int (nI i98), .int (nI 1)]) (rest := []) hG hR dX12_weigh_212 (lkX12_223 _ rfl) okV_X12_promised rfl rfl (m_promised (d := 3) (e := 6 * i98 + 1807) (by omega) (by omega) (by omega)) rfl rfl hdd (Nat.le_refl _) (Nat.le_refl _) (by decide) (pm_ki (fun v101 σ' cnt' hq => ?_))
                        obtain ⟨rfl, rfl, rfl⟩ := hq
                        refine pm_gen (fun x102 ex102 => ?_)
                        refine pm_iloadn hG dX12_weigh_215 rfl ?_
                        refine pm_icmp_ne (tgt := 256) hG dX12_weigh_216 rfl (fun c103 => ?_) (fun c103 => ?_)
                        · refine pm_iincX (v := nI (i98 + 1)) (loc' := [some (.ref (B + 54)), some (.int za), some (.int (nI k3)), some (.int (nI k54)), some (.int (nI (i98 + 1))), none, none]) hG dX12_weigh_256 rfl (nI_1 _) (by decide) (pm_c1b rfl) rfl ?_
                          refine pm_goto (tgt := 196) hG dX12_weigh_259 rfl ?_
                          exact ih98 I98 A98 (i98 + 1) (by omega) (by omega)
                        · refine pm_aloadn hG dX12_weigh_219 rfl ?_
                          refine pm_iloadi hG dX12_weigh_220 rfl ?_
                          refine pm_callV (As := [.int (nI i98)]) (rest := []) hG hR dX12_weigh_222 (lkX12_226 _ rfl) okV_X12_stands rfl rfl (m_stands (d := 3) (by decide) hn hz (by omega)) rfl rfl hdd (Nat.le_refl _) (Nat.le_refl _) (by decide) (pm_ki (fun v104 σ' cnt' hq => ?_))
                          obtain ⟨rfl, rfl, bv104⟩ := hq
                          refine pm_if_eq (tgt := 256) hG dX12_weigh_225 rfl (fun c106 => ?_) (fun c106 => ?_)
                          · refine pm_iincX (v := nI (i98 + 1)) (loc' := [some (.ref (B + 54)), some (.int za), some (.int (nI k3)), some (.int (nI k54)), some (.int (nI (i98 + 1))), none, none]) hG dX12_weigh_256 rfl (nI_1 _) (by decide) (pm_c1b rfl) rfl ?_
                            refine pm_goto (tgt := 196) hG dX12_weigh_259 rfl ?_
                            exact ih98 I98 A98 (i98 + 1) (by omega) (by omega)
                          · refine pm_aloadn hG dX12_weigh_228 rfl ?_
                            refine pm_getf hG dX12_weigh_229 (flX12_40 _ rfl) rfl rfl ?_
                            refine pm_aloadn hG dX12_weigh_232 rfl ?_
                            refine pm_iloadi hG dX12_weigh_233 rfl ?_
                            refine pm_iconst (v := nI 0) hG dX12_weigh_235 (by decide) ?_
                            refine pm_callV (As := [.int (nI i98), .int (nI 0)]) (rest := [.ref (B + 65)]) hG hR dX12_weigh_236 (lkX12_223 _ rfl) okV_X12_promised rfl rfl (m_promised (d := 3) (e := 6 * i98 + 1806) (by omega) (by omega) (by omega)) rfl rfl hdd (Nat.le_refl _) (Nat.le_refl _) (Nat.le_of_ble_eq_true rfl) (pm_ki (fun v107 σ' cnt' hq => ?_))
                            obtain ⟨rfl, rfl, rfl⟩ := hq
                            obtain ⟨k108, hk108, ek108⟩ := KI.nat hn (show kd (6 * i98 + 1806) = (1, 20, false) from (kd_Q (k := i98) (c := 0) (by omega) (by omega) (by decide)))
                            refine pm_top (v := nI k108) ek108 ?_
                            refine pm_aloadn hG dX12_weigh_239 rfl ?_
                            refine pm_iloadi hG dX12_weigh_240 rfl ?_
                            refine pm_iconst (v := nI 3) hG dX12_weigh_242 (by decide) ?_
                            refine pm_callV (As := [.int (nI i98), .int (nI 3)]) (rest := [.int (nI k108), .ref (B + 65)]) hG hR dX12_weigh_243 (lkX12_223 _ rfl) okV_X12_promised rfl rfl (m_promised (d := 3) (e := 6 * i98 + 1809) (by omega) (by omega) (by omega)) rfl rfl hdd (Nat.le_refl _) (Nat.le_refl _) (Nat.le_of_ble_eq_true rfl) (pm_ki (fun v109 σ' cnt' hq => ?_))
                            obtain ⟨rfl, rfl, rfl⟩ := hq
                            refine pm_gen (fun x110 ex110 => ?_)
                            refine pm_iconst (v := nI 1) hG dX12_weigh_246 (by decide) ?_
                            refine pm_icmp_ne (tgt := 254) hG dX12_weigh_247 rfl (fun c111 => ?_) (fun c111 => ?_)
                            · refine pm_iconst (v := (-1)) hG dX12_weigh_254 (by decide) ?_
                              refine pm_iastN hG dX12_weigh_255 rfl (by decide) (by omega) ?_
                              refine mdn_voices (fun A_112 => ?_)
                              refine pm_iincX (v := nI (i98 + 1)) (loc' := [some (.ref (B + 54)), some (.int za), some (.int (nI k3)), some (.int (nI k54)), some (.int (nI (i98 + 1))), none, none]) hG dX12_weigh_256 rfl (nI_1 _) (by decide) (pm_c1b rfl) rfl ?_
                              refine pm_goto (tgt := 196) hG dX12_weigh_259 rfl ?_
                              exact ih98 I98 A_112 (i98 + 1) (by omega) (by omega)
                            · refine pm_iconst (v := nI 1) hG dX12_weigh_250 (by decide) ?_
                              refine pm_goto (tgt := 255) hG dX12_weigh_251 rfl ?_
                              refine pm_iastN hG dX12_weigh_255 rfl (by decide) (by omega) ?_
                              refine mdn_voices (fun A_113 => ?_)
                              refine pm_iincX (v := nI (i98 + 1)) (loc' := [some (.ref (B + 54)), some (.int za), some (.int (nI k3)), some (.int (nI k54)), some (.int (nI (i98 + 1))), none, none]) hG dX12_weigh_256 rfl (nI_1 _) (by decide) (pm_c1b rfl) rfl ?_
                              refine pm_goto (tgt := 196) hG dX12_weigh_259 rfl ?_
                              exact ih98 I98 A_113 (i98 + 1) (by omega) (by omega)
                  exact loop196_98 _ I96 A96 0 (by omega) (Nat.lt_succ_self _)
                · refine pm_iconst (v := nI 1) hG dX12_weigh_78 (by decide) ?_
                  refine pm_istoreXi (loc' := [some (.ref (B + 54)), some (.int za), some (.int (nI k3)), some (.int (nI k54)), some (.int (nI i96)), some (.int (nI 1)), none]) hG dX12_weigh_79 (by decide) (pm_c1b rfl) rfl ?_
                  refine pm_iconst (v := nI 0) hG dX12_weigh_81 (by decide) ?_
                  refine pm_istoreXi (loc' := [some (.ref (B + 54)), some (.int za), some (.int (nI k3)), some (.int (nI k54)), some (.int (nI i96)), some (.int (nI 1)), some (.int (nI 0))]) hG dX12_weigh_82 (by decide) (pm_c1b rfl) rfl ?_
                  have loop84_114 : ∀ (m114 : Nat) (I114 : Nat → Int32) (A114 : Nat → Nat → Int32) (x114_5 : Int32) (i114 : Nat), i114 ≤ 20 → 20 - i114 < m114 → pm_wp mX12_weigh G B 84 [some (.ref (B + 54)), some (.int za), some (.int (nI k3)), some (.int (nI k54)), some (.int (nI i96)), some (.int x114_5), some (.int (nI i114))] [] 0 0 cnt (pm_mid σ (md_L B I114 A114 n k z ac wt pl (nI p0) (nI t0) im)) := by
                    intro m114
                    induction m114 with
                    | zero => intro I114 A114 x114_5 i114 _ hm; exact absurd hm (Nat.not_lt_zero _)
                    | succ m114 ih114 =>
                      intro I114 A114 x114_5 i114 hi114 hm114
                      refine pm_iloadi hG dX12_weigh_84 rfl ?_
                      refine pm_aloadn hG dX12_weigh_86 rfl ?_
                      refine pm_getf hG dX12_weigh_87 (flX12_7 _ rfl) rfl rfl ?_
                      refine pm_iconst (v := nI 3) hG dX12_weigh_90 (by decide) ?_
                      refine pm_ialdN hG dX12_weigh_91 rfl (by decide) (by omega) ?_
                      obtain ⟨k115, hk115, ek115⟩ := KI.nat hn (show kd 3 = (1, 21, false) by decide)
                      refine pm_top (v := nI k115) ek115 ?_
                      refine pm_icmpN_ge (tgt := 137) hG dX12_weigh_92 rfl (by omega) (by omega) (fun c116 => ?_) (fun c116 => ?_)
                      · refine pm_aloadn hG dX12_weigh_137 rfl ?_
                        refine pm_getf hG dX12_weigh_138 (flX12_37 _ rfl) rfl rfl ?_
                        refine pm_iloadi hG dX12_weigh_141 rfl ?_
                        refine pm_aloadn hG dX12_weigh_143 rfl ?_
                        refine pm_iloadi hG dX12_weigh_144 rfl ?_
                        refine pm_bipush (v := nI 11) hG dX12_weigh_146 (by decide) ?_
                        refine pm_callV (As := [.int (nI i96), .int (nI 11)]) (rest := [.int (nI i96), .ref (B + 64)]) hG hR dX12_weigh_148 (lkX12_72 _ rfl) okV_X12_man rfl rfl (m_man (d := 3) (e := 14 * i96 + 121) (by omega) (by omega) (by omega)) rfl rfl hdd (Nat.le_refl _) (Nat.le_refl _) (Nat.le_of_ble_eq_true rfl) (pm_ki (fun v117 σ' cnt' hq => ?_))
                        obtain ⟨rfl, rfl, rfl⟩ := hq
                        obtain ⟨k118, hk118, ek118⟩ := KI.nat hn (show kd (14 * i96 + 121) = (1, 2, true) from (kd_P (k := i96) (c := 11) (by omega) (by omega) (by decide)))
                        refine pm_top (v := nI k118) ek118 ?_
                        refine pm_ifN_eq (tgt := 172) hG dX12_weigh_151 rfl (by omega) (fun c119 => ?_) (fun c119 => ?_)
                        · refine pm_iconst (v := nI 0) hG dX12_weigh_172 (by decide) ?_
                          refine pm_goto (tgt := 178) hG dX12_weigh_173 rfl ?_
                          refine pm_iastN hG dX12_weigh_178 rfl (by decide) (by omega) ?_
                          refine mdn_weights (fun A_120 => ?_)
                          refine pm_aloadn hG dX12_weigh_179 rfl ?_
                          refine pm_getf hG dX12_weigh_180 (flX12_40 _ rfl) rfl rfl ?_
                          refine pm_iloadi hG dX12_weigh_183 rfl ?_
                          refine pm_iconst (v := nI 0) hG dX12_weigh_185 (by decide) ?_
                          refine pm_iastN hG dX12_weigh_186 rfl (by decide) (by omega) ?_
                          refine mdn_voices (fun A_121 => ?_)
                          refine pm_iincX (v := nI (i96 + 1)) (loc' := [some (.ref (B + 54)), some (.int za), some (.int (nI k3)), some (.int (nI k54)), some (.int (nI (i96 + 1))), some (.int x114_5), some (.int (nI i114))]) hG dX12_weigh_187 rfl (nI_1 _) (by decide) (pm_c1b rfl) rfl ?_
                          refine pm_goto (tgt := 67) hG dX12_weigh_190 rfl ?_
                          refine pm_fg 5 (loc' := [some (.ref (B + 54)), some (.int za), some (.int (nI k3)), some (.int (nI k54)), some (.int (nI (i96 + 1))), none, some (.int (nI i114))]) rfl ?_
                          refine pm_fg 6 (loc' := [some (.ref (B + 54)), some (.int za), some (.int (nI k3)), some (.int (nI k54)), some (.int (nI (i96 + 1))), none, none]) rfl ?_
                          exact ih96 I114 A_121 (i96 + 1) (by omega) (by omega)
                        · refine pm_aloadn hG dX12_weigh_154 rfl ?_
                          refine pm_iloadn hG dX12_weigh_155 rfl ?_
                          refine pm_iloadi hG dX12_weigh_156 rfl ?_
                          refine pm_iconst (v := (-1)) hG dX12_weigh_158 (by decide) ?_
                          refine pm_aloadn hG dX12_weigh_159 rfl ?_
                          refine pm_getf hG dX12_weigh_160 (flX12_7 _ rfl) rfl rfl ?_
                          refine pm_bipush (v := nI 8) hG dX12_weigh_163 (by decide) ?_
                          refine pm_ialdN hG dX12_weigh_165 rfl (by decide) (by omega) ?_
                          refine pm_top (v := nI k49) ek49 ?_
                          refine pm_callV (As := [.int (nI k54), .int (nI i96), .int (-1), .int (nI k49)]) (rest := [.int (nI i96), .ref (B + 64)]) hG hR dX12_weigh_166 (lkX12_214 _ rfl) okV_X12_comesTo rfl rfl (m_comesTo_n12_n20_m (d := 3) (by decide) hn hr hz (by omega) (by omega)) rfl rfl hdd (Nat.le_refl _) (Nat.le_refl _) (Nat.le_of_ble_eq_true rfl) (pm_ki (fun v122 σ' cnt' hq => ?_))
                          obtain ⟨⟨I123, A123, rfl⟩, rfl⟩ := hq
                          refine pm_if_ne (tgt := 176) hG dX12_weigh_169 rfl (fun c124 => ?_) (fun c124 => ?_)
                          · refine pm_iloadi hG dX12_weigh_176 rfl ?_
                            refine pm_iastN hG dX12_weigh_178 rfl (by decide) (by omega) ?_
                            refine mdn_weights (fun A_125 => ?_)
                            refine pm_aloadn hG dX12_weigh_179 rfl ?_
                            refine pm_getf hG dX12_weigh_180 (flX12_40 _ rfl) rfl rfl ?_
                            refine pm_iloadi hG dX12_weigh_183 rfl ?_
                            refine pm_iconst (v := nI 0) hG dX12_weigh_185 (by decide) ?_
                            refine pm_iastN hG dX12_weigh_186 rfl (by decide) (by omega) ?_
                            refine mdn_voices (fun A_126 => ?_)
                            refine pm_iincX (v := nI (i96 + 1)) (loc' := [some (.ref (B + 54)), some (.int za), some (.int (nI k3)), some (.int (nI k54)), some (.int (nI (i96 + 1))), some (.int x114_5), some (.int (nI i114))]) hG dX12_weigh_187 rfl (nI_1 _) (by decide) (pm_c1b rfl) rfl ?_
                            refine pm_goto (tgt := 67) hG dX12_weigh_190 rfl ?_
                            refine pm_fg 5 (loc' := [some (.ref (B + 54)), some (.int za), some (.int (nI k3)), some (.int (nI k54)), some (.int (nI (i96 + 1))), none, some (.int (nI i114))]) rfl ?_
                            refine pm_fg 6 (loc' := [some (.ref (B + 54)), some (.int za), some (.int (nI k3)), some (.int (nI k54)), some (.int (nI (i96 + 1))), none, none]) rfl ?_
                            exact ih96 I123 A_126 (i96 + 1) (by omega) (by omega)
                          · refine pm_iconst (v := nI 0) hG dX12_weigh_172 (by decide) ?_
                            refine pm_goto (tgt := 178) hG dX12_weigh_173 rfl ?_
                            refine pm_iastN hG dX12_weigh_178 rfl (by decide) (by omega) ?_
                            refine mdn_weights (fun A_127 => ?_)
                            refine pm_aloadn hG dX12_weigh_179 rfl ?_
                            refine pm_getf hG dX12_weigh_180 (flX12_40 _ rfl) rfl rfl ?_
                            refine pm_iloadi hG dX12_weigh_183 rfl ?_
                            refine pm_iconst (v := nI 0) hG dX12_weigh_185 (by decide) ?_
                            refine pm_iastN hG dX12_weigh_186 rfl (by decide) (by omega) ?_
                            refine mdn_voices (fun A_128 => ?_)
                            refine pm_iincX (v := nI (i96 + 1)) (loc' := [some (.ref (B + 54)), some (.int za), some (.int (nI k3)), some (.int (nI k54)), some (.int (nI (i96 + 1))), some (.int x114_5), some (.int (nI i114))]) hG dX12_weigh_187 rfl (nI_1 _) (by decide) (pm_c1b rfl) rfl ?_
                            refine pm_goto (tgt := 67) hG dX12_weigh_190 rfl ?_
                            refine pm_fg 5 (loc' := [some (.ref (B + 54)), some (.int za), some (.int (nI k3)), some (.int (nI k54)), some (.int (nI (i96 + 1))), none, some (.int (nI i114))]) rfl ?_
                            refine pm_fg 6 (loc' := [some (.ref (B + 54)), some (.int za), some (.int (nI k3)), some (.int (nI k54)), some (.int (nI (i96 + 1))), none, none]) rfl ?_
                            exact ih96 I123 A_128 (i96 + 1) (by omega) (by omega)
                      · refine pm_iloadi hG dX12_weigh_95 rfl ?_
                        refine pm_aloadn hG dX12_weigh_97 rfl ?_
                        refine pm_iloadi hG dX12_weigh_98 rfl ?_
                        refine pm_iconst (v := nI 1) hG dX12_weigh_100 (by decide) ?_
                        refine pm_callV (As := [.int (nI i114), .int (nI 1)]) (rest := [.int x114_5]) hG hR dX12_weigh_101 (lkX12_110 _ rfl) okV_X12_its rfl rfl (m_its (d := 3) (e := 6 * i114 + 391) (by omega) (by omega) (by omega)) rfl rfl hdd (Nat.le_refl _) (Nat.le_refl _) (Nat.le_of_ble_eq_true rfl) (pm_ki (fun v129 σ' cnt' hq => ?_))
                        obtain ⟨rfl, rfl, rfl⟩ := hq
                        rcases KI.opt hn (show kd (6 * i114 + 391) = (2, 20, false) from (kd_W (k := i114) (c := 1) (by omega) (by omega) (by decide))) with ek130 | ⟨k130, hk130, ek130⟩
                        · refine pm_top (v := (-1)) ek130 ?_
                          refine pm_iloadi hG dX12_weigh_104 rfl ?_
                          refine pm_icmp_ne (tgt := 127) hG dX12_weigh_106 rfl (fun _ => ?_) (fun q => absurd q ((fun q => nI_m1 (by omega) q.symm)))
                          refine pm_iconst (v := nI 0) hG dX12_weigh_127 (by decide) ?_
                          refine pm_iadd hG dX12_weigh_128 ?_
                          refine pm_istoreXi (loc' := [some (.ref (B + 54)), some (.int za), some (.int (nI k3)), some (.int (nI k54)), some (.int (nI i96)), some (.int (x114_5 + (nI 0))), some (.int (nI i114))]) hG dX12_weigh_129 (by decide) (pm_c1b rfl) rfl ?_
                          refine pm_iincX (v := nI (i114 + 1)) (loc' := [some (.ref (B + 54)), some (.int za), some (.int (nI k3)), some (.int (nI k54)), some (.int (nI i96)), some (.int (x114_5 + (nI 0))), some (.int (nI (i114 + 1)))]) hG dX12_weigh_131 rfl (nI_1 _) (by decide) (pm_c1b rfl) rfl ?_
                          refine pm_goto (tgt := 84) hG dX12_weigh_134 rfl ?_
                          exact ih114 I114 A114 (x114_5 + (nI 0)) (i114 + 1) (by omega) (by omega)
                        · refine pm_top (v := nI k130) ek130 ?_
                          refine pm_iloadi hG dX12_weigh_104 rfl ?_
                          refine pm_icmpN_ne (tgt := 127) hG dX12_weigh_106 rfl (by omega) (by omega) (fun c131 => ?_) (fun c131 => ?_)
                          · refine pm_iconst (v := nI 0) hG dX12_weigh_127 (by decide) ?_
                            refine pm_iadd hG dX12_weigh_128 ?_
                            refine pm_istoreXi (loc' := [some (.ref (B + 54)), some (.int za), some (.int (nI k3)), some (.int (nI k54)), some (.int (nI i96)), some (.int (x114_5 + (nI 0))), some (.int (nI i114))]) hG dX12_weigh_129 (by decide) (pm_c1b rfl) rfl ?_
                            refine pm_iincX (v := nI (i114 + 1)) (loc' := [some (.ref (B + 54)), some (.int za), some (.int (nI k3)), some (.int (nI k54)), some (.int (nI i96)), some (.int (x114_5 + (nI 0))), some (.int (nI (i114 + 1)))]) hG dX12_weigh_131 rfl (nI_1 _) (by decide) (pm_c1b rfl) rfl ?_
                            refine pm_goto (tgt := 84) hG dX12_weigh_134 rfl ?_
                            exact ih114 I114 A114 (x114_5 + (nI 0)) (i114 + 1) (by omega) (by omega)
                          · refine pm_aloadn hG dX12_weigh_109 rfl ?_
                            refine pm_iloadi hG dX12_weigh_110 rfl ?_
                            refine pm_iconst (v := nI 0) hG dX12_weigh_112 (by decide) ?_
                            refine pm_callV (As := [.int (nI i114), .int (nI 0)]) (rest := [.int x114_5]) hG hR dX12_weigh_113 (lkX12_110 _ rfl) okV_X12_its rfl rfl (m_its (d := 3) (e := 6 * i114 + 390) (by omega) (by omega) (by omega)) rfl rfl hdd (Nat.le_refl _) (Nat.le_refl _) (Nat.le_of_ble_eq_true rfl) (pm_ki (fun v132 σ' cnt' hq => ?_))
                            obtain ⟨rfl, rfl, rfl⟩ := hq
                            refine pm_gen (fun x133 ex133 => ?_)
                            refine pm_iconst (v := nI 1) hG dX12_weigh_116 (by decide) ?_
                            refine pm_callS (As := [.int x133, .int (nI 1)]) (rest := [.int x114_5]) hG hR dX12_weigh_117 (lkX12_135 _ rfl) okS_X12_isUnder (m_isUnder (d := 3) (by decide) hn hz) rfl rfl hdd (Nat.le_refl _) (Nat.le_refl _) (Nat.le_of_ble_eq_true rfl) (pm_ki (fun v134 σ' cnt' hq => ?_))
                            obtain ⟨rfl, rfl, bv134⟩ := hq
                            refine pm_if_eq (tgt := 127) hG dX12_weigh_120 rfl (fun c136 => ?_) (fun c136 => ?_)
                            · refine pm_iconst (v := nI 0) hG dX12_weigh_127 (by decide) ?_
                              refine pm_iadd hG dX12_weigh_128 ?_
                              refine pm_istoreXi (loc' := [some (.ref (B + 54)), some (.int za), some (.int (nI k3)), some (.int (nI k54)), some (.int (nI i96)), some (.int (x114_5 + (nI 0))), some (.int (nI i114))]) hG dX12_weigh_129 (by decide) (pm_c1b rfl) rfl ?_
                              refine pm_iincX (v := nI (i114 + 1)) (loc' := [some (.ref (B + 54)), some (.int za), some (.int (nI k3)), some (.int (nI k54)), some (.int (nI i96)), some (.int (x114_5 + (nI 0))), some (.int (nI (i114 + 1)))]) hG dX12_weigh_131 rfl (nI_1 _) (by decide) (pm_c1b rfl) rfl ?_
                              refine pm_goto (tgt := 84) hG dX12_weigh_134 rfl ?_
                              exact ih114 I114 A114 (x114_5 + (nI 0)) (i114 + 1) (by omega) (by omega)
                            · refine pm_iconst (v := nI 1) hG dX12_weigh_123 (by decide) ?_
                              refine pm_goto (tgt := 128) hG dX12_weigh_124 rfl ?_
                              refine pm_iadd hG dX12_weigh_128 ?_
                              refine pm_istoreXi (loc' := [some (.ref (B + 54)), some (.int za), some (.int (nI k3)), some (.int (nI k54)), some (.int (nI i96)), some (.int (x114_5 + (nI 1))), some (.int (nI i114))]) hG dX12_weigh_129 (by decide) (pm_c1b rfl) rfl ?_
                              refine pm_iincX (v := nI (i114 + 1)) (loc' := [some (.ref (B + 54)), some (.int za), some (.int (nI k3)), some (.int (nI k54)), some (.int (nI i96)), some (.int (x114_5 + (nI 1))), some (.int (nI (i114 + 1)))]) hG dX12_weigh_131 rfl (nI_1 _) (by decide) (pm_c1b rfl) rfl ?_
                              refine pm_goto (tgt := 84) hG dX12_weigh_134 rfl ?_
                              exact ih114 I114 A114 (x114_5 + (nI 1)) (i114 + 1) (by omega) (by omega)
                  exact loop84_114 _ I96 A96 (nI 1) 0 (by omega) (Nat.lt_succ_self _)
            exact loop67_96 _ I51 A51 0 (by omega) (Nat.lt_succ_self _)
        · refine pm_iloadn hG dX12_weigh_11 rfl ?_
          refine pm_top (v := nI i2) (nI_pred _) ?_
          refine pm_ifN_lt hG dX12_weigh_12 rfl (by omega) ?_
          refine pm_aloadn hG dX12_weigh_15 rfl ?_
          refine pm_iloadn hG dX12_weigh_16 rfl ?_
          refine pm_top (v := nI i2) (nI_pred _) ?_
          refine pm_bipush (v := nI 11) hG dX12_weigh_17 (by decide) ?_
          refine pm_callV (As := [.int (nI i2), .int (nI 11)]) (rest := []) hG hR dX12_weigh_19 (lkX12_72 _ rfl) okV_X12_man rfl rfl (m_man (d := 3) (e := 14 * i2 + 121) (by omega) (by omega) (by omega)) rfl rfl hdd (Nat.le_refl _) (Nat.le_refl _) (by decide) (pm_ki (fun v137 σ' cnt' hq => ?_))
          obtain ⟨rfl, rfl, rfl⟩ := hq
          obtain ⟨k138, hk138, ek138⟩ := KI.nat hn (show kd (14 * i2 + 121) = (1, 2, true) from (kd_P (k := i2) (c := 11) (by omega) (by omega) (by decide)))
          refine pm_top (v := nI k138) ek138 ?_
          refine pm_iconst (v := nI 1) hG dX12_weigh_22 (by decide) ?_
          refine pm_icmpN_ne (tgt := 30) hG dX12_weigh_23 rfl (by omega) (by omega) (fun c139 => ?_) (fun c139 => ?_)
          · refine pm_iloadn hG dX12_weigh_30 rfl ?_
            refine pm_istoreXn (loc' := [some (.ref (B + 54)), some (.int za), some (.int (nI k3)), some (.int (nI (i2 + 1) - nI 1)), none, none, none]) hG dX12_weigh_31 (by decide) (pm_c1b rfl) rfl ?_
            refine pm_iincX (v := nI (i2 + 1) - nI 1 + (-1)) (loc' := [some (.ref (B + 54)), some (.int za), some (.int (nI k3)), some (.int (nI (i2 + 1) - nI 1 + (-1))), none, none, none]) hG dX12_weigh_32 rfl (by rfl) (by decide) (pm_c1b rfl) rfl ?_
            refine pm_goto (tgt := 11) hG dX12_weigh_35 rfl ?_
            refine pm_le (loc' := [some (.ref (B + 54)), some (.int za), some (.int (nI k3)), some (.int (nI i2 - nI 1)), none, none, none]) (by rw [nI_dn]) ?_
            exact ih2 I2 A2 (nI k3) i2 (Or.inr ⟨k3, by omega, rfl⟩) (by omega) (by omega)
          · refine pm_iloadn hG dX12_weigh_26 rfl ?_
            refine pm_top (v := nI i2) (nI_pred _) ?_
            refine pm_goto (tgt := 31) hG dX12_weigh_27 rfl ?_
            refine pm_istoreXn (loc' := [some (.ref (B + 54)), some (.int za), some (.int (nI i2)), some (.int (nI (i2 + 1) - nI 1)), none, none, none]) hG dX12_weigh_31 (by decide) (pm_c1b rfl) rfl ?_
            refine pm_iincX (v := nI (i2 + 1) - nI 1 + (-1)) (loc' := [some (.ref (B + 54)), some (.int za), some (.int (nI i2)), some (.int (nI (i2 + 1) - nI 1 + (-1))), none, none, none]) hG dX12_weigh_32 rfl (by rfl) (by decide) (pm_c1b rfl) rfl ?_
            refine pm_goto (tgt := 11) hG dX12_weigh_35 rfl ?_
            refine pm_le (loc' := [some (.ref (B + 54)), some (.int za), some (.int (nI i2)), some (.int (nI i2 - nI 1)), none, none, none]) (by rw [nI_dn]) ?_
            exact ih2 I2 A2 (nI i2) i2 (Or.inr ⟨i2, by omega, rfl⟩) (by omega) (by omega)
  exact loop11_2 _ I A (-1) k1 (Or.inl rfl) (by omega) (Nat.lt_succ_self _)
