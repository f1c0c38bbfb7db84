set_option maxRecDepth 100000 in
set_option maxHeartbeats 4000000 in
theorem m_isUnder {d B cnt p0 t0 : Nat} {σ : pm_S} {I : Nat → Int32} {A : Nat → Nat → Int32} {n k z : Nat → Int32} {ac wt pl : Int32} {za zb : Int32} (hdd : 1 ≤ d) (hn : KI n) (hz : SZ z)  : pm_met mX12_isUnder d 0 0 B [.int za, .int zb] cnt (pm_mid σ (md_L B I A n k z ac wt pl (nI p0) (nI t0))) (pm_Qi (fun v σ' cnt' => σ' = pm_mid σ (md_L B I A n k z ac wt pl (nI p0) (nI t0)) ∧ cnt' = cnt ∧ (v = 0 ∨ v = 1))) := by
  refine pm_enter 0 (by decide) (Nat.le_of_ble_eq_true rfl) rfl (fun G hG hR hF => ?_)
  refine pm_iloadn hG dX12_isUnder_0 rfl ?_
  refine pm_if_eq (tgt := 34) hG dX12_isUnder_1 rfl (fun c1 => ?_) (fun c1 => ?_)
  · refine pm_iconst (v := nI 1) hG dX12_isUnder_34 (by decide) ?_
    refine pm_goto (tgt := 39) hG dX12_isUnder_35 rfl ?_
    exact pm_zret hG hF dX12_isUnder_39 rfl (pm_nz (Or.inr rfl)) (Nat.le_refl _) (Nat.le_refl _) ⟨_, rfl, rfl, rfl, (Or.inr rfl)⟩
  · refine pm_iloadn hG dX12_isUnder_4 rfl ?_
    refine pm_iloadn hG dX12_isUnder_5 rfl ?_
    refine pm_icmp_eq (tgt := 34) hG dX12_isUnder_6 rfl (fun c2 => ?_) (fun c2 => ?_)
    · refine pm_iconst (v := nI 1) hG dX12_isUnder_34 (by decide) ?_
      refine pm_goto (tgt := 39) hG dX12_isUnder_35 rfl ?_
      exact pm_zret hG hF dX12_isUnder_39 rfl (pm_nz (Or.inr rfl)) (Nat.le_refl _) (Nat.le_refl _) ⟨_, rfl, rfl, rfl, (Or.inr rfl)⟩
    · refine pm_iloadn hG dX12_isUnder_9 rfl ?_
      refine pm_iconst (v := nI 1) hG dX12_isUnder_10 (by decide) ?_
      refine pm_icmp_ne (tgt := 24) hG dX12_isUnder_11 rfl (fun c3 => ?_) (fun c3 => ?_)
      · refine pm_iloadn hG dX12_isUnder_24 rfl ?_
        refine pm_iconst (v := nI 3) hG dX12_isUnder_25 (by decide) ?_
        refine pm_icmp_ne (tgt := 38) hG dX12_isUnder_26 rfl (fun c4 => ?_) (fun c4 => ?_)
        · refine pm_iconst (v := nI 0) hG dX12_isUnder_38 (by decide) ?_
          exact pm_zret hG hF dX12_isUnder_39 rfl (pm_nz (Or.inl rfl)) (Nat.le_refl _) (Nat.le_refl _) ⟨_, rfl, rfl, rfl, (Or.inl rfl)⟩
        · refine pm_iloadn hG dX12_isUnder_29 rfl ?_
          refine pm_iconst (v := nI 4) hG dX12_isUnder_30 (by decide) ?_
          refine pm_icmp_ne (tgt := 38) hG dX12_isUnder_31 rfl (fun c5 => ?_) (fun c5 => ?_)
          · refine pm_iconst (v := nI 0) hG dX12_isUnder_38 (by decide) ?_
            exact pm_zret hG hF dX12_isUnder_39 rfl (pm_nz (Or.inl rfl)) (Nat.le_refl _) (Nat.le_refl _) ⟨_, rfl, rfl, rfl, (Or.inl rfl)⟩
          · refine pm_iconst (v := nI 1) hG dX12_isUnder_34 (by decide) ?_
            refine pm_goto (tgt := 39) hG dX12_isUnder_35 rfl ?_
            exact pm_zret hG hF dX12_isUnder_39 rfl (pm_nz (Or.inr rfl)) (Nat.le_refl _) (Nat.le_refl _) ⟨_, rfl, rfl, rfl, (Or.inr rfl)⟩
      · refine pm_iloadn hG dX12_isUnder_14 rfl ?_
        refine pm_iconst (v := nI 3) hG dX12_isUnder_15 (by decide) ?_
        refine pm_icmp_eq (tgt := 34) hG dX12_isUnder_16 rfl (fun c6 => ?_) (fun c6 => ?_)
        · refine pm_iconst (v := nI 1) hG dX12_isUnder_34 (by decide) ?_
          refine pm_goto (tgt := 39) hG dX12_isUnder_35 rfl ?_
          exact pm_zret hG hF dX12_isUnder_39 rfl (pm_nz (Or.inr rfl)) (Nat.le_refl _) (Nat.le_refl _) ⟨_, rfl, rfl, rfl, (Or.inr rfl)⟩
        · refine pm_iloadn hG dX12_isUnder_19 rfl ?_
          refine pm_iconst (v := nI 4) hG dX12_isUnder_20 (by decide) ?_
          refine pm_icmp_eq (tgt := 34) hG dX12_isUnder_21 rfl (fun c7 => ?_) (fun c7 => ?_)
          · refine pm_iconst (v := nI 1) hG dX12_isUnder_34 (by decide) ?_
            refine pm_goto (tgt := 39) hG dX12_isUnder_35 rfl ?_
            exact pm_zret hG hF dX12_isUnder_39 rfl (pm_nz (Or.inr rfl)) (Nat.le_refl _) (Nat.le_refl _) ⟨_, rfl, rfl, rfl, (Or.inr rfl)⟩
          · refine pm_iloadn hG dX12_isUnder_24 rfl ?_
            refine pm_top (v := nI 1) c3 ?_
            refine pm_iconst (v := nI 3) hG dX12_isUnder_25 (by decide) ?_
            refine pm_icmpN_ne (tgt := 38) hG dX12_isUnder_26 rfl (by omega) (by omega) (fun _ => ?_) (fun q => absurd q (by omega))
            refine pm_iconst (v := nI 0) hG dX12_isUnder_38 (by decide) ?_
            exact pm_zret hG hF dX12_isUnder_39 rfl (pm_nz (Or.inl rfl)) (Nat.le_refl _) (Nat.le_refl _) ⟨_, rfl, rfl, rfl, (Or.inl rfl)⟩

set_option maxRecDepth 100000 in
set_option maxHeartbeats 4000000 in
theorem m_as {d B cnt p0 t0 : Nat} {σ : pm_S} {I : Nat → Int32} {A : Nat → Nat → Int32} {n k z : Nat → Int32} {ac wt pl : Int32} {za zb : Int32} (hdd : 2 ≤ d) (hn : KI n) (hz : SZ z)  : pm_met mX12_as d 0 0 B [.ref (B + 54), .int za, .int zb] cnt (pm_mid σ (md_L B I A n k z ac wt pl (nI p0) (nI t0))) (pm_Qi (fun v σ' cnt' => (∃ (I' : Nat → Int32) (A' : Nat → Nat → Int32), σ' = pm_mid σ (md_L B I' A' n k z ac wt pl (nI p0) (nI t0))) ∧ cnt' = cnt)) := by
  refine pm_enter 0 (by decide) (Nat.le_of_ble_eq_true rfl) rfl (fun G hG hR hF => ?_)
  refine pm_aloadn hG dX12_as_0 rfl ?_
  refine pm_iloadn hG dX12_as_1 rfl ?_
  obtain ⟨k1, hk1, ek1⟩ := KI.nat hn (by decide)
  refine pm_callV (As := [.int za]) (rest := []) hG hR dX12_as_2 (lkX12_132 _ rfl) okV_X12_isPower rfl rfl (m_isPower (d := 1) (by decide) ek1 (by omega)) rfl rfl hdd (Nat.le_refl _) (Nat.le_refl _) (by decide) (pm_ki (fun v2 σ' cnt' hq => ?_))
  obtain ⟨hq, rfl, rfl⟩ := hq
  rcases hq with ⟨rfl, k4, hk4, ek4⟩ | rfl
  · refine pm_ifN_eq (tgt := 17) hG dX12_as_5 rfl (by omega) (fun q => absurd q (by omega)) (fun _ => ?_)
    refine pm_iloadn hG dX12_as_8 rfl ?_
    refine pm_iconst (v := nI 0) hG dX12_as_9 (by decide) ?_
    refine pm_iconst (v := nI 5) hG dX12_as_10 (by decide) ?_
    refine pm_callS (As := [.int zb, .int (nI 0), .int (nI 5)]) (rest := []) hG hR dX12_as_11 (lkX12_68 _ rfl) okS_X12_in (m_in (d := 1)) rfl rfl hdd (Nat.le_refl _) (Nat.le_refl _) (by decide) (pm_ki (fun v5 σ' cnt' hq => ?_))
    obtain ⟨hq, rfl, rfl⟩ := hq
    rcases hq with ⟨rfl, ac6, bc6⟩ | ⟨rfl, c6⟩
    · obtain ⟨k7, hk7, ek7⟩ := in_nat (by omega) (by omega) ac6 bc6
      refine pm_ifN_ne (tgt := 23) hG dX12_as_14 rfl (by omega) (fun _ => ?_) (fun q => absurd q (by omega))
      refine pm_aloadn hG dX12_as_23 rfl ?_
      refine pm_iloadn hG dX12_as_24 rfl ?_
      refine pm_top (v := nI k4) ek4 ?_
      refine pm_iconst (v := nI 0) hG dX12_as_25 (by decide) ?_
      refine pm_callV (As := [.int (nI k4), .int (nI 0)]) (rest := []) hG hR dX12_as_26 (lkX12_110 _ rfl) okV_X12_its rfl rfl (m_its (d := 1) (e := 6 * k4 + 390) (by omega) (by omega) (by omega)) rfl rfl hdd (Nat.le_refl _) (Nat.le_refl _) (by decide) (pm_ki (fun v8 σ' cnt' hq => ?_))
      obtain ⟨rfl, rfl, rfl⟩ := hq
      refine pm_gen (fun x9 ex9 => ?_)
      refine pm_iloadn hG dX12_as_29 rfl ?_
      refine pm_top (v := nI k7) ek7 ?_
      refine pm_callS (As := [.int x9, .int (nI k7)]) (rest := []) hG hR dX12_as_30 (lkX12_135 _ rfl) okS_X12_isUnder (m_isUnder (d := 1) (by decide) hn hz) rfl rfl hdd (Nat.le_refl _) (Nat.le_refl _) (by decide) (pm_ki (fun v10 σ' cnt' hq => ?_))
      obtain ⟨rfl, rfl, bv10⟩ := hq
      refine pm_if_eq (tgt := 45) hG dX12_as_33 rfl (fun c12 => ?_) (fun c12 => ?_)
      · refine pm_aloadn hG dX12_as_45 rfl ?_
        refine pm_iconst (v := nI 5) hG dX12_as_46 (by decide) ?_
        refine pm_callV (As := [.int (nI 5)]) (rest := []) hG hR dX12_as_47 (lkX12_80 _ rfl) okV_X12_finds rfl rfl (m_finds (d := 1) (by decide) hn hz (by omega)) rfl rfl hdd (Nat.le_refl _) (Nat.le_refl _) (by decide) (pm_ki (fun v13 σ' cnt' hq => ?_))
        obtain ⟨⟨I14, A14, rfl⟩, rfl⟩ := hq
        exact pm_iret hG hF dX12_as_50 rfl (Nat.le_refl _) (Nat.le_refl _) ⟨_, rfl, ⟨_, _, rfl⟩, rfl⟩
      · refine pm_aloadn hG dX12_as_36 rfl ?_
        refine pm_iloadn hG dX12_as_37 rfl ?_
        refine pm_top (v := nI k4) ek4 ?_
        refine pm_iconst (v := nI 4) hG dX12_as_38 (by decide) ?_
        refine pm_callV (As := [.int (nI k4), .int (nI 4)]) (rest := []) hG hR dX12_as_39 (lkX12_110 _ rfl) okV_X12_its rfl rfl (m_its (d := 1) (e := 6 * k4 + 394) (by omega) (by omega) (by omega)) rfl rfl hdd (Nat.le_refl _) (Nat.le_refl _) (by decide) (pm_ki (fun v15 σ' cnt' hq => ?_))
        obtain ⟨rfl, rfl, rfl⟩ := hq
        refine pm_gen (fun x16 ex16 => ?_)
        refine pm_goto (tgt := 50) hG dX12_as_42 rfl ?_
        exact pm_iret hG hF dX12_as_50 rfl (Nat.le_refl _) (Nat.le_refl _) ⟨_, rfl, ⟨_, _, rfl⟩, rfl⟩
    · refine pm_ifN_ne (tgt := 23) hG dX12_as_14 rfl (by omega) (fun q => absurd q (by omega)) (fun _ => ?_)
      refine pm_aloadn hG dX12_as_17 rfl ?_
      refine pm_iconst (v := nI 1) hG dX12_as_18 (by decide) ?_
      refine pm_callV (As := [.int (nI 1)]) (rest := []) hG hR dX12_as_19 (lkX12_80 _ rfl) okV_X12_finds rfl rfl (m_finds (d := 1) (by decide) hn hz (by omega)) rfl rfl hdd (Nat.le_refl _) (Nat.le_refl _) (by decide) (pm_ki (fun v17 σ' cnt' hq => ?_))
      obtain ⟨⟨I18, A18, rfl⟩, rfl⟩ := hq
      exact pm_iret hG hF dX12_as_22 rfl (Nat.le_refl _) (Nat.le_refl _) ⟨_, rfl, ⟨_, _, rfl⟩, rfl⟩
  · refine pm_ifN_eq (tgt := 17) hG dX12_as_5 rfl (by omega) (fun _ => ?_) (fun q => absurd q (by omega))
    refine pm_aloadn hG dX12_as_17 rfl ?_
    refine pm_iconst (v := nI 1) hG dX12_as_18 (by decide) ?_
    refine pm_callV (As := [.int (nI 1)]) (rest := []) hG hR dX12_as_19 (lkX12_80 _ rfl) okV_X12_finds rfl rfl (m_finds (d := 1) (by decide) hn hz (by omega)) rfl rfl hdd (Nat.le_refl _) (Nat.le_refl _) (by decide) (pm_ki (fun v19 σ' cnt' hq => ?_))
    obtain ⟨⟨I20, A20, rfl⟩, rfl⟩ := hq
    exact pm_iret hG hF dX12_as_22 rfl (Nat.le_refl _) (Nat.le_refl _) ⟨_, rfl, ⟨_, _, rfl⟩, rfl⟩

set_option maxRecDepth 100000 in
set_option maxHeartbeats 4000000 in
theorem m_bindsPower {d B cnt p0 t0 : Nat} {σ : pm_S} {I : Nat → Int32} {A : Nat → Nat → Int32} {n k z : Nat → Int32} {ac wt pl : Int32} {zb : Int32} {aa : Nat} (hdd : 5 ≤ d) (hn : KI n) (hz : SZ z) (ht0 : t0 ≤ 40) (haa : aa < 20) : pm_met mX12_bindsPower d 0 0 B [.ref (B + 54), .int (nI aa), .int zb] cnt (pm_mid σ (md_L B I A n k z ac wt pl (nI p0) (nI t0))) (pm_Qi (fun v σ' cnt' => (∃ (I' : Nat → Int32) (A' : Nat → Nat → Int32) (t0' : Nat), σ' = pm_mid σ (md_L B I' A' n k z ac wt pl (nI p0) (nI t0')) ∧ t0' ≤ 40) ∧ cnt' = cnt)) := by
  refine pm_enter 0 (by decide) (Nat.le_of_ble_eq_true rfl) rfl (fun G hG hR hF => ?_)
  refine pm_aloadn hG dX12_bindsPower_0 rfl ?_
  refine pm_bipush (v := nI 11) hG dX12_bindsPower_1 (by decide) ?_
  refine pm_callV (As := [.int (nI 11)]) (rest := []) hG hR dX12_bindsPower_3 (lkX12_286 _ rfl) okV_X12_ran rfl rfl (m_ran (d := 4) (by decide) hn hz (by omega)) rfl rfl hdd (Nat.le_refl _) (Nat.le_refl _) (by decide) (pm_kv (fun σ' cnt' hq => ?_))
  obtain ⟨⟨I2, A2, t2, rfl, ht2⟩, rfl⟩ := hq
  refine pm_aloadn hG dX12_bindsPower_6 rfl ?_
  refine pm_iloadn hG dX12_bindsPower_7 rfl ?_
  refine pm_iloadn hG dX12_bindsPower_8 rfl ?_
  refine pm_callV (As := [.int (nI aa), .int zb]) (rest := []) hG hR dX12_bindsPower_9 (lkX12_295 _ rfl) okV_X12_actsOf rfl rfl (m_actsOf (d := 4) (by decide) hn hz (by omega) (by omega)) rfl rfl hdd (Nat.le_refl _) (Nat.le_refl _) (by decide) (pm_ki (fun v3 σ' cnt' hq => ?_))
  obtain ⟨⟨I4, A4, t4, rfl, ht4⟩, rfl⟩ := hq
  refine pm_iconst (v := nI 2) hG dX12_bindsPower_12 (by decide) ?_
  refine pm_imul hG dX12_bindsPower_13 ?_
  exact pm_iret hG hF dX12_bindsPower_14 rfl (Nat.le_refl _) (Nat.le_refl _) ⟨_, rfl, ⟨_, _, _, rfl, by omega⟩, rfl⟩

set_option maxRecDepth 100000 in
set_option maxHeartbeats 4000000 in
theorem m_bindsOf {d B cnt p0 t0 : Nat} {σ : pm_S} {I : Nat → Int32} {A : Nat → Nat → Int32} {n k z : Nat → Int32} {ac wt pl : Int32} {zb : Int32} {aa : Nat} (hdd : 6 ≤ d) (hn : KI n) (hz : SZ z) (ht0 : t0 ≤ 40) (haa : aa < 20) : pm_met mX12_bindsOf d 0 0 B [.ref (B + 54), .int (nI aa), .int zb] cnt (pm_mid σ (md_L B I A n k z ac wt pl (nI p0) (nI t0))) (pm_Qi (fun v σ' cnt' => (∃ (I' : Nat → Int32) (A' : Nat → Nat → Int32) (t0' : Nat), σ' = pm_mid σ (md_L B I' A' n k z ac wt pl (nI p0) (nI t0')) ∧ t0' ≤ 40) ∧ cnt' = cnt)) := by
  refine pm_enter 2 (by decide) (Nat.le_of_ble_eq_true rfl) rfl (fun G hG hR hF => ?_)
  refine pm_aloadn hG dX12_bindsOf_0 rfl ?_
  refine pm_iloadn hG dX12_bindsOf_1 rfl ?_
  refine pm_iconst (v := nI 0) hG dX12_bindsOf_2 (by decide) ?_
  refine pm_callV (As := [.int (nI aa), .int (nI 0)]) (rest := []) hG hR dX12_bindsOf_3 (lkX12_110 _ rfl) okV_X12_its rfl rfl (m_its (d := 5) (e := 6 * aa + 390) (by omega) (by omega) (by omega)) rfl rfl hdd (Nat.le_refl _) (Nat.le_refl _) (by decide) (pm_ki (fun v1 σ' cnt' hq => ?_))
  obtain ⟨rfl, rfl, rfl⟩ := hq
  refine pm_gen (fun x2 ex2 => ?_)
  refine pm_istoreXn (loc' := [some (.ref (B + 54)), some (.int (nI aa)), some (.int zb), some (.int x2), none]) hG dX12_bindsOf_6 (by decide) (pm_c1b rfl) rfl ?_
  refine pm_iloadn hG dX12_bindsOf_7 rfl ?_
  refine pm_iconst (v := nI 3) hG dX12_bindsOf_8 (by decide) ?_
  refine pm_icmp_eq (tgt := 17) hG dX12_bindsOf_9 rfl (fun c3 => ?_) (fun c3 => ?_)
  · refine pm_aloadn hG dX12_bindsOf_17 rfl ?_
    refine pm_bipush (v := nI 40) hG dX12_bindsOf_18 (by decide) ?_
    refine pm_callV (As := [.int (nI 40)]) (rest := []) hG hR dX12_bindsOf_20 (lkX12_286 _ rfl) okV_X12_ran rfl rfl (m_ran (d := 5) (by decide) hn hz (by omega)) rfl rfl hdd (Nat.le_refl _) (Nat.le_refl _) (by decide) (pm_kv (fun σ' cnt' hq => ?_))
    obtain ⟨⟨I5, A5, t5, rfl, ht5⟩, rfl⟩ := hq
    refine pm_aloadn hG dX12_bindsOf_23 rfl ?_
    refine pm_iloadn hG dX12_bindsOf_24 rfl ?_
    refine pm_iloadn hG dX12_bindsOf_25 rfl ?_
    refine pm_callV (As := [.int (nI aa), .int zb]) (rest := []) hG hR dX12_bindsOf_26 (lkX12_298 _ rfl) okV_X12_bindsPower rfl rfl (m_bindsPower (d := 5) (by decide) hn hz (by omega) (by omega)) rfl rfl hdd (Nat.le_refl _) (Nat.le_refl _) (by decide) (pm_ki (fun v6 σ' cnt' hq => ?_))
    obtain ⟨⟨I7, A7, t7, rfl, ht7⟩, rfl⟩ := hq
    refine pm_istoreXi (loc' := [some (.ref (B + 54)), some (.int (nI aa)), some (.int zb), some (.int x2), some (.int v6)]) hG dX12_bindsOf_29 (by decide) (pm_c1b rfl) rfl ?_
    refine pm_iloadi hG dX12_bindsOf_31 rfl ?_
    refine pm_aloadn hG dX12_bindsOf_33 rfl ?_
    refine pm_iloadn hG dX12_bindsOf_34 rfl ?_
    refine pm_iloadn hG dX12_bindsOf_35 rfl ?_
    refine pm_callV (As := [.int (nI aa), .int zb]) (rest := [.int v6]) hG hR dX12_bindsOf_36 (lkX12_295 _ rfl) okV_X12_actsOf rfl rfl (m_actsOf (d := 5) (by decide) hn hz (by omega) (by omega)) rfl rfl hdd (Nat.le_refl _) (Nat.le_refl _) (Nat.le_of_ble_eq_true rfl) (pm_ki (fun v8 σ' cnt' hq => ?_))
    obtain ⟨⟨I9, A9, t9, rfl, ht9⟩, rfl⟩ := hq
    refine pm_isub hG dX12_bindsOf_39 ?_
    exact pm_iret hG hF dX12_bindsOf_40 rfl (Nat.le_refl _) (Nat.le_refl _) ⟨_, rfl, ⟨_, _, _, rfl, by omega⟩, rfl⟩
  · refine pm_iloadn hG dX12_bindsOf_12 rfl ?_
    refine pm_iconst (v := nI 4) hG dX12_bindsOf_13 (by decide) ?_
    refine pm_icmp_ne (tgt := 41) hG dX12_bindsOf_14 rfl (fun c10 => ?_) (fun c10 => ?_)
    · refine pm_iloadn hG dX12_bindsOf_41 rfl ?_
      refine pm_iconst (v := nI 5) hG dX12_bindsOf_42 (by decide) ?_
      refine pm_icmp_eq (tgt := 53) hG dX12_bindsOf_43 rfl (fun c11 => ?_) (fun c11 => ?_)
      · refine pm_aloadn hG dX12_bindsOf_53 rfl ?_
        refine pm_bipush (v := nI 60) hG dX12_bindsOf_54 (by decide) ?_
        refine pm_callV (As := [.int (nI 60)]) (rest := []) hG hR dX12_bindsOf_56 (lkX12_286 _ rfl) okV_X12_ran rfl rfl (m_ran (d := 5) (by decide) hn hz (by omega)) rfl rfl hdd (Nat.le_refl _) (Nat.le_refl _) (by decide) (pm_kv (fun σ' cnt' hq => ?_))
        obtain ⟨⟨I13, A13, t13, rfl, ht13⟩, rfl⟩ := hq
        refine pm_aloadn hG dX12_bindsOf_59 rfl ?_
        refine pm_iloadn hG dX12_bindsOf_60 rfl ?_
        refine pm_iloadn hG dX12_bindsOf_61 rfl ?_
        refine pm_callV (As := [.int (nI aa), .int zb]) (rest := []) hG hR dX12_bindsOf_62 (lkX12_298 _ rfl) okV_X12_bindsPower rfl rfl (m_bindsPower (d := 5) (by decide) hn hz (by omega) (by omega)) rfl rfl hdd (Nat.le_refl _) (Nat.le_refl _) (by decide) (pm_ki (fun v14 σ' cnt' hq => ?_))
        obtain ⟨⟨I15, A15, t15, rfl, ht15⟩, rfl⟩ := hq
        refine pm_aloadn hG dX12_bindsOf_65 rfl ?_
        refine pm_iloadn hG dX12_bindsOf_66 rfl ?_
        refine pm_iconst (v := nI 4) hG dX12_bindsOf_67 (by decide) ?_
        refine pm_callV (As := [.int (nI aa), .int (nI 4)]) (rest := [.int v14]) hG hR dX12_bindsOf_68 (lkX12_110 _ rfl) okV_X12_its rfl rfl (m_its (d := 5) (e := 6 * aa + 394) (by omega) (by omega) (by omega)) rfl rfl hdd (Nat.le_refl _) (Nat.le_refl _) (Nat.le_of_ble_eq_true rfl) (pm_ki (fun v16 σ' cnt' hq => ?_))
        obtain ⟨rfl, rfl, rfl⟩ := hq
        refine pm_gen (fun x17 ex17 => ?_)
        refine pm_iadd hG dX12_bindsOf_71 ?_
        exact pm_iret hG hF dX12_bindsOf_72 rfl (Nat.le_refl _) (Nat.le_refl _) ⟨_, rfl, ⟨_, _, _, rfl, by omega⟩, rfl⟩
      · refine pm_aloadn hG dX12_bindsOf_46 rfl ?_
        refine pm_iloadn hG dX12_bindsOf_47 rfl ?_
        refine pm_iloadn hG dX12_bindsOf_48 rfl ?_
        refine pm_callV (As := [.int (nI aa), .int zb]) (rest := []) hG hR dX12_bindsOf_49 (lkX12_298 _ rfl) okV_X12_bindsPower rfl rfl (m_bindsPower (d := 5) (by decide) hn hz (by omega) (by omega)) rfl rfl hdd (Nat.le_refl _) (Nat.le_refl _) (by decide) (pm_ki (fun v18 σ' cnt' hq => ?_))
        obtain ⟨⟨I19, A19, t19, rfl, ht19⟩, rfl⟩ := hq
        exact pm_iret hG hF dX12_bindsOf_52 rfl (Nat.le_refl _) (Nat.le_refl _) ⟨_, rfl, ⟨_, _, _, rfl, by omega⟩, rfl⟩
    · refine pm_aloadn hG dX12_bindsOf_17 rfl ?_
      refine pm_bipush (v := nI 40) hG dX12_bindsOf_18 (by decide) ?_
      refine pm_callV (As := [.int (nI 40)]) (rest := []) hG hR dX12_bindsOf_20 (lkX12_286 _ rfl) okV_X12_ran rfl rfl (m_ran (d := 5) (by decide) hn hz (by omega)) rfl rfl hdd (Nat.le_refl _) (Nat.le_refl _) (by decide) (pm_kv (fun σ' cnt' hq => ?_))
      obtain ⟨⟨I21, A21, t21, rfl, ht21⟩, rfl⟩ := hq
      refine pm_aloadn hG dX12_bindsOf_23 rfl ?_
      refine pm_iloadn hG dX12_bindsOf_24 rfl ?_
      refine pm_iloadn hG dX12_bindsOf_25 rfl ?_
      refine pm_callV (As := [.int (nI aa), .int zb]) (rest := []) hG hR dX12_bindsOf_26 (lkX12_298 _ rfl) okV_X12_bindsPower rfl rfl (m_bindsPower (d := 5) (by decide) hn hz (by omega) (by omega)) rfl rfl hdd (Nat.le_refl _) (Nat.le_refl _) (by decide) (pm_ki (fun v22 σ' cnt' hq => ?_))
      obtain ⟨⟨I23, A23, t23, rfl, ht23⟩, rfl⟩ := hq
      refine pm_istoreXi (loc' := [some (.ref (B + 54)), some (.int (nI aa)), some (.int zb), some (.int x2), some (.int v22)]) hG dX12_bindsOf_29 (by decide) (pm_c1b rfl) rfl ?_
      refine pm_iloadi hG dX12_bindsOf_31 rfl ?_
      refine pm_aloadn hG dX12_bindsOf_33 rfl ?_
      refine pm_iloadn hG dX12_bindsOf_34 rfl ?_
      refine pm_iloadn hG dX12_bindsOf_35 rfl ?_
      refine pm_callV (As := [.int (nI aa), .int zb]) (rest := [.int v22]) hG hR dX12_bindsOf_36 (lkX12_295 _ rfl) okV_X12_actsOf rfl rfl (m_actsOf (d := 5) (by decide) hn hz (by omega) (by omega)) rfl rfl hdd (Nat.le_refl _) (Nat.le_refl _) (Nat.le_of_ble_eq_true rfl) (pm_ki (fun v24 σ' cnt' hq => ?_))
      obtain ⟨⟨I25, A25, t25, rfl, ht25⟩, rfl⟩ := hq
      refine pm_isub hG dX12_bindsOf_39 ?_
      exact pm_iret hG hF dX12_bindsOf_40 rfl (Nat.le_refl _) (Nat.le_refl _) ⟨_, rfl, ⟨_, _, _, rfl, by omega⟩, rfl⟩

set_option maxRecDepth 100000 in
set_option maxHeartbeats 4000000 in
theorem m_bits {d B cnt p0 t0 : Nat} {σ : pm_S} {I : Nat → Int32} {A : Nat → Nat → Int32} {n k z : Nat → Int32} {ac wt pl : Int32} {za : Int32} (hdd : 1 ≤ d) (hn : KI n) (hz : SZ z)  : pm_met mX12_bits d 0 0 B [.int za] cnt (pm_mid σ (md_L B I A n k z ac wt pl (nI p0) (nI t0))) (pm_Qi (fun v σ' cnt' => σ' = pm_mid σ (md_L B I A n k z ac wt pl (nI p0) (nI t0)) ∧ cnt' = cnt)) := by
  refine pm_enter 2 (by decide) (Nat.le_of_ble_eq_true rfl) rfl (fun G hG hR hF => ?_)
  refine pm_iconst (v := nI 0) hG dX12_bits_0 (by decide) ?_
  refine pm_istoreXn (loc' := [some (.int za), some (.int (nI 0)), none]) hG dX12_bits_1 (by decide) (pm_c1b rfl) rfl ?_
  refine pm_iloadn hG dX12_bits_2 rfl ?_
  refine pm_istoreXn (loc' := [some (.int za), some (.int (nI 0)), some (.int za)]) hG dX12_bits_3 (by decide) (pm_c1b rfl) rfl ?_
  have loop : ∀ (m : Nat) (c y : Int32), y.toBitVec.toNat < m → pm_wp mX12_bits G B 4 [some (.int za), some (.int c), some (.int y)] [] 0 0 cnt (pm_mid σ (md_L B I A n k z ac wt pl (nI p0) (nI t0))) := by
    intro m
    induction m with
    | zero => intro c y hm; exact absurd hm (Nat.not_lt_zero _)
    | succ m ih =>
      intro c y hm
      refine pm_iloadn hG dX12_bits_4 rfl ?_
      refine pm_if_eq (tgt := 20) hG dX12_bits_5 rfl (fun hz0 => ?_) (fun hz0 => ?_)
      · refine pm_iloadn hG dX12_bits_20 rfl ?_
        exact pm_iret hG hF dX12_bits_21 rfl (Nat.le_refl _) (Nat.le_refl _) ⟨_, rfl, rfl, rfl⟩
      · refine pm_iincX (v := c + 1) (loc' := [some (.int za), some (.int (c + 1)), some (.int y)]) hG dX12_bits_8 rfl (by rfl) (by decide) (pm_c1b rfl) rfl ?_
        refine pm_iloadn hG dX12_bits_11 rfl ?_
        refine pm_iloadn hG dX12_bits_12 rfl ?_
        refine pm_iconst (v := nI 1) hG dX12_bits_13 (by decide) ?_
        refine pm_isub hG dX12_bits_14 ?_
        refine pm_iand hG dX12_bits_15 ?_
        refine pm_istoreXn (loc' := [some (.int za), some (.int (c + 1)), some (.int (y &&& (y - nI 1)))]) hG dX12_bits_16 (by decide) (pm_c1b rfl) rfl ?_
        refine pm_goto (tgt := 4) hG dX12_bits_17 rfl ?_
        exact ih _ _ (Nat.lt_of_lt_of_le (pm_bt hz0) (Nat.le_of_lt_succ hm))
  exact loop _ _ _ (Nat.lt_succ_self _)

set_option maxRecDepth 100000 in
set_option maxHeartbeats 4000000 in
theorem m_stands {d B cnt p0 t0 : Nat} {σ : pm_S} {I : Nat → Int32} {A : Nat → Nat → Int32} {n k z : Nat → Int32} {ac wt pl : Int32} {aa : Nat} (hdd : 1 ≤ d) (hn : KI n) (hz : SZ z) (haa : aa < 30) : pm_met mX12_stands d 0 0 B [.ref (B + 54), .int (nI aa)] cnt (pm_mid σ (md_L B I A n k z ac wt pl (nI p0) (nI t0))) (pm_Qi (fun v σ' cnt' => σ' = pm_mid σ (md_L B I A n k z ac wt pl (nI p0) (nI t0)) ∧ cnt' = cnt ∧ (v = 0 ∨ v = 1))) := by
  refine pm_enter 0 (by decide) (Nat.le_of_ble_eq_true rfl) rfl (fun G hG hR hF => ?_)
  refine pm_aloadn hG dX12_stands_0 rfl ?_
  refine pm_iloadn hG dX12_stands_1 rfl ?_
  refine pm_iconst (v := nI 4) hG dX12_stands_2 (by decide) ?_
  refine pm_callV (As := [.int (nI aa), .int (nI 4)]) (rest := []) hG hR dX12_stands_3 (lkX12_223 _ rfl) okV_X12_promised rfl rfl (m_promised (d := 0) (e := 6 * aa + 1810) (by omega) (by omega) (by omega)) rfl rfl hdd (Nat.le_refl _) (Nat.le_refl _) (by decide) (pm_ki (fun v1 σ' cnt' hq => ?_))
  obtain ⟨rfl, rfl, rfl⟩ := hq
  refine pm_gen (fun x2 ex2 => ?_)
  refine pm_if_ne (tgt := 38) hG dX12_stands_6 rfl (fun c3 => ?_) (fun c3 => ?_)
  · refine pm_iconst (v := nI 0) hG dX12_stands_38 (by decide) ?_
    exact pm_zret hG hF dX12_stands_39 rfl (pm_nz (Or.inl rfl)) (Nat.le_refl _) (Nat.le_refl _) ⟨_, rfl, rfl, rfl, (Or.inl rfl)⟩
  · refine pm_aloadn hG dX12_stands_9 rfl ?_
    refine pm_iloadn hG dX12_stands_10 rfl ?_
    refine pm_iconst (v := nI 5) hG dX12_stands_11 (by decide) ?_
    refine pm_callV (As := [.int (nI aa), .int (nI 5)]) (rest := []) hG hR dX12_stands_12 (lkX12_223 _ rfl) okV_X12_promised rfl rfl (m_promised (d := 0) (e := 6 * aa + 1811) (by omega) (by omega) (by omega)) rfl rfl hdd (Nat.le_refl _) (Nat.le_refl _) (by decide) (pm_ki (fun v4 σ' cnt' hq => ?_))
    obtain ⟨rfl, rfl, rfl⟩ := hq
    refine pm_gen (fun x5 ex5 => ?_)
    refine pm_if_ne (tgt := 38) hG dX12_stands_15 rfl (fun c6 => ?_) (fun c6 => ?_)
    · refine pm_iconst (v := nI 0) hG dX12_stands_38 (by decide) ?_
      exact pm_zret hG hF dX12_stands_39 rfl (pm_nz (Or.inl rfl)) (Nat.le_refl _) (Nat.le_refl _) ⟨_, rfl, rfl, rfl, (Or.inl rfl)⟩
    · refine pm_aloadn hG dX12_stands_18 rfl ?_
      refine pm_getf hG dX12_stands_19 (flX12_7 _ rfl) rfl rfl ?_
      refine pm_bipush (v := nI 8) hG dX12_stands_22 (by decide) ?_
      refine pm_ialdN hG dX12_stands_24 rfl (by decide) (by omega) ?_
      obtain ⟨k7, hk7, ek7⟩ := KI.nat hn (by decide)
      refine pm_top (v := nI k7) ek7 ?_
      refine pm_aloadn hG dX12_stands_25 rfl ?_
      refine pm_iloadn hG dX12_stands_26 rfl ?_
      refine pm_iconst (v := nI 2) hG dX12_stands_27 (by decide) ?_
      refine pm_callV (As := [.int (nI aa), .int (nI 2)]) (rest := [.int (nI k7)]) hG hR dX12_stands_28 (lkX12_223 _ rfl) okV_X12_promised rfl rfl (m_promised (d := 0) (e := 6 * aa + 1808) (by omega) (by omega) (by omega)) rfl rfl hdd (Nat.le_refl _) (Nat.le_refl _) (Nat.le_of_ble_eq_true rfl) (pm_ki (fun v8 σ' cnt' hq => ?_))
      obtain ⟨rfl, rfl, rfl⟩ := hq
      refine pm_gen (fun x9 ex9 => ?_)
      refine pm_icmp_gt (tgt := 38) hG dX12_stands_31 rfl (fun c10 => ?_) (fun c10 => ?_)
      · refine pm_iconst (v := nI 0) hG dX12_stands_38 (by decide) ?_
        exact pm_zret hG hF dX12_stands_39 rfl (pm_nz (Or.inl rfl)) (Nat.le_refl _) (Nat.le_refl _) ⟨_, rfl, rfl, rfl, (Or.inl rfl)⟩
      · refine pm_iconst (v := nI 1) hG dX12_stands_34 (by decide) ?_
        refine pm_goto (tgt := 39) hG dX12_stands_35 rfl ?_
        exact pm_zret hG hF dX12_stands_39 rfl (pm_nz (Or.inr rfl)) (Nat.le_refl _) (Nat.le_refl _) ⟨_, rfl, rfl, rfl, (Or.inr rfl)⟩

set_option maxRecDepth 100000 in
set_option maxHeartbeats 4000000 in
theorem m_breaks {d B cnt p0 t0 : Nat} {σ : pm_S} {I : Nat → Int32} {A : Nat → Nat → Int32} {n k z : Nat → Int32} {ac wt pl : Int32} {za : Int32} (hdd : 2 ≤ d) (hn : KI n) (hr : NR n) (hz : SZ z)  : pm_met mX12_breaks d 0 0 B [.ref (B + 54), .int za] cnt (pm_mid σ (md_L B I A n k z ac wt pl (nI p0) (nI t0))) (pm_Qi (fun v σ' cnt' => (∃ (I' : Nat → Int32) (A' : Nat → Nat → Int32) (n' : Nat → Int32), σ' = pm_mid σ (md_L B I' A' n' k z ac wt pl (nI p0) (nI t0)) ∧ KI n' ∧ NR n') ∧ cnt' = cnt)) := by
  refine pm_enter 0 (by decide) (Nat.le_of_ble_eq_true rfl) rfl (fun G hG hR hF => ?_)
  refine pm_iloadn hG dX12_breaks_0 rfl ?_
  refine pm_iconst (v := nI 0) hG dX12_breaks_1 (by decide) ?_
  refine pm_aloadn hG dX12_breaks_2 rfl ?_
  refine pm_getf hG dX12_breaks_3 (flX12_7 _ rfl) rfl rfl ?_
  refine pm_bipush (v := nI 7) hG dX12_breaks_6 (by decide) ?_
  refine pm_ialdN hG dX12_breaks_8 rfl (by decide) (by omega) ?_
  obtain ⟨k1, hk1, ek1⟩ := KI.nat hn (by decide)
  refine pm_top (v := nI k1) ek1 ?_
  refine pm_iconst (v := nI 1) hG dX12_breaks_9 (by decide) ?_
  refine pm_isub hG dX12_breaks_10 ?_
  refine pm_callS (As := [.int za, .int (nI 0), .int ((nI k1) - (nI 1))]) (rest := []) hG hR dX12_breaks_11 (lkX12_68 _ rfl) okS_X12_in (m_in (d := 1)) rfl rfl hdd (Nat.le_refl _) (Nat.le_refl _) (by decide) (pm_ki (fun v2 σ' cnt' hq => ?_))
  obtain ⟨hq, rfl, rfl⟩ := hq
  rcases hq with ⟨rfl, ac3, bc3⟩ | ⟨rfl, c3⟩
  · obtain ⟨k4, hk4, ek4⟩ := in_cnt (c := k1) (by omega) ac3 bc3
    refine pm_ifN_ne (tgt := 23) hG dX12_breaks_14 rfl (by omega) (fun _ => ?_) (fun q => absurd q (by omega))
    refine pm_aloadn hG dX12_breaks_23 rfl ?_
    refine pm_iloadn hG dX12_breaks_24 rfl ?_
    refine pm_top (v := nI k4) ek4 ?_
    refine pm_callV (As := [.int (nI k4)]) (rest := []) hG hR dX12_breaks_25 (lkX12_226 _ rfl) okV_X12_stands rfl rfl (m_stands (d := 1) (by decide) hn hz (by omega)) rfl rfl hdd (Nat.le_refl _) (Nat.le_refl _) (by decide) (pm_ki (fun v5 σ' cnt' hq => ?_))
    obtain ⟨rfl, rfl, bv5⟩ := hq
    refine pm_if_ne (tgt := 37) hG dX12_breaks_28 rfl (fun c7 => ?_) (fun c7 => ?_)
    · refine pm_aloadn hG dX12_breaks_37 rfl ?_
      refine pm_getf hG dX12_breaks_38 (flX12_7 _ rfl) rfl rfl ?_
      refine pm_sipush (v := nI 1806) hG dX12_breaks_41 (by decide) ?_
      refine pm_bipush (v := nI 6) hG dX12_breaks_44 (by decide) ?_
      refine pm_iloadn hG dX12_breaks_46 rfl ?_
      refine pm_top (v := nI k4) ek4 ?_
      refine pm_imulN (c := 6 * k4) hG dX12_breaks_47 (by omega) ?_
      refine pm_iaddN (c := 6 * k4 + 1806) hG dX12_breaks_48 (by omega) ?_
      refine pm_iconst (v := nI 4) hG dX12_breaks_49 (by decide) ?_
      refine pm_iaddN (c := 6 * k4 + 1810) hG dX12_breaks_50 (by omega) ?_
      refine pm_iconst (v := nI 1) hG dX12_breaks_51 (by decide) ?_
      refine pm_iastN hG dX12_breaks_52 rfl (by decide) (by omega) ?_
      refine mdn_now (fun n_8 en_8 => ?_)
      have hnn_8 := KI.w en_8 hn (okv_f (kd_Q (k := k4) (c := 4) (by omega) (by omega) (by decide)))
      have hrn_8 := NRx.w en_8 hr (by rw [(kd_Q (k := k4) (c := 4) (by omega) (by omega) (by decide))]; rfl)
      have e9 : n_8 7 = nI k1 := by rw [en_8, pk_un (by omega)]; exact ek1
      have e10 : n_8 (6 * k4 + 1810) = nI 1 := by rw [en_8, pk_us]
      refine pm_iconst (v := nI 1) hG dX12_breaks_53 (by decide) ?_
      exact pm_iret hG hF dX12_breaks_54 rfl (Nat.le_refl _) (Nat.le_refl _) ⟨_, rfl, ⟨_, _, _, rfl, hnn_8, hrn_8⟩, rfl⟩
    · refine pm_aloadn hG dX12_breaks_31 rfl ?_
      refine pm_iconst (v := nI 3) hG dX12_breaks_32 (by decide) ?_
      refine pm_callV (As := [.int (nI 3)]) (rest := []) hG hR dX12_breaks_33 (lkX12_80 _ rfl) okV_X12_finds rfl rfl (m_finds (d := 1) (by decide) hn hz (by omega)) rfl rfl hdd (Nat.le_refl _) (Nat.le_refl _) (by decide) (pm_ki (fun v11 σ' cnt' hq => ?_))
      obtain ⟨⟨I12, A12, rfl⟩, rfl⟩ := hq
      exact pm_iret hG hF dX12_breaks_36 rfl (Nat.le_refl _) (Nat.le_refl _) ⟨_, rfl, ⟨_, _, _, rfl, hn, hr⟩, rfl⟩
  · refine pm_ifN_ne (tgt := 23) hG dX12_breaks_14 rfl (by omega) (fun q => absurd q (by omega)) (fun _ => ?_)
    refine pm_aloadn hG dX12_breaks_17 rfl ?_
    refine pm_iconst (v := nI 1) hG dX12_breaks_18 (by decide) ?_
    refine pm_callV (As := [.int (nI 1)]) (rest := []) hG hR dX12_breaks_19 (lkX12_80 _ rfl) okV_X12_finds rfl rfl (m_finds (d := 1) (by decide) hn hz (by omega)) rfl rfl hdd (Nat.le_refl _) (Nat.le_refl _) (by decide) (pm_ki (fun v13 σ' cnt' hq => ?_))
    obtain ⟨⟨I14, A14, rfl⟩, rfl⟩ := hq
    exact pm_iret hG hF dX12_breaks_22 rfl (Nat.le_refl _) (Nat.le_refl _) ⟨_, rfl, ⟨_, _, _, rfl, hn, hr⟩, rfl⟩

set_option maxRecDepth 100000 in
set_option maxHeartbeats 4000000 in
theorem m_isTaken {d B cnt p0 t0 : Nat} {σ : pm_S} {I : Nat → Int32} {A : Nat → Nat → Int32} {n k z : Nat → Int32} {ac wt pl : Int32} {za zb : Int32} (hdd : 1 ≤ d) (hn : KI n) (hz : SZ z)  : pm_met mX12_isTaken d 0 0 B [.int za, .int zb] cnt (pm_mid σ (md_L B I A n k z ac wt pl (nI p0) (nI t0))) (pm_Qi (fun v σ' cnt' => σ' = pm_mid σ (md_L B I A n k z ac wt pl (nI p0) (nI t0)) ∧ cnt' = cnt ∧ (v = 0 ∨ v = 1))) := by
  refine pm_enter 0 (by decide) (Nat.le_of_ble_eq_true rfl) rfl (fun G hG hR hF => ?_)
  refine pm_iloadn hG dX12_isTaken_0 rfl ?_
  refine pm_iconst (v := nI 0) hG dX12_isTaken_1 (by decide) ?_
  refine pm_iconst (v := nI 4) hG dX12_isTaken_2 (by decide) ?_
  refine pm_callS (As := [.int zb, .int (nI 0), .int (nI 4)]) (rest := []) hG hR dX12_isTaken_3 (lkX12_68 _ rfl) okS_X12_in (m_in (d := 0)) rfl rfl hdd (Nat.le_refl _) (Nat.le_refl _) (by decide) (pm_ki (fun v1 σ' cnt' hq => ?_))
  obtain ⟨hq, rfl, rfl⟩ := hq
  rcases hq with ⟨rfl, ac2, bc2⟩ | ⟨rfl, c2⟩
  · obtain ⟨k3, hk3, ek3⟩ := in_nat (by omega) (by omega) ac2 bc2
    refine pm_ifN_eq (tgt := 22) hG dX12_isTaken_6 rfl (by omega) (fun q => absurd q (by omega)) (fun _ => ?_)
    refine pm_iloadn hG dX12_isTaken_9 rfl ?_
    refine pm_iloadn hG dX12_isTaken_10 rfl ?_
    refine pm_top (v := nI k3) ek3 ?_
    refine pm_ishr hG dX12_isTaken_11 ?_
    refine pm_any (fun x4 => ?_)
    refine pm_iconst (v := nI 1) hG dX12_isTaken_12 (by decide) ?_
    refine pm_iand hG dX12_isTaken_13 ?_
    refine pm_any (fun x5 => ?_)
    refine pm_iconst (v := nI 1) hG dX12_isTaken_14 (by decide) ?_
    refine pm_icmp_ne (tgt := 22) hG dX12_isTaken_15 rfl (fun c6 => ?_) (fun c6 => ?_)
    · refine pm_iconst (v := nI 0) hG dX12_isTaken_22 (by decide) ?_
      exact pm_zret hG hF dX12_isTaken_23 rfl (pm_nz (Or.inl rfl)) (Nat.le_refl _) (Nat.le_refl _) ⟨_, rfl, rfl, rfl, (Or.inl rfl)⟩
    · refine pm_iconst (v := nI 1) hG dX12_isTaken_18 (by decide) ?_
      refine pm_goto (tgt := 23) hG dX12_isTaken_19 rfl ?_
      exact pm_zret hG hF dX12_isTaken_23 rfl (pm_nz (Or.inr rfl)) (Nat.le_refl _) (Nat.le_refl _) ⟨_, rfl, rfl, rfl, (Or.inr rfl)⟩
  · refine pm_ifN_eq (tgt := 22) hG dX12_isTaken_6 rfl (by omega) (fun _ => ?_) (fun q => absurd q (by omega))
    refine pm_iconst (v := nI 0) hG dX12_isTaken_22 (by decide) ?_
    exact pm_zret hG hF dX12_isTaken_23 rfl (pm_nz (Or.inl rfl)) (Nat.le_refl _) (Nat.le_refl _) ⟨_, rfl, rfl, rfl, (Or.inl rfl)⟩

set_option maxRecDepth 100000 in
set_option maxHeartbeats 4000000 in
theorem m_canTake {d B cnt p0 t0 : Nat} {σ : pm_S} {I : Nat → Int32} {A : Nat → Nat → Int32} {n k z : Nat → Int32} {ac wt pl : Int32} {za zb : Int32} {ac : Nat} (hdd : 2 ≤ d) (hn : KI n) (hz : SZ z) (hac : ac < 5) : pm_met mX12_canTake d 0 0 B [.ref (B + 54), .int za, .int zb, .int (nI ac)] cnt (pm_mid σ (md_L B I A n k z ac wt pl (nI p0) (nI t0))) (pm_Qi (fun v σ' cnt' => σ' = pm_mid σ (md_L B I A n k z ac wt pl (nI p0) (nI t0)) ∧ cnt' = cnt ∧ (v = 0 ∨ v = 1))) := by
  refine pm_enter 0 (by decide) (Nat.le_of_ble_eq_true rfl) rfl (fun G hG hR hF => ?_)
  refine pm_iloadn hG dX12_canTake_0 rfl ?_
  refine pm_iloadn hG dX12_canTake_1 rfl ?_
  refine pm_callS (As := [.int za, .int (nI ac)]) (rest := []) hG hR dX12_canTake_2 (lkX12_253 _ rfl) okS_X12_isTaken (m_isTaken (d := 1) (by decide) hn hz) rfl rfl hdd (Nat.le_refl _) (Nat.le_refl _) (by decide) (pm_ki (fun v1 σ' cnt' hq => ?_))
  obtain ⟨rfl, rfl, bv1⟩ := hq
  refine pm_if_ne (tgt := 46) hG dX12_canTake_5 rfl (fun c3 => ?_) (fun c3 => ?_)
  · refine pm_iconst (v := nI 0) hG dX12_canTake_46 (by decide) ?_
    exact pm_zret hG hF dX12_canTake_47 rfl (pm_nz (Or.inl rfl)) (Nat.le_refl _) (Nat.le_refl _) ⟨_, rfl, rfl, rfl, (Or.inl rfl)⟩
  · refine pm_iloadn hG dX12_canTake_8 rfl ?_
    refine pm_ifN_eq (tgt := 32) hG dX12_canTake_9 rfl (by omega) (fun c4 => ?_) (fun c4 => ?_)
    · refine pm_iloadn hG dX12_canTake_32 rfl ?_
      refine pm_aloadn hG dX12_canTake_33 rfl ?_
      refine pm_getf hG dX12_canTake_34 (flX12_43 _ rfl) rfl rfl ?_
      refine pm_iloadn hG dX12_canTake_37 rfl ?_
      refine pm_ialdN hG dX12_canTake_38 rfl (by decide) (by omega) ?_
      refine pm_any (fun x5 => ?_)
      refine pm_icmp_le (tgt := 46) hG dX12_canTake_39 rfl (fun c6 => ?_) (fun c6 => ?_)
      · refine pm_iconst (v := nI 0) hG dX12_canTake_46 (by decide) ?_
        exact pm_zret hG hF dX12_canTake_47 rfl (pm_nz (Or.inl rfl)) (Nat.le_refl _) (Nat.le_refl _) ⟨_, rfl, rfl, rfl, (Or.inl rfl)⟩
      · refine pm_iconst (v := nI 1) hG dX12_canTake_42 (by decide) ?_
        refine pm_goto (tgt := 47) hG dX12_canTake_43 rfl ?_
        exact pm_zret hG hF dX12_canTake_47 rfl (pm_nz (Or.inr rfl)) (Nat.le_refl _) (Nat.le_refl _) ⟨_, rfl, rfl, rfl, (Or.inr rfl)⟩
    · refine pm_iloadn hG dX12_canTake_12 rfl ?_
      refine pm_iloadn hG dX12_canTake_13 rfl ?_
      refine pm_iconst (v := nI 1) hG dX12_canTake_14 (by decide) ?_
      obtain ⟨q7, hq7⟩ : ∃ q7 : Nat, ac = 1 + q7 := ⟨ac - (1), by omega⟩
      refine pm_isubN (c := q7) hG dX12_canTake_15 (by omega) ?_
      refine pm_callS (As := [.int za, .int (nI q7)]) (rest := []) hG hR dX12_canTake_16 (lkX12_253 _ rfl) okS_X12_isTaken (m_isTaken (d := 1) (by decide) hn hz) rfl rfl hdd (Nat.le_refl _) (Nat.le_refl _) (by decide) (pm_ki (fun v8 σ' cnt' hq => ?_))
      obtain ⟨rfl, rfl, bv8⟩ := hq
      refine pm_if_ne (tgt := 32) hG dX12_canTake_19 rfl (fun c10 => ?_) (fun c10 => ?_)
      · refine pm_iloadn hG dX12_canTake_32 rfl ?_
        refine pm_aloadn hG dX12_canTake_33 rfl ?_
        refine pm_getf hG dX12_canTake_34 (flX12_43 _ rfl) rfl rfl ?_
        refine pm_iloadn hG dX12_canTake_37 rfl ?_
        refine pm_ialdN hG dX12_canTake_38 rfl (by decide) (by omega) ?_
        refine pm_any (fun x11 => ?_)
        refine pm_icmp_le (tgt := 46) hG dX12_canTake_39 rfl (fun c12 => ?_) (fun c12 => ?_)
        · refine pm_iconst (v := nI 0) hG dX12_canTake_46 (by decide) ?_
          exact pm_zret hG hF dX12_canTake_47 rfl (pm_nz (Or.inl rfl)) (Nat.le_refl _) (Nat.le_refl _) ⟨_, rfl, rfl, rfl, (Or.inl rfl)⟩
        · refine pm_iconst (v := nI 1) hG dX12_canTake_42 (by decide) ?_
          refine pm_goto (tgt := 47) hG dX12_canTake_43 rfl ?_
          exact pm_zret hG hF dX12_canTake_47 rfl (pm_nz (Or.inr rfl)) (Nat.le_refl _) (Nat.le_refl _) ⟨_, rfl, rfl, rfl, (Or.inr rfl)⟩
      · refine pm_iloadn hG dX12_canTake_22 rfl ?_
        refine pm_iloadn hG dX12_canTake_23 rfl ?_
        refine pm_iconst (v := nI 1) hG dX12_canTake_24 (by decide) ?_
        refine pm_iaddN (c := ac + 1) hG dX12_canTake_25 (by omega) ?_
        refine pm_callS (As := [.int za, .int (nI (ac + 1))]) (rest := []) hG hR dX12_canTake_26 (lkX12_253 _ rfl) okS_X12_isTaken (m_isTaken (d := 1) (by decide) hn hz) rfl rfl hdd (Nat.le_refl _) (Nat.le_refl _) (by decide) (pm_ki (fun v13 σ' cnt' hq => ?_))
        obtain ⟨rfl, rfl, bv13⟩ := hq
        refine pm_if_eq (tgt := 46) hG dX12_canTake_29 rfl (fun c15 => ?_) (fun c15 => ?_)
        · refine pm_iconst (v := nI 0) hG dX12_canTake_46 (by decide) ?_
          exact pm_zret hG hF dX12_canTake_47 rfl (pm_nz (Or.inl rfl)) (Nat.le_refl _) (Nat.le_refl _) ⟨_, rfl, rfl, rfl, (Or.inl rfl)⟩
        · refine pm_iloadn hG dX12_canTake_32 rfl ?_
          refine pm_aloadn hG dX12_canTake_33 rfl ?_
          refine pm_getf hG dX12_canTake_34 (flX12_43 _ rfl) rfl rfl ?_
          refine pm_iloadn hG dX12_canTake_37 rfl ?_
          refine pm_ialdN hG dX12_canTake_38 rfl (by decide) (by omega) ?_
          refine pm_any (fun x16 => ?_)
          refine pm_icmp_le (tgt := 46) hG dX12_canTake_39 rfl (fun c17 => ?_) (fun c17 => ?_)
          · refine pm_iconst (v := nI 0) hG dX12_canTake_46 (by decide) ?_
            exact pm_zret hG hF dX12_canTake_47 rfl (pm_nz (Or.inl rfl)) (Nat.le_refl _) (Nat.le_refl _) ⟨_, rfl, rfl, rfl, (Or.inl rfl)⟩
          · refine pm_iconst (v := nI 1) hG dX12_canTake_42 (by decide) ?_
            refine pm_goto (tgt := 47) hG dX12_canTake_43 rfl ?_
            exact pm_zret hG hF dX12_canTake_47 rfl (pm_nz (Or.inr rfl)) (Nat.le_refl _) (Nat.le_refl _) ⟨_, rfl, rfl, rfl, (Or.inr rfl)⟩

set_option maxRecDepth 100000 in
set_option maxHeartbeats 4000000 in
theorem m_cannot {d B cnt p0 t0 : Nat} {σ : pm_S} {I : Nat → Int32} {A : Nat → Nat → Int32} {n k z : Nat → Int32} {ac wt pl : Int32} {aa c0 : Nat} (hdd : 3 ≤ d) (hn : KI n) (hr : NR n) (hz : SZ z) (haa : aa < 40) (ec0 : n (12 * aa + 1294) = nI c0) (hc0 : c0 < 20) : pm_met mX12_cannot d 0 0 B [.ref (B + 54), .int (nI aa)] cnt (pm_mid σ (md_L B I A n k z ac wt pl (nI p0) (nI t0))) (pm_Qi (fun v σ' cnt' => (∃ (I' : Nat → Int32) (A' : Nat → Nat → Int32), σ' = pm_mid σ (md_L B I' A' n k z ac wt pl (nI p0) (nI t0))) ∧ cnt' = cnt ∧ (v = 0 ∨ v = 1))) := by
  refine pm_enter 2 (by decide) (Nat.le_of_ble_eq_true rfl) rfl (fun G hG hR hF => ?_)
  refine pm_aloadn hG dX12_cannot_0 rfl ?_
  refine pm_iloadn hG dX12_cannot_1 rfl ?_
  refine pm_iconst (v := nI 4) hG dX12_cannot_2 (by decide) ?_
  refine pm_callV (As := [.int (nI aa), .int (nI 4)]) (rest := []) hG hR dX12_cannot_3 (lkX12_199 _ rfl) okV_X12_of rfl rfl (m_of (d := 2) (e := 12 * aa + 1294) (by omega) (by omega) (by omega)) rfl rfl hdd (Nat.le_refl _) (Nat.le_refl _) (by decide) (pm_ki (fun v1 σ' cnt' hq => ?_))
  obtain ⟨rfl, rfl, rfl⟩ := hq
  refine pm_top (v := nI c0) ec0 ?_
  refine pm_istoreXn (loc' := [some (.ref (B + 54)), some (.int (nI aa)), some (.int (nI c0)), none]) hG dX12_cannot_6 (by decide) (pm_c1b rfl) rfl ?_
  refine pm_aloadn hG dX12_cannot_7 rfl ?_
  refine pm_iloadn hG dX12_cannot_8 rfl ?_
  refine pm_iconst (v := nI 2) hG dX12_cannot_9 (by decide) ?_
  refine pm_callV (As := [.int (nI aa), .int (nI 2)]) (rest := []) hG hR dX12_cannot_10 (lkX12_199 _ rfl) okV_X12_of rfl rfl (m_of (d := 2) (e := 12 * aa + 1292) (by omega) (by omega) (by omega)) rfl rfl hdd (Nat.le_refl _) (Nat.le_refl _) (by decide) (pm_ki (fun v2 σ' cnt' hq => ?_))
  obtain ⟨rfl, rfl, rfl⟩ := hq
  obtain ⟨k3, hk3, ek3⟩ := KI.nat hn (kd_E (k := aa) (c := 2) (by omega) (by omega) (by decide))
  refine pm_top (v := nI k3) ek3 ?_
  refine pm_istoreXn (loc' := [some (.ref (B + 54)), some (.int (nI aa)), some (.int (nI c0)), some (.int (nI k3))]) hG dX12_cannot_13 (by decide) (pm_c1b rfl) rfl ?_
  refine pm_aloadn hG dX12_cannot_14 rfl ?_
  refine pm_iloadn hG dX12_cannot_15 rfl ?_
  refine pm_iconst (v := nI 1) hG dX12_cannot_16 (by decide) ?_
  refine pm_callV (As := [.int (nI aa), .int (nI 1)]) (rest := []) hG hR dX12_cannot_17 (lkX12_199 _ rfl) okV_X12_of rfl rfl (m_of (d := 2) (e := 12 * aa + 1291) (by omega) (by omega) (by omega)) rfl rfl hdd (Nat.le_refl _) (Nat.le_refl _) (by decide) (pm_ki (fun v4 σ' cnt' hq => ?_))
  obtain ⟨rfl, rfl, rfl⟩ := hq
  refine pm_gen (fun x5 ex5 => ?_)
  by_cases c6 : x5 = nI 0
  · refine pm_top (v := nI 0) c6 ?_
    refine pm_tswIn (tgt := 52) hG dX12_cannot_20 (by decide) (by decide) rfl rfl ?_
    refine pm_aloadn hG dX12_cannot_52 rfl ?_
    refine pm_getf hG dX12_cannot_53 (flX12_7 _ rfl) rfl rfl ?_
    refine pm_bipush (v := nI 9) hG dX12_cannot_56 (by decide) ?_
    refine pm_ialdN hG dX12_cannot_58 rfl (by decide) (by omega) ?_
    refine pm_gen (fun x7 ex7 => ?_)
    refine pm_iloadn hG dX12_cannot_59 rfl ?_
    refine pm_icmp_ge (tgt := 67) hG dX12_cannot_60 rfl (fun c8 => ?_) (fun c8 => ?_)
    · refine pm_iconst (v := nI 0) hG dX12_cannot_67 (by decide) ?_
      exact pm_zret hG hF dX12_cannot_68 rfl (pm_nz (Or.inl rfl)) (Nat.le_refl _) (Nat.le_refl _) ⟨_, rfl, ⟨_, _, rfl⟩, rfl, (Or.inl rfl)⟩
    · refine pm_iconst (v := nI 1) hG dX12_cannot_63 (by decide) ?_
      refine pm_goto (tgt := 68) hG dX12_cannot_64 rfl ?_
      exact pm_zret hG hF dX12_cannot_68 rfl (pm_nz (Or.inr rfl)) (Nat.le_refl _) (Nat.le_refl _) ⟨_, rfl, ⟨_, _, rfl⟩, rfl, (Or.inr rfl)⟩
  by_cases c9 : x5 = nI 1
  · refine pm_top (v := nI 1) c9 ?_
    refine pm_tswIn (tgt := 69) hG dX12_cannot_20 (by decide) (by decide) rfl rfl ?_
    refine pm_aloadn hG dX12_cannot_69 rfl ?_
    refine pm_iloadn hG dX12_cannot_70 rfl ?_
    refine pm_iconst (v := nI 4) hG dX12_cannot_71 (by decide) ?_
    refine pm_callV (As := [.int (nI c0), .int (nI 4)]) (rest := []) hG hR dX12_cannot_72 (lkX12_72 _ rfl) okV_X12_man rfl rfl (m_man (d := 2) (e := 14 * c0 + 114) (by omega) (by omega) (by omega)) rfl rfl hdd (Nat.le_refl _) (Nat.le_refl _) (by decide) (pm_ki (fun v10 σ' cnt' hq => ?_))
    obtain ⟨rfl, rfl, rfl⟩ := hq
    rcases KI.opt hn (kd_P (k := c0) (c := 4) (by omega) (by omega) (by decide)) with ek11 | ⟨k11, hk11, ek11⟩
    · refine pm_top (v := (-1)) ek11 ?_
      refine pm_if_lt (tgt := 99) hG dX12_cannot_75 rfl (fun _ => ?_) (fun q => absurd q (by decide))
      refine pm_iconst (v := nI 1) hG dX12_cannot_99 (by decide) ?_
      refine pm_goto (tgt := 104) hG dX12_cannot_100 rfl ?_
      exact pm_zret hG hF dX12_cannot_104 rfl (pm_nz (Or.inr rfl)) (Nat.le_refl _) (Nat.le_refl _) ⟨_, rfl, ⟨_, _, rfl⟩, rfl, (Or.inr rfl)⟩
    · refine pm_top (v := nI k11) ek11 ?_
      refine pm_ifN_lt hG dX12_cannot_75 rfl (by omega) ?_
      refine pm_aloadn hG dX12_cannot_78 rfl ?_
      refine pm_aloadn hG dX12_cannot_79 rfl ?_
      refine pm_iloadn hG dX12_cannot_80 rfl ?_
      refine pm_iconst (v := nI 4) hG dX12_cannot_81 (by decide) ?_
      refine pm_callV (As := [.int (nI c0), .int (nI 4)]) (rest := [.ref (B + 54)]) hG hR dX12_cannot_82 (lkX12_72 _ rfl) okV_X12_man rfl rfl (m_man (d := 2) (e := 14 * c0 + 114) (by omega) (by omega) (by omega)) rfl rfl hdd (Nat.le_refl _) (Nat.le_refl _) (Nat.le_of_ble_eq_true rfl) (pm_ki (fun v12 σ' cnt' hq => ?_))
      obtain ⟨rfl, rfl, rfl⟩ := hq
      refine pm_top (v := nI k11) ek11 ?_
      refine pm_iloadn hG dX12_cannot_85 rfl ?_
      refine pm_aloadn hG dX12_cannot_86 rfl ?_
      refine pm_getf hG dX12_cannot_87 (flX12_7 _ rfl) rfl rfl ?_
      refine pm_iconst (v := nI 0) hG dX12_cannot_90 (by decide) ?_
      refine pm_ialdN hG dX12_cannot_91 rfl (by decide) (by omega) ?_
      obtain ⟨k13, hk13, ek13⟩ := KI.nat hn (by decide)
      refine pm_top (v := nI k13) ek13 ?_
      refine pm_iremN hG dX12_cannot_92 (by omega) (by omega) (by omega) (fun r14 hr14 _ => ?_)
      refine pm_callV (As := [.int (nI k11), .int (nI r14)]) (rest := []) hG hR dX12_cannot_93 (lkX12_88 _ rfl) okV_X12_farOf rfl rfl (m_farOf (d := 2) (by decide) hn hz (by omega)) rfl rfl hdd (Nat.le_refl _) (Nat.le_refl _) (by decide) (pm_ki (fun v15 σ' cnt' hq => ?_))
      obtain ⟨⟨I16, A16, rfl⟩, rfl⟩ := hq
      refine pm_if_ge (tgt := 103) hG dX12_cannot_96 rfl (fun c17 => ?_) (fun c17 => ?_)
      · obtain ⟨k18, hk18, ek18⟩ := nI_of (Int32.not_lt.mpr c17)
        refine pm_iconst (v := nI 0) hG dX12_cannot_103 (by decide) ?_
        exact pm_zret hG hF dX12_cannot_104 rfl (pm_nz (Or.inl rfl)) (Nat.le_refl _) (Nat.le_refl _) ⟨_, rfl, ⟨_, _, rfl⟩, rfl, (Or.inl rfl)⟩
      · refine pm_iconst (v := nI 1) hG dX12_cannot_99 (by decide) ?_
        refine pm_goto (tgt := 104) hG dX12_cannot_100 rfl ?_
        exact pm_zret hG hF dX12_cannot_104 rfl (pm_nz (Or.inr rfl)) (Nat.le_refl _) (Nat.le_refl _) ⟨_, rfl, ⟨_, _, rfl⟩, rfl, (Or.inr rfl)⟩
  by_cases c19 : x5 = nI 2
  · refine pm_top (v := nI 2) c19 ?_
    refine pm_tswIn (tgt := 105) hG dX12_cannot_20 (by decide) (by decide) rfl rfl ?_
    refine pm_aloadn hG dX12_cannot_105 rfl ?_
    refine pm_iloadn hG dX12_cannot_106 rfl ?_
    obtain ⟨k20, hk20, ek20⟩ := KI.nat hn (by decide)
    refine pm_callV (As := [.int (nI k3)]) (rest := []) hG hR dX12_cannot_107 (lkX12_132 _ rfl) okV_X12_isPower rfl rfl (m_isPower (d := 2) (by decide) ek20 (by omega)) rfl rfl hdd (Nat.le_refl _) (Nat.le_refl _) (by decide) (pm_ki (fun v21 σ' cnt' hq => ?_))
    obtain ⟨hq, rfl, rfl⟩ := hq
    rcases hq with ⟨rfl, k23, hk23, ek23⟩ | rfl
    · have gk23 := nI_inj (by omega) (by omega) ek23
      refine pm_ifN_ne (tgt := 117) hG dX12_cannot_110 rfl (by omega) (fun _ => ?_) (fun q => absurd q (by omega))
      refine pm_iconst (v := nI 0) hG dX12_cannot_117 (by decide) ?_
      exact pm_zret hG hF dX12_cannot_118 rfl (pm_nz (Or.inl rfl)) (Nat.le_refl _) (Nat.le_refl _) ⟨_, rfl, ⟨_, _, rfl⟩, rfl, (Or.inl rfl)⟩
    · refine pm_ifN_ne (tgt := 117) hG dX12_cannot_110 rfl (by omega) (fun q => absurd q (by omega)) (fun _ => ?_)
      refine pm_iconst (v := nI 1) hG dX12_cannot_113 (by decide) ?_
      refine pm_goto (tgt := 118) hG dX12_cannot_114 rfl ?_
      exact pm_zret hG hF dX12_cannot_118 rfl (pm_nz (Or.inr rfl)) (Nat.le_refl _) (Nat.le_refl _) ⟨_, rfl, ⟨_, _, rfl⟩, rfl, (Or.inr rfl)⟩
  by_cases c24 : x5 = nI 3
  · refine pm_top (v := nI 3) c24 ?_
    refine pm_tswIn (tgt := 119) hG dX12_cannot_20 (by decide) (by decide) rfl rfl ?_
    refine pm_aloadn hG dX12_cannot_119 rfl ?_
    refine pm_iloadn hG dX12_cannot_120 rfl ?_
    obtain ⟨k25, hk25, ek25⟩ := KI.nat hn (by decide)
    refine pm_callV (As := [.int (nI k3)]) (rest := []) hG hR dX12_cannot_121 (lkX12_192 _ rfl) okV_X12_isLaw rfl rfl (m_isLaw (d := 2) (by decide) ek25 (by omega)) rfl rfl hdd (Nat.le_refl _) (Nat.le_refl _) (by decide) (pm_ki (fun v26 σ' cnt' hq => ?_))
    obtain ⟨hq, rfl, rfl⟩ := hq
    rcases hq with ⟨rfl, k28, hk28, ek28⟩ | rfl
    · have gk28 := nI_inj (by omega) (by omega) ek28
      refine pm_ifN_eq (tgt := 145) hG dX12_cannot_124 rfl (by omega) (fun q => absurd q (by omega)) (fun _ => ?_)
      refine pm_aloadn hG dX12_cannot_127 rfl ?_
      refine pm_getf hG dX12_cannot_128 (flX12_7 _ rfl) rfl rfl ?_
      refine pm_sipush (v := nI 510) hG dX12_cannot_131 (by decide) ?_
      refine pm_bipush (v := nI 65) hG dX12_cannot_134 (by decide) ?_
      refine pm_iloadn hG dX12_cannot_136 rfl ?_
      refine pm_imulN (c := 65 * k3) hG dX12_cannot_137 (by omega) ?_
      refine pm_iaddN (c := 65 * k3 + 510) hG dX12_cannot_138 (by omega) ?_
      refine pm_iconst (v := nI 3) hG dX12_cannot_139 (by decide) ?_
      refine pm_iaddN (c := 65 * k3 + 513) hG dX12_cannot_140 (by omega) ?_
      refine pm_ialdN hG dX12_cannot_141 rfl (by decide) (by omega) ?_
      refine pm_gen (fun x29 ex29 => ?_)
      refine pm_if_lt (tgt := 149) hG dX12_cannot_142 rfl (fun c30 => ?_) (fun c30 => ?_)
      · refine pm_iconst (v := nI 0) hG dX12_cannot_149 (by decide) ?_
        exact pm_zret hG hF dX12_cannot_150 rfl (pm_nz (Or.inl rfl)) (Nat.le_refl _) (Nat.le_refl _) ⟨_, rfl, ⟨_, _, rfl⟩, rfl, (Or.inl rfl)⟩
      · obtain ⟨k31, hk31, ek31⟩ := nI_of c30
        refine pm_iconst (v := nI 1) hG dX12_cannot_145 (by decide) ?_
        refine pm_goto (tgt := 150) hG dX12_cannot_146 rfl ?_
        exact pm_zret hG hF dX12_cannot_150 rfl (pm_nz (Or.inr rfl)) (Nat.le_refl _) (Nat.le_refl _) ⟨_, rfl, ⟨_, _, rfl⟩, rfl, (Or.inr rfl)⟩
    · refine pm_ifN_eq (tgt := 145) hG dX12_cannot_124 rfl (by omega) (fun _ => ?_) (fun q => absurd q (by omega))
      refine pm_iconst (v := nI 1) hG dX12_cannot_145 (by decide) ?_
      refine pm_goto (tgt := 150) hG dX12_cannot_146 rfl ?_
      exact pm_zret hG hF dX12_cannot_150 rfl (pm_nz (Or.inr rfl)) (Nat.le_refl _) (Nat.le_refl _) ⟨_, rfl, ⟨_, _, rfl⟩, rfl, (Or.inr rfl)⟩
  have tc6 : ¬ x5.toInt = 0 := fun q => c6 (Int32.toInt_inj.mp (q.trans (by decide)))
  have tc9 : ¬ x5.toInt = 1 := fun q => c9 (Int32.toInt_inj.mp (q.trans (by decide)))
  have tc19 : ¬ x5.toInt = 2 := fun q => c19 (Int32.toInt_inj.mp (q.trans (by decide)))
  have tc24 : ¬ x5.toInt = 3 := fun q => c24 (Int32.toInt_inj.mp (q.trans (by decide)))
  refine pm_tswOut (tgt := 151) hG dX12_cannot_20 (by omega) rfl ?_
  refine pm_iconst (v := nI 0) hG dX12_cannot_151 (by decide) ?_
  exact pm_zret hG hF dX12_cannot_152 rfl (pm_nz (Or.inl rfl)) (Nat.le_refl _) (Nat.le_refl _) ⟨_, rfl, ⟨_, _, rfl⟩, rfl, (Or.inl rfl)⟩

set_option maxRecDepth 100000 in
set_option maxHeartbeats 4000000 in
theorem m_check {d B cnt p0 t0 : Nat} {σ : pm_S} {I : Nat → Int32} {A : Nat → Nat → Int32} {n k z : Nat → Int32} {ac wt pl : Int32} (hdd : 1 ≤ d) (hn : KI n) (hr : NR n) (hz : SZ z)  : pm_met mX12_check d 0 0 B [.ref (B + 54)] cnt (pm_mid σ (md_L B I A n k z ac wt pl (nI p0) (nI t0))) (pm_Qi (fun v σ' cnt' => (∃ (n' : Nat → Int32), σ' = pm_mid σ (md_L B I A n' k z ac wt pl (nI p0) (nI t0)) ∧ KI n' ∧ NR n') ∧ cnt' = cnt)) := by
  refine pm_enter 3 (by decide) (Nat.le_of_ble_eq_true rfl) rfl (fun G hG hR hF => ?_)
  refine pm_aloadn hG dX12_check_0 rfl ?_
  refine pm_getf hG dX12_check_1 (flX12_7 _ rfl) rfl rfl ?_
  refine pm_bipush (v := nI 11) hG dX12_check_4 (by decide) ?_
  refine pm_ialdN hG dX12_check_6 rfl (by decide) (by omega) ?_
  obtain ⟨k1, hk1, ek1⟩ := KI.nat hn (by decide)
  refine pm_top (v := nI k1) ek1 ?_
  refine pm_istoreXn (loc' := [some (.ref (B + 54)), some (.int (nI k1)), none, none]) hG dX12_check_7 (by decide) (pm_c1b rfl) rfl ?_
  refine pm_aloadn hG dX12_check_8 rfl ?_
  refine pm_getf hG dX12_check_9 (flX12_7 _ rfl) rfl rfl ?_
  refine pm_bipush (v := nI 11) hG dX12_check_12 (by decide) ?_
  refine pm_iconst (v := nI 0) hG dX12_check_14 (by decide) ?_
  refine pm_iastN hG dX12_check_15 rfl (by decide) (by omega) ?_
  refine mdn_now (fun n_2 en_2 => ?_)
  have hnn_2 := KI.w en_2 hn (okv_n (by decide) (by omega))
  have hrn_2 := NRx.w en_2 hr (by decide)
  have e3 : n_2 11 = nI 0 := by rw [en_2, pk_us]
  refine pm_iconst (v := nI 0) hG dX12_check_16 (by decide) ?_
  refine pm_istoreXn (loc' := [some (.ref (B + 54)), some (.int (nI k1)), some (.int (nI 0)), none]) hG dX12_check_17 (by decide) (pm_c1b rfl) rfl ?_
  have loop18_4 : ∀ (m4 : Nat) (n_4 : Nat → Int32) (i4 : Nat), KI n_4 → NRx 40 n_4 → i4 ≤ 20 → 20 - i4 < m4 → pm_wp mX12_check G B 18 [some (.ref (B + 54)), some (.int (nI k1)), some (.int (nI i4)), none] [] 0 0 cnt (pm_mid σ (md_L B I A n_4 k z ac wt pl (nI p0) (nI t0))) := by
    intro m4
    induction m4 with
    | zero => intro n_4 i4 _ _ _ hm; exact absurd hm (Nat.not_lt_zero _)
    | succ m4 ih4 =>
      intro n_4 i4 hnn_4 hrn_4 hi4 hm4
      refine pm_iloadn hG dX12_check_18 rfl ?_
      refine pm_iloadn hG dX12_check_19 rfl ?_
      refine pm_icmpN_ge (tgt := 111) hG dX12_check_20 rfl (by omega) (by omega) (fun c5 => ?_) (fun c5 => ?_)
      · refine pm_iconst (v := nI 0) hG dX12_check_111 (by decide) ?_
        exact pm_iret hG hF dX12_check_112 rfl (Nat.le_refl _) (Nat.le_refl _) ⟨_, rfl, ⟨_, rfl, hnn_4, hrn_4⟩, rfl⟩
      · refine pm_iloadn hG dX12_check_23 rfl ?_
        refine pm_aloadn hG dX12_check_24 rfl ?_
        refine pm_getf hG dX12_check_25 (flX12_7 _ rfl) rfl rfl ?_
        refine pm_iconst (v := nI 2) hG dX12_check_28 (by decide) ?_
        refine pm_ialdN hG dX12_check_29 rfl (by decide) (by omega) ?_
        obtain ⟨k6, hk6, ek6⟩ := KI.nat hnn_4 (by decide)
        refine pm_top (v := nI k6) ek6 ?_
        refine pm_icmpN_ge (tgt := 61) hG dX12_check_30 rfl (by omega) (by omega) (fun c7 => ?_) (fun c7 => ?_)
        · refine pm_iloadn hG dX12_check_61 rfl ?_
          refine pm_aloadn hG dX12_check_62 rfl ?_
          refine pm_getf hG dX12_check_63 (flX12_7 _ rfl) rfl rfl ?_
          refine pm_iconst (v := nI 2) hG dX12_check_66 (by decide) ?_
          refine pm_ialdN hG dX12_check_67 rfl (by decide) (by omega) ?_
          refine pm_top (v := nI k6) ek6 ?_
          refine pm_icmpN_ne (tgt := 95) hG dX12_check_68 rfl (by omega) (by omega) (fun c8 => ?_) (fun c8 => ?_)
          · refine pm_iconst (v := nI 0) hG dX12_check_95 (by decide) ?_
            refine pm_istoreXn (loc' := [some (.ref (B + 54)), some (.int (nI k1)), some (.int (nI i4)), some (.int (nI 0))]) hG dX12_check_96 (by decide) (pm_c1b rfl) rfl ?_
            refine pm_iloadn hG dX12_check_97 rfl ?_
            refine pm_ifN_ne (tgt := 105) hG dX12_check_98 rfl (by omega) (fun q => absurd q (by omega)) (fun _ => ?_)
            refine pm_iconst (v := nI 1) hG dX12_check_101 (by decide) ?_
            refine pm_iloadn hG dX12_check_102 rfl ?_
            refine pm_iaddN (c := i4 + 1) hG dX12_check_103 (by omega) ?_
            exact pm_iret hG hF dX12_check_104 rfl (Nat.le_refl _) (Nat.le_refl _) ⟨_, rfl, ⟨_, rfl, hnn_4, hrn_4⟩, rfl⟩
          · refine pm_aloadn hG dX12_check_71 rfl ?_
            refine pm_getf hG dX12_check_72 (flX12_7 _ rfl) rfl rfl ?_
            refine pm_sipush (v := nI 2051) hG dX12_check_75 (by decide) ?_
            refine pm_iloadn hG dX12_check_78 rfl ?_
            refine pm_iaddN (c := i4 + 2051) hG dX12_check_79 (by omega) ?_
            refine pm_ialdN hG dX12_check_80 rfl (by decide) (by omega) ?_
            refine pm_gen (fun x9 ex9 => ?_)
            refine pm_aloadn hG dX12_check_81 rfl ?_
            refine pm_getf hG dX12_check_82 (flX12_7 _ rfl) rfl rfl ?_
            refine pm_bipush (v := nI 9) hG dX12_check_85 (by decide) ?_
            refine pm_ialdN hG dX12_check_87 rfl (by decide) (by omega) ?_
            refine pm_gen (fun x10 ex10 => ?_)
            refine pm_icmp_ne (tgt := 95) hG dX12_check_88 rfl (fun c11 => ?_) (fun c11 => ?_)
            · refine pm_iconst (v := nI 0) hG dX12_check_95 (by decide) ?_
              refine pm_istoreXn (loc' := [some (.ref (B + 54)), some (.int (nI k1)), some (.int (nI i4)), some (.int (nI 0))]) hG dX12_check_96 (by decide) (pm_c1b rfl) rfl ?_
              refine pm_iloadn hG dX12_check_97 rfl ?_
              refine pm_ifN_ne (tgt := 105) hG dX12_check_98 rfl (by omega) (fun q => absurd q (by omega)) (fun _ => ?_)
              refine pm_iconst (v := nI 1) hG dX12_check_101 (by decide) ?_
              refine pm_iloadn hG dX12_check_102 rfl ?_
              refine pm_iaddN (c := i4 + 1) hG dX12_check_103 (by omega) ?_
              exact pm_iret hG hF dX12_check_104 rfl (Nat.le_refl _) (Nat.le_refl _) ⟨_, rfl, ⟨_, rfl, hnn_4, hrn_4⟩, rfl⟩
            · refine pm_iconst (v := nI 1) hG dX12_check_91 (by decide) ?_
              refine pm_goto (tgt := 96) hG dX12_check_92 rfl ?_
              refine pm_istoreXn (loc' := [some (.ref (B + 54)), some (.int (nI k1)), some (.int (nI i4)), some (.int (nI 1))]) hG dX12_check_96 (by decide) (pm_c1b rfl) rfl ?_
              refine pm_iloadn hG dX12_check_97 rfl ?_
              refine pm_ifN_ne (tgt := 105) hG dX12_check_98 rfl (by omega) (fun _ => ?_) (fun q => absurd q (by omega))
              refine pm_iincX (v := nI (i4 + 1)) (loc' := [some (.ref (B + 54)), some (.int (nI k1)), some (.int (nI (i4 + 1))), some (.int (nI 1))]) hG dX12_check_105 rfl (nI_1 _) (by decide) (pm_c1b rfl) rfl ?_
              refine pm_goto (tgt := 18) hG dX12_check_108 rfl ?_
              refine pm_fg 3 (loc' := [some (.ref (B + 54)), some (.int (nI k1)), some (.int (nI (i4 + 1))), none]) rfl ?_
              exact ih4 n_4 (i4 + 1) hnn_4 hrn_4 (by omega) (by omega)
        · refine pm_aloadn hG dX12_check_33 rfl ?_
          refine pm_getf hG dX12_check_34 (flX12_7 _ rfl) rfl rfl ?_
          refine pm_sipush (v := nI 2051) hG dX12_check_37 (by decide) ?_
          refine pm_iloadn hG dX12_check_40 rfl ?_
          refine pm_iaddN (c := i4 + 2051) hG dX12_check_41 (by omega) ?_
          refine pm_ialdN hG dX12_check_42 rfl (by decide) (by omega) ?_
          refine pm_gen (fun x12 ex12 => ?_)
          refine pm_aloadn hG dX12_check_43 rfl ?_
          refine pm_iloadn hG dX12_check_44 rfl ?_
          refine pm_bipush (v := nI 7) hG dX12_check_45 (by decide) ?_
          refine pm_callV (As := [.int (nI i4), .int (nI 7)]) (rest := [.int x12]) hG hR dX12_check_47 (lkX12_72 _ rfl) okV_X12_man rfl rfl (m_man (d := 0) (e := 14 * i4 + 117) (by omega) (by omega) (by omega)) rfl rfl hdd (Nat.le_refl _) (Nat.le_refl _) (Nat.le_of_ble_eq_true rfl) (pm_ki (fun v13 σ' cnt' hq => ?_))
          obtain ⟨rfl, rfl, rfl⟩ := hq
          refine pm_gen (fun x14 ex14 => ?_)
          refine pm_icmp_ne (tgt := 57) hG dX12_check_50 rfl (fun c15 => ?_) (fun c15 => ?_)
          · refine pm_iconst (v := nI 0) hG dX12_check_57 (by decide) ?_
            refine pm_goto (tgt := 96) hG dX12_check_58 rfl ?_
            refine pm_istoreXn (loc' := [some (.ref (B + 54)), some (.int (nI k1)), some (.int (nI i4)), some (.int (nI 0))]) hG dX12_check_96 (by decide) (pm_c1b rfl) rfl ?_
            refine pm_iloadn hG dX12_check_97 rfl ?_
            refine pm_ifN_ne (tgt := 105) hG dX12_check_98 rfl (by omega) (fun q => absurd q (by omega)) (fun _ => ?_)
            refine pm_iconst (v := nI 1) hG dX12_check_101 (by decide) ?_
            refine pm_iloadn hG dX12_check_102 rfl ?_
            refine pm_iaddN (c := i4 + 1) hG dX12_check_103 (by omega) ?_
            exact pm_iret hG hF dX12_check_104 rfl (Nat.le_refl _) (Nat.le_refl _) ⟨_, rfl, ⟨_, rfl, hnn_4, hrn_4⟩, rfl⟩
          · refine pm_iconst (v := nI 1) hG dX12_check_53 (by decide) ?_
            refine pm_goto (tgt := 96) hG dX12_check_54 rfl ?_
            refine pm_istoreXn (loc' := [some (.ref (B + 54)), some (.int (nI k1)), some (.int (nI i4)), some (.int (nI 1))]) hG dX12_check_96 (by decide) (pm_c1b rfl) rfl ?_
            refine pm_iloadn hG dX12_check_97 rfl ?_
            refine pm_ifN_ne (tgt := 105) hG dX12_check_98 rfl (by omega) (fun _ => ?_) (fun q => absurd q (by omega))
            refine pm_iincX (v := nI (i4 + 1)) (loc' := [some (.ref (B + 54)), some (.int (nI k1)), some (.int (nI (i4 + 1))), some (.int (nI 1))]) hG dX12_check_105 rfl (nI_1 _) (by decide) (pm_c1b rfl) rfl ?_
            refine pm_goto (tgt := 18) hG dX12_check_108 rfl ?_
            refine pm_fg 3 (loc' := [some (.ref (B + 54)), some (.int (nI k1)), some (.int (nI (i4 + 1))), none]) rfl ?_
            exact ih4 n_4 (i4 + 1) hnn_4 hrn_4 (by omega) (by omega)
  exact loop18_4 _ n_2 0 hnn_2 hrn_2 (by omega) (Nat.lt_succ_self _)
