set_option maxRecDepth 100000 in
set_option maxHeartbeats 4000000 in
theorem m_after {d B cnt p0 t0 : Nat} {σ : pm_S} {I : Nat → Int32} {A : Nat → Nat → Int32} {n k z : Nat → Int32} {ac wt pl im : Int32} {y : Nat → Int32} {za : Int32} (hdd : 5 ≤ d) (hn : KI n) (hr : NR n) (hz : SZ z)  : pm_met mX12_after d 0 0 B [.ref (B + 54), .int za] cnt (pm_mid σ (md_L B I A n k z ac wt pl (nI p0) (nI t0) im y)) (pm_Qi (fun v σ' cnt' => (∃ (I' : Nat → Int32) (A' : Nat → Nat → Int32), σ' = pm_mid σ (md_L B I' A' n k z ac wt pl (nI p0) (nI t0) im y)) ∧ cnt = cnt')) := by
  refine pm_enter 2 (by decide) (Nat.le_of_ble_eq_true rfl) rfl (fun G hG hR hF => ?_)
  refine pm_aloadn hG dX12_after_0 rfl ?_
  refine pm_iloadn hG dX12_after_1 rfl ?_
  obtain ⟨k1, hk1, ek1⟩ := KI.nat hn (show kd 3 = (1, 21, false) by decide)
  refine pm_callV (As := [.int za]) (rest := []) hG hR dX12_after_2 (lkX12_132 _ rfl) okV_X12_isPower rfl rfl (m_isPower (d := 4) (by decide) ek1 (by omega)) rfl rfl hdd (Nat.le_refl _) (Nat.le_refl _) (by decide) (pm_ki (fun v2 σ' cnt' hq => ?_))
  obtain ⟨hq, rfl, rfl⟩ := hq
  rcases hq with ⟨rfl, k4, hk4, ek4⟩ | rfl
  · refine pm_ifN_ne (tgt := 14) hG dX12_after_5 rfl (by omega) (fun _ => ?_) (fun q => absurd q (by omega))
    refine pm_aloadn hG dX12_after_14 rfl ?_
    refine pm_callV (As := []) (rest := []) hG hR dX12_after_15 (lkX12_267 _ rfl) okV_X12_ageDay rfl rfl (m_ageDay (d := 4) (by decide) hn hr hz) rfl rfl hdd (Nat.le_refl _) (Nat.le_refl _) (by decide) (pm_ki (fun v5 σ' cnt' hq => ?_))
    obtain ⟨⟨I6, A6, rfl⟩, rfl⟩ := hq
    refine pm_istoreXn (loc' := [some (.ref (B + 54)), some (.int za), some (.int v5), none]) hG dX12_after_18 (by decide) (pm_c1b rfl) rfl ?_
    refine pm_iloadn hG dX12_after_19 rfl ?_
    refine pm_if_ge (tgt := 29) hG dX12_after_20 rfl (fun c7 => ?_) (fun c7 => ?_)
    · obtain ⟨k8, hk8, ek8⟩ := nI_of (Int32.not_lt.mpr c7)
      refine pm_aloadn hG dX12_after_29 rfl ?_
      refine pm_aloadn hG dX12_after_30 rfl ?_
      refine pm_iconst (v := nI 4) hG dX12_after_31 (by decide) ?_
      refine pm_iloadn hG dX12_after_32 rfl ?_
      refine pm_top (v := nI k8) ek8 ?_
      refine pm_aloadn hG dX12_after_33 rfl ?_
      refine pm_getf hG dX12_after_34 (flX12_7 _ rfl) rfl rfl ?_
      refine pm_bipush (v := nI 8) hG dX12_after_37 (by decide) ?_
      refine pm_ialdN hG dX12_after_39 rfl (by decide) (by omega) ?_
      obtain ⟨k9, hk9, ek9⟩ := KI.nat hn (show kd 8 = (1, 2001, false) by decide)
      refine pm_top (v := nI k9) ek9 ?_
      refine pm_callV (As := [.int (nI 4), .int (nI k8), .int (nI k9)]) (rest := [.ref (B + 54)]) hG hR dX12_after_40 (lkX12_195 _ rfl) okV_X12_inForce rfl rfl (m_inForce (d := 4) (by decide) hn hz) rfl rfl hdd (Nat.le_refl _) (Nat.le_refl _) (Nat.le_of_ble_eq_true rfl) (pm_ki (fun v10 σ' cnt' hq => ?_))
      obtain ⟨rfl, rfl, rv10⟩ := hq
      rcases rv10 with rfl | ⟨k12, hk12, rfl⟩
      · refine pm_aloadn hG dX12_after_43 rfl ?_
        refine pm_iloadn hG dX12_after_44 rfl ?_
        refine pm_top (v := nI k4) ek4 ?_
        refine pm_iconst (v := nI 1) hG dX12_after_45 (by decide) ?_
        refine pm_callV (As := [.int (nI k4), .int (nI 1)]) (rest := [.int (-1), .ref (B + 54)]) hG hR dX12_after_46 (lkX12_110 _ rfl) okV_X12_its rfl rfl (m_its (d := 4) (e := 6 * k4 + 391) (by omega) (by omega) (by omega)) rfl rfl hdd (Nat.le_refl _) (Nat.le_refl _) (Nat.le_of_ble_eq_true rfl) (pm_ki (fun v13 σ' cnt' hq => ?_))
        obtain ⟨rfl, rfl, rfl⟩ := hq
        rcases KI.opt hn (show kd (6 * k4 + 391) = (2, 20, false) from (kd_W (k := k4) (c := 1) (by omega) (by omega) (by decide))) with ek14 | ⟨k14, hk14, ek14⟩
        · refine pm_top (v := (-1)) ek14 ?_
          refine pm_iconst (v := (-1)) hG dX12_after_49 (by decide) ?_
          refine pm_iloadn hG dX12_after_50 rfl ?_
          refine pm_top (v := nI k8) ek8 ?_
          refine pm_callV (As := [.int (-1), .int (-1), .int (-1), .int (nI k8)]) (rest := []) hG hR dX12_after_51 (lkX12_214 _ rfl) okV_X12_comesTo rfl rfl (m_comesTo_m_m_m (d := 4) (by decide) hn hr hz) rfl rfl hdd (Nat.le_refl _) (Nat.le_refl _) (by decide) (pm_ki (fun v15 σ' cnt' hq => ?_))
          obtain ⟨⟨I16, A16, rfl⟩, rfl⟩ := hq
          refine pm_istoreXn (loc' := [some (.ref (B + 54)), some (.int za), some (.int v5), some (.int v15)]) hG dX12_after_54 (by decide) (pm_c1b rfl) rfl ?_
          refine pm_iloadn hG dX12_after_55 rfl ?_
          refine pm_if_eq (tgt := 64) hG dX12_after_56 rfl (fun c17 => ?_) (fun c17 => ?_)
          · refine pm_iloadn hG dX12_after_64 rfl ?_
            refine pm_top (v := nI 0) c17 ?_
            refine pm_goto (tgt := 69) hG dX12_after_65 rfl ?_
            exact pm_iret hG hF dX12_after_69 rfl (Nat.le_refl _) (Nat.le_refl _) ⟨_, rfl, ⟨_, _, rfl⟩, rfl⟩
          · refine pm_iloadn hG dX12_after_59 rfl ?_
            refine pm_iconst (v := nI 1) hG dX12_after_60 (by decide) ?_
            refine pm_icmp_ne (tgt := 68) hG dX12_after_61 rfl (fun c18 => ?_) (fun c18 => ?_)
            · refine pm_iconst (v := nI 2) hG dX12_after_68 (by decide) ?_
              exact pm_iret hG hF dX12_after_69 rfl (Nat.le_refl _) (Nat.le_refl _) ⟨_, rfl, ⟨_, _, rfl⟩, rfl⟩
            · refine pm_iloadn hG dX12_after_64 rfl ?_
              refine pm_top (v := nI 1) c18 ?_
              refine pm_goto (tgt := 69) hG dX12_after_65 rfl ?_
              exact pm_iret hG hF dX12_after_69 rfl (Nat.le_refl _) (Nat.le_refl _) ⟨_, rfl, ⟨_, _, rfl⟩, rfl⟩
        · refine pm_top (v := nI k14) ek14 ?_
          refine pm_iconst (v := (-1)) hG dX12_after_49 (by decide) ?_
          refine pm_iloadn hG dX12_after_50 rfl ?_
          refine pm_top (v := nI k8) ek8 ?_
          refine pm_callV (As := [.int (-1), .int (nI k14), .int (-1), .int (nI k8)]) (rest := []) hG hR dX12_after_51 (lkX12_214 _ rfl) okV_X12_comesTo rfl rfl (m_comesTo_m_n20_m (d := 4) (by decide) hn hr hz (by omega)) rfl rfl hdd (Nat.le_refl _) (Nat.le_refl _) (by decide) (pm_ki (fun v19 σ' cnt' hq => ?_))
          obtain ⟨⟨I20, A20, rfl⟩, rfl⟩ := hq
          refine pm_istoreXn (loc' := [some (.ref (B + 54)), some (.int za), some (.int v5), some (.int v19)]) hG dX12_after_54 (by decide) (pm_c1b rfl) rfl ?_
          refine pm_iloadn hG dX12_after_55 rfl ?_
          refine pm_if_eq (tgt := 64) hG dX12_after_56 rfl (fun c21 => ?_) (fun c21 => ?_)
          · refine pm_iloadn hG dX12_after_64 rfl ?_
            refine pm_top (v := nI 0) c21 ?_
            refine pm_goto (tgt := 69) hG dX12_after_65 rfl ?_
            exact pm_iret hG hF dX12_after_69 rfl (Nat.le_refl _) (Nat.le_refl _) ⟨_, rfl, ⟨_, _, rfl⟩, rfl⟩
          · refine pm_iloadn hG dX12_after_59 rfl ?_
            refine pm_iconst (v := nI 1) hG dX12_after_60 (by decide) ?_
            refine pm_icmp_ne (tgt := 68) hG dX12_after_61 rfl (fun c22 => ?_) (fun c22 => ?_)
            · refine pm_iconst (v := nI 2) hG dX12_after_68 (by decide) ?_
              exact pm_iret hG hF dX12_after_69 rfl (Nat.le_refl _) (Nat.le_refl _) ⟨_, rfl, ⟨_, _, rfl⟩, rfl⟩
            · refine pm_iloadn hG dX12_after_64 rfl ?_
              refine pm_top (v := nI 1) c22 ?_
              refine pm_goto (tgt := 69) hG dX12_after_65 rfl ?_
              exact pm_iret hG hF dX12_after_69 rfl (Nat.le_refl _) (Nat.le_refl _) ⟨_, rfl, ⟨_, _, rfl⟩, rfl⟩
      · refine pm_aloadn hG dX12_after_43 rfl ?_
        refine pm_iloadn hG dX12_after_44 rfl ?_
        refine pm_top (v := nI k4) ek4 ?_
        refine pm_iconst (v := nI 1) hG dX12_after_45 (by decide) ?_
        refine pm_callV (As := [.int (nI k4), .int (nI 1)]) (rest := [.int (nI k12), .ref (B + 54)]) hG hR dX12_after_46 (lkX12_110 _ rfl) okV_X12_its rfl rfl (m_its (d := 4) (e := 6 * k4 + 391) (by omega) (by omega) (by omega)) rfl rfl hdd (Nat.le_refl _) (Nat.le_refl _) (Nat.le_of_ble_eq_true rfl) (pm_ki (fun v23 σ' cnt' hq => ?_))
        obtain ⟨rfl, rfl, rfl⟩ := hq
        rcases KI.opt hn (show kd (6 * k4 + 391) = (2, 20, false) from (kd_W (k := k4) (c := 1) (by omega) (by omega) (by decide))) with ek24 | ⟨k24, hk24, ek24⟩
        · refine pm_top (v := (-1)) ek24 ?_
          refine pm_iconst (v := (-1)) hG dX12_after_49 (by decide) ?_
          refine pm_iloadn hG dX12_after_50 rfl ?_
          refine pm_top (v := nI k8) ek8 ?_
          refine pm_callV (As := [.int (nI k12), .int (-1), .int (-1), .int (nI k8)]) (rest := []) hG hR dX12_after_51 (lkX12_214 _ rfl) okV_X12_comesTo rfl rfl (m_comesTo_n12_m_m (d := 4) (by decide) hn hr hz (by omega)) rfl rfl hdd (Nat.le_refl _) (Nat.le_refl _) (by decide) (pm_ki (fun v25 σ' cnt' hq => ?_))
          obtain ⟨⟨I26, A26, rfl⟩, rfl⟩ := hq
          refine pm_istoreXn (loc' := [some (.ref (B + 54)), some (.int za), some (.int v5), some (.int v25)]) hG dX12_after_54 (by decide) (pm_c1b rfl) rfl ?_
          refine pm_iloadn hG dX12_after_55 rfl ?_
          refine pm_if_eq (tgt := 64) hG dX12_after_56 rfl (fun c27 => ?_) (fun c27 => ?_)
          · refine pm_iloadn hG dX12_after_64 rfl ?_
            refine pm_top (v := nI 0) c27 ?_
            refine pm_goto (tgt := 69) hG dX12_after_65 rfl ?_
            exact pm_iret hG hF dX12_after_69 rfl (Nat.le_refl _) (Nat.le_refl _) ⟨_, rfl, ⟨_, _, rfl⟩, rfl⟩
          · refine pm_iloadn hG dX12_after_59 rfl ?_
            refine pm_iconst (v := nI 1) hG dX12_after_60 (by decide) ?_
            refine pm_icmp_ne (tgt := 68) hG dX12_after_61 rfl (fun c28 => ?_) (fun c28 => ?_)
            · refine pm_iconst (v := nI 2) hG dX12_after_68 (by decide) ?_
              exact pm_iret hG hF dX12_after_69 rfl (Nat.le_refl _) (Nat.le_refl _) ⟨_, rfl, ⟨_, _, rfl⟩, rfl⟩
            · refine pm_iloadn hG dX12_after_64 rfl ?_
              refine pm_top (v := nI 1) c28 ?_
              refine pm_goto (tgt := 69) hG dX12_after_65 rfl ?_
              exact pm_iret hG hF dX12_after_69 rfl (Nat.le_refl _) (Nat.le_refl _) ⟨_, rfl, ⟨_, _, rfl⟩, rfl⟩
        · refine pm_top (v := nI k24) ek24 ?_
          refine pm_iconst (v := (-1)) hG dX12_after_49 (by decide) ?_
          refine pm_iloadn hG dX12_after_50 rfl ?_
          refine pm_top (v := nI k8) ek8 ?_
          refine pm_callV (As := [.int (nI k12), .int (nI k24), .int (-1), .int (nI k8)]) (rest := []) hG hR dX12_after_51 (lkX12_214 _ rfl) okV_X12_comesTo rfl rfl (m_comesTo_n12_n20_m (d := 4) (by decide) hn hr hz (by omega) (by omega)) rfl rfl hdd (Nat.le_refl _) (Nat.le_refl _) (by decide) (pm_ki (fun v29 σ' cnt' hq => ?_))
          obtain ⟨⟨I30, A30, rfl⟩, rfl⟩ := hq
          refine pm_istoreXn (loc' := [some (.ref (B + 54)), some (.int za), some (.int v5), some (.int v29)]) hG dX12_after_54 (by decide) (pm_c1b rfl) rfl ?_
          refine pm_iloadn hG dX12_after_55 rfl ?_
          refine pm_if_eq (tgt := 64) hG dX12_after_56 rfl (fun c31 => ?_) (fun c31 => ?_)
          · refine pm_iloadn hG dX12_after_64 rfl ?_
            refine pm_top (v := nI 0) c31 ?_
            refine pm_goto (tgt := 69) hG dX12_after_65 rfl ?_
            exact pm_iret hG hF dX12_after_69 rfl (Nat.le_refl _) (Nat.le_refl _) ⟨_, rfl, ⟨_, _, rfl⟩, rfl⟩
          · refine pm_iloadn hG dX12_after_59 rfl ?_
            refine pm_iconst (v := nI 1) hG dX12_after_60 (by decide) ?_
            refine pm_icmp_ne (tgt := 68) hG dX12_after_61 rfl (fun c32 => ?_) (fun c32 => ?_)
            · refine pm_iconst (v := nI 2) hG dX12_after_68 (by decide) ?_
              exact pm_iret hG hF dX12_after_69 rfl (Nat.le_refl _) (Nat.le_refl _) ⟨_, rfl, ⟨_, _, rfl⟩, rfl⟩
            · refine pm_iloadn hG dX12_after_64 rfl ?_
              refine pm_top (v := nI 1) c32 ?_
              refine pm_goto (tgt := 69) hG dX12_after_65 rfl ?_
              exact pm_iret hG hF dX12_after_69 rfl (Nat.le_refl _) (Nat.le_refl _) ⟨_, rfl, ⟨_, _, rfl⟩, rfl⟩
    · refine pm_aloadn hG dX12_after_23 rfl ?_
      refine pm_iconst (v := nI 2) hG dX12_after_24 (by decide) ?_
      refine pm_callV (As := [.int (nI 2)]) (rest := []) hG hR dX12_after_25 (lkX12_80 _ rfl) okV_X12_finds rfl rfl (m_finds (d := 4) (by decide) hn hz (by omega)) rfl rfl hdd (Nat.le_refl _) (Nat.le_refl _) (by decide) (pm_ki (fun v33 σ' cnt' hq => ?_))
      obtain ⟨⟨I34, A34, rfl⟩, rfl, fv33⟩ := hq
      exact pm_iret hG hF dX12_after_28 rfl (Nat.le_refl _) (Nat.le_refl _) ⟨_, rfl, ⟨_, _, rfl⟩, rfl⟩
  · refine pm_ifN_ne (tgt := 14) hG dX12_after_5 rfl (by omega) (fun q => absurd q (by omega)) (fun _ => ?_)
    refine pm_aloadn hG dX12_after_8 rfl ?_
    refine pm_iconst (v := nI 1) hG dX12_after_9 (by decide) ?_
    refine pm_callV (As := [.int (nI 1)]) (rest := []) hG hR dX12_after_10 (lkX12_80 _ rfl) okV_X12_finds rfl rfl (m_finds (d := 4) (by decide) hn hz (by omega)) rfl rfl hdd (Nat.le_refl _) (Nat.le_refl _) (by decide) (pm_ki (fun v35 σ' cnt' hq => ?_))
    obtain ⟨⟨I36, A36, rfl⟩, rfl, fv35⟩ := hq
    exact pm_iret hG hF dX12_after_13 rfl (Nat.le_refl _) (Nat.le_refl _) ⟨_, rfl, ⟨_, _, rfl⟩, rfl⟩
