set_option maxRecDepth 100000 in
set_option maxHeartbeats 4000000 in
theorem m_says {d B cnt p0 t0 : Nat} {σ : pm_S} {I : Nat → Int32} {A : Nat → Nat → Int32} {n k z : Nat → Int32} {ac wt pl im : Int32} {y : Nat → Int32} {za zb zc : Int32} (hdd : 4 ≤ d) (hn : KI n) (hr : NR n) (hz : SZ z)  : pm_met mX12_says d 0 0 B [.ref (B + 54), .int za, .int zb, .int zc] cnt (pm_mid σ (md_L B I A n k z ac wt pl (nI p0) (nI t0) im y)) (pm_Qi (fun v σ' cnt' => (∃ (I' : Nat → Int32) (A' : Nat → Nat → Int32), σ' = pm_mid σ (md_L B I' A' n k z ac wt pl (nI p0) (nI t0) im y)) ∧ cnt = cnt')) := by
  refine pm_enter 0 (by decide) (Nat.le_of_ble_eq_true rfl) rfl (fun G hG hR hF => ?_)
  refine pm_aloadn hG dX12_says_0 rfl ?_
  refine pm_iloadn hG dX12_says_1 rfl ?_
  obtain ⟨k1, hk1, ek1⟩ := KI.nat hn (show kd 4 = (1, 13, false) by decide)
  refine pm_callV (As := [.int za]) (rest := []) hG hR dX12_says_2 (lkX12_192 _ rfl) okV_X12_isLaw rfl rfl (m_isLaw (d := 3) (by decide) ek1 (by omega)) rfl rfl hdd (Nat.le_refl _) (Nat.le_refl _) (by decide) (pm_ki (fun v2 σ' cnt' hq => ?_))
  obtain ⟨hq, rfl, rfl⟩ := hq
  rcases hq with ⟨rfl, k4, hk4, ek4⟩ | rfl
  · refine pm_ifN_eq (tgt := 34) hG dX12_says_5 rfl (by omega) (fun q => absurd q (by omega)) (fun _ => ?_)
    refine pm_iloadn hG dX12_says_8 rfl ?_
    refine pm_iconst (v := (-1)) hG dX12_says_9 (by decide) ?_
    refine pm_icmp_eq (tgt := 21) hG dX12_says_10 rfl (fun c5 => ?_) (fun c5 => ?_)
    · refine pm_iloadn hG dX12_says_21 rfl ?_
      refine pm_iconst (v := (-1)) hG dX12_says_22 (by decide) ?_
      refine pm_icmp_eq (tgt := 40) hG dX12_says_23 rfl (fun c6 => ?_) (fun c6 => ?_)
      · refine pm_aloadn hG dX12_says_40 rfl ?_
        refine pm_iloadn hG dX12_says_41 rfl ?_
        refine pm_top (v := nI k4) ek4 ?_
        refine pm_iloadn hG dX12_says_42 rfl ?_
        refine pm_top (v := (-1)) c5 ?_
        refine pm_iloadn hG dX12_says_43 rfl ?_
        refine pm_top (v := (-1)) c6 ?_
        refine pm_aloadn hG dX12_says_44 rfl ?_
        refine pm_getf hG dX12_says_45 (flX12_7 _ rfl) rfl rfl ?_
        refine pm_bipush (v := nI 8) hG dX12_says_48 (by decide) ?_
        refine pm_ialdN hG dX12_says_50 rfl (by decide) (by omega) ?_
        obtain ⟨k7, hk7, ek7⟩ := KI.nat hn (show kd 8 = (1, 2001, false) by decide)
        refine pm_top (v := nI k7) ek7 ?_
        refine pm_callV (As := [.int (nI k4), .int (-1), .int (-1), .int (nI k7)]) (rest := []) hG hR dX12_says_51 (lkX12_214 _ rfl) okV_X12_comesTo rfl rfl (m_comesTo_n12_m_m (d := 3) (by decide) hn hr hz (by omega)) rfl rfl hdd (Nat.le_refl _) (Nat.le_refl _) (by decide) (pm_ki (fun v8 σ' cnt' hq => ?_))
        obtain ⟨⟨I9, A9, rfl⟩, rfl⟩ := hq
        exact pm_iret hG hF dX12_says_54 rfl (Nat.le_refl _) (Nat.le_refl _) ⟨_, rfl, ⟨_, _, rfl⟩, rfl⟩
      · refine pm_aloadn hG dX12_says_26 rfl ?_
        refine pm_iloadn hG dX12_says_27 rfl ?_
        obtain ⟨k10, hk10, ek10⟩ := KI.nat hn (show kd 5 = (1, 41, true) by decide)
        refine pm_callV (As := [.int zc]) (rest := []) hG hR dX12_says_28 (lkX12_211 _ rfl) okV_X12_isLetter rfl rfl (m_isLetter (d := 3) (by decide) ek10 (by omega)) rfl rfl hdd (Nat.le_refl _) (Nat.le_refl _) (by decide) (pm_ki (fun v11 σ' cnt' hq => ?_))
        obtain ⟨hq, rfl, rfl⟩ := hq
        rcases hq with ⟨rfl, k13, hk13, ek13⟩ | rfl
        · refine pm_ifN_ne (tgt := 40) hG dX12_says_31 rfl (by omega) (fun _ => ?_) (fun q => absurd q (by omega))
          refine pm_aloadn hG dX12_says_40 rfl ?_
          refine pm_iloadn hG dX12_says_41 rfl ?_
          refine pm_top (v := nI k4) ek4 ?_
          refine pm_iloadn hG dX12_says_42 rfl ?_
          refine pm_top (v := (-1)) c5 ?_
          refine pm_iloadn hG dX12_says_43 rfl ?_
          refine pm_top (v := nI k13) ek13 ?_
          refine pm_aloadn hG dX12_says_44 rfl ?_
          refine pm_getf hG dX12_says_45 (flX12_7 _ rfl) rfl rfl ?_
          refine pm_bipush (v := nI 8) hG dX12_says_48 (by decide) ?_
          refine pm_ialdN hG dX12_says_50 rfl (by decide) (by omega) ?_
          obtain ⟨k14, hk14, ek14⟩ := KI.nat hn (show kd 8 = (1, 2001, false) by decide)
          refine pm_top (v := nI k14) ek14 ?_
          refine pm_callV (As := [.int (nI k4), .int (-1), .int (nI k13), .int (nI k14)]) (rest := []) hG hR dX12_says_51 (lkX12_214 _ rfl) okV_X12_comesTo rfl rfl (m_comesTo_n12_m_n40 (d := 3) (by decide) hn hr hz (by omega) (by omega)) rfl rfl hdd (Nat.le_refl _) (Nat.le_refl _) (by decide) (pm_ki (fun v15 σ' cnt' hq => ?_))
          obtain ⟨⟨I16, A16, rfl⟩, rfl⟩ := hq
          exact pm_iret hG hF dX12_says_54 rfl (Nat.le_refl _) (Nat.le_refl _) ⟨_, rfl, ⟨_, _, rfl⟩, rfl⟩
        · refine pm_ifN_ne (tgt := 40) hG dX12_says_31 rfl (by omega) (fun q => absurd q (by omega)) (fun _ => ?_)
          refine pm_aloadn hG dX12_says_34 rfl ?_
          refine pm_iconst (v := nI 1) hG dX12_says_35 (by decide) ?_
          refine pm_callV (As := [.int (nI 1)]) (rest := []) hG hR dX12_says_36 (lkX12_80 _ rfl) okV_X12_finds rfl rfl (m_finds (d := 3) (by decide) hn hz (by omega)) rfl rfl hdd (Nat.le_refl _) (Nat.le_refl _) (by decide) (pm_ki (fun v17 σ' cnt' hq => ?_))
          obtain ⟨⟨I18, A18, rfl⟩, rfl, fv17⟩ := hq
          exact pm_iret hG hF dX12_says_39 rfl (Nat.le_refl _) (Nat.le_refl _) ⟨_, rfl, ⟨_, _, rfl⟩, rfl⟩
    · refine pm_aloadn hG dX12_says_13 rfl ?_
      refine pm_iloadn hG dX12_says_14 rfl ?_
      obtain ⟨k19, hk19, ek19⟩ := KI.nat hn (show kd 2 = (1, 21, true) by decide)
      refine pm_callV (As := [.int zb]) (rest := []) hG hR dX12_says_15 (lkX12_91 _ rfl) okV_X12_isPerson rfl rfl (m_isPerson (d := 3) (by decide) ek19 (by omega)) rfl rfl hdd (Nat.le_refl _) (Nat.le_refl _) (by decide) (pm_ki (fun v20 σ' cnt' hq => ?_))
      obtain ⟨hq, rfl, rfl⟩ := hq
      rcases hq with ⟨rfl, k22, hk22, ek22⟩ | rfl
      · refine pm_ifN_eq (tgt := 34) hG dX12_says_18 rfl (by omega) (fun q => absurd q (by omega)) (fun _ => ?_)
        refine pm_iloadn hG dX12_says_21 rfl ?_
        refine pm_iconst (v := (-1)) hG dX12_says_22 (by decide) ?_
        refine pm_icmp_eq (tgt := 40) hG dX12_says_23 rfl (fun c23 => ?_) (fun c23 => ?_)
        · refine pm_aloadn hG dX12_says_40 rfl ?_
          refine pm_iloadn hG dX12_says_41 rfl ?_
          refine pm_top (v := nI k4) ek4 ?_
          refine pm_iloadn hG dX12_says_42 rfl ?_
          refine pm_top (v := nI k22) ek22 ?_
          refine pm_iloadn hG dX12_says_43 rfl ?_
          refine pm_top (v := (-1)) c23 ?_
          refine pm_aloadn hG dX12_says_44 rfl ?_
          refine pm_getf hG dX12_says_45 (flX12_7 _ rfl) rfl rfl ?_
          refine pm_bipush (v := nI 8) hG dX12_says_48 (by decide) ?_
          refine pm_ialdN hG dX12_says_50 rfl (by decide) (by omega) ?_
          obtain ⟨k24, hk24, ek24⟩ := KI.nat hn (show kd 8 = (1, 2001, false) by decide)
          refine pm_top (v := nI k24) ek24 ?_
          refine pm_callV (As := [.int (nI k4), .int (nI k22), .int (-1), .int (nI k24)]) (rest := []) hG hR dX12_says_51 (lkX12_214 _ rfl) okV_X12_comesTo rfl rfl (m_comesTo_n12_n20_m (d := 3) (by decide) hn hr hz (by omega) (by omega)) rfl rfl hdd (Nat.le_refl _) (Nat.le_refl _) (by decide) (pm_ki (fun v25 σ' cnt' hq => ?_))
          obtain ⟨⟨I26, A26, rfl⟩, rfl⟩ := hq
          exact pm_iret hG hF dX12_says_54 rfl (Nat.le_refl _) (Nat.le_refl _) ⟨_, rfl, ⟨_, _, rfl⟩, rfl⟩
        · refine pm_aloadn hG dX12_says_26 rfl ?_
          refine pm_iloadn hG dX12_says_27 rfl ?_
          obtain ⟨k27, hk27, ek27⟩ := KI.nat hn (show kd 5 = (1, 41, true) by decide)
          refine pm_callV (As := [.int zc]) (rest := []) hG hR dX12_says_28 (lkX12_211 _ rfl) okV_X12_isLetter rfl rfl (m_isLetter (d := 3) (by decide) ek27 (by omega)) rfl rfl hdd (Nat.le_refl _) (Nat.le_refl _) (by decide) (pm_ki (fun v28 σ' cnt' hq => ?_))
          obtain ⟨hq, rfl, rfl⟩ := hq
          rcases hq with ⟨rfl, k30, hk30, ek30⟩ | rfl
          · refine pm_ifN_ne (tgt := 40) hG dX12_says_31 rfl (by omega) (fun _ => ?_) (fun q => absurd q (by omega))
            refine pm_aloadn hG dX12_says_40 rfl ?_
            refine pm_iloadn hG dX12_says_41 rfl ?_
            refine pm_top (v := nI k4) ek4 ?_
            refine pm_iloadn hG dX12_says_42 rfl ?_
            refine pm_top (v := nI k22) ek22 ?_
            refine pm_iloadn hG dX12_says_43 rfl ?_
            refine pm_top (v := nI k30) ek30 ?_
            refine pm_aloadn hG dX12_says_44 rfl ?_
            refine pm_getf hG dX12_says_45 (flX12_7 _ rfl) rfl rfl ?_
            refine pm_bipush (v := nI 8) hG dX12_says_48 (by decide) ?_
            refine pm_ialdN hG dX12_says_50 rfl (by decide) (by omega) ?_
            obtain ⟨k31, hk31, ek31⟩ := KI.nat hn (show kd 8 = (1, 2001, false) by decide)
            refine pm_top (v := nI k31) ek31 ?_
            refine pm_callV (As := [.int (nI k4), .int (nI k22), .int (nI k30), .int (nI k31)]) (rest := []) hG hR dX12_says_51 (lkX12_214 _ rfl) okV_X12_comesTo rfl rfl (m_comesTo_n12_n20_n40 (d := 3) (by decide) hn hr hz (by omega) (by omega) (by omega)) rfl rfl hdd (Nat.le_refl _) (Nat.le_refl _) (by decide) (pm_ki (fun v32 σ' cnt' hq => ?_))
            obtain ⟨⟨I33, A33, rfl⟩, rfl⟩ := hq
            exact pm_iret hG hF dX12_says_54 rfl (Nat.le_refl _) (Nat.le_refl _) ⟨_, rfl, ⟨_, _, rfl⟩, rfl⟩
          · refine pm_ifN_ne (tgt := 40) hG dX12_says_31 rfl (by omega) (fun q => absurd q (by omega)) (fun _ => ?_)
            refine pm_aloadn hG dX12_says_34 rfl ?_
            refine pm_iconst (v := nI 1) hG dX12_says_35 (by decide) ?_
            refine pm_callV (As := [.int (nI 1)]) (rest := []) hG hR dX12_says_36 (lkX12_80 _ rfl) okV_X12_finds rfl rfl (m_finds (d := 3) (by decide) hn hz (by omega)) rfl rfl hdd (Nat.le_refl _) (Nat.le_refl _) (by decide) (pm_ki (fun v34 σ' cnt' hq => ?_))
            obtain ⟨⟨I35, A35, rfl⟩, rfl, fv34⟩ := hq
            exact pm_iret hG hF dX12_says_39 rfl (Nat.le_refl _) (Nat.le_refl _) ⟨_, rfl, ⟨_, _, rfl⟩, rfl⟩
      · refine pm_ifN_eq (tgt := 34) hG dX12_says_18 rfl (by omega) (fun _ => ?_) (fun q => absurd q (by omega))
        refine pm_aloadn hG dX12_says_34 rfl ?_
        refine pm_iconst (v := nI 1) hG dX12_says_35 (by decide) ?_
        refine pm_callV (As := [.int (nI 1)]) (rest := []) hG hR dX12_says_36 (lkX12_80 _ rfl) okV_X12_finds rfl rfl (m_finds (d := 3) (by decide) hn hz (by omega)) rfl rfl hdd (Nat.le_refl _) (Nat.le_refl _) (by decide) (pm_ki (fun v36 σ' cnt' hq => ?_))
        obtain ⟨⟨I37, A37, rfl⟩, rfl, fv36⟩ := hq
        exact pm_iret hG hF dX12_says_39 rfl (Nat.le_refl _) (Nat.le_refl _) ⟨_, rfl, ⟨_, _, rfl⟩, rfl⟩
  · refine pm_ifN_eq (tgt := 34) hG dX12_says_5 rfl (by omega) (fun _ => ?_) (fun q => absurd q (by omega))
    refine pm_aloadn hG dX12_says_34 rfl ?_
    refine pm_iconst (v := nI 1) hG dX12_says_35 (by decide) ?_
    refine pm_callV (As := [.int (nI 1)]) (rest := []) hG hR dX12_says_36 (lkX12_80 _ rfl) okV_X12_finds rfl rfl (m_finds (d := 3) (by decide) hn hz (by omega)) rfl rfl hdd (Nat.le_refl _) (Nat.le_refl _) (by decide) (pm_ki (fun v38 σ' cnt' hq => ?_))
    obtain ⟨⟨I39, A39, rfl⟩, rfl, fv38⟩ := hq
    exact pm_iret hG hF dX12_says_39 rfl (Nat.le_refl _) (Nat.le_refl _) ⟨_, rfl, ⟨_, _, rfl⟩, rfl⟩
