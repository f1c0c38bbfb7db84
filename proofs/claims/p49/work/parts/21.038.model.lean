set_option maxRecDepth 100000 in
set_option maxHeartbeats 4000000 in
theorem m_copy {d B cnt p0 t0 : Nat} {σ : pm_S} {I : Nat → Int32} {A : Nat → Nat → Int32} {n k z : Nat → Int32} {ac wt pl im : Int32} {y : Nat → Int32} {za : Int32} (hdd : 3 ≤ d) (hn : KI n) (hr : NR n) (hz : SZ z)  : pm_met mX12_copy d 0 0 B [.ref (B + 54), .int za] cnt (pm_mid σ (md_L B I A n k z ac wt pl (nI p0) (nI t0) im y)) (pm_Qi (fun v σ' cnt' => (∃ (I' : Nat → Int32) (A' : Nat → Nat → Int32) (n' : Nat → Int32), σ' = pm_mid σ (md_L B I' A' n' k z ac wt pl (nI p0) (nI t0) im y) ∧ KI n' ∧ NR n') ∧ cnt = cnt')) := by
  refine pm_enter 0 (by decide) (Nat.le_of_ble_eq_true rfl) rfl (fun G hG hR hF => ?_)
  refine pm_aloadn hG dX12_copy_0 rfl ?_
  refine pm_iloadn hG dX12_copy_1 rfl ?_
  obtain ⟨k1, hk1, ek1⟩ := KI.nat hn (show kd 3 = (1, 21, false) by decide)
  refine pm_callV (As := [.int za]) (rest := []) hG hR dX12_copy_2 (lkX12_132 _ rfl) okV_X12_isPower rfl rfl (m_isPower (d := 2) (by decide) ek1 (by omega)) rfl rfl hdd (Nat.le_refl _) (Nat.le_refl _) (by decide) (pm_ki (fun v2 σ' cnt' hq => ?_))
  obtain ⟨hq, rfl, rfl⟩ := hq
  rcases hq with ⟨rfl, k4, hk4, ek4⟩ | rfl
  · refine pm_ifN_ne (tgt := 14) hG dX12_copy_5 rfl (by omega) (fun _ => ?_) (fun q => absurd q (by omega))
    refine pm_aloadn hG dX12_copy_14 rfl ?_
    refine pm_iloadn hG dX12_copy_15 rfl ?_
    refine pm_top (v := nI k4) ek4 ?_
    refine pm_iconst (v := nI 0) hG dX12_copy_16 (by decide) ?_
    refine pm_callV (As := [.int (nI k4), .int (nI 0)]) (rest := []) hG hR dX12_copy_17 (lkX12_110 _ rfl) okV_X12_its rfl rfl (m_its (d := 2) (e := 6 * k4 + 390) (by omega) (by omega) (by omega)) rfl rfl hdd (Nat.le_refl _) (Nat.le_refl _) (by decide) (pm_ki (fun v5 σ' cnt' hq => ?_))
    obtain ⟨rfl, rfl, rfl⟩ := hq
    refine pm_gen (fun x6 ex6 => ?_)
    refine pm_iconst (v := nI 2) hG dX12_copy_20 (by decide) ?_
    refine pm_icmp_eq (tgt := 30) hG dX12_copy_21 rfl (fun c7 => ?_) (fun c7 => ?_)
    · refine pm_aloadn hG dX12_copy_30 rfl ?_
      refine pm_iloadn hG dX12_copy_31 rfl ?_
      refine pm_top (v := nI k4) ek4 ?_
      rcases KI.opt hn (show kd (6 * k4 + 392) = (2, 20, false) from (kd_W (k := k4) (c := 2) (by omega) (by omega) (by decide))) with ek8 | ⟨k8, hk8, ek8⟩
      · rcases KI.opt hn (show kd (6 * k4 + 391) = (2, 20, false) from (kd_W (k := k4) (c := 1) (by omega) (by omega) (by decide))) with ek9 | ⟨k9, hk9, ek9⟩
        · refine pm_callV (As := [.int (nI k4)]) (rest := []) hG hR dX12_copy_32 (lkX12_139 _ rfl) okV_X12_whoHas rfl rfl (m_whoHas0 (d := 2) (e := 6 * k4 + 392) (e2 := 6 * k4 + 391) (by decide) (by omega) (by omega) (by omega) ek8 ek9) rfl rfl hdd (Nat.le_refl _) (Nat.le_refl _) (by decide) (pm_ki (fun v10 σ' cnt' hq => ?_))
          obtain ⟨rfl, rfl, rfl⟩ := hq
          refine pm_if_ge (tgt := 44) hG dX12_copy_35 rfl (fun q => absurd q (by decide)) (fun _ => ?_)
          refine pm_aloadn hG dX12_copy_38 rfl ?_
          refine pm_iconst (v := nI 3) hG dX12_copy_39 (by decide) ?_
          refine pm_callV (As := [.int (nI 3)]) (rest := []) hG hR dX12_copy_40 (lkX12_80 _ rfl) okV_X12_finds rfl rfl (m_finds (d := 2) (by decide) hn hz (by omega)) rfl rfl hdd (Nat.le_refl _) (Nat.le_refl _) (by decide) (pm_ki (fun v11 σ' cnt' hq => ?_))
          obtain ⟨⟨I12, A12, rfl⟩, rfl, fv11⟩ := hq
          exact pm_iret hG hF dX12_copy_43 rfl (Nat.le_refl _) (Nat.le_refl _) ⟨_, rfl, ⟨_, _, _, rfl, hn, hr⟩, rfl⟩
        · refine pm_callV (As := [.int (nI k4)]) (rest := []) hG hR dX12_copy_32 (lkX12_139 _ rfl) okV_X12_whoHas rfl rfl (m_whoHas0 (d := 2) (e := 6 * k4 + 392) (e2 := 6 * k4 + 391) (by decide) (by omega) (by omega) (by omega) ek8 ek9) rfl rfl hdd (Nat.le_refl _) (Nat.le_refl _) (by decide) (pm_ki (fun v13 σ' cnt' hq => ?_))
          obtain ⟨rfl, rfl, rfl⟩ := hq
          refine pm_ifN_ge (tgt := 44) hG dX12_copy_35 rfl (by omega) ?_
          refine pm_aloadn hG dX12_copy_44 rfl ?_
          refine pm_getf hG dX12_copy_45 (flX12_7 _ rfl) rfl rfl ?_
          refine pm_iconst (v := nI 3) hG dX12_copy_48 (by decide) ?_
          refine pm_ialdN hG dX12_copy_49 rfl (by decide) (by omega) ?_
          refine pm_top (v := nI k1) ek1 ?_
          refine pm_bipush (v := nI 20) hG dX12_copy_50 (by decide) ?_
          refine pm_icmpN_ne (tgt := 63) hG dX12_copy_52 rfl (by omega) (by omega) (fun c14 => ?_) (fun c14 => ?_)
          · refine pm_aloadn hG dX12_copy_63 rfl ?_
            refine pm_iconst (v := nI 2) hG dX12_copy_64 (by decide) ?_
            refine pm_aloadn hG dX12_copy_65 rfl ?_
            refine pm_iloadn hG dX12_copy_66 rfl ?_
            refine pm_top (v := nI k4) ek4 ?_
            refine pm_callV (As := [.int (nI k4)]) (rest := [.int (nI 2), .ref (B + 54)]) hG hR dX12_copy_67 (lkX12_139 _ rfl) okV_X12_whoHas rfl rfl (m_whoHas0 (d := 2) (e := 6 * k4 + 392) (e2 := 6 * k4 + 391) (by decide) (by omega) (by omega) (by omega) ek8 ek9) rfl rfl hdd (Nat.le_refl _) (Nat.le_refl _) (Nat.le_of_ble_eq_true rfl) (pm_ki (fun v15 σ' cnt' hq => ?_))
            obtain ⟨rfl, rfl, rfl⟩ := hq
            refine pm_iconst (v := nI 0) hG dX12_copy_70 (by decide) ?_
            refine pm_aloadn hG dX12_copy_71 rfl ?_
            refine pm_iloadn hG dX12_copy_72 rfl ?_
            refine pm_top (v := nI k4) ek4 ?_
            refine pm_iconst (v := nI 5) hG dX12_copy_73 (by decide) ?_
            refine pm_callV (As := [.int (nI k4), .int (nI 5)]) (rest := [.int (nI 0), .int (nI k9), .int (nI 2), .ref (B + 54)]) hG hR dX12_copy_74 (lkX12_110 _ rfl) okV_X12_its rfl rfl (m_its (d := 2) (e := 6 * k4 + 395) (by omega) (by omega) (by omega)) rfl rfl hdd (Nat.le_refl _) (Nat.le_refl _) (Nat.le_of_ble_eq_true rfl) (pm_ki (fun v16 σ' cnt' hq => ?_))
            obtain ⟨rfl, rfl, rfl⟩ := hq
            refine pm_gen (fun x17 ex17 => ?_)
            refine pm_callV (As := [.int (nI 2), .int (nI k9), .int (nI 0), .int x17]) (rest := []) hG hR dX12_copy_77 (lkX12_128 _ rfl) okV_X12_newPower rfl rfl (m_newPower_n20 (d := 2) (by decide) hn hr hz (by omega) ek1 (by omega)) rfl rfl hdd (Nat.le_refl _) (Nat.le_refl _) (by decide) (pm_ki (fun v18 σ' cnt' hq => ?_))
            obtain ⟨⟨n_19, rfl, hn19, hr19⟩, rfl⟩ := hq
            exact pm_iret hG hF dX12_copy_80 rfl (Nat.le_refl _) (Nat.le_refl _) ⟨_, rfl, ⟨_, _, _, rfl, hn19, hr19⟩, rfl⟩
          · refine pm_aloadn hG dX12_copy_55 rfl ?_
            refine pm_iconst (v := nI 4) hG dX12_copy_56 (by decide) ?_
            refine pm_callV (As := [.int (nI 4)]) (rest := []) hG hR dX12_copy_57 (lkX12_80 _ rfl) okV_X12_finds rfl rfl (m_finds (d := 2) (by decide) hn hz (by omega)) rfl rfl hdd (Nat.le_refl _) (Nat.le_refl _) (by decide) (pm_ki (fun v20 σ' cnt' hq => ?_))
            obtain ⟨⟨I21, A21, rfl⟩, rfl, fv20⟩ := hq
            refine pm_goto (tgt := 80) hG dX12_copy_60 rfl ?_
            exact pm_iret hG hF dX12_copy_80 rfl (Nat.le_refl _) (Nat.le_refl _) ⟨_, rfl, ⟨_, _, _, rfl, hn, hr⟩, rfl⟩
      · refine pm_callV (As := [.int (nI k4)]) (rest := []) hG hR dX12_copy_32 (lkX12_139 _ rfl) okV_X12_whoHas rfl rfl (m_whoHas1 (d := 2) (e := 6 * k4 + 392) (by decide) (by omega) (by omega) ek8 (by omega)) rfl rfl hdd (Nat.le_refl _) (Nat.le_refl _) (by decide) (pm_ki (fun v22 σ' cnt' hq => ?_))
        obtain ⟨rfl, rfl, rfl⟩ := hq
        refine pm_ifN_ge (tgt := 44) hG dX12_copy_35 rfl (by omega) ?_
        refine pm_aloadn hG dX12_copy_44 rfl ?_
        refine pm_getf hG dX12_copy_45 (flX12_7 _ rfl) rfl rfl ?_
        refine pm_iconst (v := nI 3) hG dX12_copy_48 (by decide) ?_
        refine pm_ialdN hG dX12_copy_49 rfl (by decide) (by omega) ?_
        refine pm_top (v := nI k1) ek1 ?_
        refine pm_bipush (v := nI 20) hG dX12_copy_50 (by decide) ?_
        refine pm_icmpN_ne (tgt := 63) hG dX12_copy_52 rfl (by omega) (by omega) (fun c23 => ?_) (fun c23 => ?_)
        · refine pm_aloadn hG dX12_copy_63 rfl ?_
          refine pm_iconst (v := nI 2) hG dX12_copy_64 (by decide) ?_
          refine pm_aloadn hG dX12_copy_65 rfl ?_
          refine pm_iloadn hG dX12_copy_66 rfl ?_
          refine pm_top (v := nI k4) ek4 ?_
          refine pm_callV (As := [.int (nI k4)]) (rest := [.int (nI 2), .ref (B + 54)]) hG hR dX12_copy_67 (lkX12_139 _ rfl) okV_X12_whoHas rfl rfl (m_whoHas1 (d := 2) (e := 6 * k4 + 392) (by decide) (by omega) (by omega) ek8 (by omega)) rfl rfl hdd (Nat.le_refl _) (Nat.le_refl _) (Nat.le_of_ble_eq_true rfl) (pm_ki (fun v24 σ' cnt' hq => ?_))
          obtain ⟨rfl, rfl, rfl⟩ := hq
          refine pm_iconst (v := nI 0) hG dX12_copy_70 (by decide) ?_
          refine pm_aloadn hG dX12_copy_71 rfl ?_
          refine pm_iloadn hG dX12_copy_72 rfl ?_
          refine pm_top (v := nI k4) ek4 ?_
          refine pm_iconst (v := nI 5) hG dX12_copy_73 (by decide) ?_
          refine pm_callV (As := [.int (nI k4), .int (nI 5)]) (rest := [.int (nI 0), .int (nI k8), .int (nI 2), .ref (B + 54)]) hG hR dX12_copy_74 (lkX12_110 _ rfl) okV_X12_its rfl rfl (m_its (d := 2) (e := 6 * k4 + 395) (by omega) (by omega) (by omega)) rfl rfl hdd (Nat.le_refl _) (Nat.le_refl _) (Nat.le_of_ble_eq_true rfl) (pm_ki (fun v25 σ' cnt' hq => ?_))
          obtain ⟨rfl, rfl, rfl⟩ := hq
          refine pm_gen (fun x26 ex26 => ?_)
          refine pm_callV (As := [.int (nI 2), .int (nI k8), .int (nI 0), .int x26]) (rest := []) hG hR dX12_copy_77 (lkX12_128 _ rfl) okV_X12_newPower rfl rfl (m_newPower_n20 (d := 2) (by decide) hn hr hz (by omega) ek1 (by omega)) rfl rfl hdd (Nat.le_refl _) (Nat.le_refl _) (by decide) (pm_ki (fun v27 σ' cnt' hq => ?_))
          obtain ⟨⟨n_28, rfl, hn28, hr28⟩, rfl⟩ := hq
          exact pm_iret hG hF dX12_copy_80 rfl (Nat.le_refl _) (Nat.le_refl _) ⟨_, rfl, ⟨_, _, _, rfl, hn28, hr28⟩, rfl⟩
        · refine pm_aloadn hG dX12_copy_55 rfl ?_
          refine pm_iconst (v := nI 4) hG dX12_copy_56 (by decide) ?_
          refine pm_callV (As := [.int (nI 4)]) (rest := []) hG hR dX12_copy_57 (lkX12_80 _ rfl) okV_X12_finds rfl rfl (m_finds (d := 2) (by decide) hn hz (by omega)) rfl rfl hdd (Nat.le_refl _) (Nat.le_refl _) (by decide) (pm_ki (fun v29 σ' cnt' hq => ?_))
          obtain ⟨⟨I30, A30, rfl⟩, rfl, fv29⟩ := hq
          refine pm_goto (tgt := 80) hG dX12_copy_60 rfl ?_
          exact pm_iret hG hF dX12_copy_80 rfl (Nat.le_refl _) (Nat.le_refl _) ⟨_, rfl, ⟨_, _, _, rfl, hn, hr⟩, rfl⟩
    · refine pm_aloadn hG dX12_copy_24 rfl ?_
      refine pm_iconst (v := nI 5) hG dX12_copy_25 (by decide) ?_
      refine pm_callV (As := [.int (nI 5)]) (rest := []) hG hR dX12_copy_26 (lkX12_80 _ rfl) okV_X12_finds rfl rfl (m_finds (d := 2) (by decide) hn hz (by omega)) rfl rfl hdd (Nat.le_refl _) (Nat.le_refl _) (by decide) (pm_ki (fun v31 σ' cnt' hq => ?_))
      obtain ⟨⟨I32, A32, rfl⟩, rfl, fv31⟩ := hq
      exact pm_iret hG hF dX12_copy_29 rfl (Nat.le_refl _) (Nat.le_refl _) ⟨_, rfl, ⟨_, _, _, rfl, hn, hr⟩, rfl⟩
  · refine pm_ifN_ne (tgt := 14) hG dX12_copy_5 rfl (by omega) (fun q => absurd q (by omega)) (fun _ => ?_)
    refine pm_aloadn hG dX12_copy_8 rfl ?_
    refine pm_iconst (v := nI 1) hG dX12_copy_9 (by decide) ?_
    refine pm_callV (As := [.int (nI 1)]) (rest := []) hG hR dX12_copy_10 (lkX12_80 _ rfl) okV_X12_finds rfl rfl (m_finds (d := 2) (by decide) hn hz (by omega)) rfl rfl hdd (Nat.le_refl _) (Nat.le_refl _) (by decide) (pm_ki (fun v33 σ' cnt' hq => ?_))
    obtain ⟨⟨I34, A34, rfl⟩, rfl, fv33⟩ := hq
    exact pm_iret hG hF dX12_copy_13 rfl (Nat.le_refl _) (Nat.le_refl _) ⟨_, rfl, ⟨_, _, _, rfl, hn, hr⟩, rfl⟩
