set_option maxRecDepth 100000 in
set_option maxHeartbeats 4000000 in
theorem m_men {d B cnt p0 t0 : Nat} {σ : pm_S} {I : Nat → Int32} {A : Nat → Nat → Int32} {n k z : Nat → Int32} {ac wt pl im : Int32} {y : Nat → Int32} {za zb : Int32} (hdd : 2 ≤ d) (hn : KI n) (hr : NR n) (hz : SZ z)  : pm_met mX12_men d 0 0 B [.ref (B + 54), .int za, .int zb] cnt (pm_mid σ (md_L B I A n k z ac wt pl (nI p0) (nI t0) im y)) (pm_Qi (fun v σ' cnt' => (∃ (I' : Nat → Int32) (A' : Nat → Nat → Int32) (n' : Nat → Int32), σ' = pm_mid σ (md_L B I' A' n' k z ac wt pl (nI p0) (nI t0) im y) ∧ KI n' ∧ NR n') ∧ cnt = cnt')) := by
  refine pm_enter 0 (by decide) (Nat.le_of_ble_eq_true rfl) rfl (fun G hG hR hF => ?_)
  refine pm_aloadn hG dX12_men_0 rfl ?_
  refine pm_iloadn hG dX12_men_1 rfl ?_
  obtain ⟨k1, hk1, ek1⟩ := KI.nat hn (show kd 2 = (1, 21, true) by decide)
  refine pm_callV (As := [.int za]) (rest := []) hG hR dX12_men_2 (lkX12_91 _ rfl) okV_X12_isPerson rfl rfl (m_isPerson (d := 1) (by decide) ek1 (by omega)) rfl rfl hdd (Nat.le_refl _) (Nat.le_refl _) (by decide) (pm_ki (fun v2 σ' cnt' hq => ?_))
  obtain ⟨hq, rfl, rfl⟩ := hq
  rcases hq with ⟨rfl, k4, hk4, ek4⟩ | rfl
  · refine pm_ifN_eq (tgt := 19) hG dX12_men_5 rfl (by omega) (fun q => absurd q (by omega)) (fun _ => ?_)
    refine pm_iloadn hG dX12_men_8 rfl ?_
    refine pm_bipush (v := (-99)) hG dX12_men_9 (by decide) ?_
    refine pm_bipush (v := nI 99) hG dX12_men_11 (by decide) ?_
    refine pm_callS (As := [.int zb, .int (-99), .int (nI 99)]) (rest := []) hG hR dX12_men_13 (lkX12_68 _ rfl) okS_X12_in (m_in (d := 1)) rfl rfl hdd (Nat.le_refl _) (Nat.le_refl _) (by decide) (pm_ki (fun v5 σ' cnt' hq => ?_))
    obtain ⟨hq, rfl, rfl⟩ := hq
    rcases hq with ⟨rfl, ac6, bc6⟩ | ⟨rfl, c6⟩
    · refine pm_ifN_ne (tgt := 25) hG dX12_men_16 rfl (by omega) (fun _ => ?_) (fun q => absurd q (by omega))
      refine pm_aloadn hG dX12_men_25 rfl ?_
      refine pm_iloadn hG dX12_men_26 rfl ?_
      refine pm_top (v := nI k4) ek4 ?_
      rcases KI.opt hn (show kd (14 * k4 + 119) = (2, 2001, false) from (kd_P (k := k4) (c := 9) (by omega) (by omega) (by decide))) with ek7 | ⟨k7, hk7, ek7⟩
      · refine pm_callV (As := [.int (nI k4)]) (rest := []) hG hR dX12_men_27 (lkX12_101 _ rfl) okV_X12_lives rfl rfl (m_lives1 (d := 1) (by decide) (by omega) (by omega : 14 * k4 + 119 = 14 * k4 + 119) ek7) rfl rfl hdd (Nat.le_refl _) (Nat.le_refl _) (by decide) (pm_ki (fun v8 σ' cnt' hq => ?_))
        obtain ⟨rfl, rfl, rfl⟩ := hq
        refine pm_ifN_ne (tgt := 39) hG dX12_men_30 rfl (by omega) (fun _ => ?_) (fun q => absurd q (by omega))
        refine pm_aloadn hG dX12_men_39 rfl ?_
        refine pm_iloadn hG dX12_men_40 rfl ?_
        refine pm_top (v := nI k4) ek4 ?_
        refine pm_bipush (v := nI 8) hG dX12_men_41 (by decide) ?_
        refine pm_callV (As := [.int (nI k4), .int (nI 8)]) (rest := []) hG hR dX12_men_43 (lkX12_72 _ rfl) okV_X12_man rfl rfl (m_man (d := 1) (e := 14 * k4 + 118) (by omega) (by omega) (by omega)) rfl rfl hdd (Nat.le_refl _) (Nat.le_refl _) (by decide) (pm_ki (fun v9 σ' cnt' hq => ?_))
        obtain ⟨rfl, rfl, rfl⟩ := hq
        refine pm_gen (fun x10 ex10 => ?_)
        refine pm_iloadn hG dX12_men_46 rfl ?_
        refine pm_iadd hG dX12_men_47 ?_
        refine pm_iconst (v := nI 0) hG dX12_men_48 (by decide) ?_
        refine pm_sipush (v := nI 999) hG dX12_men_49 (by decide) ?_
        refine pm_callS (As := [.int (x10 + zb), .int (nI 0), .int (nI 999)]) (rest := []) hG hR dX12_men_52 (lkX12_68 _ rfl) okS_X12_in (m_in (d := 1)) rfl rfl hdd (Nat.le_refl _) (Nat.le_refl _) (by decide) (pm_ki (fun v11 σ' cnt' hq => ?_))
        obtain ⟨hq, rfl, rfl⟩ := hq
        rcases hq with ⟨rfl, ac12, bc12⟩ | ⟨rfl, c12⟩
        · obtain ⟨k13, hk13, ek13⟩ := in_nat (by omega) (by omega) ac12 bc12
          refine pm_ifN_ne (tgt := 64) hG dX12_men_55 rfl (by omega) (fun _ => ?_) (fun q => absurd q (by omega))
          refine pm_aloadn hG dX12_men_64 rfl ?_
          refine pm_iloadn hG dX12_men_65 rfl ?_
          refine pm_top (v := nI k4) ek4 ?_
          refine pm_bipush (v := nI 8) hG dX12_men_66 (by decide) ?_
          refine pm_aloadn hG dX12_men_68 rfl ?_
          refine pm_iloadn hG dX12_men_69 rfl ?_
          refine pm_top (v := nI k4) ek4 ?_
          refine pm_bipush (v := nI 8) hG dX12_men_70 (by decide) ?_
          refine pm_callV (As := [.int (nI k4), .int (nI 8)]) (rest := [.int (nI 8), .int (nI k4), .ref (B + 54)]) hG hR dX12_men_72 (lkX12_72 _ rfl) okV_X12_man rfl rfl (m_man (d := 1) (e := 14 * k4 + 118) (by omega) (by omega) (by omega)) rfl rfl hdd (Nat.le_refl _) (Nat.le_refl _) (Nat.le_of_ble_eq_true rfl) (pm_ki (fun v14 σ' cnt' hq => ?_))
          obtain ⟨rfl, rfl, rfl⟩ := hq
          refine pm_top (v := x10) ex10 ?_
          refine pm_iloadn hG dX12_men_75 rfl ?_
          refine pm_iadd hG dX12_men_76 ?_
          refine pm_top (v := nI k13) ek13 ?_
          refine pm_callV (As := [.int (nI k4), .int (nI 8), .int (nI k13)]) (rest := []) hG hR dX12_men_77 (lkX12_97 _ rfl) okV_X12_sets rfl rfl (m_sets (d := 1) (e := 14 * k4 + 118) (by omega) (by omega) (by omega)) rfl rfl hdd (Nat.le_refl _) (Nat.le_refl _) (by decide) (pm_kv (fun σ' cnt' hq => ?_))
          obtain ⟨rfl, rfl⟩ := hq
          obtain ⟨n_15, en_15⟩ : ∃ f : Nat → Int32, f = upd n (14 * k4 + 118) (nI k13) := ⟨_, rfl⟩
          rw [← en_15]
          have hnn_15 := KI.w en_15 hn (okv_f (show kd (14 * k4 + 118) = (0, 0, false) from (kd_P (k := k4) (c := 8) (by omega) (by omega) (by decide))))
          have hrn_15 := NRx.w en_15 hr (by rw [(show kd (14 * k4 + 118) = (0, 0, false) from (kd_P (k := k4) (c := 8) (by omega) (by omega) (by decide)))])
          have e16 : n_15 2 = nI k1 := by rw [en_15, pk_un (by omega)]; exact ek1
          have e17 : n_15 (14 * k4 + 119) = (-1) := by rw [en_15, pk_un (by omega)]; exact ek7
          have e18 : n_15 (14 * k4 + 118) = nI k13 := by rw [en_15, pk_us]
          refine pm_aloadn hG dX12_men_80 rfl ?_
          refine pm_iloadn hG dX12_men_81 rfl ?_
          refine pm_top (v := nI k4) ek4 ?_
          refine pm_bipush (v := nI 8) hG dX12_men_82 (by decide) ?_
          refine pm_callV (As := [.int (nI k4), .int (nI 8)]) (rest := []) hG hR dX12_men_84 (lkX12_72 _ rfl) okV_X12_man rfl rfl (m_man (d := 1) (e := 14 * k4 + 118) (by omega) (by omega) (by omega)) rfl rfl hdd (Nat.le_refl _) (Nat.le_refl _) (by decide) (pm_ki (fun v19 σ' cnt' hq => ?_))
          obtain ⟨rfl, rfl, rfl⟩ := hq
          refine pm_top (v := nI k13) e18 ?_
          exact pm_iret hG hF dX12_men_87 rfl (Nat.le_refl _) (Nat.le_refl _) ⟨_, rfl, ⟨_, _, _, rfl, hnn_15, hrn_15⟩, rfl⟩
        · refine pm_ifN_ne (tgt := 64) hG dX12_men_55 rfl (by omega) (fun q => absurd q (by omega)) (fun _ => ?_)
          refine pm_aloadn hG dX12_men_58 rfl ?_
          refine pm_iconst (v := nI 1) hG dX12_men_59 (by decide) ?_
          refine pm_callV (As := [.int (nI 1)]) (rest := []) hG hR dX12_men_60 (lkX12_80 _ rfl) okV_X12_finds rfl rfl (m_finds (d := 1) (by decide) hn hz (by omega)) rfl rfl hdd (Nat.le_refl _) (Nat.le_refl _) (by decide) (pm_ki (fun v20 σ' cnt' hq => ?_))
          obtain ⟨⟨I21, A21, rfl⟩, rfl, fv20⟩ := hq
          exact pm_iret hG hF dX12_men_63 rfl (Nat.le_refl _) (Nat.le_refl _) ⟨_, rfl, ⟨_, _, _, rfl, hn, hr⟩, rfl⟩
      · refine pm_callV (As := [.int (nI k4)]) (rest := []) hG hR dX12_men_27 (lkX12_101 _ rfl) okV_X12_lives rfl rfl (m_lives0 (d := 1) (by decide) (by omega) (by omega : 14 * k4 + 119 = 14 * k4 + 119) ek7 (by omega)) rfl rfl hdd (Nat.le_refl _) (Nat.le_refl _) (by decide) (pm_ki (fun v22 σ' cnt' hq => ?_))
        obtain ⟨rfl, rfl, rfl⟩ := hq
        refine pm_ifN_ne (tgt := 39) hG dX12_men_30 rfl (by omega) (fun q => absurd q (by omega)) (fun _ => ?_)
        refine pm_aloadn hG dX12_men_33 rfl ?_
        refine pm_iconst (v := nI 3) hG dX12_men_34 (by decide) ?_
        refine pm_callV (As := [.int (nI 3)]) (rest := []) hG hR dX12_men_35 (lkX12_80 _ rfl) okV_X12_finds rfl rfl (m_finds (d := 1) (by decide) hn hz (by omega)) rfl rfl hdd (Nat.le_refl _) (Nat.le_refl _) (by decide) (pm_ki (fun v23 σ' cnt' hq => ?_))
        obtain ⟨⟨I24, A24, rfl⟩, rfl, fv23⟩ := hq
        exact pm_iret hG hF dX12_men_38 rfl (Nat.le_refl _) (Nat.le_refl _) ⟨_, rfl, ⟨_, _, _, rfl, hn, hr⟩, rfl⟩
    · refine pm_ifN_ne (tgt := 25) hG dX12_men_16 rfl (by omega) (fun q => absurd q (by omega)) (fun _ => ?_)
      refine pm_aloadn hG dX12_men_19 rfl ?_
      refine pm_iconst (v := nI 1) hG dX12_men_20 (by decide) ?_
      refine pm_callV (As := [.int (nI 1)]) (rest := []) hG hR dX12_men_21 (lkX12_80 _ rfl) okV_X12_finds rfl rfl (m_finds (d := 1) (by decide) hn hz (by omega)) rfl rfl hdd (Nat.le_refl _) (Nat.le_refl _) (by decide) (pm_ki (fun v25 σ' cnt' hq => ?_))
      obtain ⟨⟨I26, A26, rfl⟩, rfl, fv25⟩ := hq
      exact pm_iret hG hF dX12_men_24 rfl (Nat.le_refl _) (Nat.le_refl _) ⟨_, rfl, ⟨_, _, _, rfl, hn, hr⟩, rfl⟩
  · refine pm_ifN_eq (tgt := 19) hG dX12_men_5 rfl (by omega) (fun _ => ?_) (fun q => absurd q (by omega))
    refine pm_aloadn hG dX12_men_19 rfl ?_
    refine pm_iconst (v := nI 1) hG dX12_men_20 (by decide) ?_
    refine pm_callV (As := [.int (nI 1)]) (rest := []) hG hR dX12_men_21 (lkX12_80 _ rfl) okV_X12_finds rfl rfl (m_finds (d := 1) (by decide) hn hz (by omega)) rfl rfl hdd (Nat.le_refl _) (Nat.le_refl _) (by decide) (pm_ki (fun v27 σ' cnt' hq => ?_))
    obtain ⟨⟨I28, A28, rfl⟩, rfl, fv27⟩ := hq
    exact pm_iret hG hF dX12_men_24 rfl (Nat.le_refl _) (Nat.le_refl _) ⟨_, rfl, ⟨_, _, _, rfl, hn, hr⟩, rfl⟩
