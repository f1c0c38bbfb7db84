set_option maxRecDepth 100000 in
set_option maxHeartbeats 4000000 in
theorem m_men {d B cnt p0 t0 : Nat} {σ : pm_S} {I : Nat → Int32} {A : Nat → Nat → Int32} {n k z : Nat → Int32} {ac wt pl : Int32} {za zb : Int32} (hdd : 2 ≤ d) (hn : KI n) (hr : NR n) (hz : SZ z)  : pm_met mX12_men d 0 0 B [.ref (B + 54), .int za, .int zb] cnt (pm_mid σ (md_L B I A n k z ac wt pl (nI p0) (nI t0))) (pm_Qi (fun v σ' cnt' => (∃ (I' : Nat → Int32) (A' : Nat → Nat → Int32) (n' : Nat → Int32), σ' = pm_mid σ (md_L B I' A' n' k z ac wt pl (nI p0) (nI t0)) ∧ KI n' ∧ NR n') ∧ cnt' = cnt)) := by
  refine pm_enter 0 (by decide) (Nat.le_of_ble_eq_true rfl) rfl (fun G hG hR hF => ?_)
  refine pm_aloadn hG dX12_men_0 rfl ?_
  refine pm_iloadn hG dX12_men_1 rfl ?_
  obtain ⟨k1, hk1, ek1⟩ := KI.nat hn (by decide)
  refine pm_callV (As := [.int za]) (rest := []) hG hR dX12_men_2 (lkX12_91 _ rfl) okV_X12_isPerson rfl rfl (m_isPerson (d := 1) (by decide) ek1 (by omega)) rfl rfl hdd (Nat.le_refl _) (Nat.le_refl _) (by decide) (pm_ki (fun v2 σ' cnt' hq => ?_))
  obtain ⟨hq, rfl, rfl⟩ := hq
  rcases hq with ⟨rfl, k4, hk4, ek4⟩ | rfl
  · refine pm_ifN_eq (tgt := 19) hG dX12_men_5 rfl (by omega) (fun q => absurd q (by omega)) (fun _ => ?_)
    refine pm_iloadn hG dX12_men_8 rfl ?_
    refine pm_bipush (v := (-99)) hG dX12_men_9 (by decide) ?_
    refine pm_bipush (v := nI 99) hG dX12_men_11 (by decide) ?_
    refine pm_callS (As := [.int zb, .int (-99), .int (nI 99)]) (rest := []) hG hR dX12_men_13 (lkX12_68 _ rfl) okS_X12_in (m_in (d := 1)) rfl rfl hdd (Nat.le_refl _) (Nat.le_refl _) (by decide) (pm_ki (fun v5 σ' cnt' hq => ?_))
    obtain ⟨hq, rfl, rfl⟩ := hq
    rcases hq with ⟨rfl, ac6, bc6⟩ | ⟨rfl, c6⟩
    · refine pm_ifN_ne (tgt := 25) hG dX12_men_16 rfl (by omega) (fun _ => ?_) (fun q => absurd q (by omega))
      refine pm_aloadn hG dX12_men_25 rfl ?_
      refine pm_iloadn hG dX12_men_26 rfl ?_
      refine pm_top (v := nI k4) ek4 ?_
      rcases KI.opt hn (kd_P (k := k4) (c := 9) (by omega) (by omega) (by decide)) with ek7 | ⟨k7, hk7, ek7⟩
      · refine pm_callV (As := [.int (nI k4)]) (rest := []) hG hR dX12_men_27 (lkX12_101 _ rfl) okV_X12_lives rfl rfl (m_lives1 (d := 1) (by decide) (by omega) (by omega : 14 * k4 + 119 = 14 * k4 + 119) ek7) rfl rfl hdd (Nat.le_refl _) (Nat.le_refl _) (by decide) (pm_ki (fun v8 σ' cnt' hq => ?_))
        obtain ⟨rfl, rfl, rfl⟩ := hq
        refine pm_ifN_ne (tgt := 39) hG dX12_men_30 rfl (by omega) (fun _ => ?_) (fun q => absurd q (by omega))
        refine pm_aloadn hG dX12_men_39 rfl ?_
        refine pm_iloadn hG dX12_men_40 rfl ?_
        refine pm_top (v := nI k4) ek4 ?_
        refine pm_bipush (v := nI 8) hG dX12_men_41 (by decide) ?_
        refine pm_callV (As := [.int (nI k4), .int (nI 8)]) (rest := []) hG hR dX12_men_43 (lkX12_72 _ rfl) okV_X12_man rfl rfl (m_man (d := 1) (e := 14 * k4 + 118) (by omega) (by omega) (by omega)) rfl rfl hdd (Nat.le_refl _) (Nat.le_refl _) (by decide) (pm_ki (fun v9 σ' cnt' hq => ?_))
        obtain ⟨rfl, rfl, rfl⟩ := hq
        refine pm_gen (fun x10 ex10 => ?_)
        refine pm_iloadn hG dX12_men_46 rfl ?_
        refine pm_iadd hG dX12_men_47 ?_
        refine pm_iconst (v := nI 0) hG dX12_men_48 (by decide) ?_
        refine pm_sipush (v := nI 999) hG dX12_men_49 (by decide) ?_
        refine pm_callS (As := [.int (x10 + zb), .int (nI 0), .int (nI 999)]) (rest := []) hG hR dX12_men_52 (lkX12_68 _ rfl) okS_X12_in (m_in (d := 1)) rfl rfl hdd (Nat.le_refl _) (Nat.le_refl _) (by decide) (pm_ki (fun v11 σ' cnt' hq => ?_))
        obtain ⟨hq, rfl, rfl⟩ := hq
        rcases hq with ⟨rfl, ac12, bc12⟩ | ⟨rfl, c12⟩
        · obtain ⟨k13, hk13, ek13⟩ := in_nat (by omega) (by omega) ac12 bc12
          refine pm_ifN_ne (tgt := 64) hG dX12_men_55 rfl (by omega) (fun _ => ?_) (fun q => absurd q (by omega))
          refine pm_aloadn hG dX12_men_64 rfl ?_
          refine pm_iloadn hG dX12_men_65 rfl ?_
          refine pm_top (v := nI k4) ek4 ?_
          refine pm_bipush (v := nI 8) hG dX12_men_66 (by decide) ?_
          refine pm_aloadn hG dX12_men_68 rfl ?_
          refine pm_iloadn hG dX12_men_69 rfl ?_
          refine pm_top (v := nI k4) ek4 ?_
          refine pm_bipush (v := nI 8) hG dX12_men_70 (by decide) ?_
          refine pm_callV (As := [.int (nI k4), .int (nI 8)]) (rest := [.int (nI 8), .int (nI k4), .ref (B + 54)]) hG hR dX12_men_72 (lkX12_72 _ rfl) okV_X12_man rfl rfl (m_man (d := 1) (e := 14 * k4 + 118) (by omega) (by omega) (by omega)) rfl rfl hdd (Nat.le_refl _) (Nat.le_refl _) (Nat.le_of_ble_eq_true rfl) (pm_ki (fun v14 σ' cnt' hq => ?_))
          obtain ⟨rfl, rfl, rfl⟩ := hq
          refine pm_top (v := x10) ex10 ?_
          refine pm_iloadn hG dX12_men_75 rfl ?_
          refine pm_iadd hG dX12_men_76 ?_
          refine pm_top (v := nI k13) ek13 ?_
          refine pm_callV (As := [.int (nI k4), .int (nI 8), .int (nI k13)]) (rest := []) hG hR dX12_men_77 (lkX12_97 _ rfl) okV_X12_sets rfl rfl (m_sets (d := 1) (e := 14 * k4 + 118) (by omega) (by omega) (by omega)) rfl rfl hdd (Nat.le_refl _) (Nat.le_refl _) (by decide) (pm_kv (fun σ' cnt' hq => ?_))
          obtain ⟨rfl, rfl⟩ := hq
          obtain ⟨n_15, en_15⟩ : ∃ f : Nat → Int32, f = upd n (14 * k4 + 118) (nI k13) := ⟨_, rfl⟩
          rw [← en_15]
          have hnn_15 := KI.w en_15 hn (okv_f (kd_P (k := k4) (c := 8) (by omega) (by omega) (by decide)))
          have hrn_15 := NRx.w en_15 hr (by rw [(kd_P (k := k4) (c := 8) (by omega) (by omega) (by decide))]; rfl)
          have e16 : n_15 2 = nI k1 := by rw [en_15, pk_un (by omega)]; exact ek1
          have e17 : n_15 (14 * k4 + 119) = (-1) := by rw [en_15, pk_un (by omega)]; exact ek7
          have e18 : n_15 (14 * k4 + 118) = nI k13 := by rw [en_15, pk_us]
          refine pm_aloadn hG dX12_men_80 rfl ?_
          refine pm_iloadn hG dX12_men_81 rfl ?_
          refine pm_top (v := nI k4) ek4 ?_
          refine pm_bipush (v := nI 8) hG dX12_men_82 (by decide) ?_
          refine pm_callV (As := [.int (nI k4), .int (nI 8)]) (rest := []) hG hR dX12_men_84 (lkX12_72 _ rfl) okV_X12_man rfl rfl (m_man (d := 1) (e := 14 * k4 + 118) (by omega) (by omega) (by omega)) rfl rfl hdd (Nat.le_refl _) (Nat.le_refl _) (by decide) (pm_ki (fun v19 σ' cnt' hq => ?_))
          obtain ⟨rfl, rfl, rfl⟩ := hq
          refine pm_top (v := nI k13) e18 ?_
          exact pm_iret hG hF dX12_men_87 rfl (Nat.le_refl _) (Nat.le_refl _) ⟨_, rfl, ⟨_, _, _, rfl, hnn_15, hrn_15⟩, rfl⟩
        · refine pm_ifN_ne (tgt := 64) hG dX12_men_55 rfl (by omega) (fun q => absurd q (by omega)) (fun _ => ?_)
          refine pm_aloadn hG dX12_men_58 rfl ?_
          refine pm_iconst (v := nI 1) hG dX12_men_59 (by decide) ?_
          refine pm_callV (As := [.int (nI 1)]) (rest := []) hG hR dX12_men_60 (lkX12_80 _ rfl) okV_X12_finds rfl rfl (m_finds (d := 1) (by decide) hn hz (by omega)) rfl rfl hdd (Nat.le_refl _) (Nat.le_refl _) (by decide) (pm_ki (fun v20 σ' cnt' hq => ?_))
          obtain ⟨⟨I21, A21, rfl⟩, rfl⟩ := hq
          exact pm_iret hG hF dX12_men_63 rfl (Nat.le_refl _) (Nat.le_refl _) ⟨_, rfl, ⟨_, _, _, rfl, hn, hr⟩, rfl⟩
      · refine pm_callV (As := [.int (nI k4)]) (rest := []) hG hR dX12_men_27 (lkX12_101 _ rfl) okV_X12_lives rfl rfl (m_lives0 (d := 1) (by decide) (by omega) (by omega : 14 * k4 + 119 = 14 * k4 + 119) ek7 (by omega)) rfl rfl hdd (Nat.le_refl _) (Nat.le_refl _) (by decide) (pm_ki (fun v22 σ' cnt' hq => ?_))
        obtain ⟨rfl, rfl, rfl⟩ := hq
        refine pm_ifN_ne (tgt := 39) hG dX12_men_30 rfl (by omega) (fun q => absurd q (by omega)) (fun _ => ?_)
        refine pm_aloadn hG dX12_men_33 rfl ?_
        refine pm_iconst (v := nI 3) hG dX12_men_34 (by decide) ?_
        refine pm_callV (As := [.int (nI 3)]) (rest := []) hG hR dX12_men_35 (lkX12_80 _ rfl) okV_X12_finds rfl rfl (m_finds (d := 1) (by decide) hn hz (by omega)) rfl rfl hdd (Nat.le_refl _) (Nat.le_refl _) (by decide) (pm_ki (fun v23 σ' cnt' hq => ?_))
        obtain ⟨⟨I24, A24, rfl⟩, rfl⟩ := hq
        exact pm_iret hG hF dX12_men_38 rfl (Nat.le_refl _) (Nat.le_refl _) ⟨_, rfl, ⟨_, _, _, rfl, hn, hr⟩, rfl⟩
    · refine pm_ifN_ne (tgt := 25) hG dX12_men_16 rfl (by omega) (fun q => absurd q (by omega)) (fun _ => ?_)
      refine pm_aloadn hG dX12_men_19 rfl ?_
      refine pm_iconst (v := nI 1) hG dX12_men_20 (by decide) ?_
      refine pm_callV (As := [.int (nI 1)]) (rest := []) hG hR dX12_men_21 (lkX12_80 _ rfl) okV_X12_finds rfl rfl (m_finds (d := 1) (by decide) hn hz (by omega)) rfl rfl hdd (Nat.le_refl _) (Nat.le_refl _) (by decide) (pm_ki (fun v25 σ' cnt' hq => ?_))
      obtain ⟨⟨I26, A26, rfl⟩, rfl⟩ := hq
      exact pm_iret hG hF dX12_men_24 rfl (Nat.le_refl _) (Nat.le_refl _) ⟨_, rfl, ⟨_, _, _, rfl, hn, hr⟩, rfl⟩
  · refine pm_ifN_eq (tgt := 19) hG dX12_men_5 rfl (by omega) (fun _ => ?_) (fun q => absurd q (by omega))
    refine pm_aloadn hG dX12_men_19 rfl ?_
    refine pm_iconst (v := nI 1) hG dX12_men_20 (by decide) ?_
    refine pm_callV (As := [.int (nI 1)]) (rest := []) hG hR dX12_men_21 (lkX12_80 _ rfl) okV_X12_finds rfl rfl (m_finds (d := 1) (by decide) hn hz (by omega)) rfl rfl hdd (Nat.le_refl _) (Nat.le_refl _) (by decide) (pm_ki (fun v27 σ' cnt' hq => ?_))
    obtain ⟨⟨I28, A28, rfl⟩, rfl⟩ := hq
    exact pm_iret hG hF dX12_men_24 rfl (Nat.le_refl _) (Nat.le_refl _) ⟨_, rfl, ⟨_, _, _, rfl, hn, hr⟩, rfl⟩

set_option maxRecDepth 100000 in
set_option maxHeartbeats 4000000 in
theorem m_nameOf {d B cnt p0 t0 : Nat} {σ : pm_S} {I : Nat → Int32} {A : Nat → Nat → Int32} {n k z : Nat → Int32} {ac wt pl : Int32} {za : Int32} (hdd : 1 ≤ d) (hn : KI n) (hz : SZ z)  : pm_met mX12_nameOf d 0 0 B [.int za] cnt (pm_mid σ (md_L B I A n k z ac wt pl (nI p0) (nI t0))) (pm_Qi (fun v σ' cnt' => σ' = pm_mid σ (md_L B I A n k z ac wt pl (nI p0) (nI t0)) ∧ cnt' = cnt)) := by
  refine pm_enter 0 (by decide) (Nat.le_of_ble_eq_true rfl) rfl (fun G hG hR hF => ?_)
  refine pm_iloadn hG dX12_nameOf_0 rfl ?_
  by_cases c1 : za = nI 97
  · refine pm_top (v := nI 97) c1 ?_
    refine pm_tswIn (tgt := 116) hG dX12_nameOf_1 (by decide) (by decide) rfl rfl ?_
    refine pm_iconst (v := nI 1) hG dX12_nameOf_116 (by decide) ?_
    exact pm_iret hG hF dX12_nameOf_117 rfl (Nat.le_refl _) (Nat.le_refl _) ⟨_, rfl, rfl, rfl⟩
  by_cases c2 : za = nI 98
  · refine pm_top (v := nI 98) c2 ?_
    refine pm_tswIn (tgt := 129) hG dX12_nameOf_1 (by decide) (by decide) rfl rfl ?_
    refine pm_bipush (v := nI 7) hG dX12_nameOf_129 (by decide) ?_
    exact pm_iret hG hF dX12_nameOf_131 rfl (Nat.le_refl _) (Nat.le_refl _) ⟨_, rfl, rfl, rfl⟩
  by_cases c3 : za = nI 99
  · refine pm_top (v := nI 99) c3 ?_
    refine pm_tswIn (tgt := 122) hG dX12_nameOf_1 (by decide) (by decide) rfl rfl ?_
    refine pm_iconst (v := nI 4) hG dX12_nameOf_122 (by decide) ?_
    exact pm_iret hG hF dX12_nameOf_123 rfl (Nat.le_refl _) (Nat.le_refl _) ⟨_, rfl, rfl, rfl⟩
  by_cases c4 : za = nI 100
  · refine pm_top (v := nI 100) c4 ?_
    refine pm_tswIn (tgt := 141) hG dX12_nameOf_1 (by decide) (by decide) rfl rfl ?_
    refine pm_iloadn hG dX12_nameOf_141 rfl ?_
    refine pm_top (v := nI 100) c4 ?_
    refine pm_bipush (v := nI 100) hG dX12_nameOf_142 (by decide) ?_
    refine pm_icmpN_ne (tgt := 152) hG dX12_nameOf_144 rfl (by omega) (by omega) (fun q => absurd q (by omega)) (fun _ => ?_)
    refine pm_bipush (v := nI 11) hG dX12_nameOf_147 (by decide) ?_
    refine pm_goto (tgt := 153) hG dX12_nameOf_149 rfl ?_
    exact pm_iret hG hF dX12_nameOf_153 rfl (Nat.le_refl _) (Nat.le_refl _) ⟨_, rfl, rfl, rfl⟩
  by_cases c5 : za = nI 101
  · refine pm_top (v := nI 101) c5 ?_
    refine pm_tswIn (tgt := 141) hG dX12_nameOf_1 (by decide) (by decide) rfl rfl ?_
    refine pm_iloadn hG dX12_nameOf_141 rfl ?_
    refine pm_top (v := nI 101) c5 ?_
    refine pm_bipush (v := nI 100) hG dX12_nameOf_142 (by decide) ?_
    refine pm_icmpN_ne (tgt := 152) hG dX12_nameOf_144 rfl (by omega) (by omega) (fun _ => ?_) (fun q => absurd q (by omega))
    refine pm_iconst (v := nI 0) hG dX12_nameOf_152 (by decide) ?_
    exact pm_iret hG hF dX12_nameOf_153 rfl (Nat.le_refl _) (Nat.le_refl _) ⟨_, rfl, rfl, rfl⟩
  by_cases c6 : za = nI 102
  · refine pm_top (v := nI 102) c6 ?_
    refine pm_tswIn (tgt := 141) hG dX12_nameOf_1 (by decide) (by decide) rfl rfl ?_
    refine pm_iloadn hG dX12_nameOf_141 rfl ?_
    refine pm_top (v := nI 102) c6 ?_
    refine pm_bipush (v := nI 100) hG dX12_nameOf_142 (by decide) ?_
    refine pm_icmpN_ne (tgt := 152) hG dX12_nameOf_144 rfl (by omega) (by omega) (fun _ => ?_) (fun q => absurd q (by omega))
    refine pm_iconst (v := nI 0) hG dX12_nameOf_152 (by decide) ?_
    exact pm_iret hG hF dX12_nameOf_153 rfl (Nat.le_refl _) (Nat.le_refl _) ⟨_, rfl, rfl, rfl⟩
  by_cases c7 : za = nI 103
  · refine pm_top (v := nI 103) c7 ?_
    refine pm_tswIn (tgt := 141) hG dX12_nameOf_1 (by decide) (by decide) rfl rfl ?_
    refine pm_iloadn hG dX12_nameOf_141 rfl ?_
    refine pm_top (v := nI 103) c7 ?_
    refine pm_bipush (v := nI 100) hG dX12_nameOf_142 (by decide) ?_
    refine pm_icmpN_ne (tgt := 152) hG dX12_nameOf_144 rfl (by omega) (by omega) (fun _ => ?_) (fun q => absurd q (by omega))
    refine pm_iconst (v := nI 0) hG dX12_nameOf_152 (by decide) ?_
    exact pm_iret hG hF dX12_nameOf_153 rfl (Nat.le_refl _) (Nat.le_refl _) ⟨_, rfl, rfl, rfl⟩
  by_cases c8 : za = nI 104
  · refine pm_top (v := nI 104) c8 ?_
    refine pm_tswIn (tgt := 141) hG dX12_nameOf_1 (by decide) (by decide) rfl rfl ?_
    refine pm_iloadn hG dX12_nameOf_141 rfl ?_
    refine pm_top (v := nI 104) c8 ?_
    refine pm_bipush (v := nI 100) hG dX12_nameOf_142 (by decide) ?_
    refine pm_icmpN_ne (tgt := 152) hG dX12_nameOf_144 rfl (by omega) (by omega) (fun _ => ?_) (fun q => absurd q (by omega))
    refine pm_iconst (v := nI 0) hG dX12_nameOf_152 (by decide) ?_
    exact pm_iret hG hF dX12_nameOf_153 rfl (Nat.le_refl _) (Nat.le_refl _) ⟨_, rfl, rfl, rfl⟩
  by_cases c9 : za = nI 105
  · refine pm_top (v := nI 105) c9 ?_
    refine pm_tswIn (tgt := 141) hG dX12_nameOf_1 (by decide) (by decide) rfl rfl ?_
    refine pm_iloadn hG dX12_nameOf_141 rfl ?_
    refine pm_top (v := nI 105) c9 ?_
    refine pm_bipush (v := nI 100) hG dX12_nameOf_142 (by decide) ?_
    refine pm_icmpN_ne (tgt := 152) hG dX12_nameOf_144 rfl (by omega) (by omega) (fun _ => ?_) (fun q => absurd q (by omega))
    refine pm_iconst (v := nI 0) hG dX12_nameOf_152 (by decide) ?_
    exact pm_iret hG hF dX12_nameOf_153 rfl (Nat.le_refl _) (Nat.le_refl _) ⟨_, rfl, rfl, rfl⟩
  by_cases c10 : za = nI 106
  · refine pm_top (v := nI 106) c10 ?_
    refine pm_tswIn (tgt := 141) hG dX12_nameOf_1 (by decide) (by decide) rfl rfl ?_
    refine pm_iloadn hG dX12_nameOf_141 rfl ?_
    refine pm_top (v := nI 106) c10 ?_
    refine pm_bipush (v := nI 100) hG dX12_nameOf_142 (by decide) ?_
    refine pm_icmpN_ne (tgt := 152) hG dX12_nameOf_144 rfl (by omega) (by omega) (fun _ => ?_) (fun q => absurd q (by omega))
    refine pm_iconst (v := nI 0) hG dX12_nameOf_152 (by decide) ?_
    exact pm_iret hG hF dX12_nameOf_153 rfl (Nat.le_refl _) (Nat.le_refl _) ⟨_, rfl, rfl, rfl⟩
  by_cases c11 : za = nI 107
  · refine pm_top (v := nI 107) c11 ?_
    refine pm_tswIn (tgt := 120) hG dX12_nameOf_1 (by decide) (by decide) rfl rfl ?_
    refine pm_iconst (v := nI 3) hG dX12_nameOf_120 (by decide) ?_
    exact pm_iret hG hF dX12_nameOf_121 rfl (Nat.le_refl _) (Nat.le_refl _) ⟨_, rfl, rfl, rfl⟩
  by_cases c12 : za = nI 108
  · refine pm_top (v := nI 108) c12 ?_
    refine pm_tswIn (tgt := 141) hG dX12_nameOf_1 (by decide) (by decide) rfl rfl ?_
    refine pm_iloadn hG dX12_nameOf_141 rfl ?_
    refine pm_top (v := nI 108) c12 ?_
    refine pm_bipush (v := nI 100) hG dX12_nameOf_142 (by decide) ?_
    refine pm_icmpN_ne (tgt := 152) hG dX12_nameOf_144 rfl (by omega) (by omega) (fun _ => ?_) (fun q => absurd q (by omega))
    refine pm_iconst (v := nI 0) hG dX12_nameOf_152 (by decide) ?_
    exact pm_iret hG hF dX12_nameOf_153 rfl (Nat.le_refl _) (Nat.le_refl _) ⟨_, rfl, rfl, rfl⟩
  by_cases c13 : za = nI 109
  · refine pm_top (v := nI 109) c13 ?_
    refine pm_tswIn (tgt := 124) hG dX12_nameOf_1 (by decide) (by decide) rfl rfl ?_
    refine pm_iconst (v := nI 5) hG dX12_nameOf_124 (by decide) ?_
    exact pm_iret hG hF dX12_nameOf_125 rfl (Nat.le_refl _) (Nat.le_refl _) ⟨_, rfl, rfl, rfl⟩
  by_cases c14 : za = nI 110
  · refine pm_top (v := nI 110) c14 ?_
    refine pm_tswIn (tgt := 141) hG dX12_nameOf_1 (by decide) (by decide) rfl rfl ?_
    refine pm_iloadn hG dX12_nameOf_141 rfl ?_
    refine pm_top (v := nI 110) c14 ?_
    refine pm_bipush (v := nI 100) hG dX12_nameOf_142 (by decide) ?_
    refine pm_icmpN_ne (tgt := 152) hG dX12_nameOf_144 rfl (by omega) (by omega) (fun _ => ?_) (fun q => absurd q (by omega))
    refine pm_iconst (v := nI 0) hG dX12_nameOf_152 (by decide) ?_
    exact pm_iret hG hF dX12_nameOf_153 rfl (Nat.le_refl _) (Nat.le_refl _) ⟨_, rfl, rfl, rfl⟩
  by_cases c15 : za = nI 111
  · refine pm_top (v := nI 111) c15 ?_
    refine pm_tswIn (tgt := 135) hG dX12_nameOf_1 (by decide) (by decide) rfl rfl ?_
    refine pm_bipush (v := nI 9) hG dX12_nameOf_135 (by decide) ?_
    exact pm_iret hG hF dX12_nameOf_137 rfl (Nat.le_refl _) (Nat.le_refl _) ⟨_, rfl, rfl, rfl⟩
  by_cases c16 : za = nI 112
  · refine pm_top (v := nI 112) c16 ?_
    refine pm_tswIn (tgt := 141) hG dX12_nameOf_1 (by decide) (by decide) rfl rfl ?_
    refine pm_iloadn hG dX12_nameOf_141 rfl ?_
    refine pm_top (v := nI 112) c16 ?_
    refine pm_bipush (v := nI 100) hG dX12_nameOf_142 (by decide) ?_
    refine pm_icmpN_ne (tgt := 152) hG dX12_nameOf_144 rfl (by omega) (by omega) (fun _ => ?_) (fun q => absurd q (by omega))
    refine pm_iconst (v := nI 0) hG dX12_nameOf_152 (by decide) ?_
    exact pm_iret hG hF dX12_nameOf_153 rfl (Nat.le_refl _) (Nat.le_refl _) ⟨_, rfl, rfl, rfl⟩
  by_cases c17 : za = nI 113
  · refine pm_top (v := nI 113) c17 ?_
    refine pm_tswIn (tgt := 141) hG dX12_nameOf_1 (by decide) (by decide) rfl rfl ?_
    refine pm_iloadn hG dX12_nameOf_141 rfl ?_
    refine pm_top (v := nI 113) c17 ?_
    refine pm_bipush (v := nI 100) hG dX12_nameOf_142 (by decide) ?_
    refine pm_icmpN_ne (tgt := 152) hG dX12_nameOf_144 rfl (by omega) (by omega) (fun _ => ?_) (fun q => absurd q (by omega))
    refine pm_iconst (v := nI 0) hG dX12_nameOf_152 (by decide) ?_
    exact pm_iret hG hF dX12_nameOf_153 rfl (Nat.le_refl _) (Nat.le_refl _) ⟨_, rfl, rfl, rfl⟩
  by_cases c18 : za = nI 114
  · refine pm_top (v := nI 114) c18 ?_
    refine pm_tswIn (tgt := 141) hG dX12_nameOf_1 (by decide) (by decide) rfl rfl ?_
    refine pm_iloadn hG dX12_nameOf_141 rfl ?_
    refine pm_top (v := nI 114) c18 ?_
    refine pm_bipush (v := nI 100) hG dX12_nameOf_142 (by decide) ?_
    refine pm_icmpN_ne (tgt := 152) hG dX12_nameOf_144 rfl (by omega) (by omega) (fun _ => ?_) (fun q => absurd q (by omega))
    refine pm_iconst (v := nI 0) hG dX12_nameOf_152 (by decide) ?_
    exact pm_iret hG hF dX12_nameOf_153 rfl (Nat.le_refl _) (Nat.le_refl _) ⟨_, rfl, rfl, rfl⟩
  by_cases c19 : za = nI 115
  · refine pm_top (v := nI 115) c19 ?_
    refine pm_tswIn (tgt := 118) hG dX12_nameOf_1 (by decide) (by decide) rfl rfl ?_
    refine pm_iconst (v := nI 2) hG dX12_nameOf_118 (by decide) ?_
    exact pm_iret hG hF dX12_nameOf_119 rfl (Nat.le_refl _) (Nat.le_refl _) ⟨_, rfl, rfl, rfl⟩
  by_cases c20 : za = nI 116
  · refine pm_top (v := nI 116) c20 ?_
    refine pm_tswIn (tgt := 126) hG dX12_nameOf_1 (by decide) (by decide) rfl rfl ?_
    refine pm_bipush (v := nI 6) hG dX12_nameOf_126 (by decide) ?_
    exact pm_iret hG hF dX12_nameOf_128 rfl (Nat.le_refl _) (Nat.le_refl _) ⟨_, rfl, rfl, rfl⟩
  by_cases c21 : za = nI 117
  · refine pm_top (v := nI 117) c21 ?_
    refine pm_tswIn (tgt := 141) hG dX12_nameOf_1 (by decide) (by decide) rfl rfl ?_
    refine pm_iloadn hG dX12_nameOf_141 rfl ?_
    refine pm_top (v := nI 117) c21 ?_
    refine pm_bipush (v := nI 100) hG dX12_nameOf_142 (by decide) ?_
    refine pm_icmpN_ne (tgt := 152) hG dX12_nameOf_144 rfl (by omega) (by omega) (fun _ => ?_) (fun q => absurd q (by omega))
    refine pm_iconst (v := nI 0) hG dX12_nameOf_152 (by decide) ?_
    exact pm_iret hG hF dX12_nameOf_153 rfl (Nat.le_refl _) (Nat.le_refl _) ⟨_, rfl, rfl, rfl⟩
  by_cases c22 : za = nI 118
  · refine pm_top (v := nI 118) c22 ?_
    refine pm_tswIn (tgt := 141) hG dX12_nameOf_1 (by decide) (by decide) rfl rfl ?_
    refine pm_iloadn hG dX12_nameOf_141 rfl ?_
    refine pm_top (v := nI 118) c22 ?_
    refine pm_bipush (v := nI 100) hG dX12_nameOf_142 (by decide) ?_
    refine pm_icmpN_ne (tgt := 152) hG dX12_nameOf_144 rfl (by omega) (by omega) (fun _ => ?_) (fun q => absurd q (by omega))
    refine pm_iconst (v := nI 0) hG dX12_nameOf_152 (by decide) ?_
    exact pm_iret hG hF dX12_nameOf_153 rfl (Nat.le_refl _) (Nat.le_refl _) ⟨_, rfl, rfl, rfl⟩
  by_cases c23 : za = nI 119
  · refine pm_top (v := nI 119) c23 ?_
    refine pm_tswIn (tgt := 138) hG dX12_nameOf_1 (by decide) (by decide) rfl rfl ?_
    refine pm_bipush (v := nI 10) hG dX12_nameOf_138 (by decide) ?_
    exact pm_iret hG hF dX12_nameOf_140 rfl (Nat.le_refl _) (Nat.le_refl _) ⟨_, rfl, rfl, rfl⟩
  by_cases c24 : za = nI 120
  · refine pm_top (v := nI 120) c24 ?_
    refine pm_tswIn (tgt := 141) hG dX12_nameOf_1 (by decide) (by decide) rfl rfl ?_
    refine pm_iloadn hG dX12_nameOf_141 rfl ?_
    refine pm_top (v := nI 120) c24 ?_
    refine pm_bipush (v := nI 100) hG dX12_nameOf_142 (by decide) ?_
    refine pm_icmpN_ne (tgt := 152) hG dX12_nameOf_144 rfl (by omega) (by omega) (fun _ => ?_) (fun q => absurd q (by omega))
    refine pm_iconst (v := nI 0) hG dX12_nameOf_152 (by decide) ?_
    exact pm_iret hG hF dX12_nameOf_153 rfl (Nat.le_refl _) (Nat.le_refl _) ⟨_, rfl, rfl, rfl⟩
  by_cases c25 : za = nI 121
  · refine pm_top (v := nI 121) c25 ?_
    refine pm_tswIn (tgt := 132) hG dX12_nameOf_1 (by decide) (by decide) rfl rfl ?_
    refine pm_bipush (v := nI 8) hG dX12_nameOf_132 (by decide) ?_
    exact pm_iret hG hF dX12_nameOf_134 rfl (Nat.le_refl _) (Nat.le_refl _) ⟨_, rfl, rfl, rfl⟩
  have tc1 : ¬ za.toInt = 97 := fun q => c1 (Int32.toInt_inj.mp (q.trans (by decide)))
  have tc2 : ¬ za.toInt = 98 := fun q => c2 (Int32.toInt_inj.mp (q.trans (by decide)))
  have tc3 : ¬ za.toInt = 99 := fun q => c3 (Int32.toInt_inj.mp (q.trans (by decide)))
  have tc4 : ¬ za.toInt = 100 := fun q => c4 (Int32.toInt_inj.mp (q.trans (by decide)))
  have tc5 : ¬ za.toInt = 101 := fun q => c5 (Int32.toInt_inj.mp (q.trans (by decide)))
  have tc6 : ¬ za.toInt = 102 := fun q => c6 (Int32.toInt_inj.mp (q.trans (by decide)))
  have tc7 : ¬ za.toInt = 103 := fun q => c7 (Int32.toInt_inj.mp (q.trans (by decide)))
  have tc8 : ¬ za.toInt = 104 := fun q => c8 (Int32.toInt_inj.mp (q.trans (by decide)))
  have tc9 : ¬ za.toInt = 105 := fun q => c9 (Int32.toInt_inj.mp (q.trans (by decide)))
  have tc10 : ¬ za.toInt = 106 := fun q => c10 (Int32.toInt_inj.mp (q.trans (by decide)))
  have tc11 : ¬ za.toInt = 107 := fun q => c11 (Int32.toInt_inj.mp (q.trans (by decide)))
  have tc12 : ¬ za.toInt = 108 := fun q => c12 (Int32.toInt_inj.mp (q.trans (by decide)))
  have tc13 : ¬ za.toInt = 109 := fun q => c13 (Int32.toInt_inj.mp (q.trans (by decide)))
  have tc14 : ¬ za.toInt = 110 := fun q => c14 (Int32.toInt_inj.mp (q.trans (by decide)))
  have tc15 : ¬ za.toInt = 111 := fun q => c15 (Int32.toInt_inj.mp (q.trans (by decide)))
  have tc16 : ¬ za.toInt = 112 := fun q => c16 (Int32.toInt_inj.mp (q.trans (by decide)))
  have tc17 : ¬ za.toInt = 113 := fun q => c17 (Int32.toInt_inj.mp (q.trans (by decide)))
  have tc18 : ¬ za.toInt = 114 := fun q => c18 (Int32.toInt_inj.mp (q.trans (by decide)))
  have tc19 : ¬ za.toInt = 115 := fun q => c19 (Int32.toInt_inj.mp (q.trans (by decide)))
  have tc20 : ¬ za.toInt = 116 := fun q => c20 (Int32.toInt_inj.mp (q.trans (by decide)))
  have tc21 : ¬ za.toInt = 117 := fun q => c21 (Int32.toInt_inj.mp (q.trans (by decide)))
  have tc22 : ¬ za.toInt = 118 := fun q => c22 (Int32.toInt_inj.mp (q.trans (by decide)))
  have tc23 : ¬ za.toInt = 119 := fun q => c23 (Int32.toInt_inj.mp (q.trans (by decide)))
  have tc24 : ¬ za.toInt = 120 := fun q => c24 (Int32.toInt_inj.mp (q.trans (by decide)))
  have tc25 : ¬ za.toInt = 121 := fun q => c25 (Int32.toInt_inj.mp (q.trans (by decide)))
  refine pm_tswOut (tgt := 141) hG dX12_nameOf_1 (by omega) rfl ?_
  refine pm_iloadn hG dX12_nameOf_141 rfl ?_
  refine pm_bipush (v := nI 100) hG dX12_nameOf_142 (by decide) ?_
  refine pm_icmp_ne (tgt := 152) hG dX12_nameOf_144 rfl (fun c26 => ?_) (fun c26 => ?_)
  · refine pm_iconst (v := nI 0) hG dX12_nameOf_152 (by decide) ?_
    exact pm_iret hG hF dX12_nameOf_153 rfl (Nat.le_refl _) (Nat.le_refl _) ⟨_, rfl, rfl, rfl⟩
  · refine pm_bipush (v := nI 11) hG dX12_nameOf_147 (by decide) ?_
    refine pm_goto (tgt := 153) hG dX12_nameOf_149 rfl ?_
    exact pm_iret hG hF dX12_nameOf_153 rfl (Nat.le_refl _) (Nat.le_refl _) ⟨_, rfl, rfl, rfl⟩

set_option maxRecDepth 100000 in
set_option maxHeartbeats 4000000 in
theorem m_owed {d B cnt p0 t0 : Nat} {σ : pm_S} {I : Nat → Int32} {A : Nat → Nat → Int32} {n k z : Nat → Int32} {ac wt pl : Int32} {za zb : Int32} (hdd : 2 ≤ d) (hn : KI n) (hz : SZ z)  : pm_met mX12_owed d 0 0 B [.ref (B + 54), .int za, .int zb] cnt (pm_mid σ (md_L B I A n k z ac wt pl (nI p0) (nI t0))) (pm_Qi (fun v σ' cnt' => (∃ (I' : Nat → Int32) (A' : Nat → Nat → Int32), σ' = pm_mid σ (md_L B I' A' n k z ac wt pl (nI p0) (nI t0))) ∧ cnt' = cnt)) := by
  refine pm_enter 3 (by decide) (Nat.le_of_ble_eq_true rfl) rfl (fun G hG hR hF => ?_)
  refine pm_iloadn hG dX12_owed_0 rfl ?_
  refine pm_iconst (v := nI 0) hG dX12_owed_1 (by decide) ?_
  refine pm_aloadn hG dX12_owed_2 rfl ?_
  refine pm_getf hG dX12_owed_3 (flX12_7 _ rfl) rfl rfl ?_
  refine pm_bipush (v := nI 6) hG dX12_owed_6 (by decide) ?_
  refine pm_ialdN hG dX12_owed_8 rfl (by decide) (by omega) ?_
  obtain ⟨k1, hk1, ek1⟩ := KI.nat hn (by decide)
  refine pm_top (v := nI k1) ek1 ?_
  refine pm_iconst (v := nI 1) hG dX12_owed_9 (by decide) ?_
  refine pm_isub hG dX12_owed_10 ?_
  refine pm_callS (As := [.int za, .int (nI 0), .int ((nI k1) - (nI 1))]) (rest := []) hG hR dX12_owed_11 (lkX12_68 _ rfl) okS_X12_in (m_in (d := 1)) rfl rfl hdd (Nat.le_refl _) (Nat.le_refl _) (by decide) (pm_ki (fun v2 σ' cnt' hq => ?_))
  obtain ⟨hq, rfl, rfl⟩ := hq
  rcases hq with ⟨rfl, ac3, bc3⟩ | ⟨rfl, c3⟩
  · obtain ⟨k4, hk4, ek4⟩ := in_cnt (c := k1) (by omega) ac3 bc3
    refine pm_ifN_ne (tgt := 23) hG dX12_owed_14 rfl (by omega) (fun _ => ?_) (fun q => absurd q (by omega))
    refine pm_aloadn hG dX12_owed_23 rfl ?_
    refine pm_getf hG dX12_owed_24 (flX12_7 _ rfl) rfl rfl ?_
    refine pm_sipush (v := nI 1770) hG dX12_owed_27 (by decide) ?_
    refine pm_bipush (v := nI 6) hG dX12_owed_30 (by decide) ?_
    refine pm_iloadn hG dX12_owed_32 rfl ?_
    refine pm_top (v := nI k4) ek4 ?_
    refine pm_imulN (c := 6 * k4) hG dX12_owed_33 (by omega) ?_
    refine pm_iaddN (c := 6 * k4 + 1770) hG dX12_owed_34 (by omega) ?_
    refine pm_iconst (v := nI 4) hG dX12_owed_35 (by decide) ?_
    refine pm_iaddN (c := 6 * k4 + 1774) hG dX12_owed_36 (by omega) ?_
    refine pm_ialdN hG dX12_owed_37 rfl (by decide) (by omega) ?_
    obtain ⟨k5, hk5, ek5⟩ := KI.nat hn (kd_D (k := k4) (c := 4) (by omega) (by omega) (by decide))
    refine pm_top (v := nI k5) ek5 ?_
    refine pm_istoreXn (loc' := [some (.ref (B + 54)), some (.int za), some (.int zb), some (.int (nI k5)), none, none]) hG dX12_owed_38 (by decide) (pm_c1b rfl) rfl ?_
    refine pm_iloadn hG dX12_owed_39 rfl ?_
    by_cases c6 : zb = nI 0
    · refine pm_top (v := nI 0) c6 ?_
      refine pm_tswIn (tgt := 72) hG dX12_owed_40 (by decide) (by decide) rfl rfl ?_
      refine pm_aloadn hG dX12_owed_72 rfl ?_
      refine pm_getf hG dX12_owed_73 (flX12_7 _ rfl) rfl rfl ?_
      refine pm_sipush (v := nI 1770) hG dX12_owed_76 (by decide) ?_
      refine pm_bipush (v := nI 6) hG dX12_owed_79 (by decide) ?_
      refine pm_iloadn hG dX12_owed_81 rfl ?_
      refine pm_top (v := nI k4) ek4 ?_
      refine pm_imulN (c := 6 * k4) hG dX12_owed_82 (by omega) ?_
      refine pm_iaddN (c := 6 * k4 + 1770) hG dX12_owed_83 (by omega) ?_
      refine pm_ialdN hG dX12_owed_84 rfl (by decide) (by omega) ?_
      refine pm_gen (fun x7 ex7 => ?_)
      exact pm_iret hG hF dX12_owed_85 rfl (Nat.le_refl _) (Nat.le_refl _) ⟨_, rfl, ⟨_, _, rfl⟩, rfl⟩
    by_cases c8 : zb = nI 1
    · refine pm_top (v := nI 1) c8 ?_
      refine pm_tswIn (tgt := 86) hG dX12_owed_40 (by decide) (by decide) rfl rfl ?_
      refine pm_aloadn hG dX12_owed_86 rfl ?_
      refine pm_getf hG dX12_owed_87 (flX12_7 _ rfl) rfl rfl ?_
      refine pm_sipush (v := nI 1770) hG dX12_owed_90 (by decide) ?_
      refine pm_bipush (v := nI 6) hG dX12_owed_93 (by decide) ?_
      refine pm_iloadn hG dX12_owed_95 rfl ?_
      refine pm_top (v := nI k4) ek4 ?_
      refine pm_imulN (c := 6 * k4) hG dX12_owed_96 (by omega) ?_
      refine pm_iaddN (c := 6 * k4 + 1770) hG dX12_owed_97 (by omega) ?_
      refine pm_iconst (v := nI 3) hG dX12_owed_98 (by decide) ?_
      refine pm_iaddN (c := 6 * k4 + 1773) hG dX12_owed_99 (by omega) ?_
      refine pm_ialdN hG dX12_owed_100 rfl (by decide) (by omega) ?_
      refine pm_gen (fun x9 ex9 => ?_)
      exact pm_iret hG hF dX12_owed_101 rfl (Nat.le_refl _) (Nat.le_refl _) ⟨_, rfl, ⟨_, _, rfl⟩, rfl⟩
    by_cases c10 : zb = nI 2
    · refine pm_top (v := nI 2) c10 ?_
      refine pm_tswIn (tgt := 102) hG dX12_owed_40 (by decide) (by decide) rfl rfl ?_
      refine pm_aloadn hG dX12_owed_102 rfl ?_
      refine pm_getf hG dX12_owed_103 (flX12_7 _ rfl) rfl rfl ?_
      refine pm_bipush (v := nI 20) hG dX12_owed_106 (by decide) ?_
      refine pm_iconst (v := nI 3) hG dX12_owed_108 (by decide) ?_
      refine pm_iloadn hG dX12_owed_109 rfl ?_
      refine pm_imulN (c := 3 * k5) hG dX12_owed_110 (by omega) ?_
      refine pm_iaddN (c := 3 * k5 + 20) hG dX12_owed_111 (by omega) ?_
      refine pm_iconst (v := nI 2) hG dX12_owed_112 (by decide) ?_
      refine pm_iaddN (c := 3 * k5 + 22) hG dX12_owed_113 (by omega) ?_
      refine pm_ialdN hG dX12_owed_114 rfl (by decide) (by omega) ?_
      refine pm_gen (fun x11 ex11 => ?_)
      exact pm_iret hG hF dX12_owed_115 rfl (Nat.le_refl _) (Nat.le_refl _) ⟨_, rfl, ⟨_, _, rfl⟩, rfl⟩
    by_cases c12 : zb = nI 3
    · refine pm_top (v := nI 3) c12 ?_
      refine pm_tswIn (tgt := 116) hG dX12_owed_40 (by decide) (by decide) rfl rfl ?_
      refine pm_iconst (v := nI 0) hG dX12_owed_116 (by decide) ?_
      refine pm_istoreXi (loc' := [some (.ref (B + 54)), some (.int za), some (.int zb), some (.int (nI k5)), some (.int (nI 0)), none]) hG dX12_owed_117 (by decide) (pm_c1b rfl) rfl ?_
      refine pm_iconst (v := nI 0) hG dX12_owed_119 (by decide) ?_
      refine pm_istoreXi (loc' := [some (.ref (B + 54)), some (.int za), some (.int zb), some (.int (nI k5)), some (.int (nI 0)), some (.int (nI 0))]) hG dX12_owed_120 (by decide) (pm_c1b rfl) rfl ?_
      have loop122_13 : ∀ (m13 : Nat) (I13 : Nat → Int32) (A13 : Nat → Nat → Int32) (x13_4 : Int32) (i13 : Nat), i13 ≤ 6 → 6 - i13 < m13 → pm_wp mX12_owed G B 122 [some (.ref (B + 54)), some (.int za), some (.int zb), some (.int (nI k5)), some (.int x13_4), some (.int (nI i13))] [] 0 0 cnt (pm_mid σ (md_L B I13 A13 n k z ac wt pl (nI p0) (nI t0))) := by
        intro m13
        induction m13 with
        | zero => intro I13 A13 x13_4 i13 _ hm; exact absurd hm (Nat.not_lt_zero _)
        | succ m13 ih13 =>
          intro I13 A13 x13_4 i13 hi13 hm13
          refine pm_iloadi hG dX12_owed_122 rfl ?_
          refine pm_aloadn hG dX12_owed_124 rfl ?_
          refine pm_getf hG dX12_owed_125 (flX12_7 _ rfl) rfl rfl ?_
          refine pm_bipush (v := nI 6) hG dX12_owed_128 (by decide) ?_
          refine pm_ialdN hG dX12_owed_130 rfl (by decide) (by omega) ?_
          refine pm_top (v := nI k1) ek1 ?_
          refine pm_icmpN_ge (tgt := 170) hG dX12_owed_131 rfl (by omega) (by omega) (fun c14 => ?_) (fun c14 => ?_)
          · refine pm_iloadi hG dX12_owed_170 rfl ?_
            exact pm_iret hG hF dX12_owed_172 rfl (Nat.le_refl _) (Nat.le_refl _) ⟨_, rfl, ⟨_, _, rfl⟩, rfl⟩
          · refine pm_iloadi hG dX12_owed_134 rfl ?_
            refine pm_aloadn hG dX12_owed_136 rfl ?_
            refine pm_getf hG dX12_owed_137 (flX12_7 _ rfl) rfl rfl ?_
            refine pm_sipush (v := nI 1770) hG dX12_owed_140 (by decide) ?_
            refine pm_bipush (v := nI 6) hG dX12_owed_143 (by decide) ?_
            refine pm_iloadi hG dX12_owed_145 rfl ?_
            refine pm_imulN (c := 6 * i13) hG dX12_owed_147 (by omega) ?_
            refine pm_iaddN (c := 6 * i13 + 1770) hG dX12_owed_148 (by omega) ?_
            refine pm_iconst (v := nI 4) hG dX12_owed_149 (by decide) ?_
            refine pm_iaddN (c := 6 * i13 + 1774) hG dX12_owed_150 (by omega) ?_
            refine pm_ialdN hG dX12_owed_151 rfl (by decide) (by omega) ?_
            obtain ⟨k15, hk15, ek15⟩ := KI.nat hn (kd_D (k := i13) (c := 4) (by omega) (by omega) (by decide))
            refine pm_top (v := nI k15) ek15 ?_
            refine pm_iloadn hG dX12_owed_152 rfl ?_
            refine pm_icmpN_ne (tgt := 160) hG dX12_owed_153 rfl (by omega) (by omega) (fun c16 => ?_) (fun c16 => ?_)
            · refine pm_iconst (v := nI 0) hG dX12_owed_160 (by decide) ?_
              refine pm_iadd hG dX12_owed_161 ?_
              refine pm_istoreXi (loc' := [some (.ref (B + 54)), some (.int za), some (.int zb), some (.int (nI k5)), some (.int (x13_4 + (nI 0))), some (.int (nI i13))]) hG dX12_owed_162 (by decide) (pm_c1b rfl) rfl ?_
              refine pm_iincX (v := nI (i13 + 1)) (loc' := [some (.ref (B + 54)), some (.int za), some (.int zb), some (.int (nI k5)), some (.int (x13_4 + (nI 0))), some (.int (nI (i13 + 1)))]) hG dX12_owed_164 rfl (nI_1 _) (by decide) (pm_c1b rfl) rfl ?_
              refine pm_goto (tgt := 122) hG dX12_owed_167 rfl ?_
              exact ih13 I13 A13 (x13_4 + (nI 0)) (i13 + 1) (by omega) (by omega)
            · refine pm_iconst (v := nI 1) hG dX12_owed_156 (by decide) ?_
              refine pm_goto (tgt := 161) hG dX12_owed_157 rfl ?_
              refine pm_iadd hG dX12_owed_161 ?_
              refine pm_istoreXi (loc' := [some (.ref (B + 54)), some (.int za), some (.int zb), some (.int (nI k5)), some (.int (x13_4 + (nI 1))), some (.int (nI i13))]) hG dX12_owed_162 (by decide) (pm_c1b rfl) rfl ?_
              refine pm_iincX (v := nI (i13 + 1)) (loc' := [some (.ref (B + 54)), some (.int za), some (.int zb), some (.int (nI k5)), some (.int (x13_4 + (nI 1))), some (.int (nI (i13 + 1)))]) hG dX12_owed_164 rfl (nI_1 _) (by decide) (pm_c1b rfl) rfl ?_
              refine pm_goto (tgt := 122) hG dX12_owed_167 rfl ?_
              exact ih13 I13 A13 (x13_4 + (nI 1)) (i13 + 1) (by omega) (by omega)
      exact loop122_13 _ I A (nI 0) 0 (by omega) (Nat.lt_succ_self _)
    have tc6 : ¬ zb.toInt = 0 := fun q => c6 (Int32.toInt_inj.mp (q.trans (by decide)))
    have tc8 : ¬ zb.toInt = 1 := fun q => c8 (Int32.toInt_inj.mp (q.trans (by decide)))
    have tc10 : ¬ zb.toInt = 2 := fun q => c10 (Int32.toInt_inj.mp (q.trans (by decide)))
    have tc12 : ¬ zb.toInt = 3 := fun q => c12 (Int32.toInt_inj.mp (q.trans (by decide)))
    refine pm_tswOut (tgt := 173) hG dX12_owed_40 (by omega) rfl ?_
    refine pm_aloadn hG dX12_owed_173 rfl ?_
    refine pm_iconst (v := nI 1) hG dX12_owed_174 (by decide) ?_
    refine pm_callV (As := [.int (nI 1)]) (rest := []) hG hR dX12_owed_175 (lkX12_80 _ rfl) okV_X12_finds rfl rfl (m_finds (d := 1) (by decide) hn hz (by omega)) rfl rfl hdd (Nat.le_refl _) (Nat.le_refl _) (by decide) (pm_ki (fun v17 σ' cnt' hq => ?_))
    obtain ⟨⟨I18, A18, rfl⟩, rfl⟩ := hq
    exact pm_iret hG hF dX12_owed_178 rfl (Nat.le_refl _) (Nat.le_refl _) ⟨_, rfl, ⟨_, _, rfl⟩, rfl⟩
  · refine pm_ifN_ne (tgt := 23) hG dX12_owed_14 rfl (by omega) (fun q => absurd q (by omega)) (fun _ => ?_)
    refine pm_aloadn hG dX12_owed_17 rfl ?_
    refine pm_iconst (v := nI 1) hG dX12_owed_18 (by decide) ?_
    refine pm_callV (As := [.int (nI 1)]) (rest := []) hG hR dX12_owed_19 (lkX12_80 _ rfl) okV_X12_finds rfl rfl (m_finds (d := 1) (by decide) hn hz (by omega)) rfl rfl hdd (Nat.le_refl _) (Nat.le_refl _) (by decide) (pm_ki (fun v19 σ' cnt' hq => ?_))
    obtain ⟨⟨I20, A20, rfl⟩, rfl⟩ := hq
    exact pm_iret hG hF dX12_owed_22 rfl (Nat.le_refl _) (Nat.le_refl _) ⟨_, rfl, ⟨_, _, rfl⟩, rfl⟩

set_option maxRecDepth 100000 in
set_option maxHeartbeats 4000000 in
theorem m_own {d B cnt p0 t0 : Nat} {σ : pm_S} {I : Nat → Int32} {A : Nat → Nat → Int32} {n k z : Nat → Int32} {ac wt pl : Int32} {za zb : Int32} (hdd : 2 ≤ d) (hn : KI n) (hr : NR n) (hz : SZ z)  : pm_met mX12_own d 0 0 B [.ref (B + 54), .int za, .int zb] cnt (pm_mid σ (md_L B I A n k z ac wt pl (nI p0) (nI t0))) (pm_Qi (fun v σ' cnt' => (∃ (I' : Nat → Int32) (A' : Nat → Nat → Int32) (n' : Nat → Int32), σ' = pm_mid σ (md_L B I' A' n' k z ac wt pl (nI p0) (nI t0)) ∧ KI n' ∧ NR n') ∧ cnt' = cnt)) := by
  refine pm_enter 1 (by decide) (Nat.le_of_ble_eq_true rfl) rfl (fun G hG hR hF => ?_)
  refine pm_aloadn hG dX12_own_0 rfl ?_
  refine pm_iloadn hG dX12_own_1 rfl ?_
  obtain ⟨k1, hk1, ek1⟩ := KI.nat hn (by decide)
  refine pm_callV (As := [.int za]) (rest := []) hG hR dX12_own_2 (lkX12_84 _ rfl) okV_X12_isTown rfl rfl (m_isTown (d := 1) (by decide) ek1 (by omega)) rfl rfl hdd (Nat.le_refl _) (Nat.le_refl _) (by decide) (pm_ki (fun v2 σ' cnt' hq => ?_))
  obtain ⟨hq, rfl, rfl⟩ := hq
  rcases hq with ⟨rfl, k4, hk4, ek4⟩ | rfl
  · refine pm_ifN_eq (tgt := 29) hG dX12_own_5 rfl (by omega) (fun q => absurd q (by omega)) (fun _ => ?_)
    refine pm_iloadn hG dX12_own_8 rfl ?_
    refine pm_iconst (v := (-1)) hG dX12_own_9 (by decide) ?_
    refine pm_icmp_eq (tgt := 35) hG dX12_own_10 rfl (fun c5 => ?_) (fun c5 => ?_)
    · refine pm_aloadn hG dX12_own_35 rfl ?_
      refine pm_getf hG dX12_own_36 (flX12_7 _ rfl) rfl rfl ?_
      refine pm_bipush (v := nI 20) hG dX12_own_39 (by decide) ?_
      refine pm_iconst (v := nI 3) hG dX12_own_41 (by decide) ?_
      refine pm_iloadn hG dX12_own_42 rfl ?_
      refine pm_top (v := nI k4) ek4 ?_
      refine pm_imulN (c := 3 * k4) hG dX12_own_43 (by omega) ?_
      refine pm_iaddN (c := 3 * k4 + 20) hG dX12_own_44 (by omega) ?_
      refine pm_iconst (v := nI 2) hG dX12_own_45 (by decide) ?_
      refine pm_iaddN (c := 3 * k4 + 22) hG dX12_own_46 (by omega) ?_
      refine pm_ialdN hG dX12_own_47 rfl (by decide) (by omega) ?_
      refine pm_gen (fun x6 ex6 => ?_)
      refine pm_iconst (v := nI 1) hG dX12_own_48 (by decide) ?_
      refine pm_icmp_ne (tgt := 58) hG dX12_own_49 rfl (fun c7 => ?_) (fun c7 => ?_)
      · refine pm_aloadn hG dX12_own_58 rfl ?_
        refine pm_getf hG dX12_own_59 (flX12_7 _ rfl) rfl rfl ?_
        refine pm_bipush (v := nI 20) hG dX12_own_62 (by decide) ?_
        refine pm_iconst (v := nI 3) hG dX12_own_64 (by decide) ?_
        refine pm_iloadn hG dX12_own_65 rfl ?_
        refine pm_top (v := nI k4) ek4 ?_
        refine pm_imulN (c := 3 * k4) hG dX12_own_66 (by omega) ?_
        refine pm_iaddN (c := 3 * k4 + 20) hG dX12_own_67 (by omega) ?_
        refine pm_iconst (v := nI 1) hG dX12_own_68 (by decide) ?_
        refine pm_iaddN (c := 3 * k4 + 21) hG dX12_own_69 (by omega) ?_
        refine pm_ialdN hG dX12_own_70 rfl (by decide) (by omega) ?_
        rcases KI.opt hn (kd_T (k := k4) (c := 1) (by omega) (by omega) (by decide)) with ek8 | ⟨k8, hk8, ek8⟩
        · refine pm_top (v := (-1)) ek8 ?_
          refine pm_istoreXn (loc' := [some (.ref (B + 54)), some (.int za), some (.int zb), some (.int (-1))]) hG dX12_own_71 (by decide) (pm_c1b rfl) rfl ?_
          refine pm_aloadn hG dX12_own_72 rfl ?_
          refine pm_getf hG dX12_own_73 (flX12_7 _ rfl) rfl rfl ?_
          refine pm_bipush (v := nI 20) hG dX12_own_76 (by decide) ?_
          refine pm_iconst (v := nI 3) hG dX12_own_78 (by decide) ?_
          refine pm_iloadn hG dX12_own_79 rfl ?_
          refine pm_top (v := nI k4) ek4 ?_
          refine pm_imulN (c := 3 * k4) hG dX12_own_80 (by omega) ?_
          refine pm_iaddN (c := 3 * k4 + 20) hG dX12_own_81 (by omega) ?_
          refine pm_iconst (v := nI 1) hG dX12_own_82 (by decide) ?_
          refine pm_iaddN (c := 3 * k4 + 21) hG dX12_own_83 (by omega) ?_
          refine pm_iloadn hG dX12_own_84 rfl ?_
          refine pm_top (v := (-1)) c5 ?_
          refine pm_iastN hG dX12_own_85 rfl (by decide) (by omega) ?_
          refine mdn_now (fun n_9 en_9 => ?_)
          have hnn_9 := KI.w en_9 hn (okv_m (kd_T (k := k4) (c := 1) (by omega) (by omega) (by decide)))
          have hrn_9 := NRx.w en_9 hr (by rw [(kd_T (k := k4) (c := 1) (by omega) (by omega) (by decide))]; rfl)
          have e10 : n_9 0 = nI k1 := by rw [en_9, pk_un (by omega)]; exact ek1
          have e11 : n_9 (3 * k4 + 22) = x6 := by rw [en_9, pk_un (by omega)]; exact ex6
          have e12 : n_9 (3 * k4 + 21) = (-1) := by rw [en_9, pk_us]
          refine pm_iloadn hG dX12_own_86 rfl ?_
          exact pm_iret hG hF dX12_own_87 rfl (Nat.le_refl _) (Nat.le_refl _) ⟨_, rfl, ⟨_, _, _, rfl, hnn_9, hrn_9⟩, rfl⟩
        · refine pm_top (v := nI k8) ek8 ?_
          refine pm_istoreXn (loc' := [some (.ref (B + 54)), some (.int za), some (.int zb), some (.int (nI k8))]) hG dX12_own_71 (by decide) (pm_c1b rfl) rfl ?_
          refine pm_aloadn hG dX12_own_72 rfl ?_
          refine pm_getf hG dX12_own_73 (flX12_7 _ rfl) rfl rfl ?_
          refine pm_bipush (v := nI 20) hG dX12_own_76 (by decide) ?_
          refine pm_iconst (v := nI 3) hG dX12_own_78 (by decide) ?_
          refine pm_iloadn hG dX12_own_79 rfl ?_
          refine pm_top (v := nI k4) ek4 ?_
          refine pm_imulN (c := 3 * k4) hG dX12_own_80 (by omega) ?_
          refine pm_iaddN (c := 3 * k4 + 20) hG dX12_own_81 (by omega) ?_
          refine pm_iconst (v := nI 1) hG dX12_own_82 (by decide) ?_
          refine pm_iaddN (c := 3 * k4 + 21) hG dX12_own_83 (by omega) ?_
          refine pm_iloadn hG dX12_own_84 rfl ?_
          refine pm_top (v := (-1)) c5 ?_
          refine pm_iastN hG dX12_own_85 rfl (by decide) (by omega) ?_
          refine mdn_now (fun n_13 en_13 => ?_)
          have hnn_13 := KI.w en_13 hn (okv_m (kd_T (k := k4) (c := 1) (by omega) (by omega) (by decide)))
          have hrn_13 := NRx.w en_13 hr (by rw [(kd_T (k := k4) (c := 1) (by omega) (by omega) (by decide))]; rfl)
          have e14 : n_13 0 = nI k1 := by rw [en_13, pk_un (by omega)]; exact ek1
          have e15 : n_13 (3 * k4 + 22) = x6 := by rw [en_13, pk_un (by omega)]; exact ex6
          have e16 : n_13 (3 * k4 + 21) = (-1) := by rw [en_13, pk_us]
          refine pm_iloadn hG dX12_own_86 rfl ?_
          exact pm_iret hG hF dX12_own_87 rfl (Nat.le_refl _) (Nat.le_refl _) ⟨_, rfl, ⟨_, _, _, rfl, hnn_13, hrn_13⟩, rfl⟩
      · refine pm_aloadn hG dX12_own_52 rfl ?_
        refine pm_iconst (v := nI 3) hG dX12_own_53 (by decide) ?_
        refine pm_callV (As := [.int (nI 3)]) (rest := []) hG hR dX12_own_54 (lkX12_80 _ rfl) okV_X12_finds rfl rfl (m_finds (d := 1) (by decide) hn hz (by omega)) rfl rfl hdd (Nat.le_refl _) (Nat.le_refl _) (by decide) (pm_ki (fun v17 σ' cnt' hq => ?_))
        obtain ⟨⟨I18, A18, rfl⟩, rfl⟩ := hq
        exact pm_iret hG hF dX12_own_57 rfl (Nat.le_refl _) (Nat.le_refl _) ⟨_, rfl, ⟨_, _, _, rfl, hn, hr⟩, rfl⟩
    · refine pm_aloadn hG dX12_own_13 rfl ?_
      refine pm_iloadn hG dX12_own_14 rfl ?_
      obtain ⟨k19, hk19, ek19⟩ := KI.nat hn (by decide)
      refine pm_callV (As := [.int zb]) (rest := []) hG hR dX12_own_15 (lkX12_91 _ rfl) okV_X12_isPerson rfl rfl (m_isPerson (d := 1) (by decide) ek19 (by omega)) rfl rfl hdd (Nat.le_refl _) (Nat.le_refl _) (by decide) (pm_ki (fun v20 σ' cnt' hq => ?_))
      obtain ⟨hq, rfl, rfl⟩ := hq
      rcases hq with ⟨rfl, k22, hk22, ek22⟩ | rfl
      · refine pm_ifN_eq (tgt := 29) hG dX12_own_18 rfl (by omega) (fun q => absurd q (by omega)) (fun _ => ?_)
        refine pm_aloadn hG dX12_own_21 rfl ?_
        refine pm_iloadn hG dX12_own_22 rfl ?_
        refine pm_top (v := nI k22) ek22 ?_
        rcases KI.opt hn (kd_P (k := k22) (c := 9) (by omega) (by omega) (by decide)) with ek23 | ⟨k23, hk23, ek23⟩
        · refine pm_callV (As := [.int (nI k22)]) (rest := []) hG hR dX12_own_23 (lkX12_101 _ rfl) okV_X12_lives rfl rfl (m_lives1 (d := 1) (by decide) (by omega) (by omega : 14 * k22 + 119 = 14 * k22 + 119) ek23) rfl rfl hdd (Nat.le_refl _) (Nat.le_refl _) (by decide) (pm_ki (fun v24 σ' cnt' hq => ?_))
          obtain ⟨rfl, rfl, rfl⟩ := hq
          refine pm_ifN_ne (tgt := 35) hG dX12_own_26 rfl (by omega) (fun _ => ?_) (fun q => absurd q (by omega))
          refine pm_aloadn hG dX12_own_35 rfl ?_
          refine pm_getf hG dX12_own_36 (flX12_7 _ rfl) rfl rfl ?_
          refine pm_bipush (v := nI 20) hG dX12_own_39 (by decide) ?_
          refine pm_iconst (v := nI 3) hG dX12_own_41 (by decide) ?_
          refine pm_iloadn hG dX12_own_42 rfl ?_
          refine pm_top (v := nI k4) ek4 ?_
          refine pm_imulN (c := 3 * k4) hG dX12_own_43 (by omega) ?_
          refine pm_iaddN (c := 3 * k4 + 20) hG dX12_own_44 (by omega) ?_
          refine pm_iconst (v := nI 2) hG dX12_own_45 (by decide) ?_
          refine pm_iaddN (c := 3 * k4 + 22) hG dX12_own_46 (by omega) ?_
          refine pm_ialdN hG dX12_own_47 rfl (by decide) (by omega) ?_
          refine pm_gen (fun x25 ex25 => ?_)
          refine pm_iconst (v := nI 1) hG dX12_own_48 (by decide) ?_
          refine pm_icmp_ne (tgt := 58) hG dX12_own_49 rfl (fun c26 => ?_) (fun c26 => ?_)
          · refine pm_aloadn hG dX12_own_58 rfl ?_
            refine pm_getf hG dX12_own_59 (flX12_7 _ rfl) rfl rfl ?_
            refine pm_bipush (v := nI 20) hG dX12_own_62 (by decide) ?_
            refine pm_iconst (v := nI 3) hG dX12_own_64 (by decide) ?_
            refine pm_iloadn hG dX12_own_65 rfl ?_
            refine pm_top (v := nI k4) ek4 ?_
            refine pm_imulN (c := 3 * k4) hG dX12_own_66 (by omega) ?_
            refine pm_iaddN (c := 3 * k4 + 20) hG dX12_own_67 (by omega) ?_
            refine pm_iconst (v := nI 1) hG dX12_own_68 (by decide) ?_
            refine pm_iaddN (c := 3 * k4 + 21) hG dX12_own_69 (by omega) ?_
            refine pm_ialdN hG dX12_own_70 rfl (by decide) (by omega) ?_
            rcases KI.opt hn (kd_T (k := k4) (c := 1) (by omega) (by omega) (by decide)) with ek27 | ⟨k27, hk27, ek27⟩
            · refine pm_top (v := (-1)) ek27 ?_
              refine pm_istoreXn (loc' := [some (.ref (B + 54)), some (.int za), some (.int zb), some (.int (-1))]) hG dX12_own_71 (by decide) (pm_c1b rfl) rfl ?_
              refine pm_aloadn hG dX12_own_72 rfl ?_
              refine pm_getf hG dX12_own_73 (flX12_7 _ rfl) rfl rfl ?_
              refine pm_bipush (v := nI 20) hG dX12_own_76 (by decide) ?_
              refine pm_iconst (v := nI 3) hG dX12_own_78 (by decide) ?_
              refine pm_iloadn hG dX12_own_79 rfl ?_
              refine pm_top (v := nI k4) ek4 ?_
              refine pm_imulN (c := 3 * k4) hG dX12_own_80 (by omega) ?_
              refine pm_iaddN (c := 3 * k4 + 20) hG dX12_own_81 (by omega) ?_
              refine pm_iconst (v := nI 1) hG dX12_own_82 (by decide) ?_
              refine pm_iaddN (c := 3 * k4 + 21) hG dX12_own_83 (by omega) ?_
              refine pm_iloadn hG dX12_own_84 rfl ?_
              refine pm_top (v := nI k22) ek22 ?_
              refine pm_iastN hG dX12_own_85 rfl (by decide) (by omega) ?_
              refine mdn_now (fun n_28 en_28 => ?_)
              have hnn_28 := KI.w en_28 hn (okv_o (kd_T (k := k4) (c := 1) (by omega) (by omega) (by decide)) (by omega))
              have hrn_28 := NRx.w en_28 hr (by rw [(kd_T (k := k4) (c := 1) (by omega) (by omega) (by decide))]; rfl)
              have e29 : n_28 0 = nI k1 := by rw [en_28, pk_un (by omega)]; exact ek1
              have e30 : n_28 2 = nI k19 := by rw [en_28, pk_un (by omega)]; exact ek19
              have e31 : n_28 (14 * k22 + 119) = (-1) := by rw [en_28, pk_un (by omega)]; exact ek23
              have e32 : n_28 (3 * k4 + 22) = x25 := by rw [en_28, pk_un (by omega)]; exact ex25
              have e33 : n_28 (3 * k4 + 21) = nI k22 := by rw [en_28, pk_us]
              refine pm_iloadn hG dX12_own_86 rfl ?_
              exact pm_iret hG hF dX12_own_87 rfl (Nat.le_refl _) (Nat.le_refl _) ⟨_, rfl, ⟨_, _, _, rfl, hnn_28, hrn_28⟩, rfl⟩
            · refine pm_top (v := nI k27) ek27 ?_
              refine pm_istoreXn (loc' := [some (.ref (B + 54)), some (.int za), some (.int zb), some (.int (nI k27))]) hG dX12_own_71 (by decide) (pm_c1b rfl) rfl ?_
              refine pm_aloadn hG dX12_own_72 rfl ?_
              refine pm_getf hG dX12_own_73 (flX12_7 _ rfl) rfl rfl ?_
              refine pm_bipush (v := nI 20) hG dX12_own_76 (by decide) ?_
              refine pm_iconst (v := nI 3) hG dX12_own_78 (by decide) ?_
              refine pm_iloadn hG dX12_own_79 rfl ?_
              refine pm_top (v := nI k4) ek4 ?_
              refine pm_imulN (c := 3 * k4) hG dX12_own_80 (by omega) ?_
              refine pm_iaddN (c := 3 * k4 + 20) hG dX12_own_81 (by omega) ?_
              refine pm_iconst (v := nI 1) hG dX12_own_82 (by decide) ?_
              refine pm_iaddN (c := 3 * k4 + 21) hG dX12_own_83 (by omega) ?_
              refine pm_iloadn hG dX12_own_84 rfl ?_
              refine pm_top (v := nI k22) ek22 ?_
              refine pm_iastN hG dX12_own_85 rfl (by decide) (by omega) ?_
              refine mdn_now (fun n_34 en_34 => ?_)
              have hnn_34 := KI.w en_34 hn (okv_o (kd_T (k := k4) (c := 1) (by omega) (by omega) (by decide)) (by omega))
              have hrn_34 := NRx.w en_34 hr (by rw [(kd_T (k := k4) (c := 1) (by omega) (by omega) (by decide))]; rfl)
              have e35 : n_34 0 = nI k1 := by rw [en_34, pk_un (by omega)]; exact ek1
              have e36 : n_34 2 = nI k19 := by rw [en_34, pk_un (by omega)]; exact ek19
              have e37 : n_34 (14 * k22 + 119) = (-1) := by rw [en_34, pk_un (by omega)]; exact ek23
              have e38 : n_34 (3 * k4 + 22) = x25 := by rw [en_34, pk_un (by omega)]; exact ex25
              have e39 : n_34 (3 * k4 + 21) = nI k22 := by rw [en_34, pk_us]
              refine pm_iloadn hG dX12_own_86 rfl ?_
              exact pm_iret hG hF dX12_own_87 rfl (Nat.le_refl _) (Nat.le_refl _) ⟨_, rfl, ⟨_, _, _, rfl, hnn_34, hrn_34⟩, rfl⟩
          · refine pm_aloadn hG dX12_own_52 rfl ?_
            refine pm_iconst (v := nI 3) hG dX12_own_53 (by decide) ?_
            refine pm_callV (As := [.int (nI 3)]) (rest := []) hG hR dX12_own_54 (lkX12_80 _ rfl) okV_X12_finds rfl rfl (m_finds (d := 1) (by decide) hn hz (by omega)) rfl rfl hdd (Nat.le_refl _) (Nat.le_refl _) (by decide) (pm_ki (fun v40 σ' cnt' hq => ?_))
            obtain ⟨⟨I41, A41, rfl⟩, rfl⟩ := hq
            exact pm_iret hG hF dX12_own_57 rfl (Nat.le_refl _) (Nat.le_refl _) ⟨_, rfl, ⟨_, _, _, rfl, hn, hr⟩, rfl⟩
        · refine pm_callV (As := [.int (nI k22)]) (rest := []) hG hR dX12_own_23 (lkX12_101 _ rfl) okV_X12_lives rfl rfl (m_lives0 (d := 1) (by decide) (by omega) (by omega : 14 * k22 + 119 = 14 * k22 + 119) ek23 (by omega)) rfl rfl hdd (Nat.le_refl _) (Nat.le_refl _) (by decide) (pm_ki (fun v42 σ' cnt' hq => ?_))
          obtain ⟨rfl, rfl, rfl⟩ := hq
          refine pm_ifN_ne (tgt := 35) hG dX12_own_26 rfl (by omega) (fun q => absurd q (by omega)) (fun _ => ?_)
          refine pm_aloadn hG dX12_own_29 rfl ?_
          refine pm_iconst (v := nI 1) hG dX12_own_30 (by decide) ?_
          refine pm_callV (As := [.int (nI 1)]) (rest := []) hG hR dX12_own_31 (lkX12_80 _ rfl) okV_X12_finds rfl rfl (m_finds (d := 1) (by decide) hn hz (by omega)) rfl rfl hdd (Nat.le_refl _) (Nat.le_refl _) (by decide) (pm_ki (fun v43 σ' cnt' hq => ?_))
          obtain ⟨⟨I44, A44, rfl⟩, rfl⟩ := hq
          exact pm_iret hG hF dX12_own_34 rfl (Nat.le_refl _) (Nat.le_refl _) ⟨_, rfl, ⟨_, _, _, rfl, hn, hr⟩, rfl⟩
      · refine pm_ifN_eq (tgt := 29) hG dX12_own_18 rfl (by omega) (fun _ => ?_) (fun q => absurd q (by omega))
        refine pm_aloadn hG dX12_own_29 rfl ?_
        refine pm_iconst (v := nI 1) hG dX12_own_30 (by decide) ?_
        refine pm_callV (As := [.int (nI 1)]) (rest := []) hG hR dX12_own_31 (lkX12_80 _ rfl) okV_X12_finds rfl rfl (m_finds (d := 1) (by decide) hn hz (by omega)) rfl rfl hdd (Nat.le_refl _) (Nat.le_refl _) (by decide) (pm_ki (fun v45 σ' cnt' hq => ?_))
        obtain ⟨⟨I46, A46, rfl⟩, rfl⟩ := hq
        exact pm_iret hG hF dX12_own_34 rfl (Nat.le_refl _) (Nat.le_refl _) ⟨_, rfl, ⟨_, _, _, rfl, hn, hr⟩, rfl⟩
  · refine pm_ifN_eq (tgt := 29) hG dX12_own_5 rfl (by omega) (fun _ => ?_) (fun q => absurd q (by omega))
    refine pm_aloadn hG dX12_own_29 rfl ?_
    refine pm_iconst (v := nI 1) hG dX12_own_30 (by decide) ?_
    refine pm_callV (As := [.int (nI 1)]) (rest := []) hG hR dX12_own_31 (lkX12_80 _ rfl) okV_X12_finds rfl rfl (m_finds (d := 1) (by decide) hn hz (by omega)) rfl rfl hdd (Nat.le_refl _) (Nat.le_refl _) (by decide) (pm_ki (fun v47 σ' cnt' hq => ?_))
    obtain ⟨⟨I48, A48, rfl⟩, rfl⟩ := hq
    exact pm_iret hG hF dX12_own_34 rfl (Nat.le_refl _) (Nat.le_refl _) ⟨_, rfl, ⟨_, _, _, rfl, hn, hr⟩, rfl⟩
