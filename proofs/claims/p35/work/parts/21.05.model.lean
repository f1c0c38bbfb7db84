set_option maxRecDepth 100000 in
set_option maxHeartbeats 4000000 in
theorem m_cause {d B cnt p0 t0 : Nat} {σ : pm_S} {I : Nat → Int32} {A : Nat → Nat → Int32} {n k z : Nat → Int32} {ac wt pl im : Int32} {za zb : Int32} (hdd : 5 ≤ d) (hn : KI n) (hr : NR n) (hz : SZ z)  : pm_met mX12_cause d 0 0 B [.ref (B + 54), .int za, .int zb] cnt (pm_mid σ (md_L B I A n k z ac wt pl (nI p0) (nI t0) im)) (pm_Qi (fun v σ' cnt' => (∃ (I' : Nat → Int32) (A' : Nat → Nat → Int32), σ' = pm_mid σ (md_L B I' A' n k z ac wt pl (nI p0) (nI t0) im)) ∧ cnt = cnt')) := by
  refine pm_enter 2 (by decide) (Nat.le_of_ble_eq_true rfl) rfl (fun G hG hR hF => ?_)
  refine pm_iloadn hG dX12_cause_0 rfl ?_
  refine pm_iconst (v := nI 0) hG dX12_cause_1 (by decide) ?_
  refine pm_iconst (v := nI 5) hG dX12_cause_2 (by decide) ?_
  refine pm_callS (As := [.int za, .int (nI 0), .int (nI 5)]) (rest := []) hG hR dX12_cause_3 (lkX12_68 _ rfl) okS_X12_in (m_in (d := 4)) rfl rfl hdd (Nat.le_refl _) (Nat.le_refl _) (by decide) (pm_ki (fun v1 σ' cnt' hq => ?_))
  obtain ⟨hq, rfl, rfl⟩ := hq
  rcases hq with ⟨rfl, ac2, bc2⟩ | ⟨rfl, c2⟩
  · obtain ⟨k3, hk3, ek3⟩ := in_nat (by omega) (by omega) ac2 bc2
    refine pm_ifN_eq (tgt := 18) hG dX12_cause_6 rfl (by omega) (fun q => absurd q (by omega)) (fun _ => ?_)
    refine pm_iloadn hG dX12_cause_9 rfl ?_
    refine pm_iconst (v := nI 0) hG dX12_cause_10 (by decide) ?_
    refine pm_iconst (v := nI 3) hG dX12_cause_11 (by decide) ?_
    refine pm_callS (As := [.int zb, .int (nI 0), .int (nI 3)]) (rest := []) hG hR dX12_cause_12 (lkX12_68 _ rfl) okS_X12_in (m_in (d := 4)) rfl rfl hdd (Nat.le_refl _) (Nat.le_refl _) (by decide) (pm_ki (fun v4 σ' cnt' hq => ?_))
    obtain ⟨hq, rfl, rfl⟩ := hq
    rcases hq with ⟨rfl, ac5, bc5⟩ | ⟨rfl, c5⟩
    · obtain ⟨k6, hk6, ek6⟩ := in_nat (by omega) (by omega) ac5 bc5
      refine pm_ifN_ne (tgt := 24) hG dX12_cause_15 rfl (by omega) (fun _ => ?_) (fun q => absurd q (by omega))
      refine pm_iloadn hG dX12_cause_24 rfl ?_
      refine pm_top (v := nI k6) ek6 ?_
      refine pm_iconst (v := nI 3) hG dX12_cause_25 (by decide) ?_
      refine pm_icmpN_ne (tgt := 82) hG dX12_cause_26 rfl (by omega) (by omega) (fun c7 => ?_) (fun c7 => ?_)
      · refine pm_aloadn hG dX12_cause_82 rfl ?_
        refine pm_iloadn hG dX12_cause_83 rfl ?_
        refine pm_top (v := nI k3) ek3 ?_
        refine pm_callV (As := [.int (nI k3)]) (rest := []) hG hR dX12_cause_84 (lkX12_246 _ rfl) okV_X12_weigh rfl rfl (m_weigh (d := 4) (by decide) hn hr hz) rfl rfl hdd (Nat.le_refl _) (Nat.le_refl _) (by decide) (pm_kv (fun σ' cnt' hq => ?_))
        obtain ⟨⟨I9, A9, rfl⟩, rfl⟩ := hq
        refine pm_aloadn hG dX12_cause_87 rfl ?_
        refine pm_iconst (v := nI 0) hG dX12_cause_88 (by decide) ?_
        refine pm_callV (As := [.int (nI 0)]) (rest := []) hG hR dX12_cause_89 (lkX12_249 _ rfl) okV_X12_weightOf rfl rfl (m_weightOf (d := 4) (by decide) hn hz) rfl rfl hdd (Nat.le_refl _) (Nat.le_refl _) (by decide) (pm_ki (fun v10 σ' cnt' hq => ?_))
        obtain ⟨rfl, rfl⟩ := hq
        refine pm_istoreXn (loc' := [some (.ref (B + 54)), some (.int za), some (.int zb), some (.int v10), none]) hG dX12_cause_92 (by decide) (pm_c1b rfl) rfl ?_
        refine pm_aloadn hG dX12_cause_93 rfl ?_
        refine pm_iconst (v := nI 1) hG dX12_cause_94 (by decide) ?_
        refine pm_callV (As := [.int (nI 1)]) (rest := []) hG hR dX12_cause_95 (lkX12_249 _ rfl) okV_X12_weightOf rfl rfl (m_weightOf (d := 4) (by decide) hn hz) rfl rfl hdd (Nat.le_refl _) (Nat.le_refl _) (by decide) (pm_ki (fun v12 σ' cnt' hq => ?_))
        obtain ⟨rfl, rfl⟩ := hq
        refine pm_istoreXi (loc' := [some (.ref (B + 54)), some (.int za), some (.int zb), some (.int v10), some (.int v12)]) hG dX12_cause_98 (by decide) (pm_c1b rfl) rfl ?_
        refine pm_iloadn hG dX12_cause_100 rfl ?_
        refine pm_top (v := nI k6) ek6 ?_
        refine pm_ifN_ne (tgt := 108) hG dX12_cause_101 rfl (by omega) (fun c14 => ?_) (fun c14 => ?_)
        · refine pm_iloadn hG dX12_cause_108 rfl ?_
          refine pm_top (v := nI k6) ek6 ?_
          refine pm_iconst (v := nI 1) hG dX12_cause_109 (by decide) ?_
          refine pm_icmpN_ne (tgt := 118) hG dX12_cause_110 rfl (by omega) (by omega) (fun c15 => ?_) (fun c15 => ?_)
          · refine pm_iconst (v := nI 2) hG dX12_cause_118 (by decide) ?_
            refine pm_iloadn hG dX12_cause_119 rfl ?_
            refine pm_imul hG dX12_cause_120 ?_
            refine pm_iloadi hG dX12_cause_121 rfl ?_
            refine pm_icmp_le (tgt := 130) hG dX12_cause_123 rfl (fun c16 => ?_) (fun c16 => ?_)
            · refine pm_iconst (v := nI 0) hG dX12_cause_130 (by decide) ?_
              exact pm_iret hG hF dX12_cause_131 rfl (Nat.le_refl _) (Nat.le_refl _) ⟨_, rfl, ⟨_, _, rfl⟩, rfl⟩
            · refine pm_iconst (v := nI 1) hG dX12_cause_126 (by decide) ?_
              refine pm_goto (tgt := 131) hG dX12_cause_127 rfl ?_
              exact pm_iret hG hF dX12_cause_131 rfl (Nat.le_refl _) (Nat.le_refl _) ⟨_, rfl, ⟨_, _, rfl⟩, rfl⟩
          · refine pm_iloadi hG dX12_cause_113 rfl ?_
            refine pm_goto (tgt := 131) hG dX12_cause_115 rfl ?_
            exact pm_iret hG hF dX12_cause_131 rfl (Nat.le_refl _) (Nat.le_refl _) ⟨_, rfl, ⟨_, _, rfl⟩, rfl⟩
        · refine pm_iloadn hG dX12_cause_104 rfl ?_
          refine pm_goto (tgt := 131) hG dX12_cause_105 rfl ?_
          exact pm_iret hG hF dX12_cause_131 rfl (Nat.le_refl _) (Nat.le_refl _) ⟨_, rfl, ⟨_, _, rfl⟩, rfl⟩
      · refine pm_iconst (v := nI 0) hG dX12_cause_29 (by decide) ?_
        refine pm_istoreXn (loc' := [some (.ref (B + 54)), some (.int za), some (.int zb), some (.int (nI 0)), none]) hG dX12_cause_30 (by decide) (pm_c1b rfl) rfl ?_
        have loop31_17 : ∀ (m17 : Nat) (I17 : Nat → Int32) (A17 : Nat → Nat → Int32) (i17 : Nat), i17 ≤ 30 → 30 - i17 < m17 → pm_wp mX12_cause G B 31 [some (.ref (B + 54)), some (.int za), some (.int zb), some (.int (nI i17)), none] [] 0 0 cnt (pm_mid σ (md_L B I17 A17 n k z ac wt pl (nI p0) (nI t0) im)) := by
          intro m17
          induction m17 with
          | zero => intro I17 A17 i17 _ hm; exact absurd hm (Nat.not_lt_zero _)
          | succ m17 ih17 =>
            intro I17 A17 i17 hi17 hm17
            refine pm_iloadn hG dX12_cause_31 rfl ?_
            refine pm_aloadn hG dX12_cause_32 rfl ?_
            refine pm_getf hG dX12_cause_33 (flX12_7 _ rfl) rfl rfl ?_
            refine pm_bipush (v := nI 7) hG dX12_cause_36 (by decide) ?_
            refine pm_ialdN hG dX12_cause_38 rfl (by decide) (by omega) ?_
            obtain ⟨k18, hk18, ek18⟩ := KI.nat hn (show kd 7 = (1, 31, false) by decide)
            refine pm_top (v := nI k18) ek18 ?_
            refine pm_icmpN_ge (tgt := 80) hG dX12_cause_39 rfl (by omega) (by omega) (fun c19 => ?_) (fun c19 => ?_)
            · refine pm_iconst (v := (-1)) hG dX12_cause_80 (by decide) ?_
              exact pm_iret hG hF dX12_cause_81 rfl (Nat.le_refl _) (Nat.le_refl _) ⟨_, rfl, ⟨_, _, rfl⟩, rfl⟩
            · refine pm_aloadn hG dX12_cause_42 rfl ?_
              refine pm_iloadn hG dX12_cause_43 rfl ?_
              refine pm_iconst (v := nI 1) hG dX12_cause_44 (by decide) ?_
              refine pm_callV (As := [.int (nI i17), .int (nI 1)]) (rest := []) hG hR dX12_cause_45 (lkX12_223 _ rfl) okV_X12_promised rfl rfl (m_promised (d := 4) (e := 6 * i17 + 1807) (by omega) (by omega) (by omega)) rfl rfl hdd (Nat.le_refl _) (Nat.le_refl _) (by decide) (pm_ki (fun v20 σ' cnt' hq => ?_))
              obtain ⟨rfl, rfl, rfl⟩ := hq
              refine pm_gen (fun x21 ex21 => ?_)
              refine pm_iloadn hG dX12_cause_48 rfl ?_
              refine pm_top (v := nI k3) ek3 ?_
              refine pm_icmp_ne (tgt := 74) hG dX12_cause_49 rfl (fun c22 => ?_) (fun c22 => ?_)
              · refine pm_iincX (v := nI (i17 + 1)) (loc' := [some (.ref (B + 54)), some (.int za), some (.int zb), some (.int (nI (i17 + 1))), none]) hG dX12_cause_74 rfl (nI_1 _) (by decide) (pm_c1b rfl) rfl ?_
                refine pm_goto (tgt := 31) hG dX12_cause_77 rfl ?_
                exact ih17 I17 A17 (i17 + 1) (by omega) (by omega)
              · refine pm_aloadn hG dX12_cause_52 rfl ?_
                refine pm_iloadn hG dX12_cause_53 rfl ?_
                refine pm_iconst (v := nI 3) hG dX12_cause_54 (by decide) ?_
                refine pm_callV (As := [.int (nI i17), .int (nI 3)]) (rest := []) hG hR dX12_cause_55 (lkX12_223 _ rfl) okV_X12_promised rfl rfl (m_promised (d := 4) (e := 6 * i17 + 1809) (by omega) (by omega) (by omega)) rfl rfl hdd (Nat.le_refl _) (Nat.le_refl _) (by decide) (pm_ki (fun v23 σ' cnt' hq => ?_))
                obtain ⟨rfl, rfl, rfl⟩ := hq
                refine pm_gen (fun x24 ex24 => ?_)
                refine pm_iconst (v := nI 1) hG dX12_cause_58 (by decide) ?_
                refine pm_icmp_ne (tgt := 74) hG dX12_cause_59 rfl (fun c25 => ?_) (fun c25 => ?_)
                · refine pm_iincX (v := nI (i17 + 1)) (loc' := [some (.ref (B + 54)), some (.int za), some (.int zb), some (.int (nI (i17 + 1))), none]) hG dX12_cause_74 rfl (nI_1 _) (by decide) (pm_c1b rfl) rfl ?_
                  refine pm_goto (tgt := 31) hG dX12_cause_77 rfl ?_
                  exact ih17 I17 A17 (i17 + 1) (by omega) (by omega)
                · refine pm_aloadn hG dX12_cause_62 rfl ?_
                  refine pm_iloadn hG dX12_cause_63 rfl ?_
                  refine pm_iconst (v := nI 4) hG dX12_cause_64 (by decide) ?_
                  refine pm_callV (As := [.int (nI i17), .int (nI 4)]) (rest := []) hG hR dX12_cause_65 (lkX12_223 _ rfl) okV_X12_promised rfl rfl (m_promised (d := 4) (e := 6 * i17 + 1810) (by omega) (by omega) (by omega)) rfl rfl hdd (Nat.le_refl _) (Nat.le_refl _) (by decide) (pm_ki (fun v26 σ' cnt' hq => ?_))
                  obtain ⟨rfl, rfl, rfl⟩ := hq
                  refine pm_gen (fun x27 ex27 => ?_)
                  refine pm_iconst (v := nI 1) hG dX12_cause_68 (by decide) ?_
                  refine pm_icmp_ne (tgt := 74) hG dX12_cause_69 rfl (fun c28 => ?_) (fun c28 => ?_)
                  · refine pm_iincX (v := nI (i17 + 1)) (loc' := [some (.ref (B + 54)), some (.int za), some (.int zb), some (.int (nI (i17 + 1))), none]) hG dX12_cause_74 rfl (nI_1 _) (by decide) (pm_c1b rfl) rfl ?_
                    refine pm_goto (tgt := 31) hG dX12_cause_77 rfl ?_
                    exact ih17 I17 A17 (i17 + 1) (by omega) (by omega)
                  · refine pm_iloadn hG dX12_cause_72 rfl ?_
                    exact pm_iret hG hF dX12_cause_73 rfl (Nat.le_refl _) (Nat.le_refl _) ⟨_, rfl, ⟨_, _, rfl⟩, rfl⟩
        exact loop31_17 _ I A 0 (by omega) (Nat.lt_succ_self _)
    · refine pm_ifN_ne (tgt := 24) hG dX12_cause_15 rfl (by omega) (fun q => absurd q (by omega)) (fun _ => ?_)
      refine pm_aloadn hG dX12_cause_18 rfl ?_
      refine pm_iconst (v := nI 1) hG dX12_cause_19 (by decide) ?_
      refine pm_callV (As := [.int (nI 1)]) (rest := []) hG hR dX12_cause_20 (lkX12_80 _ rfl) okV_X12_finds rfl rfl (m_finds (d := 4) (by decide) hn hz (by omega)) rfl rfl hdd (Nat.le_refl _) (Nat.le_refl _) (by decide) (pm_ki (fun v29 σ' cnt' hq => ?_))
      obtain ⟨⟨I30, A30, rfl⟩, rfl, fv29⟩ := hq
      exact pm_iret hG hF dX12_cause_23 rfl (Nat.le_refl _) (Nat.le_refl _) ⟨_, rfl, ⟨_, _, rfl⟩, rfl⟩
  · refine pm_ifN_eq (tgt := 18) hG dX12_cause_6 rfl (by omega) (fun _ => ?_) (fun q => absurd q (by omega))
    refine pm_aloadn hG dX12_cause_18 rfl ?_
    refine pm_iconst (v := nI 1) hG dX12_cause_19 (by decide) ?_
    refine pm_callV (As := [.int (nI 1)]) (rest := []) hG hR dX12_cause_20 (lkX12_80 _ rfl) okV_X12_finds rfl rfl (m_finds (d := 4) (by decide) hn hz (by omega)) rfl rfl hdd (Nat.le_refl _) (Nat.le_refl _) (by decide) (pm_ki (fun v31 σ' cnt' hq => ?_))
    obtain ⟨⟨I32, A32, rfl⟩, rfl, fv31⟩ := hq
    exact pm_iret hG hF dX12_cause_23 rfl (Nat.le_refl _) (Nat.le_refl _) ⟨_, rfl, ⟨_, _, rfl⟩, rfl⟩

set_option maxRecDepth 100000 in
set_option maxHeartbeats 4000000 in
theorem m_check {d B cnt p0 t0 : Nat} {σ : pm_S} {I : Nat → Int32} {A : Nat → Nat → Int32} {n k z : Nat → Int32} {ac wt pl im : Int32} (hdd : 1 ≤ d) (hn : KI n) (hr : NR n) (hz : SZ z)  : pm_met mX12_check d 0 0 B [.ref (B + 54)] cnt (pm_mid σ (md_L B I A n k z ac wt pl (nI p0) (nI t0) im)) (pm_Qi (fun v σ' cnt' => (∃ (n' : Nat → Int32), σ' = pm_mid σ (md_L B I A n' k z ac wt pl (nI p0) (nI t0) im) ∧ KI n' ∧ NR n' ∧ n' 0 = n 0 ∧ n' 2 = n 2 ∧ n' 7 = n 7 ∧ n' 8 = n 8 ∧ KS n' n) ∧ cnt = cnt')) := by
  obtain ⟨kc0, hkc0, ekc0⟩ := KI.nat hn (show kd 0 = (1, 11, true) by decide)
  obtain ⟨kc2, hkc2, ekc2⟩ := KI.nat hn (show kd 2 = (1, 21, true) by decide)
  obtain ⟨kc7, hkc7, ekc7⟩ := KI.nat hn (show kd 7 = (1, 31, false) by decide)
  obtain ⟨kc8, hkc8, ekc8⟩ := KI.nat hn (show kd 8 = (1, 2001, false) by decide)
  refine pm_enter 3 (by decide) (Nat.le_of_ble_eq_true rfl) rfl (fun G hG hR hF => ?_)
  refine pm_aloadn hG dX12_check_0 rfl ?_
  refine pm_getf hG dX12_check_1 (flX12_7 _ rfl) rfl rfl ?_
  refine pm_bipush (v := nI 11) hG dX12_check_4 (by decide) ?_
  refine pm_ialdN hG dX12_check_6 rfl (by decide) (by omega) ?_
  obtain ⟨k1, hk1, ek1⟩ := KI.nat hn (show kd 11 = (1, 21, false) by decide)
  refine pm_top (v := nI k1) ek1 ?_
  refine pm_istoreXn (loc' := [some (.ref (B + 54)), some (.int (nI k1)), none, none]) hG dX12_check_7 (by decide) (pm_c1b rfl) rfl ?_
  refine pm_aloadn hG dX12_check_8 rfl ?_
  refine pm_getf hG dX12_check_9 (flX12_7 _ rfl) rfl rfl ?_
  refine pm_bipush (v := nI 11) hG dX12_check_12 (by decide) ?_
  refine pm_iconst (v := nI 0) hG dX12_check_14 (by decide) ?_
  refine pm_iastN hG dX12_check_15 rfl (by decide) (by omega) ?_
  refine mdn_now (fun n_2 en_2 => ?_)
  have hnn_2 := KI.w en_2 hn (okv_n (show kd 11 = (1, 21, false) by decide) (by omega))
  have hrn_2 := NRx.w en_2 hr (by rw [(show kd 11 = (1, 21, false) by decide)])
  have ksn_2 := KS.w en_2 KS.rf (by unfold tS; omega)
  have e3 : n_2 0 = nI kc0 := by rw [en_2, pk_un (by omega)]; exact ekc0
  have e4 : n_2 2 = nI kc2 := by rw [en_2, pk_un (by omega)]; exact ekc2
  have e5 : n_2 7 = nI kc7 := by rw [en_2, pk_un (by omega)]; exact ekc7
  have e6 : n_2 8 = nI kc8 := by rw [en_2, pk_un (by omega)]; exact ekc8
  have e7 : n_2 11 = nI 0 := by rw [en_2, pk_us]
  refine pm_iconst (v := nI 0) hG dX12_check_16 (by decide) ?_
  refine pm_istoreXn (loc' := [some (.ref (B + 54)), some (.int (nI k1)), some (.int (nI 0)), none]) hG dX12_check_17 (by decide) (pm_c1b rfl) rfl ?_
  have loop18_8 : ∀ (m8 : Nat) (n_8 : Nat → Int32) (i8 : Nat), KI n_8 → KS n_8 n → NRx 40 n_8 → n_8 0 = nI kc0 → n_8 2 = nI kc2 → n_8 7 = nI kc7 → n_8 8 = nI kc8 → i8 ≤ 20 → 20 - i8 < m8 → pm_wp mX12_check G B 18 [some (.ref (B + 54)), some (.int (nI k1)), some (.int (nI i8)), none] [] 0 0 cnt (pm_mid σ (md_L B I A n_8 k z ac wt pl (nI p0) (nI t0) im)) := by
    intro m8
    induction m8 with
    | zero => intro n_8 i8 _ _ _ _ _ _ _ _ hm; exact absurd hm (Nat.not_lt_zero _)
    | succ m8 ih8 =>
      intro n_8 i8 hnn_8 ksn_8 hrn_8 kc8_0 kc8_2 kc8_7 kc8_8 hi8 hm8
      refine pm_iloadn hG dX12_check_18 rfl ?_
      refine pm_iloadn hG dX12_check_19 rfl ?_
      refine pm_icmpN_ge (tgt := 111) hG dX12_check_20 rfl (by omega) (by omega) (fun c9 => ?_) (fun c9 => ?_)
      · refine pm_iconst (v := nI 0) hG dX12_check_111 (by decide) ?_
        exact pm_iret hG hF dX12_check_112 rfl (Nat.le_refl _) (Nat.le_refl _) ⟨_, rfl, ⟨_, rfl, hnn_8, hrn_8, kc8_0.trans ekc0.symm, kc8_2.trans ekc2.symm, kc8_7.trans ekc7.symm, kc8_8.trans ekc8.symm, ksn_8⟩, rfl⟩
      · refine pm_iloadn hG dX12_check_23 rfl ?_
        refine pm_aloadn hG dX12_check_24 rfl ?_
        refine pm_getf hG dX12_check_25 (flX12_7 _ rfl) rfl rfl ?_
        refine pm_iconst (v := nI 2) hG dX12_check_28 (by decide) ?_
        refine pm_ialdN hG dX12_check_29 rfl (by decide) (by omega) ?_
        refine pm_top (v := nI kc2) kc8_2 ?_
        refine pm_icmpN_ge (tgt := 61) hG dX12_check_30 rfl (by omega) (by omega) (fun c10 => ?_) (fun c10 => ?_)
        · refine pm_iloadn hG dX12_check_61 rfl ?_
          refine pm_aloadn hG dX12_check_62 rfl ?_
          refine pm_getf hG dX12_check_63 (flX12_7 _ rfl) rfl rfl ?_
          refine pm_iconst (v := nI 2) hG dX12_check_66 (by decide) ?_
          refine pm_ialdN hG dX12_check_67 rfl (by decide) (by omega) ?_
          refine pm_top (v := nI kc2) kc8_2 ?_
          refine pm_icmpN_ne (tgt := 95) hG dX12_check_68 rfl (by omega) (by omega) (fun c11 => ?_) (fun c11 => ?_)
          · refine pm_iconst (v := nI 0) hG dX12_check_95 (by decide) ?_
            refine pm_istoreXn (loc' := [some (.ref (B + 54)), some (.int (nI k1)), some (.int (nI i8)), some (.int (nI 0))]) hG dX12_check_96 (by decide) (pm_c1b rfl) rfl ?_
            refine pm_iloadn hG dX12_check_97 rfl ?_
            refine pm_ifN_ne (tgt := 105) hG dX12_check_98 rfl (by omega) (fun q => absurd q (by omega)) (fun _ => ?_)
            refine pm_iconst (v := nI 1) hG dX12_check_101 (by decide) ?_
            refine pm_iloadn hG dX12_check_102 rfl ?_
            refine pm_iaddN (c := i8 + 1) hG dX12_check_103 (by omega) ?_
            exact pm_iret hG hF dX12_check_104 rfl (Nat.le_refl _) (Nat.le_refl _) ⟨_, rfl, ⟨_, rfl, hnn_8, hrn_8, kc8_0.trans ekc0.symm, kc8_2.trans ekc2.symm, kc8_7.trans ekc7.symm, kc8_8.trans ekc8.symm, ksn_8⟩, rfl⟩
          · refine pm_aloadn hG dX12_check_71 rfl ?_
            refine pm_getf hG dX12_check_72 (flX12_7 _ rfl) rfl rfl ?_
            refine pm_sipush (v := nI 2051) hG dX12_check_75 (by decide) ?_
            refine pm_iloadn hG dX12_check_78 rfl ?_
            refine pm_iaddN (c := i8 + 2051) hG dX12_check_79 (by omega) ?_
            refine pm_ialdN hG dX12_check_80 rfl (by decide) (by omega) ?_
            refine pm_gen (fun x12 ex12 => ?_)
            refine pm_aloadn hG dX12_check_81 rfl ?_
            refine pm_getf hG dX12_check_82 (flX12_7 _ rfl) rfl rfl ?_
            refine pm_bipush (v := nI 9) hG dX12_check_85 (by decide) ?_
            refine pm_ialdN hG dX12_check_87 rfl (by decide) (by omega) ?_
            refine pm_gen (fun x13 ex13 => ?_)
            refine pm_icmp_ne (tgt := 95) hG dX12_check_88 rfl (fun c14 => ?_) (fun c14 => ?_)
            · refine pm_iconst (v := nI 0) hG dX12_check_95 (by decide) ?_
              refine pm_istoreXn (loc' := [some (.ref (B + 54)), some (.int (nI k1)), some (.int (nI i8)), some (.int (nI 0))]) hG dX12_check_96 (by decide) (pm_c1b rfl) rfl ?_
              refine pm_iloadn hG dX12_check_97 rfl ?_
              refine pm_ifN_ne (tgt := 105) hG dX12_check_98 rfl (by omega) (fun q => absurd q (by omega)) (fun _ => ?_)
              refine pm_iconst (v := nI 1) hG dX12_check_101 (by decide) ?_
              refine pm_iloadn hG dX12_check_102 rfl ?_
              refine pm_iaddN (c := i8 + 1) hG dX12_check_103 (by omega) ?_
              exact pm_iret hG hF dX12_check_104 rfl (Nat.le_refl _) (Nat.le_refl _) ⟨_, rfl, ⟨_, rfl, hnn_8, hrn_8, kc8_0.trans ekc0.symm, kc8_2.trans ekc2.symm, kc8_7.trans ekc7.symm, kc8_8.trans ekc8.symm, ksn_8⟩, rfl⟩
            · refine pm_iconst (v := nI 1) hG dX12_check_91 (by decide) ?_
              refine pm_goto (tgt := 96) hG dX12_check_92 rfl ?_
              refine pm_istoreXn (loc' := [some (.ref (B + 54)), some (.int (nI k1)), some (.int (nI i8)), some (.int (nI 1))]) hG dX12_check_96 (by decide) (pm_c1b rfl) rfl ?_
              refine pm_iloadn hG dX12_check_97 rfl ?_
              refine pm_ifN_ne (tgt := 105) hG dX12_check_98 rfl (by omega) (fun _ => ?_) (fun q => absurd q (by omega))
              refine pm_iincX (v := nI (i8 + 1)) (loc' := [some (.ref (B + 54)), some (.int (nI k1)), some (.int (nI (i8 + 1))), some (.int (nI 1))]) hG dX12_check_105 rfl (nI_1 _) (by decide) (pm_c1b rfl) rfl ?_
              refine pm_goto (tgt := 18) hG dX12_check_108 rfl ?_
              refine pm_fg 3 (loc' := [some (.ref (B + 54)), some (.int (nI k1)), some (.int (nI (i8 + 1))), none]) rfl ?_
              exact ih8 n_8 (i8 + 1) hnn_8 ksn_8 hrn_8 (kc8_0.trans (congrArg nI (by omega))) (kc8_2.trans (congrArg nI (by omega))) (kc8_7.trans (congrArg nI (by omega))) (kc8_8.trans (congrArg nI (by omega))) (by omega) (by omega)
        · refine pm_aloadn hG dX12_check_33 rfl ?_
          refine pm_getf hG dX12_check_34 (flX12_7 _ rfl) rfl rfl ?_
          refine pm_sipush (v := nI 2051) hG dX12_check_37 (by decide) ?_
          refine pm_iloadn hG dX12_check_40 rfl ?_
          refine pm_iaddN (c := i8 + 2051) hG dX12_check_41 (by omega) ?_
          refine pm_ialdN hG dX12_check_42 rfl (by decide) (by omega) ?_
          refine pm_gen (fun x15 ex15 => ?_)
          refine pm_aloadn hG dX12_check_43 rfl ?_
          refine pm_iloadn hG dX12_check_44 rfl ?_
          refine pm_bipush (v := nI 7) hG dX12_check_45 (by decide) ?_
          refine pm_callV (As := [.int (nI i8), .int (nI 7)]) (rest := [.int x15]) hG hR dX12_check_47 (lkX12_72 _ rfl) okV_X12_man rfl rfl (m_man (d := 0) (e := 14 * i8 + 117) (by omega) (by omega) (by omega)) rfl rfl hdd (Nat.le_refl _) (Nat.le_refl _) (Nat.le_of_ble_eq_true rfl) (pm_ki (fun v16 σ' cnt' hq => ?_))
          obtain ⟨rfl, rfl, rfl⟩ := hq
          refine pm_gen (fun x17 ex17 => ?_)
          refine pm_icmp_ne (tgt := 57) hG dX12_check_50 rfl (fun c18 => ?_) (fun c18 => ?_)
          · refine pm_iconst (v := nI 0) hG dX12_check_57 (by decide) ?_
            refine pm_goto (tgt := 96) hG dX12_check_58 rfl ?_
            refine pm_istoreXn (loc' := [some (.ref (B + 54)), some (.int (nI k1)), some (.int (nI i8)), some (.int (nI 0))]) hG dX12_check_96 (by decide) (pm_c1b rfl) rfl ?_
            refine pm_iloadn hG dX12_check_97 rfl ?_
            refine pm_ifN_ne (tgt := 105) hG dX12_check_98 rfl (by omega) (fun q => absurd q (by omega)) (fun _ => ?_)
            refine pm_iconst (v := nI 1) hG dX12_check_101 (by decide) ?_
            refine pm_iloadn hG dX12_check_102 rfl ?_
            refine pm_iaddN (c := i8 + 1) hG dX12_check_103 (by omega) ?_
            exact pm_iret hG hF dX12_check_104 rfl (Nat.le_refl _) (Nat.le_refl _) ⟨_, rfl, ⟨_, rfl, hnn_8, hrn_8, kc8_0.trans ekc0.symm, kc8_2.trans ekc2.symm, kc8_7.trans ekc7.symm, kc8_8.trans ekc8.symm, ksn_8⟩, rfl⟩
          · refine pm_iconst (v := nI 1) hG dX12_check_53 (by decide) ?_
            refine pm_goto (tgt := 96) hG dX12_check_54 rfl ?_
            refine pm_istoreXn (loc' := [some (.ref (B + 54)), some (.int (nI k1)), some (.int (nI i8)), some (.int (nI 1))]) hG dX12_check_96 (by decide) (pm_c1b rfl) rfl ?_
            refine pm_iloadn hG dX12_check_97 rfl ?_
            refine pm_ifN_ne (tgt := 105) hG dX12_check_98 rfl (by omega) (fun _ => ?_) (fun q => absurd q (by omega))
            refine pm_iincX (v := nI (i8 + 1)) (loc' := [some (.ref (B + 54)), some (.int (nI k1)), some (.int (nI (i8 + 1))), some (.int (nI 1))]) hG dX12_check_105 rfl (nI_1 _) (by decide) (pm_c1b rfl) rfl ?_
            refine pm_goto (tgt := 18) hG dX12_check_108 rfl ?_
            refine pm_fg 3 (loc' := [some (.ref (B + 54)), some (.int (nI k1)), some (.int (nI (i8 + 1))), none]) rfl ?_
            exact ih8 n_8 (i8 + 1) hnn_8 ksn_8 hrn_8 (kc8_0.trans (congrArg nI (by omega))) (kc8_2.trans (congrArg nI (by omega))) (kc8_7.trans (congrArg nI (by omega))) (kc8_8.trans (congrArg nI (by omega))) (by omega) (by omega)
  exact loop18_8 _ n_2 0 hnn_2 ksn_2 hrn_2 (e3.trans (congrArg nI (by omega))) (e4.trans (congrArg nI (by omega))) (e5.trans (congrArg nI (by omega))) (e6.trans (congrArg nI (by omega))) (by omega) (Nat.lt_succ_self _)

set_option maxRecDepth 100000 in
set_option maxHeartbeats 4000000 in
theorem m_newPower_n20 {d B cnt p0 t0 : Nat} {σ : pm_S} {I : Nat → Int32} {A : Nat → Nat → Int32} {n k z : Nat → Int32} {ac wt pl im : Int32} {za zc zd : Int32} {bb c0 : Nat} (hdd : 2 ≤ d) (hn : KI n) (hr : NR n) (hz : SZ z) (hbb : bb < 20) (ec0 : n 3 = nI c0) (hc0 : c0 < 20) : pm_met mX12_newPower d 0 0 B [.ref (B + 54), .int za, .int (nI bb), .int zc, .int zd] cnt (pm_mid σ (md_L B I A n k z ac wt pl (nI p0) (nI t0) im)) (pm_Qi (fun v σ' cnt' => (∃ (n' : Nat → Int32), σ' = pm_mid σ (md_L B I A n' k z ac wt pl (nI p0) (nI t0) im) ∧ KI n' ∧ NR n' ∧ n' 0 = n 0 ∧ n' 2 = n 2 ∧ n' 7 = n 7 ∧ n' 8 = n 8 ∧ KS n' n) ∧ cnt = cnt')) := by
  obtain ⟨kc0, hkc0, ekc0⟩ := KI.nat hn (show kd 0 = (1, 11, true) by decide)
  obtain ⟨kc2, hkc2, ekc2⟩ := KI.nat hn (show kd 2 = (1, 21, true) by decide)
  obtain ⟨kc7, hkc7, ekc7⟩ := KI.nat hn (show kd 7 = (1, 31, false) by decide)
  obtain ⟨kc8, hkc8, ekc8⟩ := KI.nat hn (show kd 8 = (1, 2001, false) by decide)
  refine pm_enter 1 (by decide) (Nat.le_of_ble_eq_true rfl) rfl (fun G hG hR hF => ?_)
  refine pm_aloadn hG dX12_newPower_0 rfl ?_
  refine pm_getf hG dX12_newPower_1 (flX12_7 _ rfl) rfl rfl ?_
  refine pm_iconst (v := nI 3) hG dX12_newPower_4 (by decide) ?_
  refine pm_ialdN hG dX12_newPower_5 rfl (by decide) (by omega) ?_
  refine pm_top (v := nI c0) ec0 ?_
  refine pm_istoreXi (loc' := [some (.ref (B + 54)), some (.int za), some (.int (nI bb)), some (.int zc), some (.int zd), some (.int (nI c0))]) hG dX12_newPower_6 (by decide) (pm_c1b rfl) rfl ?_
  refine pm_aloadn hG dX12_newPower_8 rfl ?_
  refine pm_getf hG dX12_newPower_9 (flX12_7 _ rfl) rfl rfl ?_
  refine pm_iconst (v := nI 3) hG dX12_newPower_12 (by decide) ?_
  refine pm_dup2 hG dX12_newPower_13 rfl rfl ?_
  refine pm_ialdN hG dX12_newPower_14 rfl (by decide) (by omega) ?_
  refine pm_top (v := nI c0) ec0 ?_
  refine pm_iconst (v := nI 1) hG dX12_newPower_15 (by decide) ?_
  refine pm_iaddN (c := c0 + 1) hG dX12_newPower_16 (by omega) ?_
  refine pm_iastN hG dX12_newPower_17 rfl (by decide) (by omega) ?_
  refine mdn_now (fun n_1 en_1 => ?_)
  have hnn_1 := KI.w en_1 hn (okv_n (show kd 3 = (1, 21, false) by decide) (by omega))
  have hrn_1 := NRx.w en_1 hr (by rw [(show kd 3 = (1, 21, false) by decide)])
  have ksn_1 := KS.w en_1 KS.rf (by unfold tS; omega)
  have e2 : n_1 0 = nI kc0 := by rw [en_1, pk_un (by omega)]; exact ekc0
  have e3 : n_1 2 = nI kc2 := by rw [en_1, pk_un (by omega)]; exact ekc2
  have e4 : n_1 7 = nI kc7 := by rw [en_1, pk_un (by omega)]; exact ekc7
  have e5 : n_1 8 = nI kc8 := by rw [en_1, pk_un (by omega)]; exact ekc8
  have e6 : n_1 3 = nI (c0 + 1) := by rw [en_1, pk_us]
  refine pm_aloadn hG dX12_newPower_18 rfl ?_
  refine pm_iloadi hG dX12_newPower_19 rfl ?_
  refine pm_iconst (v := nI 0) hG dX12_newPower_21 (by decide) ?_
  refine pm_iloadn hG dX12_newPower_22 rfl ?_
  refine pm_callV (As := [.int (nI c0), .int (nI 0), .int za]) (rest := []) hG hR dX12_newPower_23 (lkX12_113 _ rfl) okV_X12_makes rfl rfl (m_makes (d := 1) (e := 6 * c0 + 390) (by omega) (by omega) (by omega)) rfl rfl hdd (Nat.le_refl _) (Nat.le_refl _) (by decide) (pm_kv (fun σ' cnt' hq => ?_))
  obtain ⟨rfl, rfl⟩ := hq
  obtain ⟨n_7, en_7⟩ : ∃ f : Nat → Int32, f = upd n_1 (6 * c0 + 390) za := ⟨_, rfl⟩
  rw [← en_7]
  have hnn_7 := KI.w en_7 hnn_1 (okv_f (show kd (6 * c0 + 390) = (0, 0, false) from (kd_W (k := c0) (c := 0) (by omega) (by omega) (by decide))))
  have hrn_7 := NRx.w en_7 hrn_1 (by rw [(show kd (6 * c0 + 390) = (0, 0, false) from (kd_W (k := c0) (c := 0) (by omega) (by omega) (by decide)))])
  have ksn_7 := KS.w en_7 ksn_1 (by unfold tS; omega)
  have e8 : n_7 0 = nI kc0 := by rw [en_7, pk_un (by omega)]; exact e2
  have e9 : n_7 2 = nI kc2 := by rw [en_7, pk_un (by omega)]; exact e3
  have e10 : n_7 7 = nI kc7 := by rw [en_7, pk_un (by omega)]; exact e4
  have e11 : n_7 8 = nI kc8 := by rw [en_7, pk_un (by omega)]; exact e5
  have e12 : n_7 3 = nI (c0 + 1) := by rw [en_7, pk_un (by omega)]; exact e6
  have e13 : n_7 (6 * c0 + 390) = za := by rw [en_7, pk_us]
  refine pm_aloadn hG dX12_newPower_26 rfl ?_
  refine pm_iloadi hG dX12_newPower_27 rfl ?_
  refine pm_iconst (v := nI 1) hG dX12_newPower_29 (by decide) ?_
  refine pm_iloadn hG dX12_newPower_30 rfl ?_
  refine pm_callV (As := [.int (nI c0), .int (nI 1), .int (nI bb)]) (rest := []) hG hR dX12_newPower_31 (lkX12_113 _ rfl) okV_X12_makes rfl rfl (m_makes (d := 1) (e := 6 * c0 + 391) (by omega) (by omega) (by omega)) rfl rfl hdd (Nat.le_refl _) (Nat.le_refl _) (by decide) (pm_kv (fun σ' cnt' hq => ?_))
  obtain ⟨rfl, rfl⟩ := hq
  obtain ⟨n_14, en_14⟩ : ∃ f : Nat → Int32, f = upd n_7 (6 * c0 + 391) (nI bb) := ⟨_, rfl⟩
  rw [← en_14]
  have hnn_14 := KI.w en_14 hnn_7 (okv_o (show kd (6 * c0 + 391) = (2, 20, false) from (kd_W (k := c0) (c := 1) (by omega) (by omega) (by decide))) (by omega))
  have hrn_14 := NRx.w en_14 hrn_7 (by rw [(show kd (6 * c0 + 391) = (2, 20, false) from (kd_W (k := c0) (c := 1) (by omega) (by omega) (by decide)))])
  have ksn_14 := KS.w en_14 ksn_7 (by unfold tS; omega)
  have e15 : n_14 0 = nI kc0 := by rw [en_14, pk_un (by omega)]; exact e8
  have e16 : n_14 2 = nI kc2 := by rw [en_14, pk_un (by omega)]; exact e9
  have e17 : n_14 7 = nI kc7 := by rw [en_14, pk_un (by omega)]; exact e10
  have e18 : n_14 8 = nI kc8 := by rw [en_14, pk_un (by omega)]; exact e11
  have e19 : n_14 3 = nI (c0 + 1) := by rw [en_14, pk_un (by omega)]; exact e12
  have e20 : n_14 (6 * c0 + 390) = za := by rw [en_14, pk_un (by omega)]; exact e13
  have e21 : n_14 (6 * c0 + 391) = nI bb := by rw [en_14, pk_us]
  refine pm_aloadn hG dX12_newPower_34 rfl ?_
  refine pm_iloadi hG dX12_newPower_35 rfl ?_
  refine pm_iconst (v := nI 4) hG dX12_newPower_37 (by decide) ?_
  refine pm_iloadn hG dX12_newPower_38 rfl ?_
  refine pm_callV (As := [.int (nI c0), .int (nI 4), .int zc]) (rest := []) hG hR dX12_newPower_39 (lkX12_113 _ rfl) okV_X12_makes rfl rfl (m_makes (d := 1) (e := 6 * c0 + 394) (by omega) (by omega) (by omega)) rfl rfl hdd (Nat.le_refl _) (Nat.le_refl _) (by decide) (pm_kv (fun σ' cnt' hq => ?_))
  obtain ⟨rfl, rfl⟩ := hq
  obtain ⟨n_22, en_22⟩ : ∃ f : Nat → Int32, f = upd n_14 (6 * c0 + 394) zc := ⟨_, rfl⟩
  rw [← en_22]
  have hnn_22 := KI.w en_22 hnn_14 (okv_f (show kd (6 * c0 + 394) = (0, 0, false) from (kd_W (k := c0) (c := 4) (by omega) (by omega) (by decide))))
  have hrn_22 := NRx.w en_22 hrn_14 (by rw [(show kd (6 * c0 + 394) = (0, 0, false) from (kd_W (k := c0) (c := 4) (by omega) (by omega) (by decide)))])
  have ksn_22 := KS.w en_22 ksn_14 (by unfold tS; omega)
  have e23 : n_22 0 = nI kc0 := by rw [en_22, pk_un (by omega)]; exact e15
  have e24 : n_22 2 = nI kc2 := by rw [en_22, pk_un (by omega)]; exact e16
  have e25 : n_22 7 = nI kc7 := by rw [en_22, pk_un (by omega)]; exact e17
  have e26 : n_22 8 = nI kc8 := by rw [en_22, pk_un (by omega)]; exact e18
  have e27 : n_22 3 = nI (c0 + 1) := by rw [en_22, pk_un (by omega)]; exact e19
  have e28 : n_22 (6 * c0 + 390) = za := by rw [en_22, pk_un (by omega)]; exact e20
  have e29 : n_22 (6 * c0 + 391) = nI bb := by rw [en_22, pk_un (by omega)]; exact e21
  have e30 : n_22 (6 * c0 + 394) = zc := by rw [en_22, pk_us]
  refine pm_aloadn hG dX12_newPower_42 rfl ?_
  refine pm_iloadi hG dX12_newPower_43 rfl ?_
  refine pm_iconst (v := nI 5) hG dX12_newPower_45 (by decide) ?_
  refine pm_iloadi hG dX12_newPower_46 rfl ?_
  refine pm_if_ge (tgt := 56) hG dX12_newPower_48 rfl (fun c31 => ?_) (fun c31 => ?_)
  · obtain ⟨k32, hk32, ek32⟩ := nI_of (Int32.not_lt.mpr c31)
    refine pm_iloadi hG dX12_newPower_56 rfl ?_
    refine pm_top (v := nI k32) ek32 ?_
    refine pm_callV (As := [.int (nI c0), .int (nI 5), .int (nI k32)]) (rest := []) hG hR dX12_newPower_58 (lkX12_113 _ rfl) okV_X12_makes rfl rfl (m_makes (d := 1) (e := 6 * c0 + 395) (by omega) (by omega) (by omega)) rfl rfl hdd (Nat.le_refl _) (Nat.le_refl _) (by decide) (pm_kv (fun σ' cnt' hq => ?_))
    obtain ⟨rfl, rfl⟩ := hq
    obtain ⟨n_33, en_33⟩ : ∃ f : Nat → Int32, f = upd n_22 (6 * c0 + 395) (nI k32) := ⟨_, rfl⟩
    rw [← en_33]
    have hnn_33 := KI.w en_33 hnn_22 (okv_f (show kd (6 * c0 + 395) = (0, 0, false) from (kd_W (k := c0) (c := 5) (by omega) (by omega) (by decide))))
    have hrn_33 := NRx.w en_33 hrn_22 (by rw [(show kd (6 * c0 + 395) = (0, 0, false) from (kd_W (k := c0) (c := 5) (by omega) (by omega) (by decide)))])
    have ksn_33 := KS.w en_33 ksn_22 (by unfold tS; omega)
    have e34 : n_33 0 = nI kc0 := by rw [en_33, pk_un (by omega)]; exact e23
    have e35 : n_33 2 = nI kc2 := by rw [en_33, pk_un (by omega)]; exact e24
    have e36 : n_33 7 = nI kc7 := by rw [en_33, pk_un (by omega)]; exact e25
    have e37 : n_33 8 = nI kc8 := by rw [en_33, pk_un (by omega)]; exact e26
    have e38 : n_33 3 = nI (c0 + 1) := by rw [en_33, pk_un (by omega)]; exact e27
    have e39 : n_33 (6 * c0 + 390) = za := by rw [en_33, pk_un (by omega)]; exact e28
    have e40 : n_33 (6 * c0 + 391) = nI bb := by rw [en_33, pk_un (by omega)]; exact e29
    have e41 : n_33 (6 * c0 + 394) = zc := by rw [en_33, pk_un (by omega)]; exact e30
    have e42 : n_33 (6 * c0 + 395) = nI k32 := by rw [en_33, pk_us]
    refine pm_aloadn hG dX12_newPower_61 rfl ?_
    refine pm_iloadi hG dX12_newPower_62 rfl ?_
    refine pm_callV (As := [.int (nI c0)]) (rest := []) hG hR dX12_newPower_64 (lkX12_116 _ rfl) okV_X12_comesBack rfl rfl (m_comesBack (d := 1) (e := 6 * c0 + 392) (e2 := 6 * c0 + 393) (by decide) (by omega) (by omega) (by omega)) rfl rfl hdd (Nat.le_refl _) (Nat.le_refl _) (by decide) (pm_kv (fun σ' cnt' hq => ?_))
    obtain ⟨rfl, rfl⟩ := hq
    obtain ⟨n_43, en_43⟩ : ∃ f : Nat → Int32, f = upd n_33 (6 * c0 + 392) (-1) := ⟨_, rfl⟩
    rw [← en_43]
    have hnn_43 := KI.w en_43 hnn_33 (okv_m (show kd (6 * c0 + 392) = (2, 20, false) from (kd_W (k := c0) (c := 2) (by omega) (by omega) (by decide))))
    have hrn_43 := NRx.w en_43 hrn_33 (by rw [(show kd (6 * c0 + 392) = (2, 20, false) from (kd_W (k := c0) (c := 2) (by omega) (by omega) (by decide)))])
    have ksn_43 := KS.w en_43 ksn_33 (by unfold tS; omega)
    have e44 : n_43 0 = nI kc0 := by rw [en_43, pk_un (by omega)]; exact e34
    have e45 : n_43 2 = nI kc2 := by rw [en_43, pk_un (by omega)]; exact e35
    have e46 : n_43 7 = nI kc7 := by rw [en_43, pk_un (by omega)]; exact e36
    have e47 : n_43 8 = nI kc8 := by rw [en_43, pk_un (by omega)]; exact e37
    have e48 : n_43 3 = nI (c0 + 1) := by rw [en_43, pk_un (by omega)]; exact e38
    have e49 : n_43 (6 * c0 + 390) = za := by rw [en_43, pk_un (by omega)]; exact e39
    have e50 : n_43 (6 * c0 + 391) = nI bb := by rw [en_43, pk_un (by omega)]; exact e40
    have e51 : n_43 (6 * c0 + 394) = zc := by rw [en_43, pk_un (by omega)]; exact e41
    have e52 : n_43 (6 * c0 + 395) = nI k32 := by rw [en_43, pk_un (by omega)]; exact e42
    have e53 : n_43 (6 * c0 + 392) = (-1) := by rw [en_43, pk_us]
    obtain ⟨n_54, en_54⟩ : ∃ f : Nat → Int32, f = upd n_43 (6 * c0 + 393) (-1) := ⟨_, rfl⟩
    rw [← en_54]
    have hnn_54 := KI.w en_54 hnn_43 (okv_f (show kd (6 * c0 + 393) = (0, 0, false) from (kd_W (k := c0) (c := 3) (by omega) (by omega) (by decide))))
    have hrn_54 := NRx.w en_54 hrn_43 (by rw [(show kd (6 * c0 + 393) = (0, 0, false) from (kd_W (k := c0) (c := 3) (by omega) (by omega) (by decide)))])
    have ksn_54 := KS.w en_54 ksn_43 (by unfold tS; omega)
    have e55 : n_54 0 = nI kc0 := by rw [en_54, pk_un (by omega)]; exact e44
    have e56 : n_54 2 = nI kc2 := by rw [en_54, pk_un (by omega)]; exact e45
    have e57 : n_54 7 = nI kc7 := by rw [en_54, pk_un (by omega)]; exact e46
    have e58 : n_54 8 = nI kc8 := by rw [en_54, pk_un (by omega)]; exact e47
    have e59 : n_54 3 = nI (c0 + 1) := by rw [en_54, pk_un (by omega)]; exact e48
    have e60 : n_54 (6 * c0 + 390) = za := by rw [en_54, pk_un (by omega)]; exact e49
    have e61 : n_54 (6 * c0 + 391) = nI bb := by rw [en_54, pk_un (by omega)]; exact e50
    have e62 : n_54 (6 * c0 + 394) = zc := by rw [en_54, pk_un (by omega)]; exact e51
    have e63 : n_54 (6 * c0 + 395) = nI k32 := by rw [en_54, pk_un (by omega)]; exact e52
    have e64 : n_54 (6 * c0 + 392) = (-1) := by rw [en_54, pk_un (by omega)]; exact e53
    have e65 : n_54 (6 * c0 + 393) = (-1) := by rw [en_54, pk_us]
    refine pm_iloadi hG dX12_newPower_67 rfl ?_
    exact pm_iret hG hF dX12_newPower_69 rfl (Nat.le_refl _) (Nat.le_refl _) ⟨_, rfl, ⟨_, rfl, hnn_54, hrn_54, e55.trans ekc0.symm, e56.trans ekc2.symm, e57.trans ekc7.symm, e58.trans ekc8.symm, ksn_54⟩, rfl⟩
  · refine pm_iloadi hG dX12_newPower_51 rfl ?_
    refine pm_goto (tgt := 58) hG dX12_newPower_53 rfl ?_
    refine pm_callV (As := [.int (nI c0), .int (nI 5), .int (nI c0)]) (rest := []) hG hR dX12_newPower_58 (lkX12_113 _ rfl) okV_X12_makes rfl rfl (m_makes (d := 1) (e := 6 * c0 + 395) (by omega) (by omega) (by omega)) rfl rfl hdd (Nat.le_refl _) (Nat.le_refl _) (by decide) (pm_kv (fun σ' cnt' hq => ?_))
    obtain ⟨rfl, rfl⟩ := hq
    obtain ⟨n_66, en_66⟩ : ∃ f : Nat → Int32, f = upd n_22 (6 * c0 + 395) (nI c0) := ⟨_, rfl⟩
    rw [← en_66]
    have hnn_66 := KI.w en_66 hnn_22 (okv_f (show kd (6 * c0 + 395) = (0, 0, false) from (kd_W (k := c0) (c := 5) (by omega) (by omega) (by decide))))
    have hrn_66 := NRx.w en_66 hrn_22 (by rw [(show kd (6 * c0 + 395) = (0, 0, false) from (kd_W (k := c0) (c := 5) (by omega) (by omega) (by decide)))])
    have ksn_66 := KS.w en_66 ksn_22 (by unfold tS; omega)
    have e67 : n_66 0 = nI kc0 := by rw [en_66, pk_un (by omega)]; exact e23
    have e68 : n_66 2 = nI kc2 := by rw [en_66, pk_un (by omega)]; exact e24
    have e69 : n_66 7 = nI kc7 := by rw [en_66, pk_un (by omega)]; exact e25
    have e70 : n_66 8 = nI kc8 := by rw [en_66, pk_un (by omega)]; exact e26
    have e71 : n_66 3 = nI (c0 + 1) := by rw [en_66, pk_un (by omega)]; exact e27
    have e72 : n_66 (6 * c0 + 390) = za := by rw [en_66, pk_un (by omega)]; exact e28
    have e73 : n_66 (6 * c0 + 391) = nI bb := by rw [en_66, pk_un (by omega)]; exact e29
    have e74 : n_66 (6 * c0 + 394) = zc := by rw [en_66, pk_un (by omega)]; exact e30
    have e75 : n_66 (6 * c0 + 395) = nI c0 := by rw [en_66, pk_us]
    refine pm_aloadn hG dX12_newPower_61 rfl ?_
    refine pm_iloadi hG dX12_newPower_62 rfl ?_
    refine pm_callV (As := [.int (nI c0)]) (rest := []) hG hR dX12_newPower_64 (lkX12_116 _ rfl) okV_X12_comesBack rfl rfl (m_comesBack (d := 1) (e := 6 * c0 + 392) (e2 := 6 * c0 + 393) (by decide) (by omega) (by omega) (by omega)) rfl rfl hdd (Nat.le_refl _) (Nat.le_refl _) (by decide) (pm_kv (fun σ' cnt' hq => ?_))
    obtain ⟨rfl, rfl⟩ := hq
    obtain ⟨n_76, en_76⟩ : ∃ f : Nat → Int32, f = upd n_66 (6 * c0 + 392) (-1) := ⟨_, rfl⟩
    rw [← en_76]
    have hnn_76 := KI.w en_76 hnn_66 (okv_m (show kd (6 * c0 + 392) = (2, 20, false) from (kd_W (k := c0) (c := 2) (by omega) (by omega) (by decide))))
    have hrn_76 := NRx.w en_76 hrn_66 (by rw [(show kd (6 * c0 + 392) = (2, 20, false) from (kd_W (k := c0) (c := 2) (by omega) (by omega) (by decide)))])
    have ksn_76 := KS.w en_76 ksn_66 (by unfold tS; omega)
    have e77 : n_76 0 = nI kc0 := by rw [en_76, pk_un (by omega)]; exact e67
    have e78 : n_76 2 = nI kc2 := by rw [en_76, pk_un (by omega)]; exact e68
    have e79 : n_76 7 = nI kc7 := by rw [en_76, pk_un (by omega)]; exact e69
    have e80 : n_76 8 = nI kc8 := by rw [en_76, pk_un (by omega)]; exact e70
    have e81 : n_76 3 = nI (c0 + 1) := by rw [en_76, pk_un (by omega)]; exact e71
    have e82 : n_76 (6 * c0 + 390) = za := by rw [en_76, pk_un (by omega)]; exact e72
    have e83 : n_76 (6 * c0 + 391) = nI bb := by rw [en_76, pk_un (by omega)]; exact e73
    have e84 : n_76 (6 * c0 + 394) = zc := by rw [en_76, pk_un (by omega)]; exact e74
    have e85 : n_76 (6 * c0 + 395) = nI c0 := by rw [en_76, pk_un (by omega)]; exact e75
    have e86 : n_76 (6 * c0 + 392) = (-1) := by rw [en_76, pk_us]
    obtain ⟨n_87, en_87⟩ : ∃ f : Nat → Int32, f = upd n_76 (6 * c0 + 393) (-1) := ⟨_, rfl⟩
    rw [← en_87]
    have hnn_87 := KI.w en_87 hnn_76 (okv_f (show kd (6 * c0 + 393) = (0, 0, false) from (kd_W (k := c0) (c := 3) (by omega) (by omega) (by decide))))
    have hrn_87 := NRx.w en_87 hrn_76 (by rw [(show kd (6 * c0 + 393) = (0, 0, false) from (kd_W (k := c0) (c := 3) (by omega) (by omega) (by decide)))])
    have ksn_87 := KS.w en_87 ksn_76 (by unfold tS; omega)
    have e88 : n_87 0 = nI kc0 := by rw [en_87, pk_un (by omega)]; exact e77
    have e89 : n_87 2 = nI kc2 := by rw [en_87, pk_un (by omega)]; exact e78
    have e90 : n_87 7 = nI kc7 := by rw [en_87, pk_un (by omega)]; exact e79
    have e91 : n_87 8 = nI kc8 := by rw [en_87, pk_un (by omega)]; exact e80
    have e92 : n_87 3 = nI (c0 + 1) := by rw [en_87, pk_un (by omega)]; exact e81
    have e93 : n_87 (6 * c0 + 390) = za := by rw [en_87, pk_un (by omega)]; exact e82
    have e94 : n_87 (6 * c0 + 391) = nI bb := by rw [en_87, pk_un (by omega)]; exact e83
    have e95 : n_87 (6 * c0 + 394) = zc := by rw [en_87, pk_un (by omega)]; exact e84
    have e96 : n_87 (6 * c0 + 395) = nI c0 := by rw [en_87, pk_un (by omega)]; exact e85
    have e97 : n_87 (6 * c0 + 392) = (-1) := by rw [en_87, pk_un (by omega)]; exact e86
    have e98 : n_87 (6 * c0 + 393) = (-1) := by rw [en_87, pk_us]
    refine pm_iloadi hG dX12_newPower_67 rfl ?_
    exact pm_iret hG hF dX12_newPower_69 rfl (Nat.le_refl _) (Nat.le_refl _) ⟨_, rfl, ⟨_, rfl, hnn_87, hrn_87, e88.trans ekc0.symm, e89.trans ekc2.symm, e90.trans ekc7.symm, e91.trans ekc8.symm, ksn_87⟩, rfl⟩

set_option maxRecDepth 100000 in
set_option maxHeartbeats 4000000 in
theorem m_copy {d B cnt p0 t0 : Nat} {σ : pm_S} {I : Nat → Int32} {A : Nat → Nat → Int32} {n k z : Nat → Int32} {ac wt pl im : Int32} {za : Int32} (hdd : 3 ≤ d) (hn : KI n) (hr : NR n) (hz : SZ z)  : pm_met mX12_copy d 0 0 B [.ref (B + 54), .int za] cnt (pm_mid σ (md_L B I A n k z ac wt pl (nI p0) (nI t0) im)) (pm_Qi (fun v σ' cnt' => (∃ (I' : Nat → Int32) (A' : Nat → Nat → Int32) (n' : Nat → Int32), σ' = pm_mid σ (md_L B I' A' n' k z ac wt pl (nI p0) (nI t0) im) ∧ KI n' ∧ NR n' ∧ n' 0 = n 0 ∧ n' 2 = n 2 ∧ n' 7 = n 7 ∧ n' 8 = n 8 ∧ KS n' n) ∧ cnt = cnt')) := by
  obtain ⟨kc0, hkc0, ekc0⟩ := KI.nat hn (show kd 0 = (1, 11, true) by decide)
  obtain ⟨kc2, hkc2, ekc2⟩ := KI.nat hn (show kd 2 = (1, 21, true) by decide)
  obtain ⟨kc7, hkc7, ekc7⟩ := KI.nat hn (show kd 7 = (1, 31, false) by decide)
  obtain ⟨kc8, hkc8, ekc8⟩ := KI.nat hn (show kd 8 = (1, 2001, false) by decide)
  refine pm_enter 0 (by decide) (Nat.le_of_ble_eq_true rfl) rfl (fun G hG hR hF => ?_)
  refine pm_aloadn hG dX12_copy_0 rfl ?_
  refine pm_iloadn hG dX12_copy_1 rfl ?_
  obtain ⟨k1, hk1, ek1⟩ := KI.nat hn (show kd 3 = (1, 21, false) by decide)
  refine pm_callV (As := [.int za]) (rest := []) hG hR dX12_copy_2 (lkX12_132 _ rfl) okV_X12_isPower rfl rfl (m_isPower (d := 2) (by decide) ek1 (by omega)) rfl rfl hdd (Nat.le_refl _) (Nat.le_refl _) (by decide) (pm_ki (fun v2 σ' cnt' hq => ?_))
  obtain ⟨hq, rfl, rfl⟩ := hq
  rcases hq with ⟨rfl, k4, hk4, ek4⟩ | rfl
  · refine pm_ifN_ne (tgt := 14) hG dX12_copy_5 rfl (by omega) (fun _ => ?_) (fun q => absurd q (by omega))
    refine pm_aloadn hG dX12_copy_14 rfl ?_
    refine pm_iloadn hG dX12_copy_15 rfl ?_
    refine pm_top (v := nI k4) ek4 ?_
    refine pm_iconst (v := nI 0) hG dX12_copy_16 (by decide) ?_
    refine pm_callV (As := [.int (nI k4), .int (nI 0)]) (rest := []) hG hR dX12_copy_17 (lkX12_110 _ rfl) okV_X12_its rfl rfl (m_its (d := 2) (e := 6 * k4 + 390) (by omega) (by omega) (by omega)) rfl rfl hdd (Nat.le_refl _) (Nat.le_refl _) (by decide) (pm_ki (fun v5 σ' cnt' hq => ?_))
    obtain ⟨rfl, rfl, rfl⟩ := hq
    refine pm_gen (fun x6 ex6 => ?_)
    refine pm_iconst (v := nI 2) hG dX12_copy_20 (by decide) ?_
    refine pm_icmp_eq (tgt := 30) hG dX12_copy_21 rfl (fun c7 => ?_) (fun c7 => ?_)
    · refine pm_aloadn hG dX12_copy_30 rfl ?_
      refine pm_iloadn hG dX12_copy_31 rfl ?_
      refine pm_top (v := nI k4) ek4 ?_
      rcases KI.opt hn (show kd (6 * k4 + 392) = (2, 20, false) from (kd_W (k := k4) (c := 2) (by omega) (by omega) (by decide))) with ek8 | ⟨k8, hk8, ek8⟩
      · rcases KI.opt hn (show kd (6 * k4 + 391) = (2, 20, false) from (kd_W (k := k4) (c := 1) (by omega) (by omega) (by decide))) with ek9 | ⟨k9, hk9, ek9⟩
        · refine pm_callV (As := [.int (nI k4)]) (rest := []) hG hR dX12_copy_32 (lkX12_139 _ rfl) okV_X12_whoHas rfl rfl (m_whoHas0 (d := 2) (e := 6 * k4 + 392) (e2 := 6 * k4 + 391) (by decide) (by omega) (by omega) (by omega) ek8 ek9) rfl rfl hdd (Nat.le_refl _) (Nat.le_refl _) (by decide) (pm_ki (fun v10 σ' cnt' hq => ?_))
          obtain ⟨rfl, rfl, rfl⟩ := hq
          refine pm_if_ge (tgt := 44) hG dX12_copy_35 rfl (fun q => absurd q (by decide)) (fun _ => ?_)
          refine pm_aloadn hG dX12_copy_38 rfl ?_
          refine pm_iconst (v := nI 3) hG dX12_copy_39 (by decide) ?_
          refine pm_callV (As := [.int (nI 3)]) (rest := []) hG hR dX12_copy_40 (lkX12_80 _ rfl) okV_X12_finds rfl rfl (m_finds (d := 2) (by decide) hn hz (by omega)) rfl rfl hdd (Nat.le_refl _) (Nat.le_refl _) (by decide) (pm_ki (fun v11 σ' cnt' hq => ?_))
          obtain ⟨⟨I12, A12, rfl⟩, rfl, fv11⟩ := hq
          exact pm_iret hG hF dX12_copy_43 rfl (Nat.le_refl _) (Nat.le_refl _) ⟨_, rfl, ⟨_, _, _, rfl, hn, hr, ekc0.trans ekc0.symm, ekc2.trans ekc2.symm, ekc7.trans ekc7.symm, ekc8.trans ekc8.symm, KS.rf⟩, rfl⟩
        · refine pm_callV (As := [.int (nI k4)]) (rest := []) hG hR dX12_copy_32 (lkX12_139 _ rfl) okV_X12_whoHas rfl rfl (m_whoHas0 (d := 2) (e := 6 * k4 + 392) (e2 := 6 * k4 + 391) (by decide) (by omega) (by omega) (by omega) ek8 ek9) rfl rfl hdd (Nat.le_refl _) (Nat.le_refl _) (by decide) (pm_ki (fun v13 σ' cnt' hq => ?_))
          obtain ⟨rfl, rfl, rfl⟩ := hq
          refine pm_ifN_ge (tgt := 44) hG dX12_copy_35 rfl (by omega) ?_
          refine pm_aloadn hG dX12_copy_44 rfl ?_
          refine pm_getf hG dX12_copy_45 (flX12_7 _ rfl) rfl rfl ?_
          refine pm_iconst (v := nI 3) hG dX12_copy_48 (by decide) ?_
          refine pm_ialdN hG dX12_copy_49 rfl (by decide) (by omega) ?_
          refine pm_top (v := nI k1) ek1 ?_
          refine pm_bipush (v := nI 20) hG dX12_copy_50 (by decide) ?_
          refine pm_icmpN_ne (tgt := 63) hG dX12_copy_52 rfl (by omega) (by omega) (fun c14 => ?_) (fun c14 => ?_)
          · refine pm_aloadn hG dX12_copy_63 rfl ?_
            refine pm_iconst (v := nI 2) hG dX12_copy_64 (by decide) ?_
            refine pm_aloadn hG dX12_copy_65 rfl ?_
            refine pm_iloadn hG dX12_copy_66 rfl ?_
            refine pm_top (v := nI k4) ek4 ?_
            refine pm_callV (As := [.int (nI k4)]) (rest := [.int (nI 2), .ref (B + 54)]) hG hR dX12_copy_67 (lkX12_139 _ rfl) okV_X12_whoHas rfl rfl (m_whoHas0 (d := 2) (e := 6 * k4 + 392) (e2 := 6 * k4 + 391) (by decide) (by omega) (by omega) (by omega) ek8 ek9) rfl rfl hdd (Nat.le_refl _) (Nat.le_refl _) (Nat.le_of_ble_eq_true rfl) (pm_ki (fun v15 σ' cnt' hq => ?_))
            obtain ⟨rfl, rfl, rfl⟩ := hq
            refine pm_iconst (v := nI 0) hG dX12_copy_70 (by decide) ?_
            refine pm_aloadn hG dX12_copy_71 rfl ?_
            refine pm_iloadn hG dX12_copy_72 rfl ?_
            refine pm_top (v := nI k4) ek4 ?_
            refine pm_iconst (v := nI 5) hG dX12_copy_73 (by decide) ?_
            refine pm_callV (As := [.int (nI k4), .int (nI 5)]) (rest := [.int (nI 0), .int (nI k9), .int (nI 2), .ref (B + 54)]) hG hR dX12_copy_74 (lkX12_110 _ rfl) okV_X12_its rfl rfl (m_its (d := 2) (e := 6 * k4 + 395) (by omega) (by omega) (by omega)) rfl rfl hdd (Nat.le_refl _) (Nat.le_refl _) (Nat.le_of_ble_eq_true rfl) (pm_ki (fun v16 σ' cnt' hq => ?_))
            obtain ⟨rfl, rfl, rfl⟩ := hq
            refine pm_gen (fun x17 ex17 => ?_)
            refine pm_callV (As := [.int (nI 2), .int (nI k9), .int (nI 0), .int x17]) (rest := []) hG hR dX12_copy_77 (lkX12_128 _ rfl) okV_X12_newPower rfl rfl (m_newPower_n20 (d := 2) (by decide) hn hr hz (by omega) ek1 (by omega)) rfl rfl hdd (Nat.le_refl _) (Nat.le_refl _) (by decide) (pm_ki (fun v18 σ' cnt' hq => ?_))
            obtain ⟨⟨n_19, rfl, hn19, hr19, hc19_0, hc19_2, hc19_7, hc19_8, hks19⟩, rfl⟩ := hq
            have e20 : n_19 0 = nI kc0 := hc19_0.trans ekc0
            have e21 : n_19 2 = nI kc2 := hc19_2.trans ekc2
            have e22 : n_19 7 = nI kc7 := hc19_7.trans ekc7
            have e23 : n_19 8 = nI kc8 := hc19_8.trans ekc8
            exact pm_iret hG hF dX12_copy_80 rfl (Nat.le_refl _) (Nat.le_refl _) ⟨_, rfl, ⟨_, _, _, rfl, hn19, hr19, e20.trans ekc0.symm, e21.trans ekc2.symm, e22.trans ekc7.symm, e23.trans ekc8.symm, (hks19.tr KS.rf)⟩, rfl⟩
          · refine pm_aloadn hG dX12_copy_55 rfl ?_
            refine pm_iconst (v := nI 4) hG dX12_copy_56 (by decide) ?_
            refine pm_callV (As := [.int (nI 4)]) (rest := []) hG hR dX12_copy_57 (lkX12_80 _ rfl) okV_X12_finds rfl rfl (m_finds (d := 2) (by decide) hn hz (by omega)) rfl rfl hdd (Nat.le_refl _) (Nat.le_refl _) (by decide) (pm_ki (fun v24 σ' cnt' hq => ?_))
            obtain ⟨⟨I25, A25, rfl⟩, rfl, fv24⟩ := hq
            refine pm_goto (tgt := 80) hG dX12_copy_60 rfl ?_
            exact pm_iret hG hF dX12_copy_80 rfl (Nat.le_refl _) (Nat.le_refl _) ⟨_, rfl, ⟨_, _, _, rfl, hn, hr, ekc0.trans ekc0.symm, ekc2.trans ekc2.symm, ekc7.trans ekc7.symm, ekc8.trans ekc8.symm, KS.rf⟩, rfl⟩
      · refine pm_callV (As := [.int (nI k4)]) (rest := []) hG hR dX12_copy_32 (lkX12_139 _ rfl) okV_X12_whoHas rfl rfl (m_whoHas1 (d := 2) (e := 6 * k4 + 392) (by decide) (by omega) (by omega) ek8 (by omega)) rfl rfl hdd (Nat.le_refl _) (Nat.le_refl _) (by decide) (pm_ki (fun v26 σ' cnt' hq => ?_))
        obtain ⟨rfl, rfl, rfl⟩ := hq
        refine pm_ifN_ge (tgt := 44) hG dX12_copy_35 rfl (by omega) ?_
        refine pm_aloadn hG dX12_copy_44 rfl ?_
        refine pm_getf hG dX12_copy_45 (flX12_7 _ rfl) rfl rfl ?_
        refine pm_iconst (v := nI 3) hG dX12_copy_48 (by decide) ?_
        refine pm_ialdN hG dX12_copy_49 rfl (by decide) (by omega) ?_
        refine pm_top (v := nI k1) ek1 ?_
        refine pm_bipush (v := nI 20) hG dX12_copy_50 (by decide) ?_
        refine pm_icmpN_ne (tgt := 63) hG dX12_copy_52 rfl (by omega) (by omega) (fun c27 => ?_) (fun c27 => ?_)
        · refine pm_aloadn hG dX12_copy_63 rfl ?_
          refine pm_iconst (v := nI 2) hG dX12_copy_64 (by decide) ?_
          refine pm_aloadn hG dX12_copy_65 rfl ?_
          refine pm_iloadn hG dX12_copy_66 rfl ?_
          refine pm_top (v := nI k4) ek4 ?_
          refine pm_callV (As := [.int (nI k4)]) (rest := [.int (nI 2), .ref (B + 54)]) hG hR dX12_copy_67 (lkX12_139 _ rfl) okV_X12_whoHas rfl rfl (m_whoHas1 (d := 2) (e := 6 * k4 + 392) (by decide) (by omega) (by omega) ek8 (by omega)) rfl rfl hdd (Nat.le_refl _) (Nat.le_refl _) (Nat.le_of_ble_eq_true rfl) (pm_ki (fun v28 σ' cnt' hq => ?_))
          obtain ⟨rfl, rfl, rfl⟩ := hq
          refine pm_iconst (v := nI 0) hG dX12_copy_70 (by decide) ?_
          refine pm_aloadn hG dX12_copy_71 rfl ?_
          refine pm_iloadn hG dX12_copy_72 rfl ?_
          refine pm_top (v := nI k4) ek4 ?_
          refine pm_iconst (v := nI 5) hG dX12_copy_73 (by decide) ?_
          refine pm_callV (As := [.int (nI k4), .int (nI 5)]) (rest := [.int (nI 0), .int (nI k8), .int (nI 2), .ref (B + 54)]) hG hR dX12_copy_74 (lkX12_110 _ rfl) okV_X12_its rfl rfl (m_its (d := 2) (e := 6 * k4 + 395) (by omega) (by omega) (by omega)) rfl rfl hdd (Nat.le_refl _) (Nat.le_refl _) (Nat.le_of_ble_eq_true rfl) (pm_ki (fun v29 σ' cnt' hq => ?_))
          obtain ⟨rfl, rfl, rfl⟩ := hq
          refine pm_gen (fun x30 ex30 => ?_)
          refine pm_callV (As := [.int (nI 2), .int (nI k8), .int (nI 0), .int x30]) (rest := []) hG hR dX12_copy_77 (lkX12_128 _ rfl) okV_X12_newPower rfl rfl (m_newPower_n20 (d := 2) (by decide) hn hr hz (by omega) ek1 (by omega)) rfl rfl hdd (Nat.le_refl _) (Nat.le_refl _) (by decide) (pm_ki (fun v31 σ' cnt' hq => ?_))
          obtain ⟨⟨n_32, rfl, hn32, hr32, hc32_0, hc32_2, hc32_7, hc32_8, hks32⟩, rfl⟩ := hq
          have e33 : n_32 0 = nI kc0 := hc32_0.trans ekc0
          have e34 : n_32 2 = nI kc2 := hc32_2.trans ekc2
          have e35 : n_32 7 = nI kc7 := hc32_7.trans ekc7
          have e36 : n_32 8 = nI kc8 := hc32_8.trans ekc8
          exact pm_iret hG hF dX12_copy_80 rfl (Nat.le_refl _) (Nat.le_refl _) ⟨_, rfl, ⟨_, _, _, rfl, hn32, hr32, e33.trans ekc0.symm, e34.trans ekc2.symm, e35.trans ekc7.symm, e36.trans ekc8.symm, (hks32.tr KS.rf)⟩, rfl⟩
        · refine pm_aloadn hG dX12_copy_55 rfl ?_
          refine pm_iconst (v := nI 4) hG dX12_copy_56 (by decide) ?_
          refine pm_callV (As := [.int (nI 4)]) (rest := []) hG hR dX12_copy_57 (lkX12_80 _ rfl) okV_X12_finds rfl rfl (m_finds (d := 2) (by decide) hn hz (by omega)) rfl rfl hdd (Nat.le_refl _) (Nat.le_refl _) (by decide) (pm_ki (fun v37 σ' cnt' hq => ?_))
          obtain ⟨⟨I38, A38, rfl⟩, rfl, fv37⟩ := hq
          refine pm_goto (tgt := 80) hG dX12_copy_60 rfl ?_
          exact pm_iret hG hF dX12_copy_80 rfl (Nat.le_refl _) (Nat.le_refl _) ⟨_, rfl, ⟨_, _, _, rfl, hn, hr, ekc0.trans ekc0.symm, ekc2.trans ekc2.symm, ekc7.trans ekc7.symm, ekc8.trans ekc8.symm, KS.rf⟩, rfl⟩
    · refine pm_aloadn hG dX12_copy_24 rfl ?_
      refine pm_iconst (v := nI 5) hG dX12_copy_25 (by decide) ?_
      refine pm_callV (As := [.int (nI 5)]) (rest := []) hG hR dX12_copy_26 (lkX12_80 _ rfl) okV_X12_finds rfl rfl (m_finds (d := 2) (by decide) hn hz (by omega)) rfl rfl hdd (Nat.le_refl _) (Nat.le_refl _) (by decide) (pm_ki (fun v39 σ' cnt' hq => ?_))
      obtain ⟨⟨I40, A40, rfl⟩, rfl, fv39⟩ := hq
      exact pm_iret hG hF dX12_copy_29 rfl (Nat.le_refl _) (Nat.le_refl _) ⟨_, rfl, ⟨_, _, _, rfl, hn, hr, ekc0.trans ekc0.symm, ekc2.trans ekc2.symm, ekc7.trans ekc7.symm, ekc8.trans ekc8.symm, KS.rf⟩, rfl⟩
  · refine pm_ifN_ne (tgt := 14) hG dX12_copy_5 rfl (by omega) (fun q => absurd q (by omega)) (fun _ => ?_)
    refine pm_aloadn hG dX12_copy_8 rfl ?_
    refine pm_iconst (v := nI 1) hG dX12_copy_9 (by decide) ?_
    refine pm_callV (As := [.int (nI 1)]) (rest := []) hG hR dX12_copy_10 (lkX12_80 _ rfl) okV_X12_finds rfl rfl (m_finds (d := 2) (by decide) hn hz (by omega)) rfl rfl hdd (Nat.le_refl _) (Nat.le_refl _) (by decide) (pm_ki (fun v41 σ' cnt' hq => ?_))
    obtain ⟨⟨I42, A42, rfl⟩, rfl, fv41⟩ := hq
    exact pm_iret hG hF dX12_copy_13 rfl (Nat.le_refl _) (Nat.le_refl _) ⟨_, rfl, ⟨_, _, _, rfl, hn, hr, ekc0.trans ekc0.symm, ekc2.trans ekc2.symm, ekc7.trans ekc7.symm, ekc8.trans ekc8.symm, KS.rf⟩, rfl⟩

set_option maxRecDepth 100000 in
set_option maxHeartbeats 4000000 in
theorem m_count {d B cnt p0 t0 : Nat} {σ : pm_S} {I : Nat → Int32} {A : Nat → Nat → Int32} {n k z : Nat → Int32} {ac wt pl im : Int32} {za : Int32} (hdd : 2 ≤ d) (hn : KI n) (hr : NR n) (hz : SZ z) (ht0 : t0 ≤ 40)  : pm_met mX12_count d 0 0 B [.ref (B + 54), .int za] cnt (pm_mid σ (md_L B I A n k z ac wt pl (nI p0) (nI t0) im)) (pm_Qi (fun v σ' cnt' => (∃ (I' : Nat → Int32) (A' : Nat → Nat → Int32), σ' = pm_mid σ (md_L B I' A' n k z ac wt pl (nI p0) (nI t0) im)) ∧ cnt = cnt')) := by
  refine pm_enter 2 (by decide) (Nat.le_of_ble_eq_true rfl) rfl (fun G hG hR hF => ?_)
  refine pm_iconst (v := nI 0) hG dX12_count_0 (by decide) ?_
  refine pm_istoreXn (loc' := [some (.ref (B + 54)), some (.int za), some (.int (nI 0)), none]) hG dX12_count_1 (by decide) (pm_c1b rfl) rfl ?_
  refine pm_iloadn hG dX12_count_2 rfl ?_
  by_cases c1 : za = nI 0
  · refine pm_top (v := nI 0) c1 ?_
    refine pm_tswIn (tgt := 80) hG dX12_count_3 (by decide) (by decide) rfl rfl ?_
    refine pm_aloadn hG dX12_count_80 rfl ?_
    refine pm_getf hG dX12_count_81 (flX12_7 _ rfl) rfl rfl ?_
    refine pm_iloadn hG dX12_count_84 rfl ?_
    refine pm_top (v := nI 0) c1 ?_
    refine pm_ialdN hG dX12_count_85 rfl (by decide) (by omega) ?_
    obtain ⟨k2, hk2, ek2⟩ := KI.nat hn (show kd 0 = (1, 11, true) by decide)
    refine pm_top (v := nI k2) ek2 ?_
    exact pm_iret hG hF dX12_count_86 rfl (Nat.le_refl _) (Nat.le_refl _) ⟨_, rfl, ⟨_, _, rfl⟩, rfl⟩
  by_cases c3 : za = nI 1
  · refine pm_top (v := nI 1) c3 ?_
    refine pm_tswIn (tgt := 80) hG dX12_count_3 (by decide) (by decide) rfl rfl ?_
    refine pm_aloadn hG dX12_count_80 rfl ?_
    refine pm_getf hG dX12_count_81 (flX12_7 _ rfl) rfl rfl ?_
    refine pm_iloadn hG dX12_count_84 rfl ?_
    refine pm_top (v := nI 1) c3 ?_
    refine pm_ialdN hG dX12_count_85 rfl (by decide) (by omega) ?_
    obtain ⟨k4, hk4, ek4⟩ := KI.nat hn (show kd 1 = (1, 21, false) by decide)
    refine pm_top (v := nI k4) ek4 ?_
    exact pm_iret hG hF dX12_count_86 rfl (Nat.le_refl _) (Nat.le_refl _) ⟨_, rfl, ⟨_, _, rfl⟩, rfl⟩
  by_cases c5 : za = nI 2
  · refine pm_top (v := nI 2) c5 ?_
    refine pm_tswIn (tgt := 80) hG dX12_count_3 (by decide) (by decide) rfl rfl ?_
    refine pm_aloadn hG dX12_count_80 rfl ?_
    refine pm_getf hG dX12_count_81 (flX12_7 _ rfl) rfl rfl ?_
    refine pm_iloadn hG dX12_count_84 rfl ?_
    refine pm_top (v := nI 2) c5 ?_
    refine pm_ialdN hG dX12_count_85 rfl (by decide) (by omega) ?_
    obtain ⟨k6, hk6, ek6⟩ := KI.nat hn (show kd 2 = (1, 21, true) by decide)
    refine pm_top (v := nI k6) ek6 ?_
    exact pm_iret hG hF dX12_count_86 rfl (Nat.le_refl _) (Nat.le_refl _) ⟨_, rfl, ⟨_, _, rfl⟩, rfl⟩
  by_cases c7 : za = nI 3
  · refine pm_top (v := nI 3) c7 ?_
    refine pm_tswIn (tgt := 80) hG dX12_count_3 (by decide) (by decide) rfl rfl ?_
    refine pm_aloadn hG dX12_count_80 rfl ?_
    refine pm_getf hG dX12_count_81 (flX12_7 _ rfl) rfl rfl ?_
    refine pm_iloadn hG dX12_count_84 rfl ?_
    refine pm_top (v := nI 3) c7 ?_
    refine pm_ialdN hG dX12_count_85 rfl (by decide) (by omega) ?_
    obtain ⟨k8, hk8, ek8⟩ := KI.nat hn (show kd 3 = (1, 21, false) by decide)
    refine pm_top (v := nI k8) ek8 ?_
    exact pm_iret hG hF dX12_count_86 rfl (Nat.le_refl _) (Nat.le_refl _) ⟨_, rfl, ⟨_, _, rfl⟩, rfl⟩
  by_cases c9 : za = nI 4
  · refine pm_top (v := nI 4) c9 ?_
    refine pm_tswIn (tgt := 80) hG dX12_count_3 (by decide) (by decide) rfl rfl ?_
    refine pm_aloadn hG dX12_count_80 rfl ?_
    refine pm_getf hG dX12_count_81 (flX12_7 _ rfl) rfl rfl ?_
    refine pm_iloadn hG dX12_count_84 rfl ?_
    refine pm_top (v := nI 4) c9 ?_
    refine pm_ialdN hG dX12_count_85 rfl (by decide) (by omega) ?_
    obtain ⟨k10, hk10, ek10⟩ := KI.nat hn (show kd 4 = (1, 13, false) by decide)
    refine pm_top (v := nI k10) ek10 ?_
    exact pm_iret hG hF dX12_count_86 rfl (Nat.le_refl _) (Nat.le_refl _) ⟨_, rfl, ⟨_, _, rfl⟩, rfl⟩
  by_cases c11 : za = nI 5
  · refine pm_top (v := nI 5) c11 ?_
    refine pm_tswIn (tgt := 80) hG dX12_count_3 (by decide) (by decide) rfl rfl ?_
    refine pm_aloadn hG dX12_count_80 rfl ?_
    refine pm_getf hG dX12_count_81 (flX12_7 _ rfl) rfl rfl ?_
    refine pm_iloadn hG dX12_count_84 rfl ?_
    refine pm_top (v := nI 5) c11 ?_
    refine pm_ialdN hG dX12_count_85 rfl (by decide) (by omega) ?_
    obtain ⟨k12, hk12, ek12⟩ := KI.nat hn (show kd 5 = (1, 41, true) by decide)
    refine pm_top (v := nI k12) ek12 ?_
    exact pm_iret hG hF dX12_count_86 rfl (Nat.le_refl _) (Nat.le_refl _) ⟨_, rfl, ⟨_, _, rfl⟩, rfl⟩
  by_cases c13 : za = nI 6
  · refine pm_top (v := nI 6) c13 ?_
    refine pm_tswIn (tgt := 80) hG dX12_count_3 (by decide) (by decide) rfl rfl ?_
    refine pm_aloadn hG dX12_count_80 rfl ?_
    refine pm_getf hG dX12_count_81 (flX12_7 _ rfl) rfl rfl ?_
    refine pm_iloadn hG dX12_count_84 rfl ?_
    refine pm_top (v := nI 6) c13 ?_
    refine pm_ialdN hG dX12_count_85 rfl (by decide) (by omega) ?_
    obtain ⟨k14, hk14, ek14⟩ := KI.nat hn (show kd 6 = (1, 7, false) by decide)
    refine pm_top (v := nI k14) ek14 ?_
    exact pm_iret hG hF dX12_count_86 rfl (Nat.le_refl _) (Nat.le_refl _) ⟨_, rfl, ⟨_, _, rfl⟩, rfl⟩
  by_cases c15 : za = nI 7
  · refine pm_top (v := nI 7) c15 ?_
    refine pm_tswIn (tgt := 80) hG dX12_count_3 (by decide) (by decide) rfl rfl ?_
    refine pm_aloadn hG dX12_count_80 rfl ?_
    refine pm_getf hG dX12_count_81 (flX12_7 _ rfl) rfl rfl ?_
    refine pm_iloadn hG dX12_count_84 rfl ?_
    refine pm_top (v := nI 7) c15 ?_
    refine pm_ialdN hG dX12_count_85 rfl (by decide) (by omega) ?_
    obtain ⟨k16, hk16, ek16⟩ := KI.nat hn (show kd 7 = (1, 31, false) by decide)
    refine pm_top (v := nI k16) ek16 ?_
    exact pm_iret hG hF dX12_count_86 rfl (Nat.le_refl _) (Nat.le_refl _) ⟨_, rfl, ⟨_, _, rfl⟩, rfl⟩
  by_cases c17 : za = nI 8
  · refine pm_top (v := nI 8) c17 ?_
    refine pm_tswIn (tgt := 80) hG dX12_count_3 (by decide) (by decide) rfl rfl ?_
    refine pm_aloadn hG dX12_count_80 rfl ?_
    refine pm_getf hG dX12_count_81 (flX12_7 _ rfl) rfl rfl ?_
    refine pm_iloadn hG dX12_count_84 rfl ?_
    refine pm_top (v := nI 8) c17 ?_
    refine pm_ialdN hG dX12_count_85 rfl (by decide) (by omega) ?_
    obtain ⟨k18, hk18, ek18⟩ := KI.nat hn (show kd 8 = (1, 2001, false) by decide)
    refine pm_top (v := nI k18) ek18 ?_
    exact pm_iret hG hF dX12_count_86 rfl (Nat.le_refl _) (Nat.le_refl _) ⟨_, rfl, ⟨_, _, rfl⟩, rfl⟩
  by_cases c19 : za = nI 9
  · refine pm_top (v := nI 9) c19 ?_
    refine pm_tswIn (tgt := 80) hG dX12_count_3 (by decide) (by decide) rfl rfl ?_
    refine pm_aloadn hG dX12_count_80 rfl ?_
    refine pm_getf hG dX12_count_81 (flX12_7 _ rfl) rfl rfl ?_
    refine pm_iloadn hG dX12_count_84 rfl ?_
    refine pm_top (v := nI 9) c19 ?_
    refine pm_ialdN hG dX12_count_85 rfl (by decide) (by omega) ?_
    refine pm_gen (fun x20 ex20 => ?_)
    exact pm_iret hG hF dX12_count_86 rfl (Nat.le_refl _) (Nat.le_refl _) ⟨_, rfl, ⟨_, _, rfl⟩, rfl⟩
  by_cases c21 : za = nI 10
  · refine pm_top (v := nI 10) c21 ?_
    refine pm_tswIn (tgt := 80) hG dX12_count_3 (by decide) (by decide) rfl rfl ?_
    refine pm_aloadn hG dX12_count_80 rfl ?_
    refine pm_getf hG dX12_count_81 (flX12_7 _ rfl) rfl rfl ?_
    refine pm_iloadn hG dX12_count_84 rfl ?_
    refine pm_top (v := nI 10) c21 ?_
    refine pm_ialdN hG dX12_count_85 rfl (by decide) (by omega) ?_
    obtain ⟨k22, hk22, ek22⟩ := KI.nat hn (show kd 10 = (1, 61, false) by decide)
    refine pm_top (v := nI k22) ek22 ?_
    exact pm_iret hG hF dX12_count_86 rfl (Nat.le_refl _) (Nat.le_refl _) ⟨_, rfl, ⟨_, _, rfl⟩, rfl⟩
  by_cases c23 : za = nI 11
  · refine pm_top (v := nI 11) c23 ?_
    refine pm_tswIn (tgt := 87) hG dX12_count_3 (by decide) (by decide) rfl rfl ?_
    refine pm_aloadn hG dX12_count_87 rfl ?_
    obtain ⟨k24, hk24, ek24⟩ := KI.nat hn (show kd 2 = (1, 21, true) by decide)
    refine pm_callV (As := []) (rest := []) hG hR dX12_count_88 (lkX12_243 _ rfl) okV_X12_seatedMany rfl rfl (m_seatedMany (d := 1) (by decide) hn ek24 (by omega)) rfl rfl hdd (Nat.le_refl _) (Nat.le_refl _) (by decide) (pm_ki (fun v25 σ' cnt' hq => ?_))
    obtain ⟨rfl, rfl, rfl⟩ := hq
    have h26 : stN n k24 ≤ 9 := Nat.le_trans (stN_mono (by omega)) hr.2.2.1.1
    exact pm_iret hG hF dX12_count_91 rfl (Nat.le_refl _) (Nat.le_refl _) ⟨_, rfl, ⟨_, _, rfl⟩, rfl⟩
  by_cases c27 : za = nI 12
  · refine pm_top (v := nI 12) c27 ?_
    refine pm_tswIn (tgt := 92) hG dX12_count_3 (by decide) (by decide) rfl rfl ?_
    refine pm_aloadn hG dX12_count_92 rfl ?_
    refine pm_getf hG dX12_count_93 (flX12_283 _ rfl) rfl rfl ?_
    exact pm_iret hG hF dX12_count_96 rfl (Nat.le_refl _) (Nat.le_refl _) ⟨_, rfl, ⟨_, _, rfl⟩, rfl⟩
  by_cases c28 : za = nI 13
  · refine pm_top (v := nI 13) c28 ?_
    refine pm_tswIn (tgt := 97) hG dX12_count_3 (by decide) (by decide) rfl rfl ?_
    refine pm_aloadn hG dX12_count_97 rfl ?_
    refine pm_getf hG dX12_count_98 (flX12_7 _ rfl) rfl rfl ?_
    refine pm_bipush (v := nI 11) hG dX12_count_101 (by decide) ?_
    refine pm_ialdN hG dX12_count_103 rfl (by decide) (by omega) ?_
    obtain ⟨k29, hk29, ek29⟩ := KI.nat hn (show kd 11 = (1, 21, false) by decide)
    refine pm_top (v := nI k29) ek29 ?_
    exact pm_iret hG hF dX12_count_104 rfl (Nat.le_refl _) (Nat.le_refl _) ⟨_, rfl, ⟨_, _, rfl⟩, rfl⟩
  by_cases c30 : za = nI 14
  · refine pm_top (v := nI 14) c30 ?_
    refine pm_tswIn (tgt := 105) hG dX12_count_3 (by decide) (by decide) rfl rfl ?_
    refine pm_iconst (v := nI 0) hG dX12_count_105 (by decide) ?_
    refine pm_istoreXn (loc' := [some (.ref (B + 54)), some (.int za), some (.int (nI 0)), some (.int (nI 0))]) hG dX12_count_106 (by decide) (pm_c1b rfl) rfl ?_
    have loop107_31 : ∀ (m31 : Nat) (I31 : Nat → Int32) (A31 : Nat → Nat → Int32) (x31_2 : Int32) (i31 : Nat), i31 ≤ 20 → 20 - i31 < m31 → pm_wp mX12_count G B 107 [some (.ref (B + 54)), some (.int za), some (.int x31_2), some (.int (nI i31))] [] 0 0 cnt (pm_mid σ (md_L B I31 A31 n k z ac wt pl (nI p0) (nI t0) im)) := by
      intro m31
      induction m31 with
      | zero => intro I31 A31 x31_2 i31 _ hm; exact absurd hm (Nat.not_lt_zero _)
      | succ m31 ih31 =>
        intro I31 A31 x31_2 i31 hi31 hm31
        refine pm_iloadn hG dX12_count_107 rfl ?_
        refine pm_aloadn hG dX12_count_108 rfl ?_
        refine pm_getf hG dX12_count_109 (flX12_7 _ rfl) rfl rfl ?_
        refine pm_iconst (v := nI 2) hG dX12_count_112 (by decide) ?_
        refine pm_ialdN hG dX12_count_113 rfl (by decide) (by omega) ?_
        obtain ⟨k32, hk32, ek32⟩ := KI.nat hn (show kd 2 = (1, 21, true) by decide)
        refine pm_top (v := nI k32) ek32 ?_
        refine pm_icmpN_ge (tgt := 133) hG dX12_count_114 rfl (by omega) (by omega) (fun c33 => ?_) (fun c33 => ?_)
        · refine pm_iloadn hG dX12_count_133 rfl ?_
          exact pm_iret hG hF dX12_count_134 rfl (Nat.le_refl _) (Nat.le_refl _) ⟨_, rfl, ⟨_, _, rfl⟩, rfl⟩
        · refine pm_iloadn hG dX12_count_117 rfl ?_
          refine pm_aloadn hG dX12_count_118 rfl ?_
          refine pm_iloadn hG dX12_count_119 rfl ?_
          refine pm_bipush (v := nI 7) hG dX12_count_120 (by decide) ?_
          refine pm_callV (As := [.int (nI i31), .int (nI 7)]) (rest := [.int x31_2]) hG hR dX12_count_122 (lkX12_72 _ rfl) okV_X12_man rfl rfl (m_man (d := 1) (e := 14 * i31 + 117) (by omega) (by omega) (by omega)) rfl rfl hdd (Nat.le_refl _) (Nat.le_refl _) (Nat.le_of_ble_eq_true rfl) (pm_ki (fun v34 σ' cnt' hq => ?_))
          obtain ⟨rfl, rfl, rfl⟩ := hq
          refine pm_gen (fun x35 ex35 => ?_)
          refine pm_iadd hG dX12_count_125 ?_
          refine pm_istoreXn (loc' := [some (.ref (B + 54)), some (.int za), some (.int (x31_2 + x35)), some (.int (nI i31))]) hG dX12_count_126 (by decide) (pm_c1b rfl) rfl ?_
          refine pm_iincX (v := nI (i31 + 1)) (loc' := [some (.ref (B + 54)), some (.int za), some (.int (x31_2 + x35)), some (.int (nI (i31 + 1)))]) hG dX12_count_127 rfl (nI_1 _) (by decide) (pm_c1b rfl) rfl ?_
          refine pm_goto (tgt := 107) hG dX12_count_130 rfl ?_
          exact ih31 I31 A31 (x31_2 + x35) (i31 + 1) (by omega) (by omega)
    exact loop107_31 _ I A (nI 0) 0 (by omega) (Nat.lt_succ_self _)
  by_cases c36 : za = nI 15
  · refine pm_top (v := nI 15) c36 ?_
    refine pm_tswIn (tgt := 135) hG dX12_count_3 (by decide) (by decide) rfl rfl ?_
    refine pm_iconst (v := nI 0) hG dX12_count_135 (by decide) ?_
    refine pm_istoreXn (loc' := [some (.ref (B + 54)), some (.int za), some (.int (nI 0)), some (.int (nI 0))]) hG dX12_count_136 (by decide) (pm_c1b rfl) rfl ?_
    have loop137_37 : ∀ (m37 : Nat) (I37 : Nat → Int32) (A37 : Nat → Nat → Int32) (x37_2 : Int32) (i37 : Nat), i37 ≤ 40 → 40 - i37 < m37 → pm_wp mX12_count G B 137 [some (.ref (B + 54)), some (.int za), some (.int x37_2), some (.int (nI i37))] [] 0 0 cnt (pm_mid σ (md_L B I37 A37 n k z ac wt pl (nI p0) (nI t0) im)) := by
      intro m37
      induction m37 with
      | zero => intro I37 A37 x37_2 i37 _ hm; exact absurd hm (Nat.not_lt_zero _)
      | succ m37 ih37 =>
        intro I37 A37 x37_2 i37 hi37 hm37
        refine pm_iloadn hG dX12_count_137 rfl ?_
        refine pm_aloadn hG dX12_count_138 rfl ?_
        refine pm_getf hG dX12_count_139 (flX12_7 _ rfl) rfl rfl ?_
        refine pm_iconst (v := nI 5) hG dX12_count_142 (by decide) ?_
        refine pm_ialdN hG dX12_count_143 rfl (by decide) (by omega) ?_
        obtain ⟨k38, hk38, ek38⟩ := KI.nat hn (show kd 5 = (1, 41, true) by decide)
        refine pm_top (v := nI k38) ek38 ?_
        refine pm_icmpN_ge (tgt := 186) hG dX12_count_144 rfl (by omega) (by omega) (fun c39 => ?_) (fun c39 => ?_)
        · refine pm_iloadn hG dX12_count_186 rfl ?_
          exact pm_iret hG hF dX12_count_187 rfl (Nat.le_refl _) (Nat.le_refl _) ⟨_, rfl, ⟨_, _, rfl⟩, rfl⟩
        · refine pm_iloadn hG dX12_count_147 rfl ?_
          refine pm_aloadn hG dX12_count_148 rfl ?_
          refine pm_iloadn hG dX12_count_149 rfl ?_
          refine pm_iconst (v := nI 4) hG dX12_count_150 (by decide) ?_
          refine pm_callV (As := [.int (nI i37), .int (nI 4)]) (rest := [.int x37_2]) hG hR dX12_count_151 (lkX12_199 _ rfl) okV_X12_of rfl rfl (m_of (d := 1) (e := 12 * i37 + 1294) (by omega) (by omega) (by omega)) rfl rfl hdd (Nat.le_refl _) (Nat.le_refl _) (Nat.le_of_ble_eq_true rfl) (pm_ki (fun v40 σ' cnt' hq => ?_))
          obtain ⟨rfl, rfl, rfl⟩ := hq
          rcases KI.opt hn (show kd (12 * i37 + 1294) = (2, 20, true) from (kd_E (k := i37) (c := 4) (by omega) (by omega) (by decide))) with ek41 | ⟨k41, hk41, ek41⟩
          · refine pm_top (v := (-1)) ek41 ?_
            refine pm_if_lt (tgt := 177) hG dX12_count_154 rfl (fun _ => ?_) (fun q => absurd q (by decide))
            refine pm_iconst (v := nI 0) hG dX12_count_177 (by decide) ?_
            refine pm_iadd hG dX12_count_178 ?_
            refine pm_istoreXn (loc' := [some (.ref (B + 54)), some (.int za), some (.int (x37_2 + (nI 0))), some (.int (nI i37))]) hG dX12_count_179 (by decide) (pm_c1b rfl) rfl ?_
            refine pm_iincX (v := nI (i37 + 1)) (loc' := [some (.ref (B + 54)), some (.int za), some (.int (x37_2 + (nI 0))), some (.int (nI (i37 + 1)))]) hG dX12_count_180 rfl (nI_1 _) (by decide) (pm_c1b rfl) rfl ?_
            refine pm_goto (tgt := 137) hG dX12_count_183 rfl ?_
            exact ih37 I37 A37 (x37_2 + (nI 0)) (i37 + 1) (by omega) (by omega)
          · refine pm_top (v := nI k41) ek41 ?_
            refine pm_ifN_lt hG dX12_count_154 rfl (by omega) ?_
            refine pm_aloadn hG dX12_count_157 rfl ?_
            refine pm_iloadn hG dX12_count_158 rfl ?_
            refine pm_iconst (v := nI 5) hG dX12_count_159 (by decide) ?_
            refine pm_callV (As := [.int (nI i37), .int (nI 5)]) (rest := [.int x37_2]) hG hR dX12_count_160 (lkX12_199 _ rfl) okV_X12_of rfl rfl (m_of (d := 1) (e := 12 * i37 + 1295) (by omega) (by omega) (by omega)) rfl rfl hdd (Nat.le_refl _) (Nat.le_refl _) (Nat.le_of_ble_eq_true rfl) (pm_ki (fun v42 σ' cnt' hq => ?_))
            obtain ⟨rfl, rfl, rfl⟩ := hq
            refine pm_gen (fun x43 ex43 => ?_)
            refine pm_aloadn hG dX12_count_163 rfl ?_
            refine pm_getf hG dX12_count_164 (flX12_7 _ rfl) rfl rfl ?_
            refine pm_bipush (v := nI 8) hG dX12_count_167 (by decide) ?_
            refine pm_ialdN hG dX12_count_169 rfl (by decide) (by omega) ?_
            obtain ⟨k44, hk44, ek44⟩ := KI.nat hn (show kd 8 = (1, 2001, false) by decide)
            refine pm_top (v := nI k44) ek44 ?_
            refine pm_icmp_le (tgt := 177) hG dX12_count_170 rfl (fun c45 => ?_) (fun c45 => ?_)
            · refine pm_iconst (v := nI 0) hG dX12_count_177 (by decide) ?_
              refine pm_iadd hG dX12_count_178 ?_
              refine pm_istoreXn (loc' := [some (.ref (B + 54)), some (.int za), some (.int (x37_2 + (nI 0))), some (.int (nI i37))]) hG dX12_count_179 (by decide) (pm_c1b rfl) rfl ?_
              refine pm_iincX (v := nI (i37 + 1)) (loc' := [some (.ref (B + 54)), some (.int za), some (.int (x37_2 + (nI 0))), some (.int (nI (i37 + 1)))]) hG dX12_count_180 rfl (nI_1 _) (by decide) (pm_c1b rfl) rfl ?_
              refine pm_goto (tgt := 137) hG dX12_count_183 rfl ?_
              exact ih37 I37 A37 (x37_2 + (nI 0)) (i37 + 1) (by omega) (by omega)
            · refine pm_iconst (v := nI 1) hG dX12_count_173 (by decide) ?_
              refine pm_goto (tgt := 178) hG dX12_count_174 rfl ?_
              refine pm_iadd hG dX12_count_178 ?_
              refine pm_istoreXn (loc' := [some (.ref (B + 54)), some (.int za), some (.int (x37_2 + (nI 1))), some (.int (nI i37))]) hG dX12_count_179 (by decide) (pm_c1b rfl) rfl ?_
              refine pm_iincX (v := nI (i37 + 1)) (loc' := [some (.ref (B + 54)), some (.int za), some (.int (x37_2 + (nI 1))), some (.int (nI (i37 + 1)))]) hG dX12_count_180 rfl (nI_1 _) (by decide) (pm_c1b rfl) rfl ?_
              refine pm_goto (tgt := 137) hG dX12_count_183 rfl ?_
              exact ih37 I37 A37 (x37_2 + (nI 1)) (i37 + 1) (by omega) (by omega)
    exact loop137_37 _ I A (nI 0) 0 (by omega) (Nat.lt_succ_self _)
  have tc1 : ¬ za.toInt = 0 := fun q => c1 (Int32.toInt_inj.mp (q.trans (by decide)))
  have tc3 : ¬ za.toInt = 1 := fun q => c3 (Int32.toInt_inj.mp (q.trans (by decide)))
  have tc5 : ¬ za.toInt = 2 := fun q => c5 (Int32.toInt_inj.mp (q.trans (by decide)))
  have tc7 : ¬ za.toInt = 3 := fun q => c7 (Int32.toInt_inj.mp (q.trans (by decide)))
  have tc9 : ¬ za.toInt = 4 := fun q => c9 (Int32.toInt_inj.mp (q.trans (by decide)))
  have tc11 : ¬ za.toInt = 5 := fun q => c11 (Int32.toInt_inj.mp (q.trans (by decide)))
  have tc13 : ¬ za.toInt = 6 := fun q => c13 (Int32.toInt_inj.mp (q.trans (by decide)))
  have tc15 : ¬ za.toInt = 7 := fun q => c15 (Int32.toInt_inj.mp (q.trans (by decide)))
  have tc17 : ¬ za.toInt = 8 := fun q => c17 (Int32.toInt_inj.mp (q.trans (by decide)))
  have tc19 : ¬ za.toInt = 9 := fun q => c19 (Int32.toInt_inj.mp (q.trans (by decide)))
  have tc21 : ¬ za.toInt = 10 := fun q => c21 (Int32.toInt_inj.mp (q.trans (by decide)))
  have tc23 : ¬ za.toInt = 11 := fun q => c23 (Int32.toInt_inj.mp (q.trans (by decide)))
  have tc27 : ¬ za.toInt = 12 := fun q => c27 (Int32.toInt_inj.mp (q.trans (by decide)))
  have tc28 : ¬ za.toInt = 13 := fun q => c28 (Int32.toInt_inj.mp (q.trans (by decide)))
  have tc30 : ¬ za.toInt = 14 := fun q => c30 (Int32.toInt_inj.mp (q.trans (by decide)))
  have tc36 : ¬ za.toInt = 15 := fun q => c36 (Int32.toInt_inj.mp (q.trans (by decide)))
  refine pm_tswOut (tgt := 188) hG dX12_count_3 (by omega) rfl ?_
  refine pm_aloadn hG dX12_count_188 rfl ?_
  refine pm_iconst (v := nI 1) hG dX12_count_189 (by decide) ?_
  refine pm_callV (As := [.int (nI 1)]) (rest := []) hG hR dX12_count_190 (lkX12_80 _ rfl) okV_X12_finds rfl rfl (m_finds (d := 1) (by decide) hn hz (by omega)) rfl rfl hdd (Nat.le_refl _) (Nat.le_refl _) (by decide) (pm_ki (fun v46 σ' cnt' hq => ?_))
  obtain ⟨⟨I47, A47, rfl⟩, rfl, fv46⟩ := hq
  exact pm_iret hG hF dX12_count_193 rfl (Nat.le_refl _) (Nat.le_refl _) ⟨_, rfl, ⟨_, _, rfl⟩, rfl⟩
