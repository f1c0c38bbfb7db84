set_option maxRecDepth 100000 in
set_option maxHeartbeats 4000000 in
theorem m_price {d B cnt p0 t0 : Nat} {σ : pm_S} {I : Nat → Int32} {A : Nat → Nat → Int32} {n k z : Nat → Int32} {ac wt pl im : Int32} {za zb : Int32} (hdd : 2 ≤ d) (hn : KI n) (hr : NR n) (hz : SZ z)  : pm_met mX12_price d 0 0 B [.ref (B + 54), .int za, .int zb] cnt (pm_mid σ (md_L B I A n k z ac wt pl (nI p0) (nI t0) im)) (pm_Qi (fun v σ' cnt' => (∃ (I' : Nat → Int32) (A' : Nat → Nat → Int32) (n' : Nat → Int32), σ' = pm_mid σ (md_L B I' A' n' k z ac wt pl (nI p0) (nI t0) im) ∧ KI n' ∧ NR n' ∧ n' 0 = n 0 ∧ n' 2 = n 2 ∧ n' 8 = n 8 ∧ KS n' n) ∧ cnt = cnt')) := by
  obtain ⟨kc0, hkc0, ekc0⟩ := KI.nat hn (show kd 0 = (1, 11, true) by decide)
  obtain ⟨kc2, hkc2, ekc2⟩ := KI.nat hn (show kd 2 = (1, 21, true) by decide)
  obtain ⟨kc8, hkc8, ekc8⟩ := KI.nat hn (show kd 8 = (1, 2001, false) by decide)
  refine pm_enter 1 (by decide) (Nat.le_of_ble_eq_true rfl) rfl (fun G hG hR hF => ?_)
  refine pm_aloadn hG dX12_price_0 rfl ?_
  refine pm_iloadn hG dX12_price_1 rfl ?_
  refine pm_callV (As := [.int za]) (rest := []) hG hR dX12_price_2 (lkX12_91 _ rfl) okV_X12_isPerson rfl rfl (m_isPerson (d := 1) (by decide) ekc2 (by omega)) rfl rfl hdd (Nat.le_refl _) (Nat.le_refl _) (by decide) (pm_ki (fun v1 σ' cnt' hq => ?_))
  obtain ⟨hq, rfl, rfl⟩ := hq
  rcases hq with ⟨rfl, k3, hk3, ek3⟩ | ⟨rfl, ntk3⟩
  · refine pm_ifN_eq (tgt := 19) hG dX12_price_5 rfl (by omega) (fun q => absurd q (by omega)) (fun _ => ?_)
    refine pm_iloadn hG dX12_price_8 rfl ?_
    refine pm_iconst (v := nI 1) hG dX12_price_9 (by decide) ?_
    refine pm_sipush (v := nI 999) hG dX12_price_10 (by decide) ?_
    refine pm_callS (As := [.int zb, .int (nI 1), .int (nI 999)]) (rest := []) hG hR dX12_price_13 (lkX12_68 _ rfl) okS_X12_in (m_in (d := 1)) rfl rfl hdd (Nat.le_refl _) (Nat.le_refl _) (by decide) (pm_ki (fun v4 σ' cnt' hq => ?_))
    obtain ⟨hq, rfl, rfl⟩ := hq
    rcases hq with ⟨rfl, ac5, bc5⟩ | ⟨rfl, c5⟩
    · obtain ⟨k6, hk6, ek6⟩ := in_nat (by omega) (by omega) ac5 bc5
      refine pm_ifN_ne (tgt := 25) hG dX12_price_16 rfl (by omega) (fun _ => ?_) (fun q => absurd q (by omega))
      refine pm_aloadn hG dX12_price_25 rfl ?_
      refine pm_iloadn hG dX12_price_26 rfl ?_
      refine pm_top (v := nI k3) ek3 ?_
      refine pm_bipush (v := nI 12) hG dX12_price_27 (by decide) ?_
      refine pm_callV (As := [.int (nI k3), .int (nI 12)]) (rest := []) hG hR dX12_price_29 (lkX12_72 _ rfl) okV_X12_man rfl rfl (m_man (d := 1) (e := 14 * k3 + 122) (by omega) (by omega) (by omega)) rfl rfl hdd (Nat.le_refl _) (Nat.le_refl _) (by decide) (pm_ki (fun v7 σ' cnt' hq => ?_))
      obtain ⟨rfl, rfl, rfl⟩ := hq
      refine pm_gen (fun x8 ex8 => ?_)
      refine pm_istoreXn (loc' := [some (.ref (B + 54)), some (.int za), some (.int zb), some (.int x8)]) hG dX12_price_32 (by decide) (pm_c1b rfl) rfl ?_
      refine pm_aloadn hG dX12_price_33 rfl ?_
      refine pm_iloadn hG dX12_price_34 rfl ?_
      refine pm_top (v := nI k3) ek3 ?_
      refine pm_bipush (v := nI 12) hG dX12_price_35 (by decide) ?_
      refine pm_iloadn hG dX12_price_37 rfl ?_
      refine pm_top (v := nI k6) ek6 ?_
      refine pm_callV (As := [.int (nI k3), .int (nI 12), .int (nI k6)]) (rest := []) hG hR dX12_price_38 (lkX12_97 _ rfl) okV_X12_sets rfl rfl (m_sets (d := 1) (e := 14 * k3 + 122) (by omega) (by omega) (by omega)) rfl rfl hdd (Nat.le_refl _) (Nat.le_refl _) (by decide) (pm_kv (fun σ' cnt' hq => ?_))
      obtain ⟨rfl, rfl⟩ := hq
      obtain ⟨n_9, en_9⟩ : ∃ f : Nat → Int32, f = upd n (14 * k3 + 122) (nI k6) := ⟨_, rfl⟩
      rw [← en_9]
      have hnn_9 := KI.w en_9 hn (okv_f (show kd (14 * k3 + 122) = (0, 0, false) from (kd_P (k := k3) (c := 12) (by omega) (by omega) (by decide))))
      have hrn_9 := NRx.w en_9 hr (by rw [(show kd (14 * k3 + 122) = (0, 0, false) from (kd_P (k := k3) (c := 12) (by omega) (by omega) (by decide)))])
      have ksn_9 := KS.w en_9 KS.rf (by unfold tS; omega)
      have e10 : n_9 0 = nI kc0 := by rw [en_9, pk_un (by omega)]; exact ekc0
      have e11 : n_9 2 = nI kc2 := by rw [en_9, pk_un (by omega)]; exact ekc2
      have e12 : n_9 8 = nI kc8 := by rw [en_9, pk_un (by omega)]; exact ekc8
      have e13 : n_9 (14 * k3 + 122) = nI k6 := by rw [en_9, pk_us]
      refine pm_iloadn hG dX12_price_41 rfl ?_
      exact pm_iret hG hF dX12_price_42 rfl (Nat.le_refl _) (Nat.le_refl _) ⟨_, rfl, ⟨_, _, _, rfl, hnn_9, hrn_9, e10.trans ekc0.symm, e11.trans ekc2.symm, e12.trans ekc8.symm, ksn_9⟩, rfl⟩
    · refine pm_ifN_ne (tgt := 25) hG dX12_price_16 rfl (by omega) (fun q => absurd q (by omega)) (fun _ => ?_)
      refine pm_aloadn hG dX12_price_19 rfl ?_
      refine pm_iconst (v := nI 1) hG dX12_price_20 (by decide) ?_
      refine pm_callV (As := [.int (nI 1)]) (rest := []) hG hR dX12_price_21 (lkX12_80 _ rfl) okV_X12_finds rfl rfl (m_finds (d := 1) (by decide) hn hz (by omega)) rfl rfl hdd (Nat.le_refl _) (Nat.le_refl _) (by decide) (pm_ki (fun v14 σ' cnt' hq => ?_))
      obtain ⟨⟨I15, A15, rfl⟩, rfl, fv14⟩ := hq
      exact pm_iret hG hF dX12_price_24 rfl (Nat.le_refl _) (Nat.le_refl _) ⟨_, rfl, ⟨_, _, _, rfl, hn, hr, ekc0.trans ekc0.symm, ekc2.trans ekc2.symm, ekc8.trans ekc8.symm, KS.rf⟩, rfl⟩
  · refine pm_ifN_eq (tgt := 19) hG dX12_price_5 rfl (by omega) (fun _ => ?_) (fun q => absurd q (by omega))
    refine pm_aloadn hG dX12_price_19 rfl ?_
    refine pm_iconst (v := nI 1) hG dX12_price_20 (by decide) ?_
    refine pm_callV (As := [.int (nI 1)]) (rest := []) hG hR dX12_price_21 (lkX12_80 _ rfl) okV_X12_finds rfl rfl (m_finds (d := 1) (by decide) hn hz (by omega)) rfl rfl hdd (Nat.le_refl _) (Nat.le_refl _) (by decide) (pm_ki (fun v16 σ' cnt' hq => ?_))
    obtain ⟨⟨I17, A17, rfl⟩, rfl, fv16⟩ := hq
    exact pm_iret hG hF dX12_price_24 rfl (Nat.le_refl _) (Nat.le_refl _) ⟨_, rfl, ⟨_, _, _, rfl, hn, hr, ekc0.trans ekc0.symm, ekc2.trans ekc2.symm, ekc8.trans ekc8.symm, KS.rf⟩, rfl⟩

set_option maxRecDepth 100000 in
set_option maxHeartbeats 4000000 in
theorem m_promise {d B cnt p0 t0 : Nat} {σ : pm_S} {I : Nat → Int32} {A : Nat → Nat → Int32} {n k z : Nat → Int32} {ac wt pl im : Int32} {za zb zc zd : Int32} (hdd : 2 ≤ d) (hn : KI n) (hr : NR n) (hz : SZ z)  : pm_met mX12_promise d 0 0 B [.ref (B + 54), .int za, .int zb, .int zc, .int zd] cnt (pm_mid σ (md_L B I A n k z ac wt pl (nI p0) (nI t0) im)) (pm_Qi (fun v σ' cnt' => (∃ (I' : Nat → Int32) (A' : Nat → Nat → Int32) (n' : Nat → Int32), σ' = pm_mid σ (md_L B I' A' n' k z ac wt pl (nI p0) (nI t0) im) ∧ KI n' ∧ NR n' ∧ n' 0 = n 0 ∧ n' 2 = n 2 ∧ n' 8 = n 8 ∧ KS n' n) ∧ cnt = cnt')) := by
  obtain ⟨kc0, hkc0, ekc0⟩ := KI.nat hn (show kd 0 = (1, 11, true) by decide)
  obtain ⟨kc2, hkc2, ekc2⟩ := KI.nat hn (show kd 2 = (1, 21, true) by decide)
  obtain ⟨kc8, hkc8, ekc8⟩ := KI.nat hn (show kd 8 = (1, 2001, false) by decide)
  refine pm_enter 2 (by decide) (Nat.le_of_ble_eq_true rfl) rfl (fun G hG hR hF => ?_)
  refine pm_aloadn hG dX12_promise_0 rfl ?_
  refine pm_iloadn hG dX12_promise_1 rfl ?_
  refine pm_callV (As := [.int za]) (rest := []) hG hR dX12_promise_2 (lkX12_91 _ rfl) okV_X12_isPerson rfl rfl (m_isPerson (d := 1) (by decide) ekc2 (by omega)) rfl rfl hdd (Nat.le_refl _) (Nat.le_refl _) (by decide) (pm_ki (fun v1 σ' cnt' hq => ?_))
  obtain ⟨hq, rfl, rfl⟩ := hq
  rcases hq with ⟨rfl, k3, hk3, ek3⟩ | ⟨rfl, ntk3⟩
  · refine pm_ifN_eq (tgt := 34) hG dX12_promise_5 rfl (by omega) (fun q => absurd q (by omega)) (fun _ => ?_)
    refine pm_iloadn hG dX12_promise_8 rfl ?_
    refine pm_iconst (v := nI 0) hG dX12_promise_9 (by decide) ?_
    refine pm_iconst (v := nI 5) hG dX12_promise_10 (by decide) ?_
    refine pm_callS (As := [.int zb, .int (nI 0), .int (nI 5)]) (rest := []) hG hR dX12_promise_11 (lkX12_68 _ rfl) okS_X12_in (m_in (d := 1)) rfl rfl hdd (Nat.le_refl _) (Nat.le_refl _) (by decide) (pm_ki (fun v4 σ' cnt' hq => ?_))
    obtain ⟨hq, rfl, rfl⟩ := hq
    rcases hq with ⟨rfl, ac5, bc5⟩ | ⟨rfl, c5⟩
    · obtain ⟨k6, hk6, ek6⟩ := in_nat (by omega) (by omega) ac5 bc5
      refine pm_ifN_eq (tgt := 34) hG dX12_promise_14 rfl (by omega) (fun q => absurd q (by omega)) (fun _ => ?_)
      refine pm_iloadn hG dX12_promise_17 rfl ?_
      refine pm_aloadn hG dX12_promise_18 rfl ?_
      refine pm_getf hG dX12_promise_19 (flX12_7 _ rfl) rfl rfl ?_
      refine pm_bipush (v := nI 8) hG dX12_promise_22 (by decide) ?_
      refine pm_ialdN hG dX12_promise_24 rfl (by decide) (by omega) ?_
      refine pm_top (v := nI kc8) ekc8 ?_
      refine pm_sipush (v := nI 2000) hG dX12_promise_25 (by decide) ?_
      refine pm_callS (As := [.int zc, .int (nI kc8), .int (nI 2000)]) (rest := []) hG hR dX12_promise_28 (lkX12_68 _ rfl) okS_X12_in (m_in (d := 1)) rfl rfl hdd (Nat.le_refl _) (Nat.le_refl _) (by decide) (pm_ki (fun v7 σ' cnt' hq => ?_))
      obtain ⟨hq, rfl, rfl⟩ := hq
      rcases hq with ⟨rfl, ac8, bc8⟩ | ⟨rfl, c8⟩
      · obtain ⟨k9, hk9, ek9⟩ := in_nat (by omega) (by omega) ac8 bc8
        refine pm_ifN_ne (tgt := 40) hG dX12_promise_31 rfl (by omega) (fun _ => ?_) (fun q => absurd q (by omega))
        refine pm_aloadn hG dX12_promise_40 rfl ?_
        refine pm_iloadn hG dX12_promise_41 rfl ?_
        refine pm_top (v := nI k3) ek3 ?_
        refine pm_bipush (v := nI 11) hG dX12_promise_42 (by decide) ?_
        refine pm_callV (As := [.int (nI k3), .int (nI 11)]) (rest := []) hG hR dX12_promise_44 (lkX12_72 _ rfl) okV_X12_man rfl rfl (m_man (d := 1) (e := 14 * k3 + 121) (by omega) (by omega) (by omega)) rfl rfl hdd (Nat.le_refl _) (Nat.le_refl _) (by decide) (pm_ki (fun v10 σ' cnt' hq => ?_))
        obtain ⟨rfl, rfl, rfl⟩ := hq
        obtain ⟨k11, hk11, ek11⟩ := KI.nat hn (show kd (14 * k3 + 121) = (1, 2, true) from (kd_P (k := k3) (c := 11) (by omega) (by omega) (by decide)))
        refine pm_top (v := nI k11) ek11 ?_
        refine pm_ifN_ne (tgt := 56) hG dX12_promise_47 rfl (by omega) (fun c12 => ?_) (fun c12 => ?_)
        · refine pm_aloadn hG dX12_promise_56 rfl ?_
          refine pm_getf hG dX12_promise_57 (flX12_7 _ rfl) rfl rfl ?_
          refine pm_bipush (v := nI 7) hG dX12_promise_60 (by decide) ?_
          refine pm_ialdN hG dX12_promise_62 rfl (by decide) (by omega) ?_
          obtain ⟨k13, hk13, ek13⟩ := KI.nat hn (show kd 7 = (1, 31, false) by decide)
          refine pm_top (v := nI k13) ek13 ?_
          refine pm_istoreXi (loc' := [some (.ref (B + 54)), some (.int za), some (.int zb), some (.int zc), some (.int zd), some (.int (nI k13)), none]) hG dX12_promise_63 (by decide) (pm_c1b rfl) rfl ?_
          refine pm_iloadi hG dX12_promise_65 rfl ?_
          refine pm_bipush (v := nI 30) hG dX12_promise_67 (by decide) ?_
          refine pm_icmpN_ne (tgt := 78) hG dX12_promise_69 rfl (by omega) (by omega) (fun c14 => ?_) (fun c14 => ?_)
          · refine pm_iconst (v := nI 0) hG dX12_promise_78 (by decide) ?_
            refine pm_istoreXi (loc' := [some (.ref (B + 54)), some (.int za), some (.int zb), some (.int zc), some (.int zd), some (.int (nI k13)), some (.int (nI 0))]) hG dX12_promise_79 (by decide) (pm_c1b rfl) rfl ?_
            have loop81_15 : ∀ (m15 : Nat) (I15 : Nat → Int32) (A15 : Nat → Nat → Int32) (n_15 : Nat → Int32) (i15 : Nat), KI n_15 → KS n_15 n → NRx 40 n_15 → n_15 7 = nI k13 → n_15 0 = nI kc0 → n_15 2 = nI kc2 → n_15 8 = nI kc8 → i15 ≤ 29 → 29 - i15 < m15 → pm_wp mX12_promise G B 81 [some (.ref (B + 54)), some (.int za), some (.int zb), some (.int zc), some (.int zd), some (.int (nI k13)), some (.int (nI i15))] [] 0 0 cnt (pm_mid σ (md_L B I15 A15 n_15 k z ac wt pl (nI p0) (nI t0) im)) := by
              intro m15
              induction m15 with
              | zero => intro I15 A15 n_15 i15 _ _ _ _ _ _ _ _ hm; exact absurd hm (Nat.not_lt_zero _)
              | succ m15 ih15 =>
                intro I15 A15 n_15 i15 hnn_15 ksn_15 hrn_15 kc15_7 kc15_0 kc15_2 kc15_8 hi15 hm15
                refine pm_iloadi hG dX12_promise_81 rfl ?_
                refine pm_iloadi hG dX12_promise_83 rfl ?_
                refine pm_icmpN_ge (tgt := 133) hG dX12_promise_85 rfl (by omega) (by omega) (fun c16 => ?_) (fun c16 => ?_)
                · refine pm_aloadn hG dX12_promise_133 rfl ?_
                  refine pm_getf hG dX12_promise_134 (flX12_7 _ rfl) rfl rfl ?_
                  refine pm_bipush (v := nI 7) hG dX12_promise_137 (by decide) ?_
                  refine pm_dup2 hG dX12_promise_139 rfl rfl ?_
                  refine pm_ialdN hG dX12_promise_140 rfl (by decide) (by omega) ?_
                  refine pm_top (v := nI k13) kc15_7 ?_
                  refine pm_iconst (v := nI 1) hG dX12_promise_141 (by decide) ?_
                  refine pm_iaddN (c := k13 + 1) hG dX12_promise_142 (by omega) ?_
                  refine pm_iastN hG dX12_promise_143 rfl (by decide) (by omega) ?_
                  refine mdn_now (fun n_17 en_17 => ?_)
                  have hnn_17 := KI.w en_17 hnn_15 (okv_n (show kd 7 = (1, 31, false) by decide) (by omega))
                  have hrn_17 := NRx.w en_17 hrn_15 (by rw [(show kd 7 = (1, 31, false) by decide)])
                  have ksn_17 := KS.w en_17 ksn_15 (by unfold tS; omega)
                  have e18 : n_17 0 = nI kc0 := by rw [en_17, pk_un (by omega)]; exact kc15_0
                  have e19 : n_17 2 = nI kc2 := by rw [en_17, pk_un (by omega)]; exact kc15_2
                  have e20 : n_17 8 = nI kc8 := by rw [en_17, pk_un (by omega)]; exact kc15_8
                  have e21 : n_17 7 = nI (k13 + 1) := by rw [en_17, pk_us]
                  refine pm_aloadn hG dX12_promise_144 rfl ?_
                  refine pm_getf hG dX12_promise_145 (flX12_7 _ rfl) rfl rfl ?_
                  refine pm_sipush (v := nI 1806) hG dX12_promise_148 (by decide) ?_
                  refine pm_bipush (v := nI 6) hG dX12_promise_151 (by decide) ?_
                  refine pm_iloadi hG dX12_promise_153 rfl ?_
                  refine pm_imulN (c := 6 * k13) hG dX12_promise_155 (by omega) ?_
                  refine pm_iaddN (c := 6 * k13 + 1806) hG dX12_promise_156 (by omega) ?_
                  refine pm_iloadn hG dX12_promise_157 rfl ?_
                  refine pm_top (v := nI k3) ek3 ?_
                  refine pm_iastN hG dX12_promise_158 rfl (by decide) (by omega) ?_
                  refine mdn_now (fun n_22 en_22 => ?_)
                  have hnn_22 := KI.w en_22 hnn_17 (okv_n (show kd (6 * k13 + 1806) = (1, 20, false) from (kd_Q (k := k13) (c := 0) (by omega) (by omega) (by decide))) (by omega))
                  have hrn_22 := NRx.w en_22 hrn_17 (by rw [(show kd (6 * k13 + 1806) = (1, 20, false) from (kd_Q (k := k13) (c := 0) (by omega) (by omega) (by decide)))])
                  have ksn_22 := KS.w en_22 ksn_17 (by unfold tS; omega)
                  have e23 : n_22 0 = nI kc0 := by rw [en_22, pk_un (by omega)]; exact e18
                  have e24 : n_22 2 = nI kc2 := by rw [en_22, pk_un (by omega)]; exact e19
                  have e25 : n_22 8 = nI kc8 := by rw [en_22, pk_un (by omega)]; exact e20
                  have e26 : n_22 7 = nI (k13 + 1) := by rw [en_22, pk_un (by omega)]; exact e21
                  have e27 : n_22 (6 * k13 + 1806) = nI k3 := by rw [en_22, pk_us]
                  refine pm_aloadn hG dX12_promise_159 rfl ?_
                  refine pm_getf hG dX12_promise_160 (flX12_7 _ rfl) rfl rfl ?_
                  refine pm_sipush (v := nI 1806) hG dX12_promise_163 (by decide) ?_
                  refine pm_bipush (v := nI 6) hG dX12_promise_166 (by decide) ?_
                  refine pm_iloadi hG dX12_promise_168 rfl ?_
                  refine pm_imulN (c := 6 * k13) hG dX12_promise_170 (by omega) ?_
                  refine pm_iaddN (c := 6 * k13 + 1806) hG dX12_promise_171 (by omega) ?_
                  refine pm_iconst (v := nI 1) hG dX12_promise_172 (by decide) ?_
                  refine pm_iaddN (c := 6 * k13 + 1807) hG dX12_promise_173 (by omega) ?_
                  refine pm_iloadn hG dX12_promise_174 rfl ?_
                  refine pm_top (v := nI k6) ek6 ?_
                  refine pm_iastN hG dX12_promise_175 rfl (by decide) (by omega) ?_
                  refine mdn_now (fun n_28 en_28 => ?_)
                  have hnn_28 := KI.w en_28 hnn_22 (okv_f (show kd (6 * k13 + 1807) = (0, 0, false) from (kd_Q (k := k13) (c := 1) (by omega) (by omega) (by decide))))
                  have hrn_28 := NRx.w en_28 hrn_22 (by rw [(show kd (6 * k13 + 1807) = (0, 0, false) from (kd_Q (k := k13) (c := 1) (by omega) (by omega) (by decide)))])
                  have ksn_28 := KS.w en_28 ksn_22 (by unfold tS; omega)
                  have e29 : n_28 0 = nI kc0 := by rw [en_28, pk_un (by omega)]; exact e23
                  have e30 : n_28 2 = nI kc2 := by rw [en_28, pk_un (by omega)]; exact e24
                  have e31 : n_28 8 = nI kc8 := by rw [en_28, pk_un (by omega)]; exact e25
                  have e32 : n_28 7 = nI (k13 + 1) := by rw [en_28, pk_un (by omega)]; exact e26
                  have e33 : n_28 (6 * k13 + 1806) = nI k3 := by rw [en_28, pk_un (by omega)]; exact e27
                  have e34 : n_28 (6 * k13 + 1807) = nI k6 := by rw [en_28, pk_us]
                  refine pm_aloadn hG dX12_promise_176 rfl ?_
                  refine pm_getf hG dX12_promise_177 (flX12_7 _ rfl) rfl rfl ?_
                  refine pm_sipush (v := nI 1806) hG dX12_promise_180 (by decide) ?_
                  refine pm_bipush (v := nI 6) hG dX12_promise_183 (by decide) ?_
                  refine pm_iloadi hG dX12_promise_185 rfl ?_
                  refine pm_imulN (c := 6 * k13) hG dX12_promise_187 (by omega) ?_
                  refine pm_iaddN (c := 6 * k13 + 1806) hG dX12_promise_188 (by omega) ?_
                  refine pm_iconst (v := nI 2) hG dX12_promise_189 (by decide) ?_
                  refine pm_iaddN (c := 6 * k13 + 1808) hG dX12_promise_190 (by omega) ?_
                  refine pm_iloadn hG dX12_promise_191 rfl ?_
                  refine pm_top (v := nI k9) ek9 ?_
                  refine pm_iastN hG dX12_promise_192 rfl (by decide) (by omega) ?_
                  refine mdn_now (fun n_35 en_35 => ?_)
                  have hnn_35 := KI.w en_35 hnn_28 (okv_f (show kd (6 * k13 + 1808) = (0, 0, false) from (kd_Q (k := k13) (c := 2) (by omega) (by omega) (by decide))))
                  have hrn_35 := NRx.w en_35 hrn_28 (by rw [(show kd (6 * k13 + 1808) = (0, 0, false) from (kd_Q (k := k13) (c := 2) (by omega) (by omega) (by decide)))])
                  have ksn_35 := KS.w en_35 ksn_28 (by unfold tS; omega)
                  have e36 : n_35 0 = nI kc0 := by rw [en_35, pk_un (by omega)]; exact e29
                  have e37 : n_35 2 = nI kc2 := by rw [en_35, pk_un (by omega)]; exact e30
                  have e38 : n_35 8 = nI kc8 := by rw [en_35, pk_un (by omega)]; exact e31
                  have e39 : n_35 7 = nI (k13 + 1) := by rw [en_35, pk_un (by omega)]; exact e32
                  have e40 : n_35 (6 * k13 + 1806) = nI k3 := by rw [en_35, pk_un (by omega)]; exact e33
                  have e41 : n_35 (6 * k13 + 1807) = nI k6 := by rw [en_35, pk_un (by omega)]; exact e34
                  have e42 : n_35 (6 * k13 + 1808) = nI k9 := by rw [en_35, pk_us]
                  refine pm_aloadn hG dX12_promise_193 rfl ?_
                  refine pm_getf hG dX12_promise_194 (flX12_7 _ rfl) rfl rfl ?_
                  refine pm_sipush (v := nI 1806) hG dX12_promise_197 (by decide) ?_
                  refine pm_bipush (v := nI 6) hG dX12_promise_200 (by decide) ?_
                  refine pm_iloadi hG dX12_promise_202 rfl ?_
                  refine pm_imulN (c := 6 * k13) hG dX12_promise_204 (by omega) ?_
                  refine pm_iaddN (c := 6 * k13 + 1806) hG dX12_promise_205 (by omega) ?_
                  refine pm_iconst (v := nI 3) hG dX12_promise_206 (by decide) ?_
                  refine pm_iaddN (c := 6 * k13 + 1809) hG dX12_promise_207 (by omega) ?_
                  refine pm_iloadi hG dX12_promise_208 rfl ?_
                  refine pm_if_eq (tgt := 217) hG dX12_promise_210 rfl (fun c43 => ?_) (fun c43 => ?_)
                  · refine pm_iconst (v := nI 0) hG dX12_promise_217 (by decide) ?_
                    refine pm_iastN hG dX12_promise_218 rfl (by decide) (by omega) ?_
                    refine mdn_now (fun n_44 en_44 => ?_)
                    have hnn_44 := KI.w en_44 hnn_35 (okv_f (show kd (6 * k13 + 1809) = (0, 0, false) from (kd_Q (k := k13) (c := 3) (by omega) (by omega) (by decide))))
                    have hrn_44 := NRx.w en_44 hrn_35 (by rw [(show kd (6 * k13 + 1809) = (0, 0, false) from (kd_Q (k := k13) (c := 3) (by omega) (by omega) (by decide)))])
                    have ksn_44 := KS.w en_44 ksn_35 (by unfold tS; omega)
                    have e45 : n_44 0 = nI kc0 := by rw [en_44, pk_un (by omega)]; exact e36
                    have e46 : n_44 2 = nI kc2 := by rw [en_44, pk_un (by omega)]; exact e37
                    have e47 : n_44 8 = nI kc8 := by rw [en_44, pk_un (by omega)]; exact e38
                    have e48 : n_44 7 = nI (k13 + 1) := by rw [en_44, pk_un (by omega)]; exact e39
                    have e49 : n_44 (6 * k13 + 1806) = nI k3 := by rw [en_44, pk_un (by omega)]; exact e40
                    have e50 : n_44 (6 * k13 + 1807) = nI k6 := by rw [en_44, pk_un (by omega)]; exact e41
                    have e51 : n_44 (6 * k13 + 1808) = nI k9 := by rw [en_44, pk_un (by omega)]; exact e42
                    have e52 : n_44 (6 * k13 + 1809) = nI 0 := by rw [en_44, pk_us]
                    refine pm_aloadn hG dX12_promise_219 rfl ?_
                    refine pm_getf hG dX12_promise_220 (flX12_7 _ rfl) rfl rfl ?_
                    refine pm_sipush (v := nI 1806) hG dX12_promise_223 (by decide) ?_
                    refine pm_bipush (v := nI 6) hG dX12_promise_226 (by decide) ?_
                    refine pm_iloadi hG dX12_promise_228 rfl ?_
                    refine pm_imulN (c := 6 * k13) hG dX12_promise_230 (by omega) ?_
                    refine pm_iaddN (c := 6 * k13 + 1806) hG dX12_promise_231 (by omega) ?_
                    refine pm_iconst (v := nI 4) hG dX12_promise_232 (by decide) ?_
                    refine pm_iaddN (c := 6 * k13 + 1810) hG dX12_promise_233 (by omega) ?_
                    refine pm_iconst (v := nI 0) hG dX12_promise_234 (by decide) ?_
                    refine pm_iastN hG dX12_promise_235 rfl (by decide) (by omega) ?_
                    refine mdn_now (fun n_53 en_53 => ?_)
                    have hnn_53 := KI.w en_53 hnn_44 (okv_f (show kd (6 * k13 + 1810) = (0, 0, false) from (kd_Q (k := k13) (c := 4) (by omega) (by omega) (by decide))))
                    have hrn_53 := NRx.w en_53 hrn_44 (by rw [(show kd (6 * k13 + 1810) = (0, 0, false) from (kd_Q (k := k13) (c := 4) (by omega) (by omega) (by decide)))])
                    have ksn_53 := KS.w en_53 ksn_44 (by unfold tS; omega)
                    have e54 : n_53 0 = nI kc0 := by rw [en_53, pk_un (by omega)]; exact e45
                    have e55 : n_53 2 = nI kc2 := by rw [en_53, pk_un (by omega)]; exact e46
                    have e56 : n_53 8 = nI kc8 := by rw [en_53, pk_un (by omega)]; exact e47
                    have e57 : n_53 7 = nI (k13 + 1) := by rw [en_53, pk_un (by omega)]; exact e48
                    have e58 : n_53 (6 * k13 + 1806) = nI k3 := by rw [en_53, pk_un (by omega)]; exact e49
                    have e59 : n_53 (6 * k13 + 1807) = nI k6 := by rw [en_53, pk_un (by omega)]; exact e50
                    have e60 : n_53 (6 * k13 + 1808) = nI k9 := by rw [en_53, pk_un (by omega)]; exact e51
                    have e61 : n_53 (6 * k13 + 1809) = nI 0 := by rw [en_53, pk_un (by omega)]; exact e52
                    have e62 : n_53 (6 * k13 + 1810) = nI 0 := by rw [en_53, pk_us]
                    refine pm_aloadn hG dX12_promise_236 rfl ?_
                    refine pm_getf hG dX12_promise_237 (flX12_7 _ rfl) rfl rfl ?_
                    refine pm_sipush (v := nI 1806) hG dX12_promise_240 (by decide) ?_
                    refine pm_bipush (v := nI 6) hG dX12_promise_243 (by decide) ?_
                    refine pm_iloadi hG dX12_promise_245 rfl ?_
                    refine pm_imulN (c := 6 * k13) hG dX12_promise_247 (by omega) ?_
                    refine pm_iaddN (c := 6 * k13 + 1806) hG dX12_promise_248 (by omega) ?_
                    refine pm_iconst (v := nI 5) hG dX12_promise_249 (by decide) ?_
                    refine pm_iaddN (c := 6 * k13 + 1811) hG dX12_promise_250 (by omega) ?_
                    refine pm_iconst (v := nI 0) hG dX12_promise_251 (by decide) ?_
                    refine pm_iastN hG dX12_promise_252 rfl (by decide) (by omega) ?_
                    refine mdn_now (fun n_63 en_63 => ?_)
                    have hnn_63 := KI.w en_63 hnn_53 (okv_f (show kd (6 * k13 + 1811) = (0, 0, false) from (kd_Q (k := k13) (c := 5) (by omega) (by omega) (by decide))))
                    have hrn_63 := NRx.w en_63 hrn_53 (by rw [(show kd (6 * k13 + 1811) = (0, 0, false) from (kd_Q (k := k13) (c := 5) (by omega) (by omega) (by decide)))])
                    have ksn_63 := KS.w en_63 ksn_53 (by unfold tS; omega)
                    have e64 : n_63 0 = nI kc0 := by rw [en_63, pk_un (by omega)]; exact e54
                    have e65 : n_63 2 = nI kc2 := by rw [en_63, pk_un (by omega)]; exact e55
                    have e66 : n_63 8 = nI kc8 := by rw [en_63, pk_un (by omega)]; exact e56
                    have e67 : n_63 7 = nI (k13 + 1) := by rw [en_63, pk_un (by omega)]; exact e57
                    have e68 : n_63 (6 * k13 + 1806) = nI k3 := by rw [en_63, pk_un (by omega)]; exact e58
                    have e69 : n_63 (6 * k13 + 1807) = nI k6 := by rw [en_63, pk_un (by omega)]; exact e59
                    have e70 : n_63 (6 * k13 + 1808) = nI k9 := by rw [en_63, pk_un (by omega)]; exact e60
                    have e71 : n_63 (6 * k13 + 1809) = nI 0 := by rw [en_63, pk_un (by omega)]; exact e61
                    have e72 : n_63 (6 * k13 + 1810) = nI 0 := by rw [en_63, pk_un (by omega)]; exact e62
                    have e73 : n_63 (6 * k13 + 1811) = nI 0 := by rw [en_63, pk_us]
                    refine pm_iloadi hG dX12_promise_253 rfl ?_
                    exact pm_iret hG hF dX12_promise_255 rfl (Nat.le_refl _) (Nat.le_refl _) ⟨_, rfl, ⟨_, _, _, rfl, hnn_63, hrn_63, e64.trans ekc0.symm, e65.trans ekc2.symm, e66.trans ekc8.symm, ksn_63⟩, rfl⟩
                  · refine pm_iconst (v := nI 1) hG dX12_promise_213 (by decide) ?_
                    refine pm_goto (tgt := 218) hG dX12_promise_214 rfl ?_
                    refine pm_iastN hG dX12_promise_218 rfl (by decide) (by omega) ?_
                    refine mdn_now (fun n_74 en_74 => ?_)
                    have hnn_74 := KI.w en_74 hnn_35 (okv_f (show kd (6 * k13 + 1809) = (0, 0, false) from (kd_Q (k := k13) (c := 3) (by omega) (by omega) (by decide))))
                    have hrn_74 := NRx.w en_74 hrn_35 (by rw [(show kd (6 * k13 + 1809) = (0, 0, false) from (kd_Q (k := k13) (c := 3) (by omega) (by omega) (by decide)))])
                    have ksn_74 := KS.w en_74 ksn_35 (by unfold tS; omega)
                    have e75 : n_74 0 = nI kc0 := by rw [en_74, pk_un (by omega)]; exact e36
                    have e76 : n_74 2 = nI kc2 := by rw [en_74, pk_un (by omega)]; exact e37
                    have e77 : n_74 8 = nI kc8 := by rw [en_74, pk_un (by omega)]; exact e38
                    have e78 : n_74 7 = nI (k13 + 1) := by rw [en_74, pk_un (by omega)]; exact e39
                    have e79 : n_74 (6 * k13 + 1806) = nI k3 := by rw [en_74, pk_un (by omega)]; exact e40
                    have e80 : n_74 (6 * k13 + 1807) = nI k6 := by rw [en_74, pk_un (by omega)]; exact e41
                    have e81 : n_74 (6 * k13 + 1808) = nI k9 := by rw [en_74, pk_un (by omega)]; exact e42
                    have e82 : n_74 (6 * k13 + 1809) = nI 1 := by rw [en_74, pk_us]
                    refine pm_aloadn hG dX12_promise_219 rfl ?_
                    refine pm_getf hG dX12_promise_220 (flX12_7 _ rfl) rfl rfl ?_
                    refine pm_sipush (v := nI 1806) hG dX12_promise_223 (by decide) ?_
                    refine pm_bipush (v := nI 6) hG dX12_promise_226 (by decide) ?_
                    refine pm_iloadi hG dX12_promise_228 rfl ?_
                    refine pm_imulN (c := 6 * k13) hG dX12_promise_230 (by omega) ?_
                    refine pm_iaddN (c := 6 * k13 + 1806) hG dX12_promise_231 (by omega) ?_
                    refine pm_iconst (v := nI 4) hG dX12_promise_232 (by decide) ?_
                    refine pm_iaddN (c := 6 * k13 + 1810) hG dX12_promise_233 (by omega) ?_
                    refine pm_iconst (v := nI 0) hG dX12_promise_234 (by decide) ?_
                    refine pm_iastN hG dX12_promise_235 rfl (by decide) (by omega) ?_
                    refine mdn_now (fun n_83 en_83 => ?_)
                    have hnn_83 := KI.w en_83 hnn_74 (okv_f (show kd (6 * k13 + 1810) = (0, 0, false) from (kd_Q (k := k13) (c := 4) (by omega) (by omega) (by decide))))
                    have hrn_83 := NRx.w en_83 hrn_74 (by rw [(show kd (6 * k13 + 1810) = (0, 0, false) from (kd_Q (k := k13) (c := 4) (by omega) (by omega) (by decide)))])
                    have ksn_83 := KS.w en_83 ksn_74 (by unfold tS; omega)
                    have e84 : n_83 0 = nI kc0 := by rw [en_83, pk_un (by omega)]; exact e75
                    have e85 : n_83 2 = nI kc2 := by rw [en_83, pk_un (by omega)]; exact e76
                    have e86 : n_83 8 = nI kc8 := by rw [en_83, pk_un (by omega)]; exact e77
                    have e87 : n_83 7 = nI (k13 + 1) := by rw [en_83, pk_un (by omega)]; exact e78
                    have e88 : n_83 (6 * k13 + 1806) = nI k3 := by rw [en_83, pk_un (by omega)]; exact e79
                    have e89 : n_83 (6 * k13 + 1807) = nI k6 := by rw [en_83, pk_un (by omega)]; exact e80
                    have e90 : n_83 (6 * k13 + 1808) = nI k9 := by rw [en_83, pk_un (by omega)]; exact e81
                    have e91 : n_83 (6 * k13 + 1809) = nI 1 := by rw [en_83, pk_un (by omega)]; exact e82
                    have e92 : n_83 (6 * k13 + 1810) = nI 0 := by rw [en_83, pk_us]
                    refine pm_aloadn hG dX12_promise_236 rfl ?_
                    refine pm_getf hG dX12_promise_237 (flX12_7 _ rfl) rfl rfl ?_
                    refine pm_sipush (v := nI 1806) hG dX12_promise_240 (by decide) ?_
                    refine pm_bipush (v := nI 6) hG dX12_promise_243 (by decide) ?_
                    refine pm_iloadi hG dX12_promise_245 rfl ?_
                    refine pm_imulN (c := 6 * k13) hG dX12_promise_247 (by omega) ?_
                    refine pm_iaddN (c := 6 * k13 + 1806) hG dX12_promise_248 (by omega) ?_
                    refine pm_iconst (v := nI 5) hG dX12_promise_249 (by decide) ?_
                    refine pm_iaddN (c := 6 * k13 + 1811) hG dX12_promise_250 (by omega) ?_
                    refine pm_iconst (v := nI 0) hG dX12_promise_251 (by decide) ?_
                    refine pm_iastN hG dX12_promise_252 rfl (by decide) (by omega) ?_
                    refine mdn_now (fun n_93 en_93 => ?_)
                    have hnn_93 := KI.w en_93 hnn_83 (okv_f (show kd (6 * k13 + 1811) = (0, 0, false) from (kd_Q (k := k13) (c := 5) (by omega) (by omega) (by decide))))
                    have hrn_93 := NRx.w en_93 hrn_83 (by rw [(show kd (6 * k13 + 1811) = (0, 0, false) from (kd_Q (k := k13) (c := 5) (by omega) (by omega) (by decide)))])
                    have ksn_93 := KS.w en_93 ksn_83 (by unfold tS; omega)
                    have e94 : n_93 0 = nI kc0 := by rw [en_93, pk_un (by omega)]; exact e84
                    have e95 : n_93 2 = nI kc2 := by rw [en_93, pk_un (by omega)]; exact e85
                    have e96 : n_93 8 = nI kc8 := by rw [en_93, pk_un (by omega)]; exact e86
                    have e97 : n_93 7 = nI (k13 + 1) := by rw [en_93, pk_un (by omega)]; exact e87
                    have e98 : n_93 (6 * k13 + 1806) = nI k3 := by rw [en_93, pk_un (by omega)]; exact e88
                    have e99 : n_93 (6 * k13 + 1807) = nI k6 := by rw [en_93, pk_un (by omega)]; exact e89
                    have e100 : n_93 (6 * k13 + 1808) = nI k9 := by rw [en_93, pk_un (by omega)]; exact e90
                    have e101 : n_93 (6 * k13 + 1809) = nI 1 := by rw [en_93, pk_un (by omega)]; exact e91
                    have e102 : n_93 (6 * k13 + 1810) = nI 0 := by rw [en_93, pk_un (by omega)]; exact e92
                    have e103 : n_93 (6 * k13 + 1811) = nI 0 := by rw [en_93, pk_us]
                    refine pm_iloadi hG dX12_promise_253 rfl ?_
                    exact pm_iret hG hF dX12_promise_255 rfl (Nat.le_refl _) (Nat.le_refl _) ⟨_, rfl, ⟨_, _, _, rfl, hnn_93, hrn_93, e94.trans ekc0.symm, e95.trans ekc2.symm, e96.trans ekc8.symm, ksn_93⟩, rfl⟩
                · refine pm_aloadn hG dX12_promise_88 rfl ?_
                  refine pm_iloadi hG dX12_promise_89 rfl ?_
                  refine pm_iconst (v := nI 0) hG dX12_promise_91 (by decide) ?_
                  refine pm_callV (As := [.int (nI i15), .int (nI 0)]) (rest := []) hG hR dX12_promise_92 (lkX12_223 _ rfl) okV_X12_promised rfl rfl (m_promised (d := 1) (e := 6 * i15 + 1806) (by omega) (by omega) (by omega)) rfl rfl hdd (Nat.le_refl _) (Nat.le_refl _) (by decide) (pm_ki (fun v104 σ' cnt' hq => ?_))
                  obtain ⟨rfl, rfl, rfl⟩ := hq
                  obtain ⟨k105, hk105, ek105⟩ := KI.nat hnn_15 (show kd (6 * i15 + 1806) = (1, 20, false) from (kd_Q (k := i15) (c := 0) (by omega) (by omega) (by decide)))
                  refine pm_top (v := nI k105) ek105 ?_
                  refine pm_iloadn hG dX12_promise_95 rfl ?_
                  refine pm_top (v := nI k3) ek3 ?_
                  refine pm_icmpN_ne (tgt := 127) hG dX12_promise_96 rfl (by omega) (by omega) (fun c106 => ?_) (fun c106 => ?_)
                  · refine pm_iincX (v := nI (i15 + 1)) (loc' := [some (.ref (B + 54)), some (.int za), some (.int zb), some (.int zc), some (.int zd), some (.int (nI k13)), some (.int (nI (i15 + 1)))]) hG dX12_promise_127 rfl (nI_1 _) (by decide) (pm_c1b rfl) rfl ?_
                    refine pm_goto (tgt := 81) hG dX12_promise_130 rfl ?_
                    exact ih15 I15 A15 n_15 (i15 + 1) hnn_15 ksn_15 hrn_15 (kc15_7.trans (congrArg nI (by omega))) (kc15_0.trans (congrArg nI (by omega))) (kc15_2.trans (congrArg nI (by omega))) (kc15_8.trans (congrArg nI (by omega))) (by omega) (by omega)
                  · refine pm_aloadn hG dX12_promise_99 rfl ?_
                    refine pm_iloadi hG dX12_promise_100 rfl ?_
                    refine pm_iconst (v := nI 1) hG dX12_promise_102 (by decide) ?_
                    refine pm_callV (As := [.int (nI i15), .int (nI 1)]) (rest := []) hG hR dX12_promise_103 (lkX12_223 _ rfl) okV_X12_promised rfl rfl (m_promised (d := 1) (e := 6 * i15 + 1807) (by omega) (by omega) (by omega)) rfl rfl hdd (Nat.le_refl _) (Nat.le_refl _) (by decide) (pm_ki (fun v107 σ' cnt' hq => ?_))
                    obtain ⟨rfl, rfl, rfl⟩ := hq
                    refine pm_gen (fun x108 ex108 => ?_)
                    refine pm_iloadn hG dX12_promise_106 rfl ?_
                    refine pm_top (v := nI k6) ek6 ?_
                    refine pm_icmp_ne (tgt := 127) hG dX12_promise_107 rfl (fun c109 => ?_) (fun c109 => ?_)
                    · refine pm_iincX (v := nI (i15 + 1)) (loc' := [some (.ref (B + 54)), some (.int za), some (.int zb), some (.int zc), some (.int zd), some (.int (nI k13)), some (.int (nI (i15 + 1)))]) hG dX12_promise_127 rfl (nI_1 _) (by decide) (pm_c1b rfl) rfl ?_
                      refine pm_goto (tgt := 81) hG dX12_promise_130 rfl ?_
                      exact ih15 I15 A15 n_15 (i15 + 1) hnn_15 ksn_15 hrn_15 (kc15_7.trans (congrArg nI (by omega))) (kc15_0.trans (congrArg nI (by omega))) (kc15_2.trans (congrArg nI (by omega))) (kc15_8.trans (congrArg nI (by omega))) (by omega) (by omega)
                    · refine pm_aloadn hG dX12_promise_110 rfl ?_
                      refine pm_getf hG dX12_promise_111 (flX12_7 _ rfl) rfl rfl ?_
                      refine pm_sipush (v := nI 1806) hG dX12_promise_114 (by decide) ?_
                      refine pm_bipush (v := nI 6) hG dX12_promise_117 (by decide) ?_
                      refine pm_iloadi hG dX12_promise_119 rfl ?_
                      refine pm_imulN (c := 6 * i15) hG dX12_promise_121 (by omega) ?_
                      refine pm_iaddN (c := 6 * i15 + 1806) hG dX12_promise_122 (by omega) ?_
                      refine pm_iconst (v := nI 5) hG dX12_promise_123 (by decide) ?_
                      refine pm_iaddN (c := 6 * i15 + 1811) hG dX12_promise_124 (by omega) ?_
                      refine pm_iconst (v := nI 1) hG dX12_promise_125 (by decide) ?_
                      refine pm_iastN hG dX12_promise_126 rfl (by decide) (by omega) ?_
                      refine mdn_now (fun n_110 en_110 => ?_)
                      have hnn_110 := KI.w en_110 hnn_15 (okv_f (show kd (6 * i15 + 1811) = (0, 0, false) from (kd_Q (k := i15) (c := 5) (by omega) (by omega) (by decide))))
                      have hrn_110 := NRx.w en_110 hrn_15 (by rw [(show kd (6 * i15 + 1811) = (0, 0, false) from (kd_Q (k := i15) (c := 5) (by omega) (by omega) (by decide)))])
                      have ksn_110 := KS.w en_110 ksn_15 (by unfold tS; omega)
                      have e111 : n_110 7 = nI k13 := by rw [en_110, pk_un (by omega)]; exact kc15_7
                      have e112 : n_110 0 = nI kc0 := by rw [en_110, pk_un (by omega)]; exact kc15_0
                      have e113 : n_110 2 = nI kc2 := by rw [en_110, pk_un (by omega)]; exact kc15_2
                      have e114 : n_110 8 = nI kc8 := by rw [en_110, pk_un (by omega)]; exact kc15_8
                      have e115 : n_110 (6 * i15 + 1806) = nI k105 := by rw [en_110, pk_un (by omega)]; exact ek105
                      have e116 : n_110 (6 * i15 + 1807) = x108 := by rw [en_110, pk_un (by omega)]; exact ex108
                      have e117 : n_110 (6 * i15 + 1811) = nI 1 := by rw [en_110, pk_us]
                      refine pm_iincX (v := nI (i15 + 1)) (loc' := [some (.ref (B + 54)), some (.int za), some (.int zb), some (.int zc), some (.int zd), some (.int (nI k13)), some (.int (nI (i15 + 1)))]) hG dX12_promise_127 rfl (nI_1 _) (by decide) (pm_c1b rfl) rfl ?_
                      refine pm_goto (tgt := 81) hG dX12_promise_130 rfl ?_
                      exact ih15 I15 A15 n_110 (i15 + 1) hnn_110 ksn_110 hrn_110 (e111.trans (congrArg nI (by omega))) (e112.trans (congrArg nI (by omega))) (e113.trans (congrArg nI (by omega))) (e114.trans (congrArg nI (by omega))) (by omega) (by omega)
            exact loop81_15 _ I A n 0 hn KS.rf hr (ek13.trans (congrArg nI (by omega))) (ekc0.trans (congrArg nI (by omega))) (ekc2.trans (congrArg nI (by omega))) (ekc8.trans (congrArg nI (by omega))) (by omega) (Nat.lt_succ_self _)
          · refine pm_aloadn hG dX12_promise_72 rfl ?_
            refine pm_iconst (v := nI 4) hG dX12_promise_73 (by decide) ?_
            refine pm_callV (As := [.int (nI 4)]) (rest := []) hG hR dX12_promise_74 (lkX12_80 _ rfl) okV_X12_finds rfl rfl (m_finds (d := 1) (by decide) hn hz (by omega)) rfl rfl hdd (Nat.le_refl _) (Nat.le_refl _) (by decide) (pm_ki (fun v118 σ' cnt' hq => ?_))
            obtain ⟨⟨I119, A119, rfl⟩, rfl, fv118⟩ := hq
            exact pm_iret hG hF dX12_promise_77 rfl (Nat.le_refl _) (Nat.le_refl _) ⟨_, rfl, ⟨_, _, _, rfl, hn, hr, ekc0.trans ekc0.symm, ekc2.trans ekc2.symm, ekc8.trans ekc8.symm, KS.rf⟩, rfl⟩
        · refine pm_aloadn hG dX12_promise_50 rfl ?_
          refine pm_iconst (v := nI 3) hG dX12_promise_51 (by decide) ?_
          refine pm_callV (As := [.int (nI 3)]) (rest := []) hG hR dX12_promise_52 (lkX12_80 _ rfl) okV_X12_finds rfl rfl (m_finds (d := 1) (by decide) hn hz (by omega)) rfl rfl hdd (Nat.le_refl _) (Nat.le_refl _) (by decide) (pm_ki (fun v120 σ' cnt' hq => ?_))
          obtain ⟨⟨I121, A121, rfl⟩, rfl, fv120⟩ := hq
          exact pm_iret hG hF dX12_promise_55 rfl (Nat.le_refl _) (Nat.le_refl _) ⟨_, rfl, ⟨_, _, _, rfl, hn, hr, ekc0.trans ekc0.symm, ekc2.trans ekc2.symm, ekc8.trans ekc8.symm, KS.rf⟩, rfl⟩
      · refine pm_ifN_ne (tgt := 40) hG dX12_promise_31 rfl (by omega) (fun q => absurd q (by omega)) (fun _ => ?_)
        refine pm_aloadn hG dX12_promise_34 rfl ?_
        refine pm_iconst (v := nI 1) hG dX12_promise_35 (by decide) ?_
        refine pm_callV (As := [.int (nI 1)]) (rest := []) hG hR dX12_promise_36 (lkX12_80 _ rfl) okV_X12_finds rfl rfl (m_finds (d := 1) (by decide) hn hz (by omega)) rfl rfl hdd (Nat.le_refl _) (Nat.le_refl _) (by decide) (pm_ki (fun v122 σ' cnt' hq => ?_))
        obtain ⟨⟨I123, A123, rfl⟩, rfl, fv122⟩ := hq
        exact pm_iret hG hF dX12_promise_39 rfl (Nat.le_refl _) (Nat.le_refl _) ⟨_, rfl, ⟨_, _, _, rfl, hn, hr, ekc0.trans ekc0.symm, ekc2.trans ekc2.symm, ekc8.trans ekc8.symm, KS.rf⟩, rfl⟩
    · refine pm_ifN_eq (tgt := 34) hG dX12_promise_14 rfl (by omega) (fun _ => ?_) (fun q => absurd q (by omega))
      refine pm_aloadn hG dX12_promise_34 rfl ?_
      refine pm_iconst (v := nI 1) hG dX12_promise_35 (by decide) ?_
      refine pm_callV (As := [.int (nI 1)]) (rest := []) hG hR dX12_promise_36 (lkX12_80 _ rfl) okV_X12_finds rfl rfl (m_finds (d := 1) (by decide) hn hz (by omega)) rfl rfl hdd (Nat.le_refl _) (Nat.le_refl _) (by decide) (pm_ki (fun v124 σ' cnt' hq => ?_))
      obtain ⟨⟨I125, A125, rfl⟩, rfl, fv124⟩ := hq
      exact pm_iret hG hF dX12_promise_39 rfl (Nat.le_refl _) (Nat.le_refl _) ⟨_, rfl, ⟨_, _, _, rfl, hn, hr, ekc0.trans ekc0.symm, ekc2.trans ekc2.symm, ekc8.trans ekc8.symm, KS.rf⟩, rfl⟩
  · refine pm_ifN_eq (tgt := 34) hG dX12_promise_5 rfl (by omega) (fun _ => ?_) (fun q => absurd q (by omega))
    refine pm_aloadn hG dX12_promise_34 rfl ?_
    refine pm_iconst (v := nI 1) hG dX12_promise_35 (by decide) ?_
    refine pm_callV (As := [.int (nI 1)]) (rest := []) hG hR dX12_promise_36 (lkX12_80 _ rfl) okV_X12_finds rfl rfl (m_finds (d := 1) (by decide) hn hz (by omega)) rfl rfl hdd (Nat.le_refl _) (Nat.le_refl _) (by decide) (pm_ki (fun v126 σ' cnt' hq => ?_))
    obtain ⟨⟨I127, A127, rfl⟩, rfl, fv126⟩ := hq
    exact pm_iret hG hF dX12_promise_39 rfl (Nat.le_refl _) (Nat.le_refl _) ⟨_, rfl, ⟨_, _, _, rfl, hn, hr, ekc0.trans ekc0.symm, ekc2.trans ekc2.symm, ekc8.trans ekc8.symm, KS.rf⟩, rfl⟩

set_option maxRecDepth 100000 in
set_option maxHeartbeats 4000000 in
theorem m_put {d B cnt p0 t0 : Nat} {σ : pm_S} {I : Nat → Int32} {A : Nat → Nat → Int32} {n k z : Nat → Int32} {ac wt pl im : Int32} {za zb zc : Int32} (hdd : 2 ≤ d) (hn : KI n) (hz : SZ z)  : pm_met mX12_put d 0 0 B [.ref (B + 54), .int za, .int zb, .int zc] cnt (pm_mid σ (md_L B I A n k z ac wt pl (nI p0) (nI t0) im)) (pm_Qi (fun v σ' cnt' => (∃ (I' : Nat → Int32) (A' : Nat → Nat → Int32), σ' = pm_mid σ (md_L B I' A' n k z ac wt pl (nI p0) (nI t0) im)) ∧ cnt = cnt')) := by
  refine pm_enter 0 (by decide) (Nat.le_of_ble_eq_true rfl) rfl (fun G hG hR hF => ?_)
  refine pm_iloadn hG dX12_put_0 rfl ?_
  refine pm_callS (As := [.int za]) (rest := []) hG hR dX12_put_1 (lkX12_239 _ rfl) okS_X12_isSheet (m_isSheet (d := 1) (by decide)) rfl rfl hdd (Nat.le_refl _) (Nat.le_refl _) (by decide) (pm_ki (fun v1 σ' cnt' hq => ?_))
  obtain ⟨hq, rfl, rfl⟩ := hq
  rcases hq with ⟨rfl, ac2, bc2⟩ | ⟨rfl, c2⟩
  · obtain ⟨k3, hk3, ek3⟩ := in_nat (by omega) (by omega) ac2 bc2
    refine pm_ifN_ne (tgt := 13) hG dX12_put_4 rfl (by omega) (fun _ => ?_) (fun q => absurd q (by omega))
    refine pm_aloadn hG dX12_put_13 rfl ?_
    refine pm_getf hG dX12_put_14 (flX12_55 _ rfl) rfl rfl ?_
    refine pm_iloadn hG dX12_put_17 rfl ?_
    refine pm_top (v := nI k3) ek3 ?_
    refine pm_ialdN hG dX12_put_18 rfl (by decide) (by omega) ?_
    refine pm_any (fun x4 => ?_)
    refine pm_if_ne (tgt := 28) hG dX12_put_19 rfl (fun c5 => ?_) (fun c5 => ?_)
    · refine pm_iloadn hG dX12_put_28 rfl ?_
      refine pm_iconst (v := nI 0) hG dX12_put_29 (by decide) ?_
      refine pm_aloadn hG dX12_put_30 rfl ?_
      refine pm_getf hG dX12_put_31 (flX12_58 _ rfl) rfl rfl ?_
      refine pm_iloadn hG dX12_put_34 rfl ?_
      refine pm_top (v := nI k3) ek3 ?_
      refine pm_ialdN hG dX12_put_35 rfl (by decide) (by omega) ?_
      obtain ⟨k6, hk6, ek6⟩ := hz k3 (by omega)
      refine pm_top (v := nI k6) ek6 ?_
      refine pm_iconst (v := nI 1) hG dX12_put_36 (by decide) ?_
      refine pm_isub hG dX12_put_37 ?_
      refine pm_callS (As := [.int zb, .int (nI 0), .int ((nI k6) - (nI 1))]) (rest := []) hG hR dX12_put_38 (lkX12_68 _ rfl) okS_X12_in (m_in (d := 1)) rfl rfl hdd (Nat.le_refl _) (Nat.le_refl _) (by decide) (pm_ki (fun v7 σ' cnt' hq => ?_))
      obtain ⟨hq, rfl, rfl⟩ := hq
      rcases hq with ⟨rfl, ac8, bc8⟩ | ⟨rfl, c8⟩
      · obtain ⟨k9, hk9, ek9⟩ := in_cnt (c := k6) (by omega) ac8 bc8
        refine pm_ifN_ne (tgt := 50) hG dX12_put_41 rfl (by omega) (fun _ => ?_) (fun q => absurd q (by omega))
        refine pm_aloadn hG dX12_put_50 rfl ?_
        refine pm_getf hG dX12_put_51 (flX12_61 _ rfl) rfl rfl ?_
        refine pm_bipush (v := nI 24) hG dX12_put_54 (by decide) ?_
        refine pm_iloadn hG dX12_put_56 rfl ?_
        refine pm_top (v := nI k3) ek3 ?_
        refine pm_imulN (c := 24 * k3) hG dX12_put_57 (by omega) ?_
        refine pm_iloadn hG dX12_put_58 rfl ?_
        refine pm_top (v := nI k9) ek9 ?_
        refine pm_iaddN (c := 24 * k3 + k9) hG dX12_put_59 (by omega) ?_
        refine pm_aloadn hG dX12_put_60 rfl ?_
        refine pm_getf hG dX12_put_61 (flX12_55 _ rfl) rfl rfl ?_
        refine pm_iloadn hG dX12_put_64 rfl ?_
        refine pm_top (v := nI k3) ek3 ?_
        refine pm_ialdN hG dX12_put_65 rfl (by decide) (by omega) ?_
        refine pm_any (fun x10 => ?_)
        refine pm_bipush (v := nI 8) hG dX12_put_66 (by decide) ?_
        refine pm_icmp_ne (tgt := 76) hG dX12_put_68 rfl (fun c11 => ?_) (fun c11 => ?_)
        · refine pm_aloadn hG dX12_put_76 rfl ?_
          refine pm_getf hG dX12_put_77 (flX12_55 _ rfl) rfl rfl ?_
          refine pm_iloadn hG dX12_put_80 rfl ?_
          refine pm_top (v := nI k3) ek3 ?_
          refine pm_ialdN hG dX12_put_81 rfl (by decide) (by omega) ?_
          refine pm_any (fun x12 => ?_)
          refine pm_bipush (v := nI 16) hG dX12_put_82 (by decide) ?_
          refine pm_icmp_ne (tgt := 92) hG dX12_put_84 rfl (fun c13 => ?_) (fun c13 => ?_)
          · refine pm_iloadn hG dX12_put_92 rfl ?_
            refine pm_iastN hG dX12_put_93 rfl (by decide) (by omega) ?_
            refine mdn_sheets (fun A_14 => ?_)
            refine pm_iconst (v := nI 1) hG dX12_put_94 (by decide) ?_
            exact pm_iret hG hF dX12_put_95 rfl (Nat.le_refl _) (Nat.le_refl _) ⟨_, rfl, ⟨_, _, rfl⟩, rfl⟩
          · refine pm_iloadn hG dX12_put_87 rfl ?_
            refine pm_i2s hG dX12_put_88 rfl ?_
            refine pm_any (fun x15 => ?_)
            refine pm_goto (tgt := 93) hG dX12_put_89 rfl ?_
            refine pm_iastN hG dX12_put_93 rfl (by decide) (by omega) ?_
            refine mdn_sheets (fun A_16 => ?_)
            refine pm_iconst (v := nI 1) hG dX12_put_94 (by decide) ?_
            exact pm_iret hG hF dX12_put_95 rfl (Nat.le_refl _) (Nat.le_refl _) ⟨_, rfl, ⟨_, _, rfl⟩, rfl⟩
        · refine pm_iloadn hG dX12_put_71 rfl ?_
          refine pm_i2b hG dX12_put_72 rfl ?_
          refine pm_any (fun x17 => ?_)
          refine pm_goto (tgt := 93) hG dX12_put_73 rfl ?_
          refine pm_iastN hG dX12_put_93 rfl (by decide) (by omega) ?_
          refine mdn_sheets (fun A_18 => ?_)
          refine pm_iconst (v := nI 1) hG dX12_put_94 (by decide) ?_
          exact pm_iret hG hF dX12_put_95 rfl (Nat.le_refl _) (Nat.le_refl _) ⟨_, rfl, ⟨_, _, rfl⟩, rfl⟩
      · refine pm_ifN_ne (tgt := 50) hG dX12_put_41 rfl (by omega) (fun q => absurd q (by omega)) (fun _ => ?_)
        refine pm_aloadn hG dX12_put_44 rfl ?_
        refine pm_iconst (v := nI 1) hG dX12_put_45 (by decide) ?_
        refine pm_callV (As := [.int (nI 1)]) (rest := []) hG hR dX12_put_46 (lkX12_80 _ rfl) okV_X12_finds rfl rfl (m_finds (d := 1) (by decide) hn hz (by omega)) rfl rfl hdd (Nat.le_refl _) (Nat.le_refl _) (by decide) (pm_ki (fun v19 σ' cnt' hq => ?_))
        obtain ⟨⟨I20, A20, rfl⟩, rfl, fv19⟩ := hq
        exact pm_iret hG hF dX12_put_49 rfl (Nat.le_refl _) (Nat.le_refl _) ⟨_, rfl, ⟨_, _, rfl⟩, rfl⟩
    · refine pm_aloadn hG dX12_put_22 rfl ?_
      refine pm_iconst (v := nI 2) hG dX12_put_23 (by decide) ?_
      refine pm_callV (As := [.int (nI 2)]) (rest := []) hG hR dX12_put_24 (lkX12_80 _ rfl) okV_X12_finds rfl rfl (m_finds (d := 1) (by decide) hn hz (by omega)) rfl rfl hdd (Nat.le_refl _) (Nat.le_refl _) (by decide) (pm_ki (fun v21 σ' cnt' hq => ?_))
      obtain ⟨⟨I22, A22, rfl⟩, rfl, fv21⟩ := hq
      exact pm_iret hG hF dX12_put_27 rfl (Nat.le_refl _) (Nat.le_refl _) ⟨_, rfl, ⟨_, _, rfl⟩, rfl⟩
  · refine pm_ifN_ne (tgt := 13) hG dX12_put_4 rfl (by omega) (fun q => absurd q (by omega)) (fun _ => ?_)
    refine pm_aloadn hG dX12_put_7 rfl ?_
    refine pm_iconst (v := nI 1) hG dX12_put_8 (by decide) ?_
    refine pm_callV (As := [.int (nI 1)]) (rest := []) hG hR dX12_put_9 (lkX12_80 _ rfl) okV_X12_finds rfl rfl (m_finds (d := 1) (by decide) hn hz (by omega)) rfl rfl hdd (Nat.le_refl _) (Nat.le_refl _) (by decide) (pm_ki (fun v23 σ' cnt' hq => ?_))
    obtain ⟨⟨I24, A24, rfl⟩, rfl, fv23⟩ := hq
    exact pm_iret hG hF dX12_put_12 rfl (Nat.le_refl _) (Nat.le_refl _) ⟨_, rfl, ⟨_, _, rfl⟩, rfl⟩

set_option maxRecDepth 100000 in
set_option maxHeartbeats 4000000 in
theorem m_ranksPower {d B cnt p0 t0 : Nat} {σ : pm_S} {I : Nat → Int32} {A : Nat → Nat → Int32} {n k z : Nat → Int32} {ac wt pl im : Int32} {zb : Int32} {ba : Nat} (hdd : 2 ≤ d) (hn : KI n) (hz : SZ z) (ht0 : t0 ≤ 40) (hba : ba < 20) : pm_met mX12_ranksPower d 0 0 B [.ref (B + 54), .int (nI ba), .int zb] cnt (pm_mid σ (md_L B I A n k z ac wt pl (nI p0) (nI t0) im)) (pm_Qi (fun v σ' cnt' => (∃ (I' : Nat → Int32) (A' : Nat → Nat → Int32) (t0' : Nat), σ' = pm_mid σ (md_L B I' A' n k z ac wt pl (nI p0) (nI t0') im) ∧ t0' ≤ 40) ∧ cnt = cnt')) := by
  refine pm_enter 0 (by decide) (Nat.le_of_ble_eq_true rfl) rfl (fun G hG hR hF => ?_)
  refine pm_aloadn hG dX12_ranksPower_0 rfl ?_
  refine pm_bipush (v := nI 12) hG dX12_ranksPower_1 (by decide) ?_
  refine pm_callV (As := [.int (nI 12)]) (rest := []) hG hR dX12_ranksPower_3 (lkX12_286 _ rfl) okV_X12_ran rfl rfl (m_ran (d := 1) (by decide) hn hz (by omega)) rfl rfl hdd (Nat.le_refl _) (Nat.le_refl _) (by decide) (pm_kv (fun σ' cnt' hq => ?_))
  obtain ⟨⟨I2, A2, t2, rfl, ht2⟩, rfl⟩ := hq
  refine pm_iloadn hG dX12_ranksPower_6 rfl ?_
  refine pm_iloadn hG dX12_ranksPower_7 rfl ?_
  refine pm_isub hG dX12_ranksPower_8 ?_
  exact pm_iret hG hF dX12_ranksPower_9 rfl (Nat.le_refl _) (Nat.le_refl _) ⟨_, rfl, ⟨_, _, _, rfl, by omega⟩, rfl⟩

set_option maxRecDepth 100000 in
set_option maxHeartbeats 4000000 in
theorem m_ranksOf {d B cnt p0 t0 : Nat} {σ : pm_S} {I : Nat → Int32} {A : Nat → Nat → Int32} {n k z : Nat → Int32} {ac wt pl im : Int32} {zb : Int32} {ba : Nat} (hdd : 3 ≤ d) (hn : KI n) (hz : SZ z) (ht0 : t0 ≤ 40) (hba : ba < 20) : pm_met mX12_ranksOf d 0 0 B [.ref (B + 54), .int (nI ba), .int zb] cnt (pm_mid σ (md_L B I A n k z ac wt pl (nI p0) (nI t0) im)) (pm_Qi (fun v σ' cnt' => (∃ (I' : Nat → Int32) (A' : Nat → Nat → Int32) (t0' : Nat), σ' = pm_mid σ (md_L B I' A' n k z ac wt pl (nI p0) (nI t0') im) ∧ t0' ≤ 40) ∧ cnt = cnt')) := by
  refine pm_enter 0 (by decide) (Nat.le_of_ble_eq_true rfl) rfl (fun G hG hR hF => ?_)
  refine pm_aloadn hG dX12_ranksOf_0 rfl ?_
  refine pm_iloadn hG dX12_ranksOf_1 rfl ?_
  refine pm_iconst (v := nI 0) hG dX12_ranksOf_2 (by decide) ?_
  refine pm_callV (As := [.int (nI ba), .int (nI 0)]) (rest := []) hG hR dX12_ranksOf_3 (lkX12_110 _ rfl) okV_X12_its rfl rfl (m_its (d := 2) (e := 6 * ba + 390) (by omega) (by omega) (by omega)) rfl rfl hdd (Nat.le_refl _) (Nat.le_refl _) (by decide) (pm_ki (fun v1 σ' cnt' hq => ?_))
  obtain ⟨rfl, rfl, rfl⟩ := hq
  refine pm_gen (fun x2 ex2 => ?_)
  refine pm_iconst (v := nI 2) hG dX12_ranksOf_6 (by decide) ?_
  refine pm_icmp_eq (tgt := 17) hG dX12_ranksOf_7 rfl (fun c3 => ?_) (fun c3 => ?_)
  · refine pm_aloadn hG dX12_ranksOf_17 rfl ?_
    refine pm_bipush (v := nI 30) hG dX12_ranksOf_18 (by decide) ?_
    refine pm_callV (As := [.int (nI 30)]) (rest := []) hG hR dX12_ranksOf_20 (lkX12_286 _ rfl) okV_X12_ran rfl rfl (m_ran (d := 2) (by decide) hn hz (by omega)) rfl rfl hdd (Nat.le_refl _) (Nat.le_refl _) (by decide) (pm_kv (fun σ' cnt' hq => ?_))
    obtain ⟨⟨I5, A5, t5, rfl, ht5⟩, rfl⟩ := hq
    refine pm_aloadn hG dX12_ranksOf_23 rfl ?_
    refine pm_iloadn hG dX12_ranksOf_24 rfl ?_
    refine pm_iloadn hG dX12_ranksOf_25 rfl ?_
    refine pm_callV (As := [.int (nI ba), .int zb]) (rest := []) hG hR dX12_ranksOf_26 (lkX12_301 _ rfl) okV_X12_ranksPower rfl rfl (m_ranksPower (d := 2) (by decide) hn hz (by omega) (by omega)) rfl rfl hdd (Nat.le_refl _) (Nat.le_refl _) (by decide) (pm_ki (fun v6 σ' cnt' hq => ?_))
    obtain ⟨⟨I7, A7, t7, rfl, ht7⟩, rfl⟩ := hq
    refine pm_iconst (v := nI 3) hG dX12_ranksOf_29 (by decide) ?_
    refine pm_imul hG dX12_ranksOf_30 ?_
    exact pm_iret hG hF dX12_ranksOf_31 rfl (Nat.le_refl _) (Nat.le_refl _) ⟨_, rfl, ⟨_, _, _, rfl, by omega⟩, rfl⟩
  · refine pm_aloadn hG dX12_ranksOf_10 rfl ?_
    refine pm_iloadn hG dX12_ranksOf_11 rfl ?_
    refine pm_iloadn hG dX12_ranksOf_12 rfl ?_
    refine pm_callV (As := [.int (nI ba), .int zb]) (rest := []) hG hR dX12_ranksOf_13 (lkX12_301 _ rfl) okV_X12_ranksPower rfl rfl (m_ranksPower (d := 2) (by decide) hn hz (by omega) (by omega)) rfl rfl hdd (Nat.le_refl _) (Nat.le_refl _) (by decide) (pm_ki (fun v8 σ' cnt' hq => ?_))
    obtain ⟨⟨I9, A9, t9, rfl, ht9⟩, rfl⟩ := hq
    exact pm_iret hG hF dX12_ranksOf_16 rfl (Nat.le_refl _) (Nat.le_refl _) ⟨_, rfl, ⟨_, _, _, rfl, by omega⟩, rfl⟩

set_option maxRecDepth 100000 in
set_option maxHeartbeats 4000000 in
theorem m_rent {d B cnt p0 t0 : Nat} {σ : pm_S} {I : Nat → Int32} {A : Nat → Nat → Int32} {n k z : Nat → Int32} {ac wt pl im : Int32} {za zb : Int32} (hdd : 2 ≤ d) (hn : KI n) (hr : NR n) (hz : SZ z)  : pm_met mX12_rent d 0 0 B [.ref (B + 54), .int za, .int zb] cnt (pm_mid σ (md_L B I A n k z ac wt pl (nI p0) (nI t0) im)) (pm_Qi (fun v σ' cnt' => (∃ (I' : Nat → Int32) (A' : Nat → Nat → Int32) (n' : Nat → Int32), σ' = pm_mid σ (md_L B I' A' n' k z ac wt pl (nI p0) (nI t0) im) ∧ KI n' ∧ NR n' ∧ n' 0 = n 0 ∧ n' 2 = n 2 ∧ n' 8 = n 8 ∧ KS n' n) ∧ cnt = cnt')) := by
  obtain ⟨kc0, hkc0, ekc0⟩ := KI.nat hn (show kd 0 = (1, 11, true) by decide)
  obtain ⟨kc2, hkc2, ekc2⟩ := KI.nat hn (show kd 2 = (1, 21, true) by decide)
  obtain ⟨kc8, hkc8, ekc8⟩ := KI.nat hn (show kd 8 = (1, 2001, false) by decide)
  refine pm_enter 1 (by decide) (Nat.le_of_ble_eq_true rfl) rfl (fun G hG hR hF => ?_)
  refine pm_aloadn hG dX12_rent_0 rfl ?_
  refine pm_iloadn hG dX12_rent_1 rfl ?_
  refine pm_callV (As := [.int za]) (rest := []) hG hR dX12_rent_2 (lkX12_84 _ rfl) okV_X12_isTown rfl rfl (m_isTown (d := 1) (by decide) ekc0 (by omega)) rfl rfl hdd (Nat.le_refl _) (Nat.le_refl _) (by decide) (pm_ki (fun v1 σ' cnt' hq => ?_))
  obtain ⟨hq, rfl, rfl⟩ := hq
  rcases hq with ⟨rfl, k3, hk3, ek3⟩ | ⟨rfl, ntk3⟩
  · refine pm_ifN_eq (tgt := 19) hG dX12_rent_5 rfl (by omega) (fun q => absurd q (by omega)) (fun _ => ?_)
    refine pm_iloadn hG dX12_rent_8 rfl ?_
    refine pm_iconst (v := nI 0) hG dX12_rent_9 (by decide) ?_
    refine pm_sipush (v := nI 999) hG dX12_rent_10 (by decide) ?_
    refine pm_callS (As := [.int zb, .int (nI 0), .int (nI 999)]) (rest := []) hG hR dX12_rent_13 (lkX12_68 _ rfl) okS_X12_in (m_in (d := 1)) rfl rfl hdd (Nat.le_refl _) (Nat.le_refl _) (by decide) (pm_ki (fun v4 σ' cnt' hq => ?_))
    obtain ⟨hq, rfl, rfl⟩ := hq
    rcases hq with ⟨rfl, ac5, bc5⟩ | ⟨rfl, c5⟩
    · obtain ⟨k6, hk6, ek6⟩ := in_nat (by omega) (by omega) ac5 bc5
      refine pm_ifN_ne (tgt := 25) hG dX12_rent_16 rfl (by omega) (fun _ => ?_) (fun q => absurd q (by omega))
      refine pm_aloadn hG dX12_rent_25 rfl ?_
      refine pm_getf hG dX12_rent_26 (flX12_7 _ rfl) rfl rfl ?_
      refine pm_bipush (v := nI 20) hG dX12_rent_29 (by decide) ?_
      refine pm_iconst (v := nI 3) hG dX12_rent_31 (by decide) ?_
      refine pm_iloadn hG dX12_rent_32 rfl ?_
      refine pm_top (v := nI k3) ek3 ?_
      refine pm_imulN (c := 3 * k3) hG dX12_rent_33 (by omega) ?_
      refine pm_iaddN (c := 3 * k3 + 20) hG dX12_rent_34 (by omega) ?_
      refine pm_ialdN hG dX12_rent_35 rfl (by decide) (by omega) ?_
      refine pm_gen (fun x7 ex7 => ?_)
      refine pm_istoreXn (loc' := [some (.ref (B + 54)), some (.int za), some (.int zb), some (.int x7)]) hG dX12_rent_36 (by decide) (pm_c1b rfl) rfl ?_
      refine pm_aloadn hG dX12_rent_37 rfl ?_
      refine pm_getf hG dX12_rent_38 (flX12_7 _ rfl) rfl rfl ?_
      refine pm_bipush (v := nI 20) hG dX12_rent_41 (by decide) ?_
      refine pm_iconst (v := nI 3) hG dX12_rent_43 (by decide) ?_
      refine pm_iloadn hG dX12_rent_44 rfl ?_
      refine pm_top (v := nI k3) ek3 ?_
      refine pm_imulN (c := 3 * k3) hG dX12_rent_45 (by omega) ?_
      refine pm_iaddN (c := 3 * k3 + 20) hG dX12_rent_46 (by omega) ?_
      refine pm_iloadn hG dX12_rent_47 rfl ?_
      refine pm_top (v := nI k6) ek6 ?_
      refine pm_iastN hG dX12_rent_48 rfl (by decide) (by omega) ?_
      refine mdn_now (fun n_8 en_8 => ?_)
      have hnn_8 := KI.w en_8 hn (okv_f (show kd (3 * k3 + 20) = (0, 0, false) from (kd_T (k := k3) (c := 0) (by omega) (by omega) (by decide))))
      have hrn_8 := NRx.w en_8 hr (by rw [(show kd (3 * k3 + 20) = (0, 0, false) from (kd_T (k := k3) (c := 0) (by omega) (by omega) (by decide)))])
      have ksn_8 := KS.w en_8 KS.rf (by unfold tS; omega)
      have e9 : n_8 0 = nI kc0 := by rw [en_8, pk_un (by omega)]; exact ekc0
      have e10 : n_8 2 = nI kc2 := by rw [en_8, pk_un (by omega)]; exact ekc2
      have e11 : n_8 8 = nI kc8 := by rw [en_8, pk_un (by omega)]; exact ekc8
      have e12 : n_8 (3 * k3 + 20) = nI k6 := by rw [en_8, pk_us]
      refine pm_iloadn hG dX12_rent_49 rfl ?_
      exact pm_iret hG hF dX12_rent_50 rfl (Nat.le_refl _) (Nat.le_refl _) ⟨_, rfl, ⟨_, _, _, rfl, hnn_8, hrn_8, e9.trans ekc0.symm, e10.trans ekc2.symm, e11.trans ekc8.symm, ksn_8⟩, rfl⟩
    · refine pm_ifN_ne (tgt := 25) hG dX12_rent_16 rfl (by omega) (fun q => absurd q (by omega)) (fun _ => ?_)
      refine pm_aloadn hG dX12_rent_19 rfl ?_
      refine pm_iconst (v := nI 1) hG dX12_rent_20 (by decide) ?_
      refine pm_callV (As := [.int (nI 1)]) (rest := []) hG hR dX12_rent_21 (lkX12_80 _ rfl) okV_X12_finds rfl rfl (m_finds (d := 1) (by decide) hn hz (by omega)) rfl rfl hdd (Nat.le_refl _) (Nat.le_refl _) (by decide) (pm_ki (fun v13 σ' cnt' hq => ?_))
      obtain ⟨⟨I14, A14, rfl⟩, rfl, fv13⟩ := hq
      exact pm_iret hG hF dX12_rent_24 rfl (Nat.le_refl _) (Nat.le_refl _) ⟨_, rfl, ⟨_, _, _, rfl, hn, hr, ekc0.trans ekc0.symm, ekc2.trans ekc2.symm, ekc8.trans ekc8.symm, KS.rf⟩, rfl⟩
  · refine pm_ifN_eq (tgt := 19) hG dX12_rent_5 rfl (by omega) (fun _ => ?_) (fun q => absurd q (by omega))
    refine pm_aloadn hG dX12_rent_19 rfl ?_
    refine pm_iconst (v := nI 1) hG dX12_rent_20 (by decide) ?_
    refine pm_callV (As := [.int (nI 1)]) (rest := []) hG hR dX12_rent_21 (lkX12_80 _ rfl) okV_X12_finds rfl rfl (m_finds (d := 1) (by decide) hn hz (by omega)) rfl rfl hdd (Nat.le_refl _) (Nat.le_refl _) (by decide) (pm_ki (fun v15 σ' cnt' hq => ?_))
    obtain ⟨⟨I16, A16, rfl⟩, rfl, fv15⟩ := hq
    exact pm_iret hG hF dX12_rent_24 rfl (Nat.le_refl _) (Nat.le_refl _) ⟨_, rfl, ⟨_, _, _, rfl, hn, hr, ekc0.trans ekc0.symm, ekc2.trans ekc2.symm, ekc8.trans ekc8.symm, KS.rf⟩, rfl⟩
