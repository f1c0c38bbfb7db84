set_option maxRecDepth 100000 in
set_option maxHeartbeats 4000000 in
theorem m_price {d B cnt p0 t0 : Nat} {σ : pm_S} {I : Nat → Int32} {A : Nat → Nat → Int32} {n k z : Nat → Int32} {ac wt pl im : Int32} {za zb : Int32} (hdd : 2 ≤ d) (hn : KI n) (hr : NR n) (hz : SZ z)  : pm_met mX12_price d 0 0 B [.ref (B + 54), .int za, .int zb] cnt (pm_mid σ (md_L B I A n k z ac wt pl (nI p0) (nI t0) im)) (pm_Qi (fun v σ' cnt' => (∃ (I' : Nat → Int32) (A' : Nat → Nat → Int32) (n' : Nat → Int32), σ' = pm_mid σ (md_L B I' A' n' k z ac wt pl (nI p0) (nI t0) im) ∧ KI n' ∧ NR n' ∧ n' 0 = n 0 ∧ n' 2 = n 2 ∧ n' 7 = n 7 ∧ n' 8 = n 8 ∧ KS n' n) ∧ cnt = cnt')) := by
  obtain ⟨kc0, hkc0, ekc0⟩ := KI.nat hn (show kd 0 = (1, 11, true) by decide)
  obtain ⟨kc2, hkc2, ekc2⟩ := KI.nat hn (show kd 2 = (1, 21, true) by decide)
  obtain ⟨kc7, hkc7, ekc7⟩ := KI.nat hn (show kd 7 = (1, 31, false) by decide)
  obtain ⟨kc8, hkc8, ekc8⟩ := KI.nat hn (show kd 8 = (1, 2001, false) by decide)
  refine pm_enter 1 (by decide) (Nat.le_of_ble_eq_true rfl) rfl (fun G hG hR hF => ?_)
  refine pm_aloadn hG dX12_price_0 rfl ?_
  refine pm_iloadn hG dX12_price_1 rfl ?_
  refine pm_callV (As := [.int za]) (rest := []) hG hR dX12_price_2 (lkX12_91 _ rfl) okV_X12_isPerson rfl rfl (m_isPerson (d := 1) (by decide) ekc2 (by omega)) rfl rfl hdd (Nat.le_refl _) (Nat.le_refl _) (by decide) (pm_ki (fun v1 σ' cnt' hq => ?_))
  obtain ⟨hq, rfl, rfl⟩ := hq
  rcases hq with ⟨rfl, k3, hk3, ek3⟩ | ⟨rfl, ntk3⟩
  · refine pm_ifN_eq (tgt := 19) hG dX12_price_5 rfl (by omega) (fun q => absurd q (by omega)) (fun _ => ?_)
    refine pm_iloadn hG dX12_price_8 rfl ?_
    refine pm_iconst (v := nI 1) hG dX12_price_9 (by decide) ?_
    refine pm_sipush (v := nI 999) hG dX12_price_10 (by decide) ?_
    refine pm_callS (As := [.int zb, .int (nI 1), .int (nI 999)]) (rest := []) hG hR dX12_price_13 (lkX12_68 _ rfl) okS_X12_in (m_in (d := 1)) rfl rfl hdd (Nat.le_refl _) (Nat.le_refl _) (by decide) (pm_ki (fun v4 σ' cnt' hq => ?_))
    obtain ⟨hq, rfl, rfl⟩ := hq
    rcases hq with ⟨rfl, ac5, bc5⟩ | ⟨rfl, c5⟩
    · obtain ⟨k6, hk6, ek6⟩ := in_nat (by omega) (by omega) ac5 bc5
      refine pm_ifN_ne (tgt := 25) hG dX12_price_16 rfl (by omega) (fun _ => ?_) (fun q => absurd q (by omega))
      refine pm_aloadn hG dX12_price_25 rfl ?_
      refine pm_iloadn hG dX12_price_26 rfl ?_
      refine pm_top (v := nI k3) ek3 ?_
      refine pm_bipush (v := nI 12) hG dX12_price_27 (by decide) ?_
      refine pm_callV (As := [.int (nI k3), .int (nI 12)]) (rest := []) hG hR dX12_price_29 (lkX12_72 _ rfl) okV_X12_man rfl rfl (m_man (d := 1) (e := 14 * k3 + 122) (by omega) (by omega) (by omega)) rfl rfl hdd (Nat.le_refl _) (Nat.le_refl _) (by decide) (pm_ki (fun v7 σ' cnt' hq => ?_))
      obtain ⟨rfl, rfl, rfl⟩ := hq
      refine pm_gen (fun x8 ex8 => ?_)
      refine pm_istoreXn (loc' := [some (.ref (B + 54)), some (.int za), some (.int zb), some (.int x8)]) hG dX12_price_32 (by decide) (pm_c1b rfl) rfl ?_
      refine pm_aloadn hG dX12_price_33 rfl ?_
      refine pm_iloadn hG dX12_price_34 rfl ?_
      refine pm_top (v := nI k3) ek3 ?_
      refine pm_bipush (v := nI 12) hG dX12_price_35 (by decide) ?_
      refine pm_iloadn hG dX12_price_37 rfl ?_
      refine pm_top (v := nI k6) ek6 ?_
      refine pm_callV (As := [.int (nI k3), .int (nI 12), .int (nI k6)]) (rest := []) hG hR dX12_price_38 (lkX12_97 _ rfl) okV_X12_sets rfl rfl (m_sets (d := 1) (e := 14 * k3 + 122) (by omega) (by omega) (by omega)) rfl rfl hdd (Nat.le_refl _) (Nat.le_refl _) (by decide) (pm_kv (fun σ' cnt' hq => ?_))
      obtain ⟨rfl, rfl⟩ := hq
      obtain ⟨n_9, en_9⟩ : ∃ f : Nat → Int32, f = upd n (14 * k3 + 122) (nI k6) := ⟨_, rfl⟩
      rw [← en_9]
      have hnn_9 := KI.w en_9 hn (okv_f (show kd (14 * k3 + 122) = (0, 0, false) from (kd_P (k := k3) (c := 12) (by omega) (by omega) (by decide))))
      have hrn_9 := NRx.w en_9 hr (by rw [(show kd (14 * k3 + 122) = (0, 0, false) from (kd_P (k := k3) (c := 12) (by omega) (by omega) (by decide)))])
      have ksn_9 := KS.w en_9 KS.rf (by unfold tS; omega)
      have e10 : n_9 0 = nI kc0 := by rw [en_9, pk_un (by omega)]; exact ekc0
      have e11 : n_9 2 = nI kc2 := by rw [en_9, pk_un (by omega)]; exact ekc2
      have e12 : n_9 7 = nI kc7 := by rw [en_9, pk_un (by omega)]; exact ekc7
      have e13 : n_9 8 = nI kc8 := by rw [en_9, pk_un (by omega)]; exact ekc8
      have e14 : n_9 (14 * k3 + 122) = nI k6 := by rw [en_9, pk_us]
      refine pm_iloadn hG dX12_price_41 rfl ?_
      exact pm_iret hG hF dX12_price_42 rfl (Nat.le_refl _) (Nat.le_refl _) ⟨_, rfl, ⟨_, _, _, rfl, hnn_9, hrn_9, e10.trans ekc0.symm, e11.trans ekc2.symm, e12.trans ekc7.symm, e13.trans ekc8.symm, ksn_9⟩, rfl⟩
    · refine pm_ifN_ne (tgt := 25) hG dX12_price_16 rfl (by omega) (fun q => absurd q (by omega)) (fun _ => ?_)
      refine pm_aloadn hG dX12_price_19 rfl ?_
      refine pm_iconst (v := nI 1) hG dX12_price_20 (by decide) ?_
      refine pm_callV (As := [.int (nI 1)]) (rest := []) hG hR dX12_price_21 (lkX12_80 _ rfl) okV_X12_finds rfl rfl (m_finds (d := 1) (by decide) hn hz (by omega)) rfl rfl hdd (Nat.le_refl _) (Nat.le_refl _) (by decide) (pm_ki (fun v15 σ' cnt' hq => ?_))
      obtain ⟨⟨I16, A16, rfl⟩, rfl, fv15⟩ := hq
      exact pm_iret hG hF dX12_price_24 rfl (Nat.le_refl _) (Nat.le_refl _) ⟨_, rfl, ⟨_, _, _, rfl, hn, hr, ekc0.trans ekc0.symm, ekc2.trans ekc2.symm, ekc7.trans ekc7.symm, ekc8.trans ekc8.symm, KS.rf⟩, rfl⟩
  · refine pm_ifN_eq (tgt := 19) hG dX12_price_5 rfl (by omega) (fun _ => ?_) (fun q => absurd q (by omega))
    refine pm_aloadn hG dX12_price_19 rfl ?_
    refine pm_iconst (v := nI 1) hG dX12_price_20 (by decide) ?_
    refine pm_callV (As := [.int (nI 1)]) (rest := []) hG hR dX12_price_21 (lkX12_80 _ rfl) okV_X12_finds rfl rfl (m_finds (d := 1) (by decide) hn hz (by omega)) rfl rfl hdd (Nat.le_refl _) (Nat.le_refl _) (by decide) (pm_ki (fun v17 σ' cnt' hq => ?_))
    obtain ⟨⟨I18, A18, rfl⟩, rfl, fv17⟩ := hq
    exact pm_iret hG hF dX12_price_24 rfl (Nat.le_refl _) (Nat.le_refl _) ⟨_, rfl, ⟨_, _, _, rfl, hn, hr, ekc0.trans ekc0.symm, ekc2.trans ekc2.symm, ekc7.trans ekc7.symm, ekc8.trans ekc8.symm, KS.rf⟩, rfl⟩

set_option maxRecDepth 100000 in
set_option maxHeartbeats 4000000 in
theorem m_promise {d B cnt p0 t0 : Nat} {σ : pm_S} {I : Nat → Int32} {A : Nat → Nat → Int32} {n k z : Nat → Int32} {ac wt pl im : Int32} {za zb zc zd : Int32} (hdd : 2 ≤ d) (hn : KI n) (hr : NR n) (hz : SZ z)  : pm_met mX12_promise d 0 0 B [.ref (B + 54), .int za, .int zb, .int zc, .int zd] cnt (pm_mid σ (md_L B I A n k z ac wt pl (nI p0) (nI t0) im)) (pm_Qi (fun v σ' cnt' => (∃ (I' : Nat → Int32) (A' : Nat → Nat → Int32) (n' : Nat → Int32), σ' = pm_mid σ (md_L B I' A' n' k z ac wt pl (nI p0) (nI t0) im) ∧ KI n' ∧ NR n' ∧ n' 0 = n 0 ∧ n' 2 = n 2 ∧ n' 8 = n 8 ∧ KS n' n ∧ v = vK (mT n) (n 8) (n 2) (n 7) za zb zc ∧ n' 7 = tK (mT n) (n 8) (n 2) (n 7) za zb zc) ∧ cnt = cnt')) := by
  obtain ⟨kc0, hkc0, ekc0⟩ := KI.nat hn (show kd 0 = (1, 11, true) by decide)
  obtain ⟨kc2, hkc2, ekc2⟩ := KI.nat hn (show kd 2 = (1, 21, true) by decide)
  obtain ⟨kc7, hkc7, ekc7⟩ := KI.nat hn (show kd 7 = (1, 31, false) by decide)
  obtain ⟨kc8, hkc8, ekc8⟩ := KI.nat hn (show kd 8 = (1, 2001, false) by decide)
  refine pm_enter 2 (by decide) (Nat.le_of_ble_eq_true rfl) rfl (fun G hG hR hF => ?_)
  refine pm_aloadn hG dX12_promise_0 rfl ?_
  refine pm_iloadn hG dX12_promise_1 rfl ?_
  refine pm_callV (As := [.int za]) (rest := []) hG hR dX12_promise_2 (lkX12_91 _ rfl) okV_X12_isPerson rfl rfl (m_isPerson (d := 1) (by decide) ekc2 (by omega)) rfl rfl hdd (Nat.le_refl _) (Nat.le_refl _) (by decide) (pm_ki (fun v1 σ' cnt' hq => ?_))
  obtain ⟨hq, rfl, rfl⟩ := hq
  rcases hq with ⟨rfl, k3, hk3, ek3⟩ | ⟨rfl, ntk3⟩
  · refine pm_ifN_eq (tgt := 34) hG dX12_promise_5 rfl (by omega) (fun q => absurd q (by omega)) (fun _ => ?_)
    refine pm_iloadn hG dX12_promise_8 rfl ?_
    refine pm_iconst (v := nI 0) hG dX12_promise_9 (by decide) ?_
    refine pm_iconst (v := nI 5) hG dX12_promise_10 (by decide) ?_
    refine pm_callS (As := [.int zb, .int (nI 0), .int (nI 5)]) (rest := []) hG hR dX12_promise_11 (lkX12_68 _ rfl) okS_X12_in (m_in (d := 1)) rfl rfl hdd (Nat.le_refl _) (Nat.le_refl _) (by decide) (pm_ki (fun v4 σ' cnt' hq => ?_))
    obtain ⟨hq, rfl, rfl⟩ := hq
    rcases hq with ⟨rfl, ac5, bc5⟩ | ⟨rfl, c5⟩
    · obtain ⟨k6, hk6, ek6⟩ := in_nat (by omega) (by omega) ac5 bc5
      refine pm_ifN_eq (tgt := 34) hG dX12_promise_14 rfl (by omega) (fun q => absurd q (by omega)) (fun _ => ?_)
      refine pm_iloadn hG dX12_promise_17 rfl ?_
      refine pm_aloadn hG dX12_promise_18 rfl ?_
      refine pm_getf hG dX12_promise_19 (flX12_7 _ rfl) rfl rfl ?_
      refine pm_bipush (v := nI 8) hG dX12_promise_22 (by decide) ?_
      refine pm_ialdN hG dX12_promise_24 rfl (by decide) (by omega) ?_
      refine pm_top (v := nI kc8) ekc8 ?_
      refine pm_sipush (v := nI 2000) hG dX12_promise_25 (by decide) ?_
      refine pm_callS (As := [.int zc, .int (nI kc8), .int (nI 2000)]) (rest := []) hG hR dX12_promise_28 (lkX12_68 _ rfl) okS_X12_in (m_in (d := 1)) rfl rfl hdd (Nat.le_refl _) (Nat.le_refl _) (by decide) (pm_ki (fun v7 σ' cnt' hq => ?_))
      obtain ⟨hq, rfl, rfl⟩ := hq
      rcases hq with ⟨rfl, ac8, bc8⟩ | ⟨rfl, c8⟩
      · obtain ⟨k9, hk9, ek9⟩ := in_nat (by omega) (by omega) ac8 bc8
        refine pm_ifN_ne (tgt := 40) hG dX12_promise_31 rfl (by omega) (fun _ => ?_) (fun q => absurd q (by omega))
        refine pm_aloadn hG dX12_promise_40 rfl ?_
        refine pm_iloadn hG dX12_promise_41 rfl ?_
        refine pm_top (v := nI k3) ek3 ?_
        refine pm_bipush (v := nI 11) hG dX12_promise_42 (by decide) ?_
        refine pm_callV (As := [.int (nI k3), .int (nI 11)]) (rest := []) hG hR dX12_promise_44 (lkX12_72 _ rfl) okV_X12_man rfl rfl (m_man (d := 1) (e := 14 * k3 + 121) (by omega) (by omega) (by omega)) rfl rfl hdd (Nat.le_refl _) (Nat.le_refl _) (by decide) (pm_ki (fun v10 σ' cnt' hq => ?_))
        obtain ⟨rfl, rfl, rfl⟩ := hq
        obtain ⟨k11, hk11, ek11⟩ := KI.nat hn (show kd (14 * k3 + 121) = (1, 2, true) from (kd_P (k := k3) (c := 11) (by omega) (by omega) (by decide)))
        refine pm_top (v := nI k11) ek11 ?_
        refine pm_ifN_ne (tgt := 56) hG dX12_promise_47 rfl (by omega) (fun c12 => ?_) (fun c12 => ?_)
        · refine pm_aloadn hG dX12_promise_56 rfl ?_
          refine pm_getf hG dX12_promise_57 (flX12_7 _ rfl) rfl rfl ?_
          refine pm_bipush (v := nI 7) hG dX12_promise_60 (by decide) ?_
          refine pm_ialdN hG dX12_promise_62 rfl (by decide) (by omega) ?_
          refine pm_top (v := nI kc7) ekc7 ?_
          refine pm_istoreXi (loc' := [some (.ref (B + 54)), some (.int za), some (.int zb), some (.int zc), some (.int zd), some (.int (nI kc7)), none]) hG dX12_promise_63 (by decide) (pm_c1b rfl) rfl ?_
          refine pm_iloadi hG dX12_promise_65 rfl ?_
          refine pm_bipush (v := nI 30) hG dX12_promise_67 (by decide) ?_
          refine pm_icmpN_ne (tgt := 78) hG dX12_promise_69 rfl (by omega) (by omega) (fun c13 => ?_) (fun c13 => ?_)
          · refine pm_iconst (v := nI 0) hG dX12_promise_78 (by decide) ?_
            refine pm_istoreXi (loc' := [some (.ref (B + 54)), some (.int za), some (.int zb), some (.int zc), some (.int zd), some (.int (nI kc7)), some (.int (nI 0))]) hG dX12_promise_79 (by decide) (pm_c1b rfl) rfl ?_
            have loop81_14 : ∀ (m14 : Nat) (I14 : Nat → Int32) (A14 : Nat → Nat → Int32) (n_14 : Nat → Int32) (i14 : Nat), KI n_14 → KS n_14 n → NRx 40 n_14 → n_14 7 = nI kc7 → n_14 0 = nI kc0 → n_14 2 = nI kc2 → n_14 8 = nI kc8 → i14 ≤ 29 → 29 - i14 < m14 → pm_wp mX12_promise G B 81 [some (.ref (B + 54)), some (.int za), some (.int zb), some (.int zc), some (.int zd), some (.int (nI kc7)), some (.int (nI i14))] [] 0 0 cnt (pm_mid σ (md_L B I14 A14 n_14 k z ac wt pl (nI p0) (nI t0) im)) := by
              intro m14
              induction m14 with
              | zero => intro I14 A14 n_14 i14 _ _ _ _ _ _ _ _ hm; exact absurd hm (Nat.not_lt_zero _)
              | succ m14 ih14 =>
                intro I14 A14 n_14 i14 hnn_14 ksn_14 hrn_14 kc14_7 kc14_0 kc14_2 kc14_8 hi14 hm14
                refine pm_iloadi hG dX12_promise_81 rfl ?_
                refine pm_iloadi hG dX12_promise_83 rfl ?_
                refine pm_icmpN_ge (tgt := 133) hG dX12_promise_85 rfl (by omega) (by omega) (fun c15 => ?_) (fun c15 => ?_)
                · refine pm_aloadn hG dX12_promise_133 rfl ?_
                  refine pm_getf hG dX12_promise_134 (flX12_7 _ rfl) rfl rfl ?_
                  refine pm_bipush (v := nI 7) hG dX12_promise_137 (by decide) ?_
                  refine pm_dup2 hG dX12_promise_139 rfl rfl ?_
                  refine pm_ialdN hG dX12_promise_140 rfl (by decide) (by omega) ?_
                  refine pm_top (v := nI kc7) kc14_7 ?_
                  refine pm_iconst (v := nI 1) hG dX12_promise_141 (by decide) ?_
                  refine pm_iaddN (c := kc7 + 1) hG dX12_promise_142 (by omega) ?_
                  refine pm_iastN hG dX12_promise_143 rfl (by decide) (by omega) ?_
                  refine mdn_now (fun n_16 en_16 => ?_)
                  have hnn_16 := KI.w en_16 hnn_14 (okv_n (show kd 7 = (1, 31, false) by decide) (by omega))
                  have hrn_16 := NRx.w en_16 hrn_14 (by rw [(show kd 7 = (1, 31, false) by decide)])
                  have ksn_16 := KS.w en_16 ksn_14 (by unfold tS; omega)
                  have e17 : n_16 0 = nI kc0 := by rw [en_16, pk_un (by omega)]; exact kc14_0
                  have e18 : n_16 2 = nI kc2 := by rw [en_16, pk_un (by omega)]; exact kc14_2
                  have e19 : n_16 8 = nI kc8 := by rw [en_16, pk_un (by omega)]; exact kc14_8
                  have e20 : n_16 7 = nI (kc7 + 1) := by rw [en_16, pk_us]
                  refine pm_aloadn hG dX12_promise_144 rfl ?_
                  refine pm_getf hG dX12_promise_145 (flX12_7 _ rfl) rfl rfl ?_
                  refine pm_sipush (v := nI 1806) hG dX12_promise_148 (by decide) ?_
                  refine pm_bipush (v := nI 6) hG dX12_promise_151 (by decide) ?_
                  refine pm_iloadi hG dX12_promise_153 rfl ?_
                  refine pm_imulN (c := 6 * kc7) hG dX12_promise_155 (by omega) ?_
                  refine pm_iaddN (c := 6 * kc7 + 1806) hG dX12_promise_156 (by omega) ?_
                  refine pm_iloadn hG dX12_promise_157 rfl ?_
                  refine pm_top (v := nI k3) ek3 ?_
                  refine pm_iastN hG dX12_promise_158 rfl (by decide) (by omega) ?_
                  refine mdn_now (fun n_21 en_21 => ?_)
                  have hnn_21 := KI.w en_21 hnn_16 (okv_n (show kd (6 * kc7 + 1806) = (1, 20, false) from (kd_Q (k := kc7) (c := 0) (by omega) (by omega) (by decide))) (by omega))
                  have hrn_21 := NRx.w en_21 hrn_16 (by rw [(show kd (6 * kc7 + 1806) = (1, 20, false) from (kd_Q (k := kc7) (c := 0) (by omega) (by omega) (by decide)))])
                  have ksn_21 := KS.w en_21 ksn_16 (by unfold tS; omega)
                  have e22 : n_21 0 = nI kc0 := by rw [en_21, pk_un (by omega)]; exact e17
                  have e23 : n_21 2 = nI kc2 := by rw [en_21, pk_un (by omega)]; exact e18
                  have e24 : n_21 8 = nI kc8 := by rw [en_21, pk_un (by omega)]; exact e19
                  have e25 : n_21 7 = nI (kc7 + 1) := by rw [en_21, pk_un (by omega)]; exact e20
                  have e26 : n_21 (6 * kc7 + 1806) = nI k3 := by rw [en_21, pk_us]
                  refine pm_aloadn hG dX12_promise_159 rfl ?_
                  refine pm_getf hG dX12_promise_160 (flX12_7 _ rfl) rfl rfl ?_
                  refine pm_sipush (v := nI 1806) hG dX12_promise_163 (by decide) ?_
                  refine pm_bipush (v := nI 6) hG dX12_promise_166 (by decide) ?_
                  refine pm_iloadi hG dX12_promise_168 rfl ?_
                  refine pm_imulN (c := 6 * kc7) hG dX12_promise_170 (by omega) ?_
                  refine pm_iaddN (c := 6 * kc7 + 1806) hG dX12_promise_171 (by omega) ?_
                  refine pm_iconst (v := nI 1) hG dX12_promise_172 (by decide) ?_
                  refine pm_iaddN (c := 6 * kc7 + 1807) hG dX12_promise_173 (by omega) ?_
                  refine pm_iloadn hG dX12_promise_174 rfl ?_
                  refine pm_top (v := nI k6) ek6 ?_
                  refine pm_iastN hG dX12_promise_175 rfl (by decide) (by omega) ?_
                  refine mdn_now (fun n_27 en_27 => ?_)
                  have hnn_27 := KI.w en_27 hnn_21 (okv_f (show kd (6 * kc7 + 1807) = (0, 0, false) from (kd_Q (k := kc7) (c := 1) (by omega) (by omega) (by decide))))
                  have hrn_27 := NRx.w en_27 hrn_21 (by rw [(show kd (6 * kc7 + 1807) = (0, 0, false) from (kd_Q (k := kc7) (c := 1) (by omega) (by omega) (by decide)))])
                  have ksn_27 := KS.w en_27 ksn_21 (by unfold tS; omega)
                  have e28 : n_27 0 = nI kc0 := by rw [en_27, pk_un (by omega)]; exact e22
                  have e29 : n_27 2 = nI kc2 := by rw [en_27, pk_un (by omega)]; exact e23
                  have e30 : n_27 8 = nI kc8 := by rw [en_27, pk_un (by omega)]; exact e24
                  have e31 : n_27 7 = nI (kc7 + 1) := by rw [en_27, pk_un (by omega)]; exact e25
                  have e32 : n_27 (6 * kc7 + 1806) = nI k3 := by rw [en_27, pk_un (by omega)]; exact e26
                  have e33 : n_27 (6 * kc7 + 1807) = nI k6 := by rw [en_27, pk_us]
                  refine pm_aloadn hG dX12_promise_176 rfl ?_
                  refine pm_getf hG dX12_promise_177 (flX12_7 _ rfl) rfl rfl ?_
                  refine pm_sipush (v := nI 1806) hG dX12_promise_180 (by decide) ?_
                  refine pm_bipush (v := nI 6) hG dX12_promise_183 (by decide) ?_
                  refine pm_iloadi hG dX12_promise_185 rfl ?_
                  refine pm_imulN (c := 6 * kc7) hG dX12_promise_187 (by omega) ?_
                  refine pm_iaddN (c := 6 * kc7 + 1806) hG dX12_promise_188 (by omega) ?_
                  refine pm_iconst (v := nI 2) hG dX12_promise_189 (by decide) ?_
                  refine pm_iaddN (c := 6 * kc7 + 1808) hG dX12_promise_190 (by omega) ?_
                  refine pm_iloadn hG dX12_promise_191 rfl ?_
                  refine pm_top (v := nI k9) ek9 ?_
                  refine pm_iastN hG dX12_promise_192 rfl (by decide) (by omega) ?_
                  refine mdn_now (fun n_34 en_34 => ?_)
                  have hnn_34 := KI.w en_34 hnn_27 (okv_f (show kd (6 * kc7 + 1808) = (0, 0, false) from (kd_Q (k := kc7) (c := 2) (by omega) (by omega) (by decide))))
                  have hrn_34 := NRx.w en_34 hrn_27 (by rw [(show kd (6 * kc7 + 1808) = (0, 0, false) from (kd_Q (k := kc7) (c := 2) (by omega) (by omega) (by decide)))])
                  have ksn_34 := KS.w en_34 ksn_27 (by unfold tS; omega)
                  have e35 : n_34 0 = nI kc0 := by rw [en_34, pk_un (by omega)]; exact e28
                  have e36 : n_34 2 = nI kc2 := by rw [en_34, pk_un (by omega)]; exact e29
                  have e37 : n_34 8 = nI kc8 := by rw [en_34, pk_un (by omega)]; exact e30
                  have e38 : n_34 7 = nI (kc7 + 1) := by rw [en_34, pk_un (by omega)]; exact e31
                  have e39 : n_34 (6 * kc7 + 1806) = nI k3 := by rw [en_34, pk_un (by omega)]; exact e32
                  have e40 : n_34 (6 * kc7 + 1807) = nI k6 := by rw [en_34, pk_un (by omega)]; exact e33
                  have e41 : n_34 (6 * kc7 + 1808) = nI k9 := by rw [en_34, pk_us]
                  refine pm_aloadn hG dX12_promise_193 rfl ?_
                  refine pm_getf hG dX12_promise_194 (flX12_7 _ rfl) rfl rfl ?_
                  refine pm_sipush (v := nI 1806) hG dX12_promise_197 (by decide) ?_
                  refine pm_bipush (v := nI 6) hG dX12_promise_200 (by decide) ?_
                  refine pm_iloadi hG dX12_promise_202 rfl ?_
                  refine pm_imulN (c := 6 * kc7) hG dX12_promise_204 (by omega) ?_
                  refine pm_iaddN (c := 6 * kc7 + 1806) hG dX12_promise_205 (by omega) ?_
                  refine pm_iconst (v := nI 3) hG dX12_promise_206 (by decide) ?_
                  refine pm_iaddN (c := 6 * kc7 + 1809) hG dX12_promise_207 (by omega) ?_
                  refine pm_iloadi hG dX12_promise_208 rfl ?_
                  refine pm_if_eq (tgt := 217) hG dX12_promise_210 rfl (fun c42 => ?_) (fun c42 => ?_)
                  · refine pm_iconst (v := nI 0) hG dX12_promise_217 (by decide) ?_
                    refine pm_iastN hG dX12_promise_218 rfl (by decide) (by omega) ?_
                    refine mdn_now (fun n_43 en_43 => ?_)
                    have hnn_43 := KI.w en_43 hnn_34 (okv_f (show kd (6 * kc7 + 1809) = (0, 0, false) from (kd_Q (k := kc7) (c := 3) (by omega) (by omega) (by decide))))
                    have hrn_43 := NRx.w en_43 hrn_34 (by rw [(show kd (6 * kc7 + 1809) = (0, 0, false) from (kd_Q (k := kc7) (c := 3) (by omega) (by omega) (by decide)))])
                    have ksn_43 := KS.w en_43 ksn_34 (by unfold tS; omega)
                    have e44 : n_43 0 = nI kc0 := by rw [en_43, pk_un (by omega)]; exact e35
                    have e45 : n_43 2 = nI kc2 := by rw [en_43, pk_un (by omega)]; exact e36
                    have e46 : n_43 8 = nI kc8 := by rw [en_43, pk_un (by omega)]; exact e37
                    have e47 : n_43 7 = nI (kc7 + 1) := by rw [en_43, pk_un (by omega)]; exact e38
                    have e48 : n_43 (6 * kc7 + 1806) = nI k3 := by rw [en_43, pk_un (by omega)]; exact e39
                    have e49 : n_43 (6 * kc7 + 1807) = nI k6 := by rw [en_43, pk_un (by omega)]; exact e40
                    have e50 : n_43 (6 * kc7 + 1808) = nI k9 := by rw [en_43, pk_un (by omega)]; exact e41
                    have e51 : n_43 (6 * kc7 + 1809) = nI 0 := by rw [en_43, pk_us]
                    refine pm_aloadn hG dX12_promise_219 rfl ?_
                    refine pm_getf hG dX12_promise_220 (flX12_7 _ rfl) rfl rfl ?_
                    refine pm_sipush (v := nI 1806) hG dX12_promise_223 (by decide) ?_
                    refine pm_bipush (v := nI 6) hG dX12_promise_226 (by decide) ?_
                    refine pm_iloadi hG dX12_promise_228 rfl ?_
                    refine pm_imulN (c := 6 * kc7) hG dX12_promise_230 (by omega) ?_
                    refine pm_iaddN (c := 6 * kc7 + 1806) hG dX12_promise_231 (by omega) ?_
                    refine pm_iconst (v := nI 4) hG dX12_promise_232 (by decide) ?_
                    refine pm_iaddN (c := 6 * kc7 + 1810) hG dX12_promise_233 (by omega) ?_
                    refine pm_iconst (v := nI 0) hG dX12_promise_234 (by decide) ?_
                    refine pm_iastN hG dX12_promise_235 rfl (by decide) (by omega) ?_
                    refine mdn_now (fun n_52 en_52 => ?_)
                    have hnn_52 := KI.w en_52 hnn_43 (okv_f (show kd (6 * kc7 + 1810) = (0, 0, false) from (kd_Q (k := kc7) (c := 4) (by omega) (by omega) (by decide))))
                    have hrn_52 := NRx.w en_52 hrn_43 (by rw [(show kd (6 * kc7 + 1810) = (0, 0, false) from (kd_Q (k := kc7) (c := 4) (by omega) (by omega) (by decide)))])
                    have ksn_52 := KS.w en_52 ksn_43 (by unfold tS; omega)
                    have e53 : n_52 0 = nI kc0 := by rw [en_52, pk_un (by omega)]; exact e44
                    have e54 : n_52 2 = nI kc2 := by rw [en_52, pk_un (by omega)]; exact e45
                    have e55 : n_52 8 = nI kc8 := by rw [en_52, pk_un (by omega)]; exact e46
                    have e56 : n_52 7 = nI (kc7 + 1) := by rw [en_52, pk_un (by omega)]; exact e47
                    have e57 : n_52 (6 * kc7 + 1806) = nI k3 := by rw [en_52, pk_un (by omega)]; exact e48
                    have e58 : n_52 (6 * kc7 + 1807) = nI k6 := by rw [en_52, pk_un (by omega)]; exact e49
                    have e59 : n_52 (6 * kc7 + 1808) = nI k9 := by rw [en_52, pk_un (by omega)]; exact e50
                    have e60 : n_52 (6 * kc7 + 1809) = nI 0 := by rw [en_52, pk_un (by omega)]; exact e51
                    have e61 : n_52 (6 * kc7 + 1810) = nI 0 := by rw [en_52, pk_us]
                    refine pm_aloadn hG dX12_promise_236 rfl ?_
                    refine pm_getf hG dX12_promise_237 (flX12_7 _ rfl) rfl rfl ?_
                    refine pm_sipush (v := nI 1806) hG dX12_promise_240 (by decide) ?_
                    refine pm_bipush (v := nI 6) hG dX12_promise_243 (by decide) ?_
                    refine pm_iloadi hG dX12_promise_245 rfl ?_
                    refine pm_imulN (c := 6 * kc7) hG dX12_promise_247 (by omega) ?_
                    refine pm_iaddN (c := 6 * kc7 + 1806) hG dX12_promise_248 (by omega) ?_
                    refine pm_iconst (v := nI 5) hG dX12_promise_249 (by decide) ?_
                    refine pm_iaddN (c := 6 * kc7 + 1811) hG dX12_promise_250 (by omega) ?_
                    refine pm_iconst (v := nI 0) hG dX12_promise_251 (by decide) ?_
                    refine pm_iastN hG dX12_promise_252 rfl (by decide) (by omega) ?_
                    refine mdn_now (fun n_62 en_62 => ?_)
                    have hnn_62 := KI.w en_62 hnn_52 (okv_f (show kd (6 * kc7 + 1811) = (0, 0, false) from (kd_Q (k := kc7) (c := 5) (by omega) (by omega) (by decide))))
                    have hrn_62 := NRx.w en_62 hrn_52 (by rw [(show kd (6 * kc7 + 1811) = (0, 0, false) from (kd_Q (k := kc7) (c := 5) (by omega) (by omega) (by decide)))])
                    have ksn_62 := KS.w en_62 ksn_52 (by unfold tS; omega)
                    have e63 : n_62 0 = nI kc0 := by rw [en_62, pk_un (by omega)]; exact e53
                    have e64 : n_62 2 = nI kc2 := by rw [en_62, pk_un (by omega)]; exact e54
                    have e65 : n_62 8 = nI kc8 := by rw [en_62, pk_un (by omega)]; exact e55
                    have e66 : n_62 7 = nI (kc7 + 1) := by rw [en_62, pk_un (by omega)]; exact e56
                    have e67 : n_62 (6 * kc7 + 1806) = nI k3 := by rw [en_62, pk_un (by omega)]; exact e57
                    have e68 : n_62 (6 * kc7 + 1807) = nI k6 := by rw [en_62, pk_un (by omega)]; exact e58
                    have e69 : n_62 (6 * kc7 + 1808) = nI k9 := by rw [en_62, pk_un (by omega)]; exact e59
                    have e70 : n_62 (6 * kc7 + 1809) = nI 0 := by rw [en_62, pk_un (by omega)]; exact e60
                    have e71 : n_62 (6 * kc7 + 1810) = nI 0 := by rw [en_62, pk_un (by omega)]; exact e61
                    have e72 : n_62 (6 * kc7 + 1811) = nI 0 := by rw [en_62, pk_us]
                    refine pm_iloadi hG dX12_promise_253 rfl ?_
                    exact pm_iret hG hF dX12_promise_255 rfl (Nat.le_refl _) (Nat.le_refl _) ⟨_, rfl, ⟨_, _, _, rfl, hnn_62, hrn_62, e63.trans ekc0.symm, e64.trans ekc2.symm, e65.trans ekc8.symm, ksn_62, ⟨(vK_d (T := mT n) (d := n 8) (p := n 2) (m := n 7) (a := za) (b := zb) (c := zc) (not3 (nt_in ekc2 (by omega) ek3 (by omega)) (rg_in (a := 0) (b := 5) (by omega) ek6 (by omega) (by omega)) (by rw [ekc8]; exact rg_in (a := kc8) (b := 2000) (by omega) ek9 (by omega) (by omega))) (fun q => absurd (nI_inj (b := 0) (by omega) (by omega) (((s13_0 ek3 (by omega)).trans ek11).symm.trans q)) (by omega)) ekc7 (by omega)).1, e66.trans (vK_d (T := mT n) (d := n 8) (p := n 2) (m := n 7) (a := za) (b := zb) (c := zc) (not3 (nt_in ekc2 (by omega) ek3 (by omega)) (rg_in (a := 0) (b := 5) (by omega) ek6 (by omega) (by omega)) (by rw [ekc8]; exact rg_in (a := kc8) (b := 2000) (by omega) ek9 (by omega) (by omega))) (fun q => absurd (nI_inj (b := 0) (by omega) (by omega) (((s13_0 ek3 (by omega)).trans ek11).symm.trans q)) (by omega)) ekc7 (by omega)).2⟩⟩, rfl⟩
                  · refine pm_iconst (v := nI 1) hG dX12_promise_213 (by decide) ?_
                    refine pm_goto (tgt := 218) hG dX12_promise_214 rfl ?_
                    refine pm_iastN hG dX12_promise_218 rfl (by decide) (by omega) ?_
                    refine mdn_now (fun n_73 en_73 => ?_)
                    have hnn_73 := KI.w en_73 hnn_34 (okv_f (show kd (6 * kc7 + 1809) = (0, 0, false) from (kd_Q (k := kc7) (c := 3) (by omega) (by omega) (by decide))))
                    have hrn_73 := NRx.w en_73 hrn_34 (by rw [(show kd (6 * kc7 + 1809) = (0, 0, false) from (kd_Q (k := kc7) (c := 3) (by omega) (by omega) (by decide)))])
                    have ksn_73 := KS.w en_73 ksn_34 (by unfold tS; omega)
                    have e74 : n_73 0 = nI kc0 := by rw [en_73, pk_un (by omega)]; exact e35
                    have e75 : n_73 2 = nI kc2 := by rw [en_73, pk_un (by omega)]; exact e36
                    have e76 : n_73 8 = nI kc8 := by rw [en_73, pk_un (by omega)]; exact e37
                    have e77 : n_73 7 = nI (kc7 + 1) := by rw [en_73, pk_un (by omega)]; exact e38
                    have e78 : n_73 (6 * kc7 + 1806) = nI k3 := by rw [en_73, pk_un (by omega)]; exact e39
                    have e79 : n_73 (6 * kc7 + 1807) = nI k6 := by rw [en_73, pk_un (by omega)]; exact e40
                    have e80 : n_73 (6 * kc7 + 1808) = nI k9 := by rw [en_73, pk_un (by omega)]; exact e41
                    have e81 : n_73 (6 * kc7 + 1809) = nI 1 := by rw [en_73, pk_us]
                    refine pm_aloadn hG dX12_promise_219 rfl ?_
                    refine pm_getf hG dX12_promise_220 (flX12_7 _ rfl) rfl rfl ?_
                    refine pm_sipush (v := nI 1806) hG dX12_promise_223 (by decide) ?_
                    refine pm_bipush (v := nI 6) hG dX12_promise_226 (by decide) ?_
                    refine pm_iloadi hG dX12_promise_228 rfl ?_
                    refine pm_imulN (c := 6 * kc7) hG dX12_promise_230 (by omega) ?_
                    refine pm_iaddN (c := 6 * kc7 + 1806) hG dX12_promise_231 (by omega) ?_
                    refine pm_iconst (v := nI 4) hG dX12_promise_232 (by decide) ?_
                    refine pm_iaddN (c := 6 * kc7 + 1810) hG dX12_promise_233 (by omega) ?_
                    refine pm_iconst (v := nI 0) hG dX12_promise_234 (by decide) ?_
                    refine pm_iastN hG dX12_promise_235 rfl (by decide) (by omega) ?_
                    refine mdn_now (fun n_82 en_82 => ?_)
                    have hnn_82 := KI.w en_82 hnn_73 (okv_f (show kd (6 * kc7 + 1810) = (0, 0, false) from (kd_Q (k := kc7) (c := 4) (by omega) (by omega) (by decide))))
                    have hrn_82 := NRx.w en_82 hrn_73 (by rw [(show kd (6 * kc7 + 1810) = (0, 0, false) from (kd_Q (k := kc7) (c := 4) (by omega) (by omega) (by decide)))])
                    have ksn_82 := KS.w en_82 ksn_73 (by unfold tS; omega)
                    have e83 : n_82 0 = nI kc0 := by rw [en_82, pk_un (by omega)]; exact e74
                    have e84 : n_82 2 = nI kc2 := by rw [en_82, pk_un (by omega)]; exact e75
                    have e85 : n_82 8 = nI kc8 := by rw [en_82, pk_un (by omega)]; exact e76
                    have e86 : n_82 7 = nI (kc7 + 1) := by rw [en_82, pk_un (by omega)]; exact e77
                    have e87 : n_82 (6 * kc7 + 1806) = nI k3 := by rw [en_82, pk_un (by omega)]; exact e78
                    have e88 : n_82 (6 * kc7 + 1807) = nI k6 := by rw [en_82, pk_un (by omega)]; exact e79
                    have e89 : n_82 (6 * kc7 + 1808) = nI k9 := by rw [en_82, pk_un (by omega)]; exact e80
                    have e90 : n_82 (6 * kc7 + 1809) = nI 1 := by rw [en_82, pk_un (by omega)]; exact e81
                    have e91 : n_82 (6 * kc7 + 1810) = nI 0 := by rw [en_82, pk_us]
                    refine pm_aloadn hG dX12_promise_236 rfl ?_
                    refine pm_getf hG dX12_promise_237 (flX12_7 _ rfl) rfl rfl ?_
                    refine pm_sipush (v := nI 1806) hG dX12_promise_240 (by decide) ?_
                    refine pm_bipush (v := nI 6) hG dX12_promise_243 (by decide) ?_
                    refine pm_iloadi hG dX12_promise_245 rfl ?_
                    refine pm_imulN (c := 6 * kc7) hG dX12_promise_247 (by omega) ?_
                    refine pm_iaddN (c := 6 * kc7 + 1806) hG dX12_promise_248 (by omega) ?_
                    refine pm_iconst (v := nI 5) hG dX12_promise_249 (by decide) ?_
                    refine pm_iaddN (c := 6 * kc7 + 1811) hG dX12_promise_250 (by omega) ?_
                    refine pm_iconst (v := nI 0) hG dX12_promise_251 (by decide) ?_
                    refine pm_iastN hG dX12_promise_252 rfl (by decide) (by omega) ?_
                    refine mdn_now (fun n_92 en_92 => ?_)
                    have hnn_92 := KI.w en_92 hnn_82 (okv_f (show kd (6 * kc7 + 1811) = (0, 0, false) from (kd_Q (k := kc7) (c := 5) (by omega) (by omega) (by decide))))
                    have hrn_92 := NRx.w en_92 hrn_82 (by rw [(show kd (6 * kc7 + 1811) = (0, 0, false) from (kd_Q (k := kc7) (c := 5) (by omega) (by omega) (by decide)))])
                    have ksn_92 := KS.w en_92 ksn_82 (by unfold tS; omega)
                    have e93 : n_92 0 = nI kc0 := by rw [en_92, pk_un (by omega)]; exact e83
                    have e94 : n_92 2 = nI kc2 := by rw [en_92, pk_un (by omega)]; exact e84
                    have e95 : n_92 8 = nI kc8 := by rw [en_92, pk_un (by omega)]; exact e85
                    have e96 : n_92 7 = nI (kc7 + 1) := by rw [en_92, pk_un (by omega)]; exact e86
                    have e97 : n_92 (6 * kc7 + 1806) = nI k3 := by rw [en_92, pk_un (by omega)]; exact e87
                    have e98 : n_92 (6 * kc7 + 1807) = nI k6 := by rw [en_92, pk_un (by omega)]; exact e88
                    have e99 : n_92 (6 * kc7 + 1808) = nI k9 := by rw [en_92, pk_un (by omega)]; exact e89
                    have e100 : n_92 (6 * kc7 + 1809) = nI 1 := by rw [en_92, pk_un (by omega)]; exact e90
                    have e101 : n_92 (6 * kc7 + 1810) = nI 0 := by rw [en_92, pk_un (by omega)]; exact e91
                    have e102 : n_92 (6 * kc7 + 1811) = nI 0 := by rw [en_92, pk_us]
                    refine pm_iloadi hG dX12_promise_253 rfl ?_
                    exact pm_iret hG hF dX12_promise_255 rfl (Nat.le_refl _) (Nat.le_refl _) ⟨_, rfl, ⟨_, _, _, rfl, hnn_92, hrn_92, e93.trans ekc0.symm, e94.trans ekc2.symm, e95.trans ekc8.symm, ksn_92, ⟨(vK_d (T := mT n) (d := n 8) (p := n 2) (m := n 7) (a := za) (b := zb) (c := zc) (not3 (nt_in ekc2 (by omega) ek3 (by omega)) (rg_in (a := 0) (b := 5) (by omega) ek6 (by omega) (by omega)) (by rw [ekc8]; exact rg_in (a := kc8) (b := 2000) (by omega) ek9 (by omega) (by omega))) (fun q => absurd (nI_inj (b := 0) (by omega) (by omega) (((s13_0 ek3 (by omega)).trans ek11).symm.trans q)) (by omega)) ekc7 (by omega)).1, e96.trans (vK_d (T := mT n) (d := n 8) (p := n 2) (m := n 7) (a := za) (b := zb) (c := zc) (not3 (nt_in ekc2 (by omega) ek3 (by omega)) (rg_in (a := 0) (b := 5) (by omega) ek6 (by omega) (by omega)) (by rw [ekc8]; exact rg_in (a := kc8) (b := 2000) (by omega) ek9 (by omega) (by omega))) (fun q => absurd (nI_inj (b := 0) (by omega) (by omega) (((s13_0 ek3 (by omega)).trans ek11).symm.trans q)) (by omega)) ekc7 (by omega)).2⟩⟩, rfl⟩
                · refine pm_aloadn hG dX12_promise_88 rfl ?_
                  refine pm_iloadi hG dX12_promise_89 rfl ?_
                  refine pm_iconst (v := nI 0) hG dX12_promise_91 (by decide) ?_
                  refine pm_callV (As := [.int (nI i14), .int (nI 0)]) (rest := []) hG hR dX12_promise_92 (lkX12_223 _ rfl) okV_X12_promised rfl rfl (m_promised (d := 1) (e := 6 * i14 + 1806) (by omega) (by omega) (by omega)) rfl rfl hdd (Nat.le_refl _) (Nat.le_refl _) (by decide) (pm_ki (fun v103 σ' cnt' hq => ?_))
                  obtain ⟨rfl, rfl, rfl⟩ := hq
                  obtain ⟨k104, hk104, ek104⟩ := KI.nat hnn_14 (show kd (6 * i14 + 1806) = (1, 20, false) from (kd_Q (k := i14) (c := 0) (by omega) (by omega) (by decide)))
                  refine pm_top (v := nI k104) ek104 ?_
                  refine pm_iloadn hG dX12_promise_95 rfl ?_
                  refine pm_top (v := nI k3) ek3 ?_
                  refine pm_icmpN_ne (tgt := 127) hG dX12_promise_96 rfl (by omega) (by omega) (fun c105 => ?_) (fun c105 => ?_)
                  · refine pm_iincX (v := nI (i14 + 1)) (loc' := [some (.ref (B + 54)), some (.int za), some (.int zb), some (.int zc), some (.int zd), some (.int (nI kc7)), some (.int (nI (i14 + 1)))]) hG dX12_promise_127 rfl (nI_1 _) (by decide) (pm_c1b rfl) rfl ?_
                    refine pm_goto (tgt := 81) hG dX12_promise_130 rfl ?_
                    exact ih14 I14 A14 n_14 (i14 + 1) hnn_14 ksn_14 hrn_14 (kc14_7.trans (congrArg nI (by omega))) (kc14_0.trans (congrArg nI (by omega))) (kc14_2.trans (congrArg nI (by omega))) (kc14_8.trans (congrArg nI (by omega))) (by omega) (by omega)
                  · refine pm_aloadn hG dX12_promise_99 rfl ?_
                    refine pm_iloadi hG dX12_promise_100 rfl ?_
                    refine pm_iconst (v := nI 1) hG dX12_promise_102 (by decide) ?_
                    refine pm_callV (As := [.int (nI i14), .int (nI 1)]) (rest := []) hG hR dX12_promise_103 (lkX12_223 _ rfl) okV_X12_promised rfl rfl (m_promised (d := 1) (e := 6 * i14 + 1807) (by omega) (by omega) (by omega)) rfl rfl hdd (Nat.le_refl _) (Nat.le_refl _) (by decide) (pm_ki (fun v106 σ' cnt' hq => ?_))
                    obtain ⟨rfl, rfl, rfl⟩ := hq
                    refine pm_gen (fun x107 ex107 => ?_)
                    refine pm_iloadn hG dX12_promise_106 rfl ?_
                    refine pm_top (v := nI k6) ek6 ?_
                    refine pm_icmp_ne (tgt := 127) hG dX12_promise_107 rfl (fun c108 => ?_) (fun c108 => ?_)
                    · refine pm_iincX (v := nI (i14 + 1)) (loc' := [some (.ref (B + 54)), some (.int za), some (.int zb), some (.int zc), some (.int zd), some (.int (nI kc7)), some (.int (nI (i14 + 1)))]) hG dX12_promise_127 rfl (nI_1 _) (by decide) (pm_c1b rfl) rfl ?_
                      refine pm_goto (tgt := 81) hG dX12_promise_130 rfl ?_
                      exact ih14 I14 A14 n_14 (i14 + 1) hnn_14 ksn_14 hrn_14 (kc14_7.trans (congrArg nI (by omega))) (kc14_0.trans (congrArg nI (by omega))) (kc14_2.trans (congrArg nI (by omega))) (kc14_8.trans (congrArg nI (by omega))) (by omega) (by omega)
                    · refine pm_aloadn hG dX12_promise_110 rfl ?_
                      refine pm_getf hG dX12_promise_111 (flX12_7 _ rfl) rfl rfl ?_
                      refine pm_sipush (v := nI 1806) hG dX12_promise_114 (by decide) ?_
                      refine pm_bipush (v := nI 6) hG dX12_promise_117 (by decide) ?_
                      refine pm_iloadi hG dX12_promise_119 rfl ?_
                      refine pm_imulN (c := 6 * i14) hG dX12_promise_121 (by omega) ?_
                      refine pm_iaddN (c := 6 * i14 + 1806) hG dX12_promise_122 (by omega) ?_
                      refine pm_iconst (v := nI 5) hG dX12_promise_123 (by decide) ?_
                      refine pm_iaddN (c := 6 * i14 + 1811) hG dX12_promise_124 (by omega) ?_
                      refine pm_iconst (v := nI 1) hG dX12_promise_125 (by decide) ?_
                      refine pm_iastN hG dX12_promise_126 rfl (by decide) (by omega) ?_
                      refine mdn_now (fun n_109 en_109 => ?_)
                      have hnn_109 := KI.w en_109 hnn_14 (okv_f (show kd (6 * i14 + 1811) = (0, 0, false) from (kd_Q (k := i14) (c := 5) (by omega) (by omega) (by decide))))
                      have hrn_109 := NRx.w en_109 hrn_14 (by rw [(show kd (6 * i14 + 1811) = (0, 0, false) from (kd_Q (k := i14) (c := 5) (by omega) (by omega) (by decide)))])
                      have ksn_109 := KS.w en_109 ksn_14 (by unfold tS; omega)
                      have e110 : n_109 7 = nI kc7 := by rw [en_109, pk_un (by omega)]; exact kc14_7
                      have e111 : n_109 0 = nI kc0 := by rw [en_109, pk_un (by omega)]; exact kc14_0
                      have e112 : n_109 2 = nI kc2 := by rw [en_109, pk_un (by omega)]; exact kc14_2
                      have e113 : n_109 8 = nI kc8 := by rw [en_109, pk_un (by omega)]; exact kc14_8
                      have e114 : n_109 (6 * i14 + 1806) = nI k104 := by rw [en_109, pk_un (by omega)]; exact ek104
                      have e115 : n_109 (6 * i14 + 1807) = x107 := by rw [en_109, pk_un (by omega)]; exact ex107
                      have e116 : n_109 (6 * i14 + 1811) = nI 1 := by rw [en_109, pk_us]
                      refine pm_iincX (v := nI (i14 + 1)) (loc' := [some (.ref (B + 54)), some (.int za), some (.int zb), some (.int zc), some (.int zd), some (.int (nI kc7)), some (.int (nI (i14 + 1)))]) hG dX12_promise_127 rfl (nI_1 _) (by decide) (pm_c1b rfl) rfl ?_
                      refine pm_goto (tgt := 81) hG dX12_promise_130 rfl ?_
                      exact ih14 I14 A14 n_109 (i14 + 1) hnn_109 ksn_109 hrn_109 (e110.trans (congrArg nI (by omega))) (e111.trans (congrArg nI (by omega))) (e112.trans (congrArg nI (by omega))) (e113.trans (congrArg nI (by omega))) (by omega) (by omega)
            exact loop81_14 _ I A n 0 hn KS.rf hr (ekc7.trans (congrArg nI (by omega))) (ekc0.trans (congrArg nI (by omega))) (ekc2.trans (congrArg nI (by omega))) (ekc8.trans (congrArg nI (by omega))) (by omega) (Nat.lt_succ_self _)
          · refine pm_aloadn hG dX12_promise_72 rfl ?_
            refine pm_iconst (v := nI 4) hG dX12_promise_73 (by decide) ?_
            refine pm_callV (As := [.int (nI 4)]) (rest := []) hG hR dX12_promise_74 (lkX12_80 _ rfl) okV_X12_finds rfl rfl (m_finds (d := 1) (by decide) hn hz (by omega)) rfl rfl hdd (Nat.le_refl _) (Nat.le_refl _) (by decide) (pm_ki (fun v117 σ' cnt' hq => ?_))
            obtain ⟨⟨I118, A118, rfl⟩, rfl, fv117⟩ := hq
            exact pm_iret hG hF dX12_promise_77 rfl (Nat.le_refl _) (Nat.le_refl _) ⟨_, rfl, ⟨_, _, _, rfl, hn, hr, ekc0.trans ekc0.symm, ekc2.trans ekc2.symm, ekc8.trans ekc8.symm, KS.rf, ⟨fv117.trans ((by decide : (-1000000 : Int32) - nI 4 = -1000004).trans (vK_c (T := mT n) (d := n 8) (p := n 2) (m := n 7) (a := za) (b := zb) (c := zc) (not3 (nt_in ekc2 (by omega) ek3 (by omega)) (rg_in (a := 0) (b := 5) (by omega) ek6 (by omega) (by omega)) (by rw [ekc8]; exact rg_in (a := kc8) (b := 2000) (by omega) ek9 (by omega) (by omega))) (fun q => absurd (nI_inj (b := 0) (by omega) (by omega) (((s13_0 ek3 (by omega)).trans ek11).symm.trans q)) (by omega)) (ekc7.trans (congrArg nI (by omega)))).1), (vK_c (T := mT n) (d := n 8) (p := n 2) (m := n 7) (a := za) (b := zb) (c := zc) (not3 (nt_in ekc2 (by omega) ek3 (by omega)) (rg_in (a := 0) (b := 5) (by omega) ek6 (by omega) (by omega)) (by rw [ekc8]; exact rg_in (a := kc8) (b := 2000) (by omega) ek9 (by omega) (by omega))) (fun q => absurd (nI_inj (b := 0) (by omega) (by omega) (((s13_0 ek3 (by omega)).trans ek11).symm.trans q)) (by omega)) (ekc7.trans (congrArg nI (by omega)))).2⟩⟩, rfl⟩
        · refine pm_aloadn hG dX12_promise_50 rfl ?_
          refine pm_iconst (v := nI 3) hG dX12_promise_51 (by decide) ?_
          refine pm_callV (As := [.int (nI 3)]) (rest := []) hG hR dX12_promise_52 (lkX12_80 _ rfl) okV_X12_finds rfl rfl (m_finds (d := 1) (by decide) hn hz (by omega)) rfl rfl hdd (Nat.le_refl _) (Nat.le_refl _) (by decide) (pm_ki (fun v119 σ' cnt' hq => ?_))
          obtain ⟨⟨I120, A120, rfl⟩, rfl, fv119⟩ := hq
          exact pm_iret hG hF dX12_promise_55 rfl (Nat.le_refl _) (Nat.le_refl _) ⟨_, rfl, ⟨_, _, _, rfl, hn, hr, ekc0.trans ekc0.symm, ekc2.trans ekc2.symm, ekc8.trans ekc8.symm, KS.rf, ⟨fv119.trans ((by decide : (-1000000 : Int32) - nI 3 = -1000003).trans (vK_b (T := mT n) (d := n 8) (p := n 2) (m := n 7) (a := za) (b := zb) (c := zc) (not3 (nt_in ekc2 (by omega) ek3 (by omega)) (rg_in (a := 0) (b := 5) (by omega) ek6 (by omega) (by omega)) (by rw [ekc8]; exact rg_in (a := kc8) (b := 2000) (by omega) ek9 (by omega) (by omega))) (((s13_0 ek3 (by omega)).trans ek11).trans (congrArg nI (show _ = 0 by omega)))).1), (vK_b (T := mT n) (d := n 8) (p := n 2) (m := n 7) (a := za) (b := zb) (c := zc) (not3 (nt_in ekc2 (by omega) ek3 (by omega)) (rg_in (a := 0) (b := 5) (by omega) ek6 (by omega) (by omega)) (by rw [ekc8]; exact rg_in (a := kc8) (b := 2000) (by omega) ek9 (by omega) (by omega))) (((s13_0 ek3 (by omega)).trans ek11).trans (congrArg nI (show _ = 0 by omega)))).2⟩⟩, rfl⟩
      · refine pm_ifN_ne (tgt := 40) hG dX12_promise_31 rfl (by omega) (fun q => absurd q (by omega)) (fun _ => ?_)
        refine pm_aloadn hG dX12_promise_34 rfl ?_
        refine pm_iconst (v := nI 1) hG dX12_promise_35 (by decide) ?_
        refine pm_callV (As := [.int (nI 1)]) (rest := []) hG hR dX12_promise_36 (lkX12_80 _ rfl) okV_X12_finds rfl rfl (m_finds (d := 1) (by decide) hn hz (by omega)) rfl rfl hdd (Nat.le_refl _) (Nat.le_refl _) (by decide) (pm_ki (fun v121 σ' cnt' hq => ?_))
        obtain ⟨⟨I122, A122, rfl⟩, rfl, fv121⟩ := hq
        exact pm_iret hG hF dX12_promise_39 rfl (Nat.le_refl _) (Nat.le_refl _) ⟨_, rfl, ⟨_, _, _, rfl, hn, hr, ekc0.trans ekc0.symm, ekc2.trans ekc2.symm, ekc8.trans ekc8.symm, KS.rf, ⟨fv121.trans ((by decide : (-1000000 : Int32) - nI 1 = -1000001).trans (vK_a (T := mT n) (d := n 8) (p := n 2) (m := n 7) (a := za) (b := zb) (c := zc) (Or.inr (Or.inr (by rw [ekc8]; exact c8)))).1), (vK_a (T := mT n) (d := n 8) (p := n 2) (m := n 7) (a := za) (b := zb) (c := zc) (Or.inr (Or.inr (by rw [ekc8]; exact c8)))).2⟩⟩, rfl⟩
    · refine pm_ifN_eq (tgt := 34) hG dX12_promise_14 rfl (by omega) (fun _ => ?_) (fun q => absurd q (by omega))
      refine pm_aloadn hG dX12_promise_34 rfl ?_
      refine pm_iconst (v := nI 1) hG dX12_promise_35 (by decide) ?_
      refine pm_callV (As := [.int (nI 1)]) (rest := []) hG hR dX12_promise_36 (lkX12_80 _ rfl) okV_X12_finds rfl rfl (m_finds (d := 1) (by decide) hn hz (by omega)) rfl rfl hdd (Nat.le_refl _) (Nat.le_refl _) (by decide) (pm_ki (fun v123 σ' cnt' hq => ?_))
      obtain ⟨⟨I124, A124, rfl⟩, rfl, fv123⟩ := hq
      exact pm_iret hG hF dX12_promise_39 rfl (Nat.le_refl _) (Nat.le_refl _) ⟨_, rfl, ⟨_, _, _, rfl, hn, hr, ekc0.trans ekc0.symm, ekc2.trans ekc2.symm, ekc8.trans ekc8.symm, KS.rf, ⟨fv123.trans ((by decide : (-1000000 : Int32) - nI 1 = -1000001).trans (vK_a (T := mT n) (d := n 8) (p := n 2) (m := n 7) (a := za) (b := zb) (c := zc) (Or.inr (Or.inl c5))).1), (vK_a (T := mT n) (d := n 8) (p := n 2) (m := n 7) (a := za) (b := zb) (c := zc) (Or.inr (Or.inl c5))).2⟩⟩, rfl⟩
  · refine pm_ifN_eq (tgt := 34) hG dX12_promise_5 rfl (by omega) (fun _ => ?_) (fun q => absurd q (by omega))
    refine pm_aloadn hG dX12_promise_34 rfl ?_
    refine pm_iconst (v := nI 1) hG dX12_promise_35 (by decide) ?_
    refine pm_callV (As := [.int (nI 1)]) (rest := []) hG hR dX12_promise_36 (lkX12_80 _ rfl) okV_X12_finds rfl rfl (m_finds (d := 1) (by decide) hn hz (by omega)) rfl rfl hdd (Nat.le_refl _) (Nat.le_refl _) (by decide) (pm_ki (fun v125 σ' cnt' hq => ?_))
    obtain ⟨⟨I126, A126, rfl⟩, rfl, fv125⟩ := hq
    exact pm_iret hG hF dX12_promise_39 rfl (Nat.le_refl _) (Nat.le_refl _) ⟨_, rfl, ⟨_, _, _, rfl, hn, hr, ekc0.trans ekc0.symm, ekc2.trans ekc2.symm, ekc8.trans ekc8.symm, KS.rf, ⟨fv125.trans ((by decide : (-1000000 : Int32) - nI 1 = -1000001).trans (vK_a (T := mT n) (d := n 8) (p := n 2) (m := n 7) (a := za) (b := zb) (c := zc) (Or.inl (nt_out ekc2 (by omega) ntk3))).1), (vK_a (T := mT n) (d := n 8) (p := n 2) (m := n 7) (a := za) (b := zb) (c := zc) (Or.inl (nt_out ekc2 (by omega) ntk3))).2⟩⟩, rfl⟩

set_option maxRecDepth 100000 in
set_option maxHeartbeats 4000000 in
theorem m_put {d B cnt p0 t0 : Nat} {σ : pm_S} {I : Nat → Int32} {A : Nat → Nat → Int32} {n k z : Nat → Int32} {ac wt pl im : Int32} {za zb zc : Int32} (hdd : 2 ≤ d) (hn : KI n) (hz : SZ z)  : pm_met mX12_put d 0 0 B [.ref (B + 54), .int za, .int zb, .int zc] cnt (pm_mid σ (md_L B I A n k z ac wt pl (nI p0) (nI t0) im)) (pm_Qi (fun v σ' cnt' => (∃ (I' : Nat → Int32) (A' : Nat → Nat → Int32), σ' = pm_mid σ (md_L B I' A' n k z ac wt pl (nI p0) (nI t0) im)) ∧ cnt = cnt')) := by
  refine pm_enter 0 (by decide) (Nat.le_of_ble_eq_true rfl) rfl (fun G hG hR hF => ?_)
  refine pm_iloadn hG dX12_put_0 rfl ?_
  refine pm_callS (As := [.int za]) (rest := []) hG hR dX12_put_1 (lkX12_239 _ rfl) okS_X12_isSheet (m_isSheet (d := 1) (by decide)) rfl rfl hdd (Nat.le_refl _) (Nat.le_refl _) (by decide) (pm_ki (fun v1 σ' cnt' hq => ?_))
  obtain ⟨hq, rfl, rfl⟩ := hq
  rcases hq with ⟨rfl, ac2, bc2⟩ | ⟨rfl, c2⟩
  · obtain ⟨k3, hk3, ek3⟩ := in_nat (by omega) (by omega) ac2 bc2
    refine pm_ifN_ne (tgt := 13) hG dX12_put_4 rfl (by omega) (fun _ => ?_) (fun q => absurd q (by omega))
    refine pm_aloadn hG dX12_put_13 rfl ?_
    refine pm_getf hG dX12_put_14 (flX12_55 _ rfl) rfl rfl ?_
    refine pm_iloadn hG dX12_put_17 rfl ?_
    refine pm_top (v := nI k3) ek3 ?_
    refine pm_ialdN hG dX12_put_18 rfl (by decide) (by omega) ?_
    refine pm_any (fun x4 => ?_)
    refine pm_if_ne (tgt := 28) hG dX12_put_19 rfl (fun c5 => ?_) (fun c5 => ?_)
    · refine pm_iloadn hG dX12_put_28 rfl ?_
      refine pm_iconst (v := nI 0) hG dX12_put_29 (by decide) ?_
      refine pm_aloadn hG dX12_put_30 rfl ?_
      refine pm_getf hG dX12_put_31 (flX12_58 _ rfl) rfl rfl ?_
      refine pm_iloadn hG dX12_put_34 rfl ?_
      refine pm_top (v := nI k3) ek3 ?_
      refine pm_ialdN hG dX12_put_35 rfl (by decide) (by omega) ?_
      obtain ⟨k6, hk6, ek6⟩ := hz k3 (by omega)
      refine pm_top (v := nI k6) ek6 ?_
      refine pm_iconst (v := nI 1) hG dX12_put_36 (by decide) ?_
      refine pm_isub hG dX12_put_37 ?_
      refine pm_callS (As := [.int zb, .int (nI 0), .int ((nI k6) - (nI 1))]) (rest := []) hG hR dX12_put_38 (lkX12_68 _ rfl) okS_X12_in (m_in (d := 1)) rfl rfl hdd (Nat.le_refl _) (Nat.le_refl _) (by decide) (pm_ki (fun v7 σ' cnt' hq => ?_))
      obtain ⟨hq, rfl, rfl⟩ := hq
      rcases hq with ⟨rfl, ac8, bc8⟩ | ⟨rfl, c8⟩
      · obtain ⟨k9, hk9, ek9⟩ := in_cnt (c := k6) (by omega) ac8 bc8
        refine pm_ifN_ne (tgt := 50) hG dX12_put_41 rfl (by omega) (fun _ => ?_) (fun q => absurd q (by omega))
        refine pm_aloadn hG dX12_put_50 rfl ?_
        refine pm_getf hG dX12_put_51 (flX12_61 _ rfl) rfl rfl ?_
        refine pm_bipush (v := nI 24) hG dX12_put_54 (by decide) ?_
        refine pm_iloadn hG dX12_put_56 rfl ?_
        refine pm_top (v := nI k3) ek3 ?_
        refine pm_imulN (c := 24 * k3) hG dX12_put_57 (by omega) ?_
        refine pm_iloadn hG dX12_put_58 rfl ?_
        refine pm_top (v := nI k9) ek9 ?_
        refine pm_iaddN (c := 24 * k3 + k9) hG dX12_put_59 (by omega) ?_
        refine pm_aloadn hG dX12_put_60 rfl ?_
        refine pm_getf hG dX12_put_61 (flX12_55 _ rfl) rfl rfl ?_
        refine pm_iloadn hG dX12_put_64 rfl ?_
        refine pm_top (v := nI k3) ek3 ?_
        refine pm_ialdN hG dX12_put_65 rfl (by decide) (by omega) ?_
        refine pm_any (fun x10 => ?_)
        refine pm_bipush (v := nI 8) hG dX12_put_66 (by decide) ?_
        refine pm_icmp_ne (tgt := 76) hG dX12_put_68 rfl (fun c11 => ?_) (fun c11 => ?_)
        · refine pm_aloadn hG dX12_put_76 rfl ?_
          refine pm_getf hG dX12_put_77 (flX12_55 _ rfl) rfl rfl ?_
          refine pm_iloadn hG dX12_put_80 rfl ?_
          refine pm_top (v := nI k3) ek3 ?_
          refine pm_ialdN hG dX12_put_81 rfl (by decide) (by omega) ?_
          refine pm_any (fun x12 => ?_)
          refine pm_bipush (v := nI 16) hG dX12_put_82 (by decide) ?_
          refine pm_icmp_ne (tgt := 92) hG dX12_put_84 rfl (fun c13 => ?_) (fun c13 => ?_)
          · refine pm_iloadn hG dX12_put_92 rfl ?_
            refine pm_iastN hG dX12_put_93 rfl (by decide) (by omega) ?_
            refine mdn_sheets (fun A_14 => ?_)
            refine pm_iconst (v := nI 1) hG dX12_put_94 (by decide) ?_
            exact pm_iret hG hF dX12_put_95 rfl (Nat.le_refl _) (Nat.le_refl _) ⟨_, rfl, ⟨_, _, rfl⟩, rfl⟩
          · refine pm_iloadn hG dX12_put_87 rfl ?_
            refine pm_i2s hG dX12_put_88 rfl ?_
            refine pm_any (fun x15 => ?_)
            refine pm_goto (tgt := 93) hG dX12_put_89 rfl ?_
            refine pm_iastN hG dX12_put_93 rfl (by decide) (by omega) ?_
            refine mdn_sheets (fun A_16 => ?_)
            refine pm_iconst (v := nI 1) hG dX12_put_94 (by decide) ?_
            exact pm_iret hG hF dX12_put_95 rfl (Nat.le_refl _) (Nat.le_refl _) ⟨_, rfl, ⟨_, _, rfl⟩, rfl⟩
        · refine pm_iloadn hG dX12_put_71 rfl ?_
          refine pm_i2b hG dX12_put_72 rfl ?_
          refine pm_any (fun x17 => ?_)
          refine pm_goto (tgt := 93) hG dX12_put_73 rfl ?_
          refine pm_iastN hG dX12_put_93 rfl (by decide) (by omega) ?_
          refine mdn_sheets (fun A_18 => ?_)
          refine pm_iconst (v := nI 1) hG dX12_put_94 (by decide) ?_
          exact pm_iret hG hF dX12_put_95 rfl (Nat.le_refl _) (Nat.le_refl _) ⟨_, rfl, ⟨_, _, rfl⟩, rfl⟩
      · refine pm_ifN_ne (tgt := 50) hG dX12_put_41 rfl (by omega) (fun q => absurd q (by omega)) (fun _ => ?_)
        refine pm_aloadn hG dX12_put_44 rfl ?_
        refine pm_iconst (v := nI 1) hG dX12_put_45 (by decide) ?_
        refine pm_callV (As := [.int (nI 1)]) (rest := []) hG hR dX12_put_46 (lkX12_80 _ rfl) okV_X12_finds rfl rfl (m_finds (d := 1) (by decide) hn hz (by omega)) rfl rfl hdd (Nat.le_refl _) (Nat.le_refl _) (by decide) (pm_ki (fun v19 σ' cnt' hq => ?_))
        obtain ⟨⟨I20, A20, rfl⟩, rfl, fv19⟩ := hq
        exact pm_iret hG hF dX12_put_49 rfl (Nat.le_refl _) (Nat.le_refl _) ⟨_, rfl, ⟨_, _, rfl⟩, rfl⟩
    · refine pm_aloadn hG dX12_put_22 rfl ?_
      refine pm_iconst (v := nI 2) hG dX12_put_23 (by decide) ?_
      refine pm_callV (As := [.int (nI 2)]) (rest := []) hG hR dX12_put_24 (lkX12_80 _ rfl) okV_X12_finds rfl rfl (m_finds (d := 1) (by decide) hn hz (by omega)) rfl rfl hdd (Nat.le_refl _) (Nat.le_refl _) (by decide) (pm_ki (fun v21 σ' cnt' hq => ?_))
      obtain ⟨⟨I22, A22, rfl⟩, rfl, fv21⟩ := hq
      exact pm_iret hG hF dX12_put_27 rfl (Nat.le_refl _) (Nat.le_refl _) ⟨_, rfl, ⟨_, _, rfl⟩, rfl⟩
  · refine pm_ifN_ne (tgt := 13) hG dX12_put_4 rfl (by omega) (fun q => absurd q (by omega)) (fun _ => ?_)
    refine pm_aloadn hG dX12_put_7 rfl ?_
    refine pm_iconst (v := nI 1) hG dX12_put_8 (by decide) ?_
    refine pm_callV (As := [.int (nI 1)]) (rest := []) hG hR dX12_put_9 (lkX12_80 _ rfl) okV_X12_finds rfl rfl (m_finds (d := 1) (by decide) hn hz (by omega)) rfl rfl hdd (Nat.le_refl _) (Nat.le_refl _) (by decide) (pm_ki (fun v23 σ' cnt' hq => ?_))
    obtain ⟨⟨I24, A24, rfl⟩, rfl, fv23⟩ := hq
    exact pm_iret hG hF dX12_put_12 rfl (Nat.le_refl _) (Nat.le_refl _) ⟨_, rfl, ⟨_, _, rfl⟩, rfl⟩

set_option maxRecDepth 100000 in
set_option maxHeartbeats 4000000 in
theorem m_ranksPower {d B cnt p0 t0 : Nat} {σ : pm_S} {I : Nat → Int32} {A : Nat → Nat → Int32} {n k z : Nat → Int32} {ac wt pl im : Int32} {zb : Int32} {ba : Nat} (hdd : 2 ≤ d) (hn : KI n) (hz : SZ z) (ht0 : t0 ≤ 40) (hba : ba < 20) : pm_met mX12_ranksPower d 0 0 B [.ref (B + 54), .int (nI ba), .int zb] cnt (pm_mid σ (md_L B I A n k z ac wt pl (nI p0) (nI t0) im)) (pm_Qi (fun v σ' cnt' => (∃ (I' : Nat → Int32) (A' : Nat → Nat → Int32) (t0' : Nat), σ' = pm_mid σ (md_L B I' A' n k z ac wt pl (nI p0) (nI t0') im) ∧ t0' ≤ 40) ∧ cnt = cnt')) := by
  refine pm_enter 0 (by decide) (Nat.le_of_ble_eq_true rfl) rfl (fun G hG hR hF => ?_)
  refine pm_aloadn hG dX12_ranksPower_0 rfl ?_
  refine pm_bipush (v := nI 12) hG dX12_ranksPower_1 (by decide) ?_
  refine pm_callV (As := [.int (nI 12)]) (rest := []) hG hR dX12_ranksPower_3 (lkX12_286 _ rfl) okV_X12_ran rfl rfl (m_ran (d := 1) (by decide) hn hz (by omega)) rfl rfl hdd (Nat.le_refl _) (Nat.le_refl _) (by decide) (pm_kv (fun σ' cnt' hq => ?_))
  obtain ⟨⟨I2, A2, t2, rfl, ht2⟩, rfl⟩ := hq
  refine pm_iloadn hG dX12_ranksPower_6 rfl ?_
  refine pm_iloadn hG dX12_ranksPower_7 rfl ?_
  refine pm_isub hG dX12_ranksPower_8 ?_
  exact pm_iret hG hF dX12_ranksPower_9 rfl (Nat.le_refl _) (Nat.le_refl _) ⟨_, rfl, ⟨_, _, _, rfl, by omega⟩, rfl⟩

set_option maxRecDepth 100000 in
set_option maxHeartbeats 4000000 in
theorem m_ranksOf {d B cnt p0 t0 : Nat} {σ : pm_S} {I : Nat → Int32} {A : Nat → Nat → Int32} {n k z : Nat → Int32} {ac wt pl im : Int32} {zb : Int32} {ba : Nat} (hdd : 3 ≤ d) (hn : KI n) (hz : SZ z) (ht0 : t0 ≤ 40) (hba : ba < 20) : pm_met mX12_ranksOf d 0 0 B [.ref (B + 54), .int (nI ba), .int zb] cnt (pm_mid σ (md_L B I A n k z ac wt pl (nI p0) (nI t0) im)) (pm_Qi (fun v σ' cnt' => (∃ (I' : Nat → Int32) (A' : Nat → Nat → Int32) (t0' : Nat), σ' = pm_mid σ (md_L B I' A' n k z ac wt pl (nI p0) (nI t0') im) ∧ t0' ≤ 40) ∧ cnt = cnt')) := by
  refine pm_enter 0 (by decide) (Nat.le_of_ble_eq_true rfl) rfl (fun G hG hR hF => ?_)
  refine pm_aloadn hG dX12_ranksOf_0 rfl ?_
  refine pm_iloadn hG dX12_ranksOf_1 rfl ?_
  refine pm_iconst (v := nI 0) hG dX12_ranksOf_2 (by decide) ?_
  refine pm_callV (As := [.int (nI ba), .int (nI 0)]) (rest := []) hG hR dX12_ranksOf_3 (lkX12_110 _ rfl) okV_X12_its rfl rfl (m_its (d := 2) (e := 6 * ba + 390) (by omega) (by omega) (by omega)) rfl rfl hdd (Nat.le_refl _) (Nat.le_refl _) (by decide) (pm_ki (fun v1 σ' cnt' hq => ?_))
  obtain ⟨rfl, rfl, rfl⟩ := hq
  refine pm_gen (fun x2 ex2 => ?_)
  refine pm_iconst (v := nI 2) hG dX12_ranksOf_6 (by decide) ?_
  refine pm_icmp_eq (tgt := 17) hG dX12_ranksOf_7 rfl (fun c3 => ?_) (fun c3 => ?_)
  · refine pm_aloadn hG dX12_ranksOf_17 rfl ?_
    refine pm_bipush (v := nI 30) hG dX12_ranksOf_18 (by decide) ?_
    refine pm_callV (As := [.int (nI 30)]) (rest := []) hG hR dX12_ranksOf_20 (lkX12_286 _ rfl) okV_X12_ran rfl rfl (m_ran (d := 2) (by decide) hn hz (by omega)) rfl rfl hdd (Nat.le_refl _) (Nat.le_refl _) (by decide) (pm_kv (fun σ' cnt' hq => ?_))
    obtain ⟨⟨I5, A5, t5, rfl, ht5⟩, rfl⟩ := hq
    refine pm_aloadn hG dX12_ranksOf_23 rfl ?_
    refine pm_iloadn hG dX12_ranksOf_24 rfl ?_
    refine pm_iloadn hG dX12_ranksOf_25 rfl ?_
    refine pm_callV (As := [.int (nI ba), .int zb]) (rest := []) hG hR dX12_ranksOf_26 (lkX12_301 _ rfl) okV_X12_ranksPower rfl rfl (m_ranksPower (d := 2) (by decide) hn hz (by omega) (by omega)) rfl rfl hdd (Nat.le_refl _) (Nat.le_refl _) (by decide) (pm_ki (fun v6 σ' cnt' hq => ?_))
    obtain ⟨⟨I7, A7, t7, rfl, ht7⟩, rfl⟩ := hq
    refine pm_iconst (v := nI 3) hG dX12_ranksOf_29 (by decide) ?_
    refine pm_imul hG dX12_ranksOf_30 ?_
    exact pm_iret hG hF dX12_ranksOf_31 rfl (Nat.le_refl _) (Nat.le_refl _) ⟨_, rfl, ⟨_, _, _, rfl, by omega⟩, rfl⟩
  · refine pm_aloadn hG dX12_ranksOf_10 rfl ?_
    refine pm_iloadn hG dX12_ranksOf_11 rfl ?_
    refine pm_iloadn hG dX12_ranksOf_12 rfl ?_
    refine pm_callV (As := [.int (nI ba), .int zb]) (rest := []) hG hR dX12_ranksOf_13 (lkX12_301 _ rfl) okV_X12_ranksPower rfl rfl (m_ranksPower (d := 2) (by decide) hn hz (by omega) (by omega)) rfl rfl hdd (Nat.le_refl _) (Nat.le_refl _) (by decide) (pm_ki (fun v8 σ' cnt' hq => ?_))
    obtain ⟨⟨I9, A9, t9, rfl, ht9⟩, rfl⟩ := hq
    exact pm_iret hG hF dX12_ranksOf_16 rfl (Nat.le_refl _) (Nat.le_refl _) ⟨_, rfl, ⟨_, _, _, rfl, by omega⟩, rfl⟩

set_option maxRecDepth 100000 in
set_option maxHeartbeats 4000000 in
theorem m_rent {d B cnt p0 t0 : Nat} {σ : pm_S} {I : Nat → Int32} {A : Nat → Nat → Int32} {n k z : Nat → Int32} {ac wt pl im : Int32} {za zb : Int32} (hdd : 2 ≤ d) (hn : KI n) (hr : NR n) (hz : SZ z)  : pm_met mX12_rent d 0 0 B [.ref (B + 54), .int za, .int zb] cnt (pm_mid σ (md_L B I A n k z ac wt pl (nI p0) (nI t0) im)) (pm_Qi (fun v σ' cnt' => (∃ (I' : Nat → Int32) (A' : Nat → Nat → Int32) (n' : Nat → Int32), σ' = pm_mid σ (md_L B I' A' n' k z ac wt pl (nI p0) (nI t0) im) ∧ KI n' ∧ NR n' ∧ n' 0 = n 0 ∧ n' 2 = n 2 ∧ n' 7 = n 7 ∧ n' 8 = n 8 ∧ KS n' n) ∧ cnt = cnt')) := by
  obtain ⟨kc0, hkc0, ekc0⟩ := KI.nat hn (show kd 0 = (1, 11, true) by decide)
  obtain ⟨kc2, hkc2, ekc2⟩ := KI.nat hn (show kd 2 = (1, 21, true) by decide)
  obtain ⟨kc7, hkc7, ekc7⟩ := KI.nat hn (show kd 7 = (1, 31, false) by decide)
  obtain ⟨kc8, hkc8, ekc8⟩ := KI.nat hn (show kd 8 = (1, 2001, false) by decide)
  refine pm_enter 1 (by decide) (Nat.le_of_ble_eq_true rfl) rfl (fun G hG hR hF => ?_)
  refine pm_aloadn hG dX12_rent_0 rfl ?_
  refine pm_iloadn hG dX12_rent_1 rfl ?_
  refine pm_callV (As := [.int za]) (rest := []) hG hR dX12_rent_2 (lkX12_84 _ rfl) okV_X12_isTown rfl rfl (m_isTown (d := 1) (by decide) ekc0 (by omega)) rfl rfl hdd (Nat.le_refl _) (Nat.le_refl _) (by decide) (pm_ki (fun v1 σ' cnt' hq => ?_))
  obtain ⟨hq, rfl, rfl⟩ := hq
  rcases hq with ⟨rfl, k3, hk3, ek3⟩ | ⟨rfl, ntk3⟩
  · refine pm_ifN_eq (tgt := 19) hG dX12_rent_5 rfl (by omega) (fun q => absurd q (by omega)) (fun _ => ?_)
    refine pm_iloadn hG dX12_rent_8 rfl ?_
    refine pm_iconst (v := nI 0) hG dX12_rent_9 (by decide) ?_
    refine pm_sipush (v := nI 999) hG dX12_rent_10 (by decide) ?_
    refine pm_callS (As := [.int zb, .int (nI 0), .int (nI 999)]) (rest := []) hG hR dX12_rent_13 (lkX12_68 _ rfl) okS_X12_in (m_in (d := 1)) rfl rfl hdd (Nat.le_refl _) (Nat.le_refl _) (by decide) (pm_ki (fun v4 σ' cnt' hq => ?_))
    obtain ⟨hq, rfl, rfl⟩ := hq
    rcases hq with ⟨rfl, ac5, bc5⟩ | ⟨rfl, c5⟩
    · obtain ⟨k6, hk6, ek6⟩ := in_nat (by omega) (by omega) ac5 bc5
      refine pm_ifN_ne (tgt := 25) hG dX12_rent_16 rfl (by omega) (fun _ => ?_) (fun q => absurd q (by omega))
      refine pm_aloadn hG dX12_rent_25 rfl ?_
      refine pm_getf hG dX12_rent_26 (flX12_7 _ rfl) rfl rfl ?_
      refine pm_bipush (v := nI 20) hG dX12_rent_29 (by decide) ?_
      refine pm_iconst (v := nI 3) hG dX12_rent_31 (by decide) ?_
      refine pm_iloadn hG dX12_rent_32 rfl ?_
      refine pm_top (v := nI k3) ek3 ?_
      refine pm_imulN (c := 3 * k3) hG dX12_rent_33 (by omega) ?_
      refine pm_iaddN (c := 3 * k3 + 20) hG dX12_rent_34 (by omega) ?_
      refine pm_ialdN hG dX12_rent_35 rfl (by decide) (by omega) ?_
      refine pm_gen (fun x7 ex7 => ?_)
      refine pm_istoreXn (loc' := [some (.ref (B + 54)), some (.int za), some (.int zb), some (.int x7)]) hG dX12_rent_36 (by decide) (pm_c1b rfl) rfl ?_
      refine pm_aloadn hG dX12_rent_37 rfl ?_
      refine pm_getf hG dX12_rent_38 (flX12_7 _ rfl) rfl rfl ?_
      refine pm_bipush (v := nI 20) hG dX12_rent_41 (by decide) ?_
      refine pm_iconst (v := nI 3) hG dX12_rent_43 (by decide) ?_
      refine pm_iloadn hG dX12_rent_44 rfl ?_
      refine pm_top (v := nI k3) ek3 ?_
      refine pm_imulN (c := 3 * k3) hG dX12_rent_45 (by omega) ?_
      refine pm_iaddN (c := 3 * k3 + 20) hG dX12_rent_46 (by omega) ?_
      refine pm_iloadn hG dX12_rent_47 rfl ?_
      refine pm_top (v := nI k6) ek6 ?_
      refine pm_iastN hG dX12_rent_48 rfl (by decide) (by omega) ?_
      refine mdn_now (fun n_8 en_8 => ?_)
      have hnn_8 := KI.w en_8 hn (okv_f (show kd (3 * k3 + 20) = (0, 0, false) from (kd_T (k := k3) (c := 0) (by omega) (by omega) (by decide))))
      have hrn_8 := NRx.w en_8 hr (by rw [(show kd (3 * k3 + 20) = (0, 0, false) from (kd_T (k := k3) (c := 0) (by omega) (by omega) (by decide)))])
      have ksn_8 := KS.w en_8 KS.rf (by unfold tS; omega)
      have e9 : n_8 0 = nI kc0 := by rw [en_8, pk_un (by omega)]; exact ekc0
      have e10 : n_8 2 = nI kc2 := by rw [en_8, pk_un (by omega)]; exact ekc2
      have e11 : n_8 7 = nI kc7 := by rw [en_8, pk_un (by omega)]; exact ekc7
      have e12 : n_8 8 = nI kc8 := by rw [en_8, pk_un (by omega)]; exact ekc8
      have e13 : n_8 (3 * k3 + 20) = nI k6 := by rw [en_8, pk_us]
      refine pm_iloadn hG dX12_rent_49 rfl ?_
      exact pm_iret hG hF dX12_rent_50 rfl (Nat.le_refl _) (Nat.le_refl _) ⟨_, rfl, ⟨_, _, _, rfl, hnn_8, hrn_8, e9.trans ekc0.symm, e10.trans ekc2.symm, e11.trans ekc7.symm, e12.trans ekc8.symm, ksn_8⟩, rfl⟩
    · refine pm_ifN_ne (tgt := 25) hG dX12_rent_16 rfl (by omega) (fun q => absurd q (by omega)) (fun _ => ?_)
      refine pm_aloadn hG dX12_rent_19 rfl ?_
      refine pm_iconst (v := nI 1) hG dX12_rent_20 (by decide) ?_
      refine pm_callV (As := [.int (nI 1)]) (rest := []) hG hR dX12_rent_21 (lkX12_80 _ rfl) okV_X12_finds rfl rfl (m_finds (d := 1) (by decide) hn hz (by omega)) rfl rfl hdd (Nat.le_refl _) (Nat.le_refl _) (by decide) (pm_ki (fun v14 σ' cnt' hq => ?_))
      obtain ⟨⟨I15, A15, rfl⟩, rfl, fv14⟩ := hq
      exact pm_iret hG hF dX12_rent_24 rfl (Nat.le_refl _) (Nat.le_refl _) ⟨_, rfl, ⟨_, _, _, rfl, hn, hr, ekc0.trans ekc0.symm, ekc2.trans ekc2.symm, ekc7.trans ekc7.symm, ekc8.trans ekc8.symm, KS.rf⟩, rfl⟩
  · refine pm_ifN_eq (tgt := 19) hG dX12_rent_5 rfl (by omega) (fun _ => ?_) (fun q => absurd q (by omega))
    refine pm_aloadn hG dX12_rent_19 rfl ?_
    refine pm_iconst (v := nI 1) hG dX12_rent_20 (by decide) ?_
    refine pm_callV (As := [.int (nI 1)]) (rest := []) hG hR dX12_rent_21 (lkX12_80 _ rfl) okV_X12_finds rfl rfl (m_finds (d := 1) (by decide) hn hz (by omega)) rfl rfl hdd (Nat.le_refl _) (Nat.le_refl _) (by decide) (pm_ki (fun v16 σ' cnt' hq => ?_))
    obtain ⟨⟨I17, A17, rfl⟩, rfl, fv16⟩ := hq
    exact pm_iret hG hF dX12_rent_24 rfl (Nat.le_refl _) (Nat.le_refl _) ⟨_, rfl, ⟨_, _, _, rfl, hn, hr, ekc0.trans ekc0.symm, ekc2.trans ekc2.symm, ekc7.trans ekc7.symm, ekc8.trans ekc8.symm, KS.rf⟩, rfl⟩
