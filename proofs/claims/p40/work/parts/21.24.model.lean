set_option maxRecDepth 100000 in
set_option maxHeartbeats 4000000 in
theorem m_price {d B cnt p0 t0 : Nat} {σ : pm_S} {I : Nat → Int32} {A : Nat → Nat → Int32} {n k z : Nat → Int32} {ac wt pl im : Int32} {za zb : Int32} (hdd : 2 ≤ d) (hn : KI n) (hr : NR n) (hz : SZ z)  : pm_met mX12_price d 0 0 B [.ref (B + 54), .int za, .int zb] cnt (pm_mid σ (md_L B I A n k z ac wt pl (nI p0) (nI t0) im)) (pm_Qi (fun v σ' cnt' => (∃ (I' : Nat → Int32) (A' : Nat → Nat → Int32) (n' : Nat → Int32), σ' = pm_mid σ (md_L B I' A' n' k z ac wt pl (nI p0) (nI t0) im) ∧ KI n' ∧ NR n' ∧ KS n' n) ∧ cnt = cnt')) := by
  refine pm_enter 1 (by decide) (Nat.le_of_ble_eq_true rfl) rfl (fun G hG hR hF => ?_)
  refine pm_aloadn hG dX12_price_0 rfl ?_
  refine pm_iloadn hG dX12_price_1 rfl ?_
  obtain ⟨k1, hk1, ek1⟩ := KI.nat hn (show kd 2 = (1, 21, true) by decide)
  refine pm_callV (As := [.int za]) (rest := []) hG hR dX12_price_2 (lkX12_91 _ rfl) okV_X12_isPerson rfl rfl (m_isPerson (d := 1) (by decide) ek1 (by omega)) rfl rfl hdd (Nat.le_refl _) (Nat.le_refl _) (by decide) (pm_ki (fun v2 σ' cnt' hq => ?_))
  obtain ⟨hq, rfl, rfl⟩ := hq
  rcases hq with ⟨rfl, k4, hk4, ek4⟩ | rfl
  · refine pm_ifN_eq (tgt := 19) hG dX12_price_5 rfl (by omega) (fun q => absurd q (by omega)) (fun _ => ?_)
    refine pm_iloadn hG dX12_price_8 rfl ?_
    refine pm_iconst (v := nI 1) hG dX12_price_9 (by decide) ?_
    refine pm_sipush (v := nI 999) hG dX12_price_10 (by decide) ?_
    refine pm_callS (As := [.int zb, .int (nI 1), .int (nI 999)]) (rest := []) hG hR dX12_price_13 (lkX12_68 _ rfl) okS_X12_in (m_in (d := 1)) rfl rfl hdd (Nat.le_refl _) (Nat.le_refl _) (by decide) (pm_ki (fun v5 σ' cnt' hq => ?_))
    obtain ⟨hq, rfl, rfl⟩ := hq
    rcases hq with ⟨rfl, ac6, bc6⟩ | ⟨rfl, c6⟩
    · obtain ⟨k7, hk7, ek7⟩ := in_nat (by omega) (by omega) ac6 bc6
      refine pm_ifN_ne (tgt := 25) hG dX12_price_16 rfl (by omega) (fun _ => ?_) (fun q => absurd q (by omega))
      refine pm_aloadn hG dX12_price_25 rfl ?_
      refine pm_iloadn hG dX12_price_26 rfl ?_
      refine pm_top (v := nI k4) ek4 ?_
      refine pm_bipush (v := nI 12) hG dX12_price_27 (by decide) ?_
      refine pm_callV (As := [.int (nI k4), .int (nI 12)]) (rest := []) hG hR dX12_price_29 (lkX12_72 _ rfl) okV_X12_man rfl rfl (m_man (d := 1) (e := 14 * k4 + 122) (by omega) (by omega) (by omega)) rfl rfl hdd (Nat.le_refl _) (Nat.le_refl _) (by decide) (pm_ki (fun v8 σ' cnt' hq => ?_))
      obtain ⟨rfl, rfl, rfl⟩ := hq
      refine pm_gen (fun x9 ex9 => ?_)
      refine pm_istoreXn (loc' := [some (.ref (B + 54)), some (.int za), some (.int zb), some (.int x9)]) hG dX12_price_32 (by decide) (pm_c1b rfl) rfl ?_
      refine pm_aloadn hG dX12_price_33 rfl ?_
      refine pm_iloadn hG dX12_price_34 rfl ?_
      refine pm_top (v := nI k4) ek4 ?_
      refine pm_bipush (v := nI 12) hG dX12_price_35 (by decide) ?_
      refine pm_iloadn hG dX12_price_37 rfl ?_
      refine pm_top (v := nI k7) ek7 ?_
      refine pm_callV (As := [.int (nI k4), .int (nI 12), .int (nI k7)]) (rest := []) hG hR dX12_price_38 (lkX12_97 _ rfl) okV_X12_sets rfl rfl (m_sets (d := 1) (e := 14 * k4 + 122) (by omega) (by omega) (by omega)) rfl rfl hdd (Nat.le_refl _) (Nat.le_refl _) (by decide) (pm_kv (fun σ' cnt' hq => ?_))
      obtain ⟨rfl, rfl⟩ := hq
      obtain ⟨n_10, en_10⟩ : ∃ f : Nat → Int32, f = upd n (14 * k4 + 122) (nI k7) := ⟨_, rfl⟩
      rw [← en_10]
      have hnn_10 := KI.w en_10 hn (okv_f (show kd (14 * k4 + 122) = (0, 0, false) from (kd_P (k := k4) (c := 12) (by omega) (by omega) (by decide))))
      have hrn_10 := NRx.w en_10 hr (by rw [(show kd (14 * k4 + 122) = (0, 0, false) from (kd_P (k := k4) (c := 12) (by omega) (by omega) (by decide)))])
      have ksn_10 := KS.w en_10 KS.rf (by unfold tS; omega)
      have e11 : n_10 2 = nI k1 := by rw [en_10, pk_un (by omega)]; exact ek1
      have e12 : n_10 (14 * k4 + 122) = nI k7 := by rw [en_10, pk_us]
      refine pm_iloadn hG dX12_price_41 rfl ?_
      exact pm_iret hG hF dX12_price_42 rfl (Nat.le_refl _) (Nat.le_refl _) ⟨_, rfl, ⟨_, _, _, rfl, hnn_10, hrn_10, ksn_10⟩, rfl⟩
    · refine pm_ifN_ne (tgt := 25) hG dX12_price_16 rfl (by omega) (fun q => absurd q (by omega)) (fun _ => ?_)
      refine pm_aloadn hG dX12_price_19 rfl ?_
      refine pm_iconst (v := nI 1) hG dX12_price_20 (by decide) ?_
      refine pm_callV (As := [.int (nI 1)]) (rest := []) hG hR dX12_price_21 (lkX12_80 _ rfl) okV_X12_finds rfl rfl (m_finds (d := 1) (by decide) hn hz (by omega)) rfl rfl hdd (Nat.le_refl _) (Nat.le_refl _) (by decide) (pm_ki (fun v13 σ' cnt' hq => ?_))
      obtain ⟨⟨I14, A14, rfl⟩, rfl, fv13⟩ := hq
      exact pm_iret hG hF dX12_price_24 rfl (Nat.le_refl _) (Nat.le_refl _) ⟨_, rfl, ⟨_, _, _, rfl, hn, hr, KS.rf⟩, rfl⟩
  · refine pm_ifN_eq (tgt := 19) hG dX12_price_5 rfl (by omega) (fun _ => ?_) (fun q => absurd q (by omega))
    refine pm_aloadn hG dX12_price_19 rfl ?_
    refine pm_iconst (v := nI 1) hG dX12_price_20 (by decide) ?_
    refine pm_callV (As := [.int (nI 1)]) (rest := []) hG hR dX12_price_21 (lkX12_80 _ rfl) okV_X12_finds rfl rfl (m_finds (d := 1) (by decide) hn hz (by omega)) rfl rfl hdd (Nat.le_refl _) (Nat.le_refl _) (by decide) (pm_ki (fun v15 σ' cnt' hq => ?_))
    obtain ⟨⟨I16, A16, rfl⟩, rfl, fv15⟩ := hq
    exact pm_iret hG hF dX12_price_24 rfl (Nat.le_refl _) (Nat.le_refl _) ⟨_, rfl, ⟨_, _, _, rfl, hn, hr, KS.rf⟩, rfl⟩

set_option maxRecDepth 100000 in
set_option maxHeartbeats 4000000 in
theorem m_promise {d B cnt p0 t0 : Nat} {σ : pm_S} {I : Nat → Int32} {A : Nat → Nat → Int32} {n k z : Nat → Int32} {ac wt pl im : Int32} {za zb zc zd : Int32} (hdd : 2 ≤ d) (hn : KI n) (hr : NR n) (hz : SZ z)  : pm_met mX12_promise d 0 0 B [.ref (B + 54), .int za, .int zb, .int zc, .int zd] cnt (pm_mid σ (md_L B I A n k z ac wt pl (nI p0) (nI t0) im)) (pm_Qi (fun v σ' cnt' => (∃ (I' : Nat → Int32) (A' : Nat → Nat → Int32) (n' : Nat → Int32), σ' = pm_mid σ (md_L B I' A' n' k z ac wt pl (nI p0) (nI t0) im) ∧ KI n' ∧ NR n' ∧ KS n' n) ∧ cnt = cnt')) := by
  refine pm_enter 2 (by decide) (Nat.le_of_ble_eq_true rfl) rfl (fun G hG hR hF => ?_)
  refine pm_aloadn hG dX12_promise_0 rfl ?_
  refine pm_iloadn hG dX12_promise_1 rfl ?_
  obtain ⟨k1, hk1, ek1⟩ := KI.nat hn (show kd 2 = (1, 21, true) by decide)
  refine pm_callV (As := [.int za]) (rest := []) hG hR dX12_promise_2 (lkX12_91 _ rfl) okV_X12_isPerson rfl rfl (m_isPerson (d := 1) (by decide) ek1 (by omega)) rfl rfl hdd (Nat.le_refl _) (Nat.le_refl _) (by decide) (pm_ki (fun v2 σ' cnt' hq => ?_))
  obtain ⟨hq, rfl, rfl⟩ := hq
  rcases hq with ⟨rfl, k4, hk4, ek4⟩ | rfl
  · refine pm_ifN_eq (tgt := 34) hG dX12_promise_5 rfl (by omega) (fun q => absurd q (by omega)) (fun _ => ?_)
    refine pm_iloadn hG dX12_promise_8 rfl ?_
    refine pm_iconst (v := nI 0) hG dX12_promise_9 (by decide) ?_
    refine pm_iconst (v := nI 5) hG dX12_promise_10 (by decide) ?_
    refine pm_callS (As := [.int zb, .int (nI 0), .int (nI 5)]) (rest := []) hG hR dX12_promise_11 (lkX12_68 _ rfl) okS_X12_in (m_in (d := 1)) rfl rfl hdd (Nat.le_refl _) (Nat.le_refl _) (by decide) (pm_ki (fun v5 σ' cnt' hq => ?_))
    obtain ⟨hq, rfl, rfl⟩ := hq
    rcases hq with ⟨rfl, ac6, bc6⟩ | ⟨rfl, c6⟩
    · obtain ⟨k7, hk7, ek7⟩ := in_nat (by omega) (by omega) ac6 bc6
      refine pm_ifN_eq (tgt := 34) hG dX12_promise_14 rfl (by omega) (fun q => absurd q (by omega)) (fun _ => ?_)
      refine pm_iloadn hG dX12_promise_17 rfl ?_
      refine pm_aloadn hG dX12_promise_18 rfl ?_
      refine pm_getf hG dX12_promise_19 (flX12_7 _ rfl) rfl rfl ?_
      refine pm_bipush (v := nI 8) hG dX12_promise_22 (by decide) ?_
      refine pm_ialdN hG dX12_promise_24 rfl (by decide) (by omega) ?_
      obtain ⟨k8, hk8, ek8⟩ := KI.nat hn (show kd 8 = (1, 2001, false) by decide)
      refine pm_top (v := nI k8) ek8 ?_
      refine pm_sipush (v := nI 2000) hG dX12_promise_25 (by decide) ?_
      refine pm_callS (As := [.int zc, .int (nI k8), .int (nI 2000)]) (rest := []) hG hR dX12_promise_28 (lkX12_68 _ rfl) okS_X12_in (m_in (d := 1)) rfl rfl hdd (Nat.le_refl _) (Nat.le_refl _) (by decide) (pm_ki (fun v9 σ' cnt' hq => ?_))
      obtain ⟨hq, rfl, rfl⟩ := hq
      rcases hq with ⟨rfl, ac10, bc10⟩ | ⟨rfl, c10⟩
      · obtain ⟨k11, hk11, ek11⟩ := in_nat (by omega) (by omega) ac10 bc10
        refine pm_ifN_ne (tgt := 40) hG dX12_promise_31 rfl (by omega) (fun _ => ?_) (fun q => absurd q (by omega))
        refine pm_aloadn hG dX12_promise_40 rfl ?_
        refine pm_iloadn hG dX12_promise_41 rfl ?_
        refine pm_top (v := nI k4) ek4 ?_
        refine pm_bipush (v := nI 11) hG dX12_promise_42 (by decide) ?_
        refine pm_callV (As := [.int (nI k4), .int (nI 11)]) (rest := []) hG hR dX12_promise_44 (lkX12_72 _ rfl) okV_X12_man rfl rfl (m_man (d := 1) (e := 14 * k4 + 121) (by omega) (by omega) (by omega)) rfl rfl hdd (Nat.le_refl _) (Nat.le_refl _) (by decide) (pm_ki (fun v12 σ' cnt' hq => ?_))
        obtain ⟨rfl, rfl, rfl⟩ := hq
        obtain ⟨k13, hk13, ek13⟩ := KI.nat hn (show kd (14 * k4 + 121) = (1, 2, true) from (kd_P (k := k4) (c := 11) (by omega) (by omega) (by decide)))
        refine pm_top (v := nI k13) ek13 ?_
        refine pm_ifN_ne (tgt := 56) hG dX12_promise_47 rfl (by omega) (fun c14 => ?_) (fun c14 => ?_)
        · refine pm_aloadn hG dX12_promise_56 rfl ?_
          refine pm_getf hG dX12_promise_57 (flX12_7 _ rfl) rfl rfl ?_
          refine pm_bipush (v := nI 7) hG dX12_promise_60 (by decide) ?_
          refine pm_ialdN hG dX12_promise_62 rfl (by decide) (by omega) ?_
          obtain ⟨k15, hk15, ek15⟩ := KI.nat hn (show kd 7 = (1, 31, false) by decide)
          refine pm_top (v := nI k15) ek15 ?_
          refine pm_istoreXi (loc' := [some (.ref (B + 54)), some (.int za), some (.int zb), some (.int zc), some (.int zd), some (.int (nI k15)), none]) hG dX12_promise_63 (by decide) (pm_c1b rfl) rfl ?_
          refine pm_iloadi hG dX12_promise_65 rfl ?_
          refine pm_bipush (v := nI 30) hG dX12_promise_67 (by decide) ?_
          refine pm_icmpN_ne (tgt := 78) hG dX12_promise_69 rfl (by omega) (by omega) (fun c16 => ?_) (fun c16 => ?_)
          · refine pm_iconst (v := nI 0) hG dX12_promise_78 (by decide) ?_
            refine pm_istoreXi (loc' := [some (.ref (B + 54)), some (.int za), some (.int zb), some (.int zc), some (.int zd), some (.int (nI k15)), some (.int (nI 0))]) hG dX12_promise_79 (by decide) (pm_c1b rfl) rfl ?_
            have loop81_17 : ∀ (m17 : Nat) (I17 : Nat → Int32) (A17 : Nat → Nat → Int32) (n_17 : Nat → Int32) (i17 : Nat), KI n_17 → KS n_17 n → NRx 40 n_17 → n_17 7 = nI k15 → i17 ≤ 29 → 29 - i17 < m17 → pm_wp mX12_promise G B 81 [some (.ref (B + 54)), some (.int za), some (.int zb), some (.int zc), some (.int zd), some (.int (nI k15)), some (.int (nI i17))] [] 0 0 cnt (pm_mid σ (md_L B I17 A17 n_17 k z ac wt pl (nI p0) (nI t0) im)) := by
              intro m17
              induction m17 with
              | zero => intro I17 A17 n_17 i17 _ _ _ _ _ hm; exact absurd hm (Nat.not_lt_zero _)
              | succ m17 ih17 =>
                intro I17 A17 n_17 i17 hnn_17 ksn_17 hrn_17 kc17_7 hi17 hm17
                refine pm_iloadi hG dX12_promise_81 rfl ?_
                refine pm_iloadi hG dX12_promise_83 rfl ?_
                refine pm_icmpN_ge (tgt := 133) hG dX12_promise_85 rfl (by omega) (by omega) (fun c18 => ?_) (fun c18 => ?_)
                · refine pm_aloadn hG dX12_promise_133 rfl ?_
                  refine pm_getf hG dX12_promise_134 (flX12_7 _ rfl) rfl rfl ?_
                  refine pm_bipush (v := nI 7) hG dX12_promise_137 (by decide) ?_
                  refine pm_dup2 hG dX12_promise_139 rfl rfl ?_
                  refine pm_ialdN hG dX12_promise_140 rfl (by decide) (by omega) ?_
                  refine pm_top (v := nI k15) kc17_7 ?_
                  refine pm_iconst (v := nI 1) hG dX12_promise_141 (by decide) ?_
                  refine pm_iaddN (c := k15 + 1) hG dX12_promise_142 (by omega) ?_
                  refine pm_iastN hG dX12_promise_143 rfl (by decide) (by omega) ?_
                  refine mdn_now (fun n_19 en_19 => ?_)
                  have hnn_19 := KI.w en_19 hnn_17 (okv_n (show kd 7 = (1, 31, false) by decide) (by omega))
                  have hrn_19 := NRx.w en_19 hrn_17 (by rw [(show kd 7 = (1, 31, false) by decide)])
                  have ksn_19 := KS.w en_19 ksn_17 (by unfold tS; omega)
                  have e20 : n_19 7 = nI (k15 + 1) := by rw [en_19, pk_us]
                  refine pm_aloadn hG dX12_promise_144 rfl ?_
                  refine pm_getf hG dX12_promise_145 (flX12_7 _ rfl) rfl rfl ?_
                  refine pm_sipush (v := nI 1806) hG dX12_promise_148 (by decide) ?_
                  refine pm_bipush (v := nI 6) hG dX12_promise_151 (by decide) ?_
                  refine pm_iloadi hG dX12_promise_153 rfl ?_
                  refine pm_imulN (c := 6 * k15) hG dX12_promise_155 (by omega) ?_
                  refine pm_iaddN (c := 6 * k15 + 1806) hG dX12_promise_156 (by omega) ?_
                  refine pm_iloadn hG dX12_promise_157 rfl ?_
                  refine pm_top (v := nI k4) ek4 ?_
                  refine pm_iastN hG dX12_promise_158 rfl (by decide) (by omega) ?_
                  refine mdn_now (fun n_21 en_21 => ?_)
                  have hnn_21 := KI.w en_21 hnn_19 (okv_n (show kd (6 * k15 + 1806) = (1, 20, false) from (kd_Q (k := k15) (c := 0) (by omega) (by omega) (by decide))) (by omega))
                  have hrn_21 := NRx.w en_21 hrn_19 (by rw [(show kd (6 * k15 + 1806) = (1, 20, false) from (kd_Q (k := k15) (c := 0) (by omega) (by omega) (by decide)))])
                  have ksn_21 := KS.w en_21 ksn_19 (by unfold tS; omega)
                  have e22 : n_21 7 = nI (k15 + 1) := by rw [en_21, pk_un (by omega)]; exact e20
                  have e23 : n_21 (6 * k15 + 1806) = nI k4 := by rw [en_21, pk_us]
                  refine pm_aloadn hG dX12_promise_159 rfl ?_
                  refine pm_getf hG dX12_promise_160 (flX12_7 _ rfl) rfl rfl ?_
                  refine pm_sipush (v := nI 1806) hG dX12_promise_163 (by decide) ?_
                  refine pm_bipush (v := nI 6) hG dX12_promise_166 (by decide) ?_
                  refine pm_iloadi hG dX12_promise_168 rfl ?_
                  refine pm_imulN (c := 6 * k15) hG dX12_promise_170 (by omega) ?_
                  refine pm_iaddN (c := 6 * k15 + 1806) hG dX12_promise_171 (by omega) ?_
                  refine pm_iconst (v := nI 1) hG dX12_promise_172 (by decide) ?_
                  refine pm_iaddN (c := 6 * k15 + 1807) hG dX12_promise_173 (by omega) ?_
                  refine pm_iloadn hG dX12_promise_174 rfl ?_
                  refine pm_top (v := nI k7) ek7 ?_
                  refine pm_iastN hG dX12_promise_175 rfl (by decide) (by omega) ?_
                  refine mdn_now (fun n_24 en_24 => ?_)
                  have hnn_24 := KI.w en_24 hnn_21 (okv_f (show kd (6 * k15 + 1807) = (0, 0, false) from (kd_Q (k := k15) (c := 1) (by omega) (by omega) (by decide))))
                  have hrn_24 := NRx.w en_24 hrn_21 (by rw [(show kd (6 * k15 + 1807) = (0, 0, false) from (kd_Q (k := k15) (c := 1) (by omega) (by omega) (by decide)))])
                  have ksn_24 := KS.w en_24 ksn_21 (by unfold tS; omega)
                  have e25 : n_24 7 = nI (k15 + 1) := by rw [en_24, pk_un (by omega)]; exact e22
                  have e26 : n_24 (6 * k15 + 1806) = nI k4 := by rw [en_24, pk_un (by omega)]; exact e23
                  have e27 : n_24 (6 * k15 + 1807) = nI k7 := by rw [en_24, pk_us]
                  refine pm_aloadn hG dX12_promise_176 rfl ?_
                  refine pm_getf hG dX12_promise_177 (flX12_7 _ rfl) rfl rfl ?_
                  refine pm_sipush (v := nI 1806) hG dX12_promise_180 (by decide) ?_
                  refine pm_bipush (v := nI 6) hG dX12_promise_183 (by decide) ?_
                  refine pm_iloadi hG dX12_promise_185 rfl ?_
                  refine pm_imulN (c := 6 * k15) hG dX12_promise_187 (by omega) ?_
                  refine pm_iaddN (c := 6 * k15 + 1806) hG dX12_promise_188 (by omega) ?_
                  refine pm_iconst (v := nI 2) hG dX12_promise_189 (by decide) ?_
                  refine pm_iaddN (c := 6 * k15 + 1808) hG dX12_promise_190 (by omega) ?_
                  refine pm_iloadn hG dX12_promise_191 rfl ?_
                  refine pm_top (v := nI k11) ek11 ?_
                  refine pm_iastN hG dX12_promise_192 rfl (by decide) (by omega) ?_
                  refine mdn_now (fun n_28 en_28 => ?_)
                  have hnn_28 := KI.w en_28 hnn_24 (okv_f (show kd (6 * k15 + 1808) = (0, 0, false) from (kd_Q (k := k15) (c := 2) (by omega) (by omega) (by decide))))
                  have hrn_28 := NRx.w en_28 hrn_24 (by rw [(show kd (6 * k15 + 1808) = (0, 0, false) from (kd_Q (k := k15) (c := 2) (by omega) (by omega) (by decide)))])
                  have ksn_28 := KS.w en_28 ksn_24 (by unfold tS; omega)
                  have e29 : n_28 7 = nI (k15 + 1) := by rw [en_28, pk_un (by omega)]; exact e25
                  have e30 : n_28 (6 * k15 + 1806) = nI k4 := by rw [en_28, pk_un (by omega)]; exact e26
                  have e31 : n_28 (6 * k15 + 1807) = nI k7 := by rw [en_28, pk_un (by omega)]; exact e27
                  have e32 : n_28 (6 * k15 + 1808) = nI k11 := by rw [en_28, pk_us]
                  refine pm_aloadn hG dX12_promise_193 rfl ?_
                  refine pm_getf hG dX12_promise_194 (flX12_7 _ rfl) rfl rfl ?_
                  refine pm_sipush (v := nI 1806) hG dX12_promise_197 (by decide) ?_
                  refine pm_bipush (v := nI 6) hG dX12_promise_200 (by decide) ?_
                  refine pm_iloadi hG dX12_promise_202 rfl ?_
                  refine pm_imulN (c := 6 * k15) hG dX12_promise_204 (by omega) ?_
                  refine pm_iaddN (c := 6 * k15 + 1806) hG dX12_promise_205 (by omega) ?_
                  refine pm_iconst (v := nI 3) hG dX12_promise_206 (by decide) ?_
                  refine pm_iaddN (c := 6 * k15 + 1809) hG dX12_promise_207 (by omega) ?_
                  refine pm_iloadi hG dX12_promise_208 rfl ?_
                  refine pm_if_eq (tgt := 217) hG dX12_promise_210 rfl (fun c33 => ?_) (fun c33 => ?_)
                  · refine pm_iconst (v := nI 0) hG dX12_promise_217 (by decide) ?_
                    refine pm_iastN hG dX12_promise_218 rfl (by decide) (by omega) ?_
                    refine mdn_now (fun n_34 en_34 => ?_)
                    have hnn_34 := KI.w en_34 hnn_28 (okv_f (show kd (6 * k15 + 1809) = (0, 0, false) from (kd_Q (k := k15) (c := 3) (by omega) (by omega) (by decide))))
                    have hrn_34 := NRx.w en_34 hrn_28 (by rw [(show kd (6 * k15 + 1809) = (0, 0, false) from (kd_Q (k := k15) (c := 3) (by omega) (by omega) (by decide)))])
                    have ksn_34 := KS.w en_34 ksn_28 (by unfold tS; omega)
                    have e35 : n_34 7 = nI (k15 + 1) := by rw [en_34, pk_un (by omega)]; exact e29
                    have e36 : n_34 (6 * k15 + 1806) = nI k4 := by rw [en_34, pk_un (by omega)]; exact e30
                    have e37 : n_34 (6 * k15 + 1807) = nI k7 := by rw [en_34, pk_un (by omega)]; exact e31
                    have e38 : n_34 (6 * k15 + 1808) = nI k11 := by rw [en_34, pk_un (by omega)]; exact e32
                    have e39 : n_34 (6 * k15 + 1809) = nI 0 := by rw [en_34, pk_us]
                    refine pm_aloadn hG dX12_promise_219 rfl ?_
                    refine pm_getf hG dX12_promise_220 (flX12_7 _ rfl) rfl rfl ?_
                    refine pm_sipush (v := nI 1806) hG dX12_promise_223 (by decide) ?_
                    refine pm_bipush (v := nI 6) hG dX12_promise_226 (by decide) ?_
                    refine pm_iloadi hG dX12_promise_228 rfl ?_
                    refine pm_imulN (c := 6 * k15) hG dX12_promise_230 (by omega) ?_
                    refine pm_iaddN (c := 6 * k15 + 1806) hG dX12_promise_231 (by omega) ?_
                    refine pm_iconst (v := nI 4) hG dX12_promise_232 (by decide) ?_
                    refine pm_iaddN (c := 6 * k15 + 1810) hG dX12_promise_233 (by omega) ?_
                    refine pm_iconst (v := nI 0) hG dX12_promise_234 (by decide) ?_
                    refine pm_iastN hG dX12_promise_235 rfl (by decide) (by omega) ?_
                    refine mdn_now (fun n_40 en_40 => ?_)
                    have hnn_40 := KI.w en_40 hnn_34 (okv_f (show kd (6 * k15 + 1810) = (0, 0, false) from (kd_Q (k := k15) (c := 4) (by omega) (by omega) (by decide))))
                    have hrn_40 := NRx.w en_40 hrn_34 (by rw [(show kd (6 * k15 + 1810) = (0, 0, false) from (kd_Q (k := k15) (c := 4) (by omega) (by omega) (by decide)))])
                    have ksn_40 := KS.w en_40 ksn_34 (by unfold tS; omega)
                    have e41 : n_40 7 = nI (k15 + 1) := by rw [en_40, pk_un (by omega)]; exact e35
                    have e42 : n_40 (6 * k15 + 1806) = nI k4 := by rw [en_40, pk_un (by omega)]; exact e36
                    have e43 : n_40 (6 * k15 + 1807) = nI k7 := by rw [en_40, pk_un (by omega)]; exact e37
                    have e44 : n_40 (6 * k15 + 1808) = nI k11 := by rw [en_40, pk_un (by omega)]; exact e38
                    have e45 : n_40 (6 * k15 + 1809) = nI 0 := by rw [en_40, pk_un (by omega)]; exact e39
                    have e46 : n_40 (6 * k15 + 1810) = nI 0 := by rw [en_40, pk_us]
                    refine pm_aloadn hG dX12_promise_236 rfl ?_
                    refine pm_getf hG dX12_promise_237 (flX12_7 _ rfl) rfl rfl ?_
                    refine pm_sipush (v := nI 1806) hG dX12_promise_240 (by decide) ?_
                    refine pm_bipush (v := nI 6) hG dX12_promise_243 (by decide) ?_
                    refine pm_iloadi hG dX12_promise_245 rfl ?_
                    refine pm_imulN (c := 6 * k15) hG dX12_promise_247 (by omega) ?_
                    refine pm_iaddN (c := 6 * k15 + 1806) hG dX12_promise_248 (by omega) ?_
                    refine pm_iconst (v := nI 5) hG dX12_promise_249 (by decide) ?_
                    refine pm_iaddN (c := 6 * k15 + 1811) hG dX12_promise_250 (by omega) ?_
                    refine pm_iconst (v := nI 0) hG dX12_promise_251 (by decide) ?_
                    refine pm_iastN hG dX12_promise_252 rfl (by decide) (by omega) ?_
                    refine mdn_now (fun n_47 en_47 => ?_)
                    have hnn_47 := KI.w en_47 hnn_40 (okv_f (show kd (6 * k15 + 1811) = (0, 0, false) from (kd_Q (k := k15) (c := 5) (by omega) (by omega) (by decide))))
                    have hrn_47 := NRx.w en_47 hrn_40 (by rw [(show kd (6 * k15 + 1811) = (0, 0, false) from (kd_Q (k := k15) (c := 5) (by omega) (by omega) (by decide)))])
                    have ksn_47 := KS.w en_47 ksn_40 (by unfold tS; omega)
                    have e48 : n_47 7 = nI (k15 + 1) := by rw [en_47, pk_un (by omega)]; exact e41
                    have e49 : n_47 (6 * k15 + 1806) = nI k4 := by rw [en_47, pk_un (by omega)]; exact e42
                    have e50 : n_47 (6 * k15 + 1807) = nI k7 := by rw [en_47, pk_un (by omega)]; exact e43
                    have e51 : n_47 (6 * k15 + 1808) = nI k11 := by rw [en_47, pk_un (by omega)]; exact e44
                    have e52 : n_47 (6 * k15 + 1809) = nI 0 := by rw [en_47, pk_un (by omega)]; exact e45
                    have e53 : n_47 (6 * k15 + 1810) = nI 0 := by rw [en_47, pk_un (by omega)]; exact e46
                    have e54 : n_47 (6 * k15 + 1811) = nI 0 := by rw [en_47, pk_us]
                    refine pm_iloadi hG dX12_promise_253 rfl ?_
                    exact pm_iret hG hF dX12_promise_255 rfl (Nat.le_refl _) (Nat.le_refl _) ⟨_, rfl, ⟨_, _, _, rfl, hnn_47, hrn_47, ksn_47⟩, rfl⟩
                  · refine pm_iconst (v := nI 1) hG dX12_promise_213 (by decide) ?_
                    refine pm_goto (tgt := 218) hG dX12_promise_214 rfl ?_
                    refine pm_iastN hG dX12_promise_218 rfl (by decide) (by omega) ?_
                    refine mdn_now (fun n_55 en_55 => ?_)
                    have hnn_55 := KI.w en_55 hnn_28 (okv_f (show kd (6 * k15 + 1809) = (0, 0, false) from (kd_Q (k := k15) (c := 3) (by omega) (by omega) (by decide))))
                    have hrn_55 := NRx.w en_55 hrn_28 (by rw [(show kd (6 * k15 + 1809) = (0, 0, false) from (kd_Q (k := k15) (c := 3) (by omega) (by omega) (by decide)))])
                    have ksn_55 := KS.w en_55 ksn_28 (by unfold tS; omega)
                    have e56 : n_55 7 = nI (k15 + 1) := by rw [en_55, pk_un (by omega)]; exact e29
                    have e57 : n_55 (6 * k15 + 1806) = nI k4 := by rw [en_55, pk_un (by omega)]; exact e30
                    have e58 : n_55 (6 * k15 + 1807) = nI k7 := by rw [en_55, pk_un (by omega)]; exact e31
                    have e59 : n_55 (6 * k15 + 1808) = nI k11 := by rw [en_55, pk_un (by omega)]; exact e32
                    have e60 : n_55 (6 * k15 + 1809) = nI 1 := by rw [en_55, pk_us]
                    refine pm_aloadn hG dX12_promise_219 rfl ?_
                    refine pm_getf hG dX12_promise_220 (flX12_7 _ rfl) rfl rfl ?_
                    refine pm_sipush (v := nI 1806) hG dX12_promise_223 (by decide) ?_
                    refine pm_bipush (v := nI 6) hG dX12_promise_226 (by decide) ?_
                    refine pm_iloadi hG dX12_promise_228 rfl ?_
                    refine pm_imulN (c := 6 * k15) hG dX12_promise_230 (by omega) ?_
                    refine pm_iaddN (c := 6 * k15 + 1806) hG dX12_promise_231 (by omega) ?_
                    refine pm_iconst (v := nI 4) hG dX12_promise_232 (by decide) ?_
                    refine pm_iaddN (c := 6 * k15 + 1810) hG dX12_promise_233 (by omega) ?_
                    refine pm_iconst (v := nI 0) hG dX12_promise_234 (by decide) ?_
                    refine pm_iastN hG dX12_promise_235 rfl (by decide) (by omega) ?_
                    refine mdn_now (fun n_61 en_61 => ?_)
                    have hnn_61 := KI.w en_61 hnn_55 (okv_f (show kd (6 * k15 + 1810) = (0, 0, false) from (kd_Q (k := k15) (c := 4) (by omega) (by omega) (by decide))))
                    have hrn_61 := NRx.w en_61 hrn_55 (by rw [(show kd (6 * k15 + 1810) = (0, 0, false) from (kd_Q (k := k15) (c := 4) (by omega) (by omega) (by decide)))])
                    have ksn_61 := KS.w en_61 ksn_55 (by unfold tS; omega)
                    have e62 : n_61 7 = nI (k15 + 1) := by rw [en_61, pk_un (by omega)]; exact e56
                    have e63 : n_61 (6 * k15 + 1806) = nI k4 := by rw [en_61, pk_un (by omega)]; exact e57
                    have e64 : n_61 (6 * k15 + 1807) = nI k7 := by rw [en_61, pk_un (by omega)]; exact e58
                    have e65 : n_61 (6 * k15 + 1808) = nI k11 := by rw [en_61, pk_un (by omega)]; exact e59
                    have e66 : n_61 (6 * k15 + 1809) = nI 1 := by rw [en_61, pk_un (by omega)]; exact e60
                    have e67 : n_61 (6 * k15 + 1810) = nI 0 := by rw [en_61, pk_us]
                    refine pm_aloadn hG dX12_promise_236 rfl ?_
                    refine pm_getf hG dX12_promise_237 (flX12_7 _ rfl) rfl rfl ?_
                    refine pm_sipush (v := nI 1806) hG dX12_promise_240 (by decide) ?_
                    refine pm_bipush (v := nI 6) hG dX12_promise_243 (by decide) ?_
                    refine pm_iloadi hG dX12_promise_245 rfl ?_
                    refine pm_imulN (c := 6 * k15) hG dX12_promise_247 (by omega) ?_
                    refine pm_iaddN (c := 6 * k15 + 1806) hG dX12_promise_248 (by omega) ?_
                    refine pm_iconst (v := nI 5) hG dX12_promise_249 (by decide) ?_
                    refine pm_iaddN (c := 6 * k15 + 1811) hG dX12_promise_250 (by omega) ?_
                    refine pm_iconst (v := nI 0) hG dX12_promise_251 (by decide) ?_
                    refine pm_iastN hG dX12_promise_252 rfl (by decide) (by omega) ?_
                    refine mdn_now (fun n_68 en_68 => ?_)
                    have hnn_68 := KI.w en_68 hnn_61 (okv_f (show kd (6 * k15 + 1811) = (0, 0, false) from (kd_Q (k := k15) (c := 5) (by omega) (by omega) (by decide))))
                    have hrn_68 := NRx.w en_68 hrn_61 (by rw [(show kd (6 * k15 + 1811) = (0, 0, false) from (kd_Q (k := k15) (c := 5) (by omega) (by omega) (by decide)))])
                    have ksn_68 := KS.w en_68 ksn_61 (by unfold tS; omega)
                    have e69 : n_68 7 = nI (k15 + 1) := by rw [en_68, pk_un (by omega)]; exact e62
                    have e70 : n_68 (6 * k15 + 1806) = nI k4 := by rw [en_68, pk_un (by omega)]; exact e63
                    have e71 : n_68 (6 * k15 + 1807) = nI k7 := by rw [en_68, pk_un (by omega)]; exact e64
                    have e72 : n_68 (6 * k15 + 1808) = nI k11 := by rw [en_68, pk_un (by omega)]; exact e65
                    have e73 : n_68 (6 * k15 + 1809) = nI 1 := by rw [en_68, pk_un (by omega)]; exact e66
                    have e74 : n_68 (6 * k15 + 1810) = nI 0 := by rw [en_68, pk_un (by omega)]; exact e67
                    have e75 : n_68 (6 * k15 + 1811) = nI 0 := by rw [en_68, pk_us]
                    refine pm_iloadi hG dX12_promise_253 rfl ?_
                    exact pm_iret hG hF dX12_promise_255 rfl (Nat.le_refl _) (Nat.le_refl _) ⟨_, rfl, ⟨_, _, _, rfl, hnn_68, hrn_68, ksn_68⟩, rfl⟩
                · refine pm_aloadn hG dX12_promise_88 rfl ?_
                  refine pm_iloadi hG dX12_promise_89 rfl ?_
                  refine pm_iconst (v := nI 0) hG dX12_promise_91 (by decide) ?_
                  refine pm_callV (As := [.int (nI i17), .int (nI 0)]) (rest := []) hG hR dX12_promise_92 (lkX12_223 _ rfl) okV_X12_promised rfl rfl (m_promised (d := 1) (e := 6 * i17 + 1806) (by omega) (by omega) (by omega)) rfl rfl hdd (Nat.le_refl _) (Nat.le_refl _) (by decide) (pm_ki (fun v76 σ' cnt' hq => ?_))
                  obtain ⟨rfl, rfl, rfl⟩ := hq
                  obtain ⟨k77, hk77, ek77⟩ := KI.nat hnn_17 (show kd (6 * i17 + 1806) = (1, 20, false) from (kd_Q (k := i17) (c := 0) (by omega) (by omega) (by decide)))
                  refine pm_top (v := nI k77) ek77 ?_
                  refine pm_iloadn hG dX12_promise_95 rfl ?_
                  refine pm_top (v := nI k4) ek4 ?_
                  refine pm_icmpN_ne (tgt := 127) hG dX12_promise_96 rfl (by omega) (by omega) (fun c78 => ?_) (fun c78 => ?_)
                  · refine pm_iincX (v := nI (i17 + 1)) (loc' := [some (.ref (B + 54)), some (.int za), some (.int zb), some (.int zc), some (.int zd), some (.int (nI k15)), some (.int (nI (i17 + 1)))]) hG dX12_promise_127 rfl (nI_1 _) (by decide) (pm_c1b rfl) rfl ?_
                    refine pm_goto (tgt := 81) hG dX12_promise_130 rfl ?_
                    exact ih17 I17 A17 n_17 (i17 + 1) hnn_17 ksn_17 hrn_17 (kc17_7.trans (congrArg nI (by omega))) (by omega) (by omega)
                  · refine pm_aloadn hG dX12_promise_99 rfl ?_
                    refine pm_iloadi hG dX12_promise_100 rfl ?_
                    refine pm_iconst (v := nI 1) hG dX12_promise_102 (by decide) ?_
                    refine pm_callV (As := [.int (nI i17), .int (nI 1)]) (rest := []) hG hR dX12_promise_103 (lkX12_223 _ rfl) okV_X12_promised rfl rfl (m_promised (d := 1) (e := 6 * i17 + 1807) (by omega) (by omega) (by omega)) rfl rfl hdd (Nat.le_refl _) (Nat.le_refl _) (by decide) (pm_ki (fun v79 σ' cnt' hq => ?_))
                    obtain ⟨rfl, rfl, rfl⟩ := hq
                    refine pm_gen (fun x80 ex80 => ?_)
                    refine pm_iloadn hG dX12_promise_106 rfl ?_
                    refine pm_top (v := nI k7) ek7 ?_
                    refine pm_icmp_ne (tgt := 127) hG dX12_promise_107 rfl (fun c81 => ?_) (fun c81 => ?_)
                    · refine pm_iincX (v := nI (i17 + 1)) (loc' := [some (.ref (B + 54)), some (.int za), some (.int zb), some (.int zc), some (.int zd), some (.int (nI k15)), some (.int (nI (i17 + 1)))]) hG dX12_promise_127 rfl (nI_1 _) (by decide) (pm_c1b rfl) rfl ?_
                      refine pm_goto (tgt := 81) hG dX12_promise_130 rfl ?_
                      exact ih17 I17 A17 n_17 (i17 + 1) hnn_17 ksn_17 hrn_17 (kc17_7.trans (congrArg nI (by omega))) (by omega) (by omega)
                    · refine pm_aloadn hG dX12_promise_110 rfl ?_
                      refine pm_getf hG dX12_promise_111 (flX12_7 _ rfl) rfl rfl ?_
                      refine pm_sipush (v := nI 1806) hG dX12_promise_114 (by decide) ?_
                      refine pm_bipush (v := nI 6) hG dX12_promise_117 (by decide) ?_
                      refine pm_iloadi hG dX12_promise_119 rfl ?_
                      refine pm_imulN (c := 6 * i17) hG dX12_promise_121 (by omega) ?_
                      refine pm_iaddN (c := 6 * i17 + 1806) hG dX12_promise_122 (by omega) ?_
                      refine pm_iconst (v := nI 5) hG dX12_promise_123 (by decide) ?_
                      refine pm_iaddN (c := 6 * i17 + 1811) hG dX12_promise_124 (by omega) ?_
                      refine pm_iconst (v := nI 1) hG dX12_promise_125 (by decide) ?_
                      refine pm_iastN hG dX12_promise_126 rfl (by decide) (by omega) ?_
                      refine mdn_now (fun n_82 en_82 => ?_)
                      have hnn_82 := KI.w en_82 hnn_17 (okv_f (show kd (6 * i17 + 1811) = (0, 0, false) from (kd_Q (k := i17) (c := 5) (by omega) (by omega) (by decide))))
                      have hrn_82 := NRx.w en_82 hrn_17 (by rw [(show kd (6 * i17 + 1811) = (0, 0, false) from (kd_Q (k := i17) (c := 5) (by omega) (by omega) (by decide)))])
                      have ksn_82 := KS.w en_82 ksn_17 (by unfold tS; omega)
                      have e83 : n_82 7 = nI k15 := by rw [en_82, pk_un (by omega)]; exact kc17_7
                      have e84 : n_82 (6 * i17 + 1806) = nI k77 := by rw [en_82, pk_un (by omega)]; exact ek77
                      have e85 : n_82 (6 * i17 + 1807) = x80 := by rw [en_82, pk_un (by omega)]; exact ex80
                      have e86 : n_82 (6 * i17 + 1811) = nI 1 := by rw [en_82, pk_us]
                      refine pm_iincX (v := nI (i17 + 1)) (loc' := [some (.ref (B + 54)), some (.int za), some (.int zb), some (.int zc), some (.int zd), some (.int (nI k15)), some (.int (nI (i17 + 1)))]) hG dX12_promise_127 rfl (nI_1 _) (by decide) (pm_c1b rfl) rfl ?_
                      refine pm_goto (tgt := 81) hG dX12_promise_130 rfl ?_
                      exact ih17 I17 A17 n_82 (i17 + 1) hnn_82 ksn_82 hrn_82 (e83.trans (congrArg nI (by omega))) (by omega) (by omega)
            exact loop81_17 _ I A n 0 hn KS.rf hr (ek15.trans (congrArg nI (by omega))) (by omega) (Nat.lt_succ_self _)
          · refine pm_aloadn hG dX12_promise_72 rfl ?_
            refine pm_iconst (v := nI 4) hG dX12_promise_73 (by decide) ?_
            refine pm_callV (As := [.int (nI 4)]) (rest := []) hG hR dX12_promise_74 (lkX12_80 _ rfl) okV_X12_finds rfl rfl (m_finds (d := 1) (by decide) hn hz (by omega)) rfl rfl hdd (Nat.le_refl _) (Nat.le_refl _) (by decide) (pm_ki (fun v87 σ' cnt' hq => ?_))
            obtain ⟨⟨I88, A88, rfl⟩, rfl, fv87⟩ := hq
            exact pm_iret hG hF dX12_promise_77 rfl (Nat.le_refl _) (Nat.le_refl _) ⟨_, rfl, ⟨_, _, _, rfl, hn, hr, KS.rf⟩, rfl⟩
        · refine pm_aloadn hG dX12_promise_50 rfl ?_
          refine pm_iconst (v := nI 3) hG dX12_promise_51 (by decide) ?_
          refine pm_callV (As := [.int (nI 3)]) (rest := []) hG hR dX12_promise_52 (lkX12_80 _ rfl) okV_X12_finds rfl rfl (m_finds (d := 1) (by decide) hn hz (by omega)) rfl rfl hdd (Nat.le_refl _) (Nat.le_refl _) (by decide) (pm_ki (fun v89 σ' cnt' hq => ?_))
          obtain ⟨⟨I90, A90, rfl⟩, rfl, fv89⟩ := hq
          exact pm_iret hG hF dX12_promise_55 rfl (Nat.le_refl _) (Nat.le_refl _) ⟨_, rfl, ⟨_, _, _, rfl, hn, hr, KS.rf⟩, rfl⟩
      · refine pm_ifN_ne (tgt := 40) hG dX12_promise_31 rfl (by omega) (fun q => absurd q (by omega)) (fun _ => ?_)
        refine pm_aloadn hG dX12_promise_34 rfl ?_
        refine pm_iconst (v := nI 1) hG dX12_promise_35 (by decide) ?_
        refine pm_callV (As := [.int (nI 1)]) (rest := []) hG hR dX12_promise_36 (lkX12_80 _ rfl) okV_X12_finds rfl rfl (m_finds (d := 1) (by decide) hn hz (by omega)) rfl rfl hdd (Nat.le_refl _) (Nat.le_refl _) (by decide) (pm_ki (fun v91 σ' cnt' hq => ?_))
        obtain ⟨⟨I92, A92, rfl⟩, rfl, fv91⟩ := hq
        exact pm_iret hG hF dX12_promise_39 rfl (Nat.le_refl _) (Nat.le_refl _) ⟨_, rfl, ⟨_, _, _, rfl, hn, hr, KS.rf⟩, rfl⟩
    · refine pm_ifN_eq (tgt := 34) hG dX12_promise_14 rfl (by omega) (fun _ => ?_) (fun q => absurd q (by omega))
      refine pm_aloadn hG dX12_promise_34 rfl ?_
      refine pm_iconst (v := nI 1) hG dX12_promise_35 (by decide) ?_
      refine pm_callV (As := [.int (nI 1)]) (rest := []) hG hR dX12_promise_36 (lkX12_80 _ rfl) okV_X12_finds rfl rfl (m_finds (d := 1) (by decide) hn hz (by omega)) rfl rfl hdd (Nat.le_refl _) (Nat.le_refl _) (by decide) (pm_ki (fun v93 σ' cnt' hq => ?_))
      obtain ⟨⟨I94, A94, rfl⟩, rfl, fv93⟩ := hq
      exact pm_iret hG hF dX12_promise_39 rfl (Nat.le_refl _) (Nat.le_refl _) ⟨_, rfl, ⟨_, _, _, rfl, hn, hr, KS.rf⟩, rfl⟩
  · refine pm_ifN_eq (tgt := 34) hG dX12_promise_5 rfl (by omega) (fun _ => ?_) (fun q => absurd q (by omega))
    refine pm_aloadn hG dX12_promise_34 rfl ?_
    refine pm_iconst (v := nI 1) hG dX12_promise_35 (by decide) ?_
    refine pm_callV (As := [.int (nI 1)]) (rest := []) hG hR dX12_promise_36 (lkX12_80 _ rfl) okV_X12_finds rfl rfl (m_finds (d := 1) (by decide) hn hz (by omega)) rfl rfl hdd (Nat.le_refl _) (Nat.le_refl _) (by decide) (pm_ki (fun v95 σ' cnt' hq => ?_))
    obtain ⟨⟨I96, A96, rfl⟩, rfl, fv95⟩ := hq
    exact pm_iret hG hF dX12_promise_39 rfl (Nat.le_refl _) (Nat.le_refl _) ⟨_, rfl, ⟨_, _, _, rfl, hn, hr, KS.rf⟩, rfl⟩

set_option maxRecDepth 100000 in
set_option maxHeartbeats 4000000 in
theorem m_put {d B cnt p0 t0 : Nat} {σ : pm_S} {I : Nat → Int32} {A : Nat → Nat → Int32} {n k z : Nat → Int32} {ac wt pl im : Int32} {za zb zc : Int32} (hdd : 2 ≤ d) (hn : KI n) (hz : SZ z)  : pm_met mX12_put d 0 0 B [.ref (B + 54), .int za, .int zb, .int zc] cnt (pm_mid σ (md_L B I A n k z ac wt pl (nI p0) (nI t0) im)) (pm_Qi (fun v σ' cnt' => (∃ (I' : Nat → Int32) (A' : Nat → Nat → Int32), σ' = pm_mid σ (md_L B I' A' n k z ac wt pl (nI p0) (nI t0) im)) ∧ cnt = cnt')) := by
  refine pm_enter 0 (by decide) (Nat.le_of_ble_eq_true rfl) rfl (fun G hG hR hF => ?_)
  refine pm_iloadn hG dX12_put_0 rfl ?_
  refine pm_callS (As := [.int za]) (rest := []) hG hR dX12_put_1 (lkX12_239 _ rfl) okS_X12_isSheet (m_isSheet (d := 1) (by decide)) rfl rfl hdd (Nat.le_refl _) (Nat.le_refl _) (by decide) (pm_ki (fun v1 σ' cnt' hq => ?_))
  obtain ⟨hq, rfl, rfl⟩ := hq
  rcases hq with ⟨rfl, ac2, bc2⟩ | ⟨rfl, c2⟩
  · obtain ⟨k3, hk3, ek3⟩ := in_nat (by omega) (by omega) ac2 bc2
    refine pm_ifN_ne (tgt := 13) hG dX12_put_4 rfl (by omega) (fun _ => ?_) (fun q => absurd q (by omega))
    refine pm_aloadn hG dX12_put_13 rfl ?_
    refine pm_getf hG dX12_put_14 (flX12_55 _ rfl) rfl rfl ?_
    refine pm_iloadn hG dX12_put_17 rfl ?_
    refine pm_top (v := nI k3) ek3 ?_
    refine pm_ialdN hG dX12_put_18 rfl (by decide) (by omega) ?_
    refine pm_any (fun x4 => ?_)
    refine pm_if_ne (tgt := 28) hG dX12_put_19 rfl (fun c5 => ?_) (fun c5 => ?_)
    · refine pm_iloadn hG dX12_put_28 rfl ?_
      refine pm_iconst (v := nI 0) hG dX12_put_29 (by decide) ?_
      refine pm_aloadn hG dX12_put_30 rfl ?_
      refine pm_getf hG dX12_put_31 (flX12_58 _ rfl) rfl rfl ?_
      refine pm_iloadn hG dX12_put_34 rfl ?_
      refine pm_top (v := nI k3) ek3 ?_
      refine pm_ialdN hG dX12_put_35 rfl (by decide) (by omega) ?_
      obtain ⟨k6, hk6, ek6⟩ := hz k3 (by omega)
      refine pm_top (v := nI k6) ek6 ?_
      refine pm_iconst (v := nI 1) hG dX12_put_36 (by decide) ?_
      refine pm_isub hG dX12_put_37 ?_
      refine pm_callS (As := [.int zb, .int (nI 0), .int ((nI k6) - (nI 1))]) (rest := []) hG hR dX12_put_38 (lkX12_68 _ rfl) okS_X12_in (m_in (d := 1)) rfl rfl hdd (Nat.le_refl _) (Nat.le_refl _) (by decide) (pm_ki (fun v7 σ' cnt' hq => ?_))
      obtain ⟨hq, rfl, rfl⟩ := hq
      rcases hq with ⟨rfl, ac8, bc8⟩ | ⟨rfl, c8⟩
      · obtain ⟨k9, hk9, ek9⟩ := in_cnt (c := k6) (by omega) ac8 bc8
        refine pm_ifN_ne (tgt := 50) hG dX12_put_41 rfl (by omega) (fun _ => ?_) (fun q => absurd q (by omega))
        refine pm_aloadn hG dX12_put_50 rfl ?_
        refine pm_getf hG dX12_put_51 (flX12_61 _ rfl) rfl rfl ?_
        refine pm_bipush (v := nI 24) hG dX12_put_54 (by decide) ?_
        refine pm_iloadn hG dX12_put_56 rfl ?_
        refine pm_top (v := nI k3) ek3 ?_
        refine pm_imulN (c := 24 * k3) hG dX12_put_57 (by omega) ?_
        refine pm_iloadn hG dX12_put_58 rfl ?_
        refine pm_top (v := nI k9) ek9 ?_
        refine pm_iaddN (c := 24 * k3 + k9) hG dX12_put_59 (by omega) ?_
        refine pm_aloadn hG dX12_put_60 rfl ?_
        refine pm_getf hG dX12_put_61 (flX12_55 _ rfl) rfl rfl ?_
        refine pm_iloadn hG dX12_put_64 rfl ?_
        refine pm_top (v := nI k3) ek3 ?_
        refine pm_ialdN hG dX12_put_65 rfl (by decide) (by omega) ?_
        refine pm_any (fun x10 => ?_)
        refine pm_bipush (v := nI 8) hG dX12_put_66 (by decide) ?_
        refine pm_icmp_ne (tgt := 76) hG dX12_put_68 rfl (fun c11 => ?_) (fun c11 => ?_)
        · refine pm_aloadn hG dX12_put_76 rfl ?_
          refine pm_getf hG dX12_put_77 (flX12_55 _ rfl) rfl rfl ?_
          refine pm_iloadn hG dX12_put_80 rfl ?_
          refine pm_top (v := nI k3) ek3 ?_
          refine pm_ialdN hG dX12_put_81 rfl (by decide) (by omega) ?_
          refine pm_any (fun x12 => ?_)
          refine pm_bipush (v := nI 16) hG dX12_put_82 (by decide) ?_
          refine pm_icmp_ne (tgt := 92) hG dX12_put_84 rfl (fun c13 => ?_) (fun c13 => ?_)
          · refine pm_iloadn hG dX12_put_92 rfl ?_
            refine pm_iastN hG dX12_put_93 rfl (by decide) (by omega) ?_
            refine mdn_sheets (fun A_14 => ?_)
            refine pm_iconst (v := nI 1) hG dX12_put_94 (by decide) ?_
            exact pm_iret hG hF dX12_put_95 rfl (Nat.le_refl _) (Nat.le_refl _) ⟨_, rfl, ⟨_, _, rfl⟩, rfl⟩
          · refine pm_iloadn hG dX12_put_87 rfl ?_
            refine pm_i2s hG dX12_put_88 rfl ?_
            refine pm_any (fun x15 => ?_)
            refine pm_goto (tgt := 93) hG dX12_put_89 rfl ?_
            refine pm_iastN hG dX12_put_93 rfl (by decide) (by omega) ?_
            refine mdn_sheets (fun A_16 => ?_)
            refine pm_iconst (v := nI 1) hG dX12_put_94 (by decide) ?_
            exact pm_iret hG hF dX12_put_95 rfl (Nat.le_refl _) (Nat.le_refl _) ⟨_, rfl, ⟨_, _, rfl⟩, rfl⟩
        · refine pm_iloadn hG dX12_put_71 rfl ?_
          refine pm_i2b hG dX12_put_72 rfl ?_
          refine pm_any (fun x17 => ?_)
          refine pm_goto (tgt := 93) hG dX12_put_73 rfl ?_
          refine pm_iastN hG dX12_put_93 rfl (by decide) (by omega) ?_
          refine mdn_sheets (fun A_18 => ?_)
          refine pm_iconst (v := nI 1) hG dX12_put_94 (by decide) ?_
          exact pm_iret hG hF dX12_put_95 rfl (Nat.le_refl _) (Nat.le_refl _) ⟨_, rfl, ⟨_, _, rfl⟩, rfl⟩
      · refine pm_ifN_ne (tgt := 50) hG dX12_put_41 rfl (by omega) (fun q => absurd q (by omega)) (fun _ => ?_)
        refine pm_aloadn hG dX12_put_44 rfl ?_
        refine pm_iconst (v := nI 1) hG dX12_put_45 (by decide) ?_
        refine pm_callV (As := [.int (nI 1)]) (rest := []) hG hR dX12_put_46 (lkX12_80 _ rfl) okV_X12_finds rfl rfl (m_finds (d := 1) (by decide) hn hz (by omega)) rfl rfl hdd (Nat.le_refl _) (Nat.le_refl _) (by decide) (pm_ki (fun v19 σ' cnt' hq => ?_))
        obtain ⟨⟨I20, A20, rfl⟩, rfl, fv19⟩ := hq
        exact pm_iret hG hF dX12_put_49 rfl (Nat.le_refl _) (Nat.le_refl _) ⟨_, rfl, ⟨_, _, rfl⟩, rfl⟩
    · refine pm_aloadn hG dX12_put_22 rfl ?_
      refine pm_iconst (v := nI 2) hG dX12_put_23 (by decide) ?_
      refine pm_callV (As := [.int (nI 2)]) (rest := []) hG hR dX12_put_24 (lkX12_80 _ rfl) okV_X12_finds rfl rfl (m_finds (d := 1) (by decide) hn hz (by omega)) rfl rfl hdd (Nat.le_refl _) (Nat.le_refl _) (by decide) (pm_ki (fun v21 σ' cnt' hq => ?_))
      obtain ⟨⟨I22, A22, rfl⟩, rfl, fv21⟩ := hq
      exact pm_iret hG hF dX12_put_27 rfl (Nat.le_refl _) (Nat.le_refl _) ⟨_, rfl, ⟨_, _, rfl⟩, rfl⟩
  · refine pm_ifN_ne (tgt := 13) hG dX12_put_4 rfl (by omega) (fun q => absurd q (by omega)) (fun _ => ?_)
    refine pm_aloadn hG dX12_put_7 rfl ?_
    refine pm_iconst (v := nI 1) hG dX12_put_8 (by decide) ?_
    refine pm_callV (As := [.int (nI 1)]) (rest := []) hG hR dX12_put_9 (lkX12_80 _ rfl) okV_X12_finds rfl rfl (m_finds (d := 1) (by decide) hn hz (by omega)) rfl rfl hdd (Nat.le_refl _) (Nat.le_refl _) (by decide) (pm_ki (fun v23 σ' cnt' hq => ?_))
    obtain ⟨⟨I24, A24, rfl⟩, rfl, fv23⟩ := hq
    exact pm_iret hG hF dX12_put_12 rfl (Nat.le_refl _) (Nat.le_refl _) ⟨_, rfl, ⟨_, _, rfl⟩, rfl⟩

set_option maxRecDepth 100000 in
set_option maxHeartbeats 4000000 in
theorem m_ranksPower {d B cnt p0 t0 : Nat} {σ : pm_S} {I : Nat → Int32} {A : Nat → Nat → Int32} {n k z : Nat → Int32} {ac wt pl im : Int32} {zb : Int32} {ba : Nat} (hdd : 2 ≤ d) (hn : KI n) (hz : SZ z) (ht0 : t0 ≤ 40) (hba : ba < 20) : pm_met mX12_ranksPower d 0 0 B [.ref (B + 54), .int (nI ba), .int zb] cnt (pm_mid σ (md_L B I A n k z ac wt pl (nI p0) (nI t0) im)) (pm_Qi (fun v σ' cnt' => (∃ (I' : Nat → Int32) (A' : Nat → Nat → Int32) (t0' : Nat), σ' = pm_mid σ (md_L B I' A' n k z ac wt pl (nI p0) (nI t0') im) ∧ t0' ≤ 40) ∧ cnt = cnt')) := by
  refine pm_enter 0 (by decide) (Nat.le_of_ble_eq_true rfl) rfl (fun G hG hR hF => ?_)
  refine pm_aloadn hG dX12_ranksPower_0 rfl ?_
  refine pm_bipush (v := nI 12) hG dX12_ranksPower_1 (by decide) ?_
  refine pm_callV (As := [.int (nI 12)]) (rest := []) hG hR dX12_ranksPower_3 (lkX12_286 _ rfl) okV_X12_ran rfl rfl (m_ran (d := 1) (by decide) hn hz (by omega)) rfl rfl hdd (Nat.le_refl _) (Nat.le_refl _) (by decide) (pm_kv (fun σ' cnt' hq => ?_))
  obtain ⟨⟨I2, A2, t2, rfl, ht2⟩, rfl⟩ := hq
  refine pm_iloadn hG dX12_ranksPower_6 rfl ?_
  refine pm_iloadn hG dX12_ranksPower_7 rfl ?_
  refine pm_isub hG dX12_ranksPower_8 ?_
  exact pm_iret hG hF dX12_ranksPower_9 rfl (Nat.le_refl _) (Nat.le_refl _) ⟨_, rfl, ⟨_, _, _, rfl, by omega⟩, rfl⟩

set_option maxRecDepth 100000 in
set_option maxHeartbeats 4000000 in
theorem m_ranksOf {d B cnt p0 t0 : Nat} {σ : pm_S} {I : Nat → Int32} {A : Nat → Nat → Int32} {n k z : Nat → Int32} {ac wt pl im : Int32} {zb : Int32} {ba : Nat} (hdd : 3 ≤ d) (hn : KI n) (hz : SZ z) (ht0 : t0 ≤ 40) (hba : ba < 20) : pm_met mX12_ranksOf d 0 0 B [.ref (B + 54), .int (nI ba), .int zb] cnt (pm_mid σ (md_L B I A n k z ac wt pl (nI p0) (nI t0) im)) (pm_Qi (fun v σ' cnt' => (∃ (I' : Nat → Int32) (A' : Nat → Nat → Int32) (t0' : Nat), σ' = pm_mid σ (md_L B I' A' n k z ac wt pl (nI p0) (nI t0') im) ∧ t0' ≤ 40) ∧ cnt = cnt')) := by
  refine pm_enter 0 (by decide) (Nat.le_of_ble_eq_true rfl) rfl (fun G hG hR hF => ?_)
  refine pm_aloadn hG dX12_ranksOf_0 rfl ?_
  refine pm_iloadn hG dX12_ranksOf_1 rfl ?_
  refine pm_iconst (v := nI 0) hG dX12_ranksOf_2 (by decide) ?_
  refine pm_callV (As := [.int (nI ba), .int (nI 0)]) (rest := []) hG hR dX12_ranksOf_3 (lkX12_110 _ rfl) okV_X12_its rfl rfl (m_its (d := 2) (e := 6 * ba + 390) (by omega) (by omega) (by omega)) rfl rfl hdd (Nat.le_refl _) (Nat.le_refl _) (by decide) (pm_ki (fun v1 σ' cnt' hq => ?_))
  obtain ⟨rfl, rfl, rfl⟩ := hq
  refine pm_gen (fun x2 ex2 => ?_)
  refine pm_iconst (v := nI 2) hG dX12_ranksOf_6 (by decide) ?_
  refine pm_icmp_eq (tgt := 17) hG dX12_ranksOf_7 rfl (fun c3 => ?_) (fun c3 => ?_)
  · refine pm_aloadn hG dX12_ranksOf_17 rfl ?_
    refine pm_bipush (v := nI 30) hG dX12_ranksOf_18 (by decide) ?_
    refine pm_callV (As := [.int (nI 30)]) (rest := []) hG hR dX12_ranksOf_20 (lkX12_286 _ rfl) okV_X12_ran rfl rfl (m_ran (d := 2) (by decide) hn hz (by omega)) rfl rfl hdd (Nat.le_refl _) (Nat.le_refl _) (by decide) (pm_kv (fun σ' cnt' hq => ?_))
    obtain ⟨⟨I5, A5, t5, rfl, ht5⟩, rfl⟩ := hq
    refine pm_aloadn hG dX12_ranksOf_23 rfl ?_
    refine pm_iloadn hG dX12_ranksOf_24 rfl ?_
    refine pm_iloadn hG dX12_ranksOf_25 rfl ?_
    refine pm_callV (As := [.int (nI ba), .int zb]) (rest := []) hG hR dX12_ranksOf_26 (lkX12_301 _ rfl) okV_X12_ranksPower rfl rfl (m_ranksPower (d := 2) (by decide) hn hz (by omega) (by omega)) rfl rfl hdd (Nat.le_refl _) (Nat.le_refl _) (by decide) (pm_ki (fun v6 σ' cnt' hq => ?_))
    obtain ⟨⟨I7, A7, t7, rfl, ht7⟩, rfl⟩ := hq
    refine pm_iconst (v := nI 3) hG dX12_ranksOf_29 (by decide) ?_
    refine pm_imul hG dX12_ranksOf_30 ?_
    exact pm_iret hG hF dX12_ranksOf_31 rfl (Nat.le_refl _) (Nat.le_refl _) ⟨_, rfl, ⟨_, _, _, rfl, by omega⟩, rfl⟩
  · refine pm_aloadn hG dX12_ranksOf_10 rfl ?_
    refine pm_iloadn hG dX12_ranksOf_11 rfl ?_
    refine pm_iloadn hG dX12_ranksOf_12 rfl ?_
    refine pm_callV (As := [.int (nI ba), .int zb]) (rest := []) hG hR dX12_ranksOf_13 (lkX12_301 _ rfl) okV_X12_ranksPower rfl rfl (m_ranksPower (d := 2) (by decide) hn hz (by omega) (by omega)) rfl rfl hdd (Nat.le_refl _) (Nat.le_refl _) (by decide) (pm_ki (fun v8 σ' cnt' hq => ?_))
    obtain ⟨⟨I9, A9, t9, rfl, ht9⟩, rfl⟩ := hq
    exact pm_iret hG hF dX12_ranksOf_16 rfl (Nat.le_refl _) (Nat.le_refl _) ⟨_, rfl, ⟨_, _, _, rfl, by omega⟩, rfl⟩

set_option maxRecDepth 100000 in
set_option maxHeartbeats 4000000 in
theorem m_rent {d B cnt p0 t0 : Nat} {σ : pm_S} {I : Nat → Int32} {A : Nat → Nat → Int32} {n k z : Nat → Int32} {ac wt pl im : Int32} {za zb : Int32} (hdd : 2 ≤ d) (hn : KI n) (hr : NR n) (hz : SZ z)  : pm_met mX12_rent d 0 0 B [.ref (B + 54), .int za, .int zb] cnt (pm_mid σ (md_L B I A n k z ac wt pl (nI p0) (nI t0) im)) (pm_Qi (fun v σ' cnt' => (∃ (I' : Nat → Int32) (A' : Nat → Nat → Int32) (n' : Nat → Int32), σ' = pm_mid σ (md_L B I' A' n' k z ac wt pl (nI p0) (nI t0) im) ∧ KI n' ∧ NR n' ∧ KS n' n) ∧ cnt = cnt')) := by
  refine pm_enter 1 (by decide) (Nat.le_of_ble_eq_true rfl) rfl (fun G hG hR hF => ?_)
  refine pm_aloadn hG dX12_rent_0 rfl ?_
  refine pm_iloadn hG dX12_rent_1 rfl ?_
  obtain ⟨k1, hk1, ek1⟩ := KI.nat hn (show kd 0 = (1, 11, true) by decide)
  refine pm_callV (As := [.int za]) (rest := []) hG hR dX12_rent_2 (lkX12_84 _ rfl) okV_X12_isTown rfl rfl (m_isTown (d := 1) (by decide) ek1 (by omega)) rfl rfl hdd (Nat.le_refl _) (Nat.le_refl _) (by decide) (pm_ki (fun v2 σ' cnt' hq => ?_))
  obtain ⟨hq, rfl, rfl⟩ := hq
  rcases hq with ⟨rfl, k4, hk4, ek4⟩ | rfl
  · refine pm_ifN_eq (tgt := 19) hG dX12_rent_5 rfl (by omega) (fun q => absurd q (by omega)) (fun _ => ?_)
    refine pm_iloadn hG dX12_rent_8 rfl ?_
    refine pm_iconst (v := nI 0) hG dX12_rent_9 (by decide) ?_
    refine pm_sipush (v := nI 999) hG dX12_rent_10 (by decide) ?_
    refine pm_callS (As := [.int zb, .int (nI 0), .int (nI 999)]) (rest := []) hG hR dX12_rent_13 (lkX12_68 _ rfl) okS_X12_in (m_in (d := 1)) rfl rfl hdd (Nat.le_refl _) (Nat.le_refl _) (by decide) (pm_ki (fun v5 σ' cnt' hq => ?_))
    obtain ⟨hq, rfl, rfl⟩ := hq
    rcases hq with ⟨rfl, ac6, bc6⟩ | ⟨rfl, c6⟩
    · obtain ⟨k7, hk7, ek7⟩ := in_nat (by omega) (by omega) ac6 bc6
      refine pm_ifN_ne (tgt := 25) hG dX12_rent_16 rfl (by omega) (fun _ => ?_) (fun q => absurd q (by omega))
      refine pm_aloadn hG dX12_rent_25 rfl ?_
      refine pm_getf hG dX12_rent_26 (flX12_7 _ rfl) rfl rfl ?_
      refine pm_bipush (v := nI 20) hG dX12_rent_29 (by decide) ?_
      refine pm_iconst (v := nI 3) hG dX12_rent_31 (by decide) ?_
      refine pm_iloadn hG dX12_rent_32 rfl ?_
      refine pm_top (v := nI k4) ek4 ?_
      refine pm_imulN (c := 3 * k4) hG dX12_rent_33 (by omega) ?_
      refine pm_iaddN (c := 3 * k4 + 20) hG dX12_rent_34 (by omega) ?_
      refine pm_ialdN hG dX12_rent_35 rfl (by decide) (by omega) ?_
      refine pm_gen (fun x8 ex8 => ?_)
      refine pm_istoreXn (loc' := [some (.ref (B + 54)), some (.int za), some (.int zb), some (.int x8)]) hG dX12_rent_36 (by decide) (pm_c1b rfl) rfl ?_
      refine pm_aloadn hG dX12_rent_37 rfl ?_
      refine pm_getf hG dX12_rent_38 (flX12_7 _ rfl) rfl rfl ?_
      refine pm_bipush (v := nI 20) hG dX12_rent_41 (by decide) ?_
      refine pm_iconst (v := nI 3) hG dX12_rent_43 (by decide) ?_
      refine pm_iloadn hG dX12_rent_44 rfl ?_
      refine pm_top (v := nI k4) ek4 ?_
      refine pm_imulN (c := 3 * k4) hG dX12_rent_45 (by omega) ?_
      refine pm_iaddN (c := 3 * k4 + 20) hG dX12_rent_46 (by omega) ?_
      refine pm_iloadn hG dX12_rent_47 rfl ?_
      refine pm_top (v := nI k7) ek7 ?_
      refine pm_iastN hG dX12_rent_48 rfl (by decide) (by omega) ?_
      refine mdn_now (fun n_9 en_9 => ?_)
      have hnn_9 := KI.w en_9 hn (okv_f (show kd (3 * k4 + 20) = (0, 0, false) from (kd_T (k := k4) (c := 0) (by omega) (by omega) (by decide))))
      have hrn_9 := NRx.w en_9 hr (by rw [(show kd (3 * k4 + 20) = (0, 0, false) from (kd_T (k := k4) (c := 0) (by omega) (by omega) (by decide)))])
      have ksn_9 := KS.w en_9 KS.rf (by unfold tS; omega)
      have e10 : n_9 0 = nI k1 := by rw [en_9, pk_un (by omega)]; exact ek1
      have e11 : n_9 (3 * k4 + 20) = nI k7 := by rw [en_9, pk_us]
      refine pm_iloadn hG dX12_rent_49 rfl ?_
      exact pm_iret hG hF dX12_rent_50 rfl (Nat.le_refl _) (Nat.le_refl _) ⟨_, rfl, ⟨_, _, _, rfl, hnn_9, hrn_9, ksn_9⟩, rfl⟩
    · refine pm_ifN_ne (tgt := 25) hG dX12_rent_16 rfl (by omega) (fun q => absurd q (by omega)) (fun _ => ?_)
      refine pm_aloadn hG dX12_rent_19 rfl ?_
      refine pm_iconst (v := nI 1) hG dX12_rent_20 (by decide) ?_
      refine pm_callV (As := [.int (nI 1)]) (rest := []) hG hR dX12_rent_21 (lkX12_80 _ rfl) okV_X12_finds rfl rfl (m_finds (d := 1) (by decide) hn hz (by omega)) rfl rfl hdd (Nat.le_refl _) (Nat.le_refl _) (by decide) (pm_ki (fun v12 σ' cnt' hq => ?_))
      obtain ⟨⟨I13, A13, rfl⟩, rfl, fv12⟩ := hq
      exact pm_iret hG hF dX12_rent_24 rfl (Nat.le_refl _) (Nat.le_refl _) ⟨_, rfl, ⟨_, _, _, rfl, hn, hr, KS.rf⟩, rfl⟩
  · refine pm_ifN_eq (tgt := 19) hG dX12_rent_5 rfl (by omega) (fun _ => ?_) (fun q => absurd q (by omega))
    refine pm_aloadn hG dX12_rent_19 rfl ?_
    refine pm_iconst (v := nI 1) hG dX12_rent_20 (by decide) ?_
    refine pm_callV (As := [.int (nI 1)]) (rest := []) hG hR dX12_rent_21 (lkX12_80 _ rfl) okV_X12_finds rfl rfl (m_finds (d := 1) (by decide) hn hz (by omega)) rfl rfl hdd (Nat.le_refl _) (Nat.le_refl _) (by decide) (pm_ki (fun v14 σ' cnt' hq => ?_))
    obtain ⟨⟨I15, A15, rfl⟩, rfl, fv14⟩ := hq
    exact pm_iret hG hF dX12_rent_24 rfl (Nat.le_refl _) (Nat.le_refl _) ⟨_, rfl, ⟨_, _, _, rfl, hn, hr, KS.rf⟩, rfl⟩

set_option maxRecDepth 100000 in
set_option maxHeartbeats 4000000 in
theorem m_rents {d B cnt p0 t0 : Nat} {σ : pm_S} {I : Nat → Int32} {A : Nat → Nat → Int32} {n k z : Nat → Int32} {ac wt pl im : Int32} {za zb : Int32} (hdd : 2 ≤ d) (hn : KI n) (hr : NR n) (hz : SZ z)  : pm_met mX12_rents d 0 0 B [.ref (B + 54), .int za, .int zb] cnt (pm_mid σ (md_L B I A n k z ac wt pl (nI p0) (nI t0) im)) (pm_Qi (fun v σ' cnt' => (∃ (I' : Nat → Int32) (A' : Nat → Nat → Int32) (n' : Nat → Int32), σ' = pm_mid σ (md_L B I' A' n' k z ac wt pl (nI p0) (nI t0) im) ∧ KI n' ∧ NR n' ∧ KS n' n) ∧ cnt = cnt')) := by
  refine pm_enter 2 (by decide) (Nat.le_of_ble_eq_true rfl) rfl (fun G hG hR hF => ?_)
  refine pm_iloadn hG dX12_rents_0 rfl ?_
  refine pm_callS (As := [.int za]) (rest := []) hG hR dX12_rents_1 (lkX12_239 _ rfl) okS_X12_isSheet (m_isSheet (d := 1) (by decide)) rfl rfl hdd (Nat.le_refl _) (Nat.le_refl _) (by decide) (pm_ki (fun v1 σ' cnt' hq => ?_))
  obtain ⟨hq, rfl, rfl⟩ := hq
  rcases hq with ⟨rfl, ac2, bc2⟩ | ⟨rfl, c2⟩
  · obtain ⟨k3, hk3, ek3⟩ := in_nat (by omega) (by omega) ac2 bc2
    refine pm_ifN_eq (tgt := 25) hG dX12_rents_4 rfl (by omega) (fun q => absurd q (by omega)) (fun _ => ?_)
    refine pm_iloadn hG dX12_rents_7 rfl ?_
    refine pm_bipush (v := nI 8) hG dX12_rents_8 (by decide) ?_
    refine pm_icmp_eq (tgt := 31) hG dX12_rents_10 rfl (fun c4 => ?_) (fun c4 => ?_)
    · refine pm_aloadn hG dX12_rents_31 rfl ?_
      refine pm_getf hG dX12_rents_32 (flX12_55 _ rfl) rfl rfl ?_
      refine pm_iloadn hG dX12_rents_35 rfl ?_
      refine pm_top (v := nI k3) ek3 ?_
      refine pm_ialdN hG dX12_rents_36 rfl (by decide) (by omega) ?_
      refine pm_any (fun x5 => ?_)
      refine pm_if_ne (tgt := 46) hG dX12_rents_37 rfl (fun c6 => ?_) (fun c6 => ?_)
      · refine pm_aloadn hG dX12_rents_46 rfl ?_
        refine pm_getf hG dX12_rents_47 (flX12_55 _ rfl) rfl rfl ?_
        refine pm_iloadn hG dX12_rents_50 rfl ?_
        refine pm_top (v := nI k3) ek3 ?_
        refine pm_ialdN hG dX12_rents_51 rfl (by decide) (by omega) ?_
        refine pm_any (fun x7 => ?_)
        refine pm_iloadn hG dX12_rents_52 rfl ?_
        refine pm_top (v := nI 8) c4 ?_
        refine pm_icmp_eq (tgt := 62) hG dX12_rents_53 rfl (fun c8 => ?_) (fun c8 => ?_)
        · refine pm_aloadn hG dX12_rents_62 rfl ?_
          refine pm_getf hG dX12_rents_63 (flX12_58 _ rfl) rfl rfl ?_
          refine pm_iloadn hG dX12_rents_66 rfl ?_
          refine pm_top (v := nI k3) ek3 ?_
          refine pm_ialdN hG dX12_rents_67 rfl (by decide) (by omega) ?_
          obtain ⟨k9, hk9, ek9⟩ := hz k3 (by omega)
          refine pm_top (v := nI k9) ek9 ?_
          refine pm_aloadn hG dX12_rents_68 rfl ?_
          refine pm_getf hG dX12_rents_69 (flX12_7 _ rfl) rfl rfl ?_
          refine pm_iconst (v := nI 0) hG dX12_rents_72 (by decide) ?_
          refine pm_ialdN hG dX12_rents_73 rfl (by decide) (by omega) ?_
          obtain ⟨k10, hk10, ek10⟩ := KI.nat hn (show kd 0 = (1, 11, true) by decide)
          refine pm_top (v := nI k10) ek10 ?_
          refine pm_icmpN_le (tgt := 83) hG dX12_rents_74 rfl (by omega) (by omega) (fun c11 => ?_) (fun c11 => ?_)
          · refine pm_iconst (v := nI 0) hG dX12_rents_83 (by decide) ?_
            refine pm_istoreXn (loc' := [some (.ref (B + 54)), some (.int za), some (.int zb), some (.int (nI 0)), none]) hG dX12_rents_84 (by decide) (pm_c1b rfl) rfl ?_
            have loop85_12 : ∀ (m12 : Nat) (I12 : Nat → Int32) (A12 : Nat → Nat → Int32) (n_12 : Nat → Int32) (i12 : Nat), KI n_12 → KS n_12 n → NRx 40 n_12 → i12 ≤ 24 → 24 - i12 < m12 → pm_wp mX12_rents G B 85 [some (.ref (B + 54)), some (.int za), some (.int zb), some (.int (nI i12)), none] [] 0 0 cnt (pm_mid σ (md_L B I12 A12 n_12 k z ac wt pl (nI p0) (nI t0) im)) := by
              intro m12
              induction m12 with
              | zero => intro I12 A12 n_12 i12 _ _ _ _ hm; exact absurd hm (Nat.not_lt_zero _)
              | succ m12 ih12 =>
                intro I12 A12 n_12 i12 hnn_12 ksn_12 hrn_12 hi12 hm12
                refine pm_iloadn hG dX12_rents_85 rfl ?_
                refine pm_aloadn hG dX12_rents_86 rfl ?_
                refine pm_getf hG dX12_rents_87 (flX12_58 _ rfl) rfl rfl ?_
                refine pm_iloadn hG dX12_rents_90 rfl ?_
                refine pm_top (v := nI k3) ek3 ?_
                refine pm_ialdN hG dX12_rents_91 rfl (by decide) (by omega) ?_
                refine pm_top (v := nI k9) ek9 ?_
                refine pm_icmpN_ge (tgt := 128) hG dX12_rents_92 rfl (by omega) (by omega) (fun c13 => ?_) (fun c13 => ?_)
                · refine pm_iconst (v := nI 0) hG dX12_rents_128 (by decide) ?_
                  refine pm_istoreXn (loc' := [some (.ref (B + 54)), some (.int za), some (.int zb), some (.int (nI 0)), none]) hG dX12_rents_129 (by decide) (pm_c1b rfl) rfl ?_
                  refine pm_iconst (v := nI 0) hG dX12_rents_130 (by decide) ?_
                  refine pm_istoreXi (loc' := [some (.ref (B + 54)), some (.int za), some (.int zb), some (.int (nI 0)), some (.int (nI 0))]) hG dX12_rents_131 (by decide) (pm_c1b rfl) rfl ?_
                  have loop133_14 : ∀ (m14 : Nat) (I14 : Nat → Int32) (A14 : Nat → Nat → Int32) (n_14 : Nat → Int32) (x14_3 : Int32) (i14 : Nat), KI n_14 → KS n_14 n → NRx 40 n_14 → i14 ≤ 24 → 24 - i14 < m14 → pm_wp mX12_rents G B 133 [some (.ref (B + 54)), some (.int za), some (.int zb), some (.int x14_3), some (.int (nI i14))] [] 0 0 cnt (pm_mid σ (md_L B I14 A14 n_14 k z ac wt pl (nI p0) (nI t0) im)) := by
                    intro m14
                    induction m14 with
                    | zero => intro I14 A14 n_14 x14_3 i14 _ _ _ _ hm; exact absurd hm (Nat.not_lt_zero _)
                    | succ m14 ih14 =>
                      intro I14 A14 n_14 x14_3 i14 hnn_14 ksn_14 hrn_14 hi14 hm14
                      refine pm_iloadi hG dX12_rents_133 rfl ?_
                      refine pm_aloadn hG dX12_rents_135 rfl ?_
                      refine pm_getf hG dX12_rents_136 (flX12_58 _ rfl) rfl rfl ?_
                      refine pm_iloadn hG dX12_rents_139 rfl ?_
                      refine pm_top (v := nI k3) ek3 ?_
                      refine pm_ialdN hG dX12_rents_140 rfl (by decide) (by omega) ?_
                      refine pm_top (v := nI k9) ek9 ?_
                      refine pm_icmpN_ge (tgt := 195) hG dX12_rents_141 rfl (by omega) (by omega) (fun c15 => ?_) (fun c15 => ?_)
                      · refine pm_iloadn hG dX12_rents_195 rfl ?_
                        exact pm_iret hG hF dX12_rents_196 rfl (Nat.le_refl _) (Nat.le_refl _) ⟨_, rfl, ⟨_, _, _, rfl, hnn_14, hrn_14, ksn_14⟩, rfl⟩
                      · refine pm_aloadn hG dX12_rents_144 rfl ?_
                        refine pm_getf hG dX12_rents_145 (flX12_61 _ rfl) rfl rfl ?_
                        refine pm_bipush (v := nI 24) hG dX12_rents_148 (by decide) ?_
                        refine pm_iloadn hG dX12_rents_150 rfl ?_
                        refine pm_top (v := nI k3) ek3 ?_
                        refine pm_imulN (c := 24 * k3) hG dX12_rents_151 (by omega) ?_
                        refine pm_iloadi hG dX12_rents_152 rfl ?_
                        refine pm_iaddN (c := i14 + 24 * k3) hG dX12_rents_154 (by omega) ?_
                        refine pm_ialdN hG dX12_rents_155 rfl (by decide) (by omega) ?_
                        refine pm_any (fun x16 => ?_)
                        refine pm_if_ge (tgt := 162) hG dX12_rents_156 rfl (fun c17 => ?_) (fun c17 => ?_)
                        · obtain ⟨k18, hk18, ek18⟩ := nI_of (Int32.not_lt.mpr c17)
                          refine pm_aloadn hG dX12_rents_162 rfl ?_
                          refine pm_getf hG dX12_rents_163 (flX12_7 _ rfl) rfl rfl ?_
                          refine pm_bipush (v := nI 20) hG dX12_rents_166 (by decide) ?_
                          refine pm_iconst (v := nI 3) hG dX12_rents_168 (by decide) ?_
                          refine pm_iloadi hG dX12_rents_169 rfl ?_
                          refine pm_imulN (c := 3 * i14) hG dX12_rents_171 (by omega) ?_
                          refine pm_iaddN (c := 3 * i14 + 20) hG dX12_rents_172 (by omega) ?_
                          refine pm_aloadn hG dX12_rents_173 rfl ?_
                          refine pm_getf hG dX12_rents_174 (flX12_61 _ rfl) rfl rfl ?_
                          refine pm_bipush (v := nI 24) hG dX12_rents_177 (by decide) ?_
                          refine pm_iloadn hG dX12_rents_179 rfl ?_
                          refine pm_top (v := nI k3) ek3 ?_
                          refine pm_imulN (c := 24 * k3) hG dX12_rents_180 (by omega) ?_
                          refine pm_iloadi hG dX12_rents_181 rfl ?_
                          refine pm_iaddN (c := i14 + 24 * k3) hG dX12_rents_183 (by omega) ?_
                          refine pm_ialdN hG dX12_rents_184 rfl (by decide) (by omega) ?_
                          refine pm_any (fun x19 => ?_)
                          refine pm_iastN hG dX12_rents_185 rfl (by decide) (by omega) ?_
                          refine mdn_now (fun n_20 en_20 => ?_)
                          have hnn_20 := KI.w en_20 hnn_14 (okv_f (show kd (3 * i14 + 20) = (0, 0, false) from (kd_T (k := i14) (c := 0) (by omega) (by omega) (by decide))))
                          have hrn_20 := NRx.w en_20 hrn_14 (by rw [(show kd (3 * i14 + 20) = (0, 0, false) from (kd_T (k := i14) (c := 0) (by omega) (by omega) (by decide)))])
                          have ksn_20 := KS.w en_20 ksn_14 (by unfold tS; omega)
                          have e21 : n_20 (3 * i14 + 20) = x19 := by rw [en_20, pk_us]
                          refine pm_iincX (v := x14_3 + 1) (loc' := [some (.ref (B + 54)), some (.int za), some (.int zb), some (.int (x14_3 + 1)), some (.int (nI i14))]) hG dX12_rents_186 rfl (by rfl) (by decide) (pm_c1b rfl) rfl ?_
                          refine pm_iincX (v := nI (i14 + 1)) (loc' := [some (.ref (B + 54)), some (.int za), some (.int zb), some (.int (x14_3 + 1)), some (.int (nI (i14 + 1)))]) hG dX12_rents_189 rfl (nI_1 _) (by decide) (pm_c1b rfl) rfl ?_
                          refine pm_goto (tgt := 133) hG dX12_rents_192 rfl ?_
                          exact ih14 I14 A14 n_20 (x14_3 + 1) (i14 + 1) hnn_20 ksn_20 hrn_20 (by omega) (by omega)
                        · refine pm_goto (tgt := 189) hG dX12_rents_159 rfl ?_
                          refine pm_iincX (v := nI (i14 + 1)) (loc' := [some (.ref (B + 54)), some (.int za), some (.int zb), some (.int x14_3), some (.int (nI (i14 + 1)))]) hG dX12_rents_189 rfl (nI_1 _) (by decide) (pm_c1b rfl) rfl ?_
                          refine pm_goto (tgt := 133) hG dX12_rents_192 rfl ?_
                          exact ih14 I14 A14 n_14 x14_3 (i14 + 1) hnn_14 ksn_14 hrn_14 (by omega) (by omega)
                  exact loop133_14 _ I12 A12 n_12 (nI 0) 0 hnn_12 ksn_12 hrn_12 (by omega) (Nat.lt_succ_self _)
                · refine pm_aloadn hG dX12_rents_95 rfl ?_
                  refine pm_getf hG dX12_rents_96 (flX12_61 _ rfl) rfl rfl ?_
                  refine pm_bipush (v := nI 24) hG dX12_rents_99 (by decide) ?_
                  refine pm_iloadn hG dX12_rents_101 rfl ?_
                  refine pm_top (v := nI k3) ek3 ?_
                  refine pm_imulN (c := 24 * k3) hG dX12_rents_102 (by omega) ?_
                  refine pm_iloadn hG dX12_rents_103 rfl ?_
                  refine pm_iaddN (c := i12 + 24 * k3) hG dX12_rents_104 (by omega) ?_
                  refine pm_ialdN hG dX12_rents_105 rfl (by decide) (by omega) ?_
                  refine pm_any (fun x22 => ?_)
                  refine pm_iconst (v := (-1)) hG dX12_rents_106 (by decide) ?_
                  refine pm_sipush (v := nI 999) hG dX12_rents_107 (by decide) ?_
                  refine pm_callS (As := [.int x22, .int (-1), .int (nI 999)]) (rest := []) hG hR dX12_rents_110 (lkX12_68 _ rfl) okS_X12_in (m_in (d := 1)) rfl rfl hdd (Nat.le_refl _) (Nat.le_refl _) (by decide) (pm_ki (fun v23 σ' cnt' hq => ?_))
                  obtain ⟨hq, rfl, rfl⟩ := hq
                  rcases hq with ⟨rfl, ac24, bc24⟩ | ⟨rfl, c24⟩
                  · refine pm_ifN_ne (tgt := 122) hG dX12_rents_113 rfl (by omega) (fun _ => ?_) (fun q => absurd q (by omega))
                    refine pm_iincX (v := nI (i12 + 1)) (loc' := [some (.ref (B + 54)), some (.int za), some (.int zb), some (.int (nI (i12 + 1))), none]) hG dX12_rents_122 rfl (nI_1 _) (by decide) (pm_c1b rfl) rfl ?_
                    refine pm_goto (tgt := 85) hG dX12_rents_125 rfl ?_
                    exact ih12 I12 A12 n_12 (i12 + 1) hnn_12 ksn_12 hrn_12 (by omega) (by omega)
                  · refine pm_ifN_ne (tgt := 122) hG dX12_rents_113 rfl (by omega) (fun q => absurd q (by omega)) (fun _ => ?_)
                    refine pm_aloadn hG dX12_rents_116 rfl ?_
                    refine pm_iconst (v := nI 1) hG dX12_rents_117 (by decide) ?_
                    refine pm_callV (As := [.int (nI 1)]) (rest := []) hG hR dX12_rents_118 (lkX12_80 _ rfl) okV_X12_finds rfl rfl (m_finds (d := 1) (by decide) hnn_12 hz (by omega)) rfl rfl hdd (Nat.le_refl _) (Nat.le_refl _) (by decide) (pm_ki (fun v25 σ' cnt' hq => ?_))
                    obtain ⟨⟨I26, A26, rfl⟩, rfl, fv25⟩ := hq
                    exact pm_iret hG hF dX12_rents_121 rfl (Nat.le_refl _) (Nat.le_refl _) ⟨_, rfl, ⟨_, _, _, rfl, hnn_12, hrn_12, ksn_12⟩, rfl⟩
            exact loop85_12 _ I A n 0 hn KS.rf hr (by omega) (Nat.lt_succ_self _)
          · refine pm_aloadn hG dX12_rents_77 rfl ?_
            refine pm_iconst (v := nI 3) hG dX12_rents_78 (by decide) ?_
            refine pm_callV (As := [.int (nI 3)]) (rest := []) hG hR dX12_rents_79 (lkX12_80 _ rfl) okV_X12_finds rfl rfl (m_finds (d := 1) (by decide) hn hz (by omega)) rfl rfl hdd (Nat.le_refl _) (Nat.le_refl _) (by decide) (pm_ki (fun v27 σ' cnt' hq => ?_))
            obtain ⟨⟨I28, A28, rfl⟩, rfl, fv27⟩ := hq
            exact pm_iret hG hF dX12_rents_82 rfl (Nat.le_refl _) (Nat.le_refl _) ⟨_, rfl, ⟨_, _, _, rfl, hn, hr, KS.rf⟩, rfl⟩
        · refine pm_aloadn hG dX12_rents_56 rfl ?_
          refine pm_iconst (v := nI 5) hG dX12_rents_57 (by decide) ?_
          refine pm_callV (As := [.int (nI 5)]) (rest := []) hG hR dX12_rents_58 (lkX12_80 _ rfl) okV_X12_finds rfl rfl (m_finds (d := 1) (by decide) hn hz (by omega)) rfl rfl hdd (Nat.le_refl _) (Nat.le_refl _) (by decide) (pm_ki (fun v29 σ' cnt' hq => ?_))
          obtain ⟨⟨I30, A30, rfl⟩, rfl, fv29⟩ := hq
          exact pm_iret hG hF dX12_rents_61 rfl (Nat.le_refl _) (Nat.le_refl _) ⟨_, rfl, ⟨_, _, _, rfl, hn, hr, KS.rf⟩, rfl⟩
      · refine pm_aloadn hG dX12_rents_40 rfl ?_
        refine pm_iconst (v := nI 2) hG dX12_rents_41 (by decide) ?_
        refine pm_callV (As := [.int (nI 2)]) (rest := []) hG hR dX12_rents_42 (lkX12_80 _ rfl) okV_X12_finds rfl rfl (m_finds (d := 1) (by decide) hn hz (by omega)) rfl rfl hdd (Nat.le_refl _) (Nat.le_refl _) (by decide) (pm_ki (fun v31 σ' cnt' hq => ?_))
        obtain ⟨⟨I32, A32, rfl⟩, rfl, fv31⟩ := hq
        exact pm_iret hG hF dX12_rents_45 rfl (Nat.le_refl _) (Nat.le_refl _) ⟨_, rfl, ⟨_, _, _, rfl, hn, hr, KS.rf⟩, rfl⟩
    · refine pm_iloadn hG dX12_rents_13 rfl ?_
      refine pm_bipush (v := nI 16) hG dX12_rents_14 (by decide) ?_
      refine pm_icmp_eq (tgt := 31) hG dX12_rents_16 rfl (fun c33 => ?_) (fun c33 => ?_)
      · refine pm_aloadn hG dX12_rents_31 rfl ?_
        refine pm_getf hG dX12_rents_32 (flX12_55 _ rfl) rfl rfl ?_
        refine pm_iloadn hG dX12_rents_35 rfl ?_
        refine pm_top (v := nI k3) ek3 ?_
        refine pm_ialdN hG dX12_rents_36 rfl (by decide) (by omega) ?_
        refine pm_any (fun x34 => ?_)
        refine pm_if_ne (tgt := 46) hG dX12_rents_37 rfl (fun c35 => ?_) (fun c35 => ?_)
        · refine pm_aloadn hG dX12_rents_46 rfl ?_
          refine pm_getf hG dX12_rents_47 (flX12_55 _ rfl) rfl rfl ?_
          refine pm_iloadn hG dX12_rents_50 rfl ?_
          refine pm_top (v := nI k3) ek3 ?_
          refine pm_ialdN hG dX12_rents_51 rfl (by decide) (by omega) ?_
          refine pm_any (fun x36 => ?_)
          refine pm_iloadn hG dX12_rents_52 rfl ?_
          refine pm_top (v := nI 16) c33 ?_
          refine pm_icmp_eq (tgt := 62) hG dX12_rents_53 rfl (fun c37 => ?_) (fun c37 => ?_)
          · refine pm_aloadn hG dX12_rents_62 rfl ?_
            refine pm_getf hG dX12_rents_63 (flX12_58 _ rfl) rfl rfl ?_
            refine pm_iloadn hG dX12_rents_66 rfl ?_
            refine pm_top (v := nI k3) ek3 ?_
            refine pm_ialdN hG dX12_rents_67 rfl (by decide) (by omega) ?_
            obtain ⟨k38, hk38, ek38⟩ := hz k3 (by omega)
            refine pm_top (v := nI k38) ek38 ?_
            refine pm_aloadn hG dX12_rents_68 rfl ?_
            refine pm_getf hG dX12_rents_69 (flX12_7 _ rfl) rfl rfl ?_
            refine pm_iconst (v := nI 0) hG dX12_rents_72 (by decide) ?_
            refine pm_ialdN hG dX12_rents_73 rfl (by decide) (by omega) ?_
            obtain ⟨k39, hk39, ek39⟩ := KI.nat hn (show kd 0 = (1, 11, true) by decide)
            refine pm_top (v := nI k39) ek39 ?_
            refine pm_icmpN_le (tgt := 83) hG dX12_rents_74 rfl (by omega) (by omega) (fun c40 => ?_) (fun c40 => ?_)
            · refine pm_iconst (v := nI 0) hG dX12_rents_83 (by decide) ?_
              refine pm_istoreXn (loc' := [some (.ref (B + 54)), some (.int za), some (.int zb), some (.int (nI 0)), none]) hG dX12_rents_84 (by decide) (pm_c1b rfl) rfl ?_
              have loop85_41 : ∀ (m41 : Nat) (I41 : Nat → Int32) (A41 : Nat → Nat → Int32) (n_41 : Nat → Int32) (i41 : Nat), KI n_41 → KS n_41 n → NRx 40 n_41 → i41 ≤ 24 → 24 - i41 < m41 → pm_wp mX12_rents G B 85 [some (.ref (B + 54)), some (.int za), some (.int zb), some (.int (nI i41)), none] [] 0 0 cnt (pm_mid σ (md_L B I41 A41 n_41 k z ac wt pl (nI p0) (nI t0) im)) := by
                intro m41
                induction m41 with
                | zero => intro I41 A41 n_41 i41 _ _ _ _ hm; exact absurd hm (Nat.not_lt_zero _)
                | succ m41 ih41 =>
                  intro I41 A41 n_41 i41 hnn_41 ksn_41 hrn_41 hi41 hm41
                  refine pm_iloadn hG dX12_rents_85 rfl ?_
                  refine pm_aloadn hG dX12_rents_86 rfl ?_
                  refine pm_getf hG dX12_rents_87 (flX12_58 _ rfl) rfl rfl ?_
                  refine pm_iloadn hG dX12_rents_90 rfl ?_
                  refine pm_top (v := nI k3) ek3 ?_
                  refine pm_ialdN hG dX12_rents_91 rfl (by decide) (by omega) ?_
                  refine pm_top (v := nI k38) ek38 ?_
                  refine pm_icmpN_ge (tgt := 128) hG dX12_rents_92 rfl (by omega) (by omega) (fun c42 => ?_) (fun c42 => ?_)
                  · refine pm_iconst (v := nI 0) hG dX12_rents_128 (by decide) ?_
                    refine pm_istoreXn (loc' := [some (.ref (B + 54)), some (.int za), some (.int zb), some (.int (nI 0)), none]) hG dX12_rents_129 (by decide) (pm_c1b rfl) rfl ?_
                    refine pm_iconst (v := nI 0) hG dX12_rents_130 (by decide) ?_
                    refine pm_istoreXi (loc' := [some (.ref (B + 54)), some (.int za), some (.int zb), some (.int (nI 0)), some (.int (nI 0))]) hG dX12_rents_131 (by decide) (pm_c1b rfl) rfl ?_
                    have loop133_43 : ∀ (m43 : Nat) (I43 : Nat → Int32) (A43 : Nat → Nat → Int32) (n_43 : Nat → Int32) (x43_3 : Int32) (i43 : Nat), KI n_43 → KS n_43 n → NRx 40 n_43 → i43 ≤ 24 → 24 - i43 < m43 → pm_wp mX12_rents G B 133 [some (.ref (B + 54)), some (.int za), some (.int zb), some (.int x43_3), some (.int (nI i43))] [] 0 0 cnt (pm_mid σ (md_L B I43 A43 n_43 k z ac wt pl (nI p0) (nI t0) im)) := by
                      intro m43
                      induction m43 with
                      | zero => intro I43 A43 n_43 x43_3 i43 _ _ _ _ hm; exact absurd hm (Nat.not_lt_zero _)
                      | succ m43 ih43 =>
                        intro I43 A43 n_43 x43_3 i43 hnn_43 ksn_43 hrn_43 hi43 hm43
                        refine pm_iloadi hG dX12_rents_133 rfl ?_
                        refine pm_aloadn hG dX12_rents_135 rfl ?_
                        refine pm_getf hG dX12_rents_136 (flX12_58 _ rfl) rfl rfl ?_
                        refine pm_iloadn hG dX12_rents_139 rfl ?_
                        refine pm_top (v := nI k3) ek3 ?_
                        refine pm_ialdN hG dX12_rents_140 rfl (by decide) (by omega) ?_
                        refine pm_top (v := nI k38) ek38 ?_
                        refine pm_icmpN_ge (tgt := 195) hG dX12_rents_141 rfl (by omega) (by omega) (fun c44 => ?_) (fun c44 => ?_)
                        · refine pm_iloadn hG dX12_rents_195 rfl ?_
                          exact pm_iret hG hF dX12_rents_196 rfl (Nat.le_refl _) (Nat.le_refl _) ⟨_, rfl, ⟨_, _, _, rfl, hnn_43, hrn_43, ksn_43⟩, rfl⟩
                        · refine pm_aloadn hG dX12_rents_144 rfl ?_
                          refine pm_getf hG dX12_rents_145 (flX12_61 _ rfl) rfl rfl ?_
                          refine pm_bipush (v := nI 24) hG dX12_rents_148 (by decide) ?_
                          refine pm_iloadn hG dX12_rents_150 rfl ?_
                          refine pm_top (v := nI k3) ek3 ?_
                          refine pm_imulN (c := 24 * k3) hG dX12_rents_151 (by omega) ?_
                          refine pm_iloadi hG dX12_rents_152 rfl ?_
                          refine pm_iaddN (c := i43 + 24 * k3) hG dX12_rents_154 (by omega) ?_
                          refine pm_ialdN hG dX12_rents_155 rfl (by decide) (by omega) ?_
                          refine pm_any (fun x45 => ?_)
                          refine pm_if_ge (tgt := 162) hG dX12_rents_156 rfl (fun c46 => ?_) (fun c46 => ?_)
                          · obtain ⟨k47, hk47, ek47⟩ := nI_of (Int32.not_lt.mpr c46)
                            refine pm_aloadn hG dX12_rents_162 rfl ?_
                            refine pm_getf hG dX12_rents_163 (flX12_7 _ rfl) rfl rfl ?_
                            refine pm_bipush (v := nI 20) hG dX12_rents_166 (by decide) ?_
                            refine pm_iconst (v := nI 3) hG dX12_rents_168 (by decide) ?_
                            refine pm_iloadi hG dX12_rents_169 rfl ?_
                            refine pm_imulN (c := 3 * i43) hG dX12_rents_171 (by omega) ?_
                            refine pm_iaddN (c := 3 * i43 + 20) hG dX12_rents_172 (by omega) ?_
                            refine pm_aloadn hG dX12_rents_173 rfl ?_
                            refine pm_getf hG dX12_rents_174 (flX12_61 _ rfl) rfl rfl ?_
                            refine pm_bipush (v := nI 24) hG dX12_rents_177 (by decide) ?_
                            refine pm_iloadn hG dX12_rents_179 rfl ?_
                            refine pm_top (v := nI k3) ek3 ?_
                            refine pm_imulN (c := 24 * k3) hG dX12_rents_180 (by omega) ?_
                            refine pm_iloadi hG dX12_rents_181 rfl ?_
                            refine pm_iaddN (c := i43 + 24 * k3) hG dX12_rents_183 (by omega) ?_
                            refine pm_ialdN hG dX12_rents_184 rfl (by decide) (by omega) ?_
                            refine pm_any (fun x48 => ?_)
                            refine pm_iastN hG dX12_rents_185 rfl (by decide) (by omega) ?_
                            refine mdn_now (fun n_49 en_49 => ?_)
                            have hnn_49 := KI.w en_49 hnn_43 (okv_f (show kd (3 * i43 + 20) = (0, 0, false) from (kd_T (k := i43) (c := 0) (by omega) (by omega) (by decide))))
                            have hrn_49 := NRx.w en_49 hrn_43 (by rw [(show kd (3 * i43 + 20) = (0, 0, false) from (kd_T (k := i43) (c := 0) (by omega) (by omega) (by decide)))])
                            have ksn_49 := KS.w en_49 ksn_43 (by unfold tS; omega)
                            have e50 : n_49 (3 * i43 + 20) = x48 := by rw [en_49, pk_us]
                            refine pm_iincX (v := x43_3 + 1) (loc' := [some (.ref (B + 54)), some (.int za), some (.int zb), some (.int (x43_3 + 1)), some (.int (nI i43))]) hG dX12_rents_186 rfl (by rfl) (by decide) (pm_c1b rfl) rfl ?_
                            refine pm_iincX (v := nI (i43 + 1)) (loc' := [some (.ref (B + 54)), some (.int za), some (.int zb), some (.int (x43_3 + 1)), some (.int (nI (i43 + 1)))]) hG dX12_rents_189 rfl (nI_1 _) (by decide) (pm_c1b rfl) rfl ?_
                            refine pm_goto (tgt := 133) hG dX12_rents_192 rfl ?_
                            exact ih43 I43 A43 n_49 (x43_3 + 1) (i43 + 1) hnn_49 ksn_49 hrn_49 (by omega) (by omega)
                          · refine pm_goto (tgt := 189) hG dX12_rents_159 rfl ?_
                            refine pm_iincX (v := nI (i43 + 1)) (loc' := [some (.ref (B + 54)), some (.int za), some (.int zb), some (.int x43_3), some (.int (nI (i43 + 1)))]) hG dX12_rents_189 rfl (nI_1 _) (by decide) (pm_c1b rfl) rfl ?_
                            refine pm_goto (tgt := 133) hG dX12_rents_192 rfl ?_
                            exact ih43 I43 A43 n_43 x43_3 (i43 + 1) hnn_43 ksn_43 hrn_43 (by omega) (by omega)
                    exact loop133_43 _ I41 A41 n_41 (nI 0) 0 hnn_41 ksn_41 hrn_41 (by omega) (Nat.lt_succ_self _)
                  · refine pm_aloadn hG dX12_rents_95 rfl ?_
                    refine pm_getf hG dX12_rents_96 (flX12_61 _ rfl) rfl rfl ?_
                    refine pm_bipush (v := nI 24) hG dX12_rents_99 (by decide) ?_
                    refine pm_iloadn hG dX12_rents_101 rfl ?_
                    refine pm_top (v := nI k3) ek3 ?_
                    refine pm_imulN (c := 24 * k3) hG dX12_rents_102 (by omega) ?_
                    refine pm_iloadn hG dX12_rents_103 rfl ?_
                    refine pm_iaddN (c := i41 + 24 * k3) hG dX12_rents_104 (by omega) ?_
                    refine pm_ialdN hG dX12_rents_105 rfl (by decide) (by omega) ?_
                    refine pm_any (fun x51 => ?_)
                    refine pm_iconst (v := (-1)) hG dX12_rents_106 (by decide) ?_
                    refine pm_sipush (v := nI 999) hG dX12_rents_107 (by decide) ?_
                    refine pm_callS (As := [.int x51, .int (-1), .int (nI 999)]) (rest := []) hG hR dX12_rents_110 (lkX12_68 _ rfl) okS_X12_in (m_in (d := 1)) rfl rfl hdd (Nat.le_refl _) (Nat.le_refl _) (by decide) (pm_ki (fun v52 σ' cnt' hq => ?_))
                    obtain ⟨hq, rfl, rfl⟩ := hq
                    rcases hq with ⟨rfl, ac53, bc53⟩ | ⟨rfl, c53⟩
                    · refine pm_ifN_ne (tgt := 122) hG dX12_rents_113 rfl (by omega) (fun _ => ?_) (fun q => absurd q (by omega))
                      refine pm_iincX (v := nI (i41 + 1)) (loc' := [some (.ref (B + 54)), some (.int za), some (.int zb), some (.int (nI (i41 + 1))), none]) hG dX12_rents_122 rfl (nI_1 _) (by decide) (pm_c1b rfl) rfl ?_
                      refine pm_goto (tgt := 85) hG dX12_rents_125 rfl ?_
                      exact ih41 I41 A41 n_41 (i41 + 1) hnn_41 ksn_41 hrn_41 (by omega) (by omega)
                    · refine pm_ifN_ne (tgt := 122) hG dX12_rents_113 rfl (by omega) (fun q => absurd q (by omega)) (fun _ => ?_)
                      refine pm_aloadn hG dX12_rents_116 rfl ?_
                      refine pm_iconst (v := nI 1) hG dX12_rents_117 (by decide) ?_
                      refine pm_callV (As := [.int (nI 1)]) (rest := []) hG hR dX12_rents_118 (lkX12_80 _ rfl) okV_X12_finds rfl rfl (m_finds (d := 1) (by decide) hnn_41 hz (by omega)) rfl rfl hdd (Nat.le_refl _) (Nat.le_refl _) (by decide) (pm_ki (fun v54 σ' cnt' hq => ?_))
                      obtain ⟨⟨I55, A55, rfl⟩, rfl, fv54⟩ := hq
                      exact pm_iret hG hF dX12_rents_121 rfl (Nat.le_refl _) (Nat.le_refl _) ⟨_, rfl, ⟨_, _, _, rfl, hnn_41, hrn_41, ksn_41⟩, rfl⟩
              exact loop85_41 _ I A n 0 hn KS.rf hr (by omega) (Nat.lt_succ_self _)
            · refine pm_aloadn hG dX12_rents_77 rfl ?_
              refine pm_iconst (v := nI 3) hG dX12_rents_78 (by decide) ?_
              refine pm_callV (As := [.int (nI 3)]) (rest := []) hG hR dX12_rents_79 (lkX12_80 _ rfl) okV_X12_finds rfl rfl (m_finds (d := 1) (by decide) hn hz (by omega)) rfl rfl hdd (Nat.le_refl _) (Nat.le_refl _) (by decide) (pm_ki (fun v56 σ' cnt' hq => ?_))
              obtain ⟨⟨I57, A57, rfl⟩, rfl, fv56⟩ := hq
              exact pm_iret hG hF dX12_rents_82 rfl (Nat.le_refl _) (Nat.le_refl _) ⟨_, rfl, ⟨_, _, _, rfl, hn, hr, KS.rf⟩, rfl⟩
          · refine pm_aloadn hG dX12_rents_56 rfl ?_
            refine pm_iconst (v := nI 5) hG dX12_rents_57 (by decide) ?_
            refine pm_callV (As := [.int (nI 5)]) (rest := []) hG hR dX12_rents_58 (lkX12_80 _ rfl) okV_X12_finds rfl rfl (m_finds (d := 1) (by decide) hn hz (by omega)) rfl rfl hdd (Nat.le_refl _) (Nat.le_refl _) (by decide) (pm_ki (fun v58 σ' cnt' hq => ?_))
            obtain ⟨⟨I59, A59, rfl⟩, rfl, fv58⟩ := hq
            exact pm_iret hG hF dX12_rents_61 rfl (Nat.le_refl _) (Nat.le_refl _) ⟨_, rfl, ⟨_, _, _, rfl, hn, hr, KS.rf⟩, rfl⟩
        · refine pm_aloadn hG dX12_rents_40 rfl ?_
          refine pm_iconst (v := nI 2) hG dX12_rents_41 (by decide) ?_
          refine pm_callV (As := [.int (nI 2)]) (rest := []) hG hR dX12_rents_42 (lkX12_80 _ rfl) okV_X12_finds rfl rfl (m_finds (d := 1) (by decide) hn hz (by omega)) rfl rfl hdd (Nat.le_refl _) (Nat.le_refl _) (by decide) (pm_ki (fun v60 σ' cnt' hq => ?_))
          obtain ⟨⟨I61, A61, rfl⟩, rfl, fv60⟩ := hq
          exact pm_iret hG hF dX12_rents_45 rfl (Nat.le_refl _) (Nat.le_refl _) ⟨_, rfl, ⟨_, _, _, rfl, hn, hr, KS.rf⟩, rfl⟩
      · refine pm_iloadn hG dX12_rents_19 rfl ?_
        refine pm_bipush (v := nI 32) hG dX12_rents_20 (by decide) ?_
        refine pm_icmp_eq (tgt := 31) hG dX12_rents_22 rfl (fun c62 => ?_) (fun c62 => ?_)
        · refine pm_aloadn hG dX12_rents_31 rfl ?_
          refine pm_getf hG dX12_rents_32 (flX12_55 _ rfl) rfl rfl ?_
          refine pm_iloadn hG dX12_rents_35 rfl ?_
          refine pm_top (v := nI k3) ek3 ?_
          refine pm_ialdN hG dX12_rents_36 rfl (by decide) (by omega) ?_
          refine pm_any (fun x63 => ?_)
          refine pm_if_ne (tgt := 46) hG dX12_rents_37 rfl (fun c64 => ?_) (fun c64 => ?_)
          · refine pm_aloadn hG dX12_rents_46 rfl ?_
            refine pm_getf hG dX12_rents_47 (flX12_55 _ rfl) rfl rfl ?_
            refine pm_iloadn hG dX12_rents_50 rfl ?_
            refine pm_top (v := nI k3) ek3 ?_
            refine pm_ialdN hG dX12_rents_51 rfl (by decide) (by omega) ?_
            refine pm_any (fun x65 => ?_)
            refine pm_iloadn hG dX12_rents_52 rfl ?_
            refine pm_top (v := nI 32) c62 ?_
            refine pm_icmp_eq (tgt := 62) hG dX12_rents_53 rfl (fun c66 => ?_) (fun c66 => ?_)
            · refine pm_aloadn hG dX12_rents_62 rfl ?_
              refine pm_getf hG dX12_rents_63 (flX12_58 _ rfl) rfl rfl ?_
              refine pm_iloadn hG dX12_rents_66 rfl ?_
              refine pm_top (v := nI k3) ek3 ?_
              refine pm_ialdN hG dX12_rents_67 rfl (by decide) (by omega) ?_
              obtain ⟨k67, hk67, ek67⟩ := hz k3 (by omega)
              refine pm_top (v := nI k67) ek67 ?_
              refine pm_aloadn hG dX12_rents_68 rfl ?_
              refine pm_getf hG dX12_rents_69 (flX12_7 _ rfl) rfl rfl ?_
              refine pm_iconst (v := nI 0) hG dX12_rents_72 (by decide) ?_
              refine pm_ialdN hG dX12_rents_73 rfl (by decide) (by omega) ?_
              obtain ⟨k68, hk68, ek68⟩ := KI.nat hn (show kd 0 = (1, 11, true) by decide)
              refine pm_top (v := nI k68) ek68 ?_
              refine pm_icmpN_le (tgt := 83) hG dX12_rents_74 rfl (by omega) (by omega) (fun c69 => ?_) (fun c69 => ?_)
              · refine pm_iconst (v := nI 0) hG dX12_rents_83 (by decide) ?_
                refine pm_istoreXn (loc' := [some (.ref (B + 54)), some (.int za), some (.int zb), some (.int (nI 0)), none]) hG dX12_rents_84 (by decide) (pm_c1b rfl) rfl ?_
                have loop85_70 : ∀ (m70 : Nat) (I70 : Nat → Int32) (A70 : Nat → Nat → Int32) (n_70 : Nat → Int32) (i70 : Nat), KI n_70 → KS n_70 n → NRx 40 n_70 → i70 ≤ 24 → 24 - i70 < m70 → pm_wp mX12_rents G B 85 [some (.ref (B + 54)), some (.int za), some (.int zb), some (.int (nI i70)), none] [] 0 0 cnt (pm_mid σ (md_L B I70 A70 n_70 k z ac wt pl (nI p0) (nI t0) im)) := by
                  intro m70
                  induction m70 with
                  | zero => intro I70 A70 n_70 i70 _ _ _ _ hm; exact absurd hm (Nat.not_lt_zero _)
                  | succ m70 ih70 =>
                    intro I70 A70 n_70 i70 hnn_70 ksn_70 hrn_70 hi70 hm70
                    refine pm_iloadn hG dX12_rents_85 rfl ?_
                    refine pm_aloadn hG dX12_rents_86 rfl ?_
                    refine pm_getf hG dX12_rents_87 (flX12_58 _ rfl) rfl rfl ?_
                    refine pm_iloadn hG dX12_rents_90 rfl ?_
                    refine pm_top (v := nI k3) ek3 ?_
                    refine pm_ialdN hG dX12_rents_91 rfl (by decide) (by omega) ?_
                    refine pm_top (v := nI k67) ek67 ?_
                    refine pm_icmpN_ge (tgt := 128) hG dX12_rents_92 rfl (by omega) (by omega) (fun c71 => ?_) (fun c71 => ?_)
                    · refine pm_iconst (v := nI 0) hG dX12_rents_128 (by decide) ?_
                      refine pm_istoreXn (loc' := [some (.ref (B + 54)), some (.int za), some (.int zb), some (.int (nI 0)), none]) hG dX12_rents_129 (by decide) (pm_c1b rfl) rfl ?_
                      refine pm_iconst (v := nI 0) hG dX12_rents_130 (by decide) ?_
                      refine pm_istoreXi (loc' := [some (.ref (B + 54)), some (.int za), some (.int zb), some (.int (nI 0)), some (.int (nI 0))]) hG dX12_rents_131 (by decide) (pm_c1b rfl) rfl ?_
                      have loop133_72 : ∀ (m72 : Nat) (I72 : Nat → Int32) (A72 : Nat → Nat → Int32) (n_72 : Nat → Int32) (x72_3 : Int32) (i72 : Nat), KI n_72 → KS n_72 n → NRx 40 n_72 → i72 ≤ 24 → 24 - i72 < m72 → pm_wp mX12_rents G B 133 [some (.ref (B + 54)), some (.int za), some (.int zb), some (.int x72_3), some (.int (nI i72))] [] 0 0 cnt (pm_mid σ (md_L B I72 A72 n_72 k z ac wt pl (nI p0) (nI t0) im)) := by
                        intro m72
                        induction m72 with
                        | zero => intro I72 A72 n_72 x72_3 i72 _ _ _ _ hm; exact absurd hm (Nat.not_lt_zero _)
                        | succ m72 ih72 =>
                          intro I72 A72 n_72 x72_3 i72 hnn_72 ksn_72 hrn_72 hi72 hm72
                          refine pm_iloadi hG dX12_rents_133 rfl ?_
                          refine pm_aloadn hG dX12_rents_135 rfl ?_
                          refine pm_getf hG dX12_rents_136 (flX12_58 _ rfl) rfl rfl ?_
                          refine pm_iloadn hG dX12_rents_139 rfl ?_
                          refine pm_top (v := nI k3) ek3 ?_
                          refine pm_ialdN hG dX12_rents_140 rfl (by decide) (by omega) ?_
                          refine pm_top (v := nI k67) ek67 ?_
                          refine pm_icmpN_ge (tgt := 195) hG dX12_rents_141 rfl (by omega) (by omega) (fun c73 => ?_) (fun c73 => ?_)
                          · refine pm_iloadn hG dX12_rents_195 rfl ?_
                            exact pm_iret hG hF dX12_rents_196 rfl (Nat.le_refl _) (Nat.le_refl _) ⟨_, rfl, ⟨_, _, _, rfl, hnn_72, hrn_72, ksn_72⟩, rfl⟩
                          · refine pm_aloadn hG dX12_rents_144 rfl ?_
                            refine pm_getf hG dX12_rents_145 (flX12_61 _ rfl) rfl rfl ?_
                            refine pm_bipush (v := nI 24) hG dX12_rents_148 (by decide) ?_
                            refine pm_iloadn hG dX12_rents_150 rfl ?_
                            refine pm_top (v := nI k3) ek3 ?_
                            refine pm_imulN (c := 24 * k3) hG dX12_rents_151 (by omega) ?_
                            refine pm_iloadi hG dX12_rents_152 rfl ?_
                            refine pm_iaddN (c := i72 + 24 * k3) hG dX12_rents_154 (by omega) ?_
                            refine pm_ialdN hG dX12_rents_155 rfl (by decide) (by omega) ?_
                            refine pm_any (fun x74 => ?_)
                            refine pm_if_ge (tgt := 162) hG dX12_rents_156 rfl (fun c75 => ?_) (fun c75 => ?_)
                            · obtain ⟨k76, hk76, ek76⟩ := nI_of (Int32.not_lt.mpr c75)
                              refine pm_aloadn hG dX12_rents_162 rfl ?_
                              refine pm_getf hG dX12_rents_163 (flX12_7 _ rfl) rfl rfl ?_
                              refine pm_bipush (v := nI 20) hG dX12_rents_166 (by decide) ?_
                              refine pm_iconst (v := nI 3) hG dX12_rents_168 (by decide) ?_
                              refine pm_iloadi hG dX12_rents_169 rfl ?_
                              refine pm_imulN (c := 3 * i72) hG dX12_rents_171 (by omega) ?_
                              refine pm_iaddN (c := 3 * i72 + 20) hG dX12_rents_172 (by omega) ?_
                              refine pm_aloadn hG dX12_rents_173 rfl ?_
                              refine pm_getf hG dX12_rents_174 (flX12_61 _ rfl) rfl rfl ?_
                              refine pm_bipush (v := nI 24) hG dX12_rents_177 (by decide) ?_
                              refine pm_iloadn hG dX12_rents_179 rfl ?_
                              refine pm_top (v := nI k3) ek3 ?_
                              refine pm_imulN (c := 24 * k3) hG dX12_rents_180 (by omega) ?_
                              refine pm_iloadi hG dX12_rents_181 rfl ?_
                              refine pm_iaddN (c := i72 + 24 * k3) hG dX12_rents_183 (by omega) ?_
                              refine pm_ialdN hG dX12_rents_184 rfl (by decide) (by omega) ?_
                              refine pm_any (fun x77 => ?_)
                              refine pm_iastN hG dX12_rents_185 rfl (by decide) (by omega) ?_
                              refine mdn_now (fun n_78 en_78 => ?_)
                              have hnn_78 := KI.w en_78 hnn_72 (okv_f (show kd (3 * i72 + 20) = (0, 0, false) from (kd_T (k := i72) (c := 0) (by omega) (by omega) (by decide))))
                              have hrn_78 := NRx.w en_78 hrn_72 (by rw [(show kd (3 * i72 + 20) = (0, 0, false) from (kd_T (k := i72) (c := 0) (by omega) (by omega) (by decide)))])
                              have ksn_78 := KS.w en_78 ksn_72 (by unfold tS; omega)
                              have e79 : n_78 (3 * i72 + 20) = x77 := by rw [en_78, pk_us]
                              refine pm_iincX (v := x72_3 + 1) (loc' := [some (.ref (B + 54)), some (.int za), some (.int zb), some (.int (x72_3 + 1)), some (.int (nI i72))]) hG dX12_rents_186 rfl (by rfl) (by decide) (pm_c1b rfl) rfl ?_
                              refine pm_iincX (v := nI (i72 + 1)) (loc' := [some (.ref (B + 54)), some (.int za), some (.int zb), some (.int (x72_3 + 1)), some (.int (nI (i72 + 1)))]) hG dX12_rents_189 rfl (nI_1 _) (by decide) (pm_c1b rfl) rfl ?_
                              refine pm_goto (tgt := 133) hG dX12_rents_192 rfl ?_
                              exact ih72 I72 A72 n_78 (x72_3 + 1) (i72 + 1) hnn_78 ksn_78 hrn_78 (by omega) (by omega)
                            · refine pm_goto (tgt := 189) hG dX12_rents_159 rfl ?_
                              refine pm_iincX (v := nI (i72 + 1)) (loc' := [some (.ref (B + 54)), some (.int za), some (.int zb), some (.int x72_3), some (.int (nI (i72 + 1)))]) hG dX12_rents_189 rfl (nI_1 _) (by decide) (pm_c1b rfl) rfl ?_
                              refine pm_goto (tgt := 133) hG dX12_rents_192 rfl ?_
                              exact ih72 I72 A72 n_72 x72_3 (i72 + 1) hnn_72 ksn_72 hrn_72 (by omega) (by omega)
                      exact loop133_72 _ I70 A70 n_70 (nI 0) 0 hnn_70 ksn_70 hrn_70 (by omega) (Nat.lt_succ_self _)
                    · refine pm_aloadn hG dX12_rents_95 rfl ?_
                      refine pm_getf hG dX12_rents_96 (flX12_61 _ rfl) rfl rfl ?_
                      refine pm_bipush (v := nI 24) hG dX12_rents_99 (by decide) ?_
                      refine pm_iloadn hG dX12_rents_101 rfl ?_
                      refine pm_top (v := nI k3) ek3 ?_
                      refine pm_imulN (c := 24 * k3) hG dX12_rents_102 (by omega) ?_
                      refine pm_iloadn hG dX12_rents_103 rfl ?_
                      refine pm_iaddN (c := i70 + 24 * k3) hG dX12_rents_104 (by omega) ?_
                      refine pm_ialdN hG dX12_rents_105 rfl (by decide) (by omega) ?_
                      refine pm_any (fun x80 => ?_)
                      refine pm_iconst (v := (-1)) hG dX12_rents_106 (by decide) ?_
                      refine pm_sipush (v := nI 999) hG dX12_rents_107 (by decide) ?_
                      refine pm_callS (As := [.int x80, .int (-1), .int (nI 999)]) (rest := []) hG hR dX12_rents_110 (lkX12_68 _ rfl) okS_X12_in (m_in (d := 1)) rfl rfl hdd (Nat.le_refl _) (Nat.le_refl _) (by decide) (pm_ki (fun v81 σ' cnt' hq => ?_))
                      obtain ⟨hq, rfl, rfl⟩ := hq
                      rcases hq with ⟨rfl, ac82, bc82⟩ | ⟨rfl, c82⟩
                      · refine pm_ifN_ne (tgt := 122) hG dX12_rents_113 rfl (by omega) (fun _ => ?_) (fun q => absurd q (by omega))
                        refine pm_iincX (v := nI (i70 + 1)) (loc' := [some (.ref (B + 54)), some (.int za), some (.int zb), some (.int (nI (i70 + 1))), none]) hG dX12_rents_122 rfl (nI_1 _) (by decide) (pm_c1b rfl) rfl ?_
                        refine pm_goto (tgt := 85) hG dX12_rents_125 rfl ?_
                        exact ih70 I70 A70 n_70 (i70 + 1) hnn_70 ksn_70 hrn_70 (by omega) (by omega)
                      · refine pm_ifN_ne (tgt := 122) hG dX12_rents_113 rfl (by omega) (fun q => absurd q (by omega)) (fun _ => ?_)
                        refine pm_aloadn hG dX12_rents_116 rfl ?_
                        refine pm_iconst (v := nI 1) hG dX12_rents_117 (by decide) ?_
                        refine pm_callV (As := [.int (nI 1)]) (rest := []) hG hR dX12_rents_118 (lkX12_80 _ rfl) okV_X12_finds rfl rfl (m_finds (d := 1) (by decide) hnn_70 hz (by omega)) rfl rfl hdd (Nat.le_refl _) (Nat.le_refl _) (by decide) (pm_ki (fun v83 σ' cnt' hq => ?_))
                        obtain ⟨⟨I84, A84, rfl⟩, rfl, fv83⟩ := hq
                        exact pm_iret hG hF dX12_rents_121 rfl (Nat.le_refl _) (Nat.le_refl _) ⟨_, rfl, ⟨_, _, _, rfl, hnn_70, hrn_70, ksn_70⟩, rfl⟩
                exact loop85_70 _ I A n 0 hn KS.rf hr (by omega) (Nat.lt_succ_self _)
              · refine pm_aloadn hG dX12_rents_77 rfl ?_
                refine pm_iconst (v := nI 3) hG dX12_rents_78 (by decide) ?_
                refine pm_callV (As := [.int (nI 3)]) (rest := []) hG hR dX12_rents_79 (lkX12_80 _ rfl) okV_X12_finds rfl rfl (m_finds (d := 1) (by decide) hn hz (by omega)) rfl rfl hdd (Nat.le_refl _) (Nat.le_refl _) (by decide) (pm_ki (fun v85 σ' cnt' hq => ?_))
                obtain ⟨⟨I86, A86, rfl⟩, rfl, fv85⟩ := hq
                exact pm_iret hG hF dX12_rents_82 rfl (Nat.le_refl _) (Nat.le_refl _) ⟨_, rfl, ⟨_, _, _, rfl, hn, hr, KS.rf⟩, rfl⟩
            · refine pm_aloadn hG dX12_rents_56 rfl ?_
              refine pm_iconst (v := nI 5) hG dX12_rents_57 (by decide) ?_
              refine pm_callV (As := [.int (nI 5)]) (rest := []) hG hR dX12_rents_58 (lkX12_80 _ rfl) okV_X12_finds rfl rfl (m_finds (d := 1) (by decide) hn hz (by omega)) rfl rfl hdd (Nat.le_refl _) (Nat.le_refl _) (by decide) (pm_ki (fun v87 σ' cnt' hq => ?_))
              obtain ⟨⟨I88, A88, rfl⟩, rfl, fv87⟩ := hq
              exact pm_iret hG hF dX12_rents_61 rfl (Nat.le_refl _) (Nat.le_refl _) ⟨_, rfl, ⟨_, _, _, rfl, hn, hr, KS.rf⟩, rfl⟩
          · refine pm_aloadn hG dX12_rents_40 rfl ?_
            refine pm_iconst (v := nI 2) hG dX12_rents_41 (by decide) ?_
            refine pm_callV (As := [.int (nI 2)]) (rest := []) hG hR dX12_rents_42 (lkX12_80 _ rfl) okV_X12_finds rfl rfl (m_finds (d := 1) (by decide) hn hz (by omega)) rfl rfl hdd (Nat.le_refl _) (Nat.le_refl _) (by decide) (pm_ki (fun v89 σ' cnt' hq => ?_))
            obtain ⟨⟨I90, A90, rfl⟩, rfl, fv89⟩ := hq
            exact pm_iret hG hF dX12_rents_45 rfl (Nat.le_refl _) (Nat.le_refl _) ⟨_, rfl, ⟨_, _, _, rfl, hn, hr, KS.rf⟩, rfl⟩
        · refine pm_aloadn hG dX12_rents_25 rfl ?_
          refine pm_iconst (v := nI 1) hG dX12_rents_26 (by decide) ?_
          refine pm_callV (As := [.int (nI 1)]) (rest := []) hG hR dX12_rents_27 (lkX12_80 _ rfl) okV_X12_finds rfl rfl (m_finds (d := 1) (by decide) hn hz (by omega)) rfl rfl hdd (Nat.le_refl _) (Nat.le_refl _) (by decide) (pm_ki (fun v91 σ' cnt' hq => ?_))
          obtain ⟨⟨I92, A92, rfl⟩, rfl, fv91⟩ := hq
          exact pm_iret hG hF dX12_rents_30 rfl (Nat.le_refl _) (Nat.le_refl _) ⟨_, rfl, ⟨_, _, _, rfl, hn, hr, KS.rf⟩, rfl⟩
  · refine pm_ifN_eq (tgt := 25) hG dX12_rents_4 rfl (by omega) (fun _ => ?_) (fun q => absurd q (by omega))
    refine pm_aloadn hG dX12_rents_25 rfl ?_
    refine pm_iconst (v := nI 1) hG dX12_rents_26 (by decide) ?_
    refine pm_callV (As := [.int (nI 1)]) (rest := []) hG hR dX12_rents_27 (lkX12_80 _ rfl) okV_X12_finds rfl rfl (m_finds (d := 1) (by decide) hn hz (by omega)) rfl rfl hdd (Nat.le_refl _) (Nat.le_refl _) (by decide) (pm_ki (fun v93 σ' cnt' hq => ?_))
    obtain ⟨⟨I94, A94, rfl⟩, rfl, fv93⟩ := hq
    exact pm_iret hG hF dX12_rents_30 rfl (Nat.le_refl _) (Nat.le_refl _) ⟨_, rfl, ⟨_, _, _, rfl, hn, hr, KS.rf⟩, rfl⟩
