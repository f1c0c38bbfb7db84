set_option maxRecDepth 100000 in
set_option maxHeartbeats 4000000 in
theorem m_price {d B cnt p0 t0 : Nat} {σ : pm_S} {I : Nat → Int32} {A : Nat → Nat → Int32} {n k z : Nat → Int32} {ac wt pl im : Int32} {za zb : Int32} (hdd : 2 ≤ d) (hn : KI n) (hr : NR n) (hz : SZ z)  : pm_met mX12_price d 0 0 B [.ref (B + 54), .int za, .int zb] cnt (pm_mid σ (md_L B I A n k z ac wt pl (nI p0) (nI t0) im)) (pm_Qi (fun v σ' cnt' => (∃ (I' : Nat → Int32) (A' : Nat → Nat → Int32) (n' : Nat → Int32), σ' = pm_mid σ (md_L B I' A' n' k z ac wt pl (nI p0) (nI t0) im) ∧ KI n' ∧ NR n' ∧ n' 8 = n 8) ∧ cnt = cnt')) := by
  obtain ⟨kc8, hkc8, ekc8⟩ := KI.nat hn (show kd 8 = (1, 2001, false) by decide)
  refine pm_enter 1 (by decide) (Nat.le_of_ble_eq_true rfl) rfl (fun G hG hR hF => ?_)
  refine pm_aloadn hG dX12_price_0 rfl ?_
  refine pm_iloadn hG dX12_price_1 rfl ?_
  obtain ⟨k1, hk1, ek1⟩ := KI.nat hn (show kd 2 = (1, 21, true) by decide)
  refine pm_callV (As := [.int za]) (rest := []) hG hR dX12_price_2 (lkX12_91 _ rfl) okV_X12_isPerson rfl rfl (m_isPerson (d := 1) (by decide) ek1 (by omega)) rfl rfl hdd (Nat.le_refl _) (Nat.le_refl _) (by decide) (pm_ki (fun v2 σ' cnt' hq => ?_))
  obtain ⟨hq, rfl, rfl⟩ := hq
  rcases hq with ⟨rfl, k4, hk4, ek4⟩ | rfl
  · refine pm_ifN_eq (tgt := 19) hG dX12_price_5 rfl (by omega) (fun q => absurd q (by omega)) (fun _ => ?_)
    refine pm_iloadn hG dX12_price_8 rfl ?_
    refine pm_iconst (v := nI 1) hG dX12_price_9 (by decide) ?_
    refine pm_sipush (v := nI 999) hG dX12_price_10 (by decide) ?_
    refine pm_callS (As := [.int zb, .int (nI 1), .int (nI 999)]) (rest := []) hG hR dX12_price_13 (lkX12_68 _ rfl) okS_X12_in (m_in (d := 1)) rfl rfl hdd (Nat.le_refl _) (Nat.le_refl _) (by decide) (pm_ki (fun v5 σ' cnt' hq => ?_))
    obtain ⟨hq, rfl, rfl⟩ := hq
    rcases hq with ⟨rfl, ac6, bc6⟩ | ⟨rfl, c6⟩
    · obtain ⟨k7, hk7, ek7⟩ := in_nat (by omega) (by omega) ac6 bc6
      refine pm_ifN_ne (tgt := 25) hG dX12_price_16 rfl (by omega) (fun _ => ?_) (fun q => absurd q (by omega))
      refine pm_aloadn hG dX12_price_25 rfl ?_
      refine pm_iloadn hG dX12_price_26 rfl ?_
      refine pm_top (v := nI k4) ek4 ?_
      refine pm_bipush (v := nI 12) hG dX12_price_27 (by decide) ?_
      refine pm_callV (As := [.int (nI k4), .int (nI 12)]) (rest := []) hG hR dX12_price_29 (lkX12_72 _ rfl) okV_X12_man rfl rfl (m_man (d := 1) (e := 14 * k4 + 122) (by omega) (by omega) (by omega)) rfl rfl hdd (Nat.le_refl _) (Nat.le_refl _) (by decide) (pm_ki (fun v8 σ' cnt' hq => ?_))
      obtain ⟨rfl, rfl, rfl⟩ := hq
      refine pm_gen (fun x9 ex9 => ?_)
      refine pm_istoreXn (loc' := [some (.ref (B + 54)), some (.int za), some (.int zb), some (.int x9)]) hG dX12_price_32 (by decide) (pm_c1b rfl) rfl ?_
      refine pm_aloadn hG dX12_price_33 rfl ?_
      refine pm_iloadn hG dX12_price_34 rfl ?_
      refine pm_top (v := nI k4) ek4 ?_
      refine pm_bipush (v := nI 12) hG dX12_price_35 (by decide) ?_
      refine pm_iloadn hG dX12_price_37 rfl ?_
      refine pm_top (v := nI k7) ek7 ?_
      refine pm_callV (As := [.int (nI k4), .int (nI 12), .int (nI k7)]) (rest := []) hG hR dX12_price_38 (lkX12_97 _ rfl) okV_X12_sets rfl rfl (m_sets (d := 1) (e := 14 * k4 + 122) (by omega) (by omega) (by omega)) rfl rfl hdd (Nat.le_refl _) (Nat.le_refl _) (by decide) (pm_kv (fun σ' cnt' hq => ?_))
      obtain ⟨rfl, rfl⟩ := hq
      obtain ⟨n_10, en_10⟩ : ∃ f : Nat → Int32, f = upd n (14 * k4 + 122) (nI k7) := ⟨_, rfl⟩
      rw [← en_10]
      have hnn_10 := KI.w en_10 hn (okv_f (show kd (14 * k4 + 122) = (0, 0, false) from (kd_P (k := k4) (c := 12) (by omega) (by omega) (by decide))))
      have hrn_10 := NRx.w en_10 hr (by rw [(show kd (14 * k4 + 122) = (0, 0, false) from (kd_P (k := k4) (c := 12) (by omega) (by omega) (by decide)))])
      have e11 : n_10 8 = nI kc8 := by rw [en_10, pk_un (by omega)]; exact ekc8
      have e12 : n_10 2 = nI k1 := by rw [en_10, pk_un (by omega)]; exact ek1
      have e13 : n_10 (14 * k4 + 122) = nI k7 := by rw [en_10, pk_us]
      refine pm_iloadn hG dX12_price_41 rfl ?_
      exact pm_iret hG hF dX12_price_42 rfl (Nat.le_refl _) (Nat.le_refl _) ⟨_, rfl, ⟨_, _, _, rfl, hnn_10, hrn_10, e11.trans ekc8.symm⟩, rfl⟩
    · refine pm_ifN_ne (tgt := 25) hG dX12_price_16 rfl (by omega) (fun q => absurd q (by omega)) (fun _ => ?_)
      refine pm_aloadn hG dX12_price_19 rfl ?_
      refine pm_iconst (v := nI 1) hG dX12_price_20 (by decide) ?_
      refine pm_callV (As := [.int (nI 1)]) (rest := []) hG hR dX12_price_21 (lkX12_80 _ rfl) okV_X12_finds rfl rfl (m_finds (d := 1) (by decide) hn hz (by omega)) rfl rfl hdd (Nat.le_refl _) (Nat.le_refl _) (by decide) (pm_ki (fun v14 σ' cnt' hq => ?_))
      obtain ⟨⟨I15, A15, rfl⟩, rfl, fv14⟩ := hq
      exact pm_iret hG hF dX12_price_24 rfl (Nat.le_refl _) (Nat.le_refl _) ⟨_, rfl, ⟨_, _, _, rfl, hn, hr, ekc8.trans ekc8.symm⟩, rfl⟩
  · refine pm_ifN_eq (tgt := 19) hG dX12_price_5 rfl (by omega) (fun _ => ?_) (fun q => absurd q (by omega))
    refine pm_aloadn hG dX12_price_19 rfl ?_
    refine pm_iconst (v := nI 1) hG dX12_price_20 (by decide) ?_
    refine pm_callV (As := [.int (nI 1)]) (rest := []) hG hR dX12_price_21 (lkX12_80 _ rfl) okV_X12_finds rfl rfl (m_finds (d := 1) (by decide) hn hz (by omega)) rfl rfl hdd (Nat.le_refl _) (Nat.le_refl _) (by decide) (pm_ki (fun v16 σ' cnt' hq => ?_))
    obtain ⟨⟨I17, A17, rfl⟩, rfl, fv16⟩ := hq
    exact pm_iret hG hF dX12_price_24 rfl (Nat.le_refl _) (Nat.le_refl _) ⟨_, rfl, ⟨_, _, _, rfl, hn, hr, ekc8.trans ekc8.symm⟩, rfl⟩

set_option maxRecDepth 100000 in
set_option maxHeartbeats 4000000 in
theorem m_promise {d B cnt p0 t0 : Nat} {σ : pm_S} {I : Nat → Int32} {A : Nat → Nat → Int32} {n k z : Nat → Int32} {ac wt pl im : Int32} {za zb zc zd : Int32} (hdd : 2 ≤ d) (hn : KI n) (hr : NR n) (hz : SZ z)  : pm_met mX12_promise d 0 0 B [.ref (B + 54), .int za, .int zb, .int zc, .int zd] cnt (pm_mid σ (md_L B I A n k z ac wt pl (nI p0) (nI t0) im)) (pm_Qi (fun v σ' cnt' => (∃ (I' : Nat → Int32) (A' : Nat → Nat → Int32) (n' : Nat → Int32), σ' = pm_mid σ (md_L B I' A' n' k z ac wt pl (nI p0) (nI t0) im) ∧ KI n' ∧ NR n' ∧ n' 8 = n 8) ∧ cnt = cnt')) := by
  obtain ⟨kc8, hkc8, ekc8⟩ := KI.nat hn (show kd 8 = (1, 2001, false) by decide)
  refine pm_enter 2 (by decide) (Nat.le_of_ble_eq_true rfl) rfl (fun G hG hR hF => ?_)
  refine pm_aloadn hG dX12_promise_0 rfl ?_
  refine pm_iloadn hG dX12_promise_1 rfl ?_
  obtain ⟨k1, hk1, ek1⟩ := KI.nat hn (show kd 2 = (1, 21, true) by decide)
  refine pm_callV (As := [.int za]) (rest := []) hG hR dX12_promise_2 (lkX12_91 _ rfl) okV_X12_isPerson rfl rfl (m_isPerson (d := 1) (by decide) ek1 (by omega)) rfl rfl hdd (Nat.le_refl _) (Nat.le_refl _) (by decide) (pm_ki (fun v2 σ' cnt' hq => ?_))
  obtain ⟨hq, rfl, rfl⟩ := hq
  rcases hq with ⟨rfl, k4, hk4, ek4⟩ | rfl
  · refine pm_ifN_eq (tgt := 34) hG dX12_promise_5 rfl (by omega) (fun q => absurd q (by omega)) (fun _ => ?_)
    refine pm_iloadn hG dX12_promise_8 rfl ?_
    refine pm_iconst (v := nI 0) hG dX12_promise_9 (by decide) ?_
    refine pm_iconst (v := nI 5) hG dX12_promise_10 (by decide) ?_
    refine pm_callS (As := [.int zb, .int (nI 0), .int (nI 5)]) (rest := []) hG hR dX12_promise_11 (lkX12_68 _ rfl) okS_X12_in (m_in (d := 1)) rfl rfl hdd (Nat.le_refl _) (Nat.le_refl _) (by decide) (pm_ki (fun v5 σ' cnt' hq => ?_))
    obtain ⟨hq, rfl, rfl⟩ := hq
    rcases hq with ⟨rfl, ac6, bc6⟩ | ⟨rfl, c6⟩
    · obtain ⟨k7, hk7, ek7⟩ := in_nat (by omega) (by omega) ac6 bc6
      refine pm_ifN_eq (tgt := 34) hG dX12_promise_14 rfl (by omega) (fun q => absurd q (by omega)) (fun _ => ?_)
      refine pm_iloadn hG dX12_promise_17 rfl ?_
      refine pm_aloadn hG dX12_promise_18 rfl ?_
      refine pm_getf hG dX12_promise_19 (flX12_7 _ rfl) rfl rfl ?_
      refine pm_bipush (v := nI 8) hG dX12_promise_22 (by decide) ?_
      refine pm_ialdN hG dX12_promise_24 rfl (by decide) (by omega) ?_
      refine pm_top (v := nI kc8) ekc8 ?_
      refine pm_sipush (v := nI 2000) hG dX12_promise_25 (by decide) ?_
      refine pm_callS (As := [.int zc, .int (nI kc8), .int (nI 2000)]) (rest := []) hG hR dX12_promise_28 (lkX12_68 _ rfl) okS_X12_in (m_in (d := 1)) rfl rfl hdd (Nat.le_refl _) (Nat.le_refl _) (by decide) (pm_ki (fun v8 σ' cnt' hq => ?_))
      obtain ⟨hq, rfl, rfl⟩ := hq
      rcases hq with ⟨rfl, ac9, bc9⟩ | ⟨rfl, c9⟩
      · obtain ⟨k10, hk10, ek10⟩ := in_nat (by omega) (by omega) ac9 bc9
        refine pm_ifN_ne (tgt := 40) hG dX12_promise_31 rfl (by omega) (fun _ => ?_) (fun q => absurd q (by omega))
        refine pm_aloadn hG dX12_promise_40 rfl ?_
        refine pm_iloadn hG dX12_promise_41 rfl ?_
        refine pm_top (v := nI k4) ek4 ?_
        refine pm_bipush (v := nI 11) hG dX12_promise_42 (by decide) ?_
        refine pm_callV (As := [.int (nI k4), .int (nI 11)]) (rest := []) hG hR dX12_promise_44 (lkX12_72 _ rfl) okV_X12_man rfl rfl (m_man (d := 1) (e := 14 * k4 + 121) (by omega) (by omega) (by omega)) rfl rfl hdd (Nat.le_refl _) (Nat.le_refl _) (by decide) (pm_ki (fun v11 σ' cnt' hq => ?_))
        obtain ⟨rfl, rfl, rfl⟩ := hq
        obtain ⟨k12, hk12, ek12⟩ := KI.nat hn (show kd (14 * k4 + 121) = (1, 2, true) from (kd_P (k := k4) (c := 11) (by omega) (by omega) (by decide)))
        refine pm_top (v := nI k12) ek12 ?_
        refine pm_ifN_ne (tgt := 56) hG dX12_promise_47 rfl (by omega) (fun c13 => ?_) (fun c13 => ?_)
        · refine pm_aloadn hG dX12_promise_56 rfl ?_
          refine pm_getf hG dX12_promise_57 (flX12_7 _ rfl) rfl rfl ?_
          refine pm_bipush (v := nI 7) hG dX12_promise_60 (by decide) ?_
          refine pm_ialdN hG dX12_promise_62 rfl (by decide) (by omega) ?_
          obtain ⟨k14, hk14, ek14⟩ := KI.nat hn (show kd 7 = (1, 31, false) by decide)
          refine pm_top (v := nI k14) ek14 ?_
          refine pm_istoreXi (loc' := [some (.ref (B + 54)), some (.int za), some (.int zb), some (.int zc), some (.int zd), some (.int (nI k14)), none]) hG dX12_promise_63 (by decide) (pm_c1b rfl) rfl ?_
          refine pm_iloadi hG dX12_promise_65 rfl ?_
          refine pm_bipush (v := nI 30) hG dX12_promise_67 (by decide) ?_
          refine pm_icmpN_ne (tgt := 78) hG dX12_promise_69 rfl (by omega) (by omega) (fun c15 => ?_) (fun c15 => ?_)
          · refine pm_iconst (v := nI 0) hG dX12_promise_78 (by decide) ?_
            refine pm_istoreXi (loc' := [some (.ref (B + 54)), some (.int za), some (.int zb), some (.int zc), some (.int zd), some (.int (nI k14)), some (.int (nI 0))]) hG dX12_promise_79 (by decide) (pm_c1b rfl) rfl ?_
            have loop81_16 : ∀ (m16 : Nat) (I16 : Nat → Int32) (A16 : Nat → Nat → Int32) (n_16 : Nat → Int32) (i16 : Nat), KI n_16 → NRx 40 n_16 → n_16 7 = nI k14 → n_16 8 = nI kc8 → i16 ≤ 29 → 29 - i16 < m16 → pm_wp mX12_promise G B 81 [some (.ref (B + 54)), some (.int za), some (.int zb), some (.int zc), some (.int zd), some (.int (nI k14)), some (.int (nI i16))] [] 0 0 cnt (pm_mid σ (md_L B I16 A16 n_16 k z ac wt pl (nI p0) (nI t0) im)) := by
              intro m16
              induction m16 with
              | zero => intro I16 A16 n_16 i16 _ _ _ _ _ hm; exact absurd hm (Nat.not_lt_zero _)
              | succ m16 ih16 =>
                intro I16 A16 n_16 i16 hnn_16 hrn_16 kc16_7 kc16_8 hi16 hm16
                refine pm_iloadi hG dX12_promise_81 rfl ?_
                refine pm_iloadi hG dX12_promise_83 rfl ?_
                refine pm_icmpN_ge (tgt := 133) hG dX12_promise_85 rfl (by omega) (by omega) (fun c17 => ?_) (fun c17 => ?_)
                · refine pm_aloadn hG dX12_promise_133 rfl ?_
                  refine pm_getf hG dX12_promise_134 (flX12_7 _ rfl) rfl rfl ?_
                  refine pm_bipush (v := nI 7) hG dX12_promise_137 (by decide) ?_
                  refine pm_dup2 hG dX12_promise_139 rfl rfl ?_
                  refine pm_ialdN hG dX12_promise_140 rfl (by decide) (by omega) ?_
                  refine pm_top (v := nI k14) kc16_7 ?_
                  refine pm_iconst (v := nI 1) hG dX12_promise_141 (by decide) ?_
                  refine pm_iaddN (c := k14 + 1) hG dX12_promise_142 (by omega) ?_
                  refine pm_iastN hG dX12_promise_143 rfl (by decide) (by omega) ?_
                  refine mdn_now (fun n_18 en_18 => ?_)
                  have hnn_18 := KI.w en_18 hnn_16 (okv_n (show kd 7 = (1, 31, false) by decide) (by omega))
                  have hrn_18 := NRx.w en_18 hrn_16 (by rw [(show kd 7 = (1, 31, false) by decide)])
                  have e19 : n_18 8 = nI kc8 := by rw [en_18, pk_un (by omega)]; exact kc16_8
                  have e20 : n_18 7 = nI (k14 + 1) := by rw [en_18, pk_us]
                  refine pm_aloadn hG dX12_promise_144 rfl ?_
                  refine pm_getf hG dX12_promise_145 (flX12_7 _ rfl) rfl rfl ?_
                  refine pm_sipush (v := nI 1806) hG dX12_promise_148 (by decide) ?_
                  refine pm_bipush (v := nI 6) hG dX12_promise_151 (by decide) ?_
                  refine pm_iloadi hG dX12_promise_153 rfl ?_
                  refine pm_imulN (c := 6 * k14) hG dX12_promise_155 (by omega) ?_
                  refine pm_iaddN (c := 6 * k14 + 1806) hG dX12_promise_156 (by omega) ?_
                  refine pm_iloadn hG dX12_promise_157 rfl ?_
                  refine pm_top (v := nI k4) ek4 ?_
                  refine pm_iastN hG dX12_promise_158 rfl (by decide) (by omega) ?_
                  refine mdn_now (fun n_21 en_21 => ?_)
                  have hnn_21 := KI.w en_21 hnn_18 (okv_n (show kd (6 * k14 + 1806) = (1, 20, false) from (kd_Q (k := k14) (c := 0) (by omega) (by omega) (by decide))) (by omega))
                  have hrn_21 := NRx.w en_21 hrn_18 (by rw [(show kd (6 * k14 + 1806) = (1, 20, false) from (kd_Q (k := k14) (c := 0) (by omega) (by omega) (by decide)))])
                  have e22 : n_21 8 = nI kc8 := by rw [en_21, pk_un (by omega)]; exact e19
                  have e23 : n_21 7 = nI (k14 + 1) := by rw [en_21, pk_un (by omega)]; exact e20
                  have e24 : n_21 (6 * k14 + 1806) = nI k4 := by rw [en_21, pk_us]
                  refine pm_aloadn hG dX12_promise_159 rfl ?_
                  refine pm_getf hG dX12_promise_160 (flX12_7 _ rfl) rfl rfl ?_
                  refine pm_sipush (v := nI 1806) hG dX12_promise_163 (by decide) ?_
                  refine pm_bipush (v := nI 6) hG dX12_promise_166 (by decide) ?_
                  refine pm_iloadi hG dX12_promise_168 rfl ?_
                  refine pm_imulN (c := 6 * k14) hG dX12_promise_170 (by omega) ?_
                  refine pm_iaddN (c := 6 * k14 + 1806) hG dX12_promise_171 (by omega) ?_
                  refine pm_iconst (v := nI 1) hG dX12_promise_172 (by decide) ?_
                  refine pm_iaddN (c := 6 * k14 + 1807) hG dX12_promise_173 (by omega) ?_
                  refine pm_iloadn hG dX12_promise_174 rfl ?_
                  refine pm_top (v := nI k7) ek7 ?_
                  refine pm_iastN hG dX12_promise_175 rfl (by decide) (by omega) ?_
                  refine mdn_now (fun n_25 en_25 => ?_)
                  have hnn_25 := KI.w en_25 hnn_21 (okv_f (show kd (6 * k14 + 1807) = (0, 0, false) from (kd_Q (k := k14) (c := 1) (by omega) (by omega) (by decide))))
                  have hrn_25 := NRx.w en_25 hrn_21 (by rw [(show kd (6 * k14 + 1807) = (0, 0, false) from (kd_Q (k := k14) (c := 1) (by omega) (by omega) (by decide)))])
                  have e26 : n_25 8 = nI kc8 := by rw [en_25, pk_un (by omega)]; exact e22
                  have e27 : n_25 7 = nI (k14 + 1) := by rw [en_25, pk_un (by omega)]; exact e23
                  have e28 : n_25 (6 * k14 + 1806) = nI k4 := by rw [en_25, pk_un (by omega)]; exact e24
                  have e29 : n_25 (6 * k14 + 1807) = nI k7 := by rw [en_25, pk_us]
                  refine pm_aloadn hG dX12_promise_176 rfl ?_
                  refine pm_getf hG dX12_promise_177 (flX12_7 _ rfl) rfl rfl ?_
                  refine pm_sipush (v := nI 1806) hG dX12_promise_180 (by decide) ?_
                  refine pm_bipush (v := nI 6) hG dX12_promise_183 (by decide) ?_
                  refine pm_iloadi hG dX12_promise_185 rfl ?_
                  refine pm_imulN (c := 6 * k14) hG dX12_promise_187 (by omega) ?_
                  refine pm_iaddN (c := 6 * k14 + 1806) hG dX12_promise_188 (by omega) ?_
                  refine pm_iconst (v := nI 2) hG dX12_promise_189 (by decide) ?_
                  refine pm_iaddN (c := 6 * k14 + 1808) hG dX12_promise_190 (by omega) ?_
                  refine pm_iloadn hG dX12_promise_191 rfl ?_
                  refine pm_top (v := nI k10) ek10 ?_
                  refine pm_iastN hG dX12_promise_192 rfl (by decide) (by omega) ?_
                  refine mdn_now (fun n_30 en_30 => ?_)
                  have hnn_30 := KI.w en_30 hnn_25 (okv_f (show kd (6 * k14 + 1808) = (0, 0, false) from (kd_Q (k := k14) (c := 2) (by omega) (by omega) (by decide))))
                  have hrn_30 := NRx.w en_30 hrn_25 (by rw [(show kd (6 * k14 + 1808) = (0, 0, false) from (kd_Q (k := k14) (c := 2) (by omega) (by omega) (by decide)))])
                  have e31 : n_30 8 = nI kc8 := by rw [en_30, pk_un (by omega)]; exact e26
                  have e32 : n_30 7 = nI (k14 + 1) := by rw [en_30, pk_un (by omega)]; exact e27
                  have e33 : n_30 (6 * k14 + 1806) = nI k4 := by rw [en_30, pk_un (by omega)]; exact e28
                  have e34 : n_30 (6 * k14 + 1807) = nI k7 := by rw [en_30, pk_un (by omega)]; exact e29
                  have e35 : n_30 (6 * k14 + 1808) = nI k10 := by rw [en_30, pk_us]
                  refine pm_aloadn hG dX12_promise_193 rfl ?_
                  refine pm_getf hG dX12_promise_194 (flX12_7 _ rfl) rfl rfl ?_
                  refine pm_sipush (v := nI 1806) hG dX12_promise_197 (by decide) ?_
                  refine pm_bipush (v := nI 6) hG dX12_promise_200 (by decide) ?_
                  refine pm_iloadi hG dX12_promise_202 rfl ?_
                  refine pm_imulN (c := 6 * k14) hG dX12_promise_204 (by omega) ?_
                  refine pm_iaddN (c := 6 * k14 + 1806) hG dX12_promise_205 (by omega) ?_
                  refine pm_iconst (v := nI 3) hG dX12_promise_206 (by decide) ?_
                  refine pm_iaddN (c := 6 * k14 + 1809) hG dX12_promise_207 (by omega) ?_
                  refine pm_iloadi hG dX12_promise_208 rfl ?_
                  refine pm_if_eq (tgt := 217) hG dX12_promise_210 rfl (fun c36 => ?_) (fun c36 => ?_)
                  · refine pm_iconst (v := nI 0) hG dX12_promise_217 (by decide) ?_
                    refine pm_iastN hG dX12_promise_218 rfl (by decide) (by omega) ?_
                    refine mdn_now (fun n_37 en_37 => ?_)
                    have hnn_37 := KI.w en_37 hnn_30 (okv_f (show kd (6 * k14 + 1809) = (0, 0, false) from (kd_Q (k := k14) (c := 3) (by omega) (by omega) (by decide))))
                    have hrn_37 := NRx.w en_37 hrn_30 (by rw [(show kd (6 * k14 + 1809) = (0, 0, false) from (kd_Q (k := k14) (c := 3) (by omega) (by omega) (by decide)))])
                    have e38 : n_37 8 = nI kc8 := by rw [en_37, pk_un (by omega)]; exact e31
                    have e39 : n_37 7 = nI (k14 + 1) := by rw [en_37, pk_un (by omega)]; exact e32
                    have e40 : n_37 (6 * k14 + 1806) = nI k4 := by rw [en_37, pk_un (by omega)]; exact e33
                    have e41 : n_37 (6 * k14 + 1807) = nI k7 := by rw [en_37, pk_un (by omega)]; exact e34
                    have e42 : n_37 (6 * k14 + 1808) = nI k10 := by rw [en_37, pk_un (by omega)]; exact e35
                    have e43 : n_37 (6 * k14 + 1809) = nI 0 := by rw [en_37, pk_us]
                    refine pm_aloadn hG dX12_promise_219 rfl ?_
                    refine pm_getf hG dX12_promise_220 (flX12_7 _ rfl) rfl rfl ?_
                    refine pm_sipush (v := nI 1806) hG dX12_promise_223 (by decide) ?_
                    refine pm_bipush (v := nI 6) hG dX12_promise_226 (by decide) ?_
                    refine pm_iloadi hG dX12_promise_228 rfl ?_
                    refine pm_imulN (c := 6 * k14) hG dX12_promise_230 (by omega) ?_
                    refine pm_iaddN (c := 6 * k14 + 1806) hG dX12_promise_231 (by omega) ?_
                    refine pm_iconst (v := nI 4) hG dX12_promise_232 (by decide) ?_
                    refine pm_iaddN (c := 6 * k14 + 1810) hG dX12_promise_233 (by omega) ?_
                    refine pm_iconst (v := nI 0) hG dX12_promise_234 (by decide) ?_
                    refine pm_iastN hG dX12_promise_235 rfl (by decide) (by omega) ?_
                    refine mdn_now (fun n_44 en_44 => ?_)
                    have hnn_44 := KI.w en_44 hnn_37 (okv_f (show kd (6 * k14 + 1810) = (0, 0, false) from (kd_Q (k := k14) (c := 4) (by omega) (by omega) (by decide))))
                    have hrn_44 := NRx.w en_44 hrn_37 (by rw [(show kd (6 * k14 + 1810) = (0, 0, false) from (kd_Q (k := k14) (c := 4) (by omega) (by omega) (by decide)))])
                    have e45 : n_44 8 = nI kc8 := by rw [en_44, pk_un (by omega)]; exact e38
                    have e46 : n_44 7 = nI (k14 + 1) := by rw [en_44, pk_un (by omega)]; exact e39
                    have e47 : n_44 (6 * k14 + 1806) = nI k4 := by rw [en_44, pk_un (by omega)]; exact e40
                    have e48 : n_44 (6 * k14 + 1807) = nI k7 := by rw [en_44, pk_un (by omega)]; exact e41
                    have e49 : n_44 (6 * k14 + 1808) = nI k10 := by rw [en_44, pk_un (by omega)]; exact e42
                    have e50 : n_44 (6 * k14 + 1809) = nI 0 := by rw [en_44, pk_un (by omega)]; exact e43
                    have e51 : n_44 (6 * k14 + 1810) = nI 0 := by rw [en_44, pk_us]
                    refine pm_aloadn hG dX12_promise_236 rfl ?_
                    refine pm_getf hG dX12_promise_237 (flX12_7 _ rfl) rfl rfl ?_
                    refine pm_sipush (v := nI 1806) hG dX12_promise_240 (by decide) ?_
                    refine pm_bipush (v := nI 6) hG dX12_promise_243 (by decide) ?_
                    refine pm_iloadi hG dX12_promise_245 rfl ?_
                    refine pm_imulN (c := 6 * k14) hG dX12_promise_247 (by omega) ?_
                    refine pm_iaddN (c := 6 * k14 + 1806) hG dX12_promise_248 (by omega) ?_
                    refine pm_iconst (v := nI 5) hG dX12_promise_249 (by decide) ?_
                    refine pm_iaddN (c := 6 * k14 + 1811) hG dX12_promise_250 (by omega) ?_
                    refine pm_iconst (v := nI 0) hG dX12_promise_251 (by decide) ?_
                    refine pm_iastN hG dX12_promise_252 rfl (by decide) (by omega) ?_
                    refine mdn_now (fun n_52 en_52 => ?_)
                    have hnn_52 := KI.w en_52 hnn_44 (okv_f (show kd (6 * k14 + 1811) = (0, 0, false) from (kd_Q (k := k14) (c := 5) (by omega) (by omega) (by decide))))
                    have hrn_52 := NRx.w en_52 hrn_44 (by rw [(show kd (6 * k14 + 1811) = (0, 0, false) from (kd_Q (k := k14) (c := 5) (by omega) (by omega) (by decide)))])
                    have e53 : n_52 8 = nI kc8 := by rw [en_52, pk_un (by omega)]; exact e45
                    have e54 : n_52 7 = nI (k14 + 1) := by rw [en_52, pk_un (by omega)]; exact e46
                    have e55 : n_52 (6 * k14 + 1806) = nI k4 := by rw [en_52, pk_un (by omega)]; exact e47
                    have e56 : n_52 (6 * k14 + 1807) = nI k7 := by rw [en_52, pk_un (by omega)]; exact e48
                    have e57 : n_52 (6 * k14 + 1808) = nI k10 := by rw [en_52, pk_un (by omega)]; exact e49
                    have e58 : n_52 (6 * k14 + 1809) = nI 0 := by rw [en_52, pk_un (by omega)]; exact e50
                    have e59 : n_52 (6 * k14 + 1810) = nI 0 := by rw [en_52, pk_un (by omega)]; exact e51
                    have e60 : n_52 (6 * k14 + 1811) = nI 0 := by rw [en_52, pk_us]
                    refine pm_iloadi hG dX12_promise_253 rfl ?_
                    exact pm_iret hG hF dX12_promise_255 rfl (Nat.le_refl _) (Nat.le_refl _) ⟨_, rfl, ⟨_, _, _, rfl, hnn_52, hrn_52, e53.trans ekc8.symm⟩, rfl⟩
                  · refine pm_iconst (v := nI 1) hG dX12_promise_213 (by decide) ?_
                    refine pm_goto (tgt := 218) hG dX12_promise_214 rfl ?_
                    refine pm_iastN hG dX12_promise_218 rfl (by decide) (by omega) ?_
                    refine mdn_now (fun n_61 en_61 => ?_)
                    have hnn_61 := KI.w en_61 hnn_30 (okv_f (show kd (6 * k14 + 1809) = (0, 0, false) from (kd_Q (k := k14) (c := 3) (by omega) (by omega) (by decide))))
                    have hrn_61 := NRx.w en_61 hrn_30 (by rw [(show kd (6 * k14 + 1809) = (0, 0, false) from (kd_Q (k := k14) (c := 3) (by omega) (by omega) (by decide)))])
                    have e62 : n_61 8 = nI kc8 := by rw [en_61, pk_un (by omega)]; exact e31
                    have e63 : n_61 7 = nI (k14 + 1) := by rw [en_61, pk_un (by omega)]; exact e32
                    have e64 : n_61 (6 * k14 + 1806) = nI k4 := by rw [en_61, pk_un (by omega)]; exact e33
                    have e65 : n_61 (6 * k14 + 1807) = nI k7 := by rw [en_61, pk_un (by omega)]; exact e34
                    have e66 : n_61 (6 * k14 + 1808) = nI k10 := by rw [en_61, pk_un (by omega)]; exact e35
                    have e67 : n_61 (6 * k14 + 1809) = nI 1 := by rw [en_61, pk_us]
                    refine pm_aloadn hG dX12_promise_219 rfl ?_
                    refine pm_getf hG dX12_promise_220 (flX12_7 _ rfl) rfl rfl ?_
                    refine pm_sipush (v := nI 1806) hG dX12_promise_223 (by decide) ?_
                    refine pm_bipush (v := nI 6) hG dX12_promise_226 (by decide) ?_
                    refine pm_iloadi hG dX12_promise_228 rfl ?_
                    refine pm_imulN (c := 6 * k14) hG dX12_promise_230 (by omega) ?_
                    refine pm_iaddN (c := 6 * k14 + 1806) hG dX12_promise_231 (by omega) ?_
                    refine pm_iconst (v := nI 4) hG dX12_promise_232 (by decide) ?_
                    refine pm_iaddN (c := 6 * k14 + 1810) hG dX12_promise_233 (by omega) ?_
                    refine pm_iconst (v := nI 0) hG dX12_promise_234 (by decide) ?_
                    refine pm_iastN hG dX12_promise_235 rfl (by decide) (by omega) ?_
                    refine mdn_now (fun n_68 en_68 => ?_)
                    have hnn_68 := KI.w en_68 hnn_61 (okv_f (show kd (6 * k14 + 1810) = (0, 0, false) from (kd_Q (k := k14) (c := 4) (by omega) (by omega) (by decide))))
                    have hrn_68 := NRx.w en_68 hrn_61 (by rw [(show kd (6 * k14 + 1810) = (0, 0, false) from (kd_Q (k := k14) (c := 4) (by omega) (by omega) (by decide)))])
                    have e69 : n_68 8 = nI kc8 := by rw [en_68, pk_un (by omega)]; exact e62
                    have e70 : n_68 7 = nI (k14 + 1) := by rw [en_68, pk_un (by omega)]; exact e63
                    have e71 : n_68 (6 * k14 + 1806) = nI k4 := by rw [en_68, pk_un (by omega)]; exact e64
                    have e72 : n_68 (6 * k14 + 1807) = nI k7 := by rw [en_68, pk_un (by omega)]; exact e65
                    have e73 : n_68 (6 * k14 + 1808) = nI k10 := by rw [en_68, pk_un (by omega)]; exact e66
                    have e74 : n_68 (6 * k14 + 1809) = nI 1 := by rw [en_68, pk_un (by omega)]; exact e67
                    have e75 : n_68 (6 * k14 + 1810) = nI 0 := by rw [en_68, pk_us]
                    refine pm_aloadn hG dX12_promise_236 rfl ?_
                    refine pm_getf hG dX12_promise_237 (flX12_7 _ rfl) rfl rfl ?_
                    refine pm_sipush (v := nI 1806) hG dX12_promise_240 (by decide) ?_
                    refine pm_bipush (v := nI 6) hG dX12_promise_243 (by decide) ?_
                    refine pm_iloadi hG dX12_promise_245 rfl ?_
                    refine pm_imulN (c := 6 * k14) hG dX12_promise_247 (by omega) ?_
                    refine pm_iaddN (c := 6 * k14 + 1806) hG dX12_promise_248 (by omega) ?_
                    refine pm_iconst (v := nI 5) hG dX12_promise_249 (by decide) ?_
                    refine pm_iaddN (c := 6 * k14 + 1811) hG dX12_promise_250 (by omega) ?_
                    refine pm_iconst (v := nI 0) hG dX12_promise_251 (by decide) ?_
                    refine pm_iastN hG dX12_promise_252 rfl (by decide) (by omega) ?_
                    refine mdn_now (fun n_76 en_76 => ?_)
                    have hnn_76 := KI.w en_76 hnn_68 (okv_f (show kd (6 * k14 + 1811) = (0, 0, false) from (kd_Q (k := k14) (c := 5) (by omega) (by omega) (by decide))))
                    have hrn_76 := NRx.w en_76 hrn_68 (by rw [(show kd (6 * k14 + 1811) = (0, 0, false) from (kd_Q (k := k14) (c := 5) (by omega) (by omega) (by decide)))])
                    have e77 : n_76 8 = nI kc8 := by rw [en_76, pk_un (by omega)]; exact e69
                    have e78 : n_76 7 = nI (k14 + 1) := by rw [en_76, pk_un (by omega)]; exact e70
                    have e79 : n_76 (6 * k14 + 1806) = nI k4 := by rw [en_76, pk_un (by omega)]; exact e71
                    have e80 : n_76 (6 * k14 + 1807) = nI k7 := by rw [en_76, pk_un (by omega)]; exact e72
                    have e81 : n_76 (6 * k14 + 1808) = nI k10 := by rw [en_76, pk_un (by omega)]; exact e73
                    have e82 : n_76 (6 * k14 + 1809) = nI 1 := by rw [en_76, pk_un (by omega)]; exact e74
                    have e83 : n_76 (6 * k14 + 1810) = nI 0 := by rw [en_76, pk_un (by omega)]; exact e75
                    have e84 : n_76 (6 * k14 + 1811) = nI 0 := by rw [en_76, pk_us]
                    refine pm_iloadi hG dX12_promise_253 rfl ?_
                    exact pm_iret hG hF dX12_promise_255 rfl (Nat.le_refl _) (Nat.le_refl _) ⟨_, rfl, ⟨_, _, _, rfl, hnn_76, hrn_76, e77.trans ekc8.symm⟩, rfl⟩
                · refine pm_aloadn hG dX12_promise_88 rfl ?_
                  refine pm_iloadi hG dX12_promise_89 rfl ?_
                  refine pm_iconst (v := nI 0) hG dX12_promise_91 (by decide) ?_
                  refine pm_callV (As := [.int (nI i16), .int (nI 0)]) (rest := []) hG hR dX12_promise_92 (lkX12_223 _ rfl) okV_X12_promised rfl rfl (m_promised (d := 1) (e := 6 * i16 + 1806) (by omega) (by omega) (by omega)) rfl rfl hdd (Nat.le_refl _) (Nat.le_refl _) (by decide) (pm_ki (fun v85 σ' cnt' hq => ?_))
                  obtain ⟨rfl, rfl, rfl⟩ := hq
                  obtain ⟨k86, hk86, ek86⟩ := KI.nat hnn_16 (show kd (6 * i16 + 1806) = (1, 20, false) from (kd_Q (k := i16) (c := 0) (by omega) (by omega) (by decide)))
                  refine pm_top (v := nI k86) ek86 ?_
                  refine pm_iloadn hG dX12_promise_95 rfl ?_
                  refine pm_top (v := nI k4) ek4 ?_
                  refine pm_icmpN_ne (tgt := 127) hG dX12_promise_96 rfl (by omega) (by omega) (fun c87 => ?_) (fun c87 => ?_)
                  · refine pm_iincX (v := nI (i16 + 1)) (loc' := [some (.ref (B + 54)), some (.int za), some (.int zb), some (.int zc), some (.int zd), some (.int (nI k14)), some (.int (nI (i16 + 1)))]) hG dX12_promise_127 rfl (nI_1 _) (by decide) (pm_c1b rfl) rfl ?_
                    refine pm_goto (tgt := 81) hG dX12_promise_130 rfl ?_
                    exact ih16 I16 A16 n_16 (i16 + 1) hnn_16 hrn_16 (kc16_7.trans (congrArg nI (by omega))) (kc16_8.trans (congrArg nI (by omega))) (by omega) (by omega)
                  · refine pm_aloadn hG dX12_promise_99 rfl ?_
                    refine pm_iloadi hG dX12_promise_100 rfl ?_
                    refine pm_iconst (v := nI 1) hG dX12_promise_102 (by decide) ?_
                    refine pm_callV (As := [.int (nI i16), .int (nI 1)]) (rest := []) hG hR dX12_promise_103 (lkX12_223 _ rfl) okV_X12_promised rfl rfl (m_promised (d := 1) (e := 6 * i16 + 1807) (by omega) (by omega) (by omega)) rfl rfl hdd (Nat.le_refl _) (Nat.le_refl _) (by decide) (pm_ki (fun v88 σ' cnt' hq => ?_))
                    obtain ⟨rfl, rfl, rfl⟩ := hq
                    refine pm_gen (fun x89 ex89 => ?_)
                    refine pm_iloadn hG dX12_promise_106 rfl ?_
                    refine pm_top (v := nI k7) ek7 ?_
                    refine pm_icmp_ne (tgt := 127) hG dX12_promise_107 rfl (fun c90 => ?_) (fun c90 => ?_)
                    · refine pm_iincX (v := nI (i16 + 1)) (loc' := [some (.ref (B + 54)), some (.int za), some (.int zb), some (.int zc), some (.int zd), some (.int (nI k14)), some (.int (nI (i16 + 1)))]) hG dX12_promise_127 rfl (nI_1 _) (by decide) (pm_c1b rfl) rfl ?_
                      refine pm_goto (tgt := 81) hG dX12_promise_130 rfl ?_
                      exact ih16 I16 A16 n_16 (i16 + 1) hnn_16 hrn_16 (kc16_7.trans (congrArg nI (by omega))) (kc16_8.trans (congrArg nI (by omega))) (by omega) (by omega)
                    · refine pm_aloadn hG dX12_promise_110 rfl ?_
                      refine pm_getf hG dX12_promise_111 (flX12_7 _ rfl) rfl rfl ?_
                      refine pm_sipush (v := nI 1806) hG dX12_promise_114 (by decide) ?_
                      refine pm_bipush (v := nI 6) hG dX12_promise_117 (by decide) ?_
                      refine pm_iloadi hG dX12_promise_119 rfl ?_
                      refine pm_imulN (c := 6 * i16) hG dX12_promise_121 (by omega) ?_
                      refine pm_iaddN (c := 6 * i16 + 1806) hG dX12_promise_122 (by omega) ?_
                      refine pm_iconst (v := nI 5) hG dX12_promise_123 (by decide) ?_
                      refine pm_iaddN (c := 6 * i16 + 1811) hG dX12_promise_124 (by omega) ?_
                      refine pm_iconst (v := nI 1) hG dX12_promise_125 (by decide) ?_
                      refine pm_iastN hG dX12_promise_126 rfl (by decide) (by omega) ?_
                      refine mdn_now (fun n_91 en_91 => ?_)
                      have hnn_91 := KI.w en_91 hnn_16 (okv_f (show kd (6 * i16 + 1811) = (0, 0, false) from (kd_Q (k := i16) (c := 5) (by omega) (by omega) (by decide))))
                      have hrn_91 := NRx.w en_91 hrn_16 (by rw [(show kd (6 * i16 + 1811) = (0, 0, false) from (kd_Q (k := i16) (c := 5) (by omega) (by omega) (by decide)))])
                      have e92 : n_91 7 = nI k14 := by rw [en_91, pk_un (by omega)]; exact kc16_7
                      have e93 : n_91 8 = nI kc8 := by rw [en_91, pk_un (by omega)]; exact kc16_8
                      have e94 : n_91 (6 * i16 + 1806) = nI k86 := by rw [en_91, pk_un (by omega)]; exact ek86
                      have e95 : n_91 (6 * i16 + 1807) = x89 := by rw [en_91, pk_un (by omega)]; exact ex89
                      have e96 : n_91 (6 * i16 + 1811) = nI 1 := by rw [en_91, pk_us]
                      refine pm_iincX (v := nI (i16 + 1)) (loc' := [some (.ref (B + 54)), some (.int za), some (.int zb), some (.int zc), some (.int zd), some (.int (nI k14)), some (.int (nI (i16 + 1)))]) hG dX12_promise_127 rfl (nI_1 _) (by decide) (pm_c1b rfl) rfl ?_
                      refine pm_goto (tgt := 81) hG dX12_promise_130 rfl ?_
                      exact ih16 I16 A16 n_91 (i16 + 1) hnn_91 hrn_91 (e92.trans (congrArg nI (by omega))) (e93.trans (congrArg nI (by omega))) (by omega) (by omega)
            exact loop81_16 _ I A n 0 hn hr (ek14.trans (congrArg nI (by omega))) (ekc8.trans (congrArg nI (by omega))) (by omega) (Nat.lt_succ_self _)
          · refine pm_aloadn hG dX12_promise_72 rfl ?_
            refine pm_iconst (v := nI 4) hG dX12_promise_73 (by decide) ?_
            refine pm_callV (As := [.int (nI 4)]) (rest := []) hG hR dX12_promise_74 (lkX12_80 _ rfl) okV_X12_finds rfl rfl (m_finds (d := 1) (by decide) hn hz (by omega)) rfl rfl hdd (Nat.le_refl _) (Nat.le_refl _) (by decide) (pm_ki (fun v97 σ' cnt' hq => ?_))
            obtain ⟨⟨I98, A98, rfl⟩, rfl, fv97⟩ := hq
            exact pm_iret hG hF dX12_promise_77 rfl (Nat.le_refl _) (Nat.le_refl _) ⟨_, rfl, ⟨_, _, _, rfl, hn, hr, ekc8.trans ekc8.symm⟩, rfl⟩
        · refine pm_aloadn hG dX12_promise_50 rfl ?_
          refine pm_iconst (v := nI 3) hG dX12_promise_51 (by decide) ?_
          refine pm_callV (As := [.int (nI 3)]) (rest := []) hG hR dX12_promise_52 (lkX12_80 _ rfl) okV_X12_finds rfl rfl (m_finds (d := 1) (by decide) hn hz (by omega)) rfl rfl hdd (Nat.le_refl _) (Nat.le_refl _) (by decide) (pm_ki (fun v99 σ' cnt' hq => ?_))
          obtain ⟨⟨I100, A100, rfl⟩, rfl, fv99⟩ := hq
          exact pm_iret hG hF dX12_promise_55 rfl (Nat.le_refl _) (Nat.le_refl _) ⟨_, rfl, ⟨_, _, _, rfl, hn, hr, ekc8.trans ekc8.symm⟩, rfl⟩
      · refine pm_ifN_ne (tgt := 40) hG dX12_promise_31 rfl (by omega) (fun q => absurd q (by omega)) (fun _ => ?_)
        refine pm_aloadn hG dX12_promise_34 rfl ?_
        refine pm_iconst (v := nI 1) hG dX12_promise_35 (by decide) ?_
        refine pm_callV (As := [.int (nI 1)]) (rest := []) hG hR dX12_promise_36 (lkX12_80 _ rfl) okV_X12_finds rfl rfl (m_finds (d := 1) (by decide) hn hz (by omega)) rfl rfl hdd (Nat.le_refl _) (Nat.le_refl _) (by decide) (pm_ki (fun v101 σ' cnt' hq => ?_))
        obtain ⟨⟨I102, A102, rfl⟩, rfl, fv101⟩ := hq
        exact pm_iret hG hF dX12_promise_39 rfl (Nat.le_refl _) (Nat.le_refl _) ⟨_, rfl, ⟨_, _, _, rfl, hn, hr, ekc8.trans ekc8.symm⟩, rfl⟩
    · refine pm_ifN_eq (tgt := 34) hG dX12_promise_14 rfl (by omega) (fun _ => ?_) (fun q => absurd q (by omega))
      refine pm_aloadn hG dX12_promise_34 rfl ?_
      refine pm_iconst (v := nI 1) hG dX12_promise_35 (by decide) ?_
      refine pm_callV (As := [.int (nI 1)]) (rest := []) hG hR dX12_promise_36 (lkX12_80 _ rfl) okV_X12_finds rfl rfl (m_finds (d := 1) (by decide) hn hz (by omega)) rfl rfl hdd (Nat.le_refl _) (Nat.le_refl _) (by decide) (pm_ki (fun v103 σ' cnt' hq => ?_))
      obtain ⟨⟨I104, A104, rfl⟩, rfl, fv103⟩ := hq
      exact pm_iret hG hF dX12_promise_39 rfl (Nat.le_refl _) (Nat.le_refl _) ⟨_, rfl, ⟨_, _, _, rfl, hn, hr, ekc8.trans ekc8.symm⟩, rfl⟩
  · refine pm_ifN_eq (tgt := 34) hG dX12_promise_5 rfl (by omega) (fun _ => ?_) (fun q => absurd q (by omega))
    refine pm_aloadn hG dX12_promise_34 rfl ?_
    refine pm_iconst (v := nI 1) hG dX12_promise_35 (by decide) ?_
    refine pm_callV (As := [.int (nI 1)]) (rest := []) hG hR dX12_promise_36 (lkX12_80 _ rfl) okV_X12_finds rfl rfl (m_finds (d := 1) (by decide) hn hz (by omega)) rfl rfl hdd (Nat.le_refl _) (Nat.le_refl _) (by decide) (pm_ki (fun v105 σ' cnt' hq => ?_))
    obtain ⟨⟨I106, A106, rfl⟩, rfl, fv105⟩ := hq
    exact pm_iret hG hF dX12_promise_39 rfl (Nat.le_refl _) (Nat.le_refl _) ⟨_, rfl, ⟨_, _, _, rfl, hn, hr, ekc8.trans ekc8.symm⟩, rfl⟩

set_option maxRecDepth 100000 in
set_option maxHeartbeats 4000000 in
theorem m_put {d B cnt p0 t0 : Nat} {σ : pm_S} {I : Nat → Int32} {A : Nat → Nat → Int32} {n k z : Nat → Int32} {ac wt pl im : Int32} {za zb zc : Int32} (hdd : 2 ≤ d) (hn : KI n) (hz : SZ z)  : pm_met mX12_put d 0 0 B [.ref (B + 54), .int za, .int zb, .int zc] cnt (pm_mid σ (md_L B I A n k z ac wt pl (nI p0) (nI t0) im)) (pm_Qi (fun v σ' cnt' => (∃ (I' : Nat → Int32) (A' : Nat → Nat → Int32), σ' = pm_mid σ (md_L B I' A' n k z ac wt pl (nI p0) (nI t0) im)) ∧ cnt = cnt')) := by
  refine pm_enter 0 (by decide) (Nat.le_of_ble_eq_true rfl) rfl (fun G hG hR hF => ?_)
  refine pm_iloadn hG dX12_put_0 rfl ?_
  refine pm_callS (As := [.int za]) (rest := []) hG hR dX12_put_1 (lkX12_239 _ rfl) okS_X12_isSheet (m_isSheet (d := 1) (by decide)) rfl rfl hdd (Nat.le_refl _) (Nat.le_refl _) (by decide) (pm_ki (fun v1 σ' cnt' hq => ?_))
  obtain ⟨hq, rfl, rfl⟩ := hq
  rcases hq with ⟨rfl, ac2, bc2⟩ | ⟨rfl, c2⟩
  · obtain ⟨k3, hk3, ek3⟩ := in_nat (by omega) (by omega) ac2 bc2
    refine pm_ifN_ne (tgt := 13) hG dX12_put_4 rfl (by omega) (fun _ => ?_) (fun q => absurd q (by omega))
    refine pm_aloadn hG dX12_put_13 rfl ?_
    refine pm_getf hG dX12_put_14 (flX12_55 _ rfl) rfl rfl ?_
    refine pm_iloadn hG dX12_put_17 rfl ?_
    refine pm_top (v := nI k3) ek3 ?_
    refine pm_ialdN hG dX12_put_18 rfl (by decide) (by omega) ?_
    refine pm_any (fun x4 => ?_)
    refine pm_if_ne (tgt := 28) hG dX12_put_19 rfl (fun c5 => ?_) (fun c5 => ?_)
    · refine pm_iloadn hG dX12_put_28 rfl ?_
      refine pm_iconst (v := nI 0) hG dX12_put_29 (by decide) ?_
      refine pm_aloadn hG dX12_put_30 rfl ?_
      refine pm_getf hG dX12_put_31 (flX12_58 _ rfl) rfl rfl ?_
      refine pm_iloadn hG dX12_put_34 rfl ?_
      refine pm_top (v := nI k3) ek3 ?_
      refine pm_ialdN hG dX12_put_35 rfl (by decide) (by omega) ?_
      obtain ⟨k6, hk6, ek6⟩ := hz k3 (by omega)
      refine pm_top (v := nI k6) ek6 ?_
      refine pm_iconst (v := nI 1) hG dX12_put_36 (by decide) ?_
      refine pm_isub hG dX12_put_37 ?_
      refine pm_callS (As := [.int zb, .int (nI 0), .int ((nI k6) - (nI 1))]) (rest := []) hG hR dX12_put_38 (lkX12_68 _ rfl) okS_X12_in (m_in (d := 1)) rfl rfl hdd (Nat.le_refl _) (Nat.le_refl _) (by decide) (pm_ki (fun v7 σ' cnt' hq => ?_))
      obtain ⟨hq, rfl, rfl⟩ := hq
      rcases hq with ⟨rfl, ac8, bc8⟩ | ⟨rfl, c8⟩
      · obtain ⟨k9, hk9, ek9⟩ := in_cnt (c := k6) (by omega) ac8 bc8
        refine pm_ifN_ne (tgt := 50) hG dX12_put_41 rfl (by omega) (fun _ => ?_) (fun q => absurd q (by omega))
        refine pm_aloadn hG dX12_put_50 rfl ?_
        refine pm_getf hG dX12_put_51 (flX12_61 _ rfl) rfl rfl ?_
        refine pm_bipush (v := nI 24) hG dX12_put_54 (by decide) ?_
        refine pm_iloadn hG dX12_put_56 rfl ?_
        refine pm_top (v := nI k3) ek3 ?_
        refine pm_imulN (c := 24 * k3) hG dX12_put_57 (by omega) ?_
        refine pm_iloadn hG dX12_put_58 rfl ?_
        refine pm_top (v := nI k9) ek9 ?_
        refine pm_iaddN (c := 24 * k3 + k9) hG dX12_put_59 (by omega) ?_
        refine pm_aloadn hG dX12_put_60 rfl ?_
        refine pm_getf hG dX12_put_61 (flX12_55 _ rfl) rfl rfl ?_
        refine pm_iloadn hG dX12_put_64 rfl ?_
        refine pm_top (v := nI k3) ek3 ?_
        refine pm_ialdN hG dX12_put_65 rfl (by decide) (by omega) ?_
        refine pm_any (fun x10 => ?_)
        refine pm_bipush (v := nI 8) hG dX12_put_66 (by decide) ?_
        refine pm_icmp_ne (tgt := 76) hG dX12_put_68 rfl (fun c11 => ?_) (fun c11 => ?_)
        · refine pm_aloadn hG dX12_put_76 rfl ?_
          refine pm_getf hG dX12_put_77 (flX12_55 _ rfl) rfl rfl ?_
          refine pm_iloadn hG dX12_put_80 rfl ?_
          refine pm_top (v := nI k3) ek3 ?_
          refine pm_ialdN hG dX12_put_81 rfl (by decide) (by omega) ?_
          refine pm_any (fun x12 => ?_)
          refine pm_bipush (v := nI 16) hG dX12_put_82 (by decide) ?_
          refine pm_icmp_ne (tgt := 92) hG dX12_put_84 rfl (fun c13 => ?_) (fun c13 => ?_)
          · refine pm_iloadn hG dX12_put_92 rfl ?_
            refine pm_iastN hG dX12_put_93 rfl (by decide) (by omega) ?_
            refine mdn_sheets (fun A_14 => ?_)
            refine pm_iconst (v := nI 1) hG dX12_put_94 (by decide) ?_
            exact pm_iret hG hF dX12_put_95 rfl (Nat.le_refl _) (Nat.le_refl _) ⟨_, rfl, ⟨_, _, rfl⟩, rfl⟩
          · refine pm_iloadn hG dX12_put_87 rfl ?_
            refine pm_i2s hG dX12_put_88 rfl ?_
            refine pm_any (fun x15 => ?_)
            refine pm_goto (tgt := 93) hG dX12_put_89 rfl ?_
            refine pm_iastN hG dX12_put_93 rfl (by decide) (by omega) ?_
            refine mdn_sheets (fun A_16 => ?_)
            refine pm_iconst (v := nI 1) hG dX12_put_94 (by decide) ?_
            exact pm_iret hG hF dX12_put_95 rfl (Nat.le_refl _) (Nat.le_refl _) ⟨_, rfl, ⟨_, _, rfl⟩, rfl⟩
        · refine pm_iloadn hG dX12_put_71 rfl ?_
          refine pm_i2b hG dX12_put_72 rfl ?_
          refine pm_any (fun x17 => ?_)
          refine pm_goto (tgt := 93) hG dX12_put_73 rfl ?_
          refine pm_iastN hG dX12_put_93 rfl (by decide) (by omega) ?_
          refine mdn_sheets (fun A_18 => ?_)
          refine pm_iconst (v := nI 1) hG dX12_put_94 (by decide) ?_
          exact pm_iret hG hF dX12_put_95 rfl (Nat.le_refl _) (Nat.le_refl _) ⟨_, rfl, ⟨_, _, rfl⟩, rfl⟩
      · refine pm_ifN_ne (tgt := 50) hG dX12_put_41 rfl (by omega) (fun q => absurd q (by omega)) (fun _ => ?_)
        refine pm_aloadn hG dX12_put_44 rfl ?_
        refine pm_iconst (v := nI 1) hG dX12_put_45 (by decide) ?_
        refine pm_callV (As := [.int (nI 1)]) (rest := []) hG hR dX12_put_46 (lkX12_80 _ rfl) okV_X12_finds rfl rfl (m_finds (d := 1) (by decide) hn hz (by omega)) rfl rfl hdd (Nat.le_refl _) (Nat.le_refl _) (by decide) (pm_ki (fun v19 σ' cnt' hq => ?_))
        obtain ⟨⟨I20, A20, rfl⟩, rfl, fv19⟩ := hq
        exact pm_iret hG hF dX12_put_49 rfl (Nat.le_refl _) (Nat.le_refl _) ⟨_, rfl, ⟨_, _, rfl⟩, rfl⟩
    · refine pm_aloadn hG dX12_put_22 rfl ?_
      refine pm_iconst (v := nI 2) hG dX12_put_23 (by decide) ?_
      refine pm_callV (As := [.int (nI 2)]) (rest := []) hG hR dX12_put_24 (lkX12_80 _ rfl) okV_X12_finds rfl rfl (m_finds (d := 1) (by decide) hn hz (by omega)) rfl rfl hdd (Nat.le_refl _) (Nat.le_refl _) (by decide) (pm_ki (fun v21 σ' cnt' hq => ?_))
      obtain ⟨⟨I22, A22, rfl⟩, rfl, fv21⟩ := hq
      exact pm_iret hG hF dX12_put_27 rfl (Nat.le_refl _) (Nat.le_refl _) ⟨_, rfl, ⟨_, _, rfl⟩, rfl⟩
  · refine pm_ifN_ne (tgt := 13) hG dX12_put_4 rfl (by omega) (fun q => absurd q (by omega)) (fun _ => ?_)
    refine pm_aloadn hG dX12_put_7 rfl ?_
    refine pm_iconst (v := nI 1) hG dX12_put_8 (by decide) ?_
    refine pm_callV (As := [.int (nI 1)]) (rest := []) hG hR dX12_put_9 (lkX12_80 _ rfl) okV_X12_finds rfl rfl (m_finds (d := 1) (by decide) hn hz (by omega)) rfl rfl hdd (Nat.le_refl _) (Nat.le_refl _) (by decide) (pm_ki (fun v23 σ' cnt' hq => ?_))
    obtain ⟨⟨I24, A24, rfl⟩, rfl, fv23⟩ := hq
    exact pm_iret hG hF dX12_put_12 rfl (Nat.le_refl _) (Nat.le_refl _) ⟨_, rfl, ⟨_, _, rfl⟩, rfl⟩

set_option maxRecDepth 100000 in
set_option maxHeartbeats 4000000 in
theorem m_ranksPower {d B cnt p0 t0 : Nat} {σ : pm_S} {I : Nat → Int32} {A : Nat → Nat → Int32} {n k z : Nat → Int32} {ac wt pl im : Int32} {zb : Int32} {ba : Nat} (hdd : 2 ≤ d) (hn : KI n) (hz : SZ z) (ht0 : t0 ≤ 40) (hba : ba < 20) : pm_met mX12_ranksPower d 0 0 B [.ref (B + 54), .int (nI ba), .int zb] cnt (pm_mid σ (md_L B I A n k z ac wt pl (nI p0) (nI t0) im)) (pm_Qi (fun v σ' cnt' => (∃ (I' : Nat → Int32) (A' : Nat → Nat → Int32) (t0' : Nat), σ' = pm_mid σ (md_L B I' A' n k z ac wt pl (nI p0) (nI t0') im) ∧ t0' ≤ 40) ∧ cnt = cnt')) := by
  refine pm_enter 0 (by decide) (Nat.le_of_ble_eq_true rfl) rfl (fun G hG hR hF => ?_)
  refine pm_aloadn hG dX12_ranksPower_0 rfl ?_
  refine pm_bipush (v := nI 12) hG dX12_ranksPower_1 (by decide) ?_
  refine pm_callV (As := [.int (nI 12)]) (rest := []) hG hR dX12_ranksPower_3 (lkX12_286 _ rfl) okV_X12_ran rfl rfl (m_ran (d := 1) (by decide) hn hz (by omega)) rfl rfl hdd (Nat.le_refl _) (Nat.le_refl _) (by decide) (pm_kv (fun σ' cnt' hq => ?_))
  obtain ⟨⟨I2, A2, t2, rfl, ht2⟩, rfl⟩ := hq
  refine pm_iloadn hG dX12_ranksPower_6 rfl ?_
  refine pm_iloadn hG dX12_ranksPower_7 rfl ?_
  refine pm_isub hG dX12_ranksPower_8 ?_
  exact pm_iret hG hF dX12_ranksPower_9 rfl (Nat.le_refl _) (Nat.le_refl _) ⟨_, rfl, ⟨_, _, _, rfl, by omega⟩, rfl⟩

set_option maxRecDepth 100000 in
set_option maxHeartbeats 4000000 in
theorem m_ranksOf {d B cnt p0 t0 : Nat} {σ : pm_S} {I : Nat → Int32} {A : Nat → Nat → Int32} {n k z : Nat → Int32} {ac wt pl im : Int32} {zb : Int32} {ba : Nat} (hdd : 3 ≤ d) (hn : KI n) (hz : SZ z) (ht0 : t0 ≤ 40) (hba : ba < 20) : pm_met mX12_ranksOf d 0 0 B [.ref (B + 54), .int (nI ba), .int zb] cnt (pm_mid σ (md_L B I A n k z ac wt pl (nI p0) (nI t0) im)) (pm_Qi (fun v σ' cnt' => (∃ (I' : Nat → Int32) (A' : Nat → Nat → Int32) (t0' : Nat), σ' = pm_mid σ (md_L B I' A' n k z ac wt pl (nI p0) (nI t0') im) ∧ t0' ≤ 40) ∧ cnt = cnt')) := by
  refine pm_enter 0 (by decide) (Nat.le_of_ble_eq_true rfl) rfl (fun G hG hR hF => ?_)
  refine pm_aloadn hG dX12_ranksOf_0 rfl ?_
  refine pm_iloadn hG dX12_ranksOf_1 rfl ?_
  refine pm_iconst (v := nI 0) hG dX12_ranksOf_2 (by decide) ?_
  refine pm_callV (As := [.int (nI ba), .int (nI 0)]) (rest := []) hG hR dX12_ranksOf_3 (lkX12_110 _ rfl) okV_X12_its rfl rfl (m_its (d := 2) (e := 6 * ba + 390) (by omega) (by omega) (by omega)) rfl rfl hdd (Nat.le_refl _) (Nat.le_refl _) (by decide) (pm_ki (fun v1 σ' cnt' hq => ?_))
  obtain ⟨rfl, rfl, rfl⟩ := hq
  refine pm_gen (fun x2 ex2 => ?_)
  refine pm_iconst (v := nI 2) hG dX12_ranksOf_6 (by decide) ?_
  refine pm_icmp_eq (tgt := 17) hG dX12_ranksOf_7 rfl (fun c3 => ?_) (fun c3 => ?_)
  · refine pm_aloadn hG dX12_ranksOf_17 rfl ?_
    refine pm_bipush (v := nI 30) hG dX12_ranksOf_18 (by decide) ?_
    refine pm_callV (As := [.int (nI 30)]) (rest := []) hG hR dX12_ranksOf_20 (lkX12_286 _ rfl) okV_X12_ran rfl rfl (m_ran (d := 2) (by decide) hn hz (by omega)) rfl rfl hdd (Nat.le_refl _) (Nat.le_refl _) (by decide) (pm_kv (fun σ' cnt' hq => ?_))
    obtain ⟨⟨I5, A5, t5, rfl, ht5⟩, rfl⟩ := hq
    refine pm_aloadn hG dX12_ranksOf_23 rfl ?_
    refine pm_iloadn hG dX12_ranksOf_24 rfl ?_
    refine pm_iloadn hG dX12_ranksOf_25 rfl ?_
    refine pm_callV (As := [.int (nI ba), .int zb]) (rest := []) hG hR dX12_ranksOf_26 (lkX12_301 _ rfl) okV_X12_ranksPower rfl rfl (m_ranksPower (d := 2) (by decide) hn hz (by omega) (by omega)) rfl rfl hdd (Nat.le_refl _) (Nat.le_refl _) (by decide) (pm_ki (fun v6 σ' cnt' hq => ?_))
    obtain ⟨⟨I7, A7, t7, rfl, ht7⟩, rfl⟩ := hq
    refine pm_iconst (v := nI 3) hG dX12_ranksOf_29 (by decide) ?_
    refine pm_imul hG dX12_ranksOf_30 ?_
    exact pm_iret hG hF dX12_ranksOf_31 rfl (Nat.le_refl _) (Nat.le_refl _) ⟨_, rfl, ⟨_, _, _, rfl, by omega⟩, rfl⟩
  · refine pm_aloadn hG dX12_ranksOf_10 rfl ?_
    refine pm_iloadn hG dX12_ranksOf_11 rfl ?_
    refine pm_iloadn hG dX12_ranksOf_12 rfl ?_
    refine pm_callV (As := [.int (nI ba), .int zb]) (rest := []) hG hR dX12_ranksOf_13 (lkX12_301 _ rfl) okV_X12_ranksPower rfl rfl (m_ranksPower (d := 2) (by decide) hn hz (by omega) (by omega)) rfl rfl hdd (Nat.le_refl _) (Nat.le_refl _) (by decide) (pm_ki (fun v8 σ' cnt' hq => ?_))
    obtain ⟨⟨I9, A9, t9, rfl, ht9⟩, rfl⟩ := hq
    exact pm_iret hG hF dX12_ranksOf_16 rfl (Nat.le_refl _) (Nat.le_refl _) ⟨_, rfl, ⟨_, _, _, rfl, by omega⟩, rfl⟩

set_option maxRecDepth 100000 in
set_option maxHeartbeats 4000000 in
theorem m_rent {d B cnt p0 t0 : Nat} {σ : pm_S} {I : Nat → Int32} {A : Nat → Nat → Int32} {n k z : Nat → Int32} {ac wt pl im : Int32} {za zb : Int32} (hdd : 2 ≤ d) (hn : KI n) (hr : NR n) (hz : SZ z)  : pm_met mX12_rent d 0 0 B [.ref (B + 54), .int za, .int zb] cnt (pm_mid σ (md_L B I A n k z ac wt pl (nI p0) (nI t0) im)) (pm_Qi (fun v σ' cnt' => (∃ (I' : Nat → Int32) (A' : Nat → Nat → Int32) (n' : Nat → Int32), σ' = pm_mid σ (md_L B I' A' n' k z ac wt pl (nI p0) (nI t0) im) ∧ KI n' ∧ NR n' ∧ n' 8 = n 8) ∧ cnt = cnt')) := by
  obtain ⟨kc8, hkc8, ekc8⟩ := KI.nat hn (show kd 8 = (1, 2001, false) by decide)
  refine pm_enter 1 (by decide) (Nat.le_of_ble_eq_true rfl) rfl (fun G hG hR hF => ?_)
  refine pm_aloadn hG dX12_rent_0 rfl ?_
  refine pm_iloadn hG dX12_rent_1 rfl ?_
  obtain ⟨k1, hk1, ek1⟩ := KI.nat hn (show kd 0 = (1, 11, true) by decide)
  refine pm_callV (As := [.int za]) (rest := []) hG hR dX12_rent_2 (lkX12_84 _ rfl) okV_X12_isTown rfl rfl (m_isTown (d := 1) (by decide) ek1 (by omega)) rfl rfl hdd (Nat.le_refl _) (Nat.le_refl _) (by decide) (pm_ki (fun v2 σ' cnt' hq => ?_))
  obtain ⟨hq, rfl, rfl⟩ := hq
  rcases hq with ⟨rfl, k4, hk4, ek4⟩ | rfl
  · refine pm_ifN_eq (tgt := 19) hG dX12_rent_5 rfl (by omega) (fun q => absurd q (by omega)) (fun _ => ?_)
    refine pm_iloadn hG dX12_rent_8 rfl ?_
    refine pm_iconst (v := nI 0) hG dX12_rent_9 (by decide) ?_
    refine pm_sipush (v := nI 999) hG dX12_rent_10 (by decide) ?_
    refine pm_callS (As := [.int zb, .int (nI 0), .int (nI 999)]) (rest := []) hG hR dX12_rent_13 (lkX12_68 _ rfl) okS_X12_in (m_in (d := 1)) rfl rfl hdd (Nat.le_refl _) (Nat.le_refl _) (by decide) (pm_ki (fun v5 σ' cnt' hq => ?_))
    obtain ⟨hq, rfl, rfl⟩ := hq
    rcases hq with ⟨rfl, ac6, bc6⟩ | ⟨rfl, c6⟩
    · obtain ⟨k7, hk7, ek7⟩ := in_nat (by omega) (by omega) ac6 bc6
      refine pm_ifN_ne (tgt := 25) hG dX12_rent_16 rfl (by omega) (fun _ => ?_) (fun q => absurd q (by omega))
      refine pm_aloadn hG dX12_rent_25 rfl ?_
      refine pm_getf hG dX12_rent_26 (flX12_7 _ rfl) rfl rfl ?_
      refine pm_bipush (v := nI 20) hG dX12_rent_29 (by decide) ?_
      refine pm_iconst (v := nI 3) hG dX12_rent_31 (by decide) ?_
      refine pm_iloadn hG dX12_rent_32 rfl ?_
      refine pm_top (v := nI k4) ek4 ?_
      refine pm_imulN (c := 3 * k4) hG dX12_rent_33 (by omega) ?_
      refine pm_iaddN (c := 3 * k4 + 20) hG dX12_rent_34 (by omega) ?_
      refine pm_ialdN hG dX12_rent_35 rfl (by decide) (by omega) ?_
      refine pm_gen (fun x8 ex8 => ?_)
      refine pm_istoreXn (loc' := [some (.ref (B + 54)), some (.int za), some (.int zb), some (.int x8)]) hG dX12_rent_36 (by decide) (pm_c1b rfl) rfl ?_
      refine pm_aloadn hG dX12_rent_37 rfl ?_
      refine pm_getf hG dX12_rent_38 (flX12_7 _ rfl) rfl rfl ?_
      refine pm_bipush (v := nI 20) hG dX12_rent_41 (by decide) ?_
      refine pm_iconst (v := nI 3) hG dX12_rent_43 (by decide) ?_
      refine pm_iloadn hG dX12_rent_44 rfl ?_
      refine pm_top (v := nI k4) ek4 ?_
      refine pm_imulN (c := 3 * k4) hG dX12_rent_45 (by omega) ?_
      refine pm_iaddN (c := 3 * k4 + 20) hG dX12_rent_46 (by omega) ?_
      refine pm_iloadn hG dX12_rent_47 rfl ?_
      refine pm_top (v := nI k7) ek7 ?_
      refine pm_iastN hG dX12_rent_48 rfl (by decide) (by omega) ?_
      refine mdn_now (fun n_9 en_9 => ?_)
      have hnn_9 := KI.w en_9 hn (okv_f (show kd (3 * k4 + 20) = (0, 0, false) from (kd_T (k := k4) (c := 0) (by omega) (by omega) (by decide))))
      have hrn_9 := NRx.w en_9 hr (by rw [(show kd (3 * k4 + 20) = (0, 0, false) from (kd_T (k := k4) (c := 0) (by omega) (by omega) (by decide)))])
      have e10 : n_9 8 = nI kc8 := by rw [en_9, pk_un (by omega)]; exact ekc8
      have e11 : n_9 0 = nI k1 := by rw [en_9, pk_un (by omega)]; exact ek1
      have e12 : n_9 (3 * k4 + 20) = nI k7 := by rw [en_9, pk_us]
      refine pm_iloadn hG dX12_rent_49 rfl ?_
      exact pm_iret hG hF dX12_rent_50 rfl (Nat.le_refl _) (Nat.le_refl _) ⟨_, rfl, ⟨_, _, _, rfl, hnn_9, hrn_9, e10.trans ekc8.symm⟩, rfl⟩
    · refine pm_ifN_ne (tgt := 25) hG dX12_rent_16 rfl (by omega) (fun q => absurd q (by omega)) (fun _ => ?_)
      refine pm_aloadn hG dX12_rent_19 rfl ?_
      refine pm_iconst (v := nI 1) hG dX12_rent_20 (by decide) ?_
      refine pm_callV (As := [.int (nI 1)]) (rest := []) hG hR dX12_rent_21 (lkX12_80 _ rfl) okV_X12_finds rfl rfl (m_finds (d := 1) (by decide) hn hz (by omega)) rfl rfl hdd (Nat.le_refl _) (Nat.le_refl _) (by decide) (pm_ki (fun v13 σ' cnt' hq => ?_))
      obtain ⟨⟨I14, A14, rfl⟩, rfl, fv13⟩ := hq
      exact pm_iret hG hF dX12_rent_24 rfl (Nat.le_refl _) (Nat.le_refl _) ⟨_, rfl, ⟨_, _, _, rfl, hn, hr, ekc8.trans ekc8.symm⟩, rfl⟩
  · refine pm_ifN_eq (tgt := 19) hG dX12_rent_5 rfl (by omega) (fun _ => ?_) (fun q => absurd q (by omega))
    refine pm_aloadn hG dX12_rent_19 rfl ?_
    refine pm_iconst (v := nI 1) hG dX12_rent_20 (by decide) ?_
    refine pm_callV (As := [.int (nI 1)]) (rest := []) hG hR dX12_rent_21 (lkX12_80 _ rfl) okV_X12_finds rfl rfl (m_finds (d := 1) (by decide) hn hz (by omega)) rfl rfl hdd (Nat.le_refl _) (Nat.le_refl _) (by decide) (pm_ki (fun v15 σ' cnt' hq => ?_))
    obtain ⟨⟨I16, A16, rfl⟩, rfl, fv15⟩ := hq
    exact pm_iret hG hF dX12_rent_24 rfl (Nat.le_refl _) (Nat.le_refl _) ⟨_, rfl, ⟨_, _, _, rfl, hn, hr, ekc8.trans ekc8.symm⟩, rfl⟩

set_option maxRecDepth 100000 in
set_option maxHeartbeats 4000000 in
theorem m_rents {d B cnt p0 t0 : Nat} {σ : pm_S} {I : Nat → Int32} {A : Nat → Nat → Int32} {n k z : Nat → Int32} {ac wt pl im : Int32} {za zb : Int32} (hdd : 2 ≤ d) (hn : KI n) (hr : NR n) (hz : SZ z)  : pm_met mX12_rents d 0 0 B [.ref (B + 54), .int za, .int zb] cnt (pm_mid σ (md_L B I A n k z ac wt pl (nI p0) (nI t0) im)) (pm_Qi (fun v σ' cnt' => (∃ (I' : Nat → Int32) (A' : Nat → Nat → Int32) (n' : Nat → Int32), σ' = pm_mid σ (md_L B I' A' n' k z ac wt pl (nI p0) (nI t0) im) ∧ KI n' ∧ NR n' ∧ n' 8 = n 8) ∧ cnt = cnt')) := by
  obtain ⟨kc8, hkc8, ekc8⟩ := KI.nat hn (show kd 8 = (1, 2001, false) by decide)
  refine pm_enter 2 (by decide) (Nat.le_of_ble_eq_true rfl) rfl (fun G hG hR hF => ?_)
  refine pm_iloadn hG dX12_rents_0 rfl ?_
  refine pm_callS (As := [.int za]) (rest := []) hG hR dX12_rents_1 (lkX12_239 _ rfl) okS_X12_isSheet (m_isSheet (d := 1) (by decide)) rfl rfl hdd (Nat.le_refl _) (Nat.le_refl _) (by decide) (pm_ki (fun v1 σ' cnt' hq => ?_))
  obtain ⟨hq, rfl, rfl⟩ := hq
  rcases hq with ⟨rfl, ac2, bc2⟩ | ⟨rfl, c2⟩
  · obtain ⟨k3, hk3, ek3⟩ := in_nat (by omega) (by omega) ac2 bc2
    refine pm_ifN_eq (tgt := 25) hG dX12_rents_4 rfl (by omega) (fun q => absurd q (by omega)) (fun _ => ?_)
    refine pm_iloadn hG dX12_rents_7 rfl ?_
    refine pm_bipush (v := nI 8) hG dX12_rents_8 (by decide) ?_
    refine pm_icmp_eq (tgt := 31) hG dX12_rents_10 rfl (fun c4 => ?_) (fun c4 => ?_)
    · refine pm_aloadn hG dX12_rents_31 rfl ?_
      refine pm_getf hG dX12_rents_32 (flX12_55 _ rfl) rfl rfl ?_
      refine pm_iloadn hG dX12_rents_35 rfl ?_
      refine pm_top (v := nI k3) ek3 ?_
      refine pm_ialdN hG dX12_rents_36 rfl (by decide) (by omega) ?_
      refine pm_any (fun x5 => ?_)
      refine pm_if_ne (tgt := 46) hG dX12_rents_37 rfl (fun c6 => ?_) (fun c6 => ?_)
      · refine pm_aloadn hG dX12_rents_46 rfl ?_
        refine pm_getf hG dX12_rents_47 (flX12_55 _ rfl) rfl rfl ?_
        refine pm_iloadn hG dX12_rents_50 rfl ?_
        refine pm_top (v := nI k3) ek3 ?_
        refine pm_ialdN hG dX12_rents_51 rfl (by decide) (by omega) ?_
        refine pm_any (fun x7 => ?_)
        refine pm_iloadn hG dX12_rents_52 rfl ?_
        refine pm_top (v := nI 8) c4 ?_
        refine pm_icmp_eq (tgt := 62) hG dX12_rents_53 rfl (fun c8 => ?_) (fun c8 => ?_)
        · refine pm_aloadn hG dX12_rents_62 rfl ?_
          refine pm_getf hG dX12_rents_63 (flX12_58 _ rfl) rfl rfl ?_
          refine pm_iloadn hG dX12_rents_66 rfl ?_
          refine pm_top (v := nI k3) ek3 ?_
          refine pm_ialdN hG dX12_rents_67 rfl (by decide) (by omega) ?_
          obtain ⟨k9, hk9, ek9⟩ := hz k3 (by omega)
          refine pm_top (v := nI k9) ek9 ?_
          refine pm_aloadn hG dX12_rents_68 rfl ?_
          refine pm_getf hG dX12_rents_69 (flX12_7 _ rfl) rfl rfl ?_
          refine pm_iconst (v := nI 0) hG dX12_rents_72 (by decide) ?_
          refine pm_ialdN hG dX12_rents_73 rfl (by decide) (by omega) ?_
          obtain ⟨k10, hk10, ek10⟩ := KI.nat hn (show kd 0 = (1, 11, true) by decide)
          refine pm_top (v := nI k10) ek10 ?_
          refine pm_icmpN_le (tgt := 83) hG dX12_rents_74 rfl (by omega) (by omega) (fun c11 => ?_) (fun c11 => ?_)
          · refine pm_iconst (v := nI 0) hG dX12_rents_83 (by decide) ?_
            refine pm_istoreXn (loc' := [some (.ref (B + 54)), some (.int za), some (.int zb), some (.int (nI 0)), none]) hG dX12_rents_84 (by decide) (pm_c1b rfl) rfl ?_
            have loop85_12 : ∀ (m12 : Nat) (I12 : Nat → Int32) (A12 : Nat → Nat → Int32) (n_12 : Nat → Int32) (i12 : Nat), KI n_12 → NRx 40 n_12 → n_12 8 = nI kc8 → i12 ≤ 24 → 24 - i12 < m12 → pm_wp mX12_rents G B 85 [some (.ref (B + 54)), some (.int za), some (.int zb), some (.int (nI i12)), none] [] 0 0 cnt (pm_mid σ (md_L B I12 A12 n_12 k z ac wt pl (nI p0) (nI t0) im)) := by
              intro m12
              induction m12 with
              | zero => intro I12 A12 n_12 i12 _ _ _ _ hm; exact absurd hm (Nat.not_lt_zero _)
              | succ m12 ih12 =>
                intro I12 A12 n_12 i12 hnn_12 hrn_12 kc12_8 hi12 hm12
                refine pm_iloadn hG dX12_rents_85 rfl ?_
                refine pm_aloadn hG dX12_rents_86 rfl ?_
                refine pm_getf hG dX12_rents_87 (flX12_58 _ rfl) rfl rfl ?_
                refine pm_iloadn hG dX12_rents_90 rfl ?_
                refine pm_top (v := nI k3) ek3 ?_
                refine pm_ialdN hG dX12_rents_91 rfl (by decide) (by omega) ?_
                refine pm_top (v := nI k9) ek9 ?_
                refine pm_icmpN_ge (tgt := 128) hG dX12_rents_92 rfl (by omega) (by omega) (fun c13 => ?_) (fun c13 => ?_)
                · refine pm_iconst (v := nI 0) hG dX12_rents_128 (by decide) ?_
                  refine pm_istoreXn (loc' := [some (.ref (B + 54)), some (.int za), some (.int zb), some (.int (nI 0)), none]) hG dX12_rents_129 (by decide) (pm_c1b rfl) rfl ?_
                  refine pm_iconst (v := nI 0) hG dX12_rents_130 (by decide) ?_
                  refine pm_istoreXi (loc' := [some (.ref (B + 54)), some (.int za), some (.int zb), some (.int (nI 0)), some (.int (nI 0))]) hG dX12_rents_131 (by decide) (pm_c1b rfl) rfl ?_
                  have loop133_14 : ∀ (m14 : Nat) (I14 : Nat → Int32) (A14 : Nat → Nat → Int32) (n_14 : Nat → Int32) (x14_3 : Int32) (i14 : Nat), KI n_14 → NRx 40 n_14 → n_14 8 = nI kc8 → i14 ≤ 24 → 24 - i14 < m14 → pm_wp mX12_rents G B 133 [some (.ref (B + 54)), some (.int za), some (.int zb), some (.int x14_3), some (.int (nI i14))] [] 0 0 cnt (pm_mid σ (md_L B I14 A14 n_14 k z ac wt pl (nI p0) (nI t0) im)) := by
                    intro m14
                    induction m14 with
                    | zero => intro I14 A14 n_14 x14_3 i14 _ _ _ _ hm; exact absurd hm (Nat.not_lt_zero _)
                    | succ m14 ih14 =>
                      intro I14 A14 n_14 x14_3 i14 hnn_14 hrn_14 kc14_8 hi14 hm14
                      refine pm_iloadi hG dX12_rents_133 rfl ?_
                      refine pm_aloadn hG dX12_rents_135 rfl ?_
                      refine pm_getf hG dX12_rents_136 (flX12_58 _ rfl) rfl rfl ?_
                      refine pm_iloadn hG dX12_rents_139 rfl ?_
                      refine pm_top (v := nI k3) ek3 ?_
                      refine pm_ialdN hG dX12_rents_140 rfl (by decide) (by omega) ?_
                      refine pm_top (v := nI k9) ek9 ?_
                      refine pm_icmpN_ge (tgt := 195) hG dX12_rents_141 rfl (by omega) (by omega) (fun c15 => ?_) (fun c15 => ?_)
                      · refine pm_iloadn hG dX12_rents_195 rfl ?_
                        exact pm_iret hG hF dX12_rents_196 rfl (Nat.le_refl _) (Nat.le_refl _) ⟨_, rfl, ⟨_, _, _, rfl, hnn_14, hrn_14, kc14_8.trans ekc8.symm⟩, rfl⟩
                      · refine pm_aloadn hG dX12_rents_144 rfl ?_
                        refine pm_getf hG dX12_rents_145 (flX12_61 _ rfl) rfl rfl ?_
                        refine pm_bipush (v := nI 24) hG dX12_rents_148 (by decide) ?_
                        refine pm_iloadn hG dX12_rents_150 rfl ?_
                        refine pm_top (v := nI k3) ek3 ?_
                        refine pm_imulN (c := 24 * k3) hG dX12_rents_151 (by omega) ?_
                        refine pm_iloadi hG dX12_rents_152 rfl ?_
                        refine pm_iaddN (c := i14 + 24 * k3) hG dX12_rents_154 (by omega) ?_
                        refine pm_ialdN hG dX12_rents_155 rfl (by decide) (by omega) ?_
                        refine pm_any (fun x16 => ?_)
                        refine pm_if_ge (tgt := 162) hG dX12_rents_156 rfl (fun c17 => ?_) (fun c17 => ?_)
                        · obtain ⟨k18, hk18, ek18⟩ := nI_of (Int32.not_lt.mpr c17)
                          refine pm_aloadn hG dX12_rents_162 rfl ?_
                          refine pm_getf hG dX12_rents_163 (flX12_7 _ rfl) rfl rfl ?_
                          refine pm_bipush (v := nI 20) hG dX12_rents_166 (by decide) ?_
                          refine pm_iconst (v := nI 3) hG dX12_rents_168 (by decide) ?_
                          refine pm_iloadi hG dX12_rents_169 rfl ?_
                          refine pm_imulN (c := 3 * i14) hG dX12_rents_171 (by omega) ?_
                          refine pm_iaddN (c := 3 * i14 + 20) hG dX12_rents_172 (by omega) ?_
                          refine pm_aloadn hG dX12_rents_173 rfl ?_
                          refine pm_getf hG dX12_rents_174 (flX12_61 _ rfl) rfl rfl ?_
                          refine pm_bipush (v := nI 24) hG dX12_rents_177 (by decide) ?_
                          refine pm_iloadn hG dX12_rents_179 rfl ?_
                          refine pm_top (v := nI k3) ek3 ?_
                          refine pm_imulN (c := 24 * k3) hG dX12_rents_180 (by omega) ?_
                          refine pm_iloadi hG dX12_rents_181 rfl ?_
                          refine pm_iaddN (c := i14 + 24 * k3) hG dX12_rents_183 (by omega) ?_
                          refine pm_ialdN hG dX12_rents_184 rfl (by decide) (by omega) ?_
                          refine pm_any (fun x19 => ?_)
                          refine pm_iastN hG dX12_rents_185 rfl (by decide) (by omega) ?_
                          refine mdn_now (fun n_20 en_20 => ?_)
                          have hnn_20 := KI.w en_20 hnn_14 (okv_f (show kd (3 * i14 + 20) = (0, 0, false) from (kd_T (k := i14) (c := 0) (by omega) (by omega) (by decide))))
                          have hrn_20 := NRx.w en_20 hrn_14 (by rw [(show kd (3 * i14 + 20) = (0, 0, false) from (kd_T (k := i14) (c := 0) (by omega) (by omega) (by decide)))])
                          have e21 : n_20 8 = nI kc8 := by rw [en_20, pk_un (by omega)]; exact kc14_8
                          have e22 : n_20 (3 * i14 + 20) = x19 := by rw [en_20, pk_us]
                          refine pm_iincX (v := x14_3 + 1) (loc' := [some (.ref (B + 54)), some (.int za), some (.int zb), some (.int (x14_3 + 1)), some (.int (nI i14))]) hG dX12_rents_186 rfl (by rfl) (by decide) (pm_c1b rfl) rfl ?_
                          refine pm_iincX (v := nI (i14 + 1)) (loc' := [some (.ref (B + 54)), some (.int za), some (.int zb), some (.int (x14_3 + 1)), some (.int (nI (i14 + 1)))]) hG dX12_rents_189 rfl (nI_1 _) (by decide) (pm_c1b rfl) rfl ?_
                          refine pm_goto (tgt := 133) hG dX12_rents_192 rfl ?_
                          exact ih14 I14 A14 n_20 (x14_3 + 1) (i14 + 1) hnn_20 hrn_20 (e21.trans (congrArg nI (by omega))) (by omega) (by omega)
                        · refine pm_goto (tgt := 189) hG dX12_rents_159 rfl ?_
                          refine pm_iincX (v := nI (i14 + 1)) (loc' := [some (.ref (B + 54)), some (.int za), some (.int zb), some (.int x14_3), some (.int (nI (i14 + 1)))]) hG dX12_rents_189 rfl (nI_1 _) (by decide) (pm_c1b rfl) rfl ?_
                          refine pm_goto (tgt := 133) hG dX12_rents_192 rfl ?_
                          exact ih14 I14 A14 n_14 x14_3 (i14 + 1) hnn_14 hrn_14 (kc14_8.trans (congrArg nI (by omega))) (by omega) (by omega)
                  exact loop133_14 _ I12 A12 n_12 (nI 0) 0 hnn_12 hrn_12 (kc12_8.trans (congrArg nI (by omega))) (by omega) (Nat.lt_succ_self _)
                · refine pm_aloadn hG dX12_rents_95 rfl ?_
                  refine pm_getf hG dX12_rents_96 (flX12_61 _ rfl) rfl rfl ?_
                  refine pm_bipush (v := nI 24) hG dX12_rents_99 (by decide) ?_
                  refine pm_iloadn hG dX12_rents_101 rfl ?_
                  refine pm_top (v := nI k3) ek3 ?_
                  refine pm_imulN (c := 24 * k3) hG dX12_rents_102 (by omega) ?_
                  refine pm_iloadn hG dX12_rents_103 rfl ?_
                  refine pm_iaddN (c := i12 + 24 * k3) hG dX12_rents_104 (by omega) ?_
                  refine pm_ialdN hG dX12_rents_105 rfl (by decide) (by omega) ?_
                  refine pm_any (fun x23 => ?_)
                  refine pm_iconst (v := (-1)) hG dX12_rents_106 (by decide) ?_
                  refine pm_sipush (v := nI 999) hG dX12_rents_107 (by decide) ?_
                  refine pm_callS (As := [.int x23, .int (-1), .int (nI 999)]) (rest := []) hG hR dX12_rents_110 (lkX12_68 _ rfl) okS_X12_in (m_in (d := 1)) rfl rfl hdd (Nat.le_refl _) (Nat.le_refl _) (by decide) (pm_ki (fun v24 σ' cnt' hq => ?_))
                  obtain ⟨hq, rfl, rfl⟩ := hq
                  rcases hq with ⟨rfl, ac25, bc25⟩ | ⟨rfl, c25⟩
                  · refine pm_ifN_ne (tgt := 122) hG dX12_rents_113 rfl (by omega) (fun _ => ?_) (fun q => absurd q (by omega))
                    refine pm_iincX (v := nI (i12 + 1)) (loc' := [some (.ref (B + 54)), some (.int za), some (.int zb), some (.int (nI (i12 + 1))), none]) hG dX12_rents_122 rfl (nI_1 _) (by decide) (pm_c1b rfl) rfl ?_
                    refine pm_goto (tgt := 85) hG dX12_rents_125 rfl ?_
                    exact ih12 I12 A12 n_12 (i12 + 1) hnn_12 hrn_12 (kc12_8.trans (congrArg nI (by omega))) (by omega) (by omega)
                  · refine pm_ifN_ne (tgt := 122) hG dX12_rents_113 rfl (by omega) (fun q => absurd q (by omega)) (fun _ => ?_)
                    refine pm_aloadn hG dX12_rents_116 rfl ?_
                    refine pm_iconst (v := nI 1) hG dX12_rents_117 (by decide) ?_
                    refine pm_callV (As := [.int (nI 1)]) (rest := []) hG hR dX12_rents_118 (lkX12_80 _ rfl) okV_X12_finds rfl rfl (m_finds (d := 1) (by decide) hnn_12 hz (by omega)) rfl rfl hdd (Nat.le_refl _) (Nat.le_refl _) (by decide) (pm_ki (fun v26 σ' cnt' hq => ?_))
                    obtain ⟨⟨I27, A27, rfl⟩, rfl, fv26⟩ := hq
                    exact pm_iret hG hF dX12_rents_121 rfl (Nat.le_refl _) (Nat.le_refl _) ⟨_, rfl, ⟨_, _, _, rfl, hnn_12, hrn_12, kc12_8.trans ekc8.symm⟩, rfl⟩
            exact loop85_12 _ I A n 0 hn hr (ekc8.trans (congrArg nI (by omega))) (by omega) (Nat.lt_succ_self _)
          · refine pm_aloadn hG dX12_rents_77 rfl ?_
            refine pm_iconst (v := nI 3) hG dX12_rents_78 (by decide) ?_
            refine pm_callV (As := [.int (nI 3)]) (rest := []) hG hR dX12_rents_79 (lkX12_80 _ rfl) okV_X12_finds rfl rfl (m_finds (d := 1) (by decide) hn hz (by omega)) rfl rfl hdd (Nat.le_refl _) (Nat.le_refl _) (by decide) (pm_ki (fun v28 σ' cnt' hq => ?_))
            obtain ⟨⟨I29, A29, rfl⟩, rfl, fv28⟩ := hq
            exact pm_iret hG hF dX12_rents_82 rfl (Nat.le_refl _) (Nat.le_refl _) ⟨_, rfl, ⟨_, _, _, rfl, hn, hr, ekc8.trans ekc8.symm⟩, rfl⟩
        · refine pm_aloadn hG dX12_rents_56 rfl ?_
          refine pm_iconst (v := nI 5) hG dX12_rents_57 (by decide) ?_
          refine pm_callV (As := [.int (nI 5)]) (rest := []) hG hR dX12_rents_58 (lkX12_80 _ rfl) okV_X12_finds rfl rfl (m_finds (d := 1) (by decide) hn hz (by omega)) rfl rfl hdd (Nat.le_refl _) (Nat.le_refl _) (by decide) (pm_ki (fun v30 σ' cnt' hq => ?_))
          obtain ⟨⟨I31, A31, rfl⟩, rfl, fv30⟩ := hq
          exact pm_iret hG hF dX12_rents_61 rfl (Nat.le_refl _) (Nat.le_refl _) ⟨_, rfl, ⟨_, _, _, rfl, hn, hr, ekc8.trans ekc8.symm⟩, rfl⟩
      · refine pm_aloadn hG dX12_rents_40 rfl ?_
        refine pm_iconst (v := nI 2) hG dX12_rents_41 (by decide) ?_
        refine pm_callV (As := [.int (nI 2)]) (rest := []) hG hR dX12_rents_42 (lkX12_80 _ rfl) okV_X12_finds rfl rfl (m_finds (d := 1) (by decide) hn hz (by omega)) rfl rfl hdd (Nat.le_refl _) (Nat.le_refl _) (by decide) (pm_ki (fun v32 σ' cnt' hq => ?_))
        obtain ⟨⟨I33, A33, rfl⟩, rfl, fv32⟩ := hq
        exact pm_iret hG hF dX12_rents_45 rfl (Nat.le_refl _) (Nat.le_refl _) ⟨_, rfl, ⟨_, _, _, rfl, hn, hr, ekc8.trans ekc8.symm⟩, rfl⟩
    · refine pm_iloadn hG dX12_rents_13 rfl ?_
      refine pm_bipush (v := nI 16) hG dX12_rents_14 (by decide) ?_
      refine pm_icmp_eq (tgt := 31) hG dX12_rents_16 rfl (fun c34 => ?_) (fun c34 => ?_)
      · refine pm_aloadn hG dX12_rents_31 rfl ?_
        refine pm_getf hG dX12_rents_32 (flX12_55 _ rfl) rfl rfl ?_
        refine pm_iloadn hG dX12_rents_35 rfl ?_
        refine pm_top (v := nI k3) ek3 ?_
        refine pm_ialdN hG dX12_rents_36 rfl (by decide) (by omega) ?_
        refine pm_any (fun x35 => ?_)
        refine pm_if_ne (tgt := 46) hG dX12_rents_37 rfl (fun c36 => ?_) (fun c36 => ?_)
        · refine pm_aloadn hG dX12_rents_46 rfl ?_
          refine pm_getf hG dX12_rents_47 (flX12_55 _ rfl) rfl rfl ?_
          refine pm_iloadn hG dX12_rents_50 rfl ?_
          refine pm_top (v := nI k3) ek3 ?_
          refine pm_ialdN hG dX12_rents_51 rfl (by decide) (by omega) ?_
          refine pm_any (fun x37 => ?_)
          refine pm_iloadn hG dX12_rents_52 rfl ?_
          refine pm_top (v := nI 16) c34 ?_
          refine pm_icmp_eq (tgt := 62) hG dX12_rents_53 rfl (fun c38 => ?_) (fun c38 => ?_)
          · refine pm_aloadn hG dX12_rents_62 rfl ?_
            refine pm_getf hG dX12_rents_63 (flX12_58 _ rfl) rfl rfl ?_
            refine pm_iloadn hG dX12_rents_66 rfl ?_
            refine pm_top (v := nI k3) ek3 ?_
            refine pm_ialdN hG dX12_rents_67 rfl (by decide) (by omega) ?_
            obtain ⟨k39, hk39, ek39⟩ := hz k3 (by omega)
            refine pm_top (v := nI k39) ek39 ?_
            refine pm_aloadn hG dX12_rents_68 rfl ?_
            refine pm_getf hG dX12_rents_69 (flX12_7 _ rfl) rfl rfl ?_
            refine pm_iconst (v := nI 0) hG dX12_rents_72 (by decide) ?_
            refine pm_ialdN hG dX12_rents_73 rfl (by decide) (by omega) ?_
            obtain ⟨k40, hk40, ek40⟩ := KI.nat hn (show kd 0 = (1, 11, true) by decide)
            refine pm_top (v := nI k40) ek40 ?_
            refine pm_icmpN_le (tgt := 83) hG dX12_rents_74 rfl (by omega) (by omega) (fun c41 => ?_) (fun c41 => ?_)
            · refine pm_iconst (v := nI 0) hG dX12_rents_83 (by decide) ?_
              refine pm_istoreXn (loc' := [some (.ref (B + 54)), some (.int za), some (.int zb), some (.int (nI 0)), none]) hG dX12_rents_84 (by decide) (pm_c1b rfl) rfl ?_
              have loop85_42 : ∀ (m42 : Nat) (I42 : Nat → Int32) (A42 : Nat → Nat → Int32) (n_42 : Nat → Int32) (i42 : Nat), KI n_42 → NRx 40 n_42 → n_42 8 = nI kc8 → i42 ≤ 24 → 24 - i42 < m42 → pm_wp mX12_rents G B 85 [some (.ref (B + 54)), some (.int za), some (.int zb), some (.int (nI i42)), none] [] 0 0 cnt (pm_mid σ (md_L B I42 A42 n_42 k z ac wt pl (nI p0) (nI t0) im)) := by
                intro m42
                induction m42 with
                | zero => intro I42 A42 n_42 i42 _ _ _ _ hm; exact absurd hm (Nat.not_lt_zero _)
                | succ m42 ih42 =>
                  intro I42 A42 n_42 i42 hnn_42 hrn_42 kc42_8 hi42 hm42
                  refine pm_iloadn hG dX12_rents_85 rfl ?_
                  refine pm_aloadn hG dX12_rents_86 rfl ?_
                  refine pm_getf hG dX12_rents_87 (flX12_58 _ rfl) rfl rfl ?_
                  refine pm_iloadn hG dX12_rents_90 rfl ?_
                  refine pm_top (v := nI k3) ek3 ?_
                  refine pm_ialdN hG dX12_rents_91 rfl (by decide) (by omega) ?_
                  refine pm_top (v := nI k39) ek39 ?_
                  refine pm_icmpN_ge (tgt := 128) hG dX12_rents_92 rfl (by omega) (by omega) (fun c43 => ?_) (fun c43 => ?_)
                  · refine pm_iconst (v := nI 0) hG dX12_rents_128 (by decide) ?_
                    refine pm_istoreXn (loc' := [some (.ref (B + 54)), some (.int za), some (.int zb), some (.int (nI 0)), none]) hG dX12_rents_129 (by decide) (pm_c1b rfl) rfl ?_
                    refine pm_iconst (v := nI 0) hG dX12_rents_130 (by decide) ?_
                    refine pm_istoreXi (loc' := [some (.ref (B + 54)), some (.int za), some (.int zb), some (.int (nI 0)), some (.int (nI 0))]) hG dX12_rents_131 (by decide) (pm_c1b rfl) rfl ?_
                    have loop133_44 : ∀ (m44 : Nat) (I44 : Nat → Int32) (A44 : Nat → Nat → Int32) (n_44 : Nat → Int32) (x44_3 : Int32) (i44 : Nat), KI n_44 → NRx 40 n_44 → n_44 8 = nI kc8 → i44 ≤ 24 → 24 - i44 < m44 → pm_wp mX12_rents G B 133 [some (.ref (B + 54)), some (.int za), some (.int zb), some (.int x44_3), some (.int (nI i44))] [] 0 0 cnt (pm_mid σ (md_L B I44 A44 n_44 k z ac wt pl (nI p0) (nI t0) im)) := by
                      intro m44
                      induction m44 with
                      | zero => intro I44 A44 n_44 x44_3 i44 _ _ _ _ hm; exact absurd hm (Nat.not_lt_zero _)
                      | succ m44 ih44 =>
                        intro I44 A44 n_44 x44_3 i44 hnn_44 hrn_44 kc44_8 hi44 hm44
                        refine pm_iloadi hG dX12_rents_133 rfl ?_
                        refine pm_aloadn hG dX12_rents_135 rfl ?_
                        refine pm_getf hG dX12_rents_136 (flX12_58 _ rfl) rfl rfl ?_
                        refine pm_iloadn hG dX12_rents_139 rfl ?_
                        refine pm_top (v := nI k3) ek3 ?_
                        refine pm_ialdN hG dX12_rents_140 rfl (by decide) (by omega) ?_
                        refine pm_top (v := nI k39) ek39 ?_
                        refine pm_icmpN_ge (tgt := 195) hG dX12_rents_141 rfl (by omega) (by omega) (fun c45 => ?_) (fun c45 => ?_)
                        · refine pm_iloadn hG dX12_rents_195 rfl ?_
                          exact pm_iret hG hF dX12_rents_196 rfl (Nat.le_refl _) (Nat.le_refl _) ⟨_, rfl, ⟨_, _, _, rfl, hnn_44, hrn_44, kc44_8.trans ekc8.symm⟩, rfl⟩
                        · refine pm_aloadn hG dX12_rents_144 rfl ?_
                          refine pm_getf hG dX12_rents_145 (flX12_61 _ rfl) rfl rfl ?_
                          refine pm_bipush (v := nI 24) hG dX12_rents_148 (by decide) ?_
                          refine pm_iloadn hG dX12_rents_150 rfl ?_
                          refine pm_top (v := nI k3) ek3 ?_
                          refine pm_imulN (c := 24 * k3) hG dX12_rents_151 (by omega) ?_
                          refine pm_iloadi hG dX12_rents_152 rfl ?_
                          refine pm_iaddN (c := i44 + 24 * k3) hG dX12_rents_154 (by omega) ?_
                          refine pm_ialdN hG dX12_rents_155 rfl (by decide) (by omega) ?_
                          refine pm_any (fun x46 => ?_)
                          refine pm_if_ge (tgt := 162) hG dX12_rents_156 rfl (fun c47 => ?_) (fun c47 => ?_)
                          · obtain ⟨k48, hk48, ek48⟩ := nI_of (Int32.not_lt.mpr c47)
                            refine pm_aloadn hG dX12_rents_162 rfl ?_
                            refine pm_getf hG dX12_rents_163 (flX12_7 _ rfl) rfl rfl ?_
                            refine pm_bipush (v := nI 20) hG dX12_rents_166 (by decide) ?_
                            refine pm_iconst (v := nI 3) hG dX12_rents_168 (by decide) ?_
                            refine pm_iloadi hG dX12_rents_169 rfl ?_
                            refine pm_imulN (c := 3 * i44) hG dX12_rents_171 (by omega) ?_
                            refine pm_iaddN (c := 3 * i44 + 20) hG dX12_rents_172 (by omega) ?_
                            refine pm_aloadn hG dX12_rents_173 rfl ?_
                            refine pm_getf hG dX12_rents_174 (flX12_61 _ rfl) rfl rfl ?_
                            refine pm_bipush (v := nI 24) hG dX12_rents_177 (by decide) ?_
                            refine pm_iloadn hG dX12_rents_179 rfl ?_
                            refine pm_top (v := nI k3) ek3 ?_
                            refine pm_imulN (c := 24 * k3) hG dX12_rents_180 (by omega) ?_
                            refine pm_iloadi hG dX12_rents_181 rfl ?_
                            refine pm_iaddN (c := i44 + 24 * k3) hG dX12_rents_183 (by omega) ?_
                            refine pm_ialdN hG dX12_rents_184 rfl (by decide) (by omega) ?_
                            refine pm_any (fun x49 => ?_)
                            refine pm_iastN hG dX12_rents_185 rfl (by decide) (by omega) ?_
                            refine mdn_now (fun n_50 en_50 => ?_)
                            have hnn_50 := KI.w en_50 hnn_44 (okv_f (show kd (3 * i44 + 20) = (0, 0, false) from (kd_T (k := i44) (c := 0) (by omega) (by omega) (by decide))))
                            have hrn_50 := NRx.w en_50 hrn_44 (by rw [(show kd (3 * i44 + 20) = (0, 0, false) from (kd_T (k := i44) (c := 0) (by omega) (by omega) (by decide)))])
                            have e51 : n_50 8 = nI kc8 := by rw [en_50, pk_un (by omega)]; exact kc44_8
                            have e52 : n_50 (3 * i44 + 20) = x49 := by rw [en_50, pk_us]
                            refine pm_iincX (v := x44_3 + 1) (loc' := [some (.ref (B + 54)), some (.int za), some (.int zb), some (.int (x44_3 + 1)), some (.int (nI i44))]) hG dX12_rents_186 rfl (by rfl) (by decide) (pm_c1b rfl) rfl ?_
                            refine pm_iincX (v := nI (i44 + 1)) (loc' := [some (.ref (B + 54)), some (.int za), some (.int zb), some (.int (x44_3 + 1)), some (.int (nI (i44 + 1)))]) hG dX12_rents_189 rfl (nI_1 _) (by decide) (pm_c1b rfl) rfl ?_
                            refine pm_goto (tgt := 133) hG dX12_rents_192 rfl ?_
                            exact ih44 I44 A44 n_50 (x44_3 + 1) (i44 + 1) hnn_50 hrn_50 (e51.trans (congrArg nI (by omega))) (by omega) (by omega)
                          · refine pm_goto (tgt := 189) hG dX12_rents_159 rfl ?_
                            refine pm_iincX (v := nI (i44 + 1)) (loc' := [some (.ref (B + 54)), some (.int za), some (.int zb), some (.int x44_3), some (.int (nI (i44 + 1)))]) hG dX12_rents_189 rfl (nI_1 _) (by decide) (pm_c1b rfl) rfl ?_
                            refine pm_goto (tgt := 133) hG dX12_rents_192 rfl ?_
                            exact ih44 I44 A44 n_44 x44_3 (i44 + 1) hnn_44 hrn_44 (kc44_8.trans (congrArg nI (by omega))) (by omega) (by omega)
                    exact loop133_44 _ I42 A42 n_42 (nI 0) 0 hnn_42 hrn_42 (kc42_8.trans (congrArg nI (by omega))) (by omega) (Nat.lt_succ_self _)
                  · refine pm_aloadn hG dX12_rents_95 rfl ?_
                    refine pm_getf hG dX12_rents_96 (flX12_61 _ rfl) rfl rfl ?_
                    refine pm_bipush (v := nI 24) hG dX12_rents_99 (by decide) ?_
                    refine pm_iloadn hG dX12_rents_101 rfl ?_
                    refine pm_top (v := nI k3) ek3 ?_
                    refine pm_imulN (c := 24 * k3) hG dX12_rents_102 (by omega) ?_
                    refine pm_iloadn hG dX12_rents_103 rfl ?_
                    refine pm_iaddN (c := i42 + 24 * k3) hG dX12_rents_104 (by omega) ?_
                    refine pm_ialdN hG dX12_rents_105 rfl (by decide) (by omega) ?_
                    refine pm_any (fun x53 => ?_)
                    refine pm_iconst (v := (-1)) hG dX12_rents_106 (by decide) ?_
                    refine pm_sipush (v := nI 999) hG dX12_rents_107 (by decide) ?_
                    refine pm_callS (As := [.int x53, .int (-1), .int (nI 999)]) (rest := []) hG hR dX12_rents_110 (lkX12_68 _ rfl) okS_X12_in (m_in (d := 1)) rfl rfl hdd (Nat.le_refl _) (Nat.le_refl _) (by decide) (pm_ki (fun v54 σ' cnt' hq => ?_))
                    obtain ⟨hq, rfl, rfl⟩ := hq
                    rcases hq with ⟨rfl, ac55, bc55⟩ | ⟨rfl, c55⟩
                    · refine pm_ifN_ne (tgt := 122) hG dX12_rents_113 rfl (by omega) (fun _ => ?_) (fun q => absurd q (by omega))
                      refine pm_iincX (v := nI (i42 + 1)) (loc' := [some (.ref (B + 54)), some (.int za), some (.int zb), some (.int (nI (i42 + 1))), none]) hG dX12_rents_122 rfl (nI_1 _) (by decide) (pm_c1b rfl) rfl ?_
                      refine pm_goto (tgt := 85) hG dX12_rents_125 rfl ?_
                      exact ih42 I42 A42 n_42 (i42 + 1) hnn_42 hrn_42 (kc42_8.trans (congrArg nI (by omega))) (by omega) (by omega)
                    · refine pm_ifN_ne (tgt := 122) hG dX12_rents_113 rfl (by omega) (fun q => absurd q (by omega)) (fun _ => ?_)
                      refine pm_aloadn hG dX12_rents_116 rfl ?_
                      refine pm_iconst (v := nI 1) hG dX12_rents_117 (by decide) ?_
                      refine pm_callV (As := [.int (nI 1)]) (rest := []) hG hR dX12_rents_118 (lkX12_80 _ rfl) okV_X12_finds rfl rfl (m_finds (d := 1) (by decide) hnn_42 hz (by omega)) rfl rfl hdd (Nat.le_refl _) (Nat.le_refl _) (by decide) (pm_ki (fun v56 σ' cnt' hq => ?_))
                      obtain ⟨⟨I57, A57, rfl⟩, rfl, fv56⟩ := hq
                      exact pm_iret hG hF dX12_rents_121 rfl (Nat.le_refl _) (Nat.le_refl _) ⟨_, rfl, ⟨_, _, _, rfl, hnn_42, hrn_42, kc42_8.trans ekc8.symm⟩, rfl⟩
              exact loop85_42 _ I A n 0 hn hr (ekc8.trans (congrArg nI (by omega))) (by omega) (Nat.lt_succ_self _)
            · refine pm_aloadn hG dX12_rents_77 rfl ?_
              refine pm_iconst (v := nI 3) hG dX12_rents_78 (by decide) ?_
              refine pm_callV (As := [.int (nI 3)]) (rest := []) hG hR dX12_rents_79 (lkX12_80 _ rfl) okV_X12_finds rfl rfl (m_finds (d := 1) (by decide) hn hz (by omega)) rfl rfl hdd (Nat.le_refl _) (Nat.le_refl _) (by decide) (pm_ki (fun v58 σ' cnt' hq => ?_))
              obtain ⟨⟨I59, A59, rfl⟩, rfl, fv58⟩ := hq
              exact pm_iret hG hF dX12_rents_82 rfl (Nat.le_refl _) (Nat.le_refl _) ⟨_, rfl, ⟨_, _, _, rfl, hn, hr, ekc8.trans ekc8.symm⟩, rfl⟩
          · refine pm_aloadn hG dX12_rents_56 rfl ?_
            refine pm_iconst (v := nI 5) hG dX12_rents_57 (by decide) ?_
            refine pm_callV (As := [.int (nI 5)]) (rest := []) hG hR dX12_rents_58 (lkX12_80 _ rfl) okV_X12_finds rfl rfl (m_finds (d := 1) (by decide) hn hz (by omega)) rfl rfl hdd (Nat.le_refl _) (Nat.le_refl _) (by decide) (pm_ki (fun v60 σ' cnt' hq => ?_))
            obtain ⟨⟨I61, A61, rfl⟩, rfl, fv60⟩ := hq
            exact pm_iret hG hF dX12_rents_61 rfl (Nat.le_refl _) (Nat.le_refl _) ⟨_, rfl, ⟨_, _, _, rfl, hn, hr, ekc8.trans ekc8.symm⟩, rfl⟩
        · refine pm_aloadn hG dX12_rents_40 rfl ?_
          refine pm_iconst (v := nI 2) hG dX12_rents_41 (by decide) ?_
          refine pm_callV (As := [.int (nI 2)]) (rest := []) hG hR dX12_rents_42 (lkX12_80 _ rfl) okV_X12_finds rfl rfl (m_finds (d := 1) (by decide) hn hz (by omega)) rfl rfl hdd (Nat.le_refl _) (Nat.le_refl _) (by decide) (pm_ki (fun v62 σ' cnt' hq => ?_))
          obtain ⟨⟨I63, A63, rfl⟩, rfl, fv62⟩ := hq
          exact pm_iret hG hF dX12_rents_45 rfl (Nat.le_refl _) (Nat.le_refl _) ⟨_, rfl, ⟨_, _, _, rfl, hn, hr, ekc8.trans ekc8.symm⟩, rfl⟩
      · refine pm_iloadn hG dX12_rents_19 rfl ?_
        refine pm_bipush (v := nI 32) hG dX12_rents_20 (by decide) ?_
        refine pm_icmp_eq (tgt := 31) hG dX12_rents_22 rfl (fun c64 => ?_) (fun c64 => ?_)
        · refine pm_aloadn hG dX12_rents_31 rfl ?_
          refine pm_getf hG dX12_rents_32 (flX12_55 _ rfl) rfl rfl ?_
          refine pm_iloadn hG dX12_rents_35 rfl ?_
          refine pm_top (v := nI k3) ek3 ?_
          refine pm_ialdN hG dX12_rents_36 rfl (by decide) (by omega) ?_
          refine pm_any (fun x65 => ?_)
          refine pm_if_ne (tgt := 46) hG dX12_rents_37 rfl (fun c66 => ?_) (fun c66 => ?_)
          · refine pm_aloadn hG dX12_rents_46 rfl ?_
            refine pm_getf hG dX12_rents_47 (flX12_55 _ rfl) rfl rfl ?_
            refine pm_iloadn hG dX12_rents_50 rfl ?_
            refine pm_top (v := nI k3) ek3 ?_
            refine pm_ialdN hG dX12_rents_51 rfl (by decide) (by omega) ?_
            refine pm_any (fun x67 => ?_)
            refine pm_iloadn hG dX12_rents_52 rfl ?_
            refine pm_top (v := nI 32) c64 ?_
            refine pm_icmp_eq (tgt := 62) hG dX12_rents_53 rfl (fun c68 => ?_) (fun c68 => ?_)
            · refine pm_aloadn hG dX12_rents_62 rfl ?_
              refine pm_getf hG dX12_rents_63 (flX12_58 _ rfl) rfl rfl ?_
              refine pm_iloadn hG dX12_rents_66 rfl ?_
              refine pm_top (v := nI k3) ek3 ?_
              refine pm_ialdN hG dX12_rents_67 rfl (by decide) (by omega) ?_
              obtain ⟨k69, hk69, ek69⟩ := hz k3 (by omega)
              refine pm_top (v := nI k69) ek69 ?_
              refine pm_aloadn hG dX12_rents_68 rfl ?_
              refine pm_getf hG dX12_rents_69 (flX12_7 _ rfl) rfl rfl ?_
              refine pm_iconst (v := nI 0) hG dX12_rents_72 (by decide) ?_
              refine pm_ialdN hG dX12_rents_73 rfl (by decide) (by omega) ?_
              obtain ⟨k70, hk70, ek70⟩ := KI.nat hn (show kd 0 = (1, 11, true) by decide)
              refine pm_top (v := nI k70) ek70 ?_
              refine pm_icmpN_le (tgt := 83) hG dX12_rents_74 rfl (by omega) (by omega) (fun c71 => ?_) (fun c71 => ?_)
              · refine pm_iconst (v := nI 0) hG dX12_rents_83 (by decide) ?_
                refine pm_istoreXn (loc' := [some (.ref (B + 54)), some (.int za), some (.int zb), some (.int (nI 0)), none]) hG dX12_rents_84 (by decide) (pm_c1b rfl) rfl ?_
                have loop85_72 : ∀ (m72 : Nat) (I72 : Nat → Int32) (A72 : Nat → Nat → Int32) (n_72 : Nat → Int32) (i72 : Nat), KI n_72 → NRx 40 n_72 → n_72 8 = nI kc8 → i72 ≤ 24 → 24 - i72 < m72 → pm_wp mX12_rents G B 85 [some (.ref (B + 54)), some (.int za), some (.int zb), some (.int (nI i72)), none] [] 0 0 cnt (pm_mid σ (md_L B I72 A72 n_72 k z ac wt pl (nI p0) (nI t0) im)) := by
                  intro m72
                  induction m72 with
                  | zero => intro I72 A72 n_72 i72 _ _ _ _ hm; exact absurd hm (Nat.not_lt_zero _)
                  | succ m72 ih72 =>
                    intro I72 A72 n_72 i72 hnn_72 hrn_72 kc72_8 hi72 hm72
                    refine pm_iloadn hG dX12_rents_85 rfl ?_
                    refine pm_aloadn hG dX12_rents_86 rfl ?_
                    refine pm_getf hG dX12_rents_87 (flX12_58 _ rfl) rfl rfl ?_
                    refine pm_iloadn hG dX12_rents_90 rfl ?_
                    refine pm_top (v := nI k3) ek3 ?_
                    refine pm_ialdN hG dX12_rents_91 rfl (by decide) (by omega) ?_
                    refine pm_top (v := nI k69) ek69 ?_
                    refine pm_icmpN_ge (tgt := 128) hG dX12_rents_92 rfl (by omega) (by omega) (fun c73 => ?_) (fun c73 => ?_)
                    · refine pm_iconst (v := nI 0) hG dX12_rents_128 (by decide) ?_
                      refine pm_istoreXn (loc' := [some (.ref (B + 54)), some (.int za), some (.int zb), some (.int (nI 0)), none]) hG dX12_rents_129 (by decide) (pm_c1b rfl) rfl ?_
                      refine pm_iconst (v := nI 0) hG dX12_rents_130 (by decide) ?_
                      refine pm_istoreXi (loc' := [some (.ref (B + 54)), some (.int za), some (.int zb), some (.int (nI 0)), some (.int (nI 0))]) hG dX12_rents_131 (by decide) (pm_c1b rfl) rfl ?_
                      have loop133_74 : ∀ (m74 : Nat) (I74 : Nat → Int32) (A74 : Nat → Nat → Int32) (n_74 : Nat → Int32) (x74_3 : Int32) (i74 : Nat), KI n_74 → NRx 40 n_74 → n_74 8 = nI kc8 → i74 ≤ 24 → 24 - i74 < m74 → pm_wp mX12_rents G B 133 [some (.ref (B + 54)), some (.int za), some (.int zb), some (.int x74_3), some (.int (nI i74))] [] 0 0 cnt (pm_mid σ (md_L B I74 A74 n_74 k z ac wt pl (nI p0) (nI t0) im)) := by
                        intro m74
                        induction m74 with
                        | zero => intro I74 A74 n_74 x74_3 i74 _ _ _ _ hm; exact absurd hm (Nat.not_lt_zero _)
                        | succ m74 ih74 =>
                          intro I74 A74 n_74 x74_3 i74 hnn_74 hrn_74 kc74_8 hi74 hm74
                          refine pm_iloadi hG dX12_rents_133 rfl ?_
                          refine pm_aloadn hG dX12_rents_135 rfl ?_
                          refine pm_getf hG dX12_rents_136 (flX12_58 _ rfl) rfl rfl ?_
                          refine pm_iloadn hG dX12_rents_139 rfl ?_
                          refine pm_top (v := nI k3) ek3 ?_
                          refine pm_ialdN hG dX12_rents_140 rfl (by decide) (by omega) ?_
                          refine pm_top (v := nI k69) ek69 ?_
                          refine pm_icmpN_ge (tgt := 195) hG dX12_rents_141 rfl (by omega) (by omega) (fun c75 => ?_) (fun c75 => ?_)
                          · refine pm_iloadn hG dX12_rents_195 rfl ?_
                            exact pm_iret hG hF dX12_rents_196 rfl (Nat.le_refl _) (Nat.le_refl _) ⟨_, rfl, ⟨_, _, _, rfl, hnn_74, hrn_74, kc74_8.trans ekc8.symm⟩, rfl⟩
                          · refine pm_aloadn hG dX12_rents_144 rfl ?_
                            refine pm_getf hG dX12_rents_145 (flX12_61 _ rfl) rfl rfl ?_
                            refine pm_bipush (v := nI 24) hG dX12_rents_148 (by decide) ?_
                            refine pm_iloadn hG dX12_rents_150 rfl ?_
                            refine pm_top (v := nI k3) ek3 ?_
                            refine pm_imulN (c := 24 * k3) hG dX12_rents_151 (by omega) ?_
                            refine pm_iloadi hG dX12_rents_152 rfl ?_
                            refine pm_iaddN (c := i74 + 24 * k3) hG dX12_rents_154 (by omega) ?_
                            refine pm_ialdN hG dX12_rents_155 rfl (by decide) (by omega) ?_
                            refine pm_any (fun x76 => ?_)
                            refine pm_if_ge (tgt := 162) hG dX12_rents_156 rfl (fun c77 => ?_) (fun c77 => ?_)
                            · obtain ⟨k78, hk78, ek78⟩ := nI_of (Int32.not_lt.mpr c77)
                              refine pm_aloadn hG dX12_rents_162 rfl ?_
                              refine pm_getf hG dX12_rents_163 (flX12_7 _ rfl) rfl rfl ?_
                              refine pm_bipush (v := nI 20) hG dX12_rents_166 (by decide) ?_
                              refine pm_iconst (v := nI 3) hG dX12_rents_168 (by decide) ?_
                              refine pm_iloadi hG dX12_rents_169 rfl ?_
                              refine pm_imulN (c := 3 * i74) hG dX12_rents_171 (by omega) ?_
                              refine pm_iaddN (c := 3 * i74 + 20) hG dX12_rents_172 (by omega) ?_
                              refine pm_aloadn hG dX12_rents_173 rfl ?_
                              refine pm_getf hG dX12_rents_174 (flX12_61 _ rfl) rfl rfl ?_
                              refine pm_bipush (v := nI 24) hG dX12_rents_177 (by decide) ?_
                              refine pm_iloadn hG dX12_rents_179 rfl ?_
                              refine pm_top (v := nI k3) ek3 ?_
                              refine pm_imulN (c := 24 * k3) hG dX12_rents_180 (by omega) ?_
                              refine pm_iloadi hG dX12_rents_181 rfl ?_
                              refine pm_iaddN (c := i74 + 24 * k3) hG dX12_rents_183 (by omega) ?_
                              refine pm_ialdN hG dX12_rents_184 rfl (by decide) (by omega) ?_
                              refine pm_any (fun x79 => ?_)
                              refine pm_iastN hG dX12_rents_185 rfl (by decide) (by omega) ?_
                              refine mdn_now (fun n_80 en_80 => ?_)
                              have hnn_80 := KI.w en_80 hnn_74 (okv_f (show kd (3 * i74 + 20) = (0, 0, false) from (kd_T (k := i74) (c := 0) (by omega) (by omega) (by decide))))
                              have hrn_80 := NRx.w en_80 hrn_74 (by rw [(show kd (3 * i74 + 20) = (0, 0, false) from (kd_T (k := i74) (c := 0) (by omega) (by omega) (by decide)))])
                              have e81 : n_80 8 = nI kc8 := by rw [en_80, pk_un (by omega)]; exact kc74_8
                              have e82 : n_80 (3 * i74 + 20) = x79 := by rw [en_80, pk_us]
                              refine pm_iincX (v := x74_3 + 1) (loc' := [some (.ref (B + 54)), some (.int za), some (.int zb), some (.int (x74_3 + 1)), some (.int (nI i74))]) hG dX12_rents_186 rfl (by rfl) (by decide) (pm_c1b rfl) rfl ?_
                              refine pm_iincX (v := nI (i74 + 1)) (loc' := [some (.ref (B + 54)), some (.int za), some (.int zb), some (.int (x74_3 + 1)), some (.int (nI (i74 + 1)))]) hG dX12_rents_189 rfl (nI_1 _) (by decide) (pm_c1b rfl) rfl ?_
                              refine pm_goto (tgt := 133) hG dX12_rents_192 rfl ?_
                              exact ih74 I74 A74 n_80 (x74_3 + 1) (i74 + 1) hnn_80 hrn_80 (e81.trans (congrArg nI (by omega))) (by omega) (by omega)
                            · refine pm_goto (tgt := 189) hG dX12_rents_159 rfl ?_
                              refine pm_iincX (v := nI (i74 + 1)) (loc' := [some (.ref (B + 54)), some (.int za), some (.int zb), some (.int x74_3), some (.int (nI (i74 + 1)))]) hG dX12_rents_189 rfl (nI_1 _) (by decide) (pm_c1b rfl) rfl ?_
                              refine pm_goto (tgt := 133) hG dX12_rents_192 rfl ?_
                              exact ih74 I74 A74 n_74 x74_3 (i74 + 1) hnn_74 hrn_74 (kc74_8.trans (congrArg nI (by omega))) (by omega) (by omega)
                      exact loop133_74 _ I72 A72 n_72 (nI 0) 0 hnn_72 hrn_72 (kc72_8.trans (congrArg nI (by omega))) (by omega) (Nat.lt_succ_self _)
                    · refine pm_aloadn hG dX12_rents_95 rfl ?_
                      refine pm_getf hG dX12_rents_96 (flX12_61 _ rfl) rfl rfl ?_
                      refine pm_bipush (v := nI 24) hG dX12_rents_99 (by decide) ?_
                      refine pm_iloadn hG dX12_rents_101 rfl ?_
                      refine pm_top (v := nI k3) ek3 ?_
                      refine pm_imulN (c := 24 * k3) hG dX12_rents_102 (by omega) ?_
                      refine pm_iloadn hG dX12_rents_103 rfl ?_
                      refine pm_iaddN (c := i72 + 24 * k3) hG dX12_rents_104 (by omega) ?_
                      refine pm_ialdN hG dX12_rents_105 rfl (by decide) (by omega) ?_
                      refine pm_any (fun x83 => ?_)
                      refine pm_iconst (v := (-1)) hG dX12_rents_106 (by decide) ?_
                      refine pm_sipush (v := nI 999) hG dX12_rents_107 (by decide) ?_
                      refine pm_callS (As := [.int x83, .int (-1), .int (nI 999)]) (rest := []) hG hR dX12_rents_110 (lkX12_68 _ rfl) okS_X12_in (m_in (d := 1)) rfl rfl hdd (Nat.le_refl _) (Nat.le_refl _) (by decide) (pm_ki (fun v84 σ' cnt' hq => ?_))
                      obtain ⟨hq, rfl, rfl⟩ := hq
                      rcases hq with ⟨rfl, ac85, bc85⟩ | ⟨rfl, c85⟩
                      · refine pm_ifN_ne (tgt := 122) hG dX12_rents_113 rfl (by omega) (fun _ => ?_) (fun q => absurd q (by omega))
                        refine pm_iincX (v := nI (i72 + 1)) (loc' := [some (.ref (B + 54)), some (.int za), some (.int zb), some (.int (nI (i72 + 1))), none]) hG dX12_rents_122 rfl (nI_1 _) (by decide) (pm_c1b rfl) rfl ?_
                        refine pm_goto (tgt := 85) hG dX12_rents_125 rfl ?_
                        exact ih72 I72 A72 n_72 (i72 + 1) hnn_72 hrn_72 (kc72_8.trans (congrArg nI (by omega))) (by omega) (by omega)
                      · refine pm_ifN_ne (tgt := 122) hG dX12_rents_113 rfl (by omega) (fun q => absurd q (by omega)) (fun _ => ?_)
                        refine pm_aloadn hG dX12_rents_116 rfl ?_
                        refine pm_iconst (v := nI 1) hG dX12_rents_117 (by decide) ?_
                        refine pm_callV (As := [.int (nI 1)]) (rest := []) hG hR dX12_rents_118 (lkX12_80 _ rfl) okV_X12_finds rfl rfl (m_finds (d := 1) (by decide) hnn_72 hz (by omega)) rfl rfl hdd (Nat.le_refl _) (Nat.le_refl _) (by decide) (pm_ki (fun v86 σ' cnt' hq => ?_))
                        obtain ⟨⟨I87, A87, rfl⟩, rfl, fv86⟩ := hq
                        exact pm_iret hG hF dX12_rents_121 rfl (Nat.le_refl _) (Nat.le_refl _) ⟨_, rfl, ⟨_, _, _, rfl, hnn_72, hrn_72, kc72_8.trans ekc8.symm⟩, rfl⟩
                exact loop85_72 _ I A n 0 hn hr (ekc8.trans (congrArg nI (by omega))) (by omega) (Nat.lt_succ_self _)
              · refine pm_aloadn hG dX12_rents_77 rfl ?_
                refine pm_iconst (v := nI 3) hG dX12_rents_78 (by decide) ?_
                refine pm_callV (As := [.int (nI 3)]) (rest := []) hG hR dX12_rents_79 (lkX12_80 _ rfl) okV_X12_finds rfl rfl (m_finds (d := 1) (by decide) hn hz (by omega)) rfl rfl hdd (Nat.le_refl _) (Nat.le_refl _) (by decide) (pm_ki (fun v88 σ' cnt' hq => ?_))
                obtain ⟨⟨I89, A89, rfl⟩, rfl, fv88⟩ := hq
                exact pm_iret hG hF dX12_rents_82 rfl (Nat.le_refl _) (Nat.le_refl _) ⟨_, rfl, ⟨_, _, _, rfl, hn, hr, ekc8.trans ekc8.symm⟩, rfl⟩
            · refine pm_aloadn hG dX12_rents_56 rfl ?_
              refine pm_iconst (v := nI 5) hG dX12_rents_57 (by decide) ?_
              refine pm_callV (As := [.int (nI 5)]) (rest := []) hG hR dX12_rents_58 (lkX12_80 _ rfl) okV_X12_finds rfl rfl (m_finds (d := 1) (by decide) hn hz (by omega)) rfl rfl hdd (Nat.le_refl _) (Nat.le_refl _) (by decide) (pm_ki (fun v90 σ' cnt' hq => ?_))
              obtain ⟨⟨I91, A91, rfl⟩, rfl, fv90⟩ := hq
              exact pm_iret hG hF dX12_rents_61 rfl (Nat.le_refl _) (Nat.le_refl _) ⟨_, rfl, ⟨_, _, _, rfl, hn, hr, ekc8.trans ekc8.symm⟩, rfl⟩
          · refine pm_aloadn hG dX12_rents_40 rfl ?_
            refine pm_iconst (v := nI 2) hG dX12_rents_41 (by decide) ?_
            refine pm_callV (As := [.int (nI 2)]) (rest := []) hG hR dX12_rents_42 (lkX12_80 _ rfl) okV_X12_finds rfl rfl (m_finds (d := 1) (by decide) hn hz (by omega)) rfl rfl hdd (Nat.le_refl _) (Nat.le_refl _) (by decide) (pm_ki (fun v92 σ' cnt' hq => ?_))
            obtain ⟨⟨I93, A93, rfl⟩, rfl, fv92⟩ := hq
            exact pm_iret hG hF dX12_rents_45 rfl (Nat.le_refl _) (Nat.le_refl _) ⟨_, rfl, ⟨_, _, _, rfl, hn, hr, ekc8.trans ekc8.symm⟩, rfl⟩
        · refine pm_aloadn hG dX12_rents_25 rfl ?_
          refine pm_iconst (v := nI 1) hG dX12_rents_26 (by decide) ?_
          refine pm_callV (As := [.int (nI 1)]) (rest := []) hG hR dX12_rents_27 (lkX12_80 _ rfl) okV_X12_finds rfl rfl (m_finds (d := 1) (by decide) hn hz (by omega)) rfl rfl hdd (Nat.le_refl _) (Nat.le_refl _) (by decide) (pm_ki (fun v94 σ' cnt' hq => ?_))
          obtain ⟨⟨I95, A95, rfl⟩, rfl, fv94⟩ := hq
          exact pm_iret hG hF dX12_rents_30 rfl (Nat.le_refl _) (Nat.le_refl _) ⟨_, rfl, ⟨_, _, _, rfl, hn, hr, ekc8.trans ekc8.symm⟩, rfl⟩
  · refine pm_ifN_eq (tgt := 25) hG dX12_rents_4 rfl (by omega) (fun _ => ?_) (fun q => absurd q (by omega))
    refine pm_aloadn hG dX12_rents_25 rfl ?_
    refine pm_iconst (v := nI 1) hG dX12_rents_26 (by decide) ?_
    refine pm_callV (As := [.int (nI 1)]) (rest := []) hG hR dX12_rents_27 (lkX12_80 _ rfl) okV_X12_finds rfl rfl (m_finds (d := 1) (by decide) hn hz (by omega)) rfl rfl hdd (Nat.le_refl _) (Nat.le_refl _) (by decide) (pm_ki (fun v96 σ' cnt' hq => ?_))
    obtain ⟨⟨I97, A97, rfl⟩, rfl, fv96⟩ := hq
    exact pm_iret hG hF dX12_rents_30 rfl (Nat.le_refl _) (Nat.le_refl _) ⟨_, rfl, ⟨_, _, _, rfl, hn, hr, ekc8.trans ekc8.symm⟩, rfl⟩
