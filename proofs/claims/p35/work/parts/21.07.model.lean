set_option maxRecDepth 100000 in
set_option maxHeartbeats 4000000 in
theorem m_days {d B cnt p0 t0 : Nat} {σ : pm_S} {I : Nat → Int32} {A : Nat → Nat → Int32} {n k z : Nat → Int32} {ac wt pl im : Int32} {za : Int32} (hdd : 3 ≤ d) (hn : KI n) (hr : NR n) (hz : SZ z)  : pm_met mX12_days d 0 0 B [.ref (B + 54), .int za] cnt (pm_mid σ (md_L B I A n k z ac wt pl (nI p0) (nI t0) im)) (pm_Qi (fun v σ' cnt' => (∃ (I' : Nat → Int32) (A' : Nat → Nat → Int32) (n' : Nat → Int32), σ' = pm_mid σ (md_L B I' A' n' k z ac wt pl (nI p0) (nI t0) im) ∧ KI n' ∧ NR n' ∧ n' 0 = n 0 ∧ n' 2 = n 2 ∧ n' 7 = n 7 ∧ KS n' n ∧ v = vD (n 8) za ∧ n' 8 = tD (n 8) za) ∧ cnt = cnt')) := by
  obtain ⟨kc0, hkc0, ekc0⟩ := KI.nat hn (show kd 0 = (1, 11, true) by decide)
  obtain ⟨kc2, hkc2, ekc2⟩ := KI.nat hn (show kd 2 = (1, 21, true) by decide)
  obtain ⟨kc7, hkc7, ekc7⟩ := KI.nat hn (show kd 7 = (1, 31, false) by decide)
  obtain ⟨kc8, hkc8, ekc8⟩ := KI.nat hn (show kd 8 = (1, 2001, false) by decide)
  refine pm_enter 2 (by decide) (Nat.le_of_ble_eq_true rfl) rfl (fun G hG hR hF => ?_)
  refine pm_iloadn hG dX12_days_0 rfl ?_
  refine pm_iconst (v := nI 1) hG dX12_days_1 (by decide) ?_
  refine pm_sipush (v := nI 400) hG dX12_days_2 (by decide) ?_
  refine pm_callS (As := [.int za, .int (nI 1), .int (nI 400)]) (rest := []) hG hR dX12_days_5 (lkX12_68 _ rfl) okS_X12_in (m_in (d := 2)) rfl rfl hdd (Nat.le_refl _) (Nat.le_refl _) (by decide) (pm_ki (fun v1 σ' cnt' hq => ?_))
  obtain ⟨hq, rfl, rfl⟩ := hq
  rcases hq with ⟨rfl, ac2, bc2⟩ | ⟨rfl, c2⟩
  · obtain ⟨k3, hk3, ek3⟩ := in_nat (by omega) (by omega) ac2 bc2
    refine pm_ifN_eq (tgt := 26) hG dX12_days_8 rfl (by omega) (fun q => absurd q (by omega)) (fun _ => ?_)
    refine pm_aloadn hG dX12_days_11 rfl ?_
    refine pm_getf hG dX12_days_12 (flX12_7 _ rfl) rfl rfl ?_
    refine pm_bipush (v := nI 8) hG dX12_days_15 (by decide) ?_
    refine pm_ialdN hG dX12_days_17 rfl (by decide) (by omega) ?_
    refine pm_top (v := nI kc8) ekc8 ?_
    refine pm_iloadn hG dX12_days_18 rfl ?_
    refine pm_top (v := nI k3) ek3 ?_
    refine pm_iaddN (c := k3 + kc8) hG dX12_days_19 (by omega) ?_
    refine pm_sipush (v := nI 2000) hG dX12_days_20 (by decide) ?_
    refine pm_icmpN_le (tgt := 32) hG dX12_days_23 rfl (by omega) (by omega) (fun c4 => ?_) (fun c4 => ?_)
    · refine pm_iconst (v := nI 0) hG dX12_days_32 (by decide) ?_
      refine pm_istoreXn (loc' := [some (.ref (B + 54)), some (.int za), some (.int (nI 0)), none]) hG dX12_days_33 (by decide) (pm_c1b rfl) rfl ?_
      have loop34_5 : ∀ (m5 : Nat) (I5 : Nat → Int32) (A5 : Nat → Nat → Int32) (n_5 : Nat → Int32) (i5 : Nat), KI n_5 → KS n_5 n → NRx 40 n_5 → n_5 0 = nI kc0 → n_5 2 = nI kc2 → n_5 7 = nI kc7 → n_5 8 = nI (i5 + kc8) → i5 ≤ 400 → i5 ≤ k3 → 400 - i5 < m5 → pm_wp mX12_days G B 34 [some (.ref (B + 54)), some (.int za), some (.int (nI i5)), none] [] 0 0 cnt (pm_mid σ (md_L B I5 A5 n_5 k z ac wt pl (nI p0) (nI t0) im)) := by
        intro m5
        induction m5 with
        | zero => intro I5 A5 n_5 i5 _ _ _ _ _ _ _ _ _ hm; exact absurd hm (Nat.not_lt_zero _)
        | succ m5 ih5 =>
          intro I5 A5 n_5 i5 hnn_5 ksn_5 hrn_5 kc5_0 kc5_2 kc5_7 kc5_8 hi5 lek5 hm5
          refine pm_iloadn hG dX12_days_34 rfl ?_
          refine pm_iloadn hG dX12_days_35 rfl ?_
          refine pm_top (v := nI k3) ek3 ?_
          refine pm_icmpN_ge (tgt := 185) hG dX12_days_36 rfl (by omega) (by omega) (fun c6 => ?_) (fun c6 => ?_)
          · refine pm_aloadn hG dX12_days_185 rfl ?_
            refine pm_getf hG dX12_days_186 (flX12_7 _ rfl) rfl rfl ?_
            refine pm_bipush (v := nI 8) hG dX12_days_189 (by decide) ?_
            refine pm_ialdN hG dX12_days_191 rfl (by decide) (by omega) ?_
            refine pm_top (v := nI (i5 + kc8)) kc5_8 ?_
            exact pm_iret hG hF dX12_days_192 rfl (Nat.le_refl _) (Nat.le_refl _) ⟨_, rfl, ⟨_, _, _, rfl, hnn_5, hrn_5, kc5_0.trans ekc0.symm, kc5_2.trans ekc2.symm, kc5_7.trans ekc7.symm, ksn_5, ⟨(vD_ok ekc8 ek3 (by omega) (by omega) (by omega) (by omega)).1, kc5_8.trans (vD_ok ekc8 ek3 (by omega) (by omega) (by omega) (by omega)).2⟩⟩, rfl⟩
          · refine pm_aloadn hG dX12_days_39 rfl ?_
            refine pm_getf hG dX12_days_40 (flX12_7 _ rfl) rfl rfl ?_
            refine pm_bipush (v := nI 8) hG dX12_days_43 (by decide) ?_
            refine pm_dup2 hG dX12_days_45 rfl rfl ?_
            refine pm_ialdN hG dX12_days_46 rfl (by decide) (by omega) ?_
            refine pm_top (v := nI (i5 + kc8)) kc5_8 ?_
            refine pm_iconst (v := nI 1) hG dX12_days_47 (by decide) ?_
            refine pm_iaddN (c := i5 + kc8 + 1) hG dX12_days_48 (by omega) ?_
            refine pm_iastN hG dX12_days_49 rfl (by decide) (by omega) ?_
            refine mdn_now (fun n_7 en_7 => ?_)
            have hnn_7 := KI.w en_7 hnn_5 (okv_n (show kd 8 = (1, 2001, false) by decide) (by omega))
            have hrn_7 := NRx.w en_7 hrn_5 (by rw [(show kd 8 = (1, 2001, false) by decide)])
            have ksn_7 := KS.w en_7 ksn_5 (by unfold tS; omega)
            have e8 : n_7 0 = nI kc0 := by rw [en_7, pk_un (by omega)]; exact kc5_0
            have e9 : n_7 2 = nI kc2 := by rw [en_7, pk_un (by omega)]; exact kc5_2
            have e10 : n_7 7 = nI kc7 := by rw [en_7, pk_un (by omega)]; exact kc5_7
            have e11 : n_7 8 = nI (i5 + kc8 + 1) := by rw [en_7, pk_us]
            refine pm_iconst (v := nI 0) hG dX12_days_50 (by decide) ?_
            refine pm_istoreXn (loc' := [some (.ref (B + 54)), some (.int za), some (.int (nI i5)), some (.int (nI 0))]) hG dX12_days_51 (by decide) (pm_c1b rfl) rfl ?_
            have loop52_12 : ∀ (m12 : Nat) (I12 : Nat → Int32) (A12 : Nat → Nat → Int32) (n_12 : Nat → Int32) (i12 : Nat), KI n_12 → KS n_12 n → NRx 40 n_12 → n_12 8 = nI (i5 + kc8 + 1) → n_12 0 = nI kc0 → n_12 2 = nI kc2 → n_12 7 = nI kc7 → i12 ≤ 20 → 20 - i12 < m12 → pm_wp mX12_days G B 52 [some (.ref (B + 54)), some (.int za), some (.int (nI i5)), some (.int (nI i12))] [] 0 0 cnt (pm_mid σ (md_L B I12 A12 n_12 k z ac wt pl (nI p0) (nI t0) im)) := by
              intro m12
              induction m12 with
              | zero => intro I12 A12 n_12 i12 _ _ _ _ _ _ _ _ hm; exact absurd hm (Nat.not_lt_zero _)
              | succ m12 ih12 =>
                intro I12 A12 n_12 i12 hnn_12 ksn_12 hrn_12 kc12_8 kc12_0 kc12_2 kc12_7 hi12 hm12
                refine pm_iloadn hG dX12_days_52 rfl ?_
                refine pm_aloadn hG dX12_days_53 rfl ?_
                refine pm_getf hG dX12_days_54 (flX12_7 _ rfl) rfl rfl ?_
                refine pm_iconst (v := nI 2) hG dX12_days_57 (by decide) ?_
                refine pm_ialdN hG dX12_days_58 rfl (by decide) (by omega) ?_
                refine pm_top (v := nI kc2) kc12_2 ?_
                refine pm_icmpN_ge (tgt := 114) hG dX12_days_59 rfl (by omega) (by omega) (fun c13 => ?_) (fun c13 => ?_)
                · refine pm_iconst (v := nI 0) hG dX12_days_114 (by decide) ?_
                  refine pm_istoreXn (loc' := [some (.ref (B + 54)), some (.int za), some (.int (nI i5)), some (.int (nI 0))]) hG dX12_days_115 (by decide) (pm_c1b rfl) rfl ?_
                  have loop116_14 : ∀ (m14 : Nat) (I14 : Nat → Int32) (A14 : Nat → Nat → Int32) (n_14 : Nat → Int32) (i14 : Nat), KI n_14 → KS n_14 n → NRx 40 n_14 → n_14 8 = nI (i5 + kc8 + 1) → n_14 0 = nI kc0 → n_14 2 = nI kc2 → n_14 7 = nI kc7 → i14 ≤ 20 → 20 - i14 < m14 → pm_wp mX12_days G B 116 [some (.ref (B + 54)), some (.int za), some (.int (nI i5)), some (.int (nI i14))] [] 0 0 cnt (pm_mid σ (md_L B I14 A14 n_14 k z ac wt pl (nI p0) (nI t0) im)) := by
                    intro m14
                    induction m14 with
                    | zero => intro I14 A14 n_14 i14 _ _ _ _ _ _ _ _ hm; exact absurd hm (Nat.not_lt_zero _)
                    | succ m14 ih14 =>
                      intro I14 A14 n_14 i14 hnn_14 ksn_14 hrn_14 kc14_8 kc14_0 kc14_2 kc14_7 hi14 hm14
                      refine pm_iloadn hG dX12_days_116 rfl ?_
                      refine pm_aloadn hG dX12_days_117 rfl ?_
                      refine pm_getf hG dX12_days_118 (flX12_7 _ rfl) rfl rfl ?_
                      refine pm_iconst (v := nI 3) hG dX12_days_121 (by decide) ?_
                      refine pm_ialdN hG dX12_days_122 rfl (by decide) (by omega) ?_
                      obtain ⟨k15, hk15, ek15⟩ := KI.nat hnn_14 (show kd 3 = (1, 21, false) by decide)
                      refine pm_top (v := nI k15) ek15 ?_
                      refine pm_icmpN_ge (tgt := 162) hG dX12_days_123 rfl (by omega) (by omega) (fun c16 => ?_) (fun c16 => ?_)
                      · refine pm_aloadn hG dX12_days_162 rfl ?_
                        refine pm_getf hG dX12_days_163 (flX12_7 _ rfl) rfl rfl ?_
                        refine pm_bipush (v := nI 8) hG dX12_days_166 (by decide) ?_
                        refine pm_ialdN hG dX12_days_168 rfl (by decide) (by omega) ?_
                        refine pm_top (v := nI (i5 + kc8 + 1)) kc14_8 ?_
                        refine pm_bipush (v := nI 90) hG dX12_days_169 (by decide) ?_
                        refine pm_iremM hG dX12_days_171 (by omega) (by decide) (by decide) ?_
                        refine pm_ifN_ne (tgt := 179) hG dX12_days_172 rfl (by omega) (fun c17 => ?_) (fun c17 => ?_)
                        · refine pm_iincX (v := nI (i5 + 1)) (loc' := [some (.ref (B + 54)), some (.int za), some (.int (nI (i5 + 1))), some (.int (nI i14))]) hG dX12_days_179 rfl (nI_1 _) (by decide) (pm_c1b rfl) rfl ?_
                          refine pm_goto (tgt := 34) hG dX12_days_182 rfl ?_
                          refine pm_fg 3 (loc' := [some (.ref (B + 54)), some (.int za), some (.int (nI (i5 + 1))), none]) rfl ?_
                          exact ih5 I14 A14 n_14 (i5 + 1) hnn_14 ksn_14 hrn_14 (kc14_0.trans (congrArg nI (by omega))) (kc14_2.trans (congrArg nI (by omega))) (kc14_7.trans (congrArg nI (by omega))) (kc14_8.trans (congrArg nI (by omega))) (by omega) (by omega) (by omega)
                        · refine pm_aloadn hG dX12_days_175 rfl ?_
                          refine pm_callV (As := []) (rest := []) hG hR dX12_days_176 (lkX12_236 _ rfl) okV_X12_quarter rfl rfl (m_quarter (d := 2) (by decide) hnn_14 hrn_14 hz) rfl rfl hdd (Nat.le_refl _) (Nat.le_refl _) (by decide) (pm_kv (fun σ' cnt' hq => ?_))
                          obtain ⟨⟨n_19, rfl, hn19, hr19, hc19_0, hc19_2, hc19_7, hc19_8, hks19⟩, rfl⟩ := hq
                          have e20 : n_19 0 = nI kc0 := hc19_0.trans kc14_0
                          have e21 : n_19 2 = nI kc2 := hc19_2.trans kc14_2
                          have e22 : n_19 7 = nI kc7 := hc19_7.trans kc14_7
                          have e23 : n_19 8 = nI (i5 + kc8 + 1) := hc19_8.trans kc14_8
                          refine pm_iincX (v := nI (i5 + 1)) (loc' := [some (.ref (B + 54)), some (.int za), some (.int (nI (i5 + 1))), some (.int (nI i14))]) hG dX12_days_179 rfl (nI_1 _) (by decide) (pm_c1b rfl) rfl ?_
                          refine pm_goto (tgt := 34) hG dX12_days_182 rfl ?_
                          refine pm_fg 3 (loc' := [some (.ref (B + 54)), some (.int za), some (.int (nI (i5 + 1))), none]) rfl ?_
                          exact ih5 I14 A14 n_19 (i5 + 1) hn19 (hks19.tr ksn_14) hr19 (e20.trans (congrArg nI (by omega))) (e21.trans (congrArg nI (by omega))) (e22.trans (congrArg nI (by omega))) (e23.trans (congrArg nI (by omega))) (by omega) (by omega) (by omega)
                      · refine pm_aloadn hG dX12_days_126 rfl ?_
                        refine pm_iloadn hG dX12_days_127 rfl ?_
                        refine pm_iconst (v := nI 2) hG dX12_days_128 (by decide) ?_
                        refine pm_callV (As := [.int (nI i14), .int (nI 2)]) (rest := []) hG hR dX12_days_129 (lkX12_110 _ rfl) okV_X12_its rfl rfl (m_its (d := 2) (e := 6 * i14 + 392) (by omega) (by omega) (by omega)) rfl rfl hdd (Nat.le_refl _) (Nat.le_refl _) (by decide) (pm_ki (fun v24 σ' cnt' hq => ?_))
                        obtain ⟨rfl, rfl, rfl⟩ := hq
                        rcases KI.opt hnn_14 (show kd (6 * i14 + 392) = (2, 20, false) from (kd_W (k := i14) (c := 2) (by omega) (by omega) (by decide))) with ek25 | ⟨k25, hk25, ek25⟩
                        · refine pm_top (v := (-1)) ek25 ?_
                          refine pm_if_lt (tgt := 156) hG dX12_days_132 rfl (fun _ => ?_) (fun q => absurd q (by decide))
                          refine pm_iincX (v := nI (i14 + 1)) (loc' := [some (.ref (B + 54)), some (.int za), some (.int (nI i5)), some (.int (nI (i14 + 1)))]) hG dX12_days_156 rfl (nI_1 _) (by decide) (pm_c1b rfl) rfl ?_
                          refine pm_goto (tgt := 116) hG dX12_days_159 rfl ?_
                          exact ih14 I14 A14 n_14 (i14 + 1) hnn_14 ksn_14 hrn_14 (kc14_8.trans (congrArg nI (by omega))) (kc14_0.trans (congrArg nI (by omega))) (kc14_2.trans (congrArg nI (by omega))) (kc14_7.trans (congrArg nI (by omega))) (by omega) (by omega)
                        · refine pm_top (v := nI k25) ek25 ?_
                          refine pm_ifN_lt hG dX12_days_132 rfl (by omega) ?_
                          refine pm_aloadn hG dX12_days_135 rfl ?_
                          refine pm_iloadn hG dX12_days_136 rfl ?_
                          refine pm_iconst (v := nI 3) hG dX12_days_137 (by decide) ?_
                          refine pm_callV (As := [.int (nI i14), .int (nI 3)]) (rest := []) hG hR dX12_days_138 (lkX12_110 _ rfl) okV_X12_its rfl rfl (m_its (d := 2) (e := 6 * i14 + 393) (by omega) (by omega) (by omega)) rfl rfl hdd (Nat.le_refl _) (Nat.le_refl _) (by decide) (pm_ki (fun v26 σ' cnt' hq => ?_))
                          obtain ⟨rfl, rfl, rfl⟩ := hq
                          refine pm_gen (fun x27 ex27 => ?_)
                          refine pm_aloadn hG dX12_days_141 rfl ?_
                          refine pm_getf hG dX12_days_142 (flX12_7 _ rfl) rfl rfl ?_
                          refine pm_bipush (v := nI 8) hG dX12_days_145 (by decide) ?_
                          refine pm_ialdN hG dX12_days_147 rfl (by decide) (by omega) ?_
                          refine pm_top (v := nI (i5 + kc8 + 1)) kc14_8 ?_
                          refine pm_icmp_ge (tgt := 156) hG dX12_days_148 rfl (fun c28 => ?_) (fun c28 => ?_)
                          · refine pm_iincX (v := nI (i14 + 1)) (loc' := [some (.ref (B + 54)), some (.int za), some (.int (nI i5)), some (.int (nI (i14 + 1)))]) hG dX12_days_156 rfl (nI_1 _) (by decide) (pm_c1b rfl) rfl ?_
                            refine pm_goto (tgt := 116) hG dX12_days_159 rfl ?_
                            exact ih14 I14 A14 n_14 (i14 + 1) hnn_14 ksn_14 hrn_14 (kc14_8.trans (congrArg nI (by omega))) (kc14_0.trans (congrArg nI (by omega))) (kc14_2.trans (congrArg nI (by omega))) (kc14_7.trans (congrArg nI (by omega))) (by omega) (by omega)
                          · refine pm_aloadn hG dX12_days_151 rfl ?_
                            refine pm_iloadn hG dX12_days_152 rfl ?_
                            refine pm_callV (As := [.int (nI i14)]) (rest := []) hG hR dX12_days_153 (lkX12_116 _ rfl) okV_X12_comesBack rfl rfl (m_comesBack (d := 2) (e := 6 * i14 + 392) (e2 := 6 * i14 + 393) (by decide) (by omega) (by omega) (by omega)) rfl rfl hdd (Nat.le_refl _) (Nat.le_refl _) (by decide) (pm_kv (fun σ' cnt' hq => ?_))
                            obtain ⟨rfl, rfl⟩ := hq
                            obtain ⟨n_29, en_29⟩ : ∃ f : Nat → Int32, f = upd n_14 (6 * i14 + 392) (-1) := ⟨_, rfl⟩
                            rw [← en_29]
                            have hnn_29 := KI.w en_29 hnn_14 (okv_m (show kd (6 * i14 + 392) = (2, 20, false) from (kd_W (k := i14) (c := 2) (by omega) (by omega) (by decide))))
                            have hrn_29 := NRx.w en_29 hrn_14 (by rw [(show kd (6 * i14 + 392) = (2, 20, false) from (kd_W (k := i14) (c := 2) (by omega) (by omega) (by decide)))])
                            have ksn_29 := KS.w en_29 ksn_14 (by unfold tS; omega)
                            have e30 : n_29 8 = nI (i5 + kc8 + 1) := by rw [en_29, pk_un (by omega)]; exact kc14_8
                            have e31 : n_29 0 = nI kc0 := by rw [en_29, pk_un (by omega)]; exact kc14_0
                            have e32 : n_29 2 = nI kc2 := by rw [en_29, pk_un (by omega)]; exact kc14_2
                            have e33 : n_29 7 = nI kc7 := by rw [en_29, pk_un (by omega)]; exact kc14_7
                            have e34 : n_29 3 = nI k15 := by rw [en_29, pk_un (by omega)]; exact ek15
                            have e35 : n_29 (6 * i14 + 393) = x27 := by rw [en_29, pk_un (by omega)]; exact ex27
                            have e36 : n_29 (6 * i14 + 392) = (-1) := by rw [en_29, pk_us]
                            obtain ⟨n_37, en_37⟩ : ∃ f : Nat → Int32, f = upd n_29 (6 * i14 + 393) (-1) := ⟨_, rfl⟩
                            rw [← en_37]
                            have hnn_37 := KI.w en_37 hnn_29 (okv_f (show kd (6 * i14 + 393) = (0, 0, false) from (kd_W (k := i14) (c := 3) (by omega) (by omega) (by decide))))
                            have hrn_37 := NRx.w en_37 hrn_29 (by rw [(show kd (6 * i14 + 393) = (0, 0, false) from (kd_W (k := i14) (c := 3) (by omega) (by omega) (by decide)))])
                            have ksn_37 := KS.w en_37 ksn_29 (by unfold tS; omega)
                            have e38 : n_37 8 = nI (i5 + kc8 + 1) := by rw [en_37, pk_un (by omega)]; exact e30
                            have e39 : n_37 0 = nI kc0 := by rw [en_37, pk_un (by omega)]; exact e31
                            have e40 : n_37 2 = nI kc2 := by rw [en_37, pk_un (by omega)]; exact e32
                            have e41 : n_37 7 = nI kc7 := by rw [en_37, pk_un (by omega)]; exact e33
                            have e42 : n_37 3 = nI k15 := by rw [en_37, pk_un (by omega)]; exact e34
                            have e43 : n_37 (6 * i14 + 392) = (-1) := by rw [en_37, pk_un (by omega)]; exact e36
                            have e44 : n_37 (6 * i14 + 393) = (-1) := by rw [en_37, pk_us]
                            refine pm_iincX (v := nI (i14 + 1)) (loc' := [some (.ref (B + 54)), some (.int za), some (.int (nI i5)), some (.int (nI (i14 + 1)))]) hG dX12_days_156 rfl (nI_1 _) (by decide) (pm_c1b rfl) rfl ?_
                            refine pm_goto (tgt := 116) hG dX12_days_159 rfl ?_
                            exact ih14 I14 A14 n_37 (i14 + 1) hnn_37 ksn_37 hrn_37 (e38.trans (congrArg nI (by omega))) (e39.trans (congrArg nI (by omega))) (e40.trans (congrArg nI (by omega))) (e41.trans (congrArg nI (by omega))) (by omega) (by omega)
                  exact loop116_14 _ I12 A12 n_12 0 hnn_12 ksn_12 hrn_12 (kc12_8.trans (congrArg nI (by omega))) (kc12_0.trans (congrArg nI (by omega))) (kc12_2.trans (congrArg nI (by omega))) (kc12_7.trans (congrArg nI (by omega))) (by omega) (Nat.lt_succ_self _)
                · refine pm_aloadn hG dX12_days_62 rfl ?_
                  refine pm_iloadn hG dX12_days_63 rfl ?_
                  rcases KI.opt hnn_12 (show kd (14 * i12 + 119) = (2, 2001, false) from (kd_P (k := i12) (c := 9) (by omega) (by omega) (by decide))) with ek45 | ⟨k45, hk45, ek45⟩
                  · refine pm_callV (As := [.int (nI i12)]) (rest := []) hG hR dX12_days_64 (lkX12_101 _ rfl) okV_X12_lives rfl rfl (m_lives1 (d := 2) (by decide) (by omega) (by omega : 14 * i12 + 119 = 14 * i12 + 119) ek45) rfl rfl hdd (Nat.le_refl _) (Nat.le_refl _) (by decide) (pm_ki (fun v46 σ' cnt' hq => ?_))
                    obtain ⟨rfl, rfl, rfl⟩ := hq
                    refine pm_ifN_eq (tgt := 108) hG dX12_days_67 rfl (by omega) (fun q => absurd q (by omega)) (fun _ => ?_)
                    refine pm_aloadn hG dX12_days_70 rfl ?_
                    refine pm_iloadn hG dX12_days_71 rfl ?_
                    refine pm_iconst (v := nI 4) hG dX12_days_72 (by decide) ?_
                    refine pm_callV (As := [.int (nI i12), .int (nI 4)]) (rest := []) hG hR dX12_days_73 (lkX12_72 _ rfl) okV_X12_man rfl rfl (m_man (d := 2) (e := 14 * i12 + 114) (by omega) (by omega) (by omega)) rfl rfl hdd (Nat.le_refl _) (Nat.le_refl _) (by decide) (pm_ki (fun v47 σ' cnt' hq => ?_))
                    obtain ⟨rfl, rfl, rfl⟩ := hq
                    rcases KI.opt hnn_12 (show kd (14 * i12 + 114) = (2, 10, false) from (kd_P (k := i12) (c := 4) (by omega) (by omega) (by decide))) with ek48 | ⟨k48, hk48, ek48⟩
                    · refine pm_top (v := (-1)) ek48 ?_
                      refine pm_if_ge (tgt := 108) hG dX12_days_76 rfl (fun q => absurd q (by decide)) (fun _ => ?_)
                      refine pm_aloadn hG dX12_days_79 rfl ?_
                      refine pm_iloadn hG dX12_days_80 rfl ?_
                      refine pm_bipush (v := nI 6) hG dX12_days_81 (by decide) ?_
                      refine pm_callV (As := [.int (nI i12), .int (nI 6)]) (rest := []) hG hR dX12_days_83 (lkX12_72 _ rfl) okV_X12_man rfl rfl (m_man (d := 2) (e := 14 * i12 + 116) (by omega) (by omega) (by omega)) rfl rfl hdd (Nat.le_refl _) (Nat.le_refl _) (by decide) (pm_ki (fun v49 σ' cnt' hq => ?_))
                      obtain ⟨rfl, rfl, rfl⟩ := hq
                      refine pm_gen (fun x50 ex50 => ?_)
                      refine pm_aloadn hG dX12_days_86 rfl ?_
                      refine pm_getf hG dX12_days_87 (flX12_7 _ rfl) rfl rfl ?_
                      refine pm_bipush (v := nI 8) hG dX12_days_90 (by decide) ?_
                      refine pm_ialdN hG dX12_days_92 rfl (by decide) (by omega) ?_
                      refine pm_top (v := nI (i5 + kc8 + 1)) kc12_8 ?_
                      refine pm_icmp_ne (tgt := 108) hG dX12_days_93 rfl (fun c51 => ?_) (fun c51 => ?_)
                      · refine pm_iincX (v := nI (i12 + 1)) (loc' := [some (.ref (B + 54)), some (.int za), some (.int (nI i5)), some (.int (nI (i12 + 1)))]) hG dX12_days_108 rfl (nI_1 _) (by decide) (pm_c1b rfl) rfl ?_
                        refine pm_goto (tgt := 52) hG dX12_days_111 rfl ?_
                        exact ih12 I12 A12 n_12 (i12 + 1) hnn_12 ksn_12 hrn_12 (kc12_8.trans (congrArg nI (by omega))) (kc12_0.trans (congrArg nI (by omega))) (kc12_2.trans (congrArg nI (by omega))) (kc12_7.trans (congrArg nI (by omega))) (by omega) (by omega)
                      · refine pm_aloadn hG dX12_days_96 rfl ?_
                        refine pm_iloadn hG dX12_days_97 rfl ?_
                        refine pm_iconst (v := nI 4) hG dX12_days_98 (by decide) ?_
                        refine pm_aloadn hG dX12_days_99 rfl ?_
                        refine pm_iloadn hG dX12_days_100 rfl ?_
                        refine pm_iconst (v := nI 5) hG dX12_days_101 (by decide) ?_
                        refine pm_callV (As := [.int (nI i12), .int (nI 5)]) (rest := [.int (nI 4), .int (nI i12), .ref (B + 54)]) hG hR dX12_days_102 (lkX12_72 _ rfl) okV_X12_man rfl rfl (m_man (d := 2) (e := 14 * i12 + 115) (by omega) (by omega) (by omega)) rfl rfl hdd (Nat.le_refl _) (Nat.le_refl _) (Nat.le_of_ble_eq_true rfl) (pm_ki (fun v52 σ' cnt' hq => ?_))
                        obtain ⟨rfl, rfl, rfl⟩ := hq
                        obtain ⟨k53, hk53, ek53⟩ := KI.nat hnn_12 (show kd (14 * i12 + 115) = (1, 10, false) from (kd_P (k := i12) (c := 5) (by omega) (by omega) (by decide)))
                        refine pm_top (v := nI k53) ek53 ?_
                        refine pm_callV (As := [.int (nI i12), .int (nI 4), .int (nI k53)]) (rest := []) hG hR dX12_days_105 (lkX12_97 _ rfl) okV_X12_sets rfl rfl (m_sets (d := 2) (e := 14 * i12 + 114) (by omega) (by omega) (by omega)) rfl rfl hdd (Nat.le_refl _) (Nat.le_refl _) (by decide) (pm_kv (fun σ' cnt' hq => ?_))
                        obtain ⟨rfl, rfl⟩ := hq
                        obtain ⟨n_54, en_54⟩ : ∃ f : Nat → Int32, f = upd n_12 (14 * i12 + 114) (nI k53) := ⟨_, rfl⟩
                        rw [← en_54]
                        have hnn_54 := KI.w en_54 hnn_12 (okv_o (show kd (14 * i12 + 114) = (2, 10, false) from (kd_P (k := i12) (c := 4) (by omega) (by omega) (by decide))) (by omega))
                        have hrn_54 := NRx.w en_54 hrn_12 (by rw [(show kd (14 * i12 + 114) = (2, 10, false) from (kd_P (k := i12) (c := 4) (by omega) (by omega) (by decide)))])
                        have ksn_54 := KS.w en_54 ksn_12 (by unfold tS; omega)
                        have e55 : n_54 8 = nI (i5 + kc8 + 1) := by rw [en_54, pk_un (by omega)]; exact kc12_8
                        have e56 : n_54 0 = nI kc0 := by rw [en_54, pk_un (by omega)]; exact kc12_0
                        have e57 : n_54 2 = nI kc2 := by rw [en_54, pk_un (by omega)]; exact kc12_2
                        have e58 : n_54 7 = nI kc7 := by rw [en_54, pk_un (by omega)]; exact kc12_7
                        have e59 : n_54 (14 * i12 + 119) = (-1) := by rw [en_54, pk_un (by omega)]; exact ek45
                        have e60 : n_54 (14 * i12 + 116) = x50 := by rw [en_54, pk_un (by omega)]; exact ex50
                        have e61 : n_54 (14 * i12 + 115) = nI k53 := by rw [en_54, pk_un (by omega)]; exact ek53
                        have e62 : n_54 (14 * i12 + 114) = nI k53 := by rw [en_54, pk_us]
                        refine pm_iincX (v := nI (i12 + 1)) (loc' := [some (.ref (B + 54)), some (.int za), some (.int (nI i5)), some (.int (nI (i12 + 1)))]) hG dX12_days_108 rfl (nI_1 _) (by decide) (pm_c1b rfl) rfl ?_
                        refine pm_goto (tgt := 52) hG dX12_days_111 rfl ?_
                        exact ih12 I12 A12 n_54 (i12 + 1) hnn_54 ksn_54 hrn_54 (e55.trans (congrArg nI (by omega))) (e56.trans (congrArg nI (by omega))) (e57.trans (congrArg nI (by omega))) (e58.trans (congrArg nI (by omega))) (by omega) (by omega)
                    · refine pm_top (v := nI k48) ek48 ?_
                      refine pm_ifN_ge (tgt := 108) hG dX12_days_76 rfl (by omega) ?_
                      refine pm_iincX (v := nI (i12 + 1)) (loc' := [some (.ref (B + 54)), some (.int za), some (.int (nI i5)), some (.int (nI (i12 + 1)))]) hG dX12_days_108 rfl (nI_1 _) (by decide) (pm_c1b rfl) rfl ?_
                      refine pm_goto (tgt := 52) hG dX12_days_111 rfl ?_
                      exact ih12 I12 A12 n_12 (i12 + 1) hnn_12 ksn_12 hrn_12 (kc12_8.trans (congrArg nI (by omega))) (kc12_0.trans (congrArg nI (by omega))) (kc12_2.trans (congrArg nI (by omega))) (kc12_7.trans (congrArg nI (by omega))) (by omega) (by omega)
                  · refine pm_callV (As := [.int (nI i12)]) (rest := []) hG hR dX12_days_64 (lkX12_101 _ rfl) okV_X12_lives rfl rfl (m_lives0 (d := 2) (by decide) (by omega) (by omega : 14 * i12 + 119 = 14 * i12 + 119) ek45 (by omega)) rfl rfl hdd (Nat.le_refl _) (Nat.le_refl _) (by decide) (pm_ki (fun v63 σ' cnt' hq => ?_))
                    obtain ⟨rfl, rfl, rfl⟩ := hq
                    refine pm_ifN_eq (tgt := 108) hG dX12_days_67 rfl (by omega) (fun _ => ?_) (fun q => absurd q (by omega))
                    refine pm_iincX (v := nI (i12 + 1)) (loc' := [some (.ref (B + 54)), some (.int za), some (.int (nI i5)), some (.int (nI (i12 + 1)))]) hG dX12_days_108 rfl (nI_1 _) (by decide) (pm_c1b rfl) rfl ?_
                    refine pm_goto (tgt := 52) hG dX12_days_111 rfl ?_
                    exact ih12 I12 A12 n_12 (i12 + 1) hnn_12 ksn_12 hrn_12 (kc12_8.trans (congrArg nI (by omega))) (kc12_0.trans (congrArg nI (by omega))) (kc12_2.trans (congrArg nI (by omega))) (kc12_7.trans (congrArg nI (by omega))) (by omega) (by omega)
            exact loop52_12 _ I5 A5 n_7 0 hnn_7 ksn_7 hrn_7 (e11.trans (congrArg nI (by omega))) (e8.trans (congrArg nI (by omega))) (e9.trans (congrArg nI (by omega))) (e10.trans (congrArg nI (by omega))) (by omega) (Nat.lt_succ_self _)
      exact loop34_5 _ I A n 0 hn KS.rf hr (ekc0.trans (congrArg nI (by omega))) (ekc2.trans (congrArg nI (by omega))) (ekc7.trans (congrArg nI (by omega))) (ekc8.trans (congrArg nI (by omega))) (by omega) (by omega) (Nat.lt_succ_self _)
    · refine pm_aloadn hG dX12_days_26 rfl ?_
      refine pm_iconst (v := nI 1) hG dX12_days_27 (by decide) ?_
      refine pm_callV (As := [.int (nI 1)]) (rest := []) hG hR dX12_days_28 (lkX12_80 _ rfl) okV_X12_finds rfl rfl (m_finds (d := 2) (by decide) hn hz (by omega)) rfl rfl hdd (Nat.le_refl _) (Nat.le_refl _) (by decide) (pm_ki (fun v64 σ' cnt' hq => ?_))
      obtain ⟨⟨I65, A65, rfl⟩, rfl, fv64⟩ := hq
      exact pm_iret hG hF dX12_days_31 rfl (Nat.le_refl _) (Nat.le_refl _) ⟨_, rfl, ⟨_, _, _, rfl, hn, hr, ekc0.trans ekc0.symm, ekc2.trans ekc2.symm, ekc7.trans ekc7.symm, KS.rf, ⟨fv64.trans (vD_no2 ekc8 ek3 (by omega) (by omega)).1, (vD_no2 ekc8 ek3 (by omega) (by omega)).2⟩⟩, rfl⟩
  · refine pm_ifN_eq (tgt := 26) hG dX12_days_8 rfl (by omega) (fun _ => ?_) (fun q => absurd q (by omega))
    refine pm_aloadn hG dX12_days_26 rfl ?_
    refine pm_iconst (v := nI 1) hG dX12_days_27 (by decide) ?_
    refine pm_callV (As := [.int (nI 1)]) (rest := []) hG hR dX12_days_28 (lkX12_80 _ rfl) okV_X12_finds rfl rfl (m_finds (d := 2) (by decide) hn hz (by omega)) rfl rfl hdd (Nat.le_refl _) (Nat.le_refl _) (by decide) (pm_ki (fun v66 σ' cnt' hq => ?_))
    obtain ⟨⟨I67, A67, rfl⟩, rfl, fv66⟩ := hq
    exact pm_iret hG hF dX12_days_31 rfl (Nat.le_refl _) (Nat.le_refl _) ⟨_, rfl, ⟨_, _, _, rfl, hn, hr, ekc0.trans ekc0.symm, ekc2.trans ekc2.symm, ekc7.trans ekc7.symm, KS.rf, ⟨fv66.trans (vD_no1 (by assumption)).1, (vD_no1 (by assumption)).2⟩⟩, rfl⟩

set_option maxRecDepth 100000 in
set_option maxHeartbeats 4000000 in
theorem m_debt {d B cnt p0 t0 : Nat} {σ : pm_S} {I : Nat → Int32} {A : Nat → Nat → Int32} {n k z : Nat → Int32} {ac wt pl im : Int32} {za zb zc : Int32} (hdd : 2 ≤ d) (hn : KI n) (hr : NR n) (hz : SZ z)  : pm_met mX12_debt d 0 0 B [.ref (B + 54), .int za, .int zb, .int zc] cnt (pm_mid σ (md_L B I A n k z ac wt pl (nI p0) (nI t0) im)) (pm_Qi (fun v σ' cnt' => (∃ (I' : Nat → Int32) (A' : Nat → Nat → Int32) (n' : Nat → Int32), σ' = pm_mid σ (md_L B I' A' n' k z ac wt pl (nI p0) (nI t0) im) ∧ KI n' ∧ NR n' ∧ n' 0 = n 0 ∧ n' 2 = n 2 ∧ n' 7 = n 7 ∧ n' 8 = n 8 ∧ KS n' n) ∧ cnt = cnt')) := by
  obtain ⟨kc0, hkc0, ekc0⟩ := KI.nat hn (show kd 0 = (1, 11, true) by decide)
  obtain ⟨kc2, hkc2, ekc2⟩ := KI.nat hn (show kd 2 = (1, 21, true) by decide)
  obtain ⟨kc7, hkc7, ekc7⟩ := KI.nat hn (show kd 7 = (1, 31, false) by decide)
  obtain ⟨kc8, hkc8, ekc8⟩ := KI.nat hn (show kd 8 = (1, 2001, false) by decide)
  refine pm_enter 1 (by decide) (Nat.le_of_ble_eq_true rfl) rfl (fun G hG hR hF => ?_)
  refine pm_iloadn hG dX12_debt_0 rfl ?_
  refine pm_iconst (v := nI 0) hG dX12_debt_1 (by decide) ?_
  refine pm_ldc hG dX12_debt_2 (ctX12_242 _ rfl) ?_
  refine pm_top (v := nI 99999) (by decide) ?_
  refine pm_callS (As := [.int za, .int (nI 0), .int (nI 99999)]) (rest := []) hG hR dX12_debt_4 (lkX12_68 _ rfl) okS_X12_in (m_in (d := 1)) rfl rfl hdd (Nat.le_refl _) (Nat.le_refl _) (by decide) (pm_ki (fun v1 σ' cnt' hq => ?_))
  obtain ⟨hq, rfl, rfl⟩ := hq
  rcases hq with ⟨rfl, ac2, bc2⟩ | ⟨rfl, c2⟩
  · obtain ⟨k3, hk3, ek3⟩ := in_nat (by omega) (by omega) ac2 bc2
    refine pm_ifN_eq (tgt := 51) hG dX12_debt_7 rfl (by omega) (fun q => absurd q (by omega)) (fun _ => ?_)
    refine pm_iloadn hG dX12_debt_10 rfl ?_
    refine pm_if_lt (tgt := 51) hG dX12_debt_11 rfl (fun c4 => ?_) (fun c4 => ?_)
    · refine pm_aloadn hG dX12_debt_51 rfl ?_
      refine pm_iconst (v := nI 1) hG dX12_debt_52 (by decide) ?_
      refine pm_callV (As := [.int (nI 1)]) (rest := []) hG hR dX12_debt_53 (lkX12_80 _ rfl) okV_X12_finds rfl rfl (m_finds (d := 1) (by decide) hn hz (by omega)) rfl rfl hdd (Nat.le_refl _) (Nat.le_refl _) (by decide) (pm_ki (fun v5 σ' cnt' hq => ?_))
      obtain ⟨⟨I6, A6, rfl⟩, rfl, fv5⟩ := hq
      exact pm_iret hG hF dX12_debt_56 rfl (Nat.le_refl _) (Nat.le_refl _) ⟨_, rfl, ⟨_, _, _, rfl, hn, hr, ekc0.trans ekc0.symm, ekc2.trans ekc2.symm, ekc7.trans ekc7.symm, ekc8.trans ekc8.symm, KS.rf⟩, rfl⟩
    · obtain ⟨k7, hk7, ek7⟩ := nI_of c4
      refine pm_iloadn hG dX12_debt_14 rfl ?_
      refine pm_top (v := nI k7) ek7 ?_
      refine pm_sipush (v := nI 10000) hG dX12_debt_15 (by decide) ?_
      refine pm_idivN hG dX12_debt_18 (by omega) (by decide) (by decide) ?_
      refine pm_iconst (v := nI 0) hG dX12_debt_19 (by decide) ?_
      refine pm_bipush (v := nI 99) hG dX12_debt_20 (by decide) ?_
      refine pm_callS (As := [.int (nI ((k7 / 10000))), .int (nI 0), .int (nI 99)]) (rest := []) hG hR dX12_debt_22 (lkX12_68 _ rfl) okS_X12_in (m_in (d := 1)) rfl rfl hdd (Nat.le_refl _) (Nat.le_refl _) (by decide) (pm_ki (fun v8 σ' cnt' hq => ?_))
      obtain ⟨hq, rfl, rfl⟩ := hq
      rcases hq with ⟨rfl, ac9, bc9⟩ | ⟨rfl, c9⟩
      · have ic9 := (nI_leI (by omega) (by omega)).mp (Int32.not_lt.mp ac9)
        have jc9 := (nI_leI (by omega) (by omega)).mp (Int32.not_lt.mp bc9)
        refine pm_ifN_eq (tgt := 51) hG dX12_debt_25 rfl (by omega) (fun q => absurd q (by omega)) (fun _ => ?_)
        refine pm_iloadn hG dX12_debt_28 rfl ?_
        refine pm_top (v := nI k7) ek7 ?_
        refine pm_sipush (v := nI 10000) hG dX12_debt_29 (by decide) ?_
        refine pm_iremM hG dX12_debt_32 (by omega) (by decide) (by decide) ?_
        refine pm_iconst (v := nI 1) hG dX12_debt_33 (by decide) ?_
        refine pm_sipush (v := nI 9999) hG dX12_debt_34 (by decide) ?_
        refine pm_callS (As := [.int (nI ((k7 % 10000))), .int (nI 1), .int (nI 9999)]) (rest := []) hG hR dX12_debt_37 (lkX12_68 _ rfl) okS_X12_in (m_in (d := 1)) rfl rfl hdd (Nat.le_refl _) (Nat.le_refl _) (by decide) (pm_ki (fun v10 σ' cnt' hq => ?_))
        obtain ⟨hq, rfl, rfl⟩ := hq
        rcases hq with ⟨rfl, ac11, bc11⟩ | ⟨rfl, c11⟩
        · have ic11 := (nI_leI (by omega) (by omega)).mp (Int32.not_lt.mp ac11)
          have jc11 := (nI_leI (by omega) (by omega)).mp (Int32.not_lt.mp bc11)
          refine pm_ifN_eq (tgt := 51) hG dX12_debt_40 rfl (by omega) (fun q => absurd q (by omega)) (fun _ => ?_)
          refine pm_aloadn hG dX12_debt_43 rfl ?_
          refine pm_iloadn hG dX12_debt_44 rfl ?_
          refine pm_callV (As := [.int zc]) (rest := []) hG hR dX12_debt_45 (lkX12_84 _ rfl) okV_X12_isTown rfl rfl (m_isTown (d := 1) (by decide) ekc0 (by omega)) rfl rfl hdd (Nat.le_refl _) (Nat.le_refl _) (by decide) (pm_ki (fun v12 σ' cnt' hq => ?_))
          obtain ⟨hq, rfl, rfl⟩ := hq
          rcases hq with ⟨rfl, k14, hk14, ek14⟩ | ⟨rfl, ntk14⟩
          · refine pm_ifN_ne (tgt := 57) hG dX12_debt_48 rfl (by omega) (fun _ => ?_) (fun q => absurd q (by omega))
            refine pm_aloadn hG dX12_debt_57 rfl ?_
            refine pm_getf hG dX12_debt_58 (flX12_7 _ rfl) rfl rfl ?_
            refine pm_bipush (v := nI 6) hG dX12_debt_61 (by decide) ?_
            refine pm_ialdN hG dX12_debt_63 rfl (by decide) (by omega) ?_
            obtain ⟨k15, hk15, ek15⟩ := KI.nat hn (show kd 6 = (1, 7, false) by decide)
            refine pm_top (v := nI k15) ek15 ?_
            refine pm_istoreXi (loc' := [some (.ref (B + 54)), some (.int za), some (.int zb), some (.int zc), some (.int (nI k15))]) hG dX12_debt_64 (by decide) (pm_c1b rfl) rfl ?_
            refine pm_iloadi hG dX12_debt_66 rfl ?_
            refine pm_bipush (v := nI 6) hG dX12_debt_68 (by decide) ?_
            refine pm_icmpN_ne (tgt := 79) hG dX12_debt_70 rfl (by omega) (by omega) (fun c16 => ?_) (fun c16 => ?_)
            · refine pm_aloadn hG dX12_debt_79 rfl ?_
              refine pm_getf hG dX12_debt_80 (flX12_7 _ rfl) rfl rfl ?_
              refine pm_bipush (v := nI 6) hG dX12_debt_83 (by decide) ?_
              refine pm_dup2 hG dX12_debt_85 rfl rfl ?_
              refine pm_ialdN hG dX12_debt_86 rfl (by decide) (by omega) ?_
              refine pm_top (v := nI k15) ek15 ?_
              refine pm_iconst (v := nI 1) hG dX12_debt_87 (by decide) ?_
              refine pm_iaddN (c := k15 + 1) hG dX12_debt_88 (by omega) ?_
              refine pm_iastN hG dX12_debt_89 rfl (by decide) (by omega) ?_
              refine mdn_now (fun n_17 en_17 => ?_)
              have hnn_17 := KI.w en_17 hn (okv_n (show kd 6 = (1, 7, false) by decide) (by omega))
              have hrn_17 := NRx.w en_17 hr (by rw [(show kd 6 = (1, 7, false) by decide)])
              have ksn_17 := KS.w en_17 KS.rf (by unfold tS; omega)
              have e18 : n_17 0 = nI kc0 := by rw [en_17, pk_un (by omega)]; exact ekc0
              have e19 : n_17 2 = nI kc2 := by rw [en_17, pk_un (by omega)]; exact ekc2
              have e20 : n_17 7 = nI kc7 := by rw [en_17, pk_un (by omega)]; exact ekc7
              have e21 : n_17 8 = nI kc8 := by rw [en_17, pk_un (by omega)]; exact ekc8
              have e22 : n_17 6 = nI (k15 + 1) := by rw [en_17, pk_us]
              refine pm_aloadn hG dX12_debt_90 rfl ?_
              refine pm_getf hG dX12_debt_91 (flX12_7 _ rfl) rfl rfl ?_
              refine pm_sipush (v := nI 1770) hG dX12_debt_94 (by decide) ?_
              refine pm_bipush (v := nI 6) hG dX12_debt_97 (by decide) ?_
              refine pm_iloadi hG dX12_debt_99 rfl ?_
              refine pm_imulN (c := 6 * k15) hG dX12_debt_101 (by omega) ?_
              refine pm_iaddN (c := 6 * k15 + 1770) hG dX12_debt_102 (by omega) ?_
              refine pm_iloadn hG dX12_debt_103 rfl ?_
              refine pm_top (v := nI k3) ek3 ?_
              refine pm_iastN hG dX12_debt_104 rfl (by decide) (by omega) ?_
              refine mdn_now (fun n_23 en_23 => ?_)
              have hnn_23 := KI.w en_23 hnn_17 (okv_f (show kd (6 * k15 + 1770) = (0, 0, false) from (kd_D (k := k15) (c := 0) (by omega) (by omega) (by decide))))
              have hrn_23 := NRx.w en_23 hrn_17 (by rw [(show kd (6 * k15 + 1770) = (0, 0, false) from (kd_D (k := k15) (c := 0) (by omega) (by omega) (by decide)))])
              have ksn_23 := KS.w en_23 ksn_17 (by unfold tS; omega)
              have e24 : n_23 0 = nI kc0 := by rw [en_23, pk_un (by omega)]; exact e18
              have e25 : n_23 2 = nI kc2 := by rw [en_23, pk_un (by omega)]; exact e19
              have e26 : n_23 7 = nI kc7 := by rw [en_23, pk_un (by omega)]; exact e20
              have e27 : n_23 8 = nI kc8 := by rw [en_23, pk_un (by omega)]; exact e21
              have e28 : n_23 6 = nI (k15 + 1) := by rw [en_23, pk_un (by omega)]; exact e22
              have e29 : n_23 (6 * k15 + 1770) = nI k3 := by rw [en_23, pk_us]
              refine pm_aloadn hG dX12_debt_105 rfl ?_
              refine pm_getf hG dX12_debt_106 (flX12_7 _ rfl) rfl rfl ?_
              refine pm_sipush (v := nI 1770) hG dX12_debt_109 (by decide) ?_
              refine pm_bipush (v := nI 6) hG dX12_debt_112 (by decide) ?_
              refine pm_iloadi hG dX12_debt_114 rfl ?_
              refine pm_imulN (c := 6 * k15) hG dX12_debt_116 (by omega) ?_
              refine pm_iaddN (c := 6 * k15 + 1770) hG dX12_debt_117 (by omega) ?_
              refine pm_iconst (v := nI 1) hG dX12_debt_118 (by decide) ?_
              refine pm_iaddN (c := 6 * k15 + 1771) hG dX12_debt_119 (by omega) ?_
              refine pm_iloadn hG dX12_debt_120 rfl ?_
              refine pm_top (v := nI k7) ek7 ?_
              refine pm_sipush (v := nI 10000) hG dX12_debt_121 (by decide) ?_
              refine pm_idivN hG dX12_debt_124 (by omega) (by decide) (by decide) ?_
              refine pm_iastN hG dX12_debt_125 rfl (by decide) (by omega) ?_
              refine mdn_now (fun n_30 en_30 => ?_)
              have hnn_30 := KI.w en_30 hnn_23 (okv_f (show kd (6 * k15 + 1771) = (0, 0, false) from (kd_D (k := k15) (c := 1) (by omega) (by omega) (by decide))))
              have hrn_30 := NRx.w en_30 hrn_23 (by rw [(show kd (6 * k15 + 1771) = (0, 0, false) from (kd_D (k := k15) (c := 1) (by omega) (by omega) (by decide)))])
              have ksn_30 := KS.w en_30 ksn_23 (by unfold tS; omega)
              have e31 : n_30 0 = nI kc0 := by rw [en_30, pk_un (by omega)]; exact e24
              have e32 : n_30 2 = nI kc2 := by rw [en_30, pk_un (by omega)]; exact e25
              have e33 : n_30 7 = nI kc7 := by rw [en_30, pk_un (by omega)]; exact e26
              have e34 : n_30 8 = nI kc8 := by rw [en_30, pk_un (by omega)]; exact e27
              have e35 : n_30 6 = nI (k15 + 1) := by rw [en_30, pk_un (by omega)]; exact e28
              have e36 : n_30 (6 * k15 + 1770) = nI k3 := by rw [en_30, pk_un (by omega)]; exact e29
              have e37 : n_30 (6 * k15 + 1771) = nI ((k7 / 10000)) := by rw [en_30, pk_us]
              refine pm_aloadn hG dX12_debt_126 rfl ?_
              refine pm_getf hG dX12_debt_127 (flX12_7 _ rfl) rfl rfl ?_
              refine pm_sipush (v := nI 1770) hG dX12_debt_130 (by decide) ?_
              refine pm_bipush (v := nI 6) hG dX12_debt_133 (by decide) ?_
              refine pm_iloadi hG dX12_debt_135 rfl ?_
              refine pm_imulN (c := 6 * k15) hG dX12_debt_137 (by omega) ?_
              refine pm_iaddN (c := 6 * k15 + 1770) hG dX12_debt_138 (by omega) ?_
              refine pm_iconst (v := nI 2) hG dX12_debt_139 (by decide) ?_
              refine pm_iaddN (c := 6 * k15 + 1772) hG dX12_debt_140 (by omega) ?_
              refine pm_iloadn hG dX12_debt_141 rfl ?_
              refine pm_top (v := nI k7) ek7 ?_
              refine pm_sipush (v := nI 10000) hG dX12_debt_142 (by decide) ?_
              refine pm_iremM hG dX12_debt_145 (by omega) (by decide) (by decide) ?_
              refine pm_iastN hG dX12_debt_146 rfl (by decide) (by omega) ?_
              refine mdn_now (fun n_38 en_38 => ?_)
              have hnn_38 := KI.w en_38 hnn_30 (okv_f (show kd (6 * k15 + 1772) = (0, 0, false) from (kd_D (k := k15) (c := 2) (by omega) (by omega) (by decide))))
              have hrn_38 := NRx.w en_38 hrn_30 (by rw [(show kd (6 * k15 + 1772) = (0, 0, false) from (kd_D (k := k15) (c := 2) (by omega) (by omega) (by decide)))])
              have ksn_38 := KS.w en_38 ksn_30 (by unfold tS; omega)
              have e39 : n_38 0 = nI kc0 := by rw [en_38, pk_un (by omega)]; exact e31
              have e40 : n_38 2 = nI kc2 := by rw [en_38, pk_un (by omega)]; exact e32
              have e41 : n_38 7 = nI kc7 := by rw [en_38, pk_un (by omega)]; exact e33
              have e42 : n_38 8 = nI kc8 := by rw [en_38, pk_un (by omega)]; exact e34
              have e43 : n_38 6 = nI (k15 + 1) := by rw [en_38, pk_un (by omega)]; exact e35
              have e44 : n_38 (6 * k15 + 1770) = nI k3 := by rw [en_38, pk_un (by omega)]; exact e36
              have e45 : n_38 (6 * k15 + 1771) = nI ((k7 / 10000)) := by rw [en_38, pk_un (by omega)]; exact e37
              have e46 : n_38 (6 * k15 + 1772) = nI ((k7 % 10000)) := by rw [en_38, pk_us]
              refine pm_aloadn hG dX12_debt_147 rfl ?_
              refine pm_getf hG dX12_debt_148 (flX12_7 _ rfl) rfl rfl ?_
              refine pm_sipush (v := nI 1770) hG dX12_debt_151 (by decide) ?_
              refine pm_bipush (v := nI 6) hG dX12_debt_154 (by decide) ?_
              refine pm_iloadi hG dX12_debt_156 rfl ?_
              refine pm_imulN (c := 6 * k15) hG dX12_debt_158 (by omega) ?_
              refine pm_iaddN (c := 6 * k15 + 1770) hG dX12_debt_159 (by omega) ?_
              refine pm_iconst (v := nI 3) hG dX12_debt_160 (by decide) ?_
              refine pm_iaddN (c := 6 * k15 + 1773) hG dX12_debt_161 (by omega) ?_
              refine pm_iconst (v := nI 0) hG dX12_debt_162 (by decide) ?_
              refine pm_iastN hG dX12_debt_163 rfl (by decide) (by omega) ?_
              refine mdn_now (fun n_47 en_47 => ?_)
              have hnn_47 := KI.w en_47 hnn_38 (okv_f (show kd (6 * k15 + 1773) = (0, 0, false) from (kd_D (k := k15) (c := 3) (by omega) (by omega) (by decide))))
              have hrn_47 := NRx.w en_47 hrn_38 (by rw [(show kd (6 * k15 + 1773) = (0, 0, false) from (kd_D (k := k15) (c := 3) (by omega) (by omega) (by decide)))])
              have ksn_47 := KS.w en_47 ksn_38 (by unfold tS; omega)
              have e48 : n_47 0 = nI kc0 := by rw [en_47, pk_un (by omega)]; exact e39
              have e49 : n_47 2 = nI kc2 := by rw [en_47, pk_un (by omega)]; exact e40
              have e50 : n_47 7 = nI kc7 := by rw [en_47, pk_un (by omega)]; exact e41
              have e51 : n_47 8 = nI kc8 := by rw [en_47, pk_un (by omega)]; exact e42
              have e52 : n_47 6 = nI (k15 + 1) := by rw [en_47, pk_un (by omega)]; exact e43
              have e53 : n_47 (6 * k15 + 1770) = nI k3 := by rw [en_47, pk_un (by omega)]; exact e44
              have e54 : n_47 (6 * k15 + 1771) = nI ((k7 / 10000)) := by rw [en_47, pk_un (by omega)]; exact e45
              have e55 : n_47 (6 * k15 + 1772) = nI ((k7 % 10000)) := by rw [en_47, pk_un (by omega)]; exact e46
              have e56 : n_47 (6 * k15 + 1773) = nI 0 := by rw [en_47, pk_us]
              refine pm_aloadn hG dX12_debt_164 rfl ?_
              refine pm_getf hG dX12_debt_165 (flX12_7 _ rfl) rfl rfl ?_
              refine pm_sipush (v := nI 1770) hG dX12_debt_168 (by decide) ?_
              refine pm_bipush (v := nI 6) hG dX12_debt_171 (by decide) ?_
              refine pm_iloadi hG dX12_debt_173 rfl ?_
              refine pm_imulN (c := 6 * k15) hG dX12_debt_175 (by omega) ?_
              refine pm_iaddN (c := 6 * k15 + 1770) hG dX12_debt_176 (by omega) ?_
              refine pm_iconst (v := nI 4) hG dX12_debt_177 (by decide) ?_
              refine pm_iaddN (c := 6 * k15 + 1774) hG dX12_debt_178 (by omega) ?_
              refine pm_iloadn hG dX12_debt_179 rfl ?_
              refine pm_top (v := nI k14) ek14 ?_
              refine pm_iastN hG dX12_debt_180 rfl (by decide) (by omega) ?_
              refine mdn_now (fun n_57 en_57 => ?_)
              have hnn_57 := KI.w en_57 hnn_47 (okv_n (show kd (6 * k15 + 1774) = (1, 10, false) from (kd_D (k := k15) (c := 4) (by omega) (by omega) (by decide))) (by omega))
              have hrn_57 := NRx.w en_57 hrn_47 (by rw [(show kd (6 * k15 + 1774) = (1, 10, false) from (kd_D (k := k15) (c := 4) (by omega) (by omega) (by decide)))])
              have ksn_57 := KS.w en_57 ksn_47 (by unfold tS; omega)
              have e58 : n_57 0 = nI kc0 := by rw [en_57, pk_un (by omega)]; exact e48
              have e59 : n_57 2 = nI kc2 := by rw [en_57, pk_un (by omega)]; exact e49
              have e60 : n_57 7 = nI kc7 := by rw [en_57, pk_un (by omega)]; exact e50
              have e61 : n_57 8 = nI kc8 := by rw [en_57, pk_un (by omega)]; exact e51
              have e62 : n_57 6 = nI (k15 + 1) := by rw [en_57, pk_un (by omega)]; exact e52
              have e63 : n_57 (6 * k15 + 1770) = nI k3 := by rw [en_57, pk_un (by omega)]; exact e53
              have e64 : n_57 (6 * k15 + 1771) = nI ((k7 / 10000)) := by rw [en_57, pk_un (by omega)]; exact e54
              have e65 : n_57 (6 * k15 + 1772) = nI ((k7 % 10000)) := by rw [en_57, pk_un (by omega)]; exact e55
              have e66 : n_57 (6 * k15 + 1773) = nI 0 := by rw [en_57, pk_un (by omega)]; exact e56
              have e67 : n_57 (6 * k15 + 1774) = nI k14 := by rw [en_57, pk_us]
              refine pm_aloadn hG dX12_debt_181 rfl ?_
              refine pm_getf hG dX12_debt_182 (flX12_7 _ rfl) rfl rfl ?_
              refine pm_bipush (v := nI 9) hG dX12_debt_185 (by decide) ?_
              refine pm_dup2 hG dX12_debt_187 rfl rfl ?_
              refine pm_ialdN hG dX12_debt_188 rfl (by decide) (by omega) ?_
              refine pm_gen (fun x68 ex68 => ?_)
              refine pm_iloadn hG dX12_debt_189 rfl ?_
              refine pm_top (v := nI k3) ek3 ?_
              refine pm_iadd hG dX12_debt_190 ?_
              refine pm_iastN hG dX12_debt_191 rfl (by decide) (by omega) ?_
              refine mdn_now (fun n_69 en_69 => ?_)
              have hnn_69 := KI.w en_69 hnn_57 (okv_f (show kd 9 = (0, 0, false) by decide))
              have hrn_69 := NRx.w en_69 hrn_57 (by rw [(show kd 9 = (0, 0, false) by decide)])
              have ksn_69 := KS.w en_69 ksn_57 (by unfold tS; omega)
              have e70 : n_69 0 = nI kc0 := by rw [en_69, pk_un (by omega)]; exact e58
              have e71 : n_69 2 = nI kc2 := by rw [en_69, pk_un (by omega)]; exact e59
              have e72 : n_69 7 = nI kc7 := by rw [en_69, pk_un (by omega)]; exact e60
              have e73 : n_69 8 = nI kc8 := by rw [en_69, pk_un (by omega)]; exact e61
              have e74 : n_69 6 = nI (k15 + 1) := by rw [en_69, pk_un (by omega)]; exact e62
              have e75 : n_69 (6 * k15 + 1770) = nI k3 := by rw [en_69, pk_un (by omega)]; exact e63
              have e76 : n_69 (6 * k15 + 1771) = nI ((k7 / 10000)) := by rw [en_69, pk_un (by omega)]; exact e64
              have e77 : n_69 (6 * k15 + 1772) = nI ((k7 % 10000)) := by rw [en_69, pk_un (by omega)]; exact e65
              have e78 : n_69 (6 * k15 + 1773) = nI 0 := by rw [en_69, pk_un (by omega)]; exact e66
              have e79 : n_69 (6 * k15 + 1774) = nI k14 := by rw [en_69, pk_un (by omega)]; exact e67
              have e80 : n_69 9 = x68 + (nI k3) := by rw [en_69, pk_us]
              refine pm_iloadi hG dX12_debt_192 rfl ?_
              exact pm_iret hG hF dX12_debt_194 rfl (Nat.le_refl _) (Nat.le_refl _) ⟨_, rfl, ⟨_, _, _, rfl, hnn_69, hrn_69, e70.trans ekc0.symm, e71.trans ekc2.symm, e72.trans ekc7.symm, e73.trans ekc8.symm, ksn_69⟩, rfl⟩
            · refine pm_aloadn hG dX12_debt_73 rfl ?_
              refine pm_iconst (v := nI 4) hG dX12_debt_74 (by decide) ?_
              refine pm_callV (As := [.int (nI 4)]) (rest := []) hG hR dX12_debt_75 (lkX12_80 _ rfl) okV_X12_finds rfl rfl (m_finds (d := 1) (by decide) hn hz (by omega)) rfl rfl hdd (Nat.le_refl _) (Nat.le_refl _) (by decide) (pm_ki (fun v81 σ' cnt' hq => ?_))
              obtain ⟨⟨I82, A82, rfl⟩, rfl, fv81⟩ := hq
              exact pm_iret hG hF dX12_debt_78 rfl (Nat.le_refl _) (Nat.le_refl _) ⟨_, rfl, ⟨_, _, _, rfl, hn, hr, ekc0.trans ekc0.symm, ekc2.trans ekc2.symm, ekc7.trans ekc7.symm, ekc8.trans ekc8.symm, KS.rf⟩, rfl⟩
          · refine pm_ifN_ne (tgt := 57) hG dX12_debt_48 rfl (by omega) (fun q => absurd q (by omega)) (fun _ => ?_)
            refine pm_aloadn hG dX12_debt_51 rfl ?_
            refine pm_iconst (v := nI 1) hG dX12_debt_52 (by decide) ?_
            refine pm_callV (As := [.int (nI 1)]) (rest := []) hG hR dX12_debt_53 (lkX12_80 _ rfl) okV_X12_finds rfl rfl (m_finds (d := 1) (by decide) hn hz (by omega)) rfl rfl hdd (Nat.le_refl _) (Nat.le_refl _) (by decide) (pm_ki (fun v83 σ' cnt' hq => ?_))
            obtain ⟨⟨I84, A84, rfl⟩, rfl, fv83⟩ := hq
            exact pm_iret hG hF dX12_debt_56 rfl (Nat.le_refl _) (Nat.le_refl _) ⟨_, rfl, ⟨_, _, _, rfl, hn, hr, ekc0.trans ekc0.symm, ekc2.trans ekc2.symm, ekc7.trans ekc7.symm, ekc8.trans ekc8.symm, KS.rf⟩, rfl⟩
        · refine pm_ifN_eq (tgt := 51) hG dX12_debt_40 rfl (by omega) (fun _ => ?_) (fun q => absurd q (by omega))
          refine pm_aloadn hG dX12_debt_51 rfl ?_
          refine pm_iconst (v := nI 1) hG dX12_debt_52 (by decide) ?_
          refine pm_callV (As := [.int (nI 1)]) (rest := []) hG hR dX12_debt_53 (lkX12_80 _ rfl) okV_X12_finds rfl rfl (m_finds (d := 1) (by decide) hn hz (by omega)) rfl rfl hdd (Nat.le_refl _) (Nat.le_refl _) (by decide) (pm_ki (fun v85 σ' cnt' hq => ?_))
          obtain ⟨⟨I86, A86, rfl⟩, rfl, fv85⟩ := hq
          exact pm_iret hG hF dX12_debt_56 rfl (Nat.le_refl _) (Nat.le_refl _) ⟨_, rfl, ⟨_, _, _, rfl, hn, hr, ekc0.trans ekc0.symm, ekc2.trans ekc2.symm, ekc7.trans ekc7.symm, ekc8.trans ekc8.symm, KS.rf⟩, rfl⟩
      · refine pm_ifN_eq (tgt := 51) hG dX12_debt_25 rfl (by omega) (fun _ => ?_) (fun q => absurd q (by omega))
        refine pm_aloadn hG dX12_debt_51 rfl ?_
        refine pm_iconst (v := nI 1) hG dX12_debt_52 (by decide) ?_
        refine pm_callV (As := [.int (nI 1)]) (rest := []) hG hR dX12_debt_53 (lkX12_80 _ rfl) okV_X12_finds rfl rfl (m_finds (d := 1) (by decide) hn hz (by omega)) rfl rfl hdd (Nat.le_refl _) (Nat.le_refl _) (by decide) (pm_ki (fun v87 σ' cnt' hq => ?_))
        obtain ⟨⟨I88, A88, rfl⟩, rfl, fv87⟩ := hq
        exact pm_iret hG hF dX12_debt_56 rfl (Nat.le_refl _) (Nat.le_refl _) ⟨_, rfl, ⟨_, _, _, rfl, hn, hr, ekc0.trans ekc0.symm, ekc2.trans ekc2.symm, ekc7.trans ekc7.symm, ekc8.trans ekc8.symm, KS.rf⟩, rfl⟩
  · refine pm_ifN_eq (tgt := 51) hG dX12_debt_7 rfl (by omega) (fun _ => ?_) (fun q => absurd q (by omega))
    refine pm_aloadn hG dX12_debt_51 rfl ?_
    refine pm_iconst (v := nI 1) hG dX12_debt_52 (by decide) ?_
    refine pm_callV (As := [.int (nI 1)]) (rest := []) hG hR dX12_debt_53 (lkX12_80 _ rfl) okV_X12_finds rfl rfl (m_finds (d := 1) (by decide) hn hz (by omega)) rfl rfl hdd (Nat.le_refl _) (Nat.le_refl _) (by decide) (pm_ki (fun v89 σ' cnt' hq => ?_))
    obtain ⟨⟨I90, A90, rfl⟩, rfl, fv89⟩ := hq
    exact pm_iret hG hF dX12_debt_56 rfl (Nat.le_refl _) (Nat.le_refl _) ⟨_, rfl, ⟨_, _, _, rfl, hn, hr, ekc0.trans ekc0.symm, ekc2.trans ekc2.symm, ekc7.trans ekc7.symm, ekc8.trans ekc8.symm, KS.rf⟩, rfl⟩

set_option maxRecDepth 100000 in
set_option maxHeartbeats 4000000 in
theorem m_leaves {d B cnt p0 t0 : Nat} {σ : pm_S} {I : Nat → Int32} {A : Nat → Nat → Int32} {n k z : Nat → Int32} {ac wt pl im : Int32} {ba : Nat} (hdd : 1 ≤ d) (hn : KI n) (hr : NR n) (hz : SZ z) (hba : ba < 20) : pm_met mX12_leaves d 0 0 B [.ref (B + 54), .int (nI ba)] cnt (pm_mid σ (md_L B I A n k z ac wt pl (nI p0) (nI t0) im)) (pm_Qv (fun σ' cnt' => (∃ (n' : Nat → Int32), σ' = pm_mid σ (md_L B I A n' k z ac wt pl (nI p0) (nI t0) im) ∧ KI n' ∧ NR n' ∧ n' 0 = n 0 ∧ n' 2 = n 2 ∧ n' 7 = n 7 ∧ n' 8 = n 8 ∧ n' (14 * ba + 121) = nI 0 ∧ KSs (14 * ba + 121) (14 * ba + 121) n' n) ∧ cnt = cnt')) := by
  obtain ⟨kc0, hkc0, ekc0⟩ := KI.nat hn (show kd 0 = (1, 11, true) by decide)
  obtain ⟨kc2, hkc2, ekc2⟩ := KI.nat hn (show kd 2 = (1, 21, true) by decide)
  obtain ⟨kc7, hkc7, ekc7⟩ := KI.nat hn (show kd 7 = (1, 31, false) by decide)
  obtain ⟨kc8, hkc8, ekc8⟩ := KI.nat hn (show kd 8 = (1, 2001, false) by decide)
  refine pm_enter 1 (by decide) (Nat.le_of_ble_eq_true rfl) rfl (fun G hG hR hF => ?_)
  refine pm_aloadn hG dX12_leaves_0 rfl ?_
  refine pm_iloadn hG dX12_leaves_1 rfl ?_
  refine pm_bipush (v := nI 11) hG dX12_leaves_2 (by decide) ?_
  refine pm_iconst (v := nI 0) hG dX12_leaves_4 (by decide) ?_
  refine pm_callV (As := [.int (nI ba), .int (nI 11), .int (nI 0)]) (rest := []) hG hR dX12_leaves_5 (lkX12_97 _ rfl) okV_X12_sets rfl rfl (m_sets (d := 0) (e := 14 * ba + 121) (by omega) (by omega) (by omega)) rfl rfl hdd (Nat.le_refl _) (Nat.le_refl _) (by decide) (pm_kv (fun σ' cnt' hq => ?_))
  obtain ⟨rfl, rfl⟩ := hq
  obtain ⟨n_1, en_1⟩ : ∃ f : Nat → Int32, f = upd n (14 * ba + 121) (nI 0) := ⟨_, rfl⟩
  rw [← en_1]
  have hnn_1 := KI.w en_1 hn (okv_n (show kd (14 * ba + 121) = (1, 2, true) from (kd_P (k := ba) (c := 11) (by omega) (by omega) (by decide))) (by omega))
  have hrn_1 := NRx.unseat (p := ba) en_1 hr (by omega)
  have ksn_1 := KSs.w (a := 14 * ba + 121) (b := 14 * ba + 121) en_1 KSs.rf (by unfold tS; omega)
  have e2 : n_1 0 = nI kc0 := by rw [en_1, pk_un (by omega)]; exact ekc0
  have e3 : n_1 2 = nI kc2 := by rw [en_1, pk_un (by omega)]; exact ekc2
  have e4 : n_1 7 = nI kc7 := by rw [en_1, pk_un (by omega)]; exact ekc7
  have e5 : n_1 8 = nI kc8 := by rw [en_1, pk_un (by omega)]; exact ekc8
  have e6 : n_1 (14 * ba + 121) = nI 0 := by rw [en_1, pk_us]
  refine pm_iconst (v := nI 0) hG dX12_leaves_8 (by decide) ?_
  refine pm_istoreXn (loc' := [some (.ref (B + 54)), some (.int (nI ba)), some (.int (nI 0))]) hG dX12_leaves_9 (by decide) (pm_c1b rfl) rfl ?_
  have loop10_7 : ∀ (m7 : Nat) (n_7 : Nat → Int32) (i7 : Nat), KI n_7 → KSs (14 * ba + 121) (14 * ba + 121) n_7 n → NRx 40 n_7 → n_7 0 = nI kc0 → n_7 2 = nI kc2 → n_7 7 = nI kc7 → n_7 8 = nI kc8 → n_7 (14 * ba + 121) = nI 0 → i7 ≤ 30 → 30 - i7 < m7 → pm_wp mX12_leaves G B 10 [some (.ref (B + 54)), some (.int (nI ba)), some (.int (nI i7))] [] 0 0 cnt (pm_mid σ (md_L B I A n_7 k z ac wt pl (nI p0) (nI t0) im)) := by
    intro m7
    induction m7 with
    | zero => intro n_7 i7 _ _ _ _ _ _ _ _ _ hm; exact absurd hm (Nat.not_lt_zero _)
    | succ m7 ih7 =>
      intro n_7 i7 hnn_7 ksn_7 hrn_7 kc7_0 kc7_2 kc7_7 kc7_8 kt7_7 hi7 hm7
      refine pm_iloadn hG dX12_leaves_10 rfl ?_
      refine pm_aloadn hG dX12_leaves_11 rfl ?_
      refine pm_getf hG dX12_leaves_12 (flX12_7 _ rfl) rfl rfl ?_
      refine pm_bipush (v := nI 7) hG dX12_leaves_15 (by decide) ?_
      refine pm_ialdN hG dX12_leaves_17 rfl (by decide) (by omega) ?_
      refine pm_top (v := nI kc7) kc7_7 ?_
      refine pm_icmpN_ge (tgt := 53) hG dX12_leaves_18 rfl (by omega) (by omega) (fun c8 => ?_) (fun c8 => ?_)
      · exact pm_vret hG hF dX12_leaves_53 rfl (Nat.le_refl _) (Nat.le_refl _) ⟨rfl, ⟨_, rfl, hnn_7, hrn_7, kc7_0.trans ekc0.symm, kc7_2.trans ekc2.symm, kc7_7.trans ekc7.symm, kc7_8.trans ekc8.symm, ⟨kt7_7, ksn_7⟩⟩, rfl⟩
      · refine pm_aloadn hG dX12_leaves_21 rfl ?_
        refine pm_iloadn hG dX12_leaves_22 rfl ?_
        refine pm_iconst (v := nI 0) hG dX12_leaves_23 (by decide) ?_
        refine pm_callV (As := [.int (nI i7), .int (nI 0)]) (rest := []) hG hR dX12_leaves_24 (lkX12_223 _ rfl) okV_X12_promised rfl rfl (m_promised (d := 0) (e := 6 * i7 + 1806) (by omega) (by omega) (by omega)) rfl rfl hdd (Nat.le_refl _) (Nat.le_refl _) (by decide) (pm_ki (fun v9 σ' cnt' hq => ?_))
        obtain ⟨rfl, rfl, rfl⟩ := hq
        obtain ⟨k10, hk10, ek10⟩ := KI.nat hnn_7 (show kd (6 * i7 + 1806) = (1, 20, false) from (kd_Q (k := i7) (c := 0) (by omega) (by omega) (by decide)))
        refine pm_top (v := nI k10) ek10 ?_
        refine pm_iloadn hG dX12_leaves_27 rfl ?_
        refine pm_icmpN_ne (tgt := 47) hG dX12_leaves_28 rfl (by omega) (by omega) (fun c11 => ?_) (fun c11 => ?_)
        · refine pm_iincX (v := nI (i7 + 1)) (loc' := [some (.ref (B + 54)), some (.int (nI ba)), some (.int (nI (i7 + 1)))]) hG dX12_leaves_47 rfl (nI_1 _) (by decide) (pm_c1b rfl) rfl ?_
          refine pm_goto (tgt := 10) hG dX12_leaves_50 rfl ?_
          exact ih7 n_7 (i7 + 1) hnn_7 ksn_7 hrn_7 (kc7_0.trans (congrArg nI (by omega))) (kc7_2.trans (congrArg nI (by omega))) (kc7_7.trans (congrArg nI (by omega))) (kc7_8.trans (congrArg nI (by omega))) kt7_7 (by omega) (by omega)
        · refine pm_aloadn hG dX12_leaves_31 rfl ?_
          refine pm_getf hG dX12_leaves_32 (flX12_7 _ rfl) rfl rfl ?_
          refine pm_sipush (v := nI 1806) hG dX12_leaves_35 (by decide) ?_
          refine pm_bipush (v := nI 6) hG dX12_leaves_38 (by decide) ?_
          refine pm_iloadn hG dX12_leaves_40 rfl ?_
          refine pm_imulN (c := 6 * i7) hG dX12_leaves_41 (by omega) ?_
          refine pm_iaddN (c := 6 * i7 + 1806) hG dX12_leaves_42 (by omega) ?_
          refine pm_iconst (v := nI 5) hG dX12_leaves_43 (by decide) ?_
          refine pm_iaddN (c := 6 * i7 + 1811) hG dX12_leaves_44 (by omega) ?_
          refine pm_iconst (v := nI 1) hG dX12_leaves_45 (by decide) ?_
          refine pm_iastN hG dX12_leaves_46 rfl (by decide) (by omega) ?_
          refine mdn_now (fun n_12 en_12 => ?_)
          have hnn_12 := KI.w en_12 hnn_7 (okv_f (show kd (6 * i7 + 1811) = (0, 0, false) from (kd_Q (k := i7) (c := 5) (by omega) (by omega) (by decide))))
          have hrn_12 := NRx.w en_12 hrn_7 (by rw [(show kd (6 * i7 + 1811) = (0, 0, false) from (kd_Q (k := i7) (c := 5) (by omega) (by omega) (by decide)))])
          have ksn_12 := KSs.w (a := 14 * ba + 121) (b := 14 * ba + 121) en_12 ksn_7 (by unfold tS; omega)
          have e13 : n_12 0 = nI kc0 := by rw [en_12, pk_un (by omega)]; exact kc7_0
          have e14 : n_12 2 = nI kc2 := by rw [en_12, pk_un (by omega)]; exact kc7_2
          have e15 : n_12 7 = nI kc7 := by rw [en_12, pk_un (by omega)]; exact kc7_7
          have e16 : n_12 8 = nI kc8 := by rw [en_12, pk_un (by omega)]; exact kc7_8
          have e17 : n_12 (14 * ba + 121) = nI 0 := by rw [en_12, pk_un (by omega)]; exact kt7_7
          have e18 : n_12 (6 * i7 + 1806) = nI k10 := by rw [en_12, pk_un (by omega)]; exact ek10
          have e19 : n_12 (6 * i7 + 1811) = nI 1 := by rw [en_12, pk_us]
          refine pm_iincX (v := nI (i7 + 1)) (loc' := [some (.ref (B + 54)), some (.int (nI ba)), some (.int (nI (i7 + 1)))]) hG dX12_leaves_47 rfl (nI_1 _) (by decide) (pm_c1b rfl) rfl ?_
          refine pm_goto (tgt := 10) hG dX12_leaves_50 rfl ?_
          exact ih7 n_12 (i7 + 1) hnn_12 ksn_12 hrn_12 (e13.trans (congrArg nI (by omega))) (e14.trans (congrArg nI (by omega))) (e15.trans (congrArg nI (by omega))) (e16.trans (congrArg nI (by omega))) e17 (by omega) (by omega)
  exact loop10_7 _ n_1 0 hnn_1 ksn_1 hrn_1 (e2.trans (congrArg nI (by omega))) (e3.trans (congrArg nI (by omega))) (e4.trans (congrArg nI (by omega))) (e5.trans (congrArg nI (by omega))) e6 (by omega) (Nat.lt_succ_self _)

set_option maxRecDepth 100000 in
set_option maxHeartbeats 4000000 in
theorem m_die {d B cnt p0 t0 : Nat} {σ : pm_S} {I : Nat → Int32} {A : Nat → Nat → Int32} {n k z : Nat → Int32} {ac wt pl im : Int32} {za : Int32} (hdd : 4 ≤ d) (hn : KI n) (hr : NR n) (hz : SZ z)  : pm_met mX12_die d 0 0 B [.ref (B + 54), .int za] cnt (pm_mid σ (md_L B I A n k z ac wt pl (nI p0) (nI t0) im)) (pm_Qi (fun v σ' cnt' => (∃ (I' : Nat → Int32) (A' : Nat → Nat → Int32) (n' : Nat → Int32), σ' = pm_mid σ (md_L B I' A' n' k z ac wt pl (nI p0) (nI t0) im) ∧ KI n' ∧ NR n' ∧ n' 0 = n 0 ∧ n' 2 = n 2 ∧ n' 7 = n 7 ∧ n' 8 = n 8 ∧ ∀ j : Nat, t7u (n 2).toNatClampNeg j → mT n' j = tX (mT n) (n 2) za j) ∧ cnt = cnt')) := by
  obtain ⟨kc0, hkc0, ekc0⟩ := KI.nat hn (show kd 0 = (1, 11, true) by decide)
  obtain ⟨kc2, hkc2, ekc2⟩ := KI.nat hn (show kd 2 = (1, 21, true) by decide)
  obtain ⟨kc7, hkc7, ekc7⟩ := KI.nat hn (show kd 7 = (1, 31, false) by decide)
  obtain ⟨kc8, hkc8, ekc8⟩ := KI.nat hn (show kd 8 = (1, 2001, false) by decide)
  refine pm_enter 3 (by decide) (Nat.le_of_ble_eq_true rfl) rfl (fun G hG hR hF => ?_)
  refine pm_aloadn hG dX12_die_0 rfl ?_
  refine pm_iloadn hG dX12_die_1 rfl ?_
  refine pm_callV (As := [.int za]) (rest := []) hG hR dX12_die_2 (lkX12_91 _ rfl) okV_X12_isPerson rfl rfl (m_isPerson (d := 3) (by decide) ekc2 (by omega)) rfl rfl hdd (Nat.le_refl _) (Nat.le_refl _) (by decide) (pm_ki (fun v1 σ' cnt' hq => ?_))
  obtain ⟨hq, rfl, rfl⟩ := hq
  rcases hq with ⟨rfl, k3, hk3, ek3⟩ | ⟨rfl, ntk3⟩
  · refine pm_ifN_ne (tgt := 14) hG dX12_die_5 rfl (by omega) (fun _ => ?_) (fun q => absurd q (by omega))
    refine pm_aloadn hG dX12_die_14 rfl ?_
    refine pm_iloadn hG dX12_die_15 rfl ?_
    refine pm_top (v := nI k3) ek3 ?_
    rcases KI.opt hn (show kd (14 * k3 + 119) = (2, 2001, false) from (kd_P (k := k3) (c := 9) (by omega) (by omega) (by decide))) with ek4 | ⟨k4, hk4, ek4⟩
    · refine pm_callV (As := [.int (nI k3)]) (rest := []) hG hR dX12_die_16 (lkX12_101 _ rfl) okV_X12_lives rfl rfl (m_lives1 (d := 3) (by decide) (by omega) (by omega : 14 * k3 + 119 = 14 * k3 + 119) ek4) rfl rfl hdd (Nat.le_refl _) (Nat.le_refl _) (by decide) (pm_ki (fun v5 σ' cnt' hq => ?_))
      obtain ⟨rfl, rfl, rfl⟩ := hq
      refine pm_ifN_ne (tgt := 28) hG dX12_die_19 rfl (by omega) (fun _ => ?_) (fun q => absurd q (by omega))
      refine pm_aloadn hG dX12_die_28 rfl ?_
      refine pm_iloadn hG dX12_die_29 rfl ?_
      refine pm_top (v := nI k3) ek3 ?_
      refine pm_bipush (v := nI 7) hG dX12_die_30 (by decide) ?_
      refine pm_callV (As := [.int (nI k3), .int (nI 7)]) (rest := []) hG hR dX12_die_32 (lkX12_72 _ rfl) okV_X12_man rfl rfl (m_man (d := 3) (e := 14 * k3 + 117) (by omega) (by omega) (by omega)) rfl rfl hdd (Nat.le_refl _) (Nat.le_refl _) (by decide) (pm_ki (fun v6 σ' cnt' hq => ?_))
      obtain ⟨rfl, rfl, rfl⟩ := hq
      refine pm_gen (fun x7 ex7 => ?_)
      refine pm_istoreXn (loc' := [some (.ref (B + 54)), some (.int za), some (.int x7), none, none]) hG dX12_die_35 (by decide) (pm_c1b rfl) rfl ?_
      refine pm_aloadn hG dX12_die_36 rfl ?_
      refine pm_iloadn hG dX12_die_37 rfl ?_
      refine pm_top (v := nI k3) ek3 ?_
      refine pm_bipush (v := nI 10) hG dX12_die_38 (by decide) ?_
      refine pm_aloadn hG dX12_die_40 rfl ?_
      refine pm_iloadn hG dX12_die_41 rfl ?_
      refine pm_top (v := nI k3) ek3 ?_
      refine pm_callV (As := [.int (nI k3)]) (rest := [.int (nI 10), .int (nI k3), .ref (B + 54)]) hG hR dX12_die_42 (lkX12_104 _ rfl) okV_X12_knownTo rfl rfl (m_knownTo (d := 3) (by decide) hn hz (by omega)) rfl rfl hdd (Nat.le_refl _) (Nat.le_refl _) (Nat.le_of_ble_eq_true rfl) (pm_ki (fun v8 σ' cnt' hq => ?_))
      obtain ⟨⟨I9, A9, rfl⟩, rfl⟩ := hq
      refine pm_callV (As := [.int (nI k3), .int (nI 10), .int v8]) (rest := []) hG hR dX12_die_45 (lkX12_97 _ rfl) okV_X12_sets rfl rfl (m_sets (d := 3) (e := 14 * k3 + 120) (by omega) (by omega) (by omega)) rfl rfl hdd (Nat.le_refl _) (Nat.le_refl _) (by decide) (pm_kv (fun σ' cnt' hq => ?_))
      obtain ⟨rfl, rfl⟩ := hq
      obtain ⟨n_10, en_10⟩ : ∃ f : Nat → Int32, f = upd n (14 * k3 + 120) v8 := ⟨_, rfl⟩
      rw [← en_10]
      have hnn_10 := KI.w en_10 hn (okv_f (show kd (14 * k3 + 120) = (0, 0, false) from (kd_P (k := k3) (c := 10) (by omega) (by omega) (by decide))))
      have hrn_10 := NRx.w en_10 hr (by rw [(show kd (14 * k3 + 120) = (0, 0, false) from (kd_P (k := k3) (c := 10) (by omega) (by omega) (by decide)))])
      have ksn_10 := KSs.w (a := 14 * k3 + 119) (b := 14 * k3 + 121) en_10 KSs.rf (by unfold tS; omega)
      have e11 : n_10 0 = nI kc0 := by rw [en_10, pk_un (by omega)]; exact ekc0
      have e12 : n_10 2 = nI kc2 := by rw [en_10, pk_un (by omega)]; exact ekc2
      have e13 : n_10 7 = nI kc7 := by rw [en_10, pk_un (by omega)]; exact ekc7
      have e14 : n_10 8 = nI kc8 := by rw [en_10, pk_un (by omega)]; exact ekc8
      have e15 : n_10 (14 * k3 + 119) = (-1) := by rw [en_10, pk_un (by omega)]; exact ek4
      have e16 : n_10 (14 * k3 + 117) = x7 := by rw [en_10, pk_un (by omega)]; exact ex7
      have e17 : n_10 (14 * k3 + 120) = v8 := by rw [en_10, pk_us]
      refine pm_aloadn hG dX12_die_48 rfl ?_
      refine pm_iloadn hG dX12_die_49 rfl ?_
      refine pm_top (v := nI k3) ek3 ?_
      refine pm_bipush (v := nI 9) hG dX12_die_50 (by decide) ?_
      refine pm_aloadn hG dX12_die_52 rfl ?_
      refine pm_getf hG dX12_die_53 (flX12_7 _ rfl) rfl rfl ?_
      refine pm_bipush (v := nI 8) hG dX12_die_56 (by decide) ?_
      refine pm_ialdN hG dX12_die_58 rfl (by decide) (by omega) ?_
      refine pm_top (v := nI kc8) e14 ?_
      refine pm_callV (As := [.int (nI k3), .int (nI 9), .int (nI kc8)]) (rest := []) hG hR dX12_die_59 (lkX12_97 _ rfl) okV_X12_sets rfl rfl (m_sets (d := 3) (e := 14 * k3 + 119) (by omega) (by omega) (by omega)) rfl rfl hdd (Nat.le_refl _) (Nat.le_refl _) (by decide) (pm_kv (fun σ' cnt' hq => ?_))
      obtain ⟨rfl, rfl⟩ := hq
      obtain ⟨n_18, en_18⟩ : ∃ f : Nat → Int32, f = upd n_10 (14 * k3 + 119) (nI kc8) := ⟨_, rfl⟩
      rw [← en_18]
      have hnn_18 := KI.w en_18 hnn_10 (okv_o (show kd (14 * k3 + 119) = (2, 2001, false) from (kd_P (k := k3) (c := 9) (by omega) (by omega) (by decide))) (by omega))
      have hrn_18 := NRx.w en_18 hrn_10 (by rw [(show kd (14 * k3 + 119) = (2, 2001, false) from (kd_P (k := k3) (c := 9) (by omega) (by omega) (by decide)))])
      have ksn_18 := KSs.w (a := 14 * k3 + 119) (b := 14 * k3 + 121) en_18 ksn_10 (by unfold tS; omega)
      have e19 : n_18 0 = nI kc0 := by rw [en_18, pk_un (by omega)]; exact e11
      have e20 : n_18 2 = nI kc2 := by rw [en_18, pk_un (by omega)]; exact e12
      have e21 : n_18 7 = nI kc7 := by rw [en_18, pk_un (by omega)]; exact e13
      have e22 : n_18 8 = nI kc8 := by rw [en_18, pk_un (by omega)]; exact e14
      have e23 : n_18 (14 * k3 + 117) = x7 := by rw [en_18, pk_un (by omega)]; exact e16
      have e24 : n_18 (14 * k3 + 120) = v8 := by rw [en_18, pk_un (by omega)]; exact e17
      have e25 : n_18 (14 * k3 + 119) = nI kc8 := by rw [en_18, pk_us]
      refine pm_aloadn hG dX12_die_62 rfl ?_
      refine pm_iloadn hG dX12_die_63 rfl ?_
      refine pm_top (v := nI k3) ek3 ?_
      refine pm_bipush (v := nI 7) hG dX12_die_64 (by decide) ?_
      refine pm_iconst (v := nI 0) hG dX12_die_66 (by decide) ?_
      refine pm_callV (As := [.int (nI k3), .int (nI 7), .int (nI 0)]) (rest := []) hG hR dX12_die_67 (lkX12_97 _ rfl) okV_X12_sets rfl rfl (m_sets (d := 3) (e := 14 * k3 + 117) (by omega) (by omega) (by omega)) rfl rfl hdd (Nat.le_refl _) (Nat.le_refl _) (by decide) (pm_kv (fun σ' cnt' hq => ?_))
      obtain ⟨rfl, rfl⟩ := hq
      obtain ⟨n_26, en_26⟩ : ∃ f : Nat → Int32, f = upd n_18 (14 * k3 + 117) (nI 0) := ⟨_, rfl⟩
      rw [← en_26]
      have hnn_26 := KI.w en_26 hnn_18 (okv_f (show kd (14 * k3 + 117) = (0, 0, false) from (kd_P (k := k3) (c := 7) (by omega) (by omega) (by decide))))
      have hrn_26 := NRx.w en_26 hrn_18 (by rw [(show kd (14 * k3 + 117) = (0, 0, false) from (kd_P (k := k3) (c := 7) (by omega) (by omega) (by decide)))])
      have ksn_26 := KSs.w (a := 14 * k3 + 119) (b := 14 * k3 + 121) en_26 ksn_18 (by unfold tS; omega)
      have e27 : n_26 0 = nI kc0 := by rw [en_26, pk_un (by omega)]; exact e19
      have e28 : n_26 2 = nI kc2 := by rw [en_26, pk_un (by omega)]; exact e20
      have e29 : n_26 7 = nI kc7 := by rw [en_26, pk_un (by omega)]; exact e21
      have e30 : n_26 8 = nI kc8 := by rw [en_26, pk_un (by omega)]; exact e22
      have e31 : n_26 (14 * k3 + 120) = v8 := by rw [en_26, pk_un (by omega)]; exact e24
      have e32 : n_26 (14 * k3 + 119) = nI kc8 := by rw [en_26, pk_un (by omega)]; exact e25
      have e33 : n_26 (14 * k3 + 117) = nI 0 := by rw [en_26, pk_us]
      refine pm_aloadn hG dX12_die_70 rfl ?_
      refine pm_iloadn hG dX12_die_71 rfl ?_
      refine pm_top (v := nI k3) ek3 ?_
      refine pm_bipush (v := nI 8) hG dX12_die_72 (by decide) ?_
      refine pm_iconst (v := nI 0) hG dX12_die_74 (by decide) ?_
      refine pm_callV (As := [.int (nI k3), .int (nI 8), .int (nI 0)]) (rest := []) hG hR dX12_die_75 (lkX12_97 _ rfl) okV_X12_sets rfl rfl (m_sets (d := 3) (e := 14 * k3 + 118) (by omega) (by omega) (by omega)) rfl rfl hdd (Nat.le_refl _) (Nat.le_refl _) (by decide) (pm_kv (fun σ' cnt' hq => ?_))
      obtain ⟨rfl, rfl⟩ := hq
      obtain ⟨n_34, en_34⟩ : ∃ f : Nat → Int32, f = upd n_26 (14 * k3 + 118) (nI 0) := ⟨_, rfl⟩
      rw [← en_34]
      have hnn_34 := KI.w en_34 hnn_26 (okv_f (show kd (14 * k3 + 118) = (0, 0, false) from (kd_P (k := k3) (c := 8) (by omega) (by omega) (by decide))))
      have hrn_34 := NRx.w en_34 hrn_26 (by rw [(show kd (14 * k3 + 118) = (0, 0, false) from (kd_P (k := k3) (c := 8) (by omega) (by omega) (by decide)))])
      have ksn_34 := KSs.w (a := 14 * k3 + 119) (b := 14 * k3 + 121) en_34 ksn_26 (by unfold tS; omega)
      have e35 : n_34 0 = nI kc0 := by rw [en_34, pk_un (by omega)]; exact e27
      have e36 : n_34 2 = nI kc2 := by rw [en_34, pk_un (by omega)]; exact e28
      have e37 : n_34 7 = nI kc7 := by rw [en_34, pk_un (by omega)]; exact e29
      have e38 : n_34 8 = nI kc8 := by rw [en_34, pk_un (by omega)]; exact e30
      have e39 : n_34 (14 * k3 + 120) = v8 := by rw [en_34, pk_un (by omega)]; exact e31
      have e40 : n_34 (14 * k3 + 119) = nI kc8 := by rw [en_34, pk_un (by omega)]; exact e32
      have e41 : n_34 (14 * k3 + 117) = nI 0 := by rw [en_34, pk_un (by omega)]; exact e33
      have e42 : n_34 (14 * k3 + 118) = nI 0 := by rw [en_34, pk_us]
      refine pm_aloadn hG dX12_die_78 rfl ?_
      refine pm_getf hG dX12_die_79 (flX12_7 _ rfl) rfl rfl ?_
      refine pm_bipush (v := nI 9) hG dX12_die_82 (by decide) ?_
      refine pm_dup2 hG dX12_die_84 rfl rfl ?_
      refine pm_ialdN hG dX12_die_85 rfl (by decide) (by omega) ?_
      refine pm_gen (fun x43 ex43 => ?_)
      refine pm_iloadn hG dX12_die_86 rfl ?_
      refine pm_iadd hG dX12_die_87 ?_
      refine pm_iastN hG dX12_die_88 rfl (by decide) (by omega) ?_
      refine mdn_now (fun n_44 en_44 => ?_)
      have hnn_44 := KI.w en_44 hnn_34 (okv_f (show kd 9 = (0, 0, false) by decide))
      have hrn_44 := NRx.w en_44 hrn_34 (by rw [(show kd 9 = (0, 0, false) by decide)])
      have ksn_44 := KSs.w (a := 14 * k3 + 119) (b := 14 * k3 + 121) en_44 ksn_34 (by unfold tS; omega)
      have e45 : n_44 0 = nI kc0 := by rw [en_44, pk_un (by omega)]; exact e35
      have e46 : n_44 2 = nI kc2 := by rw [en_44, pk_un (by omega)]; exact e36
      have e47 : n_44 7 = nI kc7 := by rw [en_44, pk_un (by omega)]; exact e37
      have e48 : n_44 8 = nI kc8 := by rw [en_44, pk_un (by omega)]; exact e38
      have e49 : n_44 (14 * k3 + 120) = v8 := by rw [en_44, pk_un (by omega)]; exact e39
      have e50 : n_44 (14 * k3 + 119) = nI kc8 := by rw [en_44, pk_un (by omega)]; exact e40
      have e51 : n_44 (14 * k3 + 117) = nI 0 := by rw [en_44, pk_un (by omega)]; exact e41
      have e52 : n_44 (14 * k3 + 118) = nI 0 := by rw [en_44, pk_un (by omega)]; exact e42
      have e53 : n_44 9 = x43 + x7 := by rw [en_44, pk_us]
      refine pm_aloadn hG dX12_die_89 rfl ?_
      refine pm_iloadn hG dX12_die_90 rfl ?_
      refine pm_top (v := nI k3) ek3 ?_
      refine pm_bipush (v := nI 11) hG dX12_die_91 (by decide) ?_
      refine pm_callV (As := [.int (nI k3), .int (nI 11)]) (rest := []) hG hR dX12_die_93 (lkX12_72 _ rfl) okV_X12_man rfl rfl (m_man (d := 3) (e := 14 * k3 + 121) (by omega) (by omega) (by omega)) rfl rfl hdd (Nat.le_refl _) (Nat.le_refl _) (by decide) (pm_ki (fun v54 σ' cnt' hq => ?_))
      obtain ⟨rfl, rfl, rfl⟩ := hq
      obtain ⟨k55, hk55, ek55⟩ := KI.nat hnn_44 (show kd (14 * k3 + 121) = (1, 2, true) from (kd_P (k := k3) (c := 11) (by omega) (by omega) (by decide)))
      refine pm_top (v := nI k55) ek55 ?_
      refine pm_iconst (v := nI 1) hG dX12_die_96 (by decide) ?_
      refine pm_icmpN_ne (tgt := 105) hG dX12_die_97 rfl (by omega) (by omega) (fun c56 => ?_) (fun c56 => ?_)
      · refine pm_iconst (v := nI 0) hG dX12_die_105 (by decide) ?_
        refine pm_istoreXn (loc' := [some (.ref (B + 54)), some (.int za), some (.int x7), some (.int (nI 0)), none]) hG dX12_die_106 (by decide) (pm_c1b rfl) rfl ?_
        have loop107_57 : ∀ (m57 : Nat) (I57 : Nat → Int32) (A57 : Nat → Nat → Int32) (n_57 : Nat → Int32) (i57 : Nat), KI n_57 → KSs (14 * k3 + 119) (14 * k3 + 121) n_57 n → NRx 40 n_57 → n_57 0 = nI kc0 → n_57 2 = nI kc2 → n_57 7 = nI kc7 → n_57 8 = nI kc8 → n_57 (14 * k3 + 119) = nI kc8 → n_57 (14 * k3 + 121) = nI k55 → i57 ≤ 20 → 20 - i57 < m57 → pm_wp mX12_die G B 107 [some (.ref (B + 54)), some (.int za), some (.int x7), some (.int (nI i57)), none] [] 0 0 cnt (pm_mid σ (md_L B I57 A57 n_57 k z ac wt pl (nI p0) (nI t0) im)) := by
          intro m57
          induction m57 with
          | zero => intro I57 A57 n_57 i57 _ _ _ _ _ _ _ _ _ _ hm; exact absurd hm (Nat.not_lt_zero _)
          | succ m57 ih57 =>
            intro I57 A57 n_57 i57 hnn_57 ksn_57 hrn_57 kc57_0 kc57_2 kc57_7 kc57_8 kt57_7 kt57_8 hi57 hm57
            refine pm_iloadn hG dX12_die_107 rfl ?_
            refine pm_aloadn hG dX12_die_108 rfl ?_
            refine pm_getf hG dX12_die_109 (flX12_7 _ rfl) rfl rfl ?_
            refine pm_iconst (v := nI 3) hG dX12_die_112 (by decide) ?_
            refine pm_ialdN hG dX12_die_113 rfl (by decide) (by omega) ?_
            obtain ⟨k58, hk58, ek58⟩ := KI.nat hnn_57 (show kd 3 = (1, 21, false) by decide)
            refine pm_top (v := nI k58) ek58 ?_
            refine pm_icmpN_ge (tgt := 172) hG dX12_die_114 rfl (by omega) (by omega) (fun c59 => ?_) (fun c59 => ?_)
            · refine pm_iloadn hG dX12_die_172 rfl ?_
              exact pm_iret hG hF dX12_die_173 rfl (Nat.le_refl _) (Nat.le_refl _) ⟨_, rfl, ⟨_, _, _, rfl, hnn_57, hrn_57, kc57_0.trans ekc0.symm, kc57_2.trans ekc2.symm, kc57_7.trans ekc7.symm, kc57_8.trans ekc8.symm, fun j hj => tX_y ek3 ekc2 (by omega) (by omega) ek4 ksn_57 kt57_7 (by omega) (kt57_8.trans (congrArg nI (show _ = 0 by omega))) j (by rw [ekc2, nI_clamp (by omega)] at hj; exact hj)⟩, rfl⟩
            · refine pm_aloadn hG dX12_die_117 rfl ?_
              refine pm_iloadn hG dX12_die_118 rfl ?_
              refine pm_iconst (v := nI 1) hG dX12_die_119 (by decide) ?_
              refine pm_callV (As := [.int (nI i57), .int (nI 1)]) (rest := []) hG hR dX12_die_120 (lkX12_110 _ rfl) okV_X12_its rfl rfl (m_its (d := 3) (e := 6 * i57 + 391) (by omega) (by omega) (by omega)) rfl rfl hdd (Nat.le_refl _) (Nat.le_refl _) (by decide) (pm_ki (fun v60 σ' cnt' hq => ?_))
              obtain ⟨rfl, rfl, rfl⟩ := hq
              rcases KI.opt hnn_57 (show kd (6 * i57 + 391) = (2, 20, false) from (kd_W (k := i57) (c := 1) (by omega) (by omega) (by decide))) with ek61 | ⟨k61, hk61, ek61⟩
              · refine pm_top (v := (-1)) ek61 ?_
                refine pm_iloadn hG dX12_die_123 rfl ?_
                refine pm_top (v := nI k3) ek3 ?_
                refine pm_icmp_ne (tgt := 131) hG dX12_die_124 rfl (fun _ => ?_) (fun q => absurd q ((fun q => nI_m1 (by omega) q.symm)))
                refine pm_iconst (v := nI 0) hG dX12_die_131 (by decide) ?_
                refine pm_istoreXi (loc' := [some (.ref (B + 54)), some (.int za), some (.int x7), some (.int (nI i57)), some (.int (nI 0))]) hG dX12_die_132 (by decide) (pm_c1b rfl) rfl ?_
                refine pm_iloadi hG dX12_die_134 rfl ?_
                refine pm_ifN_eq (tgt := 146) hG dX12_die_136 rfl (by omega) (fun _ => ?_) (fun q => absurd q (by omega))
                refine pm_iloadi hG dX12_die_146 rfl ?_
                refine pm_ifN_ne (tgt := 161) hG dX12_die_148 rfl (by omega) (fun q => absurd q (by omega)) (fun _ => ?_)
                refine pm_aloadn hG dX12_die_151 rfl ?_
                refine pm_iloadn hG dX12_die_152 rfl ?_
                refine pm_iconst (v := nI 2) hG dX12_die_153 (by decide) ?_
                refine pm_callV (As := [.int (nI i57), .int (nI 2)]) (rest := []) hG hR dX12_die_154 (lkX12_110 _ rfl) okV_X12_its rfl rfl (m_its (d := 3) (e := 6 * i57 + 392) (by omega) (by omega) (by omega)) rfl rfl hdd (Nat.le_refl _) (Nat.le_refl _) (by decide) (pm_ki (fun v62 σ' cnt' hq => ?_))
                obtain ⟨rfl, rfl, rfl⟩ := hq
                rcases KI.opt hnn_57 (show kd (6 * i57 + 392) = (2, 20, false) from (kd_W (k := i57) (c := 2) (by omega) (by omega) (by decide))) with ek63 | ⟨k63, hk63, ek63⟩
                · refine pm_top (v := (-1)) ek63 ?_
                  refine pm_iloadn hG dX12_die_157 rfl ?_
                  refine pm_top (v := nI k3) ek3 ?_
                  refine pm_icmp_ne (tgt := 166) hG dX12_die_158 rfl (fun _ => ?_) (fun q => absurd q ((fun q => nI_m1 (by omega) q.symm)))
                  refine pm_iincX (v := nI (i57 + 1)) (loc' := [some (.ref (B + 54)), some (.int za), some (.int x7), some (.int (nI (i57 + 1))), some (.int (nI 0))]) hG dX12_die_166 rfl (nI_1 _) (by decide) (pm_c1b rfl) rfl ?_
                  refine pm_goto (tgt := 107) hG dX12_die_169 rfl ?_
                  refine pm_fg 4 (loc' := [some (.ref (B + 54)), some (.int za), some (.int x7), some (.int (nI (i57 + 1))), none]) rfl ?_
                  exact ih57 I57 A57 n_57 (i57 + 1) hnn_57 ksn_57 hrn_57 (kc57_0.trans (congrArg nI (by omega))) (kc57_2.trans (congrArg nI (by omega))) (kc57_7.trans (congrArg nI (by omega))) (kc57_8.trans (congrArg nI (by omega))) kt57_7 kt57_8 (by omega) (by omega)
                · refine pm_top (v := nI k63) ek63 ?_
                  refine pm_iloadn hG dX12_die_157 rfl ?_
                  refine pm_top (v := nI k3) ek3 ?_
                  refine pm_icmpN_ne (tgt := 166) hG dX12_die_158 rfl (by omega) (by omega) (fun c64 => ?_) (fun c64 => ?_)
                  · refine pm_iincX (v := nI (i57 + 1)) (loc' := [some (.ref (B + 54)), some (.int za), some (.int x7), some (.int (nI (i57 + 1))), some (.int (nI 0))]) hG dX12_die_166 rfl (nI_1 _) (by decide) (pm_c1b rfl) rfl ?_
                    refine pm_goto (tgt := 107) hG dX12_die_169 rfl ?_
                    refine pm_fg 4 (loc' := [some (.ref (B + 54)), some (.int za), some (.int x7), some (.int (nI (i57 + 1))), none]) rfl ?_
                    exact ih57 I57 A57 n_57 (i57 + 1) hnn_57 ksn_57 hrn_57 (kc57_0.trans (congrArg nI (by omega))) (kc57_2.trans (congrArg nI (by omega))) (kc57_7.trans (congrArg nI (by omega))) (kc57_8.trans (congrArg nI (by omega))) kt57_7 kt57_8 (by omega) (by omega)
                  · refine pm_aloadn hG dX12_die_161 rfl ?_
                    refine pm_iloadn hG dX12_die_162 rfl ?_
                    refine pm_callV (As := [.int (nI i57)]) (rest := []) hG hR dX12_die_163 (lkX12_116 _ rfl) okV_X12_comesBack rfl rfl (m_comesBack (d := 3) (e := 6 * i57 + 392) (e2 := 6 * i57 + 393) (by decide) (by omega) (by omega) (by omega)) rfl rfl hdd (Nat.le_refl _) (Nat.le_refl _) (by decide) (pm_kv (fun σ' cnt' hq => ?_))
                    obtain ⟨rfl, rfl⟩ := hq
                    obtain ⟨n_65, en_65⟩ : ∃ f : Nat → Int32, f = upd n_57 (6 * i57 + 392) (-1) := ⟨_, rfl⟩
                    rw [← en_65]
                    have hnn_65 := KI.w en_65 hnn_57 (okv_m (show kd (6 * i57 + 392) = (2, 20, false) from (kd_W (k := i57) (c := 2) (by omega) (by omega) (by decide))))
                    have hrn_65 := NRx.w en_65 hrn_57 (by rw [(show kd (6 * i57 + 392) = (2, 20, false) from (kd_W (k := i57) (c := 2) (by omega) (by omega) (by decide)))])
                    have ksn_65 := KSs.w (a := 14 * k3 + 119) (b := 14 * k3 + 121) en_65 ksn_57 (by unfold tS; omega)
                    have e66 : n_65 0 = nI kc0 := by rw [en_65, pk_un (by omega)]; exact kc57_0
                    have e67 : n_65 2 = nI kc2 := by rw [en_65, pk_un (by omega)]; exact kc57_2
                    have e68 : n_65 7 = nI kc7 := by rw [en_65, pk_un (by omega)]; exact kc57_7
                    have e69 : n_65 8 = nI kc8 := by rw [en_65, pk_un (by omega)]; exact kc57_8
                    have e70 : n_65 (14 * k3 + 119) = nI kc8 := by rw [en_65, pk_un (by omega)]; exact kt57_7
                    have e71 : n_65 (14 * k3 + 121) = nI k55 := by rw [en_65, pk_un (by omega)]; exact kt57_8
                    have e72 : n_65 3 = nI k58 := by rw [en_65, pk_un (by omega)]; exact ek58
                    have e73 : n_65 (6 * i57 + 391) = (-1) := by rw [en_65, pk_un (by omega)]; exact ek61
                    have e74 : n_65 (6 * i57 + 392) = (-1) := by rw [en_65, pk_us]
                    obtain ⟨n_75, en_75⟩ : ∃ f : Nat → Int32, f = upd n_65 (6 * i57 + 393) (-1) := ⟨_, rfl⟩
                    rw [← en_75]
                    have hnn_75 := KI.w en_75 hnn_65 (okv_f (show kd (6 * i57 + 393) = (0, 0, false) from (kd_W (k := i57) (c := 3) (by omega) (by omega) (by decide))))
                    have hrn_75 := NRx.w en_75 hrn_65 (by rw [(show kd (6 * i57 + 393) = (0, 0, false) from (kd_W (k := i57) (c := 3) (by omega) (by omega) (by decide)))])
                    have ksn_75 := KSs.w (a := 14 * k3 + 119) (b := 14 * k3 + 121) en_75 ksn_65 (by unfold tS; omega)
                    have e76 : n_75 0 = nI kc0 := by rw [en_75, pk_un (by omega)]; exact e66
                    have e77 : n_75 2 = nI kc2 := by rw [en_75, pk_un (by omega)]; exact e67
                    have e78 : n_75 7 = nI kc7 := by rw [en_75, pk_un (by omega)]; exact e68
                    have e79 : n_75 8 = nI kc8 := by rw [en_75, pk_un (by omega)]; exact e69
                    have e80 : n_75 (14 * k3 + 119) = nI kc8 := by rw [en_75, pk_un (by omega)]; exact e70
                    have e81 : n_75 (14 * k3 + 121) = nI k55 := by rw [en_75, pk_un (by omega)]; exact e71
                    have e82 : n_75 3 = nI k58 := by rw [en_75, pk_un (by omega)]; exact e72
                    have e83 : n_75 (6 * i57 + 391) = (-1) := by rw [en_75, pk_un (by omega)]; exact e73
                    have e84 : n_75 (6 * i57 + 392) = (-1) := by rw [en_75, pk_un (by omega)]; exact e74
                    have e85 : n_75 (6 * i57 + 393) = (-1) := by rw [en_75, pk_us]
                    refine pm_iincX (v := nI (i57 + 1)) (loc' := [some (.ref (B + 54)), some (.int za), some (.int x7), some (.int (nI (i57 + 1))), some (.int (nI 0))]) hG dX12_die_166 rfl (nI_1 _) (by decide) (pm_c1b rfl) rfl ?_
                    refine pm_goto (tgt := 107) hG dX12_die_169 rfl ?_
                    refine pm_fg 4 (loc' := [some (.ref (B + 54)), some (.int za), some (.int x7), some (.int (nI (i57 + 1))), none]) rfl ?_
                    exact ih57 I57 A57 n_75 (i57 + 1) hnn_75 ksn_75 hrn_75 (e76.trans (congrArg nI (by omega))) (e77.trans (congrArg nI (by omega))) (e78.trans (congrArg nI (by omega))) (e79.trans (congrArg nI (by omega))) e80 e81 (by omega) (by omega)
              · refine pm_top (v := nI k61) ek61 ?_
                refine pm_iloadn hG dX12_die_123 rfl ?_
                refine pm_top (v := nI k3) ek3 ?_
                refine pm_icmpN_ne (tgt := 131) hG dX12_die_124 rfl (by omega) (by omega) (fun c86 => ?_) (fun c86 => ?_)
                · refine pm_iconst (v := nI 0) hG dX12_die_131 (by decide) ?_
                  refine pm_istoreXi (loc' := [some (.ref (B + 54)), some (.int za), some (.int x7), some (.int (nI i57)), some (.int (nI 0))]) hG dX12_die_132 (by decide) (pm_c1b rfl) rfl ?_
                  refine pm_iloadi hG dX12_die_134 rfl ?_
                  refine pm_ifN_eq (tgt := 146) hG dX12_die_136 rfl (by omega) (fun _ => ?_) (fun q => absurd q (by omega))
                  refine pm_iloadi hG dX12_die_146 rfl ?_
                  refine pm_ifN_ne (tgt := 161) hG dX12_die_148 rfl (by omega) (fun q => absurd q (by omega)) (fun _ => ?_)
                  refine pm_aloadn hG dX12_die_151 rfl ?_
                  refine pm_iloadn hG dX12_die_152 rfl ?_
                  refine pm_iconst (v := nI 2) hG dX12_die_153 (by decide) ?_
                  refine pm_callV (As := [.int (nI i57), .int (nI 2)]) (rest := []) hG hR dX12_die_154 (lkX12_110 _ rfl) okV_X12_its rfl rfl (m_its (d := 3) (e := 6 * i57 + 392) (by omega) (by omega) (by omega)) rfl rfl hdd (Nat.le_refl _) (Nat.le_refl _) (by decide) (pm_ki (fun v87 σ' cnt' hq => ?_))
                  obtain ⟨rfl, rfl, rfl⟩ := hq
                  rcases KI.opt hnn_57 (show kd (6 * i57 + 392) = (2, 20, false) from (kd_W (k := i57) (c := 2) (by omega) (by omega) (by decide))) with ek88 | ⟨k88, hk88, ek88⟩
                  · refine pm_top (v := (-1)) ek88 ?_
                    refine pm_iloadn hG dX12_die_157 rfl ?_
                    refine pm_top (v := nI k3) ek3 ?_
                    refine pm_icmp_ne (tgt := 166) hG dX12_die_158 rfl (fun _ => ?_) (fun q => absurd q ((fun q => nI_m1 (by omega) q.symm)))
                    refine pm_iincX (v := nI (i57 + 1)) (loc' := [some (.ref (B + 54)), some (.int za), some (.int x7), some (.int (nI (i57 + 1))), some (.int (nI 0))]) hG dX12_die_166 rfl (nI_1 _) (by decide) (pm_c1b rfl) rfl ?_
                    refine pm_goto (tgt := 107) hG dX12_die_169 rfl ?_
                    refine pm_fg 4 (loc' := [some (.ref (B + 54)), some (.int za), some (.int x7), some (.int (nI (i57 + 1))), none]) rfl ?_
                    exact ih57 I57 A57 n_57 (i57 + 1) hnn_57 ksn_57 hrn_57 (kc57_0.trans (congrArg nI (by omega))) (kc57_2.trans (congrArg nI (by omega))) (kc57_7.trans (congrArg nI (by omega))) (kc57_8.trans (congrArg nI (by omega))) kt57_7 kt57_8 (by omega) (by omega)
                  · refine pm_top (v := nI k88) ek88 ?_
                    refine pm_iloadn hG dX12_die_157 rfl ?_
                    refine pm_top (v := nI k3) ek3 ?_
                    refine pm_icmpN_ne (tgt := 166) hG dX12_die_158 rfl (by omega) (by omega) (fun c89 => ?_) (fun c89 => ?_)
                    · refine pm_iincX (v := nI (i57 + 1)) (loc' := [some (.ref (B + 54)), some (.int za), some (.int x7), some (.int (nI (i57 + 1))), some (.int (nI 0))]) hG dX12_die_166 rfl (nI_1 _) (by decide) (pm_c1b rfl) rfl ?_
                      refine pm_goto (tgt := 107) hG dX12_die_169 rfl ?_
                      refine pm_fg 4 (loc' := [some (.ref (B + 54)), some (.int za), some (.int x7), some (.int (nI (i57 + 1))), none]) rfl ?_
                      exact ih57 I57 A57 n_57 (i57 + 1) hnn_57 ksn_57 hrn_57 (kc57_0.trans (congrArg nI (by omega))) (kc57_2.trans (congrArg nI (by omega))) (kc57_7.trans (congrArg nI (by omega))) (kc57_8.trans (congrArg nI (by omega))) kt57_7 kt57_8 (by omega) (by omega)
                    · refine pm_aloadn hG dX12_die_161 rfl ?_
                      refine pm_iloadn hG dX12_die_162 rfl ?_
                      refine pm_callV (As := [.int (nI i57)]) (rest := []) hG hR dX12_die_163 (lkX12_116 _ rfl) okV_X12_comesBack rfl rfl (m_comesBack (d := 3) (e := 6 * i57 + 392) (e2 := 6 * i57 + 393) (by decide) (by omega) (by omega) (by omega)) rfl rfl hdd (Nat.le_refl _) (Nat.le_refl _) (by decide) (pm_kv (fun σ' cnt' hq => ?_))
                      obtain ⟨rfl, rfl⟩ := hq
                      obtain ⟨n_90, en_90⟩ : ∃ f : Nat → Int32, f = upd n_57 (6 * i57 + 392) (-1) := ⟨_, rfl⟩
                      rw [← en_90]
                      have hnn_90 := KI.w en_90 hnn_57 (okv_m (show kd (6 * i57 + 392) = (2, 20, false) from (kd_W (k := i57) (c := 2) (by omega) (by omega) (by decide))))
                      have hrn_90 := NRx.w en_90 hrn_57 (by rw [(show kd (6 * i57 + 392) = (2, 20, false) from (kd_W (k := i57) (c := 2) (by omega) (by omega) (by decide)))])
                      have ksn_90 := KSs.w (a := 14 * k3 + 119) (b := 14 * k3 + 121) en_90 ksn_57 (by unfold tS; omega)
                      have e91 : n_90 0 = nI kc0 := by rw [en_90, pk_un (by omega)]; exact kc57_0
                      have e92 : n_90 2 = nI kc2 := by rw [en_90, pk_un (by omega)]; exact kc57_2
                      have e93 : n_90 7 = nI kc7 := by rw [en_90, pk_un (by omega)]; exact kc57_7
                      have e94 : n_90 8 = nI kc8 := by rw [en_90, pk_un (by omega)]; exact kc57_8
                      have e95 : n_90 (14 * k3 + 119) = nI kc8 := by rw [en_90, pk_un (by omega)]; exact kt57_7
                      have e96 : n_90 (14 * k3 + 121) = nI k55 := by rw [en_90, pk_un (by omega)]; exact kt57_8
                      have e97 : n_90 3 = nI k58 := by rw [en_90, pk_un (by omega)]; exact ek58
                      have e98 : n_90 (6 * i57 + 391) = nI k61 := by rw [en_90, pk_un (by omega)]; exact ek61
                      have e99 : n_90 (6 * i57 + 392) = (-1) := by rw [en_90, pk_us]
                      obtain ⟨n_100, en_100⟩ : ∃ f : Nat → Int32, f = upd n_90 (6 * i57 + 393) (-1) := ⟨_, rfl⟩
                      rw [← en_100]
                      have hnn_100 := KI.w en_100 hnn_90 (okv_f (show kd (6 * i57 + 393) = (0, 0, false) from (kd_W (k := i57) (c := 3) (by omega) (by omega) (by decide))))
                      have hrn_100 := NRx.w en_100 hrn_90 (by rw [(show kd (6 * i57 + 393) = (0, 0, false) from (kd_W (k := i57) (c := 3) (by omega) (by omega) (by decide)))])
                      have ksn_100 := KSs.w (a := 14 * k3 + 119) (b := 14 * k3 + 121) en_100 ksn_90 (by unfold tS; omega)
                      have e101 : n_100 0 = nI kc0 := by rw [en_100, pk_un (by omega)]; exact e91
                      have e102 : n_100 2 = nI kc2 := by rw [en_100, pk_un (by omega)]; exact e92
                      have e103 : n_100 7 = nI kc7 := by rw [en_100, pk_un (by omega)]; exact e93
                      have e104 : n_100 8 = nI kc8 := by rw [en_100, pk_un (by omega)]; exact e94
                      have e105 : n_100 (14 * k3 + 119) = nI kc8 := by rw [en_100, pk_un (by omega)]; exact e95
                      have e106 : n_100 (14 * k3 + 121) = nI k55 := by rw [en_100, pk_un (by omega)]; exact e96
                      have e107 : n_100 3 = nI k58 := by rw [en_100, pk_un (by omega)]; exact e97
                      have e108 : n_100 (6 * i57 + 391) = nI k61 := by rw [en_100, pk_un (by omega)]; exact e98
                      have e109 : n_100 (6 * i57 + 392) = (-1) := by rw [en_100, pk_un (by omega)]; exact e99
                      have e110 : n_100 (6 * i57 + 393) = (-1) := by rw [en_100, pk_us]
                      refine pm_iincX (v := nI (i57 + 1)) (loc' := [some (.ref (B + 54)), some (.int za), some (.int x7), some (.int (nI (i57 + 1))), some (.int (nI 0))]) hG dX12_die_166 rfl (nI_1 _) (by decide) (pm_c1b rfl) rfl ?_
                      refine pm_goto (tgt := 107) hG dX12_die_169 rfl ?_
                      refine pm_fg 4 (loc' := [some (.ref (B + 54)), some (.int za), some (.int x7), some (.int (nI (i57 + 1))), none]) rfl ?_
                      exact ih57 I57 A57 n_100 (i57 + 1) hnn_100 ksn_100 hrn_100 (e101.trans (congrArg nI (by omega))) (e102.trans (congrArg nI (by omega))) (e103.trans (congrArg nI (by omega))) (e104.trans (congrArg nI (by omega))) e105 e106 (by omega) (by omega)
                · refine pm_iconst (v := nI 1) hG dX12_die_127 (by decide) ?_
                  refine pm_goto (tgt := 132) hG dX12_die_128 rfl ?_
                  refine pm_istoreXi (loc' := [some (.ref (B + 54)), some (.int za), some (.int x7), some (.int (nI i57)), some (.int (nI 1))]) hG dX12_die_132 (by decide) (pm_c1b rfl) rfl ?_
                  refine pm_iloadi hG dX12_die_134 rfl ?_
                  refine pm_ifN_eq (tgt := 146) hG dX12_die_136 rfl (by omega) (fun q => absurd q (by omega)) (fun _ => ?_)
                  refine pm_aloadn hG dX12_die_139 rfl ?_
                  refine pm_iloadn hG dX12_die_140 rfl ?_
                  refine pm_iconst (v := nI 1) hG dX12_die_141 (by decide) ?_
                  refine pm_iconst (v := (-1)) hG dX12_die_142 (by decide) ?_
                  refine pm_callV (As := [.int (nI i57), .int (nI 1), .int (-1)]) (rest := []) hG hR dX12_die_143 (lkX12_113 _ rfl) okV_X12_makes rfl rfl (m_makes (d := 3) (e := 6 * i57 + 391) (by omega) (by omega) (by omega)) rfl rfl hdd (Nat.le_refl _) (Nat.le_refl _) (by decide) (pm_kv (fun σ' cnt' hq => ?_))
                  obtain ⟨rfl, rfl⟩ := hq
                  obtain ⟨n_111, en_111⟩ : ∃ f : Nat → Int32, f = upd n_57 (6 * i57 + 391) (-1) := ⟨_, rfl⟩
                  rw [← en_111]
                  have hnn_111 := KI.w en_111 hnn_57 (okv_m (show kd (6 * i57 + 391) = (2, 20, false) from (kd_W (k := i57) (c := 1) (by omega) (by omega) (by decide))))
                  have hrn_111 := NRx.w en_111 hrn_57 (by rw [(show kd (6 * i57 + 391) = (2, 20, false) from (kd_W (k := i57) (c := 1) (by omega) (by omega) (by decide)))])
                  have ksn_111 := KSs.w (a := 14 * k3 + 119) (b := 14 * k3 + 121) en_111 ksn_57 (by unfold tS; omega)
                  have e112 : n_111 0 = nI kc0 := by rw [en_111, pk_un (by omega)]; exact kc57_0
                  have e113 : n_111 2 = nI kc2 := by rw [en_111, pk_un (by omega)]; exact kc57_2
                  have e114 : n_111 7 = nI kc7 := by rw [en_111, pk_un (by omega)]; exact kc57_7
                  have e115 : n_111 8 = nI kc8 := by rw [en_111, pk_un (by omega)]; exact kc57_8
                  have e116 : n_111 (14 * k3 + 119) = nI kc8 := by rw [en_111, pk_un (by omega)]; exact kt57_7
                  have e117 : n_111 (14 * k3 + 121) = nI k55 := by rw [en_111, pk_un (by omega)]; exact kt57_8
                  have e118 : n_111 3 = nI k58 := by rw [en_111, pk_un (by omega)]; exact ek58
                  have e119 : n_111 (6 * i57 + 391) = (-1) := by rw [en_111, pk_us]
                  refine pm_iloadi hG dX12_die_146 rfl ?_
                  refine pm_ifN_ne (tgt := 161) hG dX12_die_148 rfl (by omega) (fun _ => ?_) (fun q => absurd q (by omega))
                  refine pm_aloadn hG dX12_die_161 rfl ?_
                  refine pm_iloadn hG dX12_die_162 rfl ?_
                  refine pm_callV (As := [.int (nI i57)]) (rest := []) hG hR dX12_die_163 (lkX12_116 _ rfl) okV_X12_comesBack rfl rfl (m_comesBack (d := 3) (e := 6 * i57 + 392) (e2 := 6 * i57 + 393) (by decide) (by omega) (by omega) (by omega)) rfl rfl hdd (Nat.le_refl _) (Nat.le_refl _) (by decide) (pm_kv (fun σ' cnt' hq => ?_))
                  obtain ⟨rfl, rfl⟩ := hq
                  obtain ⟨n_120, en_120⟩ : ∃ f : Nat → Int32, f = upd n_111 (6 * i57 + 392) (-1) := ⟨_, rfl⟩
                  rw [← en_120]
                  have hnn_120 := KI.w en_120 hnn_111 (okv_m (show kd (6 * i57 + 392) = (2, 20, false) from (kd_W (k := i57) (c := 2) (by omega) (by omega) (by decide))))
                  have hrn_120 := NRx.w en_120 hrn_111 (by rw [(show kd (6 * i57 + 392) = (2, 20, false) from (kd_W (k := i57) (c := 2) (by omega) (by omega) (by decide)))])
                  have ksn_120 := KSs.w (a := 14 * k3 + 119) (b := 14 * k3 + 121) en_120 ksn_111 (by unfold tS; omega)
                  have e121 : n_120 0 = nI kc0 := by rw [en_120, pk_un (by omega)]; exact e112
                  have e122 : n_120 2 = nI kc2 := by rw [en_120, pk_un (by omega)]; exact e113
                  have e123 : n_120 7 = nI kc7 := by rw [en_120, pk_un (by omega)]; exact e114
                  have e124 : n_120 8 = nI kc8 := by rw [en_120, pk_un (by omega)]; exact e115
                  have e125 : n_120 (14 * k3 + 119) = nI kc8 := by rw [en_120, pk_un (by omega)]; exact e116
                  have e126 : n_120 (14 * k3 + 121) = nI k55 := by rw [en_120, pk_un (by omega)]; exact e117
                  have e127 : n_120 3 = nI k58 := by rw [en_120, pk_un (by omega)]; exact e118
                  have e128 : n_120 (6 * i57 + 391) = (-1) := by rw [en_120, pk_un (by omega)]; exact e119
                  have e129 : n_120 (6 * i57 + 392) = (-1) := by rw [en_120, pk_us]
                  obtain ⟨n_130, en_130⟩ : ∃ f : Nat → Int32, f = upd n_120 (6 * i57 + 393) (-1) := ⟨_, rfl⟩
                  rw [← en_130]
                  have hnn_130 := KI.w en_130 hnn_120 (okv_f (show kd (6 * i57 + 393) = (0, 0, false) from (kd_W (k := i57) (c := 3) (by omega) (by omega) (by decide))))
                  have hrn_130 := NRx.w en_130 hrn_120 (by rw [(show kd (6 * i57 + 393) = (0, 0, false) from (kd_W (k := i57) (c := 3) (by omega) (by omega) (by decide)))])
                  have ksn_130 := KSs.w (a := 14 * k3 + 119) (b := 14 * k3 + 121) en_130 ksn_120 (by unfold tS; omega)
                  have e131 : n_130 0 = nI kc0 := by rw [en_130, pk_un (by omega)]; exact e121
                  have e132 : n_130 2 = nI kc2 := by rw [en_130, pk_un (by omega)]; exact e122
                  have e133 : n_130 7 = nI kc7 := by rw [en_130, pk_un (by omega)]; exact e123
                  have e134 : n_130 8 = nI kc8 := by rw [en_130, pk_un (by omega)]; exact e124
                  have e135 : n_130 (14 * k3 + 119) = nI kc8 := by rw [en_130, pk_un (by omega)]; exact e125
                  have e136 : n_130 (14 * k3 + 121) = nI k55 := by rw [en_130, pk_un (by omega)]; exact e126
                  have e137 : n_130 3 = nI k58 := by rw [en_130, pk_un (by omega)]; exact e127
                  have e138 : n_130 (6 * i57 + 391) = (-1) := by rw [en_130, pk_un (by omega)]; exact e128
                  have e139 : n_130 (6 * i57 + 392) = (-1) := by rw [en_130, pk_un (by omega)]; exact e129
                  have e140 : n_130 (6 * i57 + 393) = (-1) := by rw [en_130, pk_us]
                  refine pm_iincX (v := nI (i57 + 1)) (loc' := [some (.ref (B + 54)), some (.int za), some (.int x7), some (.int (nI (i57 + 1))), some (.int (nI 1))]) hG dX12_die_166 rfl (nI_1 _) (by decide) (pm_c1b rfl) rfl ?_
                  refine pm_goto (tgt := 107) hG dX12_die_169 rfl ?_
                  refine pm_fg 4 (loc' := [some (.ref (B + 54)), some (.int za), some (.int x7), some (.int (nI (i57 + 1))), none]) rfl ?_
                  exact ih57 I57 A57 n_130 (i57 + 1) hnn_130 ksn_130 hrn_130 (e131.trans (congrArg nI (by omega))) (e132.trans (congrArg nI (by omega))) (e133.trans (congrArg nI (by omega))) (e134.trans (congrArg nI (by omega))) e135 e136 (by omega) (by omega)
        exact loop107_57 _ I9 A9 n_44 0 hnn_44 ksn_44 hrn_44 (e45.trans (congrArg nI (by omega))) (e46.trans (congrArg nI (by omega))) (e47.trans (congrArg nI (by omega))) (e48.trans (congrArg nI (by omega))) e50 ek55 (by omega) (Nat.lt_succ_self _)
      · refine pm_aloadn hG dX12_die_100 rfl ?_
        refine pm_iloadn hG dX12_die_101 rfl ?_
        refine pm_top (v := nI k3) ek3 ?_
        refine pm_callV (As := [.int (nI k3)]) (rest := []) hG hR dX12_die_102 (lkX12_107 _ rfl) okV_X12_leaves rfl rfl (m_leaves (d := 3) (by decide) hnn_44 hrn_44 hz (by omega)) rfl rfl hdd (Nat.le_refl _) (Nat.le_refl _) (by decide) (pm_kv (fun σ' cnt' hq => ?_))
        obtain ⟨⟨n_142, rfl, hn142, hr142, hc142_0, hc142_2, hc142_7, hc142_8, hx142⟩, rfl⟩ := hq
        have e143 : n_142 (14 * k3 + 119) = nI kc8 := (hx142.2 _ (by unfold tS; omega) (by omega) (by omega)).trans e50
        have ks_144 := KSs.tr (a := 14 * k3 + 119) (b := 14 * k3 + 121) hx142.2 ksn_44 (by omega)
        have e145 : n_142 0 = nI kc0 := hc142_0.trans e45
        have e146 : n_142 2 = nI kc2 := hc142_2.trans e46
        have e147 : n_142 7 = nI kc7 := hc142_7.trans e47
        have e148 : n_142 8 = nI kc8 := hc142_8.trans e48
        refine pm_iconst (v := nI 0) hG dX12_die_105 (by decide) ?_
        refine pm_istoreXn (loc' := [some (.ref (B + 54)), some (.int za), some (.int x7), some (.int (nI 0)), none]) hG dX12_die_106 (by decide) (pm_c1b rfl) rfl ?_
        have loop107_149 : ∀ (m149 : Nat) (I149 : Nat → Int32) (A149 : Nat → Nat → Int32) (n_149 : Nat → Int32) (i149 : Nat), KI n_149 → KSs (14 * k3 + 119) (14 * k3 + 121) n_149 n → NRx 40 n_149 → n_149 0 = nI kc0 → n_149 2 = nI kc2 → n_149 7 = nI kc7 → n_149 8 = nI kc8 → n_149 (14 * k3 + 119) = nI kc8 → n_149 (14 * k3 + 121) = nI 0 → i149 ≤ 20 → 20 - i149 < m149 → pm_wp mX12_die G B 107 [some (.ref (B + 54)), some (.int za), some (.int x7), some (.int (nI i149)), none] [] 0 0 cnt (pm_mid σ (md_L B I149 A149 n_149 k z ac wt pl (nI p0) (nI t0) im)) := by
          intro m149
          induction m149 with
          | zero => intro I149 A149 n_149 i149 _ _ _ _ _ _ _ _ _ _ hm; exact absurd hm (Nat.not_lt_zero _)
          | succ m149 ih149 =>
            intro I149 A149 n_149 i149 hnn_149 ksn_149 hrn_149 kc149_0 kc149_2 kc149_7 kc149_8 kt149_7 kt149_8 hi149 hm149
            refine pm_iloadn hG dX12_die_107 rfl ?_
            refine pm_aloadn hG dX12_die_108 rfl ?_
            refine pm_getf hG dX12_die_109 (flX12_7 _ rfl) rfl rfl ?_
            refine pm_iconst (v := nI 3) hG dX12_die_112 (by decide) ?_
            refine pm_ialdN hG dX12_die_113 rfl (by decide) (by omega) ?_
            obtain ⟨k150, hk150, ek150⟩ := KI.nat hnn_149 (show kd 3 = (1, 21, false) by decide)
            refine pm_top (v := nI k150) ek150 ?_
            refine pm_icmpN_ge (tgt := 172) hG dX12_die_114 rfl (by omega) (by omega) (fun c151 => ?_) (fun c151 => ?_)
            · refine pm_iloadn hG dX12_die_172 rfl ?_
              exact pm_iret hG hF dX12_die_173 rfl (Nat.le_refl _) (Nat.le_refl _) ⟨_, rfl, ⟨_, _, _, rfl, hnn_149, hrn_149, kc149_0.trans ekc0.symm, kc149_2.trans ekc2.symm, kc149_7.trans ekc7.symm, kc149_8.trans ekc8.symm, fun j hj => tX_y ek3 ekc2 (by omega) (by omega) ek4 ksn_149 kt149_7 (by omega) kt149_8 j (by rw [ekc2, nI_clamp (by omega)] at hj; exact hj)⟩, rfl⟩
            · refine pm_aloadn hG dX12_die_117 rfl ?_
              refine pm_iloadn hG dX12_die_118 rfl ?_
              refine pm_iconst (v := nI 1) hG dX12_die_119 (by decide) ?_
              refine pm_callV (As := [.int (nI i149), .int (nI 1)]) (rest := []) hG hR dX12_die_120 (lkX12_110 _ rfl) okV_X12_its rfl rfl (m_its (d := 3) (e := 6 * i149 + 391) (by omega) (by omega) (by omega)) rfl rfl hdd (Nat.le_refl _) (Nat.le_refl _) (by decide) (pm_ki (fun v152 σ' cnt' hq => ?_))
              obtain ⟨rfl, rfl, rfl⟩ := hq
              rcases KI.opt hnn_149 (show kd (6 * i149 + 391) = (2, 20, false) from (kd_W (k := i149) (c := 1) (by omega) (by omega) (by decide))) with ek153 | ⟨k153, hk153, ek153⟩
              · refine pm_top (v := (-1)) ek153 ?_
                refine pm_iloadn hG dX12_die_123 rfl ?_
                refine pm_top (v := nI k3) ek3 ?_
                refine pm_icmp_ne (tgt := 131) hG dX12_die_124 rfl (fun _ => ?_) (fun q => absurd q ((fun q => nI_m1 (by omega) q.symm)))
                refine pm_iconst (v := nI 0) hG dX12_die_131 (by decide) ?_
                refine pm_istoreXi (loc' := [some (.ref (B + 54)), some (.int za), some (.int x7), some (.int (nI i149)), some (.int (nI 0))]) hG dX12_die_132 (by decide) (pm_c1b rfl) rfl ?_
                refine pm_iloadi hG dX12_die_134 rfl ?_
                refine pm_ifN_eq (tgt := 146) hG dX12_die_136 rfl (by omega) (fun _ => ?_) (fun q => absurd q (by omega))
                refine pm_iloadi hG dX12_die_146 rfl ?_
                refine pm_ifN_ne (tgt := 161) hG dX12_die_148 rfl (by omega) (fun q => absurd q (by omega)) (fun _ => ?_)
                refine pm_aloadn hG dX12_die_151 rfl ?_
                refine pm_iloadn hG dX12_die_152 rfl ?_
                refine pm_iconst (v := nI 2) hG dX12_die_153 (by decide) ?_
                refine pm_callV (As := [.int (nI i149), .int (nI 2)]) (rest := []) hG hR dX12_die_154 (lkX12_110 _ rfl) okV_X12_its rfl rfl (m_its (d := 3) (e := 6 * i149 + 392) (by omega) (by omega) (by omega)) rfl rfl hdd (Nat.le_refl _) (Nat.le_refl _) (by decide) (pm_ki (fun v154 σ' cnt' hq => ?_))
                obtain ⟨rfl, rfl, rfl⟩ := hq
                rcases KI.opt hnn_149 (show kd (6 * i149 + 392) = (2, 20, false) from (kd_W (k := i149) (c := 2) (by omega) (by omega) (by decide))) with ek155 | ⟨k155, hk155, ek155⟩
                · refine pm_top (v := (-1)) ek155 ?_
                  refine pm_iloadn hG dX12_die_157 rfl ?_
                  refine pm_top (v := nI k3) ek3 ?_
                  refine pm_icmp_ne (tgt := 166) hG dX12_die_158 rfl (fun _ => ?_) (fun q => absurd q ((fun q => nI_m1 (by omega) q.symm)))
                  refine pm_iincX (v := nI (i149 + 1)) (loc' := [some (.ref (B + 54)), some (.int za), some (.int x7), some (.int (nI (i149 + 1))), some (.int (nI 0))]) hG dX12_die_166 rfl (nI_1 _) (by decide) (pm_c1b rfl) rfl ?_
                  refine pm_goto (tgt := 107) hG dX12_die_169 rfl ?_
                  refine pm_fg 4 (loc' := [some (.ref (B + 54)), some (.int za), some (.int x7), some (.int (nI (i149 + 1))), none]) rfl ?_
                  exact ih149 I149 A149 n_149 (i149 + 1) hnn_149 ksn_149 hrn_149 (kc149_0.trans (congrArg nI (by omega))) (kc149_2.trans (congrArg nI (by omega))) (kc149_7.trans (congrArg nI (by omega))) (kc149_8.trans (congrArg nI (by omega))) kt149_7 kt149_8 (by omega) (by omega)
                · refine pm_top (v := nI k155) ek155 ?_
                  refine pm_iloadn hG dX12_die_157 rfl ?_
                  refine pm_top (v := nI k3) ek3 ?_
                  refine pm_icmpN_ne (tgt := 166) hG dX12_die_158 rfl (by omega) (by omega) (fun c156 => ?_) (fun c156 => ?_)
                  · refine pm_iincX (v := nI (i149 + 1)) (loc' := [some (.ref (B + 54)), some (.int za), some (.int x7), some (.int (nI (i149 + 1))), some (.int (nI 0))]) hG dX12_die_166 rfl (nI_1 _) (by decide) (pm_c1b rfl) rfl ?_
                    refine pm_goto (tgt := 107) hG dX12_die_169 rfl ?_
                    refine pm_fg 4 (loc' := [some (.ref (B + 54)), some (.int za), some (.int x7), some (.int (nI (i149 + 1))), none]) rfl ?_
                    exact ih149 I149 A149 n_149 (i149 + 1) hnn_149 ksn_149 hrn_149 (kc149_0.trans (congrArg nI (by omega))) (kc149_2.trans (congrArg nI (by omega))) (kc149_7.trans (congrArg nI (by omega))) (kc149_8.trans (congrArg nI (by omega))) kt149_7 kt149_8 (by omega) (by omega)
                  · refine pm_aloadn hG dX12_die_161 rfl ?_
                    refine pm_iloadn hG dX12_die_162 rfl ?_
                    refine pm_callV (As := [.int (nI i149)]) (rest := []) hG hR dX12_die_163 (lkX12_116 _ rfl) okV_X12_comesBack rfl rfl (m_comesBack (d := 3) (e := 6 * i149 + 392) (e2 := 6 * i149 + 393) (by decide) (by omega) (by omega) (by omega)) rfl rfl hdd (Nat.le_refl _) (Nat.le_refl _) (by decide) (pm_kv (fun σ' cnt' hq => ?_))
                    obtain ⟨rfl, rfl⟩ := hq
                    obtain ⟨n_157, en_157⟩ : ∃ f : Nat → Int32, f = upd n_149 (6 * i149 + 392) (-1) := ⟨_, rfl⟩
                    rw [← en_157]
                    have hnn_157 := KI.w en_157 hnn_149 (okv_m (show kd (6 * i149 + 392) = (2, 20, false) from (kd_W (k := i149) (c := 2) (by omega) (by omega) (by decide))))
                    have hrn_157 := NRx.w en_157 hrn_149 (by rw [(show kd (6 * i149 + 392) = (2, 20, false) from (kd_W (k := i149) (c := 2) (by omega) (by omega) (by decide)))])
                    have ksn_157 := KSs.w (a := 14 * k3 + 119) (b := 14 * k3 + 121) en_157 ksn_149 (by unfold tS; omega)
                    have e158 : n_157 0 = nI kc0 := by rw [en_157, pk_un (by omega)]; exact kc149_0
                    have e159 : n_157 2 = nI kc2 := by rw [en_157, pk_un (by omega)]; exact kc149_2
                    have e160 : n_157 7 = nI kc7 := by rw [en_157, pk_un (by omega)]; exact kc149_7
                    have e161 : n_157 8 = nI kc8 := by rw [en_157, pk_un (by omega)]; exact kc149_8
                    have e162 : n_157 (14 * k3 + 119) = nI kc8 := by rw [en_157, pk_un (by omega)]; exact kt149_7
                    have e163 : n_157 (14 * k3 + 121) = nI 0 := by rw [en_157, pk_un (by omega)]; exact kt149_8
                    have e164 : n_157 3 = nI k150 := by rw [en_157, pk_un (by omega)]; exact ek150
                    have e165 : n_157 (6 * i149 + 391) = (-1) := by rw [en_157, pk_un (by omega)]; exact ek153
                    have e166 : n_157 (6 * i149 + 392) = (-1) := by rw [en_157, pk_us]
                    obtain ⟨n_167, en_167⟩ : ∃ f : Nat → Int32, f = upd n_157 (6 * i149 + 393) (-1) := ⟨_, rfl⟩
                    rw [← en_167]
                    have hnn_167 := KI.w en_167 hnn_157 (okv_f (show kd (6 * i149 + 393) = (0, 0, false) from (kd_W (k := i149) (c := 3) (by omega) (by omega) (by decide))))
                    have hrn_167 := NRx.w en_167 hrn_157 (by rw [(show kd (6 * i149 + 393) = (0, 0, false) from (kd_W (k := i149) (c := 3) (by omega) (by omega) (by decide)))])
                    have ksn_167 := KSs.w (a := 14 * k3 + 119) (b := 14 * k3 + 121) en_167 ksn_157 (by unfold tS; omega)
                    have e168 : n_167 0 = nI kc0 := by rw [en_167, pk_un (by omega)]; exact e158
                    have e169 : n_167 2 = nI kc2 := by rw [en_167, pk_un (by omega)]; exact e159
                    have e170 : n_167 7 = nI kc7 := by rw [en_167, pk_un (by omega)]; exact e160
                    have e171 : n_167 8 = nI kc8 := by rw [en_167, pk_un (by omega)]; exact e161
                    have e172 : n_167 (14 * k3 + 119) = nI kc8 := by rw [en_167, pk_un (by omega)]; exact e162
                    have e173 : n_167 (14 * k3 + 121) = nI 0 := by rw [en_167, pk_un (by omega)]; exact e163
                    have e174 : n_167 3 = nI k150 := by rw [en_167, pk_un (by omega)]; exact e164
                    have e175 : n_167 (6 * i149 + 391) = (-1) := by rw [en_167, pk_un (by omega)]; exact e165
                    have e176 : n_167 (6 * i149 + 392) = (-1) := by rw [en_167, pk_un (by omega)]; exact e166
                    have e177 : n_167 (6 * i149 + 393) = (-1) := by rw [en_167, pk_us]
                    refine pm_iincX (v := nI (i149 + 1)) (loc' := [some (.ref (B + 54)), some (.int za), some (.int x7), some (.int (nI (i149 + 1))), some (.int (nI 0))]) hG dX12_die_166 rfl (nI_1 _) (by decide) (pm_c1b rfl) rfl ?_
                    refine pm_goto (tgt := 107) hG dX12_die_169 rfl ?_
                    refine pm_fg 4 (loc' := [some (.ref (B + 54)), some (.int za), some (.int x7), some (.int (nI (i149 + 1))), none]) rfl ?_
                    exact ih149 I149 A149 n_167 (i149 + 1) hnn_167 ksn_167 hrn_167 (e168.trans (congrArg nI (by omega))) (e169.trans (congrArg nI (by omega))) (e170.trans (congrArg nI (by omega))) (e171.trans (congrArg nI (by omega))) e172 e173 (by omega) (by omega)
              · refine pm_top (v := nI k153) ek153 ?_
                refine pm_iloadn hG dX12_die_123 rfl ?_
                refine pm_top (v := nI k3) ek3 ?_
                refine pm_icmpN_ne (tgt := 131) hG dX12_die_124 rfl (by omega) (by omega) (fun c178 => ?_) (fun c178 => ?_)
                · refine pm_iconst (v := nI 0) hG dX12_die_131 (by decide) ?_
                  refine pm_istoreXi (loc' := [some (.ref (B + 54)), some (.int za), some (.int x7), some (.int (nI i149)), some (.int (nI 0))]) hG dX12_die_132 (by decide) (pm_c1b rfl) rfl ?_
                  refine pm_iloadi hG dX12_die_134 rfl ?_
                  refine pm_ifN_eq (tgt := 146) hG dX12_die_136 rfl (by omega) (fun _ => ?_) (fun q => absurd q (by omega))
                  refine pm_iloadi hG dX12_die_146 rfl ?_
                  refine pm_ifN_ne (tgt := 161) hG dX12_die_148 rfl (by omega) (fun q => absurd q (by omega)) (fun _ => ?_)
                  refine pm_aloadn hG dX12_die_151 rfl ?_
                  refine pm_iloadn hG dX12_die_152 rfl ?_
                  refine pm_iconst (v := nI 2) hG dX12_die_153 (by decide) ?_
                  refine pm_callV (As := [.int (nI i149), .int (nI 2)]) (rest := []) hG hR dX12_die_154 (lkX12_110 _ rfl) okV_X12_its rfl rfl (m_its (d := 3) (e := 6 * i149 + 392) (by omega) (by omega) (by omega)) rfl rfl hdd (Nat.le_refl _) (Nat.le_refl _) (by decide) (pm_ki (fun v179 σ' cnt' hq => ?_))
                  obtain ⟨rfl, rfl, rfl⟩ := hq
                  rcases KI.opt hnn_149 (show kd (6 * i149 + 392) = (2, 20, false) from (kd_W (k := i149) (c := 2) (by omega) (by omega) (by decide))) with ek180 | ⟨k180, hk180, ek180⟩
                  · refine pm_top (v := (-1)) ek180 ?_
                    refine pm_iloadn hG dX12_die_157 rfl ?_
                    refine pm_top (v := nI k3) ek3 ?_
                    refine pm_icmp_ne (tgt := 166) hG dX12_die_158 rfl (fun _ => ?_) (fun q => absurd q ((fun q => nI_m1 (by omega) q.symm)))
                    refine pm_iincX (v := nI (i149 + 1)) (loc' := [some (.ref (B + 54)), some (.int za), some (.int x7), some (.int (nI (i149 + 1))), some (.int (nI 0))]) hG dX12_die_166 rfl (nI_1 _) (by decide) (pm_c1b rfl) rfl ?_
                    refine pm_goto (tgt := 107) hG dX12_die_169 rfl ?_
                    refine pm_fg 4 (loc' := [some (.ref (B + 54)), some (.int za), some (.int x7), some (.int (nI (i149 + 1))), none]) rfl ?_
                    exact ih149 I149 A149 n_149 (i149 + 1) hnn_149 ksn_149 hrn_149 (kc149_0.trans (congrArg nI (by omega))) (kc149_2.trans (congrArg nI (by omega))) (kc149_7.trans (congrArg nI (by omega))) (kc149_8.trans (congrArg nI (by omega))) kt149_7 kt149_8 (by omega) (by omega)
                  · refine pm_top (v := nI k180) ek180 ?_
                    refine pm_iloadn hG dX12_die_157 rfl ?_
                    refine pm_top (v := nI k3) ek3 ?_
                    refine pm_icmpN_ne (tgt := 166) hG dX12_die_158 rfl (by omega) (by omega) (fun c181 => ?_) (fun c181 => ?_)
                    · refine pm_iincX (v := nI (i149 + 1)) (loc' := [some (.ref (B + 54)), some (.int za), some (.int x7), some (.int (nI (i149 + 1))), some (.int (nI 0))]) hG dX12_die_166 rfl (nI_1 _) (by decide) (pm_c1b rfl) rfl ?_
                      refine pm_goto (tgt := 107) hG dX12_die_169 rfl ?_
                      refine pm_fg 4 (loc' := [some (.ref (B + 54)), some (.int za), some (.int x7), some (.int (nI (i149 + 1))), none]) rfl ?_
                      exact ih149 I149 A149 n_149 (i149 + 1) hnn_149 ksn_149 hrn_149 (kc149_0.trans (congrArg nI (by omega))) (kc149_2.trans (congrArg nI (by omega))) (kc149_7.trans (congrArg nI (by omega))) (kc149_8.trans (congrArg nI (by omega))) kt149_7 kt149_8 (by omega) (by omega)
                    · refine pm_aloadn hG dX12_die_161 rfl ?_
                      refine pm_iloadn hG dX12_die_162 rfl ?_
                      refine pm_callV (As := [.int (nI i149)]) (rest := []) hG hR dX12_die_163 (lkX12_116 _ rfl) okV_X12_comesBack rfl rfl (m_comesBack (d := 3) (e := 6 * i149 + 392) (e2 := 6 * i149 + 393) (by decide) (by omega) (by omega) (by omega)) rfl rfl hdd (Nat.le_refl _) (Nat.le_refl _) (by decide) (pm_kv (fun σ' cnt' hq => ?_))
                      obtain ⟨rfl, rfl⟩ := hq
                      obtain ⟨n_182, en_182⟩ : ∃ f : Nat → Int32, f = upd n_149 (6 * i149 + 392) (-1) := ⟨_, rfl⟩
                      rw [← en_182]
                      have hnn_182 := KI.w en_182 hnn_149 (okv_m (show kd (6 * i149 + 392) = (2, 20, false) from (kd_W (k := i149) (c := 2) (by omega) (by omega) (by decide))))
                      have hrn_182 := NRx.w en_182 hrn_149 (by rw [(show kd (6 * i149 + 392) = (2, 20, false) from (kd_W (k := i149) (c := 2) (by omega) (by omega) (by decide)))])
                      have ksn_182 := KSs.w (a := 14 * k3 + 119) (b := 14 * k3 + 121) en_182 ksn_149 (by unfold tS; omega)
                      have e183 : n_182 0 = nI kc0 := by rw [en_182, pk_un (by omega)]; exact kc149_0
                      have e184 : n_182 2 = nI kc2 := by rw [en_182, pk_un (by omega)]; exact kc149_2
                      have e185 : n_182 7 = nI kc7 := by rw [en_182, pk_un (by omega)]; exact kc149_7
                      have e186 : n_182 8 = nI kc8 := by rw [en_182, pk_un (by omega)]; exact kc149_8
                      have e187 : n_182 (14 * k3 + 119) = nI kc8 := by rw [en_182, pk_un (by omega)]; exact kt149_7
                      have e188 : n_182 (14 * k3 + 121) = nI 0 := by rw [en_182, pk_un (by omega)]; exact kt149_8
                      have e189 : n_182 3 = nI k150 := by rw [en_182, pk_un (by omega)]; exact ek150
                      have e190 : n_182 (6 * i149 + 391) = nI k153 := by rw [en_182, pk_un (by omega)]; exact ek153
                      have e191 : n_182 (6 * i149 + 392) = (-1) := by rw [en_182, pk_us]
                      obtain ⟨n_192, en_192⟩ : ∃ f : Nat → Int32, f = upd n_182 (6 * i149 + 393) (-1) := ⟨_, rfl⟩
                      rw [← en_192]
                      have hnn_192 := KI.w en_192 hnn_182 (okv_f (show kd (6 * i149 + 393) = (0, 0, false) from (kd_W (k := i149) (c := 3) (by omega) (by omega) (by decide))))
                      have hrn_192 := NRx.w en_192 hrn_182 (by rw [(show kd (6 * i149 + 393) = (0, 0, false) from (kd_W (k := i149) (c := 3) (by omega) (by omega) (by decide)))])
                      have ksn_192 := KSs.w (a := 14 * k3 + 119) (b := 14 * k3 + 121) en_192 ksn_182 (by unfold tS; omega)
                      have e193 : n_192 0 = nI kc0 := by rw [en_192, pk_un (by omega)]; exact e183
                      have e194 : n_192 2 = nI kc2 := by rw [en_192, pk_un (by omega)]; exact e184
                      have e195 : n_192 7 = nI kc7 := by rw [en_192, pk_un (by omega)]; exact e185
                      have e196 : n_192 8 = nI kc8 := by rw [en_192, pk_un (by omega)]; exact e186
                      have e197 : n_192 (14 * k3 + 119) = nI kc8 := by rw [en_192, pk_un (by omega)]; exact e187
                      have e198 : n_192 (14 * k3 + 121) = nI 0 := by rw [en_192, pk_un (by omega)]; exact e188
                      have e199 : n_192 3 = nI k150 := by rw [en_192, pk_un (by omega)]; exact e189
                      have e200 : n_192 (6 * i149 + 391) = nI k153 := by rw [en_192, pk_un (by omega)]; exact e190
                      have e201 : n_192 (6 * i149 + 392) = (-1) := by rw [en_192, pk_un (by omega)]; exact e191
                      have e202 : n_192 (6 * i149 + 393) = (-1) := by rw [en_192, pk_us]
                      refine pm_iincX (v := nI (i149 + 1)) (loc' := [some (.ref (B + 54)), some (.int za), some (.int x7), some (.int (nI (i149 + 1))), some (.int (nI 0))]) hG dX12_die_166 rfl (nI_1 _) (by decide) (pm_c1b rfl) rfl ?_
                      refine pm_goto (tgt := 107) hG dX12_die_169 rfl ?_
                      refine pm_fg 4 (loc' := [some (.ref (B + 54)), some (.int za), some (.int x7), some (.int (nI (i149 + 1))), none]) rfl ?_
                      exact ih149 I149 A149 n_192 (i149 + 1) hnn_192 ksn_192 hrn_192 (e193.trans (congrArg nI (by omega))) (e194.trans (congrArg nI (by omega))) (e195.trans (congrArg nI (by omega))) (e196.trans (congrArg nI (by omega))) e197 e198 (by omega) (by omega)
                · refine pm_iconst (v := nI 1) hG dX12_die_127 (by decide) ?_
                  refine pm_goto (tgt := 132) hG dX12_die_128 rfl ?_
                  refine pm_istoreXi (loc' := [some (.ref (B + 54)), some (.int za), some (.int x7), some (.int (nI i149)), some (.int (nI 1))]) hG dX12_die_132 (by decide) (pm_c1b rfl) rfl ?_
                  refine pm_iloadi hG dX12_die_134 rfl ?_
                  refine pm_ifN_eq (tgt := 146) hG dX12_die_136 rfl (by omega) (fun q => absurd q (by omega)) (fun _ => ?_)
                  refine pm_aloadn hG dX12_die_139 rfl ?_
                  refine pm_iloadn hG dX12_die_140 rfl ?_
                  refine pm_iconst (v := nI 1) hG dX12_die_141 (by decide) ?_
                  refine pm_iconst (v := (-1)) hG dX12_die_142 (by decide) ?_
                  refine pm_callV (As := [.int (nI i149), .int (nI 1), .int (-1)]) (rest := []) hG hR dX12_die_143 (lkX12_113 _ rfl) okV_X12_makes rfl rfl (m_makes (d := 3) (e := 6 * i149 + 391) (by omega) (by omega) (by omega)) rfl rfl hdd (Nat.le_refl _) (Nat.le_refl _) (by decide) (pm_kv (fun σ' cnt' hq => ?_))
                  obtain ⟨rfl, rfl⟩ := hq
                  obtain ⟨n_203, en_203⟩ : ∃ f : Nat → Int32, f = upd n_149 (6 * i149 + 391) (-1) := ⟨_, rfl⟩
                  rw [← en_203]
                  have hnn_203 := KI.w en_203 hnn_149 (okv_m (show kd (6 * i149 + 391) = (2, 20, false) from (kd_W (k := i149) (c := 1) (by omega) (by omega) (by decide))))
                  have hrn_203 := NRx.w en_203 hrn_149 (by rw [(show kd (6 * i149 + 391) = (2, 20, false) from (kd_W (k := i149) (c := 1) (by omega) (by omega) (by decide)))])
                  have ksn_203 := KSs.w (a := 14 * k3 + 119) (b := 14 * k3 + 121) en_203 ksn_149 (by unfold tS; omega)
                  have e204 : n_203 0 = nI kc0 := by rw [en_203, pk_un (by omega)]; exact kc149_0
                  have e205 : n_203 2 = nI kc2 := by rw [en_203, pk_un (by omega)]; exact kc149_2
                  have e206 : n_203 7 = nI kc7 := by rw [en_203, pk_un (by omega)]; exact kc149_7
                  have e207 : n_203 8 = nI kc8 := by rw [en_203, pk_un (by omega)]; exact kc149_8
                  have e208 : n_203 (14 * k3 + 119) = nI kc8 := by rw [en_203, pk_un (by omega)]; exact kt149_7
                  have e209 : n_203 (14 * k3 + 121) = nI 0 := by rw [en_203, pk_un (by omega)]; exact kt149_8
                  have e210 : n_203 3 = nI k150 := by rw [en_203, pk_un (by omega)]; exact ek150
                  have e211 : n_203 (6 * i149 + 391) = (-1) := by rw [en_203, pk_us]
                  refine pm_iloadi hG dX12_die_146 rfl ?_
                  refine pm_ifN_ne (tgt := 161) hG dX12_die_148 rfl (by omega) (fun _ => ?_) (fun q => absurd q (by omega))
                  refine pm_aloadn hG dX12_die_161 rfl ?_
                  refine pm_iloadn hG dX12_die_162 rfl ?_
                  refine pm_callV (As := [.int (nI i149)]) (rest := []) hG hR dX12_die_163 (lkX12_116 _ rfl) okV_X12_comesBack rfl rfl (m_comesBack (d := 3) (e := 6 * i149 + 392) (e2 := 6 * i149 + 393) (by decide) (by omega) (by omega) (by omega)) rfl rfl hdd (Nat.le_refl _) (Nat.le_refl _) (by decide) (pm_kv (fun σ' cnt' hq => ?_))
                  obtain ⟨rfl, rfl⟩ := hq
                  obtain ⟨n_212, en_212⟩ : ∃ f : Nat → Int32, f = upd n_203 (6 * i149 + 392) (-1) := ⟨_, rfl⟩
                  rw [← en_212]
                  have hnn_212 := KI.w en_212 hnn_203 (okv_m (show kd (6 * i149 + 392) = (2, 20, false) from (kd_W (k := i149) (c := 2) (by omega) (by omega) (by decide))))
                  have hrn_212 := NRx.w en_212 hrn_203 (by rw [(show kd (6 * i149 + 392) = (2, 20, false) from (kd_W (k := i149) (c := 2) (by omega) (by omega) (by decide)))])
                  have ksn_212 := KSs.w (a := 14 * k3 + 119) (b := 14 * k3 + 121) en_212 ksn_203 (by unfold tS; omega)
                  have e213 : n_212 0 = nI kc0 := by rw [en_212, pk_un (by omega)]; exact e204
                  have e214 : n_212 2 = nI kc2 := by rw [en_212, pk_un (by omega)]; exact e205
                  have e215 : n_212 7 = nI kc7 := by rw [en_212, pk_un (by omega)]; exact e206
                  have e216 : n_212 8 = nI kc8 := by rw [en_212, pk_un (by omega)]; exact e207
                  have e217 : n_212 (14 * k3 + 119) = nI kc8 := by rw [en_212, pk_un (by omega)]; exact e208
                  have e218 : n_212 (14 * k3 + 121) = nI 0 := by rw [en_212, pk_un (by omega)]; exact e209
                  have e219 : n_212 3 = nI k150 := by rw [en_212, pk_un (by omega)]; exact e210
                  have e220 : n_212 (6 * i149 + 391) = (-1) := by rw [en_212, pk_un (by omega)]; exact e211
                  have e221 : n_212 (6 * i149 + 392) = (-1) := by rw [en_212, pk_us]
                  obtain ⟨n_222, en_222⟩ : ∃ f : Nat → Int32, f = upd n_212 (6 * i149 + 393) (-1) := ⟨_, rfl⟩
                  rw [← en_222]
                  have hnn_222 := KI.w en_222 hnn_212 (okv_f (show kd (6 * i149 + 393) = (0, 0, false) from (kd_W (k := i149) (c := 3) (by omega) (by omega) (by decide))))
                  have hrn_222 := NRx.w en_222 hrn_212 (by rw [(show kd (6 * i149 + 393) = (0, 0, false) from (kd_W (k := i149) (c := 3) (by omega) (by omega) (by decide)))])
                  have ksn_222 := KSs.w (a := 14 * k3 + 119) (b := 14 * k3 + 121) en_222 ksn_212 (by unfold tS; omega)
                  have e223 : n_222 0 = nI kc0 := by rw [en_222, pk_un (by omega)]; exact e213
                  have e224 : n_222 2 = nI kc2 := by rw [en_222, pk_un (by omega)]; exact e214
                  have e225 : n_222 7 = nI kc7 := by rw [en_222, pk_un (by omega)]; exact e215
                  have e226 : n_222 8 = nI kc8 := by rw [en_222, pk_un (by omega)]; exact e216
                  have e227 : n_222 (14 * k3 + 119) = nI kc8 := by rw [en_222, pk_un (by omega)]; exact e217
                  have e228 : n_222 (14 * k3 + 121) = nI 0 := by rw [en_222, pk_un (by omega)]; exact e218
                  have e229 : n_222 3 = nI k150 := by rw [en_222, pk_un (by omega)]; exact e219
                  have e230 : n_222 (6 * i149 + 391) = (-1) := by rw [en_222, pk_un (by omega)]; exact e220
                  have e231 : n_222 (6 * i149 + 392) = (-1) := by rw [en_222, pk_un (by omega)]; exact e221
                  have e232 : n_222 (6 * i149 + 393) = (-1) := by rw [en_222, pk_us]
                  refine pm_iincX (v := nI (i149 + 1)) (loc' := [some (.ref (B + 54)), some (.int za), some (.int x7), some (.int (nI (i149 + 1))), some (.int (nI 1))]) hG dX12_die_166 rfl (nI_1 _) (by decide) (pm_c1b rfl) rfl ?_
                  refine pm_goto (tgt := 107) hG dX12_die_169 rfl ?_
                  refine pm_fg 4 (loc' := [some (.ref (B + 54)), some (.int za), some (.int x7), some (.int (nI (i149 + 1))), none]) rfl ?_
                  exact ih149 I149 A149 n_222 (i149 + 1) hnn_222 ksn_222 hrn_222 (e223.trans (congrArg nI (by omega))) (e224.trans (congrArg nI (by omega))) (e225.trans (congrArg nI (by omega))) (e226.trans (congrArg nI (by omega))) e227 e228 (by omega) (by omega)
        exact loop107_149 _ I9 A9 n_142 0 hn142 ks_144 hr142 (e145.trans (congrArg nI (by omega))) (e146.trans (congrArg nI (by omega))) (e147.trans (congrArg nI (by omega))) (e148.trans (congrArg nI (by omega))) e143 hx142.1 (by omega) (Nat.lt_succ_self _)
    · refine pm_callV (As := [.int (nI k3)]) (rest := []) hG hR dX12_die_16 (lkX12_101 _ rfl) okV_X12_lives rfl rfl (m_lives0 (d := 3) (by decide) (by omega) (by omega : 14 * k3 + 119 = 14 * k3 + 119) ek4 (by omega)) rfl rfl hdd (Nat.le_refl _) (Nat.le_refl _) (by decide) (pm_ki (fun v233 σ' cnt' hq => ?_))
      obtain ⟨rfl, rfl, rfl⟩ := hq
      refine pm_ifN_ne (tgt := 28) hG dX12_die_19 rfl (by omega) (fun q => absurd q (by omega)) (fun _ => ?_)
      refine pm_aloadn hG dX12_die_22 rfl ?_
      refine pm_iconst (v := nI 3) hG dX12_die_23 (by decide) ?_
      refine pm_callV (As := [.int (nI 3)]) (rest := []) hG hR dX12_die_24 (lkX12_80 _ rfl) okV_X12_finds rfl rfl (m_finds (d := 3) (by decide) hn hz (by omega)) rfl rfl hdd (Nat.le_refl _) (Nat.le_refl _) (by decide) (pm_ki (fun v234 σ' cnt' hq => ?_))
      obtain ⟨⟨I235, A235, rfl⟩, rfl, fv234⟩ := hq
      exact pm_iret hG hF dX12_die_27 rfl (Nat.le_refl _) (Nat.le_refl _) ⟨_, rfl, ⟨_, _, _, rfl, hn, hr, ekc0.trans ekc0.symm, ekc2.trans ekc2.symm, ekc7.trans ekc7.symm, ekc8.trans ekc8.symm, tX_n (fun q => lv_n ek3 (by omega) ek4 (by omega) q.2)⟩, rfl⟩
  · refine pm_ifN_ne (tgt := 14) hG dX12_die_5 rfl (by omega) (fun q => absurd q (by omega)) (fun _ => ?_)
    refine pm_aloadn hG dX12_die_8 rfl ?_
    refine pm_iconst (v := nI 1) hG dX12_die_9 (by decide) ?_
    refine pm_callV (As := [.int (nI 1)]) (rest := []) hG hR dX12_die_10 (lkX12_80 _ rfl) okV_X12_finds rfl rfl (m_finds (d := 3) (by decide) hn hz (by omega)) rfl rfl hdd (Nat.le_refl _) (Nat.le_refl _) (by decide) (pm_ki (fun v236 σ' cnt' hq => ?_))
    obtain ⟨⟨I237, A237, rfl⟩, rfl, fv236⟩ := hq
    exact pm_iret hG hF dX12_die_13 rfl (Nat.le_refl _) (Nat.le_refl _) ⟨_, rfl, ⟨_, _, _, rfl, hn, hr, ekc0.trans ekc0.symm, ekc2.trans ekc2.symm, ekc7.trans ekc7.symm, ekc8.trans ekc8.symm, tX_n (fun q => q.1 (nt_out ekc2 (by omega) ntk3))⟩, rfl⟩
