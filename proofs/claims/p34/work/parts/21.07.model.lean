set_option maxRecDepth 100000 in
set_option maxHeartbeats 4000000 in
theorem m_days {d B cnt p0 t0 : Nat} {σ : pm_S} {I : Nat → Int32} {A : Nat → Nat → Int32} {n k z : Nat → Int32} {ac wt pl im : Int32} {za : Int32} (hdd : 3 ≤ d) (hn : KI n) (hr : NR n) (hz : SZ z)  : pm_met mX12_days d 0 0 B [.ref (B + 54), .int za] cnt (pm_mid σ (md_L B I A n k z ac wt pl (nI p0) (nI t0) im)) (pm_Qi (fun v σ' cnt' => (∃ (I' : Nat → Int32) (A' : Nat → Nat → Int32) (n' : Nat → Int32), σ' = pm_mid σ (md_L B I' A' n' k z ac wt pl (nI p0) (nI t0) im) ∧ KI n' ∧ NR n' ∧ n' 0 = n 0 ∧ n' 2 = n 2 ∧ KS n' n ∧ v = vD (n 8) za ∧ n' 8 = tD (n 8) za) ∧ cnt = cnt')) := by
  obtain ⟨kc0, hkc0, ekc0⟩ := KI.nat hn (show kd 0 = (1, 11, true) by decide)
  obtain ⟨kc2, hkc2, ekc2⟩ := KI.nat hn (show kd 2 = (1, 21, true) by decide)
  obtain ⟨kc8, hkc8, ekc8⟩ := KI.nat hn (show kd 8 = (1, 2001, false) by decide)
  refine pm_enter 2 (by decide) (Nat.le_of_ble_eq_true rfl) rfl (fun G hG hR hF => ?_)
  refine pm_iloadn hG dX12_days_0 rfl ?_
  refine pm_iconst (v := nI 1) hG dX12_days_1 (by decide) ?_
  refine pm_sipush (v := nI 400) hG dX12_days_2 (by decide) ?_
  refine pm_callS (As := [.int za, .int (nI 1), .int (nI 400)]) (rest := []) hG hR dX12_days_5 (lkX12_68 _ rfl) okS_X12_in (m_in (d := 2)) rfl rfl hdd (Nat.le_refl _) (Nat.le_refl _) (by decide) (pm_ki (fun v1 σ' cnt' hq => ?_))
  obtain ⟨hq, rfl, rfl⟩ := hq
  rcases hq with ⟨rfl, ac2, bc2⟩ | ⟨rfl, c2⟩
  · obtain ⟨k3, hk3, ek3⟩ := in_nat (by omega) (by omega) ac2 bc2
    refine pm_ifN_eq (tgt := 26) hG dX12_days_8 rfl (by omega) (fun q => absurd q (by omega)) (fun _ => ?_)
    refine pm_aloadn hG dX12_days_11 rfl ?_
    refine pm_getf hG dX12_days_12 (flX12_7 _ rfl) rfl rfl ?_
    refine pm_bipush (v := nI 8) hG dX12_days_15 (by decide) ?_
    refine pm_ialdN hG dX12_days_17 rfl (by decide) (by omega) ?_
    refine pm_top (v := nI kc8) ekc8 ?_
    refine pm_iloadn hG dX12_days_18 rfl ?_
    refine pm_top (v := nI k3) ek3 ?_
    refine pm_iaddN (c := k3 + kc8) hG dX12_days_19 (by omega) ?_
    refine pm_sipush (v := nI 2000) hG dX12_days_20 (by decide) ?_
    refine pm_icmpN_le (tgt := 32) hG dX12_days_23 rfl (by omega) (by omega) (fun c4 => ?_) (fun c4 => ?_)
    · refine pm_iconst (v := nI 0) hG dX12_days_32 (by decide) ?_
      refine pm_istoreXn (loc' := [some (.ref (B + 54)), some (.int za), some (.int (nI 0)), none]) hG dX12_days_33 (by decide) (pm_c1b rfl) rfl ?_
      have loop34_5 : ∀ (m5 : Nat) (I5 : Nat → Int32) (A5 : Nat → Nat → Int32) (n_5 : Nat → Int32) (i5 : Nat), KI n_5 → KS n_5 n → NRx 40 n_5 → n_5 0 = nI kc0 → n_5 2 = nI kc2 → n_5 8 = nI (i5 + kc8) → i5 ≤ 400 → i5 ≤ k3 → 400 - i5 < m5 → pm_wp mX12_days G B 34 [some (.ref (B + 54)), some (.int za), some (.int (nI i5)), none] [] 0 0 cnt (pm_mid σ (md_L B I5 A5 n_5 k z ac wt pl (nI p0) (nI t0) im)) := by
        intro m5
        induction m5 with
        | zero => intro I5 A5 n_5 i5 _ _ _ _ _ _ _ _ hm; exact absurd hm (Nat.not_lt_zero _)
        | succ m5 ih5 =>
          intro I5 A5 n_5 i5 hnn_5 ksn_5 hrn_5 kc5_0 kc5_2 kc5_8 hi5 lek5 hm5
          refine pm_iloadn hG dX12_days_34 rfl ?_
          refine pm_iloadn hG dX12_days_35 rfl ?_
          refine pm_top (v := nI k3) ek3 ?_
          refine pm_icmpN_ge (tgt := 185) hG dX12_days_36 rfl (by omega) (by omega) (fun c6 => ?_) (fun c6 => ?_)
          · refine pm_aloadn hG dX12_days_185 rfl ?_
            refine pm_getf hG dX12_days_186 (flX12_7 _ rfl) rfl rfl ?_
            refine pm_bipush (v := nI 8) hG dX12_days_189 (by decide) ?_
            refine pm_ialdN hG dX12_days_191 rfl (by decide) (by omega) ?_
            refine pm_top (v := nI (i5 + kc8)) kc5_8 ?_
            exact pm_iret hG hF dX12_days_192 rfl (Nat.le_refl _) (Nat.le_refl _) ⟨_, rfl, ⟨_, _, _, rfl, hnn_5, hrn_5, kc5_0.trans ekc0.symm, kc5_2.trans ekc2.symm, ksn_5, ⟨(vD_ok ekc8 ek3 (by omega) (by omega) (by omega) (by omega)).1, kc5_8.trans (vD_ok ekc8 ek3 (by omega) (by omega) (by omega) (by omega)).2⟩⟩, rfl⟩
          · refine pm_aloadn hG dX12_days_39 rfl ?_
            refine pm_getf hG dX12_days_40 (flX12_7 _ rfl) rfl rfl ?_
            refine pm_bipush (v := nI 8) hG dX12_days_43 (by decide) ?_
            refine pm_dup2 hG dX12_days_45 rfl rfl ?_
            refine pm_ialdN hG dX12_days_46 rfl (by decide) (by omega) ?_
            refine pm_top (v := nI (i5 + kc8)) kc5_8 ?_
            refine pm_iconst (v := nI 1) hG dX12_days_47 (by decide) ?_
            refine pm_iaddN (c := i5 + kc8 + 1) hG dX12_days_48 (by omega) ?_
            refine pm_iastN hG dX12_days_49 rfl (by decide) (by omega) ?_
            refine mdn_now (fun n_7 en_7 => ?_)
            have hnn_7 := KI.w en_7 hnn_5 (okv_n (show kd 8 = (1, 2001, false) by decide) (by omega))
            have hrn_7 := NRx.w en_7 hrn_5 (by rw [(show kd 8 = (1, 2001, false) by decide)])
            have ksn_7 := KS.w en_7 ksn_5 (by unfold tS; omega)
            have e8 : n_7 0 = nI kc0 := by rw [en_7, pk_un (by omega)]; exact kc5_0
            have e9 : n_7 2 = nI kc2 := by rw [en_7, pk_un (by omega)]; exact kc5_2
            have e10 : n_7 8 = nI (i5 + kc8 + 1) := by rw [en_7, pk_us]
            refine pm_iconst (v := nI 0) hG dX12_days_50 (by decide) ?_
            refine pm_istoreXn (loc' := [some (.ref (B + 54)), some (.int za), some (.int (nI i5)), some (.int (nI 0))]) hG dX12_days_51 (by decide) (pm_c1b rfl) rfl ?_
            have loop52_11 : ∀ (m11 : Nat) (I11 : Nat → Int32) (A11 : Nat → Nat → Int32) (n_11 : Nat → Int32) (i11 : Nat), KI n_11 → KS n_11 n → NRx 40 n_11 → n_11 8 = nI (i5 + kc8 + 1) → n_11 0 = nI kc0 → n_11 2 = nI kc2 → i11 ≤ 20 → 20 - i11 < m11 → pm_wp mX12_days G B 52 [some (.ref (B + 54)), some (.int za), some (.int (nI i5)), some (.int (nI i11))] [] 0 0 cnt (pm_mid σ (md_L B I11 A11 n_11 k z ac wt pl (nI p0) (nI t0) im)) := by
              intro m11
              induction m11 with
              | zero => intro I11 A11 n_11 i11 _ _ _ _ _ _ _ hm; exact absurd hm (Nat.not_lt_zero _)
              | succ m11 ih11 =>
                intro I11 A11 n_11 i11 hnn_11 ksn_11 hrn_11 kc11_8 kc11_0 kc11_2 hi11 hm11
                refine pm_iloadn hG dX12_days_52 rfl ?_
                refine pm_aloadn hG dX12_days_53 rfl ?_
                refine pm_getf hG dX12_days_54 (flX12_7 _ rfl) rfl rfl ?_
                refine pm_iconst (v := nI 2) hG dX12_days_57 (by decide) ?_
                refine pm_ialdN hG dX12_days_58 rfl (by decide) (by omega) ?_
                refine pm_top (v := nI kc2) kc11_2 ?_
                refine pm_icmpN_ge (tgt := 114) hG dX12_days_59 rfl (by omega) (by omega) (fun c12 => ?_) (fun c12 => ?_)
                · refine pm_iconst (v := nI 0) hG dX12_days_114 (by decide) ?_
                  refine pm_istoreXn (loc' := [some (.ref (B + 54)), some (.int za), some (.int (nI i5)), some (.int (nI 0))]) hG dX12_days_115 (by decide) (pm_c1b rfl) rfl ?_
                  have loop116_13 : ∀ (m13 : Nat) (I13 : Nat → Int32) (A13 : Nat → Nat → Int32) (n_13 : Nat → Int32) (i13 : Nat), KI n_13 → KS n_13 n → NRx 40 n_13 → n_13 8 = nI (i5 + kc8 + 1) → n_13 0 = nI kc0 → n_13 2 = nI kc2 → i13 ≤ 20 → 20 - i13 < m13 → pm_wp mX12_days G B 116 [some (.ref (B + 54)), some (.int za), some (.int (nI i5)), some (.int (nI i13))] [] 0 0 cnt (pm_mid σ (md_L B I13 A13 n_13 k z ac wt pl (nI p0) (nI t0) im)) := by
                    intro m13
                    induction m13 with
                    | zero => intro I13 A13 n_13 i13 _ _ _ _ _ _ _ hm; exact absurd hm (Nat.not_lt_zero _)
                    | succ m13 ih13 =>
                      intro I13 A13 n_13 i13 hnn_13 ksn_13 hrn_13 kc13_8 kc13_0 kc13_2 hi13 hm13
                      refine pm_iloadn hG dX12_days_116 rfl ?_
                      refine pm_aloadn hG dX12_days_117 rfl ?_
                      refine pm_getf hG dX12_days_118 (flX12_7 _ rfl) rfl rfl ?_
                      refine pm_iconst (v := nI 3) hG dX12_days_121 (by decide) ?_
                      refine pm_ialdN hG dX12_days_122 rfl (by decide) (by omega) ?_
                      obtain ⟨k14, hk14, ek14⟩ := KI.nat hnn_13 (show kd 3 = (1, 21, false) by decide)
                      refine pm_top (v := nI k14) ek14 ?_
                      refine pm_icmpN_ge (tgt := 162) hG dX12_days_123 rfl (by omega) (by omega) (fun c15 => ?_) (fun c15 => ?_)
                      · refine pm_aloadn hG dX12_days_162 rfl ?_
                        refine pm_getf hG dX12_days_163 (flX12_7 _ rfl) rfl rfl ?_
                        refine pm_bipush (v := nI 8) hG dX12_days_166 (by decide) ?_
                        refine pm_ialdN hG dX12_days_168 rfl (by decide) (by omega) ?_
                        refine pm_top (v := nI (i5 + kc8 + 1)) kc13_8 ?_
                        refine pm_bipush (v := nI 90) hG dX12_days_169 (by decide) ?_
                        refine pm_iremM hG dX12_days_171 (by omega) (by decide) (by decide) ?_
                        refine pm_ifN_ne (tgt := 179) hG dX12_days_172 rfl (by omega) (fun c16 => ?_) (fun c16 => ?_)
                        · refine pm_iincX (v := nI (i5 + 1)) (loc' := [some (.ref (B + 54)), some (.int za), some (.int (nI (i5 + 1))), some (.int (nI i13))]) hG dX12_days_179 rfl (nI_1 _) (by decide) (pm_c1b rfl) rfl ?_
                          refine pm_goto (tgt := 34) hG dX12_days_182 rfl ?_
                          refine pm_fg 3 (loc' := [some (.ref (B + 54)), some (.int za), some (.int (nI (i5 + 1))), none]) rfl ?_
                          exact ih5 I13 A13 n_13 (i5 + 1) hnn_13 ksn_13 hrn_13 (kc13_0.trans (congrArg nI (by omega))) (kc13_2.trans (congrArg nI (by omega))) (kc13_8.trans (congrArg nI (by omega))) (by omega) (by omega) (by omega)
                        · refine pm_aloadn hG dX12_days_175 rfl ?_
                          refine pm_callV (As := []) (rest := []) hG hR dX12_days_176 (lkX12_236 _ rfl) okV_X12_quarter rfl rfl (m_quarter (d := 2) (by decide) hnn_13 hrn_13 hz) rfl rfl hdd (Nat.le_refl _) (Nat.le_refl _) (by decide) (pm_kv (fun σ' cnt' hq => ?_))
                          obtain ⟨⟨n_18, rfl, hn18, hr18, hc18_0, hc18_2, hc18_8, hks18⟩, rfl⟩ := hq
                          have e19 : n_18 0 = nI kc0 := hc18_0.trans kc13_0
                          have e20 : n_18 2 = nI kc2 := hc18_2.trans kc13_2
                          have e21 : n_18 8 = nI (i5 + kc8 + 1) := hc18_8.trans kc13_8
                          refine pm_iincX (v := nI (i5 + 1)) (loc' := [some (.ref (B + 54)), some (.int za), some (.int (nI (i5 + 1))), some (.int (nI i13))]) hG dX12_days_179 rfl (nI_1 _) (by decide) (pm_c1b rfl) rfl ?_
                          refine pm_goto (tgt := 34) hG dX12_days_182 rfl ?_
                          refine pm_fg 3 (loc' := [some (.ref (B + 54)), some (.int za), some (.int (nI (i5 + 1))), none]) rfl ?_
                          exact ih5 I13 A13 n_18 (i5 + 1) hn18 (hks18.tr ksn_13) hr18 (e19.trans (congrArg nI (by omega))) (e20.trans (congrArg nI (by omega))) (e21.trans (congrArg nI (by omega))) (by omega) (by omega) (by omega)
                      · refine pm_aloadn hG dX12_days_126 rfl ?_
                        refine pm_iloadn hG dX12_days_127 rfl ?_
                        refine pm_iconst (v := nI 2) hG dX12_days_128 (by decide) ?_
                        refine pm_callV (As := [.int (nI i13), .int (nI 2)]) (rest := []) hG hR dX12_days_129 (lkX12_110 _ rfl) okV_X12_its rfl rfl (m_its (d := 2) (e := 6 * i13 + 392) (by omega) (by omega) (by omega)) rfl rfl hdd (Nat.le_refl _) (Nat.le_refl _) (by decide) (pm_ki (fun v22 σ' cnt' hq => ?_))
                        obtain ⟨rfl, rfl, rfl⟩ := hq
                        rcases KI.opt hnn_13 (show kd (6 * i13 + 392) = (2, 20, false) from (kd_W (k := i13) (c := 2) (by omega) (by omega) (by decide))) with ek23 | ⟨k23, hk23, ek23⟩
                        · refine pm_top (v := (-1)) ek23 ?_
                          refine pm_if_lt (tgt := 156) hG dX12_days_132 rfl (fun _ => ?_) (fun q => absurd q (by decide))
                          refine pm_iincX (v := nI (i13 + 1)) (loc' := [some (.ref (B + 54)), some (.int za), some (.int (nI i5)), some (.int (nI (i13 + 1)))]) hG dX12_days_156 rfl (nI_1 _) (by decide) (pm_c1b rfl) rfl ?_
                          refine pm_goto (tgt := 116) hG dX12_days_159 rfl ?_
                          exact ih13 I13 A13 n_13 (i13 + 1) hnn_13 ksn_13 hrn_13 (kc13_8.trans (congrArg nI (by omega))) (kc13_0.trans (congrArg nI (by omega))) (kc13_2.trans (congrArg nI (by omega))) (by omega) (by omega)
                        · refine pm_top (v := nI k23) ek23 ?_
                          refine pm_ifN_lt hG dX12_days_132 rfl (by omega) ?_
                          refine pm_aloadn hG dX12_days_135 rfl ?_
                          refine pm_iloadn hG dX12_days_136 rfl ?_
                          refine pm_iconst (v := nI 3) hG dX12_days_137 (by decide) ?_
                          refine pm_callV (As := [.int (nI i13), .int (nI 3)]) (rest := []) hG hR dX12_days_138 (lkX12_110 _ rfl) okV_X12_its rfl rfl (m_its (d := 2) (e := 6 * i13 + 393) (by omega) (by omega) (by omega)) rfl rfl hdd (Nat.le_refl _) (Nat.le_refl _) (by decide) (pm_ki (fun v24 σ' cnt' hq => ?_))
                          obtain ⟨rfl, rfl, rfl⟩ := hq
                          refine pm_gen (fun x25 ex25 => ?_)
                          refine pm_aloadn hG dX12_days_141 rfl ?_
                          refine pm_getf hG dX12_days_142 (flX12_7 _ rfl) rfl rfl ?_
                          refine pm_bipush (v := nI 8) hG dX12_days_145 (by decide) ?_
                          refine pm_ialdN hG dX12_days_147 rfl (by decide) (by omega) ?_
                          refine pm_top (v := nI (i5 + kc8 + 1)) kc13_8 ?_
                          refine pm_icmp_ge (tgt := 156) hG dX12_days_148 rfl (fun c26 => ?_) (fun c26 => ?_)
                          · refine pm_iincX (v := nI (i13 + 1)) (loc' := [some (.ref (B + 54)), some (.int za), some (.int (nI i5)), some (.int (nI (i13 + 1)))]) hG dX12_days_156 rfl (nI_1 _) (by decide) (pm_c1b rfl) rfl ?_
                            refine pm_goto (tgt := 116) hG dX12_days_159 rfl ?_
                            exact ih13 I13 A13 n_13 (i13 + 1) hnn_13 ksn_13 hrn_13 (kc13_8.trans (congrArg nI (by omega))) (kc13_0.trans (congrArg nI (by omega))) (kc13_2.trans (congrArg nI (by omega))) (by omega) (by omega)
                          · refine pm_aloadn hG dX12_days_151 rfl ?_
                            refine pm_iloadn hG dX12_days_152 rfl ?_
                            refine pm_callV (As := [.int (nI i13)]) (rest := []) hG hR dX12_days_153 (lkX12_116 _ rfl) okV_X12_comesBack rfl rfl (m_comesBack (d := 2) (e := 6 * i13 + 392) (e2 := 6 * i13 + 393) (by decide) (by omega) (by omega) (by omega)) rfl rfl hdd (Nat.le_refl _) (Nat.le_refl _) (by decide) (pm_kv (fun σ' cnt' hq => ?_))
                            obtain ⟨rfl, rfl⟩ := hq
                            obtain ⟨n_27, en_27⟩ : ∃ f : Nat → Int32, f = upd n_13 (6 * i13 + 392) (-1) := ⟨_, rfl⟩
                            rw [← en_27]
                            have hnn_27 := KI.w en_27 hnn_13 (okv_m (show kd (6 * i13 + 392) = (2, 20, false) from (kd_W (k := i13) (c := 2) (by omega) (by omega) (by decide))))
                            have hrn_27 := NRx.w en_27 hrn_13 (by rw [(show kd (6 * i13 + 392) = (2, 20, false) from (kd_W (k := i13) (c := 2) (by omega) (by omega) (by decide)))])
                            have ksn_27 := KS.w en_27 ksn_13 (by unfold tS; omega)
                            have e28 : n_27 8 = nI (i5 + kc8 + 1) := by rw [en_27, pk_un (by omega)]; exact kc13_8
                            have e29 : n_27 0 = nI kc0 := by rw [en_27, pk_un (by omega)]; exact kc13_0
                            have e30 : n_27 2 = nI kc2 := by rw [en_27, pk_un (by omega)]; exact kc13_2
                            have e31 : n_27 3 = nI k14 := by rw [en_27, pk_un (by omega)]; exact ek14
                            have e32 : n_27 (6 * i13 + 393) = x25 := by rw [en_27, pk_un (by omega)]; exact ex25
                            have e33 : n_27 (6 * i13 + 392) = (-1) := by rw [en_27, pk_us]
                            obtain ⟨n_34, en_34⟩ : ∃ f : Nat → Int32, f = upd n_27 (6 * i13 + 393) (-1) := ⟨_, rfl⟩
                            rw [← en_34]
                            have hnn_34 := KI.w en_34 hnn_27 (okv_f (show kd (6 * i13 + 393) = (0, 0, false) from (kd_W (k := i13) (c := 3) (by omega) (by omega) (by decide))))
                            have hrn_34 := NRx.w en_34 hrn_27 (by rw [(show kd (6 * i13 + 393) = (0, 0, false) from (kd_W (k := i13) (c := 3) (by omega) (by omega) (by decide)))])
                            have ksn_34 := KS.w en_34 ksn_27 (by unfold tS; omega)
                            have e35 : n_34 8 = nI (i5 + kc8 + 1) := by rw [en_34, pk_un (by omega)]; exact e28
                            have e36 : n_34 0 = nI kc0 := by rw [en_34, pk_un (by omega)]; exact e29
                            have e37 : n_34 2 = nI kc2 := by rw [en_34, pk_un (by omega)]; exact e30
                            have e38 : n_34 3 = nI k14 := by rw [en_34, pk_un (by omega)]; exact e31
                            have e39 : n_34 (6 * i13 + 392) = (-1) := by rw [en_34, pk_un (by omega)]; exact e33
                            have e40 : n_34 (6 * i13 + 393) = (-1) := by rw [en_34, pk_us]
                            refine pm_iincX (v := nI (i13 + 1)) (loc' := [some (.ref (B + 54)), some (.int za), some (.int (nI i5)), some (.int (nI (i13 + 1)))]) hG dX12_days_156 rfl (nI_1 _) (by decide) (pm_c1b rfl) rfl ?_
                            refine pm_goto (tgt := 116) hG dX12_days_159 rfl ?_
                            exact ih13 I13 A13 n_34 (i13 + 1) hnn_34 ksn_34 hrn_34 (e35.trans (congrArg nI (by omega))) (e36.trans (congrArg nI (by omega))) (e37.trans (congrArg nI (by omega))) (by omega) (by omega)
                  exact loop116_13 _ I11 A11 n_11 0 hnn_11 ksn_11 hrn_11 (kc11_8.trans (congrArg nI (by omega))) (kc11_0.trans (congrArg nI (by omega))) (kc11_2.trans (congrArg nI (by omega))) (by omega) (Nat.lt_succ_self _)
                · refine pm_aloadn hG dX12_days_62 rfl ?_
                  refine pm_iloadn hG dX12_days_63 rfl ?_
                  rcases KI.opt hnn_11 (show kd (14 * i11 + 119) = (2, 2001, false) from (kd_P (k := i11) (c := 9) (by omega) (by omega) (by decide))) with ek41 | ⟨k41, hk41, ek41⟩
                  · refine pm_callV (As := [.int (nI i11)]) (rest := []) hG hR dX12_days_64 (lkX12_101 _ rfl) okV_X12_lives rfl rfl (m_lives1 (d := 2) (by decide) (by omega) (by omega : 14 * i11 + 119 = 14 * i11 + 119) ek41) rfl rfl hdd (Nat.le_refl _) (Nat.le_refl _) (by decide) (pm_ki (fun v42 σ' cnt' hq => ?_))
                    obtain ⟨rfl, rfl, rfl⟩ := hq
                    refine pm_ifN_eq (tgt := 108) hG dX12_days_67 rfl (by omega) (fun q => absurd q (by omega)) (fun _ => ?_)
                    refine pm_aloadn hG dX12_days_70 rfl ?_
                    refine pm_iloadn hG dX12_days_71 rfl ?_
                    refine pm_iconst (v := nI 4) hG dX12_days_72 (by decide) ?_
                    refine pm_callV (As := [.int (nI i11), .int (nI 4)]) (rest := []) hG hR dX12_days_73 (lkX12_72 _ rfl) okV_X12_man rfl rfl (m_man (d := 2) (e := 14 * i11 + 114) (by omega) (by omega) (by omega)) rfl rfl hdd (Nat.le_refl _) (Nat.le_refl _) (by decide) (pm_ki (fun v43 σ' cnt' hq => ?_))
                    obtain ⟨rfl, rfl, rfl⟩ := hq
                    rcases KI.opt hnn_11 (show kd (14 * i11 + 114) = (2, 10, false) from (kd_P (k := i11) (c := 4) (by omega) (by omega) (by decide))) with ek44 | ⟨k44, hk44, ek44⟩
                    · refine pm_top (v := (-1)) ek44 ?_
                      refine pm_if_ge (tgt := 108) hG dX12_days_76 rfl (fun q => absurd q (by decide)) (fun _ => ?_)
                      refine pm_aloadn hG dX12_days_79 rfl ?_
                      refine pm_iloadn hG dX12_days_80 rfl ?_
                      refine pm_bipush (v := nI 6) hG dX12_days_81 (by decide) ?_
                      refine pm_callV (As := [.int (nI i11), .int (nI 6)]) (rest := []) hG hR dX12_days_83 (lkX12_72 _ rfl) okV_X12_man rfl rfl (m_man (d := 2) (e := 14 * i11 + 116) (by omega) (by omega) (by omega)) rfl rfl hdd (Nat.le_refl _) (Nat.le_refl _) (by decide) (pm_ki (fun v45 σ' cnt' hq => ?_))
                      obtain ⟨rfl, rfl, rfl⟩ := hq
                      refine pm_gen (fun x46 ex46 => ?_)
                      refine pm_aloadn hG dX12_days_86 rfl ?_
                      refine pm_getf hG dX12_days_87 (flX12_7 _ rfl) rfl rfl ?_
                      refine pm_bipush (v := nI 8) hG dX12_days_90 (by decide) ?_
                      refine pm_ialdN hG dX12_days_92 rfl (by decide) (by omega) ?_
                      refine pm_top (v := nI (i5 + kc8 + 1)) kc11_8 ?_
                      refine pm_icmp_ne (tgt := 108) hG dX12_days_93 rfl (fun c47 => ?_) (fun c47 => ?_)
                      · refine pm_iincX (v := nI (i11 + 1)) (loc' := [some (.ref (B + 54)), some (.int za), some (.int (nI i5)), some (.int (nI (i11 + 1)))]) hG dX12_days_108 rfl (nI_1 _) (by decide) (pm_c1b rfl) rfl ?_
                        refine pm_goto (tgt := 52) hG dX12_days_111 rfl ?_
                        exact ih11 I11 A11 n_11 (i11 + 1) hnn_11 ksn_11 hrn_11 (kc11_8.trans (congrArg nI (by omega))) (kc11_0.trans (congrArg nI (by omega))) (kc11_2.trans (congrArg nI (by omega))) (by omega) (by omega)
                      · refine pm_aloadn hG dX12_days_96 rfl ?_
                        refine pm_iloadn hG dX12_days_97 rfl ?_
                        refine pm_iconst (v := nI 4) hG dX12_days_98 (by decide) ?_
                        refine pm_aloadn hG dX12_days_99 rfl ?_
                        refine pm_iloadn hG dX12_days_100 rfl ?_
                        refine pm_iconst (v := nI 5) hG dX12_days_101 (by decide) ?_
                        refine pm_callV (As := [.int (nI i11), .int (nI 5)]) (rest := [.int (nI 4), .int (nI i11), .ref (B + 54)]) hG hR dX12_days_102 (lkX12_72 _ rfl) okV_X12_man rfl rfl (m_man (d := 2) (e := 14 * i11 + 115) (by omega) (by omega) (by omega)) rfl rfl hdd (Nat.le_refl _) (Nat.le_refl _) (Nat.le_of_ble_eq_true rfl) (pm_ki (fun v48 σ' cnt' hq => ?_))
                        obtain ⟨rfl, rfl, rfl⟩ := hq
                        obtain ⟨k49, hk49, ek49⟩ := KI.nat hnn_11 (show kd (14 * i11 + 115) = (1, 10, false) from (kd_P (k := i11) (c := 5) (by omega) (by omega) (by decide)))
                        refine pm_top (v := nI k49) ek49 ?_
                        refine pm_callV (As := [.int (nI i11), .int (nI 4), .int (nI k49)]) (rest := []) hG hR dX12_days_105 (lkX12_97 _ rfl) okV_X12_sets rfl rfl (m_sets (d := 2) (e := 14 * i11 + 114) (by omega) (by omega) (by omega)) rfl rfl hdd (Nat.le_refl _) (Nat.le_refl _) (by decide) (pm_kv (fun σ' cnt' hq => ?_))
                        obtain ⟨rfl, rfl⟩ := hq
                        obtain ⟨n_50, en_50⟩ : ∃ f : Nat → Int32, f = upd n_11 (14 * i11 + 114) (nI k49) := ⟨_, rfl⟩
                        rw [← en_50]
                        have hnn_50 := KI.w en_50 hnn_11 (okv_o (show kd (14 * i11 + 114) = (2, 10, false) from (kd_P (k := i11) (c := 4) (by omega) (by omega) (by decide))) (by omega))
                        have hrn_50 := NRx.w en_50 hrn_11 (by rw [(show kd (14 * i11 + 114) = (2, 10, false) from (kd_P (k := i11) (c := 4) (by omega) (by omega) (by decide)))])
                        have ksn_50 := KS.w en_50 ksn_11 (by unfold tS; omega)
                        have e51 : n_50 8 = nI (i5 + kc8 + 1) := by rw [en_50, pk_un (by omega)]; exact kc11_8
                        have e52 : n_50 0 = nI kc0 := by rw [en_50, pk_un (by omega)]; exact kc11_0
                        have e53 : n_50 2 = nI kc2 := by rw [en_50, pk_un (by omega)]; exact kc11_2
                        have e54 : n_50 (14 * i11 + 119) = (-1) := by rw [en_50, pk_un (by omega)]; exact ek41
                        have e55 : n_50 (14 * i11 + 116) = x46 := by rw [en_50, pk_un (by omega)]; exact ex46
                        have e56 : n_50 (14 * i11 + 115) = nI k49 := by rw [en_50, pk_un (by omega)]; exact ek49
                        have e57 : n_50 (14 * i11 + 114) = nI k49 := by rw [en_50, pk_us]
                        refine pm_iincX (v := nI (i11 + 1)) (loc' := [some (.ref (B + 54)), some (.int za), some (.int (nI i5)), some (.int (nI (i11 + 1)))]) hG dX12_days_108 rfl (nI_1 _) (by decide) (pm_c1b rfl) rfl ?_
                        refine pm_goto (tgt := 52) hG dX12_days_111 rfl ?_
                        exact ih11 I11 A11 n_50 (i11 + 1) hnn_50 ksn_50 hrn_50 (e51.trans (congrArg nI (by omega))) (e52.trans (congrArg nI (by omega))) (e53.trans (congrArg nI (by omega))) (by omega) (by omega)
                    · refine pm_top (v := nI k44) ek44 ?_
                      refine pm_ifN_ge (tgt := 108) hG dX12_days_76 rfl (by omega) ?_
                      refine pm_iincX (v := nI (i11 + 1)) (loc' := [some (.ref (B + 54)), some (.int za), some (.int (nI i5)), some (.int (nI (i11 + 1)))]) hG dX12_days_108 rfl (nI_1 _) (by decide) (pm_c1b rfl) rfl ?_
                      refine pm_goto (tgt := 52) hG dX12_days_111 rfl ?_
                      exact ih11 I11 A11 n_11 (i11 + 1) hnn_11 ksn_11 hrn_11 (kc11_8.trans (congrArg nI (by omega))) (kc11_0.trans (congrArg nI (by omega))) (kc11_2.trans (congrArg nI (by omega))) (by omega) (by omega)
                  · refine pm_callV (As := [.int (nI i11)]) (rest := []) hG hR dX12_days_64 (lkX12_101 _ rfl) okV_X12_lives rfl rfl (m_lives0 (d := 2) (by decide) (by omega) (by omega : 14 * i11 + 119 = 14 * i11 + 119) ek41 (by omega)) rfl rfl hdd (Nat.le_refl _) (Nat.le_refl _) (by decide) (pm_ki (fun v58 σ' cnt' hq => ?_))
                    obtain ⟨rfl, rfl, rfl⟩ := hq
                    refine pm_ifN_eq (tgt := 108) hG dX12_days_67 rfl (by omega) (fun _ => ?_) (fun q => absurd q (by omega))
                    refine pm_iincX (v := nI (i11 + 1)) (loc' := [some (.ref (B + 54)), some (.int za), some (.int (nI i5)), some (.int (nI (i11 + 1)))]) hG dX12_days_108 rfl (nI_1 _) (by decide) (pm_c1b rfl) rfl ?_
                    refine pm_goto (tgt := 52) hG dX12_days_111 rfl ?_
                    exact ih11 I11 A11 n_11 (i11 + 1) hnn_11 ksn_11 hrn_11 (kc11_8.trans (congrArg nI (by omega))) (kc11_0.trans (congrArg nI (by omega))) (kc11_2.trans (congrArg nI (by omega))) (by omega) (by omega)
            exact loop52_11 _ I5 A5 n_7 0 hnn_7 ksn_7 hrn_7 (e10.trans (congrArg nI (by omega))) (e8.trans (congrArg nI (by omega))) (e9.trans (congrArg nI (by omega))) (by omega) (Nat.lt_succ_self _)
      exact loop34_5 _ I A n 0 hn KS.rf hr (ekc0.trans (congrArg nI (by omega))) (ekc2.trans (congrArg nI (by omega))) (ekc8.trans (congrArg nI (by omega))) (by omega) (by omega) (Nat.lt_succ_self _)
    · refine pm_aloadn hG dX12_days_26 rfl ?_
      refine pm_iconst (v := nI 1) hG dX12_days_27 (by decide) ?_
      refine pm_callV (As := [.int (nI 1)]) (rest := []) hG hR dX12_days_28 (lkX12_80 _ rfl) okV_X12_finds rfl rfl (m_finds (d := 2) (by decide) hn hz (by omega)) rfl rfl hdd (Nat.le_refl _) (Nat.le_refl _) (by decide) (pm_ki (fun v59 σ' cnt' hq => ?_))
      obtain ⟨⟨I60, A60, rfl⟩, rfl, fv59⟩ := hq
      exact pm_iret hG hF dX12_days_31 rfl (Nat.le_refl _) (Nat.le_refl _) ⟨_, rfl, ⟨_, _, _, rfl, hn, hr, ekc0.trans ekc0.symm, ekc2.trans ekc2.symm, KS.rf, ⟨fv59.trans (vD_no2 ekc8 ek3 (by omega) (by omega)).1, (vD_no2 ekc8 ek3 (by omega) (by omega)).2⟩⟩, rfl⟩
  · refine pm_ifN_eq (tgt := 26) hG dX12_days_8 rfl (by omega) (fun _ => ?_) (fun q => absurd q (by omega))
    refine pm_aloadn hG dX12_days_26 rfl ?_
    refine pm_iconst (v := nI 1) hG dX12_days_27 (by decide) ?_
    refine pm_callV (As := [.int (nI 1)]) (rest := []) hG hR dX12_days_28 (lkX12_80 _ rfl) okV_X12_finds rfl rfl (m_finds (d := 2) (by decide) hn hz (by omega)) rfl rfl hdd (Nat.le_refl _) (Nat.le_refl _) (by decide) (pm_ki (fun v61 σ' cnt' hq => ?_))
    obtain ⟨⟨I62, A62, rfl⟩, rfl, fv61⟩ := hq
    exact pm_iret hG hF dX12_days_31 rfl (Nat.le_refl _) (Nat.le_refl _) ⟨_, rfl, ⟨_, _, _, rfl, hn, hr, ekc0.trans ekc0.symm, ekc2.trans ekc2.symm, KS.rf, ⟨fv61.trans (vD_no1 (by assumption)).1, (vD_no1 (by assumption)).2⟩⟩, rfl⟩

set_option maxRecDepth 100000 in
set_option maxHeartbeats 4000000 in
theorem m_debt {d B cnt p0 t0 : Nat} {σ : pm_S} {I : Nat → Int32} {A : Nat → Nat → Int32} {n k z : Nat → Int32} {ac wt pl im : Int32} {za zb zc : Int32} (hdd : 2 ≤ d) (hn : KI n) (hr : NR n) (hz : SZ z)  : pm_met mX12_debt d 0 0 B [.ref (B + 54), .int za, .int zb, .int zc] cnt (pm_mid σ (md_L B I A n k z ac wt pl (nI p0) (nI t0) im)) (pm_Qi (fun v σ' cnt' => (∃ (I' : Nat → Int32) (A' : Nat → Nat → Int32) (n' : Nat → Int32), σ' = pm_mid σ (md_L B I' A' n' k z ac wt pl (nI p0) (nI t0) im) ∧ KI n' ∧ NR n' ∧ n' 0 = n 0 ∧ n' 2 = n 2 ∧ n' 8 = n 8 ∧ KS n' n) ∧ cnt = cnt')) := by
  obtain ⟨kc0, hkc0, ekc0⟩ := KI.nat hn (show kd 0 = (1, 11, true) by decide)
  obtain ⟨kc2, hkc2, ekc2⟩ := KI.nat hn (show kd 2 = (1, 21, true) by decide)
  obtain ⟨kc8, hkc8, ekc8⟩ := KI.nat hn (show kd 8 = (1, 2001, false) by decide)
  refine pm_enter 1 (by decide) (Nat.le_of_ble_eq_true rfl) rfl (fun G hG hR hF => ?_)
  refine pm_iloadn hG dX12_debt_0 rfl ?_
  refine pm_iconst (v := nI 0) hG dX12_debt_1 (by decide) ?_
  refine pm_ldc hG dX12_debt_2 (ctX12_242 _ rfl) ?_
  refine pm_top (v := nI 99999) (by decide) ?_
  refine pm_callS (As := [.int za, .int (nI 0), .int (nI 99999)]) (rest := []) hG hR dX12_debt_4 (lkX12_68 _ rfl) okS_X12_in (m_in (d := 1)) rfl rfl hdd (Nat.le_refl _) (Nat.le_refl _) (by decide) (pm_ki (fun v1 σ' cnt' hq => ?_))
  obtain ⟨hq, rfl, rfl⟩ := hq
  rcases hq with ⟨rfl, ac2, bc2⟩ | ⟨rfl, c2⟩
  · obtain ⟨k3, hk3, ek3⟩ := in_nat (by omega) (by omega) ac2 bc2
    refine pm_ifN_eq (tgt := 51) hG dX12_debt_7 rfl (by omega) (fun q => absurd q (by omega)) (fun _ => ?_)
    refine pm_iloadn hG dX12_debt_10 rfl ?_
    refine pm_if_lt (tgt := 51) hG dX12_debt_11 rfl (fun c4 => ?_) (fun c4 => ?_)
    · refine pm_aloadn hG dX12_debt_51 rfl ?_
      refine pm_iconst (v := nI 1) hG dX12_debt_52 (by decide) ?_
      refine pm_callV (As := [.int (nI 1)]) (rest := []) hG hR dX12_debt_53 (lkX12_80 _ rfl) okV_X12_finds rfl rfl (m_finds (d := 1) (by decide) hn hz (by omega)) rfl rfl hdd (Nat.le_refl _) (Nat.le_refl _) (by decide) (pm_ki (fun v5 σ' cnt' hq => ?_))
      obtain ⟨⟨I6, A6, rfl⟩, rfl, fv5⟩ := hq
      exact pm_iret hG hF dX12_debt_56 rfl (Nat.le_refl _) (Nat.le_refl _) ⟨_, rfl, ⟨_, _, _, rfl, hn, hr, ekc0.trans ekc0.symm, ekc2.trans ekc2.symm, ekc8.trans ekc8.symm, KS.rf⟩, rfl⟩
    · obtain ⟨k7, hk7, ek7⟩ := nI_of c4
      refine pm_iloadn hG dX12_debt_14 rfl ?_
      refine pm_top (v := nI k7) ek7 ?_
      refine pm_sipush (v := nI 10000) hG dX12_debt_15 (by decide) ?_
      refine pm_idivN hG dX12_debt_18 (by omega) (by decide) (by decide) ?_
      refine pm_iconst (v := nI 0) hG dX12_debt_19 (by decide) ?_
      refine pm_bipush (v := nI 99) hG dX12_debt_20 (by decide) ?_
      refine pm_callS (As := [.int (nI ((k7 / 10000))), .int (nI 0), .int (nI 99)]) (rest := []) hG hR dX12_debt_22 (lkX12_68 _ rfl) okS_X12_in (m_in (d := 1)) rfl rfl hdd (Nat.le_refl _) (Nat.le_refl _) (by decide) (pm_ki (fun v8 σ' cnt' hq => ?_))
      obtain ⟨hq, rfl, rfl⟩ := hq
      rcases hq with ⟨rfl, ac9, bc9⟩ | ⟨rfl, c9⟩
      · have ic9 := (nI_leI (by omega) (by omega)).mp (Int32.not_lt.mp ac9)
        have jc9 := (nI_leI (by omega) (by omega)).mp (Int32.not_lt.mp bc9)
        refine pm_ifN_eq (tgt := 51) hG dX12_debt_25 rfl (by omega) (fun q => absurd q (by omega)) (fun _ => ?_)
        refine pm_iloadn hG dX12_debt_28 rfl ?_
        refine pm_top (v := nI k7) ek7 ?_
        refine pm_sipush (v := nI 10000) hG dX12_debt_29 (by decide) ?_
        refine pm_iremM hG dX12_debt_32 (by omega) (by decide) (by decide) ?_
        refine pm_iconst (v := nI 1) hG dX12_debt_33 (by decide) ?_
        refine pm_sipush (v := nI 9999) hG dX12_debt_34 (by decide) ?_
        refine pm_callS (As := [.int (nI ((k7 % 10000))), .int (nI 1), .int (nI 9999)]) (rest := []) hG hR dX12_debt_37 (lkX12_68 _ rfl) okS_X12_in (m_in (d := 1)) rfl rfl hdd (Nat.le_refl _) (Nat.le_refl _) (by decide) (pm_ki (fun v10 σ' cnt' hq => ?_))
        obtain ⟨hq, rfl, rfl⟩ := hq
        rcases hq with ⟨rfl, ac11, bc11⟩ | ⟨rfl, c11⟩
        · have ic11 := (nI_leI (by omega) (by omega)).mp (Int32.not_lt.mp ac11)
          have jc11 := (nI_leI (by omega) (by omega)).mp (Int32.not_lt.mp bc11)
          refine pm_ifN_eq (tgt := 51) hG dX12_debt_40 rfl (by omega) (fun q => absurd q (by omega)) (fun _ => ?_)
          refine pm_aloadn hG dX12_debt_43 rfl ?_
          refine pm_iloadn hG dX12_debt_44 rfl ?_
          refine pm_callV (As := [.int zc]) (rest := []) hG hR dX12_debt_45 (lkX12_84 _ rfl) okV_X12_isTown rfl rfl (m_isTown (d := 1) (by decide) ekc0 (by omega)) rfl rfl hdd (Nat.le_refl _) (Nat.le_refl _) (by decide) (pm_ki (fun v12 σ' cnt' hq => ?_))
          obtain ⟨hq, rfl, rfl⟩ := hq
          rcases hq with ⟨rfl, k14, hk14, ek14⟩ | ⟨rfl, ntk14⟩
          · refine pm_ifN_ne (tgt := 57) hG dX12_debt_48 rfl (by omega) (fun _ => ?_) (fun q => absurd q (by omega))
            refine pm_aloadn hG dX12_debt_57 rfl ?_
            refine pm_getf hG dX12_debt_58 (flX12_7 _ rfl) rfl rfl ?_
            refine pm_bipush (v := nI 6) hG dX12_debt_61 (by decide) ?_
            refine pm_ialdN hG dX12_debt_63 rfl (by decide) (by omega) ?_
            obtain ⟨k15, hk15, ek15⟩ := KI.nat hn (show kd 6 = (1, 7, false) by decide)
            refine pm_top (v := nI k15) ek15 ?_
            refine pm_istoreXi (loc' := [some (.ref (B + 54)), some (.int za), some (.int zb), some (.int zc), some (.int (nI k15))]) hG dX12_debt_64 (by decide) (pm_c1b rfl) rfl ?_
            refine pm_iloadi hG dX12_debt_66 rfl ?_
            refine pm_bipush (v := nI 6) hG dX12_debt_68 (by decide) ?_
            refine pm_icmpN_ne (tgt := 79) hG dX12_debt_70 rfl (by omega) (by omega) (fun c16 => ?_) (fun c16 => ?_)
            · refine pm_aloadn hG dX12_debt_79 rfl ?_
              refine pm_getf hG dX12_debt_80 (flX12_7 _ rfl) rfl rfl ?_
              refine pm_bipush (v := nI 6) hG dX12_debt_83 (by decide) ?_
              refine pm_dup2 hG dX12_debt_85 rfl rfl ?_
              refine pm_ialdN hG dX12_debt_86 rfl (by decide) (by omega) ?_
              refine pm_top (v := nI k15) ek15 ?_
              refine pm_iconst (v := nI 1) hG dX12_debt_87 (by decide) ?_
              refine pm_iaddN (c := k15 + 1) hG dX12_debt_88 (by omega) ?_
              refine pm_iastN hG dX12_debt_89 rfl (by decide) (by omega) ?_
              refine mdn_now (fun n_17 en_17 => ?_)
              have hnn_17 := KI.w en_17 hn (okv_n (show kd 6 = (1, 7, false) by decide) (by omega))
              have hrn_17 := NRx.w en_17 hr (by rw [(show kd 6 = (1, 7, false) by decide)])
              have ksn_17 := KS.w en_17 KS.rf (by unfold tS; omega)
              have e18 : n_17 0 = nI kc0 := by rw [en_17, pk_un (by omega)]; exact ekc0
              have e19 : n_17 2 = nI kc2 := by rw [en_17, pk_un (by omega)]; exact ekc2
              have e20 : n_17 8 = nI kc8 := by rw [en_17, pk_un (by omega)]; exact ekc8
              have e21 : n_17 6 = nI (k15 + 1) := by rw [en_17, pk_us]
              refine pm_aloadn hG dX12_debt_90 rfl ?_
              refine pm_getf hG dX12_debt_91 (flX12_7 _ rfl) rfl rfl ?_
              refine pm_sipush (v := nI 1770) hG dX12_debt_94 (by decide) ?_
              refine pm_bipush (v := nI 6) hG dX12_debt_97 (by decide) ?_
              refine pm_iloadi hG dX12_debt_99 rfl ?_
              refine pm_imulN (c := 6 * k15) hG dX12_debt_101 (by omega) ?_
              refine pm_iaddN (c := 6 * k15 + 1770) hG dX12_debt_102 (by omega) ?_
              refine pm_iloadn hG dX12_debt_103 rfl ?_
              refine pm_top (v := nI k3) ek3 ?_
              refine pm_iastN hG dX12_debt_104 rfl (by decide) (by omega) ?_
              refine mdn_now (fun n_22 en_22 => ?_)
              have hnn_22 := KI.w en_22 hnn_17 (okv_f (show kd (6 * k15 + 1770) = (0, 0, false) from (kd_D (k := k15) (c := 0) (by omega) (by omega) (by decide))))
              have hrn_22 := NRx.w en_22 hrn_17 (by rw [(show kd (6 * k15 + 1770) = (0, 0, false) from (kd_D (k := k15) (c := 0) (by omega) (by omega) (by decide)))])
              have ksn_22 := KS.w en_22 ksn_17 (by unfold tS; omega)
              have e23 : n_22 0 = nI kc0 := by rw [en_22, pk_un (by omega)]; exact e18
              have e24 : n_22 2 = nI kc2 := by rw [en_22, pk_un (by omega)]; exact e19
              have e25 : n_22 8 = nI kc8 := by rw [en_22, pk_un (by omega)]; exact e20
              have e26 : n_22 6 = nI (k15 + 1) := by rw [en_22, pk_un (by omega)]; exact e21
              have e27 : n_22 (6 * k15 + 1770) = nI k3 := by rw [en_22, pk_us]
              refine pm_aloadn hG dX12_debt_105 rfl ?_
              refine pm_getf hG dX12_debt_106 (flX12_7 _ rfl) rfl rfl ?_
              refine pm_sipush (v := nI 1770) hG dX12_debt_109 (by decide) ?_
              refine pm_bipush (v := nI 6) hG dX12_debt_112 (by decide) ?_
              refine pm_iloadi hG dX12_debt_114 rfl ?_
              refine pm_imulN (c := 6 * k15) hG dX12_debt_116 (by omega) ?_
              refine pm_iaddN (c := 6 * k15 + 1770) hG dX12_debt_117 (by omega) ?_
              refine pm_iconst (v := nI 1) hG dX12_debt_118 (by decide) ?_
              refine pm_iaddN (c := 6 * k15 + 1771) hG dX12_debt_119 (by omega) ?_
              refine pm_iloadn hG dX12_debt_120 rfl ?_
              refine pm_top (v := nI k7) ek7 ?_
              refine pm_sipush (v := nI 10000) hG dX12_debt_121 (by decide) ?_
              refine pm_idivN hG dX12_debt_124 (by omega) (by decide) (by decide) ?_
              refine pm_iastN hG dX12_debt_125 rfl (by decide) (by omega) ?_
              refine mdn_now (fun n_28 en_28 => ?_)
              have hnn_28 := KI.w en_28 hnn_22 (okv_f (show kd (6 * k15 + 1771) = (0, 0, false) from (kd_D (k := k15) (c := 1) (by omega) (by omega) (by decide))))
              have hrn_28 := NRx.w en_28 hrn_22 (by rw [(show kd (6 * k15 + 1771) = (0, 0, false) from (kd_D (k := k15) (c := 1) (by omega) (by omega) (by decide)))])
              have ksn_28 := KS.w en_28 ksn_22 (by unfold tS; omega)
              have e29 : n_28 0 = nI kc0 := by rw [en_28, pk_un (by omega)]; exact e23
              have e30 : n_28 2 = nI kc2 := by rw [en_28, pk_un (by omega)]; exact e24
              have e31 : n_28 8 = nI kc8 := by rw [en_28, pk_un (by omega)]; exact e25
              have e32 : n_28 6 = nI (k15 + 1) := by rw [en_28, pk_un (by omega)]; exact e26
              have e33 : n_28 (6 * k15 + 1770) = nI k3 := by rw [en_28, pk_un (by omega)]; exact e27
              have e34 : n_28 (6 * k15 + 1771) = nI ((k7 / 10000)) := by rw [en_28, pk_us]
              refine pm_aloadn hG dX12_debt_126 rfl ?_
              refine pm_getf hG dX12_debt_127 (flX12_7 _ rfl) rfl rfl ?_
              refine pm_sipush (v := nI 1770) hG dX12_debt_130 (by decide) ?_
              refine pm_bipush (v := nI 6) hG dX12_debt_133 (by decide) ?_
              refine pm_iloadi hG dX12_debt_135 rfl ?_
              refine pm_imulN (c := 6 * k15) hG dX12_debt_137 (by omega) ?_
              refine pm_iaddN (c := 6 * k15 + 1770) hG dX12_debt_138 (by omega) ?_
              refine pm_iconst (v := nI 2) hG dX12_debt_139 (by decide) ?_
              refine pm_iaddN (c := 6 * k15 + 1772) hG dX12_debt_140 (by omega) ?_
              refine pm_iloadn hG dX12_debt_141 rfl ?_
              refine pm_top (v := nI k7) ek7 ?_
              refine pm_sipush (v := nI 10000) hG dX12_debt_142 (by decide) ?_
              refine pm_iremM hG dX12_debt_145 (by omega) (by decide) (by decide) ?_
              refine pm_iastN hG dX12_debt_146 rfl (by decide) (by omega) ?_
              refine mdn_now (fun n_35 en_35 => ?_)
              have hnn_35 := KI.w en_35 hnn_28 (okv_f (show kd (6 * k15 + 1772) = (0, 0, false) from (kd_D (k := k15) (c := 2) (by omega) (by omega) (by decide))))
              have hrn_35 := NRx.w en_35 hrn_28 (by rw [(show kd (6 * k15 + 1772) = (0, 0, false) from (kd_D (k := k15) (c := 2) (by omega) (by omega) (by decide)))])
              have ksn_35 := KS.w en_35 ksn_28 (by unfold tS; omega)
              have e36 : n_35 0 = nI kc0 := by rw [en_35, pk_un (by omega)]; exact e29
              have e37 : n_35 2 = nI kc2 := by rw [en_35, pk_un (by omega)]; exact e30
              have e38 : n_35 8 = nI kc8 := by rw [en_35, pk_un (by omega)]; exact e31
              have e39 : n_35 6 = nI (k15 + 1) := by rw [en_35, pk_un (by omega)]; exact e32
              have e40 : n_35 (6 * k15 + 1770) = nI k3 := by rw [en_35, pk_un (by omega)]; exact e33
              have e41 : n_35 (6 * k15 + 1771) = nI ((k7 / 10000)) := by rw [en_35, pk_un (by omega)]; exact e34
              have e42 : n_35 (6 * k15 + 1772) = nI ((k7 % 10000)) := by rw [en_35, pk_us]
              refine pm_aloadn hG dX12_debt_147 rfl ?_
              refine pm_getf hG dX12_debt_148 (flX12_7 _ rfl) rfl rfl ?_
              refine pm_sipush (v := nI 1770) hG dX12_debt_151 (by decide) ?_
              refine pm_bipush (v := nI 6) hG dX12_debt_154 (by decide) ?_
              refine pm_iloadi hG dX12_debt_156 rfl ?_
              refine pm_imulN (c := 6 * k15) hG dX12_debt_158 (by omega) ?_
              refine pm_iaddN (c := 6 * k15 + 1770) hG dX12_debt_159 (by omega) ?_
              refine pm_iconst (v := nI 3) hG dX12_debt_160 (by decide) ?_
              refine pm_iaddN (c := 6 * k15 + 1773) hG dX12_debt_161 (by omega) ?_
              refine pm_iconst (v := nI 0) hG dX12_debt_162 (by decide) ?_
              refine pm_iastN hG dX12_debt_163 rfl (by decide) (by omega) ?_
              refine mdn_now (fun n_43 en_43 => ?_)
              have hnn_43 := KI.w en_43 hnn_35 (okv_f (show kd (6 * k15 + 1773) = (0, 0, false) from (kd_D (k := k15) (c := 3) (by omega) (by omega) (by decide))))
              have hrn_43 := NRx.w en_43 hrn_35 (by rw [(show kd (6 * k15 + 1773) = (0, 0, false) from (kd_D (k := k15) (c := 3) (by omega) (by omega) (by decide)))])
              have ksn_43 := KS.w en_43 ksn_35 (by unfold tS; omega)
              have e44 : n_43 0 = nI kc0 := by rw [en_43, pk_un (by omega)]; exact e36
              have e45 : n_43 2 = nI kc2 := by rw [en_43, pk_un (by omega)]; exact e37
              have e46 : n_43 8 = nI kc8 := by rw [en_43, pk_un (by omega)]; exact e38
              have e47 : n_43 6 = nI (k15 + 1) := by rw [en_43, pk_un (by omega)]; exact e39
              have e48 : n_43 (6 * k15 + 1770) = nI k3 := by rw [en_43, pk_un (by omega)]; exact e40
              have e49 : n_43 (6 * k15 + 1771) = nI ((k7 / 10000)) := by rw [en_43, pk_un (by omega)]; exact e41
              have e50 : n_43 (6 * k15 + 1772) = nI ((k7 % 10000)) := by rw [en_43, pk_un (by omega)]; exact e42
              have e51 : n_43 (6 * k15 + 1773) = nI 0 := by rw [en_43, pk_us]
              refine pm_aloadn hG dX12_debt_164 rfl ?_
              refine pm_getf hG dX12_debt_165 (flX12_7 _ rfl) rfl rfl ?_
              refine pm_sipush (v := nI 1770) hG dX12_debt_168 (by decide) ?_
              refine pm_bipush (v := nI 6) hG dX12_debt_171 (by decide) ?_
              refine pm_iloadi hG dX12_debt_173 rfl ?_
              refine pm_imulN (c := 6 * k15) hG dX12_debt_175 (by omega) ?_
              refine pm_iaddN (c := 6 * k15 + 1770) hG dX12_debt_176 (by omega) ?_
              refine pm_iconst (v := nI 4) hG dX12_debt_177 (by decide) ?_
              refine pm_iaddN (c := 6 * k15 + 1774) hG dX12_debt_178 (by omega) ?_
              refine pm_iloadn hG dX12_debt_179 rfl ?_
              refine pm_top (v := nI k14) ek14 ?_
              refine pm_iastN hG dX12_debt_180 rfl (by decide) (by omega) ?_
              refine mdn_now (fun n_52 en_52 => ?_)
              have hnn_52 := KI.w en_52 hnn_43 (okv_n (show kd (6 * k15 + 1774) = (1, 10, false) from (kd_D (k := k15) (c := 4) (by omega) (by omega) (by decide))) (by omega))
              have hrn_52 := NRx.w en_52 hrn_43 (by rw [(show kd (6 * k15 + 1774) = (1, 10, false) from (kd_D (k := k15) (c := 4) (by omega) (by omega) (by decide)))])
              have ksn_52 := KS.w en_52 ksn_43 (by unfold tS; omega)
              have e53 : n_52 0 = nI kc0 := by rw [en_52, pk_un (by omega)]; exact e44
              have e54 : n_52 2 = nI kc2 := by rw [en_52, pk_un (by omega)]; exact e45
              have e55 : n_52 8 = nI kc8 := by rw [en_52, pk_un (by omega)]; exact e46
              have e56 : n_52 6 = nI (k15 + 1) := by rw [en_52, pk_un (by omega)]; exact e47
              have e57 : n_52 (6 * k15 + 1770) = nI k3 := by rw [en_52, pk_un (by omega)]; exact e48
              have e58 : n_52 (6 * k15 + 1771) = nI ((k7 / 10000)) := by rw [en_52, pk_un (by omega)]; exact e49
              have e59 : n_52 (6 * k15 + 1772) = nI ((k7 % 10000)) := by rw [en_52, pk_un (by omega)]; exact e50
              have e60 : n_52 (6 * k15 + 1773) = nI 0 := by rw [en_52, pk_un (by omega)]; exact e51
              have e61 : n_52 (6 * k15 + 1774) = nI k14 := by rw [en_52, pk_us]
              refine pm_aloadn hG dX12_debt_181 rfl ?_
              refine pm_getf hG dX12_debt_182 (flX12_7 _ rfl) rfl rfl ?_
              refine pm_bipush (v := nI 9) hG dX12_debt_185 (by decide) ?_
              refine pm_dup2 hG dX12_debt_187 rfl rfl ?_
              refine pm_ialdN hG dX12_debt_188 rfl (by decide) (by omega) ?_
              refine pm_gen (fun x62 ex62 => ?_)
              refine pm_iloadn hG dX12_debt_189 rfl ?_
              refine pm_top (v := nI k3) ek3 ?_
              refine pm_iadd hG dX12_debt_190 ?_
              refine pm_iastN hG dX12_debt_191 rfl (by decide) (by omega) ?_
              refine mdn_now (fun n_63 en_63 => ?_)
              have hnn_63 := KI.w en_63 hnn_52 (okv_f (show kd 9 = (0, 0, false) by decide))
              have hrn_63 := NRx.w en_63 hrn_52 (by rw [(show kd 9 = (0, 0, false) by decide)])
              have ksn_63 := KS.w en_63 ksn_52 (by unfold tS; omega)
              have e64 : n_63 0 = nI kc0 := by rw [en_63, pk_un (by omega)]; exact e53
              have e65 : n_63 2 = nI kc2 := by rw [en_63, pk_un (by omega)]; exact e54
              have e66 : n_63 8 = nI kc8 := by rw [en_63, pk_un (by omega)]; exact e55
              have e67 : n_63 6 = nI (k15 + 1) := by rw [en_63, pk_un (by omega)]; exact e56
              have e68 : n_63 (6 * k15 + 1770) = nI k3 := by rw [en_63, pk_un (by omega)]; exact e57
              have e69 : n_63 (6 * k15 + 1771) = nI ((k7 / 10000)) := by rw [en_63, pk_un (by omega)]; exact e58
              have e70 : n_63 (6 * k15 + 1772) = nI ((k7 % 10000)) := by rw [en_63, pk_un (by omega)]; exact e59
              have e71 : n_63 (6 * k15 + 1773) = nI 0 := by rw [en_63, pk_un (by omega)]; exact e60
              have e72 : n_63 (6 * k15 + 1774) = nI k14 := by rw [en_63, pk_un (by omega)]; exact e61
              have e73 : n_63 9 = x62 + (nI k3) := by rw [en_63, pk_us]
              refine pm_iloadi hG dX12_debt_192 rfl ?_
              exact pm_iret hG hF dX12_debt_194 rfl (Nat.le_refl _) (Nat.le_refl _) ⟨_, rfl, ⟨_, _, _, rfl, hnn_63, hrn_63, e64.trans ekc0.symm, e65.trans ekc2.symm, e66.trans ekc8.symm, ksn_63⟩, rfl⟩
            · refine pm_aloadn hG dX12_debt_73 rfl ?_
              refine pm_iconst (v := nI 4) hG dX12_debt_74 (by decide) ?_
              refine pm_callV (As := [.int (nI 4)]) (rest := []) hG hR dX12_debt_75 (lkX12_80 _ rfl) okV_X12_finds rfl rfl (m_finds (d := 1) (by decide) hn hz (by omega)) rfl rfl hdd (Nat.le_refl _) (Nat.le_refl _) (by decide) (pm_ki (fun v74 σ' cnt' hq => ?_))
              obtain ⟨⟨I75, A75, rfl⟩, rfl, fv74⟩ := hq
              exact pm_iret hG hF dX12_debt_78 rfl (Nat.le_refl _) (Nat.le_refl _) ⟨_, rfl, ⟨_, _, _, rfl, hn, hr, ekc0.trans ekc0.symm, ekc2.trans ekc2.symm, ekc8.trans ekc8.symm, KS.rf⟩, rfl⟩
          · refine pm_ifN_ne (tgt := 57) hG dX12_debt_48 rfl (by omega) (fun q => absurd q (by omega)) (fun _ => ?_)
            refine pm_aloadn hG dX12_debt_51 rfl ?_
            refine pm_iconst (v := nI 1) hG dX12_debt_52 (by decide) ?_
            refine pm_callV (As := [.int (nI 1)]) (rest := []) hG hR dX12_debt_53 (lkX12_80 _ rfl) okV_X12_finds rfl rfl (m_finds (d := 1) (by decide) hn hz (by omega)) rfl rfl hdd (Nat.le_refl _) (Nat.le_refl _) (by decide) (pm_ki (fun v76 σ' cnt' hq => ?_))
            obtain ⟨⟨I77, A77, rfl⟩, rfl, fv76⟩ := hq
            exact pm_iret hG hF dX12_debt_56 rfl (Nat.le_refl _) (Nat.le_refl _) ⟨_, rfl, ⟨_, _, _, rfl, hn, hr, ekc0.trans ekc0.symm, ekc2.trans ekc2.symm, ekc8.trans ekc8.symm, KS.rf⟩, rfl⟩
        · refine pm_ifN_eq (tgt := 51) hG dX12_debt_40 rfl (by omega) (fun _ => ?_) (fun q => absurd q (by omega))
          refine pm_aloadn hG dX12_debt_51 rfl ?_
          refine pm_iconst (v := nI 1) hG dX12_debt_52 (by decide) ?_
          refine pm_callV (As := [.int (nI 1)]) (rest := []) hG hR dX12_debt_53 (lkX12_80 _ rfl) okV_X12_finds rfl rfl (m_finds (d := 1) (by decide) hn hz (by omega)) rfl rfl hdd (Nat.le_refl _) (Nat.le_refl _) (by decide) (pm_ki (fun v78 σ' cnt' hq => ?_))
          obtain ⟨⟨I79, A79, rfl⟩, rfl, fv78⟩ := hq
          exact pm_iret hG hF dX12_debt_56 rfl (Nat.le_refl _) (Nat.le_refl _) ⟨_, rfl, ⟨_, _, _, rfl, hn, hr, ekc0.trans ekc0.symm, ekc2.trans ekc2.symm, ekc8.trans ekc8.symm, KS.rf⟩, rfl⟩
      · refine pm_ifN_eq (tgt := 51) hG dX12_debt_25 rfl (by omega) (fun _ => ?_) (fun q => absurd q (by omega))
        refine pm_aloadn hG dX12_debt_51 rfl ?_
        refine pm_iconst (v := nI 1) hG dX12_debt_52 (by decide) ?_
        refine pm_callV (As := [.int (nI 1)]) (rest := []) hG hR dX12_debt_53 (lkX12_80 _ rfl) okV_X12_finds rfl rfl (m_finds (d := 1) (by decide) hn hz (by omega)) rfl rfl hdd (Nat.le_refl _) (Nat.le_refl _) (by decide) (pm_ki (fun v80 σ' cnt' hq => ?_))
        obtain ⟨⟨I81, A81, rfl⟩, rfl, fv80⟩ := hq
        exact pm_iret hG hF dX12_debt_56 rfl (Nat.le_refl _) (Nat.le_refl _) ⟨_, rfl, ⟨_, _, _, rfl, hn, hr, ekc0.trans ekc0.symm, ekc2.trans ekc2.symm, ekc8.trans ekc8.symm, KS.rf⟩, rfl⟩
  · refine pm_ifN_eq (tgt := 51) hG dX12_debt_7 rfl (by omega) (fun _ => ?_) (fun q => absurd q (by omega))
    refine pm_aloadn hG dX12_debt_51 rfl ?_
    refine pm_iconst (v := nI 1) hG dX12_debt_52 (by decide) ?_
    refine pm_callV (As := [.int (nI 1)]) (rest := []) hG hR dX12_debt_53 (lkX12_80 _ rfl) okV_X12_finds rfl rfl (m_finds (d := 1) (by decide) hn hz (by omega)) rfl rfl hdd (Nat.le_refl _) (Nat.le_refl _) (by decide) (pm_ki (fun v82 σ' cnt' hq => ?_))
    obtain ⟨⟨I83, A83, rfl⟩, rfl, fv82⟩ := hq
    exact pm_iret hG hF dX12_debt_56 rfl (Nat.le_refl _) (Nat.le_refl _) ⟨_, rfl, ⟨_, _, _, rfl, hn, hr, ekc0.trans ekc0.symm, ekc2.trans ekc2.symm, ekc8.trans ekc8.symm, KS.rf⟩, rfl⟩

set_option maxRecDepth 100000 in
set_option maxHeartbeats 4000000 in
theorem m_leaves {d B cnt p0 t0 : Nat} {σ : pm_S} {I : Nat → Int32} {A : Nat → Nat → Int32} {n k z : Nat → Int32} {ac wt pl im : Int32} {ba : Nat} (hdd : 1 ≤ d) (hn : KI n) (hr : NR n) (hz : SZ z) (hba : ba < 20) : pm_met mX12_leaves d 0 0 B [.ref (B + 54), .int (nI ba)] cnt (pm_mid σ (md_L B I A n k z ac wt pl (nI p0) (nI t0) im)) (pm_Qv (fun σ' cnt' => (∃ (n' : Nat → Int32), σ' = pm_mid σ (md_L B I A n' k z ac wt pl (nI p0) (nI t0) im) ∧ KI n' ∧ NR n' ∧ n' 0 = n 0 ∧ n' 2 = n 2 ∧ n' 8 = n 8 ∧ n' (14 * ba + 121) = nI 0 ∧ KSs (14 * ba + 121) (14 * ba + 121) n' n) ∧ cnt = cnt')) := by
  obtain ⟨kc0, hkc0, ekc0⟩ := KI.nat hn (show kd 0 = (1, 11, true) by decide)
  obtain ⟨kc2, hkc2, ekc2⟩ := KI.nat hn (show kd 2 = (1, 21, true) by decide)
  obtain ⟨kc8, hkc8, ekc8⟩ := KI.nat hn (show kd 8 = (1, 2001, false) by decide)
  refine pm_enter 1 (by decide) (Nat.le_of_ble_eq_true rfl) rfl (fun G hG hR hF => ?_)
  refine pm_aloadn hG dX12_leaves_0 rfl ?_
  refine pm_iloadn hG dX12_leaves_1 rfl ?_
  refine pm_bipush (v := nI 11) hG dX12_leaves_2 (by decide) ?_
  refine pm_iconst (v := nI 0) hG dX12_leaves_4 (by decide) ?_
  refine pm_callV (As := [.int (nI ba), .int (nI 11), .int (nI 0)]) (rest := []) hG hR dX12_leaves_5 (lkX12_97 _ rfl) okV_X12_sets rfl rfl (m_sets (d := 0) (e := 14 * ba + 121) (by omega) (by omega) (by omega)) rfl rfl hdd (Nat.le_refl _) (Nat.le_refl _) (by decide) (pm_kv (fun σ' cnt' hq => ?_))
  obtain ⟨rfl, rfl⟩ := hq
  obtain ⟨n_1, en_1⟩ : ∃ f : Nat → Int32, f = upd n (14 * ba + 121) (nI 0) := ⟨_, rfl⟩
  rw [← en_1]
  have hnn_1 := KI.w en_1 hn (okv_n (show kd (14 * ba + 121) = (1, 2, true) from (kd_P (k := ba) (c := 11) (by omega) (by omega) (by decide))) (by omega))
  have hrn_1 := NRx.unseat (p := ba) en_1 hr (by omega)
  have ksn_1 := KSs.w (a := 14 * ba + 121) (b := 14 * ba + 121) en_1 KSs.rf (by unfold tS; omega)
  have e2 : n_1 0 = nI kc0 := by rw [en_1, pk_un (by omega)]; exact ekc0
  have e3 : n_1 2 = nI kc2 := by rw [en_1, pk_un (by omega)]; exact ekc2
  have e4 : n_1 8 = nI kc8 := by rw [en_1, pk_un (by omega)]; exact ekc8
  have e5 : n_1 (14 * ba + 121) = nI 0 := by rw [en_1, pk_us]
  refine pm_iconst (v := nI 0) hG dX12_leaves_8 (by decide) ?_
  refine pm_istoreXn (loc' := [some (.ref (B + 54)), some (.int (nI ba)), some (.int (nI 0))]) hG dX12_leaves_9 (by decide) (pm_c1b rfl) rfl ?_
  have loop10_6 : ∀ (m6 : Nat) (n_6 : Nat → Int32) (i6 : Nat), KI n_6 → KSs (14 * ba + 121) (14 * ba + 121) n_6 n → NRx 40 n_6 → n_6 0 = nI kc0 → n_6 2 = nI kc2 → n_6 8 = nI kc8 → n_6 (14 * ba + 121) = nI 0 → i6 ≤ 30 → 30 - i6 < m6 → pm_wp mX12_leaves G B 10 [some (.ref (B + 54)), some (.int (nI ba)), some (.int (nI i6))] [] 0 0 cnt (pm_mid σ (md_L B I A n_6 k z ac wt pl (nI p0) (nI t0) im)) := by
    intro m6
    induction m6 with
    | zero => intro n_6 i6 _ _ _ _ _ _ _ _ hm; exact absurd hm (Nat.not_lt_zero _)
    | succ m6 ih6 =>
      intro n_6 i6 hnn_6 ksn_6 hrn_6 kc6_0 kc6_2 kc6_8 kt6_6 hi6 hm6
      refine pm_iloadn hG dX12_leaves_10 rfl ?_
      refine pm_aloadn hG dX12_leaves_11 rfl ?_
      refine pm_getf hG dX12_leaves_12 (flX12_7 _ rfl) rfl rfl ?_
      refine pm_bipush (v := nI 7) hG dX12_leaves_15 (by decide) ?_
      refine pm_ialdN hG dX12_leaves_17 rfl (by decide) (by omega) ?_
      obtain ⟨k7, hk7, ek7⟩ := KI.nat hnn_6 (show kd 7 = (1, 31, false) by decide)
      refine pm_top (v := nI k7) ek7 ?_
      refine pm_icmpN_ge (tgt := 53) hG dX12_leaves_18 rfl (by omega) (by omega) (fun c8 => ?_) (fun c8 => ?_)
      · exact pm_vret hG hF dX12_leaves_53 rfl (Nat.le_refl _) (Nat.le_refl _) ⟨rfl, ⟨_, rfl, hnn_6, hrn_6, kc6_0.trans ekc0.symm, kc6_2.trans ekc2.symm, kc6_8.trans ekc8.symm, ⟨kt6_6, ksn_6⟩⟩, rfl⟩
      · refine pm_aloadn hG dX12_leaves_21 rfl ?_
        refine pm_iloadn hG dX12_leaves_22 rfl ?_
        refine pm_iconst (v := nI 0) hG dX12_leaves_23 (by decide) ?_
        refine pm_callV (As := [.int (nI i6), .int (nI 0)]) (rest := []) hG hR dX12_leaves_24 (lkX12_223 _ rfl) okV_X12_promised rfl rfl (m_promised (d := 0) (e := 6 * i6 + 1806) (by omega) (by omega) (by omega)) rfl rfl hdd (Nat.le_refl _) (Nat.le_refl _) (by decide) (pm_ki (fun v9 σ' cnt' hq => ?_))
        obtain ⟨rfl, rfl, rfl⟩ := hq
        obtain ⟨k10, hk10, ek10⟩ := KI.nat hnn_6 (show kd (6 * i6 + 1806) = (1, 20, false) from (kd_Q (k := i6) (c := 0) (by omega) (by omega) (by decide)))
        refine pm_top (v := nI k10) ek10 ?_
        refine pm_iloadn hG dX12_leaves_27 rfl ?_
        refine pm_icmpN_ne (tgt := 47) hG dX12_leaves_28 rfl (by omega) (by omega) (fun c11 => ?_) (fun c11 => ?_)
        · refine pm_iincX (v := nI (i6 + 1)) (loc' := [some (.ref (B + 54)), some (.int (nI ba)), some (.int (nI (i6 + 1)))]) hG dX12_leaves_47 rfl (nI_1 _) (by decide) (pm_c1b rfl) rfl ?_
          refine pm_goto (tgt := 10) hG dX12_leaves_50 rfl ?_
          exact ih6 n_6 (i6 + 1) hnn_6 ksn_6 hrn_6 (kc6_0.trans (congrArg nI (by omega))) (kc6_2.trans (congrArg nI (by omega))) (kc6_8.trans (congrArg nI (by omega))) kt6_6 (by omega) (by omega)
        · refine pm_aloadn hG dX12_leaves_31 rfl ?_
          refine pm_getf hG dX12_leaves_32 (flX12_7 _ rfl) rfl rfl ?_
          refine pm_sipush (v := nI 1806) hG dX12_leaves_35 (by decide) ?_
          refine pm_bipush (v := nI 6) hG dX12_leaves_38 (by decide) ?_
          refine pm_iloadn hG dX12_leaves_40 rfl ?_
          refine pm_imulN (c := 6 * i6) hG dX12_leaves_41 (by omega) ?_
          refine pm_iaddN (c := 6 * i6 + 1806) hG dX12_leaves_42 (by omega) ?_
          refine pm_iconst (v := nI 5) hG dX12_leaves_43 (by decide) ?_
          refine pm_iaddN (c := 6 * i6 + 1811) hG dX12_leaves_44 (by omega) ?_
          refine pm_iconst (v := nI 1) hG dX12_leaves_45 (by decide) ?_
          refine pm_iastN hG dX12_leaves_46 rfl (by decide) (by omega) ?_
          refine mdn_now (fun n_12 en_12 => ?_)
          have hnn_12 := KI.w en_12 hnn_6 (okv_f (show kd (6 * i6 + 1811) = (0, 0, false) from (kd_Q (k := i6) (c := 5) (by omega) (by omega) (by decide))))
          have hrn_12 := NRx.w en_12 hrn_6 (by rw [(show kd (6 * i6 + 1811) = (0, 0, false) from (kd_Q (k := i6) (c := 5) (by omega) (by omega) (by decide)))])
          have ksn_12 := KSs.w (a := 14 * ba + 121) (b := 14 * ba + 121) en_12 ksn_6 (by unfold tS; omega)
          have e13 : n_12 0 = nI kc0 := by rw [en_12, pk_un (by omega)]; exact kc6_0
          have e14 : n_12 2 = nI kc2 := by rw [en_12, pk_un (by omega)]; exact kc6_2
          have e15 : n_12 8 = nI kc8 := by rw [en_12, pk_un (by omega)]; exact kc6_8
          have e16 : n_12 (14 * ba + 121) = nI 0 := by rw [en_12, pk_un (by omega)]; exact kt6_6
          have e17 : n_12 7 = nI k7 := by rw [en_12, pk_un (by omega)]; exact ek7
          have e18 : n_12 (6 * i6 + 1806) = nI k10 := by rw [en_12, pk_un (by omega)]; exact ek10
          have e19 : n_12 (6 * i6 + 1811) = nI 1 := by rw [en_12, pk_us]
          refine pm_iincX (v := nI (i6 + 1)) (loc' := [some (.ref (B + 54)), some (.int (nI ba)), some (.int (nI (i6 + 1)))]) hG dX12_leaves_47 rfl (nI_1 _) (by decide) (pm_c1b rfl) rfl ?_
          refine pm_goto (tgt := 10) hG dX12_leaves_50 rfl ?_
          exact ih6 n_12 (i6 + 1) hnn_12 ksn_12 hrn_12 (e13.trans (congrArg nI (by omega))) (e14.trans (congrArg nI (by omega))) (e15.trans (congrArg nI (by omega))) e16 (by omega) (by omega)
  exact loop10_6 _ n_1 0 hnn_1 ksn_1 hrn_1 (e2.trans (congrArg nI (by omega))) (e3.trans (congrArg nI (by omega))) (e4.trans (congrArg nI (by omega))) e5 (by omega) (Nat.lt_succ_self _)

set_option maxRecDepth 100000 in
set_option maxHeartbeats 4000000 in
theorem m_die {d B cnt p0 t0 : Nat} {σ : pm_S} {I : Nat → Int32} {A : Nat → Nat → Int32} {n k z : Nat → Int32} {ac wt pl im : Int32} {za : Int32} (hdd : 4 ≤ d) (hn : KI n) (hr : NR n) (hz : SZ z)  : pm_met mX12_die d 0 0 B [.ref (B + 54), .int za] cnt (pm_mid σ (md_L B I A n k z ac wt pl (nI p0) (nI t0) im)) (pm_Qi (fun v σ' cnt' => (∃ (I' : Nat → Int32) (A' : Nat → Nat → Int32) (n' : Nat → Int32), σ' = pm_mid σ (md_L B I' A' n' k z ac wt pl (nI p0) (nI t0) im) ∧ KI n' ∧ NR n' ∧ n' 0 = n 0 ∧ n' 2 = n 2 ∧ n' 8 = n 8 ∧ ∀ j : Nat, t7u (n 2).toNatClampNeg j → mT n' j = tX (mT n) (n 2) za j) ∧ cnt = cnt')) := by
  obtain ⟨kc0, hkc0, ekc0⟩ := KI.nat hn (show kd 0 = (1, 11, true) by decide)
  obtain ⟨kc2, hkc2, ekc2⟩ := KI.nat hn (show kd 2 = (1, 21, true) by decide)
  obtain ⟨kc8, hkc8, ekc8⟩ := KI.nat hn (show kd 8 = (1, 2001, false) by decide)
  refine pm_enter 3 (by decide) (Nat.le_of_ble_eq_true rfl) rfl (fun G hG hR hF => ?_)
  refine pm_aloadn hG dX12_die_0 rfl ?_
  refine pm_iloadn hG dX12_die_1 rfl ?_
  refine pm_callV (As := [.int za]) (rest := []) hG hR dX12_die_2 (lkX12_91 _ rfl) okV_X12_isPerson rfl rfl (m_isPerson (d := 3) (by decide) ekc2 (by omega)) rfl rfl hdd (Nat.le_refl _) (Nat.le_refl _) (by decide) (pm_ki (fun v1 σ' cnt' hq => ?_))
  obtain ⟨hq, rfl, rfl⟩ := hq
  rcases hq with ⟨rfl, k3, hk3, ek3⟩ | ⟨rfl, ntk3⟩
  · refine pm_ifN_ne (tgt := 14) hG dX12_die_5 rfl (by omega) (fun _ => ?_) (fun q => absurd q (by omega))
    refine pm_aloadn hG dX12_die_14 rfl ?_
    refine pm_iloadn hG dX12_die_15 rfl ?_
    refine pm_top (v := nI k3) ek3 ?_
    rcases KI.opt hn (show kd (14 * k3 + 119) = (2, 2001, false) from (kd_P (k := k3) (c := 9) (by omega) (by omega) (by decide))) with ek4 | ⟨k4, hk4, ek4⟩
    · refine pm_callV (As := [.int (nI k3)]) (rest := []) hG hR dX12_die_16 (lkX12_101 _ rfl) okV_X12_lives rfl rfl (m_lives1 (d := 3) (by decide) (by omega) (by omega : 14 * k3 + 119 = 14 * k3 + 119) ek4) rfl rfl hdd (Nat.le_refl _) (Nat.le_refl _) (by decide) (pm_ki (fun v5 σ' cnt' hq => ?_))
      obtain ⟨rfl, rfl, rfl⟩ := hq
      refine pm_ifN_ne (tgt := 28) hG dX12_die_19 rfl (by omega) (fun _ => ?_) (fun q => absurd q (by omega))
      refine pm_aloadn hG dX12_die_28 rfl ?_
      refine pm_iloadn hG dX12_die_29 rfl ?_
      refine pm_top (v := nI k3) ek3 ?_
      refine pm_bipush (v := nI 7) hG dX12_die_30 (by decide) ?_
      refine pm_callV (As := [.int (nI k3), .int (nI 7)]) (rest := []) hG hR dX12_die_32 (lkX12_72 _ rfl) okV_X12_man rfl rfl (m_man (d := 3) (e := 14 * k3 + 117) (by omega) (by omega) (by omega)) rfl rfl hdd (Nat.le_refl _) (Nat.le_refl _) (by decide) (pm_ki (fun v6 σ' cnt' hq => ?_))
      obtain ⟨rfl, rfl, rfl⟩ := hq
      refine pm_gen (fun x7 ex7 => ?_)
      refine pm_istoreXn (loc' := [some (.ref (B + 54)), some (.int za), some (.int x7), none, none]) hG dX12_die_35 (by decide) (pm_c1b rfl) rfl ?_
      refine pm_aloadn hG dX12_die_36 rfl ?_
      refine pm_iloadn hG dX12_die_37 rfl ?_
      refine pm_top (v := nI k3) ek3 ?_
      refine pm_bipush (v := nI 10) hG dX12_die_38 (by decide) ?_
      refine pm_aloadn hG dX12_die_40 rfl ?_
      refine pm_iloadn hG dX12_die_41 rfl ?_
      refine pm_top (v := nI k3) ek3 ?_
      refine pm_callV (As := [.int (nI k3)]) (rest := [.int (nI 10), .int (nI k3), .ref (B + 54)]) hG hR dX12_die_42 (lkX12_104 _ rfl) okV_X12_knownTo rfl rfl (m_knownTo (d := 3) (by decide) hn hz (by omega)) rfl rfl hdd (Nat.le_refl _) (Nat.le_refl _) (Nat.le_of_ble_eq_true rfl) (pm_ki (fun v8 σ' cnt' hq => ?_))
      obtain ⟨⟨I9, A9, rfl⟩, rfl⟩ := hq
      refine pm_callV (As := [.int (nI k3), .int (nI 10), .int v8]) (rest := []) hG hR dX12_die_45 (lkX12_97 _ rfl) okV_X12_sets rfl rfl (m_sets (d := 3) (e := 14 * k3 + 120) (by omega) (by omega) (by omega)) rfl rfl hdd (Nat.le_refl _) (Nat.le_refl _) (by decide) (pm_kv (fun σ' cnt' hq => ?_))
      obtain ⟨rfl, rfl⟩ := hq
      obtain ⟨n_10, en_10⟩ : ∃ f : Nat → Int32, f = upd n (14 * k3 + 120) v8 := ⟨_, rfl⟩
      rw [← en_10]
      have hnn_10 := KI.w en_10 hn (okv_f (show kd (14 * k3 + 120) = (0, 0, false) from (kd_P (k := k3) (c := 10) (by omega) (by omega) (by decide))))
      have hrn_10 := NRx.w en_10 hr (by rw [(show kd (14 * k3 + 120) = (0, 0, false) from (kd_P (k := k3) (c := 10) (by omega) (by omega) (by decide)))])
      have ksn_10 := KSs.w (a := 14 * k3 + 119) (b := 14 * k3 + 121) en_10 KSs.rf (by unfold tS; omega)
      have e11 : n_10 0 = nI kc0 := by rw [en_10, pk_un (by omega)]; exact ekc0
      have e12 : n_10 2 = nI kc2 := by rw [en_10, pk_un (by omega)]; exact ekc2
      have e13 : n_10 8 = nI kc8 := by rw [en_10, pk_un (by omega)]; exact ekc8
      have e14 : n_10 (14 * k3 + 119) = (-1) := by rw [en_10, pk_un (by omega)]; exact ek4
      have e15 : n_10 (14 * k3 + 117) = x7 := by rw [en_10, pk_un (by omega)]; exact ex7
      have e16 : n_10 (14 * k3 + 120) = v8 := by rw [en_10, pk_us]
      refine pm_aloadn hG dX12_die_48 rfl ?_
      refine pm_iloadn hG dX12_die_49 rfl ?_
      refine pm_top (v := nI k3) ek3 ?_
      refine pm_bipush (v := nI 9) hG dX12_die_50 (by decide) ?_
      refine pm_aloadn hG dX12_die_52 rfl ?_
      refine pm_getf hG dX12_die_53 (flX12_7 _ rfl) rfl rfl ?_
      refine pm_bipush (v := nI 8) hG dX12_die_56 (by decide) ?_
      refine pm_ialdN hG dX12_die_58 rfl (by decide) (by omega) ?_
      refine pm_top (v := nI kc8) e13 ?_
      refine pm_callV (As := [.int (nI k3), .int (nI 9), .int (nI kc8)]) (rest := []) hG hR dX12_die_59 (lkX12_97 _ rfl) okV_X12_sets rfl rfl (m_sets (d := 3) (e := 14 * k3 + 119) (by omega) (by omega) (by omega)) rfl rfl hdd (Nat.le_refl _) (Nat.le_refl _) (by decide) (pm_kv (fun σ' cnt' hq => ?_))
      obtain ⟨rfl, rfl⟩ := hq
      obtain ⟨n_17, en_17⟩ : ∃ f : Nat → Int32, f = upd n_10 (14 * k3 + 119) (nI kc8) := ⟨_, rfl⟩
      rw [← en_17]
      have hnn_17 := KI.w en_17 hnn_10 (okv_o (show kd (14 * k3 + 119) = (2, 2001, false) from (kd_P (k := k3) (c := 9) (by omega) (by omega) (by decide))) (by omega))
      have hrn_17 := NRx.w en_17 hrn_10 (by rw [(show kd (14 * k3 + 119) = (2, 2001, false) from (kd_P (k := k3) (c := 9) (by omega) (by omega) (by decide)))])
      have ksn_17 := KSs.w (a := 14 * k3 + 119) (b := 14 * k3 + 121) en_17 ksn_10 (by unfold tS; omega)
      have e18 : n_17 0 = nI kc0 := by rw [en_17, pk_un (by omega)]; exact e11
      have e19 : n_17 2 = nI kc2 := by rw [en_17, pk_un (by omega)]; exact e12
      have e20 : n_17 8 = nI kc8 := by rw [en_17, pk_un (by omega)]; exact e13
      have e21 : n_17 (14 * k3 + 117) = x7 := by rw [en_17, pk_un (by omega)]; exact e15
      have e22 : n_17 (14 * k3 + 120) = v8 := by rw [en_17, pk_un (by omega)]; exact e16
      have e23 : n_17 (14 * k3 + 119) = nI kc8 := by rw [en_17, pk_us]
      refine pm_aloadn hG dX12_die_62 rfl ?_
      refine pm_iloadn hG dX12_die_63 rfl ?_
      refine pm_top (v := nI k3) ek3 ?_
      refine pm_bipush (v := nI 7) hG dX12_die_64 (by decide) ?_
      refine pm_iconst (v := nI 0) hG dX12_die_66 (by decide) ?_
      refine pm_callV (As := [.int (nI k3), .int (nI 7), .int (nI 0)]) (rest := []) hG hR dX12_die_67 (lkX12_97 _ rfl) okV_X12_sets rfl rfl (m_sets (d := 3) (e := 14 * k3 + 117) (by omega) (by omega) (by omega)) rfl rfl hdd (Nat.le_refl _) (Nat.le_refl _) (by decide) (pm_kv (fun σ' cnt' hq => ?_))
      obtain ⟨rfl, rfl⟩ := hq
      obtain ⟨n_24, en_24⟩ : ∃ f : Nat → Int32, f = upd n_17 (14 * k3 + 117) (nI 0) := ⟨_, rfl⟩
      rw [← en_24]
      have hnn_24 := KI.w en_24 hnn_17 (okv_f (show kd (14 * k3 + 117) = (0, 0, false) from (kd_P (k := k3) (c := 7) (by omega) (by omega) (by decide))))
      have hrn_24 := NRx.w en_24 hrn_17 (by rw [(show kd (14 * k3 + 117) = (0, 0, false) from (kd_P (k := k3) (c := 7) (by omega) (by omega) (by decide)))])
      have ksn_24 := KSs.w (a := 14 * k3 + 119) (b := 14 * k3 + 121) en_24 ksn_17 (by unfold tS; omega)
      have e25 : n_24 0 = nI kc0 := by rw [en_24, pk_un (by omega)]; exact e18
      have e26 : n_24 2 = nI kc2 := by rw [en_24, pk_un (by omega)]; exact e19
      have e27 : n_24 8 = nI kc8 := by rw [en_24, pk_un (by omega)]; exact e20
      have e28 : n_24 (14 * k3 + 120) = v8 := by rw [en_24, pk_un (by omega)]; exact e22
      have e29 : n_24 (14 * k3 + 119) = nI kc8 := by rw [en_24, pk_un (by omega)]; exact e23
      have e30 : n_24 (14 * k3 + 117) = nI 0 := by rw [en_24, pk_us]
      refine pm_aloadn hG dX12_die_70 rfl ?_
      refine pm_iloadn hG dX12_die_71 rfl ?_
      refine pm_top (v := nI k3) ek3 ?_
      refine pm_bipush (v := nI 8) hG dX12_die_72 (by decide) ?_
      refine pm_iconst (v := nI 0) hG dX12_die_74 (by decide) ?_
      refine pm_callV (As := [.int (nI k3), .int (nI 8), .int (nI 0)]) (rest := []) hG hR dX12_die_75 (lkX12_97 _ rfl) okV_X12_sets rfl rfl (m_sets (d := 3) (e := 14 * k3 + 118) (by omega) (by omega) (by omega)) rfl rfl hdd (Nat.le_refl _) (Nat.le_refl _) (by decide) (pm_kv (fun σ' cnt' hq => ?_))
      obtain ⟨rfl, rfl⟩ := hq
      obtain ⟨n_31, en_31⟩ : ∃ f : Nat → Int32, f = upd n_24 (14 * k3 + 118) (nI 0) := ⟨_, rfl⟩
      rw [← en_31]
      have hnn_31 := KI.w en_31 hnn_24 (okv_f (show kd (14 * k3 + 118) = (0, 0, false) from (kd_P (k := k3) (c := 8) (by omega) (by omega) (by decide))))
      have hrn_31 := NRx.w en_31 hrn_24 (by rw [(show kd (14 * k3 + 118) = (0, 0, false) from (kd_P (k := k3) (c := 8) (by omega) (by omega) (by decide)))])
      have ksn_31 := KSs.w (a := 14 * k3 + 119) (b := 14 * k3 + 121) en_31 ksn_24 (by unfold tS; omega)
      have e32 : n_31 0 = nI kc0 := by rw [en_31, pk_un (by omega)]; exact e25
      have e33 : n_31 2 = nI kc2 := by rw [en_31, pk_un (by omega)]; exact e26
      have e34 : n_31 8 = nI kc8 := by rw [en_31, pk_un (by omega)]; exact e27
      have e35 : n_31 (14 * k3 + 120) = v8 := by rw [en_31, pk_un (by omega)]; exact e28
      have e36 : n_31 (14 * k3 + 119) = nI kc8 := by rw [en_31, pk_un (by omega)]; exact e29
      have e37 : n_31 (14 * k3 + 117) = nI 0 := by rw [en_31, pk_un (by omega)]; exact e30
      have e38 : n_31 (14 * k3 + 118) = nI 0 := by rw [en_31, pk_us]
      refine pm_aloadn hG dX12_die_78 rfl ?_
      refine pm_getf hG dX12_die_79 (flX12_7 _ rfl) rfl rfl ?_
      refine pm_bipush (v := nI 9) hG dX12_die_82 (by decide) ?_
      refine pm_dup2 hG dX12_die_84 rfl rfl ?_
      refine pm_ialdN hG dX12_die_85 rfl (by decide) (by omega) ?_
      refine pm_gen (fun x39 ex39 => ?_)
      refine pm_iloadn hG dX12_die_86 rfl ?_
      refine pm_iadd hG dX12_die_87 ?_
      refine pm_iastN hG dX12_die_88 rfl (by decide) (by omega) ?_
      refine mdn_now (fun n_40 en_40 => ?_)
      have hnn_40 := KI.w en_40 hnn_31 (okv_f (show kd 9 = (0, 0, false) by decide))
      have hrn_40 := NRx.w en_40 hrn_31 (by rw [(show kd 9 = (0, 0, false) by decide)])
      have ksn_40 := KSs.w (a := 14 * k3 + 119) (b := 14 * k3 + 121) en_40 ksn_31 (by unfold tS; omega)
      have e41 : n_40 0 = nI kc0 := by rw [en_40, pk_un (by omega)]; exact e32
      have e42 : n_40 2 = nI kc2 := by rw [en_40, pk_un (by omega)]; exact e33
      have e43 : n_40 8 = nI kc8 := by rw [en_40, pk_un (by omega)]; exact e34
      have e44 : n_40 (14 * k3 + 120) = v8 := by rw [en_40, pk_un (by omega)]; exact e35
      have e45 : n_40 (14 * k3 + 119) = nI kc8 := by rw [en_40, pk_un (by omega)]; exact e36
      have e46 : n_40 (14 * k3 + 117) = nI 0 := by rw [en_40, pk_un (by omega)]; exact e37
      have e47 : n_40 (14 * k3 + 118) = nI 0 := by rw [en_40, pk_un (by omega)]; exact e38
      have e48 : n_40 9 = x39 + x7 := by rw [en_40, pk_us]
      refine pm_aloadn hG dX12_die_89 rfl ?_
      refine pm_iloadn hG dX12_die_90 rfl ?_
      refine pm_top (v := nI k3) ek3 ?_
      refine pm_bipush (v := nI 11) hG dX12_die_91 (by decide) ?_
      refine pm_callV (As := [.int (nI k3), .int (nI 11)]) (rest := []) hG hR dX12_die_93 (lkX12_72 _ rfl) okV_X12_man rfl rfl (m_man (d := 3) (e := 14 * k3 + 121) (by omega) (by omega) (by omega)) rfl rfl hdd (Nat.le_refl _) (Nat.le_refl _) (by decide) (pm_ki (fun v49 σ' cnt' hq => ?_))
      obtain ⟨rfl, rfl, rfl⟩ := hq
      obtain ⟨k50, hk50, ek50⟩ := KI.nat hnn_40 (show kd (14 * k3 + 121) = (1, 2, true) from (kd_P (k := k3) (c := 11) (by omega) (by omega) (by decide)))
      refine pm_top (v := nI k50) ek50 ?_
      refine pm_iconst (v := nI 1) hG dX12_die_96 (by decide) ?_
      refine pm_icmpN_ne (tgt := 105) hG dX12_die_97 rfl (by omega) (by omega) (fun c51 => ?_) (fun c51 => ?_)
      · refine pm_iconst (v := nI 0) hG dX12_die_105 (by decide) ?_
        refine pm_istoreXn (loc' := [some (.ref (B + 54)), some (.int za), some (.int x7), some (.int (nI 0)), none]) hG dX12_die_106 (by decide) (pm_c1b rfl) rfl ?_
        have loop107_52 : ∀ (m52 : Nat) (I52 : Nat → Int32) (A52 : Nat → Nat → Int32) (n_52 : Nat → Int32) (i52 : Nat), KI n_52 → KSs (14 * k3 + 119) (14 * k3 + 121) n_52 n → NRx 40 n_52 → n_52 0 = nI kc0 → n_52 2 = nI kc2 → n_52 8 = nI kc8 → n_52 (14 * k3 + 119) = nI kc8 → n_52 (14 * k3 + 121) = nI k50 → i52 ≤ 20 → 20 - i52 < m52 → pm_wp mX12_die G B 107 [some (.ref (B + 54)), some (.int za), some (.int x7), some (.int (nI i52)), none] [] 0 0 cnt (pm_mid σ (md_L B I52 A52 n_52 k z ac wt pl (nI p0) (nI t0) im)) := by
          intro m52
          induction m52 with
          | zero => intro I52 A52 n_52 i52 _ _ _ _ _ _ _ _ _ hm; exact absurd hm (Nat.not_lt_zero _)
          | succ m52 ih52 =>
            intro I52 A52 n_52 i52 hnn_52 ksn_52 hrn_52 kc52_0 kc52_2 kc52_8 kt52_6 kt52_7 hi52 hm52
            refine pm_iloadn hG dX12_die_107 rfl ?_
            refine pm_aloadn hG dX12_die_108 rfl ?_
            refine pm_getf hG dX12_die_109 (flX12_7 _ rfl) rfl rfl ?_
            refine pm_iconst (v := nI 3) hG dX12_die_112 (by decide) ?_
            refine pm_ialdN hG dX12_die_113 rfl (by decide) (by omega) ?_
            obtain ⟨k53, hk53, ek53⟩ := KI.nat hnn_52 (show kd 3 = (1, 21, false) by decide)
            refine pm_top (v := nI k53) ek53 ?_
            refine pm_icmpN_ge (tgt := 172) hG dX12_die_114 rfl (by omega) (by omega) (fun c54 => ?_) (fun c54 => ?_)
            · refine pm_iloadn hG dX12_die_172 rfl ?_
              exact pm_iret hG hF dX12_die_173 rfl (Nat.le_refl _) (Nat.le_refl _) ⟨_, rfl, ⟨_, _, _, rfl, hnn_52, hrn_52, kc52_0.trans ekc0.symm, kc52_2.trans ekc2.symm, kc52_8.trans ekc8.symm, fun j hj => tX_y ek3 ekc2 (by omega) (by omega) ek4 ksn_52 kt52_6 (by omega) (kt52_7.trans (congrArg nI (show _ = 0 by omega))) j (by rw [ekc2, nI_clamp (by omega)] at hj; exact hj)⟩, rfl⟩
            · refine pm_aloadn hG dX12_die_117 rfl ?_
              refine pm_iloadn hG dX12_die_118 rfl ?_
              refine pm_iconst (v := nI 1) hG dX12_die_119 (by decide) ?_
              refine pm_callV (As := [.int (nI i52), .int (nI 1)]) (rest := []) hG hR dX12_die_120 (lkX12_110 _ rfl) okV_X12_its rfl rfl (m_its (d := 3) (e := 6 * i52 + 391) (by omega) (by omega) (by omega)) rfl rfl hdd (Nat.le_refl _) (Nat.le_refl _) (by decide) (pm_ki (fun v55 σ' cnt' hq => ?_))
              obtain ⟨rfl, rfl, rfl⟩ := hq
              rcases KI.opt hnn_52 (show kd (6 * i52 + 391) = (2, 20, false) from (kd_W (k := i52) (c := 1) (by omega) (by omega) (by decide))) with ek56 | ⟨k56, hk56, ek56⟩
              · refine pm_top (v := (-1)) ek56 ?_
                refine pm_iloadn hG dX12_die_123 rfl ?_
                refine pm_top (v := nI k3) ek3 ?_
                refine pm_icmp_ne (tgt := 131) hG dX12_die_124 rfl (fun _ => ?_) (fun q => absurd q ((fun q => nI_m1 (by omega) q.symm)))
                refine pm_iconst (v := nI 0) hG dX12_die_131 (by decide) ?_
                refine pm_istoreXi (loc' := [some (.ref (B + 54)), some (.int za), some (.int x7), some (.int (nI i52)), some (.int (nI 0))]) hG dX12_die_132 (by decide) (pm_c1b rfl) rfl ?_
                refine pm_iloadi hG dX12_die_134 rfl ?_
                refine pm_ifN_eq (tgt := 146) hG dX12_die_136 rfl (by omega) (fun _ => ?_) (fun q => absurd q (by omega))
                refine pm_iloadi hG dX12_die_146 rfl ?_
                refine pm_ifN_ne (tgt := 161) hG dX12_die_148 rfl (by omega) (fun q => absurd q (by omega)) (fun _ => ?_)
                refine pm_aloadn hG dX12_die_151 rfl ?_
                refine pm_iloadn hG dX12_die_152 rfl ?_
                refine pm_iconst (v := nI 2) hG dX12_die_153 (by decide) ?_
                refine pm_callV (As := [.int (nI i52), .int (nI 2)]) (rest := []) hG hR dX12_die_154 (lkX12_110 _ rfl) okV_X12_its rfl rfl (m_its (d := 3) (e := 6 * i52 + 392) (by omega) (by omega) (by omega)) rfl rfl hdd (Nat.le_refl _) (Nat.le_refl _) (by decide) (pm_ki (fun v57 σ' cnt' hq => ?_))
                obtain ⟨rfl, rfl, rfl⟩ := hq
                rcases KI.opt hnn_52 (show kd (6 * i52 + 392) = (2, 20, false) from (kd_W (k := i52) (c := 2) (by omega) (by omega) (by decide))) with ek58 | ⟨k58, hk58, ek58⟩
                · refine pm_top (v := (-1)) ek58 ?_
                  refine pm_iloadn hG dX12_die_157 rfl ?_
                  refine pm_top (v := nI k3) ek3 ?_
                  refine pm_icmp_ne (tgt := 166) hG dX12_die_158 rfl (fun _ => ?_) (fun q => absurd q ((fun q => nI_m1 (by omega) q.symm)))
                  refine pm_iincX (v := nI (i52 + 1)) (loc' := [some (.ref (B + 54)), some (.int za), some (.int x7), some (.int (nI (i52 + 1))), some (.int (nI 0))]) hG dX12_die_166 rfl (nI_1 _) (by decide) (pm_c1b rfl) rfl ?_
                  refine pm_goto (tgt := 107) hG dX12_die_169 rfl ?_
                  refine pm_fg 4 (loc' := [some (.ref (B + 54)), some (.int za), some (.int x7), some (.int (nI (i52 + 1))), none]) rfl ?_
                  exact ih52 I52 A52 n_52 (i52 + 1) hnn_52 ksn_52 hrn_52 (kc52_0.trans (congrArg nI (by omega))) (kc52_2.trans (congrArg nI (by omega))) (kc52_8.trans (congrArg nI (by omega))) kt52_6 kt52_7 (by omega) (by omega)
                · refine pm_top (v := nI k58) ek58 ?_
                  refine pm_iloadn hG dX12_die_157 rfl ?_
                  refine pm_top (v := nI k3) ek3 ?_
                  refine pm_icmpN_ne (tgt := 166) hG dX12_die_158 rfl (by omega) (by omega) (fun c59 => ?_) (fun c59 => ?_)
                  · refine pm_iincX (v := nI (i52 + 1)) (loc' := [some (.ref (B + 54)), some (.int za), some (.int x7), some (.int (nI (i52 + 1))), some (.int (nI 0))]) hG dX12_die_166 rfl (nI_1 _) (by decide) (pm_c1b rfl) rfl ?_
                    refine pm_goto (tgt := 107) hG dX12_die_169 rfl ?_
                    refine pm_fg 4 (loc' := [some (.ref (B + 54)), some (.int za), some (.int x7), some (.int (nI (i52 + 1))), none]) rfl ?_
                    exact ih52 I52 A52 n_52 (i52 + 1) hnn_52 ksn_52 hrn_52 (kc52_0.trans (congrArg nI (by omega))) (kc52_2.trans (congrArg nI (by omega))) (kc52_8.trans (congrArg nI (by omega))) kt52_6 kt52_7 (by omega) (by omega)
                  · refine pm_aloadn hG dX12_die_161 rfl ?_
                    refine pm_iloadn hG dX12_die_162 rfl ?_
                    refine pm_callV (As := [.int (nI i52)]) (rest := []) hG hR dX12_die_163 (lkX12_116 _ rfl) okV_X12_comesBack rfl rfl (m_comesBack (d := 3) (e := 6 * i52 + 392) (e2 := 6 * i52 + 393) (by decide) (by omega) (by omega) (by omega)) rfl rfl hdd (Nat.le_refl _) (Nat.le_refl _) (by decide) (pm_kv (fun σ' cnt' hq => ?_))
                    obtain ⟨rfl, rfl⟩ := hq
                    obtain ⟨n_60, en_60⟩ : ∃ f : Nat → Int32, f = upd n_52 (6 * i52 + 392) (-1) := ⟨_, rfl⟩
                    rw [← en_60]
                    have hnn_60 := KI.w en_60 hnn_52 (okv_m (show kd (6 * i52 + 392) = (2, 20, false) from (kd_W (k := i52) (c := 2) (by omega) (by omega) (by decide))))
                    have hrn_60 := NRx.w en_60 hrn_52 (by rw [(show kd (6 * i52 + 392) = (2, 20, false) from (kd_W (k := i52) (c := 2) (by omega) (by omega) (by decide)))])
                    have ksn_60 := KSs.w (a := 14 * k3 + 119) (b := 14 * k3 + 121) en_60 ksn_52 (by unfold tS; omega)
                    have e61 : n_60 0 = nI kc0 := by rw [en_60, pk_un (by omega)]; exact kc52_0
                    have e62 : n_60 2 = nI kc2 := by rw [en_60, pk_un (by omega)]; exact kc52_2
                    have e63 : n_60 8 = nI kc8 := by rw [en_60, pk_un (by omega)]; exact kc52_8
                    have e64 : n_60 (14 * k3 + 119) = nI kc8 := by rw [en_60, pk_un (by omega)]; exact kt52_6
                    have e65 : n_60 (14 * k3 + 121) = nI k50 := by rw [en_60, pk_un (by omega)]; exact kt52_7
                    have e66 : n_60 3 = nI k53 := by rw [en_60, pk_un (by omega)]; exact ek53
                    have e67 : n_60 (6 * i52 + 391) = (-1) := by rw [en_60, pk_un (by omega)]; exact ek56
                    have e68 : n_60 (6 * i52 + 392) = (-1) := by rw [en_60, pk_us]
                    obtain ⟨n_69, en_69⟩ : ∃ f : Nat → Int32, f = upd n_60 (6 * i52 + 393) (-1) := ⟨_, rfl⟩
                    rw [← en_69]
                    have hnn_69 := KI.w en_69 hnn_60 (okv_f (show kd (6 * i52 + 393) = (0, 0, false) from (kd_W (k := i52) (c := 3) (by omega) (by omega) (by decide))))
                    have hrn_69 := NRx.w en_69 hrn_60 (by rw [(show kd (6 * i52 + 393) = (0, 0, false) from (kd_W (k := i52) (c := 3) (by omega) (by omega) (by decide)))])
                    have ksn_69 := KSs.w (a := 14 * k3 + 119) (b := 14 * k3 + 121) en_69 ksn_60 (by unfold tS; omega)
                    have e70 : n_69 0 = nI kc0 := by rw [en_69, pk_un (by omega)]; exact e61
                    have e71 : n_69 2 = nI kc2 := by rw [en_69, pk_un (by omega)]; exact e62
                    have e72 : n_69 8 = nI kc8 := by rw [en_69, pk_un (by omega)]; exact e63
                    have e73 : n_69 (14 * k3 + 119) = nI kc8 := by rw [en_69, pk_un (by omega)]; exact e64
                    have e74 : n_69 (14 * k3 + 121) = nI k50 := by rw [en_69, pk_un (by omega)]; exact e65
                    have e75 : n_69 3 = nI k53 := by rw [en_69, pk_un (by omega)]; exact e66
                    have e76 : n_69 (6 * i52 + 391) = (-1) := by rw [en_69, pk_un (by omega)]; exact e67
                    have e77 : n_69 (6 * i52 + 392) = (-1) := by rw [en_69, pk_un (by omega)]; exact e68
                    have e78 : n_69 (6 * i52 + 393) = (-1) := by rw [en_69, pk_us]
                    refine pm_iincX (v := nI (i52 + 1)) (loc' := [some (.ref (B + 54)), some (.int za), some (.int x7), some (.int (nI (i52 + 1))), some (.int (nI 0))]) hG dX12_die_166 rfl (nI_1 _) (by decide) (pm_c1b rfl) rfl ?_
                    refine pm_goto (tgt := 107) hG dX12_die_169 rfl ?_
                    refine pm_fg 4 (loc' := [some (.ref (B + 54)), some (.int za), some (.int x7), some (.int (nI (i52 + 1))), none]) rfl ?_
                    exact ih52 I52 A52 n_69 (i52 + 1) hnn_69 ksn_69 hrn_69 (e70.trans (congrArg nI (by omega))) (e71.trans (congrArg nI (by omega))) (e72.trans (congrArg nI (by omega))) e73 e74 (by omega) (by omega)
              · refine pm_top (v := nI k56) ek56 ?_
                refine pm_iloadn hG dX12_die_123 rfl ?_
                refine pm_top (v := nI k3) ek3 ?_
                refine pm_icmpN_ne (tgt := 131) hG dX12_die_124 rfl (by omega) (by omega) (fun c79 => ?_) (fun c79 => ?_)
                · refine pm_iconst (v := nI 0) hG dX12_die_131 (by decide) ?_
                  refine pm_istoreXi (loc' := [some (.ref (B + 54)), some (.int za), some (.int x7), some (.int (nI i52)), some (.int (nI 0))]) hG dX12_die_132 (by decide) (pm_c1b rfl) rfl ?_
                  refine pm_iloadi hG dX12_die_134 rfl ?_
                  refine pm_ifN_eq (tgt := 146) hG dX12_die_136 rfl (by omega) (fun _ => ?_) (fun q => absurd q (by omega))
                  refine pm_iloadi hG dX12_die_146 rfl ?_
                  refine pm_ifN_ne (tgt := 161) hG dX12_die_148 rfl (by omega) (fun q => absurd q (by omega)) (fun _ => ?_)
                  refine pm_aloadn hG dX12_die_151 rfl ?_
                  refine pm_iloadn hG dX12_die_152 rfl ?_
                  refine pm_iconst (v := nI 2) hG dX12_die_153 (by decide) ?_
                  refine pm_callV (As := [.int (nI i52), .int (nI 2)]) (rest := []) hG hR dX12_die_154 (lkX12_110 _ rfl) okV_X12_its rfl rfl (m_its (d := 3) (e := 6 * i52 + 392) (by omega) (by omega) (by omega)) rfl rfl hdd (Nat.le_refl _) (Nat.le_refl _) (by decide) (pm_ki (fun v80 σ' cnt' hq => ?_))
                  obtain ⟨rfl, rfl, rfl⟩ := hq
                  rcases KI.opt hnn_52 (show kd (6 * i52 + 392) = (2, 20, false) from (kd_W (k := i52) (c := 2) (by omega) (by omega) (by decide))) with ek81 | ⟨k81, hk81, ek81⟩
                  · refine pm_top (v := (-1)) ek81 ?_
                    refine pm_iloadn hG dX12_die_157 rfl ?_
                    refine pm_top (v := nI k3) ek3 ?_
                    refine pm_icmp_ne (tgt := 166) hG dX12_die_158 rfl (fun _ => ?_) (fun q => absurd q ((fun q => nI_m1 (by omega) q.symm)))
                    refine pm_iincX (v := nI (i52 + 1)) (loc' := [some (.ref (B + 54)), some (.int za), some (.int x7), some (.int (nI (i52 + 1))), some (.int (nI 0))]) hG dX12_die_166 rfl (nI_1 _) (by decide) (pm_c1b rfl) rfl ?_
                    refine pm_goto (tgt := 107) hG dX12_die_169 rfl ?_
                    refine pm_fg 4 (loc' := [some (.ref (B + 54)), some (.int za), some (.int x7), some (.int (nI (i52 + 1))), none]) rfl ?_
                    exact ih52 I52 A52 n_52 (i52 + 1) hnn_52 ksn_52 hrn_52 (kc52_0.trans (congrArg nI (by omega))) (kc52_2.trans (congrArg nI (by omega))) (kc52_8.trans (congrArg nI (by omega))) kt52_6 kt52_7 (by omega) (by omega)
                  · refine pm_top (v := nI k81) ek81 ?_
                    refine pm_iloadn hG dX12_die_157 rfl ?_
                    refine pm_top (v := nI k3) ek3 ?_
                    refine pm_icmpN_ne (tgt := 166) hG dX12_die_158 rfl (by omega) (by omega) (fun c82 => ?_) (fun c82 => ?_)
                    · refine pm_iincX (v := nI (i52 + 1)) (loc' := [some (.ref (B + 54)), some (.int za), some (.int x7), some (.int (nI (i52 + 1))), some (.int (nI 0))]) hG dX12_die_166 rfl (nI_1 _) (by decide) (pm_c1b rfl) rfl ?_
                      refine pm_goto (tgt := 107) hG dX12_die_169 rfl ?_
                      refine pm_fg 4 (loc' := [some (.ref (B + 54)), some (.int za), some (.int x7), some (.int (nI (i52 + 1))), none]) rfl ?_
                      exact ih52 I52 A52 n_52 (i52 + 1) hnn_52 ksn_52 hrn_52 (kc52_0.trans (congrArg nI (by omega))) (kc52_2.trans (congrArg nI (by omega))) (kc52_8.trans (congrArg nI (by omega))) kt52_6 kt52_7 (by omega) (by omega)
                    · refine pm_aloadn hG dX12_die_161 rfl ?_
                      refine pm_iloadn hG dX12_die_162 rfl ?_
                      refine pm_callV (As := [.int (nI i52)]) (rest := []) hG hR dX12_die_163 (lkX12_116 _ rfl) okV_X12_comesBack rfl rfl (m_comesBack (d := 3) (e := 6 * i52 + 392) (e2 := 6 * i52 + 393) (by decide) (by omega) (by omega) (by omega)) rfl rfl hdd (Nat.le_refl _) (Nat.le_refl _) (by decide) (pm_kv (fun σ' cnt' hq => ?_))
                      obtain ⟨rfl, rfl⟩ := hq
                      obtain ⟨n_83, en_83⟩ : ∃ f : Nat → Int32, f = upd n_52 (6 * i52 + 392) (-1) := ⟨_, rfl⟩
                      rw [← en_83]
                      have hnn_83 := KI.w en_83 hnn_52 (okv_m (show kd (6 * i52 + 392) = (2, 20, false) from (kd_W (k := i52) (c := 2) (by omega) (by omega) (by decide))))
                      have hrn_83 := NRx.w en_83 hrn_52 (by rw [(show kd (6 * i52 + 392) = (2, 20, false) from (kd_W (k := i52) (c := 2) (by omega) (by omega) (by decide)))])
                      have ksn_83 := KSs.w (a := 14 * k3 + 119) (b := 14 * k3 + 121) en_83 ksn_52 (by unfold tS; omega)
                      have e84 : n_83 0 = nI kc0 := by rw [en_83, pk_un (by omega)]; exact kc52_0
                      have e85 : n_83 2 = nI kc2 := by rw [en_83, pk_un (by omega)]; exact kc52_2
                      have e86 : n_83 8 = nI kc8 := by rw [en_83, pk_un (by omega)]; exact kc52_8
                      have e87 : n_83 (14 * k3 + 119) = nI kc8 := by rw [en_83, pk_un (by omega)]; exact kt52_6
                      have e88 : n_83 (14 * k3 + 121) = nI k50 := by rw [en_83, pk_un (by omega)]; exact kt52_7
                      have e89 : n_83 3 = nI k53 := by rw [en_83, pk_un (by omega)]; exact ek53
                      have e90 : n_83 (6 * i52 + 391) = nI k56 := by rw [en_83, pk_un (by omega)]; exact ek56
                      have e91 : n_83 (6 * i52 + 392) = (-1) := by rw [en_83, pk_us]
                      obtain ⟨n_92, en_92⟩ : ∃ f : Nat → Int32, f = upd n_83 (6 * i52 + 393) (-1) := ⟨_, rfl⟩
                      rw [← en_92]
                      have hnn_92 := KI.w en_92 hnn_83 (okv_f (show kd (6 * i52 + 393) = (0, 0, false) from (kd_W (k := i52) (c := 3) (by omega) (by omega) (by decide))))
                      have hrn_92 := NRx.w en_92 hrn_83 (by rw [(show kd (6 * i52 + 393) = (0, 0, false) from (kd_W (k := i52) (c := 3) (by omega) (by omega) (by decide)))])
                      have ksn_92 := KSs.w (a := 14 * k3 + 119) (b := 14 * k3 + 121) en_92 ksn_83 (by unfold tS; omega)
                      have e93 : n_92 0 = nI kc0 := by rw [en_92, pk_un (by omega)]; exact e84
                      have e94 : n_92 2 = nI kc2 := by rw [en_92, pk_un (by omega)]; exact e85
                      have e95 : n_92 8 = nI kc8 := by rw [en_92, pk_un (by omega)]; exact e86
                      have e96 : n_92 (14 * k3 + 119) = nI kc8 := by rw [en_92, pk_un (by omega)]; exact e87
                      have e97 : n_92 (14 * k3 + 121) = nI k50 := by rw [en_92, pk_un (by omega)]; exact e88
                      have e98 : n_92 3 = nI k53 := by rw [en_92, pk_un (by omega)]; exact e89
                      have e99 : n_92 (6 * i52 + 391) = nI k56 := by rw [en_92, pk_un (by omega)]; exact e90
                      have e100 : n_92 (6 * i52 + 392) = (-1) := by rw [en_92, pk_un (by omega)]; exact e91
                      have e101 : n_92 (6 * i52 + 393) = (-1) := by rw [en_92, pk_us]
                      refine pm_iincX (v := nI (i52 + 1)) (loc' := [some (.ref (B + 54)), some (.int za), some (.int x7), some (.int (nI (i52 + 1))), some (.int (nI 0))]) hG dX12_die_166 rfl (nI_1 _) (by decide) (pm_c1b rfl) rfl ?_
                      refine pm_goto (tgt := 107) hG dX12_die_169 rfl ?_
                      refine pm_fg 4 (loc' := [some (.ref (B + 54)), some (.int za), some (.int x7), some (.int (nI (i52 + 1))), none]) rfl ?_
                      exact ih52 I52 A52 n_92 (i52 + 1) hnn_92 ksn_92 hrn_92 (e93.trans (congrArg nI (by omega))) (e94.trans (congrArg nI (by omega))) (e95.trans (congrArg nI (by omega))) e96 e97 (by omega) (by omega)
                · refine pm_iconst (v := nI 1) hG dX12_die_127 (by decide) ?_
                  refine pm_goto (tgt := 132) hG dX12_die_128 rfl ?_
                  refine pm_istoreXi (loc' := [some (.ref (B + 54)), some (.int za), some (.int x7), some (.int (nI i52)), some (.int (nI 1))]) hG dX12_die_132 (by decide) (pm_c1b rfl) rfl ?_
                  refine pm_iloadi hG dX12_die_134 rfl ?_
                  refine pm_ifN_eq (tgt := 146) hG dX12_die_136 rfl (by omega) (fun q => absurd q (by omega)) (fun _ => ?_)
                  refine pm_aloadn hG dX12_die_139 rfl ?_
                  refine pm_iloadn hG dX12_die_140 rfl ?_
                  refine pm_iconst (v := nI 1) hG dX12_die_141 (by decide) ?_
                  refine pm_iconst (v := (-1)) hG dX12_die_142 (by decide) ?_
                  refine pm_callV (As := [.int (nI i52), .int (nI 1), .int (-1)]) (rest := []) hG hR dX12_die_143 (lkX12_113 _ rfl) okV_X12_makes rfl rfl (m_makes (d := 3) (e := 6 * i52 + 391) (by omega) (by omega) (by omega)) rfl rfl hdd (Nat.le_refl _) (Nat.le_refl _) (by decide) (pm_kv (fun σ' cnt' hq => ?_))
                  obtain ⟨rfl, rfl⟩ := hq
                  obtain ⟨n_102, en_102⟩ : ∃ f : Nat → Int32, f = upd n_52 (6 * i52 + 391) (-1) := ⟨_, rfl⟩
                  rw [← en_102]
                  have hnn_102 := KI.w en_102 hnn_52 (okv_m (show kd (6 * i52 + 391) = (2, 20, false) from (kd_W (k := i52) (c := 1) (by omega) (by omega) (by decide))))
                  have hrn_102 := NRx.w en_102 hrn_52 (by rw [(show kd (6 * i52 + 391) = (2, 20, false) from (kd_W (k := i52) (c := 1) (by omega) (by omega) (by decide)))])
                  have ksn_102 := KSs.w (a := 14 * k3 + 119) (b := 14 * k3 + 121) en_102 ksn_52 (by unfold tS; omega)
                  have e103 : n_102 0 = nI kc0 := by rw [en_102, pk_un (by omega)]; exact kc52_0
                  have e104 : n_102 2 = nI kc2 := by rw [en_102, pk_un (by omega)]; exact kc52_2
                  have e105 : n_102 8 = nI kc8 := by rw [en_102, pk_un (by omega)]; exact kc52_8
                  have e106 : n_102 (14 * k3 + 119) = nI kc8 := by rw [en_102, pk_un (by omega)]; exact kt52_6
                  have e107 : n_102 (14 * k3 + 121) = nI k50 := by rw [en_102, pk_un (by omega)]; exact kt52_7
                  have e108 : n_102 3 = nI k53 := by rw [en_102, pk_un (by omega)]; exact ek53
                  have e109 : n_102 (6 * i52 + 391) = (-1) := by rw [en_102, pk_us]
                  refine pm_iloadi hG dX12_die_146 rfl ?_
                  refine pm_ifN_ne (tgt := 161) hG dX12_die_148 rfl (by omega) (fun _ => ?_) (fun q => absurd q (by omega))
                  refine pm_aloadn hG dX12_die_161 rfl ?_
                  refine pm_iloadn hG dX12_die_162 rfl ?_
                  refine pm_callV (As := [.int (nI i52)]) (rest := []) hG hR dX12_die_163 (lkX12_116 _ rfl) okV_X12_comesBack rfl rfl (m_comesBack (d := 3) (e := 6 * i52 + 392) (e2 := 6 * i52 + 393) (by decide) (by omega) (by omega) (by omega)) rfl rfl hdd (Nat.le_refl _) (Nat.le_refl _) (by decide) (pm_kv (fun σ' cnt' hq => ?_))
                  obtain ⟨rfl, rfl⟩ := hq
                  obtain ⟨n_110, en_110⟩ : ∃ f : Nat → Int32, f = upd n_102 (6 * i52 + 392) (-1) := ⟨_, rfl⟩
                  rw [← en_110]
                  have hnn_110 := KI.w en_110 hnn_102 (okv_m (show kd (6 * i52 + 392) = (2, 20, false) from (kd_W (k := i52) (c := 2) (by omega) (by omega) (by decide))))
                  have hrn_110 := NRx.w en_110 hrn_102 (by rw [(show kd (6 * i52 + 392) = (2, 20, false) from (kd_W (k := i52) (c := 2) (by omega) (by omega) (by decide)))])
                  have ksn_110 := KSs.w (a := 14 * k3 + 119) (b := 14 * k3 + 121) en_110 ksn_102 (by unfold tS; omega)
                  have e111 : n_110 0 = nI kc0 := by rw [en_110, pk_un (by omega)]; exact e103
                  have e112 : n_110 2 = nI kc2 := by rw [en_110, pk_un (by omega)]; exact e104
                  have e113 : n_110 8 = nI kc8 := by rw [en_110, pk_un (by omega)]; exact e105
                  have e114 : n_110 (14 * k3 + 119) = nI kc8 := by rw [en_110, pk_un (by omega)]; exact e106
                  have e115 : n_110 (14 * k3 + 121) = nI k50 := by rw [en_110, pk_un (by omega)]; exact e107
                  have e116 : n_110 3 = nI k53 := by rw [en_110, pk_un (by omega)]; exact e108
                  have e117 : n_110 (6 * i52 + 391) = (-1) := by rw [en_110, pk_un (by omega)]; exact e109
                  have e118 : n_110 (6 * i52 + 392) = (-1) := by rw [en_110, pk_us]
                  obtain ⟨n_119, en_119⟩ : ∃ f : Nat → Int32, f = upd n_110 (6 * i52 + 393) (-1) := ⟨_, rfl⟩
                  rw [← en_119]
                  have hnn_119 := KI.w en_119 hnn_110 (okv_f (show kd (6 * i52 + 393) = (0, 0, false) from (kd_W (k := i52) (c := 3) (by omega) (by omega) (by decide))))
                  have hrn_119 := NRx.w en_119 hrn_110 (by rw [(show kd (6 * i52 + 393) = (0, 0, false) from (kd_W (k := i52) (c := 3) (by omega) (by omega) (by decide)))])
                  have ksn_119 := KSs.w (a := 14 * k3 + 119) (b := 14 * k3 + 121) en_119 ksn_110 (by unfold tS; omega)
                  have e120 : n_119 0 = nI kc0 := by rw [en_119, pk_un (by omega)]; exact e111
                  have e121 : n_119 2 = nI kc2 := by rw [en_119, pk_un (by omega)]; exact e112
                  have e122 : n_119 8 = nI kc8 := by rw [en_119, pk_un (by omega)]; exact e113
                  have e123 : n_119 (14 * k3 + 119) = nI kc8 := by rw [en_119, pk_un (by omega)]; exact e114
                  have e124 : n_119 (14 * k3 + 121) = nI k50 := by rw [en_119, pk_un (by omega)]; exact e115
                  have e125 : n_119 3 = nI k53 := by rw [en_119, pk_un (by omega)]; exact e116
                  have e126 : n_119 (6 * i52 + 391) = (-1) := by rw [en_119, pk_un (by omega)]; exact e117
                  have e127 : n_119 (6 * i52 + 392) = (-1) := by rw [en_119, pk_un (by omega)]; exact e118
                  have e128 : n_119 (6 * i52 + 393) = (-1) := by rw [en_119, pk_us]
                  refine pm_iincX (v := nI (i52 + 1)) (loc' := [some (.ref (B + 54)), some (.int za), some (.int x7), some (.int (nI (i52 + 1))), some (.int (nI 1))]) hG dX12_die_166 rfl (nI_1 _) (by decide) (pm_c1b rfl) rfl ?_
                  refine pm_goto (tgt := 107) hG dX12_die_169 rfl ?_
                  refine pm_fg 4 (loc' := [some (.ref (B + 54)), some (.int za), some (.int x7), some (.int (nI (i52 + 1))), none]) rfl ?_
                  exact ih52 I52 A52 n_119 (i52 + 1) hnn_119 ksn_119 hrn_119 (e120.trans (congrArg nI (by omega))) (e121.trans (congrArg nI (by omega))) (e122.trans (congrArg nI (by omega))) e123 e124 (by omega) (by omega)
        exact loop107_52 _ I9 A9 n_40 0 hnn_40 ksn_40 hrn_40 (e41.trans (congrArg nI (by omega))) (e42.trans (congrArg nI (by omega))) (e43.trans (congrArg nI (by omega))) e45 ek50 (by omega) (Nat.lt_succ_self _)
      · refine pm_aloadn hG dX12_die_100 rfl ?_
        refine pm_iloadn hG dX12_die_101 rfl ?_
        refine pm_top (v := nI k3) ek3 ?_
        refine pm_callV (As := [.int (nI k3)]) (rest := []) hG hR dX12_die_102 (lkX12_107 _ rfl) okV_X12_leaves rfl rfl (m_leaves (d := 3) (by decide) hnn_40 hrn_40 hz (by omega)) rfl rfl hdd (Nat.le_refl _) (Nat.le_refl _) (by decide) (pm_kv (fun σ' cnt' hq => ?_))
        obtain ⟨⟨n_130, rfl, hn130, hr130, hc130_0, hc130_2, hc130_8, hx130⟩, rfl⟩ := hq
        have e131 : n_130 (14 * k3 + 119) = nI kc8 := (hx130.2 _ (by unfold tS; omega) (by omega) (by omega)).trans e45
        have ks_132 := KSs.tr (a := 14 * k3 + 119) (b := 14 * k3 + 121) hx130.2 ksn_40 (by omega)
        have e133 : n_130 0 = nI kc0 := hc130_0.trans e41
        have e134 : n_130 2 = nI kc2 := hc130_2.trans e42
        have e135 : n_130 8 = nI kc8 := hc130_8.trans e43
        refine pm_iconst (v := nI 0) hG dX12_die_105 (by decide) ?_
        refine pm_istoreXn (loc' := [some (.ref (B + 54)), some (.int za), some (.int x7), some (.int (nI 0)), none]) hG dX12_die_106 (by decide) (pm_c1b rfl) rfl ?_
        have loop107_136 : ∀ (m136 : Nat) (I136 : Nat → Int32) (A136 : Nat → Nat → Int32) (n_136 : Nat → Int32) (i136 : Nat), KI n_136 → KSs (14 * k3 + 119) (14 * k3 + 121) n_136 n → NRx 40 n_136 → n_136 0 = nI kc0 → n_136 2 = nI kc2 → n_136 8 = nI kc8 → n_136 (14 * k3 + 119) = nI kc8 → n_136 (14 * k3 + 121) = nI 0 → i136 ≤ 20 → 20 - i136 < m136 → pm_wp mX12_die G B 107 [some (.ref (B + 54)), some (.int za), some (.int x7), some (.int (nI i136)), none] [] 0 0 cnt (pm_mid σ (md_L B I136 A136 n_136 k z ac wt pl (nI p0) (nI t0) im)) := by
          intro m136
          induction m136 with
          | zero => intro I136 A136 n_136 i136 _ _ _ _ _ _ _ _ _ hm; exact absurd hm (Nat.not_lt_zero _)
          | succ m136 ih136 =>
            intro I136 A136 n_136 i136 hnn_136 ksn_136 hrn_136 kc136_0 kc136_2 kc136_8 kt136_6 kt136_7 hi136 hm136
            refine pm_iloadn hG dX12_die_107 rfl ?_
            refine pm_aloadn hG dX12_die_108 rfl ?_
            refine pm_getf hG dX12_die_109 (flX12_7 _ rfl) rfl rfl ?_
            refine pm_iconst (v := nI 3) hG dX12_die_112 (by decide) ?_
            refine pm_ialdN hG dX12_die_113 rfl (by decide) (by omega) ?_
            obtain ⟨k137, hk137, ek137⟩ := KI.nat hnn_136 (show kd 3 = (1, 21, false) by decide)
            refine pm_top (v := nI k137) ek137 ?_
            refine pm_icmpN_ge (tgt := 172) hG dX12_die_114 rfl (by omega) (by omega) (fun c138 => ?_) (fun c138 => ?_)
            · refine pm_iloadn hG dX12_die_172 rfl ?_
              exact pm_iret hG hF dX12_die_173 rfl (Nat.le_refl _) (Nat.le_refl _) ⟨_, rfl, ⟨_, _, _, rfl, hnn_136, hrn_136, kc136_0.trans ekc0.symm, kc136_2.trans ekc2.symm, kc136_8.trans ekc8.symm, fun j hj => tX_y ek3 ekc2 (by omega) (by omega) ek4 ksn_136 kt136_6 (by omega) kt136_7 j (by rw [ekc2, nI_clamp (by omega)] at hj; exact hj)⟩, rfl⟩
            · refine pm_aloadn hG dX12_die_117 rfl ?_
              refine pm_iloadn hG dX12_die_118 rfl ?_
              refine pm_iconst (v := nI 1) hG dX12_die_119 (by decide) ?_
              refine pm_callV (As := [.int (nI i136), .int (nI 1)]) (rest := []) hG hR dX12_die_120 (lkX12_110 _ rfl) okV_X12_its rfl rfl (m_its (d := 3) (e := 6 * i136 + 391) (by omega) (by omega) (by omega)) rfl rfl hdd (Nat.le_refl _) (Nat.le_refl _) (by decide) (pm_ki (fun v139 σ' cnt' hq => ?_))
              obtain ⟨rfl, rfl, rfl⟩ := hq
              rcases KI.opt hnn_136 (show kd (6 * i136 + 391) = (2, 20, false) from (kd_W (k := i136) (c := 1) (by omega) (by omega) (by decide))) with ek140 | ⟨k140, hk140, ek140⟩
              · refine pm_top (v := (-1)) ek140 ?_
                refine pm_iloadn hG dX12_die_123 rfl ?_
                refine pm_top (v := nI k3) ek3 ?_
                refine pm_icmp_ne (tgt := 131) hG dX12_die_124 rfl (fun _ => ?_) (fun q => absurd q ((fun q => nI_m1 (by omega) q.symm)))
                refine pm_iconst (v := nI 0) hG dX12_die_131 (by decide) ?_
                refine pm_istoreXi (loc' := [some (.ref (B + 54)), some (.int za), some (.int x7), some (.int (nI i136)), some (.int (nI 0))]) hG dX12_die_132 (by decide) (pm_c1b rfl) rfl ?_
                refine pm_iloadi hG dX12_die_134 rfl ?_
                refine pm_ifN_eq (tgt := 146) hG dX12_die_136 rfl (by omega) (fun _ => ?_) (fun q => absurd q (by omega))
                refine pm_iloadi hG dX12_die_146 rfl ?_
                refine pm_ifN_ne (tgt := 161) hG dX12_die_148 rfl (by omega) (fun q => absurd q (by omega)) (fun _ => ?_)
                refine pm_aloadn hG dX12_die_151 rfl ?_
                refine pm_iloadn hG dX12_die_152 rfl ?_
                refine pm_iconst (v := nI 2) hG dX12_die_153 (by decide) ?_
                refine pm_callV (As := [.int (nI i136), .int (nI 2)]) (rest := []) hG hR dX12_die_154 (lkX12_110 _ rfl) okV_X12_its rfl rfl (m_its (d := 3) (e := 6 * i136 + 392) (by omega) (by omega) (by omega)) rfl rfl hdd (Nat.le_refl _) (Nat.le_refl _) (by decide) (pm_ki (fun v141 σ' cnt' hq => ?_))
                obtain ⟨rfl, rfl, rfl⟩ := hq
                rcases KI.opt hnn_136 (show kd (6 * i136 + 392) = (2, 20, false) from (kd_W (k := i136) (c := 2) (by omega) (by omega) (by decide))) with ek142 | ⟨k142, hk142, ek142⟩
                · refine pm_top (v := (-1)) ek142 ?_
                  refine pm_iloadn hG dX12_die_157 rfl ?_
                  refine pm_top (v := nI k3) ek3 ?_
                  refine pm_icmp_ne (tgt := 166) hG dX12_die_158 rfl (fun _ => ?_) (fun q => absurd q ((fun q => nI_m1 (by omega) q.symm)))
                  refine pm_iincX (v := nI (i136 + 1)) (loc' := [some (.ref (B + 54)), some (.int za), some (.int x7), some (.int (nI (i136 + 1))), some (.int (nI 0))]) hG dX12_die_166 rfl (nI_1 _) (by decide) (pm_c1b rfl) rfl ?_
                  refine pm_goto (tgt := 107) hG dX12_die_169 rfl ?_
                  refine pm_fg 4 (loc' := [some (.ref (B + 54)), some (.int za), some (.int x7), some (.int (nI (i136 + 1))), none]) rfl ?_
                  exact ih136 I136 A136 n_136 (i136 + 1) hnn_136 ksn_136 hrn_136 (kc136_0.trans (congrArg nI (by omega))) (kc136_2.trans (congrArg nI (by omega))) (kc136_8.trans (congrArg nI (by omega))) kt136_6 kt136_7 (by omega) (by omega)
                · refine pm_top (v := nI k142) ek142 ?_
                  refine pm_iloadn hG dX12_die_157 rfl ?_
                  refine pm_top (v := nI k3) ek3 ?_
                  refine pm_icmpN_ne (tgt := 166) hG dX12_die_158 rfl (by omega) (by omega) (fun c143 => ?_) (fun c143 => ?_)
                  · refine pm_iincX (v := nI (i136 + 1)) (loc' := [some (.ref (B + 54)), some (.int za), some (.int x7), some (.int (nI (i136 + 1))), some (.int (nI 0))]) hG dX12_die_166 rfl (nI_1 _) (by decide) (pm_c1b rfl) rfl ?_
                    refine pm_goto (tgt := 107) hG dX12_die_169 rfl ?_
                    refine pm_fg 4 (loc' := [some (.ref (B + 54)), some (.int za), some (.int x7), some (.int (nI (i136 + 1))), none]) rfl ?_
                    exact ih136 I136 A136 n_136 (i136 + 1) hnn_136 ksn_136 hrn_136 (kc136_0.trans (congrArg nI (by omega))) (kc136_2.trans (congrArg nI (by omega))) (kc136_8.trans (congrArg nI (by omega))) kt136_6 kt136_7 (by omega) (by omega)
                  · refine pm_aloadn hG dX12_die_161 rfl ?_
                    refine pm_iloadn hG dX12_die_162 rfl ?_
                    refine pm_callV (As := [.int (nI i136)]) (rest := []) hG hR dX12_die_163 (lkX12_116 _ rfl) okV_X12_comesBack rfl rfl (m_comesBack (d := 3) (e := 6 * i136 + 392) (e2 := 6 * i136 + 393) (by decide) (by omega) (by omega) (by omega)) rfl rfl hdd (Nat.le_refl _) (Nat.le_refl _) (by decide) (pm_kv (fun σ' cnt' hq => ?_))
                    obtain ⟨rfl, rfl⟩ := hq
                    obtain ⟨n_144, en_144⟩ : ∃ f : Nat → Int32, f = upd n_136 (6 * i136 + 392) (-1) := ⟨_, rfl⟩
                    rw [← en_144]
                    have hnn_144 := KI.w en_144 hnn_136 (okv_m (show kd (6 * i136 + 392) = (2, 20, false) from (kd_W (k := i136) (c := 2) (by omega) (by omega) (by decide))))
                    have hrn_144 := NRx.w en_144 hrn_136 (by rw [(show kd (6 * i136 + 392) = (2, 20, false) from (kd_W (k := i136) (c := 2) (by omega) (by omega) (by decide)))])
                    have ksn_144 := KSs.w (a := 14 * k3 + 119) (b := 14 * k3 + 121) en_144 ksn_136 (by unfold tS; omega)
                    have e145 : n_144 0 = nI kc0 := by rw [en_144, pk_un (by omega)]; exact kc136_0
                    have e146 : n_144 2 = nI kc2 := by rw [en_144, pk_un (by omega)]; exact kc136_2
                    have e147 : n_144 8 = nI kc8 := by rw [en_144, pk_un (by omega)]; exact kc136_8
                    have e148 : n_144 (14 * k3 + 119) = nI kc8 := by rw [en_144, pk_un (by omega)]; exact kt136_6
                    have e149 : n_144 (14 * k3 + 121) = nI 0 := by rw [en_144, pk_un (by omega)]; exact kt136_7
                    have e150 : n_144 3 = nI k137 := by rw [en_144, pk_un (by omega)]; exact ek137
                    have e151 : n_144 (6 * i136 + 391) = (-1) := by rw [en_144, pk_un (by omega)]; exact ek140
                    have e152 : n_144 (6 * i136 + 392) = (-1) := by rw [en_144, pk_us]
                    obtain ⟨n_153, en_153⟩ : ∃ f : Nat → Int32, f = upd n_144 (6 * i136 + 393) (-1) := ⟨_, rfl⟩
                    rw [← en_153]
                    have hnn_153 := KI.w en_153 hnn_144 (okv_f (show kd (6 * i136 + 393) = (0, 0, false) from (kd_W (k := i136) (c := 3) (by omega) (by omega) (by decide))))
                    have hrn_153 := NRx.w en_153 hrn_144 (by rw [(show kd (6 * i136 + 393) = (0, 0, false) from (kd_W (k := i136) (c := 3) (by omega) (by omega) (by decide)))])
                    have ksn_153 := KSs.w (a := 14 * k3 + 119) (b := 14 * k3 + 121) en_153 ksn_144 (by unfold tS; omega)
                    have e154 : n_153 0 = nI kc0 := by rw [en_153, pk_un (by omega)]; exact e145
                    have e155 : n_153 2 = nI kc2 := by rw [en_153, pk_un (by omega)]; exact e146
                    have e156 : n_153 8 = nI kc8 := by rw [en_153, pk_un (by omega)]; exact e147
                    have e157 : n_153 (14 * k3 + 119) = nI kc8 := by rw [en_153, pk_un (by omega)]; exact e148
                    have e158 : n_153 (14 * k3 + 121) = nI 0 := by rw [en_153, pk_un (by omega)]; exact e149
                    have e159 : n_153 3 = nI k137 := by rw [en_153, pk_un (by omega)]; exact e150
                    have e160 : n_153 (6 * i136 + 391) = (-1) := by rw [en_153, pk_un (by omega)]; exact e151
                    have e161 : n_153 (6 * i136 + 392) = (-1) := by rw [en_153, pk_un (by omega)]; exact e152
                    have e162 : n_153 (6 * i136 + 393) = (-1) := by rw [en_153, pk_us]
                    refine pm_iincX (v := nI (i136 + 1)) (loc' := [some (.ref (B + 54)), some (.int za), some (.int x7), some (.int (nI (i136 + 1))), some (.int (nI 0))]) hG dX12_die_166 rfl (nI_1 _) (by decide) (pm_c1b rfl) rfl ?_
                    refine pm_goto (tgt := 107) hG dX12_die_169 rfl ?_
                    refine pm_fg 4 (loc' := [some (.ref (B + 54)), some (.int za), some (.int x7), some (.int (nI (i136 + 1))), none]) rfl ?_
                    exact ih136 I136 A136 n_153 (i136 + 1) hnn_153 ksn_153 hrn_153 (e154.trans (congrArg nI (by omega))) (e155.trans (congrArg nI (by omega))) (e156.trans (congrArg nI (by omega))) e157 e158 (by omega) (by omega)
              · refine pm_top (v := nI k140) ek140 ?_
                refine pm_iloadn hG dX12_die_123 rfl ?_
                refine pm_top (v := nI k3) ek3 ?_
                refine pm_icmpN_ne (tgt := 131) hG dX12_die_124 rfl (by omega) (by omega) (fun c163 => ?_) (fun c163 => ?_)
                · refine pm_iconst (v := nI 0) hG dX12_die_131 (by decide) ?_
                  refine pm_istoreXi (loc' := [some (.ref (B + 54)), some (.int za), some (.int x7), some (.int (nI i136)), some (.int (nI 0))]) hG dX12_die_132 (by decide) (pm_c1b rfl) rfl ?_
                  refine pm_iloadi hG dX12_die_134 rfl ?_
                  refine pm_ifN_eq (tgt := 146) hG dX12_die_136 rfl (by omega) (fun _ => ?_) (fun q => absurd q (by omega))
                  refine pm_iloadi hG dX12_die_146 rfl ?_
                  refine pm_ifN_ne (tgt := 161) hG dX12_die_148 rfl (by omega) (fun q => absurd q (by omega)) (fun _ => ?_)
                  refine pm_aloadn hG dX12_die_151 rfl ?_
                  refine pm_iloadn hG dX12_die_152 rfl ?_
                  refine pm_iconst (v := nI 2) hG dX12_die_153 (by decide) ?_
                  refine pm_callV (As := [.int (nI i136), .int (nI 2)]) (rest := []) hG hR dX12_die_154 (lkX12_110 _ rfl) okV_X12_its rfl rfl (m_its (d := 3) (e := 6 * i136 + 392) (by omega) (by omega) (by omega)) rfl rfl hdd (Nat.le_refl _) (Nat.le_refl _) (by decide) (pm_ki (fun v164 σ' cnt' hq => ?_))
                  obtain ⟨rfl, rfl, rfl⟩ := hq
                  rcases KI.opt hnn_136 (show kd (6 * i136 + 392) = (2, 20, false) from (kd_W (k := i136) (c := 2) (by omega) (by omega) (by decide))) with ek165 | ⟨k165, hk165, ek165⟩
                  · refine pm_top (v := (-1)) ek165 ?_
                    refine pm_iloadn hG dX12_die_157 rfl ?_
                    refine pm_top (v := nI k3) ek3 ?_
                    refine pm_icmp_ne (tgt := 166) hG dX12_die_158 rfl (fun _ => ?_) (fun q => absurd q ((fun q => nI_m1 (by omega) q.symm)))
                    refine pm_iincX (v := nI (i136 + 1)) (loc' := [some (.ref (B + 54)), some (.int za), some (.int x7), some (.int (nI (i136 + 1))), some (.int (nI 0))]) hG dX12_die_166 rfl (nI_1 _) (by decide) (pm_c1b rfl) rfl ?_
                    refine pm_goto (tgt := 107) hG dX12_die_169 rfl ?_
                    refine pm_fg 4 (loc' := [some (.ref (B + 54)), some (.int za), some (.int x7), some (.int (nI (i136 + 1))), none]) rfl ?_
                    exact ih136 I136 A136 n_136 (i136 + 1) hnn_136 ksn_136 hrn_136 (kc136_0.trans (congrArg nI (by omega))) (kc136_2.trans (congrArg nI (by omega))) (kc136_8.trans (congrArg nI (by omega))) kt136_6 kt136_7 (by omega) (by omega)
                  · refine pm_top (v := nI k165) ek165 ?_
                    refine pm_iloadn hG dX12_die_157 rfl ?_
                    refine pm_top (v := nI k3) ek3 ?_
                    refine pm_icmpN_ne (tgt := 166) hG dX12_die_158 rfl (by omega) (by omega) (fun c166 => ?_) (fun c166 => ?_)
                    · refine pm_iincX (v := nI (i136 + 1)) (loc' := [some (.ref (B + 54)), some (.int za), some (.int x7), some (.int (nI (i136 + 1))), some (.int (nI 0))]) hG dX12_die_166 rfl (nI_1 _) (by decide) (pm_c1b rfl) rfl ?_
                      refine pm_goto (tgt := 107) hG dX12_die_169 rfl ?_
                      refine pm_fg 4 (loc' := [some (.ref (B + 54)), some (.int za), some (.int x7), some (.int (nI (i136 + 1))), none]) rfl ?_
                      exact ih136 I136 A136 n_136 (i136 + 1) hnn_136 ksn_136 hrn_136 (kc136_0.trans (congrArg nI (by omega))) (kc136_2.trans (congrArg nI (by omega))) (kc136_8.trans (congrArg nI (by omega))) kt136_6 kt136_7 (by omega) (by omega)
                    · refine pm_aloadn hG dX12_die_161 rfl ?_
                      refine pm_iloadn hG dX12_die_162 rfl ?_
                      refine pm_callV (As := [.int (nI i136)]) (rest := []) hG hR dX12_die_163 (lkX12_116 _ rfl) okV_X12_comesBack rfl rfl (m_comesBack (d := 3) (e := 6 * i136 + 392) (e2 := 6 * i136 + 393) (by decide) (by omega) (by omega) (by omega)) rfl rfl hdd (Nat.le_refl _) (Nat.le_refl _) (by decide) (pm_kv (fun σ' cnt' hq => ?_))
                      obtain ⟨rfl, rfl⟩ := hq
                      obtain ⟨n_167, en_167⟩ : ∃ f : Nat → Int32, f = upd n_136 (6 * i136 + 392) (-1) := ⟨_, rfl⟩
                      rw [← en_167]
                      have hnn_167 := KI.w en_167 hnn_136 (okv_m (show kd (6 * i136 + 392) = (2, 20, false) from (kd_W (k := i136) (c := 2) (by omega) (by omega) (by decide))))
                      have hrn_167 := NRx.w en_167 hrn_136 (by rw [(show kd (6 * i136 + 392) = (2, 20, false) from (kd_W (k := i136) (c := 2) (by omega) (by omega) (by decide)))])
                      have ksn_167 := KSs.w (a := 14 * k3 + 119) (b := 14 * k3 + 121) en_167 ksn_136 (by unfold tS; omega)
                      have e168 : n_167 0 = nI kc0 := by rw [en_167, pk_un (by omega)]; exact kc136_0
                      have e169 : n_167 2 = nI kc2 := by rw [en_167, pk_un (by omega)]; exact kc136_2
                      have e170 : n_167 8 = nI kc8 := by rw [en_167, pk_un (by omega)]; exact kc136_8
                      have e171 : n_167 (14 * k3 + 119) = nI kc8 := by rw [en_167, pk_un (by omega)]; exact kt136_6
                      have e172 : n_167 (14 * k3 + 121) = nI 0 := by rw [en_167, pk_un (by omega)]; exact kt136_7
                      have e173 : n_167 3 = nI k137 := by rw [en_167, pk_un (by omega)]; exact ek137
                      have e174 : n_167 (6 * i136 + 391) = nI k140 := by rw [en_167, pk_un (by omega)]; exact ek140
                      have e175 : n_167 (6 * i136 + 392) = (-1) := by rw [en_167, pk_us]
                      obtain ⟨n_176, en_176⟩ : ∃ f : Nat → Int32, f = upd n_167 (6 * i136 + 393) (-1) := ⟨_, rfl⟩
                      rw [← en_176]
                      have hnn_176 := KI.w en_176 hnn_167 (okv_f (show kd (6 * i136 + 393) = (0, 0, false) from (kd_W (k := i136) (c := 3) (by omega) (by omega) (by decide))))
                      have hrn_176 := NRx.w en_176 hrn_167 (by rw [(show kd (6 * i136 + 393) = (0, 0, false) from (kd_W (k := i136) (c := 3) (by omega) (by omega) (by decide)))])
                      have ksn_176 := KSs.w (a := 14 * k3 + 119) (b := 14 * k3 + 121) en_176 ksn_167 (by unfold tS; omega)
                      have e177 : n_176 0 = nI kc0 := by rw [en_176, pk_un (by omega)]; exact e168
                      have e178 : n_176 2 = nI kc2 := by rw [en_176, pk_un (by omega)]; exact e169
                      have e179 : n_176 8 = nI kc8 := by rw [en_176, pk_un (by omega)]; exact e170
                      have e180 : n_176 (14 * k3 + 119) = nI kc8 := by rw [en_176, pk_un (by omega)]; exact e171
                      have e181 : n_176 (14 * k3 + 121) = nI 0 := by rw [en_176, pk_un (by omega)]; exact e172
                      have e182 : n_176 3 = nI k137 := by rw [en_176, pk_un (by omega)]; exact e173
                      have e183 : n_176 (6 * i136 + 391) = nI k140 := by rw [en_176, pk_un (by omega)]; exact e174
                      have e184 : n_176 (6 * i136 + 392) = (-1) := by rw [en_176, pk_un (by omega)]; exact e175
                      have e185 : n_176 (6 * i136 + 393) = (-1) := by rw [en_176, pk_us]
                      refine pm_iincX (v := nI (i136 + 1)) (loc' := [some (.ref (B + 54)), some (.int za), some (.int x7), some (.int (nI (i136 + 1))), some (.int (nI 0))]) hG dX12_die_166 rfl (nI_1 _) (by decide) (pm_c1b rfl) rfl ?_
                      refine pm_goto (tgt := 107) hG dX12_die_169 rfl ?_
                      refine pm_fg 4 (loc' := [some (.ref (B + 54)), some (.int za), some (.int x7), some (.int (nI (i136 + 1))), none]) rfl ?_
                      exact ih136 I136 A136 n_176 (i136 + 1) hnn_176 ksn_176 hrn_176 (e177.trans (congrArg nI (by omega))) (e178.trans (congrArg nI (by omega))) (e179.trans (congrArg nI (by omega))) e180 e181 (by omega) (by omega)
                · refine pm_iconst (v := nI 1) hG dX12_die_127 (by decide) ?_
                  refine pm_goto (tgt := 132) hG dX12_die_128 rfl ?_
                  refine pm_istoreXi (loc' := [some (.ref (B + 54)), some (.int za), some (.int x7), some (.int (nI i136)), some (.int (nI 1))]) hG dX12_die_132 (by decide) (pm_c1b rfl) rfl ?_
                  refine pm_iloadi hG dX12_die_134 rfl ?_
                  refine pm_ifN_eq (tgt := 146) hG dX12_die_136 rfl (by omega) (fun q => absurd q (by omega)) (fun _ => ?_)
                  refine pm_aloadn hG dX12_die_139 rfl ?_
                  refine pm_iloadn hG dX12_die_140 rfl ?_
                  refine pm_iconst (v := nI 1) hG dX12_die_141 (by decide) ?_
                  refine pm_iconst (v := (-1)) hG dX12_die_142 (by decide) ?_
                  refine pm_callV (As := [.int (nI i136), .int (nI 1), .int (-1)]) (rest := []) hG hR dX12_die_143 (lkX12_113 _ rfl) okV_X12_makes rfl rfl (m_makes (d := 3) (e := 6 * i136 + 391) (by omega) (by omega) (by omega)) rfl rfl hdd (Nat.le_refl _) (Nat.le_refl _) (by decide) (pm_kv (fun σ' cnt' hq => ?_))
                  obtain ⟨rfl, rfl⟩ := hq
                  obtain ⟨n_186, en_186⟩ : ∃ f : Nat → Int32, f = upd n_136 (6 * i136 + 391) (-1) := ⟨_, rfl⟩
                  rw [← en_186]
                  have hnn_186 := KI.w en_186 hnn_136 (okv_m (show kd (6 * i136 + 391) = (2, 20, false) from (kd_W (k := i136) (c := 1) (by omega) (by omega) (by decide))))
                  have hrn_186 := NRx.w en_186 hrn_136 (by rw [(show kd (6 * i136 + 391) = (2, 20, false) from (kd_W (k := i136) (c := 1) (by omega) (by omega) (by decide)))])
                  have ksn_186 := KSs.w (a := 14 * k3 + 119) (b := 14 * k3 + 121) en_186 ksn_136 (by unfold tS; omega)
                  have e187 : n_186 0 = nI kc0 := by rw [en_186, pk_un (by omega)]; exact kc136_0
                  have e188 : n_186 2 = nI kc2 := by rw [en_186, pk_un (by omega)]; exact kc136_2
                  have e189 : n_186 8 = nI kc8 := by rw [en_186, pk_un (by omega)]; exact kc136_8
                  have e190 : n_186 (14 * k3 + 119) = nI kc8 := by rw [en_186, pk_un (by omega)]; exact kt136_6
                  have e191 : n_186 (14 * k3 + 121) = nI 0 := by rw [en_186, pk_un (by omega)]; exact kt136_7
                  have e192 : n_186 3 = nI k137 := by rw [en_186, pk_un (by omega)]; exact ek137
                  have e193 : n_186 (6 * i136 + 391) = (-1) := by rw [en_186, pk_us]
                  refine pm_iloadi hG dX12_die_146 rfl ?_
                  refine pm_ifN_ne (tgt := 161) hG dX12_die_148 rfl (by omega) (fun _ => ?_) (fun q => absurd q (by omega))
                  refine pm_aloadn hG dX12_die_161 rfl ?_
                  refine pm_iloadn hG dX12_die_162 rfl ?_
                  refine pm_callV (As := [.int (nI i136)]) (rest := []) hG hR dX12_die_163 (lkX12_116 _ rfl) okV_X12_comesBack rfl rfl (m_comesBack (d := 3) (e := 6 * i136 + 392) (e2 := 6 * i136 + 393) (by decide) (by omega) (by omega) (by omega)) rfl rfl hdd (Nat.le_refl _) (Nat.le_refl _) (by decide) (pm_kv (fun σ' cnt' hq => ?_))
                  obtain ⟨rfl, rfl⟩ := hq
                  obtain ⟨n_194, en_194⟩ : ∃ f : Nat → Int32, f = upd n_186 (6 * i136 + 392) (-1) := ⟨_, rfl⟩
                  rw [← en_194]
                  have hnn_194 := KI.w en_194 hnn_186 (okv_m (show kd (6 * i136 + 392) = (2, 20, false) from (kd_W (k := i136) (c := 2) (by omega) (by omega) (by decide))))
                  have hrn_194 := NRx.w en_194 hrn_186 (by rw [(show kd (6 * i136 + 392) = (2, 20, false) from (kd_W (k := i136) (c := 2) (by omega) (by omega) (by decide)))])
                  have ksn_194 := KSs.w (a := 14 * k3 + 119) (b := 14 * k3 + 121) en_194 ksn_186 (by unfold tS; omega)
                  have e195 : n_194 0 = nI kc0 := by rw [en_194, pk_un (by omega)]; exact e187
                  have e196 : n_194 2 = nI kc2 := by rw [en_194, pk_un (by omega)]; exact e188
                  have e197 : n_194 8 = nI kc8 := by rw [en_194, pk_un (by omega)]; exact e189
                  have e198 : n_194 (14 * k3 + 119) = nI kc8 := by rw [en_194, pk_un (by omega)]; exact e190
                  have e199 : n_194 (14 * k3 + 121) = nI 0 := by rw [en_194, pk_un (by omega)]; exact e191
                  have e200 : n_194 3 = nI k137 := by rw [en_194, pk_un (by omega)]; exact e192
                  have e201 : n_194 (6 * i136 + 391) = (-1) := by rw [en_194, pk_un (by omega)]; exact e193
                  have e202 : n_194 (6 * i136 + 392) = (-1) := by rw [en_194, pk_us]
                  obtain ⟨n_203, en_203⟩ : ∃ f : Nat → Int32, f = upd n_194 (6 * i136 + 393) (-1) := ⟨_, rfl⟩
                  rw [← en_203]
                  have hnn_203 := KI.w en_203 hnn_194 (okv_f (show kd (6 * i136 + 393) = (0, 0, false) from (kd_W (k := i136) (c := 3) (by omega) (by omega) (by decide))))
                  have hrn_203 := NRx.w en_203 hrn_194 (by rw [(show kd (6 * i136 + 393) = (0, 0, false) from (kd_W (k := i136) (c := 3) (by omega) (by omega) (by decide)))])
                  have ksn_203 := KSs.w (a := 14 * k3 + 119) (b := 14 * k3 + 121) en_203 ksn_194 (by unfold tS; omega)
                  have e204 : n_203 0 = nI kc0 := by rw [en_203, pk_un (by omega)]; exact e195
                  have e205 : n_203 2 = nI kc2 := by rw [en_203, pk_un (by omega)]; exact e196
                  have e206 : n_203 8 = nI kc8 := by rw [en_203, pk_un (by omega)]; exact e197
                  have e207 : n_203 (14 * k3 + 119) = nI kc8 := by rw [en_203, pk_un (by omega)]; exact e198
                  have e208 : n_203 (14 * k3 + 121) = nI 0 := by rw [en_203, pk_un (by omega)]; exact e199
                  have e209 : n_203 3 = nI k137 := by rw [en_203, pk_un (by omega)]; exact e200
                  have e210 : n_203 (6 * i136 + 391) = (-1) := by rw [en_203, pk_un (by omega)]; exact e201
                  have e211 : n_203 (6 * i136 + 392) = (-1) := by rw [en_203, pk_un (by omega)]; exact e202
                  have e212 : n_203 (6 * i136 + 393) = (-1) := by rw [en_203, pk_us]
                  refine pm_iincX (v := nI (i136 + 1)) (loc' := [some (.ref (B + 54)), some (.int za), some (.int x7), some (.int (nI (i136 + 1))), some (.int (nI 1))]) hG dX12_die_166 rfl (nI_1 _) (by decide) (pm_c1b rfl) rfl ?_
                  refine pm_goto (tgt := 107) hG dX12_die_169 rfl ?_
                  refine pm_fg 4 (loc' := [some (.ref (B + 54)), some (.int za), some (.int x7), some (.int (nI (i136 + 1))), none]) rfl ?_
                  exact ih136 I136 A136 n_203 (i136 + 1) hnn_203 ksn_203 hrn_203 (e204.trans (congrArg nI (by omega))) (e205.trans (congrArg nI (by omega))) (e206.trans (congrArg nI (by omega))) e207 e208 (by omega) (by omega)
        exact loop107_136 _ I9 A9 n_130 0 hn130 ks_132 hr130 (e133.trans (congrArg nI (by omega))) (e134.trans (congrArg nI (by omega))) (e135.trans (congrArg nI (by omega))) e131 hx130.1 (by omega) (Nat.lt_succ_self _)
    · refine pm_callV (As := [.int (nI k3)]) (rest := []) hG hR dX12_die_16 (lkX12_101 _ rfl) okV_X12_lives rfl rfl (m_lives0 (d := 3) (by decide) (by omega) (by omega : 14 * k3 + 119 = 14 * k3 + 119) ek4 (by omega)) rfl rfl hdd (Nat.le_refl _) (Nat.le_refl _) (by decide) (pm_ki (fun v213 σ' cnt' hq => ?_))
      obtain ⟨rfl, rfl, rfl⟩ := hq
      refine pm_ifN_ne (tgt := 28) hG dX12_die_19 rfl (by omega) (fun q => absurd q (by omega)) (fun _ => ?_)
      refine pm_aloadn hG dX12_die_22 rfl ?_
      refine pm_iconst (v := nI 3) hG dX12_die_23 (by decide) ?_
      refine pm_callV (As := [.int (nI 3)]) (rest := []) hG hR dX12_die_24 (lkX12_80 _ rfl) okV_X12_finds rfl rfl (m_finds (d := 3) (by decide) hn hz (by omega)) rfl rfl hdd (Nat.le_refl _) (Nat.le_refl _) (by decide) (pm_ki (fun v214 σ' cnt' hq => ?_))
      obtain ⟨⟨I215, A215, rfl⟩, rfl, fv214⟩ := hq
      exact pm_iret hG hF dX12_die_27 rfl (Nat.le_refl _) (Nat.le_refl _) ⟨_, rfl, ⟨_, _, _, rfl, hn, hr, ekc0.trans ekc0.symm, ekc2.trans ekc2.symm, ekc8.trans ekc8.symm, tX_n (fun q => lv_n ek3 (by omega) ek4 (by omega) q.2)⟩, rfl⟩
  · refine pm_ifN_ne (tgt := 14) hG dX12_die_5 rfl (by omega) (fun q => absurd q (by omega)) (fun _ => ?_)
    refine pm_aloadn hG dX12_die_8 rfl ?_
    refine pm_iconst (v := nI 1) hG dX12_die_9 (by decide) ?_
    refine pm_callV (As := [.int (nI 1)]) (rest := []) hG hR dX12_die_10 (lkX12_80 _ rfl) okV_X12_finds rfl rfl (m_finds (d := 3) (by decide) hn hz (by omega)) rfl rfl hdd (Nat.le_refl _) (Nat.le_refl _) (by decide) (pm_ki (fun v216 σ' cnt' hq => ?_))
    obtain ⟨⟨I217, A217, rfl⟩, rfl, fv216⟩ := hq
    exact pm_iret hG hF dX12_die_13 rfl (Nat.le_refl _) (Nat.le_refl _) ⟨_, rfl, ⟨_, _, _, rfl, hn, hr, ekc0.trans ekc0.symm, ekc2.trans ekc2.symm, ekc8.trans ekc8.symm, tX_n (fun q => q.1 (nt_out ekc2 (by omega) ntk3))⟩, rfl⟩
