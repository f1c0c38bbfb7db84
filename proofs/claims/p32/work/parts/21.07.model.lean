set_option maxRecDepth 100000 in
set_option maxHeartbeats 4000000 in
theorem m_days {d B cnt p0 t0 : Nat} {σ : pm_S} {I : Nat → Int32} {A : Nat → Nat → Int32} {n k z : Nat → Int32} {ac wt pl im : Int32} {za : Int32} (hdd : 3 ≤ d) (hn : KI n) (hr : NR n) (hz : SZ z)  : pm_met mX12_days d 0 0 B [.ref (B + 54), .int za] cnt (pm_mid σ (md_L B I A n k z ac wt pl (nI p0) (nI t0) im)) (pm_Qi (fun v σ' cnt' => (∃ (I' : Nat → Int32) (A' : Nat → Nat → Int32) (n' : Nat → Int32), σ' = pm_mid σ (md_L B I' A' n' k z ac wt pl (nI p0) (nI t0) im) ∧ KI n' ∧ NR n' ∧ n' 0 = n 0 ∧ n' 6 = n 6) ∧ cnt = cnt')) := by
  obtain ⟨kc0, hkc0, ekc0⟩ := KI.nat hn (show kd 0 = (1, 11, true) by decide)
  obtain ⟨kc6, hkc6, ekc6⟩ := KI.nat hn (show kd 6 = (1, 7, false) by decide)
  refine pm_enter 2 (by decide) (Nat.le_of_ble_eq_true rfl) rfl (fun G hG hR hF => ?_)
  refine pm_iloadn hG dX12_days_0 rfl ?_
  refine pm_iconst (v := nI 1) hG dX12_days_1 (by decide) ?_
  refine pm_sipush (v := nI 400) hG dX12_days_2 (by decide) ?_
  refine pm_callS (As := [.int za, .int (nI 1), .int (nI 400)]) (rest := []) hG hR dX12_days_5 (lkX12_68 _ rfl) okS_X12_in (m_in (d := 2)) rfl rfl hdd (Nat.le_refl _) (Nat.le_refl _) (by decide) (pm_ki (fun v1 σ' cnt' hq => ?_))
  obtain ⟨hq, rfl, rfl⟩ := hq
  rcases hq with ⟨rfl, ac2, bc2⟩ | ⟨rfl, c2⟩
  · obtain ⟨k3, hk3, ek3⟩ := in_nat (by omega) (by omega) ac2 bc2
    refine pm_ifN_eq (tgt := 26) hG dX12_days_8 rfl (by omega) (fun q => absurd q (by omega)) (fun _ => ?_)
    refine pm_aloadn hG dX12_days_11 rfl ?_
    refine pm_getf hG dX12_days_12 (flX12_7 _ rfl) rfl rfl ?_
    refine pm_bipush (v := nI 8) hG dX12_days_15 (by decide) ?_
    refine pm_ialdN hG dX12_days_17 rfl (by decide) (by omega) ?_
    obtain ⟨k4, hk4, ek4⟩ := KI.nat hn (show kd 8 = (1, 2001, false) by decide)
    refine pm_top (v := nI k4) ek4 ?_
    refine pm_iloadn hG dX12_days_18 rfl ?_
    refine pm_top (v := nI k3) ek3 ?_
    refine pm_iaddN (c := k3 + k4) hG dX12_days_19 (by omega) ?_
    refine pm_sipush (v := nI 2000) hG dX12_days_20 (by decide) ?_
    refine pm_icmpN_le (tgt := 32) hG dX12_days_23 rfl (by omega) (by omega) (fun c5 => ?_) (fun c5 => ?_)
    · refine pm_iconst (v := nI 0) hG dX12_days_32 (by decide) ?_
      refine pm_istoreXn (loc' := [some (.ref (B + 54)), some (.int za), some (.int (nI 0)), none]) hG dX12_days_33 (by decide) (pm_c1b rfl) rfl ?_
      have loop34_6 : ∀ (m6 : Nat) (I6 : Nat → Int32) (A6 : Nat → Nat → Int32) (n_6 : Nat → Int32) (i6 : Nat), KI n_6 → NRx 40 n_6 → n_6 0 = nI kc0 → n_6 6 = nI kc6 → n_6 8 = nI (i6 + k4) → i6 ≤ 400 → 400 - i6 < m6 → pm_wp mX12_days G B 34 [some (.ref (B + 54)), some (.int za), some (.int (nI i6)), none] [] 0 0 cnt (pm_mid σ (md_L B I6 A6 n_6 k z ac wt pl (nI p0) (nI t0) im)) := by
        intro m6
        induction m6 with
        | zero => intro I6 A6 n_6 i6 _ _ _ _ _ _ hm; exact absurd hm (Nat.not_lt_zero _)
        | succ m6 ih6 =>
          intro I6 A6 n_6 i6 hnn_6 hrn_6 kc6_0 kc6_6 kc6_8 hi6 hm6
          refine pm_iloadn hG dX12_days_34 rfl ?_
          refine pm_iloadn hG dX12_days_35 rfl ?_
          refine pm_top (v := nI k3) ek3 ?_
          refine pm_icmpN_ge (tgt := 185) hG dX12_days_36 rfl (by omega) (by omega) (fun c7 => ?_) (fun c7 => ?_)
          · refine pm_aloadn hG dX12_days_185 rfl ?_
            refine pm_getf hG dX12_days_186 (flX12_7 _ rfl) rfl rfl ?_
            refine pm_bipush (v := nI 8) hG dX12_days_189 (by decide) ?_
            refine pm_ialdN hG dX12_days_191 rfl (by decide) (by omega) ?_
            refine pm_top (v := nI (i6 + k4)) kc6_8 ?_
            exact pm_iret hG hF dX12_days_192 rfl (Nat.le_refl _) (Nat.le_refl _) ⟨_, rfl, ⟨_, _, _, rfl, hnn_6, hrn_6, kc6_0.trans ekc0.symm, kc6_6.trans ekc6.symm⟩, rfl⟩
          · refine pm_aloadn hG dX12_days_39 rfl ?_
            refine pm_getf hG dX12_days_40 (flX12_7 _ rfl) rfl rfl ?_
            refine pm_bipush (v := nI 8) hG dX12_days_43 (by decide) ?_
            refine pm_dup2 hG dX12_days_45 rfl rfl ?_
            refine pm_ialdN hG dX12_days_46 rfl (by decide) (by omega) ?_
            refine pm_top (v := nI (i6 + k4)) kc6_8 ?_
            refine pm_iconst (v := nI 1) hG dX12_days_47 (by decide) ?_
            refine pm_iaddN (c := i6 + k4 + 1) hG dX12_days_48 (by omega) ?_
            refine pm_iastN hG dX12_days_49 rfl (by decide) (by omega) ?_
            refine mdn_now (fun n_8 en_8 => ?_)
            have hnn_8 := KI.w en_8 hnn_6 (okv_n (show kd 8 = (1, 2001, false) by decide) (by omega))
            have hrn_8 := NRx.w en_8 hrn_6 (by rw [(show kd 8 = (1, 2001, false) by decide)])
            have e9 : n_8 0 = nI kc0 := by rw [en_8, pk_un (by omega)]; exact kc6_0
            have e10 : n_8 6 = nI kc6 := by rw [en_8, pk_un (by omega)]; exact kc6_6
            have e11 : n_8 8 = nI (i6 + k4 + 1) := by rw [en_8, pk_us]
            refine pm_iconst (v := nI 0) hG dX12_days_50 (by decide) ?_
            refine pm_istoreXn (loc' := [some (.ref (B + 54)), some (.int za), some (.int (nI i6)), some (.int (nI 0))]) hG dX12_days_51 (by decide) (pm_c1b rfl) rfl ?_
            have loop52_12 : ∀ (m12 : Nat) (I12 : Nat → Int32) (A12 : Nat → Nat → Int32) (n_12 : Nat → Int32) (i12 : Nat), KI n_12 → NRx 40 n_12 → n_12 8 = nI (i6 + k4 + 1) → n_12 0 = nI kc0 → n_12 6 = nI kc6 → i12 ≤ 20 → 20 - i12 < m12 → pm_wp mX12_days G B 52 [some (.ref (B + 54)), some (.int za), some (.int (nI i6)), some (.int (nI i12))] [] 0 0 cnt (pm_mid σ (md_L B I12 A12 n_12 k z ac wt pl (nI p0) (nI t0) im)) := by
              intro m12
              induction m12 with
              | zero => intro I12 A12 n_12 i12 _ _ _ _ _ _ hm; exact absurd hm (Nat.not_lt_zero _)
              | succ m12 ih12 =>
                intro I12 A12 n_12 i12 hnn_12 hrn_12 kc12_8 kc12_0 kc12_6 hi12 hm12
                refine pm_iloadn hG dX12_days_52 rfl ?_
                refine pm_aloadn hG dX12_days_53 rfl ?_
                refine pm_getf hG dX12_days_54 (flX12_7 _ rfl) rfl rfl ?_
                refine pm_iconst (v := nI 2) hG dX12_days_57 (by decide) ?_
                refine pm_ialdN hG dX12_days_58 rfl (by decide) (by omega) ?_
                obtain ⟨k13, hk13, ek13⟩ := KI.nat hnn_12 (show kd 2 = (1, 21, true) by decide)
                refine pm_top (v := nI k13) ek13 ?_
                refine pm_icmpN_ge (tgt := 114) hG dX12_days_59 rfl (by omega) (by omega) (fun c14 => ?_) (fun c14 => ?_)
                · refine pm_iconst (v := nI 0) hG dX12_days_114 (by decide) ?_
                  refine pm_istoreXn (loc' := [some (.ref (B + 54)), some (.int za), some (.int (nI i6)), some (.int (nI 0))]) hG dX12_days_115 (by decide) (pm_c1b rfl) rfl ?_
                  have loop116_15 : ∀ (m15 : Nat) (I15 : Nat → Int32) (A15 : Nat → Nat → Int32) (n_15 : Nat → Int32) (i15 : Nat), KI n_15 → NRx 40 n_15 → n_15 8 = nI (i6 + k4 + 1) → n_15 0 = nI kc0 → n_15 6 = nI kc6 → i15 ≤ 20 → 20 - i15 < m15 → pm_wp mX12_days G B 116 [some (.ref (B + 54)), some (.int za), some (.int (nI i6)), some (.int (nI i15))] [] 0 0 cnt (pm_mid σ (md_L B I15 A15 n_15 k z ac wt pl (nI p0) (nI t0) im)) := by
                    intro m15
                    induction m15 with
                    | zero => intro I15 A15 n_15 i15 _ _ _ _ _ _ hm; exact absurd hm (Nat.not_lt_zero _)
                    | succ m15 ih15 =>
                      intro I15 A15 n_15 i15 hnn_15 hrn_15 kc15_8 kc15_0 kc15_6 hi15 hm15
                      refine pm_iloadn hG dX12_days_116 rfl ?_
                      refine pm_aloadn hG dX12_days_117 rfl ?_
                      refine pm_getf hG dX12_days_118 (flX12_7 _ rfl) rfl rfl ?_
                      refine pm_iconst (v := nI 3) hG dX12_days_121 (by decide) ?_
                      refine pm_ialdN hG dX12_days_122 rfl (by decide) (by omega) ?_
                      obtain ⟨k16, hk16, ek16⟩ := KI.nat hnn_15 (show kd 3 = (1, 21, false) by decide)
                      refine pm_top (v := nI k16) ek16 ?_
                      refine pm_icmpN_ge (tgt := 162) hG dX12_days_123 rfl (by omega) (by omega) (fun c17 => ?_) (fun c17 => ?_)
                      · refine pm_aloadn hG dX12_days_162 rfl ?_
                        refine pm_getf hG dX12_days_163 (flX12_7 _ rfl) rfl rfl ?_
                        refine pm_bipush (v := nI 8) hG dX12_days_166 (by decide) ?_
                        refine pm_ialdN hG dX12_days_168 rfl (by decide) (by omega) ?_
                        refine pm_top (v := nI (i6 + k4 + 1)) kc15_8 ?_
                        refine pm_bipush (v := nI 90) hG dX12_days_169 (by decide) ?_
                        refine pm_iremM hG dX12_days_171 (by omega) (by decide) (by decide) ?_
                        refine pm_ifN_ne (tgt := 179) hG dX12_days_172 rfl (by omega) (fun c18 => ?_) (fun c18 => ?_)
                        · refine pm_iincX (v := nI (i6 + 1)) (loc' := [some (.ref (B + 54)), some (.int za), some (.int (nI (i6 + 1))), some (.int (nI i15))]) hG dX12_days_179 rfl (nI_1 _) (by decide) (pm_c1b rfl) rfl ?_
                          refine pm_goto (tgt := 34) hG dX12_days_182 rfl ?_
                          refine pm_fg 3 (loc' := [some (.ref (B + 54)), some (.int za), some (.int (nI (i6 + 1))), none]) rfl ?_
                          exact ih6 I15 A15 n_15 (i6 + 1) hnn_15 hrn_15 (kc15_0.trans (congrArg nI (by omega))) (kc15_6.trans (congrArg nI (by omega))) (kc15_8.trans (congrArg nI (by omega))) (by omega) (by omega)
                        · refine pm_aloadn hG dX12_days_175 rfl ?_
                          refine pm_callV (As := []) (rest := []) hG hR dX12_days_176 (lkX12_236 _ rfl) okV_X12_quarter rfl rfl (m_quarter (d := 2) (by decide) hnn_15 hrn_15 hz) rfl rfl hdd (Nat.le_refl _) (Nat.le_refl _) (by decide) (pm_kv (fun σ' cnt' hq => ?_))
                          obtain ⟨⟨n_20, rfl, hn20, hr20, hc20_0, hc20_6, hc20_8⟩, rfl⟩ := hq
                          have e21 : n_20 0 = nI kc0 := hc20_0.trans kc15_0
                          have e22 : n_20 6 = nI kc6 := hc20_6.trans kc15_6
                          have e23 : n_20 8 = nI (i6 + k4 + 1) := hc20_8.trans kc15_8
                          refine pm_iincX (v := nI (i6 + 1)) (loc' := [some (.ref (B + 54)), some (.int za), some (.int (nI (i6 + 1))), some (.int (nI i15))]) hG dX12_days_179 rfl (nI_1 _) (by decide) (pm_c1b rfl) rfl ?_
                          refine pm_goto (tgt := 34) hG dX12_days_182 rfl ?_
                          refine pm_fg 3 (loc' := [some (.ref (B + 54)), some (.int za), some (.int (nI (i6 + 1))), none]) rfl ?_
                          exact ih6 I15 A15 n_20 (i6 + 1) hn20 hr20 (e21.trans (congrArg nI (by omega))) (e22.trans (congrArg nI (by omega))) (e23.trans (congrArg nI (by omega))) (by omega) (by omega)
                      · refine pm_aloadn hG dX12_days_126 rfl ?_
                        refine pm_iloadn hG dX12_days_127 rfl ?_
                        refine pm_iconst (v := nI 2) hG dX12_days_128 (by decide) ?_
                        refine pm_callV (As := [.int (nI i15), .int (nI 2)]) (rest := []) hG hR dX12_days_129 (lkX12_110 _ rfl) okV_X12_its rfl rfl (m_its (d := 2) (e := 6 * i15 + 392) (by omega) (by omega) (by omega)) rfl rfl hdd (Nat.le_refl _) (Nat.le_refl _) (by decide) (pm_ki (fun v24 σ' cnt' hq => ?_))
                        obtain ⟨rfl, rfl, rfl⟩ := hq
                        rcases KI.opt hnn_15 (show kd (6 * i15 + 392) = (2, 20, false) from (kd_W (k := i15) (c := 2) (by omega) (by omega) (by decide))) with ek25 | ⟨k25, hk25, ek25⟩
                        · refine pm_top (v := (-1)) ek25 ?_
                          refine pm_if_lt (tgt := 156) hG dX12_days_132 rfl (fun _ => ?_) (fun q => absurd q (by decide))
                          refine pm_iincX (v := nI (i15 + 1)) (loc' := [some (.ref (B + 54)), some (.int za), some (.int (nI i6)), some (.int (nI (i15 + 1)))]) hG dX12_days_156 rfl (nI_1 _) (by decide) (pm_c1b rfl) rfl ?_
                          refine pm_goto (tgt := 116) hG dX12_days_159 rfl ?_
                          exact ih15 I15 A15 n_15 (i15 + 1) hnn_15 hrn_15 (kc15_8.trans (congrArg nI (by omega))) (kc15_0.trans (congrArg nI (by omega))) (kc15_6.trans (congrArg nI (by omega))) (by omega) (by omega)
                        · refine pm_top (v := nI k25) ek25 ?_
                          refine pm_ifN_lt hG dX12_days_132 rfl (by omega) ?_
                          refine pm_aloadn hG dX12_days_135 rfl ?_
                          refine pm_iloadn hG dX12_days_136 rfl ?_
                          refine pm_iconst (v := nI 3) hG dX12_days_137 (by decide) ?_
                          refine pm_callV (As := [.int (nI i15), .int (nI 3)]) (rest := []) hG hR dX12_days_138 (lkX12_110 _ rfl) okV_X12_its rfl rfl (m_its (d := 2) (e := 6 * i15 + 393) (by omega) (by omega) (by omega)) rfl rfl hdd (Nat.le_refl _) (Nat.le_refl _) (by decide) (pm_ki (fun v26 σ' cnt' hq => ?_))
                          obtain ⟨rfl, rfl, rfl⟩ := hq
                          refine pm_gen (fun x27 ex27 => ?_)
                          refine pm_aloadn hG dX12_days_141 rfl ?_
                          refine pm_getf hG dX12_days_142 (flX12_7 _ rfl) rfl rfl ?_
                          refine pm_bipush (v := nI 8) hG dX12_days_145 (by decide) ?_
                          refine pm_ialdN hG dX12_days_147 rfl (by decide) (by omega) ?_
                          refine pm_top (v := nI (i6 + k4 + 1)) kc15_8 ?_
                          refine pm_icmp_ge (tgt := 156) hG dX12_days_148 rfl (fun c28 => ?_) (fun c28 => ?_)
                          · refine pm_iincX (v := nI (i15 + 1)) (loc' := [some (.ref (B + 54)), some (.int za), some (.int (nI i6)), some (.int (nI (i15 + 1)))]) hG dX12_days_156 rfl (nI_1 _) (by decide) (pm_c1b rfl) rfl ?_
                            refine pm_goto (tgt := 116) hG dX12_days_159 rfl ?_
                            exact ih15 I15 A15 n_15 (i15 + 1) hnn_15 hrn_15 (kc15_8.trans (congrArg nI (by omega))) (kc15_0.trans (congrArg nI (by omega))) (kc15_6.trans (congrArg nI (by omega))) (by omega) (by omega)
                          · refine pm_aloadn hG dX12_days_151 rfl ?_
                            refine pm_iloadn hG dX12_days_152 rfl ?_
                            refine pm_callV (As := [.int (nI i15)]) (rest := []) hG hR dX12_days_153 (lkX12_116 _ rfl) okV_X12_comesBack rfl rfl (m_comesBack (d := 2) (e := 6 * i15 + 392) (e2 := 6 * i15 + 393) (by decide) (by omega) (by omega) (by omega)) rfl rfl hdd (Nat.le_refl _) (Nat.le_refl _) (by decide) (pm_kv (fun σ' cnt' hq => ?_))
                            obtain ⟨rfl, rfl⟩ := hq
                            obtain ⟨n_29, en_29⟩ : ∃ f : Nat → Int32, f = upd n_15 (6 * i15 + 392) (-1) := ⟨_, rfl⟩
                            rw [← en_29]
                            have hnn_29 := KI.w en_29 hnn_15 (okv_m (show kd (6 * i15 + 392) = (2, 20, false) from (kd_W (k := i15) (c := 2) (by omega) (by omega) (by decide))))
                            have hrn_29 := NRx.w en_29 hrn_15 (by rw [(show kd (6 * i15 + 392) = (2, 20, false) from (kd_W (k := i15) (c := 2) (by omega) (by omega) (by decide)))])
                            have e30 : n_29 8 = nI (i6 + k4 + 1) := by rw [en_29, pk_un (by omega)]; exact kc15_8
                            have e31 : n_29 0 = nI kc0 := by rw [en_29, pk_un (by omega)]; exact kc15_0
                            have e32 : n_29 6 = nI kc6 := by rw [en_29, pk_un (by omega)]; exact kc15_6
                            have e33 : n_29 3 = nI k16 := by rw [en_29, pk_un (by omega)]; exact ek16
                            have e34 : n_29 (6 * i15 + 393) = x27 := by rw [en_29, pk_un (by omega)]; exact ex27
                            have e35 : n_29 (6 * i15 + 392) = (-1) := by rw [en_29, pk_us]
                            obtain ⟨n_36, en_36⟩ : ∃ f : Nat → Int32, f = upd n_29 (6 * i15 + 393) (-1) := ⟨_, rfl⟩
                            rw [← en_36]
                            have hnn_36 := KI.w en_36 hnn_29 (okv_f (show kd (6 * i15 + 393) = (0, 0, false) from (kd_W (k := i15) (c := 3) (by omega) (by omega) (by decide))))
                            have hrn_36 := NRx.w en_36 hrn_29 (by rw [(show kd (6 * i15 + 393) = (0, 0, false) from (kd_W (k := i15) (c := 3) (by omega) (by omega) (by decide)))])
                            have e37 : n_36 8 = nI (i6 + k4 + 1) := by rw [en_36, pk_un (by omega)]; exact e30
                            have e38 : n_36 0 = nI kc0 := by rw [en_36, pk_un (by omega)]; exact e31
                            have e39 : n_36 6 = nI kc6 := by rw [en_36, pk_un (by omega)]; exact e32
                            have e40 : n_36 3 = nI k16 := by rw [en_36, pk_un (by omega)]; exact e33
                            have e41 : n_36 (6 * i15 + 392) = (-1) := by rw [en_36, pk_un (by omega)]; exact e35
                            have e42 : n_36 (6 * i15 + 393) = (-1) := by rw [en_36, pk_us]
                            refine pm_iincX (v := nI (i15 + 1)) (loc' := [some (.ref (B + 54)), some (.int za), some (.int (nI i6)), some (.int (nI (i15 + 1)))]) hG dX12_days_156 rfl (nI_1 _) (by decide) (pm_c1b rfl) rfl ?_
                            refine pm_goto (tgt := 116) hG dX12_days_159 rfl ?_
                            exact ih15 I15 A15 n_36 (i15 + 1) hnn_36 hrn_36 (e37.trans (congrArg nI (by omega))) (e38.trans (congrArg nI (by omega))) (e39.trans (congrArg nI (by omega))) (by omega) (by omega)
                  exact loop116_15 _ I12 A12 n_12 0 hnn_12 hrn_12 (kc12_8.trans (congrArg nI (by omega))) (kc12_0.trans (congrArg nI (by omega))) (kc12_6.trans (congrArg nI (by omega))) (by omega) (Nat.lt_succ_self _)
                · refine pm_aloadn hG dX12_days_62 rfl ?_
                  refine pm_iloadn hG dX12_days_63 rfl ?_
                  rcases KI.opt hnn_12 (show kd (14 * i12 + 119) = (2, 2001, false) from (kd_P (k := i12) (c := 9) (by omega) (by omega) (by decide))) with ek43 | ⟨k43, hk43, ek43⟩
                  · refine pm_callV (As := [.int (nI i12)]) (rest := []) hG hR dX12_days_64 (lkX12_101 _ rfl) okV_X12_lives rfl rfl (m_lives1 (d := 2) (by decide) (by omega) (by omega : 14 * i12 + 119 = 14 * i12 + 119) ek43) rfl rfl hdd (Nat.le_refl _) (Nat.le_refl _) (by decide) (pm_ki (fun v44 σ' cnt' hq => ?_))
                    obtain ⟨rfl, rfl, rfl⟩ := hq
                    refine pm_ifN_eq (tgt := 108) hG dX12_days_67 rfl (by omega) (fun q => absurd q (by omega)) (fun _ => ?_)
                    refine pm_aloadn hG dX12_days_70 rfl ?_
                    refine pm_iloadn hG dX12_days_71 rfl ?_
                    refine pm_iconst (v := nI 4) hG dX12_days_72 (by decide) ?_
                    refine pm_callV (As := [.int (nI i12), .int (nI 4)]) (rest := []) hG hR dX12_days_73 (lkX12_72 _ rfl) okV_X12_man rfl rfl (m_man (d := 2) (e := 14 * i12 + 114) (by omega) (by omega) (by omega)) rfl rfl hdd (Nat.le_refl _) (Nat.le_refl _) (by decide) (pm_ki (fun v45 σ' cnt' hq => ?_))
                    obtain ⟨rfl, rfl, rfl⟩ := hq
                    rcases KI.opt hnn_12 (show kd (14 * i12 + 114) = (2, 10, false) from (kd_P (k := i12) (c := 4) (by omega) (by omega) (by decide))) with ek46 | ⟨k46, hk46, ek46⟩
                    · refine pm_top (v := (-1)) ek46 ?_
                      refine pm_if_ge (tgt := 108) hG dX12_days_76 rfl (fun q => absurd q (by decide)) (fun _ => ?_)
                      refine pm_aloadn hG dX12_days_79 rfl ?_
                      refine pm_iloadn hG dX12_days_80 rfl ?_
                      refine pm_bipush (v := nI 6) hG dX12_days_81 (by decide) ?_
                      refine pm_callV (As := [.int (nI i12), .int (nI 6)]) (rest := []) hG hR dX12_days_83 (lkX12_72 _ rfl) okV_X12_man rfl rfl (m_man (d := 2) (e := 14 * i12 + 116) (by omega) (by omega) (by omega)) rfl rfl hdd (Nat.le_refl _) (Nat.le_refl _) (by decide) (pm_ki (fun v47 σ' cnt' hq => ?_))
                      obtain ⟨rfl, rfl, rfl⟩ := hq
                      refine pm_gen (fun x48 ex48 => ?_)
                      refine pm_aloadn hG dX12_days_86 rfl ?_
                      refine pm_getf hG dX12_days_87 (flX12_7 _ rfl) rfl rfl ?_
                      refine pm_bipush (v := nI 8) hG dX12_days_90 (by decide) ?_
                      refine pm_ialdN hG dX12_days_92 rfl (by decide) (by omega) ?_
                      refine pm_top (v := nI (i6 + k4 + 1)) kc12_8 ?_
                      refine pm_icmp_ne (tgt := 108) hG dX12_days_93 rfl (fun c49 => ?_) (fun c49 => ?_)
                      · refine pm_iincX (v := nI (i12 + 1)) (loc' := [some (.ref (B + 54)), some (.int za), some (.int (nI i6)), some (.int (nI (i12 + 1)))]) hG dX12_days_108 rfl (nI_1 _) (by decide) (pm_c1b rfl) rfl ?_
                        refine pm_goto (tgt := 52) hG dX12_days_111 rfl ?_
                        exact ih12 I12 A12 n_12 (i12 + 1) hnn_12 hrn_12 (kc12_8.trans (congrArg nI (by omega))) (kc12_0.trans (congrArg nI (by omega))) (kc12_6.trans (congrArg nI (by omega))) (by omega) (by omega)
                      · refine pm_aloadn hG dX12_days_96 rfl ?_
                        refine pm_iloadn hG dX12_days_97 rfl ?_
                        refine pm_iconst (v := nI 4) hG dX12_days_98 (by decide) ?_
                        refine pm_aloadn hG dX12_days_99 rfl ?_
                        refine pm_iloadn hG dX12_days_100 rfl ?_
                        refine pm_iconst (v := nI 5) hG dX12_days_101 (by decide) ?_
                        refine pm_callV (As := [.int (nI i12), .int (nI 5)]) (rest := [.int (nI 4), .int (nI i12), .ref (B + 54)]) hG hR dX12_days_102 (lkX12_72 _ rfl) okV_X12_man rfl rfl (m_man (d := 2) (e := 14 * i12 + 115) (by omega) (by omega) (by omega)) rfl rfl hdd (Nat.le_refl _) (Nat.le_refl _) (Nat.le_of_ble_eq_true rfl) (pm_ki (fun v50 σ' cnt' hq => ?_))
                        obtain ⟨rfl, rfl, rfl⟩ := hq
                        obtain ⟨k51, hk51, ek51⟩ := KI.nat hnn_12 (show kd (14 * i12 + 115) = (1, 10, false) from (kd_P (k := i12) (c := 5) (by omega) (by omega) (by decide)))
                        refine pm_top (v := nI k51) ek51 ?_
                        refine pm_callV (As := [.int (nI i12), .int (nI 4), .int (nI k51)]) (rest := []) hG hR dX12_days_105 (lkX12_97 _ rfl) okV_X12_sets rfl rfl (m_sets (d := 2) (e := 14 * i12 + 114) (by omega) (by omega) (by omega)) rfl rfl hdd (Nat.le_refl _) (Nat.le_refl _) (by decide) (pm_kv (fun σ' cnt' hq => ?_))
                        obtain ⟨rfl, rfl⟩ := hq
                        obtain ⟨n_52, en_52⟩ : ∃ f : Nat → Int32, f = upd n_12 (14 * i12 + 114) (nI k51) := ⟨_, rfl⟩
                        rw [← en_52]
                        have hnn_52 := KI.w en_52 hnn_12 (okv_o (show kd (14 * i12 + 114) = (2, 10, false) from (kd_P (k := i12) (c := 4) (by omega) (by omega) (by decide))) (by omega))
                        have hrn_52 := NRx.w en_52 hrn_12 (by rw [(show kd (14 * i12 + 114) = (2, 10, false) from (kd_P (k := i12) (c := 4) (by omega) (by omega) (by decide)))])
                        have e53 : n_52 8 = nI (i6 + k4 + 1) := by rw [en_52, pk_un (by omega)]; exact kc12_8
                        have e54 : n_52 0 = nI kc0 := by rw [en_52, pk_un (by omega)]; exact kc12_0
                        have e55 : n_52 6 = nI kc6 := by rw [en_52, pk_un (by omega)]; exact kc12_6
                        have e56 : n_52 2 = nI k13 := by rw [en_52, pk_un (by omega)]; exact ek13
                        have e57 : n_52 (14 * i12 + 119) = (-1) := by rw [en_52, pk_un (by omega)]; exact ek43
                        have e58 : n_52 (14 * i12 + 116) = x48 := by rw [en_52, pk_un (by omega)]; exact ex48
                        have e59 : n_52 (14 * i12 + 115) = nI k51 := by rw [en_52, pk_un (by omega)]; exact ek51
                        have e60 : n_52 (14 * i12 + 114) = nI k51 := by rw [en_52, pk_us]
                        refine pm_iincX (v := nI (i12 + 1)) (loc' := [some (.ref (B + 54)), some (.int za), some (.int (nI i6)), some (.int (nI (i12 + 1)))]) hG dX12_days_108 rfl (nI_1 _) (by decide) (pm_c1b rfl) rfl ?_
                        refine pm_goto (tgt := 52) hG dX12_days_111 rfl ?_
                        exact ih12 I12 A12 n_52 (i12 + 1) hnn_52 hrn_52 (e53.trans (congrArg nI (by omega))) (e54.trans (congrArg nI (by omega))) (e55.trans (congrArg nI (by omega))) (by omega) (by omega)
                    · refine pm_top (v := nI k46) ek46 ?_
                      refine pm_ifN_ge (tgt := 108) hG dX12_days_76 rfl (by omega) ?_
                      refine pm_iincX (v := nI (i12 + 1)) (loc' := [some (.ref (B + 54)), some (.int za), some (.int (nI i6)), some (.int (nI (i12 + 1)))]) hG dX12_days_108 rfl (nI_1 _) (by decide) (pm_c1b rfl) rfl ?_
                      refine pm_goto (tgt := 52) hG dX12_days_111 rfl ?_
                      exact ih12 I12 A12 n_12 (i12 + 1) hnn_12 hrn_12 (kc12_8.trans (congrArg nI (by omega))) (kc12_0.trans (congrArg nI (by omega))) (kc12_6.trans (congrArg nI (by omega))) (by omega) (by omega)
                  · refine pm_callV (As := [.int (nI i12)]) (rest := []) hG hR dX12_days_64 (lkX12_101 _ rfl) okV_X12_lives rfl rfl (m_lives0 (d := 2) (by decide) (by omega) (by omega : 14 * i12 + 119 = 14 * i12 + 119) ek43 (by omega)) rfl rfl hdd (Nat.le_refl _) (Nat.le_refl _) (by decide) (pm_ki (fun v61 σ' cnt' hq => ?_))
                    obtain ⟨rfl, rfl, rfl⟩ := hq
                    refine pm_ifN_eq (tgt := 108) hG dX12_days_67 rfl (by omega) (fun _ => ?_) (fun q => absurd q (by omega))
                    refine pm_iincX (v := nI (i12 + 1)) (loc' := [some (.ref (B + 54)), some (.int za), some (.int (nI i6)), some (.int (nI (i12 + 1)))]) hG dX12_days_108 rfl (nI_1 _) (by decide) (pm_c1b rfl) rfl ?_
                    refine pm_goto (tgt := 52) hG dX12_days_111 rfl ?_
                    exact ih12 I12 A12 n_12 (i12 + 1) hnn_12 hrn_12 (kc12_8.trans (congrArg nI (by omega))) (kc12_0.trans (congrArg nI (by omega))) (kc12_6.trans (congrArg nI (by omega))) (by omega) (by omega)
            exact loop52_12 _ I6 A6 n_8 0 hnn_8 hrn_8 (e11.trans (congrArg nI (by omega))) (e9.trans (congrArg nI (by omega))) (e10.trans (congrArg nI (by omega))) (by omega) (Nat.lt_succ_self _)
      exact loop34_6 _ I A n 0 hn hr (ekc0.trans (congrArg nI (by omega))) (ekc6.trans (congrArg nI (by omega))) (ek4.trans (congrArg nI (by omega))) (by omega) (Nat.lt_succ_self _)
    · refine pm_aloadn hG dX12_days_26 rfl ?_
      refine pm_iconst (v := nI 1) hG dX12_days_27 (by decide) ?_
      refine pm_callV (As := [.int (nI 1)]) (rest := []) hG hR dX12_days_28 (lkX12_80 _ rfl) okV_X12_finds rfl rfl (m_finds (d := 2) (by decide) hn hz (by omega)) rfl rfl hdd (Nat.le_refl _) (Nat.le_refl _) (by decide) (pm_ki (fun v62 σ' cnt' hq => ?_))
      obtain ⟨⟨I63, A63, rfl⟩, rfl, fv62⟩ := hq
      exact pm_iret hG hF dX12_days_31 rfl (Nat.le_refl _) (Nat.le_refl _) ⟨_, rfl, ⟨_, _, _, rfl, hn, hr, ekc0.trans ekc0.symm, ekc6.trans ekc6.symm⟩, rfl⟩
  · refine pm_ifN_eq (tgt := 26) hG dX12_days_8 rfl (by omega) (fun _ => ?_) (fun q => absurd q (by omega))
    refine pm_aloadn hG dX12_days_26 rfl ?_
    refine pm_iconst (v := nI 1) hG dX12_days_27 (by decide) ?_
    refine pm_callV (As := [.int (nI 1)]) (rest := []) hG hR dX12_days_28 (lkX12_80 _ rfl) okV_X12_finds rfl rfl (m_finds (d := 2) (by decide) hn hz (by omega)) rfl rfl hdd (Nat.le_refl _) (Nat.le_refl _) (by decide) (pm_ki (fun v64 σ' cnt' hq => ?_))
    obtain ⟨⟨I65, A65, rfl⟩, rfl, fv64⟩ := hq
    exact pm_iret hG hF dX12_days_31 rfl (Nat.le_refl _) (Nat.le_refl _) ⟨_, rfl, ⟨_, _, _, rfl, hn, hr, ekc0.trans ekc0.symm, ekc6.trans ekc6.symm⟩, rfl⟩

set_option maxRecDepth 100000 in
set_option maxHeartbeats 4000000 in
theorem m_debt {d B cnt p0 t0 : Nat} {σ : pm_S} {I : Nat → Int32} {A : Nat → Nat → Int32} {n k z : Nat → Int32} {ac wt pl im : Int32} {za zb zc : Int32} (hdd : 2 ≤ d) (hn : KI n) (hr : NR n) (hz : SZ z)  : pm_met mX12_debt d 0 0 B [.ref (B + 54), .int za, .int zb, .int zc] cnt (pm_mid σ (md_L B I A n k z ac wt pl (nI p0) (nI t0) im)) (pm_Qi (fun v σ' cnt' => (∃ (I' : Nat → Int32) (A' : Nat → Nat → Int32) (n' : Nat → Int32), σ' = pm_mid σ (md_L B I' A' n' k z ac wt pl (nI p0) (nI t0) im) ∧ KI n' ∧ NR n' ∧ n' 0 = n 0 ∧ v = vB (n 0) (n 6) za zb zc ∧ n' 6 = tB (n 0) (n 6) za zb zc) ∧ cnt = cnt')) := by
  obtain ⟨kc0, hkc0, ekc0⟩ := KI.nat hn (show kd 0 = (1, 11, true) by decide)
  obtain ⟨kc6, hkc6, ekc6⟩ := KI.nat hn (show kd 6 = (1, 7, false) by decide)
  refine pm_enter 1 (by decide) (Nat.le_of_ble_eq_true rfl) rfl (fun G hG hR hF => ?_)
  refine pm_iloadn hG dX12_debt_0 rfl ?_
  refine pm_iconst (v := nI 0) hG dX12_debt_1 (by decide) ?_
  refine pm_ldc hG dX12_debt_2 (ctX12_242 _ rfl) ?_
  refine pm_top (v := nI 99999) (by decide) ?_
  refine pm_callS (As := [.int za, .int (nI 0), .int (nI 99999)]) (rest := []) hG hR dX12_debt_4 (lkX12_68 _ rfl) okS_X12_in (m_in (d := 1)) rfl rfl hdd (Nat.le_refl _) (Nat.le_refl _) (by decide) (pm_ki (fun v1 σ' cnt' hq => ?_))
  obtain ⟨hq, rfl, rfl⟩ := hq
  rcases hq with ⟨rfl, ac2, bc2⟩ | ⟨rfl, c2⟩
  · obtain ⟨k3, hk3, ek3⟩ := in_nat (by omega) (by omega) ac2 bc2
    refine pm_ifN_eq (tgt := 51) hG dX12_debt_7 rfl (by omega) (fun q => absurd q (by omega)) (fun _ => ?_)
    refine pm_iloadn hG dX12_debt_10 rfl ?_
    refine pm_if_lt (tgt := 51) hG dX12_debt_11 rfl (fun c4 => ?_) (fun c4 => ?_)
    · refine pm_aloadn hG dX12_debt_51 rfl ?_
      refine pm_iconst (v := nI 1) hG dX12_debt_52 (by decide) ?_
      refine pm_callV (As := [.int (nI 1)]) (rest := []) hG hR dX12_debt_53 (lkX12_80 _ rfl) okV_X12_finds rfl rfl (m_finds (d := 1) (by decide) hn hz (by omega)) rfl rfl hdd (Nat.le_refl _) (Nat.le_refl _) (by decide) (pm_ki (fun v5 σ' cnt' hq => ?_))
      obtain ⟨⟨I6, A6, rfl⟩, rfl, fv5⟩ := hq
      exact pm_iret hG hF dX12_debt_56 rfl (Nat.le_refl _) (Nat.le_refl _) ⟨_, rfl, ⟨_, _, _, rfl, hn, hr, ekc0.trans ekc0.symm, ⟨fv5.trans ((by decide : (-1000000 : Int32) - nI 1 = -1000001).trans (vB_n (t := n 0) (d := n 6) (a := za) (b := zb) (c := zc) (by first | exact Or.inr (Or.inr (Or.inl (rem_neg (by assumption)))))).1), (vB_n (t := n 0) (d := n 6) (a := za) (b := zb) (c := zc) (by first | exact Or.inr (Or.inr (Or.inl (rem_neg (by assumption)))))).2⟩⟩, rfl⟩
    · obtain ⟨k7, hk7, ek7⟩ := nI_of c4
      refine pm_iloadn hG dX12_debt_14 rfl ?_
      refine pm_top (v := nI k7) ek7 ?_
      refine pm_sipush (v := nI 10000) hG dX12_debt_15 (by decide) ?_
      refine pm_idivN hG dX12_debt_18 (by omega) (by decide) (by decide) ?_
      refine pm_iconst (v := nI 0) hG dX12_debt_19 (by decide) ?_
      refine pm_bipush (v := nI 99) hG dX12_debt_20 (by decide) ?_
      refine pm_callS (As := [.int (nI ((k7 / 10000))), .int (nI 0), .int (nI 99)]) (rest := []) hG hR dX12_debt_22 (lkX12_68 _ rfl) okS_X12_in (m_in (d := 1)) rfl rfl hdd (Nat.le_refl _) (Nat.le_refl _) (by decide) (pm_ki (fun v8 σ' cnt' hq => ?_))
      obtain ⟨hq, rfl, rfl⟩ := hq
      rcases hq with ⟨rfl, ac9, bc9⟩ | ⟨rfl, c9⟩
      · have ic9 := (nI_leI (by omega) (by omega)).mp (Int32.not_lt.mp ac9)
        have jc9 := (nI_leI (by omega) (by omega)).mp (Int32.not_lt.mp bc9)
        refine pm_ifN_eq (tgt := 51) hG dX12_debt_25 rfl (by omega) (fun q => absurd q (by omega)) (fun _ => ?_)
        refine pm_iloadn hG dX12_debt_28 rfl ?_
        refine pm_top (v := nI k7) ek7 ?_
        refine pm_sipush (v := nI 10000) hG dX12_debt_29 (by decide) ?_
        refine pm_iremM hG dX12_debt_32 (by omega) (by decide) (by decide) ?_
        refine pm_iconst (v := nI 1) hG dX12_debt_33 (by decide) ?_
        refine pm_sipush (v := nI 9999) hG dX12_debt_34 (by decide) ?_
        refine pm_callS (As := [.int (nI ((k7 % 10000))), .int (nI 1), .int (nI 9999)]) (rest := []) hG hR dX12_debt_37 (lkX12_68 _ rfl) okS_X12_in (m_in (d := 1)) rfl rfl hdd (Nat.le_refl _) (Nat.le_refl _) (by decide) (pm_ki (fun v10 σ' cnt' hq => ?_))
        obtain ⟨hq, rfl, rfl⟩ := hq
        rcases hq with ⟨rfl, ac11, bc11⟩ | ⟨rfl, c11⟩
        · have ic11 := (nI_leI (by omega) (by omega)).mp (Int32.not_lt.mp ac11)
          have jc11 := (nI_leI (by omega) (by omega)).mp (Int32.not_lt.mp bc11)
          refine pm_ifN_eq (tgt := 51) hG dX12_debt_40 rfl (by omega) (fun q => absurd q (by omega)) (fun _ => ?_)
          refine pm_aloadn hG dX12_debt_43 rfl ?_
          refine pm_iloadn hG dX12_debt_44 rfl ?_
          refine pm_callV (As := [.int zc]) (rest := []) hG hR dX12_debt_45 (lkX12_84 _ rfl) okV_X12_isTown rfl rfl (m_isTown (d := 1) (by decide) ekc0 (by omega)) rfl rfl hdd (Nat.le_refl _) (Nat.le_refl _) (by decide) (pm_ki (fun v12 σ' cnt' hq => ?_))
          obtain ⟨hq, rfl, rfl⟩ := hq
          rcases hq with ⟨rfl, k14, hk14, ek14⟩ | ⟨rfl, ntk14⟩
          · refine pm_ifN_ne (tgt := 57) hG dX12_debt_48 rfl (by omega) (fun _ => ?_) (fun q => absurd q (by omega))
            refine pm_aloadn hG dX12_debt_57 rfl ?_
            refine pm_getf hG dX12_debt_58 (flX12_7 _ rfl) rfl rfl ?_
            refine pm_bipush (v := nI 6) hG dX12_debt_61 (by decide) ?_
            refine pm_ialdN hG dX12_debt_63 rfl (by decide) (by omega) ?_
            refine pm_top (v := nI kc6) ekc6 ?_
            refine pm_istoreXi (loc' := [some (.ref (B + 54)), some (.int za), some (.int zb), some (.int zc), some (.int (nI kc6))]) hG dX12_debt_64 (by decide) (pm_c1b rfl) rfl ?_
            refine pm_iloadi hG dX12_debt_66 rfl ?_
            refine pm_bipush (v := nI 6) hG dX12_debt_68 (by decide) ?_
            refine pm_icmpN_ne (tgt := 79) hG dX12_debt_70 rfl (by omega) (by omega) (fun c15 => ?_) (fun c15 => ?_)
            · refine pm_aloadn hG dX12_debt_79 rfl ?_
              refine pm_getf hG dX12_debt_80 (flX12_7 _ rfl) rfl rfl ?_
              refine pm_bipush (v := nI 6) hG dX12_debt_83 (by decide) ?_
              refine pm_dup2 hG dX12_debt_85 rfl rfl ?_
              refine pm_ialdN hG dX12_debt_86 rfl (by decide) (by omega) ?_
              refine pm_top (v := nI kc6) ekc6 ?_
              refine pm_iconst (v := nI 1) hG dX12_debt_87 (by decide) ?_
              refine pm_iaddN (c := kc6 + 1) hG dX12_debt_88 (by omega) ?_
              refine pm_iastN hG dX12_debt_89 rfl (by decide) (by omega) ?_
              refine mdn_now (fun n_16 en_16 => ?_)
              have hnn_16 := KI.w en_16 hn (okv_n (show kd 6 = (1, 7, false) by decide) (by omega))
              have hrn_16 := NRx.w en_16 hr (by rw [(show kd 6 = (1, 7, false) by decide)])
              have e17 : n_16 0 = nI kc0 := by rw [en_16, pk_un (by omega)]; exact ekc0
              have e18 : n_16 6 = nI (kc6 + 1) := by rw [en_16, pk_us]
              refine pm_aloadn hG dX12_debt_90 rfl ?_
              refine pm_getf hG dX12_debt_91 (flX12_7 _ rfl) rfl rfl ?_
              refine pm_sipush (v := nI 1770) hG dX12_debt_94 (by decide) ?_
              refine pm_bipush (v := nI 6) hG dX12_debt_97 (by decide) ?_
              refine pm_iloadi hG dX12_debt_99 rfl ?_
              refine pm_imulN (c := 6 * kc6) hG dX12_debt_101 (by omega) ?_
              refine pm_iaddN (c := 6 * kc6 + 1770) hG dX12_debt_102 (by omega) ?_
              refine pm_iloadn hG dX12_debt_103 rfl ?_
              refine pm_top (v := nI k3) ek3 ?_
              refine pm_iastN hG dX12_debt_104 rfl (by decide) (by omega) ?_
              refine mdn_now (fun n_19 en_19 => ?_)
              have hnn_19 := KI.w en_19 hnn_16 (okv_f (show kd (6 * kc6 + 1770) = (0, 0, false) from (kd_D (k := kc6) (c := 0) (by omega) (by omega) (by decide))))
              have hrn_19 := NRx.w en_19 hrn_16 (by rw [(show kd (6 * kc6 + 1770) = (0, 0, false) from (kd_D (k := kc6) (c := 0) (by omega) (by omega) (by decide)))])
              have e20 : n_19 0 = nI kc0 := by rw [en_19, pk_un (by omega)]; exact e17
              have e21 : n_19 6 = nI (kc6 + 1) := by rw [en_19, pk_un (by omega)]; exact e18
              have e22 : n_19 (6 * kc6 + 1770) = nI k3 := by rw [en_19, pk_us]
              refine pm_aloadn hG dX12_debt_105 rfl ?_
              refine pm_getf hG dX12_debt_106 (flX12_7 _ rfl) rfl rfl ?_
              refine pm_sipush (v := nI 1770) hG dX12_debt_109 (by decide) ?_
              refine pm_bipush (v := nI 6) hG dX12_debt_112 (by decide) ?_
              refine pm_iloadi hG dX12_debt_114 rfl ?_
              refine pm_imulN (c := 6 * kc6) hG dX12_debt_116 (by omega) ?_
              refine pm_iaddN (c := 6 * kc6 + 1770) hG dX12_debt_117 (by omega) ?_
              refine pm_iconst (v := nI 1) hG dX12_debt_118 (by decide) ?_
              refine pm_iaddN (c := 6 * kc6 + 1771) hG dX12_debt_119 (by omega) ?_
              refine pm_iloadn hG dX12_debt_120 rfl ?_
              refine pm_top (v := nI k7) ek7 ?_
              refine pm_sipush (v := nI 10000) hG dX12_debt_121 (by decide) ?_
              refine pm_idivN hG dX12_debt_124 (by omega) (by decide) (by decide) ?_
              refine pm_iastN hG dX12_debt_125 rfl (by decide) (by omega) ?_
              refine mdn_now (fun n_23 en_23 => ?_)
              have hnn_23 := KI.w en_23 hnn_19 (okv_f (show kd (6 * kc6 + 1771) = (0, 0, false) from (kd_D (k := kc6) (c := 1) (by omega) (by omega) (by decide))))
              have hrn_23 := NRx.w en_23 hrn_19 (by rw [(show kd (6 * kc6 + 1771) = (0, 0, false) from (kd_D (k := kc6) (c := 1) (by omega) (by omega) (by decide)))])
              have e24 : n_23 0 = nI kc0 := by rw [en_23, pk_un (by omega)]; exact e20
              have e25 : n_23 6 = nI (kc6 + 1) := by rw [en_23, pk_un (by omega)]; exact e21
              have e26 : n_23 (6 * kc6 + 1770) = nI k3 := by rw [en_23, pk_un (by omega)]; exact e22
              have e27 : n_23 (6 * kc6 + 1771) = nI ((k7 / 10000)) := by rw [en_23, pk_us]
              refine pm_aloadn hG dX12_debt_126 rfl ?_
              refine pm_getf hG dX12_debt_127 (flX12_7 _ rfl) rfl rfl ?_
              refine pm_sipush (v := nI 1770) hG dX12_debt_130 (by decide) ?_
              refine pm_bipush (v := nI 6) hG dX12_debt_133 (by decide) ?_
              refine pm_iloadi hG dX12_debt_135 rfl ?_
              refine pm_imulN (c := 6 * kc6) hG dX12_debt_137 (by omega) ?_
              refine pm_iaddN (c := 6 * kc6 + 1770) hG dX12_debt_138 (by omega) ?_
              refine pm_iconst (v := nI 2) hG dX12_debt_139 (by decide) ?_
              refine pm_iaddN (c := 6 * kc6 + 1772) hG dX12_debt_140 (by omega) ?_
              refine pm_iloadn hG dX12_debt_141 rfl ?_
              refine pm_top (v := nI k7) ek7 ?_
              refine pm_sipush (v := nI 10000) hG dX12_debt_142 (by decide) ?_
              refine pm_iremM hG dX12_debt_145 (by omega) (by decide) (by decide) ?_
              refine pm_iastN hG dX12_debt_146 rfl (by decide) (by omega) ?_
              refine mdn_now (fun n_28 en_28 => ?_)
              have hnn_28 := KI.w en_28 hnn_23 (okv_f (show kd (6 * kc6 + 1772) = (0, 0, false) from (kd_D (k := kc6) (c := 2) (by omega) (by omega) (by decide))))
              have hrn_28 := NRx.w en_28 hrn_23 (by rw [(show kd (6 * kc6 + 1772) = (0, 0, false) from (kd_D (k := kc6) (c := 2) (by omega) (by omega) (by decide)))])
              have e29 : n_28 0 = nI kc0 := by rw [en_28, pk_un (by omega)]; exact e24
              have e30 : n_28 6 = nI (kc6 + 1) := by rw [en_28, pk_un (by omega)]; exact e25
              have e31 : n_28 (6 * kc6 + 1770) = nI k3 := by rw [en_28, pk_un (by omega)]; exact e26
              have e32 : n_28 (6 * kc6 + 1771) = nI ((k7 / 10000)) := by rw [en_28, pk_un (by omega)]; exact e27
              have e33 : n_28 (6 * kc6 + 1772) = nI ((k7 % 10000)) := by rw [en_28, pk_us]
              refine pm_aloadn hG dX12_debt_147 rfl ?_
              refine pm_getf hG dX12_debt_148 (flX12_7 _ rfl) rfl rfl ?_
              refine pm_sipush (v := nI 1770) hG dX12_debt_151 (by decide) ?_
              refine pm_bipush (v := nI 6) hG dX12_debt_154 (by decide) ?_
              refine pm_iloadi hG dX12_debt_156 rfl ?_
              refine pm_imulN (c := 6 * kc6) hG dX12_debt_158 (by omega) ?_
              refine pm_iaddN (c := 6 * kc6 + 1770) hG dX12_debt_159 (by omega) ?_
              refine pm_iconst (v := nI 3) hG dX12_debt_160 (by decide) ?_
              refine pm_iaddN (c := 6 * kc6 + 1773) hG dX12_debt_161 (by omega) ?_
              refine pm_iconst (v := nI 0) hG dX12_debt_162 (by decide) ?_
              refine pm_iastN hG dX12_debt_163 rfl (by decide) (by omega) ?_
              refine mdn_now (fun n_34 en_34 => ?_)
              have hnn_34 := KI.w en_34 hnn_28 (okv_f (show kd (6 * kc6 + 1773) = (0, 0, false) from (kd_D (k := kc6) (c := 3) (by omega) (by omega) (by decide))))
              have hrn_34 := NRx.w en_34 hrn_28 (by rw [(show kd (6 * kc6 + 1773) = (0, 0, false) from (kd_D (k := kc6) (c := 3) (by omega) (by omega) (by decide)))])
              have e35 : n_34 0 = nI kc0 := by rw [en_34, pk_un (by omega)]; exact e29
              have e36 : n_34 6 = nI (kc6 + 1) := by rw [en_34, pk_un (by omega)]; exact e30
              have e37 : n_34 (6 * kc6 + 1770) = nI k3 := by rw [en_34, pk_un (by omega)]; exact e31
              have e38 : n_34 (6 * kc6 + 1771) = nI ((k7 / 10000)) := by rw [en_34, pk_un (by omega)]; exact e32
              have e39 : n_34 (6 * kc6 + 1772) = nI ((k7 % 10000)) := by rw [en_34, pk_un (by omega)]; exact e33
              have e40 : n_34 (6 * kc6 + 1773) = nI 0 := by rw [en_34, pk_us]
              refine pm_aloadn hG dX12_debt_164 rfl ?_
              refine pm_getf hG dX12_debt_165 (flX12_7 _ rfl) rfl rfl ?_
              refine pm_sipush (v := nI 1770) hG dX12_debt_168 (by decide) ?_
              refine pm_bipush (v := nI 6) hG dX12_debt_171 (by decide) ?_
              refine pm_iloadi hG dX12_debt_173 rfl ?_
              refine pm_imulN (c := 6 * kc6) hG dX12_debt_175 (by omega) ?_
              refine pm_iaddN (c := 6 * kc6 + 1770) hG dX12_debt_176 (by omega) ?_
              refine pm_iconst (v := nI 4) hG dX12_debt_177 (by decide) ?_
              refine pm_iaddN (c := 6 * kc6 + 1774) hG dX12_debt_178 (by omega) ?_
              refine pm_iloadn hG dX12_debt_179 rfl ?_
              refine pm_top (v := nI k14) ek14 ?_
              refine pm_iastN hG dX12_debt_180 rfl (by decide) (by omega) ?_
              refine mdn_now (fun n_41 en_41 => ?_)
              have hnn_41 := KI.w en_41 hnn_34 (okv_n (show kd (6 * kc6 + 1774) = (1, 10, false) from (kd_D (k := kc6) (c := 4) (by omega) (by omega) (by decide))) (by omega))
              have hrn_41 := NRx.w en_41 hrn_34 (by rw [(show kd (6 * kc6 + 1774) = (1, 10, false) from (kd_D (k := kc6) (c := 4) (by omega) (by omega) (by decide)))])
              have e42 : n_41 0 = nI kc0 := by rw [en_41, pk_un (by omega)]; exact e35
              have e43 : n_41 6 = nI (kc6 + 1) := by rw [en_41, pk_un (by omega)]; exact e36
              have e44 : n_41 (6 * kc6 + 1770) = nI k3 := by rw [en_41, pk_un (by omega)]; exact e37
              have e45 : n_41 (6 * kc6 + 1771) = nI ((k7 / 10000)) := by rw [en_41, pk_un (by omega)]; exact e38
              have e46 : n_41 (6 * kc6 + 1772) = nI ((k7 % 10000)) := by rw [en_41, pk_un (by omega)]; exact e39
              have e47 : n_41 (6 * kc6 + 1773) = nI 0 := by rw [en_41, pk_un (by omega)]; exact e40
              have e48 : n_41 (6 * kc6 + 1774) = nI k14 := by rw [en_41, pk_us]
              refine pm_aloadn hG dX12_debt_181 rfl ?_
              refine pm_getf hG dX12_debt_182 (flX12_7 _ rfl) rfl rfl ?_
              refine pm_bipush (v := nI 9) hG dX12_debt_185 (by decide) ?_
              refine pm_dup2 hG dX12_debt_187 rfl rfl ?_
              refine pm_ialdN hG dX12_debt_188 rfl (by decide) (by omega) ?_
              refine pm_gen (fun x49 ex49 => ?_)
              refine pm_iloadn hG dX12_debt_189 rfl ?_
              refine pm_top (v := nI k3) ek3 ?_
              refine pm_iadd hG dX12_debt_190 ?_
              refine pm_iastN hG dX12_debt_191 rfl (by decide) (by omega) ?_
              refine mdn_now (fun n_50 en_50 => ?_)
              have hnn_50 := KI.w en_50 hnn_41 (okv_f (show kd 9 = (0, 0, false) by decide))
              have hrn_50 := NRx.w en_50 hrn_41 (by rw [(show kd 9 = (0, 0, false) by decide)])
              have e51 : n_50 0 = nI kc0 := by rw [en_50, pk_un (by omega)]; exact e42
              have e52 : n_50 6 = nI (kc6 + 1) := by rw [en_50, pk_un (by omega)]; exact e43
              have e53 : n_50 (6 * kc6 + 1770) = nI k3 := by rw [en_50, pk_un (by omega)]; exact e44
              have e54 : n_50 (6 * kc6 + 1771) = nI ((k7 / 10000)) := by rw [en_50, pk_un (by omega)]; exact e45
              have e55 : n_50 (6 * kc6 + 1772) = nI ((k7 % 10000)) := by rw [en_50, pk_un (by omega)]; exact e46
              have e56 : n_50 (6 * kc6 + 1773) = nI 0 := by rw [en_50, pk_un (by omega)]; exact e47
              have e57 : n_50 (6 * kc6 + 1774) = nI k14 := by rw [en_50, pk_un (by omega)]; exact e48
              have e58 : n_50 9 = x49 + (nI k3) := by rw [en_50, pk_us]
              refine pm_iloadi hG dX12_debt_192 rfl ?_
              exact pm_iret hG hF dX12_debt_194 rfl (Nat.le_refl _) (Nat.le_refl _) ⟨_, rfl, ⟨_, _, _, rfl, hnn_50, hrn_50, e51.trans ekc0.symm, ⟨(vB_y (t := n 0) (d := n 6) (a := za) (b := zb) (c := zc) (not4 (rg_in (a := 0) (b := 99999) (by omega) ek3 (by omega) (by omega)) (dv_in ek7 (by omega) (by omega)) (rm_in ek7 (by omega) (by omega)) (nt_in ekc0 (by omega) ek14 (by omega))) ekc6 (by omega)).1, e52.trans (vB_y (t := n 0) (d := n 6) (a := za) (b := zb) (c := zc) (not4 (rg_in (a := 0) (b := 99999) (by omega) ek3 (by omega) (by omega)) (dv_in ek7 (by omega) (by omega)) (rm_in ek7 (by omega) (by omega)) (nt_in ekc0 (by omega) ek14 (by omega))) ekc6 (by omega)).2⟩⟩, rfl⟩
            · refine pm_aloadn hG dX12_debt_73 rfl ?_
              refine pm_iconst (v := nI 4) hG dX12_debt_74 (by decide) ?_
              refine pm_callV (As := [.int (nI 4)]) (rest := []) hG hR dX12_debt_75 (lkX12_80 _ rfl) okV_X12_finds rfl rfl (m_finds (d := 1) (by decide) hn hz (by omega)) rfl rfl hdd (Nat.le_refl _) (Nat.le_refl _) (by decide) (pm_ki (fun v59 σ' cnt' hq => ?_))
              obtain ⟨⟨I60, A60, rfl⟩, rfl, fv59⟩ := hq
              exact pm_iret hG hF dX12_debt_78 rfl (Nat.le_refl _) (Nat.le_refl _) ⟨_, rfl, ⟨_, _, _, rfl, hn, hr, ekc0.trans ekc0.symm, ⟨fv59.trans ((by decide : (-1000000 : Int32) - nI 4 = -1000004).trans (vB_f (t := n 0) (d := n 6) (a := za) (b := zb) (c := zc) (not4 (rg_in (a := 0) (b := 99999) (by omega) ek3 (by omega) (by omega)) (dv_in ek7 (by omega) (by omega)) (rm_in ek7 (by omega) (by omega)) (nt_in ekc0 (by omega) ek14 (by omega))) (ekc6.trans (congrArg nI (by omega)))).1), (vB_f (t := n 0) (d := n 6) (a := za) (b := zb) (c := zc) (not4 (rg_in (a := 0) (b := 99999) (by omega) ek3 (by omega) (by omega)) (dv_in ek7 (by omega) (by omega)) (rm_in ek7 (by omega) (by omega)) (nt_in ekc0 (by omega) ek14 (by omega))) (ekc6.trans (congrArg nI (by omega)))).2⟩⟩, rfl⟩
          · refine pm_ifN_ne (tgt := 57) hG dX12_debt_48 rfl (by omega) (fun q => absurd q (by omega)) (fun _ => ?_)
            refine pm_aloadn hG dX12_debt_51 rfl ?_
            refine pm_iconst (v := nI 1) hG dX12_debt_52 (by decide) ?_
            refine pm_callV (As := [.int (nI 1)]) (rest := []) hG hR dX12_debt_53 (lkX12_80 _ rfl) okV_X12_finds rfl rfl (m_finds (d := 1) (by decide) hn hz (by omega)) rfl rfl hdd (Nat.le_refl _) (Nat.le_refl _) (by decide) (pm_ki (fun v61 σ' cnt' hq => ?_))
            obtain ⟨⟨I62, A62, rfl⟩, rfl, fv61⟩ := hq
            exact pm_iret hG hF dX12_debt_56 rfl (Nat.le_refl _) (Nat.le_refl _) ⟨_, rfl, ⟨_, _, _, rfl, hn, hr, ekc0.trans ekc0.symm, ⟨fv61.trans ((by decide : (-1000000 : Int32) - nI 1 = -1000001).trans (vB_n (t := n 0) (d := n 6) (a := za) (b := zb) (c := zc) (by first | exact Or.inr (Or.inr (Or.inr (nt_out ekc0 (by omega) (by assumption)))) | exact Or.inr (Or.inr (Or.inl (rm_no ek7 (by omega) (by assumption)))) | exact Or.inr (Or.inl (dv_no ek7 (by omega) (by assumption))))).1), (vB_n (t := n 0) (d := n 6) (a := za) (b := zb) (c := zc) (by first | exact Or.inr (Or.inr (Or.inr (nt_out ekc0 (by omega) (by assumption)))) | exact Or.inr (Or.inr (Or.inl (rm_no ek7 (by omega) (by assumption)))) | exact Or.inr (Or.inl (dv_no ek7 (by omega) (by assumption))))).2⟩⟩, rfl⟩
        · refine pm_ifN_eq (tgt := 51) hG dX12_debt_40 rfl (by omega) (fun _ => ?_) (fun q => absurd q (by omega))
          refine pm_aloadn hG dX12_debt_51 rfl ?_
          refine pm_iconst (v := nI 1) hG dX12_debt_52 (by decide) ?_
          refine pm_callV (As := [.int (nI 1)]) (rest := []) hG hR dX12_debt_53 (lkX12_80 _ rfl) okV_X12_finds rfl rfl (m_finds (d := 1) (by decide) hn hz (by omega)) rfl rfl hdd (Nat.le_refl _) (Nat.le_refl _) (by decide) (pm_ki (fun v63 σ' cnt' hq => ?_))
          obtain ⟨⟨I64, A64, rfl⟩, rfl, fv63⟩ := hq
          exact pm_iret hG hF dX12_debt_56 rfl (Nat.le_refl _) (Nat.le_refl _) ⟨_, rfl, ⟨_, _, _, rfl, hn, hr, ekc0.trans ekc0.symm, ⟨fv63.trans ((by decide : (-1000000 : Int32) - nI 1 = -1000001).trans (vB_n (t := n 0) (d := n 6) (a := za) (b := zb) (c := zc) (by first | exact Or.inr (Or.inr (Or.inr (nt_out ekc0 (by omega) (by assumption)))) | exact Or.inr (Or.inr (Or.inl (rm_no ek7 (by omega) (by assumption)))) | exact Or.inr (Or.inl (dv_no ek7 (by omega) (by assumption))))).1), (vB_n (t := n 0) (d := n 6) (a := za) (b := zb) (c := zc) (by first | exact Or.inr (Or.inr (Or.inr (nt_out ekc0 (by omega) (by assumption)))) | exact Or.inr (Or.inr (Or.inl (rm_no ek7 (by omega) (by assumption)))) | exact Or.inr (Or.inl (dv_no ek7 (by omega) (by assumption))))).2⟩⟩, rfl⟩
      · refine pm_ifN_eq (tgt := 51) hG dX12_debt_25 rfl (by omega) (fun _ => ?_) (fun q => absurd q (by omega))
        refine pm_aloadn hG dX12_debt_51 rfl ?_
        refine pm_iconst (v := nI 1) hG dX12_debt_52 (by decide) ?_
        refine pm_callV (As := [.int (nI 1)]) (rest := []) hG hR dX12_debt_53 (lkX12_80 _ rfl) okV_X12_finds rfl rfl (m_finds (d := 1) (by decide) hn hz (by omega)) rfl rfl hdd (Nat.le_refl _) (Nat.le_refl _) (by decide) (pm_ki (fun v65 σ' cnt' hq => ?_))
        obtain ⟨⟨I66, A66, rfl⟩, rfl, fv65⟩ := hq
        exact pm_iret hG hF dX12_debt_56 rfl (Nat.le_refl _) (Nat.le_refl _) ⟨_, rfl, ⟨_, _, _, rfl, hn, hr, ekc0.trans ekc0.symm, ⟨fv65.trans ((by decide : (-1000000 : Int32) - nI 1 = -1000001).trans (vB_n (t := n 0) (d := n 6) (a := za) (b := zb) (c := zc) (by first | exact Or.inr (Or.inr (Or.inr (nt_out ekc0 (by omega) (by assumption)))) | exact Or.inr (Or.inr (Or.inl (rm_no ek7 (by omega) (by assumption)))) | exact Or.inr (Or.inl (dv_no ek7 (by omega) (by assumption))))).1), (vB_n (t := n 0) (d := n 6) (a := za) (b := zb) (c := zc) (by first | exact Or.inr (Or.inr (Or.inr (nt_out ekc0 (by omega) (by assumption)))) | exact Or.inr (Or.inr (Or.inl (rm_no ek7 (by omega) (by assumption)))) | exact Or.inr (Or.inl (dv_no ek7 (by omega) (by assumption))))).2⟩⟩, rfl⟩
  · refine pm_ifN_eq (tgt := 51) hG dX12_debt_7 rfl (by omega) (fun _ => ?_) (fun q => absurd q (by omega))
    refine pm_aloadn hG dX12_debt_51 rfl ?_
    refine pm_iconst (v := nI 1) hG dX12_debt_52 (by decide) ?_
    refine pm_callV (As := [.int (nI 1)]) (rest := []) hG hR dX12_debt_53 (lkX12_80 _ rfl) okV_X12_finds rfl rfl (m_finds (d := 1) (by decide) hn hz (by omega)) rfl rfl hdd (Nat.le_refl _) (Nat.le_refl _) (by decide) (pm_ki (fun v67 σ' cnt' hq => ?_))
    obtain ⟨⟨I68, A68, rfl⟩, rfl, fv67⟩ := hq
    exact pm_iret hG hF dX12_debt_56 rfl (Nat.le_refl _) (Nat.le_refl _) ⟨_, rfl, ⟨_, _, _, rfl, hn, hr, ekc0.trans ekc0.symm, ⟨fv67.trans ((by decide : (-1000000 : Int32) - nI 1 = -1000001).trans (vB_n (t := n 0) (d := n 6) (a := za) (b := zb) (c := zc) (by first | exact Or.inl (show za < nI 0 ∨ nI 99999 < za by assumption))).1), (vB_n (t := n 0) (d := n 6) (a := za) (b := zb) (c := zc) (by first | exact Or.inl (show za < nI 0 ∨ nI 99999 < za by assumption))).2⟩⟩, rfl⟩

set_option maxRecDepth 100000 in
set_option maxHeartbeats 4000000 in
theorem m_leaves {d B cnt p0 t0 : Nat} {σ : pm_S} {I : Nat → Int32} {A : Nat → Nat → Int32} {n k z : Nat → Int32} {ac wt pl im : Int32} {ba : Nat} (hdd : 1 ≤ d) (hn : KI n) (hr : NR n) (hz : SZ z) (hba : ba < 20) : pm_met mX12_leaves d 0 0 B [.ref (B + 54), .int (nI ba)] cnt (pm_mid σ (md_L B I A n k z ac wt pl (nI p0) (nI t0) im)) (pm_Qv (fun σ' cnt' => (∃ (n' : Nat → Int32), σ' = pm_mid σ (md_L B I A n' k z ac wt pl (nI p0) (nI t0) im) ∧ KI n' ∧ NR n' ∧ n' 0 = n 0 ∧ n' 6 = n 6) ∧ cnt = cnt')) := by
  obtain ⟨kc0, hkc0, ekc0⟩ := KI.nat hn (show kd 0 = (1, 11, true) by decide)
  obtain ⟨kc6, hkc6, ekc6⟩ := KI.nat hn (show kd 6 = (1, 7, false) by decide)
  refine pm_enter 1 (by decide) (Nat.le_of_ble_eq_true rfl) rfl (fun G hG hR hF => ?_)
  refine pm_aloadn hG dX12_leaves_0 rfl ?_
  refine pm_iloadn hG dX12_leaves_1 rfl ?_
  refine pm_bipush (v := nI 11) hG dX12_leaves_2 (by decide) ?_
  refine pm_iconst (v := nI 0) hG dX12_leaves_4 (by decide) ?_
  refine pm_callV (As := [.int (nI ba), .int (nI 11), .int (nI 0)]) (rest := []) hG hR dX12_leaves_5 (lkX12_97 _ rfl) okV_X12_sets rfl rfl (m_sets (d := 0) (e := 14 * ba + 121) (by omega) (by omega) (by omega)) rfl rfl hdd (Nat.le_refl _) (Nat.le_refl _) (by decide) (pm_kv (fun σ' cnt' hq => ?_))
  obtain ⟨rfl, rfl⟩ := hq
  obtain ⟨n_1, en_1⟩ : ∃ f : Nat → Int32, f = upd n (14 * ba + 121) (nI 0) := ⟨_, rfl⟩
  rw [← en_1]
  have hnn_1 := KI.w en_1 hn (okv_n (show kd (14 * ba + 121) = (1, 2, true) from (kd_P (k := ba) (c := 11) (by omega) (by omega) (by decide))) (by omega))
  have hrn_1 := NRx.unseat (p := ba) en_1 hr (by omega)
  have e2 : n_1 0 = nI kc0 := by rw [en_1, pk_un (by omega)]; exact ekc0
  have e3 : n_1 6 = nI kc6 := by rw [en_1, pk_un (by omega)]; exact ekc6
  have e4 : n_1 (14 * ba + 121) = nI 0 := by rw [en_1, pk_us]
  refine pm_iconst (v := nI 0) hG dX12_leaves_8 (by decide) ?_
  refine pm_istoreXn (loc' := [some (.ref (B + 54)), some (.int (nI ba)), some (.int (nI 0))]) hG dX12_leaves_9 (by decide) (pm_c1b rfl) rfl ?_
  have loop10_5 : ∀ (m5 : Nat) (n_5 : Nat → Int32) (i5 : Nat), KI n_5 → NRx 40 n_5 → n_5 0 = nI kc0 → n_5 6 = nI kc6 → i5 ≤ 30 → 30 - i5 < m5 → pm_wp mX12_leaves G B 10 [some (.ref (B + 54)), some (.int (nI ba)), some (.int (nI i5))] [] 0 0 cnt (pm_mid σ (md_L B I A n_5 k z ac wt pl (nI p0) (nI t0) im)) := by
    intro m5
    induction m5 with
    | zero => intro n_5 i5 _ _ _ _ _ hm; exact absurd hm (Nat.not_lt_zero _)
    | succ m5 ih5 =>
      intro n_5 i5 hnn_5 hrn_5 kc5_0 kc5_6 hi5 hm5
      refine pm_iloadn hG dX12_leaves_10 rfl ?_
      refine pm_aloadn hG dX12_leaves_11 rfl ?_
      refine pm_getf hG dX12_leaves_12 (flX12_7 _ rfl) rfl rfl ?_
      refine pm_bipush (v := nI 7) hG dX12_leaves_15 (by decide) ?_
      refine pm_ialdN hG dX12_leaves_17 rfl (by decide) (by omega) ?_
      obtain ⟨k6, hk6, ek6⟩ := KI.nat hnn_5 (show kd 7 = (1, 31, false) by decide)
      refine pm_top (v := nI k6) ek6 ?_
      refine pm_icmpN_ge (tgt := 53) hG dX12_leaves_18 rfl (by omega) (by omega) (fun c7 => ?_) (fun c7 => ?_)
      · exact pm_vret hG hF dX12_leaves_53 rfl (Nat.le_refl _) (Nat.le_refl _) ⟨rfl, ⟨_, rfl, hnn_5, hrn_5, kc5_0.trans ekc0.symm, kc5_6.trans ekc6.symm⟩, rfl⟩
      · refine pm_aloadn hG dX12_leaves_21 rfl ?_
        refine pm_iloadn hG dX12_leaves_22 rfl ?_
        refine pm_iconst (v := nI 0) hG dX12_leaves_23 (by decide) ?_
        refine pm_callV (As := [.int (nI i5), .int (nI 0)]) (rest := []) hG hR dX12_leaves_24 (lkX12_223 _ rfl) okV_X12_promised rfl rfl (m_promised (d := 0) (e := 6 * i5 + 1806) (by omega) (by omega) (by omega)) rfl rfl hdd (Nat.le_refl _) (Nat.le_refl _) (by decide) (pm_ki (fun v8 σ' cnt' hq => ?_))
        obtain ⟨rfl, rfl, rfl⟩ := hq
        obtain ⟨k9, hk9, ek9⟩ := KI.nat hnn_5 (show kd (6 * i5 + 1806) = (1, 20, false) from (kd_Q (k := i5) (c := 0) (by omega) (by omega) (by decide)))
        refine pm_top (v := nI k9) ek9 ?_
        refine pm_iloadn hG dX12_leaves_27 rfl ?_
        refine pm_icmpN_ne (tgt := 47) hG dX12_leaves_28 rfl (by omega) (by omega) (fun c10 => ?_) (fun c10 => ?_)
        · refine pm_iincX (v := nI (i5 + 1)) (loc' := [some (.ref (B + 54)), some (.int (nI ba)), some (.int (nI (i5 + 1)))]) hG dX12_leaves_47 rfl (nI_1 _) (by decide) (pm_c1b rfl) rfl ?_
          refine pm_goto (tgt := 10) hG dX12_leaves_50 rfl ?_
          exact ih5 n_5 (i5 + 1) hnn_5 hrn_5 (kc5_0.trans (congrArg nI (by omega))) (kc5_6.trans (congrArg nI (by omega))) (by omega) (by omega)
        · refine pm_aloadn hG dX12_leaves_31 rfl ?_
          refine pm_getf hG dX12_leaves_32 (flX12_7 _ rfl) rfl rfl ?_
          refine pm_sipush (v := nI 1806) hG dX12_leaves_35 (by decide) ?_
          refine pm_bipush (v := nI 6) hG dX12_leaves_38 (by decide) ?_
          refine pm_iloadn hG dX12_leaves_40 rfl ?_
          refine pm_imulN (c := 6 * i5) hG dX12_leaves_41 (by omega) ?_
          refine pm_iaddN (c := 6 * i5 + 1806) hG dX12_leaves_42 (by omega) ?_
          refine pm_iconst (v := nI 5) hG dX12_leaves_43 (by decide) ?_
          refine pm_iaddN (c := 6 * i5 + 1811) hG dX12_leaves_44 (by omega) ?_
          refine pm_iconst (v := nI 1) hG dX12_leaves_45 (by decide) ?_
          refine pm_iastN hG dX12_leaves_46 rfl (by decide) (by omega) ?_
          refine mdn_now (fun n_11 en_11 => ?_)
          have hnn_11 := KI.w en_11 hnn_5 (okv_f (show kd (6 * i5 + 1811) = (0, 0, false) from (kd_Q (k := i5) (c := 5) (by omega) (by omega) (by decide))))
          have hrn_11 := NRx.w en_11 hrn_5 (by rw [(show kd (6 * i5 + 1811) = (0, 0, false) from (kd_Q (k := i5) (c := 5) (by omega) (by omega) (by decide)))])
          have e12 : n_11 0 = nI kc0 := by rw [en_11, pk_un (by omega)]; exact kc5_0
          have e13 : n_11 6 = nI kc6 := by rw [en_11, pk_un (by omega)]; exact kc5_6
          have e14 : n_11 7 = nI k6 := by rw [en_11, pk_un (by omega)]; exact ek6
          have e15 : n_11 (6 * i5 + 1806) = nI k9 := by rw [en_11, pk_un (by omega)]; exact ek9
          have e16 : n_11 (6 * i5 + 1811) = nI 1 := by rw [en_11, pk_us]
          refine pm_iincX (v := nI (i5 + 1)) (loc' := [some (.ref (B + 54)), some (.int (nI ba)), some (.int (nI (i5 + 1)))]) hG dX12_leaves_47 rfl (nI_1 _) (by decide) (pm_c1b rfl) rfl ?_
          refine pm_goto (tgt := 10) hG dX12_leaves_50 rfl ?_
          exact ih5 n_11 (i5 + 1) hnn_11 hrn_11 (e12.trans (congrArg nI (by omega))) (e13.trans (congrArg nI (by omega))) (by omega) (by omega)
  exact loop10_5 _ n_1 0 hnn_1 hrn_1 (e2.trans (congrArg nI (by omega))) (e3.trans (congrArg nI (by omega))) (by omega) (Nat.lt_succ_self _)

set_option maxRecDepth 100000 in
set_option maxHeartbeats 4000000 in
theorem m_die {d B cnt p0 t0 : Nat} {σ : pm_S} {I : Nat → Int32} {A : Nat → Nat → Int32} {n k z : Nat → Int32} {ac wt pl im : Int32} {za : Int32} (hdd : 4 ≤ d) (hn : KI n) (hr : NR n) (hz : SZ z)  : pm_met mX12_die d 0 0 B [.ref (B + 54), .int za] cnt (pm_mid σ (md_L B I A n k z ac wt pl (nI p0) (nI t0) im)) (pm_Qi (fun v σ' cnt' => (∃ (I' : Nat → Int32) (A' : Nat → Nat → Int32) (n' : Nat → Int32), σ' = pm_mid σ (md_L B I' A' n' k z ac wt pl (nI p0) (nI t0) im) ∧ KI n' ∧ NR n' ∧ n' 0 = n 0 ∧ n' 6 = n 6) ∧ cnt = cnt')) := by
  obtain ⟨kc0, hkc0, ekc0⟩ := KI.nat hn (show kd 0 = (1, 11, true) by decide)
  obtain ⟨kc6, hkc6, ekc6⟩ := KI.nat hn (show kd 6 = (1, 7, false) by decide)
  refine pm_enter 3 (by decide) (Nat.le_of_ble_eq_true rfl) rfl (fun G hG hR hF => ?_)
  refine pm_aloadn hG dX12_die_0 rfl ?_
  refine pm_iloadn hG dX12_die_1 rfl ?_
  obtain ⟨k1, hk1, ek1⟩ := KI.nat hn (show kd 2 = (1, 21, true) by decide)
  refine pm_callV (As := [.int za]) (rest := []) hG hR dX12_die_2 (lkX12_91 _ rfl) okV_X12_isPerson rfl rfl (m_isPerson (d := 3) (by decide) ek1 (by omega)) rfl rfl hdd (Nat.le_refl _) (Nat.le_refl _) (by decide) (pm_ki (fun v2 σ' cnt' hq => ?_))
  obtain ⟨hq, rfl, rfl⟩ := hq
  rcases hq with ⟨rfl, k4, hk4, ek4⟩ | rfl
  · refine pm_ifN_ne (tgt := 14) hG dX12_die_5 rfl (by omega) (fun _ => ?_) (fun q => absurd q (by omega))
    refine pm_aloadn hG dX12_die_14 rfl ?_
    refine pm_iloadn hG dX12_die_15 rfl ?_
    refine pm_top (v := nI k4) ek4 ?_
    rcases KI.opt hn (show kd (14 * k4 + 119) = (2, 2001, false) from (kd_P (k := k4) (c := 9) (by omega) (by omega) (by decide))) with ek5 | ⟨k5, hk5, ek5⟩
    · refine pm_callV (As := [.int (nI k4)]) (rest := []) hG hR dX12_die_16 (lkX12_101 _ rfl) okV_X12_lives rfl rfl (m_lives1 (d := 3) (by decide) (by omega) (by omega : 14 * k4 + 119 = 14 * k4 + 119) ek5) rfl rfl hdd (Nat.le_refl _) (Nat.le_refl _) (by decide) (pm_ki (fun v6 σ' cnt' hq => ?_))
      obtain ⟨rfl, rfl, rfl⟩ := hq
      refine pm_ifN_ne (tgt := 28) hG dX12_die_19 rfl (by omega) (fun _ => ?_) (fun q => absurd q (by omega))
      refine pm_aloadn hG dX12_die_28 rfl ?_
      refine pm_iloadn hG dX12_die_29 rfl ?_
      refine pm_top (v := nI k4) ek4 ?_
      refine pm_bipush (v := nI 7) hG dX12_die_30 (by decide) ?_
      refine pm_callV (As := [.int (nI k4), .int (nI 7)]) (rest := []) hG hR dX12_die_32 (lkX12_72 _ rfl) okV_X12_man rfl rfl (m_man (d := 3) (e := 14 * k4 + 117) (by omega) (by omega) (by omega)) rfl rfl hdd (Nat.le_refl _) (Nat.le_refl _) (by decide) (pm_ki (fun v7 σ' cnt' hq => ?_))
      obtain ⟨rfl, rfl, rfl⟩ := hq
      refine pm_gen (fun x8 ex8 => ?_)
      refine pm_istoreXn (loc' := [some (.ref (B + 54)), some (.int za), some (.int x8), none, none]) hG dX12_die_35 (by decide) (pm_c1b rfl) rfl ?_
      refine pm_aloadn hG dX12_die_36 rfl ?_
      refine pm_iloadn hG dX12_die_37 rfl ?_
      refine pm_top (v := nI k4) ek4 ?_
      refine pm_bipush (v := nI 10) hG dX12_die_38 (by decide) ?_
      refine pm_aloadn hG dX12_die_40 rfl ?_
      refine pm_iloadn hG dX12_die_41 rfl ?_
      refine pm_top (v := nI k4) ek4 ?_
      refine pm_callV (As := [.int (nI k4)]) (rest := [.int (nI 10), .int (nI k4), .ref (B + 54)]) hG hR dX12_die_42 (lkX12_104 _ rfl) okV_X12_knownTo rfl rfl (m_knownTo (d := 3) (by decide) hn hz (by omega)) rfl rfl hdd (Nat.le_refl _) (Nat.le_refl _) (Nat.le_of_ble_eq_true rfl) (pm_ki (fun v9 σ' cnt' hq => ?_))
      obtain ⟨⟨I10, A10, rfl⟩, rfl⟩ := hq
      refine pm_callV (As := [.int (nI k4), .int (nI 10), .int v9]) (rest := []) hG hR dX12_die_45 (lkX12_97 _ rfl) okV_X12_sets rfl rfl (m_sets (d := 3) (e := 14 * k4 + 120) (by omega) (by omega) (by omega)) rfl rfl hdd (Nat.le_refl _) (Nat.le_refl _) (by decide) (pm_kv (fun σ' cnt' hq => ?_))
      obtain ⟨rfl, rfl⟩ := hq
      obtain ⟨n_11, en_11⟩ : ∃ f : Nat → Int32, f = upd n (14 * k4 + 120) v9 := ⟨_, rfl⟩
      rw [← en_11]
      have hnn_11 := KI.w en_11 hn (okv_f (show kd (14 * k4 + 120) = (0, 0, false) from (kd_P (k := k4) (c := 10) (by omega) (by omega) (by decide))))
      have hrn_11 := NRx.w en_11 hr (by rw [(show kd (14 * k4 + 120) = (0, 0, false) from (kd_P (k := k4) (c := 10) (by omega) (by omega) (by decide)))])
      have e12 : n_11 0 = nI kc0 := by rw [en_11, pk_un (by omega)]; exact ekc0
      have e13 : n_11 6 = nI kc6 := by rw [en_11, pk_un (by omega)]; exact ekc6
      have e14 : n_11 2 = nI k1 := by rw [en_11, pk_un (by omega)]; exact ek1
      have e15 : n_11 (14 * k4 + 119) = (-1) := by rw [en_11, pk_un (by omega)]; exact ek5
      have e16 : n_11 (14 * k4 + 117) = x8 := by rw [en_11, pk_un (by omega)]; exact ex8
      have e17 : n_11 (14 * k4 + 120) = v9 := by rw [en_11, pk_us]
      refine pm_aloadn hG dX12_die_48 rfl ?_
      refine pm_iloadn hG dX12_die_49 rfl ?_
      refine pm_top (v := nI k4) ek4 ?_
      refine pm_bipush (v := nI 9) hG dX12_die_50 (by decide) ?_
      refine pm_aloadn hG dX12_die_52 rfl ?_
      refine pm_getf hG dX12_die_53 (flX12_7 _ rfl) rfl rfl ?_
      refine pm_bipush (v := nI 8) hG dX12_die_56 (by decide) ?_
      refine pm_ialdN hG dX12_die_58 rfl (by decide) (by omega) ?_
      obtain ⟨k18, hk18, ek18⟩ := KI.nat hnn_11 (show kd 8 = (1, 2001, false) by decide)
      refine pm_top (v := nI k18) ek18 ?_
      refine pm_callV (As := [.int (nI k4), .int (nI 9), .int (nI k18)]) (rest := []) hG hR dX12_die_59 (lkX12_97 _ rfl) okV_X12_sets rfl rfl (m_sets (d := 3) (e := 14 * k4 + 119) (by omega) (by omega) (by omega)) rfl rfl hdd (Nat.le_refl _) (Nat.le_refl _) (by decide) (pm_kv (fun σ' cnt' hq => ?_))
      obtain ⟨rfl, rfl⟩ := hq
      obtain ⟨n_19, en_19⟩ : ∃ f : Nat → Int32, f = upd n_11 (14 * k4 + 119) (nI k18) := ⟨_, rfl⟩
      rw [← en_19]
      have hnn_19 := KI.w en_19 hnn_11 (okv_o (show kd (14 * k4 + 119) = (2, 2001, false) from (kd_P (k := k4) (c := 9) (by omega) (by omega) (by decide))) (by omega))
      have hrn_19 := NRx.w en_19 hrn_11 (by rw [(show kd (14 * k4 + 119) = (2, 2001, false) from (kd_P (k := k4) (c := 9) (by omega) (by omega) (by decide)))])
      have e20 : n_19 0 = nI kc0 := by rw [en_19, pk_un (by omega)]; exact e12
      have e21 : n_19 6 = nI kc6 := by rw [en_19, pk_un (by omega)]; exact e13
      have e22 : n_19 2 = nI k1 := by rw [en_19, pk_un (by omega)]; exact e14
      have e23 : n_19 (14 * k4 + 117) = x8 := by rw [en_19, pk_un (by omega)]; exact e16
      have e24 : n_19 (14 * k4 + 120) = v9 := by rw [en_19, pk_un (by omega)]; exact e17
      have e25 : n_19 8 = nI k18 := by rw [en_19, pk_un (by omega)]; exact ek18
      have e26 : n_19 (14 * k4 + 119) = nI k18 := by rw [en_19, pk_us]
      refine pm_aloadn hG dX12_die_62 rfl ?_
      refine pm_iloadn hG dX12_die_63 rfl ?_
      refine pm_top (v := nI k4) ek4 ?_
      refine pm_bipush (v := nI 7) hG dX12_die_64 (by decide) ?_
      refine pm_iconst (v := nI 0) hG dX12_die_66 (by decide) ?_
      refine pm_callV (As := [.int (nI k4), .int (nI 7), .int (nI 0)]) (rest := []) hG hR dX12_die_67 (lkX12_97 _ rfl) okV_X12_sets rfl rfl (m_sets (d := 3) (e := 14 * k4 + 117) (by omega) (by omega) (by omega)) rfl rfl hdd (Nat.le_refl _) (Nat.le_refl _) (by decide) (pm_kv (fun σ' cnt' hq => ?_))
      obtain ⟨rfl, rfl⟩ := hq
      obtain ⟨n_27, en_27⟩ : ∃ f : Nat → Int32, f = upd n_19 (14 * k4 + 117) (nI 0) := ⟨_, rfl⟩
      rw [← en_27]
      have hnn_27 := KI.w en_27 hnn_19 (okv_f (show kd (14 * k4 + 117) = (0, 0, false) from (kd_P (k := k4) (c := 7) (by omega) (by omega) (by decide))))
      have hrn_27 := NRx.w en_27 hrn_19 (by rw [(show kd (14 * k4 + 117) = (0, 0, false) from (kd_P (k := k4) (c := 7) (by omega) (by omega) (by decide)))])
      have e28 : n_27 0 = nI kc0 := by rw [en_27, pk_un (by omega)]; exact e20
      have e29 : n_27 6 = nI kc6 := by rw [en_27, pk_un (by omega)]; exact e21
      have e30 : n_27 2 = nI k1 := by rw [en_27, pk_un (by omega)]; exact e22
      have e31 : n_27 (14 * k4 + 120) = v9 := by rw [en_27, pk_un (by omega)]; exact e24
      have e32 : n_27 8 = nI k18 := by rw [en_27, pk_un (by omega)]; exact e25
      have e33 : n_27 (14 * k4 + 119) = nI k18 := by rw [en_27, pk_un (by omega)]; exact e26
      have e34 : n_27 (14 * k4 + 117) = nI 0 := by rw [en_27, pk_us]
      refine pm_aloadn hG dX12_die_70 rfl ?_
      refine pm_iloadn hG dX12_die_71 rfl ?_
      refine pm_top (v := nI k4) ek4 ?_
      refine pm_bipush (v := nI 8) hG dX12_die_72 (by decide) ?_
      refine pm_iconst (v := nI 0) hG dX12_die_74 (by decide) ?_
      refine pm_callV (As := [.int (nI k4), .int (nI 8), .int (nI 0)]) (rest := []) hG hR dX12_die_75 (lkX12_97 _ rfl) okV_X12_sets rfl rfl (m_sets (d := 3) (e := 14 * k4 + 118) (by omega) (by omega) (by omega)) rfl rfl hdd (Nat.le_refl _) (Nat.le_refl _) (by decide) (pm_kv (fun σ' cnt' hq => ?_))
      obtain ⟨rfl, rfl⟩ := hq
      obtain ⟨n_35, en_35⟩ : ∃ f : Nat → Int32, f = upd n_27 (14 * k4 + 118) (nI 0) := ⟨_, rfl⟩
      rw [← en_35]
      have hnn_35 := KI.w en_35 hnn_27 (okv_f (show kd (14 * k4 + 118) = (0, 0, false) from (kd_P (k := k4) (c := 8) (by omega) (by omega) (by decide))))
      have hrn_35 := NRx.w en_35 hrn_27 (by rw [(show kd (14 * k4 + 118) = (0, 0, false) from (kd_P (k := k4) (c := 8) (by omega) (by omega) (by decide)))])
      have e36 : n_35 0 = nI kc0 := by rw [en_35, pk_un (by omega)]; exact e28
      have e37 : n_35 6 = nI kc6 := by rw [en_35, pk_un (by omega)]; exact e29
      have e38 : n_35 2 = nI k1 := by rw [en_35, pk_un (by omega)]; exact e30
      have e39 : n_35 (14 * k4 + 120) = v9 := by rw [en_35, pk_un (by omega)]; exact e31
      have e40 : n_35 8 = nI k18 := by rw [en_35, pk_un (by omega)]; exact e32
      have e41 : n_35 (14 * k4 + 119) = nI k18 := by rw [en_35, pk_un (by omega)]; exact e33
      have e42 : n_35 (14 * k4 + 117) = nI 0 := by rw [en_35, pk_un (by omega)]; exact e34
      have e43 : n_35 (14 * k4 + 118) = nI 0 := by rw [en_35, pk_us]
      refine pm_aloadn hG dX12_die_78 rfl ?_
      refine pm_getf hG dX12_die_79 (flX12_7 _ rfl) rfl rfl ?_
      refine pm_bipush (v := nI 9) hG dX12_die_82 (by decide) ?_
      refine pm_dup2 hG dX12_die_84 rfl rfl ?_
      refine pm_ialdN hG dX12_die_85 rfl (by decide) (by omega) ?_
      refine pm_gen (fun x44 ex44 => ?_)
      refine pm_iloadn hG dX12_die_86 rfl ?_
      refine pm_iadd hG dX12_die_87 ?_
      refine pm_iastN hG dX12_die_88 rfl (by decide) (by omega) ?_
      refine mdn_now (fun n_45 en_45 => ?_)
      have hnn_45 := KI.w en_45 hnn_35 (okv_f (show kd 9 = (0, 0, false) by decide))
      have hrn_45 := NRx.w en_45 hrn_35 (by rw [(show kd 9 = (0, 0, false) by decide)])
      have e46 : n_45 0 = nI kc0 := by rw [en_45, pk_un (by omega)]; exact e36
      have e47 : n_45 6 = nI kc6 := by rw [en_45, pk_un (by omega)]; exact e37
      have e48 : n_45 2 = nI k1 := by rw [en_45, pk_un (by omega)]; exact e38
      have e49 : n_45 (14 * k4 + 120) = v9 := by rw [en_45, pk_un (by omega)]; exact e39
      have e50 : n_45 8 = nI k18 := by rw [en_45, pk_un (by omega)]; exact e40
      have e51 : n_45 (14 * k4 + 119) = nI k18 := by rw [en_45, pk_un (by omega)]; exact e41
      have e52 : n_45 (14 * k4 + 117) = nI 0 := by rw [en_45, pk_un (by omega)]; exact e42
      have e53 : n_45 (14 * k4 + 118) = nI 0 := by rw [en_45, pk_un (by omega)]; exact e43
      have e54 : n_45 9 = x44 + x8 := by rw [en_45, pk_us]
      refine pm_aloadn hG dX12_die_89 rfl ?_
      refine pm_iloadn hG dX12_die_90 rfl ?_
      refine pm_top (v := nI k4) ek4 ?_
      refine pm_bipush (v := nI 11) hG dX12_die_91 (by decide) ?_
      refine pm_callV (As := [.int (nI k4), .int (nI 11)]) (rest := []) hG hR dX12_die_93 (lkX12_72 _ rfl) okV_X12_man rfl rfl (m_man (d := 3) (e := 14 * k4 + 121) (by omega) (by omega) (by omega)) rfl rfl hdd (Nat.le_refl _) (Nat.le_refl _) (by decide) (pm_ki (fun v55 σ' cnt' hq => ?_))
      obtain ⟨rfl, rfl, rfl⟩ := hq
      obtain ⟨k56, hk56, ek56⟩ := KI.nat hnn_45 (show kd (14 * k4 + 121) = (1, 2, true) from (kd_P (k := k4) (c := 11) (by omega) (by omega) (by decide)))
      refine pm_top (v := nI k56) ek56 ?_
      refine pm_iconst (v := nI 1) hG dX12_die_96 (by decide) ?_
      refine pm_icmpN_ne (tgt := 105) hG dX12_die_97 rfl (by omega) (by omega) (fun c57 => ?_) (fun c57 => ?_)
      · refine pm_iconst (v := nI 0) hG dX12_die_105 (by decide) ?_
        refine pm_istoreXn (loc' := [some (.ref (B + 54)), some (.int za), some (.int x8), some (.int (nI 0)), none]) hG dX12_die_106 (by decide) (pm_c1b rfl) rfl ?_
        have loop107_58 : ∀ (m58 : Nat) (I58 : Nat → Int32) (A58 : Nat → Nat → Int32) (n_58 : Nat → Int32) (i58 : Nat), KI n_58 → NRx 40 n_58 → n_58 0 = nI kc0 → n_58 6 = nI kc6 → i58 ≤ 20 → 20 - i58 < m58 → pm_wp mX12_die G B 107 [some (.ref (B + 54)), some (.int za), some (.int x8), some (.int (nI i58)), none] [] 0 0 cnt (pm_mid σ (md_L B I58 A58 n_58 k z ac wt pl (nI p0) (nI t0) im)) := by
          intro m58
          induction m58 with
          | zero => intro I58 A58 n_58 i58 _ _ _ _ _ hm; exact absurd hm (Nat.not_lt_zero _)
          | succ m58 ih58 =>
            intro I58 A58 n_58 i58 hnn_58 hrn_58 kc58_0 kc58_6 hi58 hm58
            refine pm_iloadn hG dX12_die_107 rfl ?_
            refine pm_aloadn hG dX12_die_108 rfl ?_
            refine pm_getf hG dX12_die_109 (flX12_7 _ rfl) rfl rfl ?_
            refine pm_iconst (v := nI 3) hG dX12_die_112 (by decide) ?_
            refine pm_ialdN hG dX12_die_113 rfl (by decide) (by omega) ?_
            obtain ⟨k59, hk59, ek59⟩ := KI.nat hnn_58 (show kd 3 = (1, 21, false) by decide)
            refine pm_top (v := nI k59) ek59 ?_
            refine pm_icmpN_ge (tgt := 172) hG dX12_die_114 rfl (by omega) (by omega) (fun c60 => ?_) (fun c60 => ?_)
            · refine pm_iloadn hG dX12_die_172 rfl ?_
              exact pm_iret hG hF dX12_die_173 rfl (Nat.le_refl _) (Nat.le_refl _) ⟨_, rfl, ⟨_, _, _, rfl, hnn_58, hrn_58, kc58_0.trans ekc0.symm, kc58_6.trans ekc6.symm⟩, rfl⟩
            · refine pm_aloadn hG dX12_die_117 rfl ?_
              refine pm_iloadn hG dX12_die_118 rfl ?_
              refine pm_iconst (v := nI 1) hG dX12_die_119 (by decide) ?_
              refine pm_callV (As := [.int (nI i58), .int (nI 1)]) (rest := []) hG hR dX12_die_120 (lkX12_110 _ rfl) okV_X12_its rfl rfl (m_its (d := 3) (e := 6 * i58 + 391) (by omega) (by omega) (by omega)) rfl rfl hdd (Nat.le_refl _) (Nat.le_refl _) (by decide) (pm_ki (fun v61 σ' cnt' hq => ?_))
              obtain ⟨rfl, rfl, rfl⟩ := hq
              rcases KI.opt hnn_58 (show kd (6 * i58 + 391) = (2, 20, false) from (kd_W (k := i58) (c := 1) (by omega) (by omega) (by decide))) with ek62 | ⟨k62, hk62, ek62⟩
              · refine pm_top (v := (-1)) ek62 ?_
                refine pm_iloadn hG dX12_die_123 rfl ?_
                refine pm_top (v := nI k4) ek4 ?_
                refine pm_icmp_ne (tgt := 131) hG dX12_die_124 rfl (fun _ => ?_) (fun q => absurd q ((fun q => nI_m1 (by omega) q.symm)))
                refine pm_iconst (v := nI 0) hG dX12_die_131 (by decide) ?_
                refine pm_istoreXi (loc' := [some (.ref (B + 54)), some (.int za), some (.int x8), some (.int (nI i58)), some (.int (nI 0))]) hG dX12_die_132 (by decide) (pm_c1b rfl) rfl ?_
                refine pm_iloadi hG dX12_die_134 rfl ?_
                refine pm_ifN_eq (tgt := 146) hG dX12_die_136 rfl (by omega) (fun _ => ?_) (fun q => absurd q (by omega))
                refine pm_iloadi hG dX12_die_146 rfl ?_
                refine pm_ifN_ne (tgt := 161) hG dX12_die_148 rfl (by omega) (fun q => absurd q (by omega)) (fun _ => ?_)
                refine pm_aloadn hG dX12_die_151 rfl ?_
                refine pm_iloadn hG dX12_die_152 rfl ?_
                refine pm_iconst (v := nI 2) hG dX12_die_153 (by decide) ?_
                refine pm_callV (As := [.int (nI i58), .int (nI 2)]) (rest := []) hG hR dX12_die_154 (lkX12_110 _ rfl) okV_X12_its rfl rfl (m_its (d := 3) (e := 6 * i58 + 392) (by omega) (by omega) (by omega)) rfl rfl hdd (Nat.le_refl _) (Nat.le_refl _) (by decide) (pm_ki (fun v63 σ' cnt' hq => ?_))
                obtain ⟨rfl, rfl, rfl⟩ := hq
                rcases KI.opt hnn_58 (show kd (6 * i58 + 392) = (2, 20, false) from (kd_W (k := i58) (c := 2) (by omega) (by omega) (by decide))) with ek64 | ⟨k64, hk64, ek64⟩
                · refine pm_top (v := (-1)) ek64 ?_
                  refine pm_iloadn hG dX12_die_157 rfl ?_
                  refine pm_top (v := nI k4) ek4 ?_
                  refine pm_icmp_ne (tgt := 166) hG dX12_die_158 rfl (fun _ => ?_) (fun q => absurd q ((fun q => nI_m1 (by omega) q.symm)))
                  refine pm_iincX (v := nI (i58 + 1)) (loc' := [some (.ref (B + 54)), some (.int za), some (.int x8), some (.int (nI (i58 + 1))), some (.int (nI 0))]) hG dX12_die_166 rfl (nI_1 _) (by decide) (pm_c1b rfl) rfl ?_
                  refine pm_goto (tgt := 107) hG dX12_die_169 rfl ?_
                  refine pm_fg 4 (loc' := [some (.ref (B + 54)), some (.int za), some (.int x8), some (.int (nI (i58 + 1))), none]) rfl ?_
                  exact ih58 I58 A58 n_58 (i58 + 1) hnn_58 hrn_58 (kc58_0.trans (congrArg nI (by omega))) (kc58_6.trans (congrArg nI (by omega))) (by omega) (by omega)
                · refine pm_top (v := nI k64) ek64 ?_
                  refine pm_iloadn hG dX12_die_157 rfl ?_
                  refine pm_top (v := nI k4) ek4 ?_
                  refine pm_icmpN_ne (tgt := 166) hG dX12_die_158 rfl (by omega) (by omega) (fun c65 => ?_) (fun c65 => ?_)
                  · refine pm_iincX (v := nI (i58 + 1)) (loc' := [some (.ref (B + 54)), some (.int za), some (.int x8), some (.int (nI (i58 + 1))), some (.int (nI 0))]) hG dX12_die_166 rfl (nI_1 _) (by decide) (pm_c1b rfl) rfl ?_
                    refine pm_goto (tgt := 107) hG dX12_die_169 rfl ?_
                    refine pm_fg 4 (loc' := [some (.ref (B + 54)), some (.int za), some (.int x8), some (.int (nI (i58 + 1))), none]) rfl ?_
                    exact ih58 I58 A58 n_58 (i58 + 1) hnn_58 hrn_58 (kc58_0.trans (congrArg nI (by omega))) (kc58_6.trans (congrArg nI (by omega))) (by omega) (by omega)
                  · refine pm_aloadn hG dX12_die_161 rfl ?_
                    refine pm_iloadn hG dX12_die_162 rfl ?_
                    refine pm_callV (As := [.int (nI i58)]) (rest := []) hG hR dX12_die_163 (lkX12_116 _ rfl) okV_X12_comesBack rfl rfl (m_comesBack (d := 3) (e := 6 * i58 + 392) (e2 := 6 * i58 + 393) (by decide) (by omega) (by omega) (by omega)) rfl rfl hdd (Nat.le_refl _) (Nat.le_refl _) (by decide) (pm_kv (fun σ' cnt' hq => ?_))
                    obtain ⟨rfl, rfl⟩ := hq
                    obtain ⟨n_66, en_66⟩ : ∃ f : Nat → Int32, f = upd n_58 (6 * i58 + 392) (-1) := ⟨_, rfl⟩
                    rw [← en_66]
                    have hnn_66 := KI.w en_66 hnn_58 (okv_m (show kd (6 * i58 + 392) = (2, 20, false) from (kd_W (k := i58) (c := 2) (by omega) (by omega) (by decide))))
                    have hrn_66 := NRx.w en_66 hrn_58 (by rw [(show kd (6 * i58 + 392) = (2, 20, false) from (kd_W (k := i58) (c := 2) (by omega) (by omega) (by decide)))])
                    have e67 : n_66 0 = nI kc0 := by rw [en_66, pk_un (by omega)]; exact kc58_0
                    have e68 : n_66 6 = nI kc6 := by rw [en_66, pk_un (by omega)]; exact kc58_6
                    have e69 : n_66 3 = nI k59 := by rw [en_66, pk_un (by omega)]; exact ek59
                    have e70 : n_66 (6 * i58 + 391) = (-1) := by rw [en_66, pk_un (by omega)]; exact ek62
                    have e71 : n_66 (6 * i58 + 392) = (-1) := by rw [en_66, pk_us]
                    obtain ⟨n_72, en_72⟩ : ∃ f : Nat → Int32, f = upd n_66 (6 * i58 + 393) (-1) := ⟨_, rfl⟩
                    rw [← en_72]
                    have hnn_72 := KI.w en_72 hnn_66 (okv_f (show kd (6 * i58 + 393) = (0, 0, false) from (kd_W (k := i58) (c := 3) (by omega) (by omega) (by decide))))
                    have hrn_72 := NRx.w en_72 hrn_66 (by rw [(show kd (6 * i58 + 393) = (0, 0, false) from (kd_W (k := i58) (c := 3) (by omega) (by omega) (by decide)))])
                    have e73 : n_72 0 = nI kc0 := by rw [en_72, pk_un (by omega)]; exact e67
                    have e74 : n_72 6 = nI kc6 := by rw [en_72, pk_un (by omega)]; exact e68
                    have e75 : n_72 3 = nI k59 := by rw [en_72, pk_un (by omega)]; exact e69
                    have e76 : n_72 (6 * i58 + 391) = (-1) := by rw [en_72, pk_un (by omega)]; exact e70
                    have e77 : n_72 (6 * i58 + 392) = (-1) := by rw [en_72, pk_un (by omega)]; exact e71
                    have e78 : n_72 (6 * i58 + 393) = (-1) := by rw [en_72, pk_us]
                    refine pm_iincX (v := nI (i58 + 1)) (loc' := [some (.ref (B + 54)), some (.int za), some (.int x8), some (.int (nI (i58 + 1))), some (.int (nI 0))]) hG dX12_die_166 rfl (nI_1 _) (by decide) (pm_c1b rfl) rfl ?_
                    refine pm_goto (tgt := 107) hG dX12_die_169 rfl ?_
                    refine pm_fg 4 (loc' := [some (.ref (B + 54)), some (.int za), some (.int x8), some (.int (nI (i58 + 1))), none]) rfl ?_
                    exact ih58 I58 A58 n_72 (i58 + 1) hnn_72 hrn_72 (e73.trans (congrArg nI (by omega))) (e74.trans (congrArg nI (by omega))) (by omega) (by omega)
              · refine pm_top (v := nI k62) ek62 ?_
                refine pm_iloadn hG dX12_die_123 rfl ?_
                refine pm_top (v := nI k4) ek4 ?_
                refine pm_icmpN_ne (tgt := 131) hG dX12_die_124 rfl (by omega) (by omega) (fun c79 => ?_) (fun c79 => ?_)
                · refine pm_iconst (v := nI 0) hG dX12_die_131 (by decide) ?_
                  refine pm_istoreXi (loc' := [some (.ref (B + 54)), some (.int za), some (.int x8), some (.int (nI i58)), some (.int (nI 0))]) hG dX12_die_132 (by decide) (pm_c1b rfl) rfl ?_
                  refine pm_iloadi hG dX12_die_134 rfl ?_
                  refine pm_ifN_eq (tgt := 146) hG dX12_die_136 rfl (by omega) (fun _ => ?_) (fun q => absurd q (by omega))
                  refine pm_iloadi hG dX12_die_146 rfl ?_
                  refine pm_ifN_ne (tgt := 161) hG dX12_die_148 rfl (by omega) (fun q => absurd q (by omega)) (fun _ => ?_)
                  refine pm_aloadn hG dX12_die_151 rfl ?_
                  refine pm_iloadn hG dX12_die_152 rfl ?_
                  refine pm_iconst (v := nI 2) hG dX12_die_153 (by decide) ?_
                  refine pm_callV (As := [.int (nI i58), .int (nI 2)]) (rest := []) hG hR dX12_die_154 (lkX12_110 _ rfl) okV_X12_its rfl rfl (m_its (d := 3) (e := 6 * i58 + 392) (by omega) (by omega) (by omega)) rfl rfl hdd (Nat.le_refl _) (Nat.le_refl _) (by decide) (pm_ki (fun v80 σ' cnt' hq => ?_))
                  obtain ⟨rfl, rfl, rfl⟩ := hq
                  rcases KI.opt hnn_58 (show kd (6 * i58 + 392) = (2, 20, false) from (kd_W (k := i58) (c := 2) (by omega) (by omega) (by decide))) with ek81 | ⟨k81, hk81, ek81⟩
                  · refine pm_top (v := (-1)) ek81 ?_
                    refine pm_iloadn hG dX12_die_157 rfl ?_
                    refine pm_top (v := nI k4) ek4 ?_
                    refine pm_icmp_ne (tgt := 166) hG dX12_die_158 rfl (fun _ => ?_) (fun q => absurd q ((fun q => nI_m1 (by omega) q.symm)))
                    refine pm_iincX (v := nI (i58 + 1)) (loc' := [some (.ref (B + 54)), some (.int za), some (.int x8), some (.int (nI (i58 + 1))), some (.int (nI 0))]) hG dX12_die_166 rfl (nI_1 _) (by decide) (pm_c1b rfl) rfl ?_
                    refine pm_goto (tgt := 107) hG dX12_die_169 rfl ?_
                    refine pm_fg 4 (loc' := [some (.ref (B + 54)), some (.int za), some (.int x8), some (.int (nI (i58 + 1))), none]) rfl ?_
                    exact ih58 I58 A58 n_58 (i58 + 1) hnn_58 hrn_58 (kc58_0.trans (congrArg nI (by omega))) (kc58_6.trans (congrArg nI (by omega))) (by omega) (by omega)
                  · refine pm_top (v := nI k81) ek81 ?_
                    refine pm_iloadn hG dX12_die_157 rfl ?_
                    refine pm_top (v := nI k4) ek4 ?_
                    refine pm_icmpN_ne (tgt := 166) hG dX12_die_158 rfl (by omega) (by omega) (fun c82 => ?_) (fun c82 => ?_)
                    · refine pm_iincX (v := nI (i58 + 1)) (loc' := [some (.ref (B + 54)), some (.int za), some (.int x8), some (.int (nI (i58 + 1))), some (.int (nI 0))]) hG dX12_die_166 rfl (nI_1 _) (by decide) (pm_c1b rfl) rfl ?_
                      refine pm_goto (tgt := 107) hG dX12_die_169 rfl ?_
                      refine pm_fg 4 (loc' := [some (.ref (B + 54)), some (.int za), some (.int x8), some (.int (nI (i58 + 1))), none]) rfl ?_
                      exact ih58 I58 A58 n_58 (i58 + 1) hnn_58 hrn_58 (kc58_0.trans (congrArg nI (by omega))) (kc58_6.trans (congrArg nI (by omega))) (by omega) (by omega)
                    · refine pm_aloadn hG dX12_die_161 rfl ?_
                      refine pm_iloadn hG dX12_die_162 rfl ?_
                      refine pm_callV (As := [.int (nI i58)]) (rest := []) hG hR dX12_die_163 (lkX12_116 _ rfl) okV_X12_comesBack rfl rfl (m_comesBack (d := 3) (e := 6 * i58 + 392) (e2 := 6 * i58 + 393) (by decide) (by omega) (by omega) (by omega)) rfl rfl hdd (Nat.le_refl _) (Nat.le_refl _) (by decide) (pm_kv (fun σ' cnt' hq => ?_))
                      obtain ⟨rfl, rfl⟩ := hq
                      obtain ⟨n_83, en_83⟩ : ∃ f : Nat → Int32, f = upd n_58 (6 * i58 + 392) (-1) := ⟨_, rfl⟩
                      rw [← en_83]
                      have hnn_83 := KI.w en_83 hnn_58 (okv_m (show kd (6 * i58 + 392) = (2, 20, false) from (kd_W (k := i58) (c := 2) (by omega) (by omega) (by decide))))
                      have hrn_83 := NRx.w en_83 hrn_58 (by rw [(show kd (6 * i58 + 392) = (2, 20, false) from (kd_W (k := i58) (c := 2) (by omega) (by omega) (by decide)))])
                      have e84 : n_83 0 = nI kc0 := by rw [en_83, pk_un (by omega)]; exact kc58_0
                      have e85 : n_83 6 = nI kc6 := by rw [en_83, pk_un (by omega)]; exact kc58_6
                      have e86 : n_83 3 = nI k59 := by rw [en_83, pk_un (by omega)]; exact ek59
                      have e87 : n_83 (6 * i58 + 391) = nI k62 := by rw [en_83, pk_un (by omega)]; exact ek62
                      have e88 : n_83 (6 * i58 + 392) = (-1) := by rw [en_83, pk_us]
                      obtain ⟨n_89, en_89⟩ : ∃ f : Nat → Int32, f = upd n_83 (6 * i58 + 393) (-1) := ⟨_, rfl⟩
                      rw [← en_89]
                      have hnn_89 := KI.w en_89 hnn_83 (okv_f (show kd (6 * i58 + 393) = (0, 0, false) from (kd_W (k := i58) (c := 3) (by omega) (by omega) (by decide))))
                      have hrn_89 := NRx.w en_89 hrn_83 (by rw [(show kd (6 * i58 + 393) = (0, 0, false) from (kd_W (k := i58) (c := 3) (by omega) (by omega) (by decide)))])
                      have e90 : n_89 0 = nI kc0 := by rw [en_89, pk_un (by omega)]; exact e84
                      have e91 : n_89 6 = nI kc6 := by rw [en_89, pk_un (by omega)]; exact e85
                      have e92 : n_89 3 = nI k59 := by rw [en_89, pk_un (by omega)]; exact e86
                      have e93 : n_89 (6 * i58 + 391) = nI k62 := by rw [en_89, pk_un (by omega)]; exact e87
                      have e94 : n_89 (6 * i58 + 392) = (-1) := by rw [en_89, pk_un (by omega)]; exact e88
                      have e95 : n_89 (6 * i58 + 393) = (-1) := by rw [en_89, pk_us]
                      refine pm_iincX (v := nI (i58 + 1)) (loc' := [some (.ref (B + 54)), some (.int za), some (.int x8), some (.int (nI (i58 + 1))), some (.int (nI 0))]) hG dX12_die_166 rfl (nI_1 _) (by decide) (pm_c1b rfl) rfl ?_
                      refine pm_goto (tgt := 107) hG dX12_die_169 rfl ?_
                      refine pm_fg 4 (loc' := [some (.ref (B + 54)), some (.int za), some (.int x8), some (.int (nI (i58 + 1))), none]) rfl ?_
                      exact ih58 I58 A58 n_89 (i58 + 1) hnn_89 hrn_89 (e90.trans (congrArg nI (by omega))) (e91.trans (congrArg nI (by omega))) (by omega) (by omega)
                · refine pm_iconst (v := nI 1) hG dX12_die_127 (by decide) ?_
                  refine pm_goto (tgt := 132) hG dX12_die_128 rfl ?_
                  refine pm_istoreXi (loc' := [some (.ref (B + 54)), some (.int za), some (.int x8), some (.int (nI i58)), some (.int (nI 1))]) hG dX12_die_132 (by decide) (pm_c1b rfl) rfl ?_
                  refine pm_iloadi hG dX12_die_134 rfl ?_
                  refine pm_ifN_eq (tgt := 146) hG dX12_die_136 rfl (by omega) (fun q => absurd q (by omega)) (fun _ => ?_)
                  refine pm_aloadn hG dX12_die_139 rfl ?_
                  refine pm_iloadn hG dX12_die_140 rfl ?_
                  refine pm_iconst (v := nI 1) hG dX12_die_141 (by decide) ?_
                  refine pm_iconst (v := (-1)) hG dX12_die_142 (by decide) ?_
                  refine pm_callV (As := [.int (nI i58), .int (nI 1), .int (-1)]) (rest := []) hG hR dX12_die_143 (lkX12_113 _ rfl) okV_X12_makes rfl rfl (m_makes (d := 3) (e := 6 * i58 + 391) (by omega) (by omega) (by omega)) rfl rfl hdd (Nat.le_refl _) (Nat.le_refl _) (by decide) (pm_kv (fun σ' cnt' hq => ?_))
                  obtain ⟨rfl, rfl⟩ := hq
                  obtain ⟨n_96, en_96⟩ : ∃ f : Nat → Int32, f = upd n_58 (6 * i58 + 391) (-1) := ⟨_, rfl⟩
                  rw [← en_96]
                  have hnn_96 := KI.w en_96 hnn_58 (okv_m (show kd (6 * i58 + 391) = (2, 20, false) from (kd_W (k := i58) (c := 1) (by omega) (by omega) (by decide))))
                  have hrn_96 := NRx.w en_96 hrn_58 (by rw [(show kd (6 * i58 + 391) = (2, 20, false) from (kd_W (k := i58) (c := 1) (by omega) (by omega) (by decide)))])
                  have e97 : n_96 0 = nI kc0 := by rw [en_96, pk_un (by omega)]; exact kc58_0
                  have e98 : n_96 6 = nI kc6 := by rw [en_96, pk_un (by omega)]; exact kc58_6
                  have e99 : n_96 3 = nI k59 := by rw [en_96, pk_un (by omega)]; exact ek59
                  have e100 : n_96 (6 * i58 + 391) = (-1) := by rw [en_96, pk_us]
                  refine pm_iloadi hG dX12_die_146 rfl ?_
                  refine pm_ifN_ne (tgt := 161) hG dX12_die_148 rfl (by omega) (fun _ => ?_) (fun q => absurd q (by omega))
                  refine pm_aloadn hG dX12_die_161 rfl ?_
                  refine pm_iloadn hG dX12_die_162 rfl ?_
                  refine pm_callV (As := [.int (nI i58)]) (rest := []) hG hR dX12_die_163 (lkX12_116 _ rfl) okV_X12_comesBack rfl rfl (m_comesBack (d := 3) (e := 6 * i58 + 392) (e2 := 6 * i58 + 393) (by decide) (by omega) (by omega) (by omega)) rfl rfl hdd (Nat.le_refl _) (Nat.le_refl _) (by decide) (pm_kv (fun σ' cnt' hq => ?_))
                  obtain ⟨rfl, rfl⟩ := hq
                  obtain ⟨n_101, en_101⟩ : ∃ f : Nat → Int32, f = upd n_96 (6 * i58 + 392) (-1) := ⟨_, rfl⟩
                  rw [← en_101]
                  have hnn_101 := KI.w en_101 hnn_96 (okv_m (show kd (6 * i58 + 392) = (2, 20, false) from (kd_W (k := i58) (c := 2) (by omega) (by omega) (by decide))))
                  have hrn_101 := NRx.w en_101 hrn_96 (by rw [(show kd (6 * i58 + 392) = (2, 20, false) from (kd_W (k := i58) (c := 2) (by omega) (by omega) (by decide)))])
                  have e102 : n_101 0 = nI kc0 := by rw [en_101, pk_un (by omega)]; exact e97
                  have e103 : n_101 6 = nI kc6 := by rw [en_101, pk_un (by omega)]; exact e98
                  have e104 : n_101 3 = nI k59 := by rw [en_101, pk_un (by omega)]; exact e99
                  have e105 : n_101 (6 * i58 + 391) = (-1) := by rw [en_101, pk_un (by omega)]; exact e100
                  have e106 : n_101 (6 * i58 + 392) = (-1) := by rw [en_101, pk_us]
                  obtain ⟨n_107, en_107⟩ : ∃ f : Nat → Int32, f = upd n_101 (6 * i58 + 393) (-1) := ⟨_, rfl⟩
                  rw [← en_107]
                  have hnn_107 := KI.w en_107 hnn_101 (okv_f (show kd (6 * i58 + 393) = (0, 0, false) from (kd_W (k := i58) (c := 3) (by omega) (by omega) (by decide))))
                  have hrn_107 := NRx.w en_107 hrn_101 (by rw [(show kd (6 * i58 + 393) = (0, 0, false) from (kd_W (k := i58) (c := 3) (by omega) (by omega) (by decide)))])
                  have e108 : n_107 0 = nI kc0 := by rw [en_107, pk_un (by omega)]; exact e102
                  have e109 : n_107 6 = nI kc6 := by rw [en_107, pk_un (by omega)]; exact e103
                  have e110 : n_107 3 = nI k59 := by rw [en_107, pk_un (by omega)]; exact e104
                  have e111 : n_107 (6 * i58 + 391) = (-1) := by rw [en_107, pk_un (by omega)]; exact e105
                  have e112 : n_107 (6 * i58 + 392) = (-1) := by rw [en_107, pk_un (by omega)]; exact e106
                  have e113 : n_107 (6 * i58 + 393) = (-1) := by rw [en_107, pk_us]
                  refine pm_iincX (v := nI (i58 + 1)) (loc' := [some (.ref (B + 54)), some (.int za), some (.int x8), some (.int (nI (i58 + 1))), some (.int (nI 1))]) hG dX12_die_166 rfl (nI_1 _) (by decide) (pm_c1b rfl) rfl ?_
                  refine pm_goto (tgt := 107) hG dX12_die_169 rfl ?_
                  refine pm_fg 4 (loc' := [some (.ref (B + 54)), some (.int za), some (.int x8), some (.int (nI (i58 + 1))), none]) rfl ?_
                  exact ih58 I58 A58 n_107 (i58 + 1) hnn_107 hrn_107 (e108.trans (congrArg nI (by omega))) (e109.trans (congrArg nI (by omega))) (by omega) (by omega)
        exact loop107_58 _ I10 A10 n_45 0 hnn_45 hrn_45 (e46.trans (congrArg nI (by omega))) (e47.trans (congrArg nI (by omega))) (by omega) (Nat.lt_succ_self _)
      · refine pm_aloadn hG dX12_die_100 rfl ?_
        refine pm_iloadn hG dX12_die_101 rfl ?_
        refine pm_top (v := nI k4) ek4 ?_
        refine pm_callV (As := [.int (nI k4)]) (rest := []) hG hR dX12_die_102 (lkX12_107 _ rfl) okV_X12_leaves rfl rfl (m_leaves (d := 3) (by decide) hnn_45 hrn_45 hz (by omega)) rfl rfl hdd (Nat.le_refl _) (Nat.le_refl _) (by decide) (pm_kv (fun σ' cnt' hq => ?_))
        obtain ⟨⟨n_115, rfl, hn115, hr115, hc115_0, hc115_6⟩, rfl⟩ := hq
        have e116 : n_115 0 = nI kc0 := hc115_0.trans e46
        have e117 : n_115 6 = nI kc6 := hc115_6.trans e47
        refine pm_iconst (v := nI 0) hG dX12_die_105 (by decide) ?_
        refine pm_istoreXn (loc' := [some (.ref (B + 54)), some (.int za), some (.int x8), some (.int (nI 0)), none]) hG dX12_die_106 (by decide) (pm_c1b rfl) rfl ?_
        have loop107_118 : ∀ (m118 : Nat) (I118 : Nat → Int32) (A118 : Nat → Nat → Int32) (n_118 : Nat → Int32) (i118 : Nat), KI n_118 → NRx 40 n_118 → n_118 0 = nI kc0 → n_118 6 = nI kc6 → i118 ≤ 20 → 20 - i118 < m118 → pm_wp mX12_die G B 107 [some (.ref (B + 54)), some (.int za), some (.int x8), some (.int (nI i118)), none] [] 0 0 cnt (pm_mid σ (md_L B I118 A118 n_118 k z ac wt pl (nI p0) (nI t0) im)) := by
          intro m118
          induction m118 with
          | zero => intro I118 A118 n_118 i118 _ _ _ _ _ hm; exact absurd hm (Nat.not_lt_zero _)
          | succ m118 ih118 =>
            intro I118 A118 n_118 i118 hnn_118 hrn_118 kc118_0 kc118_6 hi118 hm118
            refine pm_iloadn hG dX12_die_107 rfl ?_
            refine pm_aloadn hG dX12_die_108 rfl ?_
            refine pm_getf hG dX12_die_109 (flX12_7 _ rfl) rfl rfl ?_
            refine pm_iconst (v := nI 3) hG dX12_die_112 (by decide) ?_
            refine pm_ialdN hG dX12_die_113 rfl (by decide) (by omega) ?_
            obtain ⟨k119, hk119, ek119⟩ := KI.nat hnn_118 (show kd 3 = (1, 21, false) by decide)
            refine pm_top (v := nI k119) ek119 ?_
            refine pm_icmpN_ge (tgt := 172) hG dX12_die_114 rfl (by omega) (by omega) (fun c120 => ?_) (fun c120 => ?_)
            · refine pm_iloadn hG dX12_die_172 rfl ?_
              exact pm_iret hG hF dX12_die_173 rfl (Nat.le_refl _) (Nat.le_refl _) ⟨_, rfl, ⟨_, _, _, rfl, hnn_118, hrn_118, kc118_0.trans ekc0.symm, kc118_6.trans ekc6.symm⟩, rfl⟩
            · refine pm_aloadn hG dX12_die_117 rfl ?_
              refine pm_iloadn hG dX12_die_118 rfl ?_
              refine pm_iconst (v := nI 1) hG dX12_die_119 (by decide) ?_
              refine pm_callV (As := [.int (nI i118), .int (nI 1)]) (rest := []) hG hR dX12_die_120 (lkX12_110 _ rfl) okV_X12_its rfl rfl (m_its (d := 3) (e := 6 * i118 + 391) (by omega) (by omega) (by omega)) rfl rfl hdd (Nat.le_refl _) (Nat.le_refl _) (by decide) (pm_ki (fun v121 σ' cnt' hq => ?_))
              obtain ⟨rfl, rfl, rfl⟩ := hq
              rcases KI.opt hnn_118 (show kd (6 * i118 + 391) = (2, 20, false) from (kd_W (k := i118) (c := 1) (by omega) (by omega) (by decide))) with ek122 | ⟨k122, hk122, ek122⟩
              · refine pm_top (v := (-1)) ek122 ?_
                refine pm_iloadn hG dX12_die_123 rfl ?_
                refine pm_top (v := nI k4) ek4 ?_
                refine pm_icmp_ne (tgt := 131) hG dX12_die_124 rfl (fun _ => ?_) (fun q => absurd q ((fun q => nI_m1 (by omega) q.symm)))
                refine pm_iconst (v := nI 0) hG dX12_die_131 (by decide) ?_
                refine pm_istoreXi (loc' := [some (.ref (B + 54)), some (.int za), some (.int x8), some (.int (nI i118)), some (.int (nI 0))]) hG dX12_die_132 (by decide) (pm_c1b rfl) rfl ?_
                refine pm_iloadi hG dX12_die_134 rfl ?_
                refine pm_ifN_eq (tgt := 146) hG dX12_die_136 rfl (by omega) (fun _ => ?_) (fun q => absurd q (by omega))
                refine pm_iloadi hG dX12_die_146 rfl ?_
                refine pm_ifN_ne (tgt := 161) hG dX12_die_148 rfl (by omega) (fun q => absurd q (by omega)) (fun _ => ?_)
                refine pm_aloadn hG dX12_die_151 rfl ?_
                refine pm_iloadn hG dX12_die_152 rfl ?_
                refine pm_iconst (v := nI 2) hG dX12_die_153 (by decide) ?_
                refine pm_callV (As := [.int (nI i118), .int (nI 2)]) (rest := []) hG hR dX12_die_154 (lkX12_110 _ rfl) okV_X12_its rfl rfl (m_its (d := 3) (e := 6 * i118 + 392) (by omega) (by omega) (by omega)) rfl rfl hdd (Nat.le_refl _) (Nat.le_refl _) (by decide) (pm_ki (fun v123 σ' cnt' hq => ?_))
                obtain ⟨rfl, rfl, rfl⟩ := hq
                rcases KI.opt hnn_118 (show kd (6 * i118 + 392) = (2, 20, false) from (kd_W (k := i118) (c := 2) (by omega) (by omega) (by decide))) with ek124 | ⟨k124, hk124, ek124⟩
                · refine pm_top (v := (-1)) ek124 ?_
                  refine pm_iloadn hG dX12_die_157 rfl ?_
                  refine pm_top (v := nI k4) ek4 ?_
                  refine pm_icmp_ne (tgt := 166) hG dX12_die_158 rfl (fun _ => ?_) (fun q => absurd q ((fun q => nI_m1 (by omega) q.symm)))
                  refine pm_iincX (v := nI (i118 + 1)) (loc' := [some (.ref (B + 54)), some (.int za), some (.int x8), some (.int (nI (i118 + 1))), some (.int (nI 0))]) hG dX12_die_166 rfl (nI_1 _) (by decide) (pm_c1b rfl) rfl ?_
                  refine pm_goto (tgt := 107) hG dX12_die_169 rfl ?_
                  refine pm_fg 4 (loc' := [some (.ref (B + 54)), some (.int za), some (.int x8), some (.int (nI (i118 + 1))), none]) rfl ?_
                  exact ih118 I118 A118 n_118 (i118 + 1) hnn_118 hrn_118 (kc118_0.trans (congrArg nI (by omega))) (kc118_6.trans (congrArg nI (by omega))) (by omega) (by omega)
                · refine pm_top (v := nI k124) ek124 ?_
                  refine pm_iloadn hG dX12_die_157 rfl ?_
                  refine pm_top (v := nI k4) ek4 ?_
                  refine pm_icmpN_ne (tgt := 166) hG dX12_die_158 rfl (by omega) (by omega) (fun c125 => ?_) (fun c125 => ?_)
                  · refine pm_iincX (v := nI (i118 + 1)) (loc' := [some (.ref (B + 54)), some (.int za), some (.int x8), some (.int (nI (i118 + 1))), some (.int (nI 0))]) hG dX12_die_166 rfl (nI_1 _) (by decide) (pm_c1b rfl) rfl ?_
                    refine pm_goto (tgt := 107) hG dX12_die_169 rfl ?_
                    refine pm_fg 4 (loc' := [some (.ref (B + 54)), some (.int za), some (.int x8), some (.int (nI (i118 + 1))), none]) rfl ?_
                    exact ih118 I118 A118 n_118 (i118 + 1) hnn_118 hrn_118 (kc118_0.trans (congrArg nI (by omega))) (kc118_6.trans (congrArg nI (by omega))) (by omega) (by omega)
                  · refine pm_aloadn hG dX12_die_161 rfl ?_
                    refine pm_iloadn hG dX12_die_162 rfl ?_
                    refine pm_callV (As := [.int (nI i118)]) (rest := []) hG hR dX12_die_163 (lkX12_116 _ rfl) okV_X12_comesBack rfl rfl (m_comesBack (d := 3) (e := 6 * i118 + 392) (e2 := 6 * i118 + 393) (by decide) (by omega) (by omega) (by omega)) rfl rfl hdd (Nat.le_refl _) (Nat.le_refl _) (by decide) (pm_kv (fun σ' cnt' hq => ?_))
                    obtain ⟨rfl, rfl⟩ := hq
                    obtain ⟨n_126, en_126⟩ : ∃ f : Nat → Int32, f = upd n_118 (6 * i118 + 392) (-1) := ⟨_, rfl⟩
                    rw [← en_126]
                    have hnn_126 := KI.w en_126 hnn_118 (okv_m (show kd (6 * i118 + 392) = (2, 20, false) from (kd_W (k := i118) (c := 2) (by omega) (by omega) (by decide))))
                    have hrn_126 := NRx.w en_126 hrn_118 (by rw [(show kd (6 * i118 + 392) = (2, 20, false) from (kd_W (k := i118) (c := 2) (by omega) (by omega) (by decide)))])
                    have e127 : n_126 0 = nI kc0 := by rw [en_126, pk_un (by omega)]; exact kc118_0
                    have e128 : n_126 6 = nI kc6 := by rw [en_126, pk_un (by omega)]; exact kc118_6
                    have e129 : n_126 3 = nI k119 := by rw [en_126, pk_un (by omega)]; exact ek119
                    have e130 : n_126 (6 * i118 + 391) = (-1) := by rw [en_126, pk_un (by omega)]; exact ek122
                    have e131 : n_126 (6 * i118 + 392) = (-1) := by rw [en_126, pk_us]
                    obtain ⟨n_132, en_132⟩ : ∃ f : Nat → Int32, f = upd n_126 (6 * i118 + 393) (-1) := ⟨_, rfl⟩
                    rw [← en_132]
                    have hnn_132 := KI.w en_132 hnn_126 (okv_f (show kd (6 * i118 + 393) = (0, 0, false) from (kd_W (k := i118) (c := 3) (by omega) (by omega) (by decide))))
                    have hrn_132 := NRx.w en_132 hrn_126 (by rw [(show kd (6 * i118 + 393) = (0, 0, false) from (kd_W (k := i118) (c := 3) (by omega) (by omega) (by decide)))])
                    have e133 : n_132 0 = nI kc0 := by rw [en_132, pk_un (by omega)]; exact e127
                    have e134 : n_132 6 = nI kc6 := by rw [en_132, pk_un (by omega)]; exact e128
                    have e135 : n_132 3 = nI k119 := by rw [en_132, pk_un (by omega)]; exact e129
                    have e136 : n_132 (6 * i118 + 391) = (-1) := by rw [en_132, pk_un (by omega)]; exact e130
                    have e137 : n_132 (6 * i118 + 392) = (-1) := by rw [en_132, pk_un (by omega)]; exact e131
                    have e138 : n_132 (6 * i118 + 393) = (-1) := by rw [en_132, pk_us]
                    refine pm_iincX (v := nI (i118 + 1)) (loc' := [some (.ref (B + 54)), some (.int za), some (.int x8), some (.int (nI (i118 + 1))), some (.int (nI 0))]) hG dX12_die_166 rfl (nI_1 _) (by decide) (pm_c1b rfl) rfl ?_
                    refine pm_goto (tgt := 107) hG dX12_die_169 rfl ?_
                    refine pm_fg 4 (loc' := [some (.ref (B + 54)), some (.int za), some (.int x8), some (.int (nI (i118 + 1))), none]) rfl ?_
                    exact ih118 I118 A118 n_132 (i118 + 1) hnn_132 hrn_132 (e133.trans (congrArg nI (by omega))) (e134.trans (congrArg nI (by omega))) (by omega) (by omega)
              · refine pm_top (v := nI k122) ek122 ?_
                refine pm_iloadn hG dX12_die_123 rfl ?_
                refine pm_top (v := nI k4) ek4 ?_
                refine pm_icmpN_ne (tgt := 131) hG dX12_die_124 rfl (by omega) (by omega) (fun c139 => ?_) (fun c139 => ?_)
                · refine pm_iconst (v := nI 0) hG dX12_die_131 (by decide) ?_
                  refine pm_istoreXi (loc' := [some (.ref (B + 54)), some (.int za), some (.int x8), some (.int (nI i118)), some (.int (nI 0))]) hG dX12_die_132 (by decide) (pm_c1b rfl) rfl ?_
                  refine pm_iloadi hG dX12_die_134 rfl ?_
                  refine pm_ifN_eq (tgt := 146) hG dX12_die_136 rfl (by omega) (fun _ => ?_) (fun q => absurd q (by omega))
                  refine pm_iloadi hG dX12_die_146 rfl ?_
                  refine pm_ifN_ne (tgt := 161) hG dX12_die_148 rfl (by omega) (fun q => absurd q (by omega)) (fun _ => ?_)
                  refine pm_aloadn hG dX12_die_151 rfl ?_
                  refine pm_iloadn hG dX12_die_152 rfl ?_
                  refine pm_iconst (v := nI 2) hG dX12_die_153 (by decide) ?_
                  refine pm_callV (As := [.int (nI i118), .int (nI 2)]) (rest := []) hG hR dX12_die_154 (lkX12_110 _ rfl) okV_X12_its rfl rfl (m_its (d := 3) (e := 6 * i118 + 392) (by omega) (by omega) (by omega)) rfl rfl hdd (Nat.le_refl _) (Nat.le_refl _) (by decide) (pm_ki (fun v140 σ' cnt' hq => ?_))
                  obtain ⟨rfl, rfl, rfl⟩ := hq
                  rcases KI.opt hnn_118 (show kd (6 * i118 + 392) = (2, 20, false) from (kd_W (k := i118) (c := 2) (by omega) (by omega) (by decide))) with ek141 | ⟨k141, hk141, ek141⟩
                  · refine pm_top (v := (-1)) ek141 ?_
                    refine pm_iloadn hG dX12_die_157 rfl ?_
                    refine pm_top (v := nI k4) ek4 ?_
                    refine pm_icmp_ne (tgt := 166) hG dX12_die_158 rfl (fun _ => ?_) (fun q => absurd q ((fun q => nI_m1 (by omega) q.symm)))
                    refine pm_iincX (v := nI (i118 + 1)) (loc' := [some (.ref (B + 54)), some (.int za), some (.int x8), some (.int (nI (i118 + 1))), some (.int (nI 0))]) hG dX12_die_166 rfl (nI_1 _) (by decide) (pm_c1b rfl) rfl ?_
                    refine pm_goto (tgt := 107) hG dX12_die_169 rfl ?_
                    refine pm_fg 4 (loc' := [some (.ref (B + 54)), some (.int za), some (.int x8), some (.int (nI (i118 + 1))), none]) rfl ?_
                    exact ih118 I118 A118 n_118 (i118 + 1) hnn_118 hrn_118 (kc118_0.trans (congrArg nI (by omega))) (kc118_6.trans (congrArg nI (by omega))) (by omega) (by omega)
                  · refine pm_top (v := nI k141) ek141 ?_
                    refine pm_iloadn hG dX12_die_157 rfl ?_
                    refine pm_top (v := nI k4) ek4 ?_
                    refine pm_icmpN_ne (tgt := 166) hG dX12_die_158 rfl (by omega) (by omega) (fun c142 => ?_) (fun c142 => ?_)
                    · refine pm_iincX (v := nI (i118 + 1)) (loc' := [some (.ref (B + 54)), some (.int za), some (.int x8), some (.int (nI (i118 + 1))), some (.int (nI 0))]) hG dX12_die_166 rfl (nI_1 _) (by decide) (pm_c1b rfl) rfl ?_
                      refine pm_goto (tgt := 107) hG dX12_die_169 rfl ?_
                      refine pm_fg 4 (loc' := [some (.ref (B + 54)), some (.int za), some (.int x8), some (.int (nI (i118 + 1))), none]) rfl ?_
                      exact ih118 I118 A118 n_118 (i118 + 1) hnn_118 hrn_118 (kc118_0.trans (congrArg nI (by omega))) (kc118_6.trans (congrArg nI (by omega))) (by omega) (by omega)
                    · refine pm_aloadn hG dX12_die_161 rfl ?_
                      refine pm_iloadn hG dX12_die_162 rfl ?_
                      refine pm_callV (As := [.int (nI i118)]) (rest := []) hG hR dX12_die_163 (lkX12_116 _ rfl) okV_X12_comesBack rfl rfl (m_comesBack (d := 3) (e := 6 * i118 + 392) (e2 := 6 * i118 + 393) (by decide) (by omega) (by omega) (by omega)) rfl rfl hdd (Nat.le_refl _) (Nat.le_refl _) (by decide) (pm_kv (fun σ' cnt' hq => ?_))
                      obtain ⟨rfl, rfl⟩ := hq
                      obtain ⟨n_143, en_143⟩ : ∃ f : Nat → Int32, f = upd n_118 (6 * i118 + 392) (-1) := ⟨_, rfl⟩
                      rw [← en_143]
                      have hnn_143 := KI.w en_143 hnn_118 (okv_m (show kd (6 * i118 + 392) = (2, 20, false) from (kd_W (k := i118) (c := 2) (by omega) (by omega) (by decide))))
                      have hrn_143 := NRx.w en_143 hrn_118 (by rw [(show kd (6 * i118 + 392) = (2, 20, false) from (kd_W (k := i118) (c := 2) (by omega) (by omega) (by decide)))])
                      have e144 : n_143 0 = nI kc0 := by rw [en_143, pk_un (by omega)]; exact kc118_0
                      have e145 : n_143 6 = nI kc6 := by rw [en_143, pk_un (by omega)]; exact kc118_6
                      have e146 : n_143 3 = nI k119 := by rw [en_143, pk_un (by omega)]; exact ek119
                      have e147 : n_143 (6 * i118 + 391) = nI k122 := by rw [en_143, pk_un (by omega)]; exact ek122
                      have e148 : n_143 (6 * i118 + 392) = (-1) := by rw [en_143, pk_us]
                      obtain ⟨n_149, en_149⟩ : ∃ f : Nat → Int32, f = upd n_143 (6 * i118 + 393) (-1) := ⟨_, rfl⟩
                      rw [← en_149]
                      have hnn_149 := KI.w en_149 hnn_143 (okv_f (show kd (6 * i118 + 393) = (0, 0, false) from (kd_W (k := i118) (c := 3) (by omega) (by omega) (by decide))))
                      have hrn_149 := NRx.w en_149 hrn_143 (by rw [(show kd (6 * i118 + 393) = (0, 0, false) from (kd_W (k := i118) (c := 3) (by omega) (by omega) (by decide)))])
                      have e150 : n_149 0 = nI kc0 := by rw [en_149, pk_un (by omega)]; exact e144
                      have e151 : n_149 6 = nI kc6 := by rw [en_149, pk_un (by omega)]; exact e145
                      have e152 : n_149 3 = nI k119 := by rw [en_149, pk_un (by omega)]; exact e146
                      have e153 : n_149 (6 * i118 + 391) = nI k122 := by rw [en_149, pk_un (by omega)]; exact e147
                      have e154 : n_149 (6 * i118 + 392) = (-1) := by rw [en_149, pk_un (by omega)]; exact e148
                      have e155 : n_149 (6 * i118 + 393) = (-1) := by rw [en_149, pk_us]
                      refine pm_iincX (v := nI (i118 + 1)) (loc' := [some (.ref (B + 54)), some (.int za), some (.int x8), some (.int (nI (i118 + 1))), some (.int (nI 0))]) hG dX12_die_166 rfl (nI_1 _) (by decide) (pm_c1b rfl) rfl ?_
                      refine pm_goto (tgt := 107) hG dX12_die_169 rfl ?_
                      refine pm_fg 4 (loc' := [some (.ref (B + 54)), some (.int za), some (.int x8), some (.int (nI (i118 + 1))), none]) rfl ?_
                      exact ih118 I118 A118 n_149 (i118 + 1) hnn_149 hrn_149 (e150.trans (congrArg nI (by omega))) (e151.trans (congrArg nI (by omega))) (by omega) (by omega)
                · refine pm_iconst (v := nI 1) hG dX12_die_127 (by decide) ?_
                  refine pm_goto (tgt := 132) hG dX12_die_128 rfl ?_
                  refine pm_istoreXi (loc' := [some (.ref (B + 54)), some (.int za), some (.int x8), some (.int (nI i118)), some (.int (nI 1))]) hG dX12_die_132 (by decide) (pm_c1b rfl) rfl ?_
                  refine pm_iloadi hG dX12_die_134 rfl ?_
                  refine pm_ifN_eq (tgt := 146) hG dX12_die_136 rfl (by omega) (fun q => absurd q (by omega)) (fun _ => ?_)
                  refine pm_aloadn hG dX12_die_139 rfl ?_
                  refine pm_iloadn hG dX12_die_140 rfl ?_
                  refine pm_iconst (v := nI 1) hG dX12_die_141 (by decide) ?_
                  refine pm_iconst (v := (-1)) hG dX12_die_142 (by decide) ?_
                  refine pm_callV (As := [.int (nI i118), .int (nI 1), .int (-1)]) (rest := []) hG hR dX12_die_143 (lkX12_113 _ rfl) okV_X12_makes rfl rfl (m_makes (d := 3) (e := 6 * i118 + 391) (by omega) (by omega) (by omega)) rfl rfl hdd (Nat.le_refl _) (Nat.le_refl _) (by decide) (pm_kv (fun σ' cnt' hq => ?_))
                  obtain ⟨rfl, rfl⟩ := hq
                  obtain ⟨n_156, en_156⟩ : ∃ f : Nat → Int32, f = upd n_118 (6 * i118 + 391) (-1) := ⟨_, rfl⟩
                  rw [← en_156]
                  have hnn_156 := KI.w en_156 hnn_118 (okv_m (show kd (6 * i118 + 391) = (2, 20, false) from (kd_W (k := i118) (c := 1) (by omega) (by omega) (by decide))))
                  have hrn_156 := NRx.w en_156 hrn_118 (by rw [(show kd (6 * i118 + 391) = (2, 20, false) from (kd_W (k := i118) (c := 1) (by omega) (by omega) (by decide)))])
                  have e157 : n_156 0 = nI kc0 := by rw [en_156, pk_un (by omega)]; exact kc118_0
                  have e158 : n_156 6 = nI kc6 := by rw [en_156, pk_un (by omega)]; exact kc118_6
                  have e159 : n_156 3 = nI k119 := by rw [en_156, pk_un (by omega)]; exact ek119
                  have e160 : n_156 (6 * i118 + 391) = (-1) := by rw [en_156, pk_us]
                  refine pm_iloadi hG dX12_die_146 rfl ?_
                  refine pm_ifN_ne (tgt := 161) hG dX12_die_148 rfl (by omega) (fun _ => ?_) (fun q => absurd q (by omega))
                  refine pm_aloadn hG dX12_die_161 rfl ?_
                  refine pm_iloadn hG dX12_die_162 rfl ?_
                  refine pm_callV (As := [.int (nI i118)]) (rest := []) hG hR dX12_die_163 (lkX12_116 _ rfl) okV_X12_comesBack rfl rfl (m_comesBack (d := 3) (e := 6 * i118 + 392) (e2 := 6 * i118 + 393) (by decide) (by omega) (by omega) (by omega)) rfl rfl hdd (Nat.le_refl _) (Nat.le_refl _) (by decide) (pm_kv (fun σ' cnt' hq => ?_))
                  obtain ⟨rfl, rfl⟩ := hq
                  obtain ⟨n_161, en_161⟩ : ∃ f : Nat → Int32, f = upd n_156 (6 * i118 + 392) (-1) := ⟨_, rfl⟩
                  rw [← en_161]
                  have hnn_161 := KI.w en_161 hnn_156 (okv_m (show kd (6 * i118 + 392) = (2, 20, false) from (kd_W (k := i118) (c := 2) (by omega) (by omega) (by decide))))
                  have hrn_161 := NRx.w en_161 hrn_156 (by rw [(show kd (6 * i118 + 392) = (2, 20, false) from (kd_W (k := i118) (c := 2) (by omega) (by omega) (by decide)))])
                  have e162 : n_161 0 = nI kc0 := by rw [en_161, pk_un (by omega)]; exact e157
                  have e163 : n_161 6 = nI kc6 := by rw [en_161, pk_un (by omega)]; exact e158
                  have e164 : n_161 3 = nI k119 := by rw [en_161, pk_un (by omega)]; exact e159
                  have e165 : n_161 (6 * i118 + 391) = (-1) := by rw [en_161, pk_un (by omega)]; exact e160
                  have e166 : n_161 (6 * i118 + 392) = (-1) := by rw [en_161, pk_us]
                  obtain ⟨n_167, en_167⟩ : ∃ f : Nat → Int32, f = upd n_161 (6 * i118 + 393) (-1) := ⟨_, rfl⟩
                  rw [← en_167]
                  have hnn_167 := KI.w en_167 hnn_161 (okv_f (show kd (6 * i118 + 393) = (0, 0, false) from (kd_W (k := i118) (c := 3) (by omega) (by omega) (by decide))))
                  have hrn_167 := NRx.w en_167 hrn_161 (by rw [(show kd (6 * i118 + 393) = (0, 0, false) from (kd_W (k := i118) (c := 3) (by omega) (by omega) (by decide)))])
                  have e168 : n_167 0 = nI kc0 := by rw [en_167, pk_un (by omega)]; exact e162
                  have e169 : n_167 6 = nI kc6 := by rw [en_167, pk_un (by omega)]; exact e163
                  have e170 : n_167 3 = nI k119 := by rw [en_167, pk_un (by omega)]; exact e164
                  have e171 : n_167 (6 * i118 + 391) = (-1) := by rw [en_167, pk_un (by omega)]; exact e165
                  have e172 : n_167 (6 * i118 + 392) = (-1) := by rw [en_167, pk_un (by omega)]; exact e166
                  have e173 : n_167 (6 * i118 + 393) = (-1) := by rw [en_167, pk_us]
                  refine pm_iincX (v := nI (i118 + 1)) (loc' := [some (.ref (B + 54)), some (.int za), some (.int x8), some (.int (nI (i118 + 1))), some (.int (nI 1))]) hG dX12_die_166 rfl (nI_1 _) (by decide) (pm_c1b rfl) rfl ?_
                  refine pm_goto (tgt := 107) hG dX12_die_169 rfl ?_
                  refine pm_fg 4 (loc' := [some (.ref (B + 54)), some (.int za), some (.int x8), some (.int (nI (i118 + 1))), none]) rfl ?_
                  exact ih118 I118 A118 n_167 (i118 + 1) hnn_167 hrn_167 (e168.trans (congrArg nI (by omega))) (e169.trans (congrArg nI (by omega))) (by omega) (by omega)
        exact loop107_118 _ I10 A10 n_115 0 hn115 hr115 (e116.trans (congrArg nI (by omega))) (e117.trans (congrArg nI (by omega))) (by omega) (Nat.lt_succ_self _)
    · refine pm_callV (As := [.int (nI k4)]) (rest := []) hG hR dX12_die_16 (lkX12_101 _ rfl) okV_X12_lives rfl rfl (m_lives0 (d := 3) (by decide) (by omega) (by omega : 14 * k4 + 119 = 14 * k4 + 119) ek5 (by omega)) rfl rfl hdd (Nat.le_refl _) (Nat.le_refl _) (by decide) (pm_ki (fun v174 σ' cnt' hq => ?_))
      obtain ⟨rfl, rfl, rfl⟩ := hq
      refine pm_ifN_ne (tgt := 28) hG dX12_die_19 rfl (by omega) (fun q => absurd q (by omega)) (fun _ => ?_)
      refine pm_aloadn hG dX12_die_22 rfl ?_
      refine pm_iconst (v := nI 3) hG dX12_die_23 (by decide) ?_
      refine pm_callV (As := [.int (nI 3)]) (rest := []) hG hR dX12_die_24 (lkX12_80 _ rfl) okV_X12_finds rfl rfl (m_finds (d := 3) (by decide) hn hz (by omega)) rfl rfl hdd (Nat.le_refl _) (Nat.le_refl _) (by decide) (pm_ki (fun v175 σ' cnt' hq => ?_))
      obtain ⟨⟨I176, A176, rfl⟩, rfl, fv175⟩ := hq
      exact pm_iret hG hF dX12_die_27 rfl (Nat.le_refl _) (Nat.le_refl _) ⟨_, rfl, ⟨_, _, _, rfl, hn, hr, ekc0.trans ekc0.symm, ekc6.trans ekc6.symm⟩, rfl⟩
  · refine pm_ifN_ne (tgt := 14) hG dX12_die_5 rfl (by omega) (fun q => absurd q (by omega)) (fun _ => ?_)
    refine pm_aloadn hG dX12_die_8 rfl ?_
    refine pm_iconst (v := nI 1) hG dX12_die_9 (by decide) ?_
    refine pm_callV (As := [.int (nI 1)]) (rest := []) hG hR dX12_die_10 (lkX12_80 _ rfl) okV_X12_finds rfl rfl (m_finds (d := 3) (by decide) hn hz (by omega)) rfl rfl hdd (Nat.le_refl _) (Nat.le_refl _) (by decide) (pm_ki (fun v177 σ' cnt' hq => ?_))
    obtain ⟨⟨I178, A178, rfl⟩, rfl, fv177⟩ := hq
    exact pm_iret hG hF dX12_die_13 rfl (Nat.le_refl _) (Nat.le_refl _) ⟨_, rfl, ⟨_, _, _, rfl, hn, hr, ekc0.trans ekc0.symm, ekc6.trans ekc6.symm⟩, rfl⟩
