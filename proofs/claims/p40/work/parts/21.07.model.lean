set_option maxRecDepth 100000 in
set_option maxHeartbeats 4000000 in
theorem m_days {d B cnt p0 t0 : Nat} {σ : pm_S} {I : Nat → Int32} {A : Nat → Nat → Int32} {n k z : Nat → Int32} {ac wt pl im : Int32} {za : Int32} (hdd : 3 ≤ d) (hn : KI n) (hr : NR n) (hz : SZ z)  : pm_met mX12_days d 0 0 B [.ref (B + 54), .int za] cnt (pm_mid σ (md_L B I A n k z ac wt pl (nI p0) (nI t0) im)) (pm_Qi (fun v σ' cnt' => (∃ (I' : Nat → Int32) (A' : Nat → Nat → Int32) (n' : Nat → Int32), σ' = pm_mid σ (md_L B I' A' n' k z ac wt pl (nI p0) (nI t0) im) ∧ KI n' ∧ NR n' ∧ KS n' n) ∧ cnt = cnt')) := by
  refine pm_enter 2 (by decide) (Nat.le_of_ble_eq_true rfl) rfl (fun G hG hR hF => ?_)
  refine pm_iloadn hG dX12_days_0 rfl ?_
  refine pm_iconst (v := nI 1) hG dX12_days_1 (by decide) ?_
  refine pm_sipush (v := nI 400) hG dX12_days_2 (by decide) ?_
  refine pm_callS (As := [.int za, .int (nI 1), .int (nI 400)]) (rest := []) hG hR dX12_days_5 (lkX12_68 _ rfl) okS_X12_in (m_in (d := 2)) rfl rfl hdd (Nat.le_refl _) (Nat.le_refl _) (by decide) (pm_ki (fun v1 σ' cnt' hq => ?_))
  obtain ⟨hq, rfl, rfl⟩ := hq
  rcases hq with ⟨rfl, ac2, bc2⟩ | ⟨rfl, c2⟩
  · obtain ⟨k3, hk3, ek3⟩ := in_nat (by omega) (by omega) ac2 bc2
    refine pm_ifN_eq (tgt := 26) hG dX12_days_8 rfl (by omega) (fun q => absurd q (by omega)) (fun _ => ?_)
    refine pm_aloadn hG dX12_days_11 rfl ?_
    refine pm_getf hG dX12_days_12 (flX12_7 _ rfl) rfl rfl ?_
    refine pm_bipush (v := nI 8) hG dX12_days_15 (by decide) ?_
    refine pm_ialdN hG dX12_days_17 rfl (by decide) (by omega) ?_
    obtain ⟨k4, hk4, ek4⟩ := KI.nat hn (show kd 8 = (1, 2001, false) by decide)
    refine pm_top (v := nI k4) ek4 ?_
    refine pm_iloadn hG dX12_days_18 rfl ?_
    refine pm_top (v := nI k3) ek3 ?_
    refine pm_iaddN (c := k3 + k4) hG dX12_days_19 (by omega) ?_
    refine pm_sipush (v := nI 2000) hG dX12_days_20 (by decide) ?_
    refine pm_icmpN_le (tgt := 32) hG dX12_days_23 rfl (by omega) (by omega) (fun c5 => ?_) (fun c5 => ?_)
    · refine pm_iconst (v := nI 0) hG dX12_days_32 (by decide) ?_
      refine pm_istoreXn (loc' := [some (.ref (B + 54)), some (.int za), some (.int (nI 0)), none]) hG dX12_days_33 (by decide) (pm_c1b rfl) rfl ?_
      have loop34_6 : ∀ (m6 : Nat) (I6 : Nat → Int32) (A6 : Nat → Nat → Int32) (n_6 : Nat → Int32) (i6 : Nat), KI n_6 → KS n_6 n → NRx 40 n_6 → n_6 8 = nI (i6 + k4) → i6 ≤ 400 → 400 - i6 < m6 → pm_wp mX12_days G B 34 [some (.ref (B + 54)), some (.int za), some (.int (nI i6)), none] [] 0 0 cnt (pm_mid σ (md_L B I6 A6 n_6 k z ac wt pl (nI p0) (nI t0) im)) := by
        intro m6
        induction m6 with
        | zero => intro I6 A6 n_6 i6 _ _ _ _ _ hm; exact absurd hm (Nat.not_lt_zero _)
        | succ m6 ih6 =>
          intro I6 A6 n_6 i6 hnn_6 ksn_6 hrn_6 kc6_8 hi6 hm6
          refine pm_iloadn hG dX12_days_34 rfl ?_
          refine pm_iloadn hG dX12_days_35 rfl ?_
          refine pm_top (v := nI k3) ek3 ?_
          refine pm_icmpN_ge (tgt := 185) hG dX12_days_36 rfl (by omega) (by omega) (fun c7 => ?_) (fun c7 => ?_)
          · refine pm_aloadn hG dX12_days_185 rfl ?_
            refine pm_getf hG dX12_days_186 (flX12_7 _ rfl) rfl rfl ?_
            refine pm_bipush (v := nI 8) hG dX12_days_189 (by decide) ?_
            refine pm_ialdN hG dX12_days_191 rfl (by decide) (by omega) ?_
            refine pm_top (v := nI (i6 + k4)) kc6_8 ?_
            exact pm_iret hG hF dX12_days_192 rfl (Nat.le_refl _) (Nat.le_refl _) ⟨_, rfl, ⟨_, _, _, rfl, hnn_6, hrn_6, ksn_6⟩, rfl⟩
          · refine pm_aloadn hG dX12_days_39 rfl ?_
            refine pm_getf hG dX12_days_40 (flX12_7 _ rfl) rfl rfl ?_
            refine pm_bipush (v := nI 8) hG dX12_days_43 (by decide) ?_
            refine pm_dup2 hG dX12_days_45 rfl rfl ?_
            refine pm_ialdN hG dX12_days_46 rfl (by decide) (by omega) ?_
            refine pm_top (v := nI (i6 + k4)) kc6_8 ?_
            refine pm_iconst (v := nI 1) hG dX12_days_47 (by decide) ?_
            refine pm_iaddN (c := i6 + k4 + 1) hG dX12_days_48 (by omega) ?_
            refine pm_iastN hG dX12_days_49 rfl (by decide) (by omega) ?_
            refine mdn_now (fun n_8 en_8 => ?_)
            have hnn_8 := KI.w en_8 hnn_6 (okv_n (show kd 8 = (1, 2001, false) by decide) (by omega))
            have hrn_8 := NRx.w en_8 hrn_6 (by rw [(show kd 8 = (1, 2001, false) by decide)])
            have ksn_8 := KS.w en_8 ksn_6 (by unfold tS; omega)
            have e9 : n_8 8 = nI (i6 + k4 + 1) := by rw [en_8, pk_us]
            refine pm_iconst (v := nI 0) hG dX12_days_50 (by decide) ?_
            refine pm_istoreXn (loc' := [some (.ref (B + 54)), some (.int za), some (.int (nI i6)), some (.int (nI 0))]) hG dX12_days_51 (by decide) (pm_c1b rfl) rfl ?_
            have loop52_10 : ∀ (m10 : Nat) (I10 : Nat → Int32) (A10 : Nat → Nat → Int32) (n_10 : Nat → Int32) (i10 : Nat), KI n_10 → KS n_10 n → NRx 40 n_10 → n_10 8 = nI (i6 + k4 + 1) → i10 ≤ 20 → 20 - i10 < m10 → pm_wp mX12_days G B 52 [some (.ref (B + 54)), some (.int za), some (.int (nI i6)), some (.int (nI i10))] [] 0 0 cnt (pm_mid σ (md_L B I10 A10 n_10 k z ac wt pl (nI p0) (nI t0) im)) := by
              intro m10
              induction m10 with
              | zero => intro I10 A10 n_10 i10 _ _ _ _ _ hm; exact absurd hm (Nat.not_lt_zero _)
              | succ m10 ih10 =>
                intro I10 A10 n_10 i10 hnn_10 ksn_10 hrn_10 kc10_8 hi10 hm10
                refine pm_iloadn hG dX12_days_52 rfl ?_
                refine pm_aloadn hG dX12_days_53 rfl ?_
                refine pm_getf hG dX12_days_54 (flX12_7 _ rfl) rfl rfl ?_
                refine pm_iconst (v := nI 2) hG dX12_days_57 (by decide) ?_
                refine pm_ialdN hG dX12_days_58 rfl (by decide) (by omega) ?_
                obtain ⟨k11, hk11, ek11⟩ := KI.nat hnn_10 (show kd 2 = (1, 21, true) by decide)
                refine pm_top (v := nI k11) ek11 ?_
                refine pm_icmpN_ge (tgt := 114) hG dX12_days_59 rfl (by omega) (by omega) (fun c12 => ?_) (fun c12 => ?_)
                · refine pm_iconst (v := nI 0) hG dX12_days_114 (by decide) ?_
                  refine pm_istoreXn (loc' := [some (.ref (B + 54)), some (.int za), some (.int (nI i6)), some (.int (nI 0))]) hG dX12_days_115 (by decide) (pm_c1b rfl) rfl ?_
                  have loop116_13 : ∀ (m13 : Nat) (I13 : Nat → Int32) (A13 : Nat → Nat → Int32) (n_13 : Nat → Int32) (i13 : Nat), KI n_13 → KS n_13 n → NRx 40 n_13 → n_13 8 = nI (i6 + k4 + 1) → i13 ≤ 20 → 20 - i13 < m13 → pm_wp mX12_days G B 116 [some (.ref (B + 54)), some (.int za), some (.int (nI i6)), some (.int (nI i13))] [] 0 0 cnt (pm_mid σ (md_L B I13 A13 n_13 k z ac wt pl (nI p0) (nI t0) im)) := by
                    intro m13
                    induction m13 with
                    | zero => intro I13 A13 n_13 i13 _ _ _ _ _ hm; exact absurd hm (Nat.not_lt_zero _)
                    | succ m13 ih13 =>
                      intro I13 A13 n_13 i13 hnn_13 ksn_13 hrn_13 kc13_8 hi13 hm13
                      refine pm_iloadn hG dX12_days_116 rfl ?_
                      refine pm_aloadn hG dX12_days_117 rfl ?_
                      refine pm_getf hG dX12_days_118 (flX12_7 _ rfl) rfl rfl ?_
                      refine pm_iconst (v := nI 3) hG dX12_days_121 (by decide) ?_
                      refine pm_ialdN hG dX12_days_122 rfl (by decide) (by omega) ?_
                      obtain ⟨k14, hk14, ek14⟩ := KI.nat hnn_13 (show kd 3 = (1, 21, false) by decide)
                      refine pm_top (v := nI k14) ek14 ?_
                      refine pm_icmpN_ge (tgt := 162) hG dX12_days_123 rfl (by omega) (by omega) (fun c15 => ?_) (fun c15 => ?_)
                      · refine pm_aloadn hG dX12_days_162 rfl ?_
                        refine pm_getf hG dX12_days_163 (flX12_7 _ rfl) rfl rfl ?_
                        refine pm_bipush (v := nI 8) hG dX12_days_166 (by decide) ?_
                        refine pm_ialdN hG dX12_days_168 rfl (by decide) (by omega) ?_
                        refine pm_top (v := nI (i6 + k4 + 1)) kc13_8 ?_
                        refine pm_bipush (v := nI 90) hG dX12_days_169 (by decide) ?_
                        refine pm_iremM hG dX12_days_171 (by omega) (by decide) (by decide) ?_
                        refine pm_ifN_ne (tgt := 179) hG dX12_days_172 rfl (by omega) (fun c16 => ?_) (fun c16 => ?_)
                        · refine pm_iincX (v := nI (i6 + 1)) (loc' := [some (.ref (B + 54)), some (.int za), some (.int (nI (i6 + 1))), some (.int (nI i13))]) hG dX12_days_179 rfl (nI_1 _) (by decide) (pm_c1b rfl) rfl ?_
                          refine pm_goto (tgt := 34) hG dX12_days_182 rfl ?_
                          refine pm_fg 3 (loc' := [some (.ref (B + 54)), some (.int za), some (.int (nI (i6 + 1))), none]) rfl ?_
                          exact ih6 I13 A13 n_13 (i6 + 1) hnn_13 ksn_13 hrn_13 (kc13_8.trans (congrArg nI (by omega))) (by omega) (by omega)
                        · refine pm_aloadn hG dX12_days_175 rfl ?_
                          refine pm_callV (As := []) (rest := []) hG hR dX12_days_176 (lkX12_236 _ rfl) okV_X12_quarter rfl rfl (m_quarter (d := 2) (by decide) hnn_13 hrn_13 hz) rfl rfl hdd (Nat.le_refl _) (Nat.le_refl _) (by decide) (pm_kv (fun σ' cnt' hq => ?_))
                          obtain ⟨⟨n_18, rfl, hn18, hr18, hc18_8, hks18⟩, rfl⟩ := hq
                          have e19 : n_18 8 = nI (i6 + k4 + 1) := hc18_8.trans kc13_8
                          refine pm_iincX (v := nI (i6 + 1)) (loc' := [some (.ref (B + 54)), some (.int za), some (.int (nI (i6 + 1))), some (.int (nI i13))]) hG dX12_days_179 rfl (nI_1 _) (by decide) (pm_c1b rfl) rfl ?_
                          refine pm_goto (tgt := 34) hG dX12_days_182 rfl ?_
                          refine pm_fg 3 (loc' := [some (.ref (B + 54)), some (.int za), some (.int (nI (i6 + 1))), none]) rfl ?_
                          exact ih6 I13 A13 n_18 (i6 + 1) hn18 (hks18.tr ksn_13) hr18 (e19.trans (congrArg nI (by omega))) (by omega) (by omega)
                      · refine pm_aloadn hG dX12_days_126 rfl ?_
                        refine pm_iloadn hG dX12_days_127 rfl ?_
                        refine pm_iconst (v := nI 2) hG dX12_days_128 (by decide) ?_
                        refine pm_callV (As := [.int (nI i13), .int (nI 2)]) (rest := []) hG hR dX12_days_129 (lkX12_110 _ rfl) okV_X12_its rfl rfl (m_its (d := 2) (e := 6 * i13 + 392) (by omega) (by omega) (by omega)) rfl rfl hdd (Nat.le_refl _) (Nat.le_refl _) (by decide) (pm_ki (fun v20 σ' cnt' hq => ?_))
                        obtain ⟨rfl, rfl, rfl⟩ := hq
                        rcases KI.opt hnn_13 (show kd (6 * i13 + 392) = (2, 20, false) from (kd_W (k := i13) (c := 2) (by omega) (by omega) (by decide))) with ek21 | ⟨k21, hk21, ek21⟩
                        · refine pm_top (v := (-1)) ek21 ?_
                          refine pm_if_lt (tgt := 156) hG dX12_days_132 rfl (fun _ => ?_) (fun q => absurd q (by decide))
                          refine pm_iincX (v := nI (i13 + 1)) (loc' := [some (.ref (B + 54)), some (.int za), some (.int (nI i6)), some (.int (nI (i13 + 1)))]) hG dX12_days_156 rfl (nI_1 _) (by decide) (pm_c1b rfl) rfl ?_
                          refine pm_goto (tgt := 116) hG dX12_days_159 rfl ?_
                          exact ih13 I13 A13 n_13 (i13 + 1) hnn_13 ksn_13 hrn_13 (kc13_8.trans (congrArg nI (by omega))) (by omega) (by omega)
                        · refine pm_top (v := nI k21) ek21 ?_
                          refine pm_ifN_lt hG dX12_days_132 rfl (by omega) ?_
                          refine pm_aloadn hG dX12_days_135 rfl ?_
                          refine pm_iloadn hG dX12_days_136 rfl ?_
                          refine pm_iconst (v := nI 3) hG dX12_days_137 (by decide) ?_
                          refine pm_callV (As := [.int (nI i13), .int (nI 3)]) (rest := []) hG hR dX12_days_138 (lkX12_110 _ rfl) okV_X12_its rfl rfl (m_its (d := 2) (e := 6 * i13 + 393) (by omega) (by omega) (by omega)) rfl rfl hdd (Nat.le_refl _) (Nat.le_refl _) (by decide) (pm_ki (fun v22 σ' cnt' hq => ?_))
                          obtain ⟨rfl, rfl, rfl⟩ := hq
                          refine pm_gen (fun x23 ex23 => ?_)
                          refine pm_aloadn hG dX12_days_141 rfl ?_
                          refine pm_getf hG dX12_days_142 (flX12_7 _ rfl) rfl rfl ?_
                          refine pm_bipush (v := nI 8) hG dX12_days_145 (by decide) ?_
                          refine pm_ialdN hG dX12_days_147 rfl (by decide) (by omega) ?_
                          refine pm_top (v := nI (i6 + k4 + 1)) kc13_8 ?_
                          refine pm_icmp_ge (tgt := 156) hG dX12_days_148 rfl (fun c24 => ?_) (fun c24 => ?_)
                          · refine pm_iincX (v := nI (i13 + 1)) (loc' := [some (.ref (B + 54)), some (.int za), some (.int (nI i6)), some (.int (nI (i13 + 1)))]) hG dX12_days_156 rfl (nI_1 _) (by decide) (pm_c1b rfl) rfl ?_
                            refine pm_goto (tgt := 116) hG dX12_days_159 rfl ?_
                            exact ih13 I13 A13 n_13 (i13 + 1) hnn_13 ksn_13 hrn_13 (kc13_8.trans (congrArg nI (by omega))) (by omega) (by omega)
                          · refine pm_aloadn hG dX12_days_151 rfl ?_
                            refine pm_iloadn hG dX12_days_152 rfl ?_
                            refine pm_callV (As := [.int (nI i13)]) (rest := []) hG hR dX12_days_153 (lkX12_116 _ rfl) okV_X12_comesBack rfl rfl (m_comesBack (d := 2) (e := 6 * i13 + 392) (e2 := 6 * i13 + 393) (by decide) (by omega) (by omega) (by omega)) rfl rfl hdd (Nat.le_refl _) (Nat.le_refl _) (by decide) (pm_kv (fun σ' cnt' hq => ?_))
                            obtain ⟨rfl, rfl⟩ := hq
                            obtain ⟨n_25, en_25⟩ : ∃ f : Nat → Int32, f = upd n_13 (6 * i13 + 392) (-1) := ⟨_, rfl⟩
                            rw [← en_25]
                            have hnn_25 := KI.w en_25 hnn_13 (okv_m (show kd (6 * i13 + 392) = (2, 20, false) from (kd_W (k := i13) (c := 2) (by omega) (by omega) (by decide))))
                            have hrn_25 := NRx.w en_25 hrn_13 (by rw [(show kd (6 * i13 + 392) = (2, 20, false) from (kd_W (k := i13) (c := 2) (by omega) (by omega) (by decide)))])
                            have ksn_25 := KS.w en_25 ksn_13 (by unfold tS; omega)
                            have e26 : n_25 8 = nI (i6 + k4 + 1) := by rw [en_25, pk_un (by omega)]; exact kc13_8
                            have e27 : n_25 3 = nI k14 := by rw [en_25, pk_un (by omega)]; exact ek14
                            have e28 : n_25 (6 * i13 + 393) = x23 := by rw [en_25, pk_un (by omega)]; exact ex23
                            have e29 : n_25 (6 * i13 + 392) = (-1) := by rw [en_25, pk_us]
                            obtain ⟨n_30, en_30⟩ : ∃ f : Nat → Int32, f = upd n_25 (6 * i13 + 393) (-1) := ⟨_, rfl⟩
                            rw [← en_30]
                            have hnn_30 := KI.w en_30 hnn_25 (okv_f (show kd (6 * i13 + 393) = (0, 0, false) from (kd_W (k := i13) (c := 3) (by omega) (by omega) (by decide))))
                            have hrn_30 := NRx.w en_30 hrn_25 (by rw [(show kd (6 * i13 + 393) = (0, 0, false) from (kd_W (k := i13) (c := 3) (by omega) (by omega) (by decide)))])
                            have ksn_30 := KS.w en_30 ksn_25 (by unfold tS; omega)
                            have e31 : n_30 8 = nI (i6 + k4 + 1) := by rw [en_30, pk_un (by omega)]; exact e26
                            have e32 : n_30 3 = nI k14 := by rw [en_30, pk_un (by omega)]; exact e27
                            have e33 : n_30 (6 * i13 + 392) = (-1) := by rw [en_30, pk_un (by omega)]; exact e29
                            have e34 : n_30 (6 * i13 + 393) = (-1) := by rw [en_30, pk_us]
                            refine pm_iincX (v := nI (i13 + 1)) (loc' := [some (.ref (B + 54)), some (.int za), some (.int (nI i6)), some (.int (nI (i13 + 1)))]) hG dX12_days_156 rfl (nI_1 _) (by decide) (pm_c1b rfl) rfl ?_
                            refine pm_goto (tgt := 116) hG dX12_days_159 rfl ?_
                            exact ih13 I13 A13 n_30 (i13 + 1) hnn_30 ksn_30 hrn_30 (e31.trans (congrArg nI (by omega))) (by omega) (by omega)
                  exact loop116_13 _ I10 A10 n_10 0 hnn_10 ksn_10 hrn_10 (kc10_8.trans (congrArg nI (by omega))) (by omega) (Nat.lt_succ_self _)
                · refine pm_aloadn hG dX12_days_62 rfl ?_
                  refine pm_iloadn hG dX12_days_63 rfl ?_
                  rcases KI.opt hnn_10 (show kd (14 * i10 + 119) = (2, 2001, false) from (kd_P (k := i10) (c := 9) (by omega) (by omega) (by decide))) with ek35 | ⟨k35, hk35, ek35⟩
                  · refine pm_callV (As := [.int (nI i10)]) (rest := []) hG hR dX12_days_64 (lkX12_101 _ rfl) okV_X12_lives rfl rfl (m_lives1 (d := 2) (by decide) (by omega) (by omega : 14 * i10 + 119 = 14 * i10 + 119) ek35) rfl rfl hdd (Nat.le_refl _) (Nat.le_refl _) (by decide) (pm_ki (fun v36 σ' cnt' hq => ?_))
                    obtain ⟨rfl, rfl, rfl⟩ := hq
                    refine pm_ifN_eq (tgt := 108) hG dX12_days_67 rfl (by omega) (fun q => absurd q (by omega)) (fun _ => ?_)
                    refine pm_aloadn hG dX12_days_70 rfl ?_
                    refine pm_iloadn hG dX12_days_71 rfl ?_
                    refine pm_iconst (v := nI 4) hG dX12_days_72 (by decide) ?_
                    refine pm_callV (As := [.int (nI i10), .int (nI 4)]) (rest := []) hG hR dX12_days_73 (lkX12_72 _ rfl) okV_X12_man rfl rfl (m_man (d := 2) (e := 14 * i10 + 114) (by omega) (by omega) (by omega)) rfl rfl hdd (Nat.le_refl _) (Nat.le_refl _) (by decide) (pm_ki (fun v37 σ' cnt' hq => ?_))
                    obtain ⟨rfl, rfl, rfl⟩ := hq
                    rcases KI.opt hnn_10 (show kd (14 * i10 + 114) = (2, 10, false) from (kd_P (k := i10) (c := 4) (by omega) (by omega) (by decide))) with ek38 | ⟨k38, hk38, ek38⟩
                    · refine pm_top (v := (-1)) ek38 ?_
                      refine pm_if_ge (tgt := 108) hG dX12_days_76 rfl (fun q => absurd q (by decide)) (fun _ => ?_)
                      refine pm_aloadn hG dX12_days_79 rfl ?_
                      refine pm_iloadn hG dX12_days_80 rfl ?_
                      refine pm_bipush (v := nI 6) hG dX12_days_81 (by decide) ?_
                      refine pm_callV (As := [.int (nI i10), .int (nI 6)]) (rest := []) hG hR dX12_days_83 (lkX12_72 _ rfl) okV_X12_man rfl rfl (m_man (d := 2) (e := 14 * i10 + 116) (by omega) (by omega) (by omega)) rfl rfl hdd (Nat.le_refl _) (Nat.le_refl _) (by decide) (pm_ki (fun v39 σ' cnt' hq => ?_))
                      obtain ⟨rfl, rfl, rfl⟩ := hq
                      refine pm_gen (fun x40 ex40 => ?_)
                      refine pm_aloadn hG dX12_days_86 rfl ?_
                      refine pm_getf hG dX12_days_87 (flX12_7 _ rfl) rfl rfl ?_
                      refine pm_bipush (v := nI 8) hG dX12_days_90 (by decide) ?_
                      refine pm_ialdN hG dX12_days_92 rfl (by decide) (by omega) ?_
                      refine pm_top (v := nI (i6 + k4 + 1)) kc10_8 ?_
                      refine pm_icmp_ne (tgt := 108) hG dX12_days_93 rfl (fun c41 => ?_) (fun c41 => ?_)
                      · refine pm_iincX (v := nI (i10 + 1)) (loc' := [some (.ref (B + 54)), some (.int za), some (.int (nI i6)), some (.int (nI (i10 + 1)))]) hG dX12_days_108 rfl (nI_1 _) (by decide) (pm_c1b rfl) rfl ?_
                        refine pm_goto (tgt := 52) hG dX12_days_111 rfl ?_
                        exact ih10 I10 A10 n_10 (i10 + 1) hnn_10 ksn_10 hrn_10 (kc10_8.trans (congrArg nI (by omega))) (by omega) (by omega)
                      · refine pm_aloadn hG dX12_days_96 rfl ?_
                        refine pm_iloadn hG dX12_days_97 rfl ?_
                        refine pm_iconst (v := nI 4) hG dX12_days_98 (by decide) ?_
                        refine pm_aloadn hG dX12_days_99 rfl ?_
                        refine pm_iloadn hG dX12_days_100 rfl ?_
                        refine pm_iconst (v := nI 5) hG dX12_days_101 (by decide) ?_
                        refine pm_callV (As := [.int (nI i10), .int (nI 5)]) (rest := [.int (nI 4), .int (nI i10), .ref (B + 54)]) hG hR dX12_days_102 (lkX12_72 _ rfl) okV_X12_man rfl rfl (m_man (d := 2) (e := 14 * i10 + 115) (by omega) (by omega) (by omega)) rfl rfl hdd (Nat.le_refl _) (Nat.le_refl _) (Nat.le_of_ble_eq_true rfl) (pm_ki (fun v42 σ' cnt' hq => ?_))
                        obtain ⟨rfl, rfl, rfl⟩ := hq
                        obtain ⟨k43, hk43, ek43⟩ := KI.nat hnn_10 (show kd (14 * i10 + 115) = (1, 10, false) from (kd_P (k := i10) (c := 5) (by omega) (by omega) (by decide)))
                        refine pm_top (v := nI k43) ek43 ?_
                        refine pm_callV (As := [.int (nI i10), .int (nI 4), .int (nI k43)]) (rest := []) hG hR dX12_days_105 (lkX12_97 _ rfl) okV_X12_sets rfl rfl (m_sets (d := 2) (e := 14 * i10 + 114) (by omega) (by omega) (by omega)) rfl rfl hdd (Nat.le_refl _) (Nat.le_refl _) (by decide) (pm_kv (fun σ' cnt' hq => ?_))
                        obtain ⟨rfl, rfl⟩ := hq
                        obtain ⟨n_44, en_44⟩ : ∃ f : Nat → Int32, f = upd n_10 (14 * i10 + 114) (nI k43) := ⟨_, rfl⟩
                        rw [← en_44]
                        have hnn_44 := KI.w en_44 hnn_10 (okv_o (show kd (14 * i10 + 114) = (2, 10, false) from (kd_P (k := i10) (c := 4) (by omega) (by omega) (by decide))) (by omega))
                        have hrn_44 := NRx.w en_44 hrn_10 (by rw [(show kd (14 * i10 + 114) = (2, 10, false) from (kd_P (k := i10) (c := 4) (by omega) (by omega) (by decide)))])
                        have ksn_44 := KS.w en_44 ksn_10 (by unfold tS; omega)
                        have e45 : n_44 8 = nI (i6 + k4 + 1) := by rw [en_44, pk_un (by omega)]; exact kc10_8
                        have e46 : n_44 2 = nI k11 := by rw [en_44, pk_un (by omega)]; exact ek11
                        have e47 : n_44 (14 * i10 + 119) = (-1) := by rw [en_44, pk_un (by omega)]; exact ek35
                        have e48 : n_44 (14 * i10 + 116) = x40 := by rw [en_44, pk_un (by omega)]; exact ex40
                        have e49 : n_44 (14 * i10 + 115) = nI k43 := by rw [en_44, pk_un (by omega)]; exact ek43
                        have e50 : n_44 (14 * i10 + 114) = nI k43 := by rw [en_44, pk_us]
                        refine pm_iincX (v := nI (i10 + 1)) (loc' := [some (.ref (B + 54)), some (.int za), some (.int (nI i6)), some (.int (nI (i10 + 1)))]) hG dX12_days_108 rfl (nI_1 _) (by decide) (pm_c1b rfl) rfl ?_
                        refine pm_goto (tgt := 52) hG dX12_days_111 rfl ?_
                        exact ih10 I10 A10 n_44 (i10 + 1) hnn_44 ksn_44 hrn_44 (e45.trans (congrArg nI (by omega))) (by omega) (by omega)
                    · refine pm_top (v := nI k38) ek38 ?_
                      refine pm_ifN_ge (tgt := 108) hG dX12_days_76 rfl (by omega) ?_
                      refine pm_iincX (v := nI (i10 + 1)) (loc' := [some (.ref (B + 54)), some (.int za), some (.int (nI i6)), some (.int (nI (i10 + 1)))]) hG dX12_days_108 rfl (nI_1 _) (by decide) (pm_c1b rfl) rfl ?_
                      refine pm_goto (tgt := 52) hG dX12_days_111 rfl ?_
                      exact ih10 I10 A10 n_10 (i10 + 1) hnn_10 ksn_10 hrn_10 (kc10_8.trans (congrArg nI (by omega))) (by omega) (by omega)
                  · refine pm_callV (As := [.int (nI i10)]) (rest := []) hG hR dX12_days_64 (lkX12_101 _ rfl) okV_X12_lives rfl rfl (m_lives0 (d := 2) (by decide) (by omega) (by omega : 14 * i10 + 119 = 14 * i10 + 119) ek35 (by omega)) rfl rfl hdd (Nat.le_refl _) (Nat.le_refl _) (by decide) (pm_ki (fun v51 σ' cnt' hq => ?_))
                    obtain ⟨rfl, rfl, rfl⟩ := hq
                    refine pm_ifN_eq (tgt := 108) hG dX12_days_67 rfl (by omega) (fun _ => ?_) (fun q => absurd q (by omega))
                    refine pm_iincX (v := nI (i10 + 1)) (loc' := [some (.ref (B + 54)), some (.int za), some (.int (nI i6)), some (.int (nI (i10 + 1)))]) hG dX12_days_108 rfl (nI_1 _) (by decide) (pm_c1b rfl) rfl ?_
                    refine pm_goto (tgt := 52) hG dX12_days_111 rfl ?_
                    exact ih10 I10 A10 n_10 (i10 + 1) hnn_10 ksn_10 hrn_10 (kc10_8.trans (congrArg nI (by omega))) (by omega) (by omega)
            exact loop52_10 _ I6 A6 n_8 0 hnn_8 ksn_8 hrn_8 (e9.trans (congrArg nI (by omega))) (by omega) (Nat.lt_succ_self _)
      exact loop34_6 _ I A n 0 hn KS.rf hr (ek4.trans (congrArg nI (by omega))) (by omega) (Nat.lt_succ_self _)
    · refine pm_aloadn hG dX12_days_26 rfl ?_
      refine pm_iconst (v := nI 1) hG dX12_days_27 (by decide) ?_
      refine pm_callV (As := [.int (nI 1)]) (rest := []) hG hR dX12_days_28 (lkX12_80 _ rfl) okV_X12_finds rfl rfl (m_finds (d := 2) (by decide) hn hz (by omega)) rfl rfl hdd (Nat.le_refl _) (Nat.le_refl _) (by decide) (pm_ki (fun v52 σ' cnt' hq => ?_))
      obtain ⟨⟨I53, A53, rfl⟩, rfl, fv52⟩ := hq
      exact pm_iret hG hF dX12_days_31 rfl (Nat.le_refl _) (Nat.le_refl _) ⟨_, rfl, ⟨_, _, _, rfl, hn, hr, KS.rf⟩, rfl⟩
  · refine pm_ifN_eq (tgt := 26) hG dX12_days_8 rfl (by omega) (fun _ => ?_) (fun q => absurd q (by omega))
    refine pm_aloadn hG dX12_days_26 rfl ?_
    refine pm_iconst (v := nI 1) hG dX12_days_27 (by decide) ?_
    refine pm_callV (As := [.int (nI 1)]) (rest := []) hG hR dX12_days_28 (lkX12_80 _ rfl) okV_X12_finds rfl rfl (m_finds (d := 2) (by decide) hn hz (by omega)) rfl rfl hdd (Nat.le_refl _) (Nat.le_refl _) (by decide) (pm_ki (fun v54 σ' cnt' hq => ?_))
    obtain ⟨⟨I55, A55, rfl⟩, rfl, fv54⟩ := hq
    exact pm_iret hG hF dX12_days_31 rfl (Nat.le_refl _) (Nat.le_refl _) ⟨_, rfl, ⟨_, _, _, rfl, hn, hr, KS.rf⟩, rfl⟩

set_option maxRecDepth 100000 in
set_option maxHeartbeats 4000000 in
theorem m_debt {d B cnt p0 t0 : Nat} {σ : pm_S} {I : Nat → Int32} {A : Nat → Nat → Int32} {n k z : Nat → Int32} {ac wt pl im : Int32} {za zb zc : Int32} (hdd : 2 ≤ d) (hn : KI n) (hr : NR n) (hz : SZ z)  : pm_met mX12_debt d 0 0 B [.ref (B + 54), .int za, .int zb, .int zc] cnt (pm_mid σ (md_L B I A n k z ac wt pl (nI p0) (nI t0) im)) (pm_Qi (fun v σ' cnt' => (∃ (I' : Nat → Int32) (A' : Nat → Nat → Int32) (n' : Nat → Int32), σ' = pm_mid σ (md_L B I' A' n' k z ac wt pl (nI p0) (nI t0) im) ∧ KI n' ∧ NR n' ∧ KS n' n) ∧ cnt = cnt')) := by
  refine pm_enter 1 (by decide) (Nat.le_of_ble_eq_true rfl) rfl (fun G hG hR hF => ?_)
  refine pm_iloadn hG dX12_debt_0 rfl ?_
  refine pm_iconst (v := nI 0) hG dX12_debt_1 (by decide) ?_
  refine pm_ldc hG dX12_debt_2 (ctX12_242 _ rfl) ?_
  refine pm_top (v := nI 99999) (by decide) ?_
  refine pm_callS (As := [.int za, .int (nI 0), .int (nI 99999)]) (rest := []) hG hR dX12_debt_4 (lkX12_68 _ rfl) okS_X12_in (m_in (d := 1)) rfl rfl hdd (Nat.le_refl _) (Nat.le_refl _) (by decide) (pm_ki (fun v1 σ' cnt' hq => ?_))
  obtain ⟨hq, rfl, rfl⟩ := hq
  rcases hq with ⟨rfl, ac2, bc2⟩ | ⟨rfl, c2⟩
  · obtain ⟨k3, hk3, ek3⟩ := in_nat (by omega) (by omega) ac2 bc2
    refine pm_ifN_eq (tgt := 51) hG dX12_debt_7 rfl (by omega) (fun q => absurd q (by omega)) (fun _ => ?_)
    refine pm_iloadn hG dX12_debt_10 rfl ?_
    refine pm_if_lt (tgt := 51) hG dX12_debt_11 rfl (fun c4 => ?_) (fun c4 => ?_)
    · refine pm_aloadn hG dX12_debt_51 rfl ?_
      refine pm_iconst (v := nI 1) hG dX12_debt_52 (by decide) ?_
      refine pm_callV (As := [.int (nI 1)]) (rest := []) hG hR dX12_debt_53 (lkX12_80 _ rfl) okV_X12_finds rfl rfl (m_finds (d := 1) (by decide) hn hz (by omega)) rfl rfl hdd (Nat.le_refl _) (Nat.le_refl _) (by decide) (pm_ki (fun v5 σ' cnt' hq => ?_))
      obtain ⟨⟨I6, A6, rfl⟩, rfl, fv5⟩ := hq
      exact pm_iret hG hF dX12_debt_56 rfl (Nat.le_refl _) (Nat.le_refl _) ⟨_, rfl, ⟨_, _, _, rfl, hn, hr, KS.rf⟩, rfl⟩
    · obtain ⟨k7, hk7, ek7⟩ := nI_of c4
      refine pm_iloadn hG dX12_debt_14 rfl ?_
      refine pm_top (v := nI k7) ek7 ?_
      refine pm_sipush (v := nI 10000) hG dX12_debt_15 (by decide) ?_
      refine pm_idivN hG dX12_debt_18 (by omega) (by decide) (by decide) ?_
      refine pm_iconst (v := nI 0) hG dX12_debt_19 (by decide) ?_
      refine pm_bipush (v := nI 99) hG dX12_debt_20 (by decide) ?_
      refine pm_callS (As := [.int (nI ((k7 / 10000))), .int (nI 0), .int (nI 99)]) (rest := []) hG hR dX12_debt_22 (lkX12_68 _ rfl) okS_X12_in (m_in (d := 1)) rfl rfl hdd (Nat.le_refl _) (Nat.le_refl _) (by decide) (pm_ki (fun v8 σ' cnt' hq => ?_))
      obtain ⟨hq, rfl, rfl⟩ := hq
      rcases hq with ⟨rfl, ac9, bc9⟩ | ⟨rfl, c9⟩
      · have ic9 := (nI_leI (by omega) (by omega)).mp (Int32.not_lt.mp ac9)
        have jc9 := (nI_leI (by omega) (by omega)).mp (Int32.not_lt.mp bc9)
        refine pm_ifN_eq (tgt := 51) hG dX12_debt_25 rfl (by omega) (fun q => absurd q (by omega)) (fun _ => ?_)
        refine pm_iloadn hG dX12_debt_28 rfl ?_
        refine pm_top (v := nI k7) ek7 ?_
        refine pm_sipush (v := nI 10000) hG dX12_debt_29 (by decide) ?_
        refine pm_iremM hG dX12_debt_32 (by omega) (by decide) (by decide) ?_
        refine pm_iconst (v := nI 1) hG dX12_debt_33 (by decide) ?_
        refine pm_sipush (v := nI 9999) hG dX12_debt_34 (by decide) ?_
        refine pm_callS (As := [.int (nI ((k7 % 10000))), .int (nI 1), .int (nI 9999)]) (rest := []) hG hR dX12_debt_37 (lkX12_68 _ rfl) okS_X12_in (m_in (d := 1)) rfl rfl hdd (Nat.le_refl _) (Nat.le_refl _) (by decide) (pm_ki (fun v10 σ' cnt' hq => ?_))
        obtain ⟨hq, rfl, rfl⟩ := hq
        rcases hq with ⟨rfl, ac11, bc11⟩ | ⟨rfl, c11⟩
        · have ic11 := (nI_leI (by omega) (by omega)).mp (Int32.not_lt.mp ac11)
          have jc11 := (nI_leI (by omega) (by omega)).mp (Int32.not_lt.mp bc11)
          refine pm_ifN_eq (tgt := 51) hG dX12_debt_40 rfl (by omega) (fun q => absurd q (by omega)) (fun _ => ?_)
          refine pm_aloadn hG dX12_debt_43 rfl ?_
          refine pm_iloadn hG dX12_debt_44 rfl ?_
          obtain ⟨k12, hk12, ek12⟩ := KI.nat hn (show kd 0 = (1, 11, true) by decide)
          refine pm_callV (As := [.int zc]) (rest := []) hG hR dX12_debt_45 (lkX12_84 _ rfl) okV_X12_isTown rfl rfl (m_isTown (d := 1) (by decide) ek12 (by omega)) rfl rfl hdd (Nat.le_refl _) (Nat.le_refl _) (by decide) (pm_ki (fun v13 σ' cnt' hq => ?_))
          obtain ⟨hq, rfl, rfl⟩ := hq
          rcases hq with ⟨rfl, k15, hk15, ek15⟩ | rfl
          · refine pm_ifN_ne (tgt := 57) hG dX12_debt_48 rfl (by omega) (fun _ => ?_) (fun q => absurd q (by omega))
            refine pm_aloadn hG dX12_debt_57 rfl ?_
            refine pm_getf hG dX12_debt_58 (flX12_7 _ rfl) rfl rfl ?_
            refine pm_bipush (v := nI 6) hG dX12_debt_61 (by decide) ?_
            refine pm_ialdN hG dX12_debt_63 rfl (by decide) (by omega) ?_
            obtain ⟨k16, hk16, ek16⟩ := KI.nat hn (show kd 6 = (1, 7, false) by decide)
            refine pm_top (v := nI k16) ek16 ?_
            refine pm_istoreXi (loc' := [some (.ref (B + 54)), some (.int za), some (.int zb), some (.int zc), some (.int (nI k16))]) hG dX12_debt_64 (by decide) (pm_c1b rfl) rfl ?_
            refine pm_iloadi hG dX12_debt_66 rfl ?_
            refine pm_bipush (v := nI 6) hG dX12_debt_68 (by decide) ?_
            refine pm_icmpN_ne (tgt := 79) hG dX12_debt_70 rfl (by omega) (by omega) (fun c17 => ?_) (fun c17 => ?_)
            · refine pm_aloadn hG dX12_debt_79 rfl ?_
              refine pm_getf hG dX12_debt_80 (flX12_7 _ rfl) rfl rfl ?_
              refine pm_bipush (v := nI 6) hG dX12_debt_83 (by decide) ?_
              refine pm_dup2 hG dX12_debt_85 rfl rfl ?_
              refine pm_ialdN hG dX12_debt_86 rfl (by decide) (by omega) ?_
              refine pm_top (v := nI k16) ek16 ?_
              refine pm_iconst (v := nI 1) hG dX12_debt_87 (by decide) ?_
              refine pm_iaddN (c := k16 + 1) hG dX12_debt_88 (by omega) ?_
              refine pm_iastN hG dX12_debt_89 rfl (by decide) (by omega) ?_
              refine mdn_now (fun n_18 en_18 => ?_)
              have hnn_18 := KI.w en_18 hn (okv_n (show kd 6 = (1, 7, false) by decide) (by omega))
              have hrn_18 := NRx.w en_18 hr (by rw [(show kd 6 = (1, 7, false) by decide)])
              have ksn_18 := KS.w en_18 KS.rf (by unfold tS; omega)
              have e19 : n_18 0 = nI k12 := by rw [en_18, pk_un (by omega)]; exact ek12
              have e20 : n_18 6 = nI (k16 + 1) := by rw [en_18, pk_us]
              refine pm_aloadn hG dX12_debt_90 rfl ?_
              refine pm_getf hG dX12_debt_91 (flX12_7 _ rfl) rfl rfl ?_
              refine pm_sipush (v := nI 1770) hG dX12_debt_94 (by decide) ?_
              refine pm_bipush (v := nI 6) hG dX12_debt_97 (by decide) ?_
              refine pm_iloadi hG dX12_debt_99 rfl ?_
              refine pm_imulN (c := 6 * k16) hG dX12_debt_101 (by omega) ?_
              refine pm_iaddN (c := 6 * k16 + 1770) hG dX12_debt_102 (by omega) ?_
              refine pm_iloadn hG dX12_debt_103 rfl ?_
              refine pm_top (v := nI k3) ek3 ?_
              refine pm_iastN hG dX12_debt_104 rfl (by decide) (by omega) ?_
              refine mdn_now (fun n_21 en_21 => ?_)
              have hnn_21 := KI.w en_21 hnn_18 (okv_f (show kd (6 * k16 + 1770) = (0, 0, false) from (kd_D (k := k16) (c := 0) (by omega) (by omega) (by decide))))
              have hrn_21 := NRx.w en_21 hrn_18 (by rw [(show kd (6 * k16 + 1770) = (0, 0, false) from (kd_D (k := k16) (c := 0) (by omega) (by omega) (by decide)))])
              have ksn_21 := KS.w en_21 ksn_18 (by unfold tS; omega)
              have e22 : n_21 0 = nI k12 := by rw [en_21, pk_un (by omega)]; exact e19
              have e23 : n_21 6 = nI (k16 + 1) := by rw [en_21, pk_un (by omega)]; exact e20
              have e24 : n_21 (6 * k16 + 1770) = nI k3 := by rw [en_21, pk_us]
              refine pm_aloadn hG dX12_debt_105 rfl ?_
              refine pm_getf hG dX12_debt_106 (flX12_7 _ rfl) rfl rfl ?_
              refine pm_sipush (v := nI 1770) hG dX12_debt_109 (by decide) ?_
              refine pm_bipush (v := nI 6) hG dX12_debt_112 (by decide) ?_
              refine pm_iloadi hG dX12_debt_114 rfl ?_
              refine pm_imulN (c := 6 * k16) hG dX12_debt_116 (by omega) ?_
              refine pm_iaddN (c := 6 * k16 + 1770) hG dX12_debt_117 (by omega) ?_
              refine pm_iconst (v := nI 1) hG dX12_debt_118 (by decide) ?_
              refine pm_iaddN (c := 6 * k16 + 1771) hG dX12_debt_119 (by omega) ?_
              refine pm_iloadn hG dX12_debt_120 rfl ?_
              refine pm_top (v := nI k7) ek7 ?_
              refine pm_sipush (v := nI 10000) hG dX12_debt_121 (by decide) ?_
              refine pm_idivN hG dX12_debt_124 (by omega) (by decide) (by decide) ?_
              refine pm_iastN hG dX12_debt_125 rfl (by decide) (by omega) ?_
              refine mdn_now (fun n_25 en_25 => ?_)
              have hnn_25 := KI.w en_25 hnn_21 (okv_f (show kd (6 * k16 + 1771) = (0, 0, false) from (kd_D (k := k16) (c := 1) (by omega) (by omega) (by decide))))
              have hrn_25 := NRx.w en_25 hrn_21 (by rw [(show kd (6 * k16 + 1771) = (0, 0, false) from (kd_D (k := k16) (c := 1) (by omega) (by omega) (by decide)))])
              have ksn_25 := KS.w en_25 ksn_21 (by unfold tS; omega)
              have e26 : n_25 0 = nI k12 := by rw [en_25, pk_un (by omega)]; exact e22
              have e27 : n_25 6 = nI (k16 + 1) := by rw [en_25, pk_un (by omega)]; exact e23
              have e28 : n_25 (6 * k16 + 1770) = nI k3 := by rw [en_25, pk_un (by omega)]; exact e24
              have e29 : n_25 (6 * k16 + 1771) = nI ((k7 / 10000)) := by rw [en_25, pk_us]
              refine pm_aloadn hG dX12_debt_126 rfl ?_
              refine pm_getf hG dX12_debt_127 (flX12_7 _ rfl) rfl rfl ?_
              refine pm_sipush (v := nI 1770) hG dX12_debt_130 (by decide) ?_
              refine pm_bipush (v := nI 6) hG dX12_debt_133 (by decide) ?_
              refine pm_iloadi hG dX12_debt_135 rfl ?_
              refine pm_imulN (c := 6 * k16) hG dX12_debt_137 (by omega) ?_
              refine pm_iaddN (c := 6 * k16 + 1770) hG dX12_debt_138 (by omega) ?_
              refine pm_iconst (v := nI 2) hG dX12_debt_139 (by decide) ?_
              refine pm_iaddN (c := 6 * k16 + 1772) hG dX12_debt_140 (by omega) ?_
              refine pm_iloadn hG dX12_debt_141 rfl ?_
              refine pm_top (v := nI k7) ek7 ?_
              refine pm_sipush (v := nI 10000) hG dX12_debt_142 (by decide) ?_
              refine pm_iremM hG dX12_debt_145 (by omega) (by decide) (by decide) ?_
              refine pm_iastN hG dX12_debt_146 rfl (by decide) (by omega) ?_
              refine mdn_now (fun n_30 en_30 => ?_)
              have hnn_30 := KI.w en_30 hnn_25 (okv_f (show kd (6 * k16 + 1772) = (0, 0, false) from (kd_D (k := k16) (c := 2) (by omega) (by omega) (by decide))))
              have hrn_30 := NRx.w en_30 hrn_25 (by rw [(show kd (6 * k16 + 1772) = (0, 0, false) from (kd_D (k := k16) (c := 2) (by omega) (by omega) (by decide)))])
              have ksn_30 := KS.w en_30 ksn_25 (by unfold tS; omega)
              have e31 : n_30 0 = nI k12 := by rw [en_30, pk_un (by omega)]; exact e26
              have e32 : n_30 6 = nI (k16 + 1) := by rw [en_30, pk_un (by omega)]; exact e27
              have e33 : n_30 (6 * k16 + 1770) = nI k3 := by rw [en_30, pk_un (by omega)]; exact e28
              have e34 : n_30 (6 * k16 + 1771) = nI ((k7 / 10000)) := by rw [en_30, pk_un (by omega)]; exact e29
              have e35 : n_30 (6 * k16 + 1772) = nI ((k7 % 10000)) := by rw [en_30, pk_us]
              refine pm_aloadn hG dX12_debt_147 rfl ?_
              refine pm_getf hG dX12_debt_148 (flX12_7 _ rfl) rfl rfl ?_
              refine pm_sipush (v := nI 1770) hG dX12_debt_151 (by decide) ?_
              refine pm_bipush (v := nI 6) hG dX12_debt_154 (by decide) ?_
              refine pm_iloadi hG dX12_debt_156 rfl ?_
              refine pm_imulN (c := 6 * k16) hG dX12_debt_158 (by omega) ?_
              refine pm_iaddN (c := 6 * k16 + 1770) hG dX12_debt_159 (by omega) ?_
              refine pm_iconst (v := nI 3) hG dX12_debt_160 (by decide) ?_
              refine pm_iaddN (c := 6 * k16 + 1773) hG dX12_debt_161 (by omega) ?_
              refine pm_iconst (v := nI 0) hG dX12_debt_162 (by decide) ?_
              refine pm_iastN hG dX12_debt_163 rfl (by decide) (by omega) ?_
              refine mdn_now (fun n_36 en_36 => ?_)
              have hnn_36 := KI.w en_36 hnn_30 (okv_f (show kd (6 * k16 + 1773) = (0, 0, false) from (kd_D (k := k16) (c := 3) (by omega) (by omega) (by decide))))
              have hrn_36 := NRx.w en_36 hrn_30 (by rw [(show kd (6 * k16 + 1773) = (0, 0, false) from (kd_D (k := k16) (c := 3) (by omega) (by omega) (by decide)))])
              have ksn_36 := KS.w en_36 ksn_30 (by unfold tS; omega)
              have e37 : n_36 0 = nI k12 := by rw [en_36, pk_un (by omega)]; exact e31
              have e38 : n_36 6 = nI (k16 + 1) := by rw [en_36, pk_un (by omega)]; exact e32
              have e39 : n_36 (6 * k16 + 1770) = nI k3 := by rw [en_36, pk_un (by omega)]; exact e33
              have e40 : n_36 (6 * k16 + 1771) = nI ((k7 / 10000)) := by rw [en_36, pk_un (by omega)]; exact e34
              have e41 : n_36 (6 * k16 + 1772) = nI ((k7 % 10000)) := by rw [en_36, pk_un (by omega)]; exact e35
              have e42 : n_36 (6 * k16 + 1773) = nI 0 := by rw [en_36, pk_us]
              refine pm_aloadn hG dX12_debt_164 rfl ?_
              refine pm_getf hG dX12_debt_165 (flX12_7 _ rfl) rfl rfl ?_
              refine pm_sipush (v := nI 1770) hG dX12_debt_168 (by decide) ?_
              refine pm_bipush (v := nI 6) hG dX12_debt_171 (by decide) ?_
              refine pm_iloadi hG dX12_debt_173 rfl ?_
              refine pm_imulN (c := 6 * k16) hG dX12_debt_175 (by omega) ?_
              refine pm_iaddN (c := 6 * k16 + 1770) hG dX12_debt_176 (by omega) ?_
              refine pm_iconst (v := nI 4) hG dX12_debt_177 (by decide) ?_
              refine pm_iaddN (c := 6 * k16 + 1774) hG dX12_debt_178 (by omega) ?_
              refine pm_iloadn hG dX12_debt_179 rfl ?_
              refine pm_top (v := nI k15) ek15 ?_
              refine pm_iastN hG dX12_debt_180 rfl (by decide) (by omega) ?_
              refine mdn_now (fun n_43 en_43 => ?_)
              have hnn_43 := KI.w en_43 hnn_36 (okv_n (show kd (6 * k16 + 1774) = (1, 10, false) from (kd_D (k := k16) (c := 4) (by omega) (by omega) (by decide))) (by omega))
              have hrn_43 := NRx.w en_43 hrn_36 (by rw [(show kd (6 * k16 + 1774) = (1, 10, false) from (kd_D (k := k16) (c := 4) (by omega) (by omega) (by decide)))])
              have ksn_43 := KS.w en_43 ksn_36 (by unfold tS; omega)
              have e44 : n_43 0 = nI k12 := by rw [en_43, pk_un (by omega)]; exact e37
              have e45 : n_43 6 = nI (k16 + 1) := by rw [en_43, pk_un (by omega)]; exact e38
              have e46 : n_43 (6 * k16 + 1770) = nI k3 := by rw [en_43, pk_un (by omega)]; exact e39
              have e47 : n_43 (6 * k16 + 1771) = nI ((k7 / 10000)) := by rw [en_43, pk_un (by omega)]; exact e40
              have e48 : n_43 (6 * k16 + 1772) = nI ((k7 % 10000)) := by rw [en_43, pk_un (by omega)]; exact e41
              have e49 : n_43 (6 * k16 + 1773) = nI 0 := by rw [en_43, pk_un (by omega)]; exact e42
              have e50 : n_43 (6 * k16 + 1774) = nI k15 := by rw [en_43, pk_us]
              refine pm_aloadn hG dX12_debt_181 rfl ?_
              refine pm_getf hG dX12_debt_182 (flX12_7 _ rfl) rfl rfl ?_
              refine pm_bipush (v := nI 9) hG dX12_debt_185 (by decide) ?_
              refine pm_dup2 hG dX12_debt_187 rfl rfl ?_
              refine pm_ialdN hG dX12_debt_188 rfl (by decide) (by omega) ?_
              refine pm_gen (fun x51 ex51 => ?_)
              refine pm_iloadn hG dX12_debt_189 rfl ?_
              refine pm_top (v := nI k3) ek3 ?_
              refine pm_iadd hG dX12_debt_190 ?_
              refine pm_iastN hG dX12_debt_191 rfl (by decide) (by omega) ?_
              refine mdn_now (fun n_52 en_52 => ?_)
              have hnn_52 := KI.w en_52 hnn_43 (okv_f (show kd 9 = (0, 0, false) by decide))
              have hrn_52 := NRx.w en_52 hrn_43 (by rw [(show kd 9 = (0, 0, false) by decide)])
              have ksn_52 := KS.w en_52 ksn_43 (by unfold tS; omega)
              have e53 : n_52 0 = nI k12 := by rw [en_52, pk_un (by omega)]; exact e44
              have e54 : n_52 6 = nI (k16 + 1) := by rw [en_52, pk_un (by omega)]; exact e45
              have e55 : n_52 (6 * k16 + 1770) = nI k3 := by rw [en_52, pk_un (by omega)]; exact e46
              have e56 : n_52 (6 * k16 + 1771) = nI ((k7 / 10000)) := by rw [en_52, pk_un (by omega)]; exact e47
              have e57 : n_52 (6 * k16 + 1772) = nI ((k7 % 10000)) := by rw [en_52, pk_un (by omega)]; exact e48
              have e58 : n_52 (6 * k16 + 1773) = nI 0 := by rw [en_52, pk_un (by omega)]; exact e49
              have e59 : n_52 (6 * k16 + 1774) = nI k15 := by rw [en_52, pk_un (by omega)]; exact e50
              have e60 : n_52 9 = x51 + (nI k3) := by rw [en_52, pk_us]
              refine pm_iloadi hG dX12_debt_192 rfl ?_
              exact pm_iret hG hF dX12_debt_194 rfl (Nat.le_refl _) (Nat.le_refl _) ⟨_, rfl, ⟨_, _, _, rfl, hnn_52, hrn_52, ksn_52⟩, rfl⟩
            · refine pm_aloadn hG dX12_debt_73 rfl ?_
              refine pm_iconst (v := nI 4) hG dX12_debt_74 (by decide) ?_
              refine pm_callV (As := [.int (nI 4)]) (rest := []) hG hR dX12_debt_75 (lkX12_80 _ rfl) okV_X12_finds rfl rfl (m_finds (d := 1) (by decide) hn hz (by omega)) rfl rfl hdd (Nat.le_refl _) (Nat.le_refl _) (by decide) (pm_ki (fun v61 σ' cnt' hq => ?_))
              obtain ⟨⟨I62, A62, rfl⟩, rfl, fv61⟩ := hq
              exact pm_iret hG hF dX12_debt_78 rfl (Nat.le_refl _) (Nat.le_refl _) ⟨_, rfl, ⟨_, _, _, rfl, hn, hr, KS.rf⟩, rfl⟩
          · refine pm_ifN_ne (tgt := 57) hG dX12_debt_48 rfl (by omega) (fun q => absurd q (by omega)) (fun _ => ?_)
            refine pm_aloadn hG dX12_debt_51 rfl ?_
            refine pm_iconst (v := nI 1) hG dX12_debt_52 (by decide) ?_
            refine pm_callV (As := [.int (nI 1)]) (rest := []) hG hR dX12_debt_53 (lkX12_80 _ rfl) okV_X12_finds rfl rfl (m_finds (d := 1) (by decide) hn hz (by omega)) rfl rfl hdd (Nat.le_refl _) (Nat.le_refl _) (by decide) (pm_ki (fun v63 σ' cnt' hq => ?_))
            obtain ⟨⟨I64, A64, rfl⟩, rfl, fv63⟩ := hq
            exact pm_iret hG hF dX12_debt_56 rfl (Nat.le_refl _) (Nat.le_refl _) ⟨_, rfl, ⟨_, _, _, rfl, hn, hr, KS.rf⟩, rfl⟩
        · refine pm_ifN_eq (tgt := 51) hG dX12_debt_40 rfl (by omega) (fun _ => ?_) (fun q => absurd q (by omega))
          refine pm_aloadn hG dX12_debt_51 rfl ?_
          refine pm_iconst (v := nI 1) hG dX12_debt_52 (by decide) ?_
          refine pm_callV (As := [.int (nI 1)]) (rest := []) hG hR dX12_debt_53 (lkX12_80 _ rfl) okV_X12_finds rfl rfl (m_finds (d := 1) (by decide) hn hz (by omega)) rfl rfl hdd (Nat.le_refl _) (Nat.le_refl _) (by decide) (pm_ki (fun v65 σ' cnt' hq => ?_))
          obtain ⟨⟨I66, A66, rfl⟩, rfl, fv65⟩ := hq
          exact pm_iret hG hF dX12_debt_56 rfl (Nat.le_refl _) (Nat.le_refl _) ⟨_, rfl, ⟨_, _, _, rfl, hn, hr, KS.rf⟩, rfl⟩
      · refine pm_ifN_eq (tgt := 51) hG dX12_debt_25 rfl (by omega) (fun _ => ?_) (fun q => absurd q (by omega))
        refine pm_aloadn hG dX12_debt_51 rfl ?_
        refine pm_iconst (v := nI 1) hG dX12_debt_52 (by decide) ?_
        refine pm_callV (As := [.int (nI 1)]) (rest := []) hG hR dX12_debt_53 (lkX12_80 _ rfl) okV_X12_finds rfl rfl (m_finds (d := 1) (by decide) hn hz (by omega)) rfl rfl hdd (Nat.le_refl _) (Nat.le_refl _) (by decide) (pm_ki (fun v67 σ' cnt' hq => ?_))
        obtain ⟨⟨I68, A68, rfl⟩, rfl, fv67⟩ := hq
        exact pm_iret hG hF dX12_debt_56 rfl (Nat.le_refl _) (Nat.le_refl _) ⟨_, rfl, ⟨_, _, _, rfl, hn, hr, KS.rf⟩, rfl⟩
  · refine pm_ifN_eq (tgt := 51) hG dX12_debt_7 rfl (by omega) (fun _ => ?_) (fun q => absurd q (by omega))
    refine pm_aloadn hG dX12_debt_51 rfl ?_
    refine pm_iconst (v := nI 1) hG dX12_debt_52 (by decide) ?_
    refine pm_callV (As := [.int (nI 1)]) (rest := []) hG hR dX12_debt_53 (lkX12_80 _ rfl) okV_X12_finds rfl rfl (m_finds (d := 1) (by decide) hn hz (by omega)) rfl rfl hdd (Nat.le_refl _) (Nat.le_refl _) (by decide) (pm_ki (fun v69 σ' cnt' hq => ?_))
    obtain ⟨⟨I70, A70, rfl⟩, rfl, fv69⟩ := hq
    exact pm_iret hG hF dX12_debt_56 rfl (Nat.le_refl _) (Nat.le_refl _) ⟨_, rfl, ⟨_, _, _, rfl, hn, hr, KS.rf⟩, rfl⟩

set_option maxRecDepth 100000 in
set_option maxHeartbeats 4000000 in
theorem m_leaves {d B cnt p0 t0 : Nat} {σ : pm_S} {I : Nat → Int32} {A : Nat → Nat → Int32} {n k z : Nat → Int32} {ac wt pl im : Int32} {ba : Nat} (hdd : 1 ≤ d) (hn : KI n) (hr : NR n) (hz : SZ z) (hba : ba < 20) : pm_met mX12_leaves d 0 0 B [.ref (B + 54), .int (nI ba)] cnt (pm_mid σ (md_L B I A n k z ac wt pl (nI p0) (nI t0) im)) (pm_Qv (fun σ' cnt' => (∃ (n' : Nat → Int32), σ' = pm_mid σ (md_L B I A n' k z ac wt pl (nI p0) (nI t0) im) ∧ KI n' ∧ NR n' ∧ KS n' n) ∧ cnt = cnt')) := by
  refine pm_enter 1 (by decide) (Nat.le_of_ble_eq_true rfl) rfl (fun G hG hR hF => ?_)
  refine pm_aloadn hG dX12_leaves_0 rfl ?_
  refine pm_iloadn hG dX12_leaves_1 rfl ?_
  refine pm_bipush (v := nI 11) hG dX12_leaves_2 (by decide) ?_
  refine pm_iconst (v := nI 0) hG dX12_leaves_4 (by decide) ?_
  refine pm_callV (As := [.int (nI ba), .int (nI 11), .int (nI 0)]) (rest := []) hG hR dX12_leaves_5 (lkX12_97 _ rfl) okV_X12_sets rfl rfl (m_sets (d := 0) (e := 14 * ba + 121) (by omega) (by omega) (by omega)) rfl rfl hdd (Nat.le_refl _) (Nat.le_refl _) (by decide) (pm_kv (fun σ' cnt' hq => ?_))
  obtain ⟨rfl, rfl⟩ := hq
  obtain ⟨n_1, en_1⟩ : ∃ f : Nat → Int32, f = upd n (14 * ba + 121) (nI 0) := ⟨_, rfl⟩
  rw [← en_1]
  have hnn_1 := KI.w en_1 hn (okv_n (show kd (14 * ba + 121) = (1, 2, true) from (kd_P (k := ba) (c := 11) (by omega) (by omega) (by decide))) (by omega))
  have hrn_1 := NRx.unseat (p := ba) en_1 hr (by omega)
  have ksn_1 := KS.w en_1 KS.rf (by unfold tS; omega)
  have e2 : n_1 (14 * ba + 121) = nI 0 := by rw [en_1, pk_us]
  refine pm_iconst (v := nI 0) hG dX12_leaves_8 (by decide) ?_
  refine pm_istoreXn (loc' := [some (.ref (B + 54)), some (.int (nI ba)), some (.int (nI 0))]) hG dX12_leaves_9 (by decide) (pm_c1b rfl) rfl ?_
  have loop10_3 : ∀ (m3 : Nat) (n_3 : Nat → Int32) (i3 : Nat), KI n_3 → KS n_3 n → NRx 40 n_3 → i3 ≤ 30 → 30 - i3 < m3 → pm_wp mX12_leaves G B 10 [some (.ref (B + 54)), some (.int (nI ba)), some (.int (nI i3))] [] 0 0 cnt (pm_mid σ (md_L B I A n_3 k z ac wt pl (nI p0) (nI t0) im)) := by
    intro m3
    induction m3 with
    | zero => intro n_3 i3 _ _ _ _ hm; exact absurd hm (Nat.not_lt_zero _)
    | succ m3 ih3 =>
      intro n_3 i3 hnn_3 ksn_3 hrn_3 hi3 hm3
      refine pm_iloadn hG dX12_leaves_10 rfl ?_
      refine pm_aloadn hG dX12_leaves_11 rfl ?_
      refine pm_getf hG dX12_leaves_12 (flX12_7 _ rfl) rfl rfl ?_
      refine pm_bipush (v := nI 7) hG dX12_leaves_15 (by decide) ?_
      refine pm_ialdN hG dX12_leaves_17 rfl (by decide) (by omega) ?_
      obtain ⟨k4, hk4, ek4⟩ := KI.nat hnn_3 (show kd 7 = (1, 31, false) by decide)
      refine pm_top (v := nI k4) ek4 ?_
      refine pm_icmpN_ge (tgt := 53) hG dX12_leaves_18 rfl (by omega) (by omega) (fun c5 => ?_) (fun c5 => ?_)
      · exact pm_vret hG hF dX12_leaves_53 rfl (Nat.le_refl _) (Nat.le_refl _) ⟨rfl, ⟨_, rfl, hnn_3, hrn_3, ksn_3⟩, rfl⟩
      · refine pm_aloadn hG dX12_leaves_21 rfl ?_
        refine pm_iloadn hG dX12_leaves_22 rfl ?_
        refine pm_iconst (v := nI 0) hG dX12_leaves_23 (by decide) ?_
        refine pm_callV (As := [.int (nI i3), .int (nI 0)]) (rest := []) hG hR dX12_leaves_24 (lkX12_223 _ rfl) okV_X12_promised rfl rfl (m_promised (d := 0) (e := 6 * i3 + 1806) (by omega) (by omega) (by omega)) rfl rfl hdd (Nat.le_refl _) (Nat.le_refl _) (by decide) (pm_ki (fun v6 σ' cnt' hq => ?_))
        obtain ⟨rfl, rfl, rfl⟩ := hq
        obtain ⟨k7, hk7, ek7⟩ := KI.nat hnn_3 (show kd (6 * i3 + 1806) = (1, 20, false) from (kd_Q (k := i3) (c := 0) (by omega) (by omega) (by decide)))
        refine pm_top (v := nI k7) ek7 ?_
        refine pm_iloadn hG dX12_leaves_27 rfl ?_
        refine pm_icmpN_ne (tgt := 47) hG dX12_leaves_28 rfl (by omega) (by omega) (fun c8 => ?_) (fun c8 => ?_)
        · refine pm_iincX (v := nI (i3 + 1)) (loc' := [some (.ref (B + 54)), some (.int (nI ba)), some (.int (nI (i3 + 1)))]) hG dX12_leaves_47 rfl (nI_1 _) (by decide) (pm_c1b rfl) rfl ?_
          refine pm_goto (tgt := 10) hG dX12_leaves_50 rfl ?_
          exact ih3 n_3 (i3 + 1) hnn_3 ksn_3 hrn_3 (by omega) (by omega)
        · refine pm_aloadn hG dX12_leaves_31 rfl ?_
          refine pm_getf hG dX12_leaves_32 (flX12_7 _ rfl) rfl rfl ?_
          refine pm_sipush (v := nI 1806) hG dX12_leaves_35 (by decide) ?_
          refine pm_bipush (v := nI 6) hG dX12_leaves_38 (by decide) ?_
          refine pm_iloadn hG dX12_leaves_40 rfl ?_
          refine pm_imulN (c := 6 * i3) hG dX12_leaves_41 (by omega) ?_
          refine pm_iaddN (c := 6 * i3 + 1806) hG dX12_leaves_42 (by omega) ?_
          refine pm_iconst (v := nI 5) hG dX12_leaves_43 (by decide) ?_
          refine pm_iaddN (c := 6 * i3 + 1811) hG dX12_leaves_44 (by omega) ?_
          refine pm_iconst (v := nI 1) hG dX12_leaves_45 (by decide) ?_
          refine pm_iastN hG dX12_leaves_46 rfl (by decide) (by omega) ?_
          refine mdn_now (fun n_9 en_9 => ?_)
          have hnn_9 := KI.w en_9 hnn_3 (okv_f (show kd (6 * i3 + 1811) = (0, 0, false) from (kd_Q (k := i3) (c := 5) (by omega) (by omega) (by decide))))
          have hrn_9 := NRx.w en_9 hrn_3 (by rw [(show kd (6 * i3 + 1811) = (0, 0, false) from (kd_Q (k := i3) (c := 5) (by omega) (by omega) (by decide)))])
          have ksn_9 := KS.w en_9 ksn_3 (by unfold tS; omega)
          have e10 : n_9 7 = nI k4 := by rw [en_9, pk_un (by omega)]; exact ek4
          have e11 : n_9 (6 * i3 + 1806) = nI k7 := by rw [en_9, pk_un (by omega)]; exact ek7
          have e12 : n_9 (6 * i3 + 1811) = nI 1 := by rw [en_9, pk_us]
          refine pm_iincX (v := nI (i3 + 1)) (loc' := [some (.ref (B + 54)), some (.int (nI ba)), some (.int (nI (i3 + 1)))]) hG dX12_leaves_47 rfl (nI_1 _) (by decide) (pm_c1b rfl) rfl ?_
          refine pm_goto (tgt := 10) hG dX12_leaves_50 rfl ?_
          exact ih3 n_9 (i3 + 1) hnn_9 ksn_9 hrn_9 (by omega) (by omega)
  exact loop10_3 _ n_1 0 hnn_1 ksn_1 hrn_1 (by omega) (Nat.lt_succ_self _)

set_option maxRecDepth 100000 in
set_option maxHeartbeats 4000000 in
theorem m_die {d B cnt p0 t0 : Nat} {σ : pm_S} {I : Nat → Int32} {A : Nat → Nat → Int32} {n k z : Nat → Int32} {ac wt pl im : Int32} {za : Int32} (hdd : 4 ≤ d) (hn : KI n) (hr : NR n) (hz : SZ z)  : pm_met mX12_die d 0 0 B [.ref (B + 54), .int za] cnt (pm_mid σ (md_L B I A n k z ac wt pl (nI p0) (nI t0) im)) (pm_Qi (fun v σ' cnt' => (∃ (I' : Nat → Int32) (A' : Nat → Nat → Int32) (n' : Nat → Int32), σ' = pm_mid σ (md_L B I' A' n' k z ac wt pl (nI p0) (nI t0) im) ∧ KI n' ∧ NR n' ∧ KS n' n) ∧ cnt = cnt')) := by
  refine pm_enter 3 (by decide) (Nat.le_of_ble_eq_true rfl) rfl (fun G hG hR hF => ?_)
  refine pm_aloadn hG dX12_die_0 rfl ?_
  refine pm_iloadn hG dX12_die_1 rfl ?_
  obtain ⟨k1, hk1, ek1⟩ := KI.nat hn (show kd 2 = (1, 21, true) by decide)
  refine pm_callV (As := [.int za]) (rest := []) hG hR dX12_die_2 (lkX12_91 _ rfl) okV_X12_isPerson rfl rfl (m_isPerson (d := 3) (by decide) ek1 (by omega)) rfl rfl hdd (Nat.le_refl _) (Nat.le_refl _) (by decide) (pm_ki (fun v2 σ' cnt' hq => ?_))
  obtain ⟨hq, rfl, rfl⟩ := hq
  rcases hq with ⟨rfl, k4, hk4, ek4⟩ | rfl
  · refine pm_ifN_ne (tgt := 14) hG dX12_die_5 rfl (by omega) (fun _ => ?_) (fun q => absurd q (by omega))
    refine pm_aloadn hG dX12_die_14 rfl ?_
    refine pm_iloadn hG dX12_die_15 rfl ?_
    refine pm_top (v := nI k4) ek4 ?_
    rcases KI.opt hn (show kd (14 * k4 + 119) = (2, 2001, false) from (kd_P (k := k4) (c := 9) (by omega) (by omega) (by decide))) with ek5 | ⟨k5, hk5, ek5⟩
    · refine pm_callV (As := [.int (nI k4)]) (rest := []) hG hR dX12_die_16 (lkX12_101 _ rfl) okV_X12_lives rfl rfl (m_lives1 (d := 3) (by decide) (by omega) (by omega : 14 * k4 + 119 = 14 * k4 + 119) ek5) rfl rfl hdd (Nat.le_refl _) (Nat.le_refl _) (by decide) (pm_ki (fun v6 σ' cnt' hq => ?_))
      obtain ⟨rfl, rfl, rfl⟩ := hq
      refine pm_ifN_ne (tgt := 28) hG dX12_die_19 rfl (by omega) (fun _ => ?_) (fun q => absurd q (by omega))
      refine pm_aloadn hG dX12_die_28 rfl ?_
      refine pm_iloadn hG dX12_die_29 rfl ?_
      refine pm_top (v := nI k4) ek4 ?_
      refine pm_bipush (v := nI 7) hG dX12_die_30 (by decide) ?_
      refine pm_callV (As := [.int (nI k4), .int (nI 7)]) (rest := []) hG hR dX12_die_32 (lkX12_72 _ rfl) okV_X12_man rfl rfl (m_man (d := 3) (e := 14 * k4 + 117) (by omega) (by omega) (by omega)) rfl rfl hdd (Nat.le_refl _) (Nat.le_refl _) (by decide) (pm_ki (fun v7 σ' cnt' hq => ?_))
      obtain ⟨rfl, rfl, rfl⟩ := hq
      refine pm_gen (fun x8 ex8 => ?_)
      refine pm_istoreXn (loc' := [some (.ref (B + 54)), some (.int za), some (.int x8), none, none]) hG dX12_die_35 (by decide) (pm_c1b rfl) rfl ?_
      refine pm_aloadn hG dX12_die_36 rfl ?_
      refine pm_iloadn hG dX12_die_37 rfl ?_
      refine pm_top (v := nI k4) ek4 ?_
      refine pm_bipush (v := nI 10) hG dX12_die_38 (by decide) ?_
      refine pm_aloadn hG dX12_die_40 rfl ?_
      refine pm_iloadn hG dX12_die_41 rfl ?_
      refine pm_top (v := nI k4) ek4 ?_
      refine pm_callV (As := [.int (nI k4)]) (rest := [.int (nI 10), .int (nI k4), .ref (B + 54)]) hG hR dX12_die_42 (lkX12_104 _ rfl) okV_X12_knownTo rfl rfl (m_knownTo (d := 3) (by decide) hn hz (by omega)) rfl rfl hdd (Nat.le_refl _) (Nat.le_refl _) (Nat.le_of_ble_eq_true rfl) (pm_ki (fun v9 σ' cnt' hq => ?_))
      obtain ⟨⟨I10, A10, rfl⟩, rfl⟩ := hq
      refine pm_callV (As := [.int (nI k4), .int (nI 10), .int v9]) (rest := []) hG hR dX12_die_45 (lkX12_97 _ rfl) okV_X12_sets rfl rfl (m_sets (d := 3) (e := 14 * k4 + 120) (by omega) (by omega) (by omega)) rfl rfl hdd (Nat.le_refl _) (Nat.le_refl _) (by decide) (pm_kv (fun σ' cnt' hq => ?_))
      obtain ⟨rfl, rfl⟩ := hq
      obtain ⟨n_11, en_11⟩ : ∃ f : Nat → Int32, f = upd n (14 * k4 + 120) v9 := ⟨_, rfl⟩
      rw [← en_11]
      have hnn_11 := KI.w en_11 hn (okv_f (show kd (14 * k4 + 120) = (0, 0, false) from (kd_P (k := k4) (c := 10) (by omega) (by omega) (by decide))))
      have hrn_11 := NRx.w en_11 hr (by rw [(show kd (14 * k4 + 120) = (0, 0, false) from (kd_P (k := k4) (c := 10) (by omega) (by omega) (by decide)))])
      have ksn_11 := KS.w en_11 KS.rf (by unfold tS; omega)
      have e12 : n_11 2 = nI k1 := by rw [en_11, pk_un (by omega)]; exact ek1
      have e13 : n_11 (14 * k4 + 119) = (-1) := by rw [en_11, pk_un (by omega)]; exact ek5
      have e14 : n_11 (14 * k4 + 117) = x8 := by rw [en_11, pk_un (by omega)]; exact ex8
      have e15 : n_11 (14 * k4 + 120) = v9 := by rw [en_11, pk_us]
      refine pm_aloadn hG dX12_die_48 rfl ?_
      refine pm_iloadn hG dX12_die_49 rfl ?_
      refine pm_top (v := nI k4) ek4 ?_
      refine pm_bipush (v := nI 9) hG dX12_die_50 (by decide) ?_
      refine pm_aloadn hG dX12_die_52 rfl ?_
      refine pm_getf hG dX12_die_53 (flX12_7 _ rfl) rfl rfl ?_
      refine pm_bipush (v := nI 8) hG dX12_die_56 (by decide) ?_
      refine pm_ialdN hG dX12_die_58 rfl (by decide) (by omega) ?_
      obtain ⟨k16, hk16, ek16⟩ := KI.nat hnn_11 (show kd 8 = (1, 2001, false) by decide)
      refine pm_top (v := nI k16) ek16 ?_
      refine pm_callV (As := [.int (nI k4), .int (nI 9), .int (nI k16)]) (rest := []) hG hR dX12_die_59 (lkX12_97 _ rfl) okV_X12_sets rfl rfl (m_sets (d := 3) (e := 14 * k4 + 119) (by omega) (by omega) (by omega)) rfl rfl hdd (Nat.le_refl _) (Nat.le_refl _) (by decide) (pm_kv (fun σ' cnt' hq => ?_))
      obtain ⟨rfl, rfl⟩ := hq
      obtain ⟨n_17, en_17⟩ : ∃ f : Nat → Int32, f = upd n_11 (14 * k4 + 119) (nI k16) := ⟨_, rfl⟩
      rw [← en_17]
      have hnn_17 := KI.w en_17 hnn_11 (okv_o (show kd (14 * k4 + 119) = (2, 2001, false) from (kd_P (k := k4) (c := 9) (by omega) (by omega) (by decide))) (by omega))
      have hrn_17 := NRx.w en_17 hrn_11 (by rw [(show kd (14 * k4 + 119) = (2, 2001, false) from (kd_P (k := k4) (c := 9) (by omega) (by omega) (by decide)))])
      have ksn_17 := KS.w en_17 ksn_11 (by unfold tS; omega)
      have e18 : n_17 2 = nI k1 := by rw [en_17, pk_un (by omega)]; exact e12
      have e19 : n_17 (14 * k4 + 117) = x8 := by rw [en_17, pk_un (by omega)]; exact e14
      have e20 : n_17 (14 * k4 + 120) = v9 := by rw [en_17, pk_un (by omega)]; exact e15
      have e21 : n_17 8 = nI k16 := by rw [en_17, pk_un (by omega)]; exact ek16
      have e22 : n_17 (14 * k4 + 119) = nI k16 := by rw [en_17, pk_us]
      refine pm_aloadn hG dX12_die_62 rfl ?_
      refine pm_iloadn hG dX12_die_63 rfl ?_
      refine pm_top (v := nI k4) ek4 ?_
      refine pm_bipush (v := nI 7) hG dX12_die_64 (by decide) ?_
      refine pm_iconst (v := nI 0) hG dX12_die_66 (by decide) ?_
      refine pm_callV (As := [.int (nI k4), .int (nI 7), .int (nI 0)]) (rest := []) hG hR dX12_die_67 (lkX12_97 _ rfl) okV_X12_sets rfl rfl (m_sets (d := 3) (e := 14 * k4 + 117) (by omega) (by omega) (by omega)) rfl rfl hdd (Nat.le_refl _) (Nat.le_refl _) (by decide) (pm_kv (fun σ' cnt' hq => ?_))
      obtain ⟨rfl, rfl⟩ := hq
      obtain ⟨n_23, en_23⟩ : ∃ f : Nat → Int32, f = upd n_17 (14 * k4 + 117) (nI 0) := ⟨_, rfl⟩
      rw [← en_23]
      have hnn_23 := KI.w en_23 hnn_17 (okv_f (show kd (14 * k4 + 117) = (0, 0, false) from (kd_P (k := k4) (c := 7) (by omega) (by omega) (by decide))))
      have hrn_23 := NRx.w en_23 hrn_17 (by rw [(show kd (14 * k4 + 117) = (0, 0, false) from (kd_P (k := k4) (c := 7) (by omega) (by omega) (by decide)))])
      have ksn_23 := KS.w en_23 ksn_17 (by unfold tS; omega)
      have e24 : n_23 2 = nI k1 := by rw [en_23, pk_un (by omega)]; exact e18
      have e25 : n_23 (14 * k4 + 120) = v9 := by rw [en_23, pk_un (by omega)]; exact e20
      have e26 : n_23 8 = nI k16 := by rw [en_23, pk_un (by omega)]; exact e21
      have e27 : n_23 (14 * k4 + 119) = nI k16 := by rw [en_23, pk_un (by omega)]; exact e22
      have e28 : n_23 (14 * k4 + 117) = nI 0 := by rw [en_23, pk_us]
      refine pm_aloadn hG dX12_die_70 rfl ?_
      refine pm_iloadn hG dX12_die_71 rfl ?_
      refine pm_top (v := nI k4) ek4 ?_
      refine pm_bipush (v := nI 8) hG dX12_die_72 (by decide) ?_
      refine pm_iconst (v := nI 0) hG dX12_die_74 (by decide) ?_
      refine pm_callV (As := [.int (nI k4), .int (nI 8), .int (nI 0)]) (rest := []) hG hR dX12_die_75 (lkX12_97 _ rfl) okV_X12_sets rfl rfl (m_sets (d := 3) (e := 14 * k4 + 118) (by omega) (by omega) (by omega)) rfl rfl hdd (Nat.le_refl _) (Nat.le_refl _) (by decide) (pm_kv (fun σ' cnt' hq => ?_))
      obtain ⟨rfl, rfl⟩ := hq
      obtain ⟨n_29, en_29⟩ : ∃ f : Nat → Int32, f = upd n_23 (14 * k4 + 118) (nI 0) := ⟨_, rfl⟩
      rw [← en_29]
      have hnn_29 := KI.w en_29 hnn_23 (okv_f (show kd (14 * k4 + 118) = (0, 0, false) from (kd_P (k := k4) (c := 8) (by omega) (by omega) (by decide))))
      have hrn_29 := NRx.w en_29 hrn_23 (by rw [(show kd (14 * k4 + 118) = (0, 0, false) from (kd_P (k := k4) (c := 8) (by omega) (by omega) (by decide)))])
      have ksn_29 := KS.w en_29 ksn_23 (by unfold tS; omega)
      have e30 : n_29 2 = nI k1 := by rw [en_29, pk_un (by omega)]; exact e24
      have e31 : n_29 (14 * k4 + 120) = v9 := by rw [en_29, pk_un (by omega)]; exact e25
      have e32 : n_29 8 = nI k16 := by rw [en_29, pk_un (by omega)]; exact e26
      have e33 : n_29 (14 * k4 + 119) = nI k16 := by rw [en_29, pk_un (by omega)]; exact e27
      have e34 : n_29 (14 * k4 + 117) = nI 0 := by rw [en_29, pk_un (by omega)]; exact e28
      have e35 : n_29 (14 * k4 + 118) = nI 0 := by rw [en_29, pk_us]
      refine pm_aloadn hG dX12_die_78 rfl ?_
      refine pm_getf hG dX12_die_79 (flX12_7 _ rfl) rfl rfl ?_
      refine pm_bipush (v := nI 9) hG dX12_die_82 (by decide) ?_
      refine pm_dup2 hG dX12_die_84 rfl rfl ?_
      refine pm_ialdN hG dX12_die_85 rfl (by decide) (by omega) ?_
      refine pm_gen (fun x36 ex36 => ?_)
      refine pm_iloadn hG dX12_die_86 rfl ?_
      refine pm_iadd hG dX12_die_87 ?_
      refine pm_iastN hG dX12_die_88 rfl (by decide) (by omega) ?_
      refine mdn_now (fun n_37 en_37 => ?_)
      have hnn_37 := KI.w en_37 hnn_29 (okv_f (show kd 9 = (0, 0, false) by decide))
      have hrn_37 := NRx.w en_37 hrn_29 (by rw [(show kd 9 = (0, 0, false) by decide)])
      have ksn_37 := KS.w en_37 ksn_29 (by unfold tS; omega)
      have e38 : n_37 2 = nI k1 := by rw [en_37, pk_un (by omega)]; exact e30
      have e39 : n_37 (14 * k4 + 120) = v9 := by rw [en_37, pk_un (by omega)]; exact e31
      have e40 : n_37 8 = nI k16 := by rw [en_37, pk_un (by omega)]; exact e32
      have e41 : n_37 (14 * k4 + 119) = nI k16 := by rw [en_37, pk_un (by omega)]; exact e33
      have e42 : n_37 (14 * k4 + 117) = nI 0 := by rw [en_37, pk_un (by omega)]; exact e34
      have e43 : n_37 (14 * k4 + 118) = nI 0 := by rw [en_37, pk_un (by omega)]; exact e35
      have e44 : n_37 9 = x36 + x8 := by rw [en_37, pk_us]
      refine pm_aloadn hG dX12_die_89 rfl ?_
      refine pm_iloadn hG dX12_die_90 rfl ?_
      refine pm_top (v := nI k4) ek4 ?_
      refine pm_bipush (v := nI 11) hG dX12_die_91 (by decide) ?_
      refine pm_callV (As := [.int (nI k4), .int (nI 11)]) (rest := []) hG hR dX12_die_93 (lkX12_72 _ rfl) okV_X12_man rfl rfl (m_man (d := 3) (e := 14 * k4 + 121) (by omega) (by omega) (by omega)) rfl rfl hdd (Nat.le_refl _) (Nat.le_refl _) (by decide) (pm_ki (fun v45 σ' cnt' hq => ?_))
      obtain ⟨rfl, rfl, rfl⟩ := hq
      obtain ⟨k46, hk46, ek46⟩ := KI.nat hnn_37 (show kd (14 * k4 + 121) = (1, 2, true) from (kd_P (k := k4) (c := 11) (by omega) (by omega) (by decide)))
      refine pm_top (v := nI k46) ek46 ?_
      refine pm_iconst (v := nI 1) hG dX12_die_96 (by decide) ?_
      refine pm_icmpN_ne (tgt := 105) hG dX12_die_97 rfl (by omega) (by omega) (fun c47 => ?_) (fun c47 => ?_)
      · refine pm_iconst (v := nI 0) hG dX12_die_105 (by decide) ?_
        refine pm_istoreXn (loc' := [some (.ref (B + 54)), some (.int za), some (.int x8), some (.int (nI 0)), none]) hG dX12_die_106 (by decide) (pm_c1b rfl) rfl ?_
        have loop107_48 : ∀ (m48 : Nat) (I48 : Nat → Int32) (A48 : Nat → Nat → Int32) (n_48 : Nat → Int32) (i48 : Nat), KI n_48 → KS n_48 n → NRx 40 n_48 → i48 ≤ 20 → 20 - i48 < m48 → pm_wp mX12_die G B 107 [some (.ref (B + 54)), some (.int za), some (.int x8), some (.int (nI i48)), none] [] 0 0 cnt (pm_mid σ (md_L B I48 A48 n_48 k z ac wt pl (nI p0) (nI t0) im)) := by
          intro m48
          induction m48 with
          | zero => intro I48 A48 n_48 i48 _ _ _ _ hm; exact absurd hm (Nat.not_lt_zero _)
          | succ m48 ih48 =>
            intro I48 A48 n_48 i48 hnn_48 ksn_48 hrn_48 hi48 hm48
            refine pm_iloadn hG dX12_die_107 rfl ?_
            refine pm_aloadn hG dX12_die_108 rfl ?_
            refine pm_getf hG dX12_die_109 (flX12_7 _ rfl) rfl rfl ?_
            refine pm_iconst (v := nI 3) hG dX12_die_112 (by decide) ?_
            refine pm_ialdN hG dX12_die_113 rfl (by decide) (by omega) ?_
            obtain ⟨k49, hk49, ek49⟩ := KI.nat hnn_48 (show kd 3 = (1, 21, false) by decide)
            refine pm_top (v := nI k49) ek49 ?_
            refine pm_icmpN_ge (tgt := 172) hG dX12_die_114 rfl (by omega) (by omega) (fun c50 => ?_) (fun c50 => ?_)
            · refine pm_iloadn hG dX12_die_172 rfl ?_
              exact pm_iret hG hF dX12_die_173 rfl (Nat.le_refl _) (Nat.le_refl _) ⟨_, rfl, ⟨_, _, _, rfl, hnn_48, hrn_48, ksn_48⟩, rfl⟩
            · refine pm_aloadn hG dX12_die_117 rfl ?_
              refine pm_iloadn hG dX12_die_118 rfl ?_
              refine pm_iconst (v := nI 1) hG dX12_die_119 (by decide) ?_
              refine pm_callV (As := [.int (nI i48), .int (nI 1)]) (rest := []) hG hR dX12_die_120 (lkX12_110 _ rfl) okV_X12_its rfl rfl (m_its (d := 3) (e := 6 * i48 + 391) (by omega) (by omega) (by omega)) rfl rfl hdd (Nat.le_refl _) (Nat.le_refl _) (by decide) (pm_ki (fun v51 σ' cnt' hq => ?_))
              obtain ⟨rfl, rfl, rfl⟩ := hq
              rcases KI.opt hnn_48 (show kd (6 * i48 + 391) = (2, 20, false) from (kd_W (k := i48) (c := 1) (by omega) (by omega) (by decide))) with ek52 | ⟨k52, hk52, ek52⟩
              · refine pm_top (v := (-1)) ek52 ?_
                refine pm_iloadn hG dX12_die_123 rfl ?_
                refine pm_top (v := nI k4) ek4 ?_
                refine pm_icmp_ne (tgt := 131) hG dX12_die_124 rfl (fun _ => ?_) (fun q => absurd q ((fun q => nI_m1 (by omega) q.symm)))
                refine pm_iconst (v := nI 0) hG dX12_die_131 (by decide) ?_
                refine pm_istoreXi (loc' := [some (.ref (B + 54)), some (.int za), some (.int x8), some (.int (nI i48)), some (.int (nI 0))]) hG dX12_die_132 (by decide) (pm_c1b rfl) rfl ?_
                refine pm_iloadi hG dX12_die_134 rfl ?_
                refine pm_ifN_eq (tgt := 146) hG dX12_die_136 rfl (by omega) (fun _ => ?_) (fun q => absurd q (by omega))
                refine pm_iloadi hG dX12_die_146 rfl ?_
                refine pm_ifN_ne (tgt := 161) hG dX12_die_148 rfl (by omega) (fun q => absurd q (by omega)) (fun _ => ?_)
                refine pm_aloadn hG dX12_die_151 rfl ?_
                refine pm_iloadn hG dX12_die_152 rfl ?_
                refine pm_iconst (v := nI 2) hG dX12_die_153 (by decide) ?_
                refine pm_callV (As := [.int (nI i48), .int (nI 2)]) (rest := []) hG hR dX12_die_154 (lkX12_110 _ rfl) okV_X12_its rfl rfl (m_its (d := 3) (e := 6 * i48 + 392) (by omega) (by omega) (by omega)) rfl rfl hdd (Nat.le_refl _) (Nat.le_refl _) (by decide) (pm_ki (fun v53 σ' cnt' hq => ?_))
                obtain ⟨rfl, rfl, rfl⟩ := hq
                rcases KI.opt hnn_48 (show kd (6 * i48 + 392) = (2, 20, false) from (kd_W (k := i48) (c := 2) (by omega) (by omega) (by decide))) with ek54 | ⟨k54, hk54, ek54⟩
                · refine pm_top (v := (-1)) ek54 ?_
                  refine pm_iloadn hG dX12_die_157 rfl ?_
                  refine pm_top (v := nI k4) ek4 ?_
                  refine pm_icmp_ne (tgt := 166) hG dX12_die_158 rfl (fun _ => ?_) (fun q => absurd q ((fun q => nI_m1 (by omega) q.symm)))
                  refine pm_iincX (v := nI (i48 + 1)) (loc' := [some (.ref (B + 54)), some (.int za), some (.int x8), some (.int (nI (i48 + 1))), some (.int (nI 0))]) hG dX12_die_166 rfl (nI_1 _) (by decide) (pm_c1b rfl) rfl ?_
                  refine pm_goto (tgt := 107) hG dX12_die_169 rfl ?_
                  refine pm_fg 4 (loc' := [some (.ref (B + 54)), some (.int za), some (.int x8), some (.int (nI (i48 + 1))), none]) rfl ?_
                  exact ih48 I48 A48 n_48 (i48 + 1) hnn_48 ksn_48 hrn_48 (by omega) (by omega)
                · refine pm_top (v := nI k54) ek54 ?_
                  refine pm_iloadn hG dX12_die_157 rfl ?_
                  refine pm_top (v := nI k4) ek4 ?_
                  refine pm_icmpN_ne (tgt := 166) hG dX12_die_158 rfl (by omega) (by omega) (fun c55 => ?_) (fun c55 => ?_)
                  · refine pm_iincX (v := nI (i48 + 1)) (loc' := [some (.ref (B + 54)), some (.int za), some (.int x8), some (.int (nI (i48 + 1))), some (.int (nI 0))]) hG dX12_die_166 rfl (nI_1 _) (by decide) (pm_c1b rfl) rfl ?_
                    refine pm_goto (tgt := 107) hG dX12_die_169 rfl ?_
                    refine pm_fg 4 (loc' := [some (.ref (B + 54)), some (.int za), some (.int x8), some (.int (nI (i48 + 1))), none]) rfl ?_
                    exact ih48 I48 A48 n_48 (i48 + 1) hnn_48 ksn_48 hrn_48 (by omega) (by omega)
                  · refine pm_aloadn hG dX12_die_161 rfl ?_
                    refine pm_iloadn hG dX12_die_162 rfl ?_
                    refine pm_callV (As := [.int (nI i48)]) (rest := []) hG hR dX12_die_163 (lkX12_116 _ rfl) okV_X12_comesBack rfl rfl (m_comesBack (d := 3) (e := 6 * i48 + 392) (e2 := 6 * i48 + 393) (by decide) (by omega) (by omega) (by omega)) rfl rfl hdd (Nat.le_refl _) (Nat.le_refl _) (by decide) (pm_kv (fun σ' cnt' hq => ?_))
                    obtain ⟨rfl, rfl⟩ := hq
                    obtain ⟨n_56, en_56⟩ : ∃ f : Nat → Int32, f = upd n_48 (6 * i48 + 392) (-1) := ⟨_, rfl⟩
                    rw [← en_56]
                    have hnn_56 := KI.w en_56 hnn_48 (okv_m (show kd (6 * i48 + 392) = (2, 20, false) from (kd_W (k := i48) (c := 2) (by omega) (by omega) (by decide))))
                    have hrn_56 := NRx.w en_56 hrn_48 (by rw [(show kd (6 * i48 + 392) = (2, 20, false) from (kd_W (k := i48) (c := 2) (by omega) (by omega) (by decide)))])
                    have ksn_56 := KS.w en_56 ksn_48 (by unfold tS; omega)
                    have e57 : n_56 3 = nI k49 := by rw [en_56, pk_un (by omega)]; exact ek49
                    have e58 : n_56 (6 * i48 + 391) = (-1) := by rw [en_56, pk_un (by omega)]; exact ek52
                    have e59 : n_56 (6 * i48 + 392) = (-1) := by rw [en_56, pk_us]
                    obtain ⟨n_60, en_60⟩ : ∃ f : Nat → Int32, f = upd n_56 (6 * i48 + 393) (-1) := ⟨_, rfl⟩
                    rw [← en_60]
                    have hnn_60 := KI.w en_60 hnn_56 (okv_f (show kd (6 * i48 + 393) = (0, 0, false) from (kd_W (k := i48) (c := 3) (by omega) (by omega) (by decide))))
                    have hrn_60 := NRx.w en_60 hrn_56 (by rw [(show kd (6 * i48 + 393) = (0, 0, false) from (kd_W (k := i48) (c := 3) (by omega) (by omega) (by decide)))])
                    have ksn_60 := KS.w en_60 ksn_56 (by unfold tS; omega)
                    have e61 : n_60 3 = nI k49 := by rw [en_60, pk_un (by omega)]; exact e57
                    have e62 : n_60 (6 * i48 + 391) = (-1) := by rw [en_60, pk_un (by omega)]; exact e58
                    have e63 : n_60 (6 * i48 + 392) = (-1) := by rw [en_60, pk_un (by omega)]; exact e59
                    have e64 : n_60 (6 * i48 + 393) = (-1) := by rw [en_60, pk_us]
                    refine pm_iincX (v := nI (i48 + 1)) (loc' := [some (.ref (B + 54)), some (.int za), some (.int x8), some (.int (nI (i48 + 1))), some (.int (nI 0))]) hG dX12_die_166 rfl (nI_1 _) (by decide) (pm_c1b rfl) rfl ?_
                    refine pm_goto (tgt := 107) hG dX12_die_169 rfl ?_
                    refine pm_fg 4 (loc' := [some (.ref (B + 54)), some (.int za), some (.int x8), some (.int (nI (i48 + 1))), none]) rfl ?_
                    exact ih48 I48 A48 n_60 (i48 + 1) hnn_60 ksn_60 hrn_60 (by omega) (by omega)
              · refine pm_top (v := nI k52) ek52 ?_
                refine pm_iloadn hG dX12_die_123 rfl ?_
                refine pm_top (v := nI k4) ek4 ?_
                refine pm_icmpN_ne (tgt := 131) hG dX12_die_124 rfl (by omega) (by omega) (fun c65 => ?_) (fun c65 => ?_)
                · refine pm_iconst (v := nI 0) hG dX12_die_131 (by decide) ?_
                  refine pm_istoreXi (loc' := [some (.ref (B + 54)), some (.int za), some (.int x8), some (.int (nI i48)), some (.int (nI 0))]) hG dX12_die_132 (by decide) (pm_c1b rfl) rfl ?_
                  refine pm_iloadi hG dX12_die_134 rfl ?_
                  refine pm_ifN_eq (tgt := 146) hG dX12_die_136 rfl (by omega) (fun _ => ?_) (fun q => absurd q (by omega))
                  refine pm_iloadi hG dX12_die_146 rfl ?_
                  refine pm_ifN_ne (tgt := 161) hG dX12_die_148 rfl (by omega) (fun q => absurd q (by omega)) (fun _ => ?_)
                  refine pm_aloadn hG dX12_die_151 rfl ?_
                  refine pm_iloadn hG dX12_die_152 rfl ?_
                  refine pm_iconst (v := nI 2) hG dX12_die_153 (by decide) ?_
                  refine pm_callV (As := [.int (nI i48), .int (nI 2)]) (rest := []) hG hR dX12_die_154 (lkX12_110 _ rfl) okV_X12_its rfl rfl (m_its (d := 3) (e := 6 * i48 + 392) (by omega) (by omega) (by omega)) rfl rfl hdd (Nat.le_refl _) (Nat.le_refl _) (by decide) (pm_ki (fun v66 σ' cnt' hq => ?_))
                  obtain ⟨rfl, rfl, rfl⟩ := hq
                  rcases KI.opt hnn_48 (show kd (6 * i48 + 392) = (2, 20, false) from (kd_W (k := i48) (c := 2) (by omega) (by omega) (by decide))) with ek67 | ⟨k67, hk67, ek67⟩
                  · refine pm_top (v := (-1)) ek67 ?_
                    refine pm_iloadn hG dX12_die_157 rfl ?_
                    refine pm_top (v := nI k4) ek4 ?_
                    refine pm_icmp_ne (tgt := 166) hG dX12_die_158 rfl (fun _ => ?_) (fun q => absurd q ((fun q => nI_m1 (by omega) q.symm)))
                    refine pm_iincX (v := nI (i48 + 1)) (loc' := [some (.ref (B + 54)), some (.int za), some (.int x8), some (.int (nI (i48 + 1))), some (.int (nI 0))]) hG dX12_die_166 rfl (nI_1 _) (by decide) (pm_c1b rfl) rfl ?_
                    refine pm_goto (tgt := 107) hG dX12_die_169 rfl ?_
                    refine pm_fg 4 (loc' := [some (.ref (B + 54)), some (.int za), some (.int x8), some (.int (nI (i48 + 1))), none]) rfl ?_
                    exact ih48 I48 A48 n_48 (i48 + 1) hnn_48 ksn_48 hrn_48 (by omega) (by omega)
                  · refine pm_top (v := nI k67) ek67 ?_
                    refine pm_iloadn hG dX12_die_157 rfl ?_
                    refine pm_top (v := nI k4) ek4 ?_
                    refine pm_icmpN_ne (tgt := 166) hG dX12_die_158 rfl (by omega) (by omega) (fun c68 => ?_) (fun c68 => ?_)
                    · refine pm_iincX (v := nI (i48 + 1)) (loc' := [some (.ref (B + 54)), some (.int za), some (.int x8), some (.int (nI (i48 + 1))), some (.int (nI 0))]) hG dX12_die_166 rfl (nI_1 _) (by decide) (pm_c1b rfl) rfl ?_
                      refine pm_goto (tgt := 107) hG dX12_die_169 rfl ?_
                      refine pm_fg 4 (loc' := [some (.ref (B + 54)), some (.int za), some (.int x8), some (.int (nI (i48 + 1))), none]) rfl ?_
                      exact ih48 I48 A48 n_48 (i48 + 1) hnn_48 ksn_48 hrn_48 (by omega) (by omega)
                    · refine pm_aloadn hG dX12_die_161 rfl ?_
                      refine pm_iloadn hG dX12_die_162 rfl ?_
                      refine pm_callV (As := [.int (nI i48)]) (rest := []) hG hR dX12_die_163 (lkX12_116 _ rfl) okV_X12_comesBack rfl rfl (m_comesBack (d := 3) (e := 6 * i48 + 392) (e2 := 6 * i48 + 393) (by decide) (by omega) (by omega) (by omega)) rfl rfl hdd (Nat.le_refl _) (Nat.le_refl _) (by decide) (pm_kv (fun σ' cnt' hq => ?_))
                      obtain ⟨rfl, rfl⟩ := hq
                      obtain ⟨n_69, en_69⟩ : ∃ f : Nat → Int32, f = upd n_48 (6 * i48 + 392) (-1) := ⟨_, rfl⟩
                      rw [← en_69]
                      have hnn_69 := KI.w en_69 hnn_48 (okv_m (show kd (6 * i48 + 392) = (2, 20, false) from (kd_W (k := i48) (c := 2) (by omega) (by omega) (by decide))))
                      have hrn_69 := NRx.w en_69 hrn_48 (by rw [(show kd (6 * i48 + 392) = (2, 20, false) from (kd_W (k := i48) (c := 2) (by omega) (by omega) (by decide)))])
                      have ksn_69 := KS.w en_69 ksn_48 (by unfold tS; omega)
                      have e70 : n_69 3 = nI k49 := by rw [en_69, pk_un (by omega)]; exact ek49
                      have e71 : n_69 (6 * i48 + 391) = nI k52 := by rw [en_69, pk_un (by omega)]; exact ek52
                      have e72 : n_69 (6 * i48 + 392) = (-1) := by rw [en_69, pk_us]
                      obtain ⟨n_73, en_73⟩ : ∃ f : Nat → Int32, f = upd n_69 (6 * i48 + 393) (-1) := ⟨_, rfl⟩
                      rw [← en_73]
                      have hnn_73 := KI.w en_73 hnn_69 (okv_f (show kd (6 * i48 + 393) = (0, 0, false) from (kd_W (k := i48) (c := 3) (by omega) (by omega) (by decide))))
                      have hrn_73 := NRx.w en_73 hrn_69 (by rw [(show kd (6 * i48 + 393) = (0, 0, false) from (kd_W (k := i48) (c := 3) (by omega) (by omega) (by decide)))])
                      have ksn_73 := KS.w en_73 ksn_69 (by unfold tS; omega)
                      have e74 : n_73 3 = nI k49 := by rw [en_73, pk_un (by omega)]; exact e70
                      have e75 : n_73 (6 * i48 + 391) = nI k52 := by rw [en_73, pk_un (by omega)]; exact e71
                      have e76 : n_73 (6 * i48 + 392) = (-1) := by rw [en_73, pk_un (by omega)]; exact e72
                      have e77 : n_73 (6 * i48 + 393) = (-1) := by rw [en_73, pk_us]
                      refine pm_iincX (v := nI (i48 + 1)) (loc' := [some (.ref (B + 54)), some (.int za), some (.int x8), some (.int (nI (i48 + 1))), some (.int (nI 0))]) hG dX12_die_166 rfl (nI_1 _) (by decide) (pm_c1b rfl) rfl ?_
                      refine pm_goto (tgt := 107) hG dX12_die_169 rfl ?_
                      refine pm_fg 4 (loc' := [some (.ref (B + 54)), some (.int za), some (.int x8), some (.int (nI (i48 + 1))), none]) rfl ?_
                      exact ih48 I48 A48 n_73 (i48 + 1) hnn_73 ksn_73 hrn_73 (by omega) (by omega)
                · refine pm_iconst (v := nI 1) hG dX12_die_127 (by decide) ?_
                  refine pm_goto (tgt := 132) hG dX12_die_128 rfl ?_
                  refine pm_istoreXi (loc' := [some (.ref (B + 54)), some (.int za), some (.int x8), some (.int (nI i48)), some (.int (nI 1))]) hG dX12_die_132 (by decide) (pm_c1b rfl) rfl ?_
                  refine pm_iloadi hG dX12_die_134 rfl ?_
                  refine pm_ifN_eq (tgt := 146) hG dX12_die_136 rfl (by omega) (fun q => absurd q (by omega)) (fun _ => ?_)
                  refine pm_aloadn hG dX12_die_139 rfl ?_
                  refine pm_iloadn hG dX12_die_140 rfl ?_
                  refine pm_iconst (v := nI 1) hG dX12_die_141 (by decide) ?_
                  refine pm_iconst (v := (-1)) hG dX12_die_142 (by decide) ?_
                  refine pm_callV (As := [.int (nI i48), .int (nI 1), .int (-1)]) (rest := []) hG hR dX12_die_143 (lkX12_113 _ rfl) okV_X12_makes rfl rfl (m_makes (d := 3) (e := 6 * i48 + 391) (by omega) (by omega) (by omega)) rfl rfl hdd (Nat.le_refl _) (Nat.le_refl _) (by decide) (pm_kv (fun σ' cnt' hq => ?_))
                  obtain ⟨rfl, rfl⟩ := hq
                  obtain ⟨n_78, en_78⟩ : ∃ f : Nat → Int32, f = upd n_48 (6 * i48 + 391) (-1) := ⟨_, rfl⟩
                  rw [← en_78]
                  have hnn_78 := KI.w en_78 hnn_48 (okv_m (show kd (6 * i48 + 391) = (2, 20, false) from (kd_W (k := i48) (c := 1) (by omega) (by omega) (by decide))))
                  have hrn_78 := NRx.w en_78 hrn_48 (by rw [(show kd (6 * i48 + 391) = (2, 20, false) from (kd_W (k := i48) (c := 1) (by omega) (by omega) (by decide)))])
                  have ksn_78 := KS.w en_78 ksn_48 (by unfold tS; omega)
                  have e79 : n_78 3 = nI k49 := by rw [en_78, pk_un (by omega)]; exact ek49
                  have e80 : n_78 (6 * i48 + 391) = (-1) := by rw [en_78, pk_us]
                  refine pm_iloadi hG dX12_die_146 rfl ?_
                  refine pm_ifN_ne (tgt := 161) hG dX12_die_148 rfl (by omega) (fun _ => ?_) (fun q => absurd q (by omega))
                  refine pm_aloadn hG dX12_die_161 rfl ?_
                  refine pm_iloadn hG dX12_die_162 rfl ?_
                  refine pm_callV (As := [.int (nI i48)]) (rest := []) hG hR dX12_die_163 (lkX12_116 _ rfl) okV_X12_comesBack rfl rfl (m_comesBack (d := 3) (e := 6 * i48 + 392) (e2 := 6 * i48 + 393) (by decide) (by omega) (by omega) (by omega)) rfl rfl hdd (Nat.le_refl _) (Nat.le_refl _) (by decide) (pm_kv (fun σ' cnt' hq => ?_))
                  obtain ⟨rfl, rfl⟩ := hq
                  obtain ⟨n_81, en_81⟩ : ∃ f : Nat → Int32, f = upd n_78 (6 * i48 + 392) (-1) := ⟨_, rfl⟩
                  rw [← en_81]
                  have hnn_81 := KI.w en_81 hnn_78 (okv_m (show kd (6 * i48 + 392) = (2, 20, false) from (kd_W (k := i48) (c := 2) (by omega) (by omega) (by decide))))
                  have hrn_81 := NRx.w en_81 hrn_78 (by rw [(show kd (6 * i48 + 392) = (2, 20, false) from (kd_W (k := i48) (c := 2) (by omega) (by omega) (by decide)))])
                  have ksn_81 := KS.w en_81 ksn_78 (by unfold tS; omega)
                  have e82 : n_81 3 = nI k49 := by rw [en_81, pk_un (by omega)]; exact e79
                  have e83 : n_81 (6 * i48 + 391) = (-1) := by rw [en_81, pk_un (by omega)]; exact e80
                  have e84 : n_81 (6 * i48 + 392) = (-1) := by rw [en_81, pk_us]
                  obtain ⟨n_85, en_85⟩ : ∃ f : Nat → Int32, f = upd n_81 (6 * i48 + 393) (-1) := ⟨_, rfl⟩
                  rw [← en_85]
                  have hnn_85 := KI.w en_85 hnn_81 (okv_f (show kd (6 * i48 + 393) = (0, 0, false) from (kd_W (k := i48) (c := 3) (by omega) (by omega) (by decide))))
                  have hrn_85 := NRx.w en_85 hrn_81 (by rw [(show kd (6 * i48 + 393) = (0, 0, false) from (kd_W (k := i48) (c := 3) (by omega) (by omega) (by decide)))])
                  have ksn_85 := KS.w en_85 ksn_81 (by unfold tS; omega)
                  have e86 : n_85 3 = nI k49 := by rw [en_85, pk_un (by omega)]; exact e82
                  have e87 : n_85 (6 * i48 + 391) = (-1) := by rw [en_85, pk_un (by omega)]; exact e83
                  have e88 : n_85 (6 * i48 + 392) = (-1) := by rw [en_85, pk_un (by omega)]; exact e84
                  have e89 : n_85 (6 * i48 + 393) = (-1) := by rw [en_85, pk_us]
                  refine pm_iincX (v := nI (i48 + 1)) (loc' := [some (.ref (B + 54)), some (.int za), some (.int x8), some (.int (nI (i48 + 1))), some (.int (nI 1))]) hG dX12_die_166 rfl (nI_1 _) (by decide) (pm_c1b rfl) rfl ?_
                  refine pm_goto (tgt := 107) hG dX12_die_169 rfl ?_
                  refine pm_fg 4 (loc' := [some (.ref (B + 54)), some (.int za), some (.int x8), some (.int (nI (i48 + 1))), none]) rfl ?_
                  exact ih48 I48 A48 n_85 (i48 + 1) hnn_85 ksn_85 hrn_85 (by omega) (by omega)
        exact loop107_48 _ I10 A10 n_37 0 hnn_37 ksn_37 hrn_37 (by omega) (Nat.lt_succ_self _)
      · refine pm_aloadn hG dX12_die_100 rfl ?_
        refine pm_iloadn hG dX12_die_101 rfl ?_
        refine pm_top (v := nI k4) ek4 ?_
        refine pm_callV (As := [.int (nI k4)]) (rest := []) hG hR dX12_die_102 (lkX12_107 _ rfl) okV_X12_leaves rfl rfl (m_leaves (d := 3) (by decide) hnn_37 hrn_37 hz (by omega)) rfl rfl hdd (Nat.le_refl _) (Nat.le_refl _) (by decide) (pm_kv (fun σ' cnt' hq => ?_))
        obtain ⟨⟨n_91, rfl, hn91, hr91, hks91⟩, rfl⟩ := hq
        refine pm_iconst (v := nI 0) hG dX12_die_105 (by decide) ?_
        refine pm_istoreXn (loc' := [some (.ref (B + 54)), some (.int za), some (.int x8), some (.int (nI 0)), none]) hG dX12_die_106 (by decide) (pm_c1b rfl) rfl ?_
        have loop107_92 : ∀ (m92 : Nat) (I92 : Nat → Int32) (A92 : Nat → Nat → Int32) (n_92 : Nat → Int32) (i92 : Nat), KI n_92 → KS n_92 n → NRx 40 n_92 → i92 ≤ 20 → 20 - i92 < m92 → pm_wp mX12_die G B 107 [some (.ref (B + 54)), some (.int za), some (.int x8), some (.int (nI i92)), none] [] 0 0 cnt (pm_mid σ (md_L B I92 A92 n_92 k z ac wt pl (nI p0) (nI t0) im)) := by
          intro m92
          induction m92 with
          | zero => intro I92 A92 n_92 i92 _ _ _ _ hm; exact absurd hm (Nat.not_lt_zero _)
          | succ m92 ih92 =>
            intro I92 A92 n_92 i92 hnn_92 ksn_92 hrn_92 hi92 hm92
            refine pm_iloadn hG dX12_die_107 rfl ?_
            refine pm_aloadn hG dX12_die_108 rfl ?_
            refine pm_getf hG dX12_die_109 (flX12_7 _ rfl) rfl rfl ?_
            refine pm_iconst (v := nI 3) hG dX12_die_112 (by decide) ?_
            refine pm_ialdN hG dX12_die_113 rfl (by decide) (by omega) ?_
            obtain ⟨k93, hk93, ek93⟩ := KI.nat hnn_92 (show kd 3 = (1, 21, false) by decide)
            refine pm_top (v := nI k93) ek93 ?_
            refine pm_icmpN_ge (tgt := 172) hG dX12_die_114 rfl (by omega) (by omega) (fun c94 => ?_) (fun c94 => ?_)
            · refine pm_iloadn hG dX12_die_172 rfl ?_
              exact pm_iret hG hF dX12_die_173 rfl (Nat.le_refl _) (Nat.le_refl _) ⟨_, rfl, ⟨_, _, _, rfl, hnn_92, hrn_92, ksn_92⟩, rfl⟩
            · refine pm_aloadn hG dX12_die_117 rfl ?_
              refine pm_iloadn hG dX12_die_118 rfl ?_
              refine pm_iconst (v := nI 1) hG dX12_die_119 (by decide) ?_
              refine pm_callV (As := [.int (nI i92), .int (nI 1)]) (rest := []) hG hR dX12_die_120 (lkX12_110 _ rfl) okV_X12_its rfl rfl (m_its (d := 3) (e := 6 * i92 + 391) (by omega) (by omega) (by omega)) rfl rfl hdd (Nat.le_refl _) (Nat.le_refl _) (by decide) (pm_ki (fun v95 σ' cnt' hq => ?_))
              obtain ⟨rfl, rfl, rfl⟩ := hq
              rcases KI.opt hnn_92 (show kd (6 * i92 + 391) = (2, 20, false) from (kd_W (k := i92) (c := 1) (by omega) (by omega) (by decide))) with ek96 | ⟨k96, hk96, ek96⟩
              · refine pm_top (v := (-1)) ek96 ?_
                refine pm_iloadn hG dX12_die_123 rfl ?_
                refine pm_top (v := nI k4) ek4 ?_
                refine pm_icmp_ne (tgt := 131) hG dX12_die_124 rfl (fun _ => ?_) (fun q => absurd q ((fun q => nI_m1 (by omega) q.symm)))
                refine pm_iconst (v := nI 0) hG dX12_die_131 (by decide) ?_
                refine pm_istoreXi (loc' := [some (.ref (B + 54)), some (.int za), some (.int x8), some (.int (nI i92)), some (.int (nI 0))]) hG dX12_die_132 (by decide) (pm_c1b rfl) rfl ?_
                refine pm_iloadi hG dX12_die_134 rfl ?_
                refine pm_ifN_eq (tgt := 146) hG dX12_die_136 rfl (by omega) (fun _ => ?_) (fun q => absurd q (by omega))
                refine pm_iloadi hG dX12_die_146 rfl ?_
                refine pm_ifN_ne (tgt := 161) hG dX12_die_148 rfl (by omega) (fun q => absurd q (by omega)) (fun _ => ?_)
                refine pm_aloadn hG dX12_die_151 rfl ?_
                refine pm_iloadn hG dX12_die_152 rfl ?_
                refine pm_iconst (v := nI 2) hG dX12_die_153 (by decide) ?_
                refine pm_callV (As := [.int (nI i92), .int (nI 2)]) (rest := []) hG hR dX12_die_154 (lkX12_110 _ rfl) okV_X12_its rfl rfl (m_its (d := 3) (e := 6 * i92 + 392) (by omega) (by omega) (by omega)) rfl rfl hdd (Nat.le_refl _) (Nat.le_refl _) (by decide) (pm_ki (fun v97 σ' cnt' hq => ?_))
                obtain ⟨rfl, rfl, rfl⟩ := hq
                rcases KI.opt hnn_92 (show kd (6 * i92 + 392) = (2, 20, false) from (kd_W (k := i92) (c := 2) (by omega) (by omega) (by decide))) with ek98 | ⟨k98, hk98, ek98⟩
                · refine pm_top (v := (-1)) ek98 ?_
                  refine pm_iloadn hG dX12_die_157 rfl ?_
                  refine pm_top (v := nI k4) ek4 ?_
                  refine pm_icmp_ne (tgt := 166) hG dX12_die_158 rfl (fun _ => ?_) (fun q => absurd q ((fun q => nI_m1 (by omega) q.symm)))
                  refine pm_iincX (v := nI (i92 + 1)) (loc' := [some (.ref (B + 54)), some (.int za), some (.int x8), some (.int (nI (i92 + 1))), some (.int (nI 0))]) hG dX12_die_166 rfl (nI_1 _) (by decide) (pm_c1b rfl) rfl ?_
                  refine pm_goto (tgt := 107) hG dX12_die_169 rfl ?_
                  refine pm_fg 4 (loc' := [some (.ref (B + 54)), some (.int za), some (.int x8), some (.int (nI (i92 + 1))), none]) rfl ?_
                  exact ih92 I92 A92 n_92 (i92 + 1) hnn_92 ksn_92 hrn_92 (by omega) (by omega)
                · refine pm_top (v := nI k98) ek98 ?_
                  refine pm_iloadn hG dX12_die_157 rfl ?_
                  refine pm_top (v := nI k4) ek4 ?_
                  refine pm_icmpN_ne (tgt := 166) hG dX12_die_158 rfl (by omega) (by omega) (fun c99 => ?_) (fun c99 => ?_)
                  · refine pm_iincX (v := nI (i92 + 1)) (loc' := [some (.ref (B + 54)), some (.int za), some (.int x8), some (.int (nI (i92 + 1))), some (.int (nI 0))]) hG dX12_die_166 rfl (nI_1 _) (by decide) (pm_c1b rfl) rfl ?_
                    refine pm_goto (tgt := 107) hG dX12_die_169 rfl ?_
                    refine pm_fg 4 (loc' := [some (.ref (B + 54)), some (.int za), some (.int x8), some (.int (nI (i92 + 1))), none]) rfl ?_
                    exact ih92 I92 A92 n_92 (i92 + 1) hnn_92 ksn_92 hrn_92 (by omega) (by omega)
                  · refine pm_aloadn hG dX12_die_161 rfl ?_
                    refine pm_iloadn hG dX12_die_162 rfl ?_
                    refine pm_callV (As := [.int (nI i92)]) (rest := []) hG hR dX12_die_163 (lkX12_116 _ rfl) okV_X12_comesBack rfl rfl (m_comesBack (d := 3) (e := 6 * i92 + 392) (e2 := 6 * i92 + 393) (by decide) (by omega) (by omega) (by omega)) rfl rfl hdd (Nat.le_refl _) (Nat.le_refl _) (by decide) (pm_kv (fun σ' cnt' hq => ?_))
                    obtain ⟨rfl, rfl⟩ := hq
                    obtain ⟨n_100, en_100⟩ : ∃ f : Nat → Int32, f = upd n_92 (6 * i92 + 392) (-1) := ⟨_, rfl⟩
                    rw [← en_100]
                    have hnn_100 := KI.w en_100 hnn_92 (okv_m (show kd (6 * i92 + 392) = (2, 20, false) from (kd_W (k := i92) (c := 2) (by omega) (by omega) (by decide))))
                    have hrn_100 := NRx.w en_100 hrn_92 (by rw [(show kd (6 * i92 + 392) = (2, 20, false) from (kd_W (k := i92) (c := 2) (by omega) (by omega) (by decide)))])
                    have ksn_100 := KS.w en_100 ksn_92 (by unfold tS; omega)
                    have e101 : n_100 3 = nI k93 := by rw [en_100, pk_un (by omega)]; exact ek93
                    have e102 : n_100 (6 * i92 + 391) = (-1) := by rw [en_100, pk_un (by omega)]; exact ek96
                    have e103 : n_100 (6 * i92 + 392) = (-1) := by rw [en_100, pk_us]
                    obtain ⟨n_104, en_104⟩ : ∃ f : Nat → Int32, f = upd n_100 (6 * i92 + 393) (-1) := ⟨_, rfl⟩
                    rw [← en_104]
                    have hnn_104 := KI.w en_104 hnn_100 (okv_f (show kd (6 * i92 + 393) = (0, 0, false) from (kd_W (k := i92) (c := 3) (by omega) (by omega) (by decide))))
                    have hrn_104 := NRx.w en_104 hrn_100 (by rw [(show kd (6 * i92 + 393) = (0, 0, false) from (kd_W (k := i92) (c := 3) (by omega) (by omega) (by decide)))])
                    have ksn_104 := KS.w en_104 ksn_100 (by unfold tS; omega)
                    have e105 : n_104 3 = nI k93 := by rw [en_104, pk_un (by omega)]; exact e101
                    have e106 : n_104 (6 * i92 + 391) = (-1) := by rw [en_104, pk_un (by omega)]; exact e102
                    have e107 : n_104 (6 * i92 + 392) = (-1) := by rw [en_104, pk_un (by omega)]; exact e103
                    have e108 : n_104 (6 * i92 + 393) = (-1) := by rw [en_104, pk_us]
                    refine pm_iincX (v := nI (i92 + 1)) (loc' := [some (.ref (B + 54)), some (.int za), some (.int x8), some (.int (nI (i92 + 1))), some (.int (nI 0))]) hG dX12_die_166 rfl (nI_1 _) (by decide) (pm_c1b rfl) rfl ?_
                    refine pm_goto (tgt := 107) hG dX12_die_169 rfl ?_
                    refine pm_fg 4 (loc' := [some (.ref (B + 54)), some (.int za), some (.int x8), some (.int (nI (i92 + 1))), none]) rfl ?_
                    exact ih92 I92 A92 n_104 (i92 + 1) hnn_104 ksn_104 hrn_104 (by omega) (by omega)
              · refine pm_top (v := nI k96) ek96 ?_
                refine pm_iloadn hG dX12_die_123 rfl ?_
                refine pm_top (v := nI k4) ek4 ?_
                refine pm_icmpN_ne (tgt := 131) hG dX12_die_124 rfl (by omega) (by omega) (fun c109 => ?_) (fun c109 => ?_)
                · refine pm_iconst (v := nI 0) hG dX12_die_131 (by decide) ?_
                  refine pm_istoreXi (loc' := [some (.ref (B + 54)), some (.int za), some (.int x8), some (.int (nI i92)), some (.int (nI 0))]) hG dX12_die_132 (by decide) (pm_c1b rfl) rfl ?_
                  refine pm_iloadi hG dX12_die_134 rfl ?_
                  refine pm_ifN_eq (tgt := 146) hG dX12_die_136 rfl (by omega) (fun _ => ?_) (fun q => absurd q (by omega))
                  refine pm_iloadi hG dX12_die_146 rfl ?_
                  refine pm_ifN_ne (tgt := 161) hG dX12_die_148 rfl (by omega) (fun q => absurd q (by omega)) (fun _ => ?_)
                  refine pm_aloadn hG dX12_die_151 rfl ?_
                  refine pm_iloadn hG dX12_die_152 rfl ?_
                  refine pm_iconst (v := nI 2) hG dX12_die_153 (by decide) ?_
                  refine pm_callV (As := [.int (nI i92), .int (nI 2)]) (rest := []) hG hR dX12_die_154 (lkX12_110 _ rfl) okV_X12_its rfl rfl (m_its (d := 3) (e := 6 * i92 + 392) (by omega) (by omega) (by omega)) rfl rfl hdd (Nat.le_refl _) (Nat.le_refl _) (by decide) (pm_ki (fun v110 σ' cnt' hq => ?_))
                  obtain ⟨rfl, rfl, rfl⟩ := hq
                  rcases KI.opt hnn_92 (show kd (6 * i92 + 392) = (2, 20, false) from (kd_W (k := i92) (c := 2) (by omega) (by omega) (by decide))) with ek111 | ⟨k111, hk111, ek111⟩
                  · refine pm_top (v := (-1)) ek111 ?_
                    refine pm_iloadn hG dX12_die_157 rfl ?_
                    refine pm_top (v := nI k4) ek4 ?_
                    refine pm_icmp_ne (tgt := 166) hG dX12_die_158 rfl (fun _ => ?_) (fun q => absurd q ((fun q => nI_m1 (by omega) q.symm)))
                    refine pm_iincX (v := nI (i92 + 1)) (loc' := [some (.ref (B + 54)), some (.int za), some (.int x8), some (.int (nI (i92 + 1))), some (.int (nI 0))]) hG dX12_die_166 rfl (nI_1 _) (by decide) (pm_c1b rfl) rfl ?_
                    refine pm_goto (tgt := 107) hG dX12_die_169 rfl ?_
                    refine pm_fg 4 (loc' := [some (.ref (B + 54)), some (.int za), some (.int x8), some (.int (nI (i92 + 1))), none]) rfl ?_
                    exact ih92 I92 A92 n_92 (i92 + 1) hnn_92 ksn_92 hrn_92 (by omega) (by omega)
                  · refine pm_top (v := nI k111) ek111 ?_
                    refine pm_iloadn hG dX12_die_157 rfl ?_
                    refine pm_top (v := nI k4) ek4 ?_
                    refine pm_icmpN_ne (tgt := 166) hG dX12_die_158 rfl (by omega) (by omega) (fun c112 => ?_) (fun c112 => ?_)
                    · refine pm_iincX (v := nI (i92 + 1)) (loc' := [some (.ref (B + 54)), some (.int za), some (.int x8), some (.int (nI (i92 + 1))), some (.int (nI 0))]) hG dX12_die_166 rfl (nI_1 _) (by decide) (pm_c1b rfl) rfl ?_
                      refine pm_goto (tgt := 107) hG dX12_die_169 rfl ?_
                      refine pm_fg 4 (loc' := [some (.ref (B + 54)), some (.int za), some (.int x8), some (.int (nI (i92 + 1))), none]) rfl ?_
                      exact ih92 I92 A92 n_92 (i92 + 1) hnn_92 ksn_92 hrn_92 (by omega) (by omega)
                    · refine pm_aloadn hG dX12_die_161 rfl ?_
                      refine pm_iloadn hG dX12_die_162 rfl ?_
                      refine pm_callV (As := [.int (nI i92)]) (rest := []) hG hR dX12_die_163 (lkX12_116 _ rfl) okV_X12_comesBack rfl rfl (m_comesBack (d := 3) (e := 6 * i92 + 392) (e2 := 6 * i92 + 393) (by decide) (by omega) (by omega) (by omega)) rfl rfl hdd (Nat.le_refl _) (Nat.le_refl _) (by decide) (pm_kv (fun σ' cnt' hq => ?_))
                      obtain ⟨rfl, rfl⟩ := hq
                      obtain ⟨n_113, en_113⟩ : ∃ f : Nat → Int32, f = upd n_92 (6 * i92 + 392) (-1) := ⟨_, rfl⟩
                      rw [← en_113]
                      have hnn_113 := KI.w en_113 hnn_92 (okv_m (show kd (6 * i92 + 392) = (2, 20, false) from (kd_W (k := i92) (c := 2) (by omega) (by omega) (by decide))))
                      have hrn_113 := NRx.w en_113 hrn_92 (by rw [(show kd (6 * i92 + 392) = (2, 20, false) from (kd_W (k := i92) (c := 2) (by omega) (by omega) (by decide)))])
                      have ksn_113 := KS.w en_113 ksn_92 (by unfold tS; omega)
                      have e114 : n_113 3 = nI k93 := by rw [en_113, pk_un (by omega)]; exact ek93
                      have e115 : n_113 (6 * i92 + 391) = nI k96 := by rw [en_113, pk_un (by omega)]; exact ek96
                      have e116 : n_113 (6 * i92 + 392) = (-1) := by rw [en_113, pk_us]
                      obtain ⟨n_117, en_117⟩ : ∃ f : Nat → Int32, f = upd n_113 (6 * i92 + 393) (-1) := ⟨_, rfl⟩
                      rw [← en_117]
                      have hnn_117 := KI.w en_117 hnn_113 (okv_f (show kd (6 * i92 + 393) = (0, 0, false) from (kd_W (k := i92) (c := 3) (by omega) (by omega) (by decide))))
                      have hrn_117 := NRx.w en_117 hrn_113 (by rw [(show kd (6 * i92 + 393) = (0, 0, false) from (kd_W (k := i92) (c := 3) (by omega) (by omega) (by decide)))])
                      have ksn_117 := KS.w en_117 ksn_113 (by unfold tS; omega)
                      have e118 : n_117 3 = nI k93 := by rw [en_117, pk_un (by omega)]; exact e114
                      have e119 : n_117 (6 * i92 + 391) = nI k96 := by rw [en_117, pk_un (by omega)]; exact e115
                      have e120 : n_117 (6 * i92 + 392) = (-1) := by rw [en_117, pk_un (by omega)]; exact e116
                      have e121 : n_117 (6 * i92 + 393) = (-1) := by rw [en_117, pk_us]
                      refine pm_iincX (v := nI (i92 + 1)) (loc' := [some (.ref (B + 54)), some (.int za), some (.int x8), some (.int (nI (i92 + 1))), some (.int (nI 0))]) hG dX12_die_166 rfl (nI_1 _) (by decide) (pm_c1b rfl) rfl ?_
                      refine pm_goto (tgt := 107) hG dX12_die_169 rfl ?_
                      refine pm_fg 4 (loc' := [some (.ref (B + 54)), some (.int za), some (.int x8), some (.int (nI (i92 + 1))), none]) rfl ?_
                      exact ih92 I92 A92 n_117 (i92 + 1) hnn_117 ksn_117 hrn_117 (by omega) (by omega)
                · refine pm_iconst (v := nI 1) hG dX12_die_127 (by decide) ?_
                  refine pm_goto (tgt := 132) hG dX12_die_128 rfl ?_
                  refine pm_istoreXi (loc' := [some (.ref (B + 54)), some (.int za), some (.int x8), some (.int (nI i92)), some (.int (nI 1))]) hG dX12_die_132 (by decide) (pm_c1b rfl) rfl ?_
                  refine pm_iloadi hG dX12_die_134 rfl ?_
                  refine pm_ifN_eq (tgt := 146) hG dX12_die_136 rfl (by omega) (fun q => absurd q (by omega)) (fun _ => ?_)
                  refine pm_aloadn hG dX12_die_139 rfl ?_
                  refine pm_iloadn hG dX12_die_140 rfl ?_
                  refine pm_iconst (v := nI 1) hG dX12_die_141 (by decide) ?_
                  refine pm_iconst (v := (-1)) hG dX12_die_142 (by decide) ?_
                  refine pm_callV (As := [.int (nI i92), .int (nI 1), .int (-1)]) (rest := []) hG hR dX12_die_143 (lkX12_113 _ rfl) okV_X12_makes rfl rfl (m_makes (d := 3) (e := 6 * i92 + 391) (by omega) (by omega) (by omega)) rfl rfl hdd (Nat.le_refl _) (Nat.le_refl _) (by decide) (pm_kv (fun σ' cnt' hq => ?_))
                  obtain ⟨rfl, rfl⟩ := hq
                  obtain ⟨n_122, en_122⟩ : ∃ f : Nat → Int32, f = upd n_92 (6 * i92 + 391) (-1) := ⟨_, rfl⟩
                  rw [← en_122]
                  have hnn_122 := KI.w en_122 hnn_92 (okv_m (show kd (6 * i92 + 391) = (2, 20, false) from (kd_W (k := i92) (c := 1) (by omega) (by omega) (by decide))))
                  have hrn_122 := NRx.w en_122 hrn_92 (by rw [(show kd (6 * i92 + 391) = (2, 20, false) from (kd_W (k := i92) (c := 1) (by omega) (by omega) (by decide)))])
                  have ksn_122 := KS.w en_122 ksn_92 (by unfold tS; omega)
                  have e123 : n_122 3 = nI k93 := by rw [en_122, pk_un (by omega)]; exact ek93
                  have e124 : n_122 (6 * i92 + 391) = (-1) := by rw [en_122, pk_us]
                  refine pm_iloadi hG dX12_die_146 rfl ?_
                  refine pm_ifN_ne (tgt := 161) hG dX12_die_148 rfl (by omega) (fun _ => ?_) (fun q => absurd q (by omega))
                  refine pm_aloadn hG dX12_die_161 rfl ?_
                  refine pm_iloadn hG dX12_die_162 rfl ?_
                  refine pm_callV (As := [.int (nI i92)]) (rest := []) hG hR dX12_die_163 (lkX12_116 _ rfl) okV_X12_comesBack rfl rfl (m_comesBack (d := 3) (e := 6 * i92 + 392) (e2 := 6 * i92 + 393) (by decide) (by omega) (by omega) (by omega)) rfl rfl hdd (Nat.le_refl _) (Nat.le_refl _) (by decide) (pm_kv (fun σ' cnt' hq => ?_))
                  obtain ⟨rfl, rfl⟩ := hq
                  obtain ⟨n_125, en_125⟩ : ∃ f : Nat → Int32, f = upd n_122 (6 * i92 + 392) (-1) := ⟨_, rfl⟩
                  rw [← en_125]
                  have hnn_125 := KI.w en_125 hnn_122 (okv_m (show kd (6 * i92 + 392) = (2, 20, false) from (kd_W (k := i92) (c := 2) (by omega) (by omega) (by decide))))
                  have hrn_125 := NRx.w en_125 hrn_122 (by rw [(show kd (6 * i92 + 392) = (2, 20, false) from (kd_W (k := i92) (c := 2) (by omega) (by omega) (by decide)))])
                  have ksn_125 := KS.w en_125 ksn_122 (by unfold tS; omega)
                  have e126 : n_125 3 = nI k93 := by rw [en_125, pk_un (by omega)]; exact e123
                  have e127 : n_125 (6 * i92 + 391) = (-1) := by rw [en_125, pk_un (by omega)]; exact e124
                  have e128 : n_125 (6 * i92 + 392) = (-1) := by rw [en_125, pk_us]
                  obtain ⟨n_129, en_129⟩ : ∃ f : Nat → Int32, f = upd n_125 (6 * i92 + 393) (-1) := ⟨_, rfl⟩
                  rw [← en_129]
                  have hnn_129 := KI.w en_129 hnn_125 (okv_f (show kd (6 * i92 + 393) = (0, 0, false) from (kd_W (k := i92) (c := 3) (by omega) (by omega) (by decide))))
                  have hrn_129 := NRx.w en_129 hrn_125 (by rw [(show kd (6 * i92 + 393) = (0, 0, false) from (kd_W (k := i92) (c := 3) (by omega) (by omega) (by decide)))])
                  have ksn_129 := KS.w en_129 ksn_125 (by unfold tS; omega)
                  have e130 : n_129 3 = nI k93 := by rw [en_129, pk_un (by omega)]; exact e126
                  have e131 : n_129 (6 * i92 + 391) = (-1) := by rw [en_129, pk_un (by omega)]; exact e127
                  have e132 : n_129 (6 * i92 + 392) = (-1) := by rw [en_129, pk_un (by omega)]; exact e128
                  have e133 : n_129 (6 * i92 + 393) = (-1) := by rw [en_129, pk_us]
                  refine pm_iincX (v := nI (i92 + 1)) (loc' := [some (.ref (B + 54)), some (.int za), some (.int x8), some (.int (nI (i92 + 1))), some (.int (nI 1))]) hG dX12_die_166 rfl (nI_1 _) (by decide) (pm_c1b rfl) rfl ?_
                  refine pm_goto (tgt := 107) hG dX12_die_169 rfl ?_
                  refine pm_fg 4 (loc' := [some (.ref (B + 54)), some (.int za), some (.int x8), some (.int (nI (i92 + 1))), none]) rfl ?_
                  exact ih92 I92 A92 n_129 (i92 + 1) hnn_129 ksn_129 hrn_129 (by omega) (by omega)
        exact loop107_92 _ I10 A10 n_91 0 hn91 (hks91.tr ksn_37) hr91 (by omega) (Nat.lt_succ_self _)
    · refine pm_callV (As := [.int (nI k4)]) (rest := []) hG hR dX12_die_16 (lkX12_101 _ rfl) okV_X12_lives rfl rfl (m_lives0 (d := 3) (by decide) (by omega) (by omega : 14 * k4 + 119 = 14 * k4 + 119) ek5 (by omega)) rfl rfl hdd (Nat.le_refl _) (Nat.le_refl _) (by decide) (pm_ki (fun v134 σ' cnt' hq => ?_))
      obtain ⟨rfl, rfl, rfl⟩ := hq
      refine pm_ifN_ne (tgt := 28) hG dX12_die_19 rfl (by omega) (fun q => absurd q (by omega)) (fun _ => ?_)
      refine pm_aloadn hG dX12_die_22 rfl ?_
      refine pm_iconst (v := nI 3) hG dX12_die_23 (by decide) ?_
      refine pm_callV (As := [.int (nI 3)]) (rest := []) hG hR dX12_die_24 (lkX12_80 _ rfl) okV_X12_finds rfl rfl (m_finds (d := 3) (by decide) hn hz (by omega)) rfl rfl hdd (Nat.le_refl _) (Nat.le_refl _) (by decide) (pm_ki (fun v135 σ' cnt' hq => ?_))
      obtain ⟨⟨I136, A136, rfl⟩, rfl, fv135⟩ := hq
      exact pm_iret hG hF dX12_die_27 rfl (Nat.le_refl _) (Nat.le_refl _) ⟨_, rfl, ⟨_, _, _, rfl, hn, hr, KS.rf⟩, rfl⟩
  · refine pm_ifN_ne (tgt := 14) hG dX12_die_5 rfl (by omega) (fun q => absurd q (by omega)) (fun _ => ?_)
    refine pm_aloadn hG dX12_die_8 rfl ?_
    refine pm_iconst (v := nI 1) hG dX12_die_9 (by decide) ?_
    refine pm_callV (As := [.int (nI 1)]) (rest := []) hG hR dX12_die_10 (lkX12_80 _ rfl) okV_X12_finds rfl rfl (m_finds (d := 3) (by decide) hn hz (by omega)) rfl rfl hdd (Nat.le_refl _) (Nat.le_refl _) (by decide) (pm_ki (fun v137 σ' cnt' hq => ?_))
    obtain ⟨⟨I138, A138, rfl⟩, rfl, fv137⟩ := hq
    exact pm_iret hG hF dX12_die_13 rfl (Nat.le_refl _) (Nat.le_refl _) ⟨_, rfl, ⟨_, _, _, rfl, hn, hr, KS.rf⟩, rfl⟩
