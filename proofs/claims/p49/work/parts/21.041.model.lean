set_option maxRecDepth 100000 in
set_option maxHeartbeats 4000000 in
theorem m_days {d B cnt p0 t0 : Nat} {σ : pm_S} {I : Nat → Int32} {A : Nat → Nat → Int32} {n k z : Nat → Int32} {ac wt pl im : Int32} {y : Nat → Int32} {za : Int32} (hdd : 3 ≤ d) (hn : KI n) (hr : NR n) (hz : SZ z)  : pm_met mX12_days d 0 0 B [.ref (B + 54), .int za] cnt (pm_mid σ (md_L B I A n k z ac wt pl (nI p0) (nI t0) im y)) (pm_Qi (fun v σ' cnt' => (∃ (I' : Nat → Int32) (A' : Nat → Nat → Int32) (n' : Nat → Int32), σ' = pm_mid σ (md_L B I' A' n' k z ac wt pl (nI p0) (nI t0) im y) ∧ KI n' ∧ NR n') ∧ cnt = cnt')) := by
  refine pm_enter 2 (by decide) (Nat.le_of_ble_eq_true rfl) rfl (fun G hG hR hF => ?_)
  refine pm_iloadn hG dX12_days_0 rfl ?_
  refine pm_iconst (v := nI 1) hG dX12_days_1 (by decide) ?_
  refine pm_sipush (v := nI 400) hG dX12_days_2 (by decide) ?_
  refine pm_callS (As := [.int za, .int (nI 1), .int (nI 400)]) (rest := []) hG hR dX12_days_5 (lkX12_68 _ rfl) okS_X12_in (m_in (d := 2)) rfl rfl hdd (Nat.le_refl _) (Nat.le_refl _) (by decide) (pm_ki (fun v1 σ' cnt' hq => ?_))
  obtain ⟨hq, rfl, rfl⟩ := hq
  rcases hq with ⟨rfl, ac2, bc2⟩ | ⟨rfl, c2⟩
  · obtain ⟨k3, hk3, ek3⟩ := in_nat (by omega) (by omega) ac2 bc2
    refine pm_ifN_eq (tgt := 26) hG dX12_days_8 rfl (by omega) (fun q => absurd q (by omega)) (fun _ => ?_)
    refine pm_aloadn hG dX12_days_11 rfl ?_
    refine pm_getf hG dX12_days_12 (flX12_7 _ rfl) rfl rfl ?_
    refine pm_bipush (v := nI 8) hG dX12_days_15 (by decide) ?_
    refine pm_ialdN hG dX12_days_17 rfl (by decide) (by omega) ?_
    obtain ⟨k4, hk4, ek4⟩ := KI.nat hn (show kd 8 = (1, 2001, false) by decide)
    refine pm_top (v := nI k4) ek4 ?_
    refine pm_iloadn hG dX12_days_18 rfl ?_
    refine pm_top (v := nI k3) ek3 ?_
    refine pm_iaddN (c := k3 + k4) hG dX12_days_19 (by omega) ?_
    refine pm_sipush (v := nI 2000) hG dX12_days_20 (by decide) ?_
    refine pm_icmpN_le (tgt := 32) hG dX12_days_23 rfl (by omega) (by omega) (fun c5 => ?_) (fun c5 => ?_)
    · refine pm_iconst (v := nI 0) hG dX12_days_32 (by decide) ?_
      refine pm_istoreXn (loc' := [some (.ref (B + 54)), some (.int za), some (.int (nI 0)), none]) hG dX12_days_33 (by decide) (pm_c1b rfl) rfl ?_
      have loop34_6 : ∀ (m6 : Nat) (I6 : Nat → Int32) (A6 : Nat → Nat → Int32) (n_6 : Nat → Int32) (i6 : Nat), KI n_6 → NRx 40 n_6 → n_6 8 = nI (i6 + k4) → i6 ≤ 400 → 400 - i6 < m6 → pm_wp mX12_days G B 34 [some (.ref (B + 54)), some (.int za), some (.int (nI i6)), none] [] 0 0 cnt (pm_mid σ (md_L B I6 A6 n_6 k z ac wt pl (nI p0) (nI t0) im y)) := by
        intro m6
        induction m6 with
        | zero => intro I6 A6 n_6 i6 _ _ _ _ hm; exact absurd hm (Nat.not_lt_zero _)
        | succ m6 ih6 =>
          intro I6 A6 n_6 i6 hnn_6 hrn_6 kc6_8 hi6 hm6
          refine pm_iloadn hG dX12_days_34 rfl ?_
          refine pm_iloadn hG dX12_days_35 rfl ?_
          refine pm_top (v := nI k3) ek3 ?_
          refine pm_icmpN_ge (tgt := 185) hG dX12_days_36 rfl (by omega) (by omega) (fun c7 => ?_) (fun c7 => ?_)
          · refine pm_aloadn hG dX12_days_185 rfl ?_
            refine pm_getf hG dX12_days_186 (flX12_7 _ rfl) rfl rfl ?_
            refine pm_bipush (v := nI 8) hG dX12_days_189 (by decide) ?_
            refine pm_ialdN hG dX12_days_191 rfl (by decide) (by omega) ?_
            refine pm_top (v := nI (i6 + k4)) kc6_8 ?_
            exact pm_iret hG hF dX12_days_192 rfl (Nat.le_refl _) (Nat.le_refl _) ⟨_, rfl, ⟨_, _, _, rfl, hnn_6, hrn_6⟩, rfl⟩
          · refine pm_aloadn hG dX12_days_39 rfl ?_
            refine pm_getf hG dX12_days_40 (flX12_7 _ rfl) rfl rfl ?_
            refine pm_bipush (v := nI 8) hG dX12_days_43 (by decide) ?_
            refine pm_dup2 hG dX12_days_45 rfl rfl ?_
            refine pm_ialdN hG dX12_days_46 rfl (by decide) (by omega) ?_
            refine pm_top (v := nI (i6 + k4)) kc6_8 ?_
            refine pm_iconst (v := nI 1) hG dX12_days_47 (by decide) ?_
            refine pm_iaddN (c := i6 + k4 + 1) hG dX12_days_48 (by omega) ?_
            refine pm_iastN hG dX12_days_49 rfl (by decide) (by omega) ?_
            refine mdn_now (fun n_8 en_8 => ?_)
            have hnn_8 := KI.w en_8 hnn_6 (okv_n (show kd 8 = (1, 2001, false) by decide) (by omega))
            have hrn_8 := NRx.w en_8 hrn_6 (by rw [(show kd 8 = (1, 2001, false) by decide)])
            have e9 : n_8 8 = nI (i6 + k4 + 1) := by rw [en_8, pk_us]
            refine pm_iconst (v := nI 0) hG dX12_days_50 (by decide) ?_
            refine pm_istoreXn (loc' := [some (.ref (B + 54)), some (.int za), some (.int (nI i6)), some (.int (nI 0))]) hG dX12_days_51 (by decide) (pm_c1b rfl) rfl ?_
            have loop52_10 : ∀ (m10 : Nat) (I10 : Nat → Int32) (A10 : Nat → Nat → Int32) (n_10 : Nat → Int32) (i10 : Nat), KI n_10 → NRx 40 n_10 → n_10 8 = nI (i6 + k4 + 1) → i10 ≤ 20 → 20 - i10 < m10 → pm_wp mX12_days G B 52 [some (.ref (B + 54)), some (.int za), some (.int (nI i6)), some (.int (nI i10))] [] 0 0 cnt (pm_mid σ (md_L B I10 A10 n_10 k z ac wt pl (nI p0) (nI t0) im y)) := by
              intro m10
              induction m10 with
              | zero => intro I10 A10 n_10 i10 _ _ _ _ hm; exact absurd hm (Nat.not_lt_zero _)
              | succ m10 ih10 =>
                intro I10 A10 n_10 i10 hnn_10 hrn_10 kc10_8 hi10 hm10
                refine pm_iloadn hG dX12_days_52 rfl ?_
                refine pm_aloadn hG dX12_days_53 rfl ?_
                refine pm_getf hG dX12_days_54 (flX12_7 _ rfl) rfl rfl ?_
                refine pm_iconst (v := nI 2) hG dX12_days_57 (by decide) ?_
                refine pm_ialdN hG dX12_days_58 rfl (by decide) (by omega) ?_
                obtain ⟨k11, hk11, ek11⟩ := KI.nat hnn_10 (show kd 2 = (1, 21, true) by decide)
                refine pm_top (v := nI k11) ek11 ?_
                refine pm_icmpN_ge (tgt := 114) hG dX12_days_59 rfl (by omega) (by omega) (fun c12 => ?_) (fun c12 => ?_)
                · refine pm_iconst (v := nI 0) hG dX12_days_114 (by decide) ?_
                  refine pm_istoreXn (loc' := [some (.ref (B + 54)), some (.int za), some (.int (nI i6)), some (.int (nI 0))]) hG dX12_days_115 (by decide) (pm_c1b rfl) rfl ?_
                  have loop116_13 : ∀ (m13 : Nat) (I13 : Nat → Int32) (A13 : Nat → Nat → Int32) (n_13 : Nat → Int32) (i13 : Nat), KI n_13 → NRx 40 n_13 → n_13 8 = nI (i6 + k4 + 1) → i13 ≤ 20 → 20 - i13 < m13 → pm_wp mX12_days G B 116 [some (.ref (B + 54)), some (.int za), some (.int (nI i6)), some (.int (nI i13))] [] 0 0 cnt (pm_mid σ (md_L B I13 A13 n_13 k z ac wt pl (nI p0) (nI t0) im y)) := by
                    intro m13
                    induction m13 with
                    | zero => intro I13 A13 n_13 i13 _ _ _ _ hm; exact absurd hm (Nat.not_lt_zero _)
                    | succ m13 ih13 =>
                      intro I13 A13 n_13 i13 hnn_13 hrn_13 kc13_8 hi13 hm13
                      refine pm_iloadn hG dX12_days_116 rfl ?_
                      refine pm_aloadn hG dX12_days_117 rfl ?_
                      refine pm_getf hG dX12_days_118 (flX12_7 _ rfl) rfl rfl ?_
                      refine pm_iconst (v := nI 3) hG dX12_days_121 (by decide) ?_
                      refine pm_ialdN hG dX12_days_122 rfl (by decide) (by omega) ?_
                      obtain ⟨k14, hk14, ek14⟩ := KI.nat hnn_13 (show kd 3 = (1, 21, false) by decide)
                      refine pm_top (v := nI k14) ek14 ?_
                      refine pm_icmpN_ge (tgt := 162) hG dX12_days_123 rfl (by omega) (by omega) (fun c15 => ?_) (fun c15 => ?_)
                      · refine pm_aloadn hG dX12_days_162 rfl ?_
                        refine pm_getf hG dX12_days_163 (flX12_7 _ rfl) rfl rfl ?_
                        refine pm_bipush (v := nI 8) hG dX12_days_166 (by decide) ?_
                        refine pm_ialdN hG dX12_days_168 rfl (by decide) (by omega) ?_
                        refine pm_top (v := nI (i6 + k4 + 1)) kc13_8 ?_
                        refine pm_bipush (v := nI 90) hG dX12_days_169 (by decide) ?_
                        refine pm_iremM hG dX12_days_171 (by omega) (by decide) (by decide) ?_
                        refine pm_ifN_ne (tgt := 179) hG dX12_days_172 rfl (by omega) (fun c16 => ?_) (fun c16 => ?_)
                        · refine pm_iincX (v := nI (i6 + 1)) (loc' := [some (.ref (B + 54)), some (.int za), some (.int (nI (i6 + 1))), some (.int (nI i13))]) hG dX12_days_179 rfl (nI_1 _) (by decide) (pm_c1b rfl) rfl ?_
                          refine pm_goto (tgt := 34) hG dX12_days_182 rfl ?_
                          refine pm_fg 3 (loc' := [some (.ref (B + 54)), some (.int za), some (.int (nI (i6 + 1))), none]) rfl ?_
                          exact ih6 I13 A13 n_13 (i6 + 1) hnn_13 hrn_13 (kc13_8.trans (congrArg nI (by omega))) (by omega) (by omega)
                        · refine pm_aloadn hG dX12_days_175 rfl ?_
                          refine pm_callV (As := []) (rest := []) hG hR dX12_days_176 (lkX12_236 _ rfl) okV_X12_quarter rfl rfl (m_quarter (d := 2) (by decide) hnn_13 hrn_13 hz) rfl rfl hdd (Nat.le_refl _) (Nat.le_refl _) (by decide) (pm_kv (fun σ' cnt' hq => ?_))
                          obtain ⟨⟨n_18, rfl, hn18, hr18, hc18_8⟩, rfl⟩ := hq
                          have e19 : n_18 8 = nI (i6 + k4 + 1) := hc18_8.trans kc13_8
                          refine pm_iincX (v := nI (i6 + 1)) (loc' := [some (.ref (B + 54)), some (.int za), some (.int (nI (i6 + 1))), some (.int (nI i13))]) hG dX12_days_179 rfl (nI_1 _) (by decide) (pm_c1b rfl) rfl ?_
                          refine pm_goto (tgt := 34) hG dX12_days_182 rfl ?_
                          refine pm_fg 3 (loc' := [some (.ref (B + 54)), some (.int za), some (.int (nI (i6 + 1))), none]) rfl ?_
                          exact ih6 I13 A13 n_18 (i6 + 1) hn18 hr18 (e19.trans (congrArg nI (by omega))) (by omega) (by omega)
                      · refine pm_aloadn hG dX12_days_126 rfl ?_
                        refine pm_iloadn hG dX12_days_127 rfl ?_
                        refine pm_iconst (v := nI 2) hG dX12_days_128 (by decide) ?_
                        refine pm_callV (As := [.int (nI i13), .int (nI 2)]) (rest := []) hG hR dX12_days_129 (lkX12_110 _ rfl) okV_X12_its rfl rfl (m_its (d := 2) (e := 6 * i13 + 392) (by omega) (by omega) (by omega)) rfl rfl hdd (Nat.le_refl _) (Nat.le_refl _) (by decide) (pm_ki (fun v20 σ' cnt' hq => ?_))
                        obtain ⟨rfl, rfl, rfl⟩ := hq
                        rcases KI.opt hnn_13 (show kd (6 * i13 + 392) = (2, 20, false) from (kd_W (k := i13) (c := 2) (by omega) (by omega) (by decide))) with ek21 | ⟨k21, hk21, ek21⟩
                        · refine pm_top (v := (-1)) ek21 ?_
                          refine pm_if_lt (tgt := 156) hG dX12_days_132 rfl (fun _ => ?_) (fun q => absurd q (by decide))
                          refine pm_iincX (v := nI (i13 + 1)) (loc' := [some (.ref (B + 54)), some (.int za), some (.int (nI i6)), some (.int (nI (i13 + 1)))]) hG dX12_days_156 rfl (nI_1 _) (by decide) (pm_c1b rfl) rfl ?_
                          refine pm_goto (tgt := 116) hG dX12_days_159 rfl ?_
                          exact ih13 I13 A13 n_13 (i13 + 1) hnn_13 hrn_13 (kc13_8.trans (congrArg nI (by omega))) (by omega) (by omega)
                        · refine pm_top (v := nI k21) ek21 ?_
                          refine pm_ifN_lt hG dX12_days_132 rfl (by omega) ?_
                          refine pm_aloadn hG dX12_days_135 rfl ?_
                          refine pm_iloadn hG dX12_days_136 rfl ?_
                          refine pm_iconst (v := nI 3) hG dX12_days_137 (by decide) ?_
                          refine pm_callV (As := [.int (nI i13), .int (nI 3)]) (rest := []) hG hR dX12_days_138 (lkX12_110 _ rfl) okV_X12_its rfl rfl (m_its (d := 2) (e := 6 * i13 + 393) (by omega) (by omega) (by omega)) rfl rfl hdd (Nat.le_refl _) (Nat.le_refl _) (by decide) (pm_ki (fun v22 σ' cnt' hq => ?_))
                          obtain ⟨rfl, rfl, rfl⟩ := hq
                          refine pm_gen (fun x23 ex23 => ?_)
                          refine pm_aloadn hG dX12_days_141 rfl ?_
                          refine pm_getf hG dX12_days_142 (flX12_7 _ rfl) rfl rfl ?_
                          refine pm_bipush (v := nI 8) hG dX12_days_145 (by decide) ?_
                          refine pm_ialdN hG dX12_days_147 rfl (by decide) (by omega) ?_
                          refine pm_top (v := nI (i6 + k4 + 1)) kc13_8 ?_
                          refine pm_icmp_ge (tgt := 156) hG dX12_days_148 rfl (fun c24 => ?_) (fun c24 => ?_)
                          · refine pm_iincX (v := nI (i13 + 1)) (loc' := [some (.ref (B + 54)), some (.int za), some (.int (nI i6)), some (.int (nI (i13 + 1)))]) hG dX12_days_156 rfl (nI_1 _) (by decide) (pm_c1b rfl) rfl ?_
                            refine pm_goto (tgt := 116) hG dX12_days_159 rfl ?_
                            exact ih13 I13 A13 n_13 (i13 + 1) hnn_13 hrn_13 (kc13_8.trans (congrArg nI (by omega))) (by omega) (by omega)
                          · refine pm_aloadn hG dX12_days_151 rfl ?_
                            refine pm_iloadn hG dX12_days_152 rfl ?_
                            refine pm_callV (As := [.int (nI i13)]) (rest := []) hG hR dX12_days_153 (lkX12_116 _ rfl) okV_X12_comesBack rfl rfl (m_comesBack (d := 2) (e := 6 * i13 + 392) (e2 := 6 * i13 + 393) (by decide) (by omega) (by omega) (by omega)) rfl rfl hdd (Nat.le_refl _) (Nat.le_refl _) (by decide) (pm_kv (fun σ' cnt' hq => ?_))
                            obtain ⟨rfl, rfl⟩ := hq
                            obtain ⟨n_25, en_25⟩ : ∃ f : Nat → Int32, f = upd n_13 (6 * i13 + 392) (-1) := ⟨_, rfl⟩
                            rw [← en_25]
                            have hnn_25 := KI.w en_25 hnn_13 (okv_m (show kd (6 * i13 + 392) = (2, 20, false) from (kd_W (k := i13) (c := 2) (by omega) (by omega) (by decide))))
                            have hrn_25 := NRx.w en_25 hrn_13 (by rw [(show kd (6 * i13 + 392) = (2, 20, false) from (kd_W (k := i13) (c := 2) (by omega) (by omega) (by decide)))])
                            have e26 : n_25 8 = nI (i6 + k4 + 1) := by rw [en_25, pk_un (by omega)]; exact kc13_8
                            have e27 : n_25 3 = nI k14 := by rw [en_25, pk_un (by omega)]; exact ek14
                            have e28 : n_25 (6 * i13 + 393) = x23 := by rw [en_25, pk_un (by omega)]; exact ex23
                            have e29 : n_25 (6 * i13 + 392) = (-1) := by rw [en_25, pk_us]
                            obtain ⟨n_30, en_30⟩ : ∃ f : Nat → Int32, f = upd n_25 (6 * i13 + 393) (-1) := ⟨_, rfl⟩
                            rw [← en_30]
                            have hnn_30 := KI.w en_30 hnn_25 (okv_f (show kd (6 * i13 + 393) = (0, 0, false) from (kd_W (k := i13) (c := 3) (by omega) (by omega) (by decide))))
                            have hrn_30 := NRx.w en_30 hrn_25 (by rw [(show kd (6 * i13 + 393) = (0, 0, false) from (kd_W (k := i13) (c := 3) (by omega) (by omega) (by decide)))])
                            have e31 : n_30 8 = nI (i6 + k4 + 1) := by rw [en_30, pk_un (by omega)]; exact e26
                            have e32 : n_30 3 = nI k14 := by rw [en_30, pk_un (by omega)]; exact e27
                            have e33 : n_30 (6 * i13 + 392) = (-1) := by rw [en_30, pk_un (by omega)]; exact e29
                            have e34 : n_30 (6 * i13 + 393) = (-1) := by rw [en_30, pk_us]
                            refine pm_iincX (v := nI (i13 + 1)) (loc' := [some (.ref (B + 54)), some (.int za), some (.int (nI i6)), some (.int (nI (i13 + 1)))]) hG dX12_days_156 rfl (nI_1 _) (by decide) (pm_c1b rfl) rfl ?_
                            refine pm_goto (tgt := 116) hG dX12_days_159 rfl ?_
                            exact ih13 I13 A13 n_30 (i13 + 1) hnn_30 hrn_30 (e31.trans (congrArg nI (by omega))) (by omega) (by omega)
                  exact loop116_13 _ I10 A10 n_10 0 hnn_10 hrn_10 (kc10_8.trans (congrArg nI (by omega))) (by omega) (Nat.lt_succ_self _)
                · refine pm_aloadn hG dX12_days_62 rfl ?_
                  refine pm_iloadn hG dX12_days_63 rfl ?_
                  rcases KI.opt hnn_10 (show kd (14 * i10 + 119) = (2, 2001, false) from (kd_P (k := i10) (c := 9) (by omega) (by omega) (by decide))) with ek35 | ⟨k35, hk35, ek35⟩
                  · refine pm_callV (As := [.int (nI i10)]) (rest := []) hG hR dX12_days_64 (lkX12_101 _ rfl) okV_X12_lives rfl rfl (m_lives1 (d := 2) (by decide) (by omega) (by omega : 14 * i10 + 119 = 14 * i10 + 119) ek35) rfl rfl hdd (Nat.le_refl _) (Nat.le_refl _) (by decide) (pm_ki (fun v36 σ' cnt' hq => ?_))
                    obtain ⟨rfl, rfl, rfl⟩ := hq
                    refine pm_ifN_eq (tgt := 108) hG dX12_days_67 rfl (by omega) (fun q => absurd q (by omega)) (fun _ => ?_)
                    refine pm_aloadn hG dX12_days_70 rfl ?_
                    refine pm_iloadn hG dX12_days_71 rfl ?_
                    refine pm_iconst (v := nI 4) hG dX12_days_72 (by decide) ?_
                    refine pm_callV (As := [.int (nI i10), .int (nI 4)]) (rest := []) hG hR dX12_days_73 (lkX12_72 _ rfl) okV_X12_man rfl rfl (m_man (d := 2) (e := 14 * i10 + 114) (by omega) (by omega) (by omega)) rfl rfl hdd (Nat.le_refl _) (Nat.le_refl _) (by decide) (pm_ki (fun v37 σ' cnt' hq => ?_))
                    obtain ⟨rfl, rfl, rfl⟩ := hq
                    rcases KI.opt hnn_10 (show kd (14 * i10 + 114) = (2, 10, false) from (kd_P (k := i10) (c := 4) (by omega) (by omega) (by decide))) with ek38 | ⟨k38, hk38, ek38⟩
                    · refine pm_top (v := (-1)) ek38 ?_
                      refine pm_if_ge (tgt := 108) hG dX12_days_76 rfl (fun q => absurd q (by decide)) (fun _ => ?_)
                      refine pm_aloadn hG dX12_days_79 rfl ?_
                      refine pm_iloadn hG dX12_days_80 rfl ?_
                      refine pm_bipush (v := nI 6) hG dX12_days_81 (by decide) ?_
                      refine pm_callV (As := [.int (nI i10), .int (nI 6)]) (rest := []) hG hR dX12_days_83 (lkX12_72 _ rfl) okV_X12_man rfl rfl (m_man (d := 2) (e := 14 * i10 + 116) (by omega) (by omega) (by omega)) rfl rfl hdd (Nat.le_refl _) (Nat.le_refl _) (by decide) (pm_ki (fun v39 σ' cnt' hq => ?_))
                      obtain ⟨rfl, rfl, rfl⟩ := hq
                      refine pm_gen (fun x40 ex40 => ?_)
                      refine pm_aloadn hG dX12_days_86 rfl ?_
                      refine pm_getf hG dX12_days_87 (flX12_7 _ rfl) rfl rfl ?_
                      refine pm_bipush (v := nI 8) hG dX12_days_90 (by decide) ?_
                      refine pm_ialdN hG dX12_days_92 rfl (by decide) (by omega) ?_
                      refine pm_top (v := nI (i6 + k4 + 1)) kc10_8 ?_
                      refine pm_icmp_ne (tgt := 108) hG dX12_days_93 rfl (fun c41 => ?_) (fun c41 => ?_)
                      · refine pm_iincX (v := nI (i10 + 1)) (loc' := [some (.ref (B + 54)), some (.int za), some (.int (nI i6)), some (.int (nI (i10 + 1)))]) hG dX12_days_108 rfl (nI_1 _) (by decide) (pm_c1b rfl) rfl ?_
                        refine pm_goto (tgt := 52) hG dX12_days_111 rfl ?_
                        exact ih10 I10 A10 n_10 (i10 + 1) hnn_10 hrn_10 (kc10_8.trans (congrArg nI (by omega))) (by omega) (by omega)
                      · refine pm_aloadn hG dX12_days_96 rfl ?_
                        refine pm_iloadn hG dX12_days_97 rfl ?_
                        refine pm_iconst (v := nI 4) hG dX12_days_98 (by decide) ?_
                        refine pm_aloadn hG dX12_days_99 rfl ?_
                        refine pm_iloadn hG dX12_days_100 rfl ?_
                        refine pm_iconst (v := nI 5) hG dX12_days_101 (by decide) ?_
                        refine pm_callV (As := [.int (nI i10), .int (nI 5)]) (rest := [.int (nI 4), .int (nI i10), .ref (B + 54)]) hG hR dX12_days_102 (lkX12_72 _ rfl) okV_X12_man rfl rfl (m_man (d := 2) (e := 14 * i10 + 115) (by omega) (by omega) (by omega)) rfl rfl hdd (Nat.le_refl _) (Nat.le_refl _) (Nat.le_of_ble_eq_true rfl) (pm_ki (fun v42 σ' cnt' hq => ?_))
                        obtain ⟨rfl, rfl, rfl⟩ := hq
                        obtain ⟨k43, hk43, ek43⟩ := KI.nat hnn_10 (show kd (14 * i10 + 115) = (1, 10, false) from (kd_P (k := i10) (c := 5) (by omega) (by omega) (by decide)))
                        refine pm_top (v := nI k43) ek43 ?_
                        refine pm_callV (As := [.int (nI i10), .int (nI 4), .int (nI k43)]) (rest := []) hG hR dX12_days_105 (lkX12_97 _ rfl) okV_X12_sets rfl rfl (m_sets (d := 2) (e := 14 * i10 + 114) (by omega) (by omega) (by omega)) rfl rfl hdd (Nat.le_refl _) (Nat.le_refl _) (by decide) (pm_kv (fun σ' cnt' hq => ?_))
                        obtain ⟨rfl, rfl⟩ := hq
                        obtain ⟨n_44, en_44⟩ : ∃ f : Nat → Int32, f = upd n_10 (14 * i10 + 114) (nI k43) := ⟨_, rfl⟩
                        rw [← en_44]
                        have hnn_44 := KI.w en_44 hnn_10 (okv_o (show kd (14 * i10 + 114) = (2, 10, false) from (kd_P (k := i10) (c := 4) (by omega) (by omega) (by decide))) (by omega))
                        have hrn_44 := NRx.w en_44 hrn_10 (by rw [(show kd (14 * i10 + 114) = (2, 10, false) from (kd_P (k := i10) (c := 4) (by omega) (by omega) (by decide)))])
                        have e45 : n_44 8 = nI (i6 + k4 + 1) := by rw [en_44, pk_un (by omega)]; exact kc10_8
                        have e46 : n_44 2 = nI k11 := by rw [en_44, pk_un (by omega)]; exact ek11
                        have e47 : n_44 (14 * i10 + 119) = (-1) := by rw [en_44, pk_un (by omega)]; exact ek35
                        have e48 : n_44 (14 * i10 + 116) = x40 := by rw [en_44, pk_un (by omega)]; exact ex40
                        have e49 : n_44 (14 * i10 + 115) = nI k43 := by rw [en_44, pk_un (by omega)]; exact ek43
                        have e50 : n_44 (14 * i10 + 114) = nI k43 := by rw [en_44, pk_us]
                        refine pm_iincX (v := nI (i10 + 1)) (loc' := [some (.ref (B + 54)), some (.int za), some (.int (nI i6)), some (.int (nI (i10 + 1)))]) hG dX12_days_108 rfl (nI_1 _) (by decide) (pm_c1b rfl) rfl ?_
                        refine pm_goto (tgt := 52) hG dX12_days_111 rfl ?_
                        exact ih10 I10 A10 n_44 (i10 + 1) hnn_44 hrn_44 (e45.trans (congrArg nI (by omega))) (by omega) (by omega)
                    · refine pm_top (v := nI k38) ek38 ?_
                      refine pm_ifN_ge (tgt := 108) hG dX12_days_76 rfl (by omega) ?_
                      refine pm_iincX (v := nI (i10 + 1)) (loc' := [some (.ref (B + 54)), some (.int za), some (.int (nI i6)), some (.int (nI (i10 + 1)))]) hG dX12_days_108 rfl (nI_1 _) (by decide) (pm_c1b rfl) rfl ?_
                      refine pm_goto (tgt := 52) hG dX12_days_111 rfl ?_
                      exact ih10 I10 A10 n_10 (i10 + 1) hnn_10 hrn_10 (kc10_8.trans (congrArg nI (by omega))) (by omega) (by omega)
                  · refine pm_callV (As := [.int (nI i10)]) (rest := []) hG hR dX12_days_64 (lkX12_101 _ rfl) okV_X12_lives rfl rfl (m_lives0 (d := 2) (by decide) (by omega) (by omega : 14 * i10 + 119 = 14 * i10 + 119) ek35 (by omega)) rfl rfl hdd (Nat.le_refl _) (Nat.le_refl _) (by decide) (pm_ki (fun v51 σ' cnt' hq => ?_))
                    obtain ⟨rfl, rfl, rfl⟩ := hq
                    refine pm_ifN_eq (tgt := 108) hG dX12_days_67 rfl (by omega) (fun _ => ?_) (fun q => absurd q (by omega))
                    refine pm_iincX (v := nI (i10 + 1)) (loc' := [some (.ref (B + 54)), some (.int za), some (.int (nI i6)), some (.int (nI (i10 + 1)))]) hG dX12_days_108 rfl (nI_1 _) (by decide) (pm_c1b rfl) rfl ?_
                    refine pm_goto (tgt := 52) hG dX12_days_111 rfl ?_
                    exact ih10 I10 A10 n_10 (i10 + 1) hnn_10 hrn_10 (kc10_8.trans (congrArg nI (by omega))) (by omega) (by omega)
            exact loop52_10 _ I6 A6 n_8 0 hnn_8 hrn_8 (e9.trans (congrArg nI (by omega))) (by omega) (Nat.lt_succ_self _)
      exact loop34_6 _ I A n 0 hn hr (ek4.trans (congrArg nI (by omega))) (by omega) (Nat.lt_succ_self _)
    · refine pm_aloadn hG dX12_days_26 rfl ?_
      refine pm_iconst (v := nI 1) hG dX12_days_27 (by decide) ?_
      refine pm_callV (As := [.int (nI 1)]) (rest := []) hG hR dX12_days_28 (lkX12_80 _ rfl) okV_X12_finds rfl rfl (m_finds (d := 2) (by decide) hn hz (by omega)) rfl rfl hdd (Nat.le_refl _) (Nat.le_refl _) (by decide) (pm_ki (fun v52 σ' cnt' hq => ?_))
      obtain ⟨⟨I53, A53, rfl⟩, rfl, fv52⟩ := hq
      exact pm_iret hG hF dX12_days_31 rfl (Nat.le_refl _) (Nat.le_refl _) ⟨_, rfl, ⟨_, _, _, rfl, hn, hr⟩, rfl⟩
  · refine pm_ifN_eq (tgt := 26) hG dX12_days_8 rfl (by omega) (fun _ => ?_) (fun q => absurd q (by omega))
    refine pm_aloadn hG dX12_days_26 rfl ?_
    refine pm_iconst (v := nI 1) hG dX12_days_27 (by decide) ?_
    refine pm_callV (As := [.int (nI 1)]) (rest := []) hG hR dX12_days_28 (lkX12_80 _ rfl) okV_X12_finds rfl rfl (m_finds (d := 2) (by decide) hn hz (by omega)) rfl rfl hdd (Nat.le_refl _) (Nat.le_refl _) (by decide) (pm_ki (fun v54 σ' cnt' hq => ?_))
    obtain ⟨⟨I55, A55, rfl⟩, rfl, fv54⟩ := hq
    exact pm_iret hG hF dX12_days_31 rfl (Nat.le_refl _) (Nat.le_refl _) ⟨_, rfl, ⟨_, _, _, rfl, hn, hr⟩, rfl⟩
