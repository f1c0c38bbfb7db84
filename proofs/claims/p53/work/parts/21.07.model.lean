set_option maxRecDepth 100000 in
set_option maxHeartbeats 4000000 in
theorem m_days {d B cnt p0 t0 : Nat} {σ : pm_S} {I : Nat → Int32} {A : Nat → Nat → Int32} {n k z : Nat → Int32} {ac wt pl im : Int32} {za : Int32} (hdd : 3 ≤ d) (hn : KI n) (hr : NR n) (hz : SZ z)  : pm_met mX12_days d 0 0 B [.ref (B + 54), .int za] cnt (pm_mid σ (md_L B I A n k z ac wt pl (nI p0) (nI t0) im)) (pm_Qi (fun v σ' cnt' => (∃ (I' : Nat → Int32) (A' : Nat → Nat → Int32) (n' : Nat → Int32), σ' = pm_mid σ (md_L B I' A' n' k z ac wt pl (nI p0) (nI t0) im) ∧ KI n' ∧ NR n' ∧ n' 11 = n 11) ∧ cnt = cnt')) := by
  obtain ⟨kc11, hkc11, ekc11⟩ := KI.nat hn (show kd 11 = (1, 21, false) by decide)
  refine pm_enter 2 (by decide) (Nat.le_of_ble_eq_true rfl) rfl (fun G hG hR hF => ?_)
  refine pm_iloadn hG dX12_days_0 rfl ?_
  refine pm_iconst (v := nI 1) hG dX12_days_1 (by decide) ?_
  refine pm_sipush (v := nI 400) hG dX12_days_2 (by decide) ?_
  refine pm_callS (As := [.int za, .int (nI 1), .int (nI 400)]) (rest := []) hG hR dX12_days_5 (lkX12_68 _ rfl) okS_X12_in (m_in (d := 2)) rfl rfl hdd (Nat.le_refl _) (Nat.le_refl _) (by decide) (pm_ki (fun v1 σ' cnt' hq => ?_))
  obtain ⟨hq, rfl, rfl⟩ := hq
  rcases hq with ⟨rfl, ac2, bc2⟩ | ⟨rfl, c2⟩
  · obtain ⟨k3, hk3, ek3⟩ := in_nat (by omega) (by omega) ac2 bc2
    refine pm_ifN_eq (tgt := 26) hG dX12_days_8 rfl (by omega) (fun q => absurd q (by omega)) (fun _ => ?_)
    refine pm_aloadn hG dX12_days_11 rfl ?_
    refine pm_getf hG dX12_days_12 (flX12_7 _ rfl) rfl rfl ?_
    refine pm_bipush (v := nI 8) hG dX12_days_15 (by decide) ?_
    refine pm_ialdN hG dX12_days_17 rfl (by decide) (by omega) ?_
    obtain ⟨k4, hk4, ek4⟩ := KI.nat hn (show kd 8 = (1, 2001, false) by decide)
    refine pm_top (v := nI k4) ek4 ?_
    refine pm_iloadn hG dX12_days_18 rfl ?_
    refine pm_top (v := nI k3) ek3 ?_
    refine pm_iaddN (c := k3 + k4) hG dX12_days_19 (by omega) ?_
    refine pm_sipush (v := nI 2000) hG dX12_days_20 (by decide) ?_
    refine pm_icmpN_le (tgt := 32) hG dX12_days_23 rfl (by omega) (by omega) (fun c5 => ?_) (fun c5 => ?_)
    · refine pm_iconst (v := nI 0) hG dX12_days_32 (by decide) ?_
      refine pm_istoreXn (loc' := [some (.ref (B + 54)), some (.int za), some (.int (nI 0)), none]) hG dX12_days_33 (by decide) (pm_c1b rfl) rfl ?_
      have loop34_6 : ∀ (m6 : Nat) (I6 : Nat → Int32) (A6 : Nat → Nat → Int32) (n_6 : Nat → Int32) (i6 : Nat), KI n_6 → NRx 40 n_6 → n_6 11 = nI kc11 → n_6 8 = nI (i6 + k4) → i6 ≤ 400 → 400 - i6 < m6 → pm_wp mX12_days G B 34 [some (.ref (B + 54)), some (.int za), some (.int (nI i6)), none] [] 0 0 cnt (pm_mid σ (md_L B I6 A6 n_6 k z ac wt pl (nI p0) (nI t0) im)) := by
        intro m6
        induction m6 with
        | zero => intro I6 A6 n_6 i6 _ _ _ _ _ hm; exact absurd hm (Nat.not_lt_zero _)
        | succ m6 ih6 =>
          intro I6 A6 n_6 i6 hnn_6 hrn_6 kc6_11 kc6_8 hi6 hm6
          refine pm_iloadn hG dX12_days_34 rfl ?_
          refine pm_iloadn hG dX12_days_35 rfl ?_
          refine pm_top (v := nI k3) ek3 ?_
          refine pm_icmpN_ge (tgt := 185) hG dX12_days_36 rfl (by omega) (by omega) (fun c7 => ?_) (fun c7 => ?_)
          · refine pm_aloadn hG dX12_days_185 rfl ?_
            refine pm_getf hG dX12_days_186 (flX12_7 _ rfl) rfl rfl ?_
            refine pm_bipush (v := nI 8) hG dX12_days_189 (by decide) ?_
            refine pm_ialdN hG dX12_days_191 rfl (by decide) (by omega) ?_
            refine pm_top (v := nI (i6 + k4)) kc6_8 ?_
            exact pm_iret hG hF dX12_days_192 rfl (Nat.le_refl _) (Nat.le_refl _) ⟨_, rfl, ⟨_, _, _, rfl, hnn_6, hrn_6, kc6_11.trans ekc11.symm⟩, rfl⟩
          · refine pm_aloadn hG dX12_days_39 rfl ?_
            refine pm_getf hG dX12_days_40 (flX12_7 _ rfl) rfl rfl ?_
            refine pm_bipush (v := nI 8) hG dX12_days_43 (by decide) ?_
            refine pm_dup2 hG dX12_days_45 rfl rfl ?_
            refine pm_ialdN hG dX12_days_46 rfl (by decide) (by omega) ?_
            refine pm_top (v := nI (i6 + k4)) kc6_8 ?_
            refine pm_iconst (v := nI 1) hG dX12_days_47 (by decide) ?_
            refine pm_iaddN (c := i6 + k4 + 1) hG dX12_days_48 (by omega) ?_
            refine pm_iastN hG dX12_days_49 rfl (by decide) (by omega) ?_
            refine mdn_now (fun n_8 en_8 => ?_)
            have hnn_8 := KI.w en_8 hnn_6 (okv_n (show kd 8 = (1, 2001, false) by decide) (by omega))
            have hrn_8 := NRx.w en_8 hrn_6 (by rw [(show kd 8 = (1, 2001, false) by decide)])
            have e9 : n_8 11 = nI kc11 := by rw [en_8, pk_un (by omega)]; exact kc6_11
            have e10 : n_8 8 = nI (i6 + k4 + 1) := by rw [en_8, pk_us]
            refine pm_iconst (v := nI 0) hG dX12_days_50 (by decide) ?_
            refine pm_istoreXn (loc' := [some (.ref (B + 54)), some (.int za), some (.int (nI i6)), some (.int (nI 0))]) hG dX12_days_51 (by decide) (pm_c1b rfl) rfl ?_
            have loop52_11 : ∀ (m11 : Nat) (I11 : Nat → Int32) (A11 : Nat → Nat → Int32) (n_11 : Nat → Int32) (i11 : Nat), KI n_11 → NRx 40 n_11 → n_11 8 = nI (i6 + k4 + 1) → n_11 11 = nI kc11 → i11 ≤ 20 → 20 - i11 < m11 → pm_wp mX12_days G B 52 [some (.ref (B + 54)), some (.int za), some (.int (nI i6)), some (.int (nI i11))] [] 0 0 cnt (pm_mid σ (md_L B I11 A11 n_11 k z ac wt pl (nI p0) (nI t0) im)) := by
              intro m11
              induction m11 with
              | zero => intro I11 A11 n_11 i11 _ _ _ _ _ hm; exact absurd hm (Nat.not_lt_zero _)
              | succ m11 ih11 =>
                intro I11 A11 n_11 i11 hnn_11 hrn_11 kc11_8 kc11_11 hi11 hm11
                refine pm_iloadn hG dX12_days_52 rfl ?_
                refine pm_aloadn hG dX12_days_53 rfl ?_
                refine pm_getf hG dX12_days_54 (flX12_7 _ rfl) rfl rfl ?_
                refine pm_iconst (v := nI 2) hG dX12_days_57 (by decide) ?_
                refine pm_ialdN hG dX12_days_58 rfl (by decide) (by omega) ?_
                obtain ⟨k12, hk12, ek12⟩ := KI.nat hnn_11 (show kd 2 = (1, 21, true) by decide)
                refine pm_top (v := nI k12) ek12 ?_
                refine pm_icmpN_ge (tgt := 114) hG dX12_days_59 rfl (by omega) (by omega) (fun c13 => ?_) (fun c13 => ?_)
                · refine pm_iconst (v := nI 0) hG dX12_days_114 (by decide) ?_
                  refine pm_istoreXn (loc' := [some (.ref (B + 54)), some (.int za), some (.int (nI i6)), some (.int (nI 0))]) hG dX12_days_115 (by decide) (pm_c1b rfl) rfl ?_
                  have loop116_14 : ∀ (m14 : Nat) (I14 : Nat → Int32) (A14 : Nat → Nat → Int32) (n_14 : Nat → Int32) (i14 : Nat), KI n_14 → NRx 40 n_14 → n_14 8 = nI (i6 + k4 + 1) → n_14 11 = nI kc11 → i14 ≤ 20 → 20 - i14 < m14 → pm_wp mX12_days G B 116 [some (.ref (B + 54)), some (.int za), some (.int (nI i6)), some (.int (nI i14))] [] 0 0 cnt (pm_mid σ (md_L B I14 A14 n_14 k z ac wt pl (nI p0) (nI t0) im)) := by
                    intro m14
                    induction m14 with
                    | zero => intro I14 A14 n_14 i14 _ _ _ _ _ hm; exact absurd hm (Nat.not_lt_zero _)
                    | succ m14 ih14 =>
                      intro I14 A14 n_14 i14 hnn_14 hrn_14 kc14_8 kc14_11 hi14 hm14
                      refine pm_iloadn hG dX12_days_116 rfl ?_
                      refine pm_aloadn hG dX12_days_117 rfl ?_
                      refine pm_getf hG dX12_days_118 (flX12_7 _ rfl) rfl rfl ?_
                      refine pm_iconst (v := nI 3) hG dX12_days_121 (by decide) ?_
                      refine pm_ialdN hG dX12_days_122 rfl (by decide) (by omega) ?_
                      obtain ⟨k15, hk15, ek15⟩ := KI.nat hnn_14 (show kd 3 = (1, 21, false) by decide)
                      refine pm_top (v := nI k15) ek15 ?_
                      refine pm_icmpN_ge (tgt := 162) hG dX12_days_123 rfl (by omega) (by omega) (fun c16 => ?_) (fun c16 => ?_)
                      · refine pm_aloadn hG dX12_days_162 rfl ?_
                        refine pm_getf hG dX12_days_163 (flX12_7 _ rfl) rfl rfl ?_
                        refine pm_bipush (v := nI 8) hG dX12_days_166 (by decide) ?_
                        refine pm_ialdN hG dX12_days_168 rfl (by decide) (by omega) ?_
                        refine pm_top (v := nI (i6 + k4 + 1)) kc14_8 ?_
                        refine pm_bipush (v := nI 90) hG dX12_days_169 (by decide) ?_
                        refine pm_iremM hG dX12_days_171 (by omega) (by decide) (by decide) ?_
                        refine pm_ifN_ne (tgt := 179) hG dX12_days_172 rfl (by omega) (fun c17 => ?_) (fun c17 => ?_)
                        · refine pm_iincX (v := nI (i6 + 1)) (loc' := [some (.ref (B + 54)), some (.int za), some (.int (nI (i6 + 1))), some (.int (nI i14))]) hG dX12_days_179 rfl (nI_1 _) (by decide) (pm_c1b rfl) rfl ?_
                          refine pm_goto (tgt := 34) hG dX12_days_182 rfl ?_
                          refine pm_fg 3 (loc' := [some (.ref (B + 54)), some (.int za), some (.int (nI (i6 + 1))), none]) rfl ?_
                          exact ih6 I14 A14 n_14 (i6 + 1) hnn_14 hrn_14 (kc14_11.trans (congrArg nI (by omega))) (kc14_8.trans (congrArg nI (by omega))) (by omega) (by omega)
                        · refine pm_aloadn hG dX12_days_175 rfl ?_
                          refine pm_callV (As := []) (rest := []) hG hR dX12_days_176 (lkX12_236 _ rfl) okV_X12_quarter rfl rfl (m_quarter (d := 2) (by decide) hnn_14 hrn_14 hz) rfl rfl hdd (Nat.le_refl _) (Nat.le_refl _) (by decide) (pm_kv (fun σ' cnt' hq => ?_))
                          obtain ⟨⟨n_19, rfl, hn19, hr19, hc19_8, hc19_11⟩, rfl⟩ := hq
                          have e20 : n_19 8 = nI (i6 + k4 + 1) := hc19_8.trans kc14_8
                          have e21 : n_19 11 = nI kc11 := hc19_11.trans kc14_11
                          refine pm_iincX (v := nI (i6 + 1)) (loc' := [some (.ref (B + 54)), some (.int za), some (.int (nI (i6 + 1))), some (.int (nI i14))]) hG dX12_days_179 rfl (nI_1 _) (by decide) (pm_c1b rfl) rfl ?_
                          refine pm_goto (tgt := 34) hG dX12_days_182 rfl ?_
                          refine pm_fg 3 (loc' := [some (.ref (B + 54)), some (.int za), some (.int (nI (i6 + 1))), none]) rfl ?_
                          exact ih6 I14 A14 n_19 (i6 + 1) hn19 hr19 (e21.trans (congrArg nI (by omega))) (e20.trans (congrArg nI (by omega))) (by omega) (by omega)
                      · refine pm_aloadn hG dX12_days_126 rfl ?_
                        refine pm_iloadn hG dX12_days_127 rfl ?_
                        refine pm_iconst (v := nI 2) hG dX12_days_128 (by decide) ?_
                        refine pm_callV (As := [.int (nI i14), .int (nI 2)]) (rest := []) hG hR dX12_days_129 (lkX12_110 _ rfl) okV_X12_its rfl rfl (m_its (d := 2) (e := 6 * i14 + 392) (by omega) (by omega) (by omega)) rfl rfl hdd (Nat.le_refl _) (Nat.le_refl _) (by decide) (pm_ki (fun v22 σ' cnt' hq => ?_))
                        obtain ⟨rfl, rfl, rfl⟩ := hq
                        rcases KI.opt hnn_14 (show kd (6 * i14 + 392) = (2, 20, false) from (kd_W (k := i14) (c := 2) (by omega) (by omega) (by decide))) with ek23 | ⟨k23, hk23, ek23⟩
                        · refine pm_top (v := (-1)) ek23 ?_
                          refine pm_if_lt (tgt := 156) hG dX12_days_132 rfl (fun _ => ?_) (fun q => absurd q (by decide))
                          refine pm_iincX (v := nI (i14 + 1)) (loc' := [some (.ref (B + 54)), some (.int za), some (.int (nI i6)), some (.int (nI (i14 + 1)))]) hG dX12_days_156 rfl (nI_1 _) (by decide) (pm_c1b rfl) rfl ?_
                          refine pm_goto (tgt := 116) hG dX12_days_159 rfl ?_
                          exact ih14 I14 A14 n_14 (i14 + 1) hnn_14 hrn_14 (kc14_8.trans (congrArg nI (by omega))) (kc14_11.trans (congrArg nI (by omega))) (by omega) (by omega)
                        · refine pm_top (v := nI k23) ek23 ?_
                          refine pm_ifN_lt hG dX12_days_132 rfl (by omega) ?_
                          refine pm_aloadn hG dX12_days_135 rfl ?_
                          refine pm_iloadn hG dX12_days_136 rfl ?_
                          refine pm_iconst (v := nI 3) hG dX12_days_137 (by decide) ?_
                          refine pm_callV (As := [.int (nI i14), .int (nI 3)]) (rest := []) hG hR dX12_days_138 (lkX12_110 _ rfl) okV_X12_its rfl rfl (m_its (d := 2) (e := 6 * i14 + 393) (by omega) (by omega) (by omega)) rfl rfl hdd (Nat.le_refl _) (Nat.le_refl _) (by decide) (pm_ki (fun v24 σ' cnt' hq => ?_))
                          obtain ⟨rfl, rfl, rfl⟩ := hq
                          refine pm_gen (fun x25 ex25 => ?_)
                          refine pm_aloadn hG dX12_days_141 rfl ?_
                          refine pm_getf hG dX12_days_142 (flX12_7 _ rfl) rfl rfl ?_
                          refine pm_bipush (v := nI 8) hG dX12_days_145 (by decide) ?_
                          refine pm_ialdN hG dX12_days_147 rfl (by decide) (by omega) ?_
                          refine pm_top (v := nI (i6 + k4 + 1)) kc14_8 ?_
                          refine pm_icmp_ge (tgt := 156) hG dX12_days_148 rfl (fun c26 => ?_) (fun c26 => ?_)
                          · refine pm_iincX (v := nI (i14 + 1)) (loc' := [some (.ref (B + 54)), some (.int za), some (.int (nI i6)), some (.int (nI (i14 + 1)))]) hG dX12_days_156 rfl (nI_1 _) (by decide) (pm_c1b rfl) rfl ?_
                            refine pm_goto (tgt := 116) hG dX12_days_159 rfl ?_
                            exact ih14 I14 A14 n_14 (i14 + 1) hnn_14 hrn_14 (kc14_8.trans (congrArg nI (by omega))) (kc14_11.trans (congrArg nI (by omega))) (by omega) (by omega)
                          · refine pm_aloadn hG dX12_days_151 rfl ?_
                            refine pm_iloadn hG dX12_days_152 rfl ?_
                            refine pm_callV (As := [.int (nI i14)]) (rest := []) hG hR dX12_days_153 (lkX12_116 _ rfl) okV_X12_comesBack rfl rfl (m_comesBack (d := 2) (e := 6 * i14 + 392) (e2 := 6 * i14 + 393) (by decide) (by omega) (by omega) (by omega)) rfl rfl hdd (Nat.le_refl _) (Nat.le_refl _) (by decide) (pm_kv (fun σ' cnt' hq => ?_))
                            obtain ⟨rfl, rfl⟩ := hq
                            obtain ⟨n_27, en_27⟩ : ∃ f : Nat → Int32, f = upd n_14 (6 * i14 + 392) (-1) := ⟨_, rfl⟩
                            rw [← en_27]
                            have hnn_27 := KI.w en_27 hnn_14 (okv_m (show kd (6 * i14 + 392) = (2, 20, false) from (kd_W (k := i14) (c := 2) (by omega) (by omega) (by decide))))
                            have hrn_27 := NRx.w en_27 hrn_14 (by rw [(show kd (6 * i14 + 392) = (2, 20, false) from (kd_W (k := i14) (c := 2) (by omega) (by omega) (by decide)))])
                            have e28 : n_27 8 = nI (i6 + k4 + 1) := by rw [en_27, pk_un (by omega)]; exact kc14_8
                            have e29 : n_27 11 = nI kc11 := by rw [en_27, pk_un (by omega)]; exact kc14_11
                            have e30 : n_27 3 = nI k15 := by rw [en_27, pk_un (by omega)]; exact ek15
                            have e31 : n_27 (6 * i14 + 393) = x25 := by rw [en_27, pk_un (by omega)]; exact ex25
                            have e32 : n_27 (6 * i14 + 392) = (-1) := by rw [en_27, pk_us]
                            obtain ⟨n_33, en_33⟩ : ∃ f : Nat → Int32, f = upd n_27 (6 * i14 + 393) (-1) := ⟨_, rfl⟩
                            rw [← en_33]
                            have hnn_33 := KI.w en_33 hnn_27 (okv_f (show kd (6 * i14 + 393) = (0, 0, false) from (kd_W (k := i14) (c := 3) (by omega) (by omega) (by decide))))
                            have hrn_33 := NRx.w en_33 hrn_27 (by rw [(show kd (6 * i14 + 393) = (0, 0, false) from (kd_W (k := i14) (c := 3) (by omega) (by omega) (by decide)))])
                            have e34 : n_33 8 = nI (i6 + k4 + 1) := by rw [en_33, pk_un (by omega)]; exact e28
                            have e35 : n_33 11 = nI kc11 := by rw [en_33, pk_un (by omega)]; exact e29
                            have e36 : n_33 3 = nI k15 := by rw [en_33, pk_un (by omega)]; exact e30
                            have e37 : n_33 (6 * i14 + 392) = (-1) := by rw [en_33, pk_un (by omega)]; exact e32
                            have e38 : n_33 (6 * i14 + 393) = (-1) := by rw [en_33, pk_us]
                            refine pm_iincX (v := nI (i14 + 1)) (loc' := [some (.ref (B + 54)), some (.int za), some (.int (nI i6)), some (.int (nI (i14 + 1)))]) hG dX12_days_156 rfl (nI_1 _) (by decide) (pm_c1b rfl) rfl ?_
                            refine pm_goto (tgt := 116) hG dX12_days_159 rfl ?_
                            exact ih14 I14 A14 n_33 (i14 + 1) hnn_33 hrn_33 (e34.trans (congrArg nI (by omega))) (e35.trans (congrArg nI (by omega))) (by omega) (by omega)
                  exact loop116_14 _ I11 A11 n_11 0 hnn_11 hrn_11 (kc11_8.trans (congrArg nI (by omega))) (kc11_11.trans (congrArg nI (by omega))) (by omega) (Nat.lt_succ_self _)
                · refine pm_aloadn hG dX12_days_62 rfl ?_
                  refine pm_iloadn hG dX12_days_63 rfl ?_
                  rcases KI.opt hnn_11 (show kd (14 * i11 + 119) = (2, 2001, false) from (kd_P (k := i11) (c := 9) (by omega) (by omega) (by decide))) with ek39 | ⟨k39, hk39, ek39⟩
                  · refine pm_callV (As := [.int (nI i11)]) (rest := []) hG hR dX12_days_64 (lkX12_101 _ rfl) okV_X12_lives rfl rfl (m_lives1 (d := 2) (by decide) (by omega) (by omega : 14 * i11 + 119 = 14 * i11 + 119) ek39) rfl rfl hdd (Nat.le_refl _) (Nat.le_refl _) (by decide) (pm_ki (fun v40 σ' cnt' hq => ?_))
                    obtain ⟨rfl, rfl, rfl⟩ := hq
                    refine pm_ifN_eq (tgt := 108) hG dX12_days_67 rfl (by omega) (fun q => absurd q (by omega)) (fun _ => ?_)
                    refine pm_aloadn hG dX12_days_70 rfl ?_
                    refine pm_iloadn hG dX12_days_71 rfl ?_
                    refine pm_iconst (v := nI 4) hG dX12_days_72 (by decide) ?_
                    refine pm_callV (As := [.int (nI i11), .int (nI 4)]) (rest := []) hG hR dX12_days_73 (lkX12_72 _ rfl) okV_X12_man rfl rfl (m_man (d := 2) (e := 14 * i11 + 114) (by omega) (by omega) (by omega)) rfl rfl hdd (Nat.le_refl _) (Nat.le_refl _) (by decide) (pm_ki (fun v41 σ' cnt' hq => ?_))
                    obtain ⟨rfl, rfl, rfl⟩ := hq
                    rcases KI.opt hnn_11 (show kd (14 * i11 + 114) = (2, 10, false) from (kd_P (k := i11) (c := 4) (by omega) (by omega) (by decide))) with ek42 | ⟨k42, hk42, ek42⟩
                    · refine pm_top (v := (-1)) ek42 ?_
                      refine pm_if_ge (tgt := 108) hG dX12_days_76 rfl (fun q => absurd q (by decide)) (fun _ => ?_)
                      refine pm_aloadn hG dX12_days_79 rfl ?_
                      refine pm_iloadn hG dX12_days_80 rfl ?_
                      refine pm_bipush (v := nI 6) hG dX12_days_81 (by decide) ?_
                      refine pm_callV (As := [.int (nI i11), .int (nI 6)]) (rest := []) hG hR dX12_days_83 (lkX12_72 _ rfl) okV_X12_man rfl rfl (m_man (d := 2) (e := 14 * i11 + 116) (by omega) (by omega) (by omega)) rfl rfl hdd (Nat.le_refl _) (Nat.le_refl _) (by decide) (pm_ki (fun v43 σ' cnt' hq => ?_))
                      obtain ⟨rfl, rfl, rfl⟩ := hq
                      refine pm_gen (fun x44 ex44 => ?_)
                      refine pm_aloadn hG dX12_days_86 rfl ?_
                      refine pm_getf hG dX12_days_87 (flX12_7 _ rfl) rfl rfl ?_
                      refine pm_bipush (v := nI 8) hG dX12_days_90 (by decide) ?_
                      refine pm_ialdN hG dX12_days_92 rfl (by decide) (by omega) ?_
                      refine pm_top (v := nI (i6 + k4 + 1)) kc11_8 ?_
                      refine pm_icmp_ne (tgt := 108) hG dX12_days_93 rfl (fun c45 => ?_) (fun c45 => ?_)
                      · refine pm_iincX (v := nI (i11 + 1)) (loc' := [some (.ref (B + 54)), some (.int za), some (.int (nI i6)), some (.int (nI (i11 + 1)))]) hG dX12_days_108 rfl (nI_1 _) (by decide) (pm_c1b rfl) rfl ?_
                        refine pm_goto (tgt := 52) hG dX12_days_111 rfl ?_
                        exact ih11 I11 A11 n_11 (i11 + 1) hnn_11 hrn_11 (kc11_8.trans (congrArg nI (by omega))) (kc11_11.trans (congrArg nI (by omega))) (by omega) (by omega)
                      · refine pm_aloadn hG dX12_days_96 rfl ?_
                        refine pm_iloadn hG dX12_days_97 rfl ?_
                        refine pm_iconst (v := nI 4) hG dX12_days_98 (by decide) ?_
                        refine pm_aloadn hG dX12_days_99 rfl ?_
                        refine pm_iloadn hG dX12_days_100 rfl ?_
                        refine pm_iconst (v := nI 5) hG dX12_days_101 (by decide) ?_
                        refine pm_callV (As := [.int (nI i11), .int (nI 5)]) (rest := [.int (nI 4), .int (nI i11), .ref (B + 54)]) hG hR dX12_days_102 (lkX12_72 _ rfl) okV_X12_man rfl rfl (m_man (d := 2) (e := 14 * i11 + 115) (by omega) (by omega) (by omega)) rfl rfl hdd (Nat.le_refl _) (Nat.le_refl _) (Nat.le_of_ble_eq_true rfl) (pm_ki (fun v46 σ' cnt' hq => ?_))
                        obtain ⟨rfl, rfl, rfl⟩ := hq
                        obtain ⟨k47, hk47, ek47⟩ := KI.nat hnn_11 (show kd (14 * i11 + 115) = (1, 10, false) from (kd_P (k := i11) (c := 5) (by omega) (by omega) (by decide)))
                        refine pm_top (v := nI k47) ek47 ?_
                        refine pm_callV (As := [.int (nI i11), .int (nI 4), .int (nI k47)]) (rest := []) hG hR dX12_days_105 (lkX12_97 _ rfl) okV_X12_sets rfl rfl (m_sets (d := 2) (e := 14 * i11 + 114) (by omega) (by omega) (by omega)) rfl rfl hdd (Nat.le_refl _) (Nat.le_refl _) (by decide) (pm_kv (fun σ' cnt' hq => ?_))
                        obtain ⟨rfl, rfl⟩ := hq
                        obtain ⟨n_48, en_48⟩ : ∃ f : Nat → Int32, f = upd n_11 (14 * i11 + 114) (nI k47) := ⟨_, rfl⟩
                        rw [← en_48]
                        have hnn_48 := KI.w en_48 hnn_11 (okv_o (show kd (14 * i11 + 114) = (2, 10, false) from (kd_P (k := i11) (c := 4) (by omega) (by omega) (by decide))) (by omega))
                        have hrn_48 := NRx.w en_48 hrn_11 (by rw [(show kd (14 * i11 + 114) = (2, 10, false) from (kd_P (k := i11) (c := 4) (by omega) (by omega) (by decide)))])
                        have e49 : n_48 8 = nI (i6 + k4 + 1) := by rw [en_48, pk_un (by omega)]; exact kc11_8
                        have e50 : n_48 11 = nI kc11 := by rw [en_48, pk_un (by omega)]; exact kc11_11
                        have e51 : n_48 2 = nI k12 := by rw [en_48, pk_un (by omega)]; exact ek12
                        have e52 : n_48 (14 * i11 + 119) = (-1) := by rw [en_48, pk_un (by omega)]; exact ek39
                        have e53 : n_48 (14 * i11 + 116) = x44 := by rw [en_48, pk_un (by omega)]; exact ex44
                        have e54 : n_48 (14 * i11 + 115) = nI k47 := by rw [en_48, pk_un (by omega)]; exact ek47
                        have e55 : n_48 (14 * i11 + 114) = nI k47 := by rw [en_48, pk_us]
                        refine pm_iincX (v := nI (i11 + 1)) (loc' := [some (.ref (B + 54)), some (.int za), some (.int (nI i6)), some (.int (nI (i11 + 1)))]) hG dX12_days_108 rfl (nI_1 _) (by decide) (pm_c1b rfl) rfl ?_
                        refine pm_goto (tgt := 52) hG dX12_days_111 rfl ?_
                        exact ih11 I11 A11 n_48 (i11 + 1) hnn_48 hrn_48 (e49.trans (congrArg nI (by omega))) (e50.trans (congrArg nI (by omega))) (by omega) (by omega)
                    · refine pm_top (v := nI k42) ek42 ?_
                      refine pm_ifN_ge (tgt := 108) hG dX12_days_76 rfl (by omega) ?_
                      refine pm_iincX (v := nI (i11 + 1)) (loc' := [some (.ref (B + 54)), some (.int za), some (.int (nI i6)), some (.int (nI (i11 + 1)))]) hG dX12_days_108 rfl (nI_1 _) (by decide) (pm_c1b rfl) rfl ?_
                      refine pm_goto (tgt := 52) hG dX12_days_111 rfl ?_
                      exact ih11 I11 A11 n_11 (i11 + 1) hnn_11 hrn_11 (kc11_8.trans (congrArg nI (by omega))) (kc11_11.trans (congrArg nI (by omega))) (by omega) (by omega)
                  · refine pm_callV (As := [.int (nI i11)]) (rest := []) hG hR dX12_days_64 (lkX12_101 _ rfl) okV_X12_lives rfl rfl (m_lives0 (d := 2) (by decide) (by omega) (by omega : 14 * i11 + 119 = 14 * i11 + 119) ek39 (by omega)) rfl rfl hdd (Nat.le_refl _) (Nat.le_refl _) (by decide) (pm_ki (fun v56 σ' cnt' hq => ?_))
                    obtain ⟨rfl, rfl, rfl⟩ := hq
                    refine pm_ifN_eq (tgt := 108) hG dX12_days_67 rfl (by omega) (fun _ => ?_) (fun q => absurd q (by omega))
                    refine pm_iincX (v := nI (i11 + 1)) (loc' := [some (.ref (B + 54)), some (.int za), some (.int (nI i6)), some (.int (nI (i11 + 1)))]) hG dX12_days_108 rfl (nI_1 _) (by decide) (pm_c1b rfl) rfl ?_
                    refine pm_goto (tgt := 52) hG dX12_days_111 rfl ?_
                    exact ih11 I11 A11 n_11 (i11 + 1) hnn_11 hrn_11 (kc11_8.trans (congrArg nI (by omega))) (kc11_11.trans (congrArg nI (by omega))) (by omega) (by omega)
            exact loop52_11 _ I6 A6 n_8 0 hnn_8 hrn_8 (e10.trans (congrArg nI (by omega))) (e9.trans (congrArg nI (by omega))) (by omega) (Nat.lt_succ_self _)
      exact loop34_6 _ I A n 0 hn hr (ekc11.trans (congrArg nI (by omega))) (ek4.trans (congrArg nI (by omega))) (by omega) (Nat.lt_succ_self _)
    · refine pm_aloadn hG dX12_days_26 rfl ?_
      refine pm_iconst (v := nI 1) hG dX12_days_27 (by decide) ?_
      refine pm_callV (As := [.int (nI 1)]) (rest := []) hG hR dX12_days_28 (lkX12_80 _ rfl) okV_X12_finds rfl rfl (m_finds (d := 2) (by decide) hn hz (by omega)) rfl rfl hdd (Nat.le_refl _) (Nat.le_refl _) (by decide) (pm_ki (fun v57 σ' cnt' hq => ?_))
      obtain ⟨⟨I58, A58, rfl⟩, rfl, fv57⟩ := hq
      exact pm_iret hG hF dX12_days_31 rfl (Nat.le_refl _) (Nat.le_refl _) ⟨_, rfl, ⟨_, _, _, rfl, hn, hr, ekc11.trans ekc11.symm⟩, rfl⟩
  · refine pm_ifN_eq (tgt := 26) hG dX12_days_8 rfl (by omega) (fun _ => ?_) (fun q => absurd q (by omega))
    refine pm_aloadn hG dX12_days_26 rfl ?_
    refine pm_iconst (v := nI 1) hG dX12_days_27 (by decide) ?_
    refine pm_callV (As := [.int (nI 1)]) (rest := []) hG hR dX12_days_28 (lkX12_80 _ rfl) okV_X12_finds rfl rfl (m_finds (d := 2) (by decide) hn hz (by omega)) rfl rfl hdd (Nat.le_refl _) (Nat.le_refl _) (by decide) (pm_ki (fun v59 σ' cnt' hq => ?_))
    obtain ⟨⟨I60, A60, rfl⟩, rfl, fv59⟩ := hq
    exact pm_iret hG hF dX12_days_31 rfl (Nat.le_refl _) (Nat.le_refl _) ⟨_, rfl, ⟨_, _, _, rfl, hn, hr, ekc11.trans ekc11.symm⟩, rfl⟩

set_option maxRecDepth 100000 in
set_option maxHeartbeats 4000000 in
theorem m_debt {d B cnt p0 t0 : Nat} {σ : pm_S} {I : Nat → Int32} {A : Nat → Nat → Int32} {n k z : Nat → Int32} {ac wt pl im : Int32} {za zb zc : Int32} (hdd : 2 ≤ d) (hn : KI n) (hr : NR n) (hz : SZ z)  : pm_met mX12_debt d 0 0 B [.ref (B + 54), .int za, .int zb, .int zc] cnt (pm_mid σ (md_L B I A n k z ac wt pl (nI p0) (nI t0) im)) (pm_Qi (fun v σ' cnt' => (∃ (I' : Nat → Int32) (A' : Nat → Nat → Int32) (n' : Nat → Int32), σ' = pm_mid σ (md_L B I' A' n' k z ac wt pl (nI p0) (nI t0) im) ∧ KI n' ∧ NR n' ∧ n' 11 = n 11) ∧ cnt = cnt')) := by
  obtain ⟨kc11, hkc11, ekc11⟩ := KI.nat hn (show kd 11 = (1, 21, false) by decide)
  refine pm_enter 1 (by decide) (Nat.le_of_ble_eq_true rfl) rfl (fun G hG hR hF => ?_)
  refine pm_iloadn hG dX12_debt_0 rfl ?_
  refine pm_iconst (v := nI 0) hG dX12_debt_1 (by decide) ?_
  refine pm_ldc hG dX12_debt_2 (ctX12_242 _ rfl) ?_
  refine pm_top (v := nI 99999) (by decide) ?_
  refine pm_callS (As := [.int za, .int (nI 0), .int (nI 99999)]) (rest := []) hG hR dX12_debt_4 (lkX12_68 _ rfl) okS_X12_in (m_in (d := 1)) rfl rfl hdd (Nat.le_refl _) (Nat.le_refl _) (by decide) (pm_ki (fun v1 σ' cnt' hq => ?_))
  obtain ⟨hq, rfl, rfl⟩ := hq
  rcases hq with ⟨rfl, ac2, bc2⟩ | ⟨rfl, c2⟩
  · obtain ⟨k3, hk3, ek3⟩ := in_nat (by omega) (by omega) ac2 bc2
    refine pm_ifN_eq (tgt := 51) hG dX12_debt_7 rfl (by omega) (fun q => absurd q (by omega)) (fun _ => ?_)
    refine pm_iloadn hG dX12_debt_10 rfl ?_
    refine pm_if_lt (tgt := 51) hG dX12_debt_11 rfl (fun c4 => ?_) (fun c4 => ?_)
    · refine pm_aloadn hG dX12_debt_51 rfl ?_
      refine pm_iconst (v := nI 1) hG dX12_debt_52 (by decide) ?_
      refine pm_callV (As := [.int (nI 1)]) (rest := []) hG hR dX12_debt_53 (lkX12_80 _ rfl) okV_X12_finds rfl rfl (m_finds (d := 1) (by decide) hn hz (by omega)) rfl rfl hdd (Nat.le_refl _) (Nat.le_refl _) (by decide) (pm_ki (fun v5 σ' cnt' hq => ?_))
      obtain ⟨⟨I6, A6, rfl⟩, rfl, fv5⟩ := hq
      exact pm_iret hG hF dX12_debt_56 rfl (Nat.le_refl _) (Nat.le_refl _) ⟨_, rfl, ⟨_, _, _, rfl, hn, hr, ekc11.trans ekc11.symm⟩, rfl⟩
    · obtain ⟨k7, hk7, ek7⟩ := nI_of c4
      refine pm_iloadn hG dX12_debt_14 rfl ?_
      refine pm_top (v := nI k7) ek7 ?_
      refine pm_sipush (v := nI 10000) hG dX12_debt_15 (by decide) ?_
      refine pm_idivN hG dX12_debt_18 (by omega) (by decide) (by decide) ?_
      refine pm_iconst (v := nI 0) hG dX12_debt_19 (by decide) ?_
      refine pm_bipush (v := nI 99) hG dX12_debt_20 (by decide) ?_
      refine pm_callS (As := [.int (nI ((k7 / 10000))), .int (nI 0), .int (nI 99)]) (rest := []) hG hR dX12_debt_22 (lkX12_68 _ rfl) okS_X12_in (m_in (d := 1)) rfl rfl hdd (Nat.le_refl _) (Nat.le_refl _) (by decide) (pm_ki (fun v8 σ' cnt' hq => ?_))
      obtain ⟨hq, rfl, rfl⟩ := hq
      rcases hq with ⟨rfl, ac9, bc9⟩ | ⟨rfl, c9⟩
      · have ic9 := (nI_leI (by omega) (by omega)).mp (Int32.not_lt.mp ac9)
        have jc9 := (nI_leI (by omega) (by omega)).mp (Int32.not_lt.mp bc9)
        refine pm_ifN_eq (tgt := 51) hG dX12_debt_25 rfl (by omega) (fun q => absurd q (by omega)) (fun _ => ?_)
        refine pm_iloadn hG dX12_debt_28 rfl ?_
        refine pm_top (v := nI k7) ek7 ?_
        refine pm_sipush (v := nI 10000) hG dX12_debt_29 (by decide) ?_
        refine pm_iremM hG dX12_debt_32 (by omega) (by decide) (by decide) ?_
        refine pm_iconst (v := nI 1) hG dX12_debt_33 (by decide) ?_
        refine pm_sipush (v := nI 9999) hG dX12_debt_34 (by decide) ?_
        refine pm_callS (As := [.int (nI ((k7 % 10000))), .int (nI 1), .int (nI 9999)]) (rest := []) hG hR dX12_debt_37 (lkX12_68 _ rfl) okS_X12_in (m_in (d := 1)) rfl rfl hdd (Nat.le_refl _) (Nat.le_refl _) (by decide) (pm_ki (fun v10 σ' cnt' hq => ?_))
        obtain ⟨hq, rfl, rfl⟩ := hq
        rcases hq with ⟨rfl, ac11, bc11⟩ | ⟨rfl, c11⟩
        · have ic11 := (nI_leI (by omega) (by omega)).mp (Int32.not_lt.mp ac11)
          have jc11 := (nI_leI (by omega) (by omega)).mp (Int32.not_lt.mp bc11)
          refine pm_ifN_eq (tgt := 51) hG dX12_debt_40 rfl (by omega) (fun q => absurd q (by omega)) (fun _ => ?_)
          refine pm_aloadn hG dX12_debt_43 rfl ?_
          refine pm_iloadn hG dX12_debt_44 rfl ?_
          obtain ⟨k12, hk12, ek12⟩ := KI.nat hn (show kd 0 = (1, 11, true) by decide)
          refine pm_callV (As := [.int zc]) (rest := []) hG hR dX12_debt_45 (lkX12_84 _ rfl) okV_X12_isTown rfl rfl (m_isTown (d := 1) (by decide) ek12 (by omega)) rfl rfl hdd (Nat.le_refl _) (Nat.le_refl _) (by decide) (pm_ki (fun v13 σ' cnt' hq => ?_))
          obtain ⟨hq, rfl, rfl⟩ := hq
          rcases hq with ⟨rfl, k15, hk15, ek15⟩ | rfl
          · refine pm_ifN_ne (tgt := 57) hG dX12_debt_48 rfl (by omega) (fun _ => ?_) (fun q => absurd q (by omega))
            refine pm_aloadn hG dX12_debt_57 rfl ?_
            refine pm_getf hG dX12_debt_58 (flX12_7 _ rfl) rfl rfl ?_
            refine pm_bipush (v := nI 6) hG dX12_debt_61 (by decide) ?_
            refine pm_ialdN hG dX12_debt_63 rfl (by decide) (by omega) ?_
            obtain ⟨k16, hk16, ek16⟩ := KI.nat hn (show kd 6 = (1, 7, false) by decide)
            refine pm_top (v := nI k16) ek16 ?_
            refine pm_istoreXi (loc' := [some (.ref (B + 54)), some (.int za), some (.int zb), some (.int zc), some (.int (nI k16))]) hG dX12_debt_64 (by decide) (pm_c1b rfl) rfl ?_
            refine pm_iloadi hG dX12_debt_66 rfl ?_
            refine pm_bipush (v := nI 6) hG dX12_debt_68 (by decide) ?_
            refine pm_icmpN_ne (tgt := 79) hG dX12_debt_70 rfl (by omega) (by omega) (fun c17 => ?_) (fun c17 => ?_)
            · refine pm_aloadn hG dX12_debt_79 rfl ?_
              refine pm_getf hG dX12_debt_80 (flX12_7 _ rfl) rfl rfl ?_
              refine pm_bipush (v := nI 6) hG dX12_debt_83 (by decide) ?_
              refine pm_dup2 hG dX12_debt_85 rfl rfl ?_
              refine pm_ialdN hG dX12_debt_86 rfl (by decide) (by omega) ?_
              refine pm_top (v := nI k16) ek16 ?_
              refine pm_iconst (v := nI 1) hG dX12_debt_87 (by decide) ?_
              refine pm_iaddN (c := k16 + 1) hG dX12_debt_88 (by omega) ?_
              refine pm_iastN hG dX12_debt_89 rfl (by decide) (by omega) ?_
              refine mdn_now (fun n_18 en_18 => ?_)
              have hnn_18 := KI.w en_18 hn (okv_n (show kd 6 = (1, 7, false) by decide) (by omega))
              have hrn_18 := NRx.w en_18 hr (by rw [(show kd 6 = (1, 7, false) by decide)])
              have e19 : n_18 11 = nI kc11 := by rw [en_18, pk_un (by omega)]; exact ekc11
              have e20 : n_18 0 = nI k12 := by rw [en_18, pk_un (by omega)]; exact ek12
              have e21 : n_18 6 = nI (k16 + 1) := by rw [en_18, pk_us]
              refine pm_aloadn hG dX12_debt_90 rfl ?_
              refine pm_getf hG dX12_debt_91 (flX12_7 _ rfl) rfl rfl ?_
              refine pm_sipush (v := nI 1770) hG dX12_debt_94 (by decide) ?_
              refine pm_bipush (v := nI 6) hG dX12_debt_97 (by decide) ?_
              refine pm_iloadi hG dX12_debt_99 rfl ?_
              refine pm_imulN (c := 6 * k16) hG dX12_debt_101 (by omega) ?_
              refine pm_iaddN (c := 6 * k16 + 1770) hG dX12_debt_102 (by omega) ?_
              refine pm_iloadn hG dX12_debt_103 rfl ?_
              refine pm_top (v := nI k3) ek3 ?_
              refine pm_iastN hG dX12_debt_104 rfl (by decide) (by omega) ?_
              refine mdn_now (fun n_22 en_22 => ?_)
              have hnn_22 := KI.w en_22 hnn_18 (okv_f (show kd (6 * k16 + 1770) = (0, 0, false) from (kd_D (k := k16) (c := 0) (by omega) (by omega) (by decide))))
              have hrn_22 := NRx.w en_22 hrn_18 (by rw [(show kd (6 * k16 + 1770) = (0, 0, false) from (kd_D (k := k16) (c := 0) (by omega) (by omega) (by decide)))])
              have e23 : n_22 11 = nI kc11 := by rw [en_22, pk_un (by omega)]; exact e19
              have e24 : n_22 0 = nI k12 := by rw [en_22, pk_un (by omega)]; exact e20
              have e25 : n_22 6 = nI (k16 + 1) := by rw [en_22, pk_un (by omega)]; exact e21
              have e26 : n_22 (6 * k16 + 1770) = nI k3 := by rw [en_22, pk_us]
              refine pm_aloadn hG dX12_debt_105 rfl ?_
              refine pm_getf hG dX12_debt_106 (flX12_7 _ rfl) rfl rfl ?_
              refine pm_sipush (v := nI 1770) hG dX12_debt_109 (by decide) ?_
              refine pm_bipush (v := nI 6) hG dX12_debt_112 (by decide) ?_
              refine pm_iloadi hG dX12_debt_114 rfl ?_
              refine pm_imulN (c := 6 * k16) hG dX12_debt_116 (by omega) ?_
              refine pm_iaddN (c := 6 * k16 + 1770) hG dX12_debt_117 (by omega) ?_
              refine pm_iconst (v := nI 1) hG dX12_debt_118 (by decide) ?_
              refine pm_iaddN (c := 6 * k16 + 1771) hG dX12_debt_119 (by omega) ?_
              refine pm_iloadn hG dX12_debt_120 rfl ?_
              refine pm_top (v := nI k7) ek7 ?_
              refine pm_sipush (v := nI 10000) hG dX12_debt_121 (by decide) ?_
              refine pm_idivN hG dX12_debt_124 (by omega) (by decide) (by decide) ?_
              refine pm_iastN hG dX12_debt_125 rfl (by decide) (by omega) ?_
              refine mdn_now (fun n_27 en_27 => ?_)
              have hnn_27 := KI.w en_27 hnn_22 (okv_f (show kd (6 * k16 + 1771) = (0, 0, false) from (kd_D (k := k16) (c := 1) (by omega) (by omega) (by decide))))
              have hrn_27 := NRx.w en_27 hrn_22 (by rw [(show kd (6 * k16 + 1771) = (0, 0, false) from (kd_D (k := k16) (c := 1) (by omega) (by omega) (by decide)))])
              have e28 : n_27 11 = nI kc11 := by rw [en_27, pk_un (by omega)]; exact e23
              have e29 : n_27 0 = nI k12 := by rw [en_27, pk_un (by omega)]; exact e24
              have e30 : n_27 6 = nI (k16 + 1) := by rw [en_27, pk_un (by omega)]; exact e25
              have e31 : n_27 (6 * k16 + 1770) = nI k3 := by rw [en_27, pk_un (by omega)]; exact e26
              have e32 : n_27 (6 * k16 + 1771) = nI ((k7 / 10000)) := by rw [en_27, pk_us]
              refine pm_aloadn hG dX12_debt_126 rfl ?_
              refine pm_getf hG dX12_debt_127 (flX12_7 _ rfl) rfl rfl ?_
              refine pm_sipush (v := nI 1770) hG dX12_debt_130 (by decide) ?_
              refine pm_bipush (v := nI 6) hG dX12_debt_133 (by decide) ?_
              refine pm_iloadi hG dX12_debt_135 rfl ?_
              refine pm_imulN (c := 6 * k16) hG dX12_debt_137 (by omega) ?_
              refine pm_iaddN (c := 6 * k16 + 1770) hG dX12_debt_138 (by omega) ?_
              refine pm_iconst (v := nI 2) hG dX12_debt_139 (by decide) ?_
              refine pm_iaddN (c := 6 * k16 + 1772) hG dX12_debt_140 (by omega) ?_
              refine pm_iloadn hG dX12_debt_141 rfl ?_
              refine pm_top (v := nI k7) ek7 ?_
              refine pm_sipush (v := nI 10000) hG dX12_debt_142 (by decide) ?_
              refine pm_iremM hG dX12_debt_145 (by omega) (by decide) (by decide) ?_
              refine pm_iastN hG dX12_debt_146 rfl (by decide) (by omega) ?_
              refine mdn_now (fun n_33 en_33 => ?_)
              have hnn_33 := KI.w en_33 hnn_27 (okv_f (show kd (6 * k16 + 1772) = (0, 0, false) from (kd_D (k := k16) (c := 2) (by omega) (by omega) (by decide))))
              have hrn_33 := NRx.w en_33 hrn_27 (by rw [(show kd (6 * k16 + 1772) = (0, 0, false) from (kd_D (k := k16) (c := 2) (by omega) (by omega) (by decide)))])
              have e34 : n_33 11 = nI kc11 := by rw [en_33, pk_un (by omega)]; exact e28
              have e35 : n_33 0 = nI k12 := by rw [en_33, pk_un (by omega)]; exact e29
              have e36 : n_33 6 = nI (k16 + 1) := by rw [en_33, pk_un (by omega)]; exact e30
              have e37 : n_33 (6 * k16 + 1770) = nI k3 := by rw [en_33, pk_un (by omega)]; exact e31
              have e38 : n_33 (6 * k16 + 1771) = nI ((k7 / 10000)) := by rw [en_33, pk_un (by omega)]; exact e32
              have e39 : n_33 (6 * k16 + 1772) = nI ((k7 % 10000)) := by rw [en_33, pk_us]
              refine pm_aloadn hG dX12_debt_147 rfl ?_
              refine pm_getf hG dX12_debt_148 (flX12_7 _ rfl) rfl rfl ?_
              refine pm_sipush (v := nI 1770) hG dX12_debt_151 (by decide) ?_
              refine pm_bipush (v := nI 6) hG dX12_debt_154 (by decide) ?_
              refine pm_iloadi hG dX12_debt_156 rfl ?_
              refine pm_imulN (c := 6 * k16) hG dX12_debt_158 (by omega) ?_
              refine pm_iaddN (c := 6 * k16 + 1770) hG dX12_debt_159 (by omega) ?_
              refine pm_iconst (v := nI 3) hG dX12_debt_160 (by decide) ?_
              refine pm_iaddN (c := 6 * k16 + 1773) hG dX12_debt_161 (by omega) ?_
              refine pm_iconst (v := nI 0) hG dX12_debt_162 (by decide) ?_
              refine pm_iastN hG dX12_debt_163 rfl (by decide) (by omega) ?_
              refine mdn_now (fun n_40 en_40 => ?_)
              have hnn_40 := KI.w en_40 hnn_33 (okv_f (show kd (6 * k16 + 1773) = (0, 0, false) from (kd_D (k := k16) (c := 3) (by omega) (by omega) (by decide))))
              have hrn_40 := NRx.w en_40 hrn_33 (by rw [(show kd (6 * k16 + 1773) = (0, 0, false) from (kd_D (k := k16) (c := 3) (by omega) (by omega) (by decide)))])
              have e41 : n_40 11 = nI kc11 := by rw [en_40, pk_un (by omega)]; exact e34
              have e42 : n_40 0 = nI k12 := by rw [en_40, pk_un (by omega)]; exact e35
              have e43 : n_40 6 = nI (k16 + 1) := by rw [en_40, pk_un (by omega)]; exact e36
              have e44 : n_40 (6 * k16 + 1770) = nI k3 := by rw [en_40, pk_un (by omega)]; exact e37
              have e45 : n_40 (6 * k16 + 1771) = nI ((k7 / 10000)) := by rw [en_40, pk_un (by omega)]; exact e38
              have e46 : n_40 (6 * k16 + 1772) = nI ((k7 % 10000)) := by rw [en_40, pk_un (by omega)]; exact e39
              have e47 : n_40 (6 * k16 + 1773) = nI 0 := by rw [en_40, pk_us]
              refine pm_aloadn hG dX12_debt_164 rfl ?_
              refine pm_getf hG dX12_debt_165 (flX12_7 _ rfl) rfl rfl ?_
              refine pm_sipush (v := nI 1770) hG dX12_debt_168 (by decide) ?_
              refine pm_bipush (v := nI 6) hG dX12_debt_171 (by decide) ?_
              refine pm_iloadi hG dX12_debt_173 rfl ?_
              refine pm_imulN (c := 6 * k16) hG dX12_debt_175 (by omega) ?_
              refine pm_iaddN (c := 6 * k16 + 1770) hG dX12_debt_176 (by omega) ?_
              refine pm_iconst (v := nI 4) hG dX12_debt_177 (by decide) ?_
              refine pm_iaddN (c := 6 * k16 + 1774) hG dX12_debt_178 (by omega) ?_
              refine pm_iloadn hG dX12_debt_179 rfl ?_
              refine pm_top (v := nI k15) ek15 ?_
              refine pm_iastN hG dX12_debt_180 rfl (by decide) (by omega) ?_
              refine mdn_now (fun n_48 en_48 => ?_)
              have hnn_48 := KI.w en_48 hnn_40 (okv_n (show kd (6 * k16 + 1774) = (1, 10, false) from (kd_D (k := k16) (c := 4) (by omega) (by omega) (by decide))) (by omega))
              have hrn_48 := NRx.w en_48 hrn_40 (by rw [(show kd (6 * k16 + 1774) = (1, 10, false) from (kd_D (k := k16) (c := 4) (by omega) (by omega) (by decide)))])
              have e49 : n_48 11 = nI kc11 := by rw [en_48, pk_un (by omega)]; exact e41
              have e50 : n_48 0 = nI k12 := by rw [en_48, pk_un (by omega)]; exact e42
              have e51 : n_48 6 = nI (k16 + 1) := by rw [en_48, pk_un (by omega)]; exact e43
              have e52 : n_48 (6 * k16 + 1770) = nI k3 := by rw [en_48, pk_un (by omega)]; exact e44
              have e53 : n_48 (6 * k16 + 1771) = nI ((k7 / 10000)) := by rw [en_48, pk_un (by omega)]; exact e45
              have e54 : n_48 (6 * k16 + 1772) = nI ((k7 % 10000)) := by rw [en_48, pk_un (by omega)]; exact e46
              have e55 : n_48 (6 * k16 + 1773) = nI 0 := by rw [en_48, pk_un (by omega)]; exact e47
              have e56 : n_48 (6 * k16 + 1774) = nI k15 := by rw [en_48, pk_us]
              refine pm_aloadn hG dX12_debt_181 rfl ?_
              refine pm_getf hG dX12_debt_182 (flX12_7 _ rfl) rfl rfl ?_
              refine pm_bipush (v := nI 9) hG dX12_debt_185 (by decide) ?_
              refine pm_dup2 hG dX12_debt_187 rfl rfl ?_
              refine pm_ialdN hG dX12_debt_188 rfl (by decide) (by omega) ?_
              refine pm_gen (fun x57 ex57 => ?_)
              refine pm_iloadn hG dX12_debt_189 rfl ?_
              refine pm_top (v := nI k3) ek3 ?_
              refine pm_iadd hG dX12_debt_190 ?_
              refine pm_iastN hG dX12_debt_191 rfl (by decide) (by omega) ?_
              refine mdn_now (fun n_58 en_58 => ?_)
              have hnn_58 := KI.w en_58 hnn_48 (okv_f (show kd 9 = (0, 0, false) by decide))
              have hrn_58 := NRx.w en_58 hrn_48 (by rw [(show kd 9 = (0, 0, false) by decide)])
              have e59 : n_58 11 = nI kc11 := by rw [en_58, pk_un (by omega)]; exact e49
              have e60 : n_58 0 = nI k12 := by rw [en_58, pk_un (by omega)]; exact e50
              have e61 : n_58 6 = nI (k16 + 1) := by rw [en_58, pk_un (by omega)]; exact e51
              have e62 : n_58 (6 * k16 + 1770) = nI k3 := by rw [en_58, pk_un (by omega)]; exact e52
              have e63 : n_58 (6 * k16 + 1771) = nI ((k7 / 10000)) := by rw [en_58, pk_un (by omega)]; exact e53
              have e64 : n_58 (6 * k16 + 1772) = nI ((k7 % 10000)) := by rw [en_58, pk_un (by omega)]; exact e54
              have e65 : n_58 (6 * k16 + 1773) = nI 0 := by rw [en_58, pk_un (by omega)]; exact e55
              have e66 : n_58 (6 * k16 + 1774) = nI k15 := by rw [en_58, pk_un (by omega)]; exact e56
              have e67 : n_58 9 = x57 + (nI k3) := by rw [en_58, pk_us]
              refine pm_iloadi hG dX12_debt_192 rfl ?_
              exact pm_iret hG hF dX12_debt_194 rfl (Nat.le_refl _) (Nat.le_refl _) ⟨_, rfl, ⟨_, _, _, rfl, hnn_58, hrn_58, e59.trans ekc11.symm⟩, rfl⟩
            · refine pm_aloadn hG dX12_debt_73 rfl ?_
              refine pm_iconst (v := nI 4) hG dX12_debt_74 (by decide) ?_
              refine pm_callV (As := [.int (nI 4)]) (rest := []) hG hR dX12_debt_75 (lkX12_80 _ rfl) okV_X12_finds rfl rfl (m_finds (d := 1) (by decide) hn hz (by omega)) rfl rfl hdd (Nat.le_refl _) (Nat.le_refl _) (by decide) (pm_ki (fun v68 σ' cnt' hq => ?_))
              obtain ⟨⟨I69, A69, rfl⟩, rfl, fv68⟩ := hq
              exact pm_iret hG hF dX12_debt_78 rfl (Nat.le_refl _) (Nat.le_refl _) ⟨_, rfl, ⟨_, _, _, rfl, hn, hr, ekc11.trans ekc11.symm⟩, rfl⟩
          · refine pm_ifN_ne (tgt := 57) hG dX12_debt_48 rfl (by omega) (fun q => absurd q (by omega)) (fun _ => ?_)
            refine pm_aloadn hG dX12_debt_51 rfl ?_
            refine pm_iconst (v := nI 1) hG dX12_debt_52 (by decide) ?_
            refine pm_callV (As := [.int (nI 1)]) (rest := []) hG hR dX12_debt_53 (lkX12_80 _ rfl) okV_X12_finds rfl rfl (m_finds (d := 1) (by decide) hn hz (by omega)) rfl rfl hdd (Nat.le_refl _) (Nat.le_refl _) (by decide) (pm_ki (fun v70 σ' cnt' hq => ?_))
            obtain ⟨⟨I71, A71, rfl⟩, rfl, fv70⟩ := hq
            exact pm_iret hG hF dX12_debt_56 rfl (Nat.le_refl _) (Nat.le_refl _) ⟨_, rfl, ⟨_, _, _, rfl, hn, hr, ekc11.trans ekc11.symm⟩, rfl⟩
        · refine pm_ifN_eq (tgt := 51) hG dX12_debt_40 rfl (by omega) (fun _ => ?_) (fun q => absurd q (by omega))
          refine pm_aloadn hG dX12_debt_51 rfl ?_
          refine pm_iconst (v := nI 1) hG dX12_debt_52 (by decide) ?_
          refine pm_callV (As := [.int (nI 1)]) (rest := []) hG hR dX12_debt_53 (lkX12_80 _ rfl) okV_X12_finds rfl rfl (m_finds (d := 1) (by decide) hn hz (by omega)) rfl rfl hdd (Nat.le_refl _) (Nat.le_refl _) (by decide) (pm_ki (fun v72 σ' cnt' hq => ?_))
          obtain ⟨⟨I73, A73, rfl⟩, rfl, fv72⟩ := hq
          exact pm_iret hG hF dX12_debt_56 rfl (Nat.le_refl _) (Nat.le_refl _) ⟨_, rfl, ⟨_, _, _, rfl, hn, hr, ekc11.trans ekc11.symm⟩, rfl⟩
      · refine pm_ifN_eq (tgt := 51) hG dX12_debt_25 rfl (by omega) (fun _ => ?_) (fun q => absurd q (by omega))
        refine pm_aloadn hG dX12_debt_51 rfl ?_
        refine pm_iconst (v := nI 1) hG dX12_debt_52 (by decide) ?_
        refine pm_callV (As := [.int (nI 1)]) (rest := []) hG hR dX12_debt_53 (lkX12_80 _ rfl) okV_X12_finds rfl rfl (m_finds (d := 1) (by decide) hn hz (by omega)) rfl rfl hdd (Nat.le_refl _) (Nat.le_refl _) (by decide) (pm_ki (fun v74 σ' cnt' hq => ?_))
        obtain ⟨⟨I75, A75, rfl⟩, rfl, fv74⟩ := hq
        exact pm_iret hG hF dX12_debt_56 rfl (Nat.le_refl _) (Nat.le_refl _) ⟨_, rfl, ⟨_, _, _, rfl, hn, hr, ekc11.trans ekc11.symm⟩, rfl⟩
  · refine pm_ifN_eq (tgt := 51) hG dX12_debt_7 rfl (by omega) (fun _ => ?_) (fun q => absurd q (by omega))
    refine pm_aloadn hG dX12_debt_51 rfl ?_
    refine pm_iconst (v := nI 1) hG dX12_debt_52 (by decide) ?_
    refine pm_callV (As := [.int (nI 1)]) (rest := []) hG hR dX12_debt_53 (lkX12_80 _ rfl) okV_X12_finds rfl rfl (m_finds (d := 1) (by decide) hn hz (by omega)) rfl rfl hdd (Nat.le_refl _) (Nat.le_refl _) (by decide) (pm_ki (fun v76 σ' cnt' hq => ?_))
    obtain ⟨⟨I77, A77, rfl⟩, rfl, fv76⟩ := hq
    exact pm_iret hG hF dX12_debt_56 rfl (Nat.le_refl _) (Nat.le_refl _) ⟨_, rfl, ⟨_, _, _, rfl, hn, hr, ekc11.trans ekc11.symm⟩, rfl⟩

set_option maxRecDepth 100000 in
set_option maxHeartbeats 4000000 in
theorem m_leaves {d B cnt p0 t0 : Nat} {σ : pm_S} {I : Nat → Int32} {A : Nat → Nat → Int32} {n k z : Nat → Int32} {ac wt pl im : Int32} {ba : Nat} (hdd : 1 ≤ d) (hn : KI n) (hr : NR n) (hz : SZ z) (hba : ba < 20) : pm_met mX12_leaves d 0 0 B [.ref (B + 54), .int (nI ba)] cnt (pm_mid σ (md_L B I A n k z ac wt pl (nI p0) (nI t0) im)) (pm_Qv (fun σ' cnt' => (∃ (n' : Nat → Int32), σ' = pm_mid σ (md_L B I A n' k z ac wt pl (nI p0) (nI t0) im) ∧ KI n' ∧ NR n' ∧ n' 11 = n 11) ∧ cnt = cnt')) := by
  obtain ⟨kc11, hkc11, ekc11⟩ := KI.nat hn (show kd 11 = (1, 21, false) by decide)
  refine pm_enter 1 (by decide) (Nat.le_of_ble_eq_true rfl) rfl (fun G hG hR hF => ?_)
  refine pm_aloadn hG dX12_leaves_0 rfl ?_
  refine pm_iloadn hG dX12_leaves_1 rfl ?_
  refine pm_bipush (v := nI 11) hG dX12_leaves_2 (by decide) ?_
  refine pm_iconst (v := nI 0) hG dX12_leaves_4 (by decide) ?_
  refine pm_callV (As := [.int (nI ba), .int (nI 11), .int (nI 0)]) (rest := []) hG hR dX12_leaves_5 (lkX12_97 _ rfl) okV_X12_sets rfl rfl (m_sets (d := 0) (e := 14 * ba + 121) (by omega) (by omega) (by omega)) rfl rfl hdd (Nat.le_refl _) (Nat.le_refl _) (by decide) (pm_kv (fun σ' cnt' hq => ?_))
  obtain ⟨rfl, rfl⟩ := hq
  obtain ⟨n_1, en_1⟩ : ∃ f : Nat → Int32, f = upd n (14 * ba + 121) (nI 0) := ⟨_, rfl⟩
  rw [← en_1]
  have hnn_1 := KI.w en_1 hn (okv_n (show kd (14 * ba + 121) = (1, 2, true) from (kd_P (k := ba) (c := 11) (by omega) (by omega) (by decide))) (by omega))
  have hrn_1 := NRx.unseat (p := ba) en_1 hr (by omega)
  have e2 : n_1 11 = nI kc11 := by rw [en_1, pk_un (by omega)]; exact ekc11
  have e3 : n_1 (14 * ba + 121) = nI 0 := by rw [en_1, pk_us]
  refine pm_iconst (v := nI 0) hG dX12_leaves_8 (by decide) ?_
  refine pm_istoreXn (loc' := [some (.ref (B + 54)), some (.int (nI ba)), some (.int (nI 0))]) hG dX12_leaves_9 (by decide) (pm_c1b rfl) rfl ?_
  have loop10_4 : ∀ (m4 : Nat) (n_4 : Nat → Int32) (i4 : Nat), KI n_4 → NRx 40 n_4 → n_4 11 = nI kc11 → i4 ≤ 30 → 30 - i4 < m4 → pm_wp mX12_leaves G B 10 [some (.ref (B + 54)), some (.int (nI ba)), some (.int (nI i4))] [] 0 0 cnt (pm_mid σ (md_L B I A n_4 k z ac wt pl (nI p0) (nI t0) im)) := by
    intro m4
    induction m4 with
    | zero => intro n_4 i4 _ _ _ _ hm; exact absurd hm (Nat.not_lt_zero _)
    | succ m4 ih4 =>
      intro n_4 i4 hnn_4 hrn_4 kc4_11 hi4 hm4
      refine pm_iloadn hG dX12_leaves_10 rfl ?_
      refine pm_aloadn hG dX12_leaves_11 rfl ?_
      refine pm_getf hG dX12_leaves_12 (flX12_7 _ rfl) rfl rfl ?_
      refine pm_bipush (v := nI 7) hG dX12_leaves_15 (by decide) ?_
      refine pm_ialdN hG dX12_leaves_17 rfl (by decide) (by omega) ?_
      obtain ⟨k5, hk5, ek5⟩ := KI.nat hnn_4 (show kd 7 = (1, 31, false) by decide)
      refine pm_top (v := nI k5) ek5 ?_
      refine pm_icmpN_ge (tgt := 53) hG dX12_leaves_18 rfl (by omega) (by omega) (fun c6 => ?_) (fun c6 => ?_)
      · exact pm_vret hG hF dX12_leaves_53 rfl (Nat.le_refl _) (Nat.le_refl _) ⟨rfl, ⟨_, rfl, hnn_4, hrn_4, kc4_11.trans ekc11.symm⟩, rfl⟩
      · refine pm_aloadn hG dX12_leaves_21 rfl ?_
        refine pm_iloadn hG dX12_leaves_22 rfl ?_
        refine pm_iconst (v := nI 0) hG dX12_leaves_23 (by decide) ?_
        refine pm_callV (As := [.int (nI i4), .int (nI 0)]) (rest := []) hG hR dX12_leaves_24 (lkX12_223 _ rfl) okV_X12_promised rfl rfl (m_promised (d := 0) (e := 6 * i4 + 1806) (by omega) (by omega) (by omega)) rfl rfl hdd (Nat.le_refl _) (Nat.le_refl _) (by decide) (pm_ki (fun v7 σ' cnt' hq => ?_))
        obtain ⟨rfl, rfl, rfl⟩ := hq
        obtain ⟨k8, hk8, ek8⟩ := KI.nat hnn_4 (show kd (6 * i4 + 1806) = (1, 20, false) from (kd_Q (k := i4) (c := 0) (by omega) (by omega) (by decide)))
        refine pm_top (v := nI k8) ek8 ?_
        refine pm_iloadn hG dX12_leaves_27 rfl ?_
        refine pm_icmpN_ne (tgt := 47) hG dX12_leaves_28 rfl (by omega) (by omega) (fun c9 => ?_) (fun c9 => ?_)
        · refine pm_iincX (v := nI (i4 + 1)) (loc' := [some (.ref (B + 54)), some (.int (nI ba)), some (.int (nI (i4 + 1)))]) hG dX12_leaves_47 rfl (nI_1 _) (by decide) (pm_c1b rfl) rfl ?_
          refine pm_goto (tgt := 10) hG dX12_leaves_50 rfl ?_
          exact ih4 n_4 (i4 + 1) hnn_4 hrn_4 (kc4_11.trans (congrArg nI (by omega))) (by omega) (by omega)
        · refine pm_aloadn hG dX12_leaves_31 rfl ?_
          refine pm_getf hG dX12_leaves_32 (flX12_7 _ rfl) rfl rfl ?_
          refine pm_sipush (v := nI 1806) hG dX12_leaves_35 (by decide) ?_
          refine pm_bipush (v := nI 6) hG dX12_leaves_38 (by decide) ?_
          refine pm_iloadn hG dX12_leaves_40 rfl ?_
          refine pm_imulN (c := 6 * i4) hG dX12_leaves_41 (by omega) ?_
          refine pm_iaddN (c := 6 * i4 + 1806) hG dX12_leaves_42 (by omega) ?_
          refine pm_iconst (v := nI 5) hG dX12_leaves_43 (by decide) ?_
          refine pm_iaddN (c := 6 * i4 + 1811) hG dX12_leaves_44 (by omega) ?_
          refine pm_iconst (v := nI 1) hG dX12_leaves_45 (by decide) ?_
          refine pm_iastN hG dX12_leaves_46 rfl (by decide) (by omega) ?_
          refine mdn_now (fun n_10 en_10 => ?_)
          have hnn_10 := KI.w en_10 hnn_4 (okv_f (show kd (6 * i4 + 1811) = (0, 0, false) from (kd_Q (k := i4) (c := 5) (by omega) (by omega) (by decide))))
          have hrn_10 := NRx.w en_10 hrn_4 (by rw [(show kd (6 * i4 + 1811) = (0, 0, false) from (kd_Q (k := i4) (c := 5) (by omega) (by omega) (by decide)))])
          have e11 : n_10 11 = nI kc11 := by rw [en_10, pk_un (by omega)]; exact kc4_11
          have e12 : n_10 7 = nI k5 := by rw [en_10, pk_un (by omega)]; exact ek5
          have e13 : n_10 (6 * i4 + 1806) = nI k8 := by rw [en_10, pk_un (by omega)]; exact ek8
          have e14 : n_10 (6 * i4 + 1811) = nI 1 := by rw [en_10, pk_us]
          refine pm_iincX (v := nI (i4 + 1)) (loc' := [some (.ref (B + 54)), some (.int (nI ba)), some (.int (nI (i4 + 1)))]) hG dX12_leaves_47 rfl (nI_1 _) (by decide) (pm_c1b rfl) rfl ?_
          refine pm_goto (tgt := 10) hG dX12_leaves_50 rfl ?_
          exact ih4 n_10 (i4 + 1) hnn_10 hrn_10 (e11.trans (congrArg nI (by omega))) (by omega) (by omega)
  exact loop10_4 _ n_1 0 hnn_1 hrn_1 (e2.trans (congrArg nI (by omega))) (by omega) (Nat.lt_succ_self _)

set_option maxRecDepth 100000 in
set_option maxHeartbeats 4000000 in
theorem m_die {d B cnt p0 t0 : Nat} {σ : pm_S} {I : Nat → Int32} {A : Nat → Nat → Int32} {n k z : Nat → Int32} {ac wt pl im : Int32} {za : Int32} (hdd : 4 ≤ d) (hn : KI n) (hr : NR n) (hz : SZ z)  : pm_met mX12_die d 0 0 B [.ref (B + 54), .int za] cnt (pm_mid σ (md_L B I A n k z ac wt pl (nI p0) (nI t0) im)) (pm_Qi (fun v σ' cnt' => (∃ (I' : Nat → Int32) (A' : Nat → Nat → Int32) (n' : Nat → Int32), σ' = pm_mid σ (md_L B I' A' n' k z ac wt pl (nI p0) (nI t0) im) ∧ KI n' ∧ NR n' ∧ n' 11 = n 11) ∧ cnt = cnt')) := by
  obtain ⟨kc11, hkc11, ekc11⟩ := KI.nat hn (show kd 11 = (1, 21, false) by decide)
  refine pm_enter 3 (by decide) (Nat.le_of_ble_eq_true rfl) rfl (fun G hG hR hF => ?_)
  refine pm_aloadn hG dX12_die_0 rfl ?_
  refine pm_iloadn hG dX12_die_1 rfl ?_
  obtain ⟨k1, hk1, ek1⟩ := KI.nat hn (show kd 2 = (1, 21, true) by decide)
  refine pm_callV (As := [.int za]) (rest := []) hG hR dX12_die_2 (lkX12_91 _ rfl) okV_X12_isPerson rfl rfl (m_isPerson (d := 3) (by decide) ek1 (by omega)) rfl rfl hdd (Nat.le_refl _) (Nat.le_refl _) (by decide) (pm_ki (fun v2 σ' cnt' hq => ?_))
  obtain ⟨hq, rfl, rfl⟩ := hq
  rcases hq with ⟨rfl, k4, hk4, ek4⟩ | rfl
  · refine pm_ifN_ne (tgt := 14) hG dX12_die_5 rfl (by omega) (fun _ => ?_) (fun q => absurd q (by omega))
    refine pm_aloadn hG dX12_die_14 rfl ?_
    refine pm_iloadn hG dX12_die_15 rfl ?_
    refine pm_top (v := nI k4) ek4 ?_
    rcases KI.opt hn (show kd (14 * k4 + 119) = (2, 2001, false) from (kd_P (k := k4) (c := 9) (by omega) (by omega) (by decide))) with ek5 | ⟨k5, hk5, ek5⟩
    · refine pm_callV (As := [.int (nI k4)]) (rest := []) hG hR dX12_die_16 (lkX12_101 _ rfl) okV_X12_lives rfl rfl (m_lives1 (d := 3) (by decide) (by omega) (by omega : 14 * k4 + 119 = 14 * k4 + 119) ek5) rfl rfl hdd (Nat.le_refl _) (Nat.le_refl _) (by decide) (pm_ki (fun v6 σ' cnt' hq => ?_))
      obtain ⟨rfl, rfl, rfl⟩ := hq
      refine pm_ifN_ne (tgt := 28) hG dX12_die_19 rfl (by omega) (fun _ => ?_) (fun q => absurd q (by omega))
      refine pm_aloadn hG dX12_die_28 rfl ?_
      refine pm_iloadn hG dX12_die_29 rfl ?_
      refine pm_top (v := nI k4) ek4 ?_
      refine pm_bipush (v := nI 7) hG dX12_die_30 (by decide) ?_
      refine pm_callV (As := [.int (nI k4), .int (nI 7)]) (rest := []) hG hR dX12_die_32 (lkX12_72 _ rfl) okV_X12_man rfl rfl (m_man (d := 3) (e := 14 * k4 + 117) (by omega) (by omega) (by omega)) rfl rfl hdd (Nat.le_refl _) (Nat.le_refl _) (by decide) (pm_ki (fun v7 σ' cnt' hq => ?_))
      obtain ⟨rfl, rfl, rfl⟩ := hq
      refine pm_gen (fun x8 ex8 => ?_)
      refine pm_istoreXn (loc' := [some (.ref (B + 54)), some (.int za), some (.int x8), none, none]) hG dX12_die_35 (by decide) (pm_c1b rfl) rfl ?_
      refine pm_aloadn hG dX12_die_36 rfl ?_
      refine pm_iloadn hG dX12_die_37 rfl ?_
      refine pm_top (v := nI k4) ek4 ?_
      refine pm_bipush (v := nI 10) hG dX12_die_38 (by decide) ?_
      refine pm_aloadn hG dX12_die_40 rfl ?_
      refine pm_iloadn hG dX12_die_41 rfl ?_
      refine pm_top (v := nI k4) ek4 ?_
      refine pm_callV (As := [.int (nI k4)]) (rest := [.int (nI 10), .int (nI k4), .ref (B + 54)]) hG hR dX12_die_42 (lkX12_104 _ rfl) okV_X12_knownTo rfl rfl (m_knownTo (d := 3) (by decide) hn hz (by omega)) rfl rfl hdd (Nat.le_refl _) (Nat.le_refl _) (Nat.le_of_ble_eq_true rfl) (pm_ki (fun v9 σ' cnt' hq => ?_))
      obtain ⟨⟨I10, A10, rfl⟩, rfl⟩ := hq
      refine pm_callV (As := [.int (nI k4), .int (nI 10), .int v9]) (rest := []) hG hR dX12_die_45 (lkX12_97 _ rfl) okV_X12_sets rfl rfl (m_sets (d := 3) (e := 14 * k4 + 120) (by omega) (by omega) (by omega)) rfl rfl hdd (Nat.le_refl _) (Nat.le_refl _) (by decide) (pm_kv (fun σ' cnt' hq => ?_))
      obtain ⟨rfl, rfl⟩ := hq
      obtain ⟨n_11, en_11⟩ : ∃ f : Nat → Int32, f = upd n (14 * k4 + 120) v9 := ⟨_, rfl⟩
      rw [← en_11]
      have hnn_11 := KI.w en_11 hn (okv_f (show kd (14 * k4 + 120) = (0, 0, false) from (kd_P (k := k4) (c := 10) (by omega) (by omega) (by decide))))
      have hrn_11 := NRx.w en_11 hr (by rw [(show kd (14 * k4 + 120) = (0, 0, false) from (kd_P (k := k4) (c := 10) (by omega) (by omega) (by decide)))])
      have e12 : n_11 11 = nI kc11 := by rw [en_11, pk_un (by omega)]; exact ekc11
      have e13 : n_11 2 = nI k1 := by rw [en_11, pk_un (by omega)]; exact ek1
      have e14 : n_11 (14 * k4 + 119) = (-1) := by rw [en_11, pk_un (by omega)]; exact ek5
      have e15 : n_11 (14 * k4 + 117) = x8 := by rw [en_11, pk_un (by omega)]; exact ex8
      have e16 : n_11 (14 * k4 + 120) = v9 := by rw [en_11, pk_us]
      refine pm_aloadn hG dX12_die_48 rfl ?_
      refine pm_iloadn hG dX12_die_49 rfl ?_
      refine pm_top (v := nI k4) ek4 ?_
      refine pm_bipush (v := nI 9) hG dX12_die_50 (by decide) ?_
      refine pm_aloadn hG dX12_die_52 rfl ?_
      refine pm_getf hG dX12_die_53 (flX12_7 _ rfl) rfl rfl ?_
      refine pm_bipush (v := nI 8) hG dX12_die_56 (by decide) ?_
      refine pm_ialdN hG dX12_die_58 rfl (by decide) (by omega) ?_
      obtain ⟨k17, hk17, ek17⟩ := KI.nat hnn_11 (show kd 8 = (1, 2001, false) by decide)
      refine pm_top (v := nI k17) ek17 ?_
      refine pm_callV (As := [.int (nI k4), .int (nI 9), .int (nI k17)]) (rest := []) hG hR dX12_die_59 (lkX12_97 _ rfl) okV_X12_sets rfl rfl (m_sets (d := 3) (e := 14 * k4 + 119) (by omega) (by omega) (by omega)) rfl rfl hdd (Nat.le_refl _) (Nat.le_refl _) (by decide) (pm_kv (fun σ' cnt' hq => ?_))
      obtain ⟨rfl, rfl⟩ := hq
      obtain ⟨n_18, en_18⟩ : ∃ f : Nat → Int32, f = upd n_11 (14 * k4 + 119) (nI k17) := ⟨_, rfl⟩
      rw [← en_18]
      have hnn_18 := KI.w en_18 hnn_11 (okv_o (show kd (14 * k4 + 119) = (2, 2001, false) from (kd_P (k := k4) (c := 9) (by omega) (by omega) (by decide))) (by omega))
      have hrn_18 := NRx.w en_18 hrn_11 (by rw [(show kd (14 * k4 + 119) = (2, 2001, false) from (kd_P (k := k4) (c := 9) (by omega) (by omega) (by decide)))])
      have e19 : n_18 11 = nI kc11 := by rw [en_18, pk_un (by omega)]; exact e12
      have e20 : n_18 2 = nI k1 := by rw [en_18, pk_un (by omega)]; exact e13
      have e21 : n_18 (14 * k4 + 117) = x8 := by rw [en_18, pk_un (by omega)]; exact e15
      have e22 : n_18 (14 * k4 + 120) = v9 := by rw [en_18, pk_un (by omega)]; exact e16
      have e23 : n_18 8 = nI k17 := by rw [en_18, pk_un (by omega)]; exact ek17
      have e24 : n_18 (14 * k4 + 119) = nI k17 := by rw [en_18, pk_us]
      refine pm_aloadn hG dX12_die_62 rfl ?_
      refine pm_iloadn hG dX12_die_63 rfl ?_
      refine pm_top (v := nI k4) ek4 ?_
      refine pm_bipush (v := nI 7) hG dX12_die_64 (by decide) ?_
      refine pm_iconst (v := nI 0) hG dX12_die_66 (by decide) ?_
      refine pm_callV (As := [.int (nI k4), .int (nI 7), .int (nI 0)]) (rest := []) hG hR dX12_die_67 (lkX12_97 _ rfl) okV_X12_sets rfl rfl (m_sets (d := 3) (e := 14 * k4 + 117) (by omega) (by omega) (by omega)) rfl rfl hdd (Nat.le_refl _) (Nat.le_refl _) (by decide) (pm_kv (fun σ' cnt' hq => ?_))
      obtain ⟨rfl, rfl⟩ := hq
      obtain ⟨n_25, en_25⟩ : ∃ f : Nat → Int32, f = upd n_18 (14 * k4 + 117) (nI 0) := ⟨_, rfl⟩
      rw [← en_25]
      have hnn_25 := KI.w en_25 hnn_18 (okv_f (show kd (14 * k4 + 117) = (0, 0, false) from (kd_P (k := k4) (c := 7) (by omega) (by omega) (by decide))))
      have hrn_25 := NRx.w en_25 hrn_18 (by rw [(show kd (14 * k4 + 117) = (0, 0, false) from (kd_P (k := k4) (c := 7) (by omega) (by omega) (by decide)))])
      have e26 : n_25 11 = nI kc11 := by rw [en_25, pk_un (by omega)]; exact e19
      have e27 : n_25 2 = nI k1 := by rw [en_25, pk_un (by omega)]; exact e20
      have e28 : n_25 (14 * k4 + 120) = v9 := by rw [en_25, pk_un (by omega)]; exact e22
      have e29 : n_25 8 = nI k17 := by rw [en_25, pk_un (by omega)]; exact e23
      have e30 : n_25 (14 * k4 + 119) = nI k17 := by rw [en_25, pk_un (by omega)]; exact e24
      have e31 : n_25 (14 * k4 + 117) = nI 0 := by rw [en_25, pk_us]
      refine pm_aloadn hG dX12_die_70 rfl ?_
      refine pm_iloadn hG dX12_die_71 rfl ?_
      refine pm_top (v := nI k4) ek4 ?_
      refine pm_bipush (v := nI 8) hG dX12_die_72 (by decide) ?_
      refine pm_iconst (v := nI 0) hG dX12_die_74 (by decide) ?_
      refine pm_callV (As := [.int (nI k4), .int (nI 8), .int (nI 0)]) (rest := []) hG hR dX12_die_75 (lkX12_97 _ rfl) okV_X12_sets rfl rfl (m_sets (d := 3) (e := 14 * k4 + 118) (by omega) (by omega) (by omega)) rfl rfl hdd (Nat.le_refl _) (Nat.le_refl _) (by decide) (pm_kv (fun σ' cnt' hq => ?_))
      obtain ⟨rfl, rfl⟩ := hq
      obtain ⟨n_32, en_32⟩ : ∃ f : Nat → Int32, f = upd n_25 (14 * k4 + 118) (nI 0) := ⟨_, rfl⟩
      rw [← en_32]
      have hnn_32 := KI.w en_32 hnn_25 (okv_f (show kd (14 * k4 + 118) = (0, 0, false) from (kd_P (k := k4) (c := 8) (by omega) (by omega) (by decide))))
      have hrn_32 := NRx.w en_32 hrn_25 (by rw [(show kd (14 * k4 + 118) = (0, 0, false) from (kd_P (k := k4) (c := 8) (by omega) (by omega) (by decide)))])
      have e33 : n_32 11 = nI kc11 := by rw [en_32, pk_un (by omega)]; exact e26
      have e34 : n_32 2 = nI k1 := by rw [en_32, pk_un (by omega)]; exact e27
      have e35 : n_32 (14 * k4 + 120) = v9 := by rw [en_32, pk_un (by omega)]; exact e28
      have e36 : n_32 8 = nI k17 := by rw [en_32, pk_un (by omega)]; exact e29
      have e37 : n_32 (14 * k4 + 119) = nI k17 := by rw [en_32, pk_un (by omega)]; exact e30
      have e38 : n_32 (14 * k4 + 117) = nI 0 := by rw [en_32, pk_un (by omega)]; exact e31
      have e39 : n_32 (14 * k4 + 118) = nI 0 := by rw [en_32, pk_us]
      refine pm_aloadn hG dX12_die_78 rfl ?_
      refine pm_getf hG dX12_die_79 (flX12_7 _ rfl) rfl rfl ?_
      refine pm_bipush (v := nI 9) hG dX12_die_82 (by decide) ?_
      refine pm_dup2 hG dX12_die_84 rfl rfl ?_
      refine pm_ialdN hG dX12_die_85 rfl (by decide) (by omega) ?_
      refine pm_gen (fun x40 ex40 => ?_)
      refine pm_iloadn hG dX12_die_86 rfl ?_
      refine pm_iadd hG dX12_die_87 ?_
      refine pm_iastN hG dX12_die_88 rfl (by decide) (by omega) ?_
      refine mdn_now (fun n_41 en_41 => ?_)
      have hnn_41 := KI.w en_41 hnn_32 (okv_f (show kd 9 = (0, 0, false) by decide))
      have hrn_41 := NRx.w en_41 hrn_32 (by rw [(show kd 9 = (0, 0, false) by decide)])
      have e42 : n_41 11 = nI kc11 := by rw [en_41, pk_un (by omega)]; exact e33
      have e43 : n_41 2 = nI k1 := by rw [en_41, pk_un (by omega)]; exact e34
      have e44 : n_41 (14 * k4 + 120) = v9 := by rw [en_41, pk_un (by omega)]; exact e35
      have e45 : n_41 8 = nI k17 := by rw [en_41, pk_un (by omega)]; exact e36
      have e46 : n_41 (14 * k4 + 119) = nI k17 := by rw [en_41, pk_un (by omega)]; exact e37
      have e47 : n_41 (14 * k4 + 117) = nI 0 := by rw [en_41, pk_un (by omega)]; exact e38
      have e48 : n_41 (14 * k4 + 118) = nI 0 := by rw [en_41, pk_un (by omega)]; exact e39
      have e49 : n_41 9 = x40 + x8 := by rw [en_41, pk_us]
      refine pm_aloadn hG dX12_die_89 rfl ?_
      refine pm_iloadn hG dX12_die_90 rfl ?_
      refine pm_top (v := nI k4) ek4 ?_
      refine pm_bipush (v := nI 11) hG dX12_die_91 (by decide) ?_
      refine pm_callV (As := [.int (nI k4), .int (nI 11)]) (rest := []) hG hR dX12_die_93 (lkX12_72 _ rfl) okV_X12_man rfl rfl (m_man (d := 3) (e := 14 * k4 + 121) (by omega) (by omega) (by omega)) rfl rfl hdd (Nat.le_refl _) (Nat.le_refl _) (by decide) (pm_ki (fun v50 σ' cnt' hq => ?_))
      obtain ⟨rfl, rfl, rfl⟩ := hq
      obtain ⟨k51, hk51, ek51⟩ := KI.nat hnn_41 (show kd (14 * k4 + 121) = (1, 2, true) from (kd_P (k := k4) (c := 11) (by omega) (by omega) (by decide)))
      refine pm_top (v := nI k51) ek51 ?_
      refine pm_iconst (v := nI 1) hG dX12_die_96 (by decide) ?_
      refine pm_icmpN_ne (tgt := 105) hG dX12_die_97 rfl (by omega) (by omega) (fun c52 => ?_) (fun c52 => ?_)
      · refine pm_iconst (v := nI 0) hG dX12_die_105 (by decide) ?_
        refine pm_istoreXn (loc' := [some (.ref (B + 54)), some (.int za), some (.int x8), some (.int (nI 0)), none]) hG dX12_die_106 (by decide) (pm_c1b rfl) rfl ?_
        have loop107_53 : ∀ (m53 : Nat) (I53 : Nat → Int32) (A53 : Nat → Nat → Int32) (n_53 : Nat → Int32) (i53 : Nat), KI n_53 → NRx 40 n_53 → n_53 11 = nI kc11 → i53 ≤ 20 → 20 - i53 < m53 → pm_wp mX12_die G B 107 [some (.ref (B + 54)), some (.int za), some (.int x8), some (.int (nI i53)), none] [] 0 0 cnt (pm_mid σ (md_L B I53 A53 n_53 k z ac wt pl (nI p0) (nI t0) im)) := by
          intro m53
          induction m53 with
          | zero => intro I53 A53 n_53 i53 _ _ _ _ hm; exact absurd hm (Nat.not_lt_zero _)
          | succ m53 ih53 =>
            intro I53 A53 n_53 i53 hnn_53 hrn_53 kc53_11 hi53 hm53
            refine pm_iloadn hG dX12_die_107 rfl ?_
            refine pm_aloadn hG dX12_die_108 rfl ?_
            refine pm_getf hG dX12_die_109 (flX12_7 _ rfl) rfl rfl ?_
            refine pm_iconst (v := nI 3) hG dX12_die_112 (by decide) ?_
            refine pm_ialdN hG dX12_die_113 rfl (by decide) (by omega) ?_
            obtain ⟨k54, hk54, ek54⟩ := KI.nat hnn_53 (show kd 3 = (1, 21, false) by decide)
            refine pm_top (v := nI k54) ek54 ?_
            refine pm_icmpN_ge (tgt := 172) hG dX12_die_114 rfl (by omega) (by omega) (fun c55 => ?_) (fun c55 => ?_)
            · refine pm_iloadn hG dX12_die_172 rfl ?_
              exact pm_iret hG hF dX12_die_173 rfl (Nat.le_refl _) (Nat.le_refl _) ⟨_, rfl, ⟨_, _, _, rfl, hnn_53, hrn_53, kc53_11.trans ekc11.symm⟩, rfl⟩
            · refine pm_aloadn hG dX12_die_117 rfl ?_
              refine pm_iloadn hG dX12_die_118 rfl ?_
              refine pm_iconst (v := nI 1) hG dX12_die_119 (by decide) ?_
              refine pm_callV (As := [.int (nI i53), .int (nI 1)]) (rest := []) hG hR dX12_die_120 (lkX12_110 _ rfl) okV_X12_its rfl rfl (m_its (d := 3) (e := 6 * i53 + 391) (by omega) (by omega) (by omega)) rfl rfl hdd (Nat.le_refl _) (Nat.le_refl _) (by decide) (pm_ki (fun v56 σ' cnt' hq => ?_))
              obtain ⟨rfl, rfl, rfl⟩ := hq
              rcases KI.opt hnn_53 (show kd (6 * i53 + 391) = (2, 20, false) from (kd_W (k := i53) (c := 1) (by omega) (by omega) (by decide))) with ek57 | ⟨k57, hk57, ek57⟩
              · refine pm_top (v := (-1)) ek57 ?_
                refine pm_iloadn hG dX12_die_123 rfl ?_
                refine pm_top (v := nI k4) ek4 ?_
                refine pm_icmp_ne (tgt := 131) hG dX12_die_124 rfl (fun _ => ?_) (fun q => absurd q ((fun q => nI_m1 (by omega) q.symm)))
                refine pm_iconst (v := nI 0) hG dX12_die_131 (by decide) ?_
                refine pm_istoreXi (loc' := [some (.ref (B + 54)), some (.int za), some (.int x8), some (.int (nI i53)), some (.int (nI 0))]) hG dX12_die_132 (by decide) (pm_c1b rfl) rfl ?_
                refine pm_iloadi hG dX12_die_134 rfl ?_
                refine pm_ifN_eq (tgt := 146) hG dX12_die_136 rfl (by omega) (fun _ => ?_) (fun q => absurd q (by omega))
                refine pm_iloadi hG dX12_die_146 rfl ?_
                refine pm_ifN_ne (tgt := 161) hG dX12_die_148 rfl (by omega) (fun q => absurd q (by omega)) (fun _ => ?_)
                refine pm_aloadn hG dX12_die_151 rfl ?_
                refine pm_iloadn hG dX12_die_152 rfl ?_
                refine pm_iconst (v := nI 2) hG dX12_die_153 (by decide) ?_
                refine pm_callV (As := [.int (nI i53), .int (nI 2)]) (rest := []) hG hR dX12_die_154 (lkX12_110 _ rfl) okV_X12_its rfl rfl (m_its (d := 3) (e := 6 * i53 + 392) (by omega) (by omega) (by omega)) rfl rfl hdd (Nat.le_refl _) (Nat.le_refl _) (by decide) (pm_ki (fun v58 σ' cnt' hq => ?_))
                obtain ⟨rfl, rfl, rfl⟩ := hq
                rcases KI.opt hnn_53 (show kd (6 * i53 + 392) = (2, 20, false) from (kd_W (k := i53) (c := 2) (by omega) (by omega) (by decide))) with ek59 | ⟨k59, hk59, ek59⟩
                · refine pm_top (v := (-1)) ek59 ?_
                  refine pm_iloadn hG dX12_die_157 rfl ?_
                  refine pm_top (v := nI k4) ek4 ?_
                  refine pm_icmp_ne (tgt := 166) hG dX12_die_158 rfl (fun _ => ?_) (fun q => absurd q ((fun q => nI_m1 (by omega) q.symm)))
                  refine pm_iincX (v := nI (i53 + 1)) (loc' := [some (.ref (B + 54)), some (.int za), some (.int x8), some (.int (nI (i53 + 1))), some (.int (nI 0))]) hG dX12_die_166 rfl (nI_1 _) (by decide) (pm_c1b rfl) rfl ?_
                  refine pm_goto (tgt := 107) hG dX12_die_169 rfl ?_
                  refine pm_fg 4 (loc' := [some (.ref (B + 54)), some (.int za), some (.int x8), some (.int (nI (i53 + 1))), none]) rfl ?_
                  exact ih53 I53 A53 n_53 (i53 + 1) hnn_53 hrn_53 (kc53_11.trans (congrArg nI (by omega))) (by omega) (by omega)
                · refine pm_top (v := nI k59) ek59 ?_
                  refine pm_iloadn hG dX12_die_157 rfl ?_
                  refine pm_top (v := nI k4) ek4 ?_
                  refine pm_icmpN_ne (tgt := 166) hG dX12_die_158 rfl (by omega) (by omega) (fun c60 => ?_) (fun c60 => ?_)
                  · refine pm_iincX (v := nI (i53 + 1)) (loc' := [some (.ref (B + 54)), some (.int za), some (.int x8), some (.int (nI (i53 + 1))), some (.int (nI 0))]) hG dX12_die_166 rfl (nI_1 _) (by decide) (pm_c1b rfl) rfl ?_
                    refine pm_goto (tgt := 107) hG dX12_die_169 rfl ?_
                    refine pm_fg 4 (loc' := [some (.ref (B + 54)), some (.int za), some (.int x8), some (.int (nI (i53 + 1))), none]) rfl ?_
                    exact ih53 I53 A53 n_53 (i53 + 1) hnn_53 hrn_53 (kc53_11.trans (congrArg nI (by omega))) (by omega) (by omega)
                  · refine pm_aloadn hG dX12_die_161 rfl ?_
                    refine pm_iloadn hG dX12_die_162 rfl ?_
                    refine pm_callV (As := [.int (nI i53)]) (rest := []) hG hR dX12_die_163 (lkX12_116 _ rfl) okV_X12_comesBack rfl rfl (m_comesBack (d := 3) (e := 6 * i53 + 392) (e2 := 6 * i53 + 393) (by decide) (by omega) (by omega) (by omega)) rfl rfl hdd (Nat.le_refl _) (Nat.le_refl _) (by decide) (pm_kv (fun σ' cnt' hq => ?_))
                    obtain ⟨rfl, rfl⟩ := hq
                    obtain ⟨n_61, en_61⟩ : ∃ f : Nat → Int32, f = upd n_53 (6 * i53 + 392) (-1) := ⟨_, rfl⟩
                    rw [← en_61]
                    have hnn_61 := KI.w en_61 hnn_53 (okv_m (show kd (6 * i53 + 392) = (2, 20, false) from (kd_W (k := i53) (c := 2) (by omega) (by omega) (by decide))))
                    have hrn_61 := NRx.w en_61 hrn_53 (by rw [(show kd (6 * i53 + 392) = (2, 20, false) from (kd_W (k := i53) (c := 2) (by omega) (by omega) (by decide)))])
                    have e62 : n_61 11 = nI kc11 := by rw [en_61, pk_un (by omega)]; exact kc53_11
                    have e63 : n_61 3 = nI k54 := by rw [en_61, pk_un (by omega)]; exact ek54
                    have e64 : n_61 (6 * i53 + 391) = (-1) := by rw [en_61, pk_un (by omega)]; exact ek57
                    have e65 : n_61 (6 * i53 + 392) = (-1) := by rw [en_61, pk_us]
                    obtain ⟨n_66, en_66⟩ : ∃ f : Nat → Int32, f = upd n_61 (6 * i53 + 393) (-1) := ⟨_, rfl⟩
                    rw [← en_66]
                    have hnn_66 := KI.w en_66 hnn_61 (okv_f (show kd (6 * i53 + 393) = (0, 0, false) from (kd_W (k := i53) (c := 3) (by omega) (by omega) (by decide))))
                    have hrn_66 := NRx.w en_66 hrn_61 (by rw [(show kd (6 * i53 + 393) = (0, 0, false) from (kd_W (k := i53) (c := 3) (by omega) (by omega) (by decide)))])
                    have e67 : n_66 11 = nI kc11 := by rw [en_66, pk_un (by omega)]; exact e62
                    have e68 : n_66 3 = nI k54 := by rw [en_66, pk_un (by omega)]; exact e63
                    have e69 : n_66 (6 * i53 + 391) = (-1) := by rw [en_66, pk_un (by omega)]; exact e64
                    have e70 : n_66 (6 * i53 + 392) = (-1) := by rw [en_66, pk_un (by omega)]; exact e65
                    have e71 : n_66 (6 * i53 + 393) = (-1) := by rw [en_66, pk_us]
                    refine pm_iincX (v := nI (i53 + 1)) (loc' := [some (.ref (B + 54)), some (.int za), some (.int x8), some (.int (nI (i53 + 1))), some (.int (nI 0))]) hG dX12_die_166 rfl (nI_1 _) (by decide) (pm_c1b rfl) rfl ?_
                    refine pm_goto (tgt := 107) hG dX12_die_169 rfl ?_
                    refine pm_fg 4 (loc' := [some (.ref (B + 54)), some (.int za), some (.int x8), some (.int (nI (i53 + 1))), none]) rfl ?_
                    exact ih53 I53 A53 n_66 (i53 + 1) hnn_66 hrn_66 (e67.trans (congrArg nI (by omega))) (by omega) (by omega)
              · refine pm_top (v := nI k57) ek57 ?_
                refine pm_iloadn hG dX12_die_123 rfl ?_
                refine pm_top (v := nI k4) ek4 ?_
                refine pm_icmpN_ne (tgt := 131) hG dX12_die_124 rfl (by omega) (by omega) (fun c72 => ?_) (fun c72 => ?_)
                · refine pm_iconst (v := nI 0) hG dX12_die_131 (by decide) ?_
                  refine pm_istoreXi (loc' := [some (.ref (B + 54)), some (.int za), some (.int x8), some (.int (nI i53)), some (.int (nI 0))]) hG dX12_die_132 (by decide) (pm_c1b rfl) rfl ?_
                  refine pm_iloadi hG dX12_die_134 rfl ?_
                  refine pm_ifN_eq (tgt := 146) hG dX12_die_136 rfl (by omega) (fun _ => ?_) (fun q => absurd q (by omega))
                  refine pm_iloadi hG dX12_die_146 rfl ?_
                  refine pm_ifN_ne (tgt := 161) hG dX12_die_148 rfl (by omega) (fun q => absurd q (by omega)) (fun _ => ?_)
                  refine pm_aloadn hG dX12_die_151 rfl ?_
                  refine pm_iloadn hG dX12_die_152 rfl ?_
                  refine pm_iconst (v := nI 2) hG dX12_die_153 (by decide) ?_
                  refine pm_callV (As := [.int (nI i53), .int (nI 2)]) (rest := []) hG hR dX12_die_154 (lkX12_110 _ rfl) okV_X12_its rfl rfl (m_its (d := 3) (e := 6 * i53 + 392) (by omega) (by omega) (by omega)) rfl rfl hdd (Nat.le_refl _) (Nat.le_refl _) (by decide) (pm_ki (fun v73 σ' cnt' hq => ?_))
                  obtain ⟨rfl, rfl, rfl⟩ := hq
                  rcases KI.opt hnn_53 (show kd (6 * i53 + 392) = (2, 20, false) from (kd_W (k := i53) (c := 2) (by omega) (by omega) (by decide))) with ek74 | ⟨k74, hk74, ek74⟩
                  · refine pm_top (v := (-1)) ek74 ?_
                    refine pm_iloadn hG dX12_die_157 rfl ?_
                    refine pm_top (v := nI k4) ek4 ?_
                    refine pm_icmp_ne (tgt := 166) hG dX12_die_158 rfl (fun _ => ?_) (fun q => absurd q ((fun q => nI_m1 (by omega) q.symm)))
                    refine pm_iincX (v := nI (i53 + 1)) (loc' := [some (.ref (B + 54)), some (.int za), some (.int x8), some (.int (nI (i53 + 1))), some (.int (nI 0))]) hG dX12_die_166 rfl (nI_1 _) (by decide) (pm_c1b rfl) rfl ?_
                    refine pm_goto (tgt := 107) hG dX12_die_169 rfl ?_
                    refine pm_fg 4 (loc' := [some (.ref (B + 54)), some (.int za), some (.int x8), some (.int (nI (i53 + 1))), none]) rfl ?_
                    exact ih53 I53 A53 n_53 (i53 + 1) hnn_53 hrn_53 (kc53_11.trans (congrArg nI (by omega))) (by omega) (by omega)
                  · refine pm_top (v := nI k74) ek74 ?_
                    refine pm_iloadn hG dX12_die_157 rfl ?_
                    refine pm_top (v := nI k4) ek4 ?_
                    refine pm_icmpN_ne (tgt := 166) hG dX12_die_158 rfl (by omega) (by omega) (fun c75 => ?_) (fun c75 => ?_)
                    · refine pm_iincX (v := nI (i53 + 1)) (loc' := [some (.ref (B + 54)), some (.int za), some (.int x8), some (.int (nI (i53 + 1))), some (.int (nI 0))]) hG dX12_die_166 rfl (nI_1 _) (by decide) (pm_c1b rfl) rfl ?_
                      refine pm_goto (tgt := 107) hG dX12_die_169 rfl ?_
                      refine pm_fg 4 (loc' := [some (.ref (B + 54)), some (.int za), some (.int x8), some (.int (nI (i53 + 1))), none]) rfl ?_
                      exact ih53 I53 A53 n_53 (i53 + 1) hnn_53 hrn_53 (kc53_11.trans (congrArg nI (by omega))) (by omega) (by omega)
                    · refine pm_aloadn hG dX12_die_161 rfl ?_
                      refine pm_iloadn hG dX12_die_162 rfl ?_
                      refine pm_callV (As := [.int (nI i53)]) (rest := []) hG hR dX12_die_163 (lkX12_116 _ rfl) okV_X12_comesBack rfl rfl (m_comesBack (d := 3) (e := 6 * i53 + 392) (e2 := 6 * i53 + 393) (by decide) (by omega) (by omega) (by omega)) rfl rfl hdd (Nat.le_refl _) (Nat.le_refl _) (by decide) (pm_kv (fun σ' cnt' hq => ?_))
                      obtain ⟨rfl, rfl⟩ := hq
                      obtain ⟨n_76, en_76⟩ : ∃ f : Nat → Int32, f = upd n_53 (6 * i53 + 392) (-1) := ⟨_, rfl⟩
                      rw [← en_76]
                      have hnn_76 := KI.w en_76 hnn_53 (okv_m (show kd (6 * i53 + 392) = (2, 20, false) from (kd_W (k := i53) (c := 2) (by omega) (by omega) (by decide))))
                      have hrn_76 := NRx.w en_76 hrn_53 (by rw [(show kd (6 * i53 + 392) = (2, 20, false) from (kd_W (k := i53) (c := 2) (by omega) (by omega) (by decide)))])
                      have e77 : n_76 11 = nI kc11 := by rw [en_76, pk_un (by omega)]; exact kc53_11
                      have e78 : n_76 3 = nI k54 := by rw [en_76, pk_un (by omega)]; exact ek54
                      have e79 : n_76 (6 * i53 + 391) = nI k57 := by rw [en_76, pk_un (by omega)]; exact ek57
                      have e80 : n_76 (6 * i53 + 392) = (-1) := by rw [en_76, pk_us]
                      obtain ⟨n_81, en_81⟩ : ∃ f : Nat → Int32, f = upd n_76 (6 * i53 + 393) (-1) := ⟨_, rfl⟩
                      rw [← en_81]
                      have hnn_81 := KI.w en_81 hnn_76 (okv_f (show kd (6 * i53 + 393) = (0, 0, false) from (kd_W (k := i53) (c := 3) (by omega) (by omega) (by decide))))
                      have hrn_81 := NRx.w en_81 hrn_76 (by rw [(show kd (6 * i53 + 393) = (0, 0, false) from (kd_W (k := i53) (c := 3) (by omega) (by omega) (by decide)))])
                      have e82 : n_81 11 = nI kc11 := by rw [en_81, pk_un (by omega)]; exact e77
                      have e83 : n_81 3 = nI k54 := by rw [en_81, pk_un (by omega)]; exact e78
                      have e84 : n_81 (6 * i53 + 391) = nI k57 := by rw [en_81, pk_un (by omega)]; exact e79
                      have e85 : n_81 (6 * i53 + 392) = (-1) := by rw [en_81, pk_un (by omega)]; exact e80
                      have e86 : n_81 (6 * i53 + 393) = (-1) := by rw [en_81, pk_us]
                      refine pm_iincX (v := nI (i53 + 1)) (loc' := [some (.ref (B + 54)), some (.int za), some (.int x8), some (.int (nI (i53 + 1))), some (.int (nI 0))]) hG dX12_die_166 rfl (nI_1 _) (by decide) (pm_c1b rfl) rfl ?_
                      refine pm_goto (tgt := 107) hG dX12_die_169 rfl ?_
                      refine pm_fg 4 (loc' := [some (.ref (B + 54)), some (.int za), some (.int x8), some (.int (nI (i53 + 1))), none]) rfl ?_
                      exact ih53 I53 A53 n_81 (i53 + 1) hnn_81 hrn_81 (e82.trans (congrArg nI (by omega))) (by omega) (by omega)
                · refine pm_iconst (v := nI 1) hG dX12_die_127 (by decide) ?_
                  refine pm_goto (tgt := 132) hG dX12_die_128 rfl ?_
                  refine pm_istoreXi (loc' := [some (.ref (B + 54)), some (.int za), some (.int x8), some (.int (nI i53)), some (.int (nI 1))]) hG dX12_die_132 (by decide) (pm_c1b rfl) rfl ?_
                  refine pm_iloadi hG dX12_die_134 rfl ?_
                  refine pm_ifN_eq (tgt := 146) hG dX12_die_136 rfl (by omega) (fun q => absurd q (by omega)) (fun _ => ?_)
                  refine pm_aloadn hG dX12_die_139 rfl ?_
                  refine pm_iloadn hG dX12_die_140 rfl ?_
                  refine pm_iconst (v := nI 1) hG dX12_die_141 (by decide) ?_
                  refine pm_iconst (v := (-1)) hG dX12_die_142 (by decide) ?_
                  refine pm_callV (As := [.int (nI i53), .int (nI 1), .int (-1)]) (rest := []) hG hR dX12_die_143 (lkX12_113 _ rfl) okV_X12_makes rfl rfl (m_makes (d := 3) (e := 6 * i53 + 391) (by omega) (by omega) (by omega)) rfl rfl hdd (Nat.le_refl _) (Nat.le_refl _) (by decide) (pm_kv (fun σ' cnt' hq => ?_))
                  obtain ⟨rfl, rfl⟩ := hq
                  obtain ⟨n_87, en_87⟩ : ∃ f : Nat → Int32, f = upd n_53 (6 * i53 + 391) (-1) := ⟨_, rfl⟩
                  rw [← en_87]
                  have hnn_87 := KI.w en_87 hnn_53 (okv_m (show kd (6 * i53 + 391) = (2, 20, false) from (kd_W (k := i53) (c := 1) (by omega) (by omega) (by decide))))
                  have hrn_87 := NRx.w en_87 hrn_53 (by rw [(show kd (6 * i53 + 391) = (2, 20, false) from (kd_W (k := i53) (c := 1) (by omega) (by omega) (by decide)))])
                  have e88 : n_87 11 = nI kc11 := by rw [en_87, pk_un (by omega)]; exact kc53_11
                  have e89 : n_87 3 = nI k54 := by rw [en_87, pk_un (by omega)]; exact ek54
                  have e90 : n_87 (6 * i53 + 391) = (-1) := by rw [en_87, pk_us]
                  refine pm_iloadi hG dX12_die_146 rfl ?_
                  refine pm_ifN_ne (tgt := 161) hG dX12_die_148 rfl (by omega) (fun _ => ?_) (fun q => absurd q (by omega))
                  refine pm_aloadn hG dX12_die_161 rfl ?_
                  refine pm_iloadn hG dX12_die_162 rfl ?_
                  refine pm_callV (As := [.int (nI i53)]) (rest := []) hG hR dX12_die_163 (lkX12_116 _ rfl) okV_X12_comesBack rfl rfl (m_comesBack (d := 3) (e := 6 * i53 + 392) (e2 := 6 * i53 + 393) (by decide) (by omega) (by omega) (by omega)) rfl rfl hdd (Nat.le_refl _) (Nat.le_refl _) (by decide) (pm_kv (fun σ' cnt' hq => ?_))
                  obtain ⟨rfl, rfl⟩ := hq
                  obtain ⟨n_91, en_91⟩ : ∃ f : Nat → Int32, f = upd n_87 (6 * i53 + 392) (-1) := ⟨_, rfl⟩
                  rw [← en_91]
                  have hnn_91 := KI.w en_91 hnn_87 (okv_m (show kd (6 * i53 + 392) = (2, 20, false) from (kd_W (k := i53) (c := 2) (by omega) (by omega) (by decide))))
                  have hrn_91 := NRx.w en_91 hrn_87 (by rw [(show kd (6 * i53 + 392) = (2, 20, false) from (kd_W (k := i53) (c := 2) (by omega) (by omega) (by decide)))])
                  have e92 : n_91 11 = nI kc11 := by rw [en_91, pk_un (by omega)]; exact e88
                  have e93 : n_91 3 = nI k54 := by rw [en_91, pk_un (by omega)]; exact e89
                  have e94 : n_91 (6 * i53 + 391) = (-1) := by rw [en_91, pk_un (by omega)]; exact e90
                  have e95 : n_91 (6 * i53 + 392) = (-1) := by rw [en_91, pk_us]
                  obtain ⟨n_96, en_96⟩ : ∃ f : Nat → Int32, f = upd n_91 (6 * i53 + 393) (-1) := ⟨_, rfl⟩
                  rw [← en_96]
                  have hnn_96 := KI.w en_96 hnn_91 (okv_f (show kd (6 * i53 + 393) = (0, 0, false) from (kd_W (k := i53) (c := 3) (by omega) (by omega) (by decide))))
                  have hrn_96 := NRx.w en_96 hrn_91 (by rw [(show kd (6 * i53 + 393) = (0, 0, false) from (kd_W (k := i53) (c := 3) (by omega) (by omega) (by decide)))])
                  have e97 : n_96 11 = nI kc11 := by rw [en_96, pk_un (by omega)]; exact e92
                  have e98 : n_96 3 = nI k54 := by rw [en_96, pk_un (by omega)]; exact e93
                  have e99 : n_96 (6 * i53 + 391) = (-1) := by rw [en_96, pk_un (by omega)]; exact e94
                  have e100 : n_96 (6 * i53 + 392) = (-1) := by rw [en_96, pk_un (by omega)]; exact e95
                  have e101 : n_96 (6 * i53 + 393) = (-1) := by rw [en_96, pk_us]
                  refine pm_iincX (v := nI (i53 + 1)) (loc' := [some (.ref (B + 54)), some (.int za), some (.int x8), some (.int (nI (i53 + 1))), some (.int (nI 1))]) hG dX12_die_166 rfl (nI_1 _) (by decide) (pm_c1b rfl) rfl ?_
                  refine pm_goto (tgt := 107) hG dX12_die_169 rfl ?_
                  refine pm_fg 4 (loc' := [some (.ref (B + 54)), some (.int za), some (.int x8), some (.int (nI (i53 + 1))), none]) rfl ?_
                  exact ih53 I53 A53 n_96 (i53 + 1) hnn_96 hrn_96 (e97.trans (congrArg nI (by omega))) (by omega) (by omega)
        exact loop107_53 _ I10 A10 n_41 0 hnn_41 hrn_41 (e42.trans (congrArg nI (by omega))) (by omega) (Nat.lt_succ_self _)
      · refine pm_aloadn hG dX12_die_100 rfl ?_
        refine pm_iloadn hG dX12_die_101 rfl ?_
        refine pm_top (v := nI k4) ek4 ?_
        refine pm_callV (As := [.int (nI k4)]) (rest := []) hG hR dX12_die_102 (lkX12_107 _ rfl) okV_X12_leaves rfl rfl (m_leaves (d := 3) (by decide) hnn_41 hrn_41 hz (by omega)) rfl rfl hdd (Nat.le_refl _) (Nat.le_refl _) (by decide) (pm_kv (fun σ' cnt' hq => ?_))
        obtain ⟨⟨n_103, rfl, hn103, hr103, hc103_11⟩, rfl⟩ := hq
        have e104 : n_103 11 = nI kc11 := hc103_11.trans e42
        refine pm_iconst (v := nI 0) hG dX12_die_105 (by decide) ?_
        refine pm_istoreXn (loc' := [some (.ref (B + 54)), some (.int za), some (.int x8), some (.int (nI 0)), none]) hG dX12_die_106 (by decide) (pm_c1b rfl) rfl ?_
        have loop107_105 : ∀ (m105 : Nat) (I105 : Nat → Int32) (A105 : Nat → Nat → Int32) (n_105 : Nat → Int32) (i105 : Nat), KI n_105 → NRx 40 n_105 → n_105 11 = nI kc11 → i105 ≤ 20 → 20 - i105 < m105 → pm_wp mX12_die G B 107 [some (.ref (B + 54)), some (.int za), some (.int x8), some (.int (nI i105)), none] [] 0 0 cnt (pm_mid σ (md_L B I105 A105 n_105 k z ac wt pl (nI p0) (nI t0) im)) := by
          intro m105
          induction m105 with
          | zero => intro I105 A105 n_105 i105 _ _ _ _ hm; exact absurd hm (Nat.not_lt_zero _)
          | succ m105 ih105 =>
            intro I105 A105 n_105 i105 hnn_105 hrn_105 kc105_11 hi105 hm105
            refine pm_iloadn hG dX12_die_107 rfl ?_
            refine pm_aloadn hG dX12_die_108 rfl ?_
            refine pm_getf hG dX12_die_109 (flX12_7 _ rfl) rfl rfl ?_
            refine pm_iconst (v := nI 3) hG dX12_die_112 (by decide) ?_
            refine pm_ialdN hG dX12_die_113 rfl (by decide) (by omega) ?_
            obtain ⟨k106, hk106, ek106⟩ := KI.nat hnn_105 (show kd 3 = (1, 21, false) by decide)
            refine pm_top (v := nI k106) ek106 ?_
            refine pm_icmpN_ge (tgt := 172) hG dX12_die_114 rfl (by omega) (by omega) (fun c107 => ?_) (fun c107 => ?_)
            · refine pm_iloadn hG dX12_die_172 rfl ?_
              exact pm_iret hG hF dX12_die_173 rfl (Nat.le_refl _) (Nat.le_refl _) ⟨_, rfl, ⟨_, _, _, rfl, hnn_105, hrn_105, kc105_11.trans ekc11.symm⟩, rfl⟩
            · refine pm_aloadn hG dX12_die_117 rfl ?_
              refine pm_iloadn hG dX12_die_118 rfl ?_
              refine pm_iconst (v := nI 1) hG dX12_die_119 (by decide) ?_
              refine pm_callV (As := [.int (nI i105), .int (nI 1)]) (rest := []) hG hR dX12_die_120 (lkX12_110 _ rfl) okV_X12_its rfl rfl (m_its (d := 3) (e := 6 * i105 + 391) (by omega) (by omega) (by omega)) rfl rfl hdd (Nat.le_refl _) (Nat.le_refl _) (by decide) (pm_ki (fun v108 σ' cnt' hq => ?_))
              obtain ⟨rfl, rfl, rfl⟩ := hq
              rcases KI.opt hnn_105 (show kd (6 * i105 + 391) = (2, 20, false) from (kd_W (k := i105) (c := 1) (by omega) (by omega) (by decide))) with ek109 | ⟨k109, hk109, ek109⟩
              · refine pm_top (v := (-1)) ek109 ?_
                refine pm_iloadn hG dX12_die_123 rfl ?_
                refine pm_top (v := nI k4) ek4 ?_
                refine pm_icmp_ne (tgt := 131) hG dX12_die_124 rfl (fun _ => ?_) (fun q => absurd q ((fun q => nI_m1 (by omega) q.symm)))
                refine pm_iconst (v := nI 0) hG dX12_die_131 (by decide) ?_
                refine pm_istoreXi (loc' := [some (.ref (B + 54)), some (.int za), some (.int x8), some (.int (nI i105)), some (.int (nI 0))]) hG dX12_die_132 (by decide) (pm_c1b rfl) rfl ?_
                refine pm_iloadi hG dX12_die_134 rfl ?_
                refine pm_ifN_eq (tgt := 146) hG dX12_die_136 rfl (by omega) (fun _ => ?_) (fun q => absurd q (by omega))
                refine pm_iloadi hG dX12_die_146 rfl ?_
                refine pm_ifN_ne (tgt := 161) hG dX12_die_148 rfl (by omega) (fun q => absurd q (by omega)) (fun _ => ?_)
                refine pm_aloadn hG dX12_die_151 rfl ?_
                refine pm_iloadn hG dX12_die_152 rfl ?_
                refine pm_iconst (v := nI 2) hG dX12_die_153 (by decide) ?_
                refine pm_callV (As := [.int (nI i105), .int (nI 2)]) (rest := []) hG hR dX12_die_154 (lkX12_110 _ rfl) okV_X12_its rfl rfl (m_its (d := 3) (e := 6 * i105 + 392) (by omega) (by omega) (by omega)) rfl rfl hdd (Nat.le_refl _) (Nat.le_refl _) (by decide) (pm_ki (fun v110 σ' cnt' hq => ?_))
                obtain ⟨rfl, rfl, rfl⟩ := hq
                rcases KI.opt hnn_105 (show kd (6 * i105 + 392) = (2, 20, false) from (kd_W (k := i105) (c := 2) (by omega) (by omega) (by decide))) with ek111 | ⟨k111, hk111, ek111⟩
                · refine pm_top (v := (-1)) ek111 ?_
                  refine pm_iloadn hG dX12_die_157 rfl ?_
                  refine pm_top (v := nI k4) ek4 ?_
                  refine pm_icmp_ne (tgt := 166) hG dX12_die_158 rfl (fun _ => ?_) (fun q => absurd q ((fun q => nI_m1 (by omega) q.symm)))
                  refine pm_iincX (v := nI (i105 + 1)) (loc' := [some (.ref (B + 54)), some (.int za), some (.int x8), some (.int (nI (i105 + 1))), some (.int (nI 0))]) hG dX12_die_166 rfl (nI_1 _) (by decide) (pm_c1b rfl) rfl ?_
                  refine pm_goto (tgt := 107) hG dX12_die_169 rfl ?_
                  refine pm_fg 4 (loc' := [some (.ref (B + 54)), some (.int za), some (.int x8), some (.int (nI (i105 + 1))), none]) rfl ?_
                  exact ih105 I105 A105 n_105 (i105 + 1) hnn_105 hrn_105 (kc105_11.trans (congrArg nI (by omega))) (by omega) (by omega)
                · refine pm_top (v := nI k111) ek111 ?_
                  refine pm_iloadn hG dX12_die_157 rfl ?_
                  refine pm_top (v := nI k4) ek4 ?_
                  refine pm_icmpN_ne (tgt := 166) hG dX12_die_158 rfl (by omega) (by omega) (fun c112 => ?_) (fun c112 => ?_)
                  · refine pm_iincX (v := nI (i105 + 1)) (loc' := [some (.ref (B + 54)), some (.int za), some (.int x8), some (.int (nI (i105 + 1))), some (.int (nI 0))]) hG dX12_die_166 rfl (nI_1 _) (by decide) (pm_c1b rfl) rfl ?_
                    refine pm_goto (tgt := 107) hG dX12_die_169 rfl ?_
                    refine pm_fg 4 (loc' := [some (.ref (B + 54)), some (.int za), some (.int x8), some (.int (nI (i105 + 1))), none]) rfl ?_
                    exact ih105 I105 A105 n_105 (i105 + 1) hnn_105 hrn_105 (kc105_11.trans (congrArg nI (by omega))) (by omega) (by omega)
                  · refine pm_aloadn hG dX12_die_161 rfl ?_
                    refine pm_iloadn hG dX12_die_162 rfl ?_
                    refine pm_callV (As := [.int (nI i105)]) (rest := []) hG hR dX12_die_163 (lkX12_116 _ rfl) okV_X12_comesBack rfl rfl (m_comesBack (d := 3) (e := 6 * i105 + 392) (e2 := 6 * i105 + 393) (by decide) (by omega) (by omega) (by omega)) rfl rfl hdd (Nat.le_refl _) (Nat.le_refl _) (by decide) (pm_kv (fun σ' cnt' hq => ?_))
                    obtain ⟨rfl, rfl⟩ := hq
                    obtain ⟨n_113, en_113⟩ : ∃ f : Nat → Int32, f = upd n_105 (6 * i105 + 392) (-1) := ⟨_, rfl⟩
                    rw [← en_113]
                    have hnn_113 := KI.w en_113 hnn_105 (okv_m (show kd (6 * i105 + 392) = (2, 20, false) from (kd_W (k := i105) (c := 2) (by omega) (by omega) (by decide))))
                    have hrn_113 := NRx.w en_113 hrn_105 (by rw [(show kd (6 * i105 + 392) = (2, 20, false) from (kd_W (k := i105) (c := 2) (by omega) (by omega) (by decide)))])
                    have e114 : n_113 11 = nI kc11 := by rw [en_113, pk_un (by omega)]; exact kc105_11
                    have e115 : n_113 3 = nI k106 := by rw [en_113, pk_un (by omega)]; exact ek106
                    have e116 : n_113 (6 * i105 + 391) = (-1) := by rw [en_113, pk_un (by omega)]; exact ek109
                    have e117 : n_113 (6 * i105 + 392) = (-1) := by rw [en_113, pk_us]
                    obtain ⟨n_118, en_118⟩ : ∃ f : Nat → Int32, f = upd n_113 (6 * i105 + 393) (-1) := ⟨_, rfl⟩
                    rw [← en_118]
                    have hnn_118 := KI.w en_118 hnn_113 (okv_f (show kd (6 * i105 + 393) = (0, 0, false) from (kd_W (k := i105) (c := 3) (by omega) (by omega) (by decide))))
                    have hrn_118 := NRx.w en_118 hrn_113 (by rw [(show kd (6 * i105 + 393) = (0, 0, false) from (kd_W (k := i105) (c := 3) (by omega) (by omega) (by decide)))])
                    have e119 : n_118 11 = nI kc11 := by rw [en_118, pk_un (by omega)]; exact e114
                    have e120 : n_118 3 = nI k106 := by rw [en_118, pk_un (by omega)]; exact e115
                    have e121 : n_118 (6 * i105 + 391) = (-1) := by rw [en_118, pk_un (by omega)]; exact e116
                    have e122 : n_118 (6 * i105 + 392) = (-1) := by rw [en_118, pk_un (by omega)]; exact e117
                    have e123 : n_118 (6 * i105 + 393) = (-1) := by rw [en_118, pk_us]
                    refine pm_iincX (v := nI (i105 + 1)) (loc' := [some (.ref (B + 54)), some (.int za), some (.int x8), some (.int (nI (i105 + 1))), some (.int (nI 0))]) hG dX12_die_166 rfl (nI_1 _) (by decide) (pm_c1b rfl) rfl ?_
                    refine pm_goto (tgt := 107) hG dX12_die_169 rfl ?_
                    refine pm_fg 4 (loc' := [some (.ref (B + 54)), some (.int za), some (.int x8), some (.int (nI (i105 + 1))), none]) rfl ?_
                    exact ih105 I105 A105 n_118 (i105 + 1) hnn_118 hrn_118 (e119.trans (congrArg nI (by omega))) (by omega) (by omega)
              · refine pm_top (v := nI k109) ek109 ?_
                refine pm_iloadn hG dX12_die_123 rfl ?_
                refine pm_top (v := nI k4) ek4 ?_
                refine pm_icmpN_ne (tgt := 131) hG dX12_die_124 rfl (by omega) (by omega) (fun c124 => ?_) (fun c124 => ?_)
                · refine pm_iconst (v := nI 0) hG dX12_die_131 (by decide) ?_
                  refine pm_istoreXi (loc' := [some (.ref (B + 54)), some (.int za), some (.int x8), some (.int (nI i105)), some (.int (nI 0))]) hG dX12_die_132 (by decide) (pm_c1b rfl) rfl ?_
                  refine pm_iloadi hG dX12_die_134 rfl ?_
                  refine pm_ifN_eq (tgt := 146) hG dX12_die_136 rfl (by omega) (fun _ => ?_) (fun q => absurd q (by omega))
                  refine pm_iloadi hG dX12_die_146 rfl ?_
                  refine pm_ifN_ne (tgt := 161) hG dX12_die_148 rfl (by omega) (fun q => absurd q (by omega)) (fun _ => ?_)
                  refine pm_aloadn hG dX12_die_151 rfl ?_
                  refine pm_iloadn hG dX12_die_152 rfl ?_
                  refine pm_iconst (v := nI 2) hG dX12_die_153 (by decide) ?_
                  refine pm_callV (As := [.int (nI i105), .int (nI 2)]) (rest := []) hG hR dX12_die_154 (lkX12_110 _ rfl) okV_X12_its rfl rfl (m_its (d := 3) (e := 6 * i105 + 392) (by omega) (by omega) (by omega)) rfl rfl hdd (Nat.le_refl _) (Nat.le_refl _) (by decide) (pm_ki (fun v125 σ' cnt' hq => ?_))
                  obtain ⟨rfl, rfl, rfl⟩ := hq
                  rcases KI.opt hnn_105 (show kd (6 * i105 + 392) = (2, 20, false) from (kd_W (k := i105) (c := 2) (by omega) (by omega) (by decide))) with ek126 | ⟨k126, hk126, ek126⟩
                  · refine pm_top (v := (-1)) ek126 ?_
                    refine pm_iloadn hG dX12_die_157 rfl ?_
                    refine pm_top (v := nI k4) ek4 ?_
                    refine pm_icmp_ne (tgt := 166) hG dX12_die_158 rfl (fun _ => ?_) (fun q => absurd q ((fun q => nI_m1 (by omega) q.symm)))
                    refine pm_iincX (v := nI (i105 + 1)) (loc' := [some (.ref (B + 54)), some (.int za), some (.int x8), some (.int (nI (i105 + 1))), some (.int (nI 0))]) hG dX12_die_166 rfl (nI_1 _) (by decide) (pm_c1b rfl) rfl ?_
                    refine pm_goto (tgt := 107) hG dX12_die_169 rfl ?_
                    refine pm_fg 4 (loc' := [some (.ref (B + 54)), some (.int za), some (.int x8), some (.int (nI (i105 + 1))), none]) rfl ?_
                    exact ih105 I105 A105 n_105 (i105 + 1) hnn_105 hrn_105 (kc105_11.trans (congrArg nI (by omega))) (by omega) (by omega)
                  · refine pm_top (v := nI k126) ek126 ?_
                    refine pm_iloadn hG dX12_die_157 rfl ?_
                    refine pm_top (v := nI k4) ek4 ?_
                    refine pm_icmpN_ne (tgt := 166) hG dX12_die_158 rfl (by omega) (by omega) (fun c127 => ?_) (fun c127 => ?_)
                    · refine pm_iincX (v := nI (i105 + 1)) (loc' := [some (.ref (B + 54)), some (.int za), some (.int x8), some (.int (nI (i105 + 1))), some (.int (nI 0))]) hG dX12_die_166 rfl (nI_1 _) (by decide) (pm_c1b rfl) rfl ?_
                      refine pm_goto (tgt := 107) hG dX12_die_169 rfl ?_
                      refine pm_fg 4 (loc' := [some (.ref (B + 54)), some (.int za), some (.int x8), some (.int (nI (i105 + 1))), none]) rfl ?_
                      exact ih105 I105 A105 n_105 (i105 + 1) hnn_105 hrn_105 (kc105_11.trans (congrArg nI (by omega))) (by omega) (by omega)
                    · refine pm_aloadn hG dX12_die_161 rfl ?_
                      refine pm_iloadn hG dX12_die_162 rfl ?_
                      refine pm_callV (As := [.int (nI i105)]) (rest := []) hG hR dX12_die_163 (lkX12_116 _ rfl) okV_X12_comesBack rfl rfl (m_comesBack (d := 3) (e := 6 * i105 + 392) (e2 := 6 * i105 + 393) (by decide) (by omega) (by omega) (by omega)) rfl rfl hdd (Nat.le_refl _) (Nat.le_refl _) (by decide) (pm_kv (fun σ' cnt' hq => ?_))
                      obtain ⟨rfl, rfl⟩ := hq
                      obtain ⟨n_128, en_128⟩ : ∃ f : Nat → Int32, f = upd n_105 (6 * i105 + 392) (-1) := ⟨_, rfl⟩
                      rw [← en_128]
                      have hnn_128 := KI.w en_128 hnn_105 (okv_m (show kd (6 * i105 + 392) = (2, 20, false) from (kd_W (k := i105) (c := 2) (by omega) (by omega) (by decide))))
                      have hrn_128 := NRx.w en_128 hrn_105 (by rw [(show kd (6 * i105 + 392) = (2, 20, false) from (kd_W (k := i105) (c := 2) (by omega) (by omega) (by decide)))])
                      have e129 : n_128 11 = nI kc11 := by rw [en_128, pk_un (by omega)]; exact kc105_11
                      have e130 : n_128 3 = nI k106 := by rw [en_128, pk_un (by omega)]; exact ek106
                      have e131 : n_128 (6 * i105 + 391) = nI k109 := by rw [en_128, pk_un (by omega)]; exact ek109
                      have e132 : n_128 (6 * i105 + 392) = (-1) := by rw [en_128, pk_us]
                      obtain ⟨n_133, en_133⟩ : ∃ f : Nat → Int32, f = upd n_128 (6 * i105 + 393) (-1) := ⟨_, rfl⟩
                      rw [← en_133]
                      have hnn_133 := KI.w en_133 hnn_128 (okv_f (show kd (6 * i105 + 393) = (0, 0, false) from (kd_W (k := i105) (c := 3) (by omega) (by omega) (by decide))))
                      have hrn_133 := NRx.w en_133 hrn_128 (by rw [(show kd (6 * i105 + 393) = (0, 0, false) from (kd_W (k := i105) (c := 3) (by omega) (by omega) (by decide)))])
                      have e134 : n_133 11 = nI kc11 := by rw [en_133, pk_un (by omega)]; exact e129
                      have e135 : n_133 3 = nI k106 := by rw [en_133, pk_un (by omega)]; exact e130
                      have e136 : n_133 (6 * i105 + 391) = nI k109 := by rw [en_133, pk_un (by omega)]; exact e131
                      have e137 : n_133 (6 * i105 + 392) = (-1) := by rw [en_133, pk_un (by omega)]; exact e132
                      have e138 : n_133 (6 * i105 + 393) = (-1) := by rw [en_133, pk_us]
                      refine pm_iincX (v := nI (i105 + 1)) (loc' := [some (.ref (B + 54)), some (.int za), some (.int x8), some (.int (nI (i105 + 1))), some (.int (nI 0))]) hG dX12_die_166 rfl (nI_1 _) (by decide) (pm_c1b rfl) rfl ?_
                      refine pm_goto (tgt := 107) hG dX12_die_169 rfl ?_
                      refine pm_fg 4 (loc' := [some (.ref (B + 54)), some (.int za), some (.int x8), some (.int (nI (i105 + 1))), none]) rfl ?_
                      exact ih105 I105 A105 n_133 (i105 + 1) hnn_133 hrn_133 (e134.trans (congrArg nI (by omega))) (by omega) (by omega)
                · refine pm_iconst (v := nI 1) hG dX12_die_127 (by decide) ?_
                  refine pm_goto (tgt := 132) hG dX12_die_128 rfl ?_
                  refine pm_istoreXi (loc' := [some (.ref (B + 54)), some (.int za), some (.int x8), some (.int (nI i105)), some (.int (nI 1))]) hG dX12_die_132 (by decide) (pm_c1b rfl) rfl ?_
                  refine pm_iloadi hG dX12_die_134 rfl ?_
                  refine pm_ifN_eq (tgt := 146) hG dX12_die_136 rfl (by omega) (fun q => absurd q (by omega)) (fun _ => ?_)
                  refine pm_aloadn hG dX12_die_139 rfl ?_
                  refine pm_iloadn hG dX12_die_140 rfl ?_
                  refine pm_iconst (v := nI 1) hG dX12_die_141 (by decide) ?_
                  refine pm_iconst (v := (-1)) hG dX12_die_142 (by decide) ?_
                  refine pm_callV (As := [.int (nI i105), .int (nI 1), .int (-1)]) (rest := []) hG hR dX12_die_143 (lkX12_113 _ rfl) okV_X12_makes rfl rfl (m_makes (d := 3) (e := 6 * i105 + 391) (by omega) (by omega) (by omega)) rfl rfl hdd (Nat.le_refl _) (Nat.le_refl _) (by decide) (pm_kv (fun σ' cnt' hq => ?_))
                  obtain ⟨rfl, rfl⟩ := hq
                  obtain ⟨n_139, en_139⟩ : ∃ f : Nat → Int32, f = upd n_105 (6 * i105 + 391) (-1) := ⟨_, rfl⟩
                  rw [← en_139]
                  have hnn_139 := KI.w en_139 hnn_105 (okv_m (show kd (6 * i105 + 391) = (2, 20, false) from (kd_W (k := i105) (c := 1) (by omega) (by omega) (by decide))))
                  have hrn_139 := NRx.w en_139 hrn_105 (by rw [(show kd (6 * i105 + 391) = (2, 20, false) from (kd_W (k := i105) (c := 1) (by omega) (by omega) (by decide)))])
                  have e140 : n_139 11 = nI kc11 := by rw [en_139, pk_un (by omega)]; exact kc105_11
                  have e141 : n_139 3 = nI k106 := by rw [en_139, pk_un (by omega)]; exact ek106
                  have e142 : n_139 (6 * i105 + 391) = (-1) := by rw [en_139, pk_us]
                  refine pm_iloadi hG dX12_die_146 rfl ?_
                  refine pm_ifN_ne (tgt := 161) hG dX12_die_148 rfl (by omega) (fun _ => ?_) (fun q => absurd q (by omega))
                  refine pm_aloadn hG dX12_die_161 rfl ?_
                  refine pm_iloadn hG dX12_die_162 rfl ?_
                  refine pm_callV (As := [.int (nI i105)]) (rest := []) hG hR dX12_die_163 (lkX12_116 _ rfl) okV_X12_comesBack rfl rfl (m_comesBack (d := 3) (e := 6 * i105 + 392) (e2 := 6 * i105 + 393) (by decide) (by omega) (by omega) (by omega)) rfl rfl hdd (Nat.le_refl _) (Nat.le_refl _) (by decide) (pm_kv (fun σ' cnt' hq => ?_))
                  obtain ⟨rfl, rfl⟩ := hq
                  obtain ⟨n_143, en_143⟩ : ∃ f : Nat → Int32, f = upd n_139 (6 * i105 + 392) (-1) := ⟨_, rfl⟩
                  rw [← en_143]
                  have hnn_143 := KI.w en_143 hnn_139 (okv_m (show kd (6 * i105 + 392) = (2, 20, false) from (kd_W (k := i105) (c := 2) (by omega) (by omega) (by decide))))
                  have hrn_143 := NRx.w en_143 hrn_139 (by rw [(show kd (6 * i105 + 392) = (2, 20, false) from (kd_W (k := i105) (c := 2) (by omega) (by omega) (by decide)))])
                  have e144 : n_143 11 = nI kc11 := by rw [en_143, pk_un (by omega)]; exact e140
                  have e145 : n_143 3 = nI k106 := by rw [en_143, pk_un (by omega)]; exact e141
                  have e146 : n_143 (6 * i105 + 391) = (-1) := by rw [en_143, pk_un (by omega)]; exact e142
                  have e147 : n_143 (6 * i105 + 392) = (-1) := by rw [en_143, pk_us]
                  obtain ⟨n_148, en_148⟩ : ∃ f : Nat → Int32, f = upd n_143 (6 * i105 + 393) (-1) := ⟨_, rfl⟩
                  rw [← en_148]
                  have hnn_148 := KI.w en_148 hnn_143 (okv_f (show kd (6 * i105 + 393) = (0, 0, false) from (kd_W (k := i105) (c := 3) (by omega) (by omega) (by decide))))
                  have hrn_148 := NRx.w en_148 hrn_143 (by rw [(show kd (6 * i105 + 393) = (0, 0, false) from (kd_W (k := i105) (c := 3) (by omega) (by omega) (by decide)))])
                  have e149 : n_148 11 = nI kc11 := by rw [en_148, pk_un (by omega)]; exact e144
                  have e150 : n_148 3 = nI k106 := by rw [en_148, pk_un (by omega)]; exact e145
                  have e151 : n_148 (6 * i105 + 391) = (-1) := by rw [en_148, pk_un (by omega)]; exact e146
                  have e152 : n_148 (6 * i105 + 392) = (-1) := by rw [en_148, pk_un (by omega)]; exact e147
                  have e153 : n_148 (6 * i105 + 393) = (-1) := by rw [en_148, pk_us]
                  refine pm_iincX (v := nI (i105 + 1)) (loc' := [some (.ref (B + 54)), some (.int za), some (.int x8), some (.int (nI (i105 + 1))), some (.int (nI 1))]) hG dX12_die_166 rfl (nI_1 _) (by decide) (pm_c1b rfl) rfl ?_
                  refine pm_goto (tgt := 107) hG dX12_die_169 rfl ?_
                  refine pm_fg 4 (loc' := [some (.ref (B + 54)), some (.int za), some (.int x8), some (.int (nI (i105 + 1))), none]) rfl ?_
                  exact ih105 I105 A105 n_148 (i105 + 1) hnn_148 hrn_148 (e149.trans (congrArg nI (by omega))) (by omega) (by omega)
        exact loop107_105 _ I10 A10 n_103 0 hn103 hr103 (e104.trans (congrArg nI (by omega))) (by omega) (Nat.lt_succ_self _)
    · refine pm_callV (As := [.int (nI k4)]) (rest := []) hG hR dX12_die_16 (lkX12_101 _ rfl) okV_X12_lives rfl rfl (m_lives0 (d := 3) (by decide) (by omega) (by omega : 14 * k4 + 119 = 14 * k4 + 119) ek5 (by omega)) rfl rfl hdd (Nat.le_refl _) (Nat.le_refl _) (by decide) (pm_ki (fun v154 σ' cnt' hq => ?_))
      obtain ⟨rfl, rfl, rfl⟩ := hq
      refine pm_ifN_ne (tgt := 28) hG dX12_die_19 rfl (by omega) (fun q => absurd q (by omega)) (fun _ => ?_)
      refine pm_aloadn hG dX12_die_22 rfl ?_
      refine pm_iconst (v := nI 3) hG dX12_die_23 (by decide) ?_
      refine pm_callV (As := [.int (nI 3)]) (rest := []) hG hR dX12_die_24 (lkX12_80 _ rfl) okV_X12_finds rfl rfl (m_finds (d := 3) (by decide) hn hz (by omega)) rfl rfl hdd (Nat.le_refl _) (Nat.le_refl _) (by decide) (pm_ki (fun v155 σ' cnt' hq => ?_))
      obtain ⟨⟨I156, A156, rfl⟩, rfl, fv155⟩ := hq
      exact pm_iret hG hF dX12_die_27 rfl (Nat.le_refl _) (Nat.le_refl _) ⟨_, rfl, ⟨_, _, _, rfl, hn, hr, ekc11.trans ekc11.symm⟩, rfl⟩
  · refine pm_ifN_ne (tgt := 14) hG dX12_die_5 rfl (by omega) (fun q => absurd q (by omega)) (fun _ => ?_)
    refine pm_aloadn hG dX12_die_8 rfl ?_
    refine pm_iconst (v := nI 1) hG dX12_die_9 (by decide) ?_
    refine pm_callV (As := [.int (nI 1)]) (rest := []) hG hR dX12_die_10 (lkX12_80 _ rfl) okV_X12_finds rfl rfl (m_finds (d := 3) (by decide) hn hz (by omega)) rfl rfl hdd (Nat.le_refl _) (Nat.le_refl _) (by decide) (pm_ki (fun v157 σ' cnt' hq => ?_))
    obtain ⟨⟨I158, A158, rfl⟩, rfl, fv157⟩ := hq
    exact pm_iret hG hF dX12_die_13 rfl (Nat.le_refl _) (Nat.le_refl _) ⟨_, rfl, ⟨_, _, _, rfl, hn, hr, ekc11.trans ekc11.symm⟩, rfl⟩
