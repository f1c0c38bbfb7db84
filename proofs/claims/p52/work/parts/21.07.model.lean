set_option maxRecDepth 100000 in
set_option maxHeartbeats 4000000 in
theorem m_days {d B cnt p0 t0 : Nat} {σ : pm_S} {I : Nat → Int32} {A : Nat → Nat → Int32} {n k z : Nat → Int32} {ac wt pl im : Int32} {za : Int32} (hdd : 3 ≤ d) (hn : KI n) (hr : NR n) (hz : SZ z)  : pm_met mX12_days d 0 0 B [.ref (B + 54), .int za] cnt (pm_mid σ (md_L B I A n k z ac wt pl (nI p0) (nI t0) im)) (pm_Qi (fun v σ' cnt' => (∃ (I' : Nat → Int32) (A' : Nat → Nat → Int32) (n' : Nat → Int32), σ' = pm_mid σ (md_L B I' A' n' k z ac wt pl (nI p0) (nI t0) im) ∧ KI n' ∧ NR n' ∧ v = vD (n 8) za ∧ n' 8 = tD (n 8) za) ∧ cnt = cnt')) := by
  obtain ⟨kc8, hkc8, ekc8⟩ := KI.nat hn (show kd 8 = (1, 2001, false) by decide)
  refine pm_enter 2 (by decide) (Nat.le_of_ble_eq_true rfl) rfl (fun G hG hR hF => ?_)
  refine pm_iloadn hG dX12_days_0 rfl ?_
  refine pm_iconst (v := nI 1) hG dX12_days_1 (by decide) ?_
  refine pm_sipush (v := nI 400) hG dX12_days_2 (by decide) ?_
  refine pm_callS (As := [.int za, .int (nI 1), .int (nI 400)]) (rest := []) hG hR dX12_days_5 (lkX12_68 _ rfl) okS_X12_in (m_in (d := 2)) rfl rfl hdd (Nat.le_refl _) (Nat.le_refl _) (by decide) (pm_ki (fun v1 σ' cnt' hq => ?_))
  obtain ⟨hq, rfl, rfl⟩ := hq
  rcases hq with ⟨rfl, ac2, bc2⟩ | ⟨rfl, c2⟩
  · obtain ⟨k3, hk3, ek3⟩ := in_nat (by omega) (by omega) ac2 bc2
    refine pm_ifN_eq (tgt := 26) hG dX12_days_8 rfl (by omega) (fun q => absurd q (by omega)) (fun _ => ?_)
    refine pm_aloadn hG dX12_days_11 rfl ?_
    refine pm_getf hG dX12_days_12 (flX12_7 _ rfl) rfl rfl ?_
    refine pm_bipush (v := nI 8) hG dX12_days_15 (by decide) ?_
    refine pm_ialdN hG dX12_days_17 rfl (by decide) (by omega) ?_
    refine pm_top (v := nI kc8) ekc8 ?_
    refine pm_iloadn hG dX12_days_18 rfl ?_
    refine pm_top (v := nI k3) ek3 ?_
    refine pm_iaddN (c := k3 + kc8) hG dX12_days_19 (by omega) ?_
    refine pm_sipush (v := nI 2000) hG dX12_days_20 (by decide) ?_
    refine pm_icmpN_le (tgt := 32) hG dX12_days_23 rfl (by omega) (by omega) (fun c4 => ?_) (fun c4 => ?_)
    · refine pm_iconst (v := nI 0) hG dX12_days_32 (by decide) ?_
      refine pm_istoreXn (loc' := [some (.ref (B + 54)), some (.int za), some (.int (nI 0)), none]) hG dX12_days_33 (by decide) (pm_c1b rfl) rfl ?_
      have loop34_5 : ∀ (m5 : Nat) (I5 : Nat → Int32) (A5 : Nat → Nat → Int32) (n_5 : Nat → Int32) (i5 : Nat), KI n_5 → NRx 40 n_5 → n_5 8 = nI (i5 + kc8) → i5 ≤ 400 → i5 ≤ k3 → 400 - i5 < m5 → pm_wp mX12_days G B 34 [some (.ref (B + 54)), some (.int za), some (.int (nI i5)), none] [] 0 0 cnt (pm_mid σ (md_L B I5 A5 n_5 k z ac wt pl (nI p0) (nI t0) im)) := by
        intro m5
        induction m5 with
        | zero => intro I5 A5 n_5 i5 _ _ _ _ _ hm; exact absurd hm (Nat.not_lt_zero _)
        | succ m5 ih5 =>
          intro I5 A5 n_5 i5 hnn_5 hrn_5 kc5_8 hi5 lek5 hm5
          refine pm_iloadn hG dX12_days_34 rfl ?_
          refine pm_iloadn hG dX12_days_35 rfl ?_
          refine pm_top (v := nI k3) ek3 ?_
          refine pm_icmpN_ge (tgt := 185) hG dX12_days_36 rfl (by omega) (by omega) (fun c6 => ?_) (fun c6 => ?_)
          · refine pm_aloadn hG dX12_days_185 rfl ?_
            refine pm_getf hG dX12_days_186 (flX12_7 _ rfl) rfl rfl ?_
            refine pm_bipush (v := nI 8) hG dX12_days_189 (by decide) ?_
            refine pm_ialdN hG dX12_days_191 rfl (by decide) (by omega) ?_
            refine pm_top (v := nI (i5 + kc8)) kc5_8 ?_
            exact pm_iret hG hF dX12_days_192 rfl (Nat.le_refl _) (Nat.le_refl _) ⟨_, rfl, ⟨_, _, _, rfl, hnn_5, hrn_5, ⟨(vD_ok ekc8 ek3 (by omega) (by omega) (by omega) (by omega)).1, kc5_8.trans (vD_ok ekc8 ek3 (by omega) (by omega) (by omega) (by omega)).2⟩⟩, rfl⟩
          · refine pm_aloadn hG dX12_days_39 rfl ?_
            refine pm_getf hG dX12_days_40 (flX12_7 _ rfl) rfl rfl ?_
            refine pm_bipush (v := nI 8) hG dX12_days_43 (by decide) ?_
            refine pm_dup2 hG dX12_days_45 rfl rfl ?_
            refine pm_ialdN hG dX12_days_46 rfl (by decide) (by omega) ?_
            refine pm_top (v := nI (i5 + kc8)) kc5_8 ?_
            refine pm_iconst (v := nI 1) hG dX12_days_47 (by decide) ?_
            refine pm_iaddN (c := i5 + kc8 + 1) hG dX12_days_48 (by omega) ?_
            refine pm_iastN hG dX12_days_49 rfl (by decide) (by omega) ?_
            refine mdn_now (fun n_7 en_7 => ?_)
            have hnn_7 := KI.w en_7 hnn_5 (okv_n (show kd 8 = (1, 2001, false) by decide) (by omega))
            have hrn_7 := NRx.w en_7 hrn_5 (by rw [(show kd 8 = (1, 2001, false) by decide)])
            have e8 : n_7 8 = nI (i5 + kc8 + 1) := by rw [en_7, pk_us]
            refine pm_iconst (v := nI 0) hG dX12_days_50 (by decide) ?_
            refine pm_istoreXn (loc' := [some (.ref (B + 54)), some (.int za), some (.int (nI i5)), some (.int (nI 0))]) hG dX12_days_51 (by decide) (pm_c1b rfl) rfl ?_
            have loop52_9 : ∀ (m9 : Nat) (I9 : Nat → Int32) (A9 : Nat → Nat → Int32) (n_9 : Nat → Int32) (i9 : Nat), KI n_9 → NRx 40 n_9 → n_9 8 = nI (i5 + kc8 + 1) → i9 ≤ 20 → 20 - i9 < m9 → pm_wp mX12_days G B 52 [some (.ref (B + 54)), some (.int za), some (.int (nI i5)), some (.int (nI i9))] [] 0 0 cnt (pm_mid σ (md_L B I9 A9 n_9 k z ac wt pl (nI p0) (nI t0) im)) := by
              intro m9
              induction m9 with
              | zero => intro I9 A9 n_9 i9 _ _ _ _ hm; exact absurd hm (Nat.not_lt_zero _)
              | succ m9 ih9 =>
                intro I9 A9 n_9 i9 hnn_9 hrn_9 kc9_8 hi9 hm9
                refine pm_iloadn hG dX12_days_52 rfl ?_
                refine pm_aloadn hG dX12_days_53 rfl ?_
                refine pm_getf hG dX12_days_54 (flX12_7 _ rfl) rfl rfl ?_
                refine pm_iconst (v := nI 2) hG dX12_days_57 (by decide) ?_
                refine pm_ialdN hG dX12_days_58 rfl (by decide) (by omega) ?_
                obtain ⟨k10, hk10, ek10⟩ := KI.nat hnn_9 (show kd 2 = (1, 21, true) by decide)
                refine pm_top (v := nI k10) ek10 ?_
                refine pm_icmpN_ge (tgt := 114) hG dX12_days_59 rfl (by omega) (by omega) (fun c11 => ?_) (fun c11 => ?_)
                · refine pm_iconst (v := nI 0) hG dX12_days_114 (by decide) ?_
                  refine pm_istoreXn (loc' := [some (.ref (B + 54)), some (.int za), some (.int (nI i5)), some (.int (nI 0))]) hG dX12_days_115 (by decide) (pm_c1b rfl) rfl ?_
                  have loop116_12 : ∀ (m12 : Nat) (I12 : Nat → Int32) (A12 : Nat → Nat → Int32) (n_12 : Nat → Int32) (i12 : Nat), KI n_12 → NRx 40 n_12 → n_12 8 = nI (i5 + kc8 + 1) → i12 ≤ 20 → 20 - i12 < m12 → pm_wp mX12_days G B 116 [some (.ref (B + 54)), some (.int za), some (.int (nI i5)), some (.int (nI i12))] [] 0 0 cnt (pm_mid σ (md_L B I12 A12 n_12 k z ac wt pl (nI p0) (nI t0) im)) := by
                    intro m12
                    induction m12 with
                    | zero => intro I12 A12 n_12 i12 _ _ _ _ hm; exact absurd hm (Nat.not_lt_zero _)
                    | succ m12 ih12 =>
                      intro I12 A12 n_12 i12 hnn_12 hrn_12 kc12_8 hi12 hm12
                      refine pm_iloadn hG dX12_days_116 rfl ?_
                      refine pm_aloadn hG dX12_days_117 rfl ?_
                      refine pm_getf hG dX12_days_118 (flX12_7 _ rfl) rfl rfl ?_
                      refine pm_iconst (v := nI 3) hG dX12_days_121 (by decide) ?_
                      refine pm_ialdN hG dX12_days_122 rfl (by decide) (by omega) ?_
                      obtain ⟨k13, hk13, ek13⟩ := KI.nat hnn_12 (show kd 3 = (1, 21, false) by decide)
                      refine pm_top (v := nI k13) ek13 ?_
                      refine pm_icmpN_ge (tgt := 162) hG dX12_days_123 rfl (by omega) (by omega) (fun c14 => ?_) (fun c14 => ?_)
                      · refine pm_aloadn hG dX12_days_162 rfl ?_
                        refine pm_getf hG dX12_days_163 (flX12_7 _ rfl) rfl rfl ?_
                        refine pm_bipush (v := nI 8) hG dX12_days_166 (by decide) ?_
                        refine pm_ialdN hG dX12_days_168 rfl (by decide) (by omega) ?_
                        refine pm_top (v := nI (i5 + kc8 + 1)) kc12_8 ?_
                        refine pm_bipush (v := nI 90) hG dX12_days_169 (by decide) ?_
                        refine pm_iremM hG dX12_days_171 (by omega) (by decide) (by decide) ?_
                        refine pm_ifN_ne (tgt := 179) hG dX12_days_172 rfl (by omega) (fun c15 => ?_) (fun c15 => ?_)
                        · refine pm_iincX (v := nI (i5 + 1)) (loc' := [some (.ref (B + 54)), some (.int za), some (.int (nI (i5 + 1))), some (.int (nI i12))]) hG dX12_days_179 rfl (nI_1 _) (by decide) (pm_c1b rfl) rfl ?_
                          refine pm_goto (tgt := 34) hG dX12_days_182 rfl ?_
                          refine pm_fg 3 (loc' := [some (.ref (B + 54)), some (.int za), some (.int (nI (i5 + 1))), none]) rfl ?_
                          exact ih5 I12 A12 n_12 (i5 + 1) hnn_12 hrn_12 (kc12_8.trans (congrArg nI (by omega))) (by omega) (by omega) (by omega)
                        · refine pm_aloadn hG dX12_days_175 rfl ?_
                          refine pm_callV (As := []) (rest := []) hG hR dX12_days_176 (lkX12_236 _ rfl) okV_X12_quarter rfl rfl (m_quarter (d := 2) (by decide) hnn_12 hrn_12 hz) rfl rfl hdd (Nat.le_refl _) (Nat.le_refl _) (by decide) (pm_kv (fun σ' cnt' hq => ?_))
                          obtain ⟨⟨n_17, rfl, hn17, hr17, hc17_8⟩, rfl⟩ := hq
                          have e18 : n_17 8 = nI (i5 + kc8 + 1) := hc17_8.trans kc12_8
                          refine pm_iincX (v := nI (i5 + 1)) (loc' := [some (.ref (B + 54)), some (.int za), some (.int (nI (i5 + 1))), some (.int (nI i12))]) hG dX12_days_179 rfl (nI_1 _) (by decide) (pm_c1b rfl) rfl ?_
                          refine pm_goto (tgt := 34) hG dX12_days_182 rfl ?_
                          refine pm_fg 3 (loc' := [some (.ref (B + 54)), some (.int za), some (.int (nI (i5 + 1))), none]) rfl ?_
                          exact ih5 I12 A12 n_17 (i5 + 1) hn17 hr17 (e18.trans (congrArg nI (by omega))) (by omega) (by omega) (by omega)
                      · refine pm_aloadn hG dX12_days_126 rfl ?_
                        refine pm_iloadn hG dX12_days_127 rfl ?_
                        refine pm_iconst (v := nI 2) hG dX12_days_128 (by decide) ?_
                        refine pm_callV (As := [.int (nI i12), .int (nI 2)]) (rest := []) hG hR dX12_days_129 (lkX12_110 _ rfl) okV_X12_its rfl rfl (m_its (d := 2) (e := 6 * i12 + 392) (by omega) (by omega) (by omega)) rfl rfl hdd (Nat.le_refl _) (Nat.le_refl _) (by decide) (pm_ki (fun v19 σ' cnt' hq => ?_))
                        obtain ⟨rfl, rfl, rfl⟩ := hq
                        rcases KI.opt hnn_12 (show kd (6 * i12 + 392) = (2, 20, false) from (kd_W (k := i12) (c := 2) (by omega) (by omega) (by decide))) with ek20 | ⟨k20, hk20, ek20⟩
                        · refine pm_top (v := (-1)) ek20 ?_
                          refine pm_if_lt (tgt := 156) hG dX12_days_132 rfl (fun _ => ?_) (fun q => absurd q (by decide))
                          refine pm_iincX (v := nI (i12 + 1)) (loc' := [some (.ref (B + 54)), some (.int za), some (.int (nI i5)), some (.int (nI (i12 + 1)))]) hG dX12_days_156 rfl (nI_1 _) (by decide) (pm_c1b rfl) rfl ?_
                          refine pm_goto (tgt := 116) hG dX12_days_159 rfl ?_
                          exact ih12 I12 A12 n_12 (i12 + 1) hnn_12 hrn_12 (kc12_8.trans (congrArg nI (by omega))) (by omega) (by omega)
                        · refine pm_top (v := nI k20) ek20 ?_
                          refine pm_ifN_lt hG dX12_days_132 rfl (by omega) ?_
                          refine pm_aloadn hG dX12_days_135 rfl ?_
                          refine pm_iloadn hG dX12_days_136 rfl ?_
                          refine pm_iconst (v := nI 3) hG dX12_days_137 (by decide) ?_
                          refine pm_callV (As := [.int (nI i12), .int (nI 3)]) (rest := []) hG hR dX12_days_138 (lkX12_110 _ rfl) okV_X12_its rfl rfl (m_its (d := 2) (e := 6 * i12 + 393) (by omega) (by omega) (by omega)) rfl rfl hdd (Nat.le_refl _) (Nat.le_refl _) (by decide) (pm_ki (fun v21 σ' cnt' hq => ?_))
                          obtain ⟨rfl, rfl, rfl⟩ := hq
                          refine pm_gen (fun x22 ex22 => ?_)
                          refine pm_aloadn hG dX12_days_141 rfl ?_
                          refine pm_getf hG dX12_days_142 (flX12_7 _ rfl) rfl rfl ?_
                          refine pm_bipush (v := nI 8) hG dX12_days_145 (by decide) ?_
                          refine pm_ialdN hG dX12_days_147 rfl (by decide) (by omega) ?_
                          refine pm_top (v := nI (i5 + kc8 + 1)) kc12_8 ?_
                          refine pm_icmp_ge (tgt := 156) hG dX12_days_148 rfl (fun c23 => ?_) (fun c23 => ?_)
                          · refine pm_iincX (v := nI (i12 + 1)) (loc' := [some (.ref (B + 54)), some (.int za), some (.int (nI i5)), some (.int (nI (i12 + 1)))]) hG dX12_days_156 rfl (nI_1 _) (by decide) (pm_c1b rfl) rfl ?_
                            refine pm_goto (tgt := 116) hG dX12_days_159 rfl ?_
                            exact ih12 I12 A12 n_12 (i12 + 1) hnn_12 hrn_12 (kc12_8.trans (congrArg nI (by omega))) (by omega) (by omega)
                          · refine pm_aloadn hG dX12_days_151 rfl ?_
                            refine pm_iloadn hG dX12_days_152 rfl ?_
                            refine pm_callV (As := [.int (nI i12)]) (rest := []) hG hR dX12_days_153 (lkX12_116 _ rfl) okV_X12_comesBack rfl rfl (m_comesBack (d := 2) (e := 6 * i12 + 392) (e2 := 6 * i12 + 393) (by decide) (by omega) (by omega) (by omega)) rfl rfl hdd (Nat.le_refl _) (Nat.le_refl _) (by decide) (pm_kv (fun σ' cnt' hq => ?_))
                            obtain ⟨rfl, rfl⟩ := hq
                            obtain ⟨n_24, en_24⟩ : ∃ f : Nat → Int32, f = upd n_12 (6 * i12 + 392) (-1) := ⟨_, rfl⟩
                            rw [← en_24]
                            have hnn_24 := KI.w en_24 hnn_12 (okv_m (show kd (6 * i12 + 392) = (2, 20, false) from (kd_W (k := i12) (c := 2) (by omega) (by omega) (by decide))))
                            have hrn_24 := NRx.w en_24 hrn_12 (by rw [(show kd (6 * i12 + 392) = (2, 20, false) from (kd_W (k := i12) (c := 2) (by omega) (by omega) (by decide)))])
                            have e25 : n_24 8 = nI (i5 + kc8 + 1) := by rw [en_24, pk_un (by omega)]; exact kc12_8
                            have e26 : n_24 3 = nI k13 := by rw [en_24, pk_un (by omega)]; exact ek13
                            have e27 : n_24 (6 * i12 + 393) = x22 := by rw [en_24, pk_un (by omega)]; exact ex22
                            have e28 : n_24 (6 * i12 + 392) = (-1) := by rw [en_24, pk_us]
                            obtain ⟨n_29, en_29⟩ : ∃ f : Nat → Int32, f = upd n_24 (6 * i12 + 393) (-1) := ⟨_, rfl⟩
                            rw [← en_29]
                            have hnn_29 := KI.w en_29 hnn_24 (okv_f (show kd (6 * i12 + 393) = (0, 0, false) from (kd_W (k := i12) (c := 3) (by omega) (by omega) (by decide))))
                            have hrn_29 := NRx.w en_29 hrn_24 (by rw [(show kd (6 * i12 + 393) = (0, 0, false) from (kd_W (k := i12) (c := 3) (by omega) (by omega) (by decide)))])
                            have e30 : n_29 8 = nI (i5 + kc8 + 1) := by rw [en_29, pk_un (by omega)]; exact e25
                            have e31 : n_29 3 = nI k13 := by rw [en_29, pk_un (by omega)]; exact e26
                            have e32 : n_29 (6 * i12 + 392) = (-1) := by rw [en_29, pk_un (by omega)]; exact e28
                            have e33 : n_29 (6 * i12 + 393) = (-1) := by rw [en_29, pk_us]
                            refine pm_iincX (v := nI (i12 + 1)) (loc' := [some (.ref (B + 54)), some (.int za), some (.int (nI i5)), some (.int (nI (i12 + 1)))]) hG dX12_days_156 rfl (nI_1 _) (by decide) (pm_c1b rfl) rfl ?_
                            refine pm_goto (tgt := 116) hG dX12_days_159 rfl ?_
                            exact ih12 I12 A12 n_29 (i12 + 1) hnn_29 hrn_29 (e30.trans (congrArg nI (by omega))) (by omega) (by omega)
                  exact loop116_12 _ I9 A9 n_9 0 hnn_9 hrn_9 (kc9_8.trans (congrArg nI (by omega))) (by omega) (Nat.lt_succ_self _)
                · refine pm_aloadn hG dX12_days_62 rfl ?_
                  refine pm_iloadn hG dX12_days_63 rfl ?_
                  rcases KI.opt hnn_9 (show kd (14 * i9 + 119) = (2, 2001, false) from (kd_P (k := i9) (c := 9) (by omega) (by omega) (by decide))) with ek34 | ⟨k34, hk34, ek34⟩
                  · refine pm_callV (As := [.int (nI i9)]) (rest := []) hG hR dX12_days_64 (lkX12_101 _ rfl) okV_X12_lives rfl rfl (m_lives1 (d := 2) (by decide) (by omega) (by omega : 14 * i9 + 119 = 14 * i9 + 119) ek34) rfl rfl hdd (Nat.le_refl _) (Nat.le_refl _) (by decide) (pm_ki (fun v35 σ' cnt' hq => ?_))
                    obtain ⟨rfl, rfl, rfl⟩ := hq
                    refine pm_ifN_eq (tgt := 108) hG dX12_days_67 rfl (by omega) (fun q => absurd q (by omega)) (fun _ => ?_)
                    refine pm_aloadn hG dX12_days_70 rfl ?_
                    refine pm_iloadn hG dX12_days_71 rfl ?_
                    refine pm_iconst (v := nI 4) hG dX12_days_72 (by decide) ?_
                    refine pm_callV (As := [.int (nI i9), .int (nI 4)]) (rest := []) hG hR dX12_days_73 (lkX12_72 _ rfl) okV_X12_man rfl rfl (m_man (d := 2) (e := 14 * i9 + 114) (by omega) (by omega) (by omega)) rfl rfl hdd (Nat.le_refl _) (Nat.le_refl _) (by decide) (pm_ki (fun v36 σ' cnt' hq => ?_))
                    obtain ⟨rfl, rfl, rfl⟩ := hq
                    rcases KI.opt hnn_9 (show kd (14 * i9 + 114) = (2, 10, false) from (kd_P (k := i9) (c := 4) (by omega) (by omega) (by decide))) with ek37 | ⟨k37, hk37, ek37⟩
                    · refine pm_top (v := (-1)) ek37 ?_
                      refine pm_if_ge (tgt := 108) hG dX12_days_76 rfl (fun q => absurd q (by decide)) (fun _ => ?_)
                      refine pm_aloadn hG dX12_days_79 rfl ?_
                      refine pm_iloadn hG dX12_days_80 rfl ?_
                      refine pm_bipush (v := nI 6) hG dX12_days_81 (by decide) ?_
                      refine pm_callV (As := [.int (nI i9), .int (nI 6)]) (rest := []) hG hR dX12_days_83 (lkX12_72 _ rfl) okV_X12_man rfl rfl (m_man (d := 2) (e := 14 * i9 + 116) (by omega) (by omega) (by omega)) rfl rfl hdd (Nat.le_refl _) (Nat.le_refl _) (by decide) (pm_ki (fun v38 σ' cnt' hq => ?_))
                      obtain ⟨rfl, rfl, rfl⟩ := hq
                      refine pm_gen (fun x39 ex39 => ?_)
                      refine pm_aloadn hG dX12_days_86 rfl ?_
                      refine pm_getf hG dX12_days_87 (flX12_7 _ rfl) rfl rfl ?_
                      refine pm_bipush (v := nI 8) hG dX12_days_90 (by decide) ?_
                      refine pm_ialdN hG dX12_days_92 rfl (by decide) (by omega) ?_
                      refine pm_top (v := nI (i5 + kc8 + 1)) kc9_8 ?_
                      refine pm_icmp_ne (tgt := 108) hG dX12_days_93 rfl (fun c40 => ?_) (fun c40 => ?_)
                      · refine pm_iincX (v := nI (i9 + 1)) (loc' := [some (.ref (B + 54)), some (.int za), some (.int (nI i5)), some (.int (nI (i9 + 1)))]) hG dX12_days_108 rfl (nI_1 _) (by decide) (pm_c1b rfl) rfl ?_
                        refine pm_goto (tgt := 52) hG dX12_days_111 rfl ?_
                        exact ih9 I9 A9 n_9 (i9 + 1) hnn_9 hrn_9 (kc9_8.trans (congrArg nI (by omega))) (by omega) (by omega)
                      · refine pm_aloadn hG dX12_days_96 rfl ?_
                        refine pm_iloadn hG dX12_days_97 rfl ?_
                        refine pm_iconst (v := nI 4) hG dX12_days_98 (by decide) ?_
                        refine pm_aloadn hG dX12_days_99 rfl ?_
                        refine pm_iloadn hG dX12_days_100 rfl ?_
                        refine pm_iconst (v := nI 5) hG dX12_days_101 (by decide) ?_
                        refine pm_callV (As := [.int (nI i9), .int (nI 5)]) (rest := [.int (nI 4), .int (nI i9), .ref (B + 54)]) hG hR dX12_days_102 (lkX12_72 _ rfl) okV_X12_man rfl rfl (m_man (d := 2) (e := 14 * i9 + 115) (by omega) (by omega) (by omega)) rfl rfl hdd (Nat.le_refl _) (Nat.le_refl _) (Nat.le_of_ble_eq_true rfl) (pm_ki (fun v41 σ' cnt' hq => ?_))
                        obtain ⟨rfl, rfl, rfl⟩ := hq
                        obtain ⟨k42, hk42, ek42⟩ := KI.nat hnn_9 (show kd (14 * i9 + 115) = (1, 10, false) from (kd_P (k := i9) (c := 5) (by omega) (by omega) (by decide)))
                        refine pm_top (v := nI k42) ek42 ?_
                        refine pm_callV (As := [.int (nI i9), .int (nI 4), .int (nI k42)]) (rest := []) hG hR dX12_days_105 (lkX12_97 _ rfl) okV_X12_sets rfl rfl (m_sets (d := 2) (e := 14 * i9 + 114) (by omega) (by omega) (by omega)) rfl rfl hdd (Nat.le_refl _) (Nat.le_refl _) (by decide) (pm_kv (fun σ' cnt' hq => ?_))
                        obtain ⟨rfl, rfl⟩ := hq
                        obtain ⟨n_43, en_43⟩ : ∃ f : Nat → Int32, f = upd n_9 (14 * i9 + 114) (nI k42) := ⟨_, rfl⟩
                        rw [← en_43]
                        have hnn_43 := KI.w en_43 hnn_9 (okv_o (show kd (14 * i9 + 114) = (2, 10, false) from (kd_P (k := i9) (c := 4) (by omega) (by omega) (by decide))) (by omega))
                        have hrn_43 := NRx.w en_43 hrn_9 (by rw [(show kd (14 * i9 + 114) = (2, 10, false) from (kd_P (k := i9) (c := 4) (by omega) (by omega) (by decide)))])
                        have e44 : n_43 8 = nI (i5 + kc8 + 1) := by rw [en_43, pk_un (by omega)]; exact kc9_8
                        have e45 : n_43 2 = nI k10 := by rw [en_43, pk_un (by omega)]; exact ek10
                        have e46 : n_43 (14 * i9 + 119) = (-1) := by rw [en_43, pk_un (by omega)]; exact ek34
                        have e47 : n_43 (14 * i9 + 116) = x39 := by rw [en_43, pk_un (by omega)]; exact ex39
                        have e48 : n_43 (14 * i9 + 115) = nI k42 := by rw [en_43, pk_un (by omega)]; exact ek42
                        have e49 : n_43 (14 * i9 + 114) = nI k42 := by rw [en_43, pk_us]
                        refine pm_iincX (v := nI (i9 + 1)) (loc' := [some (.ref (B + 54)), some (.int za), some (.int (nI i5)), some (.int (nI (i9 + 1)))]) hG dX12_days_108 rfl (nI_1 _) (by decide) (pm_c1b rfl) rfl ?_
                        refine pm_goto (tgt := 52) hG dX12_days_111 rfl ?_
                        exact ih9 I9 A9 n_43 (i9 + 1) hnn_43 hrn_43 (e44.trans (congrArg nI (by omega))) (by omega) (by omega)
                    · refine pm_top (v := nI k37) ek37 ?_
                      refine pm_ifN_ge (tgt := 108) hG dX12_days_76 rfl (by omega) ?_
                      refine pm_iincX (v := nI (i9 + 1)) (loc' := [some (.ref (B + 54)), some (.int za), some (.int (nI i5)), some (.int (nI (i9 + 1)))]) hG dX12_days_108 rfl (nI_1 _) (by decide) (pm_c1b rfl) rfl ?_
                      refine pm_goto (tgt := 52) hG dX12_days_111 rfl ?_
                      exact ih9 I9 A9 n_9 (i9 + 1) hnn_9 hrn_9 (kc9_8.trans (congrArg nI (by omega))) (by omega) (by omega)
                  · refine pm_callV (As := [.int (nI i9)]) (rest := []) hG hR dX12_days_64 (lkX12_101 _ rfl) okV_X12_lives rfl rfl (m_lives0 (d := 2) (by decide) (by omega) (by omega : 14 * i9 + 119 = 14 * i9 + 119) ek34 (by omega)) rfl rfl hdd (Nat.le_refl _) (Nat.le_refl _) (by decide) (pm_ki (fun v50 σ' cnt' hq => ?_))
                    obtain ⟨rfl, rfl, rfl⟩ := hq
                    refine pm_ifN_eq (tgt := 108) hG dX12_days_67 rfl (by omega) (fun _ => ?_) (fun q => absurd q (by omega))
                    refine pm_iincX (v := nI (i9 + 1)) (loc' := [some (.ref (B + 54)), some (.int za), some (.int (nI i5)), some (.int (nI (i9 + 1)))]) hG dX12_days_108 rfl (nI_1 _) (by decide) (pm_c1b rfl) rfl ?_
                    refine pm_goto (tgt := 52) hG dX12_days_111 rfl ?_
                    exact ih9 I9 A9 n_9 (i9 + 1) hnn_9 hrn_9 (kc9_8.trans (congrArg nI (by omega))) (by omega) (by omega)
            exact loop52_9 _ I5 A5 n_7 0 hnn_7 hrn_7 (e8.trans (congrArg nI (by omega))) (by omega) (Nat.lt_succ_self _)
      exact loop34_5 _ I A n 0 hn hr (ekc8.trans (congrArg nI (by omega))) (by omega) (by omega) (Nat.lt_succ_self _)
    · refine pm_aloadn hG dX12_days_26 rfl ?_
      refine pm_iconst (v := nI 1) hG dX12_days_27 (by decide) ?_
      refine pm_callV (As := [.int (nI 1)]) (rest := []) hG hR dX12_days_28 (lkX12_80 _ rfl) okV_X12_finds rfl rfl (m_finds (d := 2) (by decide) hn hz (by omega)) rfl rfl hdd (Nat.le_refl _) (Nat.le_refl _) (by decide) (pm_ki (fun v51 σ' cnt' hq => ?_))
      obtain ⟨⟨I52, A52, rfl⟩, rfl, fv51⟩ := hq
      exact pm_iret hG hF dX12_days_31 rfl (Nat.le_refl _) (Nat.le_refl _) ⟨_, rfl, ⟨_, _, _, rfl, hn, hr, ⟨fv51.trans (vD_no2 ekc8 ek3 (by omega) (by omega)).1, (vD_no2 ekc8 ek3 (by omega) (by omega)).2⟩⟩, rfl⟩
  · refine pm_ifN_eq (tgt := 26) hG dX12_days_8 rfl (by omega) (fun _ => ?_) (fun q => absurd q (by omega))
    refine pm_aloadn hG dX12_days_26 rfl ?_
    refine pm_iconst (v := nI 1) hG dX12_days_27 (by decide) ?_
    refine pm_callV (As := [.int (nI 1)]) (rest := []) hG hR dX12_days_28 (lkX12_80 _ rfl) okV_X12_finds rfl rfl (m_finds (d := 2) (by decide) hn hz (by omega)) rfl rfl hdd (Nat.le_refl _) (Nat.le_refl _) (by decide) (pm_ki (fun v53 σ' cnt' hq => ?_))
    obtain ⟨⟨I54, A54, rfl⟩, rfl, fv53⟩ := hq
    exact pm_iret hG hF dX12_days_31 rfl (Nat.le_refl _) (Nat.le_refl _) ⟨_, rfl, ⟨_, _, _, rfl, hn, hr, ⟨fv53.trans (vD_no1 (by assumption)).1, (vD_no1 (by assumption)).2⟩⟩, rfl⟩

set_option maxRecDepth 100000 in
set_option maxHeartbeats 4000000 in
theorem m_debt {d B cnt p0 t0 : Nat} {σ : pm_S} {I : Nat → Int32} {A : Nat → Nat → Int32} {n k z : Nat → Int32} {ac wt pl im : Int32} {za zb zc : Int32} (hdd : 2 ≤ d) (hn : KI n) (hr : NR n) (hz : SZ z)  : pm_met mX12_debt d 0 0 B [.ref (B + 54), .int za, .int zb, .int zc] cnt (pm_mid σ (md_L B I A n k z ac wt pl (nI p0) (nI t0) im)) (pm_Qi (fun v σ' cnt' => (∃ (I' : Nat → Int32) (A' : Nat → Nat → Int32) (n' : Nat → Int32), σ' = pm_mid σ (md_L B I' A' n' k z ac wt pl (nI p0) (nI t0) im) ∧ KI n' ∧ NR n' ∧ n' 8 = n 8) ∧ cnt = cnt')) := by
  obtain ⟨kc8, hkc8, ekc8⟩ := KI.nat hn (show kd 8 = (1, 2001, false) by decide)
  refine pm_enter 1 (by decide) (Nat.le_of_ble_eq_true rfl) rfl (fun G hG hR hF => ?_)
  refine pm_iloadn hG dX12_debt_0 rfl ?_
  refine pm_iconst (v := nI 0) hG dX12_debt_1 (by decide) ?_
  refine pm_ldc hG dX12_debt_2 (ctX12_242 _ rfl) ?_
  refine pm_top (v := nI 99999) (by decide) ?_
  refine pm_callS (As := [.int za, .int (nI 0), .int (nI 99999)]) (rest := []) hG hR dX12_debt_4 (lkX12_68 _ rfl) okS_X12_in (m_in (d := 1)) rfl rfl hdd (Nat.le_refl _) (Nat.le_refl _) (by decide) (pm_ki (fun v1 σ' cnt' hq => ?_))
  obtain ⟨hq, rfl, rfl⟩ := hq
  rcases hq with ⟨rfl, ac2, bc2⟩ | ⟨rfl, c2⟩
  · obtain ⟨k3, hk3, ek3⟩ := in_nat (by omega) (by omega) ac2 bc2
    refine pm_ifN_eq (tgt := 51) hG dX12_debt_7 rfl (by omega) (fun q => absurd q (by omega)) (fun _ => ?_)
    refine pm_iloadn hG dX12_debt_10 rfl ?_
    refine pm_if_lt (tgt := 51) hG dX12_debt_11 rfl (fun c4 => ?_) (fun c4 => ?_)
    · refine pm_aloadn hG dX12_debt_51 rfl ?_
      refine pm_iconst (v := nI 1) hG dX12_debt_52 (by decide) ?_
      refine pm_callV (As := [.int (nI 1)]) (rest := []) hG hR dX12_debt_53 (lkX12_80 _ rfl) okV_X12_finds rfl rfl (m_finds (d := 1) (by decide) hn hz (by omega)) rfl rfl hdd (Nat.le_refl _) (Nat.le_refl _) (by decide) (pm_ki (fun v5 σ' cnt' hq => ?_))
      obtain ⟨⟨I6, A6, rfl⟩, rfl, fv5⟩ := hq
      exact pm_iret hG hF dX12_debt_56 rfl (Nat.le_refl _) (Nat.le_refl _) ⟨_, rfl, ⟨_, _, _, rfl, hn, hr, ekc8.trans ekc8.symm⟩, rfl⟩
    · obtain ⟨k7, hk7, ek7⟩ := nI_of c4
      refine pm_iloadn hG dX12_debt_14 rfl ?_
      refine pm_top (v := nI k7) ek7 ?_
      refine pm_sipush (v := nI 10000) hG dX12_debt_15 (by decide) ?_
      refine pm_idivN hG dX12_debt_18 (by omega) (by decide) (by decide) ?_
      refine pm_iconst (v := nI 0) hG dX12_debt_19 (by decide) ?_
      refine pm_bipush (v := nI 99) hG dX12_debt_20 (by decide) ?_
      refine pm_callS (As := [.int (nI ((k7 / 10000))), .int (nI 0), .int (nI 99)]) (rest := []) hG hR dX12_debt_22 (lkX12_68 _ rfl) okS_X12_in (m_in (d := 1)) rfl rfl hdd (Nat.le_refl _) (Nat.le_refl _) (by decide) (pm_ki (fun v8 σ' cnt' hq => ?_))
      obtain ⟨hq, rfl, rfl⟩ := hq
      rcases hq with ⟨rfl, ac9, bc9⟩ | ⟨rfl, c9⟩
      · have ic9 := (nI_leI (by omega) (by omega)).mp (Int32.not_lt.mp ac9)
        have jc9 := (nI_leI (by omega) (by omega)).mp (Int32.not_lt.mp bc9)
        refine pm_ifN_eq (tgt := 51) hG dX12_debt_25 rfl (by omega) (fun q => absurd q (by omega)) (fun _ => ?_)
        refine pm_iloadn hG dX12_debt_28 rfl ?_
        refine pm_top (v := nI k7) ek7 ?_
        refine pm_sipush (v := nI 10000) hG dX12_debt_29 (by decide) ?_
        refine pm_iremM hG dX12_debt_32 (by omega) (by decide) (by decide) ?_
        refine pm_iconst (v := nI 1) hG dX12_debt_33 (by decide) ?_
        refine pm_sipush (v := nI 9999) hG dX12_debt_34 (by decide) ?_
        refine pm_callS (As := [.int (nI ((k7 % 10000))), .int (nI 1), .int (nI 9999)]) (rest := []) hG hR dX12_debt_37 (lkX12_68 _ rfl) okS_X12_in (m_in (d := 1)) rfl rfl hdd (Nat.le_refl _) (Nat.le_refl _) (by decide) (pm_ki (fun v10 σ' cnt' hq => ?_))
        obtain ⟨hq, rfl, rfl⟩ := hq
        rcases hq with ⟨rfl, ac11, bc11⟩ | ⟨rfl, c11⟩
        · have ic11 := (nI_leI (by omega) (by omega)).mp (Int32.not_lt.mp ac11)
          have jc11 := (nI_leI (by omega) (by omega)).mp (Int32.not_lt.mp bc11)
          refine pm_ifN_eq (tgt := 51) hG dX12_debt_40 rfl (by omega) (fun q => absurd q (by omega)) (fun _ => ?_)
          refine pm_aloadn hG dX12_debt_43 rfl ?_
          refine pm_iloadn hG dX12_debt_44 rfl ?_
          obtain ⟨k12, hk12, ek12⟩ := KI.nat hn (show kd 0 = (1, 11, true) by decide)
          refine pm_callV (As := [.int zc]) (rest := []) hG hR dX12_debt_45 (lkX12_84 _ rfl) okV_X12_isTown rfl rfl (m_isTown (d := 1) (by decide) ek12 (by omega)) rfl rfl hdd (Nat.le_refl _) (Nat.le_refl _) (by decide) (pm_ki (fun v13 σ' cnt' hq => ?_))
          obtain ⟨hq, rfl, rfl⟩ := hq
          rcases hq with ⟨rfl, k15, hk15, ek15⟩ | rfl
          · refine pm_ifN_ne (tgt := 57) hG dX12_debt_48 rfl (by omega) (fun _ => ?_) (fun q => absurd q (by omega))
            refine pm_aloadn hG dX12_debt_57 rfl ?_
            refine pm_getf hG dX12_debt_58 (flX12_7 _ rfl) rfl rfl ?_
            refine pm_bipush (v := nI 6) hG dX12_debt_61 (by decide) ?_
            refine pm_ialdN hG dX12_debt_63 rfl (by decide) (by omega) ?_
            obtain ⟨k16, hk16, ek16⟩ := KI.nat hn (show kd 6 = (1, 7, false) by decide)
            refine pm_top (v := nI k16) ek16 ?_
            refine pm_istoreXi (loc' := [some (.ref (B + 54)), some (.int za), some (.int zb), some (.int zc), some (.int (nI k16))]) hG dX12_debt_64 (by decide) (pm_c1b rfl) rfl ?_
            refine pm_iloadi hG dX12_debt_66 rfl ?_
            refine pm_bipush (v := nI 6) hG dX12_debt_68 (by decide) ?_
            refine pm_icmpN_ne (tgt := 79) hG dX12_debt_70 rfl (by omega) (by omega) (fun c17 => ?_) (fun c17 => ?_)
            · refine pm_aloadn hG dX12_debt_79 rfl ?_
              refine pm_getf hG dX12_debt_80 (flX12_7 _ rfl) rfl rfl ?_
              refine pm_bipush (v := nI 6) hG dX12_debt_83 (by decide) ?_
              refine pm_dup2 hG dX12_debt_85 rfl rfl ?_
              refine pm_ialdN hG dX12_debt_86 rfl (by decide) (by omega) ?_
              refine pm_top (v := nI k16) ek16 ?_
              refine pm_iconst (v := nI 1) hG dX12_debt_87 (by decide) ?_
              refine pm_iaddN (c := k16 + 1) hG dX12_debt_88 (by omega) ?_
              refine pm_iastN hG dX12_debt_89 rfl (by decide) (by omega) ?_
              refine mdn_now (fun n_18 en_18 => ?_)
              have hnn_18 := KI.w en_18 hn (okv_n (show kd 6 = (1, 7, false) by decide) (by omega))
              have hrn_18 := NRx.w en_18 hr (by rw [(show kd 6 = (1, 7, false) by decide)])
              have e19 : n_18 8 = nI kc8 := by rw [en_18, pk_un (by omega)]; exact ekc8
              have e20 : n_18 0 = nI k12 := by rw [en_18, pk_un (by omega)]; exact ek12
              have e21 : n_18 6 = nI (k16 + 1) := by rw [en_18, pk_us]
              refine pm_aloadn hG dX12_debt_90 rfl ?_
              refine pm_getf hG dX12_debt_91 (flX12_7 _ rfl) rfl rfl ?_
              refine pm_sipush (v := nI 1770) hG dX12_debt_94 (by decide) ?_
              refine pm_bipush (v := nI 6) hG dX12_debt_97 (by decide) ?_
              refine pm_iloadi hG dX12_debt_99 rfl ?_
              refine pm_imulN (c := 6 * k16) hG dX12_debt_101 (by omega) ?_
              refine pm_iaddN (c := 6 * k16 + 1770) hG dX12_debt_102 (by omega) ?_
              refine pm_iloadn hG dX12_debt_103 rfl ?_
              refine pm_top (v := nI k3) ek3 ?_
              refine pm_iastN hG dX12_debt_104 rfl (by decide) (by omega) ?_
              refine mdn_now (fun n_22 en_22 => ?_)
              have hnn_22 := KI.w en_22 hnn_18 (okv_f (show kd (6 * k16 + 1770) = (0, 0, false) from (kd_D (k := k16) (c := 0) (by omega) (by omega) (by decide))))
              have hrn_22 := NRx.w en_22 hrn_18 (by rw [(show kd (6 * k16 + 1770) = (0, 0, false) from (kd_D (k := k16) (c := 0) (by omega) (by omega) (by decide)))])
              have e23 : n_22 8 = nI kc8 := by rw [en_22, pk_un (by omega)]; exact e19
              have e24 : n_22 0 = nI k12 := by rw [en_22, pk_un (by omega)]; exact e20
              have e25 : n_22 6 = nI (k16 + 1) := by rw [en_22, pk_un (by omega)]; exact e21
              have e26 : n_22 (6 * k16 + 1770) = nI k3 := by rw [en_22, pk_us]
              refine pm_aloadn hG dX12_debt_105 rfl ?_
              refine pm_getf hG dX12_debt_106 (flX12_7 _ rfl) rfl rfl ?_
              refine pm_sipush (v := nI 1770) hG dX12_debt_109 (by decide) ?_
              refine pm_bipush (v := nI 6) hG dX12_debt_112 (by decide) ?_
              refine pm_iloadi hG dX12_debt_114 rfl ?_
              refine pm_imulN (c := 6 * k16) hG dX12_debt_116 (by omega) ?_
              refine pm_iaddN (c := 6 * k16 + 1770) hG dX12_debt_117 (by omega) ?_
              refine pm_iconst (v := nI 1) hG dX12_debt_118 (by decide) ?_
              refine pm_iaddN (c := 6 * k16 + 1771) hG dX12_debt_119 (by omega) ?_
              refine pm_iloadn hG dX12_debt_120 rfl ?_
              refine pm_top (v := nI k7) ek7 ?_
              refine pm_sipush (v := nI 10000) hG dX12_debt_121 (by decide) ?_
              refine pm_idivN hG dX12_debt_124 (by omega) (by decide) (by decide) ?_
              refine pm_iastN hG dX12_debt_125 rfl (by decide) (by omega) ?_
              refine mdn_now (fun n_27 en_27 => ?_)
              have hnn_27 := KI.w en_27 hnn_22 (okv_f (show kd (6 * k16 + 1771) = (0, 0, false) from (kd_D (k := k16) (c := 1) (by omega) (by omega) (by decide))))
              have hrn_27 := NRx.w en_27 hrn_22 (by rw [(show kd (6 * k16 + 1771) = (0, 0, false) from (kd_D (k := k16) (c := 1) (by omega) (by omega) (by decide)))])
              have e28 : n_27 8 = nI kc8 := by rw [en_27, pk_un (by omega)]; exact e23
              have e29 : n_27 0 = nI k12 := by rw [en_27, pk_un (by omega)]; exact e24
              have e30 : n_27 6 = nI (k16 + 1) := by rw [en_27, pk_un (by omega)]; exact e25
              have e31 : n_27 (6 * k16 + 1770) = nI k3 := by rw [en_27, pk_un (by omega)]; exact e26
              have e32 : n_27 (6 * k16 + 1771) = nI ((k7 / 10000)) := by rw [en_27, pk_us]
              refine pm_aloadn hG dX12_debt_126 rfl ?_
              refine pm_getf hG dX12_debt_127 (flX12_7 _ rfl) rfl rfl ?_
              refine pm_sipush (v := nI 1770) hG dX12_debt_130 (by decide) ?_
              refine pm_bipush (v := nI 6) hG dX12_debt_133 (by decide) ?_
              refine pm_iloadi hG dX12_debt_135 rfl ?_
              refine pm_imulN (c := 6 * k16) hG dX12_debt_137 (by omega) ?_
              refine pm_iaddN (c := 6 * k16 + 1770) hG dX12_debt_138 (by omega) ?_
              refine pm_iconst (v := nI 2) hG dX12_debt_139 (by decide) ?_
              refine pm_iaddN (c := 6 * k16 + 1772) hG dX12_debt_140 (by omega) ?_
              refine pm_iloadn hG dX12_debt_141 rfl ?_
              refine pm_top (v := nI k7) ek7 ?_
              refine pm_sipush (v := nI 10000) hG dX12_debt_142 (by decide) ?_
              refine pm_iremM hG dX12_debt_145 (by omega) (by decide) (by decide) ?_
              refine pm_iastN hG dX12_debt_146 rfl (by decide) (by omega) ?_
              refine mdn_now (fun n_33 en_33 => ?_)
              have hnn_33 := KI.w en_33 hnn_27 (okv_f (show kd (6 * k16 + 1772) = (0, 0, false) from (kd_D (k := k16) (c := 2) (by omega) (by omega) (by decide))))
              have hrn_33 := NRx.w en_33 hrn_27 (by rw [(show kd (6 * k16 + 1772) = (0, 0, false) from (kd_D (k := k16) (c := 2) (by omega) (by omega) (by decide)))])
              have e34 : n_33 8 = nI kc8 := by rw [en_33, pk_un (by omega)]; exact e28
              have e35 : n_33 0 = nI k12 := by rw [en_33, pk_un (by omega)]; exact e29
              have e36 : n_33 6 = nI (k16 + 1) := by rw [en_33, pk_un (by omega)]; exact e30
              have e37 : n_33 (6 * k16 + 1770) = nI k3 := by rw [en_33, pk_un (by omega)]; exact e31
              have e38 : n_33 (6 * k16 + 1771) = nI ((k7 / 10000)) := by rw [en_33, pk_un (by omega)]; exact e32
              have e39 : n_33 (6 * k16 + 1772) = nI ((k7 % 10000)) := by rw [en_33, pk_us]
              refine pm_aloadn hG dX12_debt_147 rfl ?_
              refine pm_getf hG dX12_debt_148 (flX12_7 _ rfl) rfl rfl ?_
              refine pm_sipush (v := nI 1770) hG dX12_debt_151 (by decide) ?_
              refine pm_bipush (v := nI 6) hG dX12_debt_154 (by decide) ?_
              refine pm_iloadi hG dX12_debt_156 rfl ?_
              refine pm_imulN (c := 6 * k16) hG dX12_debt_158 (by omega) ?_
              refine pm_iaddN (c := 6 * k16 + 1770) hG dX12_debt_159 (by omega) ?_
              refine pm_iconst (v := nI 3) hG dX12_debt_160 (by decide) ?_
              refine pm_iaddN (c := 6 * k16 + 1773) hG dX12_debt_161 (by omega) ?_
              refine pm_iconst (v := nI 0) hG dX12_debt_162 (by decide) ?_
              refine pm_iastN hG dX12_debt_163 rfl (by decide) (by omega) ?_
              refine mdn_now (fun n_40 en_40 => ?_)
              have hnn_40 := KI.w en_40 hnn_33 (okv_f (show kd (6 * k16 + 1773) = (0, 0, false) from (kd_D (k := k16) (c := 3) (by omega) (by omega) (by decide))))
              have hrn_40 := NRx.w en_40 hrn_33 (by rw [(show kd (6 * k16 + 1773) = (0, 0, false) from (kd_D (k := k16) (c := 3) (by omega) (by omega) (by decide)))])
              have e41 : n_40 8 = nI kc8 := by rw [en_40, pk_un (by omega)]; exact e34
              have e42 : n_40 0 = nI k12 := by rw [en_40, pk_un (by omega)]; exact e35
              have e43 : n_40 6 = nI (k16 + 1) := by rw [en_40, pk_un (by omega)]; exact e36
              have e44 : n_40 (6 * k16 + 1770) = nI k3 := by rw [en_40, pk_un (by omega)]; exact e37
              have e45 : n_40 (6 * k16 + 1771) = nI ((k7 / 10000)) := by rw [en_40, pk_un (by omega)]; exact e38
              have e46 : n_40 (6 * k16 + 1772) = nI ((k7 % 10000)) := by rw [en_40, pk_un (by omega)]; exact e39
              have e47 : n_40 (6 * k16 + 1773) = nI 0 := by rw [en_40, pk_us]
              refine pm_aloadn hG dX12_debt_164 rfl ?_
              refine pm_getf hG dX12_debt_165 (flX12_7 _ rfl) rfl rfl ?_
              refine pm_sipush (v := nI 1770) hG dX12_debt_168 (by decide) ?_
              refine pm_bipush (v := nI 6) hG dX12_debt_171 (by decide) ?_
              refine pm_iloadi hG dX12_debt_173 rfl ?_
              refine pm_imulN (c := 6 * k16) hG dX12_debt_175 (by omega) ?_
              refine pm_iaddN (c := 6 * k16 + 1770) hG dX12_debt_176 (by omega) ?_
              refine pm_iconst (v := nI 4) hG dX12_debt_177 (by decide) ?_
              refine pm_iaddN (c := 6 * k16 + 1774) hG dX12_debt_178 (by omega) ?_
              refine pm_iloadn hG dX12_debt_179 rfl ?_
              refine pm_top (v := nI k15) ek15 ?_
              refine pm_iastN hG dX12_debt_180 rfl (by decide) (by omega) ?_
              refine mdn_now (fun n_48 en_48 => ?_)
              have hnn_48 := KI.w en_48 hnn_40 (okv_n (show kd (6 * k16 + 1774) = (1, 10, false) from (kd_D (k := k16) (c := 4) (by omega) (by omega) (by decide))) (by omega))
              have hrn_48 := NRx.w en_48 hrn_40 (by rw [(show kd (6 * k16 + 1774) = (1, 10, false) from (kd_D (k := k16) (c := 4) (by omega) (by omega) (by decide)))])
              have e49 : n_48 8 = nI kc8 := by rw [en_48, pk_un (by omega)]; exact e41
              have e50 : n_48 0 = nI k12 := by rw [en_48, pk_un (by omega)]; exact e42
              have e51 : n_48 6 = nI (k16 + 1) := by rw [en_48, pk_un (by omega)]; exact e43
              have e52 : n_48 (6 * k16 + 1770) = nI k3 := by rw [en_48, pk_un (by omega)]; exact e44
              have e53 : n_48 (6 * k16 + 1771) = nI ((k7 / 10000)) := by rw [en_48, pk_un (by omega)]; exact e45
              have e54 : n_48 (6 * k16 + 1772) = nI ((k7 % 10000)) := by rw [en_48, pk_un (by omega)]; exact e46
              have e55 : n_48 (6 * k16 + 1773) = nI 0 := by rw [en_48, pk_un (by omega)]; exact e47
              have e56 : n_48 (6 * k16 + 1774) = nI k15 := by rw [en_48, pk_us]
              refine pm_aloadn hG dX12_debt_181 rfl ?_
              refine pm_getf hG dX12_debt_182 (flX12_7 _ rfl) rfl rfl ?_
              refine pm_bipush (v := nI 9) hG dX12_debt_185 (by decide) ?_
              refine pm_dup2 hG dX12_debt_187 rfl rfl ?_
              refine pm_ialdN hG dX12_debt_188 rfl (by decide) (by omega) ?_
              refine pm_gen (fun x57 ex57 => ?_)
              refine pm_iloadn hG dX12_debt_189 rfl ?_
              refine pm_top (v := nI k3) ek3 ?_
              refine pm_iadd hG dX12_debt_190 ?_
              refine pm_iastN hG dX12_debt_191 rfl (by decide) (by omega) ?_
              refine mdn_now (fun n_58 en_58 => ?_)
              have hnn_58 := KI.w en_58 hnn_48 (okv_f (show kd 9 = (0, 0, false) by decide))
              have hrn_58 := NRx.w en_58 hrn_48 (by rw [(show kd 9 = (0, 0, false) by decide)])
              have e59 : n_58 8 = nI kc8 := by rw [en_58, pk_un (by omega)]; exact e49
              have e60 : n_58 0 = nI k12 := by rw [en_58, pk_un (by omega)]; exact e50
              have e61 : n_58 6 = nI (k16 + 1) := by rw [en_58, pk_un (by omega)]; exact e51
              have e62 : n_58 (6 * k16 + 1770) = nI k3 := by rw [en_58, pk_un (by omega)]; exact e52
              have e63 : n_58 (6 * k16 + 1771) = nI ((k7 / 10000)) := by rw [en_58, pk_un (by omega)]; exact e53
              have e64 : n_58 (6 * k16 + 1772) = nI ((k7 % 10000)) := by rw [en_58, pk_un (by omega)]; exact e54
              have e65 : n_58 (6 * k16 + 1773) = nI 0 := by rw [en_58, pk_un (by omega)]; exact e55
              have e66 : n_58 (6 * k16 + 1774) = nI k15 := by rw [en_58, pk_un (by omega)]; exact e56
              have e67 : n_58 9 = x57 + (nI k3) := by rw [en_58, pk_us]
              refine pm_iloadi hG dX12_debt_192 rfl ?_
              exact pm_iret hG hF dX12_debt_194 rfl (Nat.le_refl _) (Nat.le_refl _) ⟨_, rfl, ⟨_, _, _, rfl, hnn_58, hrn_58, e59.trans ekc8.symm⟩, rfl⟩
            · refine pm_aloadn hG dX12_debt_73 rfl ?_
              refine pm_iconst (v := nI 4) hG dX12_debt_74 (by decide) ?_
              refine pm_callV (As := [.int (nI 4)]) (rest := []) hG hR dX12_debt_75 (lkX12_80 _ rfl) okV_X12_finds rfl rfl (m_finds (d := 1) (by decide) hn hz (by omega)) rfl rfl hdd (Nat.le_refl _) (Nat.le_refl _) (by decide) (pm_ki (fun v68 σ' cnt' hq => ?_))
              obtain ⟨⟨I69, A69, rfl⟩, rfl, fv68⟩ := hq
              exact pm_iret hG hF dX12_debt_78 rfl (Nat.le_refl _) (Nat.le_refl _) ⟨_, rfl, ⟨_, _, _, rfl, hn, hr, ekc8.trans ekc8.symm⟩, rfl⟩
          · refine pm_ifN_ne (tgt := 57) hG dX12_debt_48 rfl (by omega) (fun q => absurd q (by omega)) (fun _ => ?_)
            refine pm_aloadn hG dX12_debt_51 rfl ?_
            refine pm_iconst (v := nI 1) hG dX12_debt_52 (by decide) ?_
            refine pm_callV (As := [.int (nI 1)]) (rest := []) hG hR dX12_debt_53 (lkX12_80 _ rfl) okV_X12_finds rfl rfl (m_finds (d := 1) (by decide) hn hz (by omega)) rfl rfl hdd (Nat.le_refl _) (Nat.le_refl _) (by decide) (pm_ki (fun v70 σ' cnt' hq => ?_))
            obtain ⟨⟨I71, A71, rfl⟩, rfl, fv70⟩ := hq
            exact pm_iret hG hF dX12_debt_56 rfl (Nat.le_refl _) (Nat.le_refl _) ⟨_, rfl, ⟨_, _, _, rfl, hn, hr, ekc8.trans ekc8.symm⟩, rfl⟩
        · refine pm_ifN_eq (tgt := 51) hG dX12_debt_40 rfl (by omega) (fun _ => ?_) (fun q => absurd q (by omega))
          refine pm_aloadn hG dX12_debt_51 rfl ?_
          refine pm_iconst (v := nI 1) hG dX12_debt_52 (by decide) ?_
          refine pm_callV (As := [.int (nI 1)]) (rest := []) hG hR dX12_debt_53 (lkX12_80 _ rfl) okV_X12_finds rfl rfl (m_finds (d := 1) (by decide) hn hz (by omega)) rfl rfl hdd (Nat.le_refl _) (Nat.le_refl _) (by decide) (pm_ki (fun v72 σ' cnt' hq => ?_))
          obtain ⟨⟨I73, A73, rfl⟩, rfl, fv72⟩ := hq
          exact pm_iret hG hF dX12_debt_56 rfl (Nat.le_refl _) (Nat.le_refl _) ⟨_, rfl, ⟨_, _, _, rfl, hn, hr, ekc8.trans ekc8.symm⟩, rfl⟩
      · refine pm_ifN_eq (tgt := 51) hG dX12_debt_25 rfl (by omega) (fun _ => ?_) (fun q => absurd q (by omega))
        refine pm_aloadn hG dX12_debt_51 rfl ?_
        refine pm_iconst (v := nI 1) hG dX12_debt_52 (by decide) ?_
        refine pm_callV (As := [.int (nI 1)]) (rest := []) hG hR dX12_debt_53 (lkX12_80 _ rfl) okV_X12_finds rfl rfl (m_finds (d := 1) (by decide) hn hz (by omega)) rfl rfl hdd (Nat.le_refl _) (Nat.le_refl _) (by decide) (pm_ki (fun v74 σ' cnt' hq => ?_))
        obtain ⟨⟨I75, A75, rfl⟩, rfl, fv74⟩ := hq
        exact pm_iret hG hF dX12_debt_56 rfl (Nat.le_refl _) (Nat.le_refl _) ⟨_, rfl, ⟨_, _, _, rfl, hn, hr, ekc8.trans ekc8.symm⟩, rfl⟩
  · refine pm_ifN_eq (tgt := 51) hG dX12_debt_7 rfl (by omega) (fun _ => ?_) (fun q => absurd q (by omega))
    refine pm_aloadn hG dX12_debt_51 rfl ?_
    refine pm_iconst (v := nI 1) hG dX12_debt_52 (by decide) ?_
    refine pm_callV (As := [.int (nI 1)]) (rest := []) hG hR dX12_debt_53 (lkX12_80 _ rfl) okV_X12_finds rfl rfl (m_finds (d := 1) (by decide) hn hz (by omega)) rfl rfl hdd (Nat.le_refl _) (Nat.le_refl _) (by decide) (pm_ki (fun v76 σ' cnt' hq => ?_))
    obtain ⟨⟨I77, A77, rfl⟩, rfl, fv76⟩ := hq
    exact pm_iret hG hF dX12_debt_56 rfl (Nat.le_refl _) (Nat.le_refl _) ⟨_, rfl, ⟨_, _, _, rfl, hn, hr, ekc8.trans ekc8.symm⟩, rfl⟩

set_option maxRecDepth 100000 in
set_option maxHeartbeats 4000000 in
theorem m_leaves {d B cnt p0 t0 : Nat} {σ : pm_S} {I : Nat → Int32} {A : Nat → Nat → Int32} {n k z : Nat → Int32} {ac wt pl im : Int32} {ba : Nat} (hdd : 1 ≤ d) (hn : KI n) (hr : NR n) (hz : SZ z) (hba : ba < 20) : pm_met mX12_leaves d 0 0 B [.ref (B + 54), .int (nI ba)] cnt (pm_mid σ (md_L B I A n k z ac wt pl (nI p0) (nI t0) im)) (pm_Qv (fun σ' cnt' => (∃ (n' : Nat → Int32), σ' = pm_mid σ (md_L B I A n' k z ac wt pl (nI p0) (nI t0) im) ∧ KI n' ∧ NR n' ∧ n' 8 = n 8) ∧ cnt = cnt')) := by
  obtain ⟨kc8, hkc8, ekc8⟩ := KI.nat hn (show kd 8 = (1, 2001, false) by decide)
  refine pm_enter 1 (by decide) (Nat.le_of_ble_eq_true rfl) rfl (fun G hG hR hF => ?_)
  refine pm_aloadn hG dX12_leaves_0 rfl ?_
  refine pm_iloadn hG dX12_leaves_1 rfl ?_
  refine pm_bipush (v := nI 11) hG dX12_leaves_2 (by decide) ?_
  refine pm_iconst (v := nI 0) hG dX12_leaves_4 (by decide) ?_
  refine pm_callV (As := [.int (nI ba), .int (nI 11), .int (nI 0)]) (rest := []) hG hR dX12_leaves_5 (lkX12_97 _ rfl) okV_X12_sets rfl rfl (m_sets (d := 0) (e := 14 * ba + 121) (by omega) (by omega) (by omega)) rfl rfl hdd (Nat.le_refl _) (Nat.le_refl _) (by decide) (pm_kv (fun σ' cnt' hq => ?_))
  obtain ⟨rfl, rfl⟩ := hq
  obtain ⟨n_1, en_1⟩ : ∃ f : Nat → Int32, f = upd n (14 * ba + 121) (nI 0) := ⟨_, rfl⟩
  rw [← en_1]
  have hnn_1 := KI.w en_1 hn (okv_n (show kd (14 * ba + 121) = (1, 2, true) from (kd_P (k := ba) (c := 11) (by omega) (by omega) (by decide))) (by omega))
  have hrn_1 := NRx.unseat (p := ba) en_1 hr (by omega)
  have e2 : n_1 8 = nI kc8 := by rw [en_1, pk_un (by omega)]; exact ekc8
  have e3 : n_1 (14 * ba + 121) = nI 0 := by rw [en_1, pk_us]
  refine pm_iconst (v := nI 0) hG dX12_leaves_8 (by decide) ?_
  refine pm_istoreXn (loc' := [some (.ref (B + 54)), some (.int (nI ba)), some (.int (nI 0))]) hG dX12_leaves_9 (by decide) (pm_c1b rfl) rfl ?_
  have loop10_4 : ∀ (m4 : Nat) (n_4 : Nat → Int32) (i4 : Nat), KI n_4 → NRx 40 n_4 → n_4 8 = nI kc8 → i4 ≤ 30 → 30 - i4 < m4 → pm_wp mX12_leaves G B 10 [some (.ref (B + 54)), some (.int (nI ba)), some (.int (nI i4))] [] 0 0 cnt (pm_mid σ (md_L B I A n_4 k z ac wt pl (nI p0) (nI t0) im)) := by
    intro m4
    induction m4 with
    | zero => intro n_4 i4 _ _ _ _ hm; exact absurd hm (Nat.not_lt_zero _)
    | succ m4 ih4 =>
      intro n_4 i4 hnn_4 hrn_4 kc4_8 hi4 hm4
      refine pm_iloadn hG dX12_leaves_10 rfl ?_
      refine pm_aloadn hG dX12_leaves_11 rfl ?_
      refine pm_getf hG dX12_leaves_12 (flX12_7 _ rfl) rfl rfl ?_
      refine pm_bipush (v := nI 7) hG dX12_leaves_15 (by decide) ?_
      refine pm_ialdN hG dX12_leaves_17 rfl (by decide) (by omega) ?_
      obtain ⟨k5, hk5, ek5⟩ := KI.nat hnn_4 (show kd 7 = (1, 31, false) by decide)
      refine pm_top (v := nI k5) ek5 ?_
      refine pm_icmpN_ge (tgt := 53) hG dX12_leaves_18 rfl (by omega) (by omega) (fun c6 => ?_) (fun c6 => ?_)
      · exact pm_vret hG hF dX12_leaves_53 rfl (Nat.le_refl _) (Nat.le_refl _) ⟨rfl, ⟨_, rfl, hnn_4, hrn_4, kc4_8.trans ekc8.symm⟩, rfl⟩
      · refine pm_aloadn hG dX12_leaves_21 rfl ?_
        refine pm_iloadn hG dX12_leaves_22 rfl ?_
        refine pm_iconst (v := nI 0) hG dX12_leaves_23 (by decide) ?_
        refine pm_callV (As := [.int (nI i4), .int (nI 0)]) (rest := []) hG hR dX12_leaves_24 (lkX12_223 _ rfl) okV_X12_promised rfl rfl (m_promised (d := 0) (e := 6 * i4 + 1806) (by omega) (by omega) (by omega)) rfl rfl hdd (Nat.le_refl _) (Nat.le_refl _) (by decide) (pm_ki (fun v7 σ' cnt' hq => ?_))
        obtain ⟨rfl, rfl, rfl⟩ := hq
        obtain ⟨k8, hk8, ek8⟩ := KI.nat hnn_4 (show kd (6 * i4 + 1806) = (1, 20, false) from (kd_Q (k := i4) (c := 0) (by omega) (by omega) (by decide)))
        refine pm_top (v := nI k8) ek8 ?_
        refine pm_iloadn hG dX12_leaves_27 rfl ?_
        refine pm_icmpN_ne (tgt := 47) hG dX12_leaves_28 rfl (by omega) (by omega) (fun c9 => ?_) (fun c9 => ?_)
        · refine pm_iincX (v := nI (i4 + 1)) (loc' := [some (.ref (B + 54)), some (.int (nI ba)), some (.int (nI (i4 + 1)))]) hG dX12_leaves_47 rfl (nI_1 _) (by decide) (pm_c1b rfl) rfl ?_
          refine pm_goto (tgt := 10) hG dX12_leaves_50 rfl ?_
          exact ih4 n_4 (i4 + 1) hnn_4 hrn_4 (kc4_8.trans (congrArg nI (by omega))) (by omega) (by omega)
        · refine pm_aloadn hG dX12_leaves_31 rfl ?_
          refine pm_getf hG dX12_leaves_32 (flX12_7 _ rfl) rfl rfl ?_
          refine pm_sipush (v := nI 1806) hG dX12_leaves_35 (by decide) ?_
          refine pm_bipush (v := nI 6) hG dX12_leaves_38 (by decide) ?_
          refine pm_iloadn hG dX12_leaves_40 rfl ?_
          refine pm_imulN (c := 6 * i4) hG dX12_leaves_41 (by omega) ?_
          refine pm_iaddN (c := 6 * i4 + 1806) hG dX12_leaves_42 (by omega) ?_
          refine pm_iconst (v := nI 5) hG dX12_leaves_43 (by decide) ?_
          refine pm_iaddN (c := 6 * i4 + 1811) hG dX12_leaves_44 (by omega) ?_
          refine pm_iconst (v := nI 1) hG dX12_leaves_45 (by decide) ?_
          refine pm_iastN hG dX12_leaves_46 rfl (by decide) (by omega) ?_
          refine mdn_now (fun n_10 en_10 => ?_)
          have hnn_10 := KI.w en_10 hnn_4 (okv_f (show kd (6 * i4 + 1811) = (0, 0, false) from (kd_Q (k := i4) (c := 5) (by omega) (by omega) (by decide))))
          have hrn_10 := NRx.w en_10 hrn_4 (by rw [(show kd (6 * i4 + 1811) = (0, 0, false) from (kd_Q (k := i4) (c := 5) (by omega) (by omega) (by decide)))])
          have e11 : n_10 8 = nI kc8 := by rw [en_10, pk_un (by omega)]; exact kc4_8
          have e12 : n_10 7 = nI k5 := by rw [en_10, pk_un (by omega)]; exact ek5
          have e13 : n_10 (6 * i4 + 1806) = nI k8 := by rw [en_10, pk_un (by omega)]; exact ek8
          have e14 : n_10 (6 * i4 + 1811) = nI 1 := by rw [en_10, pk_us]
          refine pm_iincX (v := nI (i4 + 1)) (loc' := [some (.ref (B + 54)), some (.int (nI ba)), some (.int (nI (i4 + 1)))]) hG dX12_leaves_47 rfl (nI_1 _) (by decide) (pm_c1b rfl) rfl ?_
          refine pm_goto (tgt := 10) hG dX12_leaves_50 rfl ?_
          exact ih4 n_10 (i4 + 1) hnn_10 hrn_10 (e11.trans (congrArg nI (by omega))) (by omega) (by omega)
  exact loop10_4 _ n_1 0 hnn_1 hrn_1 (e2.trans (congrArg nI (by omega))) (by omega) (Nat.lt_succ_self _)

set_option maxRecDepth 100000 in
set_option maxHeartbeats 4000000 in
theorem m_die {d B cnt p0 t0 : Nat} {σ : pm_S} {I : Nat → Int32} {A : Nat → Nat → Int32} {n k z : Nat → Int32} {ac wt pl im : Int32} {za : Int32} (hdd : 4 ≤ d) (hn : KI n) (hr : NR n) (hz : SZ z)  : pm_met mX12_die d 0 0 B [.ref (B + 54), .int za] cnt (pm_mid σ (md_L B I A n k z ac wt pl (nI p0) (nI t0) im)) (pm_Qi (fun v σ' cnt' => (∃ (I' : Nat → Int32) (A' : Nat → Nat → Int32) (n' : Nat → Int32), σ' = pm_mid σ (md_L B I' A' n' k z ac wt pl (nI p0) (nI t0) im) ∧ KI n' ∧ NR n' ∧ n' 8 = n 8) ∧ cnt = cnt')) := by
  obtain ⟨kc8, hkc8, ekc8⟩ := KI.nat hn (show kd 8 = (1, 2001, false) by decide)
  refine pm_enter 3 (by decide) (Nat.le_of_ble_eq_true rfl) rfl (fun G hG hR hF => ?_)
  refine pm_aloadn hG dX12_die_0 rfl ?_
  refine pm_iloadn hG dX12_die_1 rfl ?_
  obtain ⟨k1, hk1, ek1⟩ := KI.nat hn (show kd 2 = (1, 21, true) by decide)
  refine pm_callV (As := [.int za]) (rest := []) hG hR dX12_die_2 (lkX12_91 _ rfl) okV_X12_isPerson rfl rfl (m_isPerson (d := 3) (by decide) ek1 (by omega)) rfl rfl hdd (Nat.le_refl _) (Nat.le_refl _) (by decide) (pm_ki (fun v2 σ' cnt' hq => ?_))
  obtain ⟨hq, rfl, rfl⟩ := hq
  rcases hq with ⟨rfl, k4, hk4, ek4⟩ | rfl
  · refine pm_ifN_ne (tgt := 14) hG dX12_die_5 rfl (by omega) (fun _ => ?_) (fun q => absurd q (by omega))
    refine pm_aloadn hG dX12_die_14 rfl ?_
    refine pm_iloadn hG dX12_die_15 rfl ?_
    refine pm_top (v := nI k4) ek4 ?_
    rcases KI.opt hn (show kd (14 * k4 + 119) = (2, 2001, false) from (kd_P (k := k4) (c := 9) (by omega) (by omega) (by decide))) with ek5 | ⟨k5, hk5, ek5⟩
    · refine pm_callV (As := [.int (nI k4)]) (rest := []) hG hR dX12_die_16 (lkX12_101 _ rfl) okV_X12_lives rfl rfl (m_lives1 (d := 3) (by decide) (by omega) (by omega : 14 * k4 + 119 = 14 * k4 + 119) ek5) rfl rfl hdd (Nat.le_refl _) (Nat.le_refl _) (by decide) (pm_ki (fun v6 σ' cnt' hq => ?_))
      obtain ⟨rfl, rfl, rfl⟩ := hq
      refine pm_ifN_ne (tgt := 28) hG dX12_die_19 rfl (by omega) (fun _ => ?_) (fun q => absurd q (by omega))
      refine pm_aloadn hG dX12_die_28 rfl ?_
      refine pm_iloadn hG dX12_die_29 rfl ?_
      refine pm_top (v := nI k4) ek4 ?_
      refine pm_bipush (v := nI 7) hG dX12_die_30 (by decide) ?_
      refine pm_callV (As := [.int (nI k4), .int (nI 7)]) (rest := []) hG hR dX12_die_32 (lkX12_72 _ rfl) okV_X12_man rfl rfl (m_man (d := 3) (e := 14 * k4 + 117) (by omega) (by omega) (by omega)) rfl rfl hdd (Nat.le_refl _) (Nat.le_refl _) (by decide) (pm_ki (fun v7 σ' cnt' hq => ?_))
      obtain ⟨rfl, rfl, rfl⟩ := hq
      refine pm_gen (fun x8 ex8 => ?_)
      refine pm_istoreXn (loc' := [some (.ref (B + 54)), some (.int za), some (.int x8), none, none]) hG dX12_die_35 (by decide) (pm_c1b rfl) rfl ?_
      refine pm_aloadn hG dX12_die_36 rfl ?_
      refine pm_iloadn hG dX12_die_37 rfl ?_
      refine pm_top (v := nI k4) ek4 ?_
      refine pm_bipush (v := nI 10) hG dX12_die_38 (by decide) ?_
      refine pm_aloadn hG dX12_die_40 rfl ?_
      refine pm_iloadn hG dX12_die_41 rfl ?_
      refine pm_top (v := nI k4) ek4 ?_
      refine pm_callV (As := [.int (nI k4)]) (rest := [.int (nI 10), .int (nI k4), .ref (B + 54)]) hG hR dX12_die_42 (lkX12_104 _ rfl) okV_X12_knownTo rfl rfl (m_knownTo (d := 3) (by decide) hn hz (by omega)) rfl rfl hdd (Nat.le_refl _) (Nat.le_refl _) (Nat.le_of_ble_eq_true rfl) (pm_ki (fun v9 σ' cnt' hq => ?_))
      obtain ⟨⟨I10, A10, rfl⟩, rfl⟩ := hq
      refine pm_callV (As := [.int (nI k4), .int (nI 10), .int v9]) (rest := []) hG hR dX12_die_45 (lkX12_97 _ rfl) okV_X12_sets rfl rfl (m_sets (d := 3) (e := 14 * k4 + 120) (by omega) (by omega) (by omega)) rfl rfl hdd (Nat.le_refl _) (Nat.le_refl _) (by decide) (pm_kv (fun σ' cnt' hq => ?_))
      obtain ⟨rfl, rfl⟩ := hq
      obtain ⟨n_11, en_11⟩ : ∃ f : Nat → Int32, f = upd n (14 * k4 + 120) v9 := ⟨_, rfl⟩
      rw [← en_11]
      have hnn_11 := KI.w en_11 hn (okv_f (show kd (14 * k4 + 120) = (0, 0, false) from (kd_P (k := k4) (c := 10) (by omega) (by omega) (by decide))))
      have hrn_11 := NRx.w en_11 hr (by rw [(show kd (14 * k4 + 120) = (0, 0, false) from (kd_P (k := k4) (c := 10) (by omega) (by omega) (by decide)))])
      have e12 : n_11 8 = nI kc8 := by rw [en_11, pk_un (by omega)]; exact ekc8
      have e13 : n_11 2 = nI k1 := by rw [en_11, pk_un (by omega)]; exact ek1
      have e14 : n_11 (14 * k4 + 119) = (-1) := by rw [en_11, pk_un (by omega)]; exact ek5
      have e15 : n_11 (14 * k4 + 117) = x8 := by rw [en_11, pk_un (by omega)]; exact ex8
      have e16 : n_11 (14 * k4 + 120) = v9 := by rw [en_11, pk_us]
      refine pm_aloadn hG dX12_die_48 rfl ?_
      refine pm_iloadn hG dX12_die_49 rfl ?_
      refine pm_top (v := nI k4) ek4 ?_
      refine pm_bipush (v := nI 9) hG dX12_die_50 (by decide) ?_
      refine pm_aloadn hG dX12_die_52 rfl ?_
      refine pm_getf hG dX12_die_53 (flX12_7 _ rfl) rfl rfl ?_
      refine pm_bipush (v := nI 8) hG dX12_die_56 (by decide) ?_
      refine pm_ialdN hG dX12_die_58 rfl (by decide) (by omega) ?_
      refine pm_top (v := nI kc8) e12 ?_
      refine pm_callV (As := [.int (nI k4), .int (nI 9), .int (nI kc8)]) (rest := []) hG hR dX12_die_59 (lkX12_97 _ rfl) okV_X12_sets rfl rfl (m_sets (d := 3) (e := 14 * k4 + 119) (by omega) (by omega) (by omega)) rfl rfl hdd (Nat.le_refl _) (Nat.le_refl _) (by decide) (pm_kv (fun σ' cnt' hq => ?_))
      obtain ⟨rfl, rfl⟩ := hq
      obtain ⟨n_17, en_17⟩ : ∃ f : Nat → Int32, f = upd n_11 (14 * k4 + 119) (nI kc8) := ⟨_, rfl⟩
      rw [← en_17]
      have hnn_17 := KI.w en_17 hnn_11 (okv_o (show kd (14 * k4 + 119) = (2, 2001, false) from (kd_P (k := k4) (c := 9) (by omega) (by omega) (by decide))) (by omega))
      have hrn_17 := NRx.w en_17 hrn_11 (by rw [(show kd (14 * k4 + 119) = (2, 2001, false) from (kd_P (k := k4) (c := 9) (by omega) (by omega) (by decide)))])
      have e18 : n_17 8 = nI kc8 := by rw [en_17, pk_un (by omega)]; exact e12
      have e19 : n_17 2 = nI k1 := by rw [en_17, pk_un (by omega)]; exact e13
      have e20 : n_17 (14 * k4 + 117) = x8 := by rw [en_17, pk_un (by omega)]; exact e15
      have e21 : n_17 (14 * k4 + 120) = v9 := by rw [en_17, pk_un (by omega)]; exact e16
      have e22 : n_17 (14 * k4 + 119) = nI kc8 := by rw [en_17, pk_us]
      refine pm_aloadn hG dX12_die_62 rfl ?_
      refine pm_iloadn hG dX12_die_63 rfl ?_
      refine pm_top (v := nI k4) ek4 ?_
      refine pm_bipush (v := nI 7) hG dX12_die_64 (by decide) ?_
      refine pm_iconst (v := nI 0) hG dX12_die_66 (by decide) ?_
      refine pm_callV (As := [.int (nI k4), .int (nI 7), .int (nI 0)]) (rest := []) hG hR dX12_die_67 (lkX12_97 _ rfl) okV_X12_sets rfl rfl (m_sets (d := 3) (e := 14 * k4 + 117) (by omega) (by omega) (by omega)) rfl rfl hdd (Nat.le_refl _) (Nat.le_refl _) (by decide) (pm_kv (fun σ' cnt' hq => ?_))
      obtain ⟨rfl, rfl⟩ := hq
      obtain ⟨n_23, en_23⟩ : ∃ f : Nat → Int32, f = upd n_17 (14 * k4 + 117) (nI 0) := ⟨_, rfl⟩
      rw [← en_23]
      have hnn_23 := KI.w en_23 hnn_17 (okv_f (show kd (14 * k4 + 117) = (0, 0, false) from (kd_P (k := k4) (c := 7) (by omega) (by omega) (by decide))))
      have hrn_23 := NRx.w en_23 hrn_17 (by rw [(show kd (14 * k4 + 117) = (0, 0, false) from (kd_P (k := k4) (c := 7) (by omega) (by omega) (by decide)))])
      have e24 : n_23 8 = nI kc8 := by rw [en_23, pk_un (by omega)]; exact e18
      have e25 : n_23 2 = nI k1 := by rw [en_23, pk_un (by omega)]; exact e19
      have e26 : n_23 (14 * k4 + 120) = v9 := by rw [en_23, pk_un (by omega)]; exact e21
      have e27 : n_23 (14 * k4 + 119) = nI kc8 := by rw [en_23, pk_un (by omega)]; exact e22
      have e28 : n_23 (14 * k4 + 117) = nI 0 := by rw [en_23, pk_us]
      refine pm_aloadn hG dX12_die_70 rfl ?_
      refine pm_iloadn hG dX12_die_71 rfl ?_
      refine pm_top (v := nI k4) ek4 ?_
      refine pm_bipush (v := nI 8) hG dX12_die_72 (by decide) ?_
      refine pm_iconst (v := nI 0) hG dX12_die_74 (by decide) ?_
      refine pm_callV (As := [.int (nI k4), .int (nI 8), .int (nI 0)]) (rest := []) hG hR dX12_die_75 (lkX12_97 _ rfl) okV_X12_sets rfl rfl (m_sets (d := 3) (e := 14 * k4 + 118) (by omega) (by omega) (by omega)) rfl rfl hdd (Nat.le_refl _) (Nat.le_refl _) (by decide) (pm_kv (fun σ' cnt' hq => ?_))
      obtain ⟨rfl, rfl⟩ := hq
      obtain ⟨n_29, en_29⟩ : ∃ f : Nat → Int32, f = upd n_23 (14 * k4 + 118) (nI 0) := ⟨_, rfl⟩
      rw [← en_29]
      have hnn_29 := KI.w en_29 hnn_23 (okv_f (show kd (14 * k4 + 118) = (0, 0, false) from (kd_P (k := k4) (c := 8) (by omega) (by omega) (by decide))))
      have hrn_29 := NRx.w en_29 hrn_23 (by rw [(show kd (14 * k4 + 118) = (0, 0, false) from (kd_P (k := k4) (c := 8) (by omega) (by omega) (by decide)))])
      have e30 : n_29 8 = nI kc8 := by rw [en_29, pk_un (by omega)]; exact e24
      have e31 : n_29 2 = nI k1 := by rw [en_29, pk_un (by omega)]; exact e25
      have e32 : n_29 (14 * k4 + 120) = v9 := by rw [en_29, pk_un (by omega)]; exact e26
      have e33 : n_29 (14 * k4 + 119) = nI kc8 := by rw [en_29, pk_un (by omega)]; exact e27
      have e34 : n_29 (14 * k4 + 117) = nI 0 := by rw [en_29, pk_un (by omega)]; exact e28
      have e35 : n_29 (14 * k4 + 118) = nI 0 := by rw [en_29, pk_us]
      refine pm_aloadn hG dX12_die_78 rfl ?_
      refine pm_getf hG dX12_die_79 (flX12_7 _ rfl) rfl rfl ?_
      refine pm_bipush (v := nI 9) hG dX12_die_82 (by decide) ?_
      refine pm_dup2 hG dX12_die_84 rfl rfl ?_
      refine pm_ialdN hG dX12_die_85 rfl (by decide) (by omega) ?_
      refine pm_gen (fun x36 ex36 => ?_)
      refine pm_iloadn hG dX12_die_86 rfl ?_
      refine pm_iadd hG dX12_die_87 ?_
      refine pm_iastN hG dX12_die_88 rfl (by decide) (by omega) ?_
      refine mdn_now (fun n_37 en_37 => ?_)
      have hnn_37 := KI.w en_37 hnn_29 (okv_f (show kd 9 = (0, 0, false) by decide))
      have hrn_37 := NRx.w en_37 hrn_29 (by rw [(show kd 9 = (0, 0, false) by decide)])
      have e38 : n_37 8 = nI kc8 := by rw [en_37, pk_un (by omega)]; exact e30
      have e39 : n_37 2 = nI k1 := by rw [en_37, pk_un (by omega)]; exact e31
      have e40 : n_37 (14 * k4 + 120) = v9 := by rw [en_37, pk_un (by omega)]; exact e32
      have e41 : n_37 (14 * k4 + 119) = nI kc8 := by rw [en_37, pk_un (by omega)]; exact e33
      have e42 : n_37 (14 * k4 + 117) = nI 0 := by rw [en_37, pk_un (by omega)]; exact e34
      have e43 : n_37 (14 * k4 + 118) = nI 0 := by rw [en_37, pk_un (by omega)]; exact e35
      have e44 : n_37 9 = x36 + x8 := by rw [en_37, pk_us]
      refine pm_aloadn hG dX12_die_89 rfl ?_
      refine pm_iloadn hG dX12_die_90 rfl ?_
      refine pm_top (v := nI k4) ek4 ?_
      refine pm_bipush (v := nI 11) hG dX12_die_91 (by decide) ?_
      refine pm_callV (As := [.int (nI k4), .int (nI 11)]) (rest := []) hG hR dX12_die_93 (lkX12_72 _ rfl) okV_X12_man rfl rfl (m_man (d := 3) (e := 14 * k4 + 121) (by omega) (by omega) (by omega)) rfl rfl hdd (Nat.le_refl _) (Nat.le_refl _) (by decide) (pm_ki (fun v45 σ' cnt' hq => ?_))
      obtain ⟨rfl, rfl, rfl⟩ := hq
      obtain ⟨k46, hk46, ek46⟩ := KI.nat hnn_37 (show kd (14 * k4 + 121) = (1, 2, true) from (kd_P (k := k4) (c := 11) (by omega) (by omega) (by decide)))
      refine pm_top (v := nI k46) ek46 ?_
      refine pm_iconst (v := nI 1) hG dX12_die_96 (by decide) ?_
      refine pm_icmpN_ne (tgt := 105) hG dX12_die_97 rfl (by omega) (by omega) (fun c47 => ?_) (fun c47 => ?_)
      · refine pm_iconst (v := nI 0) hG dX12_die_105 (by decide) ?_
        refine pm_istoreXn (loc' := [some (.ref (B + 54)), some (.int za), some (.int x8), some (.int (nI 0)), none]) hG dX12_die_106 (by decide) (pm_c1b rfl) rfl ?_
        have loop107_48 : ∀ (m48 : Nat) (I48 : Nat → Int32) (A48 : Nat → Nat → Int32) (n_48 : Nat → Int32) (i48 : Nat), KI n_48 → NRx 40 n_48 → n_48 8 = nI kc8 → i48 ≤ 20 → 20 - i48 < m48 → pm_wp mX12_die G B 107 [some (.ref (B + 54)), some (.int za), some (.int x8), some (.int (nI i48)), none] [] 0 0 cnt (pm_mid σ (md_L B I48 A48 n_48 k z ac wt pl (nI p0) (nI t0) im)) := by
          intro m48
          induction m48 with
          | zero => intro I48 A48 n_48 i48 _ _ _ _ hm; exact absurd hm (Nat.not_lt_zero _)
          | succ m48 ih48 =>
            intro I48 A48 n_48 i48 hnn_48 hrn_48 kc48_8 hi48 hm48
            refine pm_iloadn hG dX12_die_107 rfl ?_
            refine pm_aloadn hG dX12_die_108 rfl ?_
            refine pm_getf hG dX12_die_109 (flX12_7 _ rfl) rfl rfl ?_
            refine pm_iconst (v := nI 3) hG dX12_die_112 (by decide) ?_
            refine pm_ialdN hG dX12_die_113 rfl (by decide) (by omega) ?_
            obtain ⟨k49, hk49, ek49⟩ := KI.nat hnn_48 (show kd 3 = (1, 21, false) by decide)
            refine pm_top (v := nI k49) ek49 ?_
            refine pm_icmpN_ge (tgt := 172) hG dX12_die_114 rfl (by omega) (by omega) (fun c50 => ?_) (fun c50 => ?_)
            · refine pm_iloadn hG dX12_die_172 rfl ?_
              exact pm_iret hG hF dX12_die_173 rfl (Nat.le_refl _) (Nat.le_refl _) ⟨_, rfl, ⟨_, _, _, rfl, hnn_48, hrn_48, kc48_8.trans ekc8.symm⟩, rfl⟩
            · refine pm_aloadn hG dX12_die_117 rfl ?_
              refine pm_iloadn hG dX12_die_118 rfl ?_
              refine pm_iconst (v := nI 1) hG dX12_die_119 (by decide) ?_
              refine pm_callV (As := [.int (nI i48), .int (nI 1)]) (rest := []) hG hR dX12_die_120 (lkX12_110 _ rfl) okV_X12_its rfl rfl (m_its (d := 3) (e := 6 * i48 + 391) (by omega) (by omega) (by omega)) rfl rfl hdd (Nat.le_refl _) (Nat.le_refl _) (by decide) (pm_ki (fun v51 σ' cnt' hq => ?_))
              obtain ⟨rfl, rfl, rfl⟩ := hq
              rcases KI.opt hnn_48 (show kd (6 * i48 + 391) = (2, 20, false) from (kd_W (k := i48) (c := 1) (by omega) (by omega) (by decide))) with ek52 | ⟨k52, hk52, ek52⟩
              · refine pm_top (v := (-1)) ek52 ?_
                refine pm_iloadn hG dX12_die_123 rfl ?_
                refine pm_top (v := nI k4) ek4 ?_
                refine pm_icmp_ne (tgt := 131) hG dX12_die_124 rfl (fun _ => ?_) (fun q => absurd q ((fun q => nI_m1 (by omega) q.symm)))
                refine pm_iconst (v := nI 0) hG dX12_die_131 (by decide) ?_
                refine pm_istoreXi (loc' := [some (.ref (B + 54)), some (.int za), some (.int x8), some (.int (nI i48)), some (.int (nI 0))]) hG dX12_die_132 (by decide) (pm_c1b rfl) rfl ?_
                refine pm_iloadi hG dX12_die_134 rfl ?_
                refine pm_ifN_eq (tgt := 146) hG dX12_die_136 rfl (by omega) (fun _ => ?_) (fun q => absurd q (by omega))
                refine pm_iloadi hG dX12_die_146 rfl ?_
                refine pm_ifN_ne (tgt := 161) hG dX12_die_148 rfl (by omega) (fun q => absurd q (by omega)) (fun _ => ?_)
                refine pm_aloadn hG dX12_die_151 rfl ?_
                refine pm_iloadn hG dX12_die_152 rfl ?_
                refine pm_iconst (v := nI 2) hG dX12_die_153 (by decide) ?_
                refine pm_callV (As := [.int (nI i48), .int (nI 2)]) (rest := []) hG hR dX12_die_154 (lkX12_110 _ rfl) okV_X12_its rfl rfl (m_its (d := 3) (e := 6 * i48 + 392) (by omega) (by omega) (by omega)) rfl rfl hdd (Nat.le_refl _) (Nat.le_refl _) (by decide) (pm_ki (fun v53 σ' cnt' hq => ?_))
                obtain ⟨rfl, rfl, rfl⟩ := hq
                rcases KI.opt hnn_48 (show kd (6 * i48 + 392) = (2, 20, false) from (kd_W (k := i48) (c := 2) (by omega) (by omega) (by decide))) with ek54 | ⟨k54, hk54, ek54⟩
                · refine pm_top (v := (-1)) ek54 ?_
                  refine pm_iloadn hG dX12_die_157 rfl ?_
                  refine pm_top (v := nI k4) ek4 ?_
                  refine pm_icmp_ne (tgt := 166) hG dX12_die_158 rfl (fun _ => ?_) (fun q => absurd q ((fun q => nI_m1 (by omega) q.symm)))
                  refine pm_iincX (v := nI (i48 + 1)) (loc' := [some (.ref (B + 54)), some (.int za), some (.int x8), some (.int (nI (i48 + 1))), some (.int (nI 0))]) hG dX12_die_166 rfl (nI_1 _) (by decide) (pm_c1b rfl) rfl ?_
                  refine pm_goto (tgt := 107) hG dX12_die_169 rfl ?_
                  refine pm_fg 4 (loc' := [some (.ref (B + 54)), some (.int za), some (.int x8), some (.int (nI (i48 + 1))), none]) rfl ?_
                  exact ih48 I48 A48 n_48 (i48 + 1) hnn_48 hrn_48 (kc48_8.trans (congrArg nI (by omega))) (by omega) (by omega)
                · refine pm_top (v := nI k54) ek54 ?_
                  refine pm_iloadn hG dX12_die_157 rfl ?_
                  refine pm_top (v := nI k4) ek4 ?_
                  refine pm_icmpN_ne (tgt := 166) hG dX12_die_158 rfl (by omega) (by omega) (fun c55 => ?_) (fun c55 => ?_)
                  · refine pm_iincX (v := nI (i48 + 1)) (loc' := [some (.ref (B + 54)), some (.int za), some (.int x8), some (.int (nI (i48 + 1))), some (.int (nI 0))]) hG dX12_die_166 rfl (nI_1 _) (by decide) (pm_c1b rfl) rfl ?_
                    refine pm_goto (tgt := 107) hG dX12_die_169 rfl ?_
                    refine pm_fg 4 (loc' := [some (.ref (B + 54)), some (.int za), some (.int x8), some (.int (nI (i48 + 1))), none]) rfl ?_
                    exact ih48 I48 A48 n_48 (i48 + 1) hnn_48 hrn_48 (kc48_8.trans (congrArg nI (by omega))) (by omega) (by omega)
                  · refine pm_aloadn hG dX12_die_161 rfl ?_
                    refine pm_iloadn hG dX12_die_162 rfl ?_
                    refine pm_callV (As := [.int (nI i48)]) (rest := []) hG hR dX12_die_163 (lkX12_116 _ rfl) okV_X12_comesBack rfl rfl (m_comesBack (d := 3) (e := 6 * i48 + 392) (e2 := 6 * i48 + 393) (by decide) (by omega) (by omega) (by omega)) rfl rfl hdd (Nat.le_refl _) (Nat.le_refl _) (by decide) (pm_kv (fun σ' cnt' hq => ?_))
                    obtain ⟨rfl, rfl⟩ := hq
                    obtain ⟨n_56, en_56⟩ : ∃ f : Nat → Int32, f = upd n_48 (6 * i48 + 392) (-1) := ⟨_, rfl⟩
                    rw [← en_56]
                    have hnn_56 := KI.w en_56 hnn_48 (okv_m (show kd (6 * i48 + 392) = (2, 20, false) from (kd_W (k := i48) (c := 2) (by omega) (by omega) (by decide))))
                    have hrn_56 := NRx.w en_56 hrn_48 (by rw [(show kd (6 * i48 + 392) = (2, 20, false) from (kd_W (k := i48) (c := 2) (by omega) (by omega) (by decide)))])
                    have e57 : n_56 8 = nI kc8 := by rw [en_56, pk_un (by omega)]; exact kc48_8
                    have e58 : n_56 3 = nI k49 := by rw [en_56, pk_un (by omega)]; exact ek49
                    have e59 : n_56 (6 * i48 + 391) = (-1) := by rw [en_56, pk_un (by omega)]; exact ek52
                    have e60 : n_56 (6 * i48 + 392) = (-1) := by rw [en_56, pk_us]
                    obtain ⟨n_61, en_61⟩ : ∃ f : Nat → Int32, f = upd n_56 (6 * i48 + 393) (-1) := ⟨_, rfl⟩
                    rw [← en_61]
                    have hnn_61 := KI.w en_61 hnn_56 (okv_f (show kd (6 * i48 + 393) = (0, 0, false) from (kd_W (k := i48) (c := 3) (by omega) (by omega) (by decide))))
                    have hrn_61 := NRx.w en_61 hrn_56 (by rw [(show kd (6 * i48 + 393) = (0, 0, false) from (kd_W (k := i48) (c := 3) (by omega) (by omega) (by decide)))])
                    have e62 : n_61 8 = nI kc8 := by rw [en_61, pk_un (by omega)]; exact e57
                    have e63 : n_61 3 = nI k49 := by rw [en_61, pk_un (by omega)]; exact e58
                    have e64 : n_61 (6 * i48 + 391) = (-1) := by rw [en_61, pk_un (by omega)]; exact e59
                    have e65 : n_61 (6 * i48 + 392) = (-1) := by rw [en_61, pk_un (by omega)]; exact e60
                    have e66 : n_61 (6 * i48 + 393) = (-1) := by rw [en_61, pk_us]
                    refine pm_iincX (v := nI (i48 + 1)) (loc' := [some (.ref (B + 54)), some (.int za), some (.int x8), some (.int (nI (i48 + 1))), some (.int (nI 0))]) hG dX12_die_166 rfl (nI_1 _) (by decide) (pm_c1b rfl) rfl ?_
                    refine pm_goto (tgt := 107) hG dX12_die_169 rfl ?_
                    refine pm_fg 4 (loc' := [some (.ref (B + 54)), some (.int za), some (.int x8), some (.int (nI (i48 + 1))), none]) rfl ?_
                    exact ih48 I48 A48 n_61 (i48 + 1) hnn_61 hrn_61 (e62.trans (congrArg nI (by omega))) (by omega) (by omega)
              · refine pm_top (v := nI k52) ek52 ?_
                refine pm_iloadn hG dX12_die_123 rfl ?_
                refine pm_top (v := nI k4) ek4 ?_
                refine pm_icmpN_ne (tgt := 131) hG dX12_die_124 rfl (by omega) (by omega) (fun c67 => ?_) (fun c67 => ?_)
                · refine pm_iconst (v := nI 0) hG dX12_die_131 (by decide) ?_
                  refine pm_istoreXi (loc' := [some (.ref (B + 54)), some (.int za), some (.int x8), some (.int (nI i48)), some (.int (nI 0))]) hG dX12_die_132 (by decide) (pm_c1b rfl) rfl ?_
                  refine pm_iloadi hG dX12_die_134 rfl ?_
                  refine pm_ifN_eq (tgt := 146) hG dX12_die_136 rfl (by omega) (fun _ => ?_) (fun q => absurd q (by omega))
                  refine pm_iloadi hG dX12_die_146 rfl ?_
                  refine pm_ifN_ne (tgt := 161) hG dX12_die_148 rfl (by omega) (fun q => absurd q (by omega)) (fun _ => ?_)
                  refine pm_aloadn hG dX12_die_151 rfl ?_
                  refine pm_iloadn hG dX12_die_152 rfl ?_
                  refine pm_iconst (v := nI 2) hG dX12_die_153 (by decide) ?_
                  refine pm_callV (As := [.int (nI i48), .int (nI 2)]) (rest := []) hG hR dX12_die_154 (lkX12_110 _ rfl) okV_X12_its rfl rfl (m_its (d := 3) (e := 6 * i48 + 392) (by omega) (by omega) (by omega)) rfl rfl hdd (Nat.le_refl _) (Nat.le_refl _) (by decide) (pm_ki (fun v68 σ' cnt' hq => ?_))
                  obtain ⟨rfl, rfl, rfl⟩ := hq
                  rcases KI.opt hnn_48 (show kd (6 * i48 + 392) = (2, 20, false) from (kd_W (k := i48) (c := 2) (by omega) (by omega) (by decide))) with ek69 | ⟨k69, hk69, ek69⟩
                  · refine pm_top (v := (-1)) ek69 ?_
                    refine pm_iloadn hG dX12_die_157 rfl ?_
                    refine pm_top (v := nI k4) ek4 ?_
                    refine pm_icmp_ne (tgt := 166) hG dX12_die_158 rfl (fun _ => ?_) (fun q => absurd q ((fun q => nI_m1 (by omega) q.symm)))
                    refine pm_iincX (v := nI (i48 + 1)) (loc' := [some (.ref (B + 54)), some (.int za), some (.int x8), some (.int (nI (i48 + 1))), some (.int (nI 0))]) hG dX12_die_166 rfl (nI_1 _) (by decide) (pm_c1b rfl) rfl ?_
                    refine pm_goto (tgt := 107) hG dX12_die_169 rfl ?_
                    refine pm_fg 4 (loc' := [some (.ref (B + 54)), some (.int za), some (.int x8), some (.int (nI (i48 + 1))), none]) rfl ?_
                    exact ih48 I48 A48 n_48 (i48 + 1) hnn_48 hrn_48 (kc48_8.trans (congrArg nI (by omega))) (by omega) (by omega)
                  · refine pm_top (v := nI k69) ek69 ?_
                    refine pm_iloadn hG dX12_die_157 rfl ?_
                    refine pm_top (v := nI k4) ek4 ?_
                    refine pm_icmpN_ne (tgt := 166) hG dX12_die_158 rfl (by omega) (by omega) (fun c70 => ?_) (fun c70 => ?_)
                    · refine pm_iincX (v := nI (i48 + 1)) (loc' := [some (.ref (B + 54)), some (.int za), some (.int x8), some (.int (nI (i48 + 1))), some (.int (nI 0))]) hG dX12_die_166 rfl (nI_1 _) (by decide) (pm_c1b rfl) rfl ?_
                      refine pm_goto (tgt := 107) hG dX12_die_169 rfl ?_
                      refine pm_fg 4 (loc' := [some (.ref (B + 54)), some (.int za), some (.int x8), some (.int (nI (i48 + 1))), none]) rfl ?_
                      exact ih48 I48 A48 n_48 (i48 + 1) hnn_48 hrn_48 (kc48_8.trans (congrArg nI (by omega))) (by omega) (by omega)
                    · refine pm_aloadn hG dX12_die_161 rfl ?_
                      refine pm_iloadn hG dX12_die_162 rfl ?_
                      refine pm_callV (As := [.int (nI i48)]) (rest := []) hG hR dX12_die_163 (lkX12_116 _ rfl) okV_X12_comesBack rfl rfl (m_comesBack (d := 3) (e := 6 * i48 + 392) (e2 := 6 * i48 + 393) (by decide) (by omega) (by omega) (by omega)) rfl rfl hdd (Nat.le_refl _) (Nat.le_refl _) (by decide) (pm_kv (fun σ' cnt' hq => ?_))
                      obtain ⟨rfl, rfl⟩ := hq
                      obtain ⟨n_71, en_71⟩ : ∃ f : Nat → Int32, f = upd n_48 (6 * i48 + 392) (-1) := ⟨_, rfl⟩
                      rw [← en_71]
                      have hnn_71 := KI.w en_71 hnn_48 (okv_m (show kd (6 * i48 + 392) = (2, 20, false) from (kd_W (k := i48) (c := 2) (by omega) (by omega) (by decide))))
                      have hrn_71 := NRx.w en_71 hrn_48 (by rw [(show kd (6 * i48 + 392) = (2, 20, false) from (kd_W (k := i48) (c := 2) (by omega) (by omega) (by decide)))])
                      have e72 : n_71 8 = nI kc8 := by rw [en_71, pk_un (by omega)]; exact kc48_8
                      have e73 : n_71 3 = nI k49 := by rw [en_71, pk_un (by omega)]; exact ek49
                      have e74 : n_71 (6 * i48 + 391) = nI k52 := by rw [en_71, pk_un (by omega)]; exact ek52
                      have e75 : n_71 (6 * i48 + 392) = (-1) := by rw [en_71, pk_us]
                      obtain ⟨n_76, en_76⟩ : ∃ f : Nat → Int32, f = upd n_71 (6 * i48 + 393) (-1) := ⟨_, rfl⟩
                      rw [← en_76]
                      have hnn_76 := KI.w en_76 hnn_71 (okv_f (show kd (6 * i48 + 393) = (0, 0, false) from (kd_W (k := i48) (c := 3) (by omega) (by omega) (by decide))))
                      have hrn_76 := NRx.w en_76 hrn_71 (by rw [(show kd (6 * i48 + 393) = (0, 0, false) from (kd_W (k := i48) (c := 3) (by omega) (by omega) (by decide)))])
                      have e77 : n_76 8 = nI kc8 := by rw [en_76, pk_un (by omega)]; exact e72
                      have e78 : n_76 3 = nI k49 := by rw [en_76, pk_un (by omega)]; exact e73
                      have e79 : n_76 (6 * i48 + 391) = nI k52 := by rw [en_76, pk_un (by omega)]; exact e74
                      have e80 : n_76 (6 * i48 + 392) = (-1) := by rw [en_76, pk_un (by omega)]; exact e75
                      have e81 : n_76 (6 * i48 + 393) = (-1) := by rw [en_76, pk_us]
                      refine pm_iincX (v := nI (i48 + 1)) (loc' := [some (.ref (B + 54)), some (.int za), some (.int x8), some (.int (nI (i48 + 1))), some (.int (nI 0))]) hG dX12_die_166 rfl (nI_1 _) (by decide) (pm_c1b rfl) rfl ?_
                      refine pm_goto (tgt := 107) hG dX12_die_169 rfl ?_
                      refine pm_fg 4 (loc' := [some (.ref (B + 54)), some (.int za), some (.int x8), some (.int (nI (i48 + 1))), none]) rfl ?_
                      exact ih48 I48 A48 n_76 (i48 + 1) hnn_76 hrn_76 (e77.trans (congrArg nI (by omega))) (by omega) (by omega)
                · refine pm_iconst (v := nI 1) hG dX12_die_127 (by decide) ?_
                  refine pm_goto (tgt := 132) hG dX12_die_128 rfl ?_
                  refine pm_istoreXi (loc' := [some (.ref (B + 54)), some (.int za), some (.int x8), some (.int (nI i48)), some (.int (nI 1))]) hG dX12_die_132 (by decide) (pm_c1b rfl) rfl ?_
                  refine pm_iloadi hG dX12_die_134 rfl ?_
                  refine pm_ifN_eq (tgt := 146) hG dX12_die_136 rfl (by omega) (fun q => absurd q (by omega)) (fun _ => ?_)
                  refine pm_aloadn hG dX12_die_139 rfl ?_
                  refine pm_iloadn hG dX12_die_140 rfl ?_
                  refine pm_iconst (v := nI 1) hG dX12_die_141 (by decide) ?_
                  refine pm_iconst (v := (-1)) hG dX12_die_142 (by decide) ?_
                  refine pm_callV (As := [.int (nI i48), .int (nI 1), .int (-1)]) (rest := []) hG hR dX12_die_143 (lkX12_113 _ rfl) okV_X12_makes rfl rfl (m_makes (d := 3) (e := 6 * i48 + 391) (by omega) (by omega) (by omega)) rfl rfl hdd (Nat.le_refl _) (Nat.le_refl _) (by decide) (pm_kv (fun σ' cnt' hq => ?_))
                  obtain ⟨rfl, rfl⟩ := hq
                  obtain ⟨n_82, en_82⟩ : ∃ f : Nat → Int32, f = upd n_48 (6 * i48 + 391) (-1) := ⟨_, rfl⟩
                  rw [← en_82]
                  have hnn_82 := KI.w en_82 hnn_48 (okv_m (show kd (6 * i48 + 391) = (2, 20, false) from (kd_W (k := i48) (c := 1) (by omega) (by omega) (by decide))))
                  have hrn_82 := NRx.w en_82 hrn_48 (by rw [(show kd (6 * i48 + 391) = (2, 20, false) from (kd_W (k := i48) (c := 1) (by omega) (by omega) (by decide)))])
                  have e83 : n_82 8 = nI kc8 := by rw [en_82, pk_un (by omega)]; exact kc48_8
                  have e84 : n_82 3 = nI k49 := by rw [en_82, pk_un (by omega)]; exact ek49
                  have e85 : n_82 (6 * i48 + 391) = (-1) := by rw [en_82, pk_us]
                  refine pm_iloadi hG dX12_die_146 rfl ?_
                  refine pm_ifN_ne (tgt := 161) hG dX12_die_148 rfl (by omega) (fun _ => ?_) (fun q => absurd q (by omega))
                  refine pm_aloadn hG dX12_die_161 rfl ?_
                  refine pm_iloadn hG dX12_die_162 rfl ?_
                  refine pm_callV (As := [.int (nI i48)]) (rest := []) hG hR dX12_die_163 (lkX12_116 _ rfl) okV_X12_comesBack rfl rfl (m_comesBack (d := 3) (e := 6 * i48 + 392) (e2 := 6 * i48 + 393) (by decide) (by omega) (by omega) (by omega)) rfl rfl hdd (Nat.le_refl _) (Nat.le_refl _) (by decide) (pm_kv (fun σ' cnt' hq => ?_))
                  obtain ⟨rfl, rfl⟩ := hq
                  obtain ⟨n_86, en_86⟩ : ∃ f : Nat → Int32, f = upd n_82 (6 * i48 + 392) (-1) := ⟨_, rfl⟩
                  rw [← en_86]
                  have hnn_86 := KI.w en_86 hnn_82 (okv_m (show kd (6 * i48 + 392) = (2, 20, false) from (kd_W (k := i48) (c := 2) (by omega) (by omega) (by decide))))
                  have hrn_86 := NRx.w en_86 hrn_82 (by rw [(show kd (6 * i48 + 392) = (2, 20, false) from (kd_W (k := i48) (c := 2) (by omega) (by omega) (by decide)))])
                  have e87 : n_86 8 = nI kc8 := by rw [en_86, pk_un (by omega)]; exact e83
                  have e88 : n_86 3 = nI k49 := by rw [en_86, pk_un (by omega)]; exact e84
                  have e89 : n_86 (6 * i48 + 391) = (-1) := by rw [en_86, pk_un (by omega)]; exact e85
                  have e90 : n_86 (6 * i48 + 392) = (-1) := by rw [en_86, pk_us]
                  obtain ⟨n_91, en_91⟩ : ∃ f : Nat → Int32, f = upd n_86 (6 * i48 + 393) (-1) := ⟨_, rfl⟩
                  rw [← en_91]
                  have hnn_91 := KI.w en_91 hnn_86 (okv_f (show kd (6 * i48 + 393) = (0, 0, false) from (kd_W (k := i48) (c := 3) (by omega) (by omega) (by decide))))
                  have hrn_91 := NRx.w en_91 hrn_86 (by rw [(show kd (6 * i48 + 393) = (0, 0, false) from (kd_W (k := i48) (c := 3) (by omega) (by omega) (by decide)))])
                  have e92 : n_91 8 = nI kc8 := by rw [en_91, pk_un (by omega)]; exact e87
                  have e93 : n_91 3 = nI k49 := by rw [en_91, pk_un (by omega)]; exact e88
                  have e94 : n_91 (6 * i48 + 391) = (-1) := by rw [en_91, pk_un (by omega)]; exact e89
                  have e95 : n_91 (6 * i48 + 392) = (-1) := by rw [en_91, pk_un (by omega)]; exact e90
                  have e96 : n_91 (6 * i48 + 393) = (-1) := by rw [en_91, pk_us]
                  refine pm_iincX (v := nI (i48 + 1)) (loc' := [some (.ref (B + 54)), some (.int za), some (.int x8), some (.int (nI (i48 + 1))), some (.int (nI 1))]) hG dX12_die_166 rfl (nI_1 _) (by decide) (pm_c1b rfl) rfl ?_
                  refine pm_goto (tgt := 107) hG dX12_die_169 rfl ?_
                  refine pm_fg 4 (loc' := [some (.ref (B + 54)), some (.int za), some (.int x8), some (.int (nI (i48 + 1))), none]) rfl ?_
                  exact ih48 I48 A48 n_91 (i48 + 1) hnn_91 hrn_91 (e92.trans (congrArg nI (by omega))) (by omega) (by omega)
        exact loop107_48 _ I10 A10 n_37 0 hnn_37 hrn_37 (e38.trans (congrArg nI (by omega))) (by omega) (Nat.lt_succ_self _)
      · refine pm_aloadn hG dX12_die_100 rfl ?_
        refine pm_iloadn hG dX12_die_101 rfl ?_
        refine pm_top (v := nI k4) ek4 ?_
        refine pm_callV (As := [.int (nI k4)]) (rest := []) hG hR dX12_die_102 (lkX12_107 _ rfl) okV_X12_leaves rfl rfl (m_leaves (d := 3) (by decide) hnn_37 hrn_37 hz (by omega)) rfl rfl hdd (Nat.le_refl _) (Nat.le_refl _) (by decide) (pm_kv (fun σ' cnt' hq => ?_))
        obtain ⟨⟨n_98, rfl, hn98, hr98, hc98_8⟩, rfl⟩ := hq
        have e99 : n_98 8 = nI kc8 := hc98_8.trans e38
        refine pm_iconst (v := nI 0) hG dX12_die_105 (by decide) ?_
        refine pm_istoreXn (loc' := [some (.ref (B + 54)), some (.int za), some (.int x8), some (.int (nI 0)), none]) hG dX12_die_106 (by decide) (pm_c1b rfl) rfl ?_
        have loop107_100 : ∀ (m100 : Nat) (I100 : Nat → Int32) (A100 : Nat → Nat → Int32) (n_100 : Nat → Int32) (i100 : Nat), KI n_100 → NRx 40 n_100 → n_100 8 = nI kc8 → i100 ≤ 20 → 20 - i100 < m100 → pm_wp mX12_die G B 107 [some (.ref (B + 54)), some (.int za), some (.int x8), some (.int (nI i100)), none] [] 0 0 cnt (pm_mid σ (md_L B I100 A100 n_100 k z ac wt pl (nI p0) (nI t0) im)) := by
          intro m100
          induction m100 with
          | zero => intro I100 A100 n_100 i100 _ _ _ _ hm; exact absurd hm (Nat.not_lt_zero _)
          | succ m100 ih100 =>
            intro I100 A100 n_100 i100 hnn_100 hrn_100 kc100_8 hi100 hm100
            refine pm_iloadn hG dX12_die_107 rfl ?_
            refine pm_aloadn hG dX12_die_108 rfl ?_
            refine pm_getf hG dX12_die_109 (flX12_7 _ rfl) rfl rfl ?_
            refine pm_iconst (v := nI 3) hG dX12_die_112 (by decide) ?_
            refine pm_ialdN hG dX12_die_113 rfl (by decide) (by omega) ?_
            obtain ⟨k101, hk101, ek101⟩ := KI.nat hnn_100 (show kd 3 = (1, 21, false) by decide)
            refine pm_top (v := nI k101) ek101 ?_
            refine pm_icmpN_ge (tgt := 172) hG dX12_die_114 rfl (by omega) (by omega) (fun c102 => ?_) (fun c102 => ?_)
            · refine pm_iloadn hG dX12_die_172 rfl ?_
              exact pm_iret hG hF dX12_die_173 rfl (Nat.le_refl _) (Nat.le_refl _) ⟨_, rfl, ⟨_, _, _, rfl, hnn_100, hrn_100, kc100_8.trans ekc8.symm⟩, rfl⟩
            · refine pm_aloadn hG dX12_die_117 rfl ?_
              refine pm_iloadn hG dX12_die_118 rfl ?_
              refine pm_iconst (v := nI 1) hG dX12_die_119 (by decide) ?_
              refine pm_callV (As := [.int (nI i100), .int (nI 1)]) (rest := []) hG hR dX12_die_120 (lkX12_110 _ rfl) okV_X12_its rfl rfl (m_its (d := 3) (e := 6 * i100 + 391) (by omega) (by omega) (by omega)) rfl rfl hdd (Nat.le_refl _) (Nat.le_refl _) (by decide) (pm_ki (fun v103 σ' cnt' hq => ?_))
              obtain ⟨rfl, rfl, rfl⟩ := hq
              rcases KI.opt hnn_100 (show kd (6 * i100 + 391) = (2, 20, false) from (kd_W (k := i100) (c := 1) (by omega) (by omega) (by decide))) with ek104 | ⟨k104, hk104, ek104⟩
              · refine pm_top (v := (-1)) ek104 ?_
                refine pm_iloadn hG dX12_die_123 rfl ?_
                refine pm_top (v := nI k4) ek4 ?_
                refine pm_icmp_ne (tgt := 131) hG dX12_die_124 rfl (fun _ => ?_) (fun q => absurd q ((fun q => nI_m1 (by omega) q.symm)))
                refine pm_iconst (v := nI 0) hG dX12_die_131 (by decide) ?_
                refine pm_istoreXi (loc' := [some (.ref (B + 54)), some (.int za), some (.int x8), some (.int (nI i100)), some (.int (nI 0))]) hG dX12_die_132 (by decide) (pm_c1b rfl) rfl ?_
                refine pm_iloadi hG dX12_die_134 rfl ?_
                refine pm_ifN_eq (tgt := 146) hG dX12_die_136 rfl (by omega) (fun _ => ?_) (fun q => absurd q (by omega))
                refine pm_iloadi hG dX12_die_146 rfl ?_
                refine pm_ifN_ne (tgt := 161) hG dX12_die_148 rfl (by omega) (fun q => absurd q (by omega)) (fun _ => ?_)
                refine pm_aloadn hG dX12_die_151 rfl ?_
                refine pm_iloadn hG dX12_die_152 rfl ?_
                refine pm_iconst (v := nI 2) hG dX12_die_153 (by decide) ?_
                refine pm_callV (As := [.int (nI i100), .int (nI 2)]) (rest := []) hG hR dX12_die_154 (lkX12_110 _ rfl) okV_X12_its rfl rfl (m_its (d := 3) (e := 6 * i100 + 392) (by omega) (by omega) (by omega)) rfl rfl hdd (Nat.le_refl _) (Nat.le_refl _) (by decide) (pm_ki (fun v105 σ' cnt' hq => ?_))
                obtain ⟨rfl, rfl, rfl⟩ := hq
                rcases KI.opt hnn_100 (show kd (6 * i100 + 392) = (2, 20, false) from (kd_W (k := i100) (c := 2) (by omega) (by omega) (by decide))) with ek106 | ⟨k106, hk106, ek106⟩
                · refine pm_top (v := (-1)) ek106 ?_
                  refine pm_iloadn hG dX12_die_157 rfl ?_
                  refine pm_top (v := nI k4) ek4 ?_
                  refine pm_icmp_ne (tgt := 166) hG dX12_die_158 rfl (fun _ => ?_) (fun q => absurd q ((fun q => nI_m1 (by omega) q.symm)))
                  refine pm_iincX (v := nI (i100 + 1)) (loc' := [some (.ref (B + 54)), some (.int za), some (.int x8), some (.int (nI (i100 + 1))), some (.int (nI 0))]) hG dX12_die_166 rfl (nI_1 _) (by decide) (pm_c1b rfl) rfl ?_
                  refine pm_goto (tgt := 107) hG dX12_die_169 rfl ?_
                  refine pm_fg 4 (loc' := [some (.ref (B + 54)), some (.int za), some (.int x8), some (.int (nI (i100 + 1))), none]) rfl ?_
                  exact ih100 I100 A100 n_100 (i100 + 1) hnn_100 hrn_100 (kc100_8.trans (congrArg nI (by omega))) (by omega) (by omega)
                · refine pm_top (v := nI k106) ek106 ?_
                  refine pm_iloadn hG dX12_die_157 rfl ?_
                  refine pm_top (v := nI k4) ek4 ?_
                  refine pm_icmpN_ne (tgt := 166) hG dX12_die_158 rfl (by omega) (by omega) (fun c107 => ?_) (fun c107 => ?_)
                  · refine pm_iincX (v := nI (i100 + 1)) (loc' := [some (.ref (B + 54)), some (.int za), some (.int x8), some (.int (nI (i100 + 1))), some (.int (nI 0))]) hG dX12_die_166 rfl (nI_1 _) (by decide) (pm_c1b rfl) rfl ?_
                    refine pm_goto (tgt := 107) hG dX12_die_169 rfl ?_
                    refine pm_fg 4 (loc' := [some (.ref (B + 54)), some (.int za), some (.int x8), some (.int (nI (i100 + 1))), none]) rfl ?_
                    exact ih100 I100 A100 n_100 (i100 + 1) hnn_100 hrn_100 (kc100_8.trans (congrArg nI (by omega))) (by omega) (by omega)
                  · refine pm_aloadn hG dX12_die_161 rfl ?_
                    refine pm_iloadn hG dX12_die_162 rfl ?_
                    refine pm_callV (As := [.int (nI i100)]) (rest := []) hG hR dX12_die_163 (lkX12_116 _ rfl) okV_X12_comesBack rfl rfl (m_comesBack (d := 3) (e := 6 * i100 + 392) (e2 := 6 * i100 + 393) (by decide) (by omega) (by omega) (by omega)) rfl rfl hdd (Nat.le_refl _) (Nat.le_refl _) (by decide) (pm_kv (fun σ' cnt' hq => ?_))
                    obtain ⟨rfl, rfl⟩ := hq
                    obtain ⟨n_108, en_108⟩ : ∃ f : Nat → Int32, f = upd n_100 (6 * i100 + 392) (-1) := ⟨_, rfl⟩
                    rw [← en_108]
                    have hnn_108 := KI.w en_108 hnn_100 (okv_m (show kd (6 * i100 + 392) = (2, 20, false) from (kd_W (k := i100) (c := 2) (by omega) (by omega) (by decide))))
                    have hrn_108 := NRx.w en_108 hrn_100 (by rw [(show kd (6 * i100 + 392) = (2, 20, false) from (kd_W (k := i100) (c := 2) (by omega) (by omega) (by decide)))])
                    have e109 : n_108 8 = nI kc8 := by rw [en_108, pk_un (by omega)]; exact kc100_8
                    have e110 : n_108 3 = nI k101 := by rw [en_108, pk_un (by omega)]; exact ek101
                    have e111 : n_108 (6 * i100 + 391) = (-1) := by rw [en_108, pk_un (by omega)]; exact ek104
                    have e112 : n_108 (6 * i100 + 392) = (-1) := by rw [en_108, pk_us]
                    obtain ⟨n_113, en_113⟩ : ∃ f : Nat → Int32, f = upd n_108 (6 * i100 + 393) (-1) := ⟨_, rfl⟩
                    rw [← en_113]
                    have hnn_113 := KI.w en_113 hnn_108 (okv_f (show kd (6 * i100 + 393) = (0, 0, false) from (kd_W (k := i100) (c := 3) (by omega) (by omega) (by decide))))
                    have hrn_113 := NRx.w en_113 hrn_108 (by rw [(show kd (6 * i100 + 393) = (0, 0, false) from (kd_W (k := i100) (c := 3) (by omega) (by omega) (by decide)))])
                    have e114 : n_113 8 = nI kc8 := by rw [en_113, pk_un (by omega)]; exact e109
                    have e115 : n_113 3 = nI k101 := by rw [en_113, pk_un (by omega)]; exact e110
                    have e116 : n_113 (6 * i100 + 391) = (-1) := by rw [en_113, pk_un (by omega)]; exact e111
                    have e117 : n_113 (6 * i100 + 392) = (-1) := by rw [en_113, pk_un (by omega)]; exact e112
                    have e118 : n_113 (6 * i100 + 393) = (-1) := by rw [en_113, pk_us]
                    refine pm_iincX (v := nI (i100 + 1)) (loc' := [some (.ref (B + 54)), some (.int za), some (.int x8), some (.int (nI (i100 + 1))), some (.int (nI 0))]) hG dX12_die_166 rfl (nI_1 _) (by decide) (pm_c1b rfl) rfl ?_
                    refine pm_goto (tgt := 107) hG dX12_die_169 rfl ?_
                    refine pm_fg 4 (loc' := [some (.ref (B + 54)), some (.int za), some (.int x8), some (.int (nI (i100 + 1))), none]) rfl ?_
                    exact ih100 I100 A100 n_113 (i100 + 1) hnn_113 hrn_113 (e114.trans (congrArg nI (by omega))) (by omega) (by omega)
              · refine pm_top (v := nI k104) ek104 ?_
                refine pm_iloadn hG dX12_die_123 rfl ?_
                refine pm_top (v := nI k4) ek4 ?_
                refine pm_icmpN_ne (tgt := 131) hG dX12_die_124 rfl (by omega) (by omega) (fun c119 => ?_) (fun c119 => ?_)
                · refine pm_iconst (v := nI 0) hG dX12_die_131 (by decide) ?_
                  refine pm_istoreXi (loc' := [some (.ref (B + 54)), some (.int za), some (.int x8), some (.int (nI i100)), some (.int (nI 0))]) hG dX12_die_132 (by decide) (pm_c1b rfl) rfl ?_
                  refine pm_iloadi hG dX12_die_134 rfl ?_
                  refine pm_ifN_eq (tgt := 146) hG dX12_die_136 rfl (by omega) (fun _ => ?_) (fun q => absurd q (by omega))
                  refine pm_iloadi hG dX12_die_146 rfl ?_
                  refine pm_ifN_ne (tgt := 161) hG dX12_die_148 rfl (by omega) (fun q => absurd q (by omega)) (fun _ => ?_)
                  refine pm_aloadn hG dX12_die_151 rfl ?_
                  refine pm_iloadn hG dX12_die_152 rfl ?_
                  refine pm_iconst (v := nI 2) hG dX12_die_153 (by decide) ?_
                  refine pm_callV (As := [.int (nI i100), .int (nI 2)]) (rest := []) hG hR dX12_die_154 (lkX12_110 _ rfl) okV_X12_its rfl rfl (m_its (d := 3) (e := 6 * i100 + 392) (by omega) (by omega) (by omega)) rfl rfl hdd (Nat.le_refl _) (Nat.le_refl _) (by decide) (pm_ki (fun v120 σ' cnt' hq => ?_))
                  obtain ⟨rfl, rfl, rfl⟩ := hq
                  rcases KI.opt hnn_100 (show kd (6 * i100 + 392) = (2, 20, false) from (kd_W (k := i100) (c := 2) (by omega) (by omega) (by decide))) with ek121 | ⟨k121, hk121, ek121⟩
                  · refine pm_top (v := (-1)) ek121 ?_
                    refine pm_iloadn hG dX12_die_157 rfl ?_
                    refine pm_top (v := nI k4) ek4 ?_
                    refine pm_icmp_ne (tgt := 166) hG dX12_die_158 rfl (fun _ => ?_) (fun q => absurd q ((fun q => nI_m1 (by omega) q.symm)))
                    refine pm_iincX (v := nI (i100 + 1)) (loc' := [some (.ref (B + 54)), some (.int za), some (.int x8), some (.int (nI (i100 + 1))), some (.int (nI 0))]) hG dX12_die_166 rfl (nI_1 _) (by decide) (pm_c1b rfl) rfl ?_
                    refine pm_goto (tgt := 107) hG dX12_die_169 rfl ?_
                    refine pm_fg 4 (loc' := [some (.ref (B + 54)), some (.int za), some (.int x8), some (.int (nI (i100 + 1))), none]) rfl ?_
                    exact ih100 I100 A100 n_100 (i100 + 1) hnn_100 hrn_100 (kc100_8.trans (congrArg nI (by omega))) (by omega) (by omega)
                  · refine pm_top (v := nI k121) ek121 ?_
                    refine pm_iloadn hG dX12_die_157 rfl ?_
                    refine pm_top (v := nI k4) ek4 ?_
                    refine pm_icmpN_ne (tgt := 166) hG dX12_die_158 rfl (by omega) (by omega) (fun c122 => ?_) (fun c122 => ?_)
                    · refine pm_iincX (v := nI (i100 + 1)) (loc' := [some (.ref (B + 54)), some (.int za), some (.int x8), some (.int (nI (i100 + 1))), some (.int (nI 0))]) hG dX12_die_166 rfl (nI_1 _) (by decide) (pm_c1b rfl) rfl ?_
                      refine pm_goto (tgt := 107) hG dX12_die_169 rfl ?_
                      refine pm_fg 4 (loc' := [some (.ref (B + 54)), some (.int za), some (.int x8), some (.int (nI (i100 + 1))), none]) rfl ?_
                      exact ih100 I100 A100 n_100 (i100 + 1) hnn_100 hrn_100 (kc100_8.trans (congrArg nI (by omega))) (by omega) (by omega)
                    · refine pm_aloadn hG dX12_die_161 rfl ?_
                      refine pm_iloadn hG dX12_die_162 rfl ?_
                      refine pm_callV (As := [.int (nI i100)]) (rest := []) hG hR dX12_die_163 (lkX12_116 _ rfl) okV_X12_comesBack rfl rfl (m_comesBack (d := 3) (e := 6 * i100 + 392) (e2 := 6 * i100 + 393) (by decide) (by omega) (by omega) (by omega)) rfl rfl hdd (Nat.le_refl _) (Nat.le_refl _) (by decide) (pm_kv (fun σ' cnt' hq => ?_))
                      obtain ⟨rfl, rfl⟩ := hq
                      obtain ⟨n_123, en_123⟩ : ∃ f : Nat → Int32, f = upd n_100 (6 * i100 + 392) (-1) := ⟨_, rfl⟩
                      rw [← en_123]
                      have hnn_123 := KI.w en_123 hnn_100 (okv_m (show kd (6 * i100 + 392) = (2, 20, false) from (kd_W (k := i100) (c := 2) (by omega) (by omega) (by decide))))
                      have hrn_123 := NRx.w en_123 hrn_100 (by rw [(show kd (6 * i100 + 392) = (2, 20, false) from (kd_W (k := i100) (c := 2) (by omega) (by omega) (by decide)))])
                      have e124 : n_123 8 = nI kc8 := by rw [en_123, pk_un (by omega)]; exact kc100_8
                      have e125 : n_123 3 = nI k101 := by rw [en_123, pk_un (by omega)]; exact ek101
                      have e126 : n_123 (6 * i100 + 391) = nI k104 := by rw [en_123, pk_un (by omega)]; exact ek104
                      have e127 : n_123 (6 * i100 + 392) = (-1) := by rw [en_123, pk_us]
                      obtain ⟨n_128, en_128⟩ : ∃ f : Nat → Int32, f = upd n_123 (6 * i100 + 393) (-1) := ⟨_, rfl⟩
                      rw [← en_128]
                      have hnn_128 := KI.w en_128 hnn_123 (okv_f (show kd (6 * i100 + 393) = (0, 0, false) from (kd_W (k := i100) (c := 3) (by omega) (by omega) (by decide))))
                      have hrn_128 := NRx.w en_128 hrn_123 (by rw [(show kd (6 * i100 + 393) = (0, 0, false) from (kd_W (k := i100) (c := 3) (by omega) (by omega) (by decide)))])
                      have e129 : n_128 8 = nI kc8 := by rw [en_128, pk_un (by omega)]; exact e124
                      have e130 : n_128 3 = nI k101 := by rw [en_128, pk_un (by omega)]; exact e125
                      have e131 : n_128 (6 * i100 + 391) = nI k104 := by rw [en_128, pk_un (by omega)]; exact e126
                      have e132 : n_128 (6 * i100 + 392) = (-1) := by rw [en_128, pk_un (by omega)]; exact e127
                      have e133 : n_128 (6 * i100 + 393) = (-1) := by rw [en_128, pk_us]
                      refine pm_iincX (v := nI (i100 + 1)) (loc' := [some (.ref (B + 54)), some (.int za), some (.int x8), some (.int (nI (i100 + 1))), some (.int (nI 0))]) hG dX12_die_166 rfl (nI_1 _) (by decide) (pm_c1b rfl) rfl ?_
                      refine pm_goto (tgt := 107) hG dX12_die_169 rfl ?_
                      refine pm_fg 4 (loc' := [some (.ref (B + 54)), some (.int za), some (.int x8), some (.int (nI (i100 + 1))), none]) rfl ?_
                      exact ih100 I100 A100 n_128 (i100 + 1) hnn_128 hrn_128 (e129.trans (congrArg nI (by omega))) (by omega) (by omega)
                · refine pm_iconst (v := nI 1) hG dX12_die_127 (by decide) ?_
                  refine pm_goto (tgt := 132) hG dX12_die_128 rfl ?_
                  refine pm_istoreXi (loc' := [some (.ref (B + 54)), some (.int za), some (.int x8), some (.int (nI i100)), some (.int (nI 1))]) hG dX12_die_132 (by decide) (pm_c1b rfl) rfl ?_
                  refine pm_iloadi hG dX12_die_134 rfl ?_
                  refine pm_ifN_eq (tgt := 146) hG dX12_die_136 rfl (by omega) (fun q => absurd q (by omega)) (fun _ => ?_)
                  refine pm_aloadn hG dX12_die_139 rfl ?_
                  refine pm_iloadn hG dX12_die_140 rfl ?_
                  refine pm_iconst (v := nI 1) hG dX12_die_141 (by decide) ?_
                  refine pm_iconst (v := (-1)) hG dX12_die_142 (by decide) ?_
                  refine pm_callV (As := [.int (nI i100), .int (nI 1), .int (-1)]) (rest := []) hG hR dX12_die_143 (lkX12_113 _ rfl) okV_X12_makes rfl rfl (m_makes (d := 3) (e := 6 * i100 + 391) (by omega) (by omega) (by omega)) rfl rfl hdd (Nat.le_refl _) (Nat.le_refl _) (by decide) (pm_kv (fun σ' cnt' hq => ?_))
                  obtain ⟨rfl, rfl⟩ := hq
                  obtain ⟨n_134, en_134⟩ : ∃ f : Nat → Int32, f = upd n_100 (6 * i100 + 391) (-1) := ⟨_, rfl⟩
                  rw [← en_134]
                  have hnn_134 := KI.w en_134 hnn_100 (okv_m (show kd (6 * i100 + 391) = (2, 20, false) from (kd_W (k := i100) (c := 1) (by omega) (by omega) (by decide))))
                  have hrn_134 := NRx.w en_134 hrn_100 (by rw [(show kd (6 * i100 + 391) = (2, 20, false) from (kd_W (k := i100) (c := 1) (by omega) (by omega) (by decide)))])
                  have e135 : n_134 8 = nI kc8 := by rw [en_134, pk_un (by omega)]; exact kc100_8
                  have e136 : n_134 3 = nI k101 := by rw [en_134, pk_un (by omega)]; exact ek101
                  have e137 : n_134 (6 * i100 + 391) = (-1) := by rw [en_134, pk_us]
                  refine pm_iloadi hG dX12_die_146 rfl ?_
                  refine pm_ifN_ne (tgt := 161) hG dX12_die_148 rfl (by omega) (fun _ => ?_) (fun q => absurd q (by omega))
                  refine pm_aloadn hG dX12_die_161 rfl ?_
                  refine pm_iloadn hG dX12_die_162 rfl ?_
                  refine pm_callV (As := [.int (nI i100)]) (rest := []) hG hR dX12_die_163 (lkX12_116 _ rfl) okV_X12_comesBack rfl rfl (m_comesBack (d := 3) (e := 6 * i100 + 392) (e2 := 6 * i100 + 393) (by decide) (by omega) (by omega) (by omega)) rfl rfl hdd (Nat.le_refl _) (Nat.le_refl _) (by decide) (pm_kv (fun σ' cnt' hq => ?_))
                  obtain ⟨rfl, rfl⟩ := hq
                  obtain ⟨n_138, en_138⟩ : ∃ f : Nat → Int32, f = upd n_134 (6 * i100 + 392) (-1) := ⟨_, rfl⟩
                  rw [← en_138]
                  have hnn_138 := KI.w en_138 hnn_134 (okv_m (show kd (6 * i100 + 392) = (2, 20, false) from (kd_W (k := i100) (c := 2) (by omega) (by omega) (by decide))))
                  have hrn_138 := NRx.w en_138 hrn_134 (by rw [(show kd (6 * i100 + 392) = (2, 20, false) from (kd_W (k := i100) (c := 2) (by omega) (by omega) (by decide)))])
                  have e139 : n_138 8 = nI kc8 := by rw [en_138, pk_un (by omega)]; exact e135
                  have e140 : n_138 3 = nI k101 := by rw [en_138, pk_un (by omega)]; exact e136
                  have e141 : n_138 (6 * i100 + 391) = (-1) := by rw [en_138, pk_un (by omega)]; exact e137
                  have e142 : n_138 (6 * i100 + 392) = (-1) := by rw [en_138, pk_us]
                  obtain ⟨n_143, en_143⟩ : ∃ f : Nat → Int32, f = upd n_138 (6 * i100 + 393) (-1) := ⟨_, rfl⟩
                  rw [← en_143]
                  have hnn_143 := KI.w en_143 hnn_138 (okv_f (show kd (6 * i100 + 393) = (0, 0, false) from (kd_W (k := i100) (c := 3) (by omega) (by omega) (by decide))))
                  have hrn_143 := NRx.w en_143 hrn_138 (by rw [(show kd (6 * i100 + 393) = (0, 0, false) from (kd_W (k := i100) (c := 3) (by omega) (by omega) (by decide)))])
                  have e144 : n_143 8 = nI kc8 := by rw [en_143, pk_un (by omega)]; exact e139
                  have e145 : n_143 3 = nI k101 := by rw [en_143, pk_un (by omega)]; exact e140
                  have e146 : n_143 (6 * i100 + 391) = (-1) := by rw [en_143, pk_un (by omega)]; exact e141
                  have e147 : n_143 (6 * i100 + 392) = (-1) := by rw [en_143, pk_un (by omega)]; exact e142
                  have e148 : n_143 (6 * i100 + 393) = (-1) := by rw [en_143, pk_us]
                  refine pm_iincX (v := nI (i100 + 1)) (loc' := [some (.ref (B + 54)), some (.int za), some (.int x8), some (.int (nI (i100 + 1))), some (.int (nI 1))]) hG dX12_die_166 rfl (nI_1 _) (by decide) (pm_c1b rfl) rfl ?_
                  refine pm_goto (tgt := 107) hG dX12_die_169 rfl ?_
                  refine pm_fg 4 (loc' := [some (.ref (B + 54)), some (.int za), some (.int x8), some (.int (nI (i100 + 1))), none]) rfl ?_
                  exact ih100 I100 A100 n_143 (i100 + 1) hnn_143 hrn_143 (e144.trans (congrArg nI (by omega))) (by omega) (by omega)
        exact loop107_100 _ I10 A10 n_98 0 hn98 hr98 (e99.trans (congrArg nI (by omega))) (by omega) (Nat.lt_succ_self _)
    · refine pm_callV (As := [.int (nI k4)]) (rest := []) hG hR dX12_die_16 (lkX12_101 _ rfl) okV_X12_lives rfl rfl (m_lives0 (d := 3) (by decide) (by omega) (by omega : 14 * k4 + 119 = 14 * k4 + 119) ek5 (by omega)) rfl rfl hdd (Nat.le_refl _) (Nat.le_refl _) (by decide) (pm_ki (fun v149 σ' cnt' hq => ?_))
      obtain ⟨rfl, rfl, rfl⟩ := hq
      refine pm_ifN_ne (tgt := 28) hG dX12_die_19 rfl (by omega) (fun q => absurd q (by omega)) (fun _ => ?_)
      refine pm_aloadn hG dX12_die_22 rfl ?_
      refine pm_iconst (v := nI 3) hG dX12_die_23 (by decide) ?_
      refine pm_callV (As := [.int (nI 3)]) (rest := []) hG hR dX12_die_24 (lkX12_80 _ rfl) okV_X12_finds rfl rfl (m_finds (d := 3) (by decide) hn hz (by omega)) rfl rfl hdd (Nat.le_refl _) (Nat.le_refl _) (by decide) (pm_ki (fun v150 σ' cnt' hq => ?_))
      obtain ⟨⟨I151, A151, rfl⟩, rfl, fv150⟩ := hq
      exact pm_iret hG hF dX12_die_27 rfl (Nat.le_refl _) (Nat.le_refl _) ⟨_, rfl, ⟨_, _, _, rfl, hn, hr, ekc8.trans ekc8.symm⟩, rfl⟩
  · refine pm_ifN_ne (tgt := 14) hG dX12_die_5 rfl (by omega) (fun q => absurd q (by omega)) (fun _ => ?_)
    refine pm_aloadn hG dX12_die_8 rfl ?_
    refine pm_iconst (v := nI 1) hG dX12_die_9 (by decide) ?_
    refine pm_callV (As := [.int (nI 1)]) (rest := []) hG hR dX12_die_10 (lkX12_80 _ rfl) okV_X12_finds rfl rfl (m_finds (d := 3) (by decide) hn hz (by omega)) rfl rfl hdd (Nat.le_refl _) (Nat.le_refl _) (by decide) (pm_ki (fun v152 σ' cnt' hq => ?_))
    obtain ⟨⟨I153, A153, rfl⟩, rfl, fv152⟩ := hq
    exact pm_iret hG hF dX12_die_13 rfl (Nat.le_refl _) (Nat.le_refl _) ⟨_, rfl, ⟨_, _, _, rfl, hn, hr, ekc8.trans ekc8.symm⟩, rfl⟩
