set_option maxRecDepth 100000 in
set_option maxHeartbeats 4000000 in
theorem m_rents {d B cnt p0 t0 : Nat} {σ : pm_S} {I : Nat → Int32} {A : Nat → Nat → Int32} {n k z : Nat → Int32} {ac wt pl im : Int32} {za zb : Int32} (hdd : 2 ≤ d) (hn : KI n) (hr : NR n) (hz : SZ z)  : pm_met mX12_rents d 0 0 B [.ref (B + 54), .int za, .int zb] cnt (pm_mid σ (md_L B I A n k z ac wt pl (nI p0) (nI t0) im)) (pm_Qi (fun v σ' cnt' => (∃ (I' : Nat → Int32) (A' : Nat → Nat → Int32) (n' : Nat → Int32), σ' = pm_mid σ (md_L B I' A' n' k z ac wt pl (nI p0) (nI t0) im) ∧ KI n' ∧ NR n' ∧ n' 0 = n 0 ∧ n' 2 = n 2 ∧ n' 7 = n 7 ∧ n' 8 = n 8 ∧ KS n' n) ∧ cnt = cnt')) := by
  obtain ⟨kc0, hkc0, ekc0⟩ := KI.nat hn (show kd 0 = (1, 11, true) by decide)
  obtain ⟨kc2, hkc2, ekc2⟩ := KI.nat hn (show kd 2 = (1, 21, true) by decide)
  obtain ⟨kc7, hkc7, ekc7⟩ := KI.nat hn (show kd 7 = (1, 31, false) by decide)
  obtain ⟨kc8, hkc8, ekc8⟩ := KI.nat hn (show kd 8 = (1, 2001, false) by decide)
  refine pm_enter 2 (by decide) (Nat.le_of_ble_eq_true rfl) rfl (fun G hG hR hF => ?_)
  refine pm_iloadn hG dX12_rents_0 rfl ?_
  refine pm_callS (As := [.int za]) (rest := []) hG hR dX12_rents_1 (lkX12_239 _ rfl) okS_X12_isSheet (m_isSheet (d := 1) (by decide)) rfl rfl hdd (Nat.le_refl _) (Nat.le_refl _) (by decide) (pm_ki (fun v1 σ' cnt' hq => ?_))
  obtain ⟨hq, rfl, rfl⟩ := hq
  rcases hq with ⟨rfl, ac2, bc2⟩ | ⟨rfl, c2⟩
  · obtain ⟨k3, hk3, ek3⟩ := in_nat (by omega) (by omega) ac2 bc2
    refine pm_ifN_eq (tgt := 25) hG dX12_rents_4 rfl (by omega) (fun q => absurd q (by omega)) (fun _ => ?_)
    refine pm_iloadn hG dX12_rents_7 rfl ?_
    refine pm_bipush (v := nI 8) hG dX12_rents_8 (by decide) ?_
    refine pm_icmp_eq (tgt := 31) hG dX12_rents_10 rfl (fun c4 => ?_) (fun c4 => ?_)
    · refine pm_aloadn hG dX12_rents_31 rfl ?_
      refine pm_getf hG dX12_rents_32 (flX12_55 _ rfl) rfl rfl ?_
      refine pm_iloadn hG dX12_rents_35 rfl ?_
      refine pm_top (v := nI k3) ek3 ?_
      refine pm_ialdN hG dX12_rents_36 rfl (by decide) (by omega) ?_
      refine pm_any (fun x5 => ?_)
      refine pm_if_ne (tgt := 46) hG dX12_rents_37 rfl (fun c6 => ?_) (fun c6 => ?_)
      · refine pm_aloadn hG dX12_rents_46 rfl ?_
        refine pm_getf hG dX12_rents_47 (flX12_55 _ rfl) rfl rfl ?_
        refine pm_iloadn hG dX12_rents_50 rfl ?_
        refine pm_top (v := nI k3) ek3 ?_
        refine pm_ialdN hG dX12_rents_51 rfl (by decide) (by omega) ?_
        refine pm_any (fun x7 => ?_)
        refine pm_iloadn hG dX12_rents_52 rfl ?_
        refine pm_top (v := nI 8) c4 ?_
        refine pm_icmp_eq (tgt := 62) hG dX12_rents_53 rfl (fun c8 => ?_) (fun c8 => ?_)
        · refine pm_aloadn hG dX12_rents_62 rfl ?_
          refine pm_getf hG dX12_rents_63 (flX12_58 _ rfl) rfl rfl ?_
          refine pm_iloadn hG dX12_rents_66 rfl ?_
          refine pm_top (v := nI k3) ek3 ?_
          refine pm_ialdN hG dX12_rents_67 rfl (by decide) (by omega) ?_
          obtain ⟨k9, hk9, ek9⟩ := hz k3 (by omega)
          refine pm_top (v := nI k9) ek9 ?_
          refine pm_aloadn hG dX12_rents_68 rfl ?_
          refine pm_getf hG dX12_rents_69 (flX12_7 _ rfl) rfl rfl ?_
          refine pm_iconst (v := nI 0) hG dX12_rents_72 (by decide) ?_
          refine pm_ialdN hG dX12_rents_73 rfl (by decide) (by omega) ?_
          refine pm_top (v := nI kc0) ekc0 ?_
          refine pm_icmpN_le (tgt := 83) hG dX12_rents_74 rfl (by omega) (by omega) (fun c10 => ?_) (fun c10 => ?_)
          · refine pm_iconst (v := nI 0) hG dX12_rents_83 (by decide) ?_
            refine pm_istoreXn (loc' := [some (.ref (B + 54)), some (.int za), some (.int zb), some (.int (nI 0)), none]) hG dX12_rents_84 (by decide) (pm_c1b rfl) rfl ?_
            have loop85_11 : ∀ (m11 : Nat) (I11 : Nat → Int32) (A11 : Nat → Nat → Int32) (n_11 : Nat → Int32) (i11 : Nat), KI n_11 → KS n_11 n → NRx 40 n_11 → n_11 0 = nI kc0 → n_11 2 = nI kc2 → n_11 7 = nI kc7 → n_11 8 = nI kc8 → i11 ≤ 24 → 24 - i11 < m11 → pm_wp mX12_rents G B 85 [some (.ref (B + 54)), some (.int za), some (.int zb), some (.int (nI i11)), none] [] 0 0 cnt (pm_mid σ (md_L B I11 A11 n_11 k z ac wt pl (nI p0) (nI t0) im)) := by
              intro m11
              induction m11 with
              | zero => intro I11 A11 n_11 i11 _ _ _ _ _ _ _ _ hm; exact absurd hm (Nat.not_lt_zero _)
              | succ m11 ih11 =>
                intro I11 A11 n_11 i11 hnn_11 ksn_11 hrn_11 kc11_0 kc11_2 kc11_7 kc11_8 hi11 hm11
                refine pm_iloadn hG dX12_rents_85 rfl ?_
                refine pm_aloadn hG dX12_rents_86 rfl ?_
                refine pm_getf hG dX12_rents_87 (flX12_58 _ rfl) rfl rfl ?_
                refine pm_iloadn hG dX12_rents_90 rfl ?_
                refine pm_top (v := nI k3) ek3 ?_
                refine pm_ialdN hG dX12_rents_91 rfl (by decide) (by omega) ?_
                refine pm_top (v := nI k9) ek9 ?_
                refine pm_icmpN_ge (tgt := 128) hG dX12_rents_92 rfl (by omega) (by omega) (fun c12 => ?_) (fun c12 => ?_)
                · refine pm_iconst (v := nI 0) hG dX12_rents_128 (by decide) ?_
                  refine pm_istoreXn (loc' := [some (.ref (B + 54)), some (.int za), some (.int zb), some (.int (nI 0)), none]) hG dX12_rents_129 (by decide) (pm_c1b rfl) rfl ?_
                  refine pm_iconst (v := nI 0) hG dX12_rents_130 (by decide) ?_
                  refine pm_istoreXi (loc' := [some (.ref (B + 54)), some (.int za), some (.int zb), some (.int (nI 0)), some (.int (nI 0))]) hG dX12_rents_131 (by decide) (pm_c1b rfl) rfl ?_
                  have loop133_13 : ∀ (m13 : Nat) (I13 : Nat → Int32) (A13 : Nat → Nat → Int32) (n_13 : Nat → Int32) (x13_3 : Int32) (i13 : Nat), KI n_13 → KS n_13 n → NRx 40 n_13 → n_13 0 = nI kc0 → n_13 2 = nI kc2 → n_13 7 = nI kc7 → n_13 8 = nI kc8 → i13 ≤ 24 → 24 - i13 < m13 → pm_wp mX12_rents G B 133 [some (.ref (B + 54)), some (.int za), some (.int zb), some (.int x13_3), some (.int (nI i13))] [] 0 0 cnt (pm_mid σ (md_L B I13 A13 n_13 k z ac wt pl (nI p0) (nI t0) im)) := by
                    intro m13
                    induction m13 with
                    | zero => intro I13 A13 n_13 x13_3 i13 _ _ _ _ _ _ _ _ hm; exact absurd hm (Nat.not_lt_zero _)
                    | succ m13 ih13 =>
                      intro I13 A13 n_13 x13_3 i13 hnn_13 ksn_13 hrn_13 kc13_0 kc13_2 kc13_7 kc13_8 hi13 hm13
                      refine pm_iloadi hG dX12_rents_133 rfl ?_
                      refine pm_aloadn hG dX12_rents_135 rfl ?_
                      refine pm_getf hG dX12_rents_136 (flX12_58 _ rfl) rfl rfl ?_
                      refine pm_iloadn hG dX12_rents_139 rfl ?_
                      refine pm_top (v := nI k3) ek3 ?_
                      refine pm_ialdN hG dX12_rents_140 rfl (by decide) (by omega) ?_
                      refine pm_top (v := nI k9) ek9 ?_
                      refine pm_icmpN_ge (tgt := 195) hG dX12_rents_141 rfl (by omega) (by omega) (fun c14 => ?_) (fun c14 => ?_)
                      · refine pm_iloadn hG dX12_rents_195 rfl ?_
                        exact pm_iret hG hF dX12_rents_196 rfl (Nat.le_refl _) (Nat.le_refl _) ⟨_, rfl, ⟨_, _, _, rfl, hnn_13, hrn_13, kc13_0.trans ekc0.symm, kc13_2.trans ekc2.symm, kc13_7.trans ekc7.symm, kc13_8.trans ekc8.symm, ksn_13⟩, rfl⟩
                      · refine pm_aloadn hG dX12_rents_144 rfl ?_
                        refine pm_getf hG dX12_rents_145 (flX12_61 _ rfl) rfl rfl ?_
                        refine pm_bipush (v := nI 24) hG dX12_rents_148 (by decide) ?_
                        refine pm_iloadn hG dX12_rents_150 rfl ?_
                        refine pm_top (v := nI k3) ek3 ?_
                        refine pm_imulN (c := 24 * k3) hG dX12_rents_151 (by omega) ?_
                        refine pm_iloadi hG dX12_rents_152 rfl ?_
                        refine pm_iaddN (c := i13 + 24 * k3) hG dX12_rents_154 (by omega) ?_
                        refine pm_ialdN hG dX12_rents_155 rfl (by decide) (by omega) ?_
                        refine pm_any (fun x15 => ?_)
                        refine pm_if_ge (tgt := 162) hG dX12_rents_156 rfl (fun c16 => ?_) (fun c16 => ?_)
                        · obtain ⟨k17, hk17, ek17⟩ := nI_of (Int32.not_lt.mpr c16)
                          refine pm_aloadn hG dX12_rents_162 rfl ?_
                          refine pm_getf hG dX12_rents_163 (flX12_7 _ rfl) rfl rfl ?_
                          refine pm_bipush (v := nI 20) hG dX12_rents_166 (by decide) ?_
                          refine pm_iconst (v := nI 3) hG dX12_rents_168 (by decide) ?_
                          refine pm_iloadi hG dX12_rents_169 rfl ?_
                          refine pm_imulN (c := 3 * i13) hG dX12_rents_171 (by omega) ?_
                          refine pm_iaddN (c := 3 * i13 + 20) hG dX12_rents_172 (by omega) ?_
                          refine pm_aloadn hG dX12_rents_173 rfl ?_
                          refine pm_getf hG dX12_rents_174 (flX12_61 _ rfl) rfl rfl ?_
                          refine pm_bipush (v := nI 24) hG dX12_rents_177 (by decide) ?_
                          refine pm_iloadn hG dX12_rents_179 rfl ?_
                          refine pm_top (v := nI k3) ek3 ?_
                          refine pm_imulN (c := 24 * k3) hG dX12_rents_180 (by omega) ?_
                          refine pm_iloadi hG dX12_rents_181 rfl ?_
                          refine pm_iaddN (c := i13 + 24 * k3) hG dX12_rents_183 (by omega) ?_
                          refine pm_ialdN hG dX12_rents_184 rfl (by decide) (by omega) ?_
                          refine pm_any (fun x18 => ?_)
                          refine pm_iastN hG dX12_rents_185 rfl (by decide) (by omega) ?_
                          refine mdn_now (fun n_19 en_19 => ?_)
                          have hnn_19 := KI.w en_19 hnn_13 (okv_f (show kd (3 * i13 + 20) = (0, 0, false) from (kd_T (k := i13) (c := 0) (by omega) (by omega) (by decide))))
                          have hrn_19 := NRx.w en_19 hrn_13 (by rw [(show kd (3 * i13 + 20) = (0, 0, false) from (kd_T (k := i13) (c := 0) (by omega) (by omega) (by decide)))])
                          have ksn_19 := KS.w en_19 ksn_13 (by unfold tS; omega)
                          have e20 : n_19 0 = nI kc0 := by rw [en_19, pk_un (by omega)]; exact kc13_0
                          have e21 : n_19 2 = nI kc2 := by rw [en_19, pk_un (by omega)]; exact kc13_2
                          have e22 : n_19 7 = nI kc7 := by rw [en_19, pk_un (by omega)]; exact kc13_7
                          have e23 : n_19 8 = nI kc8 := by rw [en_19, pk_un (by omega)]; exact kc13_8
                          have e24 : n_19 (3 * i13 + 20) = x18 := by rw [en_19, pk_us]
                          refine pm_iincX (v := x13_3 + 1) (loc' := [some (.ref (B + 54)), some (.int za), some (.int zb), some (.int (x13_3 + 1)), some (.int (nI i13))]) hG dX12_rents_186 rfl (by rfl) (by decide) (pm_c1b rfl) rfl ?_
                          refine pm_iincX (v := nI (i13 + 1)) (loc' := [some (.ref (B + 54)), some (.int za), some (.int zb), some (.int (x13_3 + 1)), some (.int (nI (i13 + 1)))]) hG dX12_rents_189 rfl (nI_1 _) (by decide) (pm_c1b rfl) rfl ?_
                          refine pm_goto (tgt := 133) hG dX12_rents_192 rfl ?_
                          exact ih13 I13 A13 n_19 (x13_3 + 1) (i13 + 1) hnn_19 ksn_19 hrn_19 (e20.trans (congrArg nI (by omega))) (e21.trans (congrArg nI (by omega))) (e22.trans (congrArg nI (by omega))) (e23.trans (congrArg nI (by omega))) (by omega) (by omega)
                        · refine pm_goto (tgt := 189) hG dX12_rents_159 rfl ?_
                          refine pm_iincX (v := nI (i13 + 1)) (loc' := [some (.ref (B + 54)), some (.int za), some (.int zb), some (.int x13_3), some (.int (nI (i13 + 1)))]) hG dX12_rents_189 rfl (nI_1 _) (by decide) (pm_c1b rfl) rfl ?_
                          refine pm_goto (tgt := 133) hG dX12_rents_192 rfl ?_
                          exact ih13 I13 A13 n_13 x13_3 (i13 + 1) hnn_13 ksn_13 hrn_13 (kc13_0.trans (congrArg nI (by omega))) (kc13_2.trans (congrArg nI (by omega))) (kc13_7.trans (congrArg nI (by omega))) (kc13_8.trans (congrArg nI (by omega))) (by omega) (by omega)
                  exact loop133_13 _ I11 A11 n_11 (nI 0) 0 hnn_11 ksn_11 hrn_11 (kc11_0.trans (congrArg nI (by omega))) (kc11_2.trans (congrArg nI (by omega))) (kc11_7.trans (congrArg nI (by omega))) (kc11_8.trans (congrArg nI (by omega))) (by omega) (Nat.lt_succ_self _)
                · refine pm_aloadn hG dX12_rents_95 rfl ?_
                  refine pm_getf hG dX12_rents_96 (flX12_61 _ rfl) rfl rfl ?_
                  refine pm_bipush (v := nI 24) hG dX12_rents_99 (by decide) ?_
                  refine pm_iloadn hG dX12_rents_101 rfl ?_
                  refine pm_top (v := nI k3) ek3 ?_
                  refine pm_imulN (c := 24 * k3) hG dX12_rents_102 (by omega) ?_
                  refine pm_iloadn hG dX12_rents_103 rfl ?_
                  refine pm_iaddN (c := i11 + 24 * k3) hG dX12_rents_104 (by omega) ?_
                  refine pm_ialdN hG dX12_rents_105 rfl (by decide) (by omega) ?_
                  refine pm_any (fun x25 => ?_)
                  refine pm_iconst (v := (-1)) hG dX12_rents_106 (by decide) ?_
                  refine pm_sipush (v := nI 999) hG dX12_rents_107 (by decide) ?_
                  refine pm_callS (As := [.int x25, .int (-1), .int (nI 999)]) (rest := []) hG hR dX12_rents_110 (lkX12_68 _ rfl) okS_X12_in (m_in (d := 1)) rfl rfl hdd (Nat.le_refl _) (Nat.le_refl _) (by decide) (pm_ki (fun v26 σ' cnt' hq => ?_))
                  obtain ⟨hq, rfl, rfl⟩ := hq
                  rcases hq with ⟨rfl, ac27, bc27⟩ | ⟨rfl, c27⟩
                  · refine pm_ifN_ne (tgt := 122) hG dX12_rents_113 rfl (by omega) (fun _ => ?_) (fun q => absurd q (by omega))
                    refine pm_iincX (v := nI (i11 + 1)) (loc' := [some (.ref (B + 54)), some (.int za), some (.int zb), some (.int (nI (i11 + 1))), none]) hG dX12_rents_122 rfl (nI_1 _) (by decide) (pm_c1b rfl) rfl ?_
                    refine pm_goto (tgt := 85) hG dX12_rents_125 rfl ?_
                    exact ih11 I11 A11 n_11 (i11 + 1) hnn_11 ksn_11 hrn_11 (kc11_0.trans (congrArg nI (by omega))) (kc11_2.trans (congrArg nI (by omega))) (kc11_7.trans (congrArg nI (by omega))) (kc11_8.trans (congrArg nI (by omega))) (by omega) (by omega)
                  · refine pm_ifN_ne (tgt := 122) hG dX12_rents_113 rfl (by omega) (fun q => absurd q (by omega)) (fun _ => ?_)
                    refine pm_aloadn hG dX12_rents_116 rfl ?_
                    refine pm_iconst (v := nI 1) hG dX12_rents_117 (by decide) ?_
                    refine pm_callV (As := [.int (nI 1)]) (rest := []) hG hR dX12_rents_118 (lkX12_80 _ rfl) okV_X12_finds rfl rfl (m_finds (d := 1) (by decide) hnn_11 hz (by omega)) rfl rfl hdd (Nat.le_refl _) (Nat.le_refl _) (by decide) (pm_ki (fun v28 σ' cnt' hq => ?_))
                    obtain ⟨⟨I29, A29, rfl⟩, rfl, fv28⟩ := hq
                    exact pm_iret hG hF dX12_rents_121 rfl (Nat.le_refl _) (Nat.le_refl _) ⟨_, rfl, ⟨_, _, _, rfl, hnn_11, hrn_11, kc11_0.trans ekc0.symm, kc11_2.trans ekc2.symm, kc11_7.trans ekc7.symm, kc11_8.trans ekc8.symm, ksn_11⟩, rfl⟩
            exact loop85_11 _ I A n 0 hn KS.rf hr (ekc0.trans (congrArg nI (by omega))) (ekc2.trans (congrArg nI (by omega))) (ekc7.trans (congrArg nI (by omega))) (ekc8.trans (congrArg nI (by omega))) (by omega) (Nat.lt_succ_self _)
          · refine pm_aloadn hG dX12_rents_77 rfl ?_
            refine pm_iconst (v := nI 3) hG dX12_rents_78 (by decide) ?_
            refine pm_callV (As := [.int (nI 3)]) (rest := []) hG hR dX12_rents_79 (lkX12_80 _ rfl) okV_X12_finds rfl rfl (m_finds (d := 1) (by decide) hn hz (by omega)) rfl rfl hdd (Nat.le_refl _) (Nat.le_refl _) (by decide) (pm_ki (fun v30 σ' cnt' hq => ?_))
            obtain ⟨⟨I31, A31, rfl⟩, rfl, fv30⟩ := hq
            exact pm_iret hG hF dX12_rents_82 rfl (Nat.le_refl _) (Nat.le_refl _) ⟨_, rfl, ⟨_, _, _, rfl, hn, hr, ekc0.trans ekc0.symm, ekc2.trans ekc2.symm, ekc7.trans ekc7.symm, ekc8.trans ekc8.symm, KS.rf⟩, rfl⟩
        · refine pm_aloadn hG dX12_rents_56 rfl ?_
          refine pm_iconst (v := nI 5) hG dX12_rents_57 (by decide) ?_
          refine pm_callV (As := [.int (nI 5)]) (rest := []) hG hR dX12_rents_58 (lkX12_80 _ rfl) okV_X12_finds rfl rfl (m_finds (d := 1) (by decide) hn hz (by omega)) rfl rfl hdd (Nat.le_refl _) (Nat.le_refl _) (by decide) (pm_ki (fun v32 σ' cnt' hq => ?_))
          obtain ⟨⟨I33, A33, rfl⟩, rfl, fv32⟩ := hq
          exact pm_iret hG hF dX12_rents_61 rfl (Nat.le_refl _) (Nat.le_refl _) ⟨_, rfl, ⟨_, _, _, rfl, hn, hr, ekc0.trans ekc0.symm, ekc2.trans ekc2.symm, ekc7.trans ekc7.symm, ekc8.trans ekc8.symm, KS.rf⟩, rfl⟩
      · refine pm_aloadn hG dX12_rents_40 rfl ?_
        refine pm_iconst (v := nI 2) hG dX12_rents_41 (by decide) ?_
        refine pm_callV (As := [.int (nI 2)]) (rest := []) hG hR dX12_rents_42 (lkX12_80 _ rfl) okV_X12_finds rfl rfl (m_finds (d := 1) (by decide) hn hz (by omega)) rfl rfl hdd (Nat.le_refl _) (Nat.le_refl _) (by decide) (pm_ki (fun v34 σ' cnt' hq => ?_))
        obtain ⟨⟨I35, A35, rfl⟩, rfl, fv34⟩ := hq
        exact pm_iret hG hF dX12_rents_45 rfl (Nat.le_refl _) (Nat.le_refl _) ⟨_, rfl, ⟨_, _, _, rfl, hn, hr, ekc0.trans ekc0.symm, ekc2.trans ekc2.symm, ekc7.trans ekc7.symm, ekc8.trans ekc8.symm, KS.rf⟩, rfl⟩
    · refine pm_iloadn hG dX12_rents_13 rfl ?_
      refine pm_bipush (v := nI 16) hG dX12_rents_14 (by decide) ?_
      refine pm_icmp_eq (tgt := 31) hG dX12_rents_16 rfl (fun c36 => ?_) (fun c36 => ?_)
      · refine pm_aloadn hG dX12_rents_31 rfl ?_
        refine pm_getf hG dX12_rents_32 (flX12_55 _ rfl) rfl rfl ?_
        refine pm_iloadn hG dX12_rents_35 rfl ?_
        refine pm_top (v := nI k3) ek3 ?_
        refine pm_ialdN hG dX12_rents_36 rfl (by decide) (by omega) ?_
        refine pm_any (fun x37 => ?_)
        refine pm_if_ne (tgt := 46) hG dX12_rents_37 rfl (fun c38 => ?_) (fun c38 => ?_)
        · refine pm_aloadn hG dX12_rents_46 rfl ?_
          refine pm_getf hG dX12_rents_47 (flX12_55 _ rfl) rfl rfl ?_
          refine pm_iloadn hG dX12_rents_50 rfl ?_
          refine pm_top (v := nI k3) ek3 ?_
          refine pm_ialdN hG dX12_rents_51 rfl (by decide) (by omega) ?_
          refine pm_any (fun x39 => ?_)
          refine pm_iloadn hG dX12_rents_52 rfl ?_
          refine pm_top (v := nI 16) c36 ?_
          refine pm_icmp_eq (tgt := 62) hG dX12_rents_53 rfl (fun c40 => ?_) (fun c40 => ?_)
          · refine pm_aloadn hG dX12_rents_62 rfl ?_
            refine pm_getf hG dX12_rents_63 (flX12_58 _ rfl) rfl rfl ?_
            refine pm_iloadn hG dX12_rents_66 rfl ?_
            refine pm_top (v := nI k3) ek3 ?_
            refine pm_ialdN hG dX12_rents_67 rfl (by decide) (by omega) ?_
            obtain ⟨k41, hk41, ek41⟩ := hz k3 (by omega)
            refine pm_top (v := nI k41) ek41 ?_
            refine pm_aloadn hG dX12_rents_68 rfl ?_
            refine pm_getf hG dX12_rents_69 (flX12_7 _ rfl) rfl rfl ?_
            refine pm_iconst (v := nI 0) hG dX12_rents_72 (by decide) ?_
            refine pm_ialdN hG dX12_rents_73 rfl (by decide) (by omega) ?_
            refine pm_top (v := nI kc0) ekc0 ?_
            refine pm_icmpN_le (tgt := 83) hG dX12_rents_74 rfl (by omega) (by omega) (fun c42 => ?_) (fun c42 => ?_)
            · refine pm_iconst (v := nI 0) hG dX12_rents_83 (by decide) ?_
              refine pm_istoreXn (loc' := [some (.ref (B + 54)), some (.int za), some (.int zb), some (.int (nI 0)), none]) hG dX12_rents_84 (by decide) (pm_c1b rfl) rfl ?_
              have loop85_43 : ∀ (m43 : Nat) (I43 : Nat → Int32) (A43 : Nat → Nat → Int32) (n_43 : Nat → Int32) (i43 : Nat), KI n_43 → KS n_43 n → NRx 40 n_43 → n_43 0 = nI kc0 → n_43 2 = nI kc2 → n_43 7 = nI kc7 → n_43 8 = nI kc8 → i43 ≤ 24 → 24 - i43 < m43 → pm_wp mX12_rents G B 85 [some (.ref (B + 54)), some (.int za), some (.int zb), some (.int (nI i43)), none] [] 0 0 cnt (pm_mid σ (md_L B I43 A43 n_43 k z ac wt pl (nI p0) (nI t0) im)) := by
                intro m43
                induction m43 with
                | zero => intro I43 A43 n_43 i43 _ _ _ _ _ _ _ _ hm; exact absurd hm (Nat.not_lt_zero _)
                | succ m43 ih43 =>
                  intro I43 A43 n_43 i43 hnn_43 ksn_43 hrn_43 kc43_0 kc43_2 kc43_7 kc43_8 hi43 hm43
                  refine pm_iloadn hG dX12_rents_85 rfl ?_
                  refine pm_aloadn hG dX12_rents_86 rfl ?_
                  refine pm_getf hG dX12_rents_87 (flX12_58 _ rfl) rfl rfl ?_
                  refine pm_iloadn hG dX12_rents_90 rfl ?_
                  refine pm_top (v := nI k3) ek3 ?_
                  refine pm_ialdN hG dX12_rents_91 rfl (by decide) (by omega) ?_
                  refine pm_top (v := nI k41) ek41 ?_
                  refine pm_icmpN_ge (tgt := 128) hG dX12_rents_92 rfl (by omega) (by omega) (fun c44 => ?_) (fun c44 => ?_)
                  · refine pm_iconst (v := nI 0) hG dX12_rents_128 (by decide) ?_
                    refine pm_istoreXn (loc' := [some (.ref (B + 54)), some (.int za), some (.int zb), some (.int (nI 0)), none]) hG dX12_rents_129 (by decide) (pm_c1b rfl) rfl ?_
                    refine pm_iconst (v := nI 0) hG dX12_rents_130 (by decide) ?_
                    refine pm_istoreXi (loc' := [some (.ref (B + 54)), some (.int za), some (.int zb), some (.int (nI 0)), some (.int (nI 0))]) hG dX12_rents_131 (by decide) (pm_c1b rfl) rfl ?_
                    have loop133_45 : ∀ (m45 : Nat) (I45 : Nat → Int32) (A45 : Nat → Nat → Int32) (n_45 : Nat → Int32) (x45_3 : Int32) (i45 : Nat), KI n_45 → KS n_45 n → NRx 40 n_45 → n_45 0 = nI kc0 → n_45 2 = nI kc2 → n_45 7 = nI kc7 → n_45 8 = nI kc8 → i45 ≤ 24 → 24 - i45 < m45 → pm_wp mX12_rents G B 133 [some (.ref (B + 54)), some (.int za), some (.int zb), some (.int x45_3), some (.int (nI i45))] [] 0 0 cnt (pm_mid σ (md_L B I45 A45 n_45 k z ac wt pl (nI p0) (nI t0) im)) := by
                      intro m45
                      induction m45 with
                      | zero => intro I45 A45 n_45 x45_3 i45 _ _ _ _ _ _ _ _ hm; exact absurd hm (Nat.not_lt_zero _)
                      | succ m45 ih45 =>
                        intro I45 A45 n_45 x45_3 i45 hnn_45 ksn_45 hrn_45 kc45_0 kc45_2 kc45_7 kc45_8 hi45 hm45
                        refine pm_iloadi hG dX12_rents_133 rfl ?_
                        refine pm_aloadn hG dX12_rents_135 rfl ?_
                        refine pm_getf hG dX12_rents_136 (flX12_58 _ rfl) rfl rfl ?_
                        refine pm_iloadn hG dX12_rents_139 rfl ?_
                        refine pm_top (v := nI k3) ek3 ?_
                        refine pm_ialdN hG dX12_rents_140 rfl (by decide) (by omega) ?_
                        refine pm_top (v := nI k41) ek41 ?_
                        refine pm_icmpN_ge (tgt := 195) hG dX12_rents_141 rfl (by omega) (by omega) (fun c46 => ?_) (fun c46 => ?_)
                        · refine pm_iloadn hG dX12_rents_195 rfl ?_
                          exact pm_iret hG hF dX12_rents_196 rfl (Nat.le_refl _) (Nat.le_refl _) ⟨_, rfl, ⟨_, _, _, rfl, hnn_45, hrn_45, kc45_0.trans ekc0.symm, kc45_2.trans ekc2.symm, kc45_7.trans ekc7.symm, kc45_8.trans ekc8.symm, ksn_45⟩, rfl⟩
                        · refine pm_aloadn hG dX12_rents_144 rfl ?_
                          refine pm_getf hG dX12_rents_145 (flX12_61 _ rfl) rfl rfl ?_
                          refine pm_bipush (v := nI 24) hG dX12_rents_148 (by decide) ?_
                          refine pm_iloadn hG dX12_rents_150 rfl ?_
                          refine pm_top (v := nI k3) ek3 ?_
                          refine pm_imulN (c := 24 * k3) hG dX12_rents_151 (by omega) ?_
                          refine pm_iloadi hG dX12_rents_152 rfl ?_
                          refine pm_iaddN (c := i45 + 24 * k3) hG dX12_rents_154 (by omega) ?_
                          refine pm_ialdN hG dX12_rents_155 rfl (by decide) (by omega) ?_
                          refine pm_any (fun x47 => ?_)
                          refine pm_if_ge (tgt := 162) hG dX12_rents_156 rfl (fun c48 => ?_) (fun c48 => ?_)
                          · obtain ⟨k49, hk49, ek49⟩ := nI_of (Int32.not_lt.mpr c48)
                            refine pm_aloadn hG dX12_rents_162 rfl ?_
                            refine pm_getf hG dX12_rents_163 (flX12_7 _ rfl) rfl rfl ?_
                            refine pm_bipush (v := nI 20) hG dX12_rents_166 (by decide) ?_
                            refine pm_iconst (v := nI 3) hG dX12_rents_168 (by decide) ?_
                            refine pm_iloadi hG dX12_rents_169 rfl ?_
                            refine pm_imulN (c := 3 * i45) hG dX12_rents_171 (by omega) ?_
                            refine pm_iaddN (c := 3 * i45 + 20) hG dX12_rents_172 (by omega) ?_
                            refine pm_aloadn hG dX12_rents_173 rfl ?_
                            refine pm_getf hG dX12_rents_174 (flX12_61 _ rfl) rfl rfl ?_
                            refine pm_bipush (v := nI 24) hG dX12_rents_177 (by decide) ?_
                            refine pm_iloadn hG dX12_rents_179 rfl ?_
                            refine pm_top (v := nI k3) ek3 ?_
                            refine pm_imulN (c := 24 * k3) hG dX12_rents_180 (by omega) ?_
                            refine pm_iloadi hG dX12_rents_181 rfl ?_
                            refine pm_iaddN (c := i45 + 24 * k3) hG dX12_rents_183 (by omega) ?_
                            refine pm_ialdN hG dX12_rents_184 rfl (by decide) (by omega) ?_
                            refine pm_any (fun x50 => ?_)
                            refine pm_iastN hG dX12_rents_185 rfl (by decide) (by omega) ?_
                            refine mdn_now (fun n_51 en_51 => ?_)
                            have hnn_51 := KI.w en_51 hnn_45 (okv_f (show kd (3 * i45 + 20) = (0, 0, false) from (kd_T (k := i45) (c := 0) (by omega) (by omega) (by decide))))
                            have hrn_51 := NRx.w en_51 hrn_45 (by rw [(show kd (3 * i45 + 20) = (0, 0, false) from (kd_T (k := i45) (c := 0) (by omega) (by omega) (by decide)))])
                            have ksn_51 := KS.w en_51 ksn_45 (by unfold tS; omega)
                            have e52 : n_51 0 = nI kc0 := by rw [en_51, pk_un (by omega)]; exact kc45_0
                            have e53 : n_51 2 = nI kc2 := by rw [en_51, pk_un (by omega)]; exact kc45_2
                            have e54 : n_51 7 = nI kc7 := by rw [en_51, pk_un (by omega)]; exact kc45_7
                            have e55 : n_51 8 = nI kc8 := by rw [en_51, pk_un (by omega)]; exact kc45_8
                            have e56 : n_51 (3 * i45 + 20) = x50 := by rw [en_51, pk_us]
                            refine pm_iincX (v := x45_3 + 1) (loc' := [some (.ref (B + 54)), some (.int za), some (.int zb), some (.int (x45_3 + 1)), some (.int (nI i45))]) hG dX12_rents_186 rfl (by rfl) (by decide) (pm_c1b rfl) rfl ?_
                            refine pm_iincX (v := nI (i45 + 1)) (loc' := [some (.ref (B + 54)), some (.int za), some (.int zb), some (.int (x45_3 + 1)), some (.int (nI (i45 + 1)))]) hG dX12_rents_189 rfl (nI_1 _) (by decide) (pm_c1b rfl) rfl ?_
                            refine pm_goto (tgt := 133) hG dX12_rents_192 rfl ?_
                            exact ih45 I45 A45 n_51 (x45_3 + 1) (i45 + 1) hnn_51 ksn_51 hrn_51 (e52.trans (congrArg nI (by omega))) (e53.trans (congrArg nI (by omega))) (e54.trans (congrArg nI (by omega))) (e55.trans (congrArg nI (by omega))) (by omega) (by omega)
                          · refine pm_goto (tgt := 189) hG dX12_rents_159 rfl ?_
                            refine pm_iincX (v := nI (i45 + 1)) (loc' := [some (.ref (B + 54)), some (.int za), some (.int zb), some (.int x45_3), some (.int (nI (i45 + 1)))]) hG dX12_rents_189 rfl (nI_1 _) (by decide) (pm_c1b rfl) rfl ?_
                            refine pm_goto (tgt := 133) hG dX12_rents_192 rfl ?_
                            exact ih45 I45 A45 n_45 x45_3 (i45 + 1) hnn_45 ksn_45 hrn_45 (kc45_0.trans (congrArg nI (by omega))) (kc45_2.trans (congrArg nI (by omega))) (kc45_7.trans (congrArg nI (by omega))) (kc45_8.trans (congrArg nI (by omega))) (by omega) (by omega)
                    exact loop133_45 _ I43 A43 n_43 (nI 0) 0 hnn_43 ksn_43 hrn_43 (kc43_0.trans (congrArg nI (by omega))) (kc43_2.trans (congrArg nI (by omega))) (kc43_7.trans (congrArg nI (by omega))) (kc43_8.trans (congrArg nI (by omega))) (by omega) (Nat.lt_succ_self _)
                  · refine pm_aloadn hG dX12_rents_95 rfl ?_
                    refine pm_getf hG dX12_rents_96 (flX12_61 _ rfl) rfl rfl ?_
                    refine pm_bipush (v := nI 24) hG dX12_rents_99 (by decide) ?_
                    refine pm_iloadn hG dX12_rents_101 rfl ?_
                    refine pm_top (v := nI k3) ek3 ?_
                    refine pm_imulN (c := 24 * k3) hG dX12_rents_102 (by omega) ?_
                    refine pm_iloadn hG dX12_rents_103 rfl ?_
                    refine pm_iaddN (c := i43 + 24 * k3) hG dX12_rents_104 (by omega) ?_
                    refine pm_ialdN hG dX12_rents_105 rfl (by decide) (by omega) ?_
                    refine pm_any (fun x57 => ?_)
                    refine pm_iconst (v := (-1)) hG dX12_rents_106 (by decide) ?_
                    refine pm_sipush (v := nI 999) hG dX12_rents_107 (by decide) ?_
                    refine pm_callS (As := [.int x57, .int (-1), .int (nI 999)]) (rest := []) hG hR dX12_rents_110 (lkX12_68 _ rfl) okS_X12_in (m_in (d := 1)) rfl rfl hdd (Nat.le_refl _) (Nat.le_refl _) (by decide) (pm_ki (fun v58 σ' cnt' hq => ?_))
                    obtain ⟨hq, rfl, rfl⟩ := hq
                    rcases hq with ⟨rfl, ac59, bc59⟩ | ⟨rfl, c59⟩
                    · refine pm_ifN_ne (tgt := 122) hG dX12_rents_113 rfl (by omega) (fun _ => ?_) (fun q => absurd q (by omega))
                      refine pm_iincX (v := nI (i43 + 1)) (loc' := [some (.ref (B + 54)), some (.int za), some (.int zb), some (.int (nI (i43 + 1))), none]) hG dX12_rents_122 rfl (nI_1 _) (by decide) (pm_c1b rfl) rfl ?_
                      refine pm_goto (tgt := 85) hG dX12_rents_125 rfl ?_
                      exact ih43 I43 A43 n_43 (i43 + 1) hnn_43 ksn_43 hrn_43 (kc43_0.trans (congrArg nI (by omega))) (kc43_2.trans (congrArg nI (by omega))) (kc43_7.trans (congrArg nI (by omega))) (kc43_8.trans (congrArg nI (by omega))) (by omega) (by omega)
                    · refine pm_ifN_ne (tgt := 122) hG dX12_rents_113 rfl (by omega) (fun q => absurd q (by omega)) (fun _ => ?_)
                      refine pm_aloadn hG dX12_rents_116 rfl ?_
                      refine pm_iconst (v := nI 1) hG dX12_rents_117 (by decide) ?_
                      refine pm_callV (As := [.int (nI 1)]) (rest := []) hG hR dX12_rents_118 (lkX12_80 _ rfl) okV_X12_finds rfl rfl (m_finds (d := 1) (by decide) hnn_43 hz (by omega)) rfl rfl hdd (Nat.le_refl _) (Nat.le_refl _) (by decide) (pm_ki (fun v60 σ' cnt' hq => ?_))
                      obtain ⟨⟨I61, A61, rfl⟩, rfl, fv60⟩ := hq
                      exact pm_iret hG hF dX12_rents_121 rfl (Nat.le_refl _) (Nat.le_refl _) ⟨_, rfl, ⟨_, _, _, rfl, hnn_43, hrn_43, kc43_0.trans ekc0.symm, kc43_2.trans ekc2.symm, kc43_7.trans ekc7.symm, kc43_8.trans ekc8.symm, ksn_43⟩, rfl⟩
              exact loop85_43 _ I A n 0 hn KS.rf hr (ekc0.trans (congrArg nI (by omega))) (ekc2.trans (congrArg nI (by omega))) (ekc7.trans (congrArg nI (by omega))) (ekc8.trans (congrArg nI (by omega))) (by omega) (Nat.lt_succ_self _)
            · refine pm_aloadn hG dX12_rents_77 rfl ?_
              refine pm_iconst (v := nI 3) hG dX12_rents_78 (by decide) ?_
              refine pm_callV (As := [.int (nI 3)]) (rest := []) hG hR dX12_rents_79 (lkX12_80 _ rfl) okV_X12_finds rfl rfl (m_finds (d := 1) (by decide) hn hz (by omega)) rfl rfl hdd (Nat.le_refl _) (Nat.le_refl _) (by decide) (pm_ki (fun v62 σ' cnt' hq => ?_))
              obtain ⟨⟨I63, A63, rfl⟩, rfl, fv62⟩ := hq
              exact pm_iret hG hF dX12_rents_82 rfl (Nat.le_refl _) (Nat.le_refl _) ⟨_, rfl, ⟨_, _, _, rfl, hn, hr, ekc0.trans ekc0.symm, ekc2.trans ekc2.symm, ekc7.trans ekc7.symm, ekc8.trans ekc8.symm, KS.rf⟩, rfl⟩
          · refine pm_aloadn hG dX12_rents_56 rfl ?_
            refine pm_iconst (v := nI 5) hG dX12_rents_57 (by decide) ?_
            refine pm_callV (As := [.int (nI 5)]) (rest := []) hG hR dX12_rents_58 (lkX12_80 _ rfl) okV_X12_finds rfl rfl (m_finds (d := 1) (by decide) hn hz (by omega)) rfl rfl hdd (Nat.le_refl _) (Nat.le_refl _) (by decide) (pm_ki (fun v64 σ' cnt' hq => ?_))
            obtain ⟨⟨I65, A65, rfl⟩, rfl, fv64⟩ := hq
            exact pm_iret hG hF dX12_rents_61 rfl (Nat.le_refl _) (Nat.le_refl _) ⟨_, rfl, ⟨_, _, _, rfl, hn, hr, ekc0.trans ekc0.symm, ekc2.trans ekc2.symm, ekc7.trans ekc7.symm, ekc8.trans ekc8.symm, KS.rf⟩, rfl⟩
        · refine pm_aloadn hG dX12_rents_40 rfl ?_
          refine pm_iconst (v := nI 2) hG dX12_rents_41 (by decide) ?_
          refine pm_callV (As := [.int (nI 2)]) (rest := []) hG hR dX12_rents_42 (lkX12_80 _ rfl) okV_X12_finds rfl rfl (m_finds (d := 1) (by decide) hn hz (by omega)) rfl rfl hdd (Nat.le_refl _) (Nat.le_refl _) (by decide) (pm_ki (fun v66 σ' cnt' hq => ?_))
          obtain ⟨⟨I67, A67, rfl⟩, rfl, fv66⟩ := hq
          exact pm_iret hG hF dX12_rents_45 rfl (Nat.le_refl _) (Nat.le_refl _) ⟨_, rfl, ⟨_, _, _, rfl, hn, hr, ekc0.trans ekc0.symm, ekc2.trans ekc2.symm, ekc7.trans ekc7.symm, ekc8.trans ekc8.symm, KS.rf⟩, rfl⟩
      · refine pm_iloadn hG dX12_rents_19 rfl ?_
        refine pm_bipush (v := nI 32) hG dX12_rents_20 (by decide) ?_
        refine pm_icmp_eq (tgt := 31) hG dX12_rents_22 rfl (fun c68 => ?_) (fun c68 => ?_)
        · refine pm_aloadn hG dX12_rents_31 rfl ?_
          refine pm_getf hG dX12_rents_32 (flX12_55 _ rfl) rfl rfl ?_
          refine pm_iloadn hG dX12_rents_35 rfl ?_
          refine pm_top (v := nI k3) ek3 ?_
          refine pm_ialdN hG dX12_rents_36 rfl (by decide) (by omega) ?_
          refine pm_any (fun x69 => ?_)
          refine pm_if_ne (tgt := 46) hG dX12_rents_37 rfl (fun c70 => ?_) (fun c70 => ?_)
          · refine pm_aloadn hG dX12_rents_46 rfl ?_
            refine pm_getf hG dX12_rents_47 (flX12_55 _ rfl) rfl rfl ?_
            refine pm_iloadn hG dX12_rents_50 rfl ?_
            refine pm_top (v := nI k3) ek3 ?_
            refine pm_ialdN hG dX12_rents_51 rfl (by decide) (by omega) ?_
            refine pm_any (fun x71 => ?_)
            refine pm_iloadn hG dX12_rents_52 rfl ?_
            refine pm_top (v := nI 32) c68 ?_
            refine pm_icmp_eq (tgt := 62) hG dX12_rents_53 rfl (fun c72 => ?_) (fun c72 => ?_)
            · refine pm_aloadn hG dX12_rents_62 rfl ?_
              refine pm_getf hG dX12_rents_63 (flX12_58 _ rfl) rfl rfl ?_
              refine pm_iloadn hG dX12_rents_66 rfl ?_
              refine pm_top (v := nI k3) ek3 ?_
              refine pm_ialdN hG dX12_rents_67 rfl (by decide) (by omega) ?_
              obtain ⟨k73, hk73, ek73⟩ := hz k3 (by omega)
              refine pm_top (v := nI k73) ek73 ?_
              refine pm_aloadn hG dX12_rents_68 rfl ?_
              refine pm_getf hG dX12_rents_69 (flX12_7 _ rfl) rfl rfl ?_
              refine pm_iconst (v := nI 0) hG dX12_rents_72 (by decide) ?_
              refine pm_ialdN hG dX12_rents_73 rfl (by decide) (by omega) ?_
              refine pm_top (v := nI kc0) ekc0 ?_
              refine pm_icmpN_le (tgt := 83) hG dX12_rents_74 rfl (by omega) (by omega) (fun c74 => ?_) (fun c74 => ?_)
              · refine pm_iconst (v := nI 0) hG dX12_rents_83 (by decide) ?_
                refine pm_istoreXn (loc' := [some (.ref (B + 54)), some (.int za), some (.int zb), some (.int (nI 0)), none]) hG dX12_rents_84 (by decide) (pm_c1b rfl) rfl ?_
                have loop85_75 : ∀ (m75 : Nat) (I75 : Nat → Int32) (A75 : Nat → Nat → Int32) (n_75 : Nat → Int32) (i75 : Nat), KI n_75 → KS n_75 n → NRx 40 n_75 → n_75 0 = nI kc0 → n_75 2 = nI kc2 → n_75 7 = nI kc7 → n_75 8 = nI kc8 → i75 ≤ 24 → 24 - i75 < m75 → pm_wp mX12_rents G B 85 [some (.ref (B + 54)), some (.int za), some (.int zb), some (.int (nI i75)), none] [] 0 0 cnt (pm_mid σ (md_L B I75 A75 n_75 k z ac wt pl (nI p0) (nI t0) im)) := by
                  intro m75
                  induction m75 with
                  | zero => intro I75 A75 n_75 i75 _ _ _ _ _ _ _ _ hm; exact absurd hm (Nat.not_lt_zero _)
                  | succ m75 ih75 =>
                    intro I75 A75 n_75 i75 hnn_75 ksn_75 hrn_75 kc75_0 kc75_2 kc75_7 kc75_8 hi75 hm75
                    refine pm_iloadn hG dX12_rents_85 rfl ?_
                    refine pm_aloadn hG dX12_rents_86 rfl ?_
                    refine pm_getf hG dX12_rents_87 (flX12_58 _ rfl) rfl rfl ?_
                    refine pm_iloadn hG dX12_rents_90 rfl ?_
                    refine pm_top (v := nI k3) ek3 ?_
                    refine pm_ialdN hG dX12_rents_91 rfl (by decide) (by omega) ?_
                    refine pm_top (v := nI k73) ek73 ?_
                    refine pm_icmpN_ge (tgt := 128) hG dX12_rents_92 rfl (by omega) (by omega) (fun c76 => ?_) (fun c76 => ?_)
                    · refine pm_iconst (v := nI 0) hG dX12_rents_128 (by decide) ?_
                      refine pm_istoreXn (loc' := [some (.ref (B + 54)), some (.int za), some (.int zb), some (.int (nI 0)), none]) hG dX12_rents_129 (by decide) (pm_c1b rfl) rfl ?_
                      refine pm_iconst (v := nI 0) hG dX12_rents_130 (by decide) ?_
                      refine pm_istoreXi (loc' := [some (.ref (B + 54)), some (.int za), some (.int zb), some (.int (nI 0)), some (.int (nI 0))]) hG dX12_rents_131 (by decide) (pm_c1b rfl) rfl ?_
                      have loop133_77 : ∀ (m77 : Nat) (I77 : Nat → Int32) (A77 : Nat → Nat → Int32) (n_77 : Nat → Int32) (x77_3 : Int32) (i77 : Nat), KI n_77 → KS n_77 n → NRx 40 n_77 → n_77 0 = nI kc0 → n_77 2 = nI kc2 → n_77 7 = nI kc7 → n_77 8 = nI kc8 → i77 ≤ 24 → 24 - i77 < m77 → pm_wp mX12_rents G B 133 [some (.ref (B + 54)), some (.int za), some (.int zb), some (.int x77_3), some (.int (nI i77))] [] 0 0 cnt (pm_mid σ (md_L B I77 A77 n_77 k z ac wt pl (nI p0) (nI t0) im)) := by
                        intro m77
                        induction m77 with
                        | zero => intro I77 A77 n_77 x77_3 i77 _ _ _ _ _ _ _ _ hm; exact absurd hm (Nat.not_lt_zero _)
                        | succ m77 ih77 =>
                          intro I77 A77 n_77 x77_3 i77 hnn_77 ksn_77 hrn_77 kc77_0 kc77_2 kc77_7 kc77_8 hi77 hm77
                          refine pm_iloadi hG dX12_rents_133 rfl ?_
                          refine pm_aloadn hG dX12_rents_135 rfl ?_
                          refine pm_getf hG dX12_rents_136 (flX12_58 _ rfl) rfl rfl ?_
                          refine pm_iloadn hG dX12_rents_139 rfl ?_
                          refine pm_top (v := nI k3) ek3 ?_
                          refine pm_ialdN hG dX12_rents_140 rfl (by decide) (by omega) ?_
                          refine pm_top (v := nI k73) ek73 ?_
                          refine pm_icmpN_ge (tgt := 195) hG dX12_rents_141 rfl (by omega) (by omega) (fun c78 => ?_) (fun c78 => ?_)
                          · refine pm_iloadn hG dX12_rents_195 rfl ?_
                            exact pm_iret hG hF dX12_rents_196 rfl (Nat.le_refl _) (Nat.le_refl _) ⟨_, rfl, ⟨_, _, _, rfl, hnn_77, hrn_77, kc77_0.trans ekc0.symm, kc77_2.trans ekc2.symm, kc77_7.trans ekc7.symm, kc77_8.trans ekc8.symm, ksn_77⟩, rfl⟩
                          · refine pm_aloadn hG dX12_rents_144 rfl ?_
                            refine pm_getf hG dX12_rents_145 (flX12_61 _ rfl) rfl rfl ?_
                            refine pm_bipush (v := nI 24) hG dX12_rents_148 (by decide) ?_
                            refine pm_iloadn hG dX12_rents_150 rfl ?_
                            refine pm_top (v := nI k3) ek3 ?_
                            refine pm_imulN (c := 24 * k3) hG dX12_rents_151 (by omega) ?_
                            refine pm_iloadi hG dX12_rents_152 rfl ?_
                            refine pm_iaddN (c := i77 + 24 * k3) hG dX12_rents_154 (by omega) ?_
                            refine pm_ialdN hG dX12_rents_155 rfl (by decide) (by omega) ?_
                            refine pm_any (fun x79 => ?_)
                            refine pm_if_ge (tgt := 162) hG dX12_rents_156 rfl (fun c80 => ?_) (fun c80 => ?_)
                            · obtain ⟨k81, hk81, ek81⟩ := nI_of (Int32.not_lt.mpr c80)
                              refine pm_aloadn hG dX12_rents_162 rfl ?_
                              refine pm_getf hG dX12_rents_163 (flX12_7 _ rfl) rfl rfl ?_
                              refine pm_bipush (v := nI 20) hG dX12_rents_166 (by decide) ?_
                              refine pm_iconst (v := nI 3) hG dX12_rents_168 (by decide) ?_
                              refine pm_iloadi hG dX12_rents_169 rfl ?_
                              refine pm_imulN (c := 3 * i77) hG dX12_rents_171 (by omega) ?_
                              refine pm_iaddN (c := 3 * i77 + 20) hG dX12_rents_172 (by omega) ?_
                              refine pm_aloadn hG dX12_rents_173 rfl ?_
                              refine pm_getf hG dX12_rents_174 (flX12_61 _ rfl) rfl rfl ?_
                              refine pm_bipush (v := nI 24) hG dX12_rents_177 (by decide) ?_
                              refine pm_iloadn hG dX12_rents_179 rfl ?_
                              refine pm_top (v := nI k3) ek3 ?_
                              refine pm_imulN (c := 24 * k3) hG dX12_rents_180 (by omega) ?_
                              refine pm_iloadi hG dX12_rents_181 rfl ?_
                              refine pm_iaddN (c := i77 + 24 * k3) hG dX12_rents_183 (by omega) ?_
                              refine pm_ialdN hG dX12_rents_184 rfl (by decide) (by omega) ?_
                              refine pm_any (fun x82 => ?_)
                              refine pm_iastN hG dX12_rents_185 rfl (by decide) (by omega) ?_
                              refine mdn_now (fun n_83 en_83 => ?_)
                              have hnn_83 := KI.w en_83 hnn_77 (okv_f (show kd (3 * i77 + 20) = (0, 0, false) from (kd_T (k := i77) (c := 0) (by omega) (by omega) (by decide))))
                              have hrn_83 := NRx.w en_83 hrn_77 (by rw [(show kd (3 * i77 + 20) = (0, 0, false) from (kd_T (k := i77) (c := 0) (by omega) (by omega) (by decide)))])
                              have ksn_83 := KS.w en_83 ksn_77 (by unfold tS; omega)
                              have e84 : n_83 0 = nI kc0 := by rw [en_83, pk_un (by omega)]; exact kc77_0
                              have e85 : n_83 2 = nI kc2 := by rw [en_83, pk_un (by omega)]; exact kc77_2
                              have e86 : n_83 7 = nI kc7 := by rw [en_83, pk_un (by omega)]; exact kc77_7
                              have e87 : n_83 8 = nI kc8 := by rw [en_83, pk_un (by omega)]; exact kc77_8
                              have e88 : n_83 (3 * i77 + 20) = x82 := by rw [en_83, pk_us]
                              refine pm_iincX (v := x77_3 + 1) (loc' := [some (.ref (B + 54)), some (.int za), some (.int zb), some (.int (x77_3 + 1)), some (.int (nI i77))]) hG dX12_rents_186 rfl (by rfl) (by decide) (pm_c1b rfl) rfl ?_
                              refine pm_iincX (v := nI (i77 + 1)) (loc' := [some (.ref (B + 54)), some (.int za), some (.int zb), some (.int (x77_3 + 1)), some (.int (nI (i77 + 1)))]) hG dX12_rents_189 rfl (nI_1 _) (by decide) (pm_c1b rfl) rfl ?_
                              refine pm_goto (tgt := 133) hG dX12_rents_192 rfl ?_
                              exact ih77 I77 A77 n_83 (x77_3 + 1) (i77 + 1) hnn_83 ksn_83 hrn_83 (e84.trans (congrArg nI (by omega))) (e85.trans (congrArg nI (by omega))) (e86.trans (congrArg nI (by omega))) (e87.trans (congrArg nI (by omega))) (by omega) (by omega)
                            · refine pm_goto (tgt := 189) hG dX12_rents_159 rfl ?_
                              refine pm_iincX (v := nI (i77 + 1)) (loc' := [some (.ref (B + 54)), some (.int za), some (.int zb), some (.int x77_3), some (.int (nI (i77 + 1)))]) hG dX12_rents_189 rfl (nI_1 _) (by decide) (pm_c1b rfl) rfl ?_
                              refine pm_goto (tgt := 133) hG dX12_rents_192 rfl ?_
                              exact ih77 I77 A77 n_77 x77_3 (i77 + 1) hnn_77 ksn_77 hrn_77 (kc77_0.trans (congrArg nI (by omega))) (kc77_2.trans (congrArg nI (by omega))) (kc77_7.trans (congrArg nI (by omega))) (kc77_8.trans (congrArg nI (by omega))) (by omega) (by omega)
                      exact loop133_77 _ I75 A75 n_75 (nI 0) 0 hnn_75 ksn_75 hrn_75 (kc75_0.trans (congrArg nI (by omega))) (kc75_2.trans (congrArg nI (by omega))) (kc75_7.trans (congrArg nI (by omega))) (kc75_8.trans (congrArg nI (by omega))) (by omega) (Nat.lt_succ_self _)
                    · refine pm_aloadn hG dX12_rents_95 rfl ?_
                      refine pm_getf hG dX12_rents_96 (flX12_61 _ rfl) rfl rfl ?_
                      refine pm_bipush (v := nI 24) hG dX12_rents_99 (by decide) ?_
                      refine pm_iloadn hG dX12_rents_101 rfl ?_
                      refine pm_top (v := nI k3) ek3 ?_
                      refine pm_imulN (c := 24 * k3) hG dX12_rents_102 (by omega) ?_
                      refine pm_iloadn hG dX12_rents_103 rfl ?_
                      refine pm_iaddN (c := i75 + 24 * k3) hG dX12_rents_104 (by omega) ?_
                      refine pm_ialdN hG dX12_rents_105 rfl (by decide) (by omega) ?_
                      refine pm_any (fun x89 => ?_)
                      refine pm_iconst (v := (-1)) hG dX12_rents_106 (by decide) ?_
                      refine pm_sipush (v := nI 999) hG dX12_rents_107 (by decide) ?_
                      refine pm_callS (As := [.int x89, .int (-1), .int (nI 999)]) (rest := []) hG hR dX12_rents_110 (lkX12_68 _ rfl) okS_X12_in (m_in (d := 1)) rfl rfl hdd (Nat.le_refl _) (Nat.le_refl _) (by decide) (pm_ki (fun v90 σ' cnt' hq => ?_))
                      obtain ⟨hq, rfl, rfl⟩ := hq
                      rcases hq with ⟨rfl, ac91, bc91⟩ | ⟨rfl, c91⟩
                      · refine pm_ifN_ne (tgt := 122) hG dX12_rents_113 rfl (by omega) (fun _ => ?_) (fun q => absurd q (by omega))
                        refine pm_iincX (v := nI (i75 + 1)) (loc' := [some (.ref (B + 54)), some (.int za), some (.int zb), some (.int (nI (i75 + 1))), none]) hG dX12_rents_122 rfl (nI_1 _) (by decide) (pm_c1b rfl) rfl ?_
                        refine pm_goto (tgt := 85) hG dX12_rents_125 rfl ?_
                        exact ih75 I75 A75 n_75 (i75 + 1) hnn_75 ksn_75 hrn_75 (kc75_0.trans (congrArg nI (by omega))) (kc75_2.trans (congrArg nI (by omega))) (kc75_7.trans (congrArg nI (by omega))) (kc75_8.trans (congrArg nI (by omega))) (by omega) (by omega)
                      · refine pm_ifN_ne (tgt := 122) hG dX12_rents_113 rfl (by omega) (fun q => absurd q (by omega)) (fun _ => ?_)
                        refine pm_aloadn hG dX12_rents_116 rfl ?_
                        refine pm_iconst (v := nI 1) hG dX12_rents_117 (by decide) ?_
                        refine pm_callV (As := [.int (nI 1)]) (rest := []) hG hR dX12_rents_118 (lkX12_80 _ rfl) okV_X12_finds rfl rfl (m_finds (d := 1) (by decide) hnn_75 hz (by omega)) rfl rfl hdd (Nat.le_refl _) (Nat.le_refl _) (by decide) (pm_ki (fun v92 σ' cnt' hq => ?_))
                        obtain ⟨⟨I93, A93, rfl⟩, rfl, fv92⟩ := hq
                        exact pm_iret hG hF dX12_rents_121 rfl (Nat.le_refl _) (Nat.le_refl _) ⟨_, rfl, ⟨_, _, _, rfl, hnn_75, hrn_75, kc75_0.trans ekc0.symm, kc75_2.trans ekc2.symm, kc75_7.trans ekc7.symm, kc75_8.trans ekc8.symm, ksn_75⟩, rfl⟩
                exact loop85_75 _ I A n 0 hn KS.rf hr (ekc0.trans (congrArg nI (by omega))) (ekc2.trans (congrArg nI (by omega))) (ekc7.trans (congrArg nI (by omega))) (ekc8.trans (congrArg nI (by omega))) (by omega) (Nat.lt_succ_self _)
              · refine pm_aloadn hG dX12_rents_77 rfl ?_
                refine pm_iconst (v := nI 3) hG dX12_rents_78 (by decide) ?_
                refine pm_callV (As := [.int (nI 3)]) (rest := []) hG hR dX12_rents_79 (lkX12_80 _ rfl) okV_X12_finds rfl rfl (m_finds (d := 1) (by decide) hn hz (by omega)) rfl rfl hdd (Nat.le_refl _) (Nat.le_refl _) (by decide) (pm_ki (fun v94 σ' cnt' hq => ?_))
                obtain ⟨⟨I95, A95, rfl⟩, rfl, fv94⟩ := hq
                exact pm_iret hG hF dX12_rents_82 rfl (Nat.le_refl _) (Nat.le_refl _) ⟨_, rfl, ⟨_, _, _, rfl, hn, hr, ekc0.trans ekc0.symm, ekc2.trans ekc2.symm, ekc7.trans ekc7.symm, ekc8.trans ekc8.symm, KS.rf⟩, rfl⟩
            · refine pm_aloadn hG dX12_rents_56 rfl ?_
              refine pm_iconst (v := nI 5) hG dX12_rents_57 (by decide) ?_
              refine pm_callV (As := [.int (nI 5)]) (rest := []) hG hR dX12_rents_58 (lkX12_80 _ rfl) okV_X12_finds rfl rfl (m_finds (d := 1) (by decide) hn hz (by omega)) rfl rfl hdd (Nat.le_refl _) (Nat.le_refl _) (by decide) (pm_ki (fun v96 σ' cnt' hq => ?_))
              obtain ⟨⟨I97, A97, rfl⟩, rfl, fv96⟩ := hq
              exact pm_iret hG hF dX12_rents_61 rfl (Nat.le_refl _) (Nat.le_refl _) ⟨_, rfl, ⟨_, _, _, rfl, hn, hr, ekc0.trans ekc0.symm, ekc2.trans ekc2.symm, ekc7.trans ekc7.symm, ekc8.trans ekc8.symm, KS.rf⟩, rfl⟩
          · refine pm_aloadn hG dX12_rents_40 rfl ?_
            refine pm_iconst (v := nI 2) hG dX12_rents_41 (by decide) ?_
            refine pm_callV (As := [.int (nI 2)]) (rest := []) hG hR dX12_rents_42 (lkX12_80 _ rfl) okV_X12_finds rfl rfl (m_finds (d := 1) (by decide) hn hz (by omega)) rfl rfl hdd (Nat.le_refl _) (Nat.le_refl _) (by decide) (pm_ki (fun v98 σ' cnt' hq => ?_))
            obtain ⟨⟨I99, A99, rfl⟩, rfl, fv98⟩ := hq
            exact pm_iret hG hF dX12_rents_45 rfl (Nat.le_refl _) (Nat.le_refl _) ⟨_, rfl, ⟨_, _, _, rfl, hn, hr, ekc0.trans ekc0.symm, ekc2.trans ekc2.symm, ekc7.trans ekc7.symm, ekc8.trans ekc8.symm, KS.rf⟩, rfl⟩
        · refine pm_aloadn hG dX12_rents_25 rfl ?_
          refine pm_iconst (v := nI 1) hG dX12_rents_26 (by decide) ?_
          refine pm_callV (As := [.int (nI 1)]) (rest := []) hG hR dX12_rents_27 (lkX12_80 _ rfl) okV_X12_finds rfl rfl (m_finds (d := 1) (by decide) hn hz (by omega)) rfl rfl hdd (Nat.le_refl _) (Nat.le_refl _) (by decide) (pm_ki (fun v100 σ' cnt' hq => ?_))
          obtain ⟨⟨I101, A101, rfl⟩, rfl, fv100⟩ := hq
          exact pm_iret hG hF dX12_rents_30 rfl (Nat.le_refl _) (Nat.le_refl _) ⟨_, rfl, ⟨_, _, _, rfl, hn, hr, ekc0.trans ekc0.symm, ekc2.trans ekc2.symm, ekc7.trans ekc7.symm, ekc8.trans ekc8.symm, KS.rf⟩, rfl⟩
  · refine pm_ifN_eq (tgt := 25) hG dX12_rents_4 rfl (by omega) (fun _ => ?_) (fun q => absurd q (by omega))
    refine pm_aloadn hG dX12_rents_25 rfl ?_
    refine pm_iconst (v := nI 1) hG dX12_rents_26 (by decide) ?_
    refine pm_callV (As := [.int (nI 1)]) (rest := []) hG hR dX12_rents_27 (lkX12_80 _ rfl) okV_X12_finds rfl rfl (m_finds (d := 1) (by decide) hn hz (by omega)) rfl rfl hdd (Nat.le_refl _) (Nat.le_refl _) (by decide) (pm_ki (fun v102 σ' cnt' hq => ?_))
    obtain ⟨⟨I103, A103, rfl⟩, rfl, fv102⟩ := hq
    exact pm_iret hG hF dX12_rents_30 rfl (Nat.le_refl _) (Nat.le_refl _) ⟨_, rfl, ⟨_, _, _, rfl, hn, hr, ekc0.trans ekc0.symm, ekc2.trans ekc2.symm, ekc7.trans ekc7.symm, ekc8.trans ekc8.symm, KS.rf⟩, rfl⟩

set_option maxRecDepth 100000 in
set_option maxHeartbeats 4000000 in
theorem m_restore {d B cnt p0 t0 : Nat} {σ : pm_S} {I : Nat → Int32} {A : Nat → Nat → Int32} {n k z : Nat → Int32} {ac wt pl im : Int32} (hdd : 2 ≤ d) (hn : KI n) (hr : NR n) (hz : SZ z) (hk : KI k) (hkr : NR k) : pm_met mX12_restore d 0 0 B [.ref (B + 54)] cnt (pm_mid σ (md_L B I A n k z ac wt pl (nI p0) (nI t0) im)) (pm_Qi (fun v σ' cnt' => (∃ (I' : Nat → Int32) (A' : Nat → Nat → Int32) (n' : Nat → Int32), σ' = pm_mid σ (md_L B I' A' n' k z ac wt pl (nI p0) (nI t0) im) ∧ KI n' ∧ NR n' ∧ (im = 0 → n' = n ∧ v = (-1000000) - nI 2) ∧ (im ≠ 0 → (∀ j : Nat, j < 2071 → n' j = k j) ∧ v = k 8)) ∧ cnt = cnt')) := by
  refine pm_enter 1 (by decide) (Nat.le_of_ble_eq_true rfl) rfl (fun G hG hR hF => ?_)
  refine pm_aloadn hG dX12_restore_0 rfl ?_
  refine pm_getf hG dX12_restore_1 (flX12_319 _ rfl) rfl rfl ?_
  refine pm_if_ne (tgt := 13) hG dX12_restore_4 rfl (fun c1 => ?_) (fun c1 => ?_)
  · refine pm_iconst (v := nI 0) hG dX12_restore_13 (by decide) ?_
    refine pm_istoreXn (loc' := [some (.ref (B + 54)), some (.int (nI 0))]) hG dX12_restore_14 (by decide) (pm_c1b rfl) rfl ?_
    have loop15_2 : ∀ (m2 : Nat) (n_2 : Nat → Int32) (i2 : Nat), i2 ≤ 2071 → (∀ j : Nat, j < i2 → n_2 j = k j) → 2071 - i2 < m2 → pm_wp mX12_restore G B 15 [some (.ref (B + 54)), some (.int (nI i2))] [] 0 0 cnt (pm_mid σ (md_L B I A n_2 k z ac wt pl (nI p0) (nI t0) im)) := by
      intro m2
      induction m2 with
      | zero => intro n_2 i2 _ _ hm; exact absurd hm (Nat.not_lt_zero _)
      | succ m2 ih2 =>
        intro n_2 i2 hi2 cpy2 hm2
        refine pm_iloadn hG dX12_restore_15 rfl ?_
        refine pm_sipush (v := nI 2071) hG dX12_restore_16 (by decide) ?_
        refine pm_icmpN_ge (tgt := 40) hG dX12_restore_19 rfl (by omega) (by omega) (fun c3 => ?_) (fun c3 => ?_)
        · have hnR : KI n_2 := KI.eqv cpy2 (by omega) hk
          have hrR : NR n_2 := NR.eqv cpy2 (by omega) hkr
          refine pm_aloadn hG dX12_restore_40 rfl ?_
          refine pm_getf hG dX12_restore_41 (flX12_7 _ rfl) rfl rfl ?_
          refine pm_bipush (v := nI 8) hG dX12_restore_44 (by decide) ?_
          refine pm_ialdN hG dX12_restore_46 rfl (by decide) (by omega) ?_
          obtain ⟨k4, hk4, ek4⟩ := KI.nat hnR (show kd 8 = (1, 2001, false) by decide)
          refine pm_top (v := nI k4) ek4 ?_
          exact pm_iret hG hF dX12_restore_47 rfl (Nat.le_refl _) (Nat.le_refl _) ⟨_, rfl, ⟨_, _, _, rfl, hnR, hrR, ⟨fun q => (by first | exact absurd q c1 | exact absurd c1 q), fun _ => ⟨fun j hj => cpy2 j (by omega), ek4.symm.trans (cpy2 8 (by omega))⟩⟩⟩, rfl⟩
        · refine pm_aloadn hG dX12_restore_22 rfl ?_
          refine pm_getf hG dX12_restore_23 (flX12_7 _ rfl) rfl rfl ?_
          refine pm_iloadn hG dX12_restore_26 rfl ?_
          refine pm_aloadn hG dX12_restore_27 rfl ?_
          refine pm_getf hG dX12_restore_28 (flX12_13 _ rfl) rfl rfl ?_
          refine pm_iloadn hG dX12_restore_31 rfl ?_
          refine pm_ialdN hG dX12_restore_32 rfl (by decide) (by omega) ?_
          refine pm_gen (fun x5 ex5 => ?_)
          refine pm_iastN hG dX12_restore_33 rfl (by decide) (by omega) ?_
          refine mdn_now (fun n_6 en_6 => ?_)
          have cn_6 := cpy_step cpy2 en_6 ex5
          refine pm_iincX (v := nI (i2 + 1)) (loc' := [some (.ref (B + 54)), some (.int (nI (i2 + 1)))]) hG dX12_restore_34 rfl (nI_1 _) (by decide) (pm_c1b rfl) rfl ?_
          refine pm_goto (tgt := 15) hG dX12_restore_37 rfl ?_
          exact ih2 n_6 (i2 + 1) (by omega) cn_6 (by omega)
    exact loop15_2 _ n 0 (by omega) (fun _ h => absurd h (Nat.not_lt_zero _)) (Nat.lt_succ_self _)
  · refine pm_aloadn hG dX12_restore_7 rfl ?_
    refine pm_iconst (v := nI 2) hG dX12_restore_8 (by decide) ?_
    refine pm_callV (As := [.int (nI 2)]) (rest := []) hG hR dX12_restore_9 (lkX12_80 _ rfl) okV_X12_finds rfl rfl (m_finds (d := 1) (by decide) hn hz (by omega)) rfl rfl hdd (Nat.le_refl _) (Nat.le_refl _) (by decide) (pm_ki (fun v7 σ' cnt' hq => ?_))
    obtain ⟨⟨I8, A8, rfl⟩, rfl, fv7⟩ := hq
    exact pm_iret hG hF dX12_restore_12 rfl (Nat.le_refl _) (Nat.le_refl _) ⟨_, rfl, ⟨_, _, _, rfl, hn, hr, ⟨fun _ => ⟨rfl, fv7⟩, fun q => (by first | exact absurd q c1 | exact absurd c1 q)⟩⟩, rfl⟩

set_option maxRecDepth 100000 in
set_option maxHeartbeats 4000000 in
theorem m_road {d B cnt p0 t0 : Nat} {σ : pm_S} {I : Nat → Int32} {A : Nat → Nat → Int32} {n k z : Nat → Int32} {ac wt pl im : Int32} {za zb zc : Int32} (hdd : 2 ≤ d) (hn : KI n) (hr : NR n) (hz : SZ z)  : pm_met mX12_road d 0 0 B [.ref (B + 54), .int za, .int zb, .int zc] cnt (pm_mid σ (md_L B I A n k z ac wt pl (nI p0) (nI t0) im)) (pm_Qi (fun v σ' cnt' => (∃ (I' : Nat → Int32) (A' : Nat → Nat → Int32) (n' : Nat → Int32), σ' = pm_mid σ (md_L B I' A' n' k z ac wt pl (nI p0) (nI t0) im) ∧ KI n' ∧ NR n' ∧ n' 0 = n 0 ∧ n' 2 = n 2 ∧ n' 7 = n 7 ∧ n' 8 = n 8 ∧ KS n' n) ∧ cnt = cnt')) := by
  obtain ⟨kc0, hkc0, ekc0⟩ := KI.nat hn (show kd 0 = (1, 11, true) by decide)
  obtain ⟨kc2, hkc2, ekc2⟩ := KI.nat hn (show kd 2 = (1, 21, true) by decide)
  obtain ⟨kc7, hkc7, ekc7⟩ := KI.nat hn (show kd 7 = (1, 31, false) by decide)
  obtain ⟨kc8, hkc8, ekc8⟩ := KI.nat hn (show kd 8 = (1, 2001, false) by decide)
  refine pm_enter 1 (by decide) (Nat.le_of_ble_eq_true rfl) rfl (fun G hG hR hF => ?_)
  refine pm_aloadn hG dX12_road_0 rfl ?_
  refine pm_iloadn hG dX12_road_1 rfl ?_
  refine pm_callV (As := [.int za]) (rest := []) hG hR dX12_road_2 (lkX12_84 _ rfl) okV_X12_isTown rfl rfl (m_isTown (d := 1) (by decide) ekc0 (by omega)) rfl rfl hdd (Nat.le_refl _) (Nat.le_refl _) (by decide) (pm_ki (fun v1 σ' cnt' hq => ?_))
  obtain ⟨hq, rfl, rfl⟩ := hq
  rcases hq with ⟨rfl, k3, hk3, ek3⟩ | ⟨rfl, ntk3⟩
  · refine pm_ifN_eq (tgt := 31) hG dX12_road_5 rfl (by omega) (fun q => absurd q (by omega)) (fun _ => ?_)
    refine pm_aloadn hG dX12_road_8 rfl ?_
    refine pm_iloadn hG dX12_road_9 rfl ?_
    refine pm_callV (As := [.int zb]) (rest := []) hG hR dX12_road_10 (lkX12_84 _ rfl) okV_X12_isTown rfl rfl (m_isTown (d := 1) (by decide) ekc0 (by omega)) rfl rfl hdd (Nat.le_refl _) (Nat.le_refl _) (by decide) (pm_ki (fun v4 σ' cnt' hq => ?_))
    obtain ⟨hq, rfl, rfl⟩ := hq
    rcases hq with ⟨rfl, k6, hk6, ek6⟩ | ⟨rfl, ntk6⟩
    · refine pm_ifN_eq (tgt := 31) hG dX12_road_13 rfl (by omega) (fun q => absurd q (by omega)) (fun _ => ?_)
      refine pm_iloadn hG dX12_road_16 rfl ?_
      refine pm_top (v := nI k3) ek3 ?_
      refine pm_iloadn hG dX12_road_17 rfl ?_
      refine pm_top (v := nI k6) ek6 ?_
      refine pm_icmpN_eq (tgt := 31) hG dX12_road_18 rfl (by omega) (by omega) (fun c7 => ?_) (fun c7 => ?_)
      · refine pm_aloadn hG dX12_road_31 rfl ?_
        refine pm_iconst (v := nI 1) hG dX12_road_32 (by decide) ?_
        refine pm_callV (As := [.int (nI 1)]) (rest := []) hG hR dX12_road_33 (lkX12_80 _ rfl) okV_X12_finds rfl rfl (m_finds (d := 1) (by decide) hn hz (by omega)) rfl rfl hdd (Nat.le_refl _) (Nat.le_refl _) (by decide) (pm_ki (fun v8 σ' cnt' hq => ?_))
        obtain ⟨⟨I9, A9, rfl⟩, rfl, fv8⟩ := hq
        exact pm_iret hG hF dX12_road_36 rfl (Nat.le_refl _) (Nat.le_refl _) ⟨_, rfl, ⟨_, _, _, rfl, hn, hr, ekc0.trans ekc0.symm, ekc2.trans ekc2.symm, ekc7.trans ekc7.symm, ekc8.trans ekc8.symm, KS.rf⟩, rfl⟩
      · refine pm_iloadn hG dX12_road_21 rfl ?_
        refine pm_iconst (v := nI 1) hG dX12_road_22 (by decide) ?_
        refine pm_bipush (v := nI 9) hG dX12_road_23 (by decide) ?_
        refine pm_callS (As := [.int zc, .int (nI 1), .int (nI 9)]) (rest := []) hG hR dX12_road_25 (lkX12_68 _ rfl) okS_X12_in (m_in (d := 1)) rfl rfl hdd (Nat.le_refl _) (Nat.le_refl _) (by decide) (pm_ki (fun v10 σ' cnt' hq => ?_))
        obtain ⟨hq, rfl, rfl⟩ := hq
        rcases hq with ⟨rfl, ac11, bc11⟩ | ⟨rfl, c11⟩
        · obtain ⟨k12, hk12, ek12⟩ := in_nat (by omega) (by omega) ac11 bc11
          refine pm_ifN_ne (tgt := 37) hG dX12_road_28 rfl (by omega) (fun _ => ?_) (fun q => absurd q (by omega))
          refine pm_aloadn hG dX12_road_37 rfl ?_
          refine pm_getf hG dX12_road_38 (flX12_7 _ rfl) rfl rfl ?_
          refine pm_iconst (v := nI 1) hG dX12_road_41 (by decide) ?_
          refine pm_ialdN hG dX12_road_42 rfl (by decide) (by omega) ?_
          obtain ⟨k13, hk13, ek13⟩ := KI.nat hn (show kd 1 = (1, 21, false) by decide)
          refine pm_top (v := nI k13) ek13 ?_
          refine pm_istoreXi (loc' := [some (.ref (B + 54)), some (.int za), some (.int zb), some (.int zc), some (.int (nI k13))]) hG dX12_road_43 (by decide) (pm_c1b rfl) rfl ?_
          refine pm_iloadi hG dX12_road_45 rfl ?_
          refine pm_bipush (v := nI 20) hG dX12_road_47 (by decide) ?_
          refine pm_icmpN_ne (tgt := 58) hG dX12_road_49 rfl (by omega) (by omega) (fun c14 => ?_) (fun c14 => ?_)
          · refine pm_aloadn hG dX12_road_58 rfl ?_
            refine pm_getf hG dX12_road_59 (flX12_7 _ rfl) rfl rfl ?_
            refine pm_iconst (v := nI 1) hG dX12_road_62 (by decide) ?_
            refine pm_dup2 hG dX12_road_63 rfl rfl ?_
            refine pm_ialdN hG dX12_road_64 rfl (by decide) (by omega) ?_
            refine pm_top (v := nI k13) ek13 ?_
            refine pm_iconst (v := nI 1) hG dX12_road_65 (by decide) ?_
            refine pm_iaddN (c := k13 + 1) hG dX12_road_66 (by omega) ?_
            refine pm_iastN hG dX12_road_67 rfl (by decide) (by omega) ?_
            refine mdn_now (fun n_15 en_15 => ?_)
            have hnn_15 := KI.w en_15 hn (okv_n (show kd 1 = (1, 21, false) by decide) (by omega))
            have hrn_15 := NRx.w en_15 hr (by rw [(show kd 1 = (1, 21, false) by decide)])
            have ksn_15 := KS.w en_15 KS.rf (by unfold tS; omega)
            have e16 : n_15 0 = nI kc0 := by rw [en_15, pk_un (by omega)]; exact ekc0
            have e17 : n_15 2 = nI kc2 := by rw [en_15, pk_un (by omega)]; exact ekc2
            have e18 : n_15 7 = nI kc7 := by rw [en_15, pk_un (by omega)]; exact ekc7
            have e19 : n_15 8 = nI kc8 := by rw [en_15, pk_un (by omega)]; exact ekc8
            have e20 : n_15 1 = nI (k13 + 1) := by rw [en_15, pk_us]
            refine pm_aloadn hG dX12_road_68 rfl ?_
            refine pm_getf hG dX12_road_69 (flX12_7 _ rfl) rfl rfl ?_
            refine pm_bipush (v := nI 50) hG dX12_road_72 (by decide) ?_
            refine pm_iconst (v := nI 3) hG dX12_road_74 (by decide) ?_
            refine pm_iloadi hG dX12_road_75 rfl ?_
            refine pm_imulN (c := 3 * k13) hG dX12_road_77 (by omega) ?_
            refine pm_iaddN (c := 3 * k13 + 50) hG dX12_road_78 (by omega) ?_
            refine pm_iloadn hG dX12_road_79 rfl ?_
            refine pm_top (v := nI k3) ek3 ?_
            refine pm_iastN hG dX12_road_80 rfl (by decide) (by omega) ?_
            refine mdn_now (fun n_21 en_21 => ?_)
            have hnn_21 := KI.w en_21 hnn_15 (okv_n (show kd (3 * k13 + 50) = (1, 10, false) from (kd_R (k := k13) (c := 0) (by omega) (by omega) (by decide))) (by omega))
            have hrn_21 := NRx.w en_21 hrn_15 (by rw [(show kd (3 * k13 + 50) = (1, 10, false) from (kd_R (k := k13) (c := 0) (by omega) (by omega) (by decide)))])
            have ksn_21 := KS.w en_21 ksn_15 (by unfold tS; omega)
            have e22 : n_21 0 = nI kc0 := by rw [en_21, pk_un (by omega)]; exact e16
            have e23 : n_21 2 = nI kc2 := by rw [en_21, pk_un (by omega)]; exact e17
            have e24 : n_21 7 = nI kc7 := by rw [en_21, pk_un (by omega)]; exact e18
            have e25 : n_21 8 = nI kc8 := by rw [en_21, pk_un (by omega)]; exact e19
            have e26 : n_21 1 = nI (k13 + 1) := by rw [en_21, pk_un (by omega)]; exact e20
            have e27 : n_21 (3 * k13 + 50) = nI k3 := by rw [en_21, pk_us]
            refine pm_aloadn hG dX12_road_81 rfl ?_
            refine pm_getf hG dX12_road_82 (flX12_7 _ rfl) rfl rfl ?_
            refine pm_bipush (v := nI 50) hG dX12_road_85 (by decide) ?_
            refine pm_iconst (v := nI 3) hG dX12_road_87 (by decide) ?_
            refine pm_iloadi hG dX12_road_88 rfl ?_
            refine pm_imulN (c := 3 * k13) hG dX12_road_90 (by omega) ?_
            refine pm_iaddN (c := 3 * k13 + 50) hG dX12_road_91 (by omega) ?_
            refine pm_iconst (v := nI 1) hG dX12_road_92 (by decide) ?_
            refine pm_iaddN (c := 3 * k13 + 51) hG dX12_road_93 (by omega) ?_
            refine pm_iloadn hG dX12_road_94 rfl ?_
            refine pm_top (v := nI k6) ek6 ?_
            refine pm_iastN hG dX12_road_95 rfl (by decide) (by omega) ?_
            refine mdn_now (fun n_28 en_28 => ?_)
            have hnn_28 := KI.w en_28 hnn_21 (okv_n (show kd (3 * k13 + 51) = (1, 10, false) from (kd_R (k := k13) (c := 1) (by omega) (by omega) (by decide))) (by omega))
            have hrn_28 := NRx.w en_28 hrn_21 (by rw [(show kd (3 * k13 + 51) = (1, 10, false) from (kd_R (k := k13) (c := 1) (by omega) (by omega) (by decide)))])
            have ksn_28 := KS.w en_28 ksn_21 (by unfold tS; omega)
            have e29 : n_28 0 = nI kc0 := by rw [en_28, pk_un (by omega)]; exact e22
            have e30 : n_28 2 = nI kc2 := by rw [en_28, pk_un (by omega)]; exact e23
            have e31 : n_28 7 = nI kc7 := by rw [en_28, pk_un (by omega)]; exact e24
            have e32 : n_28 8 = nI kc8 := by rw [en_28, pk_un (by omega)]; exact e25
            have e33 : n_28 1 = nI (k13 + 1) := by rw [en_28, pk_un (by omega)]; exact e26
            have e34 : n_28 (3 * k13 + 50) = nI k3 := by rw [en_28, pk_un (by omega)]; exact e27
            have e35 : n_28 (3 * k13 + 51) = nI k6 := by rw [en_28, pk_us]
            refine pm_aloadn hG dX12_road_96 rfl ?_
            refine pm_getf hG dX12_road_97 (flX12_7 _ rfl) rfl rfl ?_
            refine pm_bipush (v := nI 50) hG dX12_road_100 (by decide) ?_
            refine pm_iconst (v := nI 3) hG dX12_road_102 (by decide) ?_
            refine pm_iloadi hG dX12_road_103 rfl ?_
            refine pm_imulN (c := 3 * k13) hG dX12_road_105 (by omega) ?_
            refine pm_iaddN (c := 3 * k13 + 50) hG dX12_road_106 (by omega) ?_
            refine pm_iconst (v := nI 2) hG dX12_road_107 (by decide) ?_
            refine pm_iaddN (c := 3 * k13 + 52) hG dX12_road_108 (by omega) ?_
            refine pm_iloadn hG dX12_road_109 rfl ?_
            refine pm_top (v := nI k12) ek12 ?_
            refine pm_iastN hG dX12_road_110 rfl (by decide) (by omega) ?_
            refine mdn_now (fun n_36 en_36 => ?_)
            have hnn_36 := KI.w en_36 hnn_28 (okv_n (show kd (3 * k13 + 52) = (1, 10, false) from (kd_R (k := k13) (c := 2) (by omega) (by omega) (by decide))) (by omega))
            have hrn_36 := NRx.w en_36 hrn_28 (by rw [(show kd (3 * k13 + 52) = (1, 10, false) from (kd_R (k := k13) (c := 2) (by omega) (by omega) (by decide)))])
            have ksn_36 := KS.w en_36 ksn_28 (by unfold tS; omega)
            have e37 : n_36 0 = nI kc0 := by rw [en_36, pk_un (by omega)]; exact e29
            have e38 : n_36 2 = nI kc2 := by rw [en_36, pk_un (by omega)]; exact e30
            have e39 : n_36 7 = nI kc7 := by rw [en_36, pk_un (by omega)]; exact e31
            have e40 : n_36 8 = nI kc8 := by rw [en_36, pk_un (by omega)]; exact e32
            have e41 : n_36 1 = nI (k13 + 1) := by rw [en_36, pk_un (by omega)]; exact e33
            have e42 : n_36 (3 * k13 + 50) = nI k3 := by rw [en_36, pk_un (by omega)]; exact e34
            have e43 : n_36 (3 * k13 + 51) = nI k6 := by rw [en_36, pk_un (by omega)]; exact e35
            have e44 : n_36 (3 * k13 + 52) = nI k12 := by rw [en_36, pk_us]
            refine pm_iloadi hG dX12_road_111 rfl ?_
            refine pm_iconst (v := nI 1) hG dX12_road_113 (by decide) ?_
            refine pm_iaddN (c := k13 + 1) hG dX12_road_114 (by omega) ?_
            exact pm_iret hG hF dX12_road_115 rfl (Nat.le_refl _) (Nat.le_refl _) ⟨_, rfl, ⟨_, _, _, rfl, hnn_36, hrn_36, e37.trans ekc0.symm, e38.trans ekc2.symm, e39.trans ekc7.symm, e40.trans ekc8.symm, ksn_36⟩, rfl⟩
          · refine pm_aloadn hG dX12_road_52 rfl ?_
            refine pm_iconst (v := nI 4) hG dX12_road_53 (by decide) ?_
            refine pm_callV (As := [.int (nI 4)]) (rest := []) hG hR dX12_road_54 (lkX12_80 _ rfl) okV_X12_finds rfl rfl (m_finds (d := 1) (by decide) hn hz (by omega)) rfl rfl hdd (Nat.le_refl _) (Nat.le_refl _) (by decide) (pm_ki (fun v45 σ' cnt' hq => ?_))
            obtain ⟨⟨I46, A46, rfl⟩, rfl, fv45⟩ := hq
            exact pm_iret hG hF dX12_road_57 rfl (Nat.le_refl _) (Nat.le_refl _) ⟨_, rfl, ⟨_, _, _, rfl, hn, hr, ekc0.trans ekc0.symm, ekc2.trans ekc2.symm, ekc7.trans ekc7.symm, ekc8.trans ekc8.symm, KS.rf⟩, rfl⟩
        · refine pm_ifN_ne (tgt := 37) hG dX12_road_28 rfl (by omega) (fun q => absurd q (by omega)) (fun _ => ?_)
          refine pm_aloadn hG dX12_road_31 rfl ?_
          refine pm_iconst (v := nI 1) hG dX12_road_32 (by decide) ?_
          refine pm_callV (As := [.int (nI 1)]) (rest := []) hG hR dX12_road_33 (lkX12_80 _ rfl) okV_X12_finds rfl rfl (m_finds (d := 1) (by decide) hn hz (by omega)) rfl rfl hdd (Nat.le_refl _) (Nat.le_refl _) (by decide) (pm_ki (fun v47 σ' cnt' hq => ?_))
          obtain ⟨⟨I48, A48, rfl⟩, rfl, fv47⟩ := hq
          exact pm_iret hG hF dX12_road_36 rfl (Nat.le_refl _) (Nat.le_refl _) ⟨_, rfl, ⟨_, _, _, rfl, hn, hr, ekc0.trans ekc0.symm, ekc2.trans ekc2.symm, ekc7.trans ekc7.symm, ekc8.trans ekc8.symm, KS.rf⟩, rfl⟩
    · refine pm_ifN_eq (tgt := 31) hG dX12_road_13 rfl (by omega) (fun _ => ?_) (fun q => absurd q (by omega))
      refine pm_aloadn hG dX12_road_31 rfl ?_
      refine pm_iconst (v := nI 1) hG dX12_road_32 (by decide) ?_
      refine pm_callV (As := [.int (nI 1)]) (rest := []) hG hR dX12_road_33 (lkX12_80 _ rfl) okV_X12_finds rfl rfl (m_finds (d := 1) (by decide) hn hz (by omega)) rfl rfl hdd (Nat.le_refl _) (Nat.le_refl _) (by decide) (pm_ki (fun v49 σ' cnt' hq => ?_))
      obtain ⟨⟨I50, A50, rfl⟩, rfl, fv49⟩ := hq
      exact pm_iret hG hF dX12_road_36 rfl (Nat.le_refl _) (Nat.le_refl _) ⟨_, rfl, ⟨_, _, _, rfl, hn, hr, ekc0.trans ekc0.symm, ekc2.trans ekc2.symm, ekc7.trans ekc7.symm, ekc8.trans ekc8.symm, KS.rf⟩, rfl⟩
  · refine pm_ifN_eq (tgt := 31) hG dX12_road_5 rfl (by omega) (fun _ => ?_) (fun q => absurd q (by omega))
    refine pm_aloadn hG dX12_road_31 rfl ?_
    refine pm_iconst (v := nI 1) hG dX12_road_32 (by decide) ?_
    refine pm_callV (As := [.int (nI 1)]) (rest := []) hG hR dX12_road_33 (lkX12_80 _ rfl) okV_X12_finds rfl rfl (m_finds (d := 1) (by decide) hn hz (by omega)) rfl rfl hdd (Nat.le_refl _) (Nat.le_refl _) (by decide) (pm_ki (fun v51 σ' cnt' hq => ?_))
    obtain ⟨⟨I52, A52, rfl⟩, rfl, fv51⟩ := hq
    exact pm_iret hG hF dX12_road_36 rfl (Nat.le_refl _) (Nat.le_refl _) ⟨_, rfl, ⟨_, _, _, rfl, hn, hr, ekc0.trans ekc0.symm, ekc2.trans ekc2.symm, ekc7.trans ekc7.symm, ekc8.trans ekc8.symm, KS.rf⟩, rfl⟩
