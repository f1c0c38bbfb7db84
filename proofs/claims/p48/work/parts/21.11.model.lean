set_option maxRecDepth 100000 in
set_option maxHeartbeats 4000000 in
theorem m_rents {d B cnt p0 t0 : Nat} {σ : pm_S} {I : Nat → Int32} {A : Nat → Nat → Int32} {n k z : Nat → Int32} {ac wt pl : Int32} {za zb : Int32} (hdd : 2 ≤ d) (hn : KI n) (hr : NR n) (hz : SZ z)  : pm_met mX12_rents d 0 0 B [.ref (B + 54), .int za, .int zb] cnt (pm_mid σ (md_L B I A n k z ac wt pl (nI p0) (nI t0))) (pm_Qi (fun v σ' cnt' => (∃ (I' : Nat → Int32) (A' : Nat → Nat → Int32) (n' : Nat → Int32), σ' = pm_mid σ (md_L B I' A' n' k z ac wt pl (nI p0) (nI t0)) ∧ KI n' ∧ NR n') ∧ cnt' = cnt)) := by
  refine pm_enter 2 (by decide) (Nat.le_of_ble_eq_true rfl) rfl (fun G hG hR hF => ?_)
  refine pm_iloadn hG dX12_rents_0 rfl ?_
  refine pm_callS (As := [.int za]) (rest := []) hG hR dX12_rents_1 (lkX12_239 _ rfl) okS_X12_isSheet (m_isSheet (d := 1) (by decide)) rfl rfl hdd (Nat.le_refl _) (Nat.le_refl _) (by decide) (pm_ki (fun v1 σ' cnt' hq => ?_))
  obtain ⟨hq, rfl, rfl⟩ := hq
  rcases hq with ⟨rfl, ac2, bc2⟩ | ⟨rfl, c2⟩
  · obtain ⟨k3, hk3, ek3⟩ := in_nat (by omega) (by omega) ac2 bc2
    refine pm_ifN_eq (tgt := 25) hG dX12_rents_4 rfl (by omega) (fun q => absurd q (by omega)) (fun _ => ?_)
    refine pm_iloadn hG dX12_rents_7 rfl ?_
    refine pm_bipush (v := nI 8) hG dX12_rents_8 (by decide) ?_
    refine pm_icmp_eq (tgt := 31) hG dX12_rents_10 rfl (fun c4 => ?_) (fun c4 => ?_)
    · refine pm_aloadn hG dX12_rents_31 rfl ?_
      refine pm_getf hG dX12_rents_32 (flX12_55 _ rfl) rfl rfl ?_
      refine pm_iloadn hG dX12_rents_35 rfl ?_
      refine pm_top (v := nI k3) ek3 ?_
      refine pm_ialdN hG dX12_rents_36 rfl (by decide) (by omega) ?_
      refine pm_any (fun x5 => ?_)
      refine pm_if_ne (tgt := 46) hG dX12_rents_37 rfl (fun c6 => ?_) (fun c6 => ?_)
      · refine pm_aloadn hG dX12_rents_46 rfl ?_
        refine pm_getf hG dX12_rents_47 (flX12_55 _ rfl) rfl rfl ?_
        refine pm_iloadn hG dX12_rents_50 rfl ?_
        refine pm_top (v := nI k3) ek3 ?_
        refine pm_ialdN hG dX12_rents_51 rfl (by decide) (by omega) ?_
        refine pm_any (fun x7 => ?_)
        refine pm_iloadn hG dX12_rents_52 rfl ?_
        refine pm_top (v := nI 8) c4 ?_
        refine pm_icmp_eq (tgt := 62) hG dX12_rents_53 rfl (fun c8 => ?_) (fun c8 => ?_)
        · refine pm_aloadn hG dX12_rents_62 rfl ?_
          refine pm_getf hG dX12_rents_63 (flX12_58 _ rfl) rfl rfl ?_
          refine pm_iloadn hG dX12_rents_66 rfl ?_
          refine pm_top (v := nI k3) ek3 ?_
          refine pm_ialdN hG dX12_rents_67 rfl (by decide) (by omega) ?_
          obtain ⟨k9, hk9, ek9⟩ := hz k3 (by omega)
          refine pm_top (v := nI k9) ek9 ?_
          refine pm_aloadn hG dX12_rents_68 rfl ?_
          refine pm_getf hG dX12_rents_69 (flX12_7 _ rfl) rfl rfl ?_
          refine pm_iconst (v := nI 0) hG dX12_rents_72 (by decide) ?_
          refine pm_ialdN hG dX12_rents_73 rfl (by decide) (by omega) ?_
          obtain ⟨k10, hk10, ek10⟩ := KI.nat hn (by decide)
          refine pm_top (v := nI k10) ek10 ?_
          refine pm_icmpN_le (tgt := 83) hG dX12_rents_74 rfl (by omega) (by omega) (fun c11 => ?_) (fun c11 => ?_)
          · refine pm_iconst (v := nI 0) hG dX12_rents_83 (by decide) ?_
            refine pm_istoreXn (loc' := [some (.ref (B + 54)), some (.int za), some (.int zb), some (.int (nI 0)), none]) hG dX12_rents_84 (by decide) (pm_c1b rfl) rfl ?_
            have loop85_12 : ∀ (m12 : Nat) (I12 : Nat → Int32) (A12 : Nat → Nat → Int32) (n_12 : Nat → Int32) (i12 : Nat), KI n_12 → NRx 40 n_12 → i12 ≤ 24 → 24 - i12 < m12 → pm_wp mX12_rents G B 85 [some (.ref (B + 54)), some (.int za), some (.int zb), some (.int (nI i12)), none] [] 0 0 cnt (pm_mid σ (md_L B I12 A12 n_12 k z ac wt pl (nI p0) (nI t0))) := by
              intro m12
              induction m12 with
              | zero => intro I12 A12 n_12 i12 _ _ _ hm; exact absurd hm (Nat.not_lt_zero _)
              | succ m12 ih12 =>
                intro I12 A12 n_12 i12 hnn_12 hrn_12 hi12 hm12
                refine pm_iloadn hG dX12_rents_85 rfl ?_
                refine pm_aloadn hG dX12_rents_86 rfl ?_
                refine pm_getf hG dX12_rents_87 (flX12_58 _ rfl) rfl rfl ?_
                refine pm_iloadn hG dX12_rents_90 rfl ?_
                refine pm_top (v := nI k3) ek3 ?_
                refine pm_ialdN hG dX12_rents_91 rfl (by decide) (by omega) ?_
                refine pm_top (v := nI k9) ek9 ?_
                refine pm_icmpN_ge (tgt := 128) hG dX12_rents_92 rfl (by omega) (by omega) (fun c13 => ?_) (fun c13 => ?_)
                · refine pm_iconst (v := nI 0) hG dX12_rents_128 (by decide) ?_
                  refine pm_istoreXn (loc' := [some (.ref (B + 54)), some (.int za), some (.int zb), some (.int (nI 0)), none]) hG dX12_rents_129 (by decide) (pm_c1b rfl) rfl ?_
                  refine pm_iconst (v := nI 0) hG dX12_rents_130 (by decide) ?_
                  refine pm_istoreXi (loc' := [some (.ref (B + 54)), some (.int za), some (.int zb), some (.int (nI 0)), some (.int (nI 0))]) hG dX12_rents_131 (by decide) (pm_c1b rfl) rfl ?_
                  have loop133_14 : ∀ (m14 : Nat) (I14 : Nat → Int32) (A14 : Nat → Nat → Int32) (n_14 : Nat → Int32) (x14_3 : Int32) (i14 : Nat), KI n_14 → NRx 40 n_14 → i14 ≤ 24 → 24 - i14 < m14 → pm_wp mX12_rents G B 133 [some (.ref (B + 54)), some (.int za), some (.int zb), some (.int x14_3), some (.int (nI i14))] [] 0 0 cnt (pm_mid σ (md_L B I14 A14 n_14 k z ac wt pl (nI p0) (nI t0))) := by
                    intro m14
                    induction m14 with
                    | zero => intro I14 A14 n_14 x14_3 i14 _ _ _ hm; exact absurd hm (Nat.not_lt_zero _)
                    | succ m14 ih14 =>
                      intro I14 A14 n_14 x14_3 i14 hnn_14 hrn_14 hi14 hm14
                      refine pm_iloadi hG dX12_rents_133 rfl ?_
                      refine pm_aloadn hG dX12_rents_135 rfl ?_
                      refine pm_getf hG dX12_rents_136 (flX12_58 _ rfl) rfl rfl ?_
                      refine pm_iloadn hG dX12_rents_139 rfl ?_
                      refine pm_top (v := nI k3) ek3 ?_
                      refine pm_ialdN hG dX12_rents_140 rfl (by decide) (by omega) ?_
                      refine pm_top (v := nI k9) ek9 ?_
                      refine pm_icmpN_ge (tgt := 195) hG dX12_rents_141 rfl (by omega) (by omega) (fun c15 => ?_) (fun c15 => ?_)
                      · refine pm_iloadn hG dX12_rents_195 rfl ?_
                        exact pm_iret hG hF dX12_rents_196 rfl (Nat.le_refl _) (Nat.le_refl _) ⟨_, rfl, ⟨_, _, _, rfl, hnn_14, hrn_14⟩, rfl⟩
                      · refine pm_aloadn hG dX12_rents_144 rfl ?_
                        refine pm_getf hG dX12_rents_145 (flX12_61 _ rfl) rfl rfl ?_
                        refine pm_bipush (v := nI 24) hG dX12_rents_148 (by decide) ?_
                        refine pm_iloadn hG dX12_rents_150 rfl ?_
                        refine pm_top (v := nI k3) ek3 ?_
                        refine pm_imulN (c := 24 * k3) hG dX12_rents_151 (by omega) ?_
                        refine pm_iloadi hG dX12_rents_152 rfl ?_
                        refine pm_iaddN (c := i14 + 24 * k3) hG dX12_rents_154 (by omega) ?_
                        refine pm_ialdN hG dX12_rents_155 rfl (by decide) (by omega) ?_
                        refine pm_any (fun x16 => ?_)
                        refine pm_if_ge (tgt := 162) hG dX12_rents_156 rfl (fun c17 => ?_) (fun c17 => ?_)
                        · obtain ⟨k18, hk18, ek18⟩ := nI_of (Int32.not_lt.mpr c17)
                          refine pm_aloadn hG dX12_rents_162 rfl ?_
                          refine pm_getf hG dX12_rents_163 (flX12_7 _ rfl) rfl rfl ?_
                          refine pm_bipush (v := nI 20) hG dX12_rents_166 (by decide) ?_
                          refine pm_iconst (v := nI 3) hG dX12_rents_168 (by decide) ?_
                          refine pm_iloadi hG dX12_rents_169 rfl ?_
                          refine pm_imulN (c := 3 * i14) hG dX12_rents_171 (by omega) ?_
                          refine pm_iaddN (c := 3 * i14 + 20) hG dX12_rents_172 (by omega) ?_
                          refine pm_aloadn hG dX12_rents_173 rfl ?_
                          refine pm_getf hG dX12_rents_174 (flX12_61 _ rfl) rfl rfl ?_
                          refine pm_bipush (v := nI 24) hG dX12_rents_177 (by decide) ?_
                          refine pm_iloadn hG dX12_rents_179 rfl ?_
                          refine pm_top (v := nI k3) ek3 ?_
                          refine pm_imulN (c := 24 * k3) hG dX12_rents_180 (by omega) ?_
                          refine pm_iloadi hG dX12_rents_181 rfl ?_
                          refine pm_iaddN (c := i14 + 24 * k3) hG dX12_rents_183 (by omega) ?_
                          refine pm_ialdN hG dX12_rents_184 rfl (by decide) (by omega) ?_
                          refine pm_any (fun x19 => ?_)
                          refine pm_iastN hG dX12_rents_185 rfl (by decide) (by omega) ?_
                          refine mdn_now (fun n_20 en_20 => ?_)
                          have hnn_20 := KI.w en_20 hnn_14 (okv_f (kd_T (k := i14) (c := 0) (by omega) (by omega) (by decide)))
                          have hrn_20 := NRx.w en_20 hrn_14 (by rw [(kd_T (k := i14) (c := 0) (by omega) (by omega) (by decide))]; rfl)
                          have e21 : n_20 (3 * i14 + 20) = x19 := by rw [en_20, pk_us]
                          refine pm_iincX (v := x14_3 + 1) (loc' := [some (.ref (B + 54)), some (.int za), some (.int zb), some (.int (x14_3 + 1)), some (.int (nI i14))]) hG dX12_rents_186 rfl (by rfl) (by decide) (pm_c1b rfl) rfl ?_
                          refine pm_iincX (v := nI (i14 + 1)) (loc' := [some (.ref (B + 54)), some (.int za), some (.int zb), some (.int (x14_3 + 1)), some (.int (nI (i14 + 1)))]) hG dX12_rents_189 rfl (nI_1 _) (by decide) (pm_c1b rfl) rfl ?_
                          refine pm_goto (tgt := 133) hG dX12_rents_192 rfl ?_
                          exact ih14 I14 A14 n_20 (x14_3 + 1) (i14 + 1) hnn_20 hrn_20 (by omega) (by omega)
                        · refine pm_goto (tgt := 189) hG dX12_rents_159 rfl ?_
                          refine pm_iincX (v := nI (i14 + 1)) (loc' := [some (.ref (B + 54)), some (.int za), some (.int zb), some (.int x14_3), some (.int (nI (i14 + 1)))]) hG dX12_rents_189 rfl (nI_1 _) (by decide) (pm_c1b rfl) rfl ?_
                          refine pm_goto (tgt := 133) hG dX12_rents_192 rfl ?_
                          exact ih14 I14 A14 n_14 x14_3 (i14 + 1) hnn_14 hrn_14 (by omega) (by omega)
                  exact loop133_14 _ I12 A12 n_12 (nI 0) 0 hnn_12 hrn_12 (by omega) (Nat.lt_succ_self _)
                · refine pm_aloadn hG dX12_rents_95 rfl ?_
                  refine pm_getf hG dX12_rents_96 (flX12_61 _ rfl) rfl rfl ?_
                  refine pm_bipush (v := nI 24) hG dX12_rents_99 (by decide) ?_
                  refine pm_iloadn hG dX12_rents_101 rfl ?_
                  refine pm_top (v := nI k3) ek3 ?_
                  refine pm_imulN (c := 24 * k3) hG dX12_rents_102 (by omega) ?_
                  refine pm_iloadn hG dX12_rents_103 rfl ?_
                  refine pm_iaddN (c := i12 + 24 * k3) hG dX12_rents_104 (by omega) ?_
                  refine pm_ialdN hG dX12_rents_105 rfl (by decide) (by omega) ?_
                  refine pm_any (fun x22 => ?_)
                  refine pm_iconst (v := (-1)) hG dX12_rents_106 (by decide) ?_
                  refine pm_sipush (v := nI 999) hG dX12_rents_107 (by decide) ?_
                  refine pm_callS (As := [.int x22, .int (-1), .int (nI 999)]) (rest := []) hG hR dX12_rents_110 (lkX12_68 _ rfl) okS_X12_in (m_in (d := 1)) rfl rfl hdd (Nat.le_refl _) (Nat.le_refl _) (by decide) (pm_ki (fun v23 σ' cnt' hq => ?_))
                  obtain ⟨hq, rfl, rfl⟩ := hq
                  rcases hq with ⟨rfl, ac24, bc24⟩ | ⟨rfl, c24⟩
                  · refine pm_ifN_ne (tgt := 122) hG dX12_rents_113 rfl (by omega) (fun _ => ?_) (fun q => absurd q (by omega))
                    refine pm_iincX (v := nI (i12 + 1)) (loc' := [some (.ref (B + 54)), some (.int za), some (.int zb), some (.int (nI (i12 + 1))), none]) hG dX12_rents_122 rfl (nI_1 _) (by decide) (pm_c1b rfl) rfl ?_
                    refine pm_goto (tgt := 85) hG dX12_rents_125 rfl ?_
                    exact ih12 I12 A12 n_12 (i12 + 1) hnn_12 hrn_12 (by omega) (by omega)
                  · refine pm_ifN_ne (tgt := 122) hG dX12_rents_113 rfl (by omega) (fun q => absurd q (by omega)) (fun _ => ?_)
                    refine pm_aloadn hG dX12_rents_116 rfl ?_
                    refine pm_iconst (v := nI 1) hG dX12_rents_117 (by decide) ?_
                    refine pm_callV (As := [.int (nI 1)]) (rest := []) hG hR dX12_rents_118 (lkX12_80 _ rfl) okV_X12_finds rfl rfl (m_finds (d := 1) (by decide) hnn_12 hz (by omega)) rfl rfl hdd (Nat.le_refl _) (Nat.le_refl _) (by decide) (pm_ki (fun v25 σ' cnt' hq => ?_))
                    obtain ⟨⟨I26, A26, rfl⟩, rfl⟩ := hq
                    exact pm_iret hG hF dX12_rents_121 rfl (Nat.le_refl _) (Nat.le_refl _) ⟨_, rfl, ⟨_, _, _, rfl, hnn_12, hrn_12⟩, rfl⟩
            exact loop85_12 _ I A n 0 hn hr (by omega) (Nat.lt_succ_self _)
          · refine pm_aloadn hG dX12_rents_77 rfl ?_
            refine pm_iconst (v := nI 3) hG dX12_rents_78 (by decide) ?_
            refine pm_callV (As := [.int (nI 3)]) (rest := []) hG hR dX12_rents_79 (lkX12_80 _ rfl) okV_X12_finds rfl rfl (m_finds (d := 1) (by decide) hn hz (by omega)) rfl rfl hdd (Nat.le_refl _) (Nat.le_refl _) (by decide) (pm_ki (fun v27 σ' cnt' hq => ?_))
            obtain ⟨⟨I28, A28, rfl⟩, rfl⟩ := hq
            exact pm_iret hG hF dX12_rents_82 rfl (Nat.le_refl _) (Nat.le_refl _) ⟨_, rfl, ⟨_, _, _, rfl, hn, hr⟩, rfl⟩
        · refine pm_aloadn hG dX12_rents_56 rfl ?_
          refine pm_iconst (v := nI 5) hG dX12_rents_57 (by decide) ?_
          refine pm_callV (As := [.int (nI 5)]) (rest := []) hG hR dX12_rents_58 (lkX12_80 _ rfl) okV_X12_finds rfl rfl (m_finds (d := 1) (by decide) hn hz (by omega)) rfl rfl hdd (Nat.le_refl _) (Nat.le_refl _) (by decide) (pm_ki (fun v29 σ' cnt' hq => ?_))
          obtain ⟨⟨I30, A30, rfl⟩, rfl⟩ := hq
          exact pm_iret hG hF dX12_rents_61 rfl (Nat.le_refl _) (Nat.le_refl _) ⟨_, rfl, ⟨_, _, _, rfl, hn, hr⟩, rfl⟩
      · refine pm_aloadn hG dX12_rents_40 rfl ?_
        refine pm_iconst (v := nI 2) hG dX12_rents_41 (by decide) ?_
        refine pm_callV (As := [.int (nI 2)]) (rest := []) hG hR dX12_rents_42 (lkX12_80 _ rfl) okV_X12_finds rfl rfl (m_finds (d := 1) (by decide) hn hz (by omega)) rfl rfl hdd (Nat.le_refl _) (Nat.le_refl _) (by decide) (pm_ki (fun v31 σ' cnt' hq => ?_))
        obtain ⟨⟨I32, A32, rfl⟩, rfl⟩ := hq
        exact pm_iret hG hF dX12_rents_45 rfl (Nat.le_refl _) (Nat.le_refl _) ⟨_, rfl, ⟨_, _, _, rfl, hn, hr⟩, rfl⟩
    · refine pm_iloadn hG dX12_rents_13 rfl ?_
      refine pm_bipush (v := nI 16) hG dX12_rents_14 (by decide) ?_
      refine pm_icmp_eq (tgt := 31) hG dX12_rents_16 rfl (fun c33 => ?_) (fun c33 => ?_)
      · refine pm_aloadn hG dX12_rents_31 rfl ?_
        refine pm_getf hG dX12_rents_32 (flX12_55 _ rfl) rfl rfl ?_
        refine pm_iloadn hG dX12_rents_35 rfl ?_
        refine pm_top (v := nI k3) ek3 ?_
        refine pm_ialdN hG dX12_rents_36 rfl (by decide) (by omega) ?_
        refine pm_any (fun x34 => ?_)
        refine pm_if_ne (tgt := 46) hG dX12_rents_37 rfl (fun c35 => ?_) (fun c35 => ?_)
        · refine pm_aloadn hG dX12_rents_46 rfl ?_
          refine pm_getf hG dX12_rents_47 (flX12_55 _ rfl) rfl rfl ?_
          refine pm_iloadn hG dX12_rents_50 rfl ?_
          refine pm_top (v := nI k3) ek3 ?_
          refine pm_ialdN hG dX12_rents_51 rfl (by decide) (by omega) ?_
          refine pm_any (fun x36 => ?_)
          refine pm_iloadn hG dX12_rents_52 rfl ?_
          refine pm_top (v := nI 16) c33 ?_
          refine pm_icmp_eq (tgt := 62) hG dX12_rents_53 rfl (fun c37 => ?_) (fun c37 => ?_)
          · refine pm_aloadn hG dX12_rents_62 rfl ?_
            refine pm_getf hG dX12_rents_63 (flX12_58 _ rfl) rfl rfl ?_
            refine pm_iloadn hG dX12_rents_66 rfl ?_
            refine pm_top (v := nI k3) ek3 ?_
            refine pm_ialdN hG dX12_rents_67 rfl (by decide) (by omega) ?_
            obtain ⟨k38, hk38, ek38⟩ := hz k3 (by omega)
            refine pm_top (v := nI k38) ek38 ?_
            refine pm_aloadn hG dX12_rents_68 rfl ?_
            refine pm_getf hG dX12_rents_69 (flX12_7 _ rfl) rfl rfl ?_
            refine pm_iconst (v := nI 0) hG dX12_rents_72 (by decide) ?_
            refine pm_ialdN hG dX12_rents_73 rfl (by decide) (by omega) ?_
            obtain ⟨k39, hk39, ek39⟩ := KI.nat hn (by decide)
            refine pm_top (v := nI k39) ek39 ?_
            refine pm_icmpN_le (tgt := 83) hG dX12_rents_74 rfl (by omega) (by omega) (fun c40 => ?_) (fun c40 => ?_)
            · refine pm_iconst (v := nI 0) hG dX12_rents_83 (by decide) ?_
              refine pm_istoreXn (loc' := [some (.ref (B + 54)), some (.int za), some (.int zb), some (.int (nI 0)), none]) hG dX12_rents_84 (by decide) (pm_c1b rfl) rfl ?_
              have loop85_41 : ∀ (m41 : Nat) (I41 : Nat → Int32) (A41 : Nat → Nat → Int32) (n_41 : Nat → Int32) (i41 : Nat), KI n_41 → NRx 40 n_41 → i41 ≤ 24 → 24 - i41 < m41 → pm_wp mX12_rents G B 85 [some (.ref (B + 54)), some (.int za), some (.int zb), some (.int (nI i41)), none] [] 0 0 cnt (pm_mid σ (md_L B I41 A41 n_41 k z ac wt pl (nI p0) (nI t0))) := by
                intro m41
                induction m41 with
                | zero => intro I41 A41 n_41 i41 _ _ _ hm; exact absurd hm (Nat.not_lt_zero _)
                | succ m41 ih41 =>
                  intro I41 A41 n_41 i41 hnn_41 hrn_41 hi41 hm41
                  refine pm_iloadn hG dX12_rents_85 rfl ?_
                  refine pm_aloadn hG dX12_rents_86 rfl ?_
                  refine pm_getf hG dX12_rents_87 (flX12_58 _ rfl) rfl rfl ?_
                  refine pm_iloadn hG dX12_rents_90 rfl ?_
                  refine pm_top (v := nI k3) ek3 ?_
                  refine pm_ialdN hG dX12_rents_91 rfl (by decide) (by omega) ?_
                  refine pm_top (v := nI k38) ek38 ?_
                  refine pm_icmpN_ge (tgt := 128) hG dX12_rents_92 rfl (by omega) (by omega) (fun c42 => ?_) (fun c42 => ?_)
                  · refine pm_iconst (v := nI 0) hG dX12_rents_128 (by decide) ?_
                    refine pm_istoreXn (loc' := [some (.ref (B + 54)), some (.int za), some (.int zb), some (.int (nI 0)), none]) hG dX12_rents_129 (by decide) (pm_c1b rfl) rfl ?_
                    refine pm_iconst (v := nI 0) hG dX12_rents_130 (by decide) ?_
                    refine pm_istoreXi (loc' := [some (.ref (B + 54)), some (.int za), some (.int zb), some (.int (nI 0)), some (.int (nI 0))]) hG dX12_rents_131 (by decide) (pm_c1b rfl) rfl ?_
                    have loop133_43 : ∀ (m43 : Nat) (I43 : Nat → Int32) (A43 : Nat → Nat → Int32) (n_43 : Nat → Int32) (x43_3 : Int32) (i43 : Nat), KI n_43 → NRx 40 n_43 → i43 ≤ 24 → 24 - i43 < m43 → pm_wp mX12_rents G B 133 [some (.ref (B + 54)), some (.int za), some (.int zb), some (.int x43_3), some (.int (nI i43))] [] 0 0 cnt (pm_mid σ (md_L B I43 A43 n_43 k z ac wt pl (nI p0) (nI t0))) := by
                      intro m43
                      induction m43 with
                      | zero => intro I43 A43 n_43 x43_3 i43 _ _ _ hm; exact absurd hm (Nat.not_lt_zero _)
                      | succ m43 ih43 =>
                        intro I43 A43 n_43 x43_3 i43 hnn_43 hrn_43 hi43 hm43
                        refine pm_iloadi hG dX12_rents_133 rfl ?_
                        refine pm_aloadn hG dX12_rents_135 rfl ?_
                        refine pm_getf hG dX12_rents_136 (flX12_58 _ rfl) rfl rfl ?_
                        refine pm_iloadn hG dX12_rents_139 rfl ?_
                        refine pm_top (v := nI k3) ek3 ?_
                        refine pm_ialdN hG dX12_rents_140 rfl (by decide) (by omega) ?_
                        refine pm_top (v := nI k38) ek38 ?_
                        refine pm_icmpN_ge (tgt := 195) hG dX12_rents_141 rfl (by omega) (by omega) (fun c44 => ?_) (fun c44 => ?_)
                        · refine pm_iloadn hG dX12_rents_195 rfl ?_
                          exact pm_iret hG hF dX12_rents_196 rfl (Nat.le_refl _) (Nat.le_refl _) ⟨_, rfl, ⟨_, _, _, rfl, hnn_43, hrn_43⟩, rfl⟩
                        · refine pm_aloadn hG dX12_rents_144 rfl ?_
                          refine pm_getf hG dX12_rents_145 (flX12_61 _ rfl) rfl rfl ?_
                          refine pm_bipush (v := nI 24) hG dX12_rents_148 (by decide) ?_
                          refine pm_iloadn hG dX12_rents_150 rfl ?_
                          refine pm_top (v := nI k3) ek3 ?_
                          refine pm_imulN (c := 24 * k3) hG dX12_rents_151 (by omega) ?_
                          refine pm_iloadi hG dX12_rents_152 rfl ?_
                          refine pm_iaddN (c := i43 + 24 * k3) hG dX12_rents_154 (by omega) ?_
                          refine pm_ialdN hG dX12_rents_155 rfl (by decide) (by omega) ?_
                          refine pm_any (fun x45 => ?_)
                          refine pm_if_ge (tgt := 162) hG dX12_rents_156 rfl (fun c46 => ?_) (fun c46 => ?_)
                          · obtain ⟨k47, hk47, ek47⟩ := nI_of (Int32.not_lt.mpr c46)
                            refine pm_aloadn hG dX12_rents_162 rfl ?_
                            refine pm_getf hG dX12_rents_163 (flX12_7 _ rfl) rfl rfl ?_
                            refine pm_bipush (v := nI 20) hG dX12_rents_166 (by decide) ?_
                            refine pm_iconst (v := nI 3) hG dX12_rents_168 (by decide) ?_
                            refine pm_iloadi hG dX12_rents_169 rfl ?_
                            refine pm_imulN (c := 3 * i43) hG dX12_rents_171 (by omega) ?_
                            refine pm_iaddN (c := 3 * i43 + 20) hG dX12_rents_172 (by omega) ?_
                            refine pm_aloadn hG dX12_rents_173 rfl ?_
                            refine pm_getf hG dX12_rents_174 (flX12_61 _ rfl) rfl rfl ?_
                            refine pm_bipush (v := nI 24) hG dX12_rents_177 (by decide) ?_
                            refine pm_iloadn hG dX12_rents_179 rfl ?_
                            refine pm_top (v := nI k3) ek3 ?_
                            refine pm_imulN (c := 24 * k3) hG dX12_rents_180 (by omega) ?_
                            refine pm_iloadi hG dX12_rents_181 rfl ?_
                            refine pm_iaddN (c := i43 + 24 * k3) hG dX12_rents_183 (by omega) ?_
                            refine pm_ialdN hG dX12_rents_184 rfl (by decide) (by omega) ?_
                            refine pm_any (fun x48 => ?_)
                            refine pm_iastN hG dX12_rents_185 rfl (by decide) (by omega) ?_
                            refine mdn_now (fun n_49 en_49 => ?_)
                            have hnn_49 := KI.w en_49 hnn_43 (okv_f (kd_T (k := i43) (c := 0) (by omega) (by omega) (by decide)))
                            have hrn_49 := NRx.w en_49 hrn_43 (by rw [(kd_T (k := i43) (c := 0) (by omega) (by omega) (by decide))]; rfl)
                            have e50 : n_49 (3 * i43 + 20) = x48 := by rw [en_49, pk_us]
                            refine pm_iincX (v := x43_3 + 1) (loc' := [some (.ref (B + 54)), some (.int za), some (.int zb), some (.int (x43_3 + 1)), some (.int (nI i43))]) hG dX12_rents_186 rfl (by rfl) (by decide) (pm_c1b rfl) rfl ?_
                            refine pm_iincX (v := nI (i43 + 1)) (loc' := [some (.ref (B + 54)), some (.int za), some (.int zb), some (.int (x43_3 + 1)), some (.int (nI (i43 + 1)))]) hG dX12_rents_189 rfl (nI_1 _) (by decide) (pm_c1b rfl) rfl ?_
                            refine pm_goto (tgt := 133) hG dX12_rents_192 rfl ?_
                            exact ih43 I43 A43 n_49 (x43_3 + 1) (i43 + 1) hnn_49 hrn_49 (by omega) (by omega)
                          · refine pm_goto (tgt := 189) hG dX12_rents_159 rfl ?_
                            refine pm_iincX (v := nI (i43 + 1)) (loc' := [some (.ref (B + 54)), some (.int za), some (.int zb), some (.int x43_3), some (.int (nI (i43 + 1)))]) hG dX12_rents_189 rfl (nI_1 _) (by decide) (pm_c1b rfl) rfl ?_
                            refine pm_goto (tgt := 133) hG dX12_rents_192 rfl ?_
                            exact ih43 I43 A43 n_43 x43_3 (i43 + 1) hnn_43 hrn_43 (by omega) (by omega)
                    exact loop133_43 _ I41 A41 n_41 (nI 0) 0 hnn_41 hrn_41 (by omega) (Nat.lt_succ_self _)
                  · refine pm_aloadn hG dX12_rents_95 rfl ?_
                    refine pm_getf hG dX12_rents_96 (flX12_61 _ rfl) rfl rfl ?_
                    refine pm_bipush (v := nI 24) hG dX12_rents_99 (by decide) ?_
                    refine pm_iloadn hG dX12_rents_101 rfl ?_
                    refine pm_top (v := nI k3) ek3 ?_
                    refine pm_imulN (c := 24 * k3) hG dX12_rents_102 (by omega) ?_
                    refine pm_iloadn hG dX12_rents_103 rfl ?_
                    refine pm_iaddN (c := i41 + 24 * k3) hG dX12_rents_104 (by omega) ?_
                    refine pm_ialdN hG dX12_rents_105 rfl (by decide) (by omega) ?_
                    refine pm_any (fun x51 => ?_)
                    refine pm_iconst (v := (-1)) hG dX12_rents_106 (by decide) ?_
                    refine pm_sipush (v := nI 999) hG dX12_rents_107 (by decide) ?_
                    refine pm_callS (As := [.int x51, .int (-1), .int (nI 999)]) (rest := []) hG hR dX12_rents_110 (lkX12_68 _ rfl) okS_X12_in (m_in (d := 1)) rfl rfl hdd (Nat.le_refl _) (Nat.le_refl _) (by decide) (pm_ki (fun v52 σ' cnt' hq => ?_))
                    obtain ⟨hq, rfl, rfl⟩ := hq
                    rcases hq with ⟨rfl, ac53, bc53⟩ | ⟨rfl, c53⟩
                    · refine pm_ifN_ne (tgt := 122) hG dX12_rents_113 rfl (by omega) (fun _ => ?_) (fun q => absurd q (by omega))
                      refine pm_iincX (v := nI (i41 + 1)) (loc' := [some (.ref (B + 54)), some (.int za), some (.int zb), some (.int (nI (i41 + 1))), none]) hG dX12_rents_122 rfl (nI_1 _) (by decide) (pm_c1b rfl) rfl ?_
                      refine pm_goto (tgt := 85) hG dX12_rents_125 rfl ?_
                      exact ih41 I41 A41 n_41 (i41 + 1) hnn_41 hrn_41 (by omega) (by omega)
                    · refine pm_ifN_ne (tgt := 122) hG dX12_rents_113 rfl (by omega) (fun q => absurd q (by omega)) (fun _ => ?_)
                      refine pm_aloadn hG dX12_rents_116 rfl ?_
                      refine pm_iconst (v := nI 1) hG dX12_rents_117 (by decide) ?_
                      refine pm_callV (As := [.int (nI 1)]) (rest := []) hG hR dX12_rents_118 (lkX12_80 _ rfl) okV_X12_finds rfl rfl (m_finds (d := 1) (by decide) hnn_41 hz (by omega)) rfl rfl hdd (Nat.le_refl _) (Nat.le_refl _) (by decide) (pm_ki (fun v54 σ' cnt' hq => ?_))
                      obtain ⟨⟨I55, A55, rfl⟩, rfl⟩ := hq
                      exact pm_iret hG hF dX12_rents_121 rfl (Nat.le_refl _) (Nat.le_refl _) ⟨_, rfl, ⟨_, _, _, rfl, hnn_41, hrn_41⟩, rfl⟩
              exact loop85_41 _ I A n 0 hn hr (by omega) (Nat.lt_succ_self _)
            · refine pm_aloadn hG dX12_rents_77 rfl ?_
              refine pm_iconst (v := nI 3) hG dX12_rents_78 (by decide) ?_
              refine pm_callV (As := [.int (nI 3)]) (rest := []) hG hR dX12_rents_79 (lkX12_80 _ rfl) okV_X12_finds rfl rfl (m_finds (d := 1) (by decide) hn hz (by omega)) rfl rfl hdd (Nat.le_refl _) (Nat.le_refl _) (by decide) (pm_ki (fun v56 σ' cnt' hq => ?_))
              obtain ⟨⟨I57, A57, rfl⟩, rfl⟩ := hq
              exact pm_iret hG hF dX12_rents_82 rfl (Nat.le_refl _) (Nat.le_refl _) ⟨_, rfl, ⟨_, _, _, rfl, hn, hr⟩, rfl⟩
          · refine pm_aloadn hG dX12_rents_56 rfl ?_
            refine pm_iconst (v := nI 5) hG dX12_rents_57 (by decide) ?_
            refine pm_callV (As := [.int (nI 5)]) (rest := []) hG hR dX12_rents_58 (lkX12_80 _ rfl) okV_X12_finds rfl rfl (m_finds (d := 1) (by decide) hn hz (by omega)) rfl rfl hdd (Nat.le_refl _) (Nat.le_refl _) (by decide) (pm_ki (fun v58 σ' cnt' hq => ?_))
            obtain ⟨⟨I59, A59, rfl⟩, rfl⟩ := hq
            exact pm_iret hG hF dX12_rents_61 rfl (Nat.le_refl _) (Nat.le_refl _) ⟨_, rfl, ⟨_, _, _, rfl, hn, hr⟩, rfl⟩
        · refine pm_aloadn hG dX12_rents_40 rfl ?_
          refine pm_iconst (v := nI 2) hG dX12_rents_41 (by decide) ?_
          refine pm_callV (As := [.int (nI 2)]) (rest := []) hG hR dX12_rents_42 (lkX12_80 _ rfl) okV_X12_finds rfl rfl (m_finds (d := 1) (by decide) hn hz (by omega)) rfl rfl hdd (Nat.le_refl _) (Nat.le_refl _) (by decide) (pm_ki (fun v60 σ' cnt' hq => ?_))
          obtain ⟨⟨I61, A61, rfl⟩, rfl⟩ := hq
          exact pm_iret hG hF dX12_rents_45 rfl (Nat.le_refl _) (Nat.le_refl _) ⟨_, rfl, ⟨_, _, _, rfl, hn, hr⟩, rfl⟩
      · refine pm_iloadn hG dX12_rents_19 rfl ?_
        refine pm_bipush (v := nI 32) hG dX12_rents_20 (by decide) ?_
        refine pm_icmp_eq (tgt := 31) hG dX12_rents_22 rfl (fun c62 => ?_) (fun c62 => ?_)
        · refine pm_aloadn hG dX12_rents_31 rfl ?_
          refine pm_getf hG dX12_rents_32 (flX12_55 _ rfl) rfl rfl ?_
          refine pm_iloadn hG dX12_rents_35 rfl ?_
          refine pm_top (v := nI k3) ek3 ?_
          refine pm_ialdN hG dX12_rents_36 rfl (by decide) (by omega) ?_
          refine pm_any (fun x63 => ?_)
          refine pm_if_ne (tgt := 46) hG dX12_rents_37 rfl (fun c64 => ?_) (fun c64 => ?_)
          · refine pm_aloadn hG dX12_rents_46 rfl ?_
            refine pm_getf hG dX12_rents_47 (flX12_55 _ rfl) rfl rfl ?_
            refine pm_iloadn hG dX12_rents_50 rfl ?_
            refine pm_top (v := nI k3) ek3 ?_
            refine pm_ialdN hG dX12_rents_51 rfl (by decide) (by omega) ?_
            refine pm_any (fun x65 => ?_)
            refine pm_iloadn hG dX12_rents_52 rfl ?_
            refine pm_top (v := nI 32) c62 ?_
            refine pm_icmp_eq (tgt := 62) hG dX12_rents_53 rfl (fun c66 => ?_) (fun c66 => ?_)
            · refine pm_aloadn hG dX12_rents_62 rfl ?_
              refine pm_getf hG dX12_rents_63 (flX12_58 _ rfl) rfl rfl ?_
              refine pm_iloadn hG dX12_rents_66 rfl ?_
              refine pm_top (v := nI k3) ek3 ?_
              refine pm_ialdN hG dX12_rents_67 rfl (by decide) (by omega) ?_
              obtain ⟨k67, hk67, ek67⟩ := hz k3 (by omega)
              refine pm_top (v := nI k67) ek67 ?_
              refine pm_aloadn hG dX12_rents_68 rfl ?_
              refine pm_getf hG dX12_rents_69 (flX12_7 _ rfl) rfl rfl ?_
              refine pm_iconst (v := nI 0) hG dX12_rents_72 (by decide) ?_
              refine pm_ialdN hG dX12_rents_73 rfl (by decide) (by omega) ?_
              obtain ⟨k68, hk68, ek68⟩ := KI.nat hn (by decide)
              refine pm_top (v := nI k68) ek68 ?_
              refine pm_icmpN_le (tgt := 83) hG dX12_rents_74 rfl (by omega) (by omega) (fun c69 => ?_) (fun c69 => ?_)
              · refine pm_iconst (v := nI 0) hG dX12_rents_83 (by decide) ?_
                refine pm_istoreXn (loc' := [some (.ref (B + 54)), some (.int za), some (.int zb), some (.int (nI 0)), none]) hG dX12_rents_84 (by decide) (pm_c1b rfl) rfl ?_
                have loop85_70 : ∀ (m70 : Nat) (I70 : Nat → Int32) (A70 : Nat → Nat → Int32) (n_70 : Nat → Int32) (i70 : Nat), KI n_70 → NRx 40 n_70 → i70 ≤ 24 → 24 - i70 < m70 → pm_wp mX12_rents G B 85 [some (.ref (B + 54)), some (.int za), some (.int zb), some (.int (nI i70)), none] [] 0 0 cnt (pm_mid σ (md_L B I70 A70 n_70 k z ac wt pl (nI p0) (nI t0))) := by
                  intro m70
                  induction m70 with
                  | zero => intro I70 A70 n_70 i70 _ _ _ hm; exact absurd hm (Nat.not_lt_zero _)
                  | succ m70 ih70 =>
                    intro I70 A70 n_70 i70 hnn_70 hrn_70 hi70 hm70
                    refine pm_iloadn hG dX12_rents_85 rfl ?_
                    refine pm_aloadn hG dX12_rents_86 rfl ?_
                    refine pm_getf hG dX12_rents_87 (flX12_58 _ rfl) rfl rfl ?_
                    refine pm_iloadn hG dX12_rents_90 rfl ?_
                    refine pm_top (v := nI k3) ek3 ?_
                    refine pm_ialdN hG dX12_rents_91 rfl (by decide) (by omega) ?_
                    refine pm_top (v := nI k67) ek67 ?_
                    refine pm_icmpN_ge (tgt := 128) hG dX12_rents_92 rfl (by omega) (by omega) (fun c71 => ?_) (fun c71 => ?_)
                    · refine pm_iconst (v := nI 0) hG dX12_rents_128 (by decide) ?_
                      refine pm_istoreXn (loc' := [some (.ref (B + 54)), some (.int za), some (.int zb), some (.int (nI 0)), none]) hG dX12_rents_129 (by decide) (pm_c1b rfl) rfl ?_
                      refine pm_iconst (v := nI 0) hG dX12_rents_130 (by decide) ?_
                      refine pm_istoreXi (loc' := [some (.ref (B + 54)), some (.int za), some (.int zb), some (.int (nI 0)), some (.int (nI 0))]) hG dX12_rents_131 (by decide) (pm_c1b rfl) rfl ?_
                      have loop133_72 : ∀ (m72 : Nat) (I72 : Nat → Int32) (A72 : Nat → Nat → Int32) (n_72 : Nat → Int32) (x72_3 : Int32) (i72 : Nat), KI n_72 → NRx 40 n_72 → i72 ≤ 24 → 24 - i72 < m72 → pm_wp mX12_rents G B 133 [some (.ref (B + 54)), some (.int za), some (.int zb), some (.int x72_3), some (.int (nI i72))] [] 0 0 cnt (pm_mid σ (md_L B I72 A72 n_72 k z ac wt pl (nI p0) (nI t0))) := by
                        intro m72
                        induction m72 with
                        | zero => intro I72 A72 n_72 x72_3 i72 _ _ _ hm; exact absurd hm (Nat.not_lt_zero _)
                        | succ m72 ih72 =>
                          intro I72 A72 n_72 x72_3 i72 hnn_72 hrn_72 hi72 hm72
                          refine pm_iloadi hG dX12_rents_133 rfl ?_
                          refine pm_aloadn hG dX12_rents_135 rfl ?_
                          refine pm_getf hG dX12_rents_136 (flX12_58 _ rfl) rfl rfl ?_
                          refine pm_iloadn hG dX12_rents_139 rfl ?_
                          refine pm_top (v := nI k3) ek3 ?_
                          refine pm_ialdN hG dX12_rents_140 rfl (by decide) (by omega) ?_
                          refine pm_top (v := nI k67) ek67 ?_
                          refine pm_icmpN_ge (tgt := 195) hG dX12_rents_141 rfl (by omega) (by omega) (fun c73 => ?_) (fun c73 => ?_)
                          · refine pm_iloadn hG dX12_rents_195 rfl ?_
                            exact pm_iret hG hF dX12_rents_196 rfl (Nat.le_refl _) (Nat.le_refl _) ⟨_, rfl, ⟨_, _, _, rfl, hnn_72, hrn_72⟩, rfl⟩
                          · refine pm_aloadn hG dX12_rents_144 rfl ?_
                            refine pm_getf hG dX12_rents_145 (flX12_61 _ rfl) rfl rfl ?_
                            refine pm_bipush (v := nI 24) hG dX12_rents_148 (by decide) ?_
                            refine pm_iloadn hG dX12_rents_150 rfl ?_
                            refine pm_top (v := nI k3) ek3 ?_
                            refine pm_imulN (c := 24 * k3) hG dX12_rents_151 (by omega) ?_
                            refine pm_iloadi hG dX12_rents_152 rfl ?_
                            refine pm_iaddN (c := i72 + 24 * k3) hG dX12_rents_154 (by omega) ?_
                            refine pm_ialdN hG dX12_rents_155 rfl (by decide) (by omega) ?_
                            refine pm_any (fun x74 => ?_)
                            refine pm_if_ge (tgt := 162) hG dX12_rents_156 rfl (fun c75 => ?_) (fun c75 => ?_)
                            · obtain ⟨k76, hk76, ek76⟩ := nI_of (Int32.not_lt.mpr c75)
                              refine pm_aloadn hG dX12_rents_162 rfl ?_
                              refine pm_getf hG dX12_rents_163 (flX12_7 _ rfl) rfl rfl ?_
                              refine pm_bipush (v := nI 20) hG dX12_rents_166 (by decide) ?_
                              refine pm_iconst (v := nI 3) hG dX12_rents_168 (by decide) ?_
                              refine pm_iloadi hG dX12_rents_169 rfl ?_
                              refine pm_imulN (c := 3 * i72) hG dX12_rents_171 (by omega) ?_
                              refine pm_iaddN (c := 3 * i72 + 20) hG dX12_rents_172 (by omega) ?_
                              refine pm_aloadn hG dX12_rents_173 rfl ?_
                              refine pm_getf hG dX12_rents_174 (flX12_61 _ rfl) rfl rfl ?_
                              refine pm_bipush (v := nI 24) hG dX12_rents_177 (by decide) ?_
                              refine pm_iloadn hG dX12_rents_179 rfl ?_
                              refine pm_top (v := nI k3) ek3 ?_
                              refine pm_imulN (c := 24 * k3) hG dX12_rents_180 (by omega) ?_
                              refine pm_iloadi hG dX12_rents_181 rfl ?_
                              refine pm_iaddN (c := i72 + 24 * k3) hG dX12_rents_183 (by omega) ?_
                              refine pm_ialdN hG dX12_rents_184 rfl (by decide) (by omega) ?_
                              refine pm_any (fun x77 => ?_)
                              refine pm_iastN hG dX12_rents_185 rfl (by decide) (by omega) ?_
                              refine mdn_now (fun n_78 en_78 => ?_)
                              have hnn_78 := KI.w en_78 hnn_72 (okv_f (kd_T (k := i72) (c := 0) (by omega) (by omega) (by decide)))
                              have hrn_78 := NRx.w en_78 hrn_72 (by rw [(kd_T (k := i72) (c := 0) (by omega) (by omega) (by decide))]; rfl)
                              have e79 : n_78 (3 * i72 + 20) = x77 := by rw [en_78, pk_us]
                              refine pm_iincX (v := x72_3 + 1) (loc' := [some (.ref (B + 54)), some (.int za), some (.int zb), some (.int (x72_3 + 1)), some (.int (nI i72))]) hG dX12_rents_186 rfl (by rfl) (by decide) (pm_c1b rfl) rfl ?_
                              refine pm_iincX (v := nI (i72 + 1)) (loc' := [some (.ref (B + 54)), some (.int za), some (.int zb), some (.int (x72_3 + 1)), some (.int (nI (i72 + 1)))]) hG dX12_rents_189 rfl (nI_1 _) (by decide) (pm_c1b rfl) rfl ?_
                              refine pm_goto (tgt := 133) hG dX12_rents_192 rfl ?_
                              exact ih72 I72 A72 n_78 (x72_3 + 1) (i72 + 1) hnn_78 hrn_78 (by omega) (by omega)
                            · refine pm_goto (tgt := 189) hG dX12_rents_159 rfl ?_
                              refine pm_iincX (v := nI (i72 + 1)) (loc' := [some (.ref (B + 54)), some (.int za), some (.int zb), some (.int x72_3), some (.int (nI (i72 + 1)))]) hG dX12_rents_189 rfl (nI_1 _) (by decide) (pm_c1b rfl) rfl ?_
                              refine pm_goto (tgt := 133) hG dX12_rents_192 rfl ?_
                              exact ih72 I72 A72 n_72 x72_3 (i72 + 1) hnn_72 hrn_72 (by omega) (by omega)
                      exact loop133_72 _ I70 A70 n_70 (nI 0) 0 hnn_70 hrn_70 (by omega) (Nat.lt_succ_self _)
                    · refine pm_aloadn hG dX12_rents_95 rfl ?_
                      refine pm_getf hG dX12_rents_96 (flX12_61 _ rfl) rfl rfl ?_
                      refine pm_bipush (v := nI 24) hG dX12_rents_99 (by decide) ?_
                      refine pm_iloadn hG dX12_rents_101 rfl ?_
                      refine pm_top (v := nI k3) ek3 ?_
                      refine pm_imulN (c := 24 * k3) hG dX12_rents_102 (by omega) ?_
                      refine pm_iloadn hG dX12_rents_103 rfl ?_
                      refine pm_iaddN (c := i70 + 24 * k3) hG dX12_rents_104 (by omega) ?_
                      refine pm_ialdN hG dX12_rents_105 rfl (by decide) (by omega) ?_
                      refine pm_any (fun x80 => ?_)
                      refine pm_iconst (v := (-1)) hG dX12_rents_106 (by decide) ?_
                      refine pm_sipush (v := nI 999) hG dX12_rents_107 (by decide) ?_
                      refine pm_callS (As := [.int x80, .int (-1), .int (nI 999)]) (rest := []) hG hR dX12_rents_110 (lkX12_68 _ rfl) okS_X12_in (m_in (d := 1)) rfl rfl hdd (Nat.le_refl _) (Nat.le_refl _) (by decide) (pm_ki (fun v81 σ' cnt' hq => ?_))
                      obtain ⟨hq, rfl, rfl⟩ := hq
                      rcases hq with ⟨rfl, ac82, bc82⟩ | ⟨rfl, c82⟩
                      · refine pm_ifN_ne (tgt := 122) hG dX12_rents_113 rfl (by omega) (fun _ => ?_) (fun q => absurd q (by omega))
                        refine pm_iincX (v := nI (i70 + 1)) (loc' := [some (.ref (B + 54)), some (.int za), some (.int zb), some (.int (nI (i70 + 1))), none]) hG dX12_rents_122 rfl (nI_1 _) (by decide) (pm_c1b rfl) rfl ?_
                        refine pm_goto (tgt := 85) hG dX12_rents_125 rfl ?_
                        exact ih70 I70 A70 n_70 (i70 + 1) hnn_70 hrn_70 (by omega) (by omega)
                      · refine pm_ifN_ne (tgt := 122) hG dX12_rents_113 rfl (by omega) (fun q => absurd q (by omega)) (fun _ => ?_)
                        refine pm_aloadn hG dX12_rents_116 rfl ?_
                        refine pm_iconst (v := nI 1) hG dX12_rents_117 (by decide) ?_
                        refine pm_callV (As := [.int (nI 1)]) (rest := []) hG hR dX12_rents_118 (lkX12_80 _ rfl) okV_X12_finds rfl rfl (m_finds (d := 1) (by decide) hnn_70 hz (by omega)) rfl rfl hdd (Nat.le_refl _) (Nat.le_refl _) (by decide) (pm_ki (fun v83 σ' cnt' hq => ?_))
                        obtain ⟨⟨I84, A84, rfl⟩, rfl⟩ := hq
                        exact pm_iret hG hF dX12_rents_121 rfl (Nat.le_refl _) (Nat.le_refl _) ⟨_, rfl, ⟨_, _, _, rfl, hnn_70, hrn_70⟩, rfl⟩
                exact loop85_70 _ I A n 0 hn hr (by omega) (Nat.lt_succ_self _)
              · refine pm_aloadn hG dX12_rents_77 rfl ?_
                refine pm_iconst (v := nI 3) hG dX12_rents_78 (by decide) ?_
                refine pm_callV (As := [.int (nI 3)]) (rest := []) hG hR dX12_rents_79 (lkX12_80 _ rfl) okV_X12_finds rfl rfl (m_finds (d := 1) (by decide) hn hz (by omega)) rfl rfl hdd (Nat.le_refl _) (Nat.le_refl _) (by decide) (pm_ki (fun v85 σ' cnt' hq => ?_))
                obtain ⟨⟨I86, A86, rfl⟩, rfl⟩ := hq
                exact pm_iret hG hF dX12_rents_82 rfl (Nat.le_refl _) (Nat.le_refl _) ⟨_, rfl, ⟨_, _, _, rfl, hn, hr⟩, rfl⟩
            · refine pm_aloadn hG dX12_rents_56 rfl ?_
              refine pm_iconst (v := nI 5) hG dX12_rents_57 (by decide) ?_
              refine pm_callV (As := [.int (nI 5)]) (rest := []) hG hR dX12_rents_58 (lkX12_80 _ rfl) okV_X12_finds rfl rfl (m_finds (d := 1) (by decide) hn hz (by omega)) rfl rfl hdd (Nat.le_refl _) (Nat.le_refl _) (by decide) (pm_ki (fun v87 σ' cnt' hq => ?_))
              obtain ⟨⟨I88, A88, rfl⟩, rfl⟩ := hq
              exact pm_iret hG hF dX12_rents_61 rfl (Nat.le_refl _) (Nat.le_refl _) ⟨_, rfl, ⟨_, _, _, rfl, hn, hr⟩, rfl⟩
          · refine pm_aloadn hG dX12_rents_40 rfl ?_
            refine pm_iconst (v := nI 2) hG dX12_rents_41 (by decide) ?_
            refine pm_callV (As := [.int (nI 2)]) (rest := []) hG hR dX12_rents_42 (lkX12_80 _ rfl) okV_X12_finds rfl rfl (m_finds (d := 1) (by decide) hn hz (by omega)) rfl rfl hdd (Nat.le_refl _) (Nat.le_refl _) (by decide) (pm_ki (fun v89 σ' cnt' hq => ?_))
            obtain ⟨⟨I90, A90, rfl⟩, rfl⟩ := hq
            exact pm_iret hG hF dX12_rents_45 rfl (Nat.le_refl _) (Nat.le_refl _) ⟨_, rfl, ⟨_, _, _, rfl, hn, hr⟩, rfl⟩
        · refine pm_aloadn hG dX12_rents_25 rfl ?_
          refine pm_iconst (v := nI 1) hG dX12_rents_26 (by decide) ?_
          refine pm_callV (As := [.int (nI 1)]) (rest := []) hG hR dX12_rents_27 (lkX12_80 _ rfl) okV_X12_finds rfl rfl (m_finds (d := 1) (by decide) hn hz (by omega)) rfl rfl hdd (Nat.le_refl _) (Nat.le_refl _) (by decide) (pm_ki (fun v91 σ' cnt' hq => ?_))
          obtain ⟨⟨I92, A92, rfl⟩, rfl⟩ := hq
          exact pm_iret hG hF dX12_rents_30 rfl (Nat.le_refl _) (Nat.le_refl _) ⟨_, rfl, ⟨_, _, _, rfl, hn, hr⟩, rfl⟩
  · refine pm_ifN_eq (tgt := 25) hG dX12_rents_4 rfl (by omega) (fun _ => ?_) (fun q => absurd q (by omega))
    refine pm_aloadn hG dX12_rents_25 rfl ?_
    refine pm_iconst (v := nI 1) hG dX12_rents_26 (by decide) ?_
    refine pm_callV (As := [.int (nI 1)]) (rest := []) hG hR dX12_rents_27 (lkX12_80 _ rfl) okV_X12_finds rfl rfl (m_finds (d := 1) (by decide) hn hz (by omega)) rfl rfl hdd (Nat.le_refl _) (Nat.le_refl _) (by decide) (pm_ki (fun v93 σ' cnt' hq => ?_))
    obtain ⟨⟨I94, A94, rfl⟩, rfl⟩ := hq
    exact pm_iret hG hF dX12_rents_30 rfl (Nat.le_refl _) (Nat.le_refl _) ⟨_, rfl, ⟨_, _, _, rfl, hn, hr⟩, rfl⟩

set_option maxRecDepth 100000 in
set_option maxHeartbeats 4000000 in
theorem m_road {d B cnt p0 t0 : Nat} {σ : pm_S} {I : Nat → Int32} {A : Nat → Nat → Int32} {n k z : Nat → Int32} {ac wt pl : Int32} {za zb zc : Int32} (hdd : 2 ≤ d) (hn : KI n) (hr : NR n) (hz : SZ z)  : pm_met mX12_road d 0 0 B [.ref (B + 54), .int za, .int zb, .int zc] cnt (pm_mid σ (md_L B I A n k z ac wt pl (nI p0) (nI t0))) (pm_Qi (fun v σ' cnt' => (∃ (I' : Nat → Int32) (A' : Nat → Nat → Int32) (n' : Nat → Int32), σ' = pm_mid σ (md_L B I' A' n' k z ac wt pl (nI p0) (nI t0)) ∧ KI n' ∧ NR n') ∧ cnt' = cnt)) := by
  refine pm_enter 1 (by decide) (Nat.le_of_ble_eq_true rfl) rfl (fun G hG hR hF => ?_)
  refine pm_aloadn hG dX12_road_0 rfl ?_
  refine pm_iloadn hG dX12_road_1 rfl ?_
  obtain ⟨k1, hk1, ek1⟩ := KI.nat hn (by decide)
  refine pm_callV (As := [.int za]) (rest := []) hG hR dX12_road_2 (lkX12_84 _ rfl) okV_X12_isTown rfl rfl (m_isTown (d := 1) (by decide) ek1 (by omega)) rfl rfl hdd (Nat.le_refl _) (Nat.le_refl _) (by decide) (pm_ki (fun v2 σ' cnt' hq => ?_))
  obtain ⟨hq, rfl, rfl⟩ := hq
  rcases hq with ⟨rfl, k4, hk4, ek4⟩ | rfl
  · refine pm_ifN_eq (tgt := 31) hG dX12_road_5 rfl (by omega) (fun q => absurd q (by omega)) (fun _ => ?_)
    refine pm_aloadn hG dX12_road_8 rfl ?_
    refine pm_iloadn hG dX12_road_9 rfl ?_
    refine pm_callV (As := [.int zb]) (rest := []) hG hR dX12_road_10 (lkX12_84 _ rfl) okV_X12_isTown rfl rfl (m_isTown (d := 1) (by decide) ek1 (by omega)) rfl rfl hdd (Nat.le_refl _) (Nat.le_refl _) (by decide) (pm_ki (fun v5 σ' cnt' hq => ?_))
    obtain ⟨hq, rfl, rfl⟩ := hq
    rcases hq with ⟨rfl, k7, hk7, ek7⟩ | rfl
    · refine pm_ifN_eq (tgt := 31) hG dX12_road_13 rfl (by omega) (fun q => absurd q (by omega)) (fun _ => ?_)
      refine pm_iloadn hG dX12_road_16 rfl ?_
      refine pm_top (v := nI k4) ek4 ?_
      refine pm_iloadn hG dX12_road_17 rfl ?_
      refine pm_top (v := nI k7) ek7 ?_
      refine pm_icmpN_eq (tgt := 31) hG dX12_road_18 rfl (by omega) (by omega) (fun c8 => ?_) (fun c8 => ?_)
      · refine pm_aloadn hG dX12_road_31 rfl ?_
        refine pm_iconst (v := nI 1) hG dX12_road_32 (by decide) ?_
        refine pm_callV (As := [.int (nI 1)]) (rest := []) hG hR dX12_road_33 (lkX12_80 _ rfl) okV_X12_finds rfl rfl (m_finds (d := 1) (by decide) hn hz (by omega)) rfl rfl hdd (Nat.le_refl _) (Nat.le_refl _) (by decide) (pm_ki (fun v9 σ' cnt' hq => ?_))
        obtain ⟨⟨I10, A10, rfl⟩, rfl⟩ := hq
        exact pm_iret hG hF dX12_road_36 rfl (Nat.le_refl _) (Nat.le_refl _) ⟨_, rfl, ⟨_, _, _, rfl, hn, hr⟩, rfl⟩
      · refine pm_iloadn hG dX12_road_21 rfl ?_
        refine pm_iconst (v := nI 1) hG dX12_road_22 (by decide) ?_
        refine pm_bipush (v := nI 9) hG dX12_road_23 (by decide) ?_
        refine pm_callS (As := [.int zc, .int (nI 1), .int (nI 9)]) (rest := []) hG hR dX12_road_25 (lkX12_68 _ rfl) okS_X12_in (m_in (d := 1)) rfl rfl hdd (Nat.le_refl _) (Nat.le_refl _) (by decide) (pm_ki (fun v11 σ' cnt' hq => ?_))
        obtain ⟨hq, rfl, rfl⟩ := hq
        rcases hq with ⟨rfl, ac12, bc12⟩ | ⟨rfl, c12⟩
        · obtain ⟨k13, hk13, ek13⟩ := in_nat (by omega) (by omega) ac12 bc12
          refine pm_ifN_ne (tgt := 37) hG dX12_road_28 rfl (by omega) (fun _ => ?_) (fun q => absurd q (by omega))
          refine pm_aloadn hG dX12_road_37 rfl ?_
          refine pm_getf hG dX12_road_38 (flX12_7 _ rfl) rfl rfl ?_
          refine pm_iconst (v := nI 1) hG dX12_road_41 (by decide) ?_
          refine pm_ialdN hG dX12_road_42 rfl (by decide) (by omega) ?_
          obtain ⟨k14, hk14, ek14⟩ := KI.nat hn (by decide)
          refine pm_top (v := nI k14) ek14 ?_
          refine pm_istoreXi (loc' := [some (.ref (B + 54)), some (.int za), some (.int zb), some (.int zc), some (.int (nI k14))]) hG dX12_road_43 (by decide) (pm_c1b rfl) rfl ?_
          refine pm_iloadi hG dX12_road_45 rfl ?_
          refine pm_bipush (v := nI 20) hG dX12_road_47 (by decide) ?_
          refine pm_icmpN_ne (tgt := 58) hG dX12_road_49 rfl (by omega) (by omega) (fun c15 => ?_) (fun c15 => ?_)
          · refine pm_aloadn hG dX12_road_58 rfl ?_
            refine pm_getf hG dX12_road_59 (flX12_7 _ rfl) rfl rfl ?_
            refine pm_iconst (v := nI 1) hG dX12_road_62 (by decide) ?_
            refine pm_dup2 hG dX12_road_63 rfl rfl ?_
            refine pm_ialdN hG dX12_road_64 rfl (by decide) (by omega) ?_
            refine pm_top (v := nI k14) ek14 ?_
            refine pm_iconst (v := nI 1) hG dX12_road_65 (by decide) ?_
            refine pm_iaddN (c := k14 + 1) hG dX12_road_66 (by omega) ?_
            refine pm_iastN hG dX12_road_67 rfl (by decide) (by omega) ?_
            refine mdn_now (fun n_16 en_16 => ?_)
            have hnn_16 := KI.w en_16 hn (okv_n (by decide) (by omega))
            have hrn_16 := NRx.w en_16 hr (by decide)
            have e17 : n_16 0 = nI k1 := by rw [en_16, pk_un (by omega)]; exact ek1
            have e18 : n_16 1 = nI (k14 + 1) := by rw [en_16, pk_us]
            refine pm_aloadn hG dX12_road_68 rfl ?_
            refine pm_getf hG dX12_road_69 (flX12_7 _ rfl) rfl rfl ?_
            refine pm_bipush (v := nI 50) hG dX12_road_72 (by decide) ?_
            refine pm_iconst (v := nI 3) hG dX12_road_74 (by decide) ?_
            refine pm_iloadi hG dX12_road_75 rfl ?_
            refine pm_imulN (c := 3 * k14) hG dX12_road_77 (by omega) ?_
            refine pm_iaddN (c := 3 * k14 + 50) hG dX12_road_78 (by omega) ?_
            refine pm_iloadn hG dX12_road_79 rfl ?_
            refine pm_top (v := nI k4) ek4 ?_
            refine pm_iastN hG dX12_road_80 rfl (by decide) (by omega) ?_
            refine mdn_now (fun n_19 en_19 => ?_)
            have hnn_19 := KI.w en_19 hnn_16 (okv_n (kd_R (k := k14) (c := 0) (by omega) (by omega) (by decide)) (by omega))
            have hrn_19 := NRx.w en_19 hrn_16 (by rw [(kd_R (k := k14) (c := 0) (by omega) (by omega) (by decide))]; rfl)
            have e20 : n_19 0 = nI k1 := by rw [en_19, pk_un (by omega)]; exact e17
            have e21 : n_19 1 = nI (k14 + 1) := by rw [en_19, pk_un (by omega)]; exact e18
            have e22 : n_19 (3 * k14 + 50) = nI k4 := by rw [en_19, pk_us]
            refine pm_aloadn hG dX12_road_81 rfl ?_
            refine pm_getf hG dX12_road_82 (flX12_7 _ rfl) rfl rfl ?_
            refine pm_bipush (v := nI 50) hG dX12_road_85 (by decide) ?_
            refine pm_iconst (v := nI 3) hG dX12_road_87 (by decide) ?_
            refine pm_iloadi hG dX12_road_88 rfl ?_
            refine pm_imulN (c := 3 * k14) hG dX12_road_90 (by omega) ?_
            refine pm_iaddN (c := 3 * k14 + 50) hG dX12_road_91 (by omega) ?_
            refine pm_iconst (v := nI 1) hG dX12_road_92 (by decide) ?_
            refine pm_iaddN (c := 3 * k14 + 51) hG dX12_road_93 (by omega) ?_
            refine pm_iloadn hG dX12_road_94 rfl ?_
            refine pm_top (v := nI k7) ek7 ?_
            refine pm_iastN hG dX12_road_95 rfl (by decide) (by omega) ?_
            refine mdn_now (fun n_23 en_23 => ?_)
            have hnn_23 := KI.w en_23 hnn_19 (okv_n (kd_R (k := k14) (c := 1) (by omega) (by omega) (by decide)) (by omega))
            have hrn_23 := NRx.w en_23 hrn_19 (by rw [(kd_R (k := k14) (c := 1) (by omega) (by omega) (by decide))]; rfl)
            have e24 : n_23 0 = nI k1 := by rw [en_23, pk_un (by omega)]; exact e20
            have e25 : n_23 1 = nI (k14 + 1) := by rw [en_23, pk_un (by omega)]; exact e21
            have e26 : n_23 (3 * k14 + 50) = nI k4 := by rw [en_23, pk_un (by omega)]; exact e22
            have e27 : n_23 (3 * k14 + 51) = nI k7 := by rw [en_23, pk_us]
            refine pm_aloadn hG dX12_road_96 rfl ?_
            refine pm_getf hG dX12_road_97 (flX12_7 _ rfl) rfl rfl ?_
            refine pm_bipush (v := nI 50) hG dX12_road_100 (by decide) ?_
            refine pm_iconst (v := nI 3) hG dX12_road_102 (by decide) ?_
            refine pm_iloadi hG dX12_road_103 rfl ?_
            refine pm_imulN (c := 3 * k14) hG dX12_road_105 (by omega) ?_
            refine pm_iaddN (c := 3 * k14 + 50) hG dX12_road_106 (by omega) ?_
            refine pm_iconst (v := nI 2) hG dX12_road_107 (by decide) ?_
            refine pm_iaddN (c := 3 * k14 + 52) hG dX12_road_108 (by omega) ?_
            refine pm_iloadn hG dX12_road_109 rfl ?_
            refine pm_top (v := nI k13) ek13 ?_
            refine pm_iastN hG dX12_road_110 rfl (by decide) (by omega) ?_
            refine mdn_now (fun n_28 en_28 => ?_)
            have hnn_28 := KI.w en_28 hnn_23 (okv_n (kd_R (k := k14) (c := 2) (by omega) (by omega) (by decide)) (by omega))
            have hrn_28 := NRx.w en_28 hrn_23 (by rw [(kd_R (k := k14) (c := 2) (by omega) (by omega) (by decide))]; rfl)
            have e29 : n_28 0 = nI k1 := by rw [en_28, pk_un (by omega)]; exact e24
            have e30 : n_28 1 = nI (k14 + 1) := by rw [en_28, pk_un (by omega)]; exact e25
            have e31 : n_28 (3 * k14 + 50) = nI k4 := by rw [en_28, pk_un (by omega)]; exact e26
            have e32 : n_28 (3 * k14 + 51) = nI k7 := by rw [en_28, pk_un (by omega)]; exact e27
            have e33 : n_28 (3 * k14 + 52) = nI k13 := by rw [en_28, pk_us]
            refine pm_iloadi hG dX12_road_111 rfl ?_
            refine pm_iconst (v := nI 1) hG dX12_road_113 (by decide) ?_
            refine pm_iaddN (c := k14 + 1) hG dX12_road_114 (by omega) ?_
            exact pm_iret hG hF dX12_road_115 rfl (Nat.le_refl _) (Nat.le_refl _) ⟨_, rfl, ⟨_, _, _, rfl, hnn_28, hrn_28⟩, rfl⟩
          · refine pm_aloadn hG dX12_road_52 rfl ?_
            refine pm_iconst (v := nI 4) hG dX12_road_53 (by decide) ?_
            refine pm_callV (As := [.int (nI 4)]) (rest := []) hG hR dX12_road_54 (lkX12_80 _ rfl) okV_X12_finds rfl rfl (m_finds (d := 1) (by decide) hn hz (by omega)) rfl rfl hdd (Nat.le_refl _) (Nat.le_refl _) (by decide) (pm_ki (fun v34 σ' cnt' hq => ?_))
            obtain ⟨⟨I35, A35, rfl⟩, rfl⟩ := hq
            exact pm_iret hG hF dX12_road_57 rfl (Nat.le_refl _) (Nat.le_refl _) ⟨_, rfl, ⟨_, _, _, rfl, hn, hr⟩, rfl⟩
        · refine pm_ifN_ne (tgt := 37) hG dX12_road_28 rfl (by omega) (fun q => absurd q (by omega)) (fun _ => ?_)
          refine pm_aloadn hG dX12_road_31 rfl ?_
          refine pm_iconst (v := nI 1) hG dX12_road_32 (by decide) ?_
          refine pm_callV (As := [.int (nI 1)]) (rest := []) hG hR dX12_road_33 (lkX12_80 _ rfl) okV_X12_finds rfl rfl (m_finds (d := 1) (by decide) hn hz (by omega)) rfl rfl hdd (Nat.le_refl _) (Nat.le_refl _) (by decide) (pm_ki (fun v36 σ' cnt' hq => ?_))
          obtain ⟨⟨I37, A37, rfl⟩, rfl⟩ := hq
          exact pm_iret hG hF dX12_road_36 rfl (Nat.le_refl _) (Nat.le_refl _) ⟨_, rfl, ⟨_, _, _, rfl, hn, hr⟩, rfl⟩
    · refine pm_ifN_eq (tgt := 31) hG dX12_road_13 rfl (by omega) (fun _ => ?_) (fun q => absurd q (by omega))
      refine pm_aloadn hG dX12_road_31 rfl ?_
      refine pm_iconst (v := nI 1) hG dX12_road_32 (by decide) ?_
      refine pm_callV (As := [.int (nI 1)]) (rest := []) hG hR dX12_road_33 (lkX12_80 _ rfl) okV_X12_finds rfl rfl (m_finds (d := 1) (by decide) hn hz (by omega)) rfl rfl hdd (Nat.le_refl _) (Nat.le_refl _) (by decide) (pm_ki (fun v38 σ' cnt' hq => ?_))
      obtain ⟨⟨I39, A39, rfl⟩, rfl⟩ := hq
      exact pm_iret hG hF dX12_road_36 rfl (Nat.le_refl _) (Nat.le_refl _) ⟨_, rfl, ⟨_, _, _, rfl, hn, hr⟩, rfl⟩
  · refine pm_ifN_eq (tgt := 31) hG dX12_road_5 rfl (by omega) (fun _ => ?_) (fun q => absurd q (by omega))
    refine pm_aloadn hG dX12_road_31 rfl ?_
    refine pm_iconst (v := nI 1) hG dX12_road_32 (by decide) ?_
    refine pm_callV (As := [.int (nI 1)]) (rest := []) hG hR dX12_road_33 (lkX12_80 _ rfl) okV_X12_finds rfl rfl (m_finds (d := 1) (by decide) hn hz (by omega)) rfl rfl hdd (Nat.le_refl _) (Nat.le_refl _) (by decide) (pm_ki (fun v40 σ' cnt' hq => ?_))
    obtain ⟨⟨I41, A41, rfl⟩, rfl⟩ := hq
    exact pm_iret hG hF dX12_road_36 rfl (Nat.le_refl _) (Nat.le_refl _) ⟨_, rfl, ⟨_, _, _, rfl, hn, hr⟩, rfl⟩
