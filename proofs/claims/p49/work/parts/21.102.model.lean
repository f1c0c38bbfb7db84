set_option maxRecDepth 100000 in
set_option maxHeartbeats 4000000 in
theorem m_rents {d B cnt p0 t0 : Nat} {σ : pm_S} {I : Nat → Int32} {A : Nat → Nat → Int32} {n k z : Nat → Int32} {ac wt pl im : Int32} {y : Nat → Int32} {za zb : Int32} (hdd : 2 ≤ d) (hn : KI n) (hr : NR n) (hz : SZ z)  : pm_met mX12_rents d 0 0 B [.ref (B + 54), .int za, .int zb] cnt (pm_mid σ (md_L B I A n k z ac wt pl (nI p0) (nI t0) im y)) (pm_Qi (fun v σ' cnt' => (∃ (I' : Nat → Int32) (A' : Nat → Nat → Int32) (n' : Nat → Int32), σ' = pm_mid σ (md_L B I' A' n' k z ac wt pl (nI p0) (nI t0) im y) ∧ KI n' ∧ NR n') ∧ cnt = cnt')) := by
  refine pm_enter 2 (by decide) (Nat.le_of_ble_eq_true rfl) rfl (fun G hG hR hF => ?_)
  refine pm_iloadn hG dX12_rents_0 rfl ?_
  refine pm_callS (As := [.int za]) (rest := []) hG hR dX12_rents_1 (lkX12_239 _ rfl) okS_X12_isSheet (m_isSheet (d := 1) (by decide)) rfl rfl hdd (Nat.le_refl _) (Nat.le_refl _) (by decide) (pm_ki (fun v1 σ' cnt' hq => ?_))
  obtain ⟨hq, rfl, rfl⟩ := hq
  rcases hq with ⟨rfl, ac2, bc2⟩ | ⟨rfl, c2⟩
  · obtain ⟨k3, hk3, ek3⟩ := in_nat (by omega) (by omega) ac2 bc2
    refine pm_ifN_eq (tgt := 25) hG dX12_rents_4 rfl (by omega) (fun q => absurd q (by omega)) (fun _ => ?_)
    refine pm_iloadn hG dX12_rents_7 rfl ?_
    refine pm_bipush (v := nI 8) hG dX12_rents_8 (by decide) ?_
    refine pm_icmp_eq (tgt := 31) hG dX12_rents_10 rfl (fun c4 => ?_) (fun c4 => ?_)
    · refine pm_aloadn hG dX12_rents_31 rfl ?_
      refine pm_getf hG dX12_rents_32 (flX12_55 _ rfl) rfl rfl ?_
      refine pm_iloadn hG dX12_rents_35 rfl ?_
      refine pm_top (v := nI k3) ek3 ?_
      refine pm_ialdN hG dX12_rents_36 rfl (by decide) (by omega) ?_
      refine pm_gen (fun x5 ex5 => ?_)
      refine pm_if_ne (tgt := 46) hG dX12_rents_37 rfl (fun c6 => ?_) (fun c6 => ?_)
      · refine pm_aloadn hG dX12_rents_46 rfl ?_
        refine pm_getf hG dX12_rents_47 (flX12_55 _ rfl) rfl rfl ?_
        refine pm_iloadn hG dX12_rents_50 rfl ?_
        refine pm_top (v := nI k3) ek3 ?_
        refine pm_ialdN hG dX12_rents_51 rfl (by decide) (by omega) ?_
        refine pm_top (v := x5) ex5 ?_
        refine pm_iloadn hG dX12_rents_52 rfl ?_
        refine pm_top (v := nI 8) c4 ?_
        refine pm_icmp_eq (tgt := 62) hG dX12_rents_53 rfl (fun c7 => ?_) (fun c7 => ?_)
        · refine pm_aloadn hG dX12_rents_62 rfl ?_
          refine pm_getf hG dX12_rents_63 (flX12_58 _ rfl) rfl rfl ?_
          refine pm_iloadn hG dX12_rents_66 rfl ?_
          refine pm_top (v := nI k3) ek3 ?_
          refine pm_ialdN hG dX12_rents_67 rfl (by decide) (by omega) ?_
          obtain ⟨k8, hk8, ek8⟩ := hz k3 (by omega)
          refine pm_top (v := nI k8) ek8 ?_
          refine pm_aloadn hG dX12_rents_68 rfl ?_
          refine pm_getf hG dX12_rents_69 (flX12_7 _ rfl) rfl rfl ?_
          refine pm_iconst (v := nI 0) hG dX12_rents_72 (by decide) ?_
          refine pm_ialdN hG dX12_rents_73 rfl (by decide) (by omega) ?_
          obtain ⟨k9, hk9, ek9⟩ := KI.nat hn (show kd 0 = (1, 11, true) by decide)
          refine pm_top (v := nI k9) ek9 ?_
          refine pm_icmpN_le (tgt := 83) hG dX12_rents_74 rfl (by omega) (by omega) (fun c10 => ?_) (fun c10 => ?_)
          · refine pm_iconst (v := nI 0) hG dX12_rents_83 (by decide) ?_
            refine pm_istoreXn (loc' := [some (.ref (B + 54)), some (.int za), some (.int zb), some (.int (nI 0)), none]) hG dX12_rents_84 (by decide) (pm_c1b rfl) rfl ?_
            have loop85_11 : ∀ (m11 : Nat) (I11 : Nat → Int32) (A11 : Nat → Nat → Int32) (n_11 : Nat → Int32) (i11 : Nat), KI n_11 → NRx 40 n_11 → i11 ≤ 24 → 24 - i11 < m11 → pm_wp mX12_rents G B 85 [some (.ref (B + 54)), some (.int za), some (.int zb), some (.int (nI i11)), none] [] 0 0 cnt (pm_mid σ (md_L B I11 A11 n_11 k z ac wt pl (nI p0) (nI t0) im y)) := by
              intro m11
              induction m11 with
              | zero => intro I11 A11 n_11 i11 _ _ _ hm; exact absurd hm (Nat.not_lt_zero _)
              | succ m11 ih11 =>
                intro I11 A11 n_11 i11 hnn_11 hrn_11 hi11 hm11
                refine pm_iloadn hG dX12_rents_85 rfl ?_
                refine pm_aloadn hG dX12_rents_86 rfl ?_
                refine pm_getf hG dX12_rents_87 (flX12_58 _ rfl) rfl rfl ?_
                refine pm_iloadn hG dX12_rents_90 rfl ?_
                refine pm_top (v := nI k3) ek3 ?_
                refine pm_ialdN hG dX12_rents_91 rfl (by decide) (by omega) ?_
                refine pm_top (v := nI k8) ek8 ?_
                refine pm_icmpN_ge (tgt := 128) hG dX12_rents_92 rfl (by omega) (by omega) (fun c12 => ?_) (fun c12 => ?_)
                · refine pm_iconst (v := nI 0) hG dX12_rents_128 (by decide) ?_
                  refine pm_istoreXn (loc' := [some (.ref (B + 54)), some (.int za), some (.int zb), some (.int (nI 0)), none]) hG dX12_rents_129 (by decide) (pm_c1b rfl) rfl ?_
                  refine pm_iconst (v := nI 0) hG dX12_rents_130 (by decide) ?_
                  refine pm_istoreXi (loc' := [some (.ref (B + 54)), some (.int za), some (.int zb), some (.int (nI 0)), some (.int (nI 0))]) hG dX12_rents_131 (by decide) (pm_c1b rfl) rfl ?_
                  have loop133_13 : ∀ (m13 : Nat) (I13 : Nat → Int32) (A13 : Nat → Nat → Int32) (n_13 : Nat → Int32) (x13_3 : Int32) (i13 : Nat), KI n_13 → NRx 40 n_13 → i13 ≤ 24 → 24 - i13 < m13 → pm_wp mX12_rents G B 133 [some (.ref (B + 54)), some (.int za), some (.int zb), some (.int x13_3), some (.int (nI i13))] [] 0 0 cnt (pm_mid σ (md_L B I13 A13 n_13 k z ac wt pl (nI p0) (nI t0) im y)) := by
                    intro m13
                    induction m13 with
                    | zero => intro I13 A13 n_13 x13_3 i13 _ _ _ hm; exact absurd hm (Nat.not_lt_zero _)
                    | succ m13 ih13 =>
                      intro I13 A13 n_13 x13_3 i13 hnn_13 hrn_13 hi13 hm13
                      refine pm_iloadi hG dX12_rents_133 rfl ?_
                      refine pm_aloadn hG dX12_rents_135 rfl ?_
                      refine pm_getf hG dX12_rents_136 (flX12_58 _ rfl) rfl rfl ?_
                      refine pm_iloadn hG dX12_rents_139 rfl ?_
                      refine pm_top (v := nI k3) ek3 ?_
                      refine pm_ialdN hG dX12_rents_140 rfl (by decide) (by omega) ?_
                      refine pm_top (v := nI k8) ek8 ?_
                      refine pm_icmpN_ge (tgt := 195) hG dX12_rents_141 rfl (by omega) (by omega) (fun c14 => ?_) (fun c14 => ?_)
                      · refine pm_iloadn hG dX12_rents_195 rfl ?_
                        exact pm_iret hG hF dX12_rents_196 rfl (Nat.le_refl _) (Nat.le_refl _) ⟨_, rfl, ⟨_, _, _, rfl, hnn_13, hrn_13⟩, rfl⟩
                      · refine pm_aloadn hG dX12_rents_144 rfl ?_
                        refine pm_getf hG dX12_rents_145 (flX12_61 _ rfl) rfl rfl ?_
                        refine pm_bipush (v := nI 24) hG dX12_rents_148 (by decide) ?_
                        refine pm_iloadn hG dX12_rents_150 rfl ?_
                        refine pm_top (v := nI k3) ek3 ?_
                        refine pm_imulN (c := 24 * k3) hG dX12_rents_151 (by omega) ?_
                        refine pm_iloadi hG dX12_rents_152 rfl ?_
                        refine pm_iaddN (c := i13 + 24 * k3) hG dX12_rents_154 (by omega) ?_
                        refine pm_ialdN hG dX12_rents_155 rfl (by decide) (by omega) ?_
                        refine pm_any (fun x15 => ?_)
                        refine pm_if_ge (tgt := 162) hG dX12_rents_156 rfl (fun c16 => ?_) (fun c16 => ?_)
                        · obtain ⟨k17, hk17, ek17⟩ := nI_of (Int32.not_lt.mpr c16)
                          refine pm_aloadn hG dX12_rents_162 rfl ?_
                          refine pm_getf hG dX12_rents_163 (flX12_7 _ rfl) rfl rfl ?_
                          refine pm_bipush (v := nI 20) hG dX12_rents_166 (by decide) ?_
                          refine pm_iconst (v := nI 3) hG dX12_rents_168 (by decide) ?_
                          refine pm_iloadi hG dX12_rents_169 rfl ?_
                          refine pm_imulN (c := 3 * i13) hG dX12_rents_171 (by omega) ?_
                          refine pm_iaddN (c := 3 * i13 + 20) hG dX12_rents_172 (by omega) ?_
                          refine pm_aloadn hG dX12_rents_173 rfl ?_
                          refine pm_getf hG dX12_rents_174 (flX12_61 _ rfl) rfl rfl ?_
                          refine pm_bipush (v := nI 24) hG dX12_rents_177 (by decide) ?_
                          refine pm_iloadn hG dX12_rents_179 rfl ?_
                          refine pm_top (v := nI k3) ek3 ?_
                          refine pm_imulN (c := 24 * k3) hG dX12_rents_180 (by omega) ?_
                          refine pm_iloadi hG dX12_rents_181 rfl ?_
                          refine pm_iaddN (c := i13 + 24 * k3) hG dX12_rents_183 (by omega) ?_
                          refine pm_ialdN hG dX12_rents_184 rfl (by decide) (by omega) ?_
                          refine pm_any (fun x18 => ?_)
                          refine pm_iastN hG dX12_rents_185 rfl (by decide) (by omega) ?_
                          refine mdn_now (fun n_19 en_19 => ?_)
                          have hnn_19 := KI.w en_19 hnn_13 (okv_f (show kd (3 * i13 + 20) = (0, 0, false) from (kd_T (k := i13) (c := 0) (by omega) (by omega) (by decide))))
                          have hrn_19 := NRx.w en_19 hrn_13 (by rw [(show kd (3 * i13 + 20) = (0, 0, false) from (kd_T (k := i13) (c := 0) (by omega) (by omega) (by decide)))])
                          have e20 : n_19 (3 * i13 + 20) = x18 := by rw [en_19, pk_us]
                          refine pm_iincX (v := x13_3 + 1) (loc' := [some (.ref (B + 54)), some (.int za), some (.int zb), some (.int (x13_3 + 1)), some (.int (nI i13))]) hG dX12_rents_186 rfl (by rfl) (by decide) (pm_c1b rfl) rfl ?_
                          refine pm_iincX (v := nI (i13 + 1)) (loc' := [some (.ref (B + 54)), some (.int za), some (.int zb), some (.int (x13_3 + 1)), some (.int (nI (i13 + 1)))]) hG dX12_rents_189 rfl (nI_1 _) (by decide) (pm_c1b rfl) rfl ?_
                          refine pm_goto (tgt := 133) hG dX12_rents_192 rfl ?_
                          exact ih13 I13 A13 n_19 (x13_3 + 1) (i13 + 1) hnn_19 hrn_19 (by omega) (by omega)
                        · refine pm_goto (tgt := 189) hG dX12_rents_159 rfl ?_
                          refine pm_iincX (v := nI (i13 + 1)) (loc' := [some (.ref (B + 54)), some (.int za), some (.int zb), some (.int x13_3), some (.int (nI (i13 + 1)))]) hG dX12_rents_189 rfl (nI_1 _) (by decide) (pm_c1b rfl) rfl ?_
                          refine pm_goto (tgt := 133) hG dX12_rents_192 rfl ?_
                          exact ih13 I13 A13 n_13 x13_3 (i13 + 1) hnn_13 hrn_13 (by omega) (by omega)
                  exact loop133_13 _ I11 A11 n_11 (nI 0) 0 hnn_11 hrn_11 (by omega) (Nat.lt_succ_self _)
                · refine pm_aloadn hG dX12_rents_95 rfl ?_
                  refine pm_getf hG dX12_rents_96 (flX12_61 _ rfl) rfl rfl ?_
                  refine pm_bipush (v := nI 24) hG dX12_rents_99 (by decide) ?_
                  refine pm_iloadn hG dX12_rents_101 rfl ?_
                  refine pm_top (v := nI k3) ek3 ?_
                  refine pm_imulN (c := 24 * k3) hG dX12_rents_102 (by omega) ?_
                  refine pm_iloadn hG dX12_rents_103 rfl ?_
                  refine pm_iaddN (c := i11 + 24 * k3) hG dX12_rents_104 (by omega) ?_
                  refine pm_ialdN hG dX12_rents_105 rfl (by decide) (by omega) ?_
                  refine pm_any (fun x21 => ?_)
                  refine pm_iconst (v := (-1)) hG dX12_rents_106 (by decide) ?_
                  refine pm_sipush (v := nI 999) hG dX12_rents_107 (by decide) ?_
                  refine pm_callS (As := [.int x21, .int (-1), .int (nI 999)]) (rest := []) hG hR dX12_rents_110 (lkX12_68 _ rfl) okS_X12_in (m_in (d := 1)) rfl rfl hdd (Nat.le_refl _) (Nat.le_refl _) (by decide) (pm_ki (fun v22 σ' cnt' hq => ?_))
                  obtain ⟨hq, rfl, rfl⟩ := hq
                  rcases hq with ⟨rfl, ac23, bc23⟩ | ⟨rfl, c23⟩
                  · refine pm_ifN_ne (tgt := 122) hG dX12_rents_113 rfl (by omega) (fun _ => ?_) (fun q => absurd q (by omega))
                    refine pm_iincX (v := nI (i11 + 1)) (loc' := [some (.ref (B + 54)), some (.int za), some (.int zb), some (.int (nI (i11 + 1))), none]) hG dX12_rents_122 rfl (nI_1 _) (by decide) (pm_c1b rfl) rfl ?_
                    refine pm_goto (tgt := 85) hG dX12_rents_125 rfl ?_
                    exact ih11 I11 A11 n_11 (i11 + 1) hnn_11 hrn_11 (by omega) (by omega)
                  · refine pm_ifN_ne (tgt := 122) hG dX12_rents_113 rfl (by omega) (fun q => absurd q (by omega)) (fun _ => ?_)
                    refine pm_aloadn hG dX12_rents_116 rfl ?_
                    refine pm_iconst (v := nI 1) hG dX12_rents_117 (by decide) ?_
                    refine pm_callV (As := [.int (nI 1)]) (rest := []) hG hR dX12_rents_118 (lkX12_80 _ rfl) okV_X12_finds rfl rfl (m_finds (d := 1) (by decide) hnn_11 hz (by omega)) rfl rfl hdd (Nat.le_refl _) (Nat.le_refl _) (by decide) (pm_ki (fun v24 σ' cnt' hq => ?_))
                    obtain ⟨⟨I25, A25, rfl⟩, rfl, fv24⟩ := hq
                    exact pm_iret hG hF dX12_rents_121 rfl (Nat.le_refl _) (Nat.le_refl _) ⟨_, rfl, ⟨_, _, _, rfl, hnn_11, hrn_11⟩, rfl⟩
            exact loop85_11 _ I A n 0 hn hr (by omega) (Nat.lt_succ_self _)
          · refine pm_aloadn hG dX12_rents_77 rfl ?_
            refine pm_iconst (v := nI 3) hG dX12_rents_78 (by decide) ?_
            refine pm_callV (As := [.int (nI 3)]) (rest := []) hG hR dX12_rents_79 (lkX12_80 _ rfl) okV_X12_finds rfl rfl (m_finds (d := 1) (by decide) hn hz (by omega)) rfl rfl hdd (Nat.le_refl _) (Nat.le_refl _) (by decide) (pm_ki (fun v26 σ' cnt' hq => ?_))
            obtain ⟨⟨I27, A27, rfl⟩, rfl, fv26⟩ := hq
            exact pm_iret hG hF dX12_rents_82 rfl (Nat.le_refl _) (Nat.le_refl _) ⟨_, rfl, ⟨_, _, _, rfl, hn, hr⟩, rfl⟩
        · refine pm_aloadn hG dX12_rents_56 rfl ?_
          refine pm_iconst (v := nI 5) hG dX12_rents_57 (by decide) ?_
          refine pm_callV (As := [.int (nI 5)]) (rest := []) hG hR dX12_rents_58 (lkX12_80 _ rfl) okV_X12_finds rfl rfl (m_finds (d := 1) (by decide) hn hz (by omega)) rfl rfl hdd (Nat.le_refl _) (Nat.le_refl _) (by decide) (pm_ki (fun v28 σ' cnt' hq => ?_))
          obtain ⟨⟨I29, A29, rfl⟩, rfl, fv28⟩ := hq
          exact pm_iret hG hF dX12_rents_61 rfl (Nat.le_refl _) (Nat.le_refl _) ⟨_, rfl, ⟨_, _, _, rfl, hn, hr⟩, rfl⟩
      · refine pm_aloadn hG dX12_rents_40 rfl ?_
        refine pm_iconst (v := nI 2) hG dX12_rents_41 (by decide) ?_
        refine pm_callV (As := [.int (nI 2)]) (rest := []) hG hR dX12_rents_42 (lkX12_80 _ rfl) okV_X12_finds rfl rfl (m_finds (d := 1) (by decide) hn hz (by omega)) rfl rfl hdd (Nat.le_refl _) (Nat.le_refl _) (by decide) (pm_ki (fun v30 σ' cnt' hq => ?_))
        obtain ⟨⟨I31, A31, rfl⟩, rfl, fv30⟩ := hq
        exact pm_iret hG hF dX12_rents_45 rfl (Nat.le_refl _) (Nat.le_refl _) ⟨_, rfl, ⟨_, _, _, rfl, hn, hr⟩, rfl⟩
    · refine pm_iloadn hG dX12_rents_13 rfl ?_
      refine pm_bipush (v := nI 16) hG dX12_rents_14 (by decide) ?_
      refine pm_icmp_eq (tgt := 31) hG dX12_rents_16 rfl (fun c32 => ?_) (fun c32 => ?_)
      · refine pm_aloadn hG dX12_rents_31 rfl ?_
        refine pm_getf hG dX12_rents_32 (flX12_55 _ rfl) rfl rfl ?_
        refine pm_iloadn hG dX12_rents_35 rfl ?_
        refine pm_top (v := nI k3) ek3 ?_
        refine pm_ialdN hG dX12_rents_36 rfl (by decide) (by omega) ?_
        refine pm_gen (fun x33 ex33 => ?_)
        refine pm_if_ne (tgt := 46) hG dX12_rents_37 rfl (fun c34 => ?_) (fun c34 => ?_)
        · refine pm_aloadn hG dX12_rents_46 rfl ?_
          refine pm_getf hG dX12_rents_47 (flX12_55 _ rfl) rfl rfl ?_
          refine pm_iloadn hG dX12_rents_50 rfl ?_
          refine pm_top (v := nI k3) ek3 ?_
          refine pm_ialdN hG dX12_rents_51 rfl (by decide) (by omega) ?_
          refine pm_top (v := x33) ex33 ?_
          refine pm_iloadn hG dX12_rents_52 rfl ?_
          refine pm_top (v := nI 16) c32 ?_
          refine pm_icmp_eq (tgt := 62) hG dX12_rents_53 rfl (fun c35 => ?_) (fun c35 => ?_)
          · refine pm_aloadn hG dX12_rents_62 rfl ?_
            refine pm_getf hG dX12_rents_63 (flX12_58 _ rfl) rfl rfl ?_
            refine pm_iloadn hG dX12_rents_66 rfl ?_
            refine pm_top (v := nI k3) ek3 ?_
            refine pm_ialdN hG dX12_rents_67 rfl (by decide) (by omega) ?_
            obtain ⟨k36, hk36, ek36⟩ := hz k3 (by omega)
            refine pm_top (v := nI k36) ek36 ?_
            refine pm_aloadn hG dX12_rents_68 rfl ?_
            refine pm_getf hG dX12_rents_69 (flX12_7 _ rfl) rfl rfl ?_
            refine pm_iconst (v := nI 0) hG dX12_rents_72 (by decide) ?_
            refine pm_ialdN hG dX12_rents_73 rfl (by decide) (by omega) ?_
            obtain ⟨k37, hk37, ek37⟩ := KI.nat hn (show kd 0 = (1, 11, true) by decide)
            refine pm_top (v := nI k37) ek37 ?_
            refine pm_icmpN_le (tgt := 83) hG dX12_rents_74 rfl (by omega) (by omega) (fun c38 => ?_) (fun c38 => ?_)
            · refine pm_iconst (v := nI 0) hG dX12_rents_83 (by decide) ?_
              refine pm_istoreXn (loc' := [some (.ref (B + 54)), some (.int za), some (.int zb), some (.int (nI 0)), none]) hG dX12_rents_84 (by decide) (pm_c1b rfl) rfl ?_
              have loop85_39 : ∀ (m39 : Nat) (I39 : Nat → Int32) (A39 : Nat → Nat → Int32) (n_39 : Nat → Int32) (i39 : Nat), KI n_39 → NRx 40 n_39 → i39 ≤ 24 → 24 - i39 < m39 → pm_wp mX12_rents G B 85 [some (.ref (B + 54)), some (.int za), some (.int zb), some (.int (nI i39)), none] [] 0 0 cnt (pm_mid σ (md_L B I39 A39 n_39 k z ac wt pl (nI p0) (nI t0) im y)) := by
                intro m39
                induction m39 with
                | zero => intro I39 A39 n_39 i39 _ _ _ hm; exact absurd hm (Nat.not_lt_zero _)
                | succ m39 ih39 =>
                  intro I39 A39 n_39 i39 hnn_39 hrn_39 hi39 hm39
                  refine pm_iloadn hG dX12_rents_85 rfl ?_
                  refine pm_aloadn hG dX12_rents_86 rfl ?_
                  refine pm_getf hG dX12_rents_87 (flX12_58 _ rfl) rfl rfl ?_
                  refine pm_iloadn hG dX12_rents_90 rfl ?_
                  refine pm_top (v := nI k3) ek3 ?_
                  refine pm_ialdN hG dX12_rents_91 rfl (by decide) (by omega) ?_
                  refine pm_top (v := nI k36) ek36 ?_
                  refine pm_icmpN_ge (tgt := 128) hG dX12_rents_92 rfl (by omega) (by omega) (fun c40 => ?_) (fun c40 => ?_)
                  · refine pm_iconst (v := nI 0) hG dX12_rents_128 (by decide) ?_
                    refine pm_istoreXn (loc' := [some (.ref (B + 54)), some (.int za), some (.int zb), some (.int (nI 0)), none]) hG dX12_rents_129 (by decide) (pm_c1b rfl) rfl ?_
                    refine pm_iconst (v := nI 0) hG dX12_rents_130 (by decide) ?_
                    refine pm_istoreXi (loc' := [some (.ref (B + 54)), some (.int za), some (.int zb), some (.int (nI 0)), some (.int (nI 0))]) hG dX12_rents_131 (by decide) (pm_c1b rfl) rfl ?_
                    have loop133_41 : ∀ (m41 : Nat) (I41 : Nat → Int32) (A41 : Nat → Nat → Int32) (n_41 : Nat → Int32) (x41_3 : Int32) (i41 : Nat), KI n_41 → NRx 40 n_41 → i41 ≤ 24 → 24 - i41 < m41 → pm_wp mX12_rents G B 133 [some (.ref (B + 54)), some (.int za), some (.int zb), some (.int x41_3), some (.int (nI i41))] [] 0 0 cnt (pm_mid σ (md_L B I41 A41 n_41 k z ac wt pl (nI p0) (nI t0) im y)) := by
                      intro m41
                      induction m41 with
                      | zero => intro I41 A41 n_41 x41_3 i41 _ _ _ hm; exact absurd hm (Nat.not_lt_zero _)
                      | succ m41 ih41 =>
                        intro I41 A41 n_41 x41_3 i41 hnn_41 hrn_41 hi41 hm41
                        refine pm_iloadi hG dX12_rents_133 rfl ?_
                        refine pm_aloadn hG dX12_rents_135 rfl ?_
                        refine pm_getf hG dX12_rents_136 (flX12_58 _ rfl) rfl rfl ?_
                        refine pm_iloadn hG dX12_rents_139 rfl ?_
                        refine pm_top (v := nI k3) ek3 ?_
                        refine pm_ialdN hG dX12_rents_140 rfl (by decide) (by omega) ?_
                        refine pm_top (v := nI k36) ek36 ?_
                        refine pm_icmpN_ge (tgt := 195) hG dX12_rents_141 rfl (by omega) (by omega) (fun c42 => ?_) (fun c42 => ?_)
                        · refine pm_iloadn hG dX12_rents_195 rfl ?_
                          exact pm_iret hG hF dX12_rents_196 rfl (Nat.le_refl _) (Nat.le_refl _) ⟨_, rfl, ⟨_, _, _, rfl, hnn_41, hrn_41⟩, rfl⟩
                        · refine pm_aloadn hG dX12_rents_144 rfl ?_
                          refine pm_getf hG dX12_rents_145 (flX12_61 _ rfl) rfl rfl ?_
                          refine pm_bipush (v := nI 24) hG dX12_rents_148 (by decide) ?_
                          refine pm_iloadn hG dX12_rents_150 rfl ?_
                          refine pm_top (v := nI k3) ek3 ?_
                          refine pm_imulN (c := 24 * k3) hG dX12_rents_151 (by omega) ?_
                          refine pm_iloadi hG dX12_rents_152 rfl ?_
                          refine pm_iaddN (c := i41 + 24 * k3) hG dX12_rents_154 (by omega) ?_
                          refine pm_ialdN hG dX12_rents_155 rfl (by decide) (by omega) ?_
                          refine pm_any (fun x43 => ?_)
                          refine pm_if_ge (tgt := 162) hG dX12_rents_156 rfl (fun c44 => ?_) (fun c44 => ?_)
                          · obtain ⟨k45, hk45, ek45⟩ := nI_of (Int32.not_lt.mpr c44)
                            refine pm_aloadn hG dX12_rents_162 rfl ?_
                            refine pm_getf hG dX12_rents_163 (flX12_7 _ rfl) rfl rfl ?_
                            refine pm_bipush (v := nI 20) hG dX12_rents_166 (by decide) ?_
                            refine pm_iconst (v := nI 3) hG dX12_rents_168 (by decide) ?_
                            refine pm_iloadi hG dX12_rents_169 rfl ?_
                            refine pm_imulN (c := 3 * i41) hG dX12_rents_171 (by omega) ?_
                            refine pm_iaddN (c := 3 * i41 + 20) hG dX12_rents_172 (by omega) ?_
                            refine pm_aloadn hG dX12_rents_173 rfl ?_
                            refine pm_getf hG dX12_rents_174 (flX12_61 _ rfl) rfl rfl ?_
                            refine pm_bipush (v := nI 24) hG dX12_rents_177 (by decide) ?_
                            refine pm_iloadn hG dX12_rents_179 rfl ?_
                            refine pm_top (v := nI k3) ek3 ?_
                            refine pm_imulN (c := 24 * k3) hG dX12_rents_180 (by omega) ?_
                            refine pm_iloadi hG dX12_rents_181 rfl ?_
                            refine pm_iaddN (c := i41 + 24 * k3) hG dX12_rents_183 (by omega) ?_
                            refine pm_ialdN hG dX12_rents_184 rfl (by decide) (by omega) ?_
                            refine pm_any (fun x46 => ?_)
                            refine pm_iastN hG dX12_rents_185 rfl (by decide) (by omega) ?_
                            refine mdn_now (fun n_47 en_47 => ?_)
                            have hnn_47 := KI.w en_47 hnn_41 (okv_f (show kd (3 * i41 + 20) = (0, 0, false) from (kd_T (k := i41) (c := 0) (by omega) (by omega) (by decide))))
                            have hrn_47 := NRx.w en_47 hrn_41 (by rw [(show kd (3 * i41 + 20) = (0, 0, false) from (kd_T (k := i41) (c := 0) (by omega) (by omega) (by decide)))])
                            have e48 : n_47 (3 * i41 + 20) = x46 := by rw [en_47, pk_us]
                            refine pm_iincX (v := x41_3 + 1) (loc' := [some (.ref (B + 54)), some (.int za), some (.int zb), some (.int (x41_3 + 1)), some (.int (nI i41))]) hG dX12_rents_186 rfl (by rfl) (by decide) (pm_c1b rfl) rfl ?_
                            refine pm_iincX (v := nI (i41 + 1)) (loc' := [some (.ref (B + 54)), some (.int za), some (.int zb), some (.int (x41_3 + 1)), some (.int (nI (i41 + 1)))]) hG dX12_rents_189 rfl (nI_1 _) (by decide) (pm_c1b rfl) rfl ?_
                            refine pm_goto (tgt := 133) hG dX12_rents_192 rfl ?_
                            exact ih41 I41 A41 n_47 (x41_3 + 1) (i41 + 1) hnn_47 hrn_47 (by omega) (by omega)
                          · refine pm_goto (tgt := 189) hG dX12_rents_159 rfl ?_
                            refine pm_iincX (v := nI (i41 + 1)) (loc' := [some (.ref (B + 54)), some (.int za), some (.int zb), some (.int x41_3), some (.int (nI (i41 + 1)))]) hG dX12_rents_189 rfl (nI_1 _) (by decide) (pm_c1b rfl) rfl ?_
                            refine pm_goto (tgt := 133) hG dX12_rents_192 rfl ?_
                            exact ih41 I41 A41 n_41 x41_3 (i41 + 1) hnn_41 hrn_41 (by omega) (by omega)
                    exact loop133_41 _ I39 A39 n_39 (nI 0) 0 hnn_39 hrn_39 (by omega) (Nat.lt_succ_self _)
                  · refine pm_aloadn hG dX12_rents_95 rfl ?_
                    refine pm_getf hG dX12_rents_96 (flX12_61 _ rfl) rfl rfl ?_
                    refine pm_bipush (v := nI 24) hG dX12_rents_99 (by decide) ?_
                    refine pm_iloadn hG dX12_rents_101 rfl ?_
                    refine pm_top (v := nI k3) ek3 ?_
                    refine pm_imulN (c := 24 * k3) hG dX12_rents_102 (by omega) ?_
                    refine pm_iloadn hG dX12_rents_103 rfl ?_
                    refine pm_iaddN (c := i39 + 24 * k3) hG dX12_rents_104 (by omega) ?_
                    refine pm_ialdN hG dX12_rents_105 rfl (by decide) (by omega) ?_
                    refine pm_any (fun x49 => ?_)
                    refine pm_iconst (v := (-1)) hG dX12_rents_106 (by decide) ?_
                    refine pm_sipush (v := nI 999) hG dX12_rents_107 (by decide) ?_
                    refine pm_callS (As := [.int x49, .int (-1), .int (nI 999)]) (rest := []) hG hR dX12_rents_110 (lkX12_68 _ rfl) okS_X12_in (m_in (d := 1)) rfl rfl hdd (Nat.le_refl _) (Nat.le_refl _) (by decide) (pm_ki (fun v50 σ' cnt' hq => ?_))
                    obtain ⟨hq, rfl, rfl⟩ := hq
                    rcases hq with ⟨rfl, ac51, bc51⟩ | ⟨rfl, c51⟩
                    · refine pm_ifN_ne (tgt := 122) hG dX12_rents_113 rfl (by omega) (fun _ => ?_) (fun q => absurd q (by omega))
                      refine pm_iincX (v := nI (i39 + 1)) (loc' := [some (.ref (B + 54)), some (.int za), some (.int zb), some (.int (nI (i39 + 1))), none]) hG dX12_rents_122 rfl (nI_1 _) (by decide) (pm_c1b rfl) rfl ?_
                      refine pm_goto (tgt := 85) hG dX12_rents_125 rfl ?_
                      exact ih39 I39 A39 n_39 (i39 + 1) hnn_39 hrn_39 (by omega) (by omega)
                    · refine pm_ifN_ne (tgt := 122) hG dX12_rents_113 rfl (by omega) (fun q => absurd q (by omega)) (fun _ => ?_)
                      refine pm_aloadn hG dX12_rents_116 rfl ?_
                      refine pm_iconst (v := nI 1) hG dX12_rents_117 (by decide) ?_
                      refine pm_callV (As := [.int (nI 1)]) (rest := []) hG hR dX12_rents_118 (lkX12_80 _ rfl) okV_X12_finds rfl rfl (m_finds (d := 1) (by decide) hnn_39 hz (by omega)) rfl rfl hdd (Nat.le_refl _) (Nat.le_refl _) (by decide) (pm_ki (fun v52 σ' cnt' hq => ?_))
                      obtain ⟨⟨I53, A53, rfl⟩, rfl, fv52⟩ := hq
                      exact pm_iret hG hF dX12_rents_121 rfl (Nat.le_refl _) (Nat.le_refl _) ⟨_, rfl, ⟨_, _, _, rfl, hnn_39, hrn_39⟩, rfl⟩
              exact loop85_39 _ I A n 0 hn hr (by omega) (Nat.lt_succ_self _)
            · refine pm_aloadn hG dX12_rents_77 rfl ?_
              refine pm_iconst (v := nI 3) hG dX12_rents_78 (by decide) ?_
              refine pm_callV (As := [.int (nI 3)]) (rest := []) hG hR dX12_rents_79 (lkX12_80 _ rfl) okV_X12_finds rfl rfl (m_finds (d := 1) (by decide) hn hz (by omega)) rfl rfl hdd (Nat.le_refl _) (Nat.le_refl _) (by decide) (pm_ki (fun v54 σ' cnt' hq => ?_))
              obtain ⟨⟨I55, A55, rfl⟩, rfl, fv54⟩ := hq
              exact pm_iret hG hF dX12_rents_82 rfl (Nat.le_refl _) (Nat.le_refl _) ⟨_, rfl, ⟨_, _, _, rfl, hn, hr⟩, rfl⟩
          · refine pm_aloadn hG dX12_rents_56 rfl ?_
            refine pm_iconst (v := nI 5) hG dX12_rents_57 (by decide) ?_
            refine pm_callV (As := [.int (nI 5)]) (rest := []) hG hR dX12_rents_58 (lkX12_80 _ rfl) okV_X12_finds rfl rfl (m_finds (d := 1) (by decide) hn hz (by omega)) rfl rfl hdd (Nat.le_refl _) (Nat.le_refl _) (by decide) (pm_ki (fun v56 σ' cnt' hq => ?_))
            obtain ⟨⟨I57, A57, rfl⟩, rfl, fv56⟩ := hq
            exact pm_iret hG hF dX12_rents_61 rfl (Nat.le_refl _) (Nat.le_refl _) ⟨_, rfl, ⟨_, _, _, rfl, hn, hr⟩, rfl⟩
        · refine pm_aloadn hG dX12_rents_40 rfl ?_
          refine pm_iconst (v := nI 2) hG dX12_rents_41 (by decide) ?_
          refine pm_callV (As := [.int (nI 2)]) (rest := []) hG hR dX12_rents_42 (lkX12_80 _ rfl) okV_X12_finds rfl rfl (m_finds (d := 1) (by decide) hn hz (by omega)) rfl rfl hdd (Nat.le_refl _) (Nat.le_refl _) (by decide) (pm_ki (fun v58 σ' cnt' hq => ?_))
          obtain ⟨⟨I59, A59, rfl⟩, rfl, fv58⟩ := hq
          exact pm_iret hG hF dX12_rents_45 rfl (Nat.le_refl _) (Nat.le_refl _) ⟨_, rfl, ⟨_, _, _, rfl, hn, hr⟩, rfl⟩
      · refine pm_iloadn hG dX12_rents_19 rfl ?_
        refine pm_bipush (v := nI 32) hG dX12_rents_20 (by decide) ?_
        refine pm_icmp_eq (tgt := 31) hG dX12_rents_22 rfl (fun c60 => ?_) (fun c60 => ?_)
        · refine pm_aloadn hG dX12_rents_31 rfl ?_
          refine pm_getf hG dX12_rents_32 (flX12_55 _ rfl) rfl rfl ?_
          refine pm_iloadn hG dX12_rents_35 rfl ?_
          refine pm_top (v := nI k3) ek3 ?_
          refine pm_ialdN hG dX12_rents_36 rfl (by decide) (by omega) ?_
          refine pm_gen (fun x61 ex61 => ?_)
          refine pm_if_ne (tgt := 46) hG dX12_rents_37 rfl (fun c62 => ?_) (fun c62 => ?_)
          · refine pm_aloadn hG dX12_rents_46 rfl ?_
            refine pm_getf hG dX12_rents_47 (flX12_55 _ rfl) rfl rfl ?_
            refine pm_iloadn hG dX12_rents_50 rfl ?_
            refine pm_top (v := nI k3) ek3 ?_
            refine pm_ialdN hG dX12_rents_51 rfl (by decide) (by omega) ?_
            refine pm_top (v := x61) ex61 ?_
            refine pm_iloadn hG dX12_rents_52 rfl ?_
            refine pm_top (v := nI 32) c60 ?_
            refine pm_icmp_eq (tgt := 62) hG dX12_rents_53 rfl (fun c63 => ?_) (fun c63 => ?_)
            · refine pm_aloadn hG dX12_rents_62 rfl ?_
              refine pm_getf hG dX12_rents_63 (flX12_58 _ rfl) rfl rfl ?_
              refine pm_iloadn hG dX12_rents_66 rfl ?_
              refine pm_top (v := nI k3) ek3 ?_
              refine pm_ialdN hG dX12_rents_67 rfl (by decide) (by omega) ?_
              obtain ⟨k64, hk64, ek64⟩ := hz k3 (by omega)
              refine pm_top (v := nI k64) ek64 ?_
              refine pm_aloadn hG dX12_rents_68 rfl ?_
              refine pm_getf hG dX12_rents_69 (flX12_7 _ rfl) rfl rfl ?_
              refine pm_iconst (v := nI 0) hG dX12_rents_72 (by decide) ?_
              refine pm_ialdN hG dX12_rents_73 rfl (by decide) (by omega) ?_
              obtain ⟨k65, hk65, ek65⟩ := KI.nat hn (show kd 0 = (1, 11, true) by decide)
              refine pm_top (v := nI k65) ek65 ?_
              refine pm_icmpN_le (tgt := 83) hG dX12_rents_74 rfl (by omega) (by omega) (fun c66 => ?_) (fun c66 => ?_)
              · refine pm_iconst (v := nI 0) hG dX12_rents_83 (by decide) ?_
                refine pm_istoreXn (loc' := [some (.ref (B + 54)), some (.int za), some (.int zb), some (.int (nI 0)), none]) hG dX12_rents_84 (by decide) (pm_c1b rfl) rfl ?_
                have loop85_67 : ∀ (m67 : Nat) (I67 : Nat → Int32) (A67 : Nat → Nat → Int32) (n_67 : Nat → Int32) (i67 : Nat), KI n_67 → NRx 40 n_67 → i67 ≤ 24 → 24 - i67 < m67 → pm_wp mX12_rents G B 85 [some (.ref (B + 54)), some (.int za), some (.int zb), some (.int (nI i67)), none] [] 0 0 cnt (pm_mid σ (md_L B I67 A67 n_67 k z ac wt pl (nI p0) (nI t0) im y)) := by
                  intro m67
                  induction m67 with
                  | zero => intro I67 A67 n_67 i67 _ _ _ hm; exact absurd hm (Nat.not_lt_zero _)
                  | succ m67 ih67 =>
                    intro I67 A67 n_67 i67 hnn_67 hrn_67 hi67 hm67
                    refine pm_iloadn hG dX12_rents_85 rfl ?_
                    refine pm_aloadn hG dX12_rents_86 rfl ?_
                    refine pm_getf hG dX12_rents_87 (flX12_58 _ rfl) rfl rfl ?_
                    refine pm_iloadn hG dX12_rents_90 rfl ?_
                    refine pm_top (v := nI k3) ek3 ?_
                    refine pm_ialdN hG dX12_rents_91 rfl (by decide) (by omega) ?_
                    refine pm_top (v := nI k64) ek64 ?_
                    refine pm_icmpN_ge (tgt := 128) hG dX12_rents_92 rfl (by omega) (by omega) (fun c68 => ?_) (fun c68 => ?_)
                    · refine pm_iconst (v := nI 0) hG dX12_rents_128 (by decide) ?_
                      refine pm_istoreXn (loc' := [some (.ref (B + 54)), some (.int za), some (.int zb), some (.int (nI 0)), none]) hG dX12_rents_129 (by decide) (pm_c1b rfl) rfl ?_
                      refine pm_iconst (v := nI 0) hG dX12_rents_130 (by decide) ?_
                      refine pm_istoreXi (loc' := [some (.ref (B + 54)), some (.int za), some (.int zb), some (.int (nI 0)), some (.int (nI 0))]) hG dX12_rents_131 (by decide) (pm_c1b rfl) rfl ?_
                      have loop133_69 : ∀ (m69 : Nat) (I69 : Nat → Int32) (A69 : Nat → Nat → Int32) (n_69 : Nat → Int32) (x69_3 : Int32) (i69 : Nat), KI n_69 → NRx 40 n_69 → i69 ≤ 24 → 24 - i69 < m69 → pm_wp mX12_rents G B 133 [some (.ref (B + 54)), some (.int za), some (.int zb), some (.int x69_3), some (.int (nI i69))] [] 0 0 cnt (pm_mid σ (md_L B I69 A69 n_69 k z ac wt pl (nI p0) (nI t0) im y)) := by
                        intro m69
                        induction m69 with
                        | zero => intro I69 A69 n_69 x69_3 i69 _ _ _ hm; exact absurd hm (Nat.not_lt_zero _)
                        | succ m69 ih69 =>
                          intro I69 A69 n_69 x69_3 i69 hnn_69 hrn_69 hi69 hm69
                          refine pm_iloadi hG dX12_rents_133 rfl ?_
                          refine pm_aloadn hG dX12_rents_135 rfl ?_
                          refine pm_getf hG dX12_rents_136 (flX12_58 _ rfl) rfl rfl ?_
                          refine pm_iloadn hG dX12_rents_139 rfl ?_
                          refine pm_top (v := nI k3) ek3 ?_
                          refine pm_ialdN hG dX12_rents_140 rfl (by decide) (by omega) ?_
                          refine pm_top (v := nI k64) ek64 ?_
                          refine pm_icmpN_ge (tgt := 195) hG dX12_rents_141 rfl (by omega) (by omega) (fun c70 => ?_) (fun c70 => ?_)
                          · refine pm_iloadn hG dX12_rents_195 rfl ?_
                            exact pm_iret hG hF dX12_rents_196 rfl (Nat.le_refl _) (Nat.le_refl _) ⟨_, rfl, ⟨_, _, _, rfl, hnn_69, hrn_69⟩, rfl⟩
                          · refine pm_aloadn hG dX12_rents_144 rfl ?_
                            refine pm_getf hG dX12_rents_145 (flX12_61 _ rfl) rfl rfl ?_
                            refine pm_bipush (v := nI 24) hG dX12_rents_148 (by decide) ?_
                            refine pm_iloadn hG dX12_rents_150 rfl ?_
                            refine pm_top (v := nI k3) ek3 ?_
                            refine pm_imulN (c := 24 * k3) hG dX12_rents_151 (by omega) ?_
                            refine pm_iloadi hG dX12_rents_152 rfl ?_
                            refine pm_iaddN (c := i69 + 24 * k3) hG dX12_rents_154 (by omega) ?_
                            refine pm_ialdN hG dX12_rents_155 rfl (by decide) (by omega) ?_
                            refine pm_any (fun x71 => ?_)
                            refine pm_if_ge (tgt := 162) hG dX12_rents_156 rfl (fun c72 => ?_) (fun c72 => ?_)
                            · obtain ⟨k73, hk73, ek73⟩ := nI_of (Int32.not_lt.mpr c72)
                              refine pm_aloadn hG dX12_rents_162 rfl ?_
                              refine pm_getf hG dX12_rents_163 (flX12_7 _ rfl) rfl rfl ?_
                              refine pm_bipush (v := nI 20) hG dX12_rents_166 (by decide) ?_
                              refine pm_iconst (v := nI 3) hG dX12_rents_168 (by decide) ?_
                              refine pm_iloadi hG dX12_rents_169 rfl ?_
                              refine pm_imulN (c := 3 * i69) hG dX12_rents_171 (by omega) ?_
                              refine pm_iaddN (c := 3 * i69 + 20) hG dX12_rents_172 (by omega) ?_
                              refine pm_aloadn hG dX12_rents_173 rfl ?_
                              refine pm_getf hG dX12_rents_174 (flX12_61 _ rfl) rfl rfl ?_
                              refine pm_bipush (v := nI 24) hG dX12_rents_177 (by decide) ?_
                              refine pm_iloadn hG dX12_rents_179 rfl ?_
                              refine pm_top (v := nI k3) ek3 ?_
                              refine pm_imulN (c := 24 * k3) hG dX12_rents_180 (by omega) ?_
                              refine pm_iloadi hG dX12_rents_181 rfl ?_
                              refine pm_iaddN (c := i69 + 24 * k3) hG dX12_rents_183 (by omega) ?_
                              refine pm_ialdN hG dX12_rents_184 rfl (by decide) (by omega) ?_
                              refine pm_any (fun x74 => ?_)
                              refine pm_iastN hG dX12_rents_185 rfl (by decide) (by omega) ?_
                              refine mdn_now (fun n_75 en_75 => ?_)
                              have hnn_75 := KI.w en_75 hnn_69 (okv_f (show kd (3 * i69 + 20) = (0, 0, false) from (kd_T (k := i69) (c := 0) (by omega) (by omega) (by decide))))
                              have hrn_75 := NRx.w en_75 hrn_69 (by rw [(show kd (3 * i69 + 20) = (0, 0, false) from (kd_T (k := i69) (c := 0) (by omega) (by omega) (by decide)))])
                              have e76 : n_75 (3 * i69 + 20) = x74 := by rw [en_75, pk_us]
                              refine pm_iincX (v := x69_3 + 1) (loc' := [some (.ref (B + 54)), some (.int za), some (.int zb), some (.int (x69_3 + 1)), some (.int (nI i69))]) hG dX12_rents_186 rfl (by rfl) (by decide) (pm_c1b rfl) rfl ?_
                              refine pm_iincX (v := nI (i69 + 1)) (loc' := [some (.ref (B + 54)), some (.int za), some (.int zb), some (.int (x69_3 + 1)), some (.int (nI (i69 + 1)))]) hG dX12_rents_189 rfl (nI_1 _) (by decide) (pm_c1b rfl) rfl ?_
                              refine pm_goto (tgt := 133) hG dX12_rents_192 rfl ?_
                              exact ih69 I69 A69 n_75 (x69_3 + 1) (i69 + 1) hnn_75 hrn_75 (by omega) (by omega)
                            · refine pm_goto (tgt := 189) hG dX12_rents_159 rfl ?_
                              refine pm_iincX (v := nI (i69 + 1)) (loc' := [some (.ref (B + 54)), some (.int za), some (.int zb), some (.int x69_3), some (.int (nI (i69 + 1)))]) hG dX12_rents_189 rfl (nI_1 _) (by decide) (pm_c1b rfl) rfl ?_
                              refine pm_goto (tgt := 133) hG dX12_rents_192 rfl ?_
                              exact ih69 I69 A69 n_69 x69_3 (i69 + 1) hnn_69 hrn_69 (by omega) (by omega)
                      exact loop133_69 _ I67 A67 n_67 (nI 0) 0 hnn_67 hrn_67 (by omega) (Nat.lt_succ_self _)
                    · refine pm_aloadn hG dX12_rents_95 rfl ?_
                      refine pm_getf hG dX12_rents_96 (flX12_61 _ rfl) rfl rfl ?_
                      refine pm_bipush (v := nI 24) hG dX12_rents_99 (by decide) ?_
                      refine pm_iloadn hG dX12_rents_101 rfl ?_
                      refine pm_top (v := nI k3) ek3 ?_
                      refine pm_imulN (c := 24 * k3) hG dX12_rents_102 (by omega) ?_
                      refine pm_iloadn hG dX12_rents_103 rfl ?_
                      refine pm_iaddN (c := i67 + 24 * k3) hG dX12_rents_104 (by omega) ?_
                      refine pm_ialdN hG dX12_rents_105 rfl (by decide) (by omega) ?_
                      refine pm_any (fun x77 => ?_)
                      refine pm_iconst (v := (-1)) hG dX12_rents_106 (by decide) ?_
                      refine pm_sipush (v := nI 999) hG dX12_rents_107 (by decide) ?_
                      refine pm_callS (As := [.int x77, .int (-1), .int (nI 999)]) (rest := []) hG hR dX12_rents_110 (lkX12_68 _ rfl) okS_X12_in (m_in (d := 1)) rfl rfl hdd (Nat.le_refl _) (Nat.le_refl _) (by decide) (pm_ki (fun v78 σ' cnt' hq => ?_))
                      obtain ⟨hq, rfl, rfl⟩ := hq
                      rcases hq with ⟨rfl, ac79, bc79⟩ | ⟨rfl, c79⟩
                      · refine pm_ifN_ne (tgt := 122) hG dX12_rents_113 rfl (by omega) (fun _ => ?_) (fun q => absurd q (by omega))
                        refine pm_iincX (v := nI (i67 + 1)) (loc' := [some (.ref (B + 54)), some (.int za), some (.int zb), some (.int (nI (i67 + 1))), none]) hG dX12_rents_122 rfl (nI_1 _) (by decide) (pm_c1b rfl) rfl ?_
                        refine pm_goto (tgt := 85) hG dX12_rents_125 rfl ?_
                        exact ih67 I67 A67 n_67 (i67 + 1) hnn_67 hrn_67 (by omega) (by omega)
                      · refine pm_ifN_ne (tgt := 122) hG dX12_rents_113 rfl (by omega) (fun q => absurd q (by omega)) (fun _ => ?_)
                        refine pm_aloadn hG dX12_rents_116 rfl ?_
                        refine pm_iconst (v := nI 1) hG dX12_rents_117 (by decide) ?_
                        refine pm_callV (As := [.int (nI 1)]) (rest := []) hG hR dX12_rents_118 (lkX12_80 _ rfl) okV_X12_finds rfl rfl (m_finds (d := 1) (by decide) hnn_67 hz (by omega)) rfl rfl hdd (Nat.le_refl _) (Nat.le_refl _) (by decide) (pm_ki (fun v80 σ' cnt' hq => ?_))
                        obtain ⟨⟨I81, A81, rfl⟩, rfl, fv80⟩ := hq
                        exact pm_iret hG hF dX12_rents_121 rfl (Nat.le_refl _) (Nat.le_refl _) ⟨_, rfl, ⟨_, _, _, rfl, hnn_67, hrn_67⟩, rfl⟩
                exact loop85_67 _ I A n 0 hn hr (by omega) (Nat.lt_succ_self _)
              · refine pm_aloadn hG dX12_rents_77 rfl ?_
                refine pm_iconst (v := nI 3) hG dX12_rents_78 (by decide) ?_
                refine pm_callV (As := [.int (nI 3)]) (rest := []) hG hR dX12_rents_79 (lkX12_80 _ rfl) okV_X12_finds rfl rfl (m_finds (d := 1) (by decide) hn hz (by omega)) rfl rfl hdd (Nat.le_refl _) (Nat.le_refl _) (by decide) (pm_ki (fun v82 σ' cnt' hq => ?_))
                obtain ⟨⟨I83, A83, rfl⟩, rfl, fv82⟩ := hq
                exact pm_iret hG hF dX12_rents_82 rfl (Nat.le_refl _) (Nat.le_refl _) ⟨_, rfl, ⟨_, _, _, rfl, hn, hr⟩, rfl⟩
            · refine pm_aloadn hG dX12_rents_56 rfl ?_
              refine pm_iconst (v := nI 5) hG dX12_rents_57 (by decide) ?_
              refine pm_callV (As := [.int (nI 5)]) (rest := []) hG hR dX12_rents_58 (lkX12_80 _ rfl) okV_X12_finds rfl rfl (m_finds (d := 1) (by decide) hn hz (by omega)) rfl rfl hdd (Nat.le_refl _) (Nat.le_refl _) (by decide) (pm_ki (fun v84 σ' cnt' hq => ?_))
              obtain ⟨⟨I85, A85, rfl⟩, rfl, fv84⟩ := hq
              exact pm_iret hG hF dX12_rents_61 rfl (Nat.le_refl _) (Nat.le_refl _) ⟨_, rfl, ⟨_, _, _, rfl, hn, hr⟩, rfl⟩
          · refine pm_aloadn hG dX12_rents_40 rfl ?_
            refine pm_iconst (v := nI 2) hG dX12_rents_41 (by decide) ?_
            refine pm_callV (As := [.int (nI 2)]) (rest := []) hG hR dX12_rents_42 (lkX12_80 _ rfl) okV_X12_finds rfl rfl (m_finds (d := 1) (by decide) hn hz (by omega)) rfl rfl hdd (Nat.le_refl _) (Nat.le_refl _) (by decide) (pm_ki (fun v86 σ' cnt' hq => ?_))
            obtain ⟨⟨I87, A87, rfl⟩, rfl, fv86⟩ := hq
            exact pm_iret hG hF dX12_rents_45 rfl (Nat.le_refl _) (Nat.le_refl _) ⟨_, rfl, ⟨_, _, _, rfl, hn, hr⟩, rfl⟩
        · refine pm_aloadn hG dX12_rents_25 rfl ?_
          refine pm_iconst (v := nI 1) hG dX12_rents_26 (by decide) ?_
          refine pm_callV (As := [.int (nI 1)]) (rest := []) hG hR dX12_rents_27 (lkX12_80 _ rfl) okV_X12_finds rfl rfl (m_finds (d := 1) (by decide) hn hz (by omega)) rfl rfl hdd (Nat.le_refl _) (Nat.le_refl _) (by decide) (pm_ki (fun v88 σ' cnt' hq => ?_))
          obtain ⟨⟨I89, A89, rfl⟩, rfl, fv88⟩ := hq
          exact pm_iret hG hF dX12_rents_30 rfl (Nat.le_refl _) (Nat.le_refl _) ⟨_, rfl, ⟨_, _, _, rfl, hn, hr⟩, rfl⟩
  · refine pm_ifN_eq (tgt := 25) hG dX12_rents_4 rfl (by omega) (fun _ => ?_) (fun q => absurd q (by omega))
    refine pm_aloadn hG dX12_rents_25 rfl ?_
    refine pm_iconst (v := nI 1) hG dX12_rents_26 (by decide) ?_
    refine pm_callV (As := [.int (nI 1)]) (rest := []) hG hR dX12_rents_27 (lkX12_80 _ rfl) okV_X12_finds rfl rfl (m_finds (d := 1) (by decide) hn hz (by omega)) rfl rfl hdd (Nat.le_refl _) (Nat.le_refl _) (by decide) (pm_ki (fun v90 σ' cnt' hq => ?_))
    obtain ⟨⟨I91, A91, rfl⟩, rfl, fv90⟩ := hq
    exact pm_iret hG hF dX12_rents_30 rfl (Nat.le_refl _) (Nat.le_refl _) ⟨_, rfl, ⟨_, _, _, rfl, hn, hr⟩, rfl⟩
