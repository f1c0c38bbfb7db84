set_option maxRecDepth 100000 in
set_option maxHeartbeats 4000000 in
theorem c_X12_days {d : Nat} {B cnt : Nat} {σ : pm_S} {S : FS} {za : Int32} {R : Int32 × FS} (hdd : 4 ≤ d) (hE : f_X12_days S za = some R) : pm_met mX12_days d 0 0 B [.ref (B + 54), .int za] cnt (mst B S σ) (pm_Qi (fun v σ' cnt' => v = R.1 ∧ σ' = (mst B R.2 σ) ∧ cnt' = cnt)) := by
  refine pm_enter 2 (by decide) (Nat.le_of_ble_eq_true rfl) rfl (fun G hG hR hF => ?_)
  unfold f_X12_days at hE
  refine pm_iloadn hG dX12_days_0 rfl ?_
  refine pm_iconst (v := 1) hG dX12_days_1 (by decide) ?_
  refine pm_sipush (v := 400) hG dX12_days_2 (by decide) ?_
  refine pm_callS (As := [.int za, .int 1, .int 400]) (rest := []) hG hR dX12_days_5 (lkX12_68 _ rfl) okS_X12_in (c_X12_in (d := 3) (by decide) rfl) rfl rfl hdd (Nat.le_refl _) (Nat.le_refl _) (by decide) (fx_ki ?_)
  refine pm_if_eq (tgt := 26) hG dX12_days_8 rfl (fun c1 => ?_) (fun c1 => ?_)
  · replace hE := fx_t c1 hE
    refine pm_aloadn hG dX12_days_26 rfl ?_
    refine pm_iconst (v := 1) hG dX12_days_27 (by decide) ?_
    obtain ⟨r3, h2, hE⟩ := fb_some hE
    refine pm_callV (As := [.int 1]) (rest := []) hG hR dX12_days_28 (lkX12_80 _ rfl) okV_X12_finds rfl rfl (c_X12_finds (d := 3) (by decide) h2) rfl rfl hdd (Nat.le_refl _) (Nat.le_refl _) (by decide) (fx_ki ?_)
    exact pm_iret hG hF dX12_days_31 rfl (Nat.le_refl _) (Nat.le_refl _) (fx_rim hE)
  · replace hE := fx_f c1 hE
    refine pm_aloadn hG dX12_days_11 rfl ?_
    refine pm_getf hG dX12_days_12 (flX12_7 _ rfl) rfl rfl ?_
    refine pm_bipush (v := 8) hG dX12_days_15 (by decide) ?_
    refine fx_iald hG dX12_days_17 rfl (ix_lit (by decide) rfl) ?_
    refine pm_iloadn hG dX12_days_18 rfl ?_
    refine pm_iadd hG dX12_days_19 ?_
    refine pm_sipush (v := 2000) hG dX12_days_20 (by decide) ?_
    refine pm_icmp_le (tgt := 32) hG dX12_days_23 rfl (fun c4 => ?_) (fun c4 => ?_)
    · replace c4 := Int32.not_lt.mpr c4
      replace hE := fx_f c4 hE
      refine pm_iconst (v := 0) hG dX12_days_32 (by decide) ?_
      refine pm_istoreXn (loc' := [some (.ref (B + 54)), some (.int za), some (.int 0), none]) hG dX12_days_33 (by decide) (pm_c1b rfl) rfl ?_
      have loop34 : ∀ (k34 : FS → Int32 → Option (Int32 × FS)), (∀ (S5 : FS) (x5_2 : Int32), k34 S5  x5_2 = some R → pm_wp mX12_days G B 185 [some (.ref (B + 54)), some (.int za), some (.int x5_2), none] [] 0 0 cnt (mst B S5 σ)) → ∀ (m34 : Nat) (S5 : FS) (x5_2 : Int32), l_X12_days_34 za k34 m34 S5  x5_2 = some R → pm_wp mX12_days G B 34 [some (.ref (B + 54)), some (.int za), some (.int x5_2), none] [] 0 0 cnt (mst B S5 σ) := by
        intro k34 hk34 m34
        induction m34 with
        | zero => intro S5  x5_2 hE; exact fx_no hE
        | succ m34 ih34 =>
          intro S5  x5_2 hE
          rw [l_X12_days_34] at hE
          refine pm_iloadn hG dX12_days_34 rfl ?_
          refine pm_iloadn hG dX12_days_35 rfl ?_
          refine pm_icmp_ge (tgt := 185) hG dX12_days_36 rfl (fun c6 => ?_) (fun c6 => ?_)
          · replace c6 := Int32.not_lt.mpr c6
            replace hE := fx_f c6 hE
            exact hk34 _ _ hE
          · replace c6 := Int32.not_le.mp c6
            replace hE := fx_t c6 hE
            refine pm_aloadn hG dX12_days_39 rfl ?_
            refine pm_getf hG dX12_days_40 (flX12_7 _ rfl) rfl rfl ?_
            refine pm_bipush (v := 8) hG dX12_days_43 (by decide) ?_
            refine pm_dup2 hG dX12_days_45 rfl rfl ?_
            refine fx_iald hG dX12_days_46 rfl (ix_lit (by decide) rfl) ?_
            refine pm_iconst (v := 1) hG dX12_days_47 (by decide) ?_
            refine pm_iadd hG dX12_days_48 ?_
            refine fx_iast hG dX12_days_49 rfl (ix_lit (by decide) rfl) ?_
            refine ma_55 ?_
            refine fx_letm hE (fun S7 hE => ?_)
            refine pm_iconst (v := 0) hG dX12_days_50 (by decide) ?_
            refine pm_istoreXn (loc' := [some (.ref (B + 54)), some (.int za), some (.int x5_2), some (.int 0)]) hG dX12_days_51 (by decide) (pm_c1b rfl) rfl ?_
            have loop52 : ∀ (k52 : FS → Int32 → Option (Int32 × FS)), (∀ (S8 : FS) (x8_3 : Int32), k52 S8  x8_3 = some R → pm_wp mX12_days G B 114 [some (.ref (B + 54)), some (.int za), some (.int x5_2), some (.int x8_3)] [] 0 0 cnt (mst B S8 σ)) → ∀ (m52 : Nat) (S8 : FS) (x8_3 : Int32), l_X12_days_52 k52 m52 S8  x8_3 = some R → pm_wp mX12_days G B 52 [some (.ref (B + 54)), some (.int za), some (.int x5_2), some (.int x8_3)] [] 0 0 cnt (mst B S8 σ) := by
              intro k52 hk52 m52
              induction m52 with
              | zero => intro S8  x8_3 hE; exact fx_no hE
              | succ m52 ih52 =>
                intro S8  x8_3 hE
                rw [l_X12_days_52] at hE
                refine pm_iloadn hG dX12_days_52 rfl ?_
                refine pm_aloadn hG dX12_days_53 rfl ?_
                refine pm_getf hG dX12_days_54 (flX12_7 _ rfl) rfl rfl ?_
                refine pm_iconst (v := 2) hG dX12_days_57 (by decide) ?_
                refine fx_iald hG dX12_days_58 rfl (ix_lit (by decide) rfl) ?_
                refine pm_icmp_ge (tgt := 114) hG dX12_days_59 rfl (fun c9 => ?_) (fun c9 => ?_)
                · replace c9 := Int32.not_lt.mpr c9
                  replace hE := fx_f c9 hE
                  exact hk52 _ _ hE
                · replace c9 := Int32.not_le.mp c9
                  replace hE := fx_t c9 hE
                  refine pm_aloadn hG dX12_days_62 rfl ?_
                  refine pm_iloadn hG dX12_days_63 rfl ?_
                  obtain ⟨x11, h10, hE⟩ := fb_some hE
                  refine pm_callV (As := [.int x8_3]) (rest := []) hG hR dX12_days_64 (lkX12_101 _ rfl) okV_X12_lives rfl rfl (c_X12_lives (d := 3) (by decide) h10) rfl rfl hdd (Nat.le_refl _) (Nat.le_refl _) (by decide) (fx_ki ?_)
                  refine pm_if_eq (tgt := 108) hG dX12_days_67 rfl (fun c12 => ?_) (fun c12 => ?_)
                  · replace hE := fx_t c12 hE
                    refine pm_iincX (v := x8_3 + 1) (loc' := [some (.ref (B + 54)), some (.int za), some (.int x5_2), some (.int (x8_3 + 1))]) hG dX12_days_108 rfl (by rfl) (by decide) (pm_c1b rfl) rfl ?_
                    refine pm_goto (tgt := 52) hG dX12_days_111 rfl ?_
                    exact ih52 _ _ hE
                  · replace hE := fx_f c12 hE
                    refine pm_aloadn hG dX12_days_70 rfl ?_
                    refine pm_iloadn hG dX12_days_71 rfl ?_
                    refine pm_iconst (v := 4) hG dX12_days_72 (by decide) ?_
                    obtain ⟨x14, h13, hE⟩ := fb_some hE
                    refine pm_callV (As := [.int x8_3, .int 4]) (rest := []) hG hR dX12_days_73 (lkX12_72 _ rfl) okV_X12_man rfl rfl (c_X12_man (d := 3) (by decide) h13) rfl rfl hdd (Nat.le_refl _) (Nat.le_refl _) (by decide) (fx_ki ?_)
                    refine pm_if_ge (tgt := 108) hG dX12_days_76 rfl (fun c15 => ?_) (fun c15 => ?_)
                    · replace c15 := Int32.not_lt.mpr c15
                      replace hE := fx_f c15 hE
                      refine pm_iincX (v := x8_3 + 1) (loc' := [some (.ref (B + 54)), some (.int za), some (.int x5_2), some (.int (x8_3 + 1))]) hG dX12_days_108 rfl (by rfl) (by decide) (pm_c1b rfl) rfl ?_
                      refine pm_goto (tgt := 52) hG dX12_days_111 rfl ?_
                      exact ih52 _ _ hE
                    · replace c15 := Int32.not_le.mp c15
                      replace hE := fx_t c15 hE
                      refine pm_aloadn hG dX12_days_79 rfl ?_
                      refine pm_iloadn hG dX12_days_80 rfl ?_
                      refine pm_bipush (v := 6) hG dX12_days_81 (by decide) ?_
                      obtain ⟨x17, h16, hE⟩ := fb_some hE
                      refine pm_callV (As := [.int x8_3, .int 6]) (rest := []) hG hR dX12_days_83 (lkX12_72 _ rfl) okV_X12_man rfl rfl (c_X12_man (d := 3) (by decide) h16) rfl rfl hdd (Nat.le_refl _) (Nat.le_refl _) (by decide) (fx_ki ?_)
                      refine pm_aloadn hG dX12_days_86 rfl ?_
                      refine pm_getf hG dX12_days_87 (flX12_7 _ rfl) rfl rfl ?_
                      refine pm_bipush (v := 8) hG dX12_days_90 (by decide) ?_
                      refine fx_iald hG dX12_days_92 rfl (ix_lit (by decide) rfl) ?_
                      refine pm_icmp_ne (tgt := 108) hG dX12_days_93 rfl (fun c18 => ?_) (fun c18 => ?_)
                      · replace hE := fx_f c18 hE
                        refine pm_iincX (v := x8_3 + 1) (loc' := [some (.ref (B + 54)), some (.int za), some (.int x5_2), some (.int (x8_3 + 1))]) hG dX12_days_108 rfl (by rfl) (by decide) (pm_c1b rfl) rfl ?_
                        refine pm_goto (tgt := 52) hG dX12_days_111 rfl ?_
                        exact ih52 _ _ hE
                      · replace hE := fx_t c18 hE
                        refine pm_aloadn hG dX12_days_96 rfl ?_
                        refine pm_iloadn hG dX12_days_97 rfl ?_
                        refine pm_iconst (v := 4) hG dX12_days_98 (by decide) ?_
                        refine pm_aloadn hG dX12_days_99 rfl ?_
                        refine pm_iloadn hG dX12_days_100 rfl ?_
                        refine pm_iconst (v := 5) hG dX12_days_101 (by decide) ?_
                        obtain ⟨x20, h19, hE⟩ := fb_some hE
                        refine pm_callV (As := [.int x8_3, .int 5]) (rest := [.int 4, .int x8_3, .ref (B + 54)]) hG hR dX12_days_102 (lkX12_72 _ rfl) okV_X12_man rfl rfl (c_X12_man (d := 3) (by decide) h19) rfl rfl hdd (Nat.le_refl _) (Nat.le_refl _) (by first | decide | exact Nat.le_of_ble_eq_true rfl) (fx_ki ?_)
                        obtain ⟨r22, h21, hE⟩ := fb_some hE
                        refine pm_callV (As := [.int x8_3, .int 4, .int x20]) (rest := []) hG hR dX12_days_105 (lkX12_97 _ rfl) okV_X12_sets rfl rfl (c_X12_sets (d := 3) (by decide) h21) rfl rfl hdd (Nat.le_refl _) (Nat.le_refl _) (by decide) (fx_kv ?_)
                        refine pm_iincX (v := x8_3 + 1) (loc' := [some (.ref (B + 54)), some (.int za), some (.int x5_2), some (.int (x8_3 + 1))]) hG dX12_days_108 rfl (by rfl) (by decide) (pm_c1b rfl) rfl ?_
                        refine pm_goto (tgt := 52) hG dX12_days_111 rfl ?_
                        exact ih52 _ _ hE
            refine loop52 _ (fun S23 x23_3 hE => ?_) _ _ _ hE
            refine pm_iconst (v := 0) hG dX12_days_114 (by decide) ?_
            refine pm_istoreXn (loc' := [some (.ref (B + 54)), some (.int za), some (.int x5_2), some (.int 0)]) hG dX12_days_115 (by decide) (pm_c1b rfl) rfl ?_
            have loop116 : ∀ (k116 : FS → Int32 → Option (Int32 × FS)), (∀ (S24 : FS) (x24_3 : Int32), k116 S24  x24_3 = some R → pm_wp mX12_days G B 162 [some (.ref (B + 54)), some (.int za), some (.int x5_2), some (.int x24_3)] [] 0 0 cnt (mst B S24 σ)) → ∀ (m116 : Nat) (S24 : FS) (x24_3 : Int32), l_X12_days_116 k116 m116 S24  x24_3 = some R → pm_wp mX12_days G B 116 [some (.ref (B + 54)), some (.int za), some (.int x5_2), some (.int x24_3)] [] 0 0 cnt (mst B S24 σ) := by
              intro k116 hk116 m116
              induction m116 with
              | zero => intro S24  x24_3 hE; exact fx_no hE
              | succ m116 ih116 =>
                intro S24  x24_3 hE
                rw [l_X12_days_116] at hE
                refine pm_iloadn hG dX12_days_116 rfl ?_
                refine pm_aloadn hG dX12_days_117 rfl ?_
                refine pm_getf hG dX12_days_118 (flX12_7 _ rfl) rfl rfl ?_
                refine pm_iconst (v := 3) hG dX12_days_121 (by decide) ?_
                refine fx_iald hG dX12_days_122 rfl (ix_lit (by decide) rfl) ?_
                refine pm_icmp_ge (tgt := 162) hG dX12_days_123 rfl (fun c25 => ?_) (fun c25 => ?_)
                · replace c25 := Int32.not_lt.mpr c25
                  replace hE := fx_f c25 hE
                  exact hk116 _ _ hE
                · replace c25 := Int32.not_le.mp c25
                  replace hE := fx_t c25 hE
                  refine pm_aloadn hG dX12_days_126 rfl ?_
                  refine pm_iloadn hG dX12_days_127 rfl ?_
                  refine pm_iconst (v := 2) hG dX12_days_128 (by decide) ?_
                  obtain ⟨x27, h26, hE⟩ := fb_some hE
                  refine pm_callV (As := [.int x24_3, .int 2]) (rest := []) hG hR dX12_days_129 (lkX12_110 _ rfl) okV_X12_its rfl rfl (c_X12_its (d := 3) (by decide) h26) rfl rfl hdd (Nat.le_refl _) (Nat.le_refl _) (by decide) (fx_ki ?_)
                  refine pm_if_lt (tgt := 156) hG dX12_days_132 rfl (fun c28 => ?_) (fun c28 => ?_)
                  · replace hE := fx_t c28 hE
                    refine pm_iincX (v := x24_3 + 1) (loc' := [some (.ref (B + 54)), some (.int za), some (.int x5_2), some (.int (x24_3 + 1))]) hG dX12_days_156 rfl (by rfl) (by decide) (pm_c1b rfl) rfl ?_
                    refine pm_goto (tgt := 116) hG dX12_days_159 rfl ?_
                    exact ih116 _ _ hE
                  · replace hE := fx_f c28 hE
                    refine pm_aloadn hG dX12_days_135 rfl ?_
                    refine pm_iloadn hG dX12_days_136 rfl ?_
                    refine pm_iconst (v := 3) hG dX12_days_137 (by decide) ?_
                    obtain ⟨x30, h29, hE⟩ := fb_some hE
                    refine pm_callV (As := [.int x24_3, .int 3]) (rest := []) hG hR dX12_days_138 (lkX12_110 _ rfl) okV_X12_its rfl rfl (c_X12_its (d := 3) (by decide) h29) rfl rfl hdd (Nat.le_refl _) (Nat.le_refl _) (by decide) (fx_ki ?_)
                    refine pm_aloadn hG dX12_days_141 rfl ?_
                    refine pm_getf hG dX12_days_142 (flX12_7 _ rfl) rfl rfl ?_
                    refine pm_bipush (v := 8) hG dX12_days_145 (by decide) ?_
                    refine fx_iald hG dX12_days_147 rfl (ix_lit (by decide) rfl) ?_
                    refine pm_icmp_ge (tgt := 156) hG dX12_days_148 rfl (fun c31 => ?_) (fun c31 => ?_)
                    · replace c31 := Int32.not_lt.mpr c31
                      replace hE := fx_f c31 hE
                      refine pm_iincX (v := x24_3 + 1) (loc' := [some (.ref (B + 54)), some (.int za), some (.int x5_2), some (.int (x24_3 + 1))]) hG dX12_days_156 rfl (by rfl) (by decide) (pm_c1b rfl) rfl ?_
                      refine pm_goto (tgt := 116) hG dX12_days_159 rfl ?_
                      exact ih116 _ _ hE
                    · replace c31 := Int32.not_le.mp c31
                      replace hE := fx_t c31 hE
                      refine pm_aloadn hG dX12_days_151 rfl ?_
                      refine pm_iloadn hG dX12_days_152 rfl ?_
                      obtain ⟨r33, h32, hE⟩ := fb_some hE
                      refine pm_callV (As := [.int x24_3]) (rest := []) hG hR dX12_days_153 (lkX12_116 _ rfl) okV_X12_comesBack rfl rfl (c_X12_comesBack (d := 3) (by decide) h32) rfl rfl hdd (Nat.le_refl _) (Nat.le_refl _) (by decide) (fx_kv ?_)
                      refine pm_iincX (v := x24_3 + 1) (loc' := [some (.ref (B + 54)), some (.int za), some (.int x5_2), some (.int (x24_3 + 1))]) hG dX12_days_156 rfl (by rfl) (by decide) (pm_c1b rfl) rfl ?_
                      refine pm_goto (tgt := 116) hG dX12_days_159 rfl ?_
                      exact ih116 _ _ hE
            refine loop116 _ (fun S34 x34_3 hE => ?_) _ _ _ hE
            refine pm_aloadn hG dX12_days_162 rfl ?_
            refine pm_getf hG dX12_days_163 (flX12_7 _ rfl) rfl rfl ?_
            refine pm_bipush (v := 8) hG dX12_days_166 (by decide) ?_
            refine fx_iald hG dX12_days_168 rfl (ix_lit (by decide) rfl) ?_
            refine pm_bipush (v := 90) hG dX12_days_169 (by decide) ?_
            refine pm_irem hG dX12_days_171 (by decide) ?_
            refine pm_if_ne (tgt := 179) hG dX12_days_172 rfl (fun c35 => ?_) (fun c35 => ?_)
            · replace hE := fx_f c35 hE
              refine pm_iincX (v := x5_2 + 1) (loc' := [some (.ref (B + 54)), some (.int za), some (.int (x5_2 + 1)), some (.int x34_3)]) hG dX12_days_179 rfl (by rfl) (by decide) (pm_c1b rfl) rfl ?_
              refine pm_goto (tgt := 34) hG dX12_days_182 rfl ?_
              refine pm_fg 3 (loc' := [some (.ref (B + 54)), some (.int za), some (.int (x5_2 + 1)), none]) rfl ?_
              exact ih34 _ _ hE
            · replace hE := fx_t c35 hE
              refine pm_aloadn hG dX12_days_175 rfl ?_
              obtain ⟨r37, h36, hE⟩ := fb_some hE
              refine pm_callV (As := []) (rest := []) hG hR dX12_days_176 (lkX12_236 _ rfl) okV_X12_quarter rfl rfl (c_X12_quarter (d := 3) (by decide) h36) rfl rfl hdd (Nat.le_refl _) (Nat.le_refl _) (by decide) (fx_kv ?_)
              refine pm_iincX (v := x5_2 + 1) (loc' := [some (.ref (B + 54)), some (.int za), some (.int (x5_2 + 1)), some (.int x34_3)]) hG dX12_days_179 rfl (by rfl) (by decide) (pm_c1b rfl) rfl ?_
              refine pm_goto (tgt := 34) hG dX12_days_182 rfl ?_
              refine pm_fg 3 (loc' := [some (.ref (B + 54)), some (.int za), some (.int (x5_2 + 1)), none]) rfl ?_
              exact ih34 _ _ hE
      refine loop34 _ (fun S38 x38_2 hE => ?_) _ _ _ hE
      refine pm_aloadn hG dX12_days_185 rfl ?_
      refine pm_getf hG dX12_days_186 (flX12_7 _ rfl) rfl rfl ?_
      refine pm_bipush (v := 8) hG dX12_days_189 (by decide) ?_
      refine fx_iald hG dX12_days_191 rfl (ix_lit (by decide) rfl) ?_
      exact pm_iret hG hF dX12_days_192 rfl (Nat.le_refl _) (Nat.le_refl _) (fx_rim hE)
    · replace c4 := Int32.not_le.mp c4
      replace hE := fx_t c4 hE
      refine pm_aloadn hG dX12_days_26 rfl ?_
      refine pm_iconst (v := 1) hG dX12_days_27 (by decide) ?_
      obtain ⟨r40, h39, hE⟩ := fb_some hE
      refine pm_callV (As := [.int 1]) (rest := []) hG hR dX12_days_28 (lkX12_80 _ rfl) okV_X12_finds rfl rfl (c_X12_finds (d := 3) (by decide) h39) rfl rfl hdd (Nat.le_refl _) (Nat.le_refl _) (by decide) (fx_ki ?_)
      exact pm_iret hG hF dX12_days_31 rfl (Nat.le_refl _) (Nat.le_refl _) (fx_rim hE)

set_option maxRecDepth 100000 in
set_option maxHeartbeats 4000000 in
theorem c_X12_isTown {d : Nat} {B cnt : Nat} {σ : pm_S} {S : FS} {za : Int32} {R : Int32} (hdd : 2 ≤ d) (hE : p_X12_isTown S za = R) : pm_met mX12_isTown d 0 0 B [.ref (B + 54), .int za] cnt (mst B S σ) (pm_Qi (fun v σ' cnt' => v = R ∧ σ' = (mst B S σ) ∧ cnt' = cnt)) := by
  refine pm_enter 0 (by decide) (Nat.le_of_ble_eq_true rfl) rfl (fun G hG hR hF => ?_)
  unfold p_X12_isTown at hE
  refine pm_iloadn hG dX12_isTown_0 rfl ?_
  refine pm_iconst (v := 0) hG dX12_isTown_1 (by decide) ?_
  refine pm_aloadn hG dX12_isTown_2 rfl ?_
  refine pm_getf hG dX12_isTown_3 (flX12_7 _ rfl) rfl rfl ?_
  refine pm_iconst (v := 0) hG dX12_isTown_6 (by decide) ?_
  refine fx_iald hG dX12_isTown_7 rfl (ix_lit (by decide) rfl) ?_
  refine pm_iconst (v := 1) hG dX12_isTown_8 (by decide) ?_
  refine pm_isub hG dX12_isTown_9 ?_
  refine pm_callS (As := [.int za, .int 0, .int ((S.2 55 0) - 1)]) (rest := []) hG hR dX12_isTown_10 (lkX12_68 _ rfl) okS_X12_in (c_X12_in (d := 1) (by decide) rfl) rfl rfl hdd (Nat.le_refl _) (Nat.le_refl _) (by decide) (fx_ki ?_)
  exact pm_zret hG hF dX12_isTown_13 rfl (pm_nz pb_X12_in) (Nat.le_refl _) (Nat.le_refl _) (fx_pi hE)

set_option maxRecDepth 100000 in
set_option maxHeartbeats 4000000 in
theorem c_X12_debt {d : Nat} {B cnt : Nat} {σ : pm_S} {S : FS} {za : Int32} {zb : Int32} {zc : Int32} {R : Int32 × FS} (hdd : 3 ≤ d) (hE : f_X12_debt S za zb zc = some R) : pm_met mX12_debt d 0 0 B [.ref (B + 54), .int za, .int zb, .int zc] cnt (mst B S σ) (pm_Qi (fun v σ' cnt' => v = R.1 ∧ σ' = (mst B R.2 σ) ∧ cnt' = cnt)) := by
  refine pm_enter 1 (by decide) (Nat.le_of_ble_eq_true rfl) rfl (fun G hG hR hF => ?_)
  unfold f_X12_debt at hE
  refine pm_iloadn hG dX12_debt_0 rfl ?_
  refine pm_iconst (v := 0) hG dX12_debt_1 (by decide) ?_
  refine pm_ldc hG dX12_debt_2 (ctX12_242 _ rfl) ?_
  refine pm_callS (As := [.int za, .int 0, .int 99999]) (rest := []) hG hR dX12_debt_4 (lkX12_68 _ rfl) okS_X12_in (c_X12_in (d := 2) (by decide) rfl) rfl rfl hdd (Nat.le_refl _) (Nat.le_refl _) (by decide) (fx_ki ?_)
  refine pm_if_eq (tgt := 51) hG dX12_debt_7 rfl (fun c1 => ?_) (fun c1 => ?_)
  · replace hE := fx_t c1 hE
    refine pm_aloadn hG dX12_debt_51 rfl ?_
    refine pm_iconst (v := 1) hG dX12_debt_52 (by decide) ?_
    obtain ⟨r3, h2, hE⟩ := fb_some hE
    refine pm_callV (As := [.int 1]) (rest := []) hG hR dX12_debt_53 (lkX12_80 _ rfl) okV_X12_finds rfl rfl (c_X12_finds (d := 2) (by decide) h2) rfl rfl hdd (Nat.le_refl _) (Nat.le_refl _) (by decide) (fx_ki ?_)
    exact pm_iret hG hF dX12_debt_56 rfl (Nat.le_refl _) (Nat.le_refl _) (fx_rim hE)
  · replace hE := fx_f c1 hE
    refine pm_iloadn hG dX12_debt_10 rfl ?_
    refine pm_if_lt (tgt := 51) hG dX12_debt_11 rfl (fun c4 => ?_) (fun c4 => ?_)
    · replace hE := fx_t c4 hE
      refine pm_aloadn hG dX12_debt_51 rfl ?_
      refine pm_iconst (v := 1) hG dX12_debt_52 (by decide) ?_
      obtain ⟨r6, h5, hE⟩ := fb_some hE
      refine pm_callV (As := [.int 1]) (rest := []) hG hR dX12_debt_53 (lkX12_80 _ rfl) okV_X12_finds rfl rfl (c_X12_finds (d := 2) (by decide) h5) rfl rfl hdd (Nat.le_refl _) (Nat.le_refl _) (by decide) (fx_ki ?_)
      exact pm_iret hG hF dX12_debt_56 rfl (Nat.le_refl _) (Nat.le_refl _) (fx_rim hE)
    · replace hE := fx_f c4 hE
      refine pm_iloadn hG dX12_debt_14 rfl ?_
      refine pm_sipush (v := 10000) hG dX12_debt_15 (by decide) ?_
      refine pm_idiv hG dX12_debt_18 (by decide) ?_
      refine pm_iconst (v := 0) hG dX12_debt_19 (by decide) ?_
      refine pm_bipush (v := 99) hG dX12_debt_20 (by decide) ?_
      refine pm_callS (As := [.int (zb / 10000), .int 0, .int 99]) (rest := []) hG hR dX12_debt_22 (lkX12_68 _ rfl) okS_X12_in (c_X12_in (d := 2) (by decide) rfl) rfl rfl hdd (Nat.le_refl _) (Nat.le_refl _) (by decide) (fx_ki ?_)
      refine pm_if_eq (tgt := 51) hG dX12_debt_25 rfl (fun c7 => ?_) (fun c7 => ?_)
      · replace hE := fx_t c7 hE
        refine pm_aloadn hG dX12_debt_51 rfl ?_
        refine pm_iconst (v := 1) hG dX12_debt_52 (by decide) ?_
        obtain ⟨r9, h8, hE⟩ := fb_some hE
        refine pm_callV (As := [.int 1]) (rest := []) hG hR dX12_debt_53 (lkX12_80 _ rfl) okV_X12_finds rfl rfl (c_X12_finds (d := 2) (by decide) h8) rfl rfl hdd (Nat.le_refl _) (Nat.le_refl _) (by decide) (fx_ki ?_)
        exact pm_iret hG hF dX12_debt_56 rfl (Nat.le_refl _) (Nat.le_refl _) (fx_rim hE)
      · replace hE := fx_f c7 hE
        refine pm_iloadn hG dX12_debt_28 rfl ?_
        refine pm_sipush (v := 10000) hG dX12_debt_29 (by decide) ?_
        refine pm_irem hG dX12_debt_32 (by decide) ?_
        refine pm_iconst (v := 1) hG dX12_debt_33 (by decide) ?_
        refine pm_sipush (v := 9999) hG dX12_debt_34 (by decide) ?_
        refine pm_callS (As := [.int (zb - zb / 10000 * 10000), .int 1, .int 9999]) (rest := []) hG hR dX12_debt_37 (lkX12_68 _ rfl) okS_X12_in (c_X12_in (d := 2) (by decide) rfl) rfl rfl hdd (Nat.le_refl _) (Nat.le_refl _) (by decide) (fx_ki ?_)
        refine pm_if_eq (tgt := 51) hG dX12_debt_40 rfl (fun c10 => ?_) (fun c10 => ?_)
        · replace hE := fx_t c10 hE
          refine pm_aloadn hG dX12_debt_51 rfl ?_
          refine pm_iconst (v := 1) hG dX12_debt_52 (by decide) ?_
          obtain ⟨r12, h11, hE⟩ := fb_some hE
          refine pm_callV (As := [.int 1]) (rest := []) hG hR dX12_debt_53 (lkX12_80 _ rfl) okV_X12_finds rfl rfl (c_X12_finds (d := 2) (by decide) h11) rfl rfl hdd (Nat.le_refl _) (Nat.le_refl _) (by decide) (fx_ki ?_)
          exact pm_iret hG hF dX12_debt_56 rfl (Nat.le_refl _) (Nat.le_refl _) (fx_rim hE)
        · replace hE := fx_f c10 hE
          refine pm_aloadn hG dX12_debt_43 rfl ?_
          refine pm_iloadn hG dX12_debt_44 rfl ?_
          refine pm_callV (As := [.int zc]) (rest := []) hG hR dX12_debt_45 (lkX12_84 _ rfl) okV_X12_isTown rfl rfl (c_X12_isTown (d := 2) (by decide) rfl) rfl rfl hdd (Nat.le_refl _) (Nat.le_refl _) (by decide) (fx_ki ?_)
          refine pm_if_ne (tgt := 57) hG dX12_debt_48 rfl (fun c13 => ?_) (fun c13 => ?_)
          · replace hE := fx_f c13 hE
            refine pm_aloadn hG dX12_debt_57 rfl ?_
            refine pm_getf hG dX12_debt_58 (flX12_7 _ rfl) rfl rfl ?_
            refine pm_bipush (v := 6) hG dX12_debt_61 (by decide) ?_
            refine fx_iald hG dX12_debt_63 rfl (ix_lit (by decide) rfl) ?_
            refine fx_letv hE (fun x14 hE => ?_)
            refine pm_istoreXi (loc' := [some (.ref (B + 54)), some (.int za), some (.int zb), some (.int zc), some (.int x14)]) hG dX12_debt_64 (by decide) (pm_c1b rfl) rfl ?_
            refine pm_iloadi hG dX12_debt_66 rfl ?_
            refine pm_bipush (v := 6) hG dX12_debt_68 (by decide) ?_
            refine pm_icmp_ne (tgt := 79) hG dX12_debt_70 rfl (fun c15 => ?_) (fun c15 => ?_)
            · replace hE := fx_f c15 hE
              refine pm_aloadn hG dX12_debt_79 rfl ?_
              refine pm_getf hG dX12_debt_80 (flX12_7 _ rfl) rfl rfl ?_
              refine pm_bipush (v := 6) hG dX12_debt_83 (by decide) ?_
              refine pm_dup2 hG dX12_debt_85 rfl rfl ?_
              refine fx_iald hG dX12_debt_86 rfl (ix_lit (by decide) rfl) ?_
              refine pm_iconst (v := 1) hG dX12_debt_87 (by decide) ?_
              refine pm_iadd hG dX12_debt_88 ?_
              refine fx_iast hG dX12_debt_89 rfl (ix_lit (by decide) rfl) ?_
              refine ma_55 ?_
              refine fx_letm hE (fun S16 hE => ?_)
              refine pm_aloadn hG dX12_debt_90 rfl ?_
              refine pm_getf hG dX12_debt_91 (flX12_7 _ rfl) rfl rfl ?_
              refine pm_sipush (v := 1770) hG dX12_debt_94 (by decide) ?_
              refine pm_bipush (v := 6) hG dX12_debt_97 (by decide) ?_
              refine pm_iloadi hG dX12_debt_99 rfl ?_
              refine pm_imul hG dX12_debt_101 ?_
              refine pm_iadd hG dX12_debt_102 ?_
              refine pm_iloadn hG dX12_debt_103 rfl ?_
              obtain ⟨j17, hj17, hE⟩ := fb_some hE
              refine fx_iast hG dX12_debt_104 rfl hj17 ?_
              refine ma_55 ?_
              refine fx_letm hE (fun S18 hE => ?_)
              refine pm_aloadn hG dX12_debt_105 rfl ?_
              refine pm_getf hG dX12_debt_106 (flX12_7 _ rfl) rfl rfl ?_
              refine pm_sipush (v := 1770) hG dX12_debt_109 (by decide) ?_
              refine pm_bipush (v := 6) hG dX12_debt_112 (by decide) ?_
              refine pm_iloadi hG dX12_debt_114 rfl ?_
              refine pm_imul hG dX12_debt_116 ?_
              refine pm_iadd hG dX12_debt_117 ?_
              refine pm_iconst (v := 1) hG dX12_debt_118 (by decide) ?_
              refine pm_iadd hG dX12_debt_119 ?_
              refine pm_iloadn hG dX12_debt_120 rfl ?_
              refine pm_sipush (v := 10000) hG dX12_debt_121 (by decide) ?_
              refine pm_idiv hG dX12_debt_124 (by decide) ?_
              obtain ⟨j19, hj19, hE⟩ := fb_some hE
              refine fx_iast hG dX12_debt_125 rfl hj19 ?_
              refine ma_55 ?_
              refine fx_letm hE (fun S20 hE => ?_)
              refine pm_aloadn hG dX12_debt_126 rfl ?_
              refine pm_getf hG dX12_debt_127 (flX12_7 _ rfl) rfl rfl ?_
              refine pm_sipush (v := 1770) hG dX12_debt_130 (by decide) ?_
              refine pm_bipush (v := 6) hG dX12_debt_133 (by decide) ?_
              refine pm_iloadi hG dX12_debt_135 rfl ?_
              refine pm_imul hG dX12_debt_137 ?_
              refine pm_iadd hG dX12_debt_138 ?_
              refine pm_iconst (v := 2) hG dX12_debt_139 (by decide) ?_
              refine pm_iadd hG dX12_debt_140 ?_
              refine pm_iloadn hG dX12_debt_141 rfl ?_
              refine pm_sipush (v := 10000) hG dX12_debt_142 (by decide) ?_
              refine pm_irem hG dX12_debt_145 (by decide) ?_
              obtain ⟨j21, hj21, hE⟩ := fb_some hE
              refine fx_iast hG dX12_debt_146 rfl hj21 ?_
              refine ma_55 ?_
              refine fx_letm hE (fun S22 hE => ?_)
              refine pm_aloadn hG dX12_debt_147 rfl ?_
              refine pm_getf hG dX12_debt_148 (flX12_7 _ rfl) rfl rfl ?_
              refine pm_sipush (v := 1770) hG dX12_debt_151 (by decide) ?_
              refine pm_bipush (v := 6) hG dX12_debt_154 (by decide) ?_
              refine pm_iloadi hG dX12_debt_156 rfl ?_
              refine pm_imul hG dX12_debt_158 ?_
              refine pm_iadd hG dX12_debt_159 ?_
              refine pm_iconst (v := 3) hG dX12_debt_160 (by decide) ?_
              refine pm_iadd hG dX12_debt_161 ?_
              refine pm_iconst (v := 0) hG dX12_debt_162 (by decide) ?_
              obtain ⟨j23, hj23, hE⟩ := fb_some hE
              refine fx_iast hG dX12_debt_163 rfl hj23 ?_
              refine ma_55 ?_
              refine fx_letm hE (fun S24 hE => ?_)
              refine pm_aloadn hG dX12_debt_164 rfl ?_
              refine pm_getf hG dX12_debt_165 (flX12_7 _ rfl) rfl rfl ?_
              refine pm_sipush (v := 1770) hG dX12_debt_168 (by decide) ?_
              refine pm_bipush (v := 6) hG dX12_debt_171 (by decide) ?_
              refine pm_iloadi hG dX12_debt_173 rfl ?_
              refine pm_imul hG dX12_debt_175 ?_
              refine pm_iadd hG dX12_debt_176 ?_
              refine pm_iconst (v := 4) hG dX12_debt_177 (by decide) ?_
              refine pm_iadd hG dX12_debt_178 ?_
              refine pm_iloadn hG dX12_debt_179 rfl ?_
              obtain ⟨j25, hj25, hE⟩ := fb_some hE
              refine fx_iast hG dX12_debt_180 rfl hj25 ?_
              refine ma_55 ?_
              refine fx_letm hE (fun S26 hE => ?_)
              refine pm_aloadn hG dX12_debt_181 rfl ?_
              refine pm_getf hG dX12_debt_182 (flX12_7 _ rfl) rfl rfl ?_
              refine pm_bipush (v := 9) hG dX12_debt_185 (by decide) ?_
              refine pm_dup2 hG dX12_debt_187 rfl rfl ?_
              refine fx_iald hG dX12_debt_188 rfl (ix_lit (by decide) rfl) ?_
              refine pm_iloadn hG dX12_debt_189 rfl ?_
              refine pm_iadd hG dX12_debt_190 ?_
              refine fx_iast hG dX12_debt_191 rfl (ix_lit (by decide) rfl) ?_
              refine ma_55 ?_
              refine fx_letm hE (fun S27 hE => ?_)
              refine pm_iloadi hG dX12_debt_192 rfl ?_
              exact pm_iret hG hF dX12_debt_194 rfl (Nat.le_refl _) (Nat.le_refl _) (fx_rim hE)
            · replace hE := fx_t c15 hE
              refine pm_aloadn hG dX12_debt_73 rfl ?_
              refine pm_iconst (v := 4) hG dX12_debt_74 (by decide) ?_
              obtain ⟨r29, h28, hE⟩ := fb_some hE
              refine pm_callV (As := [.int 4]) (rest := []) hG hR dX12_debt_75 (lkX12_80 _ rfl) okV_X12_finds rfl rfl (c_X12_finds (d := 2) (by decide) h28) rfl rfl hdd (Nat.le_refl _) (Nat.le_refl _) (by decide) (fx_ki ?_)
              exact pm_iret hG hF dX12_debt_78 rfl (Nat.le_refl _) (Nat.le_refl _) (fx_rim hE)
          · replace hE := fx_t c13 hE
            refine pm_aloadn hG dX12_debt_51 rfl ?_
            refine pm_iconst (v := 1) hG dX12_debt_52 (by decide) ?_
            obtain ⟨r31, h30, hE⟩ := fb_some hE
            refine pm_callV (As := [.int 1]) (rest := []) hG hR dX12_debt_53 (lkX12_80 _ rfl) okV_X12_finds rfl rfl (c_X12_finds (d := 2) (by decide) h30) rfl rfl hdd (Nat.le_refl _) (Nat.le_refl _) (by decide) (fx_ki ?_)
            exact pm_iret hG hF dX12_debt_56 rfl (Nat.le_refl _) (Nat.le_refl _) (fx_rim hE)

set_option maxRecDepth 100000 in
set_option maxHeartbeats 4000000 in
theorem c_X12_leaves {d : Nat} {B cnt : Nat} {σ : pm_S} {S : FS} {za : Int32} {R : Int32 × FS} (hdd : 2 ≤ d) (hE : f_X12_leaves S za = some R) : pm_met mX12_leaves d 0 0 B [.ref (B + 54), .int za] cnt (mst B S σ) (pm_Qv (fun σ' cnt' => σ' = (mst B R.2 σ) ∧ cnt' = cnt)) := by
  refine pm_enter 1 (by decide) (Nat.le_of_ble_eq_true rfl) rfl (fun G hG hR hF => ?_)
  unfold f_X12_leaves at hE
  refine pm_aloadn hG dX12_leaves_0 rfl ?_
  refine pm_iloadn hG dX12_leaves_1 rfl ?_
  refine pm_bipush (v := 11) hG dX12_leaves_2 (by decide) ?_
  refine pm_iconst (v := 0) hG dX12_leaves_4 (by decide) ?_
  obtain ⟨r2, h1, hE⟩ := fb_some hE
  refine pm_callV (As := [.int za, .int 11, .int 0]) (rest := []) hG hR dX12_leaves_5 (lkX12_97 _ rfl) okV_X12_sets rfl rfl (c_X12_sets (d := 1) (by decide) h1) rfl rfl hdd (Nat.le_refl _) (Nat.le_refl _) (by decide) (fx_kv ?_)
  refine pm_iconst (v := 0) hG dX12_leaves_8 (by decide) ?_
  refine pm_istoreXn (loc' := [some (.ref (B + 54)), some (.int za), some (.int 0)]) hG dX12_leaves_9 (by decide) (pm_c1b rfl) rfl ?_
  have loop10 : ∀ (k10 : FS → Int32 → Option (Int32 × FS)), (∀ (S3 : FS) (x3_2 : Int32), k10 S3  x3_2 = some R → pm_wp mX12_leaves G B 53 [some (.ref (B + 54)), some (.int za), some (.int x3_2)] [] 0 0 cnt (mst B S3 σ)) → ∀ (m10 : Nat) (S3 : FS) (x3_2 : Int32), l_X12_leaves_10 za k10 m10 S3  x3_2 = some R → pm_wp mX12_leaves G B 10 [some (.ref (B + 54)), some (.int za), some (.int x3_2)] [] 0 0 cnt (mst B S3 σ) := by
    intro k10 hk10 m10
    induction m10 with
    | zero => intro S3  x3_2 hE; exact fx_no hE
    | succ m10 ih10 =>
      intro S3  x3_2 hE
      rw [l_X12_leaves_10] at hE
      refine pm_iloadn hG dX12_leaves_10 rfl ?_
      refine pm_aloadn hG dX12_leaves_11 rfl ?_
      refine pm_getf hG dX12_leaves_12 (flX12_7 _ rfl) rfl rfl ?_
      refine pm_bipush (v := 7) hG dX12_leaves_15 (by decide) ?_
      refine fx_iald hG dX12_leaves_17 rfl (ix_lit (by decide) rfl) ?_
      refine pm_icmp_ge (tgt := 53) hG dX12_leaves_18 rfl (fun c4 => ?_) (fun c4 => ?_)
      · replace c4 := Int32.not_lt.mpr c4
        replace hE := fx_f c4 hE
        exact hk10 _ _ hE
      · replace c4 := Int32.not_le.mp c4
        replace hE := fx_t c4 hE
        refine pm_aloadn hG dX12_leaves_21 rfl ?_
        refine pm_iloadn hG dX12_leaves_22 rfl ?_
        refine pm_iconst (v := 0) hG dX12_leaves_23 (by decide) ?_
        obtain ⟨x6, h5, hE⟩ := fb_some hE
        refine pm_callV (As := [.int x3_2, .int 0]) (rest := []) hG hR dX12_leaves_24 (lkX12_223 _ rfl) okV_X12_promised rfl rfl (c_X12_promised (d := 1) (by decide) h5) rfl rfl hdd (Nat.le_refl _) (Nat.le_refl _) (by decide) (fx_ki ?_)
        refine pm_iloadn hG dX12_leaves_27 rfl ?_
        refine pm_icmp_ne (tgt := 47) hG dX12_leaves_28 rfl (fun c7 => ?_) (fun c7 => ?_)
        · replace hE := fx_f c7 hE
          refine pm_iincX (v := x3_2 + 1) (loc' := [some (.ref (B + 54)), some (.int za), some (.int (x3_2 + 1))]) hG dX12_leaves_47 rfl (by rfl) (by decide) (pm_c1b rfl) rfl ?_
          refine pm_goto (tgt := 10) hG dX12_leaves_50 rfl ?_
          exact ih10 _ _ hE
        · replace hE := fx_t c7 hE
          refine pm_aloadn hG dX12_leaves_31 rfl ?_
          refine pm_getf hG dX12_leaves_32 (flX12_7 _ rfl) rfl rfl ?_
          refine pm_sipush (v := 1806) hG dX12_leaves_35 (by decide) ?_
          refine pm_bipush (v := 6) hG dX12_leaves_38 (by decide) ?_
          refine pm_iloadn hG dX12_leaves_40 rfl ?_
          refine pm_imul hG dX12_leaves_41 ?_
          refine pm_iadd hG dX12_leaves_42 ?_
          refine pm_iconst (v := 5) hG dX12_leaves_43 (by decide) ?_
          refine pm_iadd hG dX12_leaves_44 ?_
          refine pm_iconst (v := 1) hG dX12_leaves_45 (by decide) ?_
          obtain ⟨j8, hj8, hE⟩ := fb_some hE
          refine fx_iast hG dX12_leaves_46 rfl hj8 ?_
          refine ma_55 ?_
          refine fx_letm hE (fun S9 hE => ?_)
          refine pm_iincX (v := x3_2 + 1) (loc' := [some (.ref (B + 54)), some (.int za), some (.int (x3_2 + 1))]) hG dX12_leaves_47 rfl (by rfl) (by decide) (pm_c1b rfl) rfl ?_
          refine pm_goto (tgt := 10) hG dX12_leaves_50 rfl ?_
          exact ih10 _ _ hE
  refine loop10 _ (fun S10 x10_2 hE => ?_) _ _ _ hE
  exact pm_vret hG hF dX12_leaves_53 rfl (Nat.le_refl _) (Nat.le_refl _) (fx_rvm hE)

set_option maxRecDepth 100000 in
set_option maxHeartbeats 4000000 in
theorem c_X12_die {d : Nat} {B cnt : Nat} {σ : pm_S} {S : FS} {za : Int32} {R : Int32 × FS} (hdd : 4 ≤ d) (hE : f_X12_die S za = some R) : pm_met mX12_die d 0 0 B [.ref (B + 54), .int za] cnt (mst B S σ) (pm_Qi (fun v σ' cnt' => v = R.1 ∧ σ' = (mst B R.2 σ) ∧ cnt' = cnt)) := by
  refine pm_enter 3 (by decide) (Nat.le_of_ble_eq_true rfl) rfl (fun G hG hR hF => ?_)
  unfold f_X12_die at hE
  refine pm_aloadn hG dX12_die_0 rfl ?_
  refine pm_iloadn hG dX12_die_1 rfl ?_
  refine pm_callV (As := [.int za]) (rest := []) hG hR dX12_die_2 (lkX12_91 _ rfl) okV_X12_isPerson rfl rfl (c_X12_isPerson (d := 3) (by decide) rfl) rfl rfl hdd (Nat.le_refl _) (Nat.le_refl _) (by decide) (fx_ki ?_)
  refine pm_if_ne (tgt := 14) hG dX12_die_5 rfl (fun c1 => ?_) (fun c1 => ?_)
  · replace hE := fx_f c1 hE
    refine pm_aloadn hG dX12_die_14 rfl ?_
    refine pm_iloadn hG dX12_die_15 rfl ?_
    obtain ⟨x3, h2, hE⟩ := fb_some hE
    refine pm_callV (As := [.int za]) (rest := []) hG hR dX12_die_16 (lkX12_101 _ rfl) okV_X12_lives rfl rfl (c_X12_lives (d := 3) (by decide) h2) rfl rfl hdd (Nat.le_refl _) (Nat.le_refl _) (by decide) (fx_ki ?_)
    refine pm_if_ne (tgt := 28) hG dX12_die_19 rfl (fun c4 => ?_) (fun c4 => ?_)
    · replace hE := fx_f c4 hE
      refine pm_aloadn hG dX12_die_28 rfl ?_
      refine pm_iloadn hG dX12_die_29 rfl ?_
      refine pm_bipush (v := 7) hG dX12_die_30 (by decide) ?_
      obtain ⟨x6, h5, hE⟩ := fb_some hE
      refine pm_callV (As := [.int za, .int 7]) (rest := []) hG hR dX12_die_32 (lkX12_72 _ rfl) okV_X12_man rfl rfl (c_X12_man (d := 3) (by decide) h5) rfl rfl hdd (Nat.le_refl _) (Nat.le_refl _) (by decide) (fx_ki ?_)
      refine pm_istoreXn (loc' := [some (.ref (B + 54)), some (.int za), some (.int x6), none, none]) hG dX12_die_35 (by decide) (pm_c1b rfl) rfl ?_
      refine pm_aloadn hG dX12_die_36 rfl ?_
      refine pm_iloadn hG dX12_die_37 rfl ?_
      refine pm_bipush (v := 10) hG dX12_die_38 (by decide) ?_
      refine pm_aloadn hG dX12_die_40 rfl ?_
      refine pm_iloadn hG dX12_die_41 rfl ?_
      obtain ⟨r8, h7, hE⟩ := fb_some hE
      refine pm_callV (As := [.int za]) (rest := [.int 10, .int za, .ref (B + 54)]) hG hR dX12_die_42 (lkX12_104 _ rfl) okV_X12_knownTo rfl rfl (c_X12_knownTo (d := 3) (by decide) h7) rfl rfl hdd (Nat.le_refl _) (Nat.le_refl _) (by first | decide | exact Nat.le_of_ble_eq_true rfl) (fx_ki ?_)
      obtain ⟨r10, h9, hE⟩ := fb_some hE
      refine pm_callV (As := [.int za, .int 10, .int r8.1]) (rest := []) hG hR dX12_die_45 (lkX12_97 _ rfl) okV_X12_sets rfl rfl (c_X12_sets (d := 3) (by decide) h9) rfl rfl hdd (Nat.le_refl _) (Nat.le_refl _) (by decide) (fx_kv ?_)
      refine pm_aloadn hG dX12_die_48 rfl ?_
      refine pm_iloadn hG dX12_die_49 rfl ?_
      refine pm_bipush (v := 9) hG dX12_die_50 (by decide) ?_
      refine pm_aloadn hG dX12_die_52 rfl ?_
      refine pm_getf hG dX12_die_53 (flX12_7 _ rfl) rfl rfl ?_
      refine pm_bipush (v := 8) hG dX12_die_56 (by decide) ?_
      refine fx_iald hG dX12_die_58 rfl (ix_lit (by decide) rfl) ?_
      obtain ⟨r12, h11, hE⟩ := fb_some hE
      refine pm_callV (As := [.int za, .int 9, .int (r10.2.2 55 8)]) (rest := []) hG hR dX12_die_59 (lkX12_97 _ rfl) okV_X12_sets rfl rfl (c_X12_sets (d := 3) (by decide) h11) rfl rfl hdd (Nat.le_refl _) (Nat.le_refl _) (by decide) (fx_kv ?_)
      refine pm_aloadn hG dX12_die_62 rfl ?_
      refine pm_iloadn hG dX12_die_63 rfl ?_
      refine pm_bipush (v := 7) hG dX12_die_64 (by decide) ?_
      refine pm_iconst (v := 0) hG dX12_die_66 (by decide) ?_
      obtain ⟨r14, h13, hE⟩ := fb_some hE
      refine pm_callV (As := [.int za, .int 7, .int 0]) (rest := []) hG hR dX12_die_67 (lkX12_97 _ rfl) okV_X12_sets rfl rfl (c_X12_sets (d := 3) (by decide) h13) rfl rfl hdd (Nat.le_refl _) (Nat.le_refl _) (by decide) (fx_kv ?_)
      refine pm_aloadn hG dX12_die_70 rfl ?_
      refine pm_iloadn hG dX12_die_71 rfl ?_
      refine pm_bipush (v := 8) hG dX12_die_72 (by decide) ?_
      refine pm_iconst (v := 0) hG dX12_die_74 (by decide) ?_
      obtain ⟨r16, h15, hE⟩ := fb_some hE
      refine pm_callV (As := [.int za, .int 8, .int 0]) (rest := []) hG hR dX12_die_75 (lkX12_97 _ rfl) okV_X12_sets rfl rfl (c_X12_sets (d := 3) (by decide) h15) rfl rfl hdd (Nat.le_refl _) (Nat.le_refl _) (by decide) (fx_kv ?_)
      refine pm_aloadn hG dX12_die_78 rfl ?_
      refine pm_getf hG dX12_die_79 (flX12_7 _ rfl) rfl rfl ?_
      refine pm_bipush (v := 9) hG dX12_die_82 (by decide) ?_
      refine pm_dup2 hG dX12_die_84 rfl rfl ?_
      refine fx_iald hG dX12_die_85 rfl (ix_lit (by decide) rfl) ?_
      refine pm_iloadn hG dX12_die_86 rfl ?_
      refine pm_iadd hG dX12_die_87 ?_
      refine fx_iast hG dX12_die_88 rfl (ix_lit (by decide) rfl) ?_
      refine ma_55 ?_
      refine fx_letm hE (fun S17 hE => ?_)
      have join105 : ∀ (S18 : FS), j_X12_die_105 za x6 S18 = some R → pm_wp mX12_die G B 105 [some (.ref (B + 54)), some (.int za), some (.int x6), none, none] [] 0 0 cnt (mst B S18 σ) := by
        intro S18 hE
        unfold j_X12_die_105 at hE
        refine pm_iconst (v := 0) hG dX12_die_105 (by decide) ?_
        refine pm_istoreXn (loc' := [some (.ref (B + 54)), some (.int za), some (.int x6), some (.int 0), none]) hG dX12_die_106 (by decide) (pm_c1b rfl) rfl ?_
        have loop107 : ∀ (k107 : FS → Int32 → Option (Int32 × FS)), (∀ (S19 : FS) (x19_3 : Int32), k107 S19  x19_3 = some R → pm_wp mX12_die G B 172 [some (.ref (B + 54)), some (.int za), some (.int x6), some (.int x19_3), none] [] 0 0 cnt (mst B S19 σ)) → ∀ (m107 : Nat) (S19 : FS) (x19_3 : Int32), l_X12_die_107 za k107 m107 S19  x19_3 = some R → pm_wp mX12_die G B 107 [some (.ref (B + 54)), some (.int za), some (.int x6), some (.int x19_3), none] [] 0 0 cnt (mst B S19 σ) := by
          intro k107 hk107 m107
          induction m107 with
          | zero => intro S19  x19_3 hE; exact fx_no hE
          | succ m107 ih107 =>
            intro S19  x19_3 hE
            rw [l_X12_die_107] at hE
            refine pm_iloadn hG dX12_die_107 rfl ?_
            refine pm_aloadn hG dX12_die_108 rfl ?_
            refine pm_getf hG dX12_die_109 (flX12_7 _ rfl) rfl rfl ?_
            refine pm_iconst (v := 3) hG dX12_die_112 (by decide) ?_
            refine fx_iald hG dX12_die_113 rfl (ix_lit (by decide) rfl) ?_
            refine pm_icmp_ge (tgt := 172) hG dX12_die_114 rfl (fun c20 => ?_) (fun c20 => ?_)
            · replace c20 := Int32.not_lt.mpr c20
              replace hE := fx_f c20 hE
              exact hk107 _ _ hE
            · replace c20 := Int32.not_le.mp c20
              replace hE := fx_t c20 hE
              refine pm_aloadn hG dX12_die_117 rfl ?_
              refine pm_iloadn hG dX12_die_118 rfl ?_
              refine pm_iconst (v := 1) hG dX12_die_119 (by decide) ?_
              obtain ⟨x22, h21, hE⟩ := fb_some hE
              refine pm_callV (As := [.int x19_3, .int 1]) (rest := []) hG hR dX12_die_120 (lkX12_110 _ rfl) okV_X12_its rfl rfl (c_X12_its (d := 3) (by decide) h21) rfl rfl hdd (Nat.le_refl _) (Nat.le_refl _) (by decide) (fx_ki ?_)
              refine pm_iloadn hG dX12_die_123 rfl ?_
              refine pm_icmp_ne (tgt := 131) hG dX12_die_124 rfl (fun c23 => ?_) (fun c23 => ?_)
              · replace hE := fx_f c23 hE
                refine pm_iconst (v := 0) hG dX12_die_131 (by decide) ?_
                refine pm_istoreXi (loc' := [some (.ref (B + 54)), some (.int za), some (.int x6), some (.int x19_3), some (.int 0)]) hG dX12_die_132 (by decide) (pm_c1b rfl) rfl ?_
                refine pm_iloadi hG dX12_die_134 rfl ?_
                refine pm_if_eq (tgt := 146) hG dX12_die_136 rfl (fun _ => ?_) (fun q => absurd q (by decide))
                refine pm_iloadi hG dX12_die_146 rfl ?_
                refine pm_if_ne (tgt := 161) hG dX12_die_148 rfl (fun q => absurd q (by decide)) (fun _ => ?_)
                refine pm_aloadn hG dX12_die_151 rfl ?_
                refine pm_iloadn hG dX12_die_152 rfl ?_
                refine pm_iconst (v := 2) hG dX12_die_153 (by decide) ?_
                obtain ⟨x25, h24, hE⟩ := fb_some hE
                refine pm_callV (As := [.int x19_3, .int 2]) (rest := []) hG hR dX12_die_154 (lkX12_110 _ rfl) okV_X12_its rfl rfl (c_X12_its (d := 3) (by decide) h24) rfl rfl hdd (Nat.le_refl _) (Nat.le_refl _) (by decide) (fx_ki ?_)
                refine pm_iloadn hG dX12_die_157 rfl ?_
                refine pm_icmp_ne (tgt := 166) hG dX12_die_158 rfl (fun c26 => ?_) (fun c26 => ?_)
                · replace hE := fx_f c26 hE
                  refine pm_iincX (v := x19_3 + 1) (loc' := [some (.ref (B + 54)), some (.int za), some (.int x6), some (.int (x19_3 + 1)), some (.int 0)]) hG dX12_die_166 rfl (by rfl) (by decide) (pm_c1b rfl) rfl ?_
                  refine pm_goto (tgt := 107) hG dX12_die_169 rfl ?_
                  refine pm_fg 4 (loc' := [some (.ref (B + 54)), some (.int za), some (.int x6), some (.int (x19_3 + 1)), none]) rfl ?_
                  exact ih107 _ _ hE
                · replace hE := fx_t c26 hE
                  refine pm_aloadn hG dX12_die_161 rfl ?_
                  refine pm_iloadn hG dX12_die_162 rfl ?_
                  obtain ⟨r28, h27, hE⟩ := fb_some hE
                  refine pm_callV (As := [.int x19_3]) (rest := []) hG hR dX12_die_163 (lkX12_116 _ rfl) okV_X12_comesBack rfl rfl (c_X12_comesBack (d := 3) (by decide) h27) rfl rfl hdd (Nat.le_refl _) (Nat.le_refl _) (by decide) (fx_kv ?_)
                  refine pm_iincX (v := x19_3 + 1) (loc' := [some (.ref (B + 54)), some (.int za), some (.int x6), some (.int (x19_3 + 1)), some (.int 0)]) hG dX12_die_166 rfl (by rfl) (by decide) (pm_c1b rfl) rfl ?_
                  refine pm_goto (tgt := 107) hG dX12_die_169 rfl ?_
                  refine pm_fg 4 (loc' := [some (.ref (B + 54)), some (.int za), some (.int x6), some (.int (x19_3 + 1)), none]) rfl ?_
                  exact ih107 _ _ hE
              · replace hE := fx_t c23 hE
                refine pm_iconst (v := 1) hG dX12_die_127 (by decide) ?_
                refine pm_goto (tgt := 132) hG dX12_die_128 rfl ?_
                refine pm_istoreXi (loc' := [some (.ref (B + 54)), some (.int za), some (.int x6), some (.int x19_3), some (.int 1)]) hG dX12_die_132 (by decide) (pm_c1b rfl) rfl ?_
                refine pm_iloadi hG dX12_die_134 rfl ?_
                refine pm_if_eq (tgt := 146) hG dX12_die_136 rfl (fun q => absurd q (by decide)) (fun _ => ?_)
                refine pm_aloadn hG dX12_die_139 rfl ?_
                refine pm_iloadn hG dX12_die_140 rfl ?_
                refine pm_iconst (v := 1) hG dX12_die_141 (by decide) ?_
                refine pm_iconst (v := (-1)) hG dX12_die_142 (by decide) ?_
                obtain ⟨r30, h29, hE⟩ := fb_some hE
                refine pm_callV (As := [.int x19_3, .int 1, .int (-1)]) (rest := []) hG hR dX12_die_143 (lkX12_113 _ rfl) okV_X12_makes rfl rfl (c_X12_makes (d := 3) (by decide) h29) rfl rfl hdd (Nat.le_refl _) (Nat.le_refl _) (by decide) (fx_kv ?_)
                refine pm_iloadi hG dX12_die_146 rfl ?_
                refine pm_if_ne (tgt := 161) hG dX12_die_148 rfl (fun _ => ?_) (fun q => absurd q (by decide))
                refine pm_aloadn hG dX12_die_161 rfl ?_
                refine pm_iloadn hG dX12_die_162 rfl ?_
                obtain ⟨r32, h31, hE⟩ := fb_some hE
                refine pm_callV (As := [.int x19_3]) (rest := []) hG hR dX12_die_163 (lkX12_116 _ rfl) okV_X12_comesBack rfl rfl (c_X12_comesBack (d := 3) (by decide) h31) rfl rfl hdd (Nat.le_refl _) (Nat.le_refl _) (by decide) (fx_kv ?_)
                refine pm_iincX (v := x19_3 + 1) (loc' := [some (.ref (B + 54)), some (.int za), some (.int x6), some (.int (x19_3 + 1)), some (.int 1)]) hG dX12_die_166 rfl (by rfl) (by decide) (pm_c1b rfl) rfl ?_
                refine pm_goto (tgt := 107) hG dX12_die_169 rfl ?_
                refine pm_fg 4 (loc' := [some (.ref (B + 54)), some (.int za), some (.int x6), some (.int (x19_3 + 1)), none]) rfl ?_
                exact ih107 _ _ hE
        refine loop107 _ (fun S33 x33_3 hE => ?_) _ _ _ hE
        refine pm_iloadn hG dX12_die_172 rfl ?_
        exact pm_iret hG hF dX12_die_173 rfl (Nat.le_refl _) (Nat.le_refl _) (fx_rim hE)
      refine pm_aloadn hG dX12_die_89 rfl ?_
      refine pm_iloadn hG dX12_die_90 rfl ?_
      refine pm_bipush (v := 11) hG dX12_die_91 (by decide) ?_
      obtain ⟨x35, h34, hE⟩ := fb_some hE
      refine pm_callV (As := [.int za, .int 11]) (rest := []) hG hR dX12_die_93 (lkX12_72 _ rfl) okV_X12_man rfl rfl (c_X12_man (d := 3) (by decide) h34) rfl rfl hdd (Nat.le_refl _) (Nat.le_refl _) (by decide) (fx_ki ?_)
      refine pm_iconst (v := 1) hG dX12_die_96 (by decide) ?_
      refine pm_icmp_ne (tgt := 105) hG dX12_die_97 rfl (fun c36 => ?_) (fun c36 => ?_)
      · replace hE := fx_f c36 hE
        exact join105 _ hE
      · replace hE := fx_t c36 hE
        refine pm_aloadn hG dX12_die_100 rfl ?_
        refine pm_iloadn hG dX12_die_101 rfl ?_
        obtain ⟨r38, h37, hE⟩ := fb_some hE
        refine pm_callV (As := [.int za]) (rest := []) hG hR dX12_die_102 (lkX12_107 _ rfl) okV_X12_leaves rfl rfl (c_X12_leaves (d := 3) (by decide) h37) rfl rfl hdd (Nat.le_refl _) (Nat.le_refl _) (by decide) (fx_kv ?_)
        exact join105 _ hE
    · replace hE := fx_t c4 hE
      refine pm_aloadn hG dX12_die_22 rfl ?_
      refine pm_iconst (v := 3) hG dX12_die_23 (by decide) ?_
      obtain ⟨r40, h39, hE⟩ := fb_some hE
      refine pm_callV (As := [.int 3]) (rest := []) hG hR dX12_die_24 (lkX12_80 _ rfl) okV_X12_finds rfl rfl (c_X12_finds (d := 3) (by decide) h39) rfl rfl hdd (Nat.le_refl _) (Nat.le_refl _) (by decide) (fx_ki ?_)
      exact pm_iret hG hF dX12_die_27 rfl (Nat.le_refl _) (Nat.le_refl _) (fx_rim hE)
  · replace hE := fx_t c1 hE
    refine pm_aloadn hG dX12_die_8 rfl ?_
    refine pm_iconst (v := 1) hG dX12_die_9 (by decide) ?_
    obtain ⟨r42, h41, hE⟩ := fb_some hE
    refine pm_callV (As := [.int 1]) (rest := []) hG hR dX12_die_10 (lkX12_80 _ rfl) okV_X12_finds rfl rfl (c_X12_finds (d := 3) (by decide) h41) rfl rfl hdd (Nat.le_refl _) (Nat.le_refl _) (by decide) (fx_ki ?_)
    exact pm_iret hG hF dX12_die_13 rfl (Nat.le_refl _) (Nat.le_refl _) (fx_rim hE)

set_option maxRecDepth 100000 in
set_option maxHeartbeats 4000000 in
theorem c_X12_writes {d : Nat} {B cnt : Nat} {σ : pm_S} {S : FS} {za : Int32} {zb : Int32} {zc : Int32} {R : Int32 × FS} (hdd : 1 ≤ d) (hE : f_X12_writes S za zb zc = some R) : pm_met mX12_writes d 0 0 B [.ref (B + 54), .int za, .int zb, .int zc] cnt (mst B S σ) (pm_Qv (fun σ' cnt' => σ' = (mst B R.2 σ) ∧ cnt' = cnt)) := by
  refine pm_enter 0 (by decide) (Nat.le_of_ble_eq_true rfl) rfl (fun G hG hR hF => ?_)
  unfold f_X12_writes at hE
  refine pm_aloadn hG dX12_writes_0 rfl ?_
  refine pm_getf hG dX12_writes_1 (flX12_7 _ rfl) rfl rfl ?_
  refine pm_sipush (v := 1290) hG dX12_writes_4 (by decide) ?_
  refine pm_bipush (v := 12) hG dX12_writes_7 (by decide) ?_
  refine pm_iloadn hG dX12_writes_9 rfl ?_
  refine pm_imul hG dX12_writes_10 ?_
  refine pm_iadd hG dX12_writes_11 ?_
  refine pm_iloadn hG dX12_writes_12 rfl ?_
  refine pm_iadd hG dX12_writes_13 ?_
  refine pm_iloadn hG dX12_writes_14 rfl ?_
  obtain ⟨j1, hj1, hE⟩ := fb_some hE
  refine fx_iast hG dX12_writes_15 rfl hj1 ?_
  refine ma_55 ?_
  refine fx_letm hE (fun S2 hE => ?_)
  exact pm_vret hG hF dX12_writes_16 rfl (Nat.le_refl _) (Nat.le_refl _) (fx_rvm hE)

set_option maxRecDepth 100000 in
set_option maxHeartbeats 4000000 in
theorem c_X12_thoseIn {d : Nat} {B cnt : Nat} {σ : pm_S} {S : FS} {za : Int32} {R : Int32} (hdd : 3 ≤ d) (hE : q_X12_thoseIn S za = some R) : pm_met mX12_thoseIn d 0 0 B [.ref (B + 54), .int za] cnt (mst B S σ) (pm_Qi (fun v σ' cnt' => v = R ∧ σ' = (mst B S σ) ∧ cnt' = cnt)) := by
  refine pm_enter 2 (by decide) (Nat.le_of_ble_eq_true rfl) rfl (fun G hG hR hF => ?_)
  unfold q_X12_thoseIn at hE
  refine pm_iconst (v := 0) hG dX12_thoseIn_0 (by decide) ?_
  refine pm_istoreXn (loc' := [some (.ref (B + 54)), some (.int za), some (.int 0), none]) hG dX12_thoseIn_1 (by decide) (pm_c1b rfl) rfl ?_
  refine pm_iconst (v := 0) hG dX12_thoseIn_2 (by decide) ?_
  refine pm_istoreXn (loc' := [some (.ref (B + 54)), some (.int za), some (.int 0), some (.int 0)]) hG dX12_thoseIn_3 (by decide) (pm_c1b rfl) rfl ?_
  have loop4 : ∀ (k4 : Int32 → Int32 → Option Int32), (∀  (x1_2 : Int32) (x1_3 : Int32), k4  x1_2 x1_3 = some R → pm_wp mX12_thoseIn G B 48 [some (.ref (B + 54)), some (.int za), some (.int x1_2), some (.int x1_3)] [] 0 0 cnt (mst B S σ)) → ∀ (m4 : Nat)  (x1_2 : Int32) (x1_3 : Int32), l_X12_thoseIn_4 za S k4 m4  x1_2 x1_3 = some R → pm_wp mX12_thoseIn G B 4 [some (.ref (B + 54)), some (.int za), some (.int x1_2), some (.int x1_3)] [] 0 0 cnt (mst B S σ) := by
    intro k4 hk4 m4
    induction m4 with
    | zero => intro  x1_2 x1_3 hE; exact fx_no hE
    | succ m4 ih4 =>
      intro  x1_2 x1_3 hE
      rw [l_X12_thoseIn_4] at hE
      refine pm_iloadn hG dX12_thoseIn_4 rfl ?_
      refine pm_aloadn hG dX12_thoseIn_5 rfl ?_
      refine pm_getf hG dX12_thoseIn_6 (flX12_7 _ rfl) rfl rfl ?_
      refine pm_iconst (v := 2) hG dX12_thoseIn_9 (by decide) ?_
      refine fx_iald hG dX12_thoseIn_10 rfl (ix_lit (by decide) rfl) ?_
      refine pm_icmp_ge (tgt := 48) hG dX12_thoseIn_11 rfl (fun c2 => ?_) (fun c2 => ?_)
      · replace c2 := Int32.not_lt.mpr c2
        replace hE := fx_f c2 hE
        exact hk4 _ _ hE
      · replace c2 := Int32.not_le.mp c2
        replace hE := fx_t c2 hE
        refine pm_iloadn hG dX12_thoseIn_14 rfl ?_
        refine pm_aloadn hG dX12_thoseIn_15 rfl ?_
        refine pm_iloadn hG dX12_thoseIn_16 rfl ?_
        obtain ⟨x4, h3, hE⟩ := fb_some hE
        refine pm_callV (As := [.int x1_3]) (rest := [.int x1_2]) hG hR dX12_thoseIn_17 (lkX12_101 _ rfl) okV_X12_lives rfl rfl (c_X12_lives (d := 2) (by decide) h3) rfl rfl hdd (Nat.le_refl _) (Nat.le_refl _) (by first | decide | exact Nat.le_of_ble_eq_true rfl) (fx_ki ?_)
        refine pm_if_eq (tgt := 39) hG dX12_thoseIn_20 rfl (fun c5 => ?_) (fun c5 => ?_)
        · replace hE := fx_t c5 hE
          refine pm_iconst (v := 0) hG dX12_thoseIn_39 (by decide) ?_
          refine pm_ior hG dX12_thoseIn_40 ?_
          refine fx_letv hE (fun x6 hE => ?_)
          refine pm_istoreXn (loc' := [some (.ref (B + 54)), some (.int za), some (.int x6), some (.int x1_3)]) hG dX12_thoseIn_41 (by decide) (pm_c1b rfl) rfl ?_
          refine pm_iincX (v := x1_3 + 1) (loc' := [some (.ref (B + 54)), some (.int za), some (.int x6), some (.int (x1_3 + 1))]) hG dX12_thoseIn_42 rfl (by rfl) (by decide) (pm_c1b rfl) rfl ?_
          refine pm_goto (tgt := 4) hG dX12_thoseIn_45 rfl ?_
          exact ih4 _ _ hE
        · replace hE := fx_f c5 hE
          refine pm_aloadn hG dX12_thoseIn_23 rfl ?_
          refine pm_iloadn hG dX12_thoseIn_24 rfl ?_
          refine pm_iconst (v := 4) hG dX12_thoseIn_25 (by decide) ?_
          obtain ⟨x8, h7, hE⟩ := fb_some hE
          refine pm_callV (As := [.int x1_3, .int 4]) (rest := [.int x1_2]) hG hR dX12_thoseIn_26 (lkX12_72 _ rfl) okV_X12_man rfl rfl (c_X12_man (d := 2) (by decide) h7) rfl rfl hdd (Nat.le_refl _) (Nat.le_refl _) (by first | decide | exact Nat.le_of_ble_eq_true rfl) (fx_ki ?_)
          refine pm_iloadn hG dX12_thoseIn_29 rfl ?_
          refine pm_icmp_ne (tgt := 39) hG dX12_thoseIn_30 rfl (fun c9 => ?_) (fun c9 => ?_)
          · replace hE := fx_f c9 hE
            refine pm_iconst (v := 0) hG dX12_thoseIn_39 (by decide) ?_
            refine pm_ior hG dX12_thoseIn_40 ?_
            refine fx_letv hE (fun x10 hE => ?_)
            refine pm_istoreXn (loc' := [some (.ref (B + 54)), some (.int za), some (.int x10), some (.int x1_3)]) hG dX12_thoseIn_41 (by decide) (pm_c1b rfl) rfl ?_
            refine pm_iincX (v := x1_3 + 1) (loc' := [some (.ref (B + 54)), some (.int za), some (.int x10), some (.int (x1_3 + 1))]) hG dX12_thoseIn_42 rfl (by rfl) (by decide) (pm_c1b rfl) rfl ?_
            refine pm_goto (tgt := 4) hG dX12_thoseIn_45 rfl ?_
            exact ih4 _ _ hE
          · replace hE := fx_t c9 hE
            refine pm_iconst (v := 1) hG dX12_thoseIn_33 (by decide) ?_
            refine pm_iloadn hG dX12_thoseIn_34 rfl ?_
            refine pm_ishl hG dX12_thoseIn_35 ?_
            refine pm_goto (tgt := 40) hG dX12_thoseIn_36 rfl ?_
            refine pm_ior hG dX12_thoseIn_40 ?_
            refine fx_letv hE (fun x11 hE => ?_)
            refine pm_istoreXn (loc' := [some (.ref (B + 54)), some (.int za), some (.int x11), some (.int x1_3)]) hG dX12_thoseIn_41 (by decide) (pm_c1b rfl) rfl ?_
            refine pm_iincX (v := x1_3 + 1) (loc' := [some (.ref (B + 54)), some (.int za), some (.int x11), some (.int (x1_3 + 1))]) hG dX12_thoseIn_42 rfl (by rfl) (by decide) (pm_c1b rfl) rfl ?_
            refine pm_goto (tgt := 4) hG dX12_thoseIn_45 rfl ?_
            exact ih4 _ _ hE
  refine loop4 _ (fun  x12_2 x12_3 hE => ?_) _ _ _ hE
  refine pm_iloadn hG dX12_thoseIn_48 rfl ?_
  exact pm_iret hG hF dX12_thoseIn_49 rfl (Nat.le_refl _) (Nat.le_refl _) (fx_pi (Option.some.inj hE))

set_option maxRecDepth 100000 in
set_option maxHeartbeats 4000000 in
theorem c_X12_draw {d : Nat} {B cnt : Nat} {σ : pm_S} {S : FS} {za : Int32} {zb : Int32} {zc : Int32} {R : Int32 × FS} (hdd : 4 ≤ d) (hE : f_X12_draw S za zb zc = some R) : pm_met mX12_draw d 0 0 B [.ref (B + 54), .int za, .int zb, .int zc] cnt (mst B S σ) (pm_Qi (fun v σ' cnt' => v = R.1 ∧ σ' = (mst B R.2 σ) ∧ cnt' = cnt)) := by
  refine pm_enter 2 (by decide) (Nat.le_of_ble_eq_true rfl) rfl (fun G hG hR hF => ?_)
  unfold f_X12_draw at hE
  refine pm_aloadn hG dX12_draw_0 rfl ?_
  refine pm_iloadn hG dX12_draw_1 rfl ?_
  refine pm_callV (As := [.int za]) (rest := []) hG hR dX12_draw_2 (lkX12_91 _ rfl) okV_X12_isPerson rfl rfl (c_X12_isPerson (d := 3) (by decide) rfl) rfl rfl hdd (Nat.le_refl _) (Nat.le_refl _) (by decide) (fx_ki ?_)
  refine pm_if_eq (tgt := 28) hG dX12_draw_5 rfl (fun c1 => ?_) (fun c1 => ?_)
  · replace hE := fx_t c1 hE
    refine pm_aloadn hG dX12_draw_28 rfl ?_
    refine pm_iconst (v := 1) hG dX12_draw_29 (by decide) ?_
    obtain ⟨r3, h2, hE⟩ := fb_some hE
    refine pm_callV (As := [.int 1]) (rest := []) hG hR dX12_draw_30 (lkX12_80 _ rfl) okV_X12_finds rfl rfl (c_X12_finds (d := 3) (by decide) h2) rfl rfl hdd (Nat.le_refl _) (Nat.le_refl _) (by decide) (fx_ki ?_)
    exact pm_iret hG hF dX12_draw_33 rfl (Nat.le_refl _) (Nat.le_refl _) (fx_rim hE)
  · replace hE := fx_f c1 hE
    refine pm_iloadn hG dX12_draw_8 rfl ?_
    refine pm_iconst (v := 0) hG dX12_draw_9 (by decide) ?_
    refine pm_iconst (v := 4) hG dX12_draw_10 (by decide) ?_
    refine pm_callS (As := [.int zb, .int 0, .int 4]) (rest := []) hG hR dX12_draw_11 (lkX12_68 _ rfl) okS_X12_in (c_X12_in (d := 3) (by decide) rfl) rfl rfl hdd (Nat.le_refl _) (Nat.le_refl _) (by decide) (fx_ki ?_)
    refine pm_if_eq (tgt := 28) hG dX12_draw_14 rfl (fun c4 => ?_) (fun c4 => ?_)
    · replace hE := fx_t c4 hE
      refine pm_aloadn hG dX12_draw_28 rfl ?_
      refine pm_iconst (v := 1) hG dX12_draw_29 (by decide) ?_
      obtain ⟨r6, h5, hE⟩ := fb_some hE
      refine pm_callV (As := [.int 1]) (rest := []) hG hR dX12_draw_30 (lkX12_80 _ rfl) okV_X12_finds rfl rfl (c_X12_finds (d := 3) (by decide) h5) rfl rfl hdd (Nat.le_refl _) (Nat.le_refl _) (by decide) (fx_ki ?_)
      exact pm_iret hG hF dX12_draw_33 rfl (Nat.le_refl _) (Nat.le_refl _) (fx_rim hE)
    · replace hE := fx_f c4 hE
      refine pm_iloadn hG dX12_draw_17 rfl ?_
      refine pm_iconst (v := 0) hG dX12_draw_18 (by decide) ?_
      refine pm_sipush (v := 999) hG dX12_draw_19 (by decide) ?_
      refine pm_callS (As := [.int zc, .int 0, .int 999]) (rest := []) hG hR dX12_draw_22 (lkX12_68 _ rfl) okS_X12_in (c_X12_in (d := 3) (by decide) rfl) rfl rfl hdd (Nat.le_refl _) (Nat.le_refl _) (by decide) (fx_ki ?_)
      refine pm_if_ne (tgt := 34) hG dX12_draw_25 rfl (fun c7 => ?_) (fun c7 => ?_)
      · replace hE := fx_f c7 hE
        refine pm_aloadn hG dX12_draw_34 rfl ?_
        refine pm_iloadn hG dX12_draw_35 rfl ?_
        obtain ⟨x9, h8, hE⟩ := fb_some hE
        refine pm_callV (As := [.int za]) (rest := []) hG hR dX12_draw_36 (lkX12_101 _ rfl) okV_X12_lives rfl rfl (c_X12_lives (d := 3) (by decide) h8) rfl rfl hdd (Nat.le_refl _) (Nat.le_refl _) (by decide) (fx_ki ?_)
        refine pm_if_eq (tgt := 51) hG dX12_draw_39 rfl (fun c10 => ?_) (fun c10 => ?_)
        · replace hE := fx_t c10 hE
          refine pm_aloadn hG dX12_draw_51 rfl ?_
          refine pm_iconst (v := 3) hG dX12_draw_52 (by decide) ?_
          obtain ⟨r12, h11, hE⟩ := fb_some hE
          refine pm_callV (As := [.int 3]) (rest := []) hG hR dX12_draw_53 (lkX12_80 _ rfl) okV_X12_finds rfl rfl (c_X12_finds (d := 3) (by decide) h11) rfl rfl hdd (Nat.le_refl _) (Nat.le_refl _) (by decide) (fx_ki ?_)
          exact pm_iret hG hF dX12_draw_56 rfl (Nat.le_refl _) (Nat.le_refl _) (fx_rim hE)
        · replace hE := fx_f c10 hE
          refine pm_aloadn hG dX12_draw_42 rfl ?_
          refine pm_iloadn hG dX12_draw_43 rfl ?_
          refine pm_iconst (v := 4) hG dX12_draw_44 (by decide) ?_
          obtain ⟨x14, h13, hE⟩ := fb_some hE
          refine pm_callV (As := [.int za, .int 4]) (rest := []) hG hR dX12_draw_45 (lkX12_72 _ rfl) okV_X12_man rfl rfl (c_X12_man (d := 3) (by decide) h13) rfl rfl hdd (Nat.le_refl _) (Nat.le_refl _) (by decide) (fx_ki ?_)
          refine pm_if_ge (tgt := 57) hG dX12_draw_48 rfl (fun c15 => ?_) (fun c15 => ?_)
          · replace c15 := Int32.not_lt.mpr c15
            replace hE := fx_f c15 hE
            refine pm_aloadn hG dX12_draw_57 rfl ?_
            refine pm_getf hG dX12_draw_58 (flX12_7 _ rfl) rfl rfl ?_
            refine pm_iconst (v := 5) hG dX12_draw_61 (by decide) ?_
            refine fx_iald hG dX12_draw_62 rfl (ix_lit (by decide) rfl) ?_
            refine fx_letv hE (fun x16 hE => ?_)
            refine pm_istoreXi (loc' := [some (.ref (B + 54)), some (.int za), some (.int zb), some (.int zc), some (.int x16), none]) hG dX12_draw_63 (by decide) (pm_c1b rfl) rfl ?_
            refine pm_iloadi hG dX12_draw_65 rfl ?_
            refine pm_bipush (v := 40) hG dX12_draw_67 (by decide) ?_
            refine pm_icmp_ne (tgt := 78) hG dX12_draw_69 rfl (fun c17 => ?_) (fun c17 => ?_)
            · replace hE := fx_f c17 hE
              refine pm_aloadn hG dX12_draw_78 rfl ?_
              refine pm_getf hG dX12_draw_79 (flX12_7 _ rfl) rfl rfl ?_
              refine pm_iconst (v := 5) hG dX12_draw_82 (by decide) ?_
              refine pm_dup2 hG dX12_draw_83 rfl rfl ?_
              refine fx_iald hG dX12_draw_84 rfl (ix_lit (by decide) rfl) ?_
              refine pm_iconst (v := 1) hG dX12_draw_85 (by decide) ?_
              refine pm_iadd hG dX12_draw_86 ?_
              refine fx_iast hG dX12_draw_87 rfl (ix_lit (by decide) rfl) ?_
              refine ma_55 ?_
              refine fx_letm hE (fun S18 hE => ?_)
              refine pm_iconst (v := 0) hG dX12_draw_88 (by decide) ?_
              refine pm_istoreXi (loc' := [some (.ref (B + 54)), some (.int za), some (.int zb), some (.int zc), some (.int x16), some (.int 0)]) hG dX12_draw_89 (by decide) (pm_c1b rfl) rfl ?_
              have loop91 : ∀ (k91 : FS → Int32 → Option (Int32 × FS)), (∀ (S19 : FS) (x19_5 : Int32), k91 S19  x19_5 = some R → pm_wp mX12_draw G B 143 [some (.ref (B + 54)), some (.int za), some (.int zb), some (.int zc), some (.int x16), some (.int x19_5)] [] 0 0 cnt (mst B S19 σ)) → ∀ (m91 : Nat) (S19 : FS) (x19_5 : Int32), l_X12_draw_91 x16 k91 m91 S19  x19_5 = some R → pm_wp mX12_draw G B 91 [some (.ref (B + 54)), some (.int za), some (.int zb), some (.int zc), some (.int x16), some (.int x19_5)] [] 0 0 cnt (mst B S19 σ) := by
                intro k91 hk91 m91
                induction m91 with
                | zero => intro S19  x19_5 hE; exact fx_no hE
                | succ m91 ih91 =>
                  intro S19  x19_5 hE
                  rw [l_X12_draw_91] at hE
                  refine pm_iloadi hG dX12_draw_91 rfl ?_
                  refine pm_bipush (v := 12) hG dX12_draw_93 (by decide) ?_
                  refine pm_icmp_ge (tgt := 143) hG dX12_draw_95 rfl (fun c20 => ?_) (fun c20 => ?_)
                  · replace c20 := Int32.not_lt.mpr c20
                    replace hE := fx_f c20 hE
                    exact hk91 _ _ hE
                  · replace c20 := Int32.not_le.mp c20
                    replace hE := fx_t c20 hE
                    refine pm_aloadn hG dX12_draw_98 rfl ?_
                    refine pm_iloadi hG dX12_draw_99 rfl ?_
                    refine pm_iloadi hG dX12_draw_101 rfl ?_
                    refine pm_iloadi hG dX12_draw_103 rfl ?_
                    refine pm_iconst (v := 4) hG dX12_draw_105 (by decide) ?_
                    refine pm_icmp_eq (tgt := 129) hG dX12_draw_106 rfl (fun c21 => ?_) (fun c21 => ?_)
                    · replace hE := fx_t c21 hE
                      refine pm_iconst (v := (-1)) hG dX12_draw_129 (by decide) ?_
                      refine pm_goto (tgt := 134) hG dX12_draw_130 rfl ?_
                      obtain ⟨r23, h22, hE⟩ := fb_some hE
                      refine pm_callV (As := [.int x16, .int x19_5, .int (-1)]) (rest := []) hG hR dX12_draw_134 (lkX12_217 _ rfl) okV_X12_writes rfl rfl (c_X12_writes (d := 3) (by decide) h22) rfl rfl hdd (Nat.le_refl _) (Nat.le_refl _) (by decide) (fx_kv ?_)
                      refine pm_iincX (v := x19_5 + 1) (loc' := [some (.ref (B + 54)), some (.int za), some (.int zb), some (.int zc), some (.int x16), some (.int (x19_5 + 1))]) hG dX12_draw_137 rfl (by rfl) (by decide) (pm_c1b rfl) rfl ?_
                      refine pm_goto (tgt := 91) hG dX12_draw_140 rfl ?_
                      exact ih91 _ _ hE
                    · replace hE := fx_f c21 hE
                      refine pm_iloadi hG dX12_draw_109 rfl ?_
                      refine pm_iconst (v := 5) hG dX12_draw_111 (by decide) ?_
                      refine pm_icmp_eq (tgt := 129) hG dX12_draw_112 rfl (fun c24 => ?_) (fun c24 => ?_)
                      · replace hE := fx_t c24 hE
                        refine pm_iconst (v := (-1)) hG dX12_draw_129 (by decide) ?_
                        refine pm_goto (tgt := 134) hG dX12_draw_130 rfl ?_
                        obtain ⟨r26, h25, hE⟩ := fb_some hE
                        refine pm_callV (As := [.int x16, .int x19_5, .int (-1)]) (rest := []) hG hR dX12_draw_134 (lkX12_217 _ rfl) okV_X12_writes rfl rfl (c_X12_writes (d := 3) (by decide) h25) rfl rfl hdd (Nat.le_refl _) (Nat.le_refl _) (by decide) (fx_kv ?_)
                        refine pm_iincX (v := x19_5 + 1) (loc' := [some (.ref (B + 54)), some (.int za), some (.int zb), some (.int zc), some (.int x16), some (.int (x19_5 + 1))]) hG dX12_draw_137 rfl (by rfl) (by decide) (pm_c1b rfl) rfl ?_
                        refine pm_goto (tgt := 91) hG dX12_draw_140 rfl ?_
                        exact ih91 _ _ hE
                      · replace hE := fx_f c24 hE
                        refine pm_iloadi hG dX12_draw_115 rfl ?_
                        refine pm_bipush (v := 6) hG dX12_draw_117 (by decide) ?_
                        refine pm_icmp_eq (tgt := 129) hG dX12_draw_119 rfl (fun c27 => ?_) (fun c27 => ?_)
                        · replace hE := fx_t c27 hE
                          refine pm_iconst (v := (-1)) hG dX12_draw_129 (by decide) ?_
                          refine pm_goto (tgt := 134) hG dX12_draw_130 rfl ?_
                          obtain ⟨r29, h28, hE⟩ := fb_some hE
                          refine pm_callV (As := [.int x16, .int x19_5, .int (-1)]) (rest := []) hG hR dX12_draw_134 (lkX12_217 _ rfl) okV_X12_writes rfl rfl (c_X12_writes (d := 3) (by decide) h28) rfl rfl hdd (Nat.le_refl _) (Nat.le_refl _) (by decide) (fx_kv ?_)
                          refine pm_iincX (v := x19_5 + 1) (loc' := [some (.ref (B + 54)), some (.int za), some (.int zb), some (.int zc), some (.int x16), some (.int (x19_5 + 1))]) hG dX12_draw_137 rfl (by rfl) (by decide) (pm_c1b rfl) rfl ?_
                          refine pm_goto (tgt := 91) hG dX12_draw_140 rfl ?_
                          exact ih91 _ _ hE
                        · replace hE := fx_f c27 hE
                          refine pm_iloadi hG dX12_draw_122 rfl ?_
                          refine pm_bipush (v := 7) hG dX12_draw_124 (by decide) ?_
                          refine pm_icmp_ne (tgt := 133) hG dX12_draw_126 rfl (fun c30 => ?_) (fun c30 => ?_)
                          · replace hE := fx_f c30 hE
                            refine pm_iconst (v := 0) hG dX12_draw_133 (by decide) ?_
                            obtain ⟨r32, h31, hE⟩ := fb_some hE
                            refine pm_callV (As := [.int x16, .int x19_5, .int 0]) (rest := []) hG hR dX12_draw_134 (lkX12_217 _ rfl) okV_X12_writes rfl rfl (c_X12_writes (d := 3) (by decide) h31) rfl rfl hdd (Nat.le_refl _) (Nat.le_refl _) (by decide) (fx_kv ?_)
                            refine pm_iincX (v := x19_5 + 1) (loc' := [some (.ref (B + 54)), some (.int za), some (.int zb), some (.int zc), some (.int x16), some (.int (x19_5 + 1))]) hG dX12_draw_137 rfl (by rfl) (by decide) (pm_c1b rfl) rfl ?_
                            refine pm_goto (tgt := 91) hG dX12_draw_140 rfl ?_
                            exact ih91 _ _ hE
                          · replace hE := fx_t c30 hE
                            refine pm_iconst (v := (-1)) hG dX12_draw_129 (by decide) ?_
                            refine pm_goto (tgt := 134) hG dX12_draw_130 rfl ?_
                            obtain ⟨r34, h33, hE⟩ := fb_some hE
                            refine pm_callV (As := [.int x16, .int x19_5, .int (-1)]) (rest := []) hG hR dX12_draw_134 (lkX12_217 _ rfl) okV_X12_writes rfl rfl (c_X12_writes (d := 3) (by decide) h33) rfl rfl hdd (Nat.le_refl _) (Nat.le_refl _) (by decide) (fx_kv ?_)
                            refine pm_iincX (v := x19_5 + 1) (loc' := [some (.ref (B + 54)), some (.int za), some (.int zb), some (.int zc), some (.int x16), some (.int (x19_5 + 1))]) hG dX12_draw_137 rfl (by rfl) (by decide) (pm_c1b rfl) rfl ?_
                            refine pm_goto (tgt := 91) hG dX12_draw_140 rfl ?_
                            exact ih91 _ _ hE
              refine loop91 _ (fun S35 x35_5 hE => ?_) _ _ _ hE
              refine pm_aloadn hG dX12_draw_143 rfl ?_
              refine pm_iloadi hG dX12_draw_144 rfl ?_
              refine pm_iconst (v := 0) hG dX12_draw_146 (by decide) ?_
              refine pm_iloadn hG dX12_draw_147 rfl ?_
              obtain ⟨r37, h36, hE⟩ := fb_some hE
              refine pm_callV (As := [.int x16, .int 0, .int za]) (rest := []) hG hR dX12_draw_148 (lkX12_217 _ rfl) okV_X12_writes rfl rfl (c_X12_writes (d := 3) (by decide) h36) rfl rfl hdd (Nat.le_refl _) (Nat.le_refl _) (by decide) (fx_kv ?_)
              refine pm_aloadn hG dX12_draw_151 rfl ?_
              refine pm_iloadi hG dX12_draw_152 rfl ?_
              refine pm_iconst (v := 1) hG dX12_draw_154 (by decide) ?_
              refine pm_iloadn hG dX12_draw_155 rfl ?_
              obtain ⟨r39, h38, hE⟩ := fb_some hE
              refine pm_callV (As := [.int x16, .int 1, .int zb]) (rest := []) hG hR dX12_draw_156 (lkX12_217 _ rfl) okV_X12_writes rfl rfl (c_X12_writes (d := 3) (by decide) h38) rfl rfl hdd (Nat.le_refl _) (Nat.le_refl _) (by decide) (fx_kv ?_)
              refine pm_aloadn hG dX12_draw_159 rfl ?_
              refine pm_iloadi hG dX12_draw_160 rfl ?_
              refine pm_iconst (v := 2) hG dX12_draw_162 (by decide) ?_
              refine pm_iloadn hG dX12_draw_163 rfl ?_
              obtain ⟨r41, h40, hE⟩ := fb_some hE
              refine pm_callV (As := [.int x16, .int 2, .int zc]) (rest := []) hG hR dX12_draw_164 (lkX12_217 _ rfl) okV_X12_writes rfl rfl (c_X12_writes (d := 3) (by decide) h40) rfl rfl hdd (Nat.le_refl _) (Nat.le_refl _) (by decide) (fx_kv ?_)
              refine pm_aloadn hG dX12_draw_167 rfl ?_
              refine pm_iloadi hG dX12_draw_168 rfl ?_
              refine pm_bipush (v := 10) hG dX12_draw_170 (by decide) ?_
              refine pm_aloadn hG dX12_draw_172 rfl ?_
              refine pm_iloadn hG dX12_draw_173 rfl ?_
              refine pm_iconst (v := 4) hG dX12_draw_174 (by decide) ?_
              obtain ⟨x43, h42, hE⟩ := fb_some hE
              refine pm_callV (As := [.int za, .int 4]) (rest := [.int 10, .int x16, .ref (B + 54)]) hG hR dX12_draw_175 (lkX12_72 _ rfl) okV_X12_man rfl rfl (c_X12_man (d := 3) (by decide) h42) rfl rfl hdd (Nat.le_refl _) (Nat.le_refl _) (by first | decide | exact Nat.le_of_ble_eq_true rfl) (fx_ki ?_)
              obtain ⟨r45, h44, hE⟩ := fb_some hE
              refine pm_callV (As := [.int x16, .int 10, .int x43]) (rest := []) hG hR dX12_draw_178 (lkX12_217 _ rfl) okV_X12_writes rfl rfl (c_X12_writes (d := 3) (by decide) h44) rfl rfl hdd (Nat.le_refl _) (Nat.le_refl _) (by decide) (fx_kv ?_)
              refine pm_aloadn hG dX12_draw_181 rfl ?_
              refine pm_iloadi hG dX12_draw_182 rfl ?_
              refine pm_bipush (v := 9) hG dX12_draw_184 (by decide) ?_
              refine pm_aloadn hG dX12_draw_186 rfl ?_
              refine pm_aloadn hG dX12_draw_187 rfl ?_
              refine pm_iloadn hG dX12_draw_188 rfl ?_
              refine pm_iconst (v := 4) hG dX12_draw_189 (by decide) ?_
              obtain ⟨x47, h46, hE⟩ := fb_some hE
              refine pm_callV (As := [.int za, .int 4]) (rest := [.ref (B + 54), .int 9, .int x16, .ref (B + 54)]) hG hR dX12_draw_190 (lkX12_72 _ rfl) okV_X12_man rfl rfl (c_X12_man (d := 3) (by decide) h46) rfl rfl hdd (Nat.le_refl _) (Nat.le_refl _) (by first | decide | exact Nat.le_of_ble_eq_true rfl) (fx_ki ?_)
              obtain ⟨x49, h48, hE⟩ := fb_some hE
              refine pm_callV (As := [.int x47]) (rest := [.int 9, .int x16, .ref (B + 54)]) hG hR dX12_draw_193 (lkX12_220 _ rfl) okV_X12_thoseIn rfl rfl (c_X12_thoseIn (d := 3) (by decide) h48) rfl rfl hdd (Nat.le_refl _) (Nat.le_refl _) (by first | decide | exact Nat.le_of_ble_eq_true rfl) (fx_ki ?_)
              obtain ⟨r51, h50, hE⟩ := fb_some hE
              refine pm_callV (As := [.int x16, .int 9, .int x49]) (rest := []) hG hR dX12_draw_196 (lkX12_217 _ rfl) okV_X12_writes rfl rfl (c_X12_writes (d := 3) (by decide) h50) rfl rfl hdd (Nat.le_refl _) (Nat.le_refl _) (by decide) (fx_kv ?_)
              refine pm_iloadi hG dX12_draw_199 rfl ?_
              exact pm_iret hG hF dX12_draw_201 rfl (Nat.le_refl _) (Nat.le_refl _) (fx_rim hE)
            · replace hE := fx_t c17 hE
              refine pm_aloadn hG dX12_draw_72 rfl ?_
              refine pm_iconst (v := 4) hG dX12_draw_73 (by decide) ?_
              obtain ⟨r53, h52, hE⟩ := fb_some hE
              refine pm_callV (As := [.int 4]) (rest := []) hG hR dX12_draw_74 (lkX12_80 _ rfl) okV_X12_finds rfl rfl (c_X12_finds (d := 3) (by decide) h52) rfl rfl hdd (Nat.le_refl _) (Nat.le_refl _) (by decide) (fx_ki ?_)
              exact pm_iret hG hF dX12_draw_77 rfl (Nat.le_refl _) (Nat.le_refl _) (fx_rim hE)
          · replace c15 := Int32.not_le.mp c15
            replace hE := fx_t c15 hE
            refine pm_aloadn hG dX12_draw_51 rfl ?_
            refine pm_iconst (v := 3) hG dX12_draw_52 (by decide) ?_
            obtain ⟨r55, h54, hE⟩ := fb_some hE
            refine pm_callV (As := [.int 3]) (rest := []) hG hR dX12_draw_53 (lkX12_80 _ rfl) okV_X12_finds rfl rfl (c_X12_finds (d := 3) (by decide) h54) rfl rfl hdd (Nat.le_refl _) (Nat.le_refl _) (by decide) (fx_ki ?_)
            exact pm_iret hG hF dX12_draw_56 rfl (Nat.le_refl _) (Nat.le_refl _) (fx_rim hE)
      · replace hE := fx_t c7 hE
        refine pm_aloadn hG dX12_draw_28 rfl ?_
        refine pm_iconst (v := 1) hG dX12_draw_29 (by decide) ?_
        obtain ⟨r57, h56, hE⟩ := fb_some hE
        refine pm_callV (As := [.int 1]) (rest := []) hG hR dX12_draw_30 (lkX12_80 _ rfl) okV_X12_finds rfl rfl (c_X12_finds (d := 3) (by decide) h56) rfl rfl hdd (Nat.le_refl _) (Nat.le_refl _) (by decide) (fx_ki ?_)
        exact pm_iret hG hF dX12_draw_33 rfl (Nat.le_refl _) (Nat.le_refl _) (fx_rim hE)
