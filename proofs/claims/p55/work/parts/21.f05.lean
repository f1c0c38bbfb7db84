section
set_option maxRecDepth 100000 in
set_option maxHeartbeats 4000000 in
theorem c_X12_days {d : Nat} {B cnt : Nat} {σ : pm_S} {S : FS} {za : Int32} {R : Int32 × FS} (hdd : 4 ≤ d) (hE : f_X12_days S za = some R) : pm_met mX12_days d 0 0 B [.ref (B + 54), .int za] cnt (mst B S σ) (pm_Qi (fun v σ' cnt' => v = R.1 ∧ σ' = (mst B R.2 σ) ∧ cnt' = cnt)) := by
  refine pm_enter 2 (by decide) (Nat.le_of_ble_eq_true rfl) rfl (fun G hG hR hF => ?_)
  unfold f_X12_days at hE
  refine pm_iloadn hG dX12_days_0 rfl ?_
  refine pm_iconst (v := 1) hG dX12_days_1 (by decide) ?_
  refine pm_sipush (v := 400) hG dX12_days_2 (by decide) ?_
  refine pm_callS (As := [.int za, .int 1, .int 400]) (rest := []) hG hR dX12_days_5 (lkX12_68 _ rfl) okS_X12_in (c_X12_in (d := 3) (by decide) rfl) rfl rfl hdd (Nat.le_refl _) (Nat.le_refl _) (by decide) (fx_ki ?_)
  refine pm_if_eq (tgt := 26) hG dX12_days_8 rfl (fun c1 => ?_) (fun c1 => ?_)
  · replace hE := fx_t c1 hE
    refine pm_aloadn hG dX12_days_26 rfl ?_
    refine pm_iconst (v := 1) hG dX12_days_27 (by decide) ?_
    obtain ⟨r3, h2, hE⟩ := fb_some hE
    refine pm_callV (As := [.int 1]) (rest := []) hG hR dX12_days_28 (lkX12_80 _ rfl) okV_X12_finds rfl rfl (c_X12_finds (d := 3) (by decide) h2) rfl rfl hdd (Nat.le_refl _) (Nat.le_refl _) (by decide) (fx_ki ?_)
    exact pm_iret hG hF dX12_days_31 rfl (Nat.le_refl _) (Nat.le_refl _) (fx_rim hE)
  · replace hE := fx_f c1 hE
    refine pm_aloadn hG dX12_days_11 rfl ?_
    refine pm_getf hG dX12_days_12 (flX12_7 _ rfl) rfl rfl ?_
    refine pm_bipush (v := 8) hG dX12_days_15 (by decide) ?_
    refine fx_iald hG dX12_days_17 rfl (ix_lit (by decide) rfl) ?_
    refine pm_iloadn hG dX12_days_18 rfl ?_
    refine pm_iadd hG dX12_days_19 ?_
    refine pm_sipush (v := 2000) hG dX12_days_20 (by decide) ?_
    refine pm_icmp_le (tgt := 32) hG dX12_days_23 rfl (fun c4 => ?_) (fun c4 => ?_)
    · replace c4 := Int32.not_lt.mpr c4
      replace hE := fx_f c4 hE
      refine pm_iconst (v := 0) hG dX12_days_32 (by decide) ?_
      refine pm_istoreXn (loc' := [some (.ref (B + 54)), some (.int za), some (.int 0), none]) hG dX12_days_33 (by decide) (pm_c1b rfl) rfl ?_
      have loop34 : ∀ (k34 : FS → Int32 → Option (Int32 × FS)), (∀ (S5 : FS) (x5_2 : Int32), k34 S5  x5_2 = some R → pm_wp mX12_days G B 185 [some (.ref (B + 54)), some (.int za), some (.int x5_2), none] [] 0 0 cnt (mst B S5 σ)) → ∀ (m34 : Nat) (S5 : FS) (x5_2 : Int32), l_X12_days_34 za k34 m34 S5  x5_2 = some R → pm_wp mX12_days G B 34 [some (.ref (B + 54)), some (.int za), some (.int x5_2), none] [] 0 0 cnt (mst B S5 σ) := by
        intro k34 hk34 m34
        induction m34 with
        | zero => intro S5  x5_2 hE; exact fx_no hE
        | succ m34 ih34 =>
          intro S5  x5_2 hE
          rw [l_X12_days_34] at hE
          refine pm_iloadn hG dX12_days_34 rfl ?_
          refine pm_iloadn hG dX12_days_35 rfl ?_
          refine pm_icmp_ge (tgt := 185) hG dX12_days_36 rfl (fun c6 => ?_) (fun c6 => ?_)
          · replace c6 := Int32.not_lt.mpr c6
            replace hE := fx_f c6 hE
            exact hk34 _ _ hE
          · replace c6 := Int32.not_le.mp c6
            replace hE := fx_t c6 hE
            refine pm_aloadn hG dX12_days_39 rfl ?_
            refine pm_getf hG dX12_days_40 (flX12_7 _ rfl) rfl rfl ?_
            refine pm_bipush (v := 8) hG dX12_days_43 (by decide) ?_
            refine pm_dup2 hG dX12_days_45 rfl rfl ?_
            refine fx_iald hG dX12_days_46 rfl (ix_lit (by decide) rfl) ?_
            refine pm_iconst (v := 1) hG dX12_days_47 (by decide) ?_
            refine pm_iadd hG dX12_days_48 ?_
            refine fx_iast hG dX12_days_49 rfl (ix_lit (by decide) rfl) ?_
            refine ma_55 ?_
            refine fx_letm hE (fun S7 hE => ?_)
            refine pm_iconst (v := 0) hG dX12_days_50 (by decide) ?_
            refine pm_istoreXn (loc' := [some (.ref (B + 54)), some (.int za), some (.int x5_2), some (.int 0)]) hG dX12_days_51 (by decide) (pm_c1b rfl) rfl ?_
            have loop52 : ∀ (k52 : FS → Int32 → Option (Int32 × FS)), (∀ (S8 : FS) (x8_3 : Int32), k52 S8  x8_3 = some R → pm_wp mX12_days G B 114 [some (.ref (B + 54)), some (.int za), some (.int x5_2), some (.int x8_3)] [] 0 0 cnt (mst B S8 σ)) → ∀ (m52 : Nat) (S8 : FS) (x8_3 : Int32), l_X12_days_52 k52 m52 S8  x8_3 = some R → pm_wp mX12_days G B 52 [some (.ref (B + 54)), some (.int za), some (.int x5_2), some (.int x8_3)] [] 0 0 cnt (mst B S8 σ) := by
              intro k52 hk52 m52
              induction m52 with
              | zero => intro S8  x8_3 hE; exact fx_no hE
              | succ m52 ih52 =>
                intro S8  x8_3 hE
                rw [l_X12_days_52] at hE
                refine pm_iloadn hG dX12_days_52 rfl ?_
                refine pm_aloadn hG dX12_days_53 rfl ?_
                refine pm_getf hG dX12_days_54 (flX12_7 _ rfl) rfl rfl ?_
                refine pm_iconst (v := 2) hG dX12_days_57 (by decide) ?_
                refine fx_iald hG dX12_days_58 rfl (ix_lit (by decide) rfl) ?_
                refine pm_icmp_ge (tgt := 114) hG dX12_days_59 rfl (fun c9 => ?_) (fun c9 => ?_)
                · replace c9 := Int32.not_lt.mpr c9
                  replace hE := fx_f c9 hE
                  exact hk52 _ _ hE
                · replace c9 := Int32.not_le.mp c9
                  replace hE := fx_t c9 hE
                  refine pm_aloadn hG dX12_days_62 rfl ?_
                  refine pm_iloadn hG dX12_days_63 rfl ?_
                  obtain ⟨x11, h10, hE⟩ := fb_some hE
                  refine pm_callV (As := [.int x8_3]) (rest := []) hG hR dX12_days_64 (lkX12_101 _ rfl) okV_X12_lives rfl rfl (c_X12_lives (d := 3) (by decide) h10) rfl rfl hdd (Nat.le_refl _) (Nat.le_refl _) (by decide) (fx_ki ?_)
                  refine pm_if_eq (tgt := 108) hG dX12_days_67 rfl (fun c12 => ?_) (fun c12 => ?_)
                  · replace hE := fx_t c12 hE
                    refine pm_iincX (v := x8_3 + 1) (loc' := [some (.ref (B + 54)), some (.int za), some (.int x5_2), some (.int (x8_3 + 1))]) hG dX12_days_108 rfl (by rfl) (by decide) (pm_c1b rfl) rfl ?_
                    refine pm_goto (tgt := 52) hG dX12_days_111 rfl ?_
                    exact ih52 _ _ hE
                  · replace hE := fx_f c12 hE
                    refine pm_aloadn hG dX12_days_70 rfl ?_
                    refine pm_iloadn hG dX12_days_71 rfl ?_
                    refine pm_iconst (v := 4) hG dX12_days_72 (by decide) ?_
                    obtain ⟨x14, h13, hE⟩ := fb_some hE
                    refine pm_callV (As := [.int x8_3, .int 4]) (rest := []) hG hR dX12_days_73 (lkX12_72 _ rfl) okV_X12_man rfl rfl (c_X12_man (d := 3) (by decide) h13) rfl rfl hdd (Nat.le_refl _) (Nat.le_refl _) (by decide) (fx_ki ?_)
                    refine pm_if_ge (tgt := 108) hG dX12_days_76 rfl (fun c15 => ?_) (fun c15 => ?_)
                    · replace c15 := Int32.not_lt.mpr c15
                      replace hE := fx_f c15 hE
                      refine pm_iincX (v := x8_3 + 1) (loc' := [some (.ref (B + 54)), some (.int za), some (.int x5_2), some (.int (x8_3 + 1))]) hG dX12_days_108 rfl (by rfl) (by decide) (pm_c1b rfl) rfl ?_
                      refine pm_goto (tgt := 52) hG dX12_days_111 rfl ?_
                      exact ih52 _ _ hE
                    · replace c15 := Int32.not_le.mp c15
                      replace hE := fx_t c15 hE
                      refine pm_aloadn hG dX12_days_79 rfl ?_
                      refine pm_iloadn hG dX12_days_80 rfl ?_
                      refine pm_bipush (v := 6) hG dX12_days_81 (by decide) ?_
                      obtain ⟨x17, h16, hE⟩ := fb_some hE
                      refine pm_callV (As := [.int x8_3, .int 6]) (rest := []) hG hR dX12_days_83 (lkX12_72 _ rfl) okV_X12_man rfl rfl (c_X12_man (d := 3) (by decide) h16) rfl rfl hdd (Nat.le_refl _) (Nat.le_refl _) (by decide) (fx_ki ?_)
                      refine pm_aloadn hG dX12_days_86 rfl ?_
                      refine pm_getf hG dX12_days_87 (flX12_7 _ rfl) rfl rfl ?_
                      refine pm_bipush (v := 8) hG dX12_days_90 (by decide) ?_
                      refine fx_iald hG dX12_days_92 rfl (ix_lit (by decide) rfl) ?_
                      refine pm_icmp_ne (tgt := 108) hG dX12_days_93 rfl (fun c18 => ?_) (fun c18 => ?_)
                      · replace hE := fx_f c18 hE
                        refine pm_iincX (v := x8_3 + 1) (loc' := [some (.ref (B + 54)), some (.int za), some (.int x5_2), some (.int (x8_3 + 1))]) hG dX12_days_108 rfl (by rfl) (by decide) (pm_c1b rfl) rfl ?_
                        refine pm_goto (tgt := 52) hG dX12_days_111 rfl ?_
                        exact ih52 _ _ hE
                      · replace hE := fx_t c18 hE
                        refine pm_aloadn hG dX12_days_96 rfl ?_
                        refine pm_iloadn hG dX12_days_97 rfl ?_
                        refine pm_iconst (v := 4) hG dX12_days_98 (by decide) ?_
                        refine pm_aloadn hG dX12_days_99 rfl ?_
                        refine pm_iloadn hG dX12_days_100 rfl ?_
                        refine pm_iconst (v := 5) hG dX12_days_101 (by decide) ?_
                        obtain ⟨x20, h19, hE⟩ := fb_some hE
                        refine pm_callV (As := [.int x8_3, .int 5]) (rest := [.int 4, .int x8_3, .ref (B + 54)]) hG hR dX12_days_102 (lkX12_72 _ rfl) okV_X12_man rfl rfl (c_X12_man (d := 3) (by decide) h19) rfl rfl hdd (Nat.le_refl _) (Nat.le_refl _) (by first | decide | exact Nat.le_of_ble_eq_true rfl) (fx_ki ?_)
                        obtain ⟨r22, h21, hE⟩ := fb_some hE
                        refine pm_callV (As := [.int x8_3, .int 4, .int x20]) (rest := []) hG hR dX12_days_105 (lkX12_97 _ rfl) okV_X12_sets rfl rfl (c_X12_sets (d := 3) (by decide) h21) rfl rfl hdd (Nat.le_refl _) (Nat.le_refl _) (by decide) (fx_kv ?_)
                        refine pm_iincX (v := x8_3 + 1) (loc' := [some (.ref (B + 54)), some (.int za), some (.int x5_2), some (.int (x8_3 + 1))]) hG dX12_days_108 rfl (by rfl) (by decide) (pm_c1b rfl) rfl ?_
                        refine pm_goto (tgt := 52) hG dX12_days_111 rfl ?_
                        exact ih52 _ _ hE
            refine loop52 _ (fun S23 x23_3 hE => ?_) _ _ _ hE
            refine pm_iconst (v := 0) hG dX12_days_114 (by decide) ?_
            refine pm_istoreXn (loc' := [some (.ref (B + 54)), some (.int za), some (.int x5_2), some (.int 0)]) hG dX12_days_115 (by decide) (pm_c1b rfl) rfl ?_
            have loop116 : ∀ (k116 : FS → Int32 → Option (Int32 × FS)), (∀ (S24 : FS) (x24_3 : Int32), k116 S24  x24_3 = some R → pm_wp mX12_days G B 162 [some (.ref (B + 54)), some (.int za), some (.int x5_2), some (.int x24_3)] [] 0 0 cnt (mst B S24 σ)) → ∀ (m116 : Nat) (S24 : FS) (x24_3 : Int32), l_X12_days_116 k116 m116 S24  x24_3 = some R → pm_wp mX12_days G B 116 [some (.ref (B + 54)), some (.int za), some (.int x5_2), some (.int x24_3)] [] 0 0 cnt (mst B S24 σ) := by
              intro k116 hk116 m116
              induction m116 with
              | zero => intro S24  x24_3 hE; exact fx_no hE
              | succ m116 ih116 =>
                intro S24  x24_3 hE
                rw [l_X12_days_116] at hE
                refine pm_iloadn hG dX12_days_116 rfl ?_
                refine pm_aloadn hG dX12_days_117 rfl ?_
                refine pm_getf hG dX12_days_118 (flX12_7 _ rfl) rfl rfl ?_
                refine pm_iconst (v := 3) hG dX12_days_121 (by decide) ?_
                refine fx_iald hG dX12_days_122 rfl (ix_lit (by decide) rfl) ?_
                refine pm_icmp_ge (tgt := 162) hG dX12_days_123 rfl (fun c25 => ?_) (fun c25 => ?_)
                · replace c25 := Int32.not_lt.mpr c25
                  replace hE := fx_f c25 hE
                  exact hk116 _ _ hE
                · replace c25 := Int32.not_le.mp c25
                  replace hE := fx_t c25 hE
                  refine pm_aloadn hG dX12_days_126 rfl ?_
                  refine pm_iloadn hG dX12_days_127 rfl ?_
                  refine pm_iconst (v := 2) hG dX12_days_128 (by decide) ?_
                  obtain ⟨x27, h26, hE⟩ := fb_some hE
                  refine pm_callV (As := [.int x24_3, .int 2]) (rest := []) hG hR dX12_days_129 (lkX12_110 _ rfl) okV_X12_its rfl rfl (c_X12_its (d := 3) (by decide) h26) rfl rfl hdd (Nat.le_refl _) (Nat.le_refl _) (by decide) (fx_ki ?_)
                  refine pm_if_lt (tgt := 156) hG dX12_days_132 rfl (fun c28 => ?_) (fun c28 => ?_)
                  · replace hE := fx_t c28 hE
                    refine pm_iincX (v := x24_3 + 1) (loc' := [some (.ref (B + 54)), some (.int za), some (.int x5_2), some (.int (x24_3 + 1))]) hG dX12_days_156 rfl (by rfl) (by decide) (pm_c1b rfl) rfl ?_
                    refine pm_goto (tgt := 116) hG dX12_days_159 rfl ?_
                    exact ih116 _ _ hE
                  · replace hE := fx_f c28 hE
                    refine pm_aloadn hG dX12_days_135 rfl ?_
                    refine pm_iloadn hG dX12_days_136 rfl ?_
                    refine pm_iconst (v := 3) hG dX12_days_137 (by decide) ?_
                    obtain ⟨x30, h29, hE⟩ := fb_some hE
                    refine pm_callV (As := [.int x24_3, .int 3]) (rest := []) hG hR dX12_days_138 (lkX12_110 _ rfl) okV_X12_its rfl rfl (c_X12_its (d := 3) (by decide) h29) rfl rfl hdd (Nat.le_refl _) (Nat.le_refl _) (by decide) (fx_ki ?_)
                    refine pm_aloadn hG dX12_days_141 rfl ?_
                    refine pm_getf hG dX12_days_142 (flX12_7 _ rfl) rfl rfl ?_
                    refine pm_bipush (v := 8) hG dX12_days_145 (by decide) ?_
                    refine fx_iald hG dX12_days_147 rfl (ix_lit (by decide) rfl) ?_
                    refine pm_icmp_ge (tgt := 156) hG dX12_days_148 rfl (fun c31 => ?_) (fun c31 => ?_)
                    · replace c31 := Int32.not_lt.mpr c31
                      replace hE := fx_f c31 hE
                      refine pm_iincX (v := x24_3 + 1) (loc' := [some (.ref (B + 54)), some (.int za), some (.int x5_2), some (.int (x24_3 + 1))]) hG dX12_days_156 rfl (by rfl) (by decide) (pm_c1b rfl) rfl ?_
                      refine pm_goto (tgt := 116) hG dX12_days_159 rfl ?_
                      exact ih116 _ _ hE
                    · replace c31 := Int32.not_le.mp c31
                      replace hE := fx_t c31 hE
                      refine pm_aloadn hG dX12_days_151 rfl ?_
                      refine pm_iloadn hG dX12_days_152 rfl ?_
                      obtain ⟨r33, h32, hE⟩ := fb_some hE
                      refine pm_callV (As := [.int x24_3]) (rest := []) hG hR dX12_days_153 (lkX12_116 _ rfl) okV_X12_comesBack rfl rfl (c_X12_comesBack (d := 3) (by decide) h32) rfl rfl hdd (Nat.le_refl _) (Nat.le_refl _) (by decide) (fx_kv ?_)
                      refine pm_iincX (v := x24_3 + 1) (loc' := [some (.ref (B + 54)), some (.int za), some (.int x5_2), some (.int (x24_3 + 1))]) hG dX12_days_156 rfl (by rfl) (by decide) (pm_c1b rfl) rfl ?_
                      refine pm_goto (tgt := 116) hG dX12_days_159 rfl ?_
                      exact ih116 _ _ hE
            refine loop116 _ (fun S34 x34_3 hE => ?_) _ _ _ hE
            refine pm_aloadn hG dX12_days_162 rfl ?_
            refine pm_getf hG dX12_days_163 (flX12_7 _ rfl) rfl rfl ?_
            refine pm_bipush (v := 8) hG dX12_days_166 (by decide) ?_
            refine fx_iald hG dX12_days_168 rfl (ix_lit (by decide) rfl) ?_
            refine pm_bipush (v := 90) hG dX12_days_169 (by decide) ?_
            refine pm_irem hG dX12_days_171 (by decide) ?_
            refine pm_if_ne (tgt := 179) hG dX12_days_172 rfl (fun c35 => ?_) (fun c35 => ?_)
            · replace hE := fx_f c35 hE
              refine pm_iincX (v := x5_2 + 1) (loc' := [some (.ref (B + 54)), some (.int za), some (.int (x5_2 + 1)), some (.int x34_3)]) hG dX12_days_179 rfl (by rfl) (by decide) (pm_c1b rfl) rfl ?_
              refine pm_goto (tgt := 34) hG dX12_days_182 rfl ?_
              refine pm_fg 3 (loc' := [some (.ref (B + 54)), some (.int za), some (.int (x5_2 + 1)), none]) rfl ?_
              exact ih34 _ _ hE
            · replace hE := fx_t c35 hE
              refine pm_aloadn hG dX12_days_175 rfl ?_
              obtain ⟨r37, h36, hE⟩ := fb_some hE
              refine pm_callV (As := []) (rest := []) hG hR dX12_days_176 (lkX12_236 _ rfl) okV_X12_quarter rfl rfl (c_X12_quarter (d := 3) (by decide) h36) rfl rfl hdd (Nat.le_refl _) (Nat.le_refl _) (by decide) (fx_kv ?_)
              refine pm_iincX (v := x5_2 + 1) (loc' := [some (.ref (B + 54)), some (.int za), some (.int (x5_2 + 1)), some (.int x34_3)]) hG dX12_days_179 rfl (by rfl) (by decide) (pm_c1b rfl) rfl ?_
              refine pm_goto (tgt := 34) hG dX12_days_182 rfl ?_
              refine pm_fg 3 (loc' := [some (.ref (B + 54)), some (.int za), some (.int (x5_2 + 1)), none]) rfl ?_
              exact ih34 _ _ hE
      refine loop34 _ (fun S38 x38_2 hE => ?_) _ _ _ hE
      refine pm_aloadn hG dX12_days_185 rfl ?_
      refine pm_getf hG dX12_days_186 (flX12_7 _ rfl) rfl rfl ?_
      refine pm_bipush (v := 8) hG dX12_days_189 (by decide) ?_
      refine fx_iald hG dX12_days_191 rfl (ix_lit (by decide) rfl) ?_
      exact pm_iret hG hF dX12_days_192 rfl (Nat.le_refl _) (Nat.le_refl _) (fx_rim hE)
    · replace c4 := Int32.not_le.mp c4
      replace hE := fx_t c4 hE
      refine pm_aloadn hG dX12_days_26 rfl ?_
      refine pm_iconst (v := 1) hG dX12_days_27 (by decide) ?_
      obtain ⟨r40, h39, hE⟩ := fb_some hE
      refine pm_callV (As := [.int 1]) (rest := []) hG hR dX12_days_28 (lkX12_80 _ rfl) okV_X12_finds rfl rfl (c_X12_finds (d := 3) (by decide) h39) rfl rfl hdd (Nat.le_refl _) (Nat.le_refl _) (by decide) (fx_ki ?_)
      exact pm_iret hG hF dX12_days_31 rfl (Nat.le_refl _) (Nat.le_refl _) (fx_rim hE)

set_option maxRecDepth 100000 in
set_option maxHeartbeats 4000000 in
theorem c_X12_isTown {d : Nat} {B cnt : Nat} {σ : pm_S} {S : FS} {za : Int32} {R : Int32} (hdd : 2 ≤ d) (hE : p_X12_isTown S za = R) : pm_met mX12_isTown d 0 0 B [.ref (B + 54), .int za] cnt (mst B S σ) (pm_Qi (fun v σ' cnt' => v = R ∧ σ' = (mst B S σ) ∧ cnt' = cnt)) := by
  refine pm_enter 0 (by decide) (Nat.le_of_ble_eq_true rfl) rfl (fun G hG hR hF => ?_)
  unfold p_X12_isTown at hE
  refine pm_iloadn hG dX12_isTown_0 rfl ?_
  refine pm_iconst (v := 0) hG dX12_isTown_1 (by decide) ?_
  refine pm_aloadn hG dX12_isTown_2 rfl ?_
  refine pm_getf hG dX12_isTown_3 (flX12_7 _ rfl) rfl rfl ?_
  refine pm_iconst (v := 0) hG dX12_isTown_6 (by decide) ?_
  refine fx_iald hG dX12_isTown_7 rfl (ix_lit (by decide) rfl) ?_
  refine pm_iconst (v := 1) hG dX12_isTown_8 (by decide) ?_
  refine pm_isub hG dX12_isTown_9 ?_
  refine pm_callS (As := [.int za, .int 0, .int ((S.2 55 0) - 1)]) (rest := []) hG hR dX12_isTown_10 (lkX12_68 _ rfl) okS_X12_in (c_X12_in (d := 1) (by decide) rfl) rfl rfl hdd (Nat.le_refl _) (Nat.le_refl _) (by decide) (fx_ki ?_)
  exact pm_zret hG hF dX12_isTown_13 rfl (pm_nz pb_X12_in) (Nat.le_refl _) (Nat.le_refl _) (fx_pi hE)

set_option maxRecDepth 100000 in
set_option maxHeartbeats 4000000 in
theorem c_X12_debt {d : Nat} {B cnt : Nat} {σ : pm_S} {S : FS} {za : Int32} {zb : Int32} {zc : Int32} {R : Int32 × FS} (hdd : 3 ≤ d) (hE : f_X12_debt S za zb zc = some R) : pm_met mX12_debt d 0 0 B [.ref (B + 54), .int za, .int zb, .int zc] cnt (mst B S σ) (pm_Qi (fun v σ' cnt' => v = R.1 ∧ σ' = (mst B R.2 σ) ∧ cnt' = cnt)) := by
  refine pm_enter 1 (by decide) (Nat.le_of_ble_eq_true rfl) rfl (fun G hG hR hF => ?_)
  unfold f_X12_debt at hE
  refine pm_iloadn hG dX12_debt_0 rfl ?_
  refine pm_iconst (v := 0) hG dX12_debt_1 (by decide) ?_
  refine pm_ldc hG dX12_debt_2 (ctX12_242 _ rfl) ?_
  refine pm_callS (As := [.int za, .int 0, .int 99999]) (rest := []) hG hR dX12_debt_4 (lkX12_68 _ rfl) okS_X12_in (c_X12_in (d := 2) (by decide) rfl) rfl rfl hdd (Nat.le_refl _) (Nat.le_refl _) (by decide) (fx_ki ?_)
  refine pm_if_eq (tgt := 51) hG dX12_debt_7 rfl (fun c1 => ?_) (fun c1 => ?_)
  · replace hE := fx_t c1 hE
    refine pm_aloadn hG dX12_debt_51 rfl ?_
    refine pm_iconst (v := 1) hG dX12_debt_52 (by decide) ?_
    obtain ⟨r3, h2, hE⟩ := fb_some hE
    refine pm_callV (As := [.int 1]) (rest := []) hG hR dX12_debt_53 (lkX12_80 _ rfl) okV_X12_finds rfl rfl (c_X12_finds (d := 2) (by decide) h2) rfl rfl hdd (Nat.le_refl _) (Nat.le_refl _) (by decide) (fx_ki ?_)
    exact pm_iret hG hF dX12_debt_56 rfl (Nat.le_refl _) (Nat.le_refl _) (fx_rim hE)
  · replace hE := fx_f c1 hE
    refine pm_iloadn hG dX12_debt_10 rfl ?_
    refine pm_if_lt (tgt := 51) hG dX12_debt_11 rfl (fun c4 => ?_) (fun c4 => ?_)
    · replace hE := fx_t c4 hE
      refine pm_aloadn hG dX12_debt_51 rfl ?_
      refine pm_iconst (v := 1) hG dX12_debt_52 (by decide) ?_
      obtain ⟨r6, h5, hE⟩ := fb_some hE
      refine pm_callV (As := [.int 1]) (rest := []) hG hR dX12_debt_53 (lkX12_80 _ rfl) okV_X12_finds rfl rfl (c_X12_finds (d := 2) (by decide) h5) rfl rfl hdd (Nat.le_refl _) (Nat.le_refl _) (by decide) (fx_ki ?_)
      exact pm_iret hG hF dX12_debt_56 rfl (Nat.le_refl _) (Nat.le_refl _) (fx_rim hE)
    · replace hE := fx_f c4 hE
      refine pm_iloadn hG dX12_debt_14 rfl ?_
      refine pm_sipush (v := 10000) hG dX12_debt_15 (by decide) ?_
      refine pm_idiv hG dX12_debt_18 (by decide) ?_
      refine pm_iconst (v := 0) hG dX12_debt_19 (by decide) ?_
      refine pm_bipush (v := 99) hG dX12_debt_20 (by decide) ?_
      refine pm_callS (As := [.int (zb / 10000), .int 0, .int 99]) (rest := []) hG hR dX12_debt_22 (lkX12_68 _ rfl) okS_X12_in (c_X12_in (d := 2) (by decide) rfl) rfl rfl hdd (Nat.le_refl _) (Nat.le_refl _) (by decide) (fx_ki ?_)
      refine pm_if_eq (tgt := 51) hG dX12_debt_25 rfl (fun c7 => ?_) (fun c7 => ?_)
      · replace hE := fx_t c7 hE
        refine pm_aloadn hG dX12_debt_51 rfl ?_
        refine pm_iconst (v := 1) hG dX12_debt_52 (by decide) ?_
        obtain ⟨r9, h8, hE⟩ := fb_some hE
        refine pm_callV (As := [.int 1]) (rest := []) hG hR dX12_debt_53 (lkX12_80 _ rfl) okV_X12_finds rfl rfl (c_X12_finds (d := 2) (by decide) h8) rfl rfl hdd (Nat.le_refl _) (Nat.le_refl _) (by decide) (fx_ki ?_)
        exact pm_iret hG hF dX12_debt_56 rfl (Nat.le_refl _) (Nat.le_refl _) (fx_rim hE)
      · replace hE := fx_f c7 hE
        refine pm_iloadn hG dX12_debt_28 rfl ?_
        refine pm_sipush (v := 10000) hG dX12_debt_29 (by decide) ?_
        refine pm_irem hG dX12_debt_32 (by decide) ?_
        refine pm_iconst (v := 1) hG dX12_debt_33 (by decide) ?_
        refine pm_sipush (v := 9999) hG dX12_debt_34 (by decide) ?_
        refine pm_callS (As := [.int (zb - zb / 10000 * 10000), .int 1, .int 9999]) (rest := []) hG hR dX12_debt_37 (lkX12_68 _ rfl) okS_X12_in (c_X12_in (d := 2) (by decide) rfl) rfl rfl hdd (Nat.le_refl _) (Nat.le_refl _) (by decide) (fx_ki ?_)
        refine pm_if_eq (tgt := 51) hG dX12_debt_40 rfl (fun c10 => ?_) (fun c10 => ?_)
        · replace hE := fx_t c10 hE
          refine pm_aloadn hG dX12_debt_51 rfl ?_
          refine pm_iconst (v := 1) hG dX12_debt_52 (by decide) ?_
          obtain ⟨r12, h11, hE⟩ := fb_some hE
          refine pm_callV (As := [.int 1]) (rest := []) hG hR dX12_debt_53 (lkX12_80 _ rfl) okV_X12_finds rfl rfl (c_X12_finds (d := 2) (by decide) h11) rfl rfl hdd (Nat.le_refl _) (Nat.le_refl _) (by decide) (fx_ki ?_)
          exact pm_iret hG hF dX12_debt_56 rfl (Nat.le_refl _) (Nat.le_refl _) (fx_rim hE)
        · replace hE := fx_f c10 hE
          refine pm_aloadn hG dX12_debt_43 rfl ?_
          refine pm_iloadn hG dX12_debt_44 rfl ?_
          refine pm_callV (As := [.int zc]) (rest := []) hG hR dX12_debt_45 (lkX12_84 _ rfl) okV_X12_isTown rfl rfl (c_X12_isTown (d := 2) (by decide) rfl) rfl rfl hdd (Nat.le_refl _) (Nat.le_refl _) (by decide) (fx_ki ?_)
          refine pm_if_ne (tgt := 57) hG dX12_debt_48 rfl (fun c13 => ?_) (fun c13 => ?_)
          · replace hE := fx_f c13 hE
            refine pm_aloadn hG dX12_debt_57 rfl ?_
            refine pm_getf hG dX12_debt_58 (flX12_7 _ rfl) rfl rfl ?_
            refine pm_bipush (v := 6) hG dX12_debt_61 (by decide) ?_
            refine fx_iald hG dX12_debt_63 rfl (ix_lit (by decide) rfl) ?_
            refine fx_letv hE (fun x14 hE => ?_)
            refine pm_istoreXi (loc' := [some (.ref (B + 54)), some (.int za), some (.int zb), some (.int zc), some (.int x14)]) hG dX12_debt_64 (by decide) (pm_c1b rfl) rfl ?_
            refine pm_iloadi hG dX12_debt_66 rfl ?_
            refine pm_bipush (v := 6) hG dX12_debt_68 (by decide) ?_
            refine pm_icmp_ne (tgt := 79) hG dX12_debt_70 rfl (fun c15 => ?_) (fun c15 => ?_)
            · replace hE := fx_f c15 hE
              refine pm_aloadn hG dX12_debt_79 rfl ?_
              refine pm_getf hG dX12_debt_80 (flX12_7 _ rfl) rfl rfl ?_
              refine pm_bipush (v := 6) hG dX12_debt_83 (by decide) ?_
              refine pm_dup2 hG dX12_debt_85 rfl rfl ?_
              refine fx_iald hG dX12_debt_86 rfl (ix_lit (by decide) rfl) ?_
              refine pm_iconst (v := 1) hG dX12_debt_87 (by decide) ?_
              refine pm_iadd hG dX12_debt_88 ?_
              refine fx_iast hG dX12_debt_89 rfl (ix_lit (by decide) rfl) ?_
              refine ma_55 ?_
              refine fx_letm hE (fun S16 hE => ?_)
              refine pm_aloadn hG dX12_debt_90 rfl ?_
              refine pm_getf hG dX12_debt_91 (flX12_7 _ rfl) rfl rfl ?_
              refine pm_sipush (v := 1770) hG dX12_debt_94 (by decide) ?_
              refine pm_bipush (v := 6) hG dX12_debt_97 (by decide) ?_
              refine pm_iloadi hG dX12_debt_99 rfl ?_
              refine pm_imul hG dX12_debt_101 ?_
              refine pm_iadd hG dX12_debt_102 ?_
              refine pm_iloadn hG dX12_debt_103 rfl ?_
              obtain ⟨j17, hj17, hE⟩ := fb_some hE
              refine fx_iast hG dX12_debt_104 rfl hj17 ?_
              refine ma_55 ?_
              refine fx_letm hE (fun S18 hE => ?_)
              refine pm_aloadn hG dX12_debt_105 rfl ?_
              refine pm_getf hG dX12_debt_106 (flX12_7 _ rfl) rfl rfl ?_
              refine pm_sipush (v := 1770) hG dX12_debt_109 (by decide) ?_
              refine pm_bipush (v := 6) hG dX12_debt_112 (by decide) ?_
              refine pm_iloadi hG dX12_debt_114 rfl ?_
              refine pm_imul hG dX12_debt_116 ?_
              refine pm_iadd hG dX12_debt_117 ?_
              refine pm_iconst (v := 1) hG dX12_debt_118 (by decide) ?_
              refine pm_iadd hG dX12_debt_119 ?_
              refine pm_iloadn hG dX12_debt_120 rfl ?_
              refine pm_sipush (v := 10000) hG dX12_debt_121 (by decide) ?_
              refine pm_idiv hG dX12_debt_124 (by decide) ?_
              obtain ⟨j19, hj19, hE⟩ := fb_some hE
              refine fx_iast hG dX12_debt_125 rfl hj19 ?_
              refine ma_55 ?_
              refine fx_letm hE (fun S20 hE => ?_)
              refine pm_aloadn hG dX12_debt_126 rfl ?_
              refine pm_getf hG dX12_debt_127 (flX12_7 _ rfl) rfl rfl ?_
              refine pm_sipush (v := 1770) hG dX12_debt_130 (by decide) ?_
              refine pm_bipush (v := 6) hG dX12_debt_133 (by decide) ?_
              refine pm_iloadi hG dX12_debt_135 rfl ?_
              refine pm_imul hG dX12_debt_137 ?_
              refine pm_iadd hG dX12_debt_138 ?_
              refine pm_iconst (v := 2) hG dX12_debt_139 (by decide) ?_
              refine pm_iadd hG dX12_debt_140 ?_
              refine pm_iloadn hG dX12_debt_141 rfl ?_
              refine pm_sipush (v := 10000) hG dX12_debt_142 (by decide) ?_
              refine pm_irem hG dX12_debt_145 (by decide) ?_
              obtain ⟨j21, hj21, hE⟩ := fb_some hE
              refine fx_iast hG dX12_debt_146 rfl hj21 ?_
              refine ma_55 ?_
              refine fx_letm hE (fun S22 hE => ?_)
              refine pm_aloadn hG dX12_debt_147 rfl ?_
              refine pm_getf hG dX12_debt_148 (flX12_7 _ rfl) rfl rfl ?_
              refine pm_sipush (v := 1770) hG dX12_debt_151 (by decide) ?_
              refine pm_bipush (v := 6) hG dX12_debt_154 (by decide) ?_
              refine pm_iloadi hG dX12_debt_156 rfl ?_
              refine pm_imul hG dX12_debt_158 ?_
              refine pm_iadd hG dX12_debt_159 ?_
              refine pm_iconst (v := 3) hG dX12_debt_160 (by decide) ?_
              refine pm_iadd hG dX12_debt_161 ?_
              refine pm_iconst (v := 0) hG dX12_debt_162 (by decide) ?_
              obtain ⟨j23, hj23, hE⟩ := fb_some hE
              refine fx_iast hG dX12_debt_163 rfl hj23 ?_
              refine ma_55 ?_
              refine fx_letm hE (fun S24 hE => ?_)
              refine pm_aloadn hG dX12_debt_164 rfl ?_
              refine pm_getf hG dX12_debt_165 (flX12_7 _ rfl) rfl rfl ?_
              refine pm_sipush (v := 1770) hG dX12_debt_168 (by decide) ?_
              refine pm_bipush (v := 6) hG dX12_debt_171 (by decide) ?_
              refine pm_iloadi hG dX12_debt_173 rfl ?_
              refine pm_imul hG dX12_debt_175 ?_
              refine pm_iadd hG dX12_debt_176 ?_
              refine pm_iconst (v := 4) hG dX12_debt_177 (by decide) ?_
              refine pm_iadd hG dX12_debt_178 ?_
              refine pm_iloadn hG dX12_debt_179 rfl ?_
              obtain ⟨j25, hj25, hE⟩ := fb_some hE
              refine fx_iast hG dX12_debt_180 rfl hj25 ?_
              refine ma_55 ?_
              refine fx_letm hE (fun S26 hE => ?_)
              refine pm_aloadn hG dX12_debt_181 rfl ?_
              refine pm_getf hG dX12_debt_182 (flX12_7 _ rfl) rfl rfl ?_
              refine pm_bipush (v := 9) hG dX12_debt_185 (by decide) ?_
              refine pm_dup2 hG dX12_debt_187 rfl rfl ?_
              refine fx_iald hG dX12_debt_188 rfl (ix_lit (by decide) rfl) ?_
              refine pm_iloadn hG dX12_debt_189 rfl ?_
              refine pm_iadd hG dX12_debt_190 ?_
              refine fx_iast hG dX12_debt_191 rfl (ix_lit (by decide) rfl) ?_
              refine ma_55 ?_
              refine fx_letm hE (fun S27 hE => ?_)
              refine pm_iloadi hG dX12_debt_192 rfl ?_
              exact pm_iret hG hF dX12_debt_194 rfl (Nat.le_refl _) (Nat.le_refl _) (fx_rim hE)
            · replace hE := fx_t c15 hE
              refine pm_aloadn hG dX12_debt_73 rfl ?_
              refine pm_iconst (v := 4) hG dX12_debt_74 (by decide) ?_
              obtain ⟨r29, h28, hE⟩ := fb_some hE
              refine pm_callV (As := [.int 4]) (rest := []) hG hR dX12_debt_75 (lkX12_80 _ rfl) okV_X12_finds rfl rfl (c_X12_finds (d := 2) (by decide) h28) rfl rfl hdd (Nat.le_refl _) (Nat.le_refl _) (by decide) (fx_ki ?_)
              exact pm_iret hG hF dX12_debt_78 rfl (Nat.le_refl _) (Nat.le_refl _) (fx_rim hE)
          · replace hE := fx_t c13 hE
            refine pm_aloadn hG dX12_debt_51 rfl ?_
            refine pm_iconst (v := 1) hG dX12_debt_52 (by decide) ?_
            obtain ⟨r31, h30, hE⟩ := fb_some hE
            refine pm_callV (As := [.int 1]) (rest := []) hG hR dX12_debt_53 (lkX12_80 _ rfl) okV_X12_finds rfl rfl (c_X12_finds (d := 2) (by decide) h30) rfl rfl hdd (Nat.le_refl _) (Nat.le_refl _) (by decide) (fx_ki ?_)
            exact pm_iret hG hF dX12_debt_56 rfl (Nat.le_refl _) (Nat.le_refl _) (fx_rim hE)

set_option maxRecDepth 100000 in
set_option maxHeartbeats 4000000 in
theorem c_X12_leaves {d : Nat} {B cnt : Nat} {σ : pm_S} {S : FS} {za : Int32} {R : Int32 × FS} (hdd : 2 ≤ d) (hE : f_X12_leaves S za = some R) : pm_met mX12_leaves d 0 0 B [.ref (B + 54), .int za] cnt (mst B S σ) (pm_Qv (fun σ' cnt' => σ' = (mst B R.2 σ) ∧ cnt' = cnt)) := by
  refine pm_enter 1 (by decide) (Nat.le_of_ble_eq_true rfl) rfl (fun G hG hR hF => ?_)
  unfold f_X12_leaves at hE
  refine pm_aloadn hG dX12_leaves_0 rfl ?_
  refine pm_iloadn hG dX12_leaves_1 rfl ?_
  refine pm_bipush (v := 11) hG dX12_leaves_2 (by decide) ?_
  refine pm_iconst (v := 0) hG dX12_leaves_4 (by decide) ?_
  obtain ⟨r2, h1, hE⟩ := fb_some hE
  refine pm_callV (As := [.int za, .int 11, .int 0]) (rest := []) hG hR dX12_leaves_5 (lkX12_97 _ rfl) okV_X12_sets rfl rfl (c_X12_sets (d := 1) (by decide) h1) rfl rfl hdd (Nat.le_refl _) (Nat.le_refl _) (by decide) (fx_kv ?_)
  refine pm_iconst (v := 0) hG dX12_leaves_8 (by decide) ?_
  refine pm_istoreXn (loc' := [some (.ref (B + 54)), some (.int za), some (.int 0)]) hG dX12_leaves_9 (by decide) (pm_c1b rfl) rfl ?_
  have loop10 : ∀ (k10 : FS → Int32 → Option (Int32 × FS)), (∀ (S3 : FS) (x3_2 : Int32), k10 S3  x3_2 = some R → pm_wp mX12_leaves G B 53 [some (.ref (B + 54)), some (.int za), some (.int x3_2)] [] 0 0 cnt (mst B S3 σ)) → ∀ (m10 : Nat) (S3 : FS) (x3_2 : Int32), l_X12_leaves_10 za k10 m10 S3  x3_2 = some R → pm_wp mX12_leaves G B 10 [some (.ref (B + 54)), some (.int za), some (.int x3_2)] [] 0 0 cnt (mst B S3 σ) := by
    intro k10 hk10 m10
    induction m10 with
    | zero => intro S3  x3_2 hE; exact fx_no hE
    | succ m10 ih10 =>
      intro S3  x3_2 hE
      rw [l_X12_leaves_10] at hE
      refine pm_iloadn hG dX12_leaves_10 rfl ?_
      refine pm_aloadn hG dX12_leaves_11 rfl ?_
      refine pm_getf hG dX12_leaves_12 (flX12_7 _ rfl) rfl rfl ?_
      refine pm_bipush (v := 7) hG dX12_leaves_15 (by decide) ?_
      refine fx_iald hG dX12_leaves_17 rfl (ix_lit (by decide) rfl) ?_
      refine pm_icmp_ge (tgt := 53) hG dX12_leaves_18 rfl (fun c4 => ?_) (fun c4 => ?_)
      · replace c4 := Int32.not_lt.mpr c4
        replace hE := fx_f c4 hE
        exact hk10 _ _ hE
      · replace c4 := Int32.not_le.mp c4
        replace hE := fx_t c4 hE
        refine pm_aloadn hG dX12_leaves_21 rfl ?_
        refine pm_iloadn hG dX12_leaves_22 rfl ?_
        refine pm_iconst (v := 0) hG dX12_leaves_23 (by decide) ?_
        obtain ⟨x6, h5, hE⟩ := fb_some hE
        refine pm_callV (As := [.int x3_2, .int 0]) (rest := []) hG hR dX12_leaves_24 (lkX12_223 _ rfl) okV_X12_promised rfl rfl (c_X12_promised (d := 1) (by decide) h5) rfl rfl hdd (Nat.le_refl _) (Nat.le_refl _) (by decide) (fx_ki ?_)
        refine pm_iloadn hG dX12_leaves_27 rfl ?_
        refine pm_icmp_ne (tgt := 47) hG dX12_leaves_28 rfl (fun c7 => ?_) (fun c7 => ?_)
        · replace hE := fx_f c7 hE
          refine pm_iincX (v := x3_2 + 1) (loc' := [some (.ref (B + 54)), some (.int za), some (.int (x3_2 + 1))]) hG dX12_leaves_47 rfl (by rfl) (by decide) (pm_c1b rfl) rfl ?_
          refine pm_goto (tgt := 10) hG dX12_leaves_50 rfl ?_
          exact ih10 _ _ hE
        · replace hE := fx_t c7 hE
          refine pm_aloadn hG dX12_leaves_31 rfl ?_
          refine pm_getf hG dX12_leaves_32 (flX12_7 _ rfl) rfl rfl ?_
          refine pm_sipush (v := 1806) hG dX12_leaves_35 (by decide) ?_
          refine pm_bipush (v := 6) hG dX12_leaves_38 (by decide) ?_
          refine pm_iloadn hG dX12_leaves_40 rfl ?_
          refine pm_imul hG dX12_leaves_41 ?_
          refine pm_iadd hG dX12_leaves_42 ?_
          refine pm_iconst (v := 5) hG dX12_leaves_43 (by decide) ?_
          refine pm_iadd hG dX12_leaves_44 ?_
          refine pm_iconst (v := 1) hG dX12_leaves_45 (by decide) ?_
          obtain ⟨j8, hj8, hE⟩ := fb_some hE
          refine fx_iast hG dX12_leaves_46 rfl hj8 ?_
          refine ma_55 ?_
          refine fx_letm hE (fun S9 hE => ?_)
          refine pm_iincX (v := x3_2 + 1) (loc' := [some (.ref (B + 54)), some (.int za), some (.int (x3_2 + 1))]) hG dX12_leaves_47 rfl (by rfl) (by decide) (pm_c1b rfl) rfl ?_
          refine pm_goto (tgt := 10) hG dX12_leaves_50 rfl ?_
          exact ih10 _ _ hE
  refine loop10 _ (fun S10 x10_2 hE => ?_) _ _ _ hE
  exact pm_vret hG hF dX12_leaves_53 rfl (Nat.le_refl _) (Nat.le_refl _) (fx_rvm hE)

set_option maxRecDepth 100000 in
set_option maxHeartbeats 4000000 in
theorem c_X12_die {d : Nat} {B cnt : Nat} {σ : pm_S} {S : FS} {za : Int32} {R : Int32 × FS} (hdd : 4 ≤ d) (hE : f_X12_die S za = some R) : pm_met mX12_die d 0 0 B [.ref (B + 54), .int za] cnt (mst B S σ) (pm_Qi (fun v σ' cnt' => v = R.1 ∧ σ' = (mst B R.2 σ) ∧ cnt' = cnt)) := by
  refine pm_enter 3 (by decide) (Nat.le_of_ble_eq_true rfl) rfl (fun G hG hR hF => ?_)
  unfold f_X12_die at hE
  refine pm_aloadn hG dX12_die_0 rfl ?_
  refine pm_iloadn hG dX12_die_1 rfl ?_
  refine pm_callV (As := [.int za]) (rest := []) hG hR dX12_die_2 (lkX12_91 _ rfl) okV_X12_isPerson rfl rfl (c_X12_isPerson (d := 3) (by decide) rfl) rfl rfl hdd (Nat.le_refl _) (Nat.le_refl _) (by decide) (fx_ki ?_)
  refine pm_if_ne (tgt := 14) hG dX12_die_5 rfl (fun c1 => ?_) (fun c1 => ?_)
  · replace hE := fx_f c1 hE
    refine pm_aloadn hG dX12_die_14 rfl ?_
    refine pm_iloadn hG dX12_die_15 rfl ?_
    obtain ⟨x3, h2, hE⟩ := fb_some hE
    refine pm_callV (As := [.int za]) (rest := []) hG hR dX12_die_16 (lkX12_101 _ rfl) okV_X12_lives rfl rfl (c_X12_lives (d := 3) (by decide) h2) rfl rfl hdd (Nat.le_refl _) (Nat.le_refl _) (by decide) (fx_ki ?_)
    refine pm_if_ne (tgt := 28) hG dX12_die_19 rfl (fun c4 => ?_) (fun c4 => ?_)
    · replace hE := fx_f c4 hE
      refine pm_aloadn hG dX12_die_28 rfl ?_
      refine pm_iloadn hG dX12_die_29 rfl ?_
      refine pm_bipush (v := 7) hG dX12_die_30 (by decide) ?_
      obtain ⟨x6, h5, hE⟩ := fb_some hE
      refine pm_callV (As := [.int za, .int 7]) (rest := []) hG hR dX12_die_32 (lkX12_72 _ rfl) okV_X12_man rfl rfl (c_X12_man (d := 3) (by decide) h5) rfl rfl hdd (Nat.le_refl _) (Nat.le_refl _) (by decide) (fx_ki ?_)
      refine pm_istoreXn (loc' := [some (.ref (B + 54)), some (.int za), some (.int x6), none, none]) hG dX12_die_35 (by decide) (pm_c1b rfl) rfl ?_
      refine pm_aloadn hG dX12_die_36 rfl ?_
      refine pm_iloadn hG dX12_die_37 rfl ?_
      refine pm_bipush (v := 10) hG dX12_die_38 (by decide) ?_
      refine pm_aloadn hG dX12_die_40 rfl ?_
      refine pm_iloadn hG dX12_die_41 rfl ?_
      obtain ⟨r8, h7, hE⟩ := fb_some hE
      refine pm_callV (As := [.int za]) (rest := [.int 10, .int za, .ref (B + 54)]) hG hR dX12_die_42 (lkX12_104 _ rfl) okV_X12_knownTo rfl rfl (c_X12_knownTo (d := 3) (by decide) h7) rfl rfl hdd (Nat.le_refl _) (Nat.le_refl _) (by first | decide | exact Nat.le_of_ble_eq_true rfl) (fx_ki ?_)
      obtain ⟨r10, h9, hE⟩ := fb_some hE
      refine pm_callV (As := [.int za, .int 10, .int r8.1]) (rest := []) hG hR dX12_die_45 (lkX12_97 _ rfl) okV_X12_sets rfl rfl (c_X12_sets (d := 3) (by decide) h9) rfl rfl hdd (Nat.le_refl _) (Nat.le_refl _) (by decide) (fx_kv ?_)
      refine pm_aloadn hG dX12_die_48 rfl ?_
      refine pm_iloadn hG dX12_die_49 rfl ?_
      refine pm_bipush (v := 9) hG dX12_die_50 (by decide) ?_
      refine pm_aloadn hG dX12_die_52 rfl ?_
      refine pm_getf hG dX12_die_53 (flX12_7 _ rfl) rfl rfl ?_
      refine pm_bipush (v := 8) hG dX12_die_56 (by decide) ?_
      refine fx_iald hG dX12_die_58 rfl (ix_lit (by decide) rfl) ?_
      obtain ⟨r12, h11, hE⟩ := fb_some hE
      refine pm_callV (As := [.int za, .int 9, .int (r10.2.2 55 8)]) (rest := []) hG hR dX12_die_59 (lkX12_97 _ rfl) okV_X12_sets rfl rfl (c_X12_sets (d := 3) (by decide) h11) rfl rfl hdd (Nat.le_refl _) (Nat.le_refl _) (by decide) (fx_kv ?_)
      refine pm_aloadn hG dX12_die_62 rfl ?_
      refine pm_iloadn hG dX12_die_63 rfl ?_
      refine pm_bipush (v := 7) hG dX12_die_64 (by decide) ?_
      refine pm_iconst (v := 0) hG dX12_die_66 (by decide) ?_
      obtain ⟨r14, h13, hE⟩ := fb_some hE
      refine pm_callV (As := [.int za, .int 7, .int 0]) (rest := []) hG hR dX12_die_67 (lkX12_97 _ rfl) okV_X12_sets rfl rfl (c_X12_sets (d := 3) (by decide) h13) rfl rfl hdd (Nat.le_refl _) (Nat.le_refl _) (by decide) (fx_kv ?_)
      refine pm_aloadn hG dX12_die_70 rfl ?_
      refine pm_iloadn hG dX12_die_71 rfl ?_
      refine pm_bipush (v := 8) hG dX12_die_72 (by decide) ?_
      refine pm_iconst (v := 0) hG dX12_die_74 (by decide) ?_
      obtain ⟨r16, h15, hE⟩ := fb_some hE
      refine pm_callV (As := [.int za, .int 8, .int 0]) (rest := []) hG hR dX12_die_75 (lkX12_97 _ rfl) okV_X12_sets rfl rfl (c_X12_sets (d := 3) (by decide) h15) rfl rfl hdd (Nat.le_refl _) (Nat.le_refl _) (by decide) (fx_kv ?_)
      refine pm_aloadn hG dX12_die_78 rfl ?_
      refine pm_getf hG dX12_die_79 (flX12_7 _ rfl) rfl rfl ?_
      refine pm_bipush (v := 9) hG dX12_die_82 (by decide) ?_
      refine pm_dup2 hG dX12_die_84 rfl rfl ?_
      refine fx_iald hG dX12_die_85 rfl (ix_lit (by decide) rfl) ?_
      refine pm_iloadn hG dX12_die_86 rfl ?_
      refine pm_iadd hG dX12_die_87 ?_
      refine fx_iast hG dX12_die_88 rfl (ix_lit (by decide) rfl) ?_
      refine ma_55 ?_
      refine fx_letm hE (fun S17 hE => ?_)
      have join105 : ∀ (S18 : FS), j_X12_die_105 za x6 S18 = some R → pm_wp mX12_die G B 105 [some (.ref (B + 54)), some (.int za), some (.int x6), none, none] [] 0 0 cnt (mst B S18 σ) := by
        intro S18 hE
        unfold j_X12_die_105 at hE
        refine pm_iconst (v := 0) hG dX12_die_105 (by decide) ?_
        refine pm_istoreXn (loc' := [some (.ref (B + 54)), some (.int za), some (.int x6), some (.int 0), none]) hG dX12_die_106 (by decide) (pm_c1b rfl) rfl ?_
        have loop107 : ∀ (k107 : FS → Int32 → Option (Int32 × FS)), (∀ (S19 : FS) (x19_3 : Int32), k107 S19  x19_3 = some R → pm_wp mX12_die G B 172 [some (.ref (B + 54)), some (.int za), some (.int x6), some (.int x19_3), none] [] 0 0 cnt (mst B S19 σ)) → ∀ (m107 : Nat) (S19 : FS) (x19_3 : Int32), l_X12_die_107 za k107 m107 S19  x19_3 = some R → pm_wp mX12_die G B 107 [some (.ref (B + 54)), some (.int za), some (.int x6), some (.int x19_3), none] [] 0 0 cnt (mst B S19 σ) := by
          intro k107 hk107 m107
          induction m107 with
          | zero => intro S19  x19_3 hE; exact fx_no hE
          | succ m107 ih107 =>
            intro S19  x19_3 hE
            rw [l_X12_die_107] at hE
            refine pm_iloadn hG dX12_die_107 rfl ?_
            refine pm_aloadn hG dX12_die_108 rfl ?_
            refine pm_getf hG dX12_die_109 (flX12_7 _ rfl) rfl rfl ?_
            refine pm_iconst (v := 3) hG dX12_die_112 (by decide) ?_
            refine fx_iald hG dX12_die_113 rfl (ix_lit (by decide) rfl) ?_
            refine pm_icmp_ge (tgt := 172) hG dX12_die_114 rfl (fun c20 => ?_) (fun c20 => ?_)
            · replace c20 := Int32.not_lt.mpr c20
              replace hE := fx_f c20 hE
              exact hk107 _ _ hE
            · replace c20 := Int32.not_le.mp c20
              replace hE := fx_t c20 hE
              refine pm_aloadn hG dX12_die_117 rfl ?_
              refine pm_iloadn hG dX12_die_118 rfl ?_
              refine pm_iconst (v := 1) hG dX12_die_119 (by decide) ?_
              obtain ⟨x22, h21, hE⟩ := fb_some hE
              refine pm_callV (As := [.int x19_3, .int 1]) (rest := []) hG hR dX12_die_120 (lkX12_110 _ rfl) okV_X12_its rfl rfl (c_X12_its (d := 3) (by decide) h21) rfl rfl hdd (Nat.le_refl _) (Nat.le_refl _) (by decide) (fx_ki ?_)
              refine pm_iloadn hG dX12_die_123 rfl ?_
              refine pm_icmp_ne (tgt := 131) hG dX12_die_124 rfl (fun c23 => ?_) (fun c23 => ?_)
              · replace hE := fx_f c23 hE
                refine pm_iconst (v := 0) hG dX12_die_131 (by decide) ?_
                refine pm_istoreXi (loc' := [some (.ref (B + 54)), some (.int za), some (.int x6), some (.int x19_3), some (.int 0)]) hG dX12_die_132 (by decide) (pm_c1b rfl) rfl ?_
                refine pm_iloadi hG dX12_die_134 rfl ?_
                refine pm_if_eq (tgt := 146) hG dX12_die_136 rfl (fun _ => ?_) (fun q => absurd q (by decide))
                refine pm_iloadi hG dX12_die_146 rfl ?_
                refine pm_if_ne (tgt := 161) hG dX12_die_148 rfl (fun q => absurd q (by decide)) (fun _ => ?_)
                refine pm_aloadn hG dX12_die_151 rfl ?_
                refine pm_iloadn hG dX12_die_152 rfl ?_
                refine pm_iconst (v := 2) hG dX12_die_153 (by decide) ?_
                obtain ⟨x25, h24, hE⟩ := fb_some hE
                refine pm_callV (As := [.int x19_3, .int 2]) (rest := []) hG hR dX12_die_154 (lkX12_110 _ rfl) okV_X12_its rfl rfl (c_X12_its (d := 3) (by decide) h24) rfl rfl hdd (Nat.le_refl _) (Nat.le_refl _) (by decide) (fx_ki ?_)
                refine pm_iloadn hG dX12_die_157 rfl ?_
                refine pm_icmp_ne (tgt := 166) hG dX12_die_158 rfl (fun c26 => ?_) (fun c26 => ?_)
                · replace hE := fx_f c26 hE
                  refine pm_iincX (v := x19_3 + 1) (loc' := [some (.ref (B + 54)), some (.int za), some (.int x6), some (.int (x19_3 + 1)), some (.int 0)]) hG dX12_die_166 rfl (by rfl) (by decide) (pm_c1b rfl) rfl ?_
                  refine pm_goto (tgt := 107) hG dX12_die_169 rfl ?_
                  refine pm_fg 4 (loc' := [some (.ref (B + 54)), some (.int za), some (.int x6), some (.int (x19_3 + 1)), none]) rfl ?_
                  exact ih107 _ _ hE
                · replace hE := fx_t c26 hE
                  refine pm_aloadn hG dX12_die_161 rfl ?_
                  refine pm_iloadn hG dX12_die_162 rfl ?_
                  obtain ⟨r28, h27, hE⟩ := fb_some hE
                  refine pm_callV (As := [.int x19_3]) (rest := []) hG hR dX12_die_163 (lkX12_116 _ rfl) okV_X12_comesBack rfl rfl (c_X12_comesBack (d := 3) (by decide) h27) rfl rfl hdd (Nat.le_refl _) (Nat.le_refl _) (by decide) (fx_kv ?_)
                  refine pm_iincX (v := x19_3 + 1) (loc' := [some (.ref (B + 54)), some (.int za), some (.int x6), some (.int (x19_3 + 1)), some (.int 0)]) hG dX12_die_166 rfl (by rfl) (by decide) (pm_c1b rfl) rfl ?_
                  refine pm_goto (tgt := 107) hG dX12_die_169 rfl ?_
                  refine pm_fg 4 (loc' := [some (.ref (B + 54)), some (.int za), some (.int x6), some (.int (x19_3 + 1)), none]) rfl ?_
                  exact ih107 _ _ hE
              · replace hE := fx_t c23 hE
                refine pm_iconst (v := 1) hG dX12_die_127 (by decide) ?_
                refine pm_goto (tgt := 132) hG dX12_die_128 rfl ?_
                refine pm_istoreXi (loc' := [some (.ref (B + 54)), some (.int za), some (.int x6), some (.int x19_3), some (.int 1)]) hG dX12_die_132 (by decide) (pm_c1b rfl) rfl ?_
                refine pm_iloadi hG dX12_die_134 rfl ?_
                refine pm_if_eq (tgt := 146) hG dX12_die_136 rfl (fun q => absurd q (by decide)) (fun _ => ?_)
                refine pm_aloadn hG dX12_die_139 rfl ?_
                refine pm_iloadn hG dX12_die_140 rfl ?_
                refine pm_iconst (v := 1) hG dX12_die_141 (by decide) ?_
                refine pm_iconst (v := (-1)) hG dX12_die_142 (by decide) ?_
                obtain ⟨r30, h29, hE⟩ := fb_some hE
                refine pm_callV (As := [.int x19_3, .int 1, .int (-1)]) (rest := []) hG hR dX12_die_143 (lkX12_113 _ rfl) okV_X12_makes rfl rfl (c_X12_makes (d := 3) (by decide) h29) rfl rfl hdd (Nat.le_refl _) (Nat.le_refl _) (by decide) (fx_kv ?_)
                refine pm_iloadi hG dX12_die_146 rfl ?_
                refine pm_if_ne (tgt := 161) hG dX12_die_148 rfl (fun _ => ?_) (fun q => absurd q (by decide))
                refine pm_aloadn hG dX12_die_161 rfl ?_
                refine pm_iloadn hG dX12_die_162 rfl ?_
                obtain ⟨r32, h31, hE⟩ := fb_some hE
                refine pm_callV (As := [.int x19_3]) (rest := []) hG hR dX12_die_163 (lkX12_116 _ rfl) okV_X12_comesBack rfl rfl (c_X12_comesBack (d := 3) (by decide) h31) rfl rfl hdd (Nat.le_refl _) (Nat.le_refl _) (by decide) (fx_kv ?_)
                refine pm_iincX (v := x19_3 + 1) (loc' := [some (.ref (B + 54)), some (.int za), some (.int x6), some (.int (x19_3 + 1)), some (.int 1)]) hG dX12_die_166 rfl (by rfl) (by decide) (pm_c1b rfl) rfl ?_
                refine pm_goto (tgt := 107) hG dX12_die_169 rfl ?_
                refine pm_fg 4 (loc' := [some (.ref (B + 54)), some (.int za), some (.int x6), some (.int (x19_3 + 1)), none]) rfl ?_
                exact ih107 _ _ hE
        refine loop107 _ (fun S33 x33_3 hE => ?_) _ _ _ hE
        refine pm_iloadn hG dX12_die_172 rfl ?_
        exact pm_iret hG hF dX12_die_173 rfl (Nat.le_refl _) (Nat.le_refl _) (fx_rim hE)
      refine pm_aloadn hG dX12_die_89 rfl ?_
      refine pm_iloadn hG dX12_die_90 rfl ?_
      refine pm_bipush (v := 11) hG dX12_die_91 (by decide) ?_
      obtain ⟨x35, h34, hE⟩ := fb_some hE
      refine pm_callV (As := [.int za, .int 11]) (rest := []) hG hR dX12_die_93 (lkX12_72 _ rfl) okV_X12_man rfl rfl (c_X12_man (d := 3) (by decide) h34) rfl rfl hdd (Nat.le_refl _) (Nat.le_refl _) (by decide) (fx_ki ?_)
      refine pm_iconst (v := 1) hG dX12_die_96 (by decide) ?_
      refine pm_icmp_ne (tgt := 105) hG dX12_die_97 rfl (fun c36 => ?_) (fun c36 => ?_)
      · replace hE := fx_f c36 hE
        exact join105 _ hE
      · replace hE := fx_t c36 hE
        refine pm_aloadn hG dX12_die_100 rfl ?_
        refine pm_iloadn hG dX12_die_101 rfl ?_
        obtain ⟨r38, h37, hE⟩ := fb_some hE
        refine pm_callV (As := [.int za]) (rest := []) hG hR dX12_die_102 (lkX12_107 _ rfl) okV_X12_leaves rfl rfl (c_X12_leaves (d := 3) (by decide) h37) rfl rfl hdd (Nat.le_refl _) (Nat.le_refl _) (by decide) (fx_kv ?_)
        exact join105 _ hE
    · replace hE := fx_t c4 hE
      refine pm_aloadn hG dX12_die_22 rfl ?_
      refine pm_iconst (v := 3) hG dX12_die_23 (by decide) ?_
      obtain ⟨r40, h39, hE⟩ := fb_some hE
      refine pm_callV (As := [.int 3]) (rest := []) hG hR dX12_die_24 (lkX12_80 _ rfl) okV_X12_finds rfl rfl (c_X12_finds (d := 3) (by decide) h39) rfl rfl hdd (Nat.le_refl _) (Nat.le_refl _) (by decide) (fx_ki ?_)
      exact pm_iret hG hF dX12_die_27 rfl (Nat.le_refl _) (Nat.le_refl _) (fx_rim hE)
  · replace hE := fx_t c1 hE
    refine pm_aloadn hG dX12_die_8 rfl ?_
    refine pm_iconst (v := 1) hG dX12_die_9 (by decide) ?_
    obtain ⟨r42, h41, hE⟩ := fb_some hE
    refine pm_callV (As := [.int 1]) (rest := []) hG hR dX12_die_10 (lkX12_80 _ rfl) okV_X12_finds rfl rfl (c_X12_finds (d := 3) (by decide) h41) rfl rfl hdd (Nat.le_refl _) (Nat.le_refl _) (by decide) (fx_ki ?_)
    exact pm_iret hG hF dX12_die_13 rfl (Nat.le_refl _) (Nat.le_refl _) (fx_rim hE)

set_option maxRecDepth 100000 in
set_option maxHeartbeats 4000000 in
theorem c_X12_writes {d : Nat} {B cnt : Nat} {σ : pm_S} {S : FS} {za : Int32} {zb : Int32} {zc : Int32} {R : Int32 × FS} (hdd : 1 ≤ d) (hE : f_X12_writes S za zb zc = some R) : pm_met mX12_writes d 0 0 B [.ref (B + 54), .int za, .int zb, .int zc] cnt (mst B S σ) (pm_Qv (fun σ' cnt' => σ' = (mst B R.2 σ) ∧ cnt' = cnt)) := by
  refine pm_enter 0 (by decide) (Nat.le_of_ble_eq_true rfl) rfl (fun G hG hR hF => ?_)
  unfold f_X12_writes at hE
  refine pm_aloadn hG dX12_writes_0 rfl ?_
  refine pm_getf hG dX12_writes_1 (flX12_7 _ rfl) rfl rfl ?_
  refine pm_sipush (v := 1290) hG dX12_writes_4 (by decide) ?_
  refine pm_bipush (v := 12) hG dX12_writes_7 (by decide) ?_
  refine pm_iloadn hG dX12_writes_9 rfl ?_
  refine pm_imul hG dX12_writes_10 ?_
  refine pm_iadd hG dX12_writes_11 ?_
  refine pm_iloadn hG dX12_writes_12 rfl ?_
  refine pm_iadd hG dX12_writes_13 ?_
  refine pm_iloadn hG dX12_writes_14 rfl ?_
  obtain ⟨j1, hj1, hE⟩ := fb_some hE
  refine fx_iast hG dX12_writes_15 rfl hj1 ?_
  refine ma_55 ?_
  refine fx_letm hE (fun S2 hE => ?_)
  exact pm_vret hG hF dX12_writes_16 rfl (Nat.le_refl _) (Nat.le_refl _) (fx_rvm hE)

set_option maxRecDepth 100000 in
set_option maxHeartbeats 4000000 in
theorem c_X12_thoseIn {d : Nat} {B cnt : Nat} {σ : pm_S} {S : FS} {za : Int32} {R : Int32} (hdd : 3 ≤ d) (hE : q_X12_thoseIn S za = some R) : pm_met mX12_thoseIn d 0 0 B [.ref (B + 54), .int za] cnt (mst B S σ) (pm_Qi (fun v σ' cnt' => v = R ∧ σ' = (mst B S σ) ∧ cnt' = cnt)) := by
  refine pm_enter 2 (by decide) (Nat.le_of_ble_eq_true rfl) rfl (fun G hG hR hF => ?_)
  unfold q_X12_thoseIn at hE
  refine pm_iconst (v := 0) hG dX12_thoseIn_0 (by decide) ?_
  refine pm_istoreXn (loc' := [some (.ref (B + 54)), some (.int za), some (.int 0), none]) hG dX12_thoseIn_1 (by decide) (pm_c1b rfl) rfl ?_
  refine pm_iconst (v := 0) hG dX12_thoseIn_2 (by decide) ?_
  refine pm_istoreXn (loc' := [some (.ref (B + 54)), some (.int za), some (.int 0), some (.int 0)]) hG dX12_thoseIn_3 (by decide) (pm_c1b rfl) rfl ?_
  have loop4 : ∀ (k4 : Int32 → Int32 → Option Int32), (∀  (x1_2 : Int32) (x1_3 : Int32), k4  x1_2 x1_3 = some R → pm_wp mX12_thoseIn G B 48 [some (.ref (B + 54)), some (.int za), some (.int x1_2), some (.int x1_3)] [] 0 0 cnt (mst B S σ)) → ∀ (m4 : Nat)  (x1_2 : Int32) (x1_3 : Int32), l_X12_thoseIn_4 za S k4 m4  x1_2 x1_3 = some R → pm_wp mX12_thoseIn G B 4 [some (.ref (B + 54)), some (.int za), some (.int x1_2), some (.int x1_3)] [] 0 0 cnt (mst B S σ) := by
    intro k4 hk4 m4
    induction m4 with
    | zero => intro  x1_2 x1_3 hE; exact fx_no hE
    | succ m4 ih4 =>
      intro  x1_2 x1_3 hE
      rw [l_X12_thoseIn_4] at hE
      refine pm_iloadn hG dX12_thoseIn_4 rfl ?_
      refine pm_aloadn hG dX12_thoseIn_5 rfl ?_
      refine pm_getf hG dX12_thoseIn_6 (flX12_7 _ rfl) rfl rfl ?_
      refine pm_iconst (v := 2) hG dX12_thoseIn_9 (by decide) ?_
      refine fx_iald hG dX12_thoseIn_10 rfl (ix_lit (by decide) rfl) ?_
      refine pm_icmp_ge (tgt := 48) hG dX12_thoseIn_11 rfl (fun c2 => ?_) (fun c2 => ?_)
      · replace c2 := Int32.not_lt.mpr c2
        replace hE := fx_f c2 hE
        exact hk4 _ _ hE
      · replace c2 := Int32.not_le.mp c2
        replace hE := fx_t c2 hE
        refine pm_iloadn hG dX12_thoseIn_14 rfl ?_
        refine pm_aloadn hG dX12_thoseIn_15 rfl ?_
        refine pm_iloadn hG dX12_thoseIn_16 rfl ?_
        obtain ⟨x4, h3, hE⟩ := fb_some hE
        refine pm_callV (As := [.int x1_3]) (rest := [.int x1_2]) hG hR dX12_thoseIn_17 (lkX12_101 _ rfl) okV_X12_lives rfl rfl (c_X12_lives (d := 2) (by decide) h3) rfl rfl hdd (Nat.le_refl _) (Nat.le_refl _) (by first | decide | exact Nat.le_of_ble_eq_true rfl) (fx_ki ?_)
        refine pm_if_eq (tgt := 39) hG dX12_thoseIn_20 rfl (fun c5 => ?_) (fun c5 => ?_)
        · replace hE := fx_t c5 hE
          refine pm_iconst (v := 0) hG dX12_thoseIn_39 (by decide) ?_
          refine pm_ior hG dX12_thoseIn_40 ?_
          refine fx_letv hE (fun x6 hE => ?_)
          refine pm_istoreXn (loc' := [some (.ref (B + 54)), some (.int za), some (.int x6), some (.int x1_3)]) hG dX12_thoseIn_41 (by decide) (pm_c1b rfl) rfl ?_
          refine pm_iincX (v := x1_3 + 1) (loc' := [some (.ref (B + 54)), some (.int za), some (.int x6), some (.int (x1_3 + 1))]) hG dX12_thoseIn_42 rfl (by rfl) (by decide) (pm_c1b rfl) rfl ?_
          refine pm_goto (tgt := 4) hG dX12_thoseIn_45 rfl ?_
          exact ih4 _ _ hE
        · replace hE := fx_f c5 hE
          refine pm_aloadn hG dX12_thoseIn_23 rfl ?_
          refine pm_iloadn hG dX12_thoseIn_24 rfl ?_
          refine pm_iconst (v := 4) hG dX12_thoseIn_25 (by decide) ?_
          obtain ⟨x8, h7, hE⟩ := fb_some hE
          refine pm_callV (As := [.int x1_3, .int 4]) (rest := [.int x1_2]) hG hR dX12_thoseIn_26 (lkX12_72 _ rfl) okV_X12_man rfl rfl (c_X12_man (d := 2) (by decide) h7) rfl rfl hdd (Nat.le_refl _) (Nat.le_refl _) (by first | decide | exact Nat.le_of_ble_eq_true rfl) (fx_ki ?_)
          refine pm_iloadn hG dX12_thoseIn_29 rfl ?_
          refine pm_icmp_ne (tgt := 39) hG dX12_thoseIn_30 rfl (fun c9 => ?_) (fun c9 => ?_)
          · replace hE := fx_f c9 hE
            refine pm_iconst (v := 0) hG dX12_thoseIn_39 (by decide) ?_
            refine pm_ior hG dX12_thoseIn_40 ?_
            refine fx_letv hE (fun x10 hE => ?_)
            refine pm_istoreXn (loc' := [some (.ref (B + 54)), some (.int za), some (.int x10), some (.int x1_3)]) hG dX12_thoseIn_41 (by decide) (pm_c1b rfl) rfl ?_
            refine pm_iincX (v := x1_3 + 1) (loc' := [some (.ref (B + 54)), some (.int za), some (.int x10), some (.int (x1_3 + 1))]) hG dX12_thoseIn_42 rfl (by rfl) (by decide) (pm_c1b rfl) rfl ?_
            refine pm_goto (tgt := 4) hG dX12_thoseIn_45 rfl ?_
            exact ih4 _ _ hE
          · replace hE := fx_t c9 hE
            refine pm_iconst (v := 1) hG dX12_thoseIn_33 (by decide) ?_
            refine pm_iloadn hG dX12_thoseIn_34 rfl ?_
            refine pm_ishl hG dX12_thoseIn_35 ?_
            refine pm_goto (tgt := 40) hG dX12_thoseIn_36 rfl ?_
            refine pm_ior hG dX12_thoseIn_40 ?_
            refine fx_letv hE (fun x11 hE => ?_)
            refine pm_istoreXn (loc' := [some (.ref (B + 54)), some (.int za), some (.int x11), some (.int x1_3)]) hG dX12_thoseIn_41 (by decide) (pm_c1b rfl) rfl ?_
            refine pm_iincX (v := x1_3 + 1) (loc' := [some (.ref (B + 54)), some (.int za), some (.int x11), some (.int (x1_3 + 1))]) hG dX12_thoseIn_42 rfl (by rfl) (by decide) (pm_c1b rfl) rfl ?_
            refine pm_goto (tgt := 4) hG dX12_thoseIn_45 rfl ?_
            exact ih4 _ _ hE
  refine loop4 _ (fun  x12_2 x12_3 hE => ?_) _ _ _ hE
  refine pm_iloadn hG dX12_thoseIn_48 rfl ?_
  exact pm_iret hG hF dX12_thoseIn_49 rfl (Nat.le_refl _) (Nat.le_refl _) (fx_pi (Option.some.inj hE))

set_option maxRecDepth 100000 in
set_option maxHeartbeats 4000000 in
theorem c_X12_draw {d : Nat} {B cnt : Nat} {σ : pm_S} {S : FS} {za : Int32} {zb : Int32} {zc : Int32} {R : Int32 × FS} (hdd : 4 ≤ d) (hE : f_X12_draw S za zb zc = some R) : pm_met mX12_draw d 0 0 B [.ref (B + 54), .int za, .int zb, .int zc] cnt (mst B S σ) (pm_Qi (fun v σ' cnt' => v = R.1 ∧ σ' = (mst B R.2 σ) ∧ cnt' = cnt)) := by
  refine pm_enter 2 (by decide) (Nat.le_of_ble_eq_true rfl) rfl (fun G hG hR hF => ?_)
  unfold f_X12_draw at hE
  refine pm_aloadn hG dX12_draw_0 rfl ?_
  refine pm_iloadn hG dX12_draw_1 rfl ?_
  refine pm_callV (As := [.int za]) (rest := []) hG hR dX12_draw_2 (lkX12_91 _ rfl) okV_X12_isPerson rfl rfl (c_X12_isPerson (d := 3) (by decide) rfl) rfl rfl hdd (Nat.le_refl _) (Nat.le_refl _) (by decide) (fx_ki ?_)
  refine pm_if_eq (tgt := 28) hG dX12_draw_5 rfl (fun c1 => ?_) (fun c1 => ?_)
  · replace hE := fx_t c1 hE
    refine pm_aloadn hG dX12_draw_28 rfl ?_
    refine pm_iconst (v := 1) hG dX12_draw_29 (by decide) ?_
    obtain ⟨r3, h2, hE⟩ := fb_some hE
    refine pm_callV (As := [.int 1]) (rest := []) hG hR dX12_draw_30 (lkX12_80 _ rfl) okV_X12_finds rfl rfl (c_X12_finds (d := 3) (by decide) h2) rfl rfl hdd (Nat.le_refl _) (Nat.le_refl _) (by decide) (fx_ki ?_)
    exact pm_iret hG hF dX12_draw_33 rfl (Nat.le_refl _) (Nat.le_refl _) (fx_rim hE)
  · replace hE := fx_f c1 hE
    refine pm_iloadn hG dX12_draw_8 rfl ?_
    refine pm_iconst (v := 0) hG dX12_draw_9 (by decide) ?_
    refine pm_iconst (v := 4) hG dX12_draw_10 (by decide) ?_
    refine pm_callS (As := [.int zb, .int 0, .int 4]) (rest := []) hG hR dX12_draw_11 (lkX12_68 _ rfl) okS_X12_in (c_X12_in (d := 3) (by decide) rfl) rfl rfl hdd (Nat.le_refl _) (Nat.le_refl _) (by decide) (fx_ki ?_)
    refine pm_if_eq (tgt := 28) hG dX12_draw_14 rfl (fun c4 => ?_) (fun c4 => ?_)
    · replace hE := fx_t c4 hE
      refine pm_aloadn hG dX12_draw_28 rfl ?_
      refine pm_iconst (v := 1) hG dX12_draw_29 (by decide) ?_
      obtain ⟨r6, h5, hE⟩ := fb_some hE
      refine pm_callV (As := [.int 1]) (rest := []) hG hR dX12_draw_30 (lkX12_80 _ rfl) okV_X12_finds rfl rfl (c_X12_finds (d := 3) (by decide) h5) rfl rfl hdd (Nat.le_refl _) (Nat.le_refl _) (by decide) (fx_ki ?_)
      exact pm_iret hG hF dX12_draw_33 rfl (Nat.le_refl _) (Nat.le_refl _) (fx_rim hE)
    · replace hE := fx_f c4 hE
      refine pm_iloadn hG dX12_draw_17 rfl ?_
      refine pm_iconst (v := 0) hG dX12_draw_18 (by decide) ?_
      refine pm_sipush (v := 999) hG dX12_draw_19 (by decide) ?_
      refine pm_callS (As := [.int zc, .int 0, .int 999]) (rest := []) hG hR dX12_draw_22 (lkX12_68 _ rfl) okS_X12_in (c_X12_in (d := 3) (by decide) rfl) rfl rfl hdd (Nat.le_refl _) (Nat.le_refl _) (by decide) (fx_ki ?_)
      refine pm_if_ne (tgt := 34) hG dX12_draw_25 rfl (fun c7 => ?_) (fun c7 => ?_)
      · replace hE := fx_f c7 hE
        refine pm_aloadn hG dX12_draw_34 rfl ?_
        refine pm_iloadn hG dX12_draw_35 rfl ?_
        obtain ⟨x9, h8, hE⟩ := fb_some hE
        refine pm_callV (As := [.int za]) (rest := []) hG hR dX12_draw_36 (lkX12_101 _ rfl) okV_X12_lives rfl rfl (c_X12_lives (d := 3) (by decide) h8) rfl rfl hdd (Nat.le_refl _) (Nat.le_refl _) (by decide) (fx_ki ?_)
        refine pm_if_eq (tgt := 51) hG dX12_draw_39 rfl (fun c10 => ?_) (fun c10 => ?_)
        · replace hE := fx_t c10 hE
          refine pm_aloadn hG dX12_draw_51 rfl ?_
          refine pm_iconst (v := 3) hG dX12_draw_52 (by decide) ?_
          obtain ⟨r12, h11, hE⟩ := fb_some hE
          refine pm_callV (As := [.int 3]) (rest := []) hG hR dX12_draw_53 (lkX12_80 _ rfl) okV_X12_finds rfl rfl (c_X12_finds (d := 3) (by decide) h11) rfl rfl hdd (Nat.le_refl _) (Nat.le_refl _) (by decide) (fx_ki ?_)
          exact pm_iret hG hF dX12_draw_56 rfl (Nat.le_refl _) (Nat.le_refl _) (fx_rim hE)
        · replace hE := fx_f c10 hE
          refine pm_aloadn hG dX12_draw_42 rfl ?_
          refine pm_iloadn hG dX12_draw_43 rfl ?_
          refine pm_iconst (v := 4) hG dX12_draw_44 (by decide) ?_
          obtain ⟨x14, h13, hE⟩ := fb_some hE
          refine pm_callV (As := [.int za, .int 4]) (rest := []) hG hR dX12_draw_45 (lkX12_72 _ rfl) okV_X12_man rfl rfl (c_X12_man (d := 3) (by decide) h13) rfl rfl hdd (Nat.le_refl _) (Nat.le_refl _) (by decide) (fx_ki ?_)
          refine pm_if_ge (tgt := 57) hG dX12_draw_48 rfl (fun c15 => ?_) (fun c15 => ?_)
          · replace c15 := Int32.not_lt.mpr c15
            replace hE := fx_f c15 hE
            refine pm_aloadn hG dX12_draw_57 rfl ?_
            refine pm_getf hG dX12_draw_58 (flX12_7 _ rfl) rfl rfl ?_
            refine pm_iconst (v := 5) hG dX12_draw_61 (by decide) ?_
            refine fx_iald hG dX12_draw_62 rfl (ix_lit (by decide) rfl) ?_
            refine fx_letv hE (fun x16 hE => ?_)
            refine pm_istoreXi (loc' := [some (.ref (B + 54)), some (.int za), some (.int zb), some (.int zc), some (.int x16), none]) hG dX12_draw_63 (by decide) (pm_c1b rfl) rfl ?_
            refine pm_iloadi hG dX12_draw_65 rfl ?_
            refine pm_bipush (v := 40) hG dX12_draw_67 (by decide) ?_
            refine pm_icmp_ne (tgt := 78) hG dX12_draw_69 rfl (fun c17 => ?_) (fun c17 => ?_)
            · replace hE := fx_f c17 hE
              refine pm_aloadn hG dX12_draw_78 rfl ?_
              refine pm_getf hG dX12_draw_79 (flX12_7 _ rfl) rfl rfl ?_
              refine pm_iconst (v := 5) hG dX12_draw_82 (by decide) ?_
              refine pm_dup2 hG dX12_draw_83 rfl rfl ?_
              refine fx_iald hG dX12_draw_84 rfl (ix_lit (by decide) rfl) ?_
              refine pm_iconst (v := 1) hG dX12_draw_85 (by decide) ?_
              refine pm_iadd hG dX12_draw_86 ?_
              refine fx_iast hG dX12_draw_87 rfl (ix_lit (by decide) rfl) ?_
              refine ma_55 ?_
              refine fx_letm hE (fun S18 hE => ?_)
              refine pm_iconst (v := 0) hG dX12_draw_88 (by decide) ?_
              refine pm_istoreXi (loc' := [some (.ref (B + 54)), some (.int za), some (.int zb), some (.int zc), some (.int x16), some (.int 0)]) hG dX12_draw_89 (by decide) (pm_c1b rfl) rfl ?_
              have loop91 : ∀ (k91 : FS → Int32 → Option (Int32 × FS)), (∀ (S19 : FS) (x19_5 : Int32), k91 S19  x19_5 = some R → pm_wp mX12_draw G B 143 [some (.ref (B + 54)), some (.int za), some (.int zb), some (.int zc), some (.int x16), some (.int x19_5)] [] 0 0 cnt (mst B S19 σ)) → ∀ (m91 : Nat) (S19 : FS) (x19_5 : Int32), l_X12_draw_91 x16 k91 m91 S19  x19_5 = some R → pm_wp mX12_draw G B 91 [some (.ref (B + 54)), some (.int za), some (.int zb), some (.int zc), some (.int x16), some (.int x19_5)] [] 0 0 cnt (mst B S19 σ) := by
                intro k91 hk91 m91
                induction m91 with
                | zero => intro S19  x19_5 hE; exact fx_no hE
                | succ m91 ih91 =>
                  intro S19  x19_5 hE
                  rw [l_X12_draw_91] at hE
                  refine pm_iloadi hG dX12_draw_91 rfl ?_
                  refine pm_bipush (v := 12) hG dX12_draw_93 (by decide) ?_
                  refine pm_icmp_ge (tgt := 143) hG dX12_draw_95 rfl (fun c20 => ?_) (fun c20 => ?_)
                  · replace c20 := Int32.not_lt.mpr c20
                    replace hE := fx_f c20 hE
                    exact hk91 _ _ hE
                  · replace c20 := Int32.not_le.mp c20
                    replace hE := fx_t c20 hE
                    refine pm_aloadn hG dX12_draw_98 rfl ?_
                    refine pm_iloadi hG dX12_draw_99 rfl ?_
                    refine pm_iloadi hG dX12_draw_101 rfl ?_
                    refine pm_iloadi hG dX12_draw_103 rfl ?_
                    refine pm_iconst (v := 4) hG dX12_draw_105 (by decide) ?_
                    refine pm_icmp_eq (tgt := 129) hG dX12_draw_106 rfl (fun c21 => ?_) (fun c21 => ?_)
                    · replace hE := fx_t c21 hE
                      refine pm_iconst (v := (-1)) hG dX12_draw_129 (by decide) ?_
                      refine pm_goto (tgt := 134) hG dX12_draw_130 rfl ?_
                      obtain ⟨r23, h22, hE⟩ := fb_some hE
                      refine pm_callV (As := [.int x16, .int x19_5, .int (-1)]) (rest := []) hG hR dX12_draw_134 (lkX12_217 _ rfl) okV_X12_writes rfl rfl (c_X12_writes (d := 3) (by decide) h22) rfl rfl hdd (Nat.le_refl _) (Nat.le_refl _) (by decide) (fx_kv ?_)
                      refine pm_iincX (v := x19_5 + 1) (loc' := [some (.ref (B + 54)), some (.int za), some (.int zb), some (.int zc), some (.int x16), some (.int (x19_5 + 1))]) hG dX12_draw_137 rfl (by rfl) (by decide) (pm_c1b rfl) rfl ?_
                      refine pm_goto (tgt := 91) hG dX12_draw_140 rfl ?_
                      exact ih91 _ _ hE
                    · replace hE := fx_f c21 hE
                      refine pm_iloadi hG dX12_draw_109 rfl ?_
                      refine pm_iconst (v := 5) hG dX12_draw_111 (by decide) ?_
                      refine pm_icmp_eq (tgt := 129) hG dX12_draw_112 rfl (fun c24 => ?_) (fun c24 => ?_)
                      · replace hE := fx_t c24 hE
                        refine pm_iconst (v := (-1)) hG dX12_draw_129 (by decide) ?_
                        refine pm_goto (tgt := 134) hG dX12_draw_130 rfl ?_
                        obtain ⟨r26, h25, hE⟩ := fb_some hE
                        refine pm_callV (As := [.int x16, .int x19_5, .int (-1)]) (rest := []) hG hR dX12_draw_134 (lkX12_217 _ rfl) okV_X12_writes rfl rfl (c_X12_writes (d := 3) (by decide) h25) rfl rfl hdd (Nat.le_refl _) (Nat.le_refl _) (by decide) (fx_kv ?_)
                        refine pm_iincX (v := x19_5 + 1) (loc' := [some (.ref (B + 54)), some (.int za), some (.int zb), some (.int zc), some (.int x16), some (.int (x19_5 + 1))]) hG dX12_draw_137 rfl (by rfl) (by decide) (pm_c1b rfl) rfl ?_
                        refine pm_goto (tgt := 91) hG dX12_draw_140 rfl ?_
                        exact ih91 _ _ hE
                      · replace hE := fx_f c24 hE
                        refine pm_iloadi hG dX12_draw_115 rfl ?_
                        refine pm_bipush (v := 6) hG dX12_draw_117 (by decide) ?_
                        refine pm_icmp_eq (tgt := 129) hG dX12_draw_119 rfl (fun c27 => ?_) (fun c27 => ?_)
                        · replace hE := fx_t c27 hE
                          refine pm_iconst (v := (-1)) hG dX12_draw_129 (by decide) ?_
                          refine pm_goto (tgt := 134) hG dX12_draw_130 rfl ?_
                          obtain ⟨r29, h28, hE⟩ := fb_some hE
                          refine pm_callV (As := [.int x16, .int x19_5, .int (-1)]) (rest := []) hG hR dX12_draw_134 (lkX12_217 _ rfl) okV_X12_writes rfl rfl (c_X12_writes (d := 3) (by decide) h28) rfl rfl hdd (Nat.le_refl _) (Nat.le_refl _) (by decide) (fx_kv ?_)
                          refine pm_iincX (v := x19_5 + 1) (loc' := [some (.ref (B + 54)), some (.int za), some (.int zb), some (.int zc), some (.int x16), some (.int (x19_5 + 1))]) hG dX12_draw_137 rfl (by rfl) (by decide) (pm_c1b rfl) rfl ?_
                          refine pm_goto (tgt := 91) hG dX12_draw_140 rfl ?_
                          exact ih91 _ _ hE
                        · replace hE := fx_f c27 hE
                          refine pm_iloadi hG dX12_draw_122 rfl ?_
                          refine pm_bipush (v := 7) hG dX12_draw_124 (by decide) ?_
                          refine pm_icmp_ne (tgt := 133) hG dX12_draw_126 rfl (fun c30 => ?_) (fun c30 => ?_)
                          · replace hE := fx_f c30 hE
                            refine pm_iconst (v := 0) hG dX12_draw_133 (by decide) ?_
                            obtain ⟨r32, h31, hE⟩ := fb_some hE
                            refine pm_callV (As := [.int x16, .int x19_5, .int 0]) (rest := []) hG hR dX12_draw_134 (lkX12_217 _ rfl) okV_X12_writes rfl rfl (c_X12_writes (d := 3) (by decide) h31) rfl rfl hdd (Nat.le_refl _) (Nat.le_refl _) (by decide) (fx_kv ?_)
                            refine pm_iincX (v := x19_5 + 1) (loc' := [some (.ref (B + 54)), some (.int za), some (.int zb), some (.int zc), some (.int x16), some (.int (x19_5 + 1))]) hG dX12_draw_137 rfl (by rfl) (by decide) (pm_c1b rfl) rfl ?_
                            refine pm_goto (tgt := 91) hG dX12_draw_140 rfl ?_
                            exact ih91 _ _ hE
                          · replace hE := fx_t c30 hE
                            refine pm_iconst (v := (-1)) hG dX12_draw_129 (by decide) ?_
                            refine pm_goto (tgt := 134) hG dX12_draw_130 rfl ?_
                            obtain ⟨r34, h33, hE⟩ := fb_some hE
                            refine pm_callV (As := [.int x16, .int x19_5, .int (-1)]) (rest := []) hG hR dX12_draw_134 (lkX12_217 _ rfl) okV_X12_writes rfl rfl (c_X12_writes (d := 3) (by decide) h33) rfl rfl hdd (Nat.le_refl _) (Nat.le_refl _) (by decide) (fx_kv ?_)
                            refine pm_iincX (v := x19_5 + 1) (loc' := [some (.ref (B + 54)), some (.int za), some (.int zb), some (.int zc), some (.int x16), some (.int (x19_5 + 1))]) hG dX12_draw_137 rfl (by rfl) (by decide) (pm_c1b rfl) rfl ?_
                            refine pm_goto (tgt := 91) hG dX12_draw_140 rfl ?_
                            exact ih91 _ _ hE
              refine loop91 _ (fun S35 x35_5 hE => ?_) _ _ _ hE
              refine pm_aloadn hG dX12_draw_143 rfl ?_
              refine pm_iloadi hG dX12_draw_144 rfl ?_
              refine pm_iconst (v := 0) hG dX12_draw_146 (by decide) ?_
              refine pm_iloadn hG dX12_draw_147 rfl ?_
              obtain ⟨r37, h36, hE⟩ := fb_some hE
              refine pm_callV (As := [.int x16, .int 0, .int za]) (rest := []) hG hR dX12_draw_148 (lkX12_217 _ rfl) okV_X12_writes rfl rfl (c_X12_writes (d := 3) (by decide) h36) rfl rfl hdd (Nat.le_refl _) (Nat.le_refl _) (by decide) (fx_kv ?_)
              refine pm_aloadn hG dX12_draw_151 rfl ?_
              refine pm_iloadi hG dX12_draw_152 rfl ?_
              refine pm_iconst (v := 1) hG dX12_draw_154 (by decide) ?_
              refine pm_iloadn hG dX12_draw_155 rfl ?_
              obtain ⟨r39, h38, hE⟩ := fb_some hE
              refine pm_callV (As := [.int x16, .int 1, .int zb]) (rest := []) hG hR dX12_draw_156 (lkX12_217 _ rfl) okV_X12_writes rfl rfl (c_X12_writes (d := 3) (by decide) h38) rfl rfl hdd (Nat.le_refl _) (Nat.le_refl _) (by decide) (fx_kv ?_)
              refine pm_aloadn hG dX12_draw_159 rfl ?_
              refine pm_iloadi hG dX12_draw_160 rfl ?_
              refine pm_iconst (v := 2) hG dX12_draw_162 (by decide) ?_
              refine pm_iloadn hG dX12_draw_163 rfl ?_
              obtain ⟨r41, h40, hE⟩ := fb_some hE
              refine pm_callV (As := [.int x16, .int 2, .int zc]) (rest := []) hG hR dX12_draw_164 (lkX12_217 _ rfl) okV_X12_writes rfl rfl (c_X12_writes (d := 3) (by decide) h40) rfl rfl hdd (Nat.le_refl _) (Nat.le_refl _) (by decide) (fx_kv ?_)
              refine pm_aloadn hG dX12_draw_167 rfl ?_
              refine pm_iloadi hG dX12_draw_168 rfl ?_
              refine pm_bipush (v := 10) hG dX12_draw_170 (by decide) ?_
              refine pm_aloadn hG dX12_draw_172 rfl ?_
              refine pm_iloadn hG dX12_draw_173 rfl ?_
              refine pm_iconst (v := 4) hG dX12_draw_174 (by decide) ?_
              obtain ⟨x43, h42, hE⟩ := fb_some hE
              refine pm_callV (As := [.int za, .int 4]) (rest := [.int 10, .int x16, .ref (B + 54)]) hG hR dX12_draw_175 (lkX12_72 _ rfl) okV_X12_man rfl rfl (c_X12_man (d := 3) (by decide) h42) rfl rfl hdd (Nat.le_refl _) (Nat.le_refl _) (by first | decide | exact Nat.le_of_ble_eq_true rfl) (fx_ki ?_)
              obtain ⟨r45, h44, hE⟩ := fb_some hE
              refine pm_callV (As := [.int x16, .int 10, .int x43]) (rest := []) hG hR dX12_draw_178 (lkX12_217 _ rfl) okV_X12_writes rfl rfl (c_X12_writes (d := 3) (by decide) h44) rfl rfl hdd (Nat.le_refl _) (Nat.le_refl _) (by decide) (fx_kv ?_)
              refine pm_aloadn hG dX12_draw_181 rfl ?_
              refine pm_iloadi hG dX12_draw_182 rfl ?_
              refine pm_bipush (v := 9) hG dX12_draw_184 (by decide) ?_
              refine pm_aloadn hG dX12_draw_186 rfl ?_
              refine pm_aloadn hG dX12_draw_187 rfl ?_
              refine pm_iloadn hG dX12_draw_188 rfl ?_
              refine pm_iconst (v := 4) hG dX12_draw_189 (by decide) ?_
              obtain ⟨x47, h46, hE⟩ := fb_some hE
              refine pm_callV (As := [.int za, .int 4]) (rest := [.ref (B + 54), .int 9, .int x16, .ref (B + 54)]) hG hR dX12_draw_190 (lkX12_72 _ rfl) okV_X12_man rfl rfl (c_X12_man (d := 3) (by decide) h46) rfl rfl hdd (Nat.le_refl _) (Nat.le_refl _) (by first | decide | exact Nat.le_of_ble_eq_true rfl) (fx_ki ?_)
              obtain ⟨x49, h48, hE⟩ := fb_some hE
              refine pm_callV (As := [.int x47]) (rest := [.int 9, .int x16, .ref (B + 54)]) hG hR dX12_draw_193 (lkX12_220 _ rfl) okV_X12_thoseIn rfl rfl (c_X12_thoseIn (d := 3) (by decide) h48) rfl rfl hdd (Nat.le_refl _) (Nat.le_refl _) (by first | decide | exact Nat.le_of_ble_eq_true rfl) (fx_ki ?_)
              obtain ⟨r51, h50, hE⟩ := fb_some hE
              refine pm_callV (As := [.int x16, .int 9, .int x49]) (rest := []) hG hR dX12_draw_196 (lkX12_217 _ rfl) okV_X12_writes rfl rfl (c_X12_writes (d := 3) (by decide) h50) rfl rfl hdd (Nat.le_refl _) (Nat.le_refl _) (by decide) (fx_kv ?_)
              refine pm_iloadi hG dX12_draw_199 rfl ?_
              exact pm_iret hG hF dX12_draw_201 rfl (Nat.le_refl _) (Nat.le_refl _) (fx_rim hE)
            · replace hE := fx_t c17 hE
              refine pm_aloadn hG dX12_draw_72 rfl ?_
              refine pm_iconst (v := 4) hG dX12_draw_73 (by decide) ?_
              obtain ⟨r53, h52, hE⟩ := fb_some hE
              refine pm_callV (As := [.int 4]) (rest := []) hG hR dX12_draw_74 (lkX12_80 _ rfl) okV_X12_finds rfl rfl (c_X12_finds (d := 3) (by decide) h52) rfl rfl hdd (Nat.le_refl _) (Nat.le_refl _) (by decide) (fx_ki ?_)
              exact pm_iret hG hF dX12_draw_77 rfl (Nat.le_refl _) (Nat.le_refl _) (fx_rim hE)
          · replace c15 := Int32.not_le.mp c15
            replace hE := fx_t c15 hE
            refine pm_aloadn hG dX12_draw_51 rfl ?_
            refine pm_iconst (v := 3) hG dX12_draw_52 (by decide) ?_
            obtain ⟨r55, h54, hE⟩ := fb_some hE
            refine pm_callV (As := [.int 3]) (rest := []) hG hR dX12_draw_53 (lkX12_80 _ rfl) okV_X12_finds rfl rfl (c_X12_finds (d := 3) (by decide) h54) rfl rfl hdd (Nat.le_refl _) (Nat.le_refl _) (by decide) (fx_ki ?_)
            exact pm_iret hG hF dX12_draw_56 rfl (Nat.le_refl _) (Nat.le_refl _) (fx_rim hE)
      · replace hE := fx_t c7 hE
        refine pm_aloadn hG dX12_draw_28 rfl ?_
        refine pm_iconst (v := 1) hG dX12_draw_29 (by decide) ?_
        obtain ⟨r57, h56, hE⟩ := fb_some hE
        refine pm_callV (As := [.int 1]) (rest := []) hG hR dX12_draw_30 (lkX12_80 _ rfl) okV_X12_finds rfl rfl (c_X12_finds (d := 3) (by decide) h56) rfl rfl hdd (Nat.le_refl _) (Nat.le_refl _) (by decide) (fx_ki ?_)
        exact pm_iret hG hF dX12_draw_33 rfl (Nat.le_refl _) (Nat.le_refl _) (fx_rim hE)
end
section
set_option maxRecDepth 100000 in
set_option maxHeartbeats 4000000 in
theorem c_X12_far {d : Nat} {B cnt : Nat} {σ : pm_S} {S : FS} {za : Int32} {zb : Int32} {R : Int32 × FS} (hdd : 3 ≤ d) (hE : f_X12_far S za zb = some R) : pm_met mX12_far d 0 0 B [.ref (B + 54), .int za, .int zb] cnt (mst B S σ) (pm_Qi (fun v σ' cnt' => v = R.1 ∧ σ' = (mst B R.2 σ) ∧ cnt' = cnt)) := by
  refine pm_enter 1 (by decide) (Nat.le_of_ble_eq_true rfl) rfl (fun G hG hR hF => ?_)
  unfold f_X12_far at hE
  refine pm_aloadn hG dX12_far_0 rfl ?_
  refine pm_iloadn hG dX12_far_1 rfl ?_
  refine pm_callV (As := [.int za]) (rest := []) hG hR dX12_far_2 (lkX12_84 _ rfl) okV_X12_isTown rfl rfl (c_X12_isTown (d := 2) (by decide) rfl) rfl rfl hdd (Nat.le_refl _) (Nat.le_refl _) (by decide) (fx_ki ?_)
  refine pm_if_eq (tgt := 16) hG dX12_far_5 rfl (fun c1 => ?_) (fun c1 => ?_)
  · replace hE := fx_t c1 hE
    refine pm_aloadn hG dX12_far_16 rfl ?_
    refine pm_iconst (v := 1) hG dX12_far_17 (by decide) ?_
    obtain ⟨r3, h2, hE⟩ := fb_some hE
    refine pm_callV (As := [.int 1]) (rest := []) hG hR dX12_far_18 (lkX12_80 _ rfl) okV_X12_finds rfl rfl (c_X12_finds (d := 2) (by decide) h2) rfl rfl hdd (Nat.le_refl _) (Nat.le_refl _) (by decide) (fx_ki ?_)
    exact pm_iret hG hF dX12_far_21 rfl (Nat.le_refl _) (Nat.le_refl _) (fx_rim hE)
  · replace hE := fx_f c1 hE
    refine pm_aloadn hG dX12_far_8 rfl ?_
    refine pm_iloadn hG dX12_far_9 rfl ?_
    refine pm_callV (As := [.int zb]) (rest := []) hG hR dX12_far_10 (lkX12_84 _ rfl) okV_X12_isTown rfl rfl (c_X12_isTown (d := 2) (by decide) rfl) rfl rfl hdd (Nat.le_refl _) (Nat.le_refl _) (by decide) (fx_ki ?_)
    refine pm_if_ne (tgt := 22) hG dX12_far_13 rfl (fun c4 => ?_) (fun c4 => ?_)
    · replace hE := fx_f c4 hE
      refine pm_aloadn hG dX12_far_22 rfl ?_
      refine pm_iloadn hG dX12_far_23 rfl ?_
      refine pm_iloadn hG dX12_far_24 rfl ?_
      obtain ⟨r6, h5, hE⟩ := fb_some hE
      refine pm_callV (As := [.int za, .int zb]) (rest := []) hG hR dX12_far_25 (lkX12_88 _ rfl) okV_X12_farOf rfl rfl (c_X12_farOf (d := 2) (by decide) h5) rfl rfl hdd (Nat.le_refl _) (Nat.le_refl _) (by decide) (fx_ki ?_)
      refine pm_istoreXn (loc' := [some (.ref (B + 54)), some (.int za), some (.int zb), some (.int r6.1)]) hG dX12_far_28 (by decide) (pm_c1b rfl) rfl ?_
      refine pm_iloadn hG dX12_far_29 rfl ?_
      refine pm_if_ge (tgt := 41) hG dX12_far_30 rfl (fun c7 => ?_) (fun c7 => ?_)
      · replace c7 := Int32.not_lt.mpr c7
        replace hE := fx_f c7 hE
        refine pm_iloadn hG dX12_far_41 rfl ?_
        exact pm_iret hG hF dX12_far_42 rfl (Nat.le_refl _) (Nat.le_refl _) (fx_rim hE)
      · replace c7 := Int32.not_le.mp c7
        replace hE := fx_t c7 hE
        refine pm_aloadn hG dX12_far_33 rfl ?_
        refine pm_iconst (v := 2) hG dX12_far_34 (by decide) ?_
        obtain ⟨r9, h8, hE⟩ := fb_some hE
        refine pm_callV (As := [.int 2]) (rest := []) hG hR dX12_far_35 (lkX12_80 _ rfl) okV_X12_finds rfl rfl (c_X12_finds (d := 2) (by decide) h8) rfl rfl hdd (Nat.le_refl _) (Nat.le_refl _) (by decide) (fx_ki ?_)
        refine pm_goto (tgt := 42) hG dX12_far_38 rfl ?_
        exact pm_iret hG hF dX12_far_42 rfl (Nat.le_refl _) (Nat.le_refl _) (fx_rim hE)
    · replace hE := fx_t c4 hE
      refine pm_aloadn hG dX12_far_16 rfl ?_
      refine pm_iconst (v := 1) hG dX12_far_17 (by decide) ?_
      obtain ⟨r11, h10, hE⟩ := fb_some hE
      refine pm_callV (As := [.int 1]) (rest := []) hG hR dX12_far_18 (lkX12_80 _ rfl) okV_X12_finds rfl rfl (c_X12_finds (d := 2) (by decide) h10) rfl rfl hdd (Nat.le_refl _) (Nat.le_refl _) (by decide) (fx_ki ?_)
      exact pm_iret hG hF dX12_far_21 rfl (Nat.le_refl _) (Nat.le_refl _) (fx_rim hE)

set_option maxRecDepth 100000 in
set_option maxHeartbeats 4000000 in
theorem c_X12_feed {d : Nat} {B cnt : Nat} {σ : pm_S} {S : FS} {za : Int64} {zb : Int32} {R : Int32 × FS} (hdd : 2 ≤ d) (hE : f_X12_feed S za zb = some R) : pm_met mX12_feed d 0 0 B [.ref (B + 54), .long za, .int zb] cnt (mst B S σ) (pm_Qi (fun v σ' cnt' => v = R.1 ∧ σ' = (mst B R.2 σ) ∧ cnt' = cnt)) := by
  refine pm_enter 1 (by decide) (Nat.le_of_ble_eq_true rfl) rfl (fun G hG hR hF => ?_)
  unfold f_X12_feed at hE
  refine pm_iloadn hG dX12_feed_0 rfl ?_
  refine pm_iconst (v := 1) hG dX12_feed_1 (by decide) ?_
  refine pm_bipush (v := 8) hG dX12_feed_2 (by decide) ?_
  refine pm_callS (As := [.int zb, .int 1, .int 8]) (rest := []) hG hR dX12_feed_4 (lkX12_68 _ rfl) okS_X12_in (c_X12_in (d := 1) (by decide) rfl) rfl rfl hdd (Nat.le_refl _) (Nat.le_refl _) (by decide) (fx_ki ?_)
  refine pm_if_ne (tgt := 16) hG dX12_feed_7 rfl (fun c1 => ?_) (fun c1 => ?_)
  · replace hE := fx_f c1 hE
    refine pm_aloadn hG dX12_feed_16 rfl ?_
    refine pm_getf hG dX12_feed_17 (flX12_7 _ rfl) rfl rfl ?_
    refine pm_bipush (v := 10) hG dX12_feed_20 (by decide) ?_
    refine fx_iald hG dX12_feed_22 rfl (ix_lit (by decide) rfl) ?_
    refine pm_iloadn hG dX12_feed_23 rfl ?_
    refine pm_iadd hG dX12_feed_24 ?_
    refine pm_bipush (v := 60) hG dX12_feed_25 (by decide) ?_
    refine pm_icmp_le (tgt := 36) hG dX12_feed_27 rfl (fun c2 => ?_) (fun c2 => ?_)
    · replace c2 := Int32.not_lt.mpr c2
      replace hE := fx_f c2 hE
      refine pm_iconst (v := 0) hG dX12_feed_36 (by decide) ?_
      refine pm_istoreXi (loc' := [some (.ref (B + 54)), some (.long za), none, some (.int zb), some (.int 0)]) hG dX12_feed_37 (by decide) (pm_c1b rfl) rfl ?_
      have loop39 : ∀ (k39 : FS → Int32 → Option (Int32 × FS)), (∀ (S3 : FS) (x3_4 : Int32), k39 S3  x3_4 = some R → pm_wp mX12_feed G B 90 [some (.ref (B + 54)), some (.long za), none, some (.int zb), some (.int x3_4)] [] 0 0 cnt (mst B S3 σ)) → ∀ (m39 : Nat) (S3 : FS) (x3_4 : Int32), l_X12_feed_39 za zb k39 m39 S3  x3_4 = some R → pm_wp mX12_feed G B 39 [some (.ref (B + 54)), some (.long za), none, some (.int zb), some (.int x3_4)] [] 0 0 cnt (mst B S3 σ) := by
        intro k39 hk39 m39
        induction m39 with
        | zero => intro S3  x3_4 hE; exact fx_no hE
        | succ m39 ih39 =>
          intro S3  x3_4 hE
          rw [l_X12_feed_39] at hE
          refine pm_iloadi hG dX12_feed_39 rfl ?_
          refine pm_iloadn hG dX12_feed_41 rfl ?_
          refine pm_icmp_ge (tgt := 90) hG dX12_feed_42 rfl (fun c4 => ?_) (fun c4 => ?_)
          · replace c4 := Int32.not_lt.mpr c4
            replace hE := fx_f c4 hE
            exact hk39 _ _ hE
          · replace c4 := Int32.not_le.mp c4
            replace hE := fx_t c4 hE
            refine pm_aloadn hG dX12_feed_45 rfl ?_
            refine pm_getf hG dX12_feed_46 (flX12_7 _ rfl) rfl rfl ?_
            refine pm_sipush (v := 1991) hG dX12_feed_49 (by decide) ?_
            refine pm_aloadn hG dX12_feed_52 rfl ?_
            refine pm_getf hG dX12_feed_53 (flX12_7 _ rfl) rfl rfl ?_
            refine pm_bipush (v := 10) hG dX12_feed_56 (by decide) ?_
            refine fx_iald hG dX12_feed_58 rfl (ix_lit (by decide) rfl) ?_
            refine pm_iadd hG dX12_feed_59 ?_
            refine pm_lloadn hG dX12_feed_60 rfl ?_
            refine pm_bipush (v := 8) hG dX12_feed_61 (by decide) ?_
            refine pm_iloadi hG dX12_feed_63 rfl ?_
            refine pm_imul hG dX12_feed_65 ?_
            refine pm_lshr hG dX12_feed_66 rfl ?_
            refine pm_ldc2 hG dX12_feed_67 (ctX12_142 _ rfl) ?_
            refine pm_land hG dX12_feed_70 ?_
            refine pm_l2i hG dX12_feed_71 rfl ?_
            obtain ⟨j5, hj5, hE⟩ := fb_some hE
            refine fx_iast hG dX12_feed_72 rfl hj5 ?_
            refine ma_55 ?_
            refine fx_letm hE (fun S6 hE => ?_)
            refine pm_aloadn hG dX12_feed_73 rfl ?_
            refine pm_getf hG dX12_feed_74 (flX12_7 _ rfl) rfl rfl ?_
            refine pm_bipush (v := 10) hG dX12_feed_77 (by decide) ?_
            refine pm_dup2 hG dX12_feed_79 rfl rfl ?_
            refine fx_iald hG dX12_feed_80 rfl (ix_lit (by decide) rfl) ?_
            refine pm_iconst (v := 1) hG dX12_feed_81 (by decide) ?_
            refine pm_iadd hG dX12_feed_82 ?_
            refine fx_iast hG dX12_feed_83 rfl (ix_lit (by decide) rfl) ?_
            refine ma_55 ?_
            refine fx_letm hE (fun S7 hE => ?_)
            refine pm_iincX (v := x3_4 + 1) (loc' := [some (.ref (B + 54)), some (.long za), none, some (.int zb), some (.int (x3_4 + 1))]) hG dX12_feed_84 rfl (by rfl) (by decide) (pm_c1b rfl) rfl ?_
            refine pm_goto (tgt := 39) hG dX12_feed_87 rfl ?_
            exact ih39 _ _ hE
      refine loop39 _ (fun S8 x8_4 hE => ?_) _ _ _ hE
      refine pm_aloadn hG dX12_feed_90 rfl ?_
      refine pm_getf hG dX12_feed_91 (flX12_7 _ rfl) rfl rfl ?_
      refine pm_bipush (v := 10) hG dX12_feed_94 (by decide) ?_
      refine fx_iald hG dX12_feed_96 rfl (ix_lit (by decide) rfl) ?_
      exact pm_iret hG hF dX12_feed_97 rfl (Nat.le_refl _) (Nat.le_refl _) (fx_rim hE)
    · replace c2 := Int32.not_le.mp c2
      replace hE := fx_t c2 hE
      refine pm_aloadn hG dX12_feed_30 rfl ?_
      refine pm_iconst (v := 4) hG dX12_feed_31 (by decide) ?_
      obtain ⟨r10, h9, hE⟩ := fb_some hE
      refine pm_callV (As := [.int 4]) (rest := []) hG hR dX12_feed_32 (lkX12_80 _ rfl) okV_X12_finds rfl rfl (c_X12_finds (d := 1) (by decide) h9) rfl rfl hdd (Nat.le_refl _) (Nat.le_refl _) (by decide) (fx_ki ?_)
      exact pm_iret hG hF dX12_feed_35 rfl (Nat.le_refl _) (Nat.le_refl _) (fx_rim hE)
  · replace hE := fx_t c1 hE
    refine pm_aloadn hG dX12_feed_10 rfl ?_
    refine pm_iconst (v := 1) hG dX12_feed_11 (by decide) ?_
    obtain ⟨r12, h11, hE⟩ := fb_some hE
    refine pm_callV (As := [.int 1]) (rest := []) hG hR dX12_feed_12 (lkX12_80 _ rfl) okV_X12_finds rfl rfl (c_X12_finds (d := 1) (by decide) h11) rfl rfl hdd (Nat.le_refl _) (Nat.le_refl _) (by decide) (fx_ki ?_)
    exact pm_iret hG hF dX12_feed_15 rfl (Nat.le_refl _) (Nat.le_refl _) (fx_rim hE)

set_option maxRecDepth 100000 in
set_option maxHeartbeats 4000000 in
theorem c_X12_isDay {d : Nat} {B cnt : Nat} {σ : pm_S} {S : FS} {za : Int32} {R : Int32} (hdd : 2 ≤ d) (hE : p_X12_isDay S za = R) : pm_met mX12_isDay d 0 0 B [.int za] cnt (mst B S σ) (pm_Qi (fun v σ' cnt' => v = R ∧ σ' = (mst B S σ) ∧ cnt' = cnt)) := by
  refine pm_enter 0 (by decide) (Nat.le_of_ble_eq_true rfl) rfl (fun G hG hR hF => ?_)
  unfold p_X12_isDay at hE
  refine pm_iloadn hG dX12_isDay_0 rfl ?_
  refine pm_iconst (v := 0) hG dX12_isDay_1 (by decide) ?_
  refine pm_sipush (v := 2000) hG dX12_isDay_2 (by decide) ?_
  refine pm_callS (As := [.int za, .int 0, .int 2000]) (rest := []) hG hR dX12_isDay_5 (lkX12_68 _ rfl) okS_X12_in (c_X12_in (d := 1) (by decide) rfl) rfl rfl hdd (Nat.le_refl _) (Nat.le_refl _) (by decide) (fx_ki ?_)
  exact pm_zret hG hF dX12_isDay_8 rfl (pm_nz pb_X12_in) (Nat.le_refl _) (Nat.le_refl _) (fx_pi hE)

set_option maxRecDepth 100000 in
set_option maxHeartbeats 4000000 in
theorem c_X12_force {d : Nat} {B cnt : Nat} {σ : pm_S} {S : FS} {za : Int32} {zb : Int32} {zc : Int32} {R : Int32 × FS} (hdd : 3 ≤ d) (hE : f_X12_force S za zb zc = some R) : pm_met mX12_force d 0 0 B [.ref (B + 54), .int za, .int zb, .int zc] cnt (mst B S σ) (pm_Qi (fun v σ' cnt' => v = R.1 ∧ σ' = (mst B R.2 σ) ∧ cnt' = cnt)) := by
  refine pm_enter 1 (by decide) (Nat.le_of_ble_eq_true rfl) rfl (fun G hG hR hF => ?_)
  unfold f_X12_force at hE
  refine pm_iloadn hG dX12_force_0 rfl ?_
  refine pm_iconst (v := 0) hG dX12_force_1 (by decide) ?_
  refine pm_iconst (v := 4) hG dX12_force_2 (by decide) ?_
  refine pm_callS (As := [.int za, .int 0, .int 4]) (rest := []) hG hR dX12_force_3 (lkX12_68 _ rfl) okS_X12_in (c_X12_in (d := 2) (by decide) rfl) rfl rfl hdd (Nat.le_refl _) (Nat.le_refl _) (by decide) (fx_ki ?_)
  refine pm_if_eq (tgt := 27) hG dX12_force_6 rfl (fun c1 => ?_) (fun c1 => ?_)
  · replace hE := fx_t c1 hE
    refine pm_aloadn hG dX12_force_27 rfl ?_
    refine pm_iconst (v := 1) hG dX12_force_28 (by decide) ?_
    obtain ⟨r3, h2, hE⟩ := fb_some hE
    refine pm_callV (As := [.int 1]) (rest := []) hG hR dX12_force_29 (lkX12_80 _ rfl) okV_X12_finds rfl rfl (c_X12_finds (d := 2) (by decide) h2) rfl rfl hdd (Nat.le_refl _) (Nat.le_refl _) (by decide) (fx_ki ?_)
    exact pm_iret hG hF dX12_force_32 rfl (Nat.le_refl _) (Nat.le_refl _) (fx_rim hE)
  · replace hE := fx_f c1 hE
    refine pm_iloadn hG dX12_force_9 rfl ?_
    refine pm_callS (As := [.int zb]) (rest := []) hG hR dX12_force_10 (lkX12_186 _ rfl) okS_X12_isDay (c_X12_isDay (d := 2) (by decide) rfl) rfl rfl hdd (Nat.le_refl _) (Nat.le_refl _) (by decide) (fx_ki ?_)
    refine pm_if_eq (tgt := 27) hG dX12_force_13 rfl (fun c4 => ?_) (fun c4 => ?_)
    · replace hE := fx_t c4 hE
      refine pm_aloadn hG dX12_force_27 rfl ?_
      refine pm_iconst (v := 1) hG dX12_force_28 (by decide) ?_
      obtain ⟨r6, h5, hE⟩ := fb_some hE
      refine pm_callV (As := [.int 1]) (rest := []) hG hR dX12_force_29 (lkX12_80 _ rfl) okV_X12_finds rfl rfl (c_X12_finds (d := 2) (by decide) h5) rfl rfl hdd (Nat.le_refl _) (Nat.le_refl _) (by decide) (fx_ki ?_)
      exact pm_iret hG hF dX12_force_32 rfl (Nat.le_refl _) (Nat.le_refl _) (fx_rim hE)
    · replace hE := fx_f c4 hE
      refine pm_iloadn hG dX12_force_16 rfl ?_
      refine pm_iconst (v := (-1)) hG dX12_force_17 (by decide) ?_
      refine pm_sipush (v := 2000) hG dX12_force_18 (by decide) ?_
      refine pm_callS (As := [.int zc, .int (-1), .int 2000]) (rest := []) hG hR dX12_force_21 (lkX12_68 _ rfl) okS_X12_in (c_X12_in (d := 2) (by decide) rfl) rfl rfl hdd (Nat.le_refl _) (Nat.le_refl _) (by decide) (fx_ki ?_)
      refine pm_if_ne (tgt := 33) hG dX12_force_24 rfl (fun c7 => ?_) (fun c7 => ?_)
      · replace hE := fx_f c7 hE
        refine pm_aloadn hG dX12_force_33 rfl ?_
        refine pm_iloadn hG dX12_force_34 rfl ?_
        refine pm_iloadn hG dX12_force_35 rfl ?_
        refine pm_iloadn hG dX12_force_36 rfl ?_
        obtain ⟨x9, h8, hE⟩ := fb_some hE
        refine pm_callV (As := [.int za, .int zb, .int zc]) (rest := []) hG hR dX12_force_37 (lkX12_195 _ rfl) okV_X12_inForce rfl rfl (c_X12_inForce (d := 2) (by decide) h8) rfl rfl hdd (Nat.le_refl _) (Nat.le_refl _) (by decide) (fx_ki ?_)
        refine pm_istoreXi (loc' := [some (.ref (B + 54)), some (.int za), some (.int zb), some (.int zc), some (.int x9)]) hG dX12_force_40 (by decide) (pm_c1b rfl) rfl ?_
        refine pm_iloadi hG dX12_force_42 rfl ?_
        refine pm_if_ge (tgt := 55) hG dX12_force_44 rfl (fun c10 => ?_) (fun c10 => ?_)
        · replace c10 := Int32.not_lt.mpr c10
          replace hE := fx_f c10 hE
          refine pm_iloadi hG dX12_force_55 rfl ?_
          exact pm_iret hG hF dX12_force_57 rfl (Nat.le_refl _) (Nat.le_refl _) (fx_rim hE)
        · replace c10 := Int32.not_le.mp c10
          replace hE := fx_t c10 hE
          refine pm_aloadn hG dX12_force_47 rfl ?_
          refine pm_iconst (v := 2) hG dX12_force_48 (by decide) ?_
          obtain ⟨r12, h11, hE⟩ := fb_some hE
          refine pm_callV (As := [.int 2]) (rest := []) hG hR dX12_force_49 (lkX12_80 _ rfl) okV_X12_finds rfl rfl (c_X12_finds (d := 2) (by decide) h11) rfl rfl hdd (Nat.le_refl _) (Nat.le_refl _) (by decide) (fx_ki ?_)
          refine pm_goto (tgt := 57) hG dX12_force_52 rfl ?_
          exact pm_iret hG hF dX12_force_57 rfl (Nat.le_refl _) (Nat.le_refl _) (fx_rim hE)
      · replace hE := fx_t c7 hE
        refine pm_aloadn hG dX12_force_27 rfl ?_
        refine pm_iconst (v := 1) hG dX12_force_28 (by decide) ?_
        obtain ⟨r14, h13, hE⟩ := fb_some hE
        refine pm_callV (As := [.int 1]) (rest := []) hG hR dX12_force_29 (lkX12_80 _ rfl) okV_X12_finds rfl rfl (c_X12_finds (d := 2) (by decide) h13) rfl rfl hdd (Nat.le_refl _) (Nat.le_refl _) (by decide) (fx_ki ?_)
        exact pm_iret hG hF dX12_force_32 rfl (Nat.le_refl _) (Nat.le_refl _) (fx_rim hE)

set_option maxRecDepth 100000 in
set_option maxHeartbeats 4000000 in
theorem c_X12_found {d : Nat} {B cnt : Nat} {σ : pm_S} {S : FS} {za : Int32} {R : Int32 × FS} (hdd : 2 ≤ d) (hE : f_X12_found S za = some R) : pm_met mX12_found d 0 0 B [.ref (B + 54), .int za] cnt (mst B S σ) (pm_Qi (fun v σ' cnt' => v = R.1 ∧ σ' = (mst B R.2 σ) ∧ cnt' = cnt)) := by
  refine pm_enter 0 (by decide) (Nat.le_of_ble_eq_true rfl) rfl (fun G hG hR hF => ?_)
  unfold f_X12_found at hE
  refine pm_iloadn hG dX12_found_0 rfl ?_
  refine pm_iconst (v := 1) hG dX12_found_1 (by decide) ?_
  refine pm_iconst (v := 5) hG dX12_found_2 (by decide) ?_
  refine pm_callS (As := [.int za, .int 1, .int 5]) (rest := []) hG hR dX12_found_3 (lkX12_68 _ rfl) okS_X12_in (c_X12_in (d := 1) (by decide) rfl) rfl rfl hdd (Nat.le_refl _) (Nat.le_refl _) (by decide) (fx_ki ?_)
  refine pm_if_eq (tgt := 18) hG dX12_found_6 rfl (fun c1 => ?_) (fun c1 => ?_)
  · replace hE := fx_t c1 hE
    refine pm_aloadn hG dX12_found_18 rfl ?_
    refine pm_iconst (v := 1) hG dX12_found_19 (by decide) ?_
    obtain ⟨r3, h2, hE⟩ := fb_some hE
    refine pm_callV (As := [.int 1]) (rest := []) hG hR dX12_found_20 (lkX12_80 _ rfl) okV_X12_finds rfl rfl (c_X12_finds (d := 1) (by decide) h2) rfl rfl hdd (Nat.le_refl _) (Nat.le_refl _) (by decide) (fx_ki ?_)
    exact pm_iret hG hF dX12_found_23 rfl (Nat.le_refl _) (Nat.le_refl _) (fx_rim hE)
  · replace hE := fx_f c1 hE
    refine pm_aloadn hG dX12_found_9 rfl ?_
    refine pm_getf hG dX12_found_10 (flX12_16 _ rfl) rfl rfl ?_
    refine pm_iloadn hG dX12_found_13 rfl ?_
    obtain ⟨j4, hj4, hE⟩ := fb_some hE
    refine fx_iald hG dX12_found_14 rfl hj4 ?_
    refine pm_goto (tgt := 23) hG dX12_found_15 rfl ?_
    exact pm_iret hG hF dX12_found_23 rfl (Nat.le_refl _) (Nat.le_refl _) (fx_rim hE)

set_option maxRecDepth 100000 in
set_option maxHeartbeats 4000000 in
theorem c_X12_give {d : Nat} {B cnt : Nat} {σ : pm_S} {S : FS} {za : Int32} {zb : Int32} {R : Int32 × FS} (hdd : 3 ≤ d) (hE : f_X12_give S za zb = some R) : pm_met mX12_give d 0 0 B [.ref (B + 54), .int za, .int zb] cnt (mst B S σ) (pm_Qi (fun v σ' cnt' => v = R.1 ∧ σ' = (mst B R.2 σ) ∧ cnt' = cnt)) := by
  refine pm_enter 1 (by decide) (Nat.le_of_ble_eq_true rfl) rfl (fun G hG hR hF => ?_)
  unfold f_X12_give at hE
  refine pm_aloadn hG dX12_give_0 rfl ?_
  refine pm_iloadn hG dX12_give_1 rfl ?_
  refine pm_callV (As := [.int za]) (rest := []) hG hR dX12_give_2 (lkX12_132 _ rfl) okV_X12_isPower rfl rfl (c_X12_isPower (d := 2) (by decide) rfl) rfl rfl hdd (Nat.le_refl _) (Nat.le_refl _) (by decide) (fx_ki ?_)
  refine pm_if_eq (tgt := 29) hG dX12_give_5 rfl (fun c1 => ?_) (fun c1 => ?_)
  · replace hE := fx_t c1 hE
    refine pm_aloadn hG dX12_give_29 rfl ?_
    refine pm_iconst (v := 1) hG dX12_give_30 (by decide) ?_
    obtain ⟨r3, h2, hE⟩ := fb_some hE
    refine pm_callV (As := [.int 1]) (rest := []) hG hR dX12_give_31 (lkX12_80 _ rfl) okV_X12_finds rfl rfl (c_X12_finds (d := 2) (by decide) h2) rfl rfl hdd (Nat.le_refl _) (Nat.le_refl _) (by decide) (fx_ki ?_)
    exact pm_iret hG hF dX12_give_34 rfl (Nat.le_refl _) (Nat.le_refl _) (fx_rim hE)
  · replace hE := fx_f c1 hE
    refine pm_iloadn hG dX12_give_8 rfl ?_
    refine pm_iconst (v := (-1)) hG dX12_give_9 (by decide) ?_
    refine pm_icmp_eq (tgt := 35) hG dX12_give_10 rfl (fun c4 => ?_) (fun c4 => ?_)
    · replace hE := fx_t c4 hE
      refine pm_aloadn hG dX12_give_35 rfl ?_
      refine pm_iloadn hG dX12_give_36 rfl ?_
      refine pm_iconst (v := 2) hG dX12_give_37 (by decide) ?_
      obtain ⟨x6, h5, hE⟩ := fb_some hE
      refine pm_callV (As := [.int za, .int 2]) (rest := []) hG hR dX12_give_38 (lkX12_110 _ rfl) okV_X12_its rfl rfl (c_X12_its (d := 2) (by decide) h5) rfl rfl hdd (Nat.le_refl _) (Nat.le_refl _) (by decide) (fx_ki ?_)
      refine pm_if_lt (tgt := 50) hG dX12_give_41 rfl (fun c7 => ?_) (fun c7 => ?_)
      · replace hE := fx_t c7 hE
        refine pm_aloadn hG dX12_give_50 rfl ?_
        refine pm_iloadn hG dX12_give_51 rfl ?_
        refine pm_iconst (v := 1) hG dX12_give_52 (by decide) ?_
        obtain ⟨x9, h8, hE⟩ := fb_some hE
        refine pm_callV (As := [.int za, .int 1]) (rest := []) hG hR dX12_give_53 (lkX12_110 _ rfl) okV_X12_its rfl rfl (c_X12_its (d := 2) (by decide) h8) rfl rfl hdd (Nat.le_refl _) (Nat.le_refl _) (by decide) (fx_ki ?_)
        refine pm_istoreXn (loc' := [some (.ref (B + 54)), some (.int za), some (.int zb), some (.int x9)]) hG dX12_give_56 (by decide) (pm_c1b rfl) rfl ?_
        refine pm_aloadn hG dX12_give_57 rfl ?_
        refine pm_iloadn hG dX12_give_58 rfl ?_
        refine pm_iconst (v := 1) hG dX12_give_59 (by decide) ?_
        refine pm_iloadn hG dX12_give_60 rfl ?_
        obtain ⟨r11, h10, hE⟩ := fb_some hE
        refine pm_callV (As := [.int za, .int 1, .int zb]) (rest := []) hG hR dX12_give_61 (lkX12_113 _ rfl) okV_X12_makes rfl rfl (c_X12_makes (d := 2) (by decide) h10) rfl rfl hdd (Nat.le_refl _) (Nat.le_refl _) (by decide) (fx_kv ?_)
        refine pm_iloadn hG dX12_give_64 rfl ?_
        exact pm_iret hG hF dX12_give_65 rfl (Nat.le_refl _) (Nat.le_refl _) (fx_rim hE)
      · replace hE := fx_f c7 hE
        refine pm_aloadn hG dX12_give_44 rfl ?_
        refine pm_iconst (v := 3) hG dX12_give_45 (by decide) ?_
        obtain ⟨r13, h12, hE⟩ := fb_some hE
        refine pm_callV (As := [.int 3]) (rest := []) hG hR dX12_give_46 (lkX12_80 _ rfl) okV_X12_finds rfl rfl (c_X12_finds (d := 2) (by decide) h12) rfl rfl hdd (Nat.le_refl _) (Nat.le_refl _) (by decide) (fx_ki ?_)
        exact pm_iret hG hF dX12_give_49 rfl (Nat.le_refl _) (Nat.le_refl _) (fx_rim hE)
    · replace hE := fx_f c4 hE
      refine pm_aloadn hG dX12_give_13 rfl ?_
      refine pm_iloadn hG dX12_give_14 rfl ?_
      refine pm_callV (As := [.int zb]) (rest := []) hG hR dX12_give_15 (lkX12_91 _ rfl) okV_X12_isPerson rfl rfl (c_X12_isPerson (d := 2) (by decide) rfl) rfl rfl hdd (Nat.le_refl _) (Nat.le_refl _) (by decide) (fx_ki ?_)
      refine pm_if_eq (tgt := 29) hG dX12_give_18 rfl (fun c14 => ?_) (fun c14 => ?_)
      · replace hE := fx_t c14 hE
        refine pm_aloadn hG dX12_give_29 rfl ?_
        refine pm_iconst (v := 1) hG dX12_give_30 (by decide) ?_
        obtain ⟨r16, h15, hE⟩ := fb_some hE
        refine pm_callV (As := [.int 1]) (rest := []) hG hR dX12_give_31 (lkX12_80 _ rfl) okV_X12_finds rfl rfl (c_X12_finds (d := 2) (by decide) h15) rfl rfl hdd (Nat.le_refl _) (Nat.le_refl _) (by decide) (fx_ki ?_)
        exact pm_iret hG hF dX12_give_34 rfl (Nat.le_refl _) (Nat.le_refl _) (fx_rim hE)
      · replace hE := fx_f c14 hE
        refine pm_aloadn hG dX12_give_21 rfl ?_
        refine pm_iloadn hG dX12_give_22 rfl ?_
        obtain ⟨x18, h17, hE⟩ := fb_some hE
        refine pm_callV (As := [.int zb]) (rest := []) hG hR dX12_give_23 (lkX12_101 _ rfl) okV_X12_lives rfl rfl (c_X12_lives (d := 2) (by decide) h17) rfl rfl hdd (Nat.le_refl _) (Nat.le_refl _) (by decide) (fx_ki ?_)
        refine pm_if_ne (tgt := 35) hG dX12_give_26 rfl (fun c19 => ?_) (fun c19 => ?_)
        · replace hE := fx_f c19 hE
          refine pm_aloadn hG dX12_give_35 rfl ?_
          refine pm_iloadn hG dX12_give_36 rfl ?_
          refine pm_iconst (v := 2) hG dX12_give_37 (by decide) ?_
          obtain ⟨x21, h20, hE⟩ := fb_some hE
          refine pm_callV (As := [.int za, .int 2]) (rest := []) hG hR dX12_give_38 (lkX12_110 _ rfl) okV_X12_its rfl rfl (c_X12_its (d := 2) (by decide) h20) rfl rfl hdd (Nat.le_refl _) (Nat.le_refl _) (by decide) (fx_ki ?_)
          refine pm_if_lt (tgt := 50) hG dX12_give_41 rfl (fun c22 => ?_) (fun c22 => ?_)
          · replace hE := fx_t c22 hE
            refine pm_aloadn hG dX12_give_50 rfl ?_
            refine pm_iloadn hG dX12_give_51 rfl ?_
            refine pm_iconst (v := 1) hG dX12_give_52 (by decide) ?_
            obtain ⟨x24, h23, hE⟩ := fb_some hE
            refine pm_callV (As := [.int za, .int 1]) (rest := []) hG hR dX12_give_53 (lkX12_110 _ rfl) okV_X12_its rfl rfl (c_X12_its (d := 2) (by decide) h23) rfl rfl hdd (Nat.le_refl _) (Nat.le_refl _) (by decide) (fx_ki ?_)
            refine pm_istoreXn (loc' := [some (.ref (B + 54)), some (.int za), some (.int zb), some (.int x24)]) hG dX12_give_56 (by decide) (pm_c1b rfl) rfl ?_
            refine pm_aloadn hG dX12_give_57 rfl ?_
            refine pm_iloadn hG dX12_give_58 rfl ?_
            refine pm_iconst (v := 1) hG dX12_give_59 (by decide) ?_
            refine pm_iloadn hG dX12_give_60 rfl ?_
            obtain ⟨r26, h25, hE⟩ := fb_some hE
            refine pm_callV (As := [.int za, .int 1, .int zb]) (rest := []) hG hR dX12_give_61 (lkX12_113 _ rfl) okV_X12_makes rfl rfl (c_X12_makes (d := 2) (by decide) h25) rfl rfl hdd (Nat.le_refl _) (Nat.le_refl _) (by decide) (fx_kv ?_)
            refine pm_iloadn hG dX12_give_64 rfl ?_
            exact pm_iret hG hF dX12_give_65 rfl (Nat.le_refl _) (Nat.le_refl _) (fx_rim hE)
          · replace hE := fx_f c22 hE
            refine pm_aloadn hG dX12_give_44 rfl ?_
            refine pm_iconst (v := 3) hG dX12_give_45 (by decide) ?_
            obtain ⟨r28, h27, hE⟩ := fb_some hE
            refine pm_callV (As := [.int 3]) (rest := []) hG hR dX12_give_46 (lkX12_80 _ rfl) okV_X12_finds rfl rfl (c_X12_finds (d := 2) (by decide) h27) rfl rfl hdd (Nat.le_refl _) (Nat.le_refl _) (by decide) (fx_ki ?_)
            exact pm_iret hG hF dX12_give_49 rfl (Nat.le_refl _) (Nat.le_refl _) (fx_rim hE)
        · replace hE := fx_t c19 hE
          refine pm_aloadn hG dX12_give_29 rfl ?_
          refine pm_iconst (v := 1) hG dX12_give_30 (by decide) ?_
          obtain ⟨r30, h29, hE⟩ := fb_some hE
          refine pm_callV (As := [.int 1]) (rest := []) hG hR dX12_give_31 (lkX12_80 _ rfl) okV_X12_finds rfl rfl (c_X12_finds (d := 2) (by decide) h29) rfl rfl hdd (Nat.le_refl _) (Nat.le_refl _) (by decide) (fx_ki ?_)
          exact pm_iret hG hF dX12_give_34 rfl (Nat.le_refl _) (Nat.le_refl _) (fx_rim hE)

set_option maxRecDepth 100000 in
set_option maxHeartbeats 4000000 in
theorem c_X12_goes {d : Nat} {B cnt : Nat} {σ : pm_S} {S : FS} {za : Int32} {zb : Int32} {R : Int32 × FS} (hdd : 4 ≤ d) (hE : f_X12_goes S za zb = some R) : pm_met mX12_goes d 0 0 B [.ref (B + 54), .int za, .int zb] cnt (mst B S σ) (pm_Qi (fun v σ' cnt' => v = R.1 ∧ σ' = (mst B R.2 σ) ∧ cnt' = cnt)) := by
  refine pm_enter 1 (by decide) (Nat.le_of_ble_eq_true rfl) rfl (fun G hG hR hF => ?_)
  unfold f_X12_goes at hE
  refine pm_aloadn hG dX12_goes_0 rfl ?_
  refine pm_aloadn hG dX12_goes_1 rfl ?_
  refine pm_iloadn hG dX12_goes_2 rfl ?_
  refine pm_iconst (v := 4) hG dX12_goes_3 (by decide) ?_
  obtain ⟨x2, h1, hE⟩ := fb_some hE
  refine pm_callV (As := [.int za, .int 4]) (rest := [.ref (B + 54)]) hG hR dX12_goes_4 (lkX12_72 _ rfl) okV_X12_man rfl rfl (c_X12_man (d := 3) (by decide) h1) rfl rfl hdd (Nat.le_refl _) (Nat.le_refl _) (by first | decide | exact Nat.le_of_ble_eq_true rfl) (fx_ki ?_)
  refine pm_iloadn hG dX12_goes_7 rfl ?_
  obtain ⟨r4, h3, hE⟩ := fb_some hE
  refine pm_callV (As := [.int x2, .int zb]) (rest := []) hG hR dX12_goes_8 (lkX12_88 _ rfl) okV_X12_farOf rfl rfl (c_X12_farOf (d := 3) (by decide) h3) rfl rfl hdd (Nat.le_refl _) (Nat.le_refl _) (by decide) (fx_ki ?_)
  refine pm_istoreXn (loc' := [some (.ref (B + 54)), some (.int za), some (.int zb), some (.int r4.1)]) hG dX12_goes_11 (by decide) (pm_c1b rfl) rfl ?_
  refine pm_iloadn hG dX12_goes_12 rfl ?_
  refine pm_if_ge (tgt := 18) hG dX12_goes_13 rfl (fun c5 => ?_) (fun c5 => ?_)
  · replace c5 := Int32.not_lt.mpr c5
    replace hE := fx_f c5 hE
    refine pm_iloadn hG dX12_goes_18 rfl ?_
    refine pm_if_le (tgt := 64) hG dX12_goes_19 rfl (fun c6 => ?_) (fun c6 => ?_)
    · replace c6 := Int32.not_lt.mpr c6
      replace hE := fx_f c6 hE
      refine pm_aloadn hG dX12_goes_64 rfl ?_
      refine pm_getf hG dX12_goes_65 (flX12_7 _ rfl) rfl rfl ?_
      refine pm_bipush (v := 8) hG dX12_goes_68 (by decide) ?_
      refine fx_iald hG dX12_goes_70 rfl (ix_lit (by decide) rfl) ?_
      refine pm_iloadn hG dX12_goes_71 rfl ?_
      refine pm_iadd hG dX12_goes_72 ?_
      exact pm_iret hG hF dX12_goes_73 rfl (Nat.le_refl _) (Nat.le_refl _) (fx_rim hE)
    · replace c6 := Int32.not_le.mp c6
      replace hE := fx_t c6 hE
      refine pm_aloadn hG dX12_goes_22 rfl ?_
      refine pm_iloadn hG dX12_goes_23 rfl ?_
      refine pm_bipush (v := 10) hG dX12_goes_24 (by decide) ?_
      refine pm_aloadn hG dX12_goes_26 rfl ?_
      refine pm_iloadn hG dX12_goes_27 rfl ?_
      obtain ⟨r8, h7, hE⟩ := fb_some hE
      refine pm_callV (As := [.int za]) (rest := [.int 10, .int za, .ref (B + 54)]) hG hR dX12_goes_28 (lkX12_104 _ rfl) okV_X12_knownTo rfl rfl (c_X12_knownTo (d := 3) (by decide) h7) rfl rfl hdd (Nat.le_refl _) (Nat.le_refl _) (by first | decide | exact Nat.le_of_ble_eq_true rfl) (fx_ki ?_)
      obtain ⟨r10, h9, hE⟩ := fb_some hE
      refine pm_callV (As := [.int za, .int 10, .int r8.1]) (rest := []) hG hR dX12_goes_31 (lkX12_97 _ rfl) okV_X12_sets rfl rfl (c_X12_sets (d := 3) (by decide) h9) rfl rfl hdd (Nat.le_refl _) (Nat.le_refl _) (by decide) (fx_kv ?_)
      refine pm_aloadn hG dX12_goes_34 rfl ?_
      refine pm_iloadn hG dX12_goes_35 rfl ?_
      refine pm_iconst (v := 4) hG dX12_goes_36 (by decide) ?_
      refine pm_iconst (v := (-1)) hG dX12_goes_37 (by decide) ?_
      obtain ⟨r12, h11, hE⟩ := fb_some hE
      refine pm_callV (As := [.int za, .int 4, .int (-1)]) (rest := []) hG hR dX12_goes_38 (lkX12_97 _ rfl) okV_X12_sets rfl rfl (c_X12_sets (d := 3) (by decide) h11) rfl rfl hdd (Nat.le_refl _) (Nat.le_refl _) (by decide) (fx_kv ?_)
      refine pm_aloadn hG dX12_goes_41 rfl ?_
      refine pm_iloadn hG dX12_goes_42 rfl ?_
      refine pm_iconst (v := 5) hG dX12_goes_43 (by decide) ?_
      refine pm_iloadn hG dX12_goes_44 rfl ?_
      obtain ⟨r14, h13, hE⟩ := fb_some hE
      refine pm_callV (As := [.int za, .int 5, .int zb]) (rest := []) hG hR dX12_goes_45 (lkX12_97 _ rfl) okV_X12_sets rfl rfl (c_X12_sets (d := 3) (by decide) h13) rfl rfl hdd (Nat.le_refl _) (Nat.le_refl _) (by decide) (fx_kv ?_)
      refine pm_aloadn hG dX12_goes_48 rfl ?_
      refine pm_iloadn hG dX12_goes_49 rfl ?_
      refine pm_bipush (v := 6) hG dX12_goes_50 (by decide) ?_
      refine pm_aloadn hG dX12_goes_52 rfl ?_
      refine pm_getf hG dX12_goes_53 (flX12_7 _ rfl) rfl rfl ?_
      refine pm_bipush (v := 8) hG dX12_goes_56 (by decide) ?_
      refine fx_iald hG dX12_goes_58 rfl (ix_lit (by decide) rfl) ?_
      refine pm_iloadn hG dX12_goes_59 rfl ?_
      refine pm_iadd hG dX12_goes_60 ?_
      obtain ⟨r16, h15, hE⟩ := fb_some hE
      refine pm_callV (As := [.int za, .int 6, .int ((r14.2.2 55 8) + r4.1)]) (rest := []) hG hR dX12_goes_61 (lkX12_97 _ rfl) okV_X12_sets rfl rfl (c_X12_sets (d := 3) (by decide) h15) rfl rfl hdd (Nat.le_refl _) (Nat.le_refl _) (by decide) (fx_kv ?_)
      refine pm_aloadn hG dX12_goes_64 rfl ?_
      refine pm_getf hG dX12_goes_65 (flX12_7 _ rfl) rfl rfl ?_
      refine pm_bipush (v := 8) hG dX12_goes_68 (by decide) ?_
      refine fx_iald hG dX12_goes_70 rfl (ix_lit (by decide) rfl) ?_
      refine pm_iloadn hG dX12_goes_71 rfl ?_
      refine pm_iadd hG dX12_goes_72 ?_
      exact pm_iret hG hF dX12_goes_73 rfl (Nat.le_refl _) (Nat.le_refl _) (fx_rim hE)
  · replace c5 := Int32.not_le.mp c5
    replace hE := fx_t c5 hE
    refine pm_iconst (v := (-1)) hG dX12_goes_16 (by decide) ?_
    exact pm_iret hG hF dX12_goes_17 rfl (Nat.le_refl _) (Nat.le_refl _) (fx_rim hE)

set_option maxRecDepth 100000 in
set_option maxHeartbeats 4000000 in
theorem c_X12_go {d : Nat} {B cnt : Nat} {σ : pm_S} {S : FS} {za : Int32} {zb : Int32} {R : Int32 × FS} (hdd : 5 ≤ d) (hE : f_X12_go S za zb = some R) : pm_met mX12_go d 0 0 B [.ref (B + 54), .int za, .int zb] cnt (mst B S σ) (pm_Qi (fun v σ' cnt' => v = R.1 ∧ σ' = (mst B R.2 σ) ∧ cnt' = cnt)) := by
  refine pm_enter 1 (by decide) (Nat.le_of_ble_eq_true rfl) rfl (fun G hG hR hF => ?_)
  unfold f_X12_go at hE
  refine pm_aloadn hG dX12_go_0 rfl ?_
  refine pm_iloadn hG dX12_go_1 rfl ?_
  refine pm_callV (As := [.int za]) (rest := []) hG hR dX12_go_2 (lkX12_91 _ rfl) okV_X12_isPerson rfl rfl (c_X12_isPerson (d := 4) (by decide) rfl) rfl rfl hdd (Nat.le_refl _) (Nat.le_refl _) (by decide) (fx_ki ?_)
  refine pm_if_eq (tgt := 16) hG dX12_go_5 rfl (fun c1 => ?_) (fun c1 => ?_)
  · replace hE := fx_t c1 hE
    refine pm_aloadn hG dX12_go_16 rfl ?_
    refine pm_iconst (v := 1) hG dX12_go_17 (by decide) ?_
    obtain ⟨r3, h2, hE⟩ := fb_some hE
    refine pm_callV (As := [.int 1]) (rest := []) hG hR dX12_go_18 (lkX12_80 _ rfl) okV_X12_finds rfl rfl (c_X12_finds (d := 4) (by decide) h2) rfl rfl hdd (Nat.le_refl _) (Nat.le_refl _) (by decide) (fx_ki ?_)
    exact pm_iret hG hF dX12_go_21 rfl (Nat.le_refl _) (Nat.le_refl _) (fx_rim hE)
  · replace hE := fx_f c1 hE
    refine pm_aloadn hG dX12_go_8 rfl ?_
    refine pm_iloadn hG dX12_go_9 rfl ?_
    refine pm_callV (As := [.int zb]) (rest := []) hG hR dX12_go_10 (lkX12_84 _ rfl) okV_X12_isTown rfl rfl (c_X12_isTown (d := 4) (by decide) rfl) rfl rfl hdd (Nat.le_refl _) (Nat.le_refl _) (by decide) (fx_ki ?_)
    refine pm_if_ne (tgt := 22) hG dX12_go_13 rfl (fun c4 => ?_) (fun c4 => ?_)
    · replace hE := fx_f c4 hE
      refine pm_aloadn hG dX12_go_22 rfl ?_
      refine pm_iloadn hG dX12_go_23 rfl ?_
      obtain ⟨x6, h5, hE⟩ := fb_some hE
      refine pm_callV (As := [.int za]) (rest := []) hG hR dX12_go_24 (lkX12_101 _ rfl) okV_X12_lives rfl rfl (c_X12_lives (d := 4) (by decide) h5) rfl rfl hdd (Nat.le_refl _) (Nat.le_refl _) (by decide) (fx_ki ?_)
      refine pm_if_eq (tgt := 39) hG dX12_go_27 rfl (fun c7 => ?_) (fun c7 => ?_)
      · replace hE := fx_t c7 hE
        refine pm_aloadn hG dX12_go_39 rfl ?_
        refine pm_iconst (v := 3) hG dX12_go_40 (by decide) ?_
        obtain ⟨r9, h8, hE⟩ := fb_some hE
        refine pm_callV (As := [.int 3]) (rest := []) hG hR dX12_go_41 (lkX12_80 _ rfl) okV_X12_finds rfl rfl (c_X12_finds (d := 4) (by decide) h8) rfl rfl hdd (Nat.le_refl _) (Nat.le_refl _) (by decide) (fx_ki ?_)
        exact pm_iret hG hF dX12_go_44 rfl (Nat.le_refl _) (Nat.le_refl _) (fx_rim hE)
      · replace hE := fx_f c7 hE
        refine pm_aloadn hG dX12_go_30 rfl ?_
        refine pm_iloadn hG dX12_go_31 rfl ?_
        refine pm_iconst (v := 4) hG dX12_go_32 (by decide) ?_
        obtain ⟨x11, h10, hE⟩ := fb_some hE
        refine pm_callV (As := [.int za, .int 4]) (rest := []) hG hR dX12_go_33 (lkX12_72 _ rfl) okV_X12_man rfl rfl (c_X12_man (d := 4) (by decide) h10) rfl rfl hdd (Nat.le_refl _) (Nat.le_refl _) (by decide) (fx_ki ?_)
        refine pm_if_ge (tgt := 45) hG dX12_go_36 rfl (fun c12 => ?_) (fun c12 => ?_)
        · replace c12 := Int32.not_lt.mpr c12
          replace hE := fx_f c12 hE
          refine pm_aloadn hG dX12_go_45 rfl ?_
          refine pm_iloadn hG dX12_go_46 rfl ?_
          refine pm_iloadn hG dX12_go_47 rfl ?_
          obtain ⟨r14, h13, hE⟩ := fb_some hE
          refine pm_callV (As := [.int za, .int zb]) (rest := []) hG hR dX12_go_48 (lkX12_119 _ rfl) okV_X12_goes rfl rfl (c_X12_goes (d := 4) (by decide) h13) rfl rfl hdd (Nat.le_refl _) (Nat.le_refl _) (by decide) (fx_ki ?_)
          refine pm_istoreXn (loc' := [some (.ref (B + 54)), some (.int za), some (.int zb), some (.int r14.1)]) hG dX12_go_51 (by decide) (pm_c1b rfl) rfl ?_
          refine pm_iloadn hG dX12_go_52 rfl ?_
          refine pm_if_ge (tgt := 64) hG dX12_go_53 rfl (fun c15 => ?_) (fun c15 => ?_)
          · replace c15 := Int32.not_lt.mpr c15
            replace hE := fx_f c15 hE
            refine pm_iloadn hG dX12_go_64 rfl ?_
            exact pm_iret hG hF dX12_go_65 rfl (Nat.le_refl _) (Nat.le_refl _) (fx_rim hE)
          · replace c15 := Int32.not_le.mp c15
            replace hE := fx_t c15 hE
            refine pm_aloadn hG dX12_go_56 rfl ?_
            refine pm_iconst (v := 2) hG dX12_go_57 (by decide) ?_
            obtain ⟨r17, h16, hE⟩ := fb_some hE
            refine pm_callV (As := [.int 2]) (rest := []) hG hR dX12_go_58 (lkX12_80 _ rfl) okV_X12_finds rfl rfl (c_X12_finds (d := 4) (by decide) h16) rfl rfl hdd (Nat.le_refl _) (Nat.le_refl _) (by decide) (fx_ki ?_)
            refine pm_goto (tgt := 65) hG dX12_go_61 rfl ?_
            exact pm_iret hG hF dX12_go_65 rfl (Nat.le_refl _) (Nat.le_refl _) (fx_rim hE)
        · replace c12 := Int32.not_le.mp c12
          replace hE := fx_t c12 hE
          refine pm_aloadn hG dX12_go_39 rfl ?_
          refine pm_iconst (v := 3) hG dX12_go_40 (by decide) ?_
          obtain ⟨r19, h18, hE⟩ := fb_some hE
          refine pm_callV (As := [.int 3]) (rest := []) hG hR dX12_go_41 (lkX12_80 _ rfl) okV_X12_finds rfl rfl (c_X12_finds (d := 4) (by decide) h18) rfl rfl hdd (Nat.le_refl _) (Nat.le_refl _) (by decide) (fx_ki ?_)
          exact pm_iret hG hF dX12_go_44 rfl (Nat.le_refl _) (Nat.le_refl _) (fx_rim hE)
    · replace hE := fx_t c4 hE
      refine pm_aloadn hG dX12_go_16 rfl ?_
      refine pm_iconst (v := 1) hG dX12_go_17 (by decide) ?_
      obtain ⟨r21, h20, hE⟩ := fb_some hE
      refine pm_callV (As := [.int 1]) (rest := []) hG hR dX12_go_18 (lkX12_80 _ rfl) okV_X12_finds rfl rfl (c_X12_finds (d := 4) (by decide) h20) rfl rfl hdd (Nat.le_refl _) (Nat.le_refl _) (by decide) (fx_ki ?_)
      exact pm_iret hG hF dX12_go_21 rfl (Nat.le_refl _) (Nat.le_refl _) (fx_rim hE)

set_option maxRecDepth 100000 in
set_option maxHeartbeats 4000000 in
theorem c_X12_guard {d : Nat} {B cnt : Nat} {σ : pm_S} {S : FS} {za : Int32} {zb : Int32} {R : Int32 × FS} (hdd : 2 ≤ d) (hE : f_X12_guard S za zb = some R) : pm_met mX12_guard d 0 0 B [.ref (B + 54), .int za, .int zb] cnt (mst B S σ) (pm_Qi (fun v σ' cnt' => v = R.1 ∧ σ' = (mst B R.2 σ) ∧ cnt' = cnt)) := by
  refine pm_enter 1 (by decide) (Nat.le_of_ble_eq_true rfl) rfl (fun G hG hR hF => ?_)
  unfold f_X12_guard at hE
  refine pm_iloadn hG dX12_guard_0 rfl ?_
  refine pm_iconst (v := 0) hG dX12_guard_1 (by decide) ?_
  refine pm_iconst (v := 4) hG dX12_guard_2 (by decide) ?_
  refine pm_callS (As := [.int za, .int 0, .int 4]) (rest := []) hG hR dX12_guard_3 (lkX12_68 _ rfl) okS_X12_in (c_X12_in (d := 1) (by decide) rfl) rfl rfl hdd (Nat.le_refl _) (Nat.le_refl _) (by decide) (fx_ki ?_)
  refine pm_if_eq (tgt := 19) hG dX12_guard_6 rfl (fun c1 => ?_) (fun c1 => ?_)
  · replace hE := fx_t c1 hE
    refine pm_aloadn hG dX12_guard_19 rfl ?_
    refine pm_iconst (v := 1) hG dX12_guard_20 (by decide) ?_
    obtain ⟨r3, h2, hE⟩ := fb_some hE
    refine pm_callV (As := [.int 1]) (rest := []) hG hR dX12_guard_21 (lkX12_80 _ rfl) okV_X12_finds rfl rfl (c_X12_finds (d := 1) (by decide) h2) rfl rfl hdd (Nat.le_refl _) (Nat.le_refl _) (by decide) (fx_ki ?_)
    exact pm_iret hG hF dX12_guard_24 rfl (Nat.le_refl _) (Nat.le_refl _) (fx_rim hE)
  · replace hE := fx_f c1 hE
    refine pm_iloadn hG dX12_guard_9 rfl ?_
    refine pm_iconst (v := 0) hG dX12_guard_10 (by decide) ?_
    refine pm_bipush (v := 6) hG dX12_guard_11 (by decide) ?_
    refine pm_callS (As := [.int zb, .int 0, .int 6]) (rest := []) hG hR dX12_guard_13 (lkX12_68 _ rfl) okS_X12_in (c_X12_in (d := 1) (by decide) rfl) rfl rfl hdd (Nat.le_refl _) (Nat.le_refl _) (by decide) (fx_ki ?_)
    refine pm_if_ne (tgt := 25) hG dX12_guard_16 rfl (fun c4 => ?_) (fun c4 => ?_)
    · replace hE := fx_f c4 hE
      refine pm_aloadn hG dX12_guard_25 rfl ?_
      refine pm_getf hG dX12_guard_26 (flX12_7 _ rfl) rfl rfl ?_
      refine pm_sipush (v := 1986) hG dX12_guard_29 (by decide) ?_
      refine pm_iloadn hG dX12_guard_32 rfl ?_
      refine pm_iadd hG dX12_guard_33 ?_
      obtain ⟨j5, hj5, hE⟩ := fb_some hE
      refine fx_iald hG dX12_guard_34 rfl hj5 ?_
      refine fx_letv hE (fun x6 hE => ?_)
      refine pm_istoreXn (loc' := [some (.ref (B + 54)), some (.int za), some (.int zb), some (.int x6)]) hG dX12_guard_35 (by decide) (pm_c1b rfl) rfl ?_
      refine pm_aloadn hG dX12_guard_36 rfl ?_
      refine pm_getf hG dX12_guard_37 (flX12_7 _ rfl) rfl rfl ?_
      refine pm_sipush (v := 1986) hG dX12_guard_40 (by decide) ?_
      refine pm_iloadn hG dX12_guard_43 rfl ?_
      refine pm_iadd hG dX12_guard_44 ?_
      refine pm_iloadn hG dX12_guard_45 rfl ?_
      refine fx_iast hG dX12_guard_46 rfl hj5 ?_
      refine ma_55 ?_
      refine fx_letm hE (fun S7 hE => ?_)
      refine pm_iloadn hG dX12_guard_47 rfl ?_
      exact pm_iret hG hF dX12_guard_48 rfl (Nat.le_refl _) (Nat.le_refl _) (fx_rim hE)
    · replace hE := fx_t c4 hE
      refine pm_aloadn hG dX12_guard_19 rfl ?_
      refine pm_iconst (v := 1) hG dX12_guard_20 (by decide) ?_
      obtain ⟨r9, h8, hE⟩ := fb_some hE
      refine pm_callV (As := [.int 1]) (rest := []) hG hR dX12_guard_21 (lkX12_80 _ rfl) okV_X12_finds rfl rfl (c_X12_finds (d := 1) (by decide) h8) rfl rfl hdd (Nat.le_refl _) (Nat.le_refl _) (by decide) (fx_ki ?_)
      exact pm_iret hG hF dX12_guard_24 rfl (Nat.le_refl _) (Nat.le_refl _) (fx_rim hE)

set_option maxRecDepth 100000 in
set_option maxHeartbeats 4000000 in
theorem c_X12_hasOpen {d : Nat} {B cnt : Nat} {σ : pm_S} {S : FS} {R : Int32} (hdd : 1 ≤ d) (hE : q_X12_hasOpen S = some R) : pm_met mX12_hasOpen d 0 0 B [.ref (B + 54)] cnt (mst B S σ) (pm_Qi (fun v σ' cnt' => v = R ∧ σ' = (mst B S σ) ∧ cnt' = cnt)) := by
  refine pm_enter 1 (by decide) (Nat.le_of_ble_eq_true rfl) rfl (fun G hG hR hF => ?_)
  unfold q_X12_hasOpen at hE
  refine pm_iconst (v := 0) hG dX12_hasOpen_0 (by decide) ?_
  refine pm_istoreXn (loc' := [some (.ref (B + 54)), some (.int 0)]) hG dX12_hasOpen_1 (by decide) (pm_c1b rfl) rfl ?_
  have loop2 : ∀ (k2 : Int32 → Option Int32), (∀  (x1_1 : Int32), k2  x1_1 = some R → pm_wp mX12_hasOpen G B 29 [some (.ref (B + 54)), some (.int x1_1)] [] 0 0 cnt (mst B S σ)) → ∀ (m2 : Nat)  (x1_1 : Int32), l_X12_hasOpen_2 S k2 m2  x1_1 = some R → pm_wp mX12_hasOpen G B 2 [some (.ref (B + 54)), some (.int x1_1)] [] 0 0 cnt (mst B S σ) := by
    intro k2 hk2 m2
    induction m2 with
    | zero => intro  x1_1 hE; exact fx_no hE
    | succ m2 ih2 =>
      intro  x1_1 hE
      rw [l_X12_hasOpen_2] at hE
      refine pm_iloadn hG dX12_hasOpen_2 rfl ?_
      refine pm_aloadn hG dX12_hasOpen_3 rfl ?_
      refine pm_getf hG dX12_hasOpen_4 (flX12_148 _ rfl) rfl rfl ?_
      refine pm_icmp_ge (tgt := 29) hG dX12_hasOpen_7 rfl (fun c2 => ?_) (fun c2 => ?_)
      · replace c2 := Int32.not_lt.mpr c2
        replace hE := fx_f c2 hE
        exact hk2 _ hE
      · replace c2 := Int32.not_le.mp c2
        replace hE := fx_t c2 hE
        refine pm_aloadn hG dX12_hasOpen_10 rfl ?_
        refine pm_getf hG dX12_hasOpen_11 (flX12_28 _ rfl) rfl rfl ?_
        refine pm_iloadn hG dX12_hasOpen_14 rfl ?_
        obtain ⟨j3, hj3, hE⟩ := fb_some hE
        refine fx_iald hG dX12_hasOpen_15 rfl hj3 ?_
        refine pm_bipush (v := 40) hG dX12_hasOpen_16 (by decide) ?_
        refine pm_icmp_ne (tgt := 23) hG dX12_hasOpen_18 rfl (fun c4 => ?_) (fun c4 => ?_)
        · replace hE := fx_f c4 hE
          refine pm_iincX (v := x1_1 + 1) (loc' := [some (.ref (B + 54)), some (.int (x1_1 + 1))]) hG dX12_hasOpen_23 rfl (by rfl) (by decide) (pm_c1b rfl) rfl ?_
          refine pm_goto (tgt := 2) hG dX12_hasOpen_26 rfl ?_
          exact ih2 _ hE
        · replace hE := fx_t c4 hE
          refine pm_iconst (v := 1) hG dX12_hasOpen_21 (by decide) ?_
          exact pm_zret hG hF dX12_hasOpen_22 rfl (by rfl) (Nat.le_refl _) (Nat.le_refl _) (fx_pi (Option.some.inj hE))
  refine loop2 _ (fun  x5_1 hE => ?_) _ _ hE
  refine pm_iconst (v := 0) hG dX12_hasOpen_29 (by decide) ?_
  exact pm_zret hG hF dX12_hasOpen_30 rfl (by rfl) (Nat.le_refl _) (Nat.le_refl _) (fx_pi (Option.some.inj hE))

set_option maxRecDepth 100000 in
set_option maxHeartbeats 4000000 in
theorem c_X12_heir {d : Nat} {B cnt : Nat} {σ : pm_S} {S : FS} {za : Int32} {R : Int32 × FS} (hdd : 5 ≤ d) (h74 : 74 ≤ cnt) (hE : f_X12_heir S za = some R) : pm_met mX12_heir d 2 40 B [.ref (B + 54), .int za] cnt (mst B S σ) (pm_Qi (fun v σ' cnt' => v = R.1 ∧ (∃ τ : pm_S, σ' = (mst B R.2 τ) ∧ ∀ j : Nat, j < cnt → τ j = σ j) ∧ cnt ≤ cnt')) := by
  refine pm_enter 7 (by decide) (Nat.le_of_ble_eq_true rfl) rfl (fun G hG hR hF => ?_)
  unfold f_X12_heir at hE
  refine pm_iloadn hG dX12_heir_0 rfl ?_
  refine pm_if_ge (tgt := 10) hG dX12_heir_1 rfl (fun c1 => ?_) (fun c1 => ?_)
  · replace c1 := Int32.not_lt.mpr c1
    replace hE := fx_f c1 hE
    refine pm_aloadn hG dX12_heir_10 rfl ?_
    refine pm_iconst (v := 2) hG dX12_heir_11 (by decide) ?_
    refine pm_aloadn hG dX12_heir_12 rfl ?_
    refine pm_getf hG dX12_heir_13 (flX12_7 _ rfl) rfl rfl ?_
    refine pm_bipush (v := 8) hG dX12_heir_16 (by decide) ?_
    refine fx_iald hG dX12_heir_18 rfl (ix_lit (by decide) rfl) ?_
    refine pm_aloadn hG dX12_heir_19 rfl ?_
    refine pm_getf hG dX12_heir_20 (flX12_7 _ rfl) rfl rfl ?_
    refine pm_bipush (v := 8) hG dX12_heir_23 (by decide) ?_
    refine fx_iald hG dX12_heir_25 rfl (ix_lit (by decide) rfl) ?_
    obtain ⟨x3, h2, hE⟩ := fb_some hE
    refine pm_callV (As := [.int 2, .int (S.2 55 8), .int (S.2 55 8)]) (rest := []) hG hR dX12_heir_26 (lkX12_195 _ rfl) okV_X12_inForce rfl rfl (c_X12_inForce (d := 4) (by decide) h2) rfl rfl hdd (by decide) (by decide) (by decide) (fx_ki ?_)
    refine pm_istoreXn (loc' := [some (.ref (B + 54)), some (.int za), some (.int x3), none, none, none, none, none, none]) hG dX12_heir_29 (by decide) (pm_c1b rfl) rfl ?_
    refine pm_bipush (v := 20) hG dX12_heir_30 (by decide) ?_
    refine pm_newi (N := 20) hG hR dX12_heir_32 (by decide) (by decide) (by decide) (by decide) (by decide) ?_
    refine pm_nrw (by omega) ?_
    refine fx_letw (F := fun q => (mst B S (pm_up σ cnt (.inl (20, q))))) hE (fun w4 hE => ?_)
    refine pm_nums (cs' := 1) (zs' := 20) (cnt' := cnt + 1) rfl rfl rfl ?_
    refine pm_astoreXn (loc' := [some (.ref (B + 54)), some (.int za), some (.int x3), some (.ref (B + cnt)), none, none, none, none, none]) hG dX12_heir_34 (by decide) (pm_c1b rfl) rfl ?_
    refine pm_bipush (v := 20) hG dX12_heir_35 (by decide) ?_
    refine pm_newi (N := 20) hG hR dX12_heir_37 (by decide) (by decide) (by decide) (by decide) (by decide) ?_
    refine pm_nrw (by omega) ?_
    refine fx_letw (F := fun q => (mst B S (pm_up (pm_up σ cnt (.inl (20, w4))) (cnt + 1) (.inl (20, q))))) hE (fun w5 hE => ?_)
    refine pm_nums (cs' := 2) (zs' := 40) (cnt' := cnt + 2) rfl rfl rfl ?_
    refine pm_astoreXi (loc' := [some (.ref (B + 54)), some (.int za), some (.int x3), some (.ref (B + cnt)), some (.ref (B + (cnt + 1))), none, none, none, none]) hG dX12_heir_39 (by decide) (pm_c1b rfl) rfl ?_
    refine pm_iconst (v := 0) hG dX12_heir_41 (by decide) ?_
    refine pm_istoreXi (loc' := [some (.ref (B + 54)), some (.int za), some (.int x3), some (.ref (B + cnt)), some (.ref (B + (cnt + 1))), some (.int 0), none, none, none]) hG dX12_heir_42 (by decide) (pm_c1b rfl) rfl ?_
    refine pm_iconst (v := 1) hG dX12_heir_44 (by decide) ?_
    refine pm_istoreXi (loc' := [some (.ref (B + 54)), some (.int za), some (.int x3), some (.ref (B + cnt)), some (.ref (B + (cnt + 1))), some (.int 0), some (.int 1), none, none]) hG dX12_heir_45 (by decide) (pm_c1b rfl) rfl ?_
    have loop47 : ∀ (k47 : FS → Int32 → Int32 → (Nat → Int32) → (Nat → Int32) → Option (Int32 × FS)), (∀ (S6 : FS) (x6_5 : Int32) (x6_6 : Int32) (w6_0 : (Nat → Int32)) (w6_1 : (Nat → Int32)), k47 S6  x6_5 x6_6 w6_0 w6_1 = some R → pm_wp mX12_heir G B 207 [some (.ref (B + 54)), some (.int za), some (.int x3), some (.ref (B + cnt)), some (.ref (B + (cnt + 1))), some (.int x6_5), some (.int x6_6), none, none] [] 2 40 (cnt + 2) (mst B S6 (pm_up (pm_up σ cnt (.inl (20, w6_0))) (cnt + 1) (.inl (20, w6_1))))) → ∀ (m47 : Nat) (S6 : FS) (x6_5 : Int32) (x6_6 : Int32) (w6_0 : (Nat → Int32)) (w6_1 : (Nat → Int32)), l_X12_heir_47 x3 k47 m47 S6  x6_5 x6_6 w6_0 w6_1 = some R → pm_wp mX12_heir G B 47 [some (.ref (B + 54)), some (.int za), some (.int x3), some (.ref (B + cnt)), some (.ref (B + (cnt + 1))), some (.int x6_5), some (.int x6_6), none, none] [] 2 40 (cnt + 2) (mst B S6 (pm_up (pm_up σ cnt (.inl (20, w6_0))) (cnt + 1) (.inl (20, w6_1)))) := by
      intro k47 hk47 m47
      induction m47 with
      | zero => intro S6  x6_5 x6_6 w6_0 w6_1 hE; exact fx_no hE
      | succ m47 ih47 =>
        intro S6  x6_5 x6_6 w6_0 w6_1 hE
        rw [l_X12_heir_47] at hE
        refine pm_iloadi hG dX12_heir_47 rfl ?_
        refine pm_aloadn hG dX12_heir_49 rfl ?_
        refine pm_getf hG dX12_heir_50 (flX12_7 _ rfl) rfl rfl ?_
        refine pm_iconst (v := 2) hG dX12_heir_53 (by decide) ?_
        refine fx_iald hG dX12_heir_54 rfl (ix_lit (by decide) rfl) ?_
        refine pm_icmp_ge (tgt := 207) hG dX12_heir_55 rfl (fun c7 => ?_) (fun c7 => ?_)
        · replace c7 := Int32.not_lt.mpr c7
          replace hE := fx_f c7 hE
          exact hk47 _ _ _ _ _ hE
        · replace c7 := Int32.not_le.mp c7
          replace hE := fx_t c7 hE
          refine pm_aloadn hG dX12_heir_58 rfl ?_
          refine pm_iloadi hG dX12_heir_59 rfl ?_
          obtain ⟨r9, h8, hE⟩ := fb_some hE
          refine pm_callV (As := [.int x6_6]) (rest := []) hG hR dX12_heir_61 (lkX12_125 _ rfl) okV_X12_stepsOf rfl rfl (c_X12_stepsOf (d := 4) (by decide) h8) rfl rfl hdd (by decide) (by decide) (by decide) (fx_ki ?_)
          refine pm_istoreXi (loc' := [some (.ref (B + 54)), some (.int za), some (.int x3), some (.ref (B + cnt)), some (.ref (B + (cnt + 1))), some (.int x6_5), some (.int x6_6), some (.int r9.1), none]) hG dX12_heir_64 (by decide) (pm_c1b rfl) rfl ?_
          refine pm_aloadn hG dX12_heir_66 rfl ?_
          refine pm_iloadi hG dX12_heir_67 rfl ?_
          obtain ⟨x11, h10, hE⟩ := fb_some hE
          refine pm_callV (As := [.int x6_6]) (rest := []) hG hR dX12_heir_69 (lkX12_101 _ rfl) okV_X12_lives rfl rfl (c_X12_lives (d := 4) (by decide) h10) rfl rfl hdd (by decide) (by decide) (by decide) (fx_ki ?_)
          refine pm_if_eq (tgt := 201) hG dX12_heir_72 rfl (fun c12 => ?_) (fun c12 => ?_)
          · replace hE := fx_t c12 hE
            refine pm_iincX (v := x6_6 + 1) (loc' := [some (.ref (B + 54)), some (.int za), some (.int x3), some (.ref (B + cnt)), some (.ref (B + (cnt + 1))), some (.int x6_5), some (.int (x6_6 + 1)), some (.int r9.1), none]) hG dX12_heir_201 rfl (by rfl) (by decide) (pm_c1b rfl) rfl ?_
            refine pm_goto (tgt := 47) hG dX12_heir_204 rfl ?_
            refine pm_fg 7 (loc' := [some (.ref (B + 54)), some (.int za), some (.int x3), some (.ref (B + cnt)), some (.ref (B + (cnt + 1))), some (.int x6_5), some (.int (x6_6 + 1)), none, none]) rfl ?_
            exact ih47 _ _ _ _ _ hE
          · replace hE := fx_f c12 hE
            refine pm_iloadi hG dX12_heir_75 rfl ?_
            refine pm_bipush (v := 99) hG dX12_heir_77 (by decide) ?_
            refine pm_icmp_eq (tgt := 201) hG dX12_heir_79 rfl (fun c13 => ?_) (fun c13 => ?_)
            · replace hE := fx_t c13 hE
              refine pm_iincX (v := x6_6 + 1) (loc' := [some (.ref (B + 54)), some (.int za), some (.int x3), some (.ref (B + cnt)), some (.ref (B + (cnt + 1))), some (.int x6_5), some (.int (x6_6 + 1)), some (.int r9.1), none]) hG dX12_heir_201 rfl (by rfl) (by decide) (pm_c1b rfl) rfl ?_
              refine pm_goto (tgt := 47) hG dX12_heir_204 rfl ?_
              refine pm_fg 7 (loc' := [some (.ref (B + 54)), some (.int za), some (.int x3), some (.ref (B + cnt)), some (.ref (B + (cnt + 1))), some (.int x6_5), some (.int (x6_6 + 1)), none, none]) rfl ?_
              exact ih47 _ _ _ _ _ hE
            · replace hE := fx_f c13 hE
              refine pm_aloadn hG dX12_heir_82 rfl ?_
              refine pm_iloadn hG dX12_heir_83 rfl ?_
              refine pm_iloadi hG dX12_heir_84 rfl ?_
              refine pm_iconst (v := (-1)) hG dX12_heir_86 (by decide) ?_
              refine pm_aloadn hG dX12_heir_87 rfl ?_
              refine pm_getf hG dX12_heir_88 (flX12_7 _ rfl) rfl rfl ?_
              refine pm_bipush (v := 8) hG dX12_heir_91 (by decide) ?_
              refine fx_iald hG dX12_heir_93 rfl (ix_lit (by decide) rfl) ?_
              obtain ⟨r15, h14, hE⟩ := fb_some hE
              refine pm_callV (As := [.int x3, .int x6_6, .int (-1), .int (r9.2.2 55 8)]) (rest := []) hG hR dX12_heir_94 (lkX12_214 _ rfl) okV_X12_comesTo rfl rfl (c_X12_comesTo (d := 4) (by decide) h14) rfl rfl hdd (by decide) (by decide) (by decide) (fx_ki ?_)
              refine pm_if_ne (tgt := 103) hG dX12_heir_97 rfl (fun c16 => ?_) (fun c16 => ?_)
              · replace hE := fx_f c16 hE
                refine pm_iloadi hG dX12_heir_103 rfl ?_
                refine pm_istoreXi (loc' := [some (.ref (B + 54)), some (.int za), some (.int x3), some (.ref (B + cnt)), some (.ref (B + (cnt + 1))), some (.int x6_5), some (.int x6_6), some (.int r9.1), some (.int x6_5)]) hG dX12_heir_105 (by decide) (pm_c1b rfl) rfl ?_
                have loop107 : ∀ (k107 : FS → Int32 → (Nat → Int32) → (Nat → Int32) → Option (Int32 × FS)), (∀ (S17 : FS) (x17_8 : Int32) (w17_0 : (Nat → Int32)) (w17_1 : (Nat → Int32)), k107 S17  x17_8 w17_0 w17_1 = some R → pm_wp mX12_heir G B 185 [some (.ref (B + 54)), some (.int za), some (.int x3), some (.ref (B + cnt)), some (.ref (B + (cnt + 1))), some (.int x6_5), some (.int x6_6), some (.int r9.1), some (.int x17_8)] [] 2 40 (cnt + 2) (mst B S17 (pm_up (pm_up σ cnt (.inl (20, w17_0))) (cnt + 1) (.inl (20, w17_1))))) → ∀ (m107 : Nat) (S17 : FS) (x17_8 : Int32) (w17_0 : (Nat → Int32)) (w17_1 : (Nat → Int32)), l_X12_heir_107 x6_6 r9 k107 m107 S17  x17_8 w17_0 w17_1 = some R → pm_wp mX12_heir G B 107 [some (.ref (B + 54)), some (.int za), some (.int x3), some (.ref (B + cnt)), some (.ref (B + (cnt + 1))), some (.int x6_5), some (.int x6_6), some (.int r9.1), some (.int x17_8)] [] 2 40 (cnt + 2) (mst B S17 (pm_up (pm_up σ cnt (.inl (20, w17_0))) (cnt + 1) (.inl (20, w17_1)))) := by
                  intro k107 hk107 m107
                  induction m107 with
                  | zero => intro S17  x17_8 w17_0 w17_1 hE; exact fx_no hE
                  | succ m107 ih107 =>
                    intro S17  x17_8 w17_0 w17_1 hE
                    rw [l_X12_heir_107] at hE
                    refine pm_iloadi hG dX12_heir_107 rfl ?_
                    refine pm_if_le (tgt := 185) hG dX12_heir_109 rfl (fun c18 => ?_) (fun c18 => ?_)
                    · replace c18 := Int32.not_lt.mpr c18
                      replace hE := fx_f c18 hE
                      exact hk107 _ _ _ _ hE
                    · replace c18 := Int32.not_le.mp c18
                      replace hE := fx_t c18 hE
                      refine pm_aloadi hG dX12_heir_112 rfl ?_
                      refine pm_iloadi hG dX12_heir_114 rfl ?_
                      refine pm_iconst (v := 1) hG dX12_heir_116 (by decide) ?_
                      refine pm_isub hG dX12_heir_117 ?_
                      obtain ⟨j19, hj19, hE⟩ := fb_some hE
                      refine fx_iald hG dX12_heir_118 (fxm_a2_1 h74) hj19 ?_
                      refine pm_iloadi hG dX12_heir_119 rfl ?_
                      refine pm_icmp_gt (tgt := 157) hG dX12_heir_121 rfl (fun c20 => ?_) (fun c20 => ?_)
                      · replace hE := fx_t c20 hE
                        refine pm_aloadn hG dX12_heir_157 rfl ?_
                        refine pm_iloadi hG dX12_heir_158 rfl ?_
                        refine pm_aloadn hG dX12_heir_160 rfl ?_
                        refine pm_iloadi hG dX12_heir_161 rfl ?_
                        refine pm_iconst (v := 1) hG dX12_heir_163 (by decide) ?_
                        refine pm_isub hG dX12_heir_164 ?_
                        refine fx_iald hG dX12_heir_165 (fxm_a2_0 h74) hj19 ?_
                        obtain ⟨j21, hj21, hE⟩ := fb_some hE
                        refine fx_iast hG dX12_heir_166 (fxm_a2_0 h74) hj21 ?_
                        refine fxm_w2_0 h74 ?_
                        refine fx_letw (F := fun q => (mst B S17 (pm_up (pm_up σ cnt (.inl (20, q))) (cnt + 1) (.inl (20, w17_1))))) hE (fun w22 hE => ?_)
                        refine pm_aloadi hG dX12_heir_167 rfl ?_
                        refine pm_iloadi hG dX12_heir_169 rfl ?_
                        refine pm_aloadi hG dX12_heir_171 rfl ?_
                        refine pm_iloadi hG dX12_heir_173 rfl ?_
                        refine pm_iconst (v := 1) hG dX12_heir_175 (by decide) ?_
                        refine pm_isub hG dX12_heir_176 ?_
                        refine fx_iald hG dX12_heir_177 (fxm_a2_1 h74) hj19 ?_
                        refine fx_iast hG dX12_heir_178 (fxm_a2_1 h74) hj21 ?_
                        refine fxm_w2_1 h74 ?_
                        refine fx_letw (F := fun q => (mst B S17 (pm_up (pm_up σ cnt (.inl (20, w22))) (cnt + 1) (.inl (20, q))))) hE (fun w23 hE => ?_)
                        refine pm_iincX (v := x17_8 + (-1)) (loc' := [some (.ref (B + 54)), some (.int za), some (.int x3), some (.ref (B + cnt)), some (.ref (B + (cnt + 1))), some (.int x6_5), some (.int x6_6), some (.int r9.1), some (.int (x17_8 + (-1)))]) hG dX12_heir_179 rfl (by rfl) (by decide) (pm_c1b rfl) rfl ?_
                        refine pm_goto (tgt := 107) hG dX12_heir_182 rfl ?_
                        exact ih107 _ _ _ _ hE
                      · replace hE := fx_f c20 hE
                        refine pm_aloadi hG dX12_heir_124 rfl ?_
                        refine pm_iloadi hG dX12_heir_126 rfl ?_
                        refine pm_iconst (v := 1) hG dX12_heir_128 (by decide) ?_
                        refine pm_isub hG dX12_heir_129 ?_
                        refine fx_iald hG dX12_heir_130 (fxm_a2_1 h74) hj19 ?_
                        refine pm_iloadi hG dX12_heir_131 rfl ?_
                        refine pm_icmp_ne (tgt := 185) hG dX12_heir_133 rfl (fun c24 => ?_) (fun c24 => ?_)
                        · replace hE := fx_f c24 hE
                          exact hk107 _ _ _ _ hE
                        · replace hE := fx_t c24 hE
                          refine pm_aloadn hG dX12_heir_136 rfl ?_
                          refine pm_aloadn hG dX12_heir_137 rfl ?_
                          refine pm_iloadi hG dX12_heir_138 rfl ?_
                          refine pm_iconst (v := 1) hG dX12_heir_140 (by decide) ?_
                          refine pm_isub hG dX12_heir_141 ?_
                          refine fx_iald hG dX12_heir_142 (fxm_a2_0 h74) hj19 ?_
                          refine pm_iconst (v := 1) hG dX12_heir_143 (by decide) ?_
                          obtain ⟨x26, h25, hE⟩ := fb_some hE
                          refine pm_callV (As := [.int (w17_0 j19), .int 1]) (rest := []) hG hR dX12_heir_144 (lkX12_72 _ rfl) okV_X12_man rfl rfl (c_X12_man (d := 4) (by decide) h25) rfl rfl hdd (by decide) (by decide) (by decide) (fx_ki ?_)
                          refine pm_aloadn hG dX12_heir_147 rfl ?_
                          refine pm_iloadi hG dX12_heir_148 rfl ?_
                          refine pm_iconst (v := 1) hG dX12_heir_150 (by decide) ?_
                          obtain ⟨x28, h27, hE⟩ := fb_some hE
                          refine pm_callV (As := [.int x6_6, .int 1]) (rest := [.int x26]) hG hR dX12_heir_151 (lkX12_72 _ rfl) okV_X12_man rfl rfl (c_X12_man (d := 4) (by decide) h27) rfl rfl hdd (by decide) (by decide) (by first | decide | exact Nat.le_of_ble_eq_true rfl) (fx_ki ?_)
                          refine pm_icmp_le (tgt := 185) hG dX12_heir_154 rfl (fun c29 => ?_) (fun c29 => ?_)
                          · replace c29 := Int32.not_lt.mpr c29
                            replace hE := fx_f c29 hE
                            exact hk107 _ _ _ _ hE
                          · replace c29 := Int32.not_le.mp c29
                            replace hE := fx_t c29 hE
                            refine pm_aloadn hG dX12_heir_157 rfl ?_
                            refine pm_iloadi hG dX12_heir_158 rfl ?_
                            refine pm_aloadn hG dX12_heir_160 rfl ?_
                            refine pm_iloadi hG dX12_heir_161 rfl ?_
                            refine pm_iconst (v := 1) hG dX12_heir_163 (by decide) ?_
                            refine pm_isub hG dX12_heir_164 ?_
                            refine fx_iald hG dX12_heir_165 (fxm_a2_0 h74) hj19 ?_
                            obtain ⟨j30, hj30, hE⟩ := fb_some hE
                            refine fx_iast hG dX12_heir_166 (fxm_a2_0 h74) hj30 ?_
                            refine fxm_w2_0 h74 ?_
                            refine fx_letw (F := fun q => (mst B S17 (pm_up (pm_up σ cnt (.inl (20, q))) (cnt + 1) (.inl (20, w17_1))))) hE (fun w31 hE => ?_)
                            refine pm_aloadi hG dX12_heir_167 rfl ?_
                            refine pm_iloadi hG dX12_heir_169 rfl ?_
                            refine pm_aloadi hG dX12_heir_171 rfl ?_
                            refine pm_iloadi hG dX12_heir_173 rfl ?_
                            refine pm_iconst (v := 1) hG dX12_heir_175 (by decide) ?_
                            refine pm_isub hG dX12_heir_176 ?_
                            refine fx_iald hG dX12_heir_177 (fxm_a2_1 h74) hj19 ?_
                            refine fx_iast hG dX12_heir_178 (fxm_a2_1 h74) hj30 ?_
                            refine fxm_w2_1 h74 ?_
                            refine fx_letw (F := fun q => (mst B S17 (pm_up (pm_up σ cnt (.inl (20, w31))) (cnt + 1) (.inl (20, q))))) hE (fun w32 hE => ?_)
                            refine pm_iincX (v := x17_8 + (-1)) (loc' := [some (.ref (B + 54)), some (.int za), some (.int x3), some (.ref (B + cnt)), some (.ref (B + (cnt + 1))), some (.int x6_5), some (.int x6_6), some (.int r9.1), some (.int (x17_8 + (-1)))]) hG dX12_heir_179 rfl (by rfl) (by decide) (pm_c1b rfl) rfl ?_
                            refine pm_goto (tgt := 107) hG dX12_heir_182 rfl ?_
                            exact ih107 _ _ _ _ hE
                refine loop107 _ (fun S33 x33_8 w33_0 w33_1 hE => ?_) _ _ _ _ _ hE
                refine pm_aloadn hG dX12_heir_185 rfl ?_
                refine pm_iloadi hG dX12_heir_186 rfl ?_
                refine pm_iloadi hG dX12_heir_188 rfl ?_
                obtain ⟨j34, hj34, hE⟩ := fb_some hE
                refine fx_iast hG dX12_heir_190 (fxm_a2_0 h74) hj34 ?_
                refine fxm_w2_0 h74 ?_
                refine fx_letw (F := fun q => (mst B S33 (pm_up (pm_up σ cnt (.inl (20, q))) (cnt + 1) (.inl (20, w33_1))))) hE (fun w35 hE => ?_)
                refine pm_aloadi hG dX12_heir_191 rfl ?_
                refine pm_iloadi hG dX12_heir_193 rfl ?_
                refine pm_iloadi hG dX12_heir_195 rfl ?_
                refine fx_iast hG dX12_heir_197 (fxm_a2_1 h74) hj34 ?_
                refine fxm_w2_1 h74 ?_
                refine fx_letw (F := fun q => (mst B S33 (pm_up (pm_up σ cnt (.inl (20, w35))) (cnt + 1) (.inl (20, q))))) hE (fun w36 hE => ?_)
                refine pm_iincX (v := x6_5 + 1) (loc' := [some (.ref (B + 54)), some (.int za), some (.int x3), some (.ref (B + cnt)), some (.ref (B + (cnt + 1))), some (.int (x6_5 + 1)), some (.int x6_6), some (.int r9.1), some (.int x33_8)]) hG dX12_heir_198 rfl (by rfl) (by decide) (pm_c1b rfl) rfl ?_
                refine pm_iincX (v := x6_6 + 1) (loc' := [some (.ref (B + 54)), some (.int za), some (.int x3), some (.ref (B + cnt)), some (.ref (B + (cnt + 1))), some (.int (x6_5 + 1)), some (.int (x6_6 + 1)), some (.int r9.1), some (.int x33_8)]) hG dX12_heir_201 rfl (by rfl) (by decide) (pm_c1b rfl) rfl ?_
                refine pm_goto (tgt := 47) hG dX12_heir_204 rfl ?_
                refine pm_fg 7 (loc' := [some (.ref (B + 54)), some (.int za), some (.int x3), some (.ref (B + cnt)), some (.ref (B + (cnt + 1))), some (.int (x6_5 + 1)), some (.int (x6_6 + 1)), none, some (.int x33_8)]) rfl ?_
                refine pm_fg 8 (loc' := [some (.ref (B + 54)), some (.int za), some (.int x3), some (.ref (B + cnt)), some (.ref (B + (cnt + 1))), some (.int (x6_5 + 1)), some (.int (x6_6 + 1)), none, none]) rfl ?_
                exact ih47 _ _ _ _ _ hE
              · replace hE := fx_t c16 hE
                refine pm_goto (tgt := 201) hG dX12_heir_100 rfl ?_
                refine pm_iincX (v := x6_6 + 1) (loc' := [some (.ref (B + 54)), some (.int za), some (.int x3), some (.ref (B + cnt)), some (.ref (B + (cnt + 1))), some (.int x6_5), some (.int (x6_6 + 1)), some (.int r9.1), none]) hG dX12_heir_201 rfl (by rfl) (by decide) (pm_c1b rfl) rfl ?_
                refine pm_goto (tgt := 47) hG dX12_heir_204 rfl ?_
                refine pm_fg 7 (loc' := [some (.ref (B + 54)), some (.int za), some (.int x3), some (.ref (B + cnt)), some (.ref (B + (cnt + 1))), some (.int x6_5), some (.int (x6_6 + 1)), none, none]) rfl ?_
                exact ih47 _ _ _ _ _ hE
    refine loop47 _ (fun S37 x37_5 x37_6 w37_0 w37_1 hE => ?_) _ _ _ _ _ _ hE
    refine pm_iloadn hG dX12_heir_207 rfl ?_
    refine pm_iloadi hG dX12_heir_208 rfl ?_
    refine pm_icmp_ge (tgt := 219) hG dX12_heir_210 rfl (fun c38 => ?_) (fun c38 => ?_)
    · replace c38 := Int32.not_lt.mpr c38
      replace hE := fx_f c38 hE
      refine pm_aloadn hG dX12_heir_219 rfl ?_
      refine pm_iconst (v := 2) hG dX12_heir_220 (by decide) ?_
      obtain ⟨r40, h39, hE⟩ := fb_some hE
      refine pm_callV (As := [.int 2]) (rest := []) hG hR dX12_heir_221 (lkX12_80 _ rfl) okV_X12_finds rfl rfl (c_X12_finds (d := 4) (by decide) h39) rfl rfl hdd (by decide) (by decide) (by decide) (fx_ki ?_)
      exact pm_iret hG hF dX12_heir_224 rfl (by decide) (by decide) (fx_rix hE (fun j hj => (pm_up_ne _ _ (by omega)).trans (pm_up_ne _ _ (by omega))) (by omega))
    · replace c38 := Int32.not_le.mp c38
      replace hE := fx_t c38 hE
      refine pm_aloadn hG dX12_heir_213 rfl ?_
      refine pm_iloadn hG dX12_heir_214 rfl ?_
      obtain ⟨j41, hj41, hE⟩ := fb_some hE
      refine fx_iald hG dX12_heir_215 (fxm_a2_0 h74) hj41 ?_
      refine pm_goto (tgt := 224) hG dX12_heir_216 rfl ?_
      exact pm_iret hG hF dX12_heir_224 rfl (by decide) (by decide) (fx_rix hE (fun j hj => (pm_up_ne _ _ (by omega)).trans (pm_up_ne _ _ (by omega))) (by omega))
  · replace c1 := Int32.not_le.mp c1
    replace hE := fx_t c1 hE
    refine pm_aloadn hG dX12_heir_4 rfl ?_
    refine pm_iconst (v := 1) hG dX12_heir_5 (by decide) ?_
    obtain ⟨r43, h42, hE⟩ := fb_some hE
    refine pm_callV (As := [.int 1]) (rest := []) hG hR dX12_heir_6 (lkX12_80 _ rfl) okV_X12_finds rfl rfl (c_X12_finds (d := 4) (by decide) h42) rfl rfl hdd (by decide) (by decide) (by decide) (fx_ki ?_)
    exact pm_iret hG hF dX12_heir_9 rfl (by decide) (by decide) (fx_rix hE (fun j hj => rfl) (by omega))
end
section
set_option maxRecDepth 100000 in
set_option maxHeartbeats 4000000 in
theorem c_X12_held {d : Nat} {B cnt : Nat} {σ : pm_S} {S : FS} {za : Int32} {zb : Int32} {R : Int32 × FS} (hdd : 3 ≤ d) (hE : f_X12_held S za zb = some R) : pm_met mX12_held d 0 0 B [.ref (B + 54), .int za, .int zb] cnt (mst B S σ) (pm_Qi (fun v σ' cnt' => v = R.1 ∧ σ' = (mst B R.2 σ) ∧ cnt' = cnt)) := by
  refine pm_enter 0 (by decide) (Nat.le_of_ble_eq_true rfl) rfl (fun G hG hR hF => ?_)
  unfold f_X12_held at hE
  refine pm_aloadn hG dX12_held_0 rfl ?_
  refine pm_iloadn hG dX12_held_1 rfl ?_
  refine pm_callV (As := [.int za]) (rest := []) hG hR dX12_held_2 (lkX12_132 _ rfl) okV_X12_isPower rfl rfl (c_X12_isPower (d := 2) (by decide) rfl) rfl rfl hdd (Nat.le_refl _) (Nat.le_refl _) (by decide) (fx_ki ?_)
  refine pm_if_ne (tgt := 14) hG dX12_held_5 rfl (fun c1 => ?_) (fun c1 => ?_)
  · replace hE := fx_f c1 hE
    refine pm_iloadn hG dX12_held_14 rfl ?_
    by_cases c2 : zb = 0
    · replace hE := fx_t c2 hE
      refine pm_top (v := 0) c2 ?_
      refine pm_tswIn (tgt := 48) hG dX12_held_15 (by decide) (by decide) rfl rfl ?_
      refine pm_aloadn hG dX12_held_48 rfl ?_
      refine pm_iloadn hG dX12_held_49 rfl ?_
      refine pm_iconst (v := 0) hG dX12_held_50 (by decide) ?_
      obtain ⟨x4, h3, hE⟩ := fb_some hE
      refine pm_callV (As := [.int za, .int 0]) (rest := []) hG hR dX12_held_51 (lkX12_110 _ rfl) okV_X12_its rfl rfl (c_X12_its (d := 2) (by decide) h3) rfl rfl hdd (Nat.le_refl _) (Nat.le_refl _) (by decide) (fx_ki ?_)
      exact pm_iret hG hF dX12_held_54 rfl (Nat.le_refl _) (Nat.le_refl _) (fx_rim hE)
    replace hE := fx_f c2 hE
    by_cases c5 : zb = 1
    · replace hE := fx_t c5 hE
      refine pm_top (v := 1) c5 ?_
      refine pm_tswIn (tgt := 55) hG dX12_held_15 (by decide) (by decide) rfl rfl ?_
      refine pm_aloadn hG dX12_held_55 rfl ?_
      refine pm_iloadn hG dX12_held_56 rfl ?_
      refine pm_iconst (v := 1) hG dX12_held_57 (by decide) ?_
      obtain ⟨x7, h6, hE⟩ := fb_some hE
      refine pm_callV (As := [.int za, .int 1]) (rest := []) hG hR dX12_held_58 (lkX12_110 _ rfl) okV_X12_its rfl rfl (c_X12_its (d := 2) (by decide) h6) rfl rfl hdd (Nat.le_refl _) (Nat.le_refl _) (by decide) (fx_ki ?_)
      exact pm_iret hG hF dX12_held_61 rfl (Nat.le_refl _) (Nat.le_refl _) (fx_rim hE)
    replace hE := fx_f c5 hE
    by_cases c8 : zb = 2
    · replace hE := fx_t c8 hE
      refine pm_top (v := 2) c8 ?_
      refine pm_tswIn (tgt := 62) hG dX12_held_15 (by decide) (by decide) rfl rfl ?_
      refine pm_aloadn hG dX12_held_62 rfl ?_
      refine pm_iloadn hG dX12_held_63 rfl ?_
      obtain ⟨x10, h9, hE⟩ := fb_some hE
      refine pm_callV (As := [.int za]) (rest := []) hG hR dX12_held_64 (lkX12_139 _ rfl) okV_X12_whoHas rfl rfl (c_X12_whoHas (d := 2) (by decide) h9) rfl rfl hdd (Nat.le_refl _) (Nat.le_refl _) (by decide) (fx_ki ?_)
      exact pm_iret hG hF dX12_held_67 rfl (Nat.le_refl _) (Nat.le_refl _) (fx_rim hE)
    replace hE := fx_f c8 hE
    by_cases c11 : zb = 3
    · replace hE := fx_t c11 hE
      refine pm_top (v := 3) c11 ?_
      refine pm_tswIn (tgt := 68) hG dX12_held_15 (by decide) (by decide) rfl rfl ?_
      refine pm_aloadn hG dX12_held_68 rfl ?_
      refine pm_iloadn hG dX12_held_69 rfl ?_
      refine pm_iconst (v := 0) hG dX12_held_70 (by decide) ?_
      obtain ⟨x13, h12, hE⟩ := fb_some hE
      refine pm_callV (As := [.int za, .int 0]) (rest := []) hG hR dX12_held_71 (lkX12_110 _ rfl) okV_X12_its rfl rfl (c_X12_its (d := 2) (by decide) h12) rfl rfl hdd (Nat.le_refl _) (Nat.le_refl _) (by decide) (fx_ki ?_)
      refine pm_iconst (v := 2) hG dX12_held_74 (by decide) ?_
      refine pm_icmp_ne (tgt := 87) hG dX12_held_75 rfl (fun c14 => ?_) (fun c14 => ?_)
      · replace hE := fx_f c14 hE
        refine pm_iconst (v := (-1)) hG dX12_held_87 (by decide) ?_
        exact pm_iret hG hF dX12_held_88 rfl (Nat.le_refl _) (Nat.le_refl _) (fx_rim hE)
      · replace hE := fx_t c14 hE
        refine pm_aloadn hG dX12_held_78 rfl ?_
        refine pm_iloadn hG dX12_held_79 rfl ?_
        refine pm_iconst (v := 5) hG dX12_held_80 (by decide) ?_
        obtain ⟨x16, h15, hE⟩ := fb_some hE
        refine pm_callV (As := [.int za, .int 5]) (rest := []) hG hR dX12_held_81 (lkX12_110 _ rfl) okV_X12_its rfl rfl (c_X12_its (d := 2) (by decide) h15) rfl rfl hdd (Nat.le_refl _) (Nat.le_refl _) (by decide) (fx_ki ?_)
        refine pm_goto (tgt := 88) hG dX12_held_84 rfl ?_
        exact pm_iret hG hF dX12_held_88 rfl (Nat.le_refl _) (Nat.le_refl _) (fx_rim hE)
    replace hE := fx_f c11 hE
    by_cases c17 : zb = 4
    · replace hE := fx_t c17 hE
      refine pm_top (v := 4) c17 ?_
      refine pm_tswIn (tgt := 89) hG dX12_held_15 (by decide) (by decide) rfl rfl ?_
      refine pm_aloadn hG dX12_held_89 rfl ?_
      refine pm_iloadn hG dX12_held_90 rfl ?_
      refine pm_iconst (v := 3) hG dX12_held_91 (by decide) ?_
      obtain ⟨x19, h18, hE⟩ := fb_some hE
      refine pm_callV (As := [.int za, .int 3]) (rest := []) hG hR dX12_held_92 (lkX12_110 _ rfl) okV_X12_its rfl rfl (c_X12_its (d := 2) (by decide) h18) rfl rfl hdd (Nat.le_refl _) (Nat.le_refl _) (by decide) (fx_ki ?_)
      exact pm_iret hG hF dX12_held_95 rfl (Nat.le_refl _) (Nat.le_refl _) (fx_rim hE)
    replace hE := fx_f c17 hE
    have tc2 : ¬ zb.toInt = 0 := fun q => c2 (Int32.toInt_inj.mp q)
    have tc5 : ¬ zb.toInt = 1 := fun q => c5 (Int32.toInt_inj.mp q)
    have tc8 : ¬ zb.toInt = 2 := fun q => c8 (Int32.toInt_inj.mp q)
    have tc11 : ¬ zb.toInt = 3 := fun q => c11 (Int32.toInt_inj.mp q)
    have tc17 : ¬ zb.toInt = 4 := fun q => c17 (Int32.toInt_inj.mp q)
    refine pm_tswOut (tgt := 96) hG dX12_held_15 (by omega) rfl ?_
    refine pm_aloadn hG dX12_held_96 rfl ?_
    refine pm_iconst (v := 1) hG dX12_held_97 (by decide) ?_
    obtain ⟨r21, h20, hE⟩ := fb_some hE
    refine pm_callV (As := [.int 1]) (rest := []) hG hR dX12_held_98 (lkX12_80 _ rfl) okV_X12_finds rfl rfl (c_X12_finds (d := 2) (by decide) h20) rfl rfl hdd (Nat.le_refl _) (Nat.le_refl _) (by decide) (fx_ki ?_)
    exact pm_iret hG hF dX12_held_101 rfl (Nat.le_refl _) (Nat.le_refl _) (fx_rim hE)
  · replace hE := fx_t c1 hE
    refine pm_aloadn hG dX12_held_8 rfl ?_
    refine pm_iconst (v := 1) hG dX12_held_9 (by decide) ?_
    obtain ⟨r23, h22, hE⟩ := fb_some hE
    refine pm_callV (As := [.int 1]) (rest := []) hG hR dX12_held_10 (lkX12_80 _ rfl) okV_X12_finds rfl rfl (c_X12_finds (d := 2) (by decide) h22) rfl rfl hdd (Nat.le_refl _) (Nat.le_refl _) (by decide) (fx_ki ?_)
    exact pm_iret hG hF dX12_held_13 rfl (Nat.le_refl _) (Nat.le_refl _) (fx_rim hE)

set_option maxRecDepth 100000 in
set_option maxHeartbeats 4000000 in
theorem c_X12_image {d : Nat} {B cnt : Nat} {σ : pm_S} {S : FS} {R : Int32 × FS} (hdd : 1 ≤ d) (hE : f_X12_image S = some R) : pm_met mX12_image d 0 0 B [.ref (B + 54)] cnt (mst B S σ) (pm_Qi (fun v σ' cnt' => v = R.1 ∧ σ' = (mst B R.2 σ) ∧ cnt' = cnt)) := by
  refine pm_enter 1 (by decide) (Nat.le_of_ble_eq_true rfl) rfl (fun G hG hR hF => ?_)
  unfold f_X12_image at hE
  refine pm_iconst (v := 0) hG dX12_image_0 (by decide) ?_
  refine pm_istoreXn (loc' := [some (.ref (B + 54)), some (.int 0)]) hG dX12_image_1 (by decide) (pm_c1b rfl) rfl ?_
  have loop2 : ∀ (k2 : FS → Int32 → Option (Int32 × FS)), (∀ (S1 : FS) (x1_1 : Int32), k2 S1  x1_1 = some R → pm_wp mX12_image G B 27 [some (.ref (B + 54)), some (.int x1_1)] [] 0 0 cnt (mst B S1 σ)) → ∀ (m2 : Nat) (S1 : FS) (x1_1 : Int32), l_X12_image_2 k2 m2 S1  x1_1 = some R → pm_wp mX12_image G B 2 [some (.ref (B + 54)), some (.int x1_1)] [] 0 0 cnt (mst B S1 σ) := by
    intro k2 hk2 m2
    induction m2 with
    | zero => intro S1  x1_1 hE; exact fx_no hE
    | succ m2 ih2 =>
      intro S1  x1_1 hE
      rw [l_X12_image_2] at hE
      refine pm_iloadn hG dX12_image_2 rfl ?_
      refine pm_sipush (v := 2071) hG dX12_image_3 (by decide) ?_
      refine pm_icmp_ge (tgt := 27) hG dX12_image_6 rfl (fun c2 => ?_) (fun c2 => ?_)
      · replace c2 := Int32.not_lt.mpr c2
        replace hE := fx_f c2 hE
        exact hk2 _ _ hE
      · replace c2 := Int32.not_le.mp c2
        replace hE := fx_t c2 hE
        refine pm_aloadn hG dX12_image_9 rfl ?_
        refine pm_getf hG dX12_image_10 (flX12_13 _ rfl) rfl rfl ?_
        refine pm_iloadn hG dX12_image_13 rfl ?_
        refine pm_aloadn hG dX12_image_14 rfl ?_
        refine pm_getf hG dX12_image_15 (flX12_7 _ rfl) rfl rfl ?_
        refine pm_iloadn hG dX12_image_18 rfl ?_
        obtain ⟨j3, hj3, hE⟩ := fb_some hE
        refine fx_iald hG dX12_image_19 rfl hj3 ?_
        refine fx_iast hG dX12_image_20 rfl hj3 ?_
        refine ma_56 ?_
        refine fx_letm hE (fun S4 hE => ?_)
        refine pm_iincX (v := x1_1 + 1) (loc' := [some (.ref (B + 54)), some (.int (x1_1 + 1))]) hG dX12_image_21 rfl (by rfl) (by decide) (pm_c1b rfl) rfl ?_
        refine pm_goto (tgt := 2) hG dX12_image_24 rfl ?_
        exact ih2 _ _ hE
  refine loop2 _ (fun S5 x5_1 hE => ?_) _ _ _ hE
  refine pm_aloadn hG dX12_image_27 rfl ?_
  refine pm_dup hG dX12_image_28 rfl ?_
  refine pm_getf hG dX12_image_29 (flX12_319 _ rfl) rfl rfl ?_
  refine pm_iconst (v := 1) hG dX12_image_32 (by decide) ?_
  refine pm_iadd hG dX12_image_33 ?_
  refine pm_putf hG dX12_image_34 (fwX12_319 _ rfl) rfl rfl rfl ?_
  refine mi_3 ?_
  refine fx_letm hE (fun S6 hE => ?_)
  refine pm_aloadn hG dX12_image_37 rfl ?_
  refine pm_getf hG dX12_image_38 (flX12_319 _ rfl) rfl rfl ?_
  exact pm_iret hG hF dX12_image_41 rfl (Nat.le_refl _) (Nat.le_refl _) (fx_rim hE)

set_option maxRecDepth 100000 in
set_option maxHeartbeats 4000000 in
theorem c_X12_isDigit {d : Nat} {B cnt : Nat} {σ : pm_S} {S : FS} {za : Int32} {R : Int32} (hdd : 1 ≤ d) (hE : p_X12_isDigit S za = R) : pm_met mX12_isDigit d 0 0 B [.int za] cnt (mst B S σ) (pm_Qi (fun v σ' cnt' => v = R ∧ σ' = (mst B S σ) ∧ cnt' = cnt)) := by
  refine pm_enter 0 (by decide) (Nat.le_of_ble_eq_true rfl) rfl (fun G hG hR hF => ?_)
  unfold p_X12_isDigit at hE
  refine pm_iloadn hG dX12_isDigit_0 rfl ?_
  refine pm_bipush (v := 48) hG dX12_isDigit_1 (by decide) ?_
  refine pm_icmp_lt (tgt := 16) hG dX12_isDigit_3 rfl (fun c1 => ?_) (fun c1 => ?_)
  · replace hE := fx_t c1 hE
    refine pm_iconst (v := 0) hG dX12_isDigit_16 (by decide) ?_
    exact pm_zret hG hF dX12_isDigit_17 rfl (by rfl) (Nat.le_refl _) (Nat.le_refl _) (fx_pi hE)
  · replace hE := fx_f c1 hE
    refine pm_iloadn hG dX12_isDigit_6 rfl ?_
    refine pm_bipush (v := 57) hG dX12_isDigit_7 (by decide) ?_
    refine pm_icmp_gt (tgt := 16) hG dX12_isDigit_9 rfl (fun c2 => ?_) (fun c2 => ?_)
    · replace hE := fx_t c2 hE
      refine pm_iconst (v := 0) hG dX12_isDigit_16 (by decide) ?_
      exact pm_zret hG hF dX12_isDigit_17 rfl (by rfl) (Nat.le_refl _) (Nat.le_refl _) (fx_pi hE)
    · replace hE := fx_f c2 hE
      refine pm_iconst (v := 1) hG dX12_isDigit_12 (by decide) ?_
      refine pm_goto (tgt := 17) hG dX12_isDigit_13 rfl ?_
      exact pm_zret hG hF dX12_isDigit_17 rfl (by rfl) (Nat.le_refl _) (Nat.le_refl _) (fx_pi hE)

set_option maxRecDepth 100000 in
set_option maxHeartbeats 4000000 in
theorem c_X12_isLetter {d : Nat} {B cnt : Nat} {σ : pm_S} {S : FS} {za : Int32} {R : Int32} (hdd : 2 ≤ d) (hE : p_X12_isLetter S za = R) : pm_met mX12_isLetter d 0 0 B [.ref (B + 54), .int za] cnt (mst B S σ) (pm_Qi (fun v σ' cnt' => v = R ∧ σ' = (mst B S σ) ∧ cnt' = cnt)) := by
  refine pm_enter 0 (by decide) (Nat.le_of_ble_eq_true rfl) rfl (fun G hG hR hF => ?_)
  unfold p_X12_isLetter at hE
  refine pm_iloadn hG dX12_isLetter_0 rfl ?_
  refine pm_iconst (v := 0) hG dX12_isLetter_1 (by decide) ?_
  refine pm_aloadn hG dX12_isLetter_2 rfl ?_
  refine pm_getf hG dX12_isLetter_3 (flX12_7 _ rfl) rfl rfl ?_
  refine pm_iconst (v := 5) hG dX12_isLetter_6 (by decide) ?_
  refine fx_iald hG dX12_isLetter_7 rfl (ix_lit (by decide) rfl) ?_
  refine pm_iconst (v := 1) hG dX12_isLetter_8 (by decide) ?_
  refine pm_isub hG dX12_isLetter_9 ?_
  refine pm_callS (As := [.int za, .int 0, .int ((S.2 55 5) - 1)]) (rest := []) hG hR dX12_isLetter_10 (lkX12_68 _ rfl) okS_X12_in (c_X12_in (d := 1) (by decide) rfl) rfl rfl hdd (Nat.le_refl _) (Nat.le_refl _) (by decide) (fx_ki ?_)
  exact pm_zret hG hF dX12_isLetter_13 rfl (pm_nz pb_X12_in) (Nat.le_refl _) (Nat.le_refl _) (fx_pi hE)

set_option maxRecDepth 100000 in
set_option maxHeartbeats 4000000 in
theorem c_X12_isParent {d : Nat} {B cnt : Nat} {σ : pm_S} {S : FS} {za : Int32} {zb : Int32} {zc : Int32} {R : Int32} (hdd : 3 ≤ d) (hE : q_X12_isParent S za zb zc = some R) : pm_met mX12_isParent d 0 0 B [.ref (B + 54), .int za, .int zb, .int zc] cnt (mst B S σ) (pm_Qi (fun v σ' cnt' => v = R ∧ σ' = (mst B S σ) ∧ cnt' = cnt)) := by
  refine pm_enter 0 (by decide) (Nat.le_of_ble_eq_true rfl) rfl (fun G hG hR hF => ?_)
  unfold q_X12_isParent at hE
  refine pm_iloadn hG dX12_isParent_0 rfl ?_
  refine pm_iconst (v := (-1)) hG dX12_isParent_1 (by decide) ?_
  refine pm_icmp_eq (tgt := 33) hG dX12_isParent_2 rfl (fun c1 => ?_) (fun c1 => ?_)
  · replace hE := fx_t c1 hE
    refine pm_iconst (v := 1) hG dX12_isParent_33 (by decide) ?_
    refine pm_goto (tgt := 38) hG dX12_isParent_34 rfl ?_
    exact pm_zret hG hF dX12_isParent_38 rfl (by rfl) (Nat.le_refl _) (Nat.le_refl _) (fx_pi (Option.some.inj hE))
  · replace hE := fx_f c1 hE
    refine pm_aloadn hG dX12_isParent_5 rfl ?_
    refine pm_iloadn hG dX12_isParent_6 rfl ?_
    refine pm_callV (As := [.int za]) (rest := []) hG hR dX12_isParent_7 (lkX12_91 _ rfl) okV_X12_isPerson rfl rfl (c_X12_isPerson (d := 2) (by decide) rfl) rfl rfl hdd (Nat.le_refl _) (Nat.le_refl _) (by decide) (fx_ki ?_)
    refine pm_if_eq (tgt := 37) hG dX12_isParent_10 rfl (fun c2 => ?_) (fun c2 => ?_)
    · replace hE := fx_t c2 hE
      refine pm_iconst (v := 0) hG dX12_isParent_37 (by decide) ?_
      exact pm_zret hG hF dX12_isParent_38 rfl (by rfl) (Nat.le_refl _) (Nat.le_refl _) (fx_pi (Option.some.inj hE))
    · replace hE := fx_f c2 hE
      refine pm_aloadn hG dX12_isParent_13 rfl ?_
      refine pm_iloadn hG dX12_isParent_14 rfl ?_
      refine pm_iconst (v := 0) hG dX12_isParent_15 (by decide) ?_
      obtain ⟨x4, h3, hE⟩ := fb_some hE
      refine pm_callV (As := [.int za, .int 0]) (rest := []) hG hR dX12_isParent_16 (lkX12_72 _ rfl) okV_X12_man rfl rfl (c_X12_man (d := 2) (by decide) h3) rfl rfl hdd (Nat.le_refl _) (Nat.le_refl _) (by decide) (fx_ki ?_)
      refine pm_iloadn hG dX12_isParent_19 rfl ?_
      refine pm_icmp_ne (tgt := 37) hG dX12_isParent_20 rfl (fun c5 => ?_) (fun c5 => ?_)
      · replace hE := fx_f c5 hE
        refine pm_iconst (v := 0) hG dX12_isParent_37 (by decide) ?_
        exact pm_zret hG hF dX12_isParent_38 rfl (by rfl) (Nat.le_refl _) (Nat.le_refl _) (fx_pi (Option.some.inj hE))
      · replace hE := fx_t c5 hE
        refine pm_aloadn hG dX12_isParent_23 rfl ?_
        refine pm_iloadn hG dX12_isParent_24 rfl ?_
        refine pm_iconst (v := 1) hG dX12_isParent_25 (by decide) ?_
        obtain ⟨x7, h6, hE⟩ := fb_some hE
        refine pm_callV (As := [.int za, .int 1]) (rest := []) hG hR dX12_isParent_26 (lkX12_72 _ rfl) okV_X12_man rfl rfl (c_X12_man (d := 2) (by decide) h6) rfl rfl hdd (Nat.le_refl _) (Nat.le_refl _) (by decide) (fx_ki ?_)
        refine pm_iloadn hG dX12_isParent_29 rfl ?_
        refine pm_icmp_ge (tgt := 37) hG dX12_isParent_30 rfl (fun c8 => ?_) (fun c8 => ?_)
        · replace c8 := Int32.not_lt.mpr c8
          replace hE := fx_f c8 hE
          refine pm_iconst (v := 0) hG dX12_isParent_37 (by decide) ?_
          exact pm_zret hG hF dX12_isParent_38 rfl (by rfl) (Nat.le_refl _) (Nat.le_refl _) (fx_pi (Option.some.inj hE))
        · replace c8 := Int32.not_le.mp c8
          replace hE := fx_t c8 hE
          refine pm_iconst (v := 1) hG dX12_isParent_33 (by decide) ?_
          refine pm_goto (tgt := 38) hG dX12_isParent_34 rfl ?_
          exact pm_zret hG hF dX12_isParent_38 rfl (by rfl) (Nat.le_refl _) (Nat.le_refl _) (fx_pi (Option.some.inj hE))

set_option maxRecDepth 100000 in
set_option maxHeartbeats 4000000 in
theorem c_X12_isSheet {d : Nat} {B cnt : Nat} {σ : pm_S} {S : FS} {za : Int32} {R : Int32} (hdd : 2 ≤ d) (hE : p_X12_isSheet S za = R) : pm_met mX12_isSheet d 0 0 B [.int za] cnt (mst B S σ) (pm_Qi (fun v σ' cnt' => v = R ∧ σ' = (mst B S σ) ∧ cnt' = cnt)) := by
  refine pm_enter 0 (by decide) (Nat.le_of_ble_eq_true rfl) rfl (fun G hG hR hF => ?_)
  unfold p_X12_isSheet at hE
  refine pm_iloadn hG dX12_isSheet_0 rfl ?_
  refine pm_iconst (v := 0) hG dX12_isSheet_1 (by decide) ?_
  refine pm_iconst (v := 3) hG dX12_isSheet_2 (by decide) ?_
  refine pm_callS (As := [.int za, .int 0, .int 3]) (rest := []) hG hR dX12_isSheet_3 (lkX12_68 _ rfl) okS_X12_in (c_X12_in (d := 1) (by decide) rfl) rfl rfl hdd (Nat.le_refl _) (Nat.le_refl _) (by decide) (fx_ki ?_)
  exact pm_zret hG hF dX12_isSheet_6 rfl (pm_nz pb_X12_in) (Nat.le_refl _) (Nat.le_refl _) (fx_pi hE)

set_option maxRecDepth 100000 in
set_option maxHeartbeats 4000000 in
theorem c_X12_rankOf {d : Nat} {B cnt : Nat} {σ : pm_S} {S : FS} {za : Int32} {R : Int32} (hdd : 1 ≤ d) (hE : p_X12_rankOf S za = R) : pm_met mX12_rankOf d 0 0 B [.int za] cnt (mst B S σ) (pm_Qi (fun v σ' cnt' => v = R ∧ σ' = (mst B S σ) ∧ cnt' = cnt)) := by
  refine pm_enter 0 (by decide) (Nat.le_of_ble_eq_true rfl) rfl (fun G hG hR hF => ?_)
  unfold p_X12_rankOf at hE
  refine pm_iloadn hG dX12_rankOf_0 rfl ?_
  refine pm_bipush (v := 124) hG dX12_rankOf_1 (by decide) ?_
  refine pm_icmp_ne (tgt := 10) hG dX12_rankOf_3 rfl (fun c1 => ?_) (fun c1 => ?_)
  · replace hE := fx_f c1 hE
    refine pm_iloadn hG dX12_rankOf_10 rfl ?_
    refine pm_bipush (v := 38) hG dX12_rankOf_11 (by decide) ?_
    refine pm_icmp_ne (tgt := 20) hG dX12_rankOf_13 rfl (fun c2 => ?_) (fun c2 => ?_)
    · replace hE := fx_f c2 hE
      refine pm_iloadn hG dX12_rankOf_20 rfl ?_
      refine pm_bipush (v := 60) hG dX12_rankOf_21 (by decide) ?_
      refine pm_icmp_eq (tgt := 38) hG dX12_rankOf_23 rfl (fun c3 => ?_) (fun c3 => ?_)
      · replace hE := fx_t c3 hE
        refine pm_iconst (v := 3) hG dX12_rankOf_38 (by decide) ?_
        refine pm_goto (tgt := 69) hG dX12_rankOf_39 rfl ?_
        exact pm_iret hG hF dX12_rankOf_69 rfl  (Nat.le_refl _) (Nat.le_refl _) (fx_pi hE)
      · replace hE := fx_f c3 hE
        refine pm_iloadn hG dX12_rankOf_26 rfl ?_
        refine pm_bipush (v := 61) hG dX12_rankOf_27 (by decide) ?_
        refine pm_icmp_eq (tgt := 38) hG dX12_rankOf_29 rfl (fun c4 => ?_) (fun c4 => ?_)
        · replace hE := fx_t c4 hE
          refine pm_iconst (v := 3) hG dX12_rankOf_38 (by decide) ?_
          refine pm_goto (tgt := 69) hG dX12_rankOf_39 rfl ?_
          exact pm_iret hG hF dX12_rankOf_69 rfl  (Nat.le_refl _) (Nat.le_refl _) (fx_pi hE)
        · replace hE := fx_f c4 hE
          refine pm_iloadn hG dX12_rankOf_32 rfl ?_
          refine pm_bipush (v := 62) hG dX12_rankOf_33 (by decide) ?_
          refine pm_icmp_ne (tgt := 42) hG dX12_rankOf_35 rfl (fun c5 => ?_) (fun c5 => ?_)
          · replace hE := fx_f c5 hE
            refine pm_iloadn hG dX12_rankOf_42 rfl ?_
            refine pm_bipush (v := 43) hG dX12_rankOf_43 (by decide) ?_
            refine pm_icmp_eq (tgt := 54) hG dX12_rankOf_45 rfl (fun c6 => ?_) (fun c6 => ?_)
            · replace hE := fx_t c6 hE
              refine pm_iconst (v := 4) hG dX12_rankOf_54 (by decide) ?_
              refine pm_goto (tgt := 69) hG dX12_rankOf_55 rfl ?_
              exact pm_iret hG hF dX12_rankOf_69 rfl  (Nat.le_refl _) (Nat.le_refl _) (fx_pi hE)
            · replace hE := fx_f c6 hE
              refine pm_iloadn hG dX12_rankOf_48 rfl ?_
              refine pm_bipush (v := 45) hG dX12_rankOf_49 (by decide) ?_
              refine pm_icmp_ne (tgt := 58) hG dX12_rankOf_51 rfl (fun c7 => ?_) (fun c7 => ?_)
              · replace hE := fx_f c7 hE
                refine pm_iloadn hG dX12_rankOf_58 rfl ?_
                refine pm_bipush (v := 33) hG dX12_rankOf_59 (by decide) ?_
                refine pm_icmp_ne (tgt := 68) hG dX12_rankOf_61 rfl (fun c8 => ?_) (fun c8 => ?_)
                · replace hE := fx_f c8 hE
                  refine pm_iconst (v := 0) hG dX12_rankOf_68 (by decide) ?_
                  exact pm_iret hG hF dX12_rankOf_69 rfl  (Nat.le_refl _) (Nat.le_refl _) (fx_pi hE)
                · replace hE := fx_t c8 hE
                  refine pm_iconst (v := 5) hG dX12_rankOf_64 (by decide) ?_
                  refine pm_goto (tgt := 69) hG dX12_rankOf_65 rfl ?_
                  exact pm_iret hG hF dX12_rankOf_69 rfl  (Nat.le_refl _) (Nat.le_refl _) (fx_pi hE)
              · replace hE := fx_t c7 hE
                refine pm_iconst (v := 4) hG dX12_rankOf_54 (by decide) ?_
                refine pm_goto (tgt := 69) hG dX12_rankOf_55 rfl ?_
                exact pm_iret hG hF dX12_rankOf_69 rfl  (Nat.le_refl _) (Nat.le_refl _) (fx_pi hE)
          · replace hE := fx_t c5 hE
            refine pm_iconst (v := 3) hG dX12_rankOf_38 (by decide) ?_
            refine pm_goto (tgt := 69) hG dX12_rankOf_39 rfl ?_
            exact pm_iret hG hF dX12_rankOf_69 rfl  (Nat.le_refl _) (Nat.le_refl _) (fx_pi hE)
    · replace hE := fx_t c2 hE
      refine pm_iconst (v := 2) hG dX12_rankOf_16 (by decide) ?_
      refine pm_goto (tgt := 69) hG dX12_rankOf_17 rfl ?_
      exact pm_iret hG hF dX12_rankOf_69 rfl  (Nat.le_refl _) (Nat.le_refl _) (fx_pi hE)
  · replace hE := fx_t c1 hE
    refine pm_iconst (v := 1) hG dX12_rankOf_6 (by decide) ?_
    refine pm_goto (tgt := 69) hG dX12_rankOf_7 rfl ?_
    exact pm_iret hG hF dX12_rankOf_69 rfl  (Nat.le_refl _) (Nat.le_refl _) (fx_pi hE)

set_option maxRecDepth 100000 in
set_option maxHeartbeats 4000000 in
theorem c_X12_isTested {d : Nat} {B cnt : Nat} {σ : pm_S} {S : FS} {R : Int32} (hdd : 2 ≤ d) (hE : q_X12_isTested S = some R) : pm_met mX12_isTested d 0 0 B [.ref (B + 54)] cnt (mst B S σ) (pm_Qi (fun v σ' cnt' => v = R ∧ σ' = (mst B S σ) ∧ cnt' = cnt)) := by
  refine pm_enter 1 (by decide) (Nat.le_of_ble_eq_true rfl) rfl (fun G hG hR hF => ?_)
  unfold q_X12_isTested at hE
  refine pm_aloadn hG dX12_isTested_0 rfl ?_
  refine pm_getf hG dX12_isTested_1 (flX12_148 _ rfl) rfl rfl ?_
  refine pm_iconst (v := 1) hG dX12_isTested_4 (by decide) ?_
  refine pm_isub hG dX12_isTested_5 ?_
  refine fx_letv hE (fun x1 hE => ?_)
  refine pm_istoreXn (loc' := [some (.ref (B + 54)), some (.int x1)]) hG dX12_isTested_6 (by decide) (pm_c1b rfl) rfl ?_
  have loop7 : ∀ (k7 : Int32 → Option Int32), (∀  (x2_1 : Int32), k7  x2_1 = some R → pm_wp mX12_isTested G B 30 [some (.ref (B + 54)), some (.int x2_1)] [] 0 0 cnt (mst B S σ)) → ∀ (m7 : Nat)  (x2_1 : Int32), l_X12_isTested_7 S k7 m7  x2_1 = some R → pm_wp mX12_isTested G B 7 [some (.ref (B + 54)), some (.int x2_1)] [] 0 0 cnt (mst B S σ) := by
    intro k7 hk7 m7
    induction m7 with
    | zero => intro  x2_1 hE; exact fx_no hE
    | succ m7 ih7 =>
      intro  x2_1 hE
      rw [l_X12_isTested_7] at hE
      refine pm_iloadn hG dX12_isTested_7 rfl ?_
      refine pm_if_lt (tgt := 30) hG dX12_isTested_8 rfl (fun c3 => ?_) (fun c3 => ?_)
      · replace hE := fx_t c3 hE
        exact hk7 _ hE
      · replace hE := fx_f c3 hE
        refine pm_aloadn hG dX12_isTested_11 rfl ?_
        refine pm_getf hG dX12_isTested_12 (flX12_28 _ rfl) rfl rfl ?_
        refine pm_iloadn hG dX12_isTested_15 rfl ?_
        obtain ⟨j4, hj4, hE⟩ := fb_some hE
        refine fx_iald hG dX12_isTested_16 rfl hj4 ?_
        refine pm_callS (As := [.int (S.2 61 j4)]) (rest := []) hG hR dX12_isTested_17 (lkX12_151 _ rfl) okS_X12_rankOf (c_X12_rankOf (d := 1) (by decide) rfl) rfl rfl hdd (Nat.le_refl _) (Nat.le_refl _) (by decide) (fx_ki ?_)
        refine pm_iconst (v := 3) hG dX12_isTested_20 (by decide) ?_
        refine pm_icmp_le (tgt := 30) hG dX12_isTested_21 rfl (fun c5 => ?_) (fun c5 => ?_)
        · replace c5 := Int32.not_lt.mpr c5
          replace hE := fx_f c5 hE
          exact hk7 _ hE
        · replace c5 := Int32.not_le.mp c5
          replace hE := fx_t c5 hE
          refine pm_iincX (v := x2_1 + (-1)) (loc' := [some (.ref (B + 54)), some (.int (x2_1 + (-1)))]) hG dX12_isTested_24 rfl (by rfl) (by decide) (pm_c1b rfl) rfl ?_
          refine pm_goto (tgt := 7) hG dX12_isTested_27 rfl ?_
          exact ih7 _ hE
  refine loop7 _ (fun  x6_1 hE => ?_) _ _ hE
  refine pm_iloadn hG dX12_isTested_30 rfl ?_
  refine pm_if_lt (tgt := 51) hG dX12_isTested_31 rfl (fun c7 => ?_) (fun c7 => ?_)
  · replace hE := fx_t c7 hE
    refine pm_iconst (v := 0) hG dX12_isTested_51 (by decide) ?_
    exact pm_zret hG hF dX12_isTested_52 rfl (by rfl) (Nat.le_refl _) (Nat.le_refl _) (fx_pi (Option.some.inj hE))
  · replace hE := fx_f c7 hE
    refine pm_aloadn hG dX12_isTested_34 rfl ?_
    refine pm_getf hG dX12_isTested_35 (flX12_28 _ rfl) rfl rfl ?_
    refine pm_iloadn hG dX12_isTested_38 rfl ?_
    obtain ⟨j8, hj8, hE⟩ := fb_some hE
    refine fx_iald hG dX12_isTested_39 rfl hj8 ?_
    refine pm_callS (As := [.int (S.2 61 j8)]) (rest := []) hG hR dX12_isTested_40 (lkX12_151 _ rfl) okS_X12_rankOf (c_X12_rankOf (d := 1) (by decide) rfl) rfl rfl hdd (Nat.le_refl _) (Nat.le_refl _) (by decide) (fx_ki ?_)
    refine pm_iconst (v := 3) hG dX12_isTested_43 (by decide) ?_
    refine pm_icmp_ne (tgt := 51) hG dX12_isTested_44 rfl (fun c9 => ?_) (fun c9 => ?_)
    · replace hE := fx_f c9 hE
      refine pm_iconst (v := 0) hG dX12_isTested_51 (by decide) ?_
      exact pm_zret hG hF dX12_isTested_52 rfl (by rfl) (Nat.le_refl _) (Nat.le_refl _) (fx_pi (Option.some.inj hE))
    · replace hE := fx_t c9 hE
      refine pm_iconst (v := 1) hG dX12_isTested_47 (by decide) ?_
      refine pm_goto (tgt := 52) hG dX12_isTested_48 rfl ?_
      exact pm_zret hG hF dX12_isTested_52 rfl (by rfl) (Nat.le_refl _) (Nat.le_refl _) (fx_pi (Option.some.inj hE))

set_option maxRecDepth 100000 in
set_option maxHeartbeats 4000000 in
theorem c_X12_lays {d : Nat} {B cnt : Nat} {σ : pm_S} {S : FS} {za : Int32} {R : Int32 × FS} (hdd : 1 ≤ d) (hE : f_X12_lays S za = some R) : pm_met mX12_lays d 0 0 B [.ref (B + 54), .int za] cnt (mst B S σ) (pm_Qv (fun σ' cnt' => σ' = (mst B R.2 σ) ∧ cnt' = cnt)) := by
  refine pm_enter 0 (by decide) (Nat.le_of_ble_eq_true rfl) rfl (fun G hG hR hF => ?_)
  unfold f_X12_lays at hE
  refine pm_aloadn hG dX12_lays_0 rfl ?_
  refine pm_getf hG dX12_lays_1 (flX12_25 _ rfl) rfl rfl ?_
  refine pm_aloadn hG dX12_lays_4 rfl ?_
  refine pm_getf hG dX12_lays_5 (flX12_144 _ rfl) rfl rfl ?_
  refine pm_iloadn hG dX12_lays_8 rfl ?_
  obtain ⟨j1, hj1, hE⟩ := fb_some hE
  refine fx_iast hG dX12_lays_9 rfl hj1 ?_
  refine ma_60 ?_
  refine fx_letm hE (fun S2 hE => ?_)
  refine pm_aloadn hG dX12_lays_10 rfl ?_
  refine pm_dup hG dX12_lays_11 rfl ?_
  refine pm_getf hG dX12_lays_12 (flX12_144 _ rfl) rfl rfl ?_
  refine pm_iconst (v := 1) hG dX12_lays_15 (by decide) ?_
  refine pm_iadd hG dX12_lays_16 ?_
  refine pm_putf hG dX12_lays_17 (fwX12_144 _ rfl) rfl rfl rfl ?_
  refine mi_10 ?_
  refine fx_letm hE (fun S3 hE => ?_)
  exact pm_vret hG hF dX12_lays_20 rfl (Nat.le_refl _) (Nat.le_refl _) (fx_rvm hE)

set_option maxRecDepth 100000 in
set_option maxHeartbeats 4000000 in
theorem c_X12_settles {d : Nat} {B cnt : Nat} {σ : pm_S} {S : FS} {za : Int32} {R : Int32 × FS} (hdd : 2 ≤ d) (hE : f_X12_settles S za = some R) : pm_met mX12_settles d 0 0 B [.ref (B + 54), .int za] cnt (mst B S σ) (pm_Qv (fun σ' cnt' => σ' = (mst B R.2 σ) ∧ cnt' = cnt)) := by
  refine pm_enter 0 (by decide) (Nat.le_of_ble_eq_true rfl) rfl (fun G hG hR hF => ?_)
  unfold f_X12_settles at hE
  have loop0 : ∀ (k0 : FS → Option (Int32 × FS)), (∀ (S1 : FS), k0 S1  = some R → pm_wp mX12_settles G B 54 [some (.ref (B + 54)), some (.int za)] [] 0 0 cnt (mst B S1 σ)) → ∀ (m0 : Nat) (S1 : FS), l_X12_settles_0 za k0 m0 S1  = some R → pm_wp mX12_settles G B 0 [some (.ref (B + 54)), some (.int za)] [] 0 0 cnt (mst B S1 σ) := by
    intro k0 hk0 m0
    induction m0 with
    | zero => intro S1  hE; exact fx_no hE
    | succ m0 ih0 =>
      intro S1  hE
      rw [l_X12_settles_0] at hE
      refine pm_aloadn hG dX12_settles_0 rfl ?_
      refine pm_getf hG dX12_settles_1 (flX12_148 _ rfl) rfl rfl ?_
      refine pm_if_le (tgt := 54) hG dX12_settles_4 rfl (fun c2 => ?_) (fun c2 => ?_)
      · replace c2 := Int32.not_lt.mpr c2
        replace hE := fx_f c2 hE
        exact hk0 _ hE
      · replace c2 := Int32.not_le.mp c2
        replace hE := fx_t c2 hE
        refine pm_aloadn hG dX12_settles_7 rfl ?_
        refine pm_getf hG dX12_settles_8 (flX12_28 _ rfl) rfl rfl ?_
        refine pm_aloadn hG dX12_settles_11 rfl ?_
        refine pm_getf hG dX12_settles_12 (flX12_148 _ rfl) rfl rfl ?_
        refine pm_iconst (v := 1) hG dX12_settles_15 (by decide) ?_
        refine pm_isub hG dX12_settles_16 ?_
        obtain ⟨j3, hj3, hE⟩ := fb_some hE
        refine fx_iald hG dX12_settles_17 rfl hj3 ?_
        refine pm_callS (As := [.int (S1.2 61 j3)]) (rest := []) hG hR dX12_settles_18 (lkX12_151 _ rfl) okS_X12_rankOf (c_X12_rankOf (d := 1) (by decide) rfl) rfl rfl hdd (Nat.le_refl _) (Nat.le_refl _) (by decide) (fx_ki ?_)
        refine pm_iloadn hG dX12_settles_21 rfl ?_
        refine pm_icmp_lt (tgt := 54) hG dX12_settles_22 rfl (fun c4 => ?_) (fun c4 => ?_)
        · replace hE := fx_t c4 hE
          exact hk0 _ hE
        · replace hE := fx_f c4 hE
          refine pm_aloadn hG dX12_settles_25 rfl ?_
          refine pm_dup hG dX12_settles_26 rfl ?_
          refine pm_getf hG dX12_settles_27 (flX12_148 _ rfl) rfl rfl ?_
          refine pm_iconst (v := 1) hG dX12_settles_30 (by decide) ?_
          refine pm_isub hG dX12_settles_31 ?_
          refine pm_putf hG dX12_settles_32 (fwX12_148 _ rfl) rfl rfl rfl ?_
          refine mi_11 ?_
          refine fx_letm hE (fun S5 hE => ?_)
          refine pm_aloadn hG dX12_settles_35 rfl ?_
          refine pm_bipush (v := (-100)) hG dX12_settles_36 (by decide) ?_
          refine pm_aloadn hG dX12_settles_38 rfl ?_
          refine pm_getf hG dX12_settles_39 (flX12_28 _ rfl) rfl rfl ?_
          refine pm_aloadn hG dX12_settles_42 rfl ?_
          refine pm_getf hG dX12_settles_43 (flX12_148 _ rfl) rfl rfl ?_
          obtain ⟨j6, hj6, hE⟩ := fb_some hE
          refine fx_iald hG dX12_settles_46 rfl hj6 ?_
          refine pm_isub hG dX12_settles_47 ?_
          obtain ⟨r8, h7, hE⟩ := fb_some hE
          refine pm_callV (As := [.int ((-100) - (S5.2 61 j6))]) (rest := []) hG hR dX12_settles_48 (lkX12_154 _ rfl) okV_X12_lays rfl rfl (c_X12_lays (d := 1) (by decide) h7) rfl rfl hdd (Nat.le_refl _) (Nat.le_refl _) (by decide) (fx_kv ?_)
          refine pm_goto (tgt := 0) hG dX12_settles_51 rfl ?_
          exact ih0 _ hE
  refine loop0 _ (fun S9 hE => ?_) _ _ hE
  exact pm_vret hG hF dX12_settles_54 rfl (Nat.le_refl _) (Nat.le_refl _) (fx_rvm hE)

set_option maxRecDepth 100000 in
set_option maxHeartbeats 4000000 in
theorem c_X12_openMany {d : Nat} {B cnt : Nat} {σ : pm_S} {S : FS} {R : Int32} (hdd : 1 ≤ d) (hE : q_X12_openMany S = some R) : pm_met mX12_openMany d 0 0 B [.ref (B + 54)] cnt (mst B S σ) (pm_Qi (fun v σ' cnt' => v = R ∧ σ' = (mst B S σ) ∧ cnt' = cnt)) := by
  refine pm_enter 2 (by decide) (Nat.le_of_ble_eq_true rfl) rfl (fun G hG hR hF => ?_)
  unfold q_X12_openMany at hE
  refine pm_iconst (v := 0) hG dX12_openMany_0 (by decide) ?_
  refine pm_istoreXn (loc' := [some (.ref (B + 54)), some (.int 0), none]) hG dX12_openMany_1 (by decide) (pm_c1b rfl) rfl ?_
  refine pm_iconst (v := 0) hG dX12_openMany_2 (by decide) ?_
  refine pm_istoreXn (loc' := [some (.ref (B + 54)), some (.int 0), some (.int 0)]) hG dX12_openMany_3 (by decide) (pm_c1b rfl) rfl ?_
  have loop4 : ∀ (k4 : Int32 → Int32 → Option Int32), (∀  (x1_1 : Int32) (x1_2 : Int32), k4  x1_1 x1_2 = some R → pm_wp mX12_openMany G B 48 [some (.ref (B + 54)), some (.int x1_1), some (.int x1_2)] [] 0 0 cnt (mst B S σ)) → ∀ (m4 : Nat)  (x1_1 : Int32) (x1_2 : Int32), l_X12_openMany_4 S k4 m4  x1_1 x1_2 = some R → pm_wp mX12_openMany G B 4 [some (.ref (B + 54)), some (.int x1_1), some (.int x1_2)] [] 0 0 cnt (mst B S σ) := by
    intro k4 hk4 m4
    induction m4 with
    | zero => intro  x1_1 x1_2 hE; exact fx_no hE
    | succ m4 ih4 =>
      intro  x1_1 x1_2 hE
      rw [l_X12_openMany_4] at hE
      refine pm_iloadn hG dX12_openMany_4 rfl ?_
      refine pm_aloadn hG dX12_openMany_5 rfl ?_
      refine pm_getf hG dX12_openMany_6 (flX12_148 _ rfl) rfl rfl ?_
      refine pm_icmp_ge (tgt := 48) hG dX12_openMany_9 rfl (fun c2 => ?_) (fun c2 => ?_)
      · replace c2 := Int32.not_lt.mpr c2
        replace hE := fx_f c2 hE
        exact hk4 _ _ hE
      · replace c2 := Int32.not_le.mp c2
        replace hE := fx_t c2 hE
        refine pm_iloadn hG dX12_openMany_12 rfl ?_
        refine pm_aloadn hG dX12_openMany_13 rfl ?_
        refine pm_getf hG dX12_openMany_14 (flX12_28 _ rfl) rfl rfl ?_
        refine pm_iloadn hG dX12_openMany_17 rfl ?_
        obtain ⟨j3, hj3, hE⟩ := fb_some hE
        refine fx_iald hG dX12_openMany_18 rfl hj3 ?_
        refine pm_bipush (v := 33) hG dX12_openMany_19 (by decide) ?_
        refine pm_icmp_eq (tgt := 35) hG dX12_openMany_21 rfl (fun c4 => ?_) (fun c4 => ?_)
        · replace hE := fx_t c4 hE
          refine pm_iconst (v := 1) hG dX12_openMany_35 (by decide) ?_
          refine pm_goto (tgt := 40) hG dX12_openMany_36 rfl ?_
          refine pm_iadd hG dX12_openMany_40 ?_
          refine fx_letv hE (fun x5 hE => ?_)
          refine pm_istoreXn (loc' := [some (.ref (B + 54)), some (.int x5), some (.int x1_2)]) hG dX12_openMany_41 (by decide) (pm_c1b rfl) rfl ?_
          refine pm_iincX (v := x1_2 + 1) (loc' := [some (.ref (B + 54)), some (.int x5), some (.int (x1_2 + 1))]) hG dX12_openMany_42 rfl (by rfl) (by decide) (pm_c1b rfl) rfl ?_
          refine pm_goto (tgt := 4) hG dX12_openMany_45 rfl ?_
          exact ih4 _ _ hE
        · replace hE := fx_f c4 hE
          refine pm_aloadn hG dX12_openMany_24 rfl ?_
          refine pm_getf hG dX12_openMany_25 (flX12_28 _ rfl) rfl rfl ?_
          refine pm_iloadn hG dX12_openMany_28 rfl ?_
          refine fx_iald hG dX12_openMany_29 rfl hj3 ?_
          refine pm_bipush (v := 40) hG dX12_openMany_30 (by decide) ?_
          refine pm_icmp_ne (tgt := 39) hG dX12_openMany_32 rfl (fun c6 => ?_) (fun c6 => ?_)
          · replace hE := fx_f c6 hE
            refine pm_iconst (v := 0) hG dX12_openMany_39 (by decide) ?_
            refine pm_iadd hG dX12_openMany_40 ?_
            refine fx_letv hE (fun x7 hE => ?_)
            refine pm_istoreXn (loc' := [some (.ref (B + 54)), some (.int x7), some (.int x1_2)]) hG dX12_openMany_41 (by decide) (pm_c1b rfl) rfl ?_
            refine pm_iincX (v := x1_2 + 1) (loc' := [some (.ref (B + 54)), some (.int x7), some (.int (x1_2 + 1))]) hG dX12_openMany_42 rfl (by rfl) (by decide) (pm_c1b rfl) rfl ?_
            refine pm_goto (tgt := 4) hG dX12_openMany_45 rfl ?_
            exact ih4 _ _ hE
          · replace hE := fx_t c6 hE
            refine pm_iconst (v := 1) hG dX12_openMany_35 (by decide) ?_
            refine pm_goto (tgt := 40) hG dX12_openMany_36 rfl ?_
            refine pm_iadd hG dX12_openMany_40 ?_
            refine fx_letv hE (fun x8 hE => ?_)
            refine pm_istoreXn (loc' := [some (.ref (B + 54)), some (.int x8), some (.int x1_2)]) hG dX12_openMany_41 (by decide) (pm_c1b rfl) rfl ?_
            refine pm_iincX (v := x1_2 + 1) (loc' := [some (.ref (B + 54)), some (.int x8), some (.int (x1_2 + 1))]) hG dX12_openMany_42 rfl (by rfl) (by decide) (pm_c1b rfl) rfl ?_
            refine pm_goto (tgt := 4) hG dX12_openMany_45 rfl ?_
            exact ih4 _ _ hE
  refine loop4 _ (fun  x9_1 x9_2 hE => ?_) _ _ _ hE
  refine pm_iloadn hG dX12_openMany_48 rfl ?_
  exact pm_iret hG hF dX12_openMany_49 rfl (Nat.le_refl _) (Nat.le_refl _) (fx_pi (Option.some.inj hE))

set_option maxRecDepth 100000 in
set_option maxHeartbeats 4000000 in
theorem c_X12_nameOf {d : Nat} {B cnt : Nat} {σ : pm_S} {S : FS} {za : Int32} {R : Int32} (hdd : 1 ≤ d) (hE : p_X12_nameOf S za = R) : pm_met mX12_nameOf d 0 0 B [.int za] cnt (mst B S σ) (pm_Qi (fun v σ' cnt' => v = R ∧ σ' = (mst B S σ) ∧ cnt' = cnt)) := by
  refine pm_enter 0 (by decide) (Nat.le_of_ble_eq_true rfl) rfl (fun G hG hR hF => ?_)
  unfold p_X12_nameOf at hE
  refine pm_iloadn hG dX12_nameOf_0 rfl ?_
  by_cases c1 : za = 97
  · replace hE := fx_t c1 hE
    refine pm_top (v := 97) c1 ?_
    refine pm_tswIn (tgt := 116) hG dX12_nameOf_1 (by decide) (by decide) rfl rfl ?_
    refine pm_iconst (v := 1) hG dX12_nameOf_116 (by decide) ?_
    exact pm_iret hG hF dX12_nameOf_117 rfl  (Nat.le_refl _) (Nat.le_refl _) (fx_pi hE)
  replace hE := fx_f c1 hE
  by_cases c2 : za = 98
  · replace hE := fx_t c2 hE
    refine pm_top (v := 98) c2 ?_
    refine pm_tswIn (tgt := 129) hG dX12_nameOf_1 (by decide) (by decide) rfl rfl ?_
    refine pm_bipush (v := 7) hG dX12_nameOf_129 (by decide) ?_
    exact pm_iret hG hF dX12_nameOf_131 rfl  (Nat.le_refl _) (Nat.le_refl _) (fx_pi hE)
  replace hE := fx_f c2 hE
  by_cases c3 : za = 99
  · replace hE := fx_t c3 hE
    refine pm_top (v := 99) c3 ?_
    refine pm_tswIn (tgt := 122) hG dX12_nameOf_1 (by decide) (by decide) rfl rfl ?_
    refine pm_iconst (v := 4) hG dX12_nameOf_122 (by decide) ?_
    exact pm_iret hG hF dX12_nameOf_123 rfl  (Nat.le_refl _) (Nat.le_refl _) (fx_pi hE)
  replace hE := fx_f c3 hE
  by_cases c4 : za = 100
  · replace hE := fx_t c4 hE
    refine pm_top (v := 100) c4 ?_
    refine pm_tswIn (tgt := 141) hG dX12_nameOf_1 (by decide) (by decide) rfl rfl ?_
    refine pm_iloadn hG dX12_nameOf_141 rfl ?_
    refine pm_bipush (v := 100) hG dX12_nameOf_142 (by decide) ?_
    refine pm_icmp_ne (tgt := 152) hG dX12_nameOf_144 rfl (fun q => absurd c4 q) (fun _ => ?_)
    refine pm_bipush (v := 11) hG dX12_nameOf_147 (by decide) ?_
    refine pm_goto (tgt := 153) hG dX12_nameOf_149 rfl ?_
    exact pm_iret hG hF dX12_nameOf_153 rfl  (Nat.le_refl _) (Nat.le_refl _) (fx_pi hE)
  replace hE := fx_f c4 hE
  by_cases c5 : za = 101
  · replace hE := fx_t c5 hE
    refine pm_top (v := 101) c5 ?_
    refine pm_tswIn (tgt := 141) hG dX12_nameOf_1 (by decide) (by decide) rfl rfl ?_
    refine pm_iloadn hG dX12_nameOf_141 rfl ?_
    refine pm_bipush (v := 100) hG dX12_nameOf_142 (by decide) ?_
    refine pm_icmp_ne (tgt := 152) hG dX12_nameOf_144 rfl (fun _ => ?_) (fun q => absurd q c4)
    refine pm_iconst (v := 0) hG dX12_nameOf_152 (by decide) ?_
    exact pm_iret hG hF dX12_nameOf_153 rfl  (Nat.le_refl _) (Nat.le_refl _) (fx_pi hE)
  replace hE := fx_f c5 hE
  by_cases c6 : za = 102
  · replace hE := fx_t c6 hE
    refine pm_top (v := 102) c6 ?_
    refine pm_tswIn (tgt := 141) hG dX12_nameOf_1 (by decide) (by decide) rfl rfl ?_
    refine pm_iloadn hG dX12_nameOf_141 rfl ?_
    refine pm_bipush (v := 100) hG dX12_nameOf_142 (by decide) ?_
    refine pm_icmp_ne (tgt := 152) hG dX12_nameOf_144 rfl (fun _ => ?_) (fun q => absurd q c4)
    refine pm_iconst (v := 0) hG dX12_nameOf_152 (by decide) ?_
    exact pm_iret hG hF dX12_nameOf_153 rfl  (Nat.le_refl _) (Nat.le_refl _) (fx_pi hE)
  replace hE := fx_f c6 hE
  by_cases c7 : za = 103
  · replace hE := fx_t c7 hE
    refine pm_top (v := 103) c7 ?_
    refine pm_tswIn (tgt := 141) hG dX12_nameOf_1 (by decide) (by decide) rfl rfl ?_
    refine pm_iloadn hG dX12_nameOf_141 rfl ?_
    refine pm_bipush (v := 100) hG dX12_nameOf_142 (by decide) ?_
    refine pm_icmp_ne (tgt := 152) hG dX12_nameOf_144 rfl (fun _ => ?_) (fun q => absurd q c4)
    refine pm_iconst (v := 0) hG dX12_nameOf_152 (by decide) ?_
    exact pm_iret hG hF dX12_nameOf_153 rfl  (Nat.le_refl _) (Nat.le_refl _) (fx_pi hE)
  replace hE := fx_f c7 hE
  by_cases c8 : za = 104
  · replace hE := fx_t c8 hE
    refine pm_top (v := 104) c8 ?_
    refine pm_tswIn (tgt := 141) hG dX12_nameOf_1 (by decide) (by decide) rfl rfl ?_
    refine pm_iloadn hG dX12_nameOf_141 rfl ?_
    refine pm_bipush (v := 100) hG dX12_nameOf_142 (by decide) ?_
    refine pm_icmp_ne (tgt := 152) hG dX12_nameOf_144 rfl (fun _ => ?_) (fun q => absurd q c4)
    refine pm_iconst (v := 0) hG dX12_nameOf_152 (by decide) ?_
    exact pm_iret hG hF dX12_nameOf_153 rfl  (Nat.le_refl _) (Nat.le_refl _) (fx_pi hE)
  replace hE := fx_f c8 hE
  by_cases c9 : za = 105
  · replace hE := fx_t c9 hE
    refine pm_top (v := 105) c9 ?_
    refine pm_tswIn (tgt := 141) hG dX12_nameOf_1 (by decide) (by decide) rfl rfl ?_
    refine pm_iloadn hG dX12_nameOf_141 rfl ?_
    refine pm_bipush (v := 100) hG dX12_nameOf_142 (by decide) ?_
    refine pm_icmp_ne (tgt := 152) hG dX12_nameOf_144 rfl (fun _ => ?_) (fun q => absurd q c4)
    refine pm_iconst (v := 0) hG dX12_nameOf_152 (by decide) ?_
    exact pm_iret hG hF dX12_nameOf_153 rfl  (Nat.le_refl _) (Nat.le_refl _) (fx_pi hE)
  replace hE := fx_f c9 hE
  by_cases c10 : za = 106
  · replace hE := fx_t c10 hE
    refine pm_top (v := 106) c10 ?_
    refine pm_tswIn (tgt := 141) hG dX12_nameOf_1 (by decide) (by decide) rfl rfl ?_
    refine pm_iloadn hG dX12_nameOf_141 rfl ?_
    refine pm_bipush (v := 100) hG dX12_nameOf_142 (by decide) ?_
    refine pm_icmp_ne (tgt := 152) hG dX12_nameOf_144 rfl (fun _ => ?_) (fun q => absurd q c4)
    refine pm_iconst (v := 0) hG dX12_nameOf_152 (by decide) ?_
    exact pm_iret hG hF dX12_nameOf_153 rfl  (Nat.le_refl _) (Nat.le_refl _) (fx_pi hE)
  replace hE := fx_f c10 hE
  by_cases c11 : za = 107
  · replace hE := fx_t c11 hE
    refine pm_top (v := 107) c11 ?_
    refine pm_tswIn (tgt := 120) hG dX12_nameOf_1 (by decide) (by decide) rfl rfl ?_
    refine pm_iconst (v := 3) hG dX12_nameOf_120 (by decide) ?_
    exact pm_iret hG hF dX12_nameOf_121 rfl  (Nat.le_refl _) (Nat.le_refl _) (fx_pi hE)
  replace hE := fx_f c11 hE
  by_cases c12 : za = 108
  · replace hE := fx_t c12 hE
    refine pm_top (v := 108) c12 ?_
    refine pm_tswIn (tgt := 141) hG dX12_nameOf_1 (by decide) (by decide) rfl rfl ?_
    refine pm_iloadn hG dX12_nameOf_141 rfl ?_
    refine pm_bipush (v := 100) hG dX12_nameOf_142 (by decide) ?_
    refine pm_icmp_ne (tgt := 152) hG dX12_nameOf_144 rfl (fun _ => ?_) (fun q => absurd q c4)
    refine pm_iconst (v := 0) hG dX12_nameOf_152 (by decide) ?_
    exact pm_iret hG hF dX12_nameOf_153 rfl  (Nat.le_refl _) (Nat.le_refl _) (fx_pi hE)
  replace hE := fx_f c12 hE
  by_cases c13 : za = 109
  · replace hE := fx_t c13 hE
    refine pm_top (v := 109) c13 ?_
    refine pm_tswIn (tgt := 124) hG dX12_nameOf_1 (by decide) (by decide) rfl rfl ?_
    refine pm_iconst (v := 5) hG dX12_nameOf_124 (by decide) ?_
    exact pm_iret hG hF dX12_nameOf_125 rfl  (Nat.le_refl _) (Nat.le_refl _) (fx_pi hE)
  replace hE := fx_f c13 hE
  by_cases c14 : za = 110
  · replace hE := fx_t c14 hE
    refine pm_top (v := 110) c14 ?_
    refine pm_tswIn (tgt := 141) hG dX12_nameOf_1 (by decide) (by decide) rfl rfl ?_
    refine pm_iloadn hG dX12_nameOf_141 rfl ?_
    refine pm_bipush (v := 100) hG dX12_nameOf_142 (by decide) ?_
    refine pm_icmp_ne (tgt := 152) hG dX12_nameOf_144 rfl (fun _ => ?_) (fun q => absurd q c4)
    refine pm_iconst (v := 0) hG dX12_nameOf_152 (by decide) ?_
    exact pm_iret hG hF dX12_nameOf_153 rfl  (Nat.le_refl _) (Nat.le_refl _) (fx_pi hE)
  replace hE := fx_f c14 hE
  by_cases c15 : za = 111
  · replace hE := fx_t c15 hE
    refine pm_top (v := 111) c15 ?_
    refine pm_tswIn (tgt := 135) hG dX12_nameOf_1 (by decide) (by decide) rfl rfl ?_
    refine pm_bipush (v := 9) hG dX12_nameOf_135 (by decide) ?_
    exact pm_iret hG hF dX12_nameOf_137 rfl  (Nat.le_refl _) (Nat.le_refl _) (fx_pi hE)
  replace hE := fx_f c15 hE
  by_cases c16 : za = 112
  · replace hE := fx_t c16 hE
    refine pm_top (v := 112) c16 ?_
    refine pm_tswIn (tgt := 141) hG dX12_nameOf_1 (by decide) (by decide) rfl rfl ?_
    refine pm_iloadn hG dX12_nameOf_141 rfl ?_
    refine pm_bipush (v := 100) hG dX12_nameOf_142 (by decide) ?_
    refine pm_icmp_ne (tgt := 152) hG dX12_nameOf_144 rfl (fun _ => ?_) (fun q => absurd q c4)
    refine pm_iconst (v := 0) hG dX12_nameOf_152 (by decide) ?_
    exact pm_iret hG hF dX12_nameOf_153 rfl  (Nat.le_refl _) (Nat.le_refl _) (fx_pi hE)
  replace hE := fx_f c16 hE
  by_cases c17 : za = 113
  · replace hE := fx_t c17 hE
    refine pm_top (v := 113) c17 ?_
    refine pm_tswIn (tgt := 141) hG dX12_nameOf_1 (by decide) (by decide) rfl rfl ?_
    refine pm_iloadn hG dX12_nameOf_141 rfl ?_
    refine pm_bipush (v := 100) hG dX12_nameOf_142 (by decide) ?_
    refine pm_icmp_ne (tgt := 152) hG dX12_nameOf_144 rfl (fun _ => ?_) (fun q => absurd q c4)
    refine pm_iconst (v := 0) hG dX12_nameOf_152 (by decide) ?_
    exact pm_iret hG hF dX12_nameOf_153 rfl  (Nat.le_refl _) (Nat.le_refl _) (fx_pi hE)
  replace hE := fx_f c17 hE
  by_cases c18 : za = 114
  · replace hE := fx_t c18 hE
    refine pm_top (v := 114) c18 ?_
    refine pm_tswIn (tgt := 141) hG dX12_nameOf_1 (by decide) (by decide) rfl rfl ?_
    refine pm_iloadn hG dX12_nameOf_141 rfl ?_
    refine pm_bipush (v := 100) hG dX12_nameOf_142 (by decide) ?_
    refine pm_icmp_ne (tgt := 152) hG dX12_nameOf_144 rfl (fun _ => ?_) (fun q => absurd q c4)
    refine pm_iconst (v := 0) hG dX12_nameOf_152 (by decide) ?_
    exact pm_iret hG hF dX12_nameOf_153 rfl  (Nat.le_refl _) (Nat.le_refl _) (fx_pi hE)
  replace hE := fx_f c18 hE
  by_cases c19 : za = 115
  · replace hE := fx_t c19 hE
    refine pm_top (v := 115) c19 ?_
    refine pm_tswIn (tgt := 118) hG dX12_nameOf_1 (by decide) (by decide) rfl rfl ?_
    refine pm_iconst (v := 2) hG dX12_nameOf_118 (by decide) ?_
    exact pm_iret hG hF dX12_nameOf_119 rfl  (Nat.le_refl _) (Nat.le_refl _) (fx_pi hE)
  replace hE := fx_f c19 hE
  by_cases c20 : za = 116
  · replace hE := fx_t c20 hE
    refine pm_top (v := 116) c20 ?_
    refine pm_tswIn (tgt := 126) hG dX12_nameOf_1 (by decide) (by decide) rfl rfl ?_
    refine pm_bipush (v := 6) hG dX12_nameOf_126 (by decide) ?_
    exact pm_iret hG hF dX12_nameOf_128 rfl  (Nat.le_refl _) (Nat.le_refl _) (fx_pi hE)
  replace hE := fx_f c20 hE
  by_cases c21 : za = 117
  · replace hE := fx_t c21 hE
    refine pm_top (v := 117) c21 ?_
    refine pm_tswIn (tgt := 141) hG dX12_nameOf_1 (by decide) (by decide) rfl rfl ?_
    refine pm_iloadn hG dX12_nameOf_141 rfl ?_
    refine pm_bipush (v := 100) hG dX12_nameOf_142 (by decide) ?_
    refine pm_icmp_ne (tgt := 152) hG dX12_nameOf_144 rfl (fun _ => ?_) (fun q => absurd q c4)
    refine pm_iconst (v := 0) hG dX12_nameOf_152 (by decide) ?_
    exact pm_iret hG hF dX12_nameOf_153 rfl  (Nat.le_refl _) (Nat.le_refl _) (fx_pi hE)
  replace hE := fx_f c21 hE
  by_cases c22 : za = 118
  · replace hE := fx_t c22 hE
    refine pm_top (v := 118) c22 ?_
    refine pm_tswIn (tgt := 141) hG dX12_nameOf_1 (by decide) (by decide) rfl rfl ?_
    refine pm_iloadn hG dX12_nameOf_141 rfl ?_
    refine pm_bipush (v := 100) hG dX12_nameOf_142 (by decide) ?_
    refine pm_icmp_ne (tgt := 152) hG dX12_nameOf_144 rfl (fun _ => ?_) (fun q => absurd q c4)
    refine pm_iconst (v := 0) hG dX12_nameOf_152 (by decide) ?_
    exact pm_iret hG hF dX12_nameOf_153 rfl  (Nat.le_refl _) (Nat.le_refl _) (fx_pi hE)
  replace hE := fx_f c22 hE
  by_cases c23 : za = 119
  · replace hE := fx_t c23 hE
    refine pm_top (v := 119) c23 ?_
    refine pm_tswIn (tgt := 138) hG dX12_nameOf_1 (by decide) (by decide) rfl rfl ?_
    refine pm_bipush (v := 10) hG dX12_nameOf_138 (by decide) ?_
    exact pm_iret hG hF dX12_nameOf_140 rfl  (Nat.le_refl _) (Nat.le_refl _) (fx_pi hE)
  replace hE := fx_f c23 hE
  by_cases c24 : za = 120
  · replace hE := fx_t c24 hE
    refine pm_top (v := 120) c24 ?_
    refine pm_tswIn (tgt := 141) hG dX12_nameOf_1 (by decide) (by decide) rfl rfl ?_
    refine pm_iloadn hG dX12_nameOf_141 rfl ?_
    refine pm_bipush (v := 100) hG dX12_nameOf_142 (by decide) ?_
    refine pm_icmp_ne (tgt := 152) hG dX12_nameOf_144 rfl (fun _ => ?_) (fun q => absurd q c4)
    refine pm_iconst (v := 0) hG dX12_nameOf_152 (by decide) ?_
    exact pm_iret hG hF dX12_nameOf_153 rfl  (Nat.le_refl _) (Nat.le_refl _) (fx_pi hE)
  replace hE := fx_f c24 hE
  by_cases c25 : za = 121
  · replace hE := fx_t c25 hE
    refine pm_top (v := 121) c25 ?_
    refine pm_tswIn (tgt := 132) hG dX12_nameOf_1 (by decide) (by decide) rfl rfl ?_
    refine pm_bipush (v := 8) hG dX12_nameOf_132 (by decide) ?_
    exact pm_iret hG hF dX12_nameOf_134 rfl  (Nat.le_refl _) (Nat.le_refl _) (fx_pi hE)
  replace hE := fx_f c25 hE
  have tc1 : ¬ za.toInt = 97 := fun q => c1 (Int32.toInt_inj.mp q)
  have tc2 : ¬ za.toInt = 98 := fun q => c2 (Int32.toInt_inj.mp q)
  have tc3 : ¬ za.toInt = 99 := fun q => c3 (Int32.toInt_inj.mp q)
  have tc4 : ¬ za.toInt = 100 := fun q => c4 (Int32.toInt_inj.mp q)
  have tc5 : ¬ za.toInt = 101 := fun q => c5 (Int32.toInt_inj.mp q)
  have tc6 : ¬ za.toInt = 102 := fun q => c6 (Int32.toInt_inj.mp q)
  have tc7 : ¬ za.toInt = 103 := fun q => c7 (Int32.toInt_inj.mp q)
  have tc8 : ¬ za.toInt = 104 := fun q => c8 (Int32.toInt_inj.mp q)
  have tc9 : ¬ za.toInt = 105 := fun q => c9 (Int32.toInt_inj.mp q)
  have tc10 : ¬ za.toInt = 106 := fun q => c10 (Int32.toInt_inj.mp q)
  have tc11 : ¬ za.toInt = 107 := fun q => c11 (Int32.toInt_inj.mp q)
  have tc12 : ¬ za.toInt = 108 := fun q => c12 (Int32.toInt_inj.mp q)
  have tc13 : ¬ za.toInt = 109 := fun q => c13 (Int32.toInt_inj.mp q)
  have tc14 : ¬ za.toInt = 110 := fun q => c14 (Int32.toInt_inj.mp q)
  have tc15 : ¬ za.toInt = 111 := fun q => c15 (Int32.toInt_inj.mp q)
  have tc16 : ¬ za.toInt = 112 := fun q => c16 (Int32.toInt_inj.mp q)
  have tc17 : ¬ za.toInt = 113 := fun q => c17 (Int32.toInt_inj.mp q)
  have tc18 : ¬ za.toInt = 114 := fun q => c18 (Int32.toInt_inj.mp q)
  have tc19 : ¬ za.toInt = 115 := fun q => c19 (Int32.toInt_inj.mp q)
  have tc20 : ¬ za.toInt = 116 := fun q => c20 (Int32.toInt_inj.mp q)
  have tc21 : ¬ za.toInt = 117 := fun q => c21 (Int32.toInt_inj.mp q)
  have tc22 : ¬ za.toInt = 118 := fun q => c22 (Int32.toInt_inj.mp q)
  have tc23 : ¬ za.toInt = 119 := fun q => c23 (Int32.toInt_inj.mp q)
  have tc24 : ¬ za.toInt = 120 := fun q => c24 (Int32.toInt_inj.mp q)
  have tc25 : ¬ za.toInt = 121 := fun q => c25 (Int32.toInt_inj.mp q)
  refine pm_tswOut (tgt := 141) hG dX12_nameOf_1 (by omega) rfl ?_
  refine pm_iloadn hG dX12_nameOf_141 rfl ?_
  refine pm_bipush (v := 100) hG dX12_nameOf_142 (by decide) ?_
  refine pm_icmp_ne (tgt := 152) hG dX12_nameOf_144 rfl (fun _ => ?_) (fun q => absurd q c4)
  refine pm_iconst (v := 0) hG dX12_nameOf_152 (by decide) ?_
  exact pm_iret hG hF dX12_nameOf_153 rfl  (Nat.le_refl _) (Nat.le_refl _) (fx_pi hE)

set_option maxRecDepth 100000 in
set_option maxHeartbeats 4000000 in
theorem c_X12_readsOne {d : Nat} {B cnt : Nat} {σ : pm_S} {S : FS} {R : Int32 × FS} (hdd : 2 ≤ d) (hE : f_X12_readsOne S = some R) : pm_met mX12_readsOne d 0 0 B [.ref (B + 54)] cnt (mst B S σ) (pm_Qi (fun v σ' cnt' => v = R.1 ∧ σ' = (mst B R.2 σ) ∧ cnt' = cnt)) := by
  refine pm_enter 3 (by decide) (Nat.le_of_ble_eq_true rfl) rfl (fun G hG hR hF => ?_)
  unfold f_X12_readsOne at hE
  refine pm_aloadn hG dX12_readsOne_0 rfl ?_
  refine pm_aloadn hG dX12_readsOne_1 rfl ?_
  refine pm_getf hG dX12_readsOne_2 (flX12_157 _ rfl) rfl rfl ?_
  obtain ⟨x2, h1, hE⟩ := fb_some hE
  refine pm_callV (As := [.int (S.1 12)]) (rest := []) hG hR dX12_readsOne_5 (lkX12_160 _ rfl) okV_X12_byteAt rfl rfl (c_X12_byteAt (d := 1) (by decide) h1) rfl rfl hdd (Nat.le_refl _) (Nat.le_refl _) (by decide) (fx_ki ?_)
  refine pm_istoreXn (loc' := [some (.ref (B + 54)), some (.int x2), none, none]) hG dX12_readsOne_8 (by decide) (pm_c1b rfl) rfl ?_
  refine pm_iloadn hG dX12_readsOne_9 rfl ?_
  refine pm_bipush (v := 33) hG dX12_readsOne_10 (by decide) ?_
  refine pm_icmp_eq (tgt := 21) hG dX12_readsOne_12 rfl (fun c3 => ?_) (fun c3 => ?_)
  · replace hE := fx_t c3 hE
    refine pm_aloadn hG dX12_readsOne_21 rfl ?_
    obtain ⟨x5, h4, hE⟩ := fb_some hE
    refine pm_callV (As := []) (rest := []) hG hR dX12_readsOne_22 (lkX12_163 _ rfl) okV_X12_openMany rfl rfl (c_X12_openMany (d := 1) (by decide) h4) rfl rfl hdd (Nat.le_refl _) (Nat.le_refl _) (by decide) (fx_ki ?_)
    refine pm_iconst (v := 5) hG dX12_readsOne_25 (by decide) ?_
    refine pm_icmp_ne (tgt := 31) hG dX12_readsOne_26 rfl (fun c6 => ?_) (fun c6 => ?_)
    · replace hE := fx_f c6 hE
      refine pm_aloadn hG dX12_readsOne_31 rfl ?_
      refine pm_getf hG dX12_readsOne_32 (flX12_28 _ rfl) rfl rfl ?_
      refine pm_aloadn hG dX12_readsOne_35 rfl ?_
      refine pm_getf hG dX12_readsOne_36 (flX12_148 _ rfl) rfl rfl ?_
      refine pm_iloadn hG dX12_readsOne_39 rfl ?_
      obtain ⟨j7, hj7, hE⟩ := fb_some hE
      refine fx_iast hG dX12_readsOne_40 rfl hj7 ?_
      refine ma_61 ?_
      refine fx_letm hE (fun S8 hE => ?_)
      refine pm_aloadn hG dX12_readsOne_41 rfl ?_
      refine pm_dup hG dX12_readsOne_42 rfl ?_
      refine pm_getf hG dX12_readsOne_43 (flX12_148 _ rfl) rfl rfl ?_
      refine pm_iconst (v := 1) hG dX12_readsOne_46 (by decide) ?_
      refine pm_iadd hG dX12_readsOne_47 ?_
      refine pm_putf hG dX12_readsOne_48 (fwX12_148 _ rfl) rfl rfl rfl ?_
      refine mi_11 ?_
      refine fx_letm hE (fun S9 hE => ?_)
      refine pm_aloadn hG dX12_readsOne_51 rfl ?_
      refine pm_dup hG dX12_readsOne_52 rfl ?_
      refine pm_getf hG dX12_readsOne_53 (flX12_157 _ rfl) rfl rfl ?_
      refine pm_iconst (v := 1) hG dX12_readsOne_56 (by decide) ?_
      refine pm_iadd hG dX12_readsOne_57 ?_
      refine pm_putf hG dX12_readsOne_58 (fwX12_157 _ rfl) rfl rfl rfl ?_
      refine mi_12 ?_
      refine fx_letm hE (fun S10 hE => ?_)
      refine pm_iconst (v := 2) hG dX12_readsOne_61 (by decide) ?_
      exact pm_iret hG hF dX12_readsOne_62 rfl (Nat.le_refl _) (Nat.le_refl _) (fx_rim hE)
    · replace hE := fx_t c6 hE
      refine pm_iconst (v := 0) hG dX12_readsOne_29 (by decide) ?_
      exact pm_iret hG hF dX12_readsOne_30 rfl (Nat.le_refl _) (Nat.le_refl _) (fx_rim hE)
  · replace hE := fx_f c3 hE
    refine pm_iloadn hG dX12_readsOne_15 rfl ?_
    refine pm_bipush (v := 40) hG dX12_readsOne_16 (by decide) ?_
    refine pm_icmp_ne (tgt := 63) hG dX12_readsOne_18 rfl (fun c11 => ?_) (fun c11 => ?_)
    · replace hE := fx_f c11 hE
      refine pm_iloadn hG dX12_readsOne_63 rfl ?_
      refine pm_callS (As := [.int x2]) (rest := []) hG hR dX12_readsOne_64 (lkX12_167 _ rfl) okS_X12_nameOf (c_X12_nameOf (d := 1) (by decide) rfl) rfl rfl hdd (Nat.le_refl _) (Nat.le_refl _) (by decide) (fx_ki ?_)
      refine pm_if_le (tgt := 91) hG dX12_readsOne_67 rfl (fun c12 => ?_) (fun c12 => ?_)
      · replace c12 := Int32.not_lt.mpr c12
        replace hE := fx_f c12 hE
        refine pm_iconst (v := 0) hG dX12_readsOne_91 (by decide) ?_
        refine pm_istoreXn (loc' := [some (.ref (B + 54)), some (.int x2), some (.int 0), none]) hG dX12_readsOne_92 (by decide) (pm_c1b rfl) rfl ?_
        refine pm_aloadn hG dX12_readsOne_93 rfl ?_
        refine pm_getf hG dX12_readsOne_94 (flX12_157 _ rfl) rfl rfl ?_
        refine fx_letv hE (fun x13 hE => ?_)
        refine pm_istoreXn (loc' := [some (.ref (B + 54)), some (.int x2), some (.int 0), some (.int x13)]) hG dX12_readsOne_97 (by decide) (pm_c1b rfl) rfl ?_
        have loop98 : ∀ (k98 : FS → Int32 → Option (Int32 × FS)), (∀ (S14 : FS) (x14_2 : Int32), k98 S14  x14_2 = some R → pm_wp mX12_readsOne G B 152 [some (.ref (B + 54)), some (.int x2), some (.int x14_2), some (.int x13)] [] 0 0 cnt (mst B S14 σ)) → ∀ (m98 : Nat) (S14 : FS) (x14_2 : Int32), l_X12_readsOne_98 x13 k98 m98 S14  x14_2 = some R → pm_wp mX12_readsOne G B 98 [some (.ref (B + 54)), some (.int x2), some (.int x14_2), some (.int x13)] [] 0 0 cnt (mst B S14 σ) := by
          intro k98 hk98 m98
          induction m98 with
          | zero => intro S14  x14_2 hE; exact fx_no hE
          | succ m98 ih98 =>
            intro S14  x14_2 hE
            rw [l_X12_readsOne_98] at hE
            refine pm_aloadn hG dX12_readsOne_98 rfl ?_
            refine pm_aloadn hG dX12_readsOne_99 rfl ?_
            refine pm_getf hG dX12_readsOne_100 (flX12_157 _ rfl) rfl rfl ?_
            obtain ⟨x16, h15, hE⟩ := fb_some hE
            refine pm_callV (As := [.int (S14.1 12)]) (rest := []) hG hR dX12_readsOne_103 (lkX12_160 _ rfl) okV_X12_byteAt rfl rfl (c_X12_byteAt (d := 1) (by decide) h15) rfl rfl hdd (Nat.le_refl _) (Nat.le_refl _) (by decide) (fx_ki ?_)
            refine pm_callS (As := [.int x16]) (rest := []) hG hR dX12_readsOne_106 (lkX12_170 _ rfl) okS_X12_isDigit (c_X12_isDigit (d := 1) (by decide) rfl) rfl rfl hdd (Nat.le_refl _) (Nat.le_refl _) (by decide) (fx_ki ?_)
            refine pm_if_eq (tgt := 152) hG dX12_readsOne_109 rfl (fun c17 => ?_) (fun c17 => ?_)
            · replace hE := fx_t c17 hE
              exact hk98 _ _ hE
            · replace hE := fx_f c17 hE
              refine pm_aloadn hG dX12_readsOne_112 rfl ?_
              refine pm_getf hG dX12_readsOne_113 (flX12_157 _ rfl) rfl rfl ?_
              refine pm_iloadn hG dX12_readsOne_116 rfl ?_
              refine pm_isub hG dX12_readsOne_117 ?_
              refine pm_iconst (v := 4) hG dX12_readsOne_118 (by decide) ?_
              refine pm_icmp_ge (tgt := 152) hG dX12_readsOne_119 rfl (fun c18 => ?_) (fun c18 => ?_)
              · replace c18 := Int32.not_lt.mpr c18
                replace hE := fx_f c18 hE
                exact hk98 _ _ hE
              · replace c18 := Int32.not_le.mp c18
                replace hE := fx_t c18 hE
                refine pm_bipush (v := 10) hG dX12_readsOne_122 (by decide) ?_
                refine pm_iloadn hG dX12_readsOne_124 rfl ?_
                refine pm_imul hG dX12_readsOne_125 ?_
                refine pm_aloadn hG dX12_readsOne_126 rfl ?_
                refine pm_aloadn hG dX12_readsOne_127 rfl ?_
                refine pm_getf hG dX12_readsOne_128 (flX12_157 _ rfl) rfl rfl ?_
                obtain ⟨x20, h19, hE⟩ := fb_some hE
                refine pm_callV (As := [.int (S14.1 12)]) (rest := [.int (10 * x14_2)]) hG hR dX12_readsOne_131 (lkX12_160 _ rfl) okV_X12_byteAt rfl rfl (c_X12_byteAt (d := 1) (by decide) h19) rfl rfl hdd (Nat.le_refl _) (Nat.le_refl _) (by first | decide | exact Nat.le_of_ble_eq_true rfl) (fx_ki ?_)
                refine pm_iadd hG dX12_readsOne_134 ?_
                refine pm_bipush (v := 48) hG dX12_readsOne_135 (by decide) ?_
                refine pm_isub hG dX12_readsOne_137 ?_
                refine fx_letv hE (fun x21 hE => ?_)
                refine pm_istoreXn (loc' := [some (.ref (B + 54)), some (.int x2), some (.int x21), some (.int x13)]) hG dX12_readsOne_138 (by decide) (pm_c1b rfl) rfl ?_
                refine pm_aloadn hG dX12_readsOne_139 rfl ?_
                refine pm_dup hG dX12_readsOne_140 rfl ?_
                refine pm_getf hG dX12_readsOne_141 (flX12_157 _ rfl) rfl rfl ?_
                refine pm_iconst (v := 1) hG dX12_readsOne_144 (by decide) ?_
                refine pm_iadd hG dX12_readsOne_145 ?_
                refine pm_putf hG dX12_readsOne_146 (fwX12_157 _ rfl) rfl rfl rfl ?_
                refine mi_12 ?_
                refine fx_letm hE (fun S22 hE => ?_)
                refine pm_goto (tgt := 98) hG dX12_readsOne_149 rfl ?_
                exact ih98 _ _ hE
        refine loop98 _ (fun S23 x23_2 hE => ?_) _ _ _ hE
        refine pm_aloadn hG dX12_readsOne_152 rfl ?_
        refine pm_iloadn hG dX12_readsOne_153 rfl ?_
        obtain ⟨r25, h24, hE⟩ := fb_some hE
        refine pm_callV (As := [.int x23_2]) (rest := []) hG hR dX12_readsOne_154 (lkX12_154 _ rfl) okV_X12_lays rfl rfl (c_X12_lays (d := 1) (by decide) h24) rfl rfl hdd (Nat.le_refl _) (Nat.le_refl _) (by decide) (fx_kv ?_)
        refine pm_aloadn hG dX12_readsOne_157 rfl ?_
        refine pm_getf hG dX12_readsOne_158 (flX12_157 _ rfl) rfl rfl ?_
        refine pm_iloadn hG dX12_readsOne_161 rfl ?_
        refine pm_icmp_le (tgt := 183) hG dX12_readsOne_162 rfl (fun c26 => ?_) (fun c26 => ?_)
        · replace c26 := Int32.not_lt.mpr c26
          replace hE := fx_f c26 hE
          refine pm_iconst (v := 0) hG dX12_readsOne_183 (by decide) ?_
          exact pm_iret hG hF dX12_readsOne_184 rfl (Nat.le_refl _) (Nat.le_refl _) (fx_rim hE)
        · replace c26 := Int32.not_le.mp c26
          replace hE := fx_t c26 hE
          refine pm_aloadn hG dX12_readsOne_165 rfl ?_
          refine pm_aloadn hG dX12_readsOne_166 rfl ?_
          refine pm_getf hG dX12_readsOne_167 (flX12_157 _ rfl) rfl rfl ?_
          obtain ⟨x28, h27, hE⟩ := fb_some hE
          refine pm_callV (As := [.int (r25.2.1 12)]) (rest := []) hG hR dX12_readsOne_170 (lkX12_160 _ rfl) okV_X12_byteAt rfl rfl (c_X12_byteAt (d := 1) (by decide) h27) rfl rfl hdd (Nat.le_refl _) (Nat.le_refl _) (by decide) (fx_ki ?_)
          refine pm_callS (As := [.int x28]) (rest := []) hG hR dX12_readsOne_173 (lkX12_170 _ rfl) okS_X12_isDigit (c_X12_isDigit (d := 1) (by decide) rfl) rfl rfl hdd (Nat.le_refl _) (Nat.le_refl _) (by decide) (fx_ki ?_)
          refine pm_if_ne (tgt := 183) hG dX12_readsOne_176 rfl (fun c29 => ?_) (fun c29 => ?_)
          · replace hE := fx_f c29 hE
            refine pm_iconst (v := 0) hG dX12_readsOne_183 (by decide) ?_
            exact pm_iret hG hF dX12_readsOne_184 rfl (Nat.le_refl _) (Nat.le_refl _) (fx_rim hE)
          · replace hE := fx_t c29 hE
            refine pm_iconst (v := 1) hG dX12_readsOne_179 (by decide) ?_
            refine pm_goto (tgt := 184) hG dX12_readsOne_180 rfl ?_
            exact pm_iret hG hF dX12_readsOne_184 rfl (Nat.le_refl _) (Nat.le_refl _) (fx_rim hE)
      · replace c12 := Int32.not_le.mp c12
        replace hE := fx_t c12 hE
        refine pm_aloadn hG dX12_readsOne_70 rfl ?_
        refine pm_iloadn hG dX12_readsOne_71 rfl ?_
        refine pm_callS (As := [.int x2]) (rest := [.ref (B + 54)]) hG hR dX12_readsOne_72 (lkX12_167 _ rfl) okS_X12_nameOf (c_X12_nameOf (d := 1) (by decide) rfl) rfl rfl hdd (Nat.le_refl _) (Nat.le_refl _) (by first | decide | exact Nat.le_of_ble_eq_true rfl) (fx_ki ?_)
        refine pm_ineg hG dX12_readsOne_75 ?_
        obtain ⟨r31, h30, hE⟩ := fb_some hE
        refine pm_callV (As := [.int (-(p_X12_nameOf S x2))]) (rest := []) hG hR dX12_readsOne_76 (lkX12_154 _ rfl) okV_X12_lays rfl rfl (c_X12_lays (d := 1) (by decide) h30) rfl rfl hdd (Nat.le_refl _) (Nat.le_refl _) (by decide) (fx_kv ?_)
        refine pm_aloadn hG dX12_readsOne_79 rfl ?_
        refine pm_dup hG dX12_readsOne_80 rfl ?_
        refine pm_getf hG dX12_readsOne_81 (flX12_157 _ rfl) rfl rfl ?_
        refine pm_iconst (v := 1) hG dX12_readsOne_84 (by decide) ?_
        refine pm_iadd hG dX12_readsOne_85 ?_
        refine pm_putf hG dX12_readsOne_86 (fwX12_157 _ rfl) rfl rfl rfl ?_
        refine mi_12 ?_
        refine fx_letm hE (fun S32 hE => ?_)
        refine pm_iconst (v := 1) hG dX12_readsOne_89 (by decide) ?_
        exact pm_iret hG hF dX12_readsOne_90 rfl (Nat.le_refl _) (Nat.le_refl _) (fx_rim hE)
    · replace hE := fx_t c11 hE
      refine pm_aloadn hG dX12_readsOne_21 rfl ?_
      obtain ⟨x34, h33, hE⟩ := fb_some hE
      refine pm_callV (As := []) (rest := []) hG hR dX12_readsOne_22 (lkX12_163 _ rfl) okV_X12_openMany rfl rfl (c_X12_openMany (d := 1) (by decide) h33) rfl rfl hdd (Nat.le_refl _) (Nat.le_refl _) (by decide) (fx_ki ?_)
      refine pm_iconst (v := 5) hG dX12_readsOne_25 (by decide) ?_
      refine pm_icmp_ne (tgt := 31) hG dX12_readsOne_26 rfl (fun c35 => ?_) (fun c35 => ?_)
      · replace hE := fx_f c35 hE
        refine pm_aloadn hG dX12_readsOne_31 rfl ?_
        refine pm_getf hG dX12_readsOne_32 (flX12_28 _ rfl) rfl rfl ?_
        refine pm_aloadn hG dX12_readsOne_35 rfl ?_
        refine pm_getf hG dX12_readsOne_36 (flX12_148 _ rfl) rfl rfl ?_
        refine pm_iloadn hG dX12_readsOne_39 rfl ?_
        obtain ⟨j36, hj36, hE⟩ := fb_some hE
        refine fx_iast hG dX12_readsOne_40 rfl hj36 ?_
        refine ma_61 ?_
        refine fx_letm hE (fun S37 hE => ?_)
        refine pm_aloadn hG dX12_readsOne_41 rfl ?_
        refine pm_dup hG dX12_readsOne_42 rfl ?_
        refine pm_getf hG dX12_readsOne_43 (flX12_148 _ rfl) rfl rfl ?_
        refine pm_iconst (v := 1) hG dX12_readsOne_46 (by decide) ?_
        refine pm_iadd hG dX12_readsOne_47 ?_
        refine pm_putf hG dX12_readsOne_48 (fwX12_148 _ rfl) rfl rfl rfl ?_
        refine mi_11 ?_
        refine fx_letm hE (fun S38 hE => ?_)
        refine pm_aloadn hG dX12_readsOne_51 rfl ?_
        refine pm_dup hG dX12_readsOne_52 rfl ?_
        refine pm_getf hG dX12_readsOne_53 (flX12_157 _ rfl) rfl rfl ?_
        refine pm_iconst (v := 1) hG dX12_readsOne_56 (by decide) ?_
        refine pm_iadd hG dX12_readsOne_57 ?_
        refine pm_putf hG dX12_readsOne_58 (fwX12_157 _ rfl) rfl rfl rfl ?_
        refine mi_12 ?_
        refine fx_letm hE (fun S39 hE => ?_)
        refine pm_iconst (v := 2) hG dX12_readsOne_61 (by decide) ?_
        exact pm_iret hG hF dX12_readsOne_62 rfl (Nat.le_refl _) (Nat.le_refl _) (fx_rim hE)
      · replace hE := fx_t c35 hE
        refine pm_iconst (v := 0) hG dX12_readsOne_29 (by decide) ?_
        exact pm_iret hG hF dX12_readsOne_30 rfl (Nat.le_refl _) (Nat.le_refl _) (fx_rim hE)
end
