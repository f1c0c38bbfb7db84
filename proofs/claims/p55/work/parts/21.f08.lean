section
set_option maxRecDepth 100000 in
set_option maxHeartbeats 4000000 in
theorem c_X12_reads {d : Nat} {B cnt : Nat} {σ : pm_S} {S : FS} {R : Int32 × FS} (hdd : 3 ≤ d) (hE : f_X12_reads S = some R) : pm_met mX12_reads d 0 0 B [.ref (B + 54)] cnt (mst B S σ) (pm_Qi (fun v σ' cnt' => v = R.1 ∧ σ' = (mst B R.2 σ) ∧ cnt' = cnt)) := by
  refine pm_enter 3 (by decide) (Nat.le_of_ble_eq_true rfl) rfl (fun G hG hR hF => ?_)
  unfold f_X12_reads at hE
  refine pm_aloadn hG dX12_reads_0 rfl ?_
  refine pm_iconst (v := 0) hG dX12_reads_1 (by decide) ?_
  refine pm_putf hG dX12_reads_2 (fwX12_144 _ rfl) rfl rfl rfl ?_
  refine mi_10 ?_
  refine fx_letm hE (fun S1 hE => ?_)
  refine pm_aloadn hG dX12_reads_5 rfl ?_
  refine pm_iconst (v := 0) hG dX12_reads_6 (by decide) ?_
  refine pm_putf hG dX12_reads_7 (fwX12_148 _ rfl) rfl rfl rfl ?_
  refine mi_11 ?_
  refine fx_letm hE (fun S2 hE => ?_)
  refine pm_aloadn hG dX12_reads_10 rfl ?_
  refine pm_iconst (v := 0) hG dX12_reads_11 (by decide) ?_
  refine pm_putf hG dX12_reads_12 (fwX12_157 _ rfl) rfl rfl rfl ?_
  refine mi_12 ?_
  refine fx_letm hE (fun S3 hE => ?_)
  refine pm_iconst (v := 1) hG dX12_reads_15 (by decide) ?_
  refine pm_istoreXn (loc' := [some (.ref (B + 54)), some (.int 1), none, none]) hG dX12_reads_16 (by decide) (pm_c1b rfl) rfl ?_
  have loop17 : ∀ (m17 : Nat) (S4 : FS) (x4_1 : Int32), l_X12_reads_17 m17 S4  x4_1 = some R → pm_wp mX12_reads G B 17 [some (.ref (B + 54)), some (.int x4_1), none, none] [] 0 0 cnt (mst B S4 σ) := by
    intro m17
    induction m17 with
    | zero => intro S4  x4_1 hE; exact fx_no hE
    | succ m17 ih17 =>
      intro S4  x4_1 hE
      rw [l_X12_reads_17] at hE
      refine pm_aloadn hG dX12_reads_17 rfl ?_
      refine pm_aloadn hG dX12_reads_18 rfl ?_
      refine pm_getf hG dX12_reads_19 (flX12_157 _ rfl) rfl rfl ?_
      obtain ⟨x6, h5, hE⟩ := fb_some hE
      refine pm_callV (As := [.int (S4.1 12)]) (rest := []) hG hR dX12_reads_22 (lkX12_160 _ rfl) okV_X12_byteAt rfl rfl (c_X12_byteAt (d := 2) (by decide) h5) rfl rfl hdd (Nat.le_refl _) (Nat.le_refl _) (by decide) (fx_ki ?_)
      refine pm_istoreXn (loc' := [some (.ref (B + 54)), some (.int x4_1), some (.int x6), none]) hG dX12_reads_25 (by decide) (pm_c1b rfl) rfl ?_
      refine pm_iloadn hG dX12_reads_26 rfl ?_
      refine pm_if_eq (tgt := 64) hG dX12_reads_27 rfl (fun c7 => ?_) (fun c7 => ?_)
      · replace hE := fx_t c7 hE
        refine pm_iloadn hG dX12_reads_64 rfl ?_
        refine pm_if_ge (tgt := 84) hG dX12_reads_65 rfl (fun c8 => ?_) (fun c8 => ?_)
        · replace c8 := Int32.not_lt.mpr c8
          replace hE := fx_f c8 hE
          refine pm_iloadn hG dX12_reads_84 rfl ?_
          refine pm_bipush (v := 41) hG dX12_reads_85 (by decide) ?_
          refine pm_icmp_ne (tgt := 130) hG dX12_reads_87 rfl (fun c9 => ?_) (fun c9 => ?_)
          · replace hE := fx_f c9 hE
            refine pm_iloadn hG dX12_reads_130 rfl ?_
            refine pm_callS (As := [.int x6]) (rest := []) hG hR dX12_reads_131 (lkX12_151 _ rfl) okS_X12_rankOf (c_X12_rankOf (d := 2) (by decide) rfl) rfl rfl hdd (Nat.le_refl _) (Nat.le_refl _) (by decide) (fx_ki ?_)
            refine fx_letv hE (fun x10 hE => ?_)
            refine pm_istoreXn (loc' := [some (.ref (B + 54)), some (.int x4_1), some (.int x6), some (.int x10)]) hG dX12_reads_134 (by decide) (pm_c1b rfl) rfl ?_
            refine pm_iloadn hG dX12_reads_135 rfl ?_
            refine pm_if_eq (tgt := 156) hG dX12_reads_136 rfl (fun c11 => ?_) (fun c11 => ?_)
            · replace hE := fx_t c11 hE
              refine pm_iconst (v := 0) hG dX12_reads_156 (by decide) ?_
              exact pm_zret hG hF dX12_reads_157 rfl (by rfl) (Nat.le_refl _) (Nat.le_refl _) (fx_rim hE)
            · replace hE := fx_f c11 hE
              refine pm_iloadn hG dX12_reads_139 rfl ?_
              refine pm_iconst (v := 5) hG dX12_reads_140 (by decide) ?_
              refine pm_icmp_eq (tgt := 156) hG dX12_reads_141 rfl (fun c12 => ?_) (fun c12 => ?_)
              · replace hE := fx_t c12 hE
                refine pm_iconst (v := 0) hG dX12_reads_156 (by decide) ?_
                exact pm_zret hG hF dX12_reads_157 rfl (by rfl) (Nat.le_refl _) (Nat.le_refl _) (fx_rim hE)
              · replace hE := fx_f c12 hE
                refine pm_iloadn hG dX12_reads_144 rfl ?_
                refine pm_iconst (v := 3) hG dX12_reads_145 (by decide) ?_
                refine pm_icmp_ne (tgt := 158) hG dX12_reads_146 rfl (fun c13 => ?_) (fun c13 => ?_)
                · replace hE := fx_f c13 hE
                  refine pm_aloadn hG dX12_reads_158 rfl ?_
                  refine pm_iloadn hG dX12_reads_159 rfl ?_
                  obtain ⟨r15, h14, hE⟩ := fb_some hE
                  refine pm_callV (As := [.int x10]) (rest := []) hG hR dX12_reads_160 (lkX12_176 _ rfl) okV_X12_settles rfl rfl (c_X12_settles (d := 2) (by decide) h14) rfl rfl hdd (Nat.le_refl _) (Nat.le_refl _) (by decide) (fx_kv ?_)
                  refine pm_aloadn hG dX12_reads_163 rfl ?_
                  refine pm_getf hG dX12_reads_164 (flX12_28 _ rfl) rfl rfl ?_
                  refine pm_aloadn hG dX12_reads_167 rfl ?_
                  refine pm_getf hG dX12_reads_168 (flX12_148 _ rfl) rfl rfl ?_
                  refine pm_iloadn hG dX12_reads_171 rfl ?_
                  obtain ⟨j16, hj16, hE⟩ := fb_some hE
                  refine fx_iast hG dX12_reads_172 rfl hj16 ?_
                  refine ma_61 ?_
                  refine fx_letm hE (fun S17 hE => ?_)
                  refine pm_aloadn hG dX12_reads_173 rfl ?_
                  refine pm_dup hG dX12_reads_174 rfl ?_
                  refine pm_getf hG dX12_reads_175 (flX12_148 _ rfl) rfl rfl ?_
                  refine pm_iconst (v := 1) hG dX12_reads_178 (by decide) ?_
                  refine pm_iadd hG dX12_reads_179 ?_
                  refine pm_putf hG dX12_reads_180 (fwX12_148 _ rfl) rfl rfl rfl ?_
                  refine mi_11 ?_
                  refine fx_letm hE (fun S18 hE => ?_)
                  refine pm_aloadn hG dX12_reads_183 rfl ?_
                  refine pm_dup hG dX12_reads_184 rfl ?_
                  refine pm_getf hG dX12_reads_185 (flX12_157 _ rfl) rfl rfl ?_
                  refine pm_iconst (v := 1) hG dX12_reads_188 (by decide) ?_
                  refine pm_iadd hG dX12_reads_189 ?_
                  refine pm_putf hG dX12_reads_190 (fwX12_157 _ rfl) rfl rfl rfl ?_
                  refine mi_12 ?_
                  refine fx_letm hE (fun S19 hE => ?_)
                  refine pm_iconst (v := 1) hG dX12_reads_193 (by decide) ?_
                  refine pm_istoreXn (loc' := [some (.ref (B + 54)), some (.int 1), some (.int x6), some (.int x10)]) hG dX12_reads_194 (by decide) (pm_c1b rfl) rfl ?_
                  refine pm_goto (tgt := 17) hG dX12_reads_195 rfl ?_
                  refine pm_fg 2 (loc' := [some (.ref (B + 54)), some (.int 1), none, some (.int x10)]) rfl ?_
                  refine pm_fg 3 (loc' := [some (.ref (B + 54)), some (.int 1), none, none]) rfl ?_
                  exact ih17 _ _ hE
                · replace hE := fx_t c13 hE
                  refine pm_aloadn hG dX12_reads_149 rfl ?_
                  obtain ⟨x21, h20, hE⟩ := fb_some hE
                  refine pm_callV (As := []) (rest := []) hG hR dX12_reads_150 (lkX12_183 _ rfl) okV_X12_isTested rfl rfl (c_X12_isTested (d := 2) (by decide) h20) rfl rfl hdd (Nat.le_refl _) (Nat.le_refl _) (by decide) (fx_ki ?_)
                  refine pm_if_eq (tgt := 158) hG dX12_reads_153 rfl (fun c22 => ?_) (fun c22 => ?_)
                  · replace hE := fx_t c22 hE
                    refine pm_aloadn hG dX12_reads_158 rfl ?_
                    refine pm_iloadn hG dX12_reads_159 rfl ?_
                    obtain ⟨r24, h23, hE⟩ := fb_some hE
                    refine pm_callV (As := [.int x10]) (rest := []) hG hR dX12_reads_160 (lkX12_176 _ rfl) okV_X12_settles rfl rfl (c_X12_settles (d := 2) (by decide) h23) rfl rfl hdd (Nat.le_refl _) (Nat.le_refl _) (by decide) (fx_kv ?_)
                    refine pm_aloadn hG dX12_reads_163 rfl ?_
                    refine pm_getf hG dX12_reads_164 (flX12_28 _ rfl) rfl rfl ?_
                    refine pm_aloadn hG dX12_reads_167 rfl ?_
                    refine pm_getf hG dX12_reads_168 (flX12_148 _ rfl) rfl rfl ?_
                    refine pm_iloadn hG dX12_reads_171 rfl ?_
                    obtain ⟨j25, hj25, hE⟩ := fb_some hE
                    refine fx_iast hG dX12_reads_172 rfl hj25 ?_
                    refine ma_61 ?_
                    refine fx_letm hE (fun S26 hE => ?_)
                    refine pm_aloadn hG dX12_reads_173 rfl ?_
                    refine pm_dup hG dX12_reads_174 rfl ?_
                    refine pm_getf hG dX12_reads_175 (flX12_148 _ rfl) rfl rfl ?_
                    refine pm_iconst (v := 1) hG dX12_reads_178 (by decide) ?_
                    refine pm_iadd hG dX12_reads_179 ?_
                    refine pm_putf hG dX12_reads_180 (fwX12_148 _ rfl) rfl rfl rfl ?_
                    refine mi_11 ?_
                    refine fx_letm hE (fun S27 hE => ?_)
                    refine pm_aloadn hG dX12_reads_183 rfl ?_
                    refine pm_dup hG dX12_reads_184 rfl ?_
                    refine pm_getf hG dX12_reads_185 (flX12_157 _ rfl) rfl rfl ?_
                    refine pm_iconst (v := 1) hG dX12_reads_188 (by decide) ?_
                    refine pm_iadd hG dX12_reads_189 ?_
                    refine pm_putf hG dX12_reads_190 (fwX12_157 _ rfl) rfl rfl rfl ?_
                    refine mi_12 ?_
                    refine fx_letm hE (fun S28 hE => ?_)
                    refine pm_iconst (v := 1) hG dX12_reads_193 (by decide) ?_
                    refine pm_istoreXn (loc' := [some (.ref (B + 54)), some (.int 1), some (.int x6), some (.int x10)]) hG dX12_reads_194 (by decide) (pm_c1b rfl) rfl ?_
                    refine pm_goto (tgt := 17) hG dX12_reads_195 rfl ?_
                    refine pm_fg 2 (loc' := [some (.ref (B + 54)), some (.int 1), none, some (.int x10)]) rfl ?_
                    refine pm_fg 3 (loc' := [some (.ref (B + 54)), some (.int 1), none, none]) rfl ?_
                    exact ih17 _ _ hE
                  · replace hE := fx_f c22 hE
                    refine pm_iconst (v := 0) hG dX12_reads_156 (by decide) ?_
                    exact pm_zret hG hF dX12_reads_157 rfl (by rfl) (Nat.le_refl _) (Nat.le_refl _) (fx_rim hE)
          · replace hE := fx_t c9 hE
            refine pm_aloadn hG dX12_reads_90 rfl ?_
            obtain ⟨x30, h29, hE⟩ := fb_some hE
            refine pm_callV (As := []) (rest := []) hG hR dX12_reads_91 (lkX12_179 _ rfl) okV_X12_hasOpen rfl rfl (c_X12_hasOpen (d := 2) (by decide) h29) rfl rfl hdd (Nat.le_refl _) (Nat.le_refl _) (by decide) (fx_ki ?_)
            refine pm_if_eq (tgt := 130) hG dX12_reads_94 rfl (fun c31 => ?_) (fun c31 => ?_)
            · replace hE := fx_t c31 hE
              refine pm_iloadn hG dX12_reads_130 rfl ?_
              refine pm_callS (As := [.int x6]) (rest := []) hG hR dX12_reads_131 (lkX12_151 _ rfl) okS_X12_rankOf (c_X12_rankOf (d := 2) (by decide) rfl) rfl rfl hdd (Nat.le_refl _) (Nat.le_refl _) (by decide) (fx_ki ?_)
              refine fx_letv hE (fun x32 hE => ?_)
              refine pm_istoreXn (loc' := [some (.ref (B + 54)), some (.int x4_1), some (.int x6), some (.int x32)]) hG dX12_reads_134 (by decide) (pm_c1b rfl) rfl ?_
              refine pm_iloadn hG dX12_reads_135 rfl ?_
              refine pm_if_eq (tgt := 156) hG dX12_reads_136 rfl (fun c33 => ?_) (fun c33 => ?_)
              · replace hE := fx_t c33 hE
                refine pm_iconst (v := 0) hG dX12_reads_156 (by decide) ?_
                exact pm_zret hG hF dX12_reads_157 rfl (by rfl) (Nat.le_refl _) (Nat.le_refl _) (fx_rim hE)
              · replace hE := fx_f c33 hE
                refine pm_iloadn hG dX12_reads_139 rfl ?_
                refine pm_iconst (v := 5) hG dX12_reads_140 (by decide) ?_
                refine pm_icmp_eq (tgt := 156) hG dX12_reads_141 rfl (fun c34 => ?_) (fun c34 => ?_)
                · replace hE := fx_t c34 hE
                  refine pm_iconst (v := 0) hG dX12_reads_156 (by decide) ?_
                  exact pm_zret hG hF dX12_reads_157 rfl (by rfl) (Nat.le_refl _) (Nat.le_refl _) (fx_rim hE)
                · replace hE := fx_f c34 hE
                  refine pm_iloadn hG dX12_reads_144 rfl ?_
                  refine pm_iconst (v := 3) hG dX12_reads_145 (by decide) ?_
                  refine pm_icmp_ne (tgt := 158) hG dX12_reads_146 rfl (fun c35 => ?_) (fun c35 => ?_)
                  · replace hE := fx_f c35 hE
                    refine pm_aloadn hG dX12_reads_158 rfl ?_
                    refine pm_iloadn hG dX12_reads_159 rfl ?_
                    obtain ⟨r37, h36, hE⟩ := fb_some hE
                    refine pm_callV (As := [.int x32]) (rest := []) hG hR dX12_reads_160 (lkX12_176 _ rfl) okV_X12_settles rfl rfl (c_X12_settles (d := 2) (by decide) h36) rfl rfl hdd (Nat.le_refl _) (Nat.le_refl _) (by decide) (fx_kv ?_)
                    refine pm_aloadn hG dX12_reads_163 rfl ?_
                    refine pm_getf hG dX12_reads_164 (flX12_28 _ rfl) rfl rfl ?_
                    refine pm_aloadn hG dX12_reads_167 rfl ?_
                    refine pm_getf hG dX12_reads_168 (flX12_148 _ rfl) rfl rfl ?_
                    refine pm_iloadn hG dX12_reads_171 rfl ?_
                    obtain ⟨j38, hj38, hE⟩ := fb_some hE
                    refine fx_iast hG dX12_reads_172 rfl hj38 ?_
                    refine ma_61 ?_
                    refine fx_letm hE (fun S39 hE => ?_)
                    refine pm_aloadn hG dX12_reads_173 rfl ?_
                    refine pm_dup hG dX12_reads_174 rfl ?_
                    refine pm_getf hG dX12_reads_175 (flX12_148 _ rfl) rfl rfl ?_
                    refine pm_iconst (v := 1) hG dX12_reads_178 (by decide) ?_
                    refine pm_iadd hG dX12_reads_179 ?_
                    refine pm_putf hG dX12_reads_180 (fwX12_148 _ rfl) rfl rfl rfl ?_
                    refine mi_11 ?_
                    refine fx_letm hE (fun S40 hE => ?_)
                    refine pm_aloadn hG dX12_reads_183 rfl ?_
                    refine pm_dup hG dX12_reads_184 rfl ?_
                    refine pm_getf hG dX12_reads_185 (flX12_157 _ rfl) rfl rfl ?_
                    refine pm_iconst (v := 1) hG dX12_reads_188 (by decide) ?_
                    refine pm_iadd hG dX12_reads_189 ?_
                    refine pm_putf hG dX12_reads_190 (fwX12_157 _ rfl) rfl rfl rfl ?_
                    refine mi_12 ?_
                    refine fx_letm hE (fun S41 hE => ?_)
                    refine pm_iconst (v := 1) hG dX12_reads_193 (by decide) ?_
                    refine pm_istoreXn (loc' := [some (.ref (B + 54)), some (.int 1), some (.int x6), some (.int x32)]) hG dX12_reads_194 (by decide) (pm_c1b rfl) rfl ?_
                    refine pm_goto (tgt := 17) hG dX12_reads_195 rfl ?_
                    refine pm_fg 2 (loc' := [some (.ref (B + 54)), some (.int 1), none, some (.int x32)]) rfl ?_
                    refine pm_fg 3 (loc' := [some (.ref (B + 54)), some (.int 1), none, none]) rfl ?_
                    exact ih17 _ _ hE
                  · replace hE := fx_t c35 hE
                    refine pm_aloadn hG dX12_reads_149 rfl ?_
                    obtain ⟨x43, h42, hE⟩ := fb_some hE
                    refine pm_callV (As := []) (rest := []) hG hR dX12_reads_150 (lkX12_183 _ rfl) okV_X12_isTested rfl rfl (c_X12_isTested (d := 2) (by decide) h42) rfl rfl hdd (Nat.le_refl _) (Nat.le_refl _) (by decide) (fx_ki ?_)
                    refine pm_if_eq (tgt := 158) hG dX12_reads_153 rfl (fun c44 => ?_) (fun c44 => ?_)
                    · replace hE := fx_t c44 hE
                      refine pm_aloadn hG dX12_reads_158 rfl ?_
                      refine pm_iloadn hG dX12_reads_159 rfl ?_
                      obtain ⟨r46, h45, hE⟩ := fb_some hE
                      refine pm_callV (As := [.int x32]) (rest := []) hG hR dX12_reads_160 (lkX12_176 _ rfl) okV_X12_settles rfl rfl (c_X12_settles (d := 2) (by decide) h45) rfl rfl hdd (Nat.le_refl _) (Nat.le_refl _) (by decide) (fx_kv ?_)
                      refine pm_aloadn hG dX12_reads_163 rfl ?_
                      refine pm_getf hG dX12_reads_164 (flX12_28 _ rfl) rfl rfl ?_
                      refine pm_aloadn hG dX12_reads_167 rfl ?_
                      refine pm_getf hG dX12_reads_168 (flX12_148 _ rfl) rfl rfl ?_
                      refine pm_iloadn hG dX12_reads_171 rfl ?_
                      obtain ⟨j47, hj47, hE⟩ := fb_some hE
                      refine fx_iast hG dX12_reads_172 rfl hj47 ?_
                      refine ma_61 ?_
                      refine fx_letm hE (fun S48 hE => ?_)
                      refine pm_aloadn hG dX12_reads_173 rfl ?_
                      refine pm_dup hG dX12_reads_174 rfl ?_
                      refine pm_getf hG dX12_reads_175 (flX12_148 _ rfl) rfl rfl ?_
                      refine pm_iconst (v := 1) hG dX12_reads_178 (by decide) ?_
                      refine pm_iadd hG dX12_reads_179 ?_
                      refine pm_putf hG dX12_reads_180 (fwX12_148 _ rfl) rfl rfl rfl ?_
                      refine mi_11 ?_
                      refine fx_letm hE (fun S49 hE => ?_)
                      refine pm_aloadn hG dX12_reads_183 rfl ?_
                      refine pm_dup hG dX12_reads_184 rfl ?_
                      refine pm_getf hG dX12_reads_185 (flX12_157 _ rfl) rfl rfl ?_
                      refine pm_iconst (v := 1) hG dX12_reads_188 (by decide) ?_
                      refine pm_iadd hG dX12_reads_189 ?_
                      refine pm_putf hG dX12_reads_190 (fwX12_157 _ rfl) rfl rfl rfl ?_
                      refine mi_12 ?_
                      refine fx_letm hE (fun S50 hE => ?_)
                      refine pm_iconst (v := 1) hG dX12_reads_193 (by decide) ?_
                      refine pm_istoreXn (loc' := [some (.ref (B + 54)), some (.int 1), some (.int x6), some (.int x32)]) hG dX12_reads_194 (by decide) (pm_c1b rfl) rfl ?_
                      refine pm_goto (tgt := 17) hG dX12_reads_195 rfl ?_
                      refine pm_fg 2 (loc' := [some (.ref (B + 54)), some (.int 1), none, some (.int x32)]) rfl ?_
                      refine pm_fg 3 (loc' := [some (.ref (B + 54)), some (.int 1), none, none]) rfl ?_
                      exact ih17 _ _ hE
                    · replace hE := fx_f c44 hE
                      refine pm_iconst (v := 0) hG dX12_reads_156 (by decide) ?_
                      exact pm_zret hG hF dX12_reads_157 rfl (by rfl) (Nat.le_refl _) (Nat.le_refl _) (fx_rim hE)
            · replace hE := fx_f c31 hE
              refine pm_aloadn hG dX12_reads_97 rfl ?_
              refine pm_iconst (v := 1) hG dX12_reads_98 (by decide) ?_
              obtain ⟨r52, h51, hE⟩ := fb_some hE
              refine pm_callV (As := [.int 1]) (rest := []) hG hR dX12_reads_99 (lkX12_176 _ rfl) okV_X12_settles rfl rfl (c_X12_settles (d := 2) (by decide) h51) rfl rfl hdd (Nat.le_refl _) (Nat.le_refl _) (by decide) (fx_kv ?_)
              refine pm_aloadn hG dX12_reads_102 rfl ?_
              refine pm_dup hG dX12_reads_103 rfl ?_
              refine pm_getf hG dX12_reads_104 (flX12_148 _ rfl) rfl rfl ?_
              refine pm_iconst (v := 1) hG dX12_reads_107 (by decide) ?_
              refine pm_isub hG dX12_reads_108 ?_
              refine pm_putf hG dX12_reads_109 (fwX12_148 _ rfl) rfl rfl rfl ?_
              refine mi_11 ?_
              refine fx_letm hE (fun S53 hE => ?_)
              refine pm_aloadn hG dX12_reads_112 rfl ?_
              refine pm_dup hG dX12_reads_113 rfl ?_
              refine pm_getf hG dX12_reads_114 (flX12_157 _ rfl) rfl rfl ?_
              refine pm_iconst (v := 1) hG dX12_reads_117 (by decide) ?_
              refine pm_iadd hG dX12_reads_118 ?_
              refine pm_putf hG dX12_reads_119 (fwX12_157 _ rfl) rfl rfl rfl ?_
              refine mi_12 ?_
              refine fx_letm hE (fun S54 hE => ?_)
              refine pm_aloadn hG dX12_reads_122 rfl ?_
              refine pm_iconst (v := 5) hG dX12_reads_123 (by decide) ?_
              obtain ⟨r56, h55, hE⟩ := fb_some hE
              refine pm_callV (As := [.int 5]) (rest := []) hG hR dX12_reads_124 (lkX12_176 _ rfl) okV_X12_settles rfl rfl (c_X12_settles (d := 2) (by decide) h55) rfl rfl hdd (Nat.le_refl _) (Nat.le_refl _) (by decide) (fx_kv ?_)
              refine pm_goto (tgt := 195) hG dX12_reads_127 rfl ?_
              refine pm_goto (tgt := 17) hG dX12_reads_195 rfl ?_
              refine pm_fg 2 (loc' := [some (.ref (B + 54)), some (.int x4_1), none, none]) rfl ?_
              exact ih17 _ _ hE
        · replace c8 := Int32.not_le.mp c8
          replace hE := fx_t c8 hE
          refine pm_aloadn hG dX12_reads_68 rfl ?_
          obtain ⟨x58, h57, hE⟩ := fb_some hE
          refine pm_callV (As := []) (rest := []) hG hR dX12_reads_69 (lkX12_179 _ rfl) okV_X12_hasOpen rfl rfl (c_X12_hasOpen (d := 2) (by decide) h57) rfl rfl hdd (Nat.le_refl _) (Nat.le_refl _) (by decide) (fx_ki ?_)
          refine pm_if_eq (tgt := 77) hG dX12_reads_72 rfl (fun c59 => ?_) (fun c59 => ?_)
          · replace hE := fx_t c59 hE
            refine pm_aloadn hG dX12_reads_77 rfl ?_
            refine pm_iconst (v := 1) hG dX12_reads_78 (by decide) ?_
            obtain ⟨r61, h60, hE⟩ := fb_some hE
            refine pm_callV (As := [.int 1]) (rest := []) hG hR dX12_reads_79 (lkX12_176 _ rfl) okV_X12_settles rfl rfl (c_X12_settles (d := 2) (by decide) h60) rfl rfl hdd (Nat.le_refl _) (Nat.le_refl _) (by decide) (fx_kv ?_)
            refine pm_iconst (v := 1) hG dX12_reads_82 (by decide) ?_
            exact pm_zret hG hF dX12_reads_83 rfl (by rfl) (Nat.le_refl _) (Nat.le_refl _) (fx_rim hE)
          · replace hE := fx_f c59 hE
            refine pm_iconst (v := 0) hG dX12_reads_75 (by decide) ?_
            exact pm_zret hG hF dX12_reads_76 rfl (by rfl) (Nat.le_refl _) (Nat.le_refl _) (fx_rim hE)
      · replace hE := fx_f c7 hE
        refine pm_aloadn hG dX12_reads_30 rfl ?_
        obtain ⟨r63, h62, hE⟩ := fb_some hE
        refine pm_callV (As := []) (rest := []) hG hR dX12_reads_31 (lkX12_173 _ rfl) okV_X12_readsOne rfl rfl (c_X12_readsOne (d := 2) (by decide) h62) rfl rfl hdd (Nat.le_refl _) (Nat.le_refl _) (by decide) (fx_ki ?_)
        refine pm_istoreXn (loc' := [some (.ref (B + 54)), some (.int x4_1), some (.int x6), some (.int r63.1)]) hG dX12_reads_34 (by decide) (pm_c1b rfl) rfl ?_
        refine pm_iloadn hG dX12_reads_35 rfl ?_
        refine pm_if_ne (tgt := 41) hG dX12_reads_36 rfl (fun c64 => ?_) (fun c64 => ?_)
        · replace hE := fx_f c64 hE
          refine pm_iloadn hG dX12_reads_41 rfl ?_
          refine pm_iconst (v := 2) hG dX12_reads_42 (by decide) ?_
          refine pm_icmp_ne (tgt := 50) hG dX12_reads_43 rfl (fun c65 => ?_) (fun c65 => ?_)
          · replace hE := fx_f c65 hE
            refine pm_iconst (v := 0) hG dX12_reads_50 (by decide) ?_
            refine pm_istoreXn (loc' := [some (.ref (B + 54)), some (.int 0), some (.int x6), some (.int r63.1)]) hG dX12_reads_51 (by decide) (pm_c1b rfl) rfl ?_
            refine pm_iloadn hG dX12_reads_52 rfl ?_
            refine pm_if_ne (tgt := 61) hG dX12_reads_53 rfl (fun q => absurd q (by decide)) (fun _ => ?_)
            refine pm_aloadn hG dX12_reads_56 rfl ?_
            refine pm_iconst (v := 5) hG dX12_reads_57 (by decide) ?_
            obtain ⟨r67, h66, hE⟩ := fb_some hE
            refine pm_callV (As := [.int 5]) (rest := []) hG hR dX12_reads_58 (lkX12_176 _ rfl) okV_X12_settles rfl rfl (c_X12_settles (d := 2) (by decide) h66) rfl rfl hdd (Nat.le_refl _) (Nat.le_refl _) (by decide) (fx_kv ?_)
            refine pm_goto (tgt := 195) hG dX12_reads_61 rfl ?_
            refine pm_goto (tgt := 17) hG dX12_reads_195 rfl ?_
            refine pm_fg 2 (loc' := [some (.ref (B + 54)), some (.int 0), none, some (.int r63.1)]) rfl ?_
            refine pm_fg 3 (loc' := [some (.ref (B + 54)), some (.int 0), none, none]) rfl ?_
            exact ih17 _ _ hE
          · replace hE := fx_t c65 hE
            refine pm_iconst (v := 1) hG dX12_reads_46 (by decide) ?_
            refine pm_goto (tgt := 51) hG dX12_reads_47 rfl ?_
            refine pm_istoreXn (loc' := [some (.ref (B + 54)), some (.int 1), some (.int x6), some (.int r63.1)]) hG dX12_reads_51 (by decide) (pm_c1b rfl) rfl ?_
            refine pm_iloadn hG dX12_reads_52 rfl ?_
            refine pm_if_ne (tgt := 61) hG dX12_reads_53 rfl (fun _ => ?_) (fun q => absurd q (by decide))
            refine pm_goto (tgt := 195) hG dX12_reads_61 rfl ?_
            refine pm_goto (tgt := 17) hG dX12_reads_195 rfl ?_
            refine pm_fg 2 (loc' := [some (.ref (B + 54)), some (.int 1), none, some (.int r63.1)]) rfl ?_
            refine pm_fg 3 (loc' := [some (.ref (B + 54)), some (.int 1), none, none]) rfl ?_
            exact ih17 _ _ hE
        · replace hE := fx_t c64 hE
          refine pm_iconst (v := 0) hG dX12_reads_39 (by decide) ?_
          exact pm_zret hG hF dX12_reads_40 rfl (by rfl) (Nat.le_refl _) (Nat.le_refl _) (fx_rim hE)
  exact loop17 _ _ _ hE

set_option maxRecDepth 100000 in
set_option maxHeartbeats 4000000 in
theorem c_X12_law {d : Nat} {B cnt : Nat} {σ : pm_S} {S : FS} {za : Int32} {zb : Int32} {R : Int32 × FS} (hdd : 4 ≤ d) (hE : f_X12_law S za zb = some R) : pm_met mX12_law d 0 0 B [.ref (B + 54), .int za, .int zb] cnt (mst B S σ) (pm_Qi (fun v σ' cnt' => v = R.1 ∧ σ' = (mst B R.2 σ) ∧ cnt' = cnt)) := by
  refine pm_enter 4 (by decide) (Nat.le_of_ble_eq_true rfl) rfl (fun G hG hR hF => ?_)
  unfold f_X12_law at hE
  refine pm_iloadn hG dX12_law_0 rfl ?_
  refine pm_iconst (v := 0) hG dX12_law_1 (by decide) ?_
  refine pm_iconst (v := 4) hG dX12_law_2 (by decide) ?_
  refine pm_callS (As := [.int za, .int 0, .int 4]) (rest := []) hG hR dX12_law_3 (lkX12_68 _ rfl) okS_X12_in (c_X12_in (d := 3) (by decide) rfl) rfl rfl hdd (Nat.le_refl _) (Nat.le_refl _) (by decide) (fx_ki ?_)
  refine pm_if_eq (tgt := 16) hG dX12_law_6 rfl (fun c1 => ?_) (fun c1 => ?_)
  · replace hE := fx_t c1 hE
    refine pm_aloadn hG dX12_law_16 rfl ?_
    refine pm_iconst (v := 1) hG dX12_law_17 (by decide) ?_
    obtain ⟨r3, h2, hE⟩ := fb_some hE
    refine pm_callV (As := [.int 1]) (rest := []) hG hR dX12_law_18 (lkX12_80 _ rfl) okV_X12_finds rfl rfl (c_X12_finds (d := 3) (by decide) h2) rfl rfl hdd (Nat.le_refl _) (Nat.le_refl _) (by decide) (fx_ki ?_)
    exact pm_iret hG hF dX12_law_21 rfl (Nat.le_refl _) (Nat.le_refl _) (fx_rim hE)
  · replace hE := fx_f c1 hE
    refine pm_iloadn hG dX12_law_9 rfl ?_
    refine pm_callS (As := [.int zb]) (rest := []) hG hR dX12_law_10 (lkX12_186 _ rfl) okS_X12_isDay (c_X12_isDay (d := 3) (by decide) rfl) rfl rfl hdd (Nat.le_refl _) (Nat.le_refl _) (by decide) (fx_ki ?_)
    refine pm_if_ne (tgt := 22) hG dX12_law_13 rfl (fun c4 => ?_) (fun c4 => ?_)
    · replace hE := fx_f c4 hE
      refine pm_aloadn hG dX12_law_22 rfl ?_
      refine pm_getf hG dX12_law_23 (flX12_7 _ rfl) rfl rfl ?_
      refine pm_iconst (v := 4) hG dX12_law_26 (by decide) ?_
      refine fx_iald hG dX12_law_27 rfl (ix_lit (by decide) rfl) ?_
      refine fx_letv hE (fun x5 hE => ?_)
      refine pm_istoreXn (loc' := [some (.ref (B + 54)), some (.int za), some (.int zb), some (.int x5), none, none, none]) hG dX12_law_28 (by decide) (pm_c1b rfl) rfl ?_
      refine pm_iloadn hG dX12_law_29 rfl ?_
      refine pm_bipush (v := 12) hG dX12_law_30 (by decide) ?_
      refine pm_icmp_ne (tgt := 41) hG dX12_law_32 rfl (fun c6 => ?_) (fun c6 => ?_)
      · replace hE := fx_f c6 hE
        refine pm_aloadn hG dX12_law_41 rfl ?_
        obtain ⟨r8, h7, hE⟩ := fb_some hE
        refine pm_callV (As := []) (rest := []) hG hR dX12_law_42 (lkX12_189 _ rfl) okV_X12_reads rfl rfl (c_X12_reads (d := 3) (by decide) h7) rfl rfl hdd (Nat.le_refl _) (Nat.le_refl _) (by decide) (fx_ki ?_)
        refine pm_istoreXi (loc' := [some (.ref (B + 54)), some (.int za), some (.int zb), some (.int x5), some (.int r8.1), none, none]) hG dX12_law_45 (by decide) (pm_c1b rfl) rfl ?_
        refine pm_aloadn hG dX12_law_47 rfl ?_
        refine pm_getf hG dX12_law_48 (flX12_7 _ rfl) rfl rfl ?_
        refine pm_bipush (v := 10) hG dX12_law_51 (by decide) ?_
        refine pm_iconst (v := 0) hG dX12_law_53 (by decide) ?_
        refine fx_iast hG dX12_law_54 rfl (ix_lit (by decide) rfl) ?_
        refine ma_55 ?_
        refine fx_letm hE (fun S9 hE => ?_)
        refine pm_iloadi hG dX12_law_55 rfl ?_
        refine pm_if_ne (tgt := 68) hG dX12_law_57 rfl (fun c10 => ?_) (fun c10 => ?_)
        · replace hE := fx_f c10 hE
          refine pm_sipush (v := 510) hG dX12_law_68 (by decide) ?_
          refine pm_bipush (v := 65) hG dX12_law_71 (by decide) ?_
          refine pm_iloadn hG dX12_law_73 rfl ?_
          refine pm_imul hG dX12_law_74 ?_
          refine pm_iadd hG dX12_law_75 ?_
          refine fx_letv hE (fun x11 hE => ?_)
          refine pm_istoreXi (loc' := [some (.ref (B + 54)), some (.int za), some (.int zb), some (.int x5), some (.int r8.1), some (.int x11), none]) hG dX12_law_76 (by decide) (pm_c1b rfl) rfl ?_
          refine pm_aloadn hG dX12_law_78 rfl ?_
          refine pm_getf hG dX12_law_79 (flX12_7 _ rfl) rfl rfl ?_
          refine pm_iconst (v := 4) hG dX12_law_82 (by decide) ?_
          refine pm_dup2 hG dX12_law_83 rfl rfl ?_
          refine fx_iald hG dX12_law_84 rfl (ix_lit (by decide) rfl) ?_
          refine pm_iconst (v := 1) hG dX12_law_85 (by decide) ?_
          refine pm_iadd hG dX12_law_86 ?_
          refine fx_iast hG dX12_law_87 rfl (ix_lit (by decide) rfl) ?_
          refine ma_55 ?_
          refine fx_letm hE (fun S12 hE => ?_)
          refine pm_aloadn hG dX12_law_88 rfl ?_
          refine pm_getf hG dX12_law_89 (flX12_7 _ rfl) rfl rfl ?_
          refine pm_iloadi hG dX12_law_92 rfl ?_
          refine pm_iloadn hG dX12_law_94 rfl ?_
          obtain ⟨j13, hj13, hE⟩ := fb_some hE
          refine fx_iast hG dX12_law_95 rfl hj13 ?_
          refine ma_55 ?_
          refine fx_letm hE (fun S14 hE => ?_)
          refine pm_aloadn hG dX12_law_96 rfl ?_
          refine pm_getf hG dX12_law_97 (flX12_7 _ rfl) rfl rfl ?_
          refine pm_iloadi hG dX12_law_100 rfl ?_
          refine pm_iconst (v := 1) hG dX12_law_102 (by decide) ?_
          refine pm_iadd hG dX12_law_103 ?_
          refine pm_iloadn hG dX12_law_104 rfl ?_
          obtain ⟨j15, hj15, hE⟩ := fb_some hE
          refine fx_iast hG dX12_law_105 rfl hj15 ?_
          refine ma_55 ?_
          refine fx_letm hE (fun S16 hE => ?_)
          refine pm_aloadn hG dX12_law_106 rfl ?_
          refine pm_getf hG dX12_law_107 (flX12_7 _ rfl) rfl rfl ?_
          refine pm_iloadi hG dX12_law_110 rfl ?_
          refine pm_iconst (v := 2) hG dX12_law_112 (by decide) ?_
          refine pm_iadd hG dX12_law_113 ?_
          refine pm_aloadn hG dX12_law_114 rfl ?_
          refine pm_getf hG dX12_law_115 (flX12_7 _ rfl) rfl rfl ?_
          refine pm_bipush (v := 8) hG dX12_law_118 (by decide) ?_
          refine fx_iald hG dX12_law_120 rfl (ix_lit (by decide) rfl) ?_
          obtain ⟨j17, hj17, hE⟩ := fb_some hE
          refine fx_iast hG dX12_law_121 rfl hj17 ?_
          refine ma_55 ?_
          refine fx_letm hE (fun S18 hE => ?_)
          refine pm_aloadn hG dX12_law_122 rfl ?_
          refine pm_getf hG dX12_law_123 (flX12_7 _ rfl) rfl rfl ?_
          refine pm_iloadi hG dX12_law_126 rfl ?_
          refine pm_iconst (v := 3) hG dX12_law_128 (by decide) ?_
          refine pm_iadd hG dX12_law_129 ?_
          refine pm_iconst (v := (-1)) hG dX12_law_130 (by decide) ?_
          obtain ⟨j19, hj19, hE⟩ := fb_some hE
          refine fx_iast hG dX12_law_131 rfl hj19 ?_
          refine ma_55 ?_
          refine fx_letm hE (fun S20 hE => ?_)
          refine pm_aloadn hG dX12_law_132 rfl ?_
          refine pm_getf hG dX12_law_133 (flX12_7 _ rfl) rfl rfl ?_
          refine pm_iloadi hG dX12_law_136 rfl ?_
          refine pm_iconst (v := 4) hG dX12_law_138 (by decide) ?_
          refine pm_iadd hG dX12_law_139 ?_
          refine pm_aloadn hG dX12_law_140 rfl ?_
          refine pm_getf hG dX12_law_141 (flX12_144 _ rfl) rfl rfl ?_
          obtain ⟨j21, hj21, hE⟩ := fb_some hE
          refine fx_iast hG dX12_law_144 rfl hj21 ?_
          refine ma_55 ?_
          refine fx_letm hE (fun S22 hE => ?_)
          refine pm_iconst (v := 0) hG dX12_law_145 (by decide) ?_
          refine pm_istoreXi (loc' := [some (.ref (B + 54)), some (.int za), some (.int zb), some (.int x5), some (.int r8.1), some (.int x11), some (.int 0)]) hG dX12_law_146 (by decide) (pm_c1b rfl) rfl ?_
          have loop148 : ∀ (k148 : FS → Int32 → Option (Int32 × FS)), (∀ (S23 : FS) (x23_6 : Int32), k148 S23  x23_6 = some R → pm_wp mX12_law G B 182 [some (.ref (B + 54)), some (.int za), some (.int zb), some (.int x5), some (.int r8.1), some (.int x11), some (.int x23_6)] [] 0 0 cnt (mst B S23 σ)) → ∀ (m148 : Nat) (S23 : FS) (x23_6 : Int32), l_X12_law_148 x11 k148 m148 S23  x23_6 = some R → pm_wp mX12_law G B 148 [some (.ref (B + 54)), some (.int za), some (.int zb), some (.int x5), some (.int r8.1), some (.int x11), some (.int x23_6)] [] 0 0 cnt (mst B S23 σ) := by
            intro k148 hk148 m148
            induction m148 with
            | zero => intro S23  x23_6 hE; exact fx_no hE
            | succ m148 ih148 =>
              intro S23  x23_6 hE
              rw [l_X12_law_148] at hE
              refine pm_iloadi hG dX12_law_148 rfl ?_
              refine pm_aloadn hG dX12_law_150 rfl ?_
              refine pm_getf hG dX12_law_151 (flX12_144 _ rfl) rfl rfl ?_
              refine pm_icmp_ge (tgt := 182) hG dX12_law_154 rfl (fun c24 => ?_) (fun c24 => ?_)
              · replace c24 := Int32.not_lt.mpr c24
                replace hE := fx_f c24 hE
                exact hk148 _ _ hE
              · replace c24 := Int32.not_le.mp c24
                replace hE := fx_t c24 hE
                refine pm_aloadn hG dX12_law_157 rfl ?_
                refine pm_getf hG dX12_law_158 (flX12_7 _ rfl) rfl rfl ?_
                refine pm_iloadi hG dX12_law_161 rfl ?_
                refine pm_iconst (v := 5) hG dX12_law_163 (by decide) ?_
                refine pm_iadd hG dX12_law_164 ?_
                refine pm_iloadi hG dX12_law_165 rfl ?_
                refine pm_iadd hG dX12_law_167 ?_
                refine pm_aloadn hG dX12_law_168 rfl ?_
                refine pm_getf hG dX12_law_169 (flX12_25 _ rfl) rfl rfl ?_
                refine pm_iloadi hG dX12_law_172 rfl ?_
                obtain ⟨j25, hj25, hE⟩ := fb_some hE
                refine fx_iald hG dX12_law_174 rfl hj25 ?_
                obtain ⟨j26, hj26, hE⟩ := fb_some hE
                refine fx_iast hG dX12_law_175 rfl hj26 ?_
                refine ma_55 ?_
                refine fx_letm hE (fun S27 hE => ?_)
                refine pm_iincX (v := x23_6 + 1) (loc' := [some (.ref (B + 54)), some (.int za), some (.int zb), some (.int x5), some (.int r8.1), some (.int x11), some (.int (x23_6 + 1))]) hG dX12_law_176 rfl (by rfl) (by decide) (pm_c1b rfl) rfl ?_
                refine pm_goto (tgt := 148) hG dX12_law_179 rfl ?_
                exact ih148 _ _ hE
          refine loop148 _ (fun S28 x28_6 hE => ?_) _ _ _ hE
          refine pm_iloadn hG dX12_law_182 rfl ?_
          exact pm_iret hG hF dX12_law_183 rfl (Nat.le_refl _) (Nat.le_refl _) (fx_rim hE)
        · replace hE := fx_t c10 hE
          refine pm_bipush (v := (-10)) hG dX12_law_60 (by decide) ?_
          refine pm_aloadn hG dX12_law_62 rfl ?_
          refine pm_getf hG dX12_law_63 (flX12_157 _ rfl) rfl rfl ?_
          refine pm_isub hG dX12_law_66 ?_
          exact pm_iret hG hF dX12_law_67 rfl (Nat.le_refl _) (Nat.le_refl _) (fx_rim hE)
      · replace hE := fx_t c6 hE
        refine pm_aloadn hG dX12_law_35 rfl ?_
        refine pm_iconst (v := 4) hG dX12_law_36 (by decide) ?_
        obtain ⟨r30, h29, hE⟩ := fb_some hE
        refine pm_callV (As := [.int 4]) (rest := []) hG hR dX12_law_37 (lkX12_80 _ rfl) okV_X12_finds rfl rfl (c_X12_finds (d := 3) (by decide) h29) rfl rfl hdd (Nat.le_refl _) (Nat.le_refl _) (by decide) (fx_ki ?_)
        exact pm_iret hG hF dX12_law_40 rfl (Nat.le_refl _) (Nat.le_refl _) (fx_rim hE)
    · replace hE := fx_t c4 hE
      refine pm_aloadn hG dX12_law_16 rfl ?_
      refine pm_iconst (v := 1) hG dX12_law_17 (by decide) ?_
      obtain ⟨r32, h31, hE⟩ := fb_some hE
      refine pm_callV (As := [.int 1]) (rest := []) hG hR dX12_law_18 (lkX12_80 _ rfl) okV_X12_finds rfl rfl (c_X12_finds (d := 3) (by decide) h31) rfl rfl hdd (Nat.le_refl _) (Nat.le_refl _) (by decide) (fx_ki ?_)
      exact pm_iret hG hF dX12_law_21 rfl (Nat.le_refl _) (Nat.le_refl _) (fx_rim hE)

set_option maxRecDepth 100000 in
set_option maxHeartbeats 4000000 in
theorem c_X12_lend {d : Nat} {B cnt : Nat} {σ : pm_S} {S : FS} {za : Int32} {zb : Int32} {zc : Int32} {R : Int32 × FS} (hdd : 3 ≤ d) (hE : f_X12_lend S za zb zc = some R) : pm_met mX12_lend d 0 0 B [.ref (B + 54), .int za, .int zb, .int zc] cnt (mst B S σ) (pm_Qi (fun v σ' cnt' => v = R.1 ∧ σ' = (mst B R.2 σ) ∧ cnt' = cnt)) := by
  refine pm_enter 0 (by decide) (Nat.le_of_ble_eq_true rfl) rfl (fun G hG hR hF => ?_)
  unfold f_X12_lend at hE
  refine pm_aloadn hG dX12_lend_0 rfl ?_
  refine pm_iloadn hG dX12_lend_1 rfl ?_
  refine pm_callV (As := [.int za]) (rest := []) hG hR dX12_lend_2 (lkX12_132 _ rfl) okV_X12_isPower rfl rfl (c_X12_isPower (d := 2) (by decide) rfl) rfl rfl hdd (Nat.le_refl _) (Nat.le_refl _) (by decide) (fx_ki ?_)
  refine pm_if_eq (tgt := 41) hG dX12_lend_5 rfl (fun c1 => ?_) (fun c1 => ?_)
  · replace hE := fx_t c1 hE
    refine pm_aloadn hG dX12_lend_41 rfl ?_
    refine pm_iconst (v := 1) hG dX12_lend_42 (by decide) ?_
    obtain ⟨r3, h2, hE⟩ := fb_some hE
    refine pm_callV (As := [.int 1]) (rest := []) hG hR dX12_lend_43 (lkX12_80 _ rfl) okV_X12_finds rfl rfl (c_X12_finds (d := 2) (by decide) h2) rfl rfl hdd (Nat.le_refl _) (Nat.le_refl _) (by decide) (fx_ki ?_)
    exact pm_iret hG hF dX12_lend_46 rfl (Nat.le_refl _) (Nat.le_refl _) (fx_rim hE)
  · replace hE := fx_f c1 hE
    refine pm_aloadn hG dX12_lend_8 rfl ?_
    refine pm_iloadn hG dX12_lend_9 rfl ?_
    refine pm_callV (As := [.int zb]) (rest := []) hG hR dX12_lend_10 (lkX12_91 _ rfl) okV_X12_isPerson rfl rfl (c_X12_isPerson (d := 2) (by decide) rfl) rfl rfl hdd (Nat.le_refl _) (Nat.le_refl _) (by decide) (fx_ki ?_)
    refine pm_if_eq (tgt := 41) hG dX12_lend_13 rfl (fun c4 => ?_) (fun c4 => ?_)
    · replace hE := fx_t c4 hE
      refine pm_aloadn hG dX12_lend_41 rfl ?_
      refine pm_iconst (v := 1) hG dX12_lend_42 (by decide) ?_
      obtain ⟨r6, h5, hE⟩ := fb_some hE
      refine pm_callV (As := [.int 1]) (rest := []) hG hR dX12_lend_43 (lkX12_80 _ rfl) okV_X12_finds rfl rfl (c_X12_finds (d := 2) (by decide) h5) rfl rfl hdd (Nat.le_refl _) (Nat.le_refl _) (by decide) (fx_ki ?_)
      exact pm_iret hG hF dX12_lend_46 rfl (Nat.le_refl _) (Nat.le_refl _) (fx_rim hE)
    · replace hE := fx_f c4 hE
      refine pm_aloadn hG dX12_lend_16 rfl ?_
      refine pm_iloadn hG dX12_lend_17 rfl ?_
      obtain ⟨x8, h7, hE⟩ := fb_some hE
      refine pm_callV (As := [.int zb]) (rest := []) hG hR dX12_lend_18 (lkX12_101 _ rfl) okV_X12_lives rfl rfl (c_X12_lives (d := 2) (by decide) h7) rfl rfl hdd (Nat.le_refl _) (Nat.le_refl _) (by decide) (fx_ki ?_)
      refine pm_if_eq (tgt := 41) hG dX12_lend_21 rfl (fun c9 => ?_) (fun c9 => ?_)
      · replace hE := fx_t c9 hE
        refine pm_aloadn hG dX12_lend_41 rfl ?_
        refine pm_iconst (v := 1) hG dX12_lend_42 (by decide) ?_
        obtain ⟨r11, h10, hE⟩ := fb_some hE
        refine pm_callV (As := [.int 1]) (rest := []) hG hR dX12_lend_43 (lkX12_80 _ rfl) okV_X12_finds rfl rfl (c_X12_finds (d := 2) (by decide) h10) rfl rfl hdd (Nat.le_refl _) (Nat.le_refl _) (by decide) (fx_ki ?_)
        exact pm_iret hG hF dX12_lend_46 rfl (Nat.le_refl _) (Nat.le_refl _) (fx_rim hE)
      · replace hE := fx_f c9 hE
        refine pm_iloadn hG dX12_lend_24 rfl ?_
        refine pm_aloadn hG dX12_lend_25 rfl ?_
        refine pm_getf hG dX12_lend_26 (flX12_7 _ rfl) rfl rfl ?_
        refine pm_bipush (v := 8) hG dX12_lend_29 (by decide) ?_
        refine fx_iald hG dX12_lend_31 rfl (ix_lit (by decide) rfl) ?_
        refine pm_sipush (v := 2000) hG dX12_lend_32 (by decide) ?_
        refine pm_callS (As := [.int zc, .int (S.2 55 8), .int 2000]) (rest := []) hG hR dX12_lend_35 (lkX12_68 _ rfl) okS_X12_in (c_X12_in (d := 2) (by decide) rfl) rfl rfl hdd (Nat.le_refl _) (Nat.le_refl _) (by decide) (fx_ki ?_)
        refine pm_if_ne (tgt := 47) hG dX12_lend_38 rfl (fun c12 => ?_) (fun c12 => ?_)
        · replace hE := fx_f c12 hE
          refine pm_aloadn hG dX12_lend_47 rfl ?_
          refine pm_iloadn hG dX12_lend_48 rfl ?_
          refine pm_iconst (v := 0) hG dX12_lend_49 (by decide) ?_
          obtain ⟨x14, h13, hE⟩ := fb_some hE
          refine pm_callV (As := [.int za, .int 0]) (rest := []) hG hR dX12_lend_50 (lkX12_110 _ rfl) okV_X12_its rfl rfl (c_X12_its (d := 2) (by decide) h13) rfl rfl hdd (Nat.le_refl _) (Nat.le_refl _) (by decide) (fx_ki ?_)
          refine pm_iconst (v := 2) hG dX12_lend_53 (by decide) ?_
          refine pm_icmp_eq (tgt := 63) hG dX12_lend_54 rfl (fun c15 => ?_) (fun c15 => ?_)
          · replace hE := fx_t c15 hE
            refine pm_aloadn hG dX12_lend_63 rfl ?_
            refine pm_iloadn hG dX12_lend_64 rfl ?_
            refine pm_iconst (v := 1) hG dX12_lend_65 (by decide) ?_
            obtain ⟨x17, h16, hE⟩ := fb_some hE
            refine pm_callV (As := [.int za, .int 1]) (rest := []) hG hR dX12_lend_66 (lkX12_110 _ rfl) okV_X12_its rfl rfl (c_X12_its (d := 2) (by decide) h16) rfl rfl hdd (Nat.le_refl _) (Nat.le_refl _) (by decide) (fx_ki ?_)
            refine pm_if_lt (tgt := 91) hG dX12_lend_69 rfl (fun c18 => ?_) (fun c18 => ?_)
            · replace hE := fx_t c18 hE
              refine pm_aloadn hG dX12_lend_91 rfl ?_
              refine pm_iconst (v := 3) hG dX12_lend_92 (by decide) ?_
              obtain ⟨r20, h19, hE⟩ := fb_some hE
              refine pm_callV (As := [.int 3]) (rest := []) hG hR dX12_lend_93 (lkX12_80 _ rfl) okV_X12_finds rfl rfl (c_X12_finds (d := 2) (by decide) h19) rfl rfl hdd (Nat.le_refl _) (Nat.le_refl _) (by decide) (fx_ki ?_)
              exact pm_iret hG hF dX12_lend_96 rfl (Nat.le_refl _) (Nat.le_refl _) (fx_rim hE)
            · replace hE := fx_f c18 hE
              refine pm_aloadn hG dX12_lend_72 rfl ?_
              refine pm_iloadn hG dX12_lend_73 rfl ?_
              refine pm_iconst (v := 2) hG dX12_lend_74 (by decide) ?_
              obtain ⟨x22, h21, hE⟩ := fb_some hE
              refine pm_callV (As := [.int za, .int 2]) (rest := []) hG hR dX12_lend_75 (lkX12_110 _ rfl) okV_X12_its rfl rfl (c_X12_its (d := 2) (by decide) h21) rfl rfl hdd (Nat.le_refl _) (Nat.le_refl _) (by decide) (fx_ki ?_)
              refine pm_if_ge (tgt := 91) hG dX12_lend_78 rfl (fun c23 => ?_) (fun c23 => ?_)
              · replace c23 := Int32.not_lt.mpr c23
                replace hE := fx_f c23 hE
                refine pm_aloadn hG dX12_lend_91 rfl ?_
                refine pm_iconst (v := 3) hG dX12_lend_92 (by decide) ?_
                obtain ⟨r25, h24, hE⟩ := fb_some hE
                refine pm_callV (As := [.int 3]) (rest := []) hG hR dX12_lend_93 (lkX12_80 _ rfl) okV_X12_finds rfl rfl (c_X12_finds (d := 2) (by decide) h24) rfl rfl hdd (Nat.le_refl _) (Nat.le_refl _) (by decide) (fx_ki ?_)
                exact pm_iret hG hF dX12_lend_96 rfl (Nat.le_refl _) (Nat.le_refl _) (fx_rim hE)
              · replace c23 := Int32.not_le.mp c23
                replace hE := fx_t c23 hE
                refine pm_aloadn hG dX12_lend_81 rfl ?_
                refine pm_iloadn hG dX12_lend_82 rfl ?_
                refine pm_iconst (v := 1) hG dX12_lend_83 (by decide) ?_
                obtain ⟨x27, h26, hE⟩ := fb_some hE
                refine pm_callV (As := [.int za, .int 1]) (rest := []) hG hR dX12_lend_84 (lkX12_110 _ rfl) okV_X12_its rfl rfl (c_X12_its (d := 2) (by decide) h26) rfl rfl hdd (Nat.le_refl _) (Nat.le_refl _) (by decide) (fx_ki ?_)
                refine pm_iloadn hG dX12_lend_87 rfl ?_
                refine pm_icmp_ne (tgt := 97) hG dX12_lend_88 rfl (fun c28 => ?_) (fun c28 => ?_)
                · replace hE := fx_f c28 hE
                  refine pm_aloadn hG dX12_lend_97 rfl ?_
                  refine pm_iloadn hG dX12_lend_98 rfl ?_
                  refine pm_iconst (v := 2) hG dX12_lend_99 (by decide) ?_
                  refine pm_iloadn hG dX12_lend_100 rfl ?_
                  obtain ⟨r30, h29, hE⟩ := fb_some hE
                  refine pm_callV (As := [.int za, .int 2, .int zb]) (rest := []) hG hR dX12_lend_101 (lkX12_113 _ rfl) okV_X12_makes rfl rfl (c_X12_makes (d := 2) (by decide) h29) rfl rfl hdd (Nat.le_refl _) (Nat.le_refl _) (by decide) (fx_kv ?_)
                  refine pm_aloadn hG dX12_lend_104 rfl ?_
                  refine pm_iloadn hG dX12_lend_105 rfl ?_
                  refine pm_iconst (v := 3) hG dX12_lend_106 (by decide) ?_
                  refine pm_iloadn hG dX12_lend_107 rfl ?_
                  obtain ⟨r32, h31, hE⟩ := fb_some hE
                  refine pm_callV (As := [.int za, .int 3, .int zc]) (rest := []) hG hR dX12_lend_108 (lkX12_113 _ rfl) okV_X12_makes rfl rfl (c_X12_makes (d := 2) (by decide) h31) rfl rfl hdd (Nat.le_refl _) (Nat.le_refl _) (by decide) (fx_kv ?_)
                  refine pm_iconst (v := 1) hG dX12_lend_111 (by decide) ?_
                  exact pm_iret hG hF dX12_lend_112 rfl (Nat.le_refl _) (Nat.le_refl _) (fx_rim hE)
                · replace hE := fx_t c28 hE
                  refine pm_aloadn hG dX12_lend_91 rfl ?_
                  refine pm_iconst (v := 3) hG dX12_lend_92 (by decide) ?_
                  obtain ⟨r34, h33, hE⟩ := fb_some hE
                  refine pm_callV (As := [.int 3]) (rest := []) hG hR dX12_lend_93 (lkX12_80 _ rfl) okV_X12_finds rfl rfl (c_X12_finds (d := 2) (by decide) h33) rfl rfl hdd (Nat.le_refl _) (Nat.le_refl _) (by decide) (fx_ki ?_)
                  exact pm_iret hG hF dX12_lend_96 rfl (Nat.le_refl _) (Nat.le_refl _) (fx_rim hE)
          · replace hE := fx_f c15 hE
            refine pm_aloadn hG dX12_lend_57 rfl ?_
            refine pm_iconst (v := 5) hG dX12_lend_58 (by decide) ?_
            obtain ⟨r36, h35, hE⟩ := fb_some hE
            refine pm_callV (As := [.int 5]) (rest := []) hG hR dX12_lend_59 (lkX12_80 _ rfl) okV_X12_finds rfl rfl (c_X12_finds (d := 2) (by decide) h35) rfl rfl hdd (Nat.le_refl _) (Nat.le_refl _) (by decide) (fx_ki ?_)
            exact pm_iret hG hF dX12_lend_62 rfl (Nat.le_refl _) (Nat.le_refl _) (fx_rim hE)
        · replace hE := fx_t c12 hE
          refine pm_aloadn hG dX12_lend_41 rfl ?_
          refine pm_iconst (v := 1) hG dX12_lend_42 (by decide) ?_
          obtain ⟨r38, h37, hE⟩ := fb_some hE
          refine pm_callV (As := [.int 1]) (rest := []) hG hR dX12_lend_43 (lkX12_80 _ rfl) okV_X12_finds rfl rfl (c_X12_finds (d := 2) (by decide) h37) rfl rfl hdd (Nat.le_refl _) (Nat.le_refl _) (by decide) (fx_ki ?_)
          exact pm_iret hG hF dX12_lend_46 rfl (Nat.le_refl _) (Nat.le_refl _) (fx_rim hE)

set_option maxRecDepth 100000 in
set_option maxHeartbeats 4000000 in
theorem c_X12_letter {d : Nat} {B cnt : Nat} {σ : pm_S} {S : FS} {za : Int32} {zb : Int32} {R : Int32 × FS} (hdd : 3 ≤ d) (hE : f_X12_letter S za zb = some R) : pm_met mX12_letter d 0 0 B [.ref (B + 54), .int za, .int zb] cnt (mst B S σ) (pm_Qi (fun v σ' cnt' => v = R.1 ∧ σ' = (mst B R.2 σ) ∧ cnt' = cnt)) := by
  refine pm_enter 0 (by decide) (Nat.le_of_ble_eq_true rfl) rfl (fun G hG hR hF => ?_)
  unfold f_X12_letter at hE
  refine pm_aloadn hG dX12_letter_0 rfl ?_
  refine pm_iloadn hG dX12_letter_1 rfl ?_
  refine pm_callV (As := [.int za]) (rest := []) hG hR dX12_letter_2 (lkX12_211 _ rfl) okV_X12_isLetter rfl rfl (c_X12_isLetter (d := 2) (by decide) rfl) rfl rfl hdd (Nat.le_refl _) (Nat.le_refl _) (by decide) (fx_ki ?_)
  refine pm_if_eq (tgt := 27) hG dX12_letter_5 rfl (fun c1 => ?_) (fun c1 => ?_)
  · replace hE := fx_t c1 hE
    refine pm_aloadn hG dX12_letter_27 rfl ?_
    refine pm_iconst (v := 1) hG dX12_letter_28 (by decide) ?_
    obtain ⟨r3, h2, hE⟩ := fb_some hE
    refine pm_callV (As := [.int 1]) (rest := []) hG hR dX12_letter_29 (lkX12_80 _ rfl) okV_X12_finds rfl rfl (c_X12_finds (d := 2) (by decide) h2) rfl rfl hdd (Nat.le_refl _) (Nat.le_refl _) (by decide) (fx_ki ?_)
    exact pm_iret hG hF dX12_letter_32 rfl (Nat.le_refl _) (Nat.le_refl _) (fx_rim hE)
  · replace hE := fx_f c1 hE
    refine pm_iloadn hG dX12_letter_8 rfl ?_
    refine pm_iconst (v := 0) hG dX12_letter_9 (by decide) ?_
    refine pm_bipush (v := 9) hG dX12_letter_10 (by decide) ?_
    refine pm_callS (As := [.int zb, .int 0, .int 9]) (rest := []) hG hR dX12_letter_12 (lkX12_68 _ rfl) okS_X12_in (c_X12_in (d := 2) (by decide) rfl) rfl rfl hdd (Nat.le_refl _) (Nat.le_refl _) (by decide) (fx_ki ?_)
    refine pm_if_eq (tgt := 27) hG dX12_letter_15 rfl (fun c4 => ?_) (fun c4 => ?_)
    · replace hE := fx_t c4 hE
      refine pm_aloadn hG dX12_letter_27 rfl ?_
      refine pm_iconst (v := 1) hG dX12_letter_28 (by decide) ?_
      obtain ⟨r6, h5, hE⟩ := fb_some hE
      refine pm_callV (As := [.int 1]) (rest := []) hG hR dX12_letter_29 (lkX12_80 _ rfl) okV_X12_finds rfl rfl (c_X12_finds (d := 2) (by decide) h5) rfl rfl hdd (Nat.le_refl _) (Nat.le_refl _) (by decide) (fx_ki ?_)
      exact pm_iret hG hF dX12_letter_32 rfl (Nat.le_refl _) (Nat.le_refl _) (fx_rim hE)
    · replace hE := fx_f c4 hE
      refine pm_aloadn hG dX12_letter_18 rfl ?_
      refine pm_iloadn hG dX12_letter_19 rfl ?_
      refine pm_iloadn hG dX12_letter_20 rfl ?_
      obtain ⟨x8, h7, hE⟩ := fb_some hE
      refine pm_callV (As := [.int za, .int zb]) (rest := []) hG hR dX12_letter_21 (lkX12_199 _ rfl) okV_X12_of rfl rfl (c_X12_of (d := 2) (by decide) h7) rfl rfl hdd (Nat.le_refl _) (Nat.le_refl _) (by decide) (fx_ki ?_)
      refine pm_goto (tgt := 32) hG dX12_letter_24 rfl ?_
      exact pm_iret hG hF dX12_letter_32 rfl (Nat.le_refl _) (Nat.le_refl _) (fx_rim hE)

set_option maxRecDepth 100000 in
set_option maxHeartbeats 4000000 in
theorem c_X12_men {d : Nat} {B cnt : Nat} {σ : pm_S} {S : FS} {za : Int32} {zb : Int32} {R : Int32 × FS} (hdd : 3 ≤ d) (hE : f_X12_men S za zb = some R) : pm_met mX12_men d 0 0 B [.ref (B + 54), .int za, .int zb] cnt (mst B S σ) (pm_Qi (fun v σ' cnt' => v = R.1 ∧ σ' = (mst B R.2 σ) ∧ cnt' = cnt)) := by
  refine pm_enter 0 (by decide) (Nat.le_of_ble_eq_true rfl) rfl (fun G hG hR hF => ?_)
  unfold f_X12_men at hE
  refine pm_aloadn hG dX12_men_0 rfl ?_
  refine pm_iloadn hG dX12_men_1 rfl ?_
  refine pm_callV (As := [.int za]) (rest := []) hG hR dX12_men_2 (lkX12_91 _ rfl) okV_X12_isPerson rfl rfl (c_X12_isPerson (d := 2) (by decide) rfl) rfl rfl hdd (Nat.le_refl _) (Nat.le_refl _) (by decide) (fx_ki ?_)
  refine pm_if_eq (tgt := 19) hG dX12_men_5 rfl (fun c1 => ?_) (fun c1 => ?_)
  · replace hE := fx_t c1 hE
    refine pm_aloadn hG dX12_men_19 rfl ?_
    refine pm_iconst (v := 1) hG dX12_men_20 (by decide) ?_
    obtain ⟨r3, h2, hE⟩ := fb_some hE
    refine pm_callV (As := [.int 1]) (rest := []) hG hR dX12_men_21 (lkX12_80 _ rfl) okV_X12_finds rfl rfl (c_X12_finds (d := 2) (by decide) h2) rfl rfl hdd (Nat.le_refl _) (Nat.le_refl _) (by decide) (fx_ki ?_)
    exact pm_iret hG hF dX12_men_24 rfl (Nat.le_refl _) (Nat.le_refl _) (fx_rim hE)
  · replace hE := fx_f c1 hE
    refine pm_iloadn hG dX12_men_8 rfl ?_
    refine pm_bipush (v := (-99)) hG dX12_men_9 (by decide) ?_
    refine pm_bipush (v := 99) hG dX12_men_11 (by decide) ?_
    refine pm_callS (As := [.int zb, .int (-99), .int 99]) (rest := []) hG hR dX12_men_13 (lkX12_68 _ rfl) okS_X12_in (c_X12_in (d := 2) (by decide) rfl) rfl rfl hdd (Nat.le_refl _) (Nat.le_refl _) (by decide) (fx_ki ?_)
    refine pm_if_ne (tgt := 25) hG dX12_men_16 rfl (fun c4 => ?_) (fun c4 => ?_)
    · replace hE := fx_f c4 hE
      refine pm_aloadn hG dX12_men_25 rfl ?_
      refine pm_iloadn hG dX12_men_26 rfl ?_
      obtain ⟨x6, h5, hE⟩ := fb_some hE
      refine pm_callV (As := [.int za]) (rest := []) hG hR dX12_men_27 (lkX12_101 _ rfl) okV_X12_lives rfl rfl (c_X12_lives (d := 2) (by decide) h5) rfl rfl hdd (Nat.le_refl _) (Nat.le_refl _) (by decide) (fx_ki ?_)
      refine pm_if_ne (tgt := 39) hG dX12_men_30 rfl (fun c7 => ?_) (fun c7 => ?_)
      · replace hE := fx_f c7 hE
        refine pm_aloadn hG dX12_men_39 rfl ?_
        refine pm_iloadn hG dX12_men_40 rfl ?_
        refine pm_bipush (v := 8) hG dX12_men_41 (by decide) ?_
        obtain ⟨x9, h8, hE⟩ := fb_some hE
        refine pm_callV (As := [.int za, .int 8]) (rest := []) hG hR dX12_men_43 (lkX12_72 _ rfl) okV_X12_man rfl rfl (c_X12_man (d := 2) (by decide) h8) rfl rfl hdd (Nat.le_refl _) (Nat.le_refl _) (by decide) (fx_ki ?_)
        refine pm_iloadn hG dX12_men_46 rfl ?_
        refine pm_iadd hG dX12_men_47 ?_
        refine pm_iconst (v := 0) hG dX12_men_48 (by decide) ?_
        refine pm_sipush (v := 999) hG dX12_men_49 (by decide) ?_
        refine pm_callS (As := [.int (x9 + zb), .int 0, .int 999]) (rest := []) hG hR dX12_men_52 (lkX12_68 _ rfl) okS_X12_in (c_X12_in (d := 2) (by decide) rfl) rfl rfl hdd (Nat.le_refl _) (Nat.le_refl _) (by decide) (fx_ki ?_)
        refine pm_if_ne (tgt := 64) hG dX12_men_55 rfl (fun c10 => ?_) (fun c10 => ?_)
        · replace hE := fx_f c10 hE
          refine pm_aloadn hG dX12_men_64 rfl ?_
          refine pm_iloadn hG dX12_men_65 rfl ?_
          refine pm_bipush (v := 8) hG dX12_men_66 (by decide) ?_
          refine pm_aloadn hG dX12_men_68 rfl ?_
          refine pm_iloadn hG dX12_men_69 rfl ?_
          refine pm_bipush (v := 8) hG dX12_men_70 (by decide) ?_
          obtain ⟨x12, h11, hE⟩ := fb_some hE
          refine pm_callV (As := [.int za, .int 8]) (rest := [.int 8, .int za, .ref (B + 54)]) hG hR dX12_men_72 (lkX12_72 _ rfl) okV_X12_man rfl rfl (c_X12_man (d := 2) (by decide) h11) rfl rfl hdd (Nat.le_refl _) (Nat.le_refl _) (by first | decide | exact Nat.le_of_ble_eq_true rfl) (fx_ki ?_)
          refine pm_iloadn hG dX12_men_75 rfl ?_
          refine pm_iadd hG dX12_men_76 ?_
          obtain ⟨r14, h13, hE⟩ := fb_some hE
          refine pm_callV (As := [.int za, .int 8, .int (x12 + zb)]) (rest := []) hG hR dX12_men_77 (lkX12_97 _ rfl) okV_X12_sets rfl rfl (c_X12_sets (d := 2) (by decide) h13) rfl rfl hdd (Nat.le_refl _) (Nat.le_refl _) (by decide) (fx_kv ?_)
          refine pm_aloadn hG dX12_men_80 rfl ?_
          refine pm_iloadn hG dX12_men_81 rfl ?_
          refine pm_bipush (v := 8) hG dX12_men_82 (by decide) ?_
          obtain ⟨x16, h15, hE⟩ := fb_some hE
          refine pm_callV (As := [.int za, .int 8]) (rest := []) hG hR dX12_men_84 (lkX12_72 _ rfl) okV_X12_man rfl rfl (c_X12_man (d := 2) (by decide) h15) rfl rfl hdd (Nat.le_refl _) (Nat.le_refl _) (by decide) (fx_ki ?_)
          exact pm_iret hG hF dX12_men_87 rfl (Nat.le_refl _) (Nat.le_refl _) (fx_rim hE)
        · replace hE := fx_t c10 hE
          refine pm_aloadn hG dX12_men_58 rfl ?_
          refine pm_iconst (v := 1) hG dX12_men_59 (by decide) ?_
          obtain ⟨r18, h17, hE⟩ := fb_some hE
          refine pm_callV (As := [.int 1]) (rest := []) hG hR dX12_men_60 (lkX12_80 _ rfl) okV_X12_finds rfl rfl (c_X12_finds (d := 2) (by decide) h17) rfl rfl hdd (Nat.le_refl _) (Nat.le_refl _) (by decide) (fx_ki ?_)
          exact pm_iret hG hF dX12_men_63 rfl (Nat.le_refl _) (Nat.le_refl _) (fx_rim hE)
      · replace hE := fx_t c7 hE
        refine pm_aloadn hG dX12_men_33 rfl ?_
        refine pm_iconst (v := 3) hG dX12_men_34 (by decide) ?_
        obtain ⟨r20, h19, hE⟩ := fb_some hE
        refine pm_callV (As := [.int 3]) (rest := []) hG hR dX12_men_35 (lkX12_80 _ rfl) okV_X12_finds rfl rfl (c_X12_finds (d := 2) (by decide) h19) rfl rfl hdd (Nat.le_refl _) (Nat.le_refl _) (by decide) (fx_ki ?_)
        exact pm_iret hG hF dX12_men_38 rfl (Nat.le_refl _) (Nat.le_refl _) (fx_rim hE)
    · replace hE := fx_t c4 hE
      refine pm_aloadn hG dX12_men_19 rfl ?_
      refine pm_iconst (v := 1) hG dX12_men_20 (by decide) ?_
      obtain ⟨r22, h21, hE⟩ := fb_some hE
      refine pm_callV (As := [.int 1]) (rest := []) hG hR dX12_men_21 (lkX12_80 _ rfl) okV_X12_finds rfl rfl (c_X12_finds (d := 2) (by decide) h21) rfl rfl hdd (Nat.le_refl _) (Nat.le_refl _) (by decide) (fx_ki ?_)
      exact pm_iret hG hF dX12_men_24 rfl (Nat.le_refl _) (Nat.le_refl _) (fx_rim hE)

set_option maxRecDepth 100000 in
set_option maxHeartbeats 4000000 in
theorem c_X12_move {d : Nat} {B cnt : Nat} {σ : pm_S} {S : FS} {za : Int32} {zb : Int32} {zc : Int32} {zd : Int32} {ze : Int32} {R : Int32 × FS} (hdd : 3 ≤ d) (hE : f_X12_move S za zb zc zd ze = some R) : pm_met mX12_move d 0 0 B [.ref (B + 54), .int za, .int zb, .int zc, .int zd, .int ze] cnt (mst B S σ) (pm_Qi (fun v σ' cnt' => v = R.1 ∧ σ' = (mst B R.2 σ) ∧ cnt' = cnt)) := by
  refine pm_enter 1 (by decide) (Nat.le_of_ble_eq_true rfl) rfl (fun G hG hR hF => ?_)
  unfold f_X12_move at hE
  refine pm_iloadn hG dX12_move_0 rfl ?_
  refine pm_callS (As := [.int za]) (rest := []) hG hR dX12_move_1 (lkX12_239 _ rfl) okS_X12_isSheet (c_X12_isSheet (d := 2) (by decide) rfl) rfl rfl hdd (Nat.le_refl _) (Nat.le_refl _) (by decide) (fx_ki ?_)
  refine pm_if_eq (tgt := 14) hG dX12_move_4 rfl (fun c1 => ?_) (fun c1 => ?_)
  · replace hE := fx_t c1 hE
    refine pm_aloadn hG dX12_move_14 rfl ?_
    refine pm_iconst (v := 1) hG dX12_move_15 (by decide) ?_
    obtain ⟨r3, h2, hE⟩ := fb_some hE
    refine pm_callV (As := [.int 1]) (rest := []) hG hR dX12_move_16 (lkX12_80 _ rfl) okV_X12_finds rfl rfl (c_X12_finds (d := 2) (by decide) h2) rfl rfl hdd (Nat.le_refl _) (Nat.le_refl _) (by decide) (fx_ki ?_)
    exact pm_iret hG hF dX12_move_19 rfl (Nat.le_refl _) (Nat.le_refl _) (fx_rim hE)
  · replace hE := fx_f c1 hE
    refine pm_iloadn hG dX12_move_7 rfl ?_
    refine pm_callS (As := [.int zc]) (rest := []) hG hR dX12_move_8 (lkX12_239 _ rfl) okS_X12_isSheet (c_X12_isSheet (d := 2) (by decide) rfl) rfl rfl hdd (Nat.le_refl _) (Nat.le_refl _) (by decide) (fx_ki ?_)
    refine pm_if_ne (tgt := 20) hG dX12_move_11 rfl (fun c4 => ?_) (fun c4 => ?_)
    · replace hE := fx_f c4 hE
      refine pm_aloadn hG dX12_move_20 rfl ?_
      refine pm_getf hG dX12_move_21 (flX12_55 _ rfl) rfl rfl ?_
      refine pm_iloadn hG dX12_move_24 rfl ?_
      obtain ⟨j5, hj5, hE⟩ := fb_some hE
      refine fx_iald hG dX12_move_25 rfl hj5 ?_
      refine pm_if_eq (tgt := 38) hG dX12_move_26 rfl (fun c6 => ?_) (fun c6 => ?_)
      · replace hE := fx_t c6 hE
        refine pm_aloadn hG dX12_move_38 rfl ?_
        refine pm_iconst (v := 2) hG dX12_move_39 (by decide) ?_
        obtain ⟨r8, h7, hE⟩ := fb_some hE
        refine pm_callV (As := [.int 2]) (rest := []) hG hR dX12_move_40 (lkX12_80 _ rfl) okV_X12_finds rfl rfl (c_X12_finds (d := 2) (by decide) h7) rfl rfl hdd (Nat.le_refl _) (Nat.le_refl _) (by decide) (fx_ki ?_)
        exact pm_iret hG hF dX12_move_43 rfl (Nat.le_refl _) (Nat.le_refl _) (fx_rim hE)
      · replace hE := fx_f c6 hE
        refine pm_aloadn hG dX12_move_29 rfl ?_
        refine pm_getf hG dX12_move_30 (flX12_55 _ rfl) rfl rfl ?_
        refine pm_iloadn hG dX12_move_33 rfl ?_
        obtain ⟨j9, hj9, hE⟩ := fb_some hE
        refine fx_iald hG dX12_move_34 rfl hj9 ?_
        refine pm_if_ne (tgt := 44) hG dX12_move_35 rfl (fun c10 => ?_) (fun c10 => ?_)
        · replace hE := fx_f c10 hE
          refine pm_aloadn hG dX12_move_44 rfl ?_
          refine pm_getf hG dX12_move_45 (flX12_55 _ rfl) rfl rfl ?_
          refine pm_iloadn hG dX12_move_48 rfl ?_
          refine fx_iald hG dX12_move_49 rfl hj5 ?_
          refine pm_aloadn hG dX12_move_50 rfl ?_
          refine pm_getf hG dX12_move_51 (flX12_55 _ rfl) rfl rfl ?_
          refine pm_iloadn hG dX12_move_54 rfl ?_
          refine fx_iald hG dX12_move_55 rfl hj9 ?_
          refine pm_icmp_eq (tgt := 65) hG dX12_move_56 rfl (fun c11 => ?_) (fun c11 => ?_)
          · replace hE := fx_t c11 hE
            refine pm_iloadi hG dX12_move_65 rfl ?_
            refine pm_if_lt (tgt := 114) hG dX12_move_67 rfl (fun c12 => ?_) (fun c12 => ?_)
            · replace hE := fx_t c12 hE
              refine pm_aloadn hG dX12_move_114 rfl ?_
              refine pm_iconst (v := 1) hG dX12_move_115 (by decide) ?_
              obtain ⟨r14, h13, hE⟩ := fb_some hE
              refine pm_callV (As := [.int 1]) (rest := []) hG hR dX12_move_116 (lkX12_80 _ rfl) okV_X12_finds rfl rfl (c_X12_finds (d := 2) (by decide) h13) rfl rfl hdd (Nat.le_refl _) (Nat.le_refl _) (by decide) (fx_ki ?_)
              exact pm_iret hG hF dX12_move_119 rfl (Nat.le_refl _) (Nat.le_refl _) (fx_rim hE)
            · replace hE := fx_f c12 hE
              refine pm_iloadn hG dX12_move_70 rfl ?_
              refine pm_if_lt (tgt := 114) hG dX12_move_71 rfl (fun c15 => ?_) (fun c15 => ?_)
              · replace hE := fx_t c15 hE
                refine pm_aloadn hG dX12_move_114 rfl ?_
                refine pm_iconst (v := 1) hG dX12_move_115 (by decide) ?_
                obtain ⟨r17, h16, hE⟩ := fb_some hE
                refine pm_callV (As := [.int 1]) (rest := []) hG hR dX12_move_116 (lkX12_80 _ rfl) okV_X12_finds rfl rfl (c_X12_finds (d := 2) (by decide) h16) rfl rfl hdd (Nat.le_refl _) (Nat.le_refl _) (by decide) (fx_ki ?_)
                exact pm_iret hG hF dX12_move_119 rfl (Nat.le_refl _) (Nat.le_refl _) (fx_rim hE)
              · replace hE := fx_f c15 hE
                refine pm_iloadi hG dX12_move_74 rfl ?_
                refine pm_if_lt (tgt := 114) hG dX12_move_76 rfl (fun c18 => ?_) (fun c18 => ?_)
                · replace hE := fx_t c18 hE
                  refine pm_aloadn hG dX12_move_114 rfl ?_
                  refine pm_iconst (v := 1) hG dX12_move_115 (by decide) ?_
                  obtain ⟨r20, h19, hE⟩ := fb_some hE
                  refine pm_callV (As := [.int 1]) (rest := []) hG hR dX12_move_116 (lkX12_80 _ rfl) okV_X12_finds rfl rfl (c_X12_finds (d := 2) (by decide) h19) rfl rfl hdd (Nat.le_refl _) (Nat.le_refl _) (by decide) (fx_ki ?_)
                  exact pm_iret hG hF dX12_move_119 rfl (Nat.le_refl _) (Nat.le_refl _) (fx_rim hE)
                · replace hE := fx_f c18 hE
                  refine pm_iloadn hG dX12_move_79 rfl ?_
                  refine pm_i2l hG dX12_move_80 rfl ?_
                  refine pm_iloadi hG dX12_move_81 rfl ?_
                  refine pm_i2l hG dX12_move_83 rfl ?_
                  refine pm_ladd hG dX12_move_84 ?_
                  refine pm_aloadn hG dX12_move_85 rfl ?_
                  refine pm_getf hG dX12_move_86 (flX12_58 _ rfl) rfl rfl ?_
                  refine pm_iloadn hG dX12_move_89 rfl ?_
                  refine fx_iald hG dX12_move_90 rfl hj5 ?_
                  refine pm_i2l hG dX12_move_91 rfl ?_
                  refine pm_lcmp hG dX12_move_92 ?_
                  refine pm_if_gt (tgt := 114) hG dX12_move_93 rfl (fun c21 => ?_) (fun c21 => ?_)
                  · replace hE := fx_t c21 hE
                    refine pm_aloadn hG dX12_move_114 rfl ?_
                    refine pm_iconst (v := 1) hG dX12_move_115 (by decide) ?_
                    obtain ⟨r23, h22, hE⟩ := fb_some hE
                    refine pm_callV (As := [.int 1]) (rest := []) hG hR dX12_move_116 (lkX12_80 _ rfl) okV_X12_finds rfl rfl (c_X12_finds (d := 2) (by decide) h22) rfl rfl hdd (Nat.le_refl _) (Nat.le_refl _) (by decide) (fx_ki ?_)
                    exact pm_iret hG hF dX12_move_119 rfl (Nat.le_refl _) (Nat.le_refl _) (fx_rim hE)
                  · replace hE := fx_f c21 hE
                    refine pm_iloadi hG dX12_move_96 rfl ?_
                    refine pm_i2l hG dX12_move_98 rfl ?_
                    refine pm_iloadi hG dX12_move_99 rfl ?_
                    refine pm_i2l hG dX12_move_101 rfl ?_
                    refine pm_ladd hG dX12_move_102 ?_
                    refine pm_aloadn hG dX12_move_103 rfl ?_
                    refine pm_getf hG dX12_move_104 (flX12_58 _ rfl) rfl rfl ?_
                    refine pm_iloadn hG dX12_move_107 rfl ?_
                    refine fx_iald hG dX12_move_108 rfl hj9 ?_
                    refine pm_i2l hG dX12_move_109 rfl ?_
                    refine pm_lcmp hG dX12_move_110 ?_
                    refine pm_if_le (tgt := 120) hG dX12_move_111 rfl (fun c24 => ?_) (fun c24 => ?_)
                    · replace c24 := Int32.not_lt.mpr c24
                      replace hE := fx_f c24 hE
                      refine pm_iconst (v := 0) hG dX12_move_120 (by decide) ?_
                      refine pm_istoreXi (loc' := [some (.ref (B + 54)), some (.int za), some (.int zb), some (.int zc), some (.int zd), some (.int ze), some (.int 0)]) hG dX12_move_121 (by decide) (pm_c1b rfl) rfl ?_
                      have loop123 : ∀ (k123 : FS → Int32 → Option (Int32 × FS)), (∀ (S25 : FS) (x25_6 : Int32), k123 S25  x25_6 = some R → pm_wp mX12_move G B 157 [some (.ref (B + 54)), some (.int za), some (.int zb), some (.int zc), some (.int zd), some (.int ze), some (.int x25_6)] [] 0 0 cnt (mst B S25 σ)) → ∀ (m123 : Nat) (S25 : FS) (x25_6 : Int32), l_X12_move_123 za zb ze k123 m123 S25  x25_6 = some R → pm_wp mX12_move G B 123 [some (.ref (B + 54)), some (.int za), some (.int zb), some (.int zc), some (.int zd), some (.int ze), some (.int x25_6)] [] 0 0 cnt (mst B S25 σ) := by
                        intro k123 hk123 m123
                        induction m123 with
                        | zero => intro S25  x25_6 hE; exact fx_no hE
                        | succ m123 ih123 =>
                          intro S25  x25_6 hE
                          rw [l_X12_move_123] at hE
                          refine pm_iloadi hG dX12_move_123 rfl ?_
                          refine pm_iloadi hG dX12_move_125 rfl ?_
                          refine pm_icmp_ge (tgt := 157) hG dX12_move_127 rfl (fun c26 => ?_) (fun c26 => ?_)
                          · replace c26 := Int32.not_lt.mpr c26
                            replace hE := fx_f c26 hE
                            exact hk123 _ _ hE
                          · replace c26 := Int32.not_le.mp c26
                            replace hE := fx_t c26 hE
                            refine pm_aloadn hG dX12_move_130 rfl ?_
                            refine pm_getf hG dX12_move_131 (flX12_64 _ rfl) rfl rfl ?_
                            refine pm_iloadi hG dX12_move_134 rfl ?_
                            refine pm_aloadn hG dX12_move_136 rfl ?_
                            refine pm_getf hG dX12_move_137 (flX12_61 _ rfl) rfl rfl ?_
                            refine pm_bipush (v := 24) hG dX12_move_140 (by decide) ?_
                            refine pm_iloadn hG dX12_move_142 rfl ?_
                            refine pm_imul hG dX12_move_143 ?_
                            refine pm_iloadn hG dX12_move_144 rfl ?_
                            refine pm_iadd hG dX12_move_145 ?_
                            refine pm_iloadi hG dX12_move_146 rfl ?_
                            refine pm_iadd hG dX12_move_148 ?_
                            obtain ⟨j27, hj27, hE⟩ := fb_some hE
                            refine fx_iald hG dX12_move_149 rfl hj27 ?_
                            obtain ⟨j28, hj28, hE⟩ := fb_some hE
                            refine fx_iast hG dX12_move_150 rfl hj28 ?_
                            refine ma_73 ?_
                            refine fx_letm hE (fun S29 hE => ?_)
                            refine pm_iincX (v := x25_6 + 1) (loc' := [some (.ref (B + 54)), some (.int za), some (.int zb), some (.int zc), some (.int zd), some (.int ze), some (.int (x25_6 + 1))]) hG dX12_move_151 rfl (by rfl) (by decide) (pm_c1b rfl) rfl ?_
                            refine pm_goto (tgt := 123) hG dX12_move_154 rfl ?_
                            exact ih123 _ _ hE
                      refine loop123 _ (fun S30 x30_6 hE => ?_) _ _ _ hE
                      refine pm_iconst (v := 0) hG dX12_move_157 (by decide) ?_
                      refine pm_istoreXi (loc' := [some (.ref (B + 54)), some (.int za), some (.int zb), some (.int zc), some (.int zd), some (.int ze), some (.int 0)]) hG dX12_move_158 (by decide) (pm_c1b rfl) rfl ?_
                      have loop160 : ∀ (k160 : FS → Int32 → Option (Int32 × FS)), (∀ (S31 : FS) (x31_6 : Int32), k160 S31  x31_6 = some R → pm_wp mX12_move G B 195 [some (.ref (B + 54)), some (.int za), some (.int zb), some (.int zc), some (.int zd), some (.int ze), some (.int x31_6)] [] 0 0 cnt (mst B S31 σ)) → ∀ (m160 : Nat) (S31 : FS) (x31_6 : Int32), l_X12_move_160 zc zd ze k160 m160 S31  x31_6 = some R → pm_wp mX12_move G B 160 [some (.ref (B + 54)), some (.int za), some (.int zb), some (.int zc), some (.int zd), some (.int ze), some (.int x31_6)] [] 0 0 cnt (mst B S31 σ) := by
                        intro k160 hk160 m160
                        induction m160 with
                        | zero => intro S31  x31_6 hE; exact fx_no hE
                        | succ m160 ih160 =>
                          intro S31  x31_6 hE
                          rw [l_X12_move_160] at hE
                          refine pm_iloadi hG dX12_move_160 rfl ?_
                          refine pm_iloadi hG dX12_move_162 rfl ?_
                          refine pm_icmp_ge (tgt := 195) hG dX12_move_164 rfl (fun c32 => ?_) (fun c32 => ?_)
                          · replace c32 := Int32.not_lt.mpr c32
                            replace hE := fx_f c32 hE
                            exact hk160 _ _ hE
                          · replace c32 := Int32.not_le.mp c32
                            replace hE := fx_t c32 hE
                            refine pm_aloadn hG dX12_move_167 rfl ?_
                            refine pm_getf hG dX12_move_168 (flX12_61 _ rfl) rfl rfl ?_
                            refine pm_bipush (v := 24) hG dX12_move_171 (by decide) ?_
                            refine pm_iloadn hG dX12_move_173 rfl ?_
                            refine pm_imul hG dX12_move_174 ?_
                            refine pm_iloadi hG dX12_move_175 rfl ?_
                            refine pm_iadd hG dX12_move_177 ?_
                            refine pm_iloadi hG dX12_move_178 rfl ?_
                            refine pm_iadd hG dX12_move_180 ?_
                            refine pm_aloadn hG dX12_move_181 rfl ?_
                            refine pm_getf hG dX12_move_182 (flX12_64 _ rfl) rfl rfl ?_
                            refine pm_iloadi hG dX12_move_185 rfl ?_
                            obtain ⟨j33, hj33, hE⟩ := fb_some hE
                            refine fx_iald hG dX12_move_187 rfl hj33 ?_
                            obtain ⟨j34, hj34, hE⟩ := fb_some hE
                            refine fx_iast hG dX12_move_188 rfl hj34 ?_
                            refine ma_72 ?_
                            refine fx_letm hE (fun S35 hE => ?_)
                            refine pm_iincX (v := x31_6 + 1) (loc' := [some (.ref (B + 54)), some (.int za), some (.int zb), some (.int zc), some (.int zd), some (.int ze), some (.int (x31_6 + 1))]) hG dX12_move_189 rfl (by rfl) (by decide) (pm_c1b rfl) rfl ?_
                            refine pm_goto (tgt := 160) hG dX12_move_192 rfl ?_
                            exact ih160 _ _ hE
                      refine loop160 _ (fun S36 x36_6 hE => ?_) _ _ _ hE
                      refine pm_iloadi hG dX12_move_195 rfl ?_
                      exact pm_iret hG hF dX12_move_197 rfl (Nat.le_refl _) (Nat.le_refl _) (fx_rim hE)
                    · replace c24 := Int32.not_le.mp c24
                      replace hE := fx_t c24 hE
                      refine pm_aloadn hG dX12_move_114 rfl ?_
                      refine pm_iconst (v := 1) hG dX12_move_115 (by decide) ?_
                      obtain ⟨r38, h37, hE⟩ := fb_some hE
                      refine pm_callV (As := [.int 1]) (rest := []) hG hR dX12_move_116 (lkX12_80 _ rfl) okV_X12_finds rfl rfl (c_X12_finds (d := 2) (by decide) h37) rfl rfl hdd (Nat.le_refl _) (Nat.le_refl _) (by decide) (fx_ki ?_)
                      exact pm_iret hG hF dX12_move_119 rfl (Nat.le_refl _) (Nat.le_refl _) (fx_rim hE)
          · replace hE := fx_f c11 hE
            refine pm_aloadn hG dX12_move_59 rfl ?_
            refine pm_iconst (v := 5) hG dX12_move_60 (by decide) ?_
            obtain ⟨r40, h39, hE⟩ := fb_some hE
            refine pm_callV (As := [.int 5]) (rest := []) hG hR dX12_move_61 (lkX12_80 _ rfl) okV_X12_finds rfl rfl (c_X12_finds (d := 2) (by decide) h39) rfl rfl hdd (Nat.le_refl _) (Nat.le_refl _) (by decide) (fx_ki ?_)
            exact pm_iret hG hF dX12_move_64 rfl (Nat.le_refl _) (Nat.le_refl _) (fx_rim hE)
        · replace hE := fx_t c10 hE
          refine pm_aloadn hG dX12_move_38 rfl ?_
          refine pm_iconst (v := 2) hG dX12_move_39 (by decide) ?_
          obtain ⟨r42, h41, hE⟩ := fb_some hE
          refine pm_callV (As := [.int 2]) (rest := []) hG hR dX12_move_40 (lkX12_80 _ rfl) okV_X12_finds rfl rfl (c_X12_finds (d := 2) (by decide) h41) rfl rfl hdd (Nat.le_refl _) (Nat.le_refl _) (by decide) (fx_ki ?_)
          exact pm_iret hG hF dX12_move_43 rfl (Nat.le_refl _) (Nat.le_refl _) (fx_rim hE)
    · replace hE := fx_t c4 hE
      refine pm_aloadn hG dX12_move_14 rfl ?_
      refine pm_iconst (v := 1) hG dX12_move_15 (by decide) ?_
      obtain ⟨r44, h43, hE⟩ := fb_some hE
      refine pm_callV (As := [.int 1]) (rest := []) hG hR dX12_move_16 (lkX12_80 _ rfl) okV_X12_finds rfl rfl (c_X12_finds (d := 2) (by decide) h43) rfl rfl hdd (Nat.le_refl _) (Nat.le_refl _) (by decide) (fx_ki ?_)
      exact pm_iret hG hF dX12_move_19 rfl (Nat.le_refl _) (Nat.le_refl _) (fx_rim hE)
end
section
set_option maxRecDepth 100000 in
set_option maxHeartbeats 4000000 in
theorem c_X12_winsBy_k1 {d : Nat} {B cnt : Nat} {σ : pm_S} {S : FS} {za : Int32} {zc : Int32} {zd : Int32} {ze : Int32} {R : Int32} (hdd : 1 ≤ d) (hE : p_X12_winsBy_k1 S za zc zd ze = R) : pm_met mX12_winsBy d 0 0 B [.ref (B + 54), .int za, .int 1, .int zc, .int zd, .int ze] cnt (mst B S σ) (pm_Qi (fun v σ' cnt' => v = R ∧ σ' = (mst B S σ) ∧ cnt' = cnt)) := by
  refine pm_enter 6 (by decide) (Nat.le_of_ble_eq_true rfl) rfl (fun G hG hR hF => ?_)
  unfold p_X12_winsBy_k1 at hE
  refine pm_iloadn hG dX12_winsBy_0 rfl ?_
  refine pm_iloadi hG dX12_winsBy_1 rfl ?_
  refine pm_icmp_ne (tgt := 8) hG dX12_winsBy_3 rfl (fun c1 => ?_) (fun c1 => ?_)
  · replace hE := fx_f c1 hE
    refine pm_iloadn hG dX12_winsBy_8 rfl ?_
    refine pm_iconst (v := 1) hG dX12_winsBy_9 (by decide) ?_
    refine pm_icmp_ne (tgt := 15) hG dX12_winsBy_10 rfl (fun q => absurd q (by decide)) (fun _ => ?_)
    refine pm_iconst (v := 0) hG dX12_winsBy_13 (by decide) ?_
    exact pm_zret hG hF dX12_winsBy_14 rfl (by rfl) (Nat.le_refl _) (Nat.le_refl _) (fx_pi hE)
  · replace hE := fx_t c1 hE
    refine pm_iconst (v := 1) hG dX12_winsBy_6 (by decide) ?_
    exact pm_zret hG hF dX12_winsBy_7 rfl (by rfl) (Nat.le_refl _) (Nat.le_refl _) (fx_pi hE)

set_option maxRecDepth 100000 in
set_option maxHeartbeats 4000000 in
theorem c_X12_wins_k1 {d : Nat} {B cnt : Nat} {σ : pm_S} {S : FS} {zb : Int32} {zc : Int32} {zd : Int32} {R : Int32} (hdd : 4 ≤ d) (hE : q_X12_wins_k1 S zb zc zd = some R) : pm_met mX12_wins d 0 0 B [.ref (B + 54), .int 1, .int zb, .int zc, .int zd] cnt (mst B S σ) (pm_Qi (fun v σ' cnt' => v = R ∧ σ' = (mst B S σ) ∧ cnt' = cnt)) := by
  refine pm_enter 2 (by decide) (Nat.le_of_ble_eq_true rfl) rfl (fun G hG hR hF => ?_)
  unfold q_X12_wins_k1 at hE
  refine pm_aloadn hG dX12_wins_0 rfl ?_
  refine pm_iconst (v := (-1)) hG dX12_wins_1 (by decide) ?_
  refine pm_iloadn hG dX12_wins_2 rfl ?_
  refine pm_iloadn hG dX12_wins_3 rfl ?_
  refine pm_iloadn hG dX12_wins_4 rfl ?_
  refine pm_iloadi hG dX12_wins_5 rfl ?_
  refine pm_callV (As := [.int (-1), .int 1, .int zb, .int zc, .int zd]) (rest := []) hG hR dX12_wins_7 (lkX12_260 _ rfl) okV_X12_winsBy rfl rfl (c_X12_winsBy_k1 (d := 3) (by decide) rfl) rfl rfl hdd (Nat.le_refl _) (Nat.le_refl _) (by decide) (fx_ki ?_)
  refine fx_letv hE (fun x1 hE => ?_)
  refine pm_istoreXi (loc' := [some (.ref (B + 54)), some (.int 1), some (.int zb), some (.int zc), some (.int zd), some (.int x1), none]) hG dX12_wins_10 (by decide) (pm_c1b rfl) rfl ?_
  refine pm_iconst (v := 0) hG dX12_wins_12 (by decide) ?_
  refine pm_istoreXi (loc' := [some (.ref (B + 54)), some (.int 1), some (.int zb), some (.int zc), some (.int zd), some (.int x1), some (.int 0)]) hG dX12_wins_13 (by decide) (pm_c1b rfl) rfl ?_
  have loop15 : ∀ (k15 : Int32 → Int32 → Option Int32), (∀  (x2_5 : Int32) (x2_6 : Int32), k15  x2_5 x2_6 = some R → pm_wp mX12_wins G B 64 [some (.ref (B + 54)), some (.int 1), some (.int zb), some (.int zc), some (.int zd), some (.int x2_5), some (.int x2_6)] [] 0 0 cnt (mst B S σ)) → ∀ (m15 : Nat)  (x2_5 : Int32) (x2_6 : Int32), l_X12_wins_k1_15 zb zc zd S k15 m15  x2_5 x2_6 = some R → pm_wp mX12_wins G B 15 [some (.ref (B + 54)), some (.int 1), some (.int zb), some (.int zc), some (.int zd), some (.int x2_5), some (.int x2_6)] [] 0 0 cnt (mst B S σ) := by
    intro k15 hk15 m15
    induction m15 with
    | zero => intro  x2_5 x2_6 hE; exact fx_no hE
    | succ m15 ih15 =>
      intro  x2_5 x2_6 hE
      rw [l_X12_wins_k1_15] at hE
      refine pm_iloadi hG dX12_wins_15 rfl ?_
      refine pm_iconst (v := 5) hG dX12_wins_17 (by decide) ?_
      refine pm_icmp_ge (tgt := 64) hG dX12_wins_18 rfl (fun c3 => ?_) (fun c3 => ?_)
      · replace c3 := Int32.not_lt.mpr c3
        replace hE := fx_f c3 hE
        exact hk15 _ _ hE
      · replace c3 := Int32.not_le.mp c3
        replace hE := fx_t c3 hE
        refine pm_iloadi hG dX12_wins_21 rfl ?_
        refine pm_if_ne (tgt := 64) hG dX12_wins_23 rfl (fun c4 => ?_) (fun c4 => ?_)
        · replace hE := fx_f c4 hE
          exact hk15 _ _ hE
        · replace hE := fx_t c4 hE
          refine pm_aloadn hG dX12_wins_26 rfl ?_
          refine pm_iloadn hG dX12_wins_27 rfl ?_
          refine pm_iloadn hG dX12_wins_28 rfl ?_
          refine pm_iloadi hG dX12_wins_29 rfl ?_
          obtain ⟨x6, h5, hE⟩ := fb_some hE
          refine pm_callV (As := [.int zb, .int zc, .int x2_6]) (rest := []) hG hR dX12_wins_31 (lkX12_264 _ rfl) okV_X12_canTake rfl rfl (c_X12_canTake (d := 3) (by decide) h5) rfl rfl hdd (Nat.le_refl _) (Nat.le_refl _) (by decide) (fx_ki ?_)
          refine pm_if_eq (tgt := 55) hG dX12_wins_34 rfl (fun c7 => ?_) (fun c7 => ?_)
          · replace hE := fx_t c7 hE
            refine pm_iconst (v := 0) hG dX12_wins_55 (by decide) ?_
            refine pm_istoreXi (loc' := [some (.ref (B + 54)), some (.int 1), some (.int zb), some (.int zc), some (.int zd), some (.int 0), some (.int x2_6)]) hG dX12_wins_56 (by decide) (pm_c1b rfl) rfl ?_
            refine pm_iincX (v := x2_6 + 1) (loc' := [some (.ref (B + 54)), some (.int 1), some (.int zb), some (.int zc), some (.int zd), some (.int 0), some (.int (x2_6 + 1))]) hG dX12_wins_58 rfl (by rfl) (by decide) (pm_c1b rfl) rfl ?_
            refine pm_goto (tgt := 15) hG dX12_wins_61 rfl ?_
            exact ih15 _ _ hE
          · replace hE := fx_f c7 hE
            refine pm_aloadn hG dX12_wins_37 rfl ?_
            refine pm_iloadi hG dX12_wins_38 rfl ?_
            refine pm_iloadn hG dX12_wins_40 rfl ?_
            refine pm_iloadn hG dX12_wins_41 rfl ?_
            refine pm_iloadn hG dX12_wins_42 rfl ?_
            refine pm_iloadi hG dX12_wins_43 rfl ?_
            refine pm_callV (As := [.int x2_6, .int 1, .int zb, .int zc, .int zd]) (rest := []) hG hR dX12_wins_45 (lkX12_260 _ rfl) okV_X12_winsBy rfl rfl (c_X12_winsBy_k1 (d := 3) (by decide) rfl) rfl rfl hdd (Nat.le_refl _) (Nat.le_refl _) (by decide) (fx_ki ?_)
            refine pm_if_eq (tgt := 55) hG dX12_wins_48 rfl (fun c8 => ?_) (fun c8 => ?_)
            · replace hE := fx_t c8 hE
              refine pm_iconst (v := 0) hG dX12_wins_55 (by decide) ?_
              refine pm_istoreXi (loc' := [some (.ref (B + 54)), some (.int 1), some (.int zb), some (.int zc), some (.int zd), some (.int 0), some (.int x2_6)]) hG dX12_wins_56 (by decide) (pm_c1b rfl) rfl ?_
              refine pm_iincX (v := x2_6 + 1) (loc' := [some (.ref (B + 54)), some (.int 1), some (.int zb), some (.int zc), some (.int zd), some (.int 0), some (.int (x2_6 + 1))]) hG dX12_wins_58 rfl (by rfl) (by decide) (pm_c1b rfl) rfl ?_
              refine pm_goto (tgt := 15) hG dX12_wins_61 rfl ?_
              exact ih15 _ _ hE
            · replace hE := fx_f c8 hE
              refine pm_iconst (v := 1) hG dX12_wins_51 (by decide) ?_
              refine pm_goto (tgt := 56) hG dX12_wins_52 rfl ?_
              refine pm_istoreXi (loc' := [some (.ref (B + 54)), some (.int 1), some (.int zb), some (.int zc), some (.int zd), some (.int 1), some (.int x2_6)]) hG dX12_wins_56 (by decide) (pm_c1b rfl) rfl ?_
              refine pm_iincX (v := x2_6 + 1) (loc' := [some (.ref (B + 54)), some (.int 1), some (.int zb), some (.int zc), some (.int zd), some (.int 1), some (.int (x2_6 + 1))]) hG dX12_wins_58 rfl (by rfl) (by decide) (pm_c1b rfl) rfl ?_
              refine pm_goto (tgt := 15) hG dX12_wins_61 rfl ?_
              exact ih15 _ _ hE
  refine loop15 _ (fun  x9_5 x9_6 hE => ?_) _ _ _ hE
  refine pm_iloadi hG dX12_wins_64 rfl ?_
  obtain ⟨b10, hb10, hE⟩ := fb_some hE
  exact pm_zret hG hF dX12_wins_66 rfl (bz_n hb10) (Nat.le_refl _) (Nat.le_refl _) (fx_pi ((bz_in hb10).2.trans (Option.some.inj hE)))

set_option maxRecDepth 100000 in
set_option maxHeartbeats 4000000 in
theorem c_X12_winsBy_k2 {d : Nat} {B cnt : Nat} {σ : pm_S} {S : FS} {za : Int32} {zc : Int32} {zd : Int32} {ze : Int32} {R : Int32 × FS} (hdd : 5 ≤ d) (hE : f_X12_winsBy_k2 S za zc zd ze = some R) : pm_met mX12_winsBy d 0 0 B [.ref (B + 54), .int za, .int 2, .int zc, .int zd, .int ze] cnt (mst B S σ) (pm_Qi (fun v σ' cnt' => v = R.1 ∧ σ' = (mst B R.2 σ) ∧ cnt' = cnt)) := by
  refine pm_enter 6 (by decide) (Nat.le_of_ble_eq_true rfl) rfl (fun G hG hR hF => ?_)
  unfold f_X12_winsBy_k2 at hE
  refine pm_iloadn hG dX12_winsBy_0 rfl ?_
  refine pm_iloadi hG dX12_winsBy_1 rfl ?_
  refine pm_icmp_ne (tgt := 8) hG dX12_winsBy_3 rfl (fun c1 => ?_) (fun c1 => ?_)
  · replace hE := fx_f c1 hE
    refine pm_iloadn hG dX12_winsBy_8 rfl ?_
    refine pm_iconst (v := 1) hG dX12_winsBy_9 (by decide) ?_
    refine pm_icmp_ne (tgt := 15) hG dX12_winsBy_10 rfl (fun _ => ?_) (fun q => absurd q (by decide))
    have join50 : ∀ (S2 : FS) (v2_6 : Int32) (v2_7 : Int32), j_X12_winsBy_k2_50 ze S2 v2_6 v2_7 = some R → pm_wp mX12_winsBy G B 50 [some (.ref (B + 54)), some (.int za), some (.int 2), some (.int zc), some (.int zd), some (.int ze), some (.int v2_6), some (.int v2_7), none, none, none, none] [] 0 0 cnt (mst B S2 σ) := by
      intro S2 v2_6 v2_7 hE
      unfold j_X12_winsBy_k2_50 at hE
      refine pm_aloadn hG dX12_winsBy_50 rfl ?_
      refine pm_iloadn hG dX12_winsBy_51 rfl ?_
      refine pm_iconst (v := 1) hG dX12_winsBy_52 (by decide) ?_
      refine pm_isub hG dX12_winsBy_53 ?_
      refine pm_top (v := 1) (by decide) ?_
      refine pm_iloadi hG dX12_winsBy_54 rfl ?_
      refine pm_iloadi hG dX12_winsBy_56 rfl ?_
      refine pm_iloadi hG dX12_winsBy_58 rfl ?_
      obtain ⟨x4, h3, hE⟩ := fb_some hE
      refine pm_callV (As := [.int 1, .int v2_6, .int v2_7, .int ze]) (rest := []) hG hR dX12_winsBy_60 (lkX12_256 _ rfl) okV_X12_wins rfl rfl (c_X12_wins_k1 (d := 4) (by decide) h3) rfl rfl hdd (Nat.le_refl _) (Nat.le_refl _) (by decide) (fx_ki ?_)
      refine pm_istoreXi (loc' := [some (.ref (B + 54)), some (.int za), some (.int 2), some (.int zc), some (.int zd), some (.int ze), some (.int v2_6), some (.int v2_7), some (.int x4), none, none, none]) hG dX12_winsBy_63 (by decide) (pm_c1b rfl) rfl ?_
      refine pm_iconst (v := 0) hG dX12_winsBy_65 (by decide) ?_
      refine pm_istoreXi (loc' := [some (.ref (B + 54)), some (.int za), some (.int 2), some (.int zc), some (.int zd), some (.int ze), some (.int v2_6), some (.int v2_7), some (.int x4), some (.int 0), none, none]) hG dX12_winsBy_66 (by decide) (pm_c1b rfl) rfl ?_
      have loop68 : ∀ (k68 : FS → Int32 → Int32 → Option (Int32 × FS)), (∀ (S5 : FS) (x5_8 : Int32) (x5_9 : Int32), k68 S5  x5_8 x5_9 = some R → pm_wp mX12_winsBy G B 226 [some (.ref (B + 54)), some (.int za), some (.int 2), some (.int zc), some (.int zd), some (.int ze), some (.int v2_6), some (.int v2_7), some (.int x5_8), some (.int x5_9), none, none] [] 0 0 cnt (mst B S5 σ)) → ∀ (m68 : Nat) (S5 : FS) (x5_8 : Int32) (x5_9 : Int32), l_X12_winsBy_k2_68 ze v2_6 v2_7 k68 m68 S5  x5_8 x5_9 = some R → pm_wp mX12_winsBy G B 68 [some (.ref (B + 54)), some (.int za), some (.int 2), some (.int zc), some (.int zd), some (.int ze), some (.int v2_6), some (.int v2_7), some (.int x5_8), some (.int x5_9), none, none] [] 0 0 cnt (mst B S5 σ) := by
        intro k68 hk68 m68
        induction m68 with
        | zero => intro S5  x5_8 x5_9 hE; exact fx_no hE
        | succ m68 ih68 =>
          intro S5  x5_8 x5_9 hE
          rw [l_X12_winsBy_k2_68] at hE
          refine pm_iloadi hG dX12_winsBy_68 rfl ?_
          refine pm_iconst (v := 5) hG dX12_winsBy_70 (by decide) ?_
          refine pm_icmp_ge (tgt := 226) hG dX12_winsBy_71 rfl (fun c6 => ?_) (fun c6 => ?_)
          · replace c6 := Int32.not_lt.mpr c6
            replace hE := fx_f c6 hE
            exact hk68 _ _ _ hE
          · replace c6 := Int32.not_le.mp c6
            replace hE := fx_t c6 hE
            refine pm_iloadi hG dX12_winsBy_74 rfl ?_
            refine pm_if_eq (tgt := 226) hG dX12_winsBy_76 rfl (fun c7 => ?_) (fun c7 => ?_)
            · replace hE := fx_t c7 hE
              exact hk68 _ _ _ hE
            · replace hE := fx_f c7 hE
              refine pm_iconst (v := (-1)) hG dX12_winsBy_79 (by decide) ?_
              refine pm_istoreXi (loc' := [some (.ref (B + 54)), some (.int za), some (.int 2), some (.int zc), some (.int zd), some (.int ze), some (.int v2_6), some (.int v2_7), some (.int x5_8), some (.int x5_9), some (.int (-1)), none]) hG dX12_winsBy_80 (by decide) (pm_c1b rfl) rfl ?_
              have loop82 : ∀ (k82 : FS → Int32 → Int32 → Option (Int32 × FS)), (∀ (S8 : FS) (x8_8 : Int32) (x8_10 : Int32), k82 S8  x8_8 x8_10 = some R → pm_wp mX12_winsBy G B 220 [some (.ref (B + 54)), some (.int za), some (.int 2), some (.int zc), some (.int zd), some (.int ze), some (.int v2_6), some (.int v2_7), some (.int x8_8), some (.int x5_9), some (.int x8_10), none] [] 0 0 cnt (mst B S8 σ)) → ∀ (m82 : Nat) (S8 : FS) (x8_8 : Int32) (x8_10 : Int32), l_X12_winsBy_k2_82 ze v2_6 v2_7 x5_9 k82 m82 S8  x8_8 x8_10 = some R → pm_wp mX12_winsBy G B 82 [some (.ref (B + 54)), some (.int za), some (.int 2), some (.int zc), some (.int zd), some (.int ze), some (.int v2_6), some (.int v2_7), some (.int x8_8), some (.int x5_9), some (.int x8_10), none] [] 0 0 cnt (mst B S8 σ) := by
                intro k82 hk82 m82
                induction m82 with
                | zero => intro S8  x8_8 x8_10 hE; exact fx_no hE
                | succ m82 ih82 =>
                  intro S8  x8_8 x8_10 hE
                  rw [l_X12_winsBy_k2_82] at hE
                  refine pm_iloadi hG dX12_winsBy_82 rfl ?_
                  refine pm_iconst (v := 1) hG dX12_winsBy_84 (by decide) ?_
                  refine pm_icmp_gt (tgt := 220) hG dX12_winsBy_85 rfl (fun c9 => ?_) (fun c9 => ?_)
                  · replace hE := fx_t c9 hE
                    exact hk82 _ _ _ hE
                  · replace hE := fx_f c9 hE
                    refine pm_iloadi hG dX12_winsBy_88 rfl ?_
                    refine pm_if_eq (tgt := 220) hG dX12_winsBy_90 rfl (fun c10 => ?_) (fun c10 => ?_)
                    · replace hE := fx_t c10 hE
                      exact hk82 _ _ _ hE
                    · replace hE := fx_f c10 hE
                      refine pm_iloadi hG dX12_winsBy_93 rfl ?_
                      refine pm_iloadi hG dX12_winsBy_95 rfl ?_
                      refine pm_iadd hG dX12_winsBy_97 ?_
                      refine fx_letv hE (fun x11 hE => ?_)
                      refine pm_istoreXi (loc' := [some (.ref (B + 54)), some (.int za), some (.int 2), some (.int zc), some (.int zd), some (.int ze), some (.int v2_6), some (.int v2_7), some (.int x8_8), some (.int x5_9), some (.int x8_10), some (.int x11)]) hG dX12_winsBy_98 (by decide) (pm_c1b rfl) rfl ?_
                      refine pm_iloadi hG dX12_winsBy_100 rfl ?_
                      refine pm_iconst (v := 0) hG dX12_winsBy_102 (by decide) ?_
                      refine pm_iconst (v := 4) hG dX12_winsBy_103 (by decide) ?_
                      refine pm_callS (As := [.int x11, .int 0, .int 4]) (rest := []) hG hR dX12_winsBy_104 (lkX12_68 _ rfl) okS_X12_in (c_X12_in (d := 4) (by decide) rfl) rfl rfl hdd (Nat.le_refl _) (Nat.le_refl _) (by decide) (fx_ki ?_)
                      refine pm_if_eq (tgt := 214) hG dX12_winsBy_107 rfl (fun c12 => ?_) (fun c12 => ?_)
                      · replace hE := fx_t c12 hE
                        refine pm_iincX (v := x8_10 + 2) (loc' := [some (.ref (B + 54)), some (.int za), some (.int 2), some (.int zc), some (.int zd), some (.int ze), some (.int v2_6), some (.int v2_7), some (.int x8_8), some (.int x5_9), some (.int (x8_10 + 2)), some (.int x11)]) hG dX12_winsBy_214 rfl (by rfl) (by decide) (pm_c1b rfl) rfl ?_
                        refine pm_goto (tgt := 82) hG dX12_winsBy_217 rfl ?_
                        refine pm_fg 11 (loc' := [some (.ref (B + 54)), some (.int za), some (.int 2), some (.int zc), some (.int zd), some (.int ze), some (.int v2_6), some (.int v2_7), some (.int x8_8), some (.int x5_9), some (.int (x8_10 + 2)), none]) rfl ?_
                        exact ih82 _ _ _ hE
                      · replace hE := fx_f c12 hE
                        refine pm_iloadi hG dX12_winsBy_110 rfl ?_
                        refine pm_iloadi hG dX12_winsBy_112 rfl ?_
                        refine pm_callS (As := [.int v2_6, .int x5_9]) (rest := []) hG hR dX12_winsBy_114 (lkX12_253 _ rfl) okS_X12_isTaken (c_X12_isTaken (d := 4) (by decide) rfl) rfl rfl hdd (Nat.le_refl _) (Nat.le_refl _) (by decide) (fx_ki ?_)
                        refine pm_if_ne (tgt := 214) hG dX12_winsBy_117 rfl (fun c13 => ?_) (fun c13 => ?_)
                        · replace hE := fx_f c13 hE
                          refine pm_iincX (v := x8_10 + 2) (loc' := [some (.ref (B + 54)), some (.int za), some (.int 2), some (.int zc), some (.int zd), some (.int ze), some (.int v2_6), some (.int v2_7), some (.int x8_8), some (.int x5_9), some (.int (x8_10 + 2)), some (.int x11)]) hG dX12_winsBy_214 rfl (by rfl) (by decide) (pm_c1b rfl) rfl ?_
                          refine pm_goto (tgt := 82) hG dX12_winsBy_217 rfl ?_
                          refine pm_fg 11 (loc' := [some (.ref (B + 54)), some (.int za), some (.int 2), some (.int zc), some (.int zd), some (.int ze), some (.int v2_6), some (.int v2_7), some (.int x8_8), some (.int x5_9), some (.int (x8_10 + 2)), none]) rfl ?_
                          exact ih82 _ _ _ hE
                        · replace hE := fx_t c13 hE
                          refine pm_iloadi hG dX12_winsBy_120 rfl ?_
                          refine pm_iloadi hG dX12_winsBy_122 rfl ?_
                          refine pm_callS (As := [.int v2_6, .int x11]) (rest := []) hG hR dX12_winsBy_124 (lkX12_253 _ rfl) okS_X12_isTaken (c_X12_isTaken (d := 4) (by decide) rfl) rfl rfl hdd (Nat.le_refl _) (Nat.le_refl _) (by decide) (fx_ki ?_)
                          refine pm_if_ne (tgt := 214) hG dX12_winsBy_127 rfl (fun c14 => ?_) (fun c14 => ?_)
                          · replace hE := fx_f c14 hE
                            refine pm_iincX (v := x8_10 + 2) (loc' := [some (.ref (B + 54)), some (.int za), some (.int 2), some (.int zc), some (.int zd), some (.int ze), some (.int v2_6), some (.int v2_7), some (.int x8_8), some (.int x5_9), some (.int (x8_10 + 2)), some (.int x11)]) hG dX12_winsBy_214 rfl (by rfl) (by decide) (pm_c1b rfl) rfl ?_
                            refine pm_goto (tgt := 82) hG dX12_winsBy_217 rfl ?_
                            refine pm_fg 11 (loc' := [some (.ref (B + 54)), some (.int za), some (.int 2), some (.int zc), some (.int zd), some (.int ze), some (.int v2_6), some (.int v2_7), some (.int x8_8), some (.int x5_9), some (.int (x8_10 + 2)), none]) rfl ?_
                            exact ih82 _ _ _ hE
                          · replace hE := fx_t c14 hE
                            refine pm_aloadn hG dX12_winsBy_130 rfl ?_
                            refine pm_getf hG dX12_winsBy_131 (flX12_43 _ rfl) rfl rfl ?_
                            refine pm_iloadi hG dX12_winsBy_134 rfl ?_
                            obtain ⟨j15, hj15, hE⟩ := fb_some hE
                            refine fx_iald hG dX12_winsBy_136 rfl hj15 ?_
                            refine pm_if_eq (tgt := 214) hG dX12_winsBy_137 rfl (fun c16 => ?_) (fun c16 => ?_)
                            · replace hE := fx_t c16 hE
                              refine pm_iincX (v := x8_10 + 2) (loc' := [some (.ref (B + 54)), some (.int za), some (.int 2), some (.int zc), some (.int zd), some (.int ze), some (.int v2_6), some (.int v2_7), some (.int x8_8), some (.int x5_9), some (.int (x8_10 + 2)), some (.int x11)]) hG dX12_winsBy_214 rfl (by rfl) (by decide) (pm_c1b rfl) rfl ?_
                              refine pm_goto (tgt := 82) hG dX12_winsBy_217 rfl ?_
                              refine pm_fg 11 (loc' := [some (.ref (B + 54)), some (.int za), some (.int 2), some (.int zc), some (.int zd), some (.int ze), some (.int v2_6), some (.int v2_7), some (.int x8_8), some (.int x5_9), some (.int (x8_10 + 2)), none]) rfl ?_
                              exact ih82 _ _ _ hE
                            · replace hE := fx_f c16 hE
                              refine pm_aloadn hG dX12_winsBy_140 rfl ?_
                              refine pm_getf hG dX12_winsBy_141 (flX12_43 _ rfl) rfl rfl ?_
                              refine pm_iloadi hG dX12_winsBy_144 rfl ?_
                              obtain ⟨j17, hj17, hE⟩ := fb_some hE
                              refine fx_iald hG dX12_winsBy_146 rfl hj17 ?_
                              refine pm_bipush (v := 6) hG dX12_winsBy_147 (by decide) ?_
                              refine pm_icmp_ne (tgt := 155) hG dX12_winsBy_149 rfl (fun c18 => ?_) (fun c18 => ?_)
                              · replace hE := fx_f c18 hE
                                refine pm_aloadn hG dX12_winsBy_155 rfl ?_
                                refine pm_getf hG dX12_winsBy_156 (flX12_43 _ rfl) rfl rfl ?_
                                refine pm_iloadi hG dX12_winsBy_159 rfl ?_
                                refine pm_dup2 hG dX12_winsBy_161 rfl rfl ?_
                                refine fx_iald hG dX12_winsBy_162 rfl hj15 ?_
                                refine pm_iconst (v := 1) hG dX12_winsBy_163 (by decide) ?_
                                refine pm_isub hG dX12_winsBy_164 ?_
                                refine fx_iast hG dX12_winsBy_165 rfl hj15 ?_
                                refine ma_66 ?_
                                refine fx_letm hE (fun S19 hE => ?_)
                                refine pm_aloadn hG dX12_winsBy_166 rfl ?_
                                refine pm_getf hG dX12_winsBy_167 (flX12_43 _ rfl) rfl rfl ?_
                                refine pm_iloadi hG dX12_winsBy_170 rfl ?_
                                refine pm_dup2 hG dX12_winsBy_172 rfl rfl ?_
                                refine fx_iald hG dX12_winsBy_173 rfl hj17 ?_
                                refine pm_iconst (v := 1) hG dX12_winsBy_174 (by decide) ?_
                                refine pm_iadd hG dX12_winsBy_175 ?_
                                refine fx_iast hG dX12_winsBy_176 rfl hj17 ?_
                                refine ma_66 ?_
                                refine fx_letm hE (fun S20 hE => ?_)
                                refine pm_aloadn hG dX12_winsBy_177 rfl ?_
                                refine pm_iloadn hG dX12_winsBy_178 rfl ?_
                                refine pm_iconst (v := 1) hG dX12_winsBy_179 (by decide) ?_
                                refine pm_isub hG dX12_winsBy_180 ?_
                                refine pm_top (v := 1) (by decide) ?_
                                refine pm_iloadi hG dX12_winsBy_181 rfl ?_
                                refine pm_iloadi hG dX12_winsBy_183 rfl ?_
                                refine pm_iloadi hG dX12_winsBy_185 rfl ?_
                                obtain ⟨x22, h21, hE⟩ := fb_some hE
                                refine pm_callV (As := [.int 1, .int v2_6, .int v2_7, .int ze]) (rest := []) hG hR dX12_winsBy_187 (lkX12_256 _ rfl) okV_X12_wins rfl rfl (c_X12_wins_k1 (d := 4) (by decide) h21) rfl rfl hdd (Nat.le_refl _) (Nat.le_refl _) (by decide) (fx_ki ?_)
                                refine pm_istoreXi (loc' := [some (.ref (B + 54)), some (.int za), some (.int 2), some (.int zc), some (.int zd), some (.int ze), some (.int v2_6), some (.int v2_7), some (.int x22), some (.int x5_9), some (.int x8_10), some (.int x11)]) hG dX12_winsBy_190 (by decide) (pm_c1b rfl) rfl ?_
                                refine pm_aloadn hG dX12_winsBy_192 rfl ?_
                                refine pm_getf hG dX12_winsBy_193 (flX12_43 _ rfl) rfl rfl ?_
                                refine pm_iloadi hG dX12_winsBy_196 rfl ?_
                                refine pm_dup2 hG dX12_winsBy_198 rfl rfl ?_
                                refine fx_iald hG dX12_winsBy_199 rfl hj15 ?_
                                refine pm_iconst (v := 1) hG dX12_winsBy_200 (by decide) ?_
                                refine pm_iadd hG dX12_winsBy_201 ?_
                                refine fx_iast hG dX12_winsBy_202 rfl hj15 ?_
                                refine ma_66 ?_
                                refine fx_letm hE (fun S23 hE => ?_)
                                refine pm_aloadn hG dX12_winsBy_203 rfl ?_
                                refine pm_getf hG dX12_winsBy_204 (flX12_43 _ rfl) rfl rfl ?_
                                refine pm_iloadi hG dX12_winsBy_207 rfl ?_
                                refine pm_dup2 hG dX12_winsBy_209 rfl rfl ?_
                                refine fx_iald hG dX12_winsBy_210 rfl hj17 ?_
                                refine pm_iconst (v := 1) hG dX12_winsBy_211 (by decide) ?_
                                refine pm_isub hG dX12_winsBy_212 ?_
                                refine fx_iast hG dX12_winsBy_213 rfl hj17 ?_
                                refine ma_66 ?_
                                refine fx_letm hE (fun S24 hE => ?_)
                                refine pm_iincX (v := x8_10 + 2) (loc' := [some (.ref (B + 54)), some (.int za), some (.int 2), some (.int zc), some (.int zd), some (.int ze), some (.int v2_6), some (.int v2_7), some (.int x22), some (.int x5_9), some (.int (x8_10 + 2)), some (.int x11)]) hG dX12_winsBy_214 rfl (by rfl) (by decide) (pm_c1b rfl) rfl ?_
                                refine pm_goto (tgt := 82) hG dX12_winsBy_217 rfl ?_
                                refine pm_fg 11 (loc' := [some (.ref (B + 54)), some (.int za), some (.int 2), some (.int zc), some (.int zd), some (.int ze), some (.int v2_6), some (.int v2_7), some (.int x22), some (.int x5_9), some (.int (x8_10 + 2)), none]) rfl ?_
                                exact ih82 _ _ _ hE
                              · replace hE := fx_t c18 hE
                                refine pm_goto (tgt := 214) hG dX12_winsBy_152 rfl ?_
                                refine pm_iincX (v := x8_10 + 2) (loc' := [some (.ref (B + 54)), some (.int za), some (.int 2), some (.int zc), some (.int zd), some (.int ze), some (.int v2_6), some (.int v2_7), some (.int x8_8), some (.int x5_9), some (.int (x8_10 + 2)), some (.int x11)]) hG dX12_winsBy_214 rfl (by rfl) (by decide) (pm_c1b rfl) rfl ?_
                                refine pm_goto (tgt := 82) hG dX12_winsBy_217 rfl ?_
                                refine pm_fg 11 (loc' := [some (.ref (B + 54)), some (.int za), some (.int 2), some (.int zc), some (.int zd), some (.int ze), some (.int v2_6), some (.int v2_7), some (.int x8_8), some (.int x5_9), some (.int (x8_10 + 2)), none]) rfl ?_
                                exact ih82 _ _ _ hE
              refine loop82 _ (fun S25 x25_8 x25_10 hE => ?_) _ _ _ _ hE
              refine pm_iincX (v := x5_9 + 1) (loc' := [some (.ref (B + 54)), some (.int za), some (.int 2), some (.int zc), some (.int zd), some (.int ze), some (.int v2_6), some (.int v2_7), some (.int x25_8), some (.int (x5_9 + 1)), some (.int x25_10), none]) hG dX12_winsBy_220 rfl (by rfl) (by decide) (pm_c1b rfl) rfl ?_
              refine pm_goto (tgt := 68) hG dX12_winsBy_223 rfl ?_
              refine pm_fg 10 (loc' := [some (.ref (B + 54)), some (.int za), some (.int 2), some (.int zc), some (.int zd), some (.int ze), some (.int v2_6), some (.int v2_7), some (.int x25_8), some (.int (x5_9 + 1)), none, none]) rfl ?_
              exact ih68 _ _ _ hE
      refine loop68 _ (fun S26 x26_8 x26_9 hE => ?_) _ _ _ _ hE
      refine pm_iloadi hG dX12_winsBy_226 rfl ?_
      obtain ⟨b27, hb27, hE⟩ := fb_some hE
      exact pm_zret hG hF dX12_winsBy_228 rfl (bz_n hb27) (Nat.le_refl _) (Nat.le_refl _) (fx_rbm hb27 hE)
    refine pm_iloadn hG dX12_winsBy_15 rfl ?_
    refine pm_if_ge (tgt := 23) hG dX12_winsBy_16 rfl (fun c28 => ?_) (fun c28 => ?_)
    · replace c28 := Int32.not_lt.mpr c28
      replace hE := fx_f c28 hE
      refine pm_iloadn hG dX12_winsBy_23 rfl ?_
      refine pm_iconst (v := 1) hG dX12_winsBy_24 (by decide) ?_
      refine pm_iloadn hG dX12_winsBy_25 rfl ?_
      refine pm_ishl hG dX12_winsBy_26 ?_
      refine pm_ior hG dX12_winsBy_27 ?_
      refine fx_letv hE (fun x29 hE => ?_)
      refine pm_istoreXi (loc' := [some (.ref (B + 54)), some (.int za), some (.int 2), some (.int zc), some (.int zd), some (.int ze), some (.int x29), none, none, none, none, none]) hG dX12_winsBy_28 (by decide) (pm_c1b rfl) rfl ?_
      refine pm_iloadn hG dX12_winsBy_30 rfl ?_
      refine pm_if_ge (tgt := 39) hG dX12_winsBy_31 rfl (fun _ => ?_) (fun q => absurd (Int32.not_le.mp q) c28)
      refine pm_iloadi hG dX12_winsBy_39 rfl ?_
      refine pm_aloadn hG dX12_winsBy_41 rfl ?_
      refine pm_getf hG dX12_winsBy_42 (flX12_43 _ rfl) rfl rfl ?_
      refine pm_iloadn hG dX12_winsBy_45 rfl ?_
      obtain ⟨j30, hj30, hE⟩ := fb_some hE
      refine fx_iald hG dX12_winsBy_46 rfl hj30 ?_
      refine pm_isub hG dX12_winsBy_47 ?_
      refine fx_letv hE (fun x31 hE => ?_)
      refine pm_istoreXi (loc' := [some (.ref (B + 54)), some (.int za), some (.int 2), some (.int zc), some (.int zd), some (.int ze), some (.int x29), some (.int x31), none, none, none, none]) hG dX12_winsBy_48 (by decide) (pm_c1b rfl) rfl ?_
      exact join50 _ _ _ hE
    · replace c28 := Int32.not_le.mp c28
      replace hE := fx_t c28 hE
      refine pm_iloadn hG dX12_winsBy_19 rfl ?_
      refine pm_goto (tgt := 28) hG dX12_winsBy_20 rfl ?_
      refine pm_istoreXi (loc' := [some (.ref (B + 54)), some (.int za), some (.int 2), some (.int zc), some (.int zd), some (.int ze), some (.int zc), none, none, none, none, none]) hG dX12_winsBy_28 (by decide) (pm_c1b rfl) rfl ?_
      refine pm_iloadn hG dX12_winsBy_30 rfl ?_
      refine pm_if_ge (tgt := 39) hG dX12_winsBy_31 rfl (fun q => absurd c28 (Int32.not_lt.mpr q)) (fun _ => ?_)
      refine pm_iloadi hG dX12_winsBy_34 rfl ?_
      refine pm_goto (tgt := 48) hG dX12_winsBy_36 rfl ?_
      refine pm_istoreXi (loc' := [some (.ref (B + 54)), some (.int za), some (.int 2), some (.int zc), some (.int zd), some (.int ze), some (.int zc), some (.int zd), none, none, none, none]) hG dX12_winsBy_48 (by decide) (pm_c1b rfl) rfl ?_
      exact join50 _ _ _ hE
  · replace hE := fx_t c1 hE
    refine pm_iconst (v := 1) hG dX12_winsBy_6 (by decide) ?_
    exact pm_zret hG hF dX12_winsBy_7 rfl (by rfl) (Nat.le_refl _) (Nat.le_refl _) (fx_rim hE)

set_option maxRecDepth 100000 in
set_option maxHeartbeats 4000000 in
theorem c_X12_wins_k2 {d : Nat} {B cnt : Nat} {σ : pm_S} {S : FS} {zb : Int32} {zc : Int32} {zd : Int32} {R : Int32 × FS} (hdd : 6 ≤ d) (hE : f_X12_wins_k2 S zb zc zd = some R) : pm_met mX12_wins d 0 0 B [.ref (B + 54), .int 2, .int zb, .int zc, .int zd] cnt (mst B S σ) (pm_Qi (fun v σ' cnt' => v = R.1 ∧ σ' = (mst B R.2 σ) ∧ cnt' = cnt)) := by
  refine pm_enter 2 (by decide) (Nat.le_of_ble_eq_true rfl) rfl (fun G hG hR hF => ?_)
  unfold f_X12_wins_k2 at hE
  refine pm_aloadn hG dX12_wins_0 rfl ?_
  refine pm_iconst (v := (-1)) hG dX12_wins_1 (by decide) ?_
  refine pm_iloadn hG dX12_wins_2 rfl ?_
  refine pm_iloadn hG dX12_wins_3 rfl ?_
  refine pm_iloadn hG dX12_wins_4 rfl ?_
  refine pm_iloadi hG dX12_wins_5 rfl ?_
  obtain ⟨r2, h1, hE⟩ := fb_some hE
  refine pm_callV (As := [.int (-1), .int 2, .int zb, .int zc, .int zd]) (rest := []) hG hR dX12_wins_7 (lkX12_260 _ rfl) okV_X12_winsBy rfl rfl (c_X12_winsBy_k2 (d := 5) (by decide) h1) rfl rfl hdd (Nat.le_refl _) (Nat.le_refl _) (by decide) (fx_ki ?_)
  refine pm_istoreXi (loc' := [some (.ref (B + 54)), some (.int 2), some (.int zb), some (.int zc), some (.int zd), some (.int r2.1), none]) hG dX12_wins_10 (by decide) (pm_c1b rfl) rfl ?_
  refine pm_iconst (v := 0) hG dX12_wins_12 (by decide) ?_
  refine pm_istoreXi (loc' := [some (.ref (B + 54)), some (.int 2), some (.int zb), some (.int zc), some (.int zd), some (.int r2.1), some (.int 0)]) hG dX12_wins_13 (by decide) (pm_c1b rfl) rfl ?_
  have loop15 : ∀ (k15 : FS → Int32 → Int32 → Option (Int32 × FS)), (∀ (S3 : FS) (x3_5 : Int32) (x3_6 : Int32), k15 S3  x3_5 x3_6 = some R → pm_wp mX12_wins G B 64 [some (.ref (B + 54)), some (.int 2), some (.int zb), some (.int zc), some (.int zd), some (.int x3_5), some (.int x3_6)] [] 0 0 cnt (mst B S3 σ)) → ∀ (m15 : Nat) (S3 : FS) (x3_5 : Int32) (x3_6 : Int32), l_X12_wins_k2_15 zb zc zd k15 m15 S3  x3_5 x3_6 = some R → pm_wp mX12_wins G B 15 [some (.ref (B + 54)), some (.int 2), some (.int zb), some (.int zc), some (.int zd), some (.int x3_5), some (.int x3_6)] [] 0 0 cnt (mst B S3 σ) := by
    intro k15 hk15 m15
    induction m15 with
    | zero => intro S3  x3_5 x3_6 hE; exact fx_no hE
    | succ m15 ih15 =>
      intro S3  x3_5 x3_6 hE
      rw [l_X12_wins_k2_15] at hE
      refine pm_iloadi hG dX12_wins_15 rfl ?_
      refine pm_iconst (v := 5) hG dX12_wins_17 (by decide) ?_
      refine pm_icmp_ge (tgt := 64) hG dX12_wins_18 rfl (fun c4 => ?_) (fun c4 => ?_)
      · replace c4 := Int32.not_lt.mpr c4
        replace hE := fx_f c4 hE
        exact hk15 _ _ _ hE
      · replace c4 := Int32.not_le.mp c4
        replace hE := fx_t c4 hE
        refine pm_iloadi hG dX12_wins_21 rfl ?_
        refine pm_if_ne (tgt := 64) hG dX12_wins_23 rfl (fun c5 => ?_) (fun c5 => ?_)
        · replace hE := fx_f c5 hE
          exact hk15 _ _ _ hE
        · replace hE := fx_t c5 hE
          refine pm_aloadn hG dX12_wins_26 rfl ?_
          refine pm_iloadn hG dX12_wins_27 rfl ?_
          refine pm_iloadn hG dX12_wins_28 rfl ?_
          refine pm_iloadi hG dX12_wins_29 rfl ?_
          obtain ⟨x7, h6, hE⟩ := fb_some hE
          refine pm_callV (As := [.int zb, .int zc, .int x3_6]) (rest := []) hG hR dX12_wins_31 (lkX12_264 _ rfl) okV_X12_canTake rfl rfl (c_X12_canTake (d := 5) (by decide) h6) rfl rfl hdd (Nat.le_refl _) (Nat.le_refl _) (by decide) (fx_ki ?_)
          refine pm_if_eq (tgt := 55) hG dX12_wins_34 rfl (fun c8 => ?_) (fun c8 => ?_)
          · replace hE := fx_t c8 hE
            refine pm_iconst (v := 0) hG dX12_wins_55 (by decide) ?_
            refine pm_istoreXi (loc' := [some (.ref (B + 54)), some (.int 2), some (.int zb), some (.int zc), some (.int zd), some (.int 0), some (.int x3_6)]) hG dX12_wins_56 (by decide) (pm_c1b rfl) rfl ?_
            refine pm_iincX (v := x3_6 + 1) (loc' := [some (.ref (B + 54)), some (.int 2), some (.int zb), some (.int zc), some (.int zd), some (.int 0), some (.int (x3_6 + 1))]) hG dX12_wins_58 rfl (by rfl) (by decide) (pm_c1b rfl) rfl ?_
            refine pm_goto (tgt := 15) hG dX12_wins_61 rfl ?_
            exact ih15 _ _ _ hE
          · replace hE := fx_f c8 hE
            refine pm_aloadn hG dX12_wins_37 rfl ?_
            refine pm_iloadi hG dX12_wins_38 rfl ?_
            refine pm_iloadn hG dX12_wins_40 rfl ?_
            refine pm_iloadn hG dX12_wins_41 rfl ?_
            refine pm_iloadn hG dX12_wins_42 rfl ?_
            refine pm_iloadi hG dX12_wins_43 rfl ?_
            obtain ⟨r10, h9, hE⟩ := fb_some hE
            refine pm_callV (As := [.int x3_6, .int 2, .int zb, .int zc, .int zd]) (rest := []) hG hR dX12_wins_45 (lkX12_260 _ rfl) okV_X12_winsBy rfl rfl (c_X12_winsBy_k2 (d := 5) (by decide) h9) rfl rfl hdd (Nat.le_refl _) (Nat.le_refl _) (by decide) (fx_ki ?_)
            refine pm_if_eq (tgt := 55) hG dX12_wins_48 rfl (fun c11 => ?_) (fun c11 => ?_)
            · replace hE := fx_t c11 hE
              refine pm_iconst (v := 0) hG dX12_wins_55 (by decide) ?_
              refine pm_istoreXi (loc' := [some (.ref (B + 54)), some (.int 2), some (.int zb), some (.int zc), some (.int zd), some (.int 0), some (.int x3_6)]) hG dX12_wins_56 (by decide) (pm_c1b rfl) rfl ?_
              refine pm_iincX (v := x3_6 + 1) (loc' := [some (.ref (B + 54)), some (.int 2), some (.int zb), some (.int zc), some (.int zd), some (.int 0), some (.int (x3_6 + 1))]) hG dX12_wins_58 rfl (by rfl) (by decide) (pm_c1b rfl) rfl ?_
              refine pm_goto (tgt := 15) hG dX12_wins_61 rfl ?_
              exact ih15 _ _ _ hE
            · replace hE := fx_f c11 hE
              refine pm_iconst (v := 1) hG dX12_wins_51 (by decide) ?_
              refine pm_goto (tgt := 56) hG dX12_wins_52 rfl ?_
              refine pm_istoreXi (loc' := [some (.ref (B + 54)), some (.int 2), some (.int zb), some (.int zc), some (.int zd), some (.int 1), some (.int x3_6)]) hG dX12_wins_56 (by decide) (pm_c1b rfl) rfl ?_
              refine pm_iincX (v := x3_6 + 1) (loc' := [some (.ref (B + 54)), some (.int 2), some (.int zb), some (.int zc), some (.int zd), some (.int 1), some (.int (x3_6 + 1))]) hG dX12_wins_58 rfl (by rfl) (by decide) (pm_c1b rfl) rfl ?_
              refine pm_goto (tgt := 15) hG dX12_wins_61 rfl ?_
              exact ih15 _ _ _ hE
  refine loop15 _ (fun S12 x12_5 x12_6 hE => ?_) _ _ _ _ hE
  refine pm_iloadi hG dX12_wins_64 rfl ?_
  obtain ⟨b13, hb13, hE⟩ := fb_some hE
  exact pm_zret hG hF dX12_wins_66 rfl (bz_n hb13) (Nat.le_refl _) (Nat.le_refl _) (fx_rbm hb13 hE)

set_option maxRecDepth 100000 in
set_option maxHeartbeats 4000000 in
theorem c_X12_winsBy_k3 {d : Nat} {B cnt : Nat} {σ : pm_S} {S : FS} {za : Int32} {zc : Int32} {zd : Int32} {ze : Int32} {R : Int32 × FS} (hdd : 7 ≤ d) (hE : f_X12_winsBy_k3 S za zc zd ze = some R) : pm_met mX12_winsBy d 0 0 B [.ref (B + 54), .int za, .int 3, .int zc, .int zd, .int ze] cnt (mst B S σ) (pm_Qi (fun v σ' cnt' => v = R.1 ∧ σ' = (mst B R.2 σ) ∧ cnt' = cnt)) := by
  refine pm_enter 6 (by decide) (Nat.le_of_ble_eq_true rfl) rfl (fun G hG hR hF => ?_)
  unfold f_X12_winsBy_k3 at hE
  refine pm_iloadn hG dX12_winsBy_0 rfl ?_
  refine pm_iloadi hG dX12_winsBy_1 rfl ?_
  refine pm_icmp_ne (tgt := 8) hG dX12_winsBy_3 rfl (fun c1 => ?_) (fun c1 => ?_)
  · replace hE := fx_f c1 hE
    refine pm_iloadn hG dX12_winsBy_8 rfl ?_
    refine pm_iconst (v := 1) hG dX12_winsBy_9 (by decide) ?_
    refine pm_icmp_ne (tgt := 15) hG dX12_winsBy_10 rfl (fun _ => ?_) (fun q => absurd q (by decide))
    have join50 : ∀ (S2 : FS) (v2_6 : Int32) (v2_7 : Int32), j_X12_winsBy_k3_50 ze S2 v2_6 v2_7 = some R → pm_wp mX12_winsBy G B 50 [some (.ref (B + 54)), some (.int za), some (.int 3), some (.int zc), some (.int zd), some (.int ze), some (.int v2_6), some (.int v2_7), none, none, none, none] [] 0 0 cnt (mst B S2 σ) := by
      intro S2 v2_6 v2_7 hE
      unfold j_X12_winsBy_k3_50 at hE
      refine pm_aloadn hG dX12_winsBy_50 rfl ?_
      refine pm_iloadn hG dX12_winsBy_51 rfl ?_
      refine pm_iconst (v := 1) hG dX12_winsBy_52 (by decide) ?_
      refine pm_isub hG dX12_winsBy_53 ?_
      refine pm_top (v := 2) (by decide) ?_
      refine pm_iloadi hG dX12_winsBy_54 rfl ?_
      refine pm_iloadi hG dX12_winsBy_56 rfl ?_
      refine pm_iloadi hG dX12_winsBy_58 rfl ?_
      obtain ⟨r4, h3, hE⟩ := fb_some hE
      refine pm_callV (As := [.int 2, .int v2_6, .int v2_7, .int ze]) (rest := []) hG hR dX12_winsBy_60 (lkX12_256 _ rfl) okV_X12_wins rfl rfl (c_X12_wins_k2 (d := 6) (by decide) h3) rfl rfl hdd (Nat.le_refl _) (Nat.le_refl _) (by decide) (fx_ki ?_)
      refine pm_istoreXi (loc' := [some (.ref (B + 54)), some (.int za), some (.int 3), some (.int zc), some (.int zd), some (.int ze), some (.int v2_6), some (.int v2_7), some (.int r4.1), none, none, none]) hG dX12_winsBy_63 (by decide) (pm_c1b rfl) rfl ?_
      refine pm_iconst (v := 0) hG dX12_winsBy_65 (by decide) ?_
      refine pm_istoreXi (loc' := [some (.ref (B + 54)), some (.int za), some (.int 3), some (.int zc), some (.int zd), some (.int ze), some (.int v2_6), some (.int v2_7), some (.int r4.1), some (.int 0), none, none]) hG dX12_winsBy_66 (by decide) (pm_c1b rfl) rfl ?_
      have loop68 : ∀ (k68 : FS → Int32 → Int32 → Option (Int32 × FS)), (∀ (S5 : FS) (x5_8 : Int32) (x5_9 : Int32), k68 S5  x5_8 x5_9 = some R → pm_wp mX12_winsBy G B 226 [some (.ref (B + 54)), some (.int za), some (.int 3), some (.int zc), some (.int zd), some (.int ze), some (.int v2_6), some (.int v2_7), some (.int x5_8), some (.int x5_9), none, none] [] 0 0 cnt (mst B S5 σ)) → ∀ (m68 : Nat) (S5 : FS) (x5_8 : Int32) (x5_9 : Int32), l_X12_winsBy_k3_68 ze v2_6 v2_7 k68 m68 S5  x5_8 x5_9 = some R → pm_wp mX12_winsBy G B 68 [some (.ref (B + 54)), some (.int za), some (.int 3), some (.int zc), some (.int zd), some (.int ze), some (.int v2_6), some (.int v2_7), some (.int x5_8), some (.int x5_9), none, none] [] 0 0 cnt (mst B S5 σ) := by
        intro k68 hk68 m68
        induction m68 with
        | zero => intro S5  x5_8 x5_9 hE; exact fx_no hE
        | succ m68 ih68 =>
          intro S5  x5_8 x5_9 hE
          rw [l_X12_winsBy_k3_68] at hE
          refine pm_iloadi hG dX12_winsBy_68 rfl ?_
          refine pm_iconst (v := 5) hG dX12_winsBy_70 (by decide) ?_
          refine pm_icmp_ge (tgt := 226) hG dX12_winsBy_71 rfl (fun c6 => ?_) (fun c6 => ?_)
          · replace c6 := Int32.not_lt.mpr c6
            replace hE := fx_f c6 hE
            exact hk68 _ _ _ hE
          · replace c6 := Int32.not_le.mp c6
            replace hE := fx_t c6 hE
            refine pm_iloadi hG dX12_winsBy_74 rfl ?_
            refine pm_if_eq (tgt := 226) hG dX12_winsBy_76 rfl (fun c7 => ?_) (fun c7 => ?_)
            · replace hE := fx_t c7 hE
              exact hk68 _ _ _ hE
            · replace hE := fx_f c7 hE
              refine pm_iconst (v := (-1)) hG dX12_winsBy_79 (by decide) ?_
              refine pm_istoreXi (loc' := [some (.ref (B + 54)), some (.int za), some (.int 3), some (.int zc), some (.int zd), some (.int ze), some (.int v2_6), some (.int v2_7), some (.int x5_8), some (.int x5_9), some (.int (-1)), none]) hG dX12_winsBy_80 (by decide) (pm_c1b rfl) rfl ?_
              have loop82 : ∀ (k82 : FS → Int32 → Int32 → Option (Int32 × FS)), (∀ (S8 : FS) (x8_8 : Int32) (x8_10 : Int32), k82 S8  x8_8 x8_10 = some R → pm_wp mX12_winsBy G B 220 [some (.ref (B + 54)), some (.int za), some (.int 3), some (.int zc), some (.int zd), some (.int ze), some (.int v2_6), some (.int v2_7), some (.int x8_8), some (.int x5_9), some (.int x8_10), none] [] 0 0 cnt (mst B S8 σ)) → ∀ (m82 : Nat) (S8 : FS) (x8_8 : Int32) (x8_10 : Int32), l_X12_winsBy_k3_82 ze v2_6 v2_7 x5_9 k82 m82 S8  x8_8 x8_10 = some R → pm_wp mX12_winsBy G B 82 [some (.ref (B + 54)), some (.int za), some (.int 3), some (.int zc), some (.int zd), some (.int ze), some (.int v2_6), some (.int v2_7), some (.int x8_8), some (.int x5_9), some (.int x8_10), none] [] 0 0 cnt (mst B S8 σ) := by
                intro k82 hk82 m82
                induction m82 with
                | zero => intro S8  x8_8 x8_10 hE; exact fx_no hE
                | succ m82 ih82 =>
                  intro S8  x8_8 x8_10 hE
                  rw [l_X12_winsBy_k3_82] at hE
                  refine pm_iloadi hG dX12_winsBy_82 rfl ?_
                  refine pm_iconst (v := 1) hG dX12_winsBy_84 (by decide) ?_
                  refine pm_icmp_gt (tgt := 220) hG dX12_winsBy_85 rfl (fun c9 => ?_) (fun c9 => ?_)
                  · replace hE := fx_t c9 hE
                    exact hk82 _ _ _ hE
                  · replace hE := fx_f c9 hE
                    refine pm_iloadi hG dX12_winsBy_88 rfl ?_
                    refine pm_if_eq (tgt := 220) hG dX12_winsBy_90 rfl (fun c10 => ?_) (fun c10 => ?_)
                    · replace hE := fx_t c10 hE
                      exact hk82 _ _ _ hE
                    · replace hE := fx_f c10 hE
                      refine pm_iloadi hG dX12_winsBy_93 rfl ?_
                      refine pm_iloadi hG dX12_winsBy_95 rfl ?_
                      refine pm_iadd hG dX12_winsBy_97 ?_
                      refine fx_letv hE (fun x11 hE => ?_)
                      refine pm_istoreXi (loc' := [some (.ref (B + 54)), some (.int za), some (.int 3), some (.int zc), some (.int zd), some (.int ze), some (.int v2_6), some (.int v2_7), some (.int x8_8), some (.int x5_9), some (.int x8_10), some (.int x11)]) hG dX12_winsBy_98 (by decide) (pm_c1b rfl) rfl ?_
                      refine pm_iloadi hG dX12_winsBy_100 rfl ?_
                      refine pm_iconst (v := 0) hG dX12_winsBy_102 (by decide) ?_
                      refine pm_iconst (v := 4) hG dX12_winsBy_103 (by decide) ?_
                      refine pm_callS (As := [.int x11, .int 0, .int 4]) (rest := []) hG hR dX12_winsBy_104 (lkX12_68 _ rfl) okS_X12_in (c_X12_in (d := 6) (by decide) rfl) rfl rfl hdd (Nat.le_refl _) (Nat.le_refl _) (by decide) (fx_ki ?_)
                      refine pm_if_eq (tgt := 214) hG dX12_winsBy_107 rfl (fun c12 => ?_) (fun c12 => ?_)
                      · replace hE := fx_t c12 hE
                        refine pm_iincX (v := x8_10 + 2) (loc' := [some (.ref (B + 54)), some (.int za), some (.int 3), some (.int zc), some (.int zd), some (.int ze), some (.int v2_6), some (.int v2_7), some (.int x8_8), some (.int x5_9), some (.int (x8_10 + 2)), some (.int x11)]) hG dX12_winsBy_214 rfl (by rfl) (by decide) (pm_c1b rfl) rfl ?_
                        refine pm_goto (tgt := 82) hG dX12_winsBy_217 rfl ?_
                        refine pm_fg 11 (loc' := [some (.ref (B + 54)), some (.int za), some (.int 3), some (.int zc), some (.int zd), some (.int ze), some (.int v2_6), some (.int v2_7), some (.int x8_8), some (.int x5_9), some (.int (x8_10 + 2)), none]) rfl ?_
                        exact ih82 _ _ _ hE
                      · replace hE := fx_f c12 hE
                        refine pm_iloadi hG dX12_winsBy_110 rfl ?_
                        refine pm_iloadi hG dX12_winsBy_112 rfl ?_
                        refine pm_callS (As := [.int v2_6, .int x5_9]) (rest := []) hG hR dX12_winsBy_114 (lkX12_253 _ rfl) okS_X12_isTaken (c_X12_isTaken (d := 6) (by decide) rfl) rfl rfl hdd (Nat.le_refl _) (Nat.le_refl _) (by decide) (fx_ki ?_)
                        refine pm_if_ne (tgt := 214) hG dX12_winsBy_117 rfl (fun c13 => ?_) (fun c13 => ?_)
                        · replace hE := fx_f c13 hE
                          refine pm_iincX (v := x8_10 + 2) (loc' := [some (.ref (B + 54)), some (.int za), some (.int 3), some (.int zc), some (.int zd), some (.int ze), some (.int v2_6), some (.int v2_7), some (.int x8_8), some (.int x5_9), some (.int (x8_10 + 2)), some (.int x11)]) hG dX12_winsBy_214 rfl (by rfl) (by decide) (pm_c1b rfl) rfl ?_
                          refine pm_goto (tgt := 82) hG dX12_winsBy_217 rfl ?_
                          refine pm_fg 11 (loc' := [some (.ref (B + 54)), some (.int za), some (.int 3), some (.int zc), some (.int zd), some (.int ze), some (.int v2_6), some (.int v2_7), some (.int x8_8), some (.int x5_9), some (.int (x8_10 + 2)), none]) rfl ?_
                          exact ih82 _ _ _ hE
                        · replace hE := fx_t c13 hE
                          refine pm_iloadi hG dX12_winsBy_120 rfl ?_
                          refine pm_iloadi hG dX12_winsBy_122 rfl ?_
                          refine pm_callS (As := [.int v2_6, .int x11]) (rest := []) hG hR dX12_winsBy_124 (lkX12_253 _ rfl) okS_X12_isTaken (c_X12_isTaken (d := 6) (by decide) rfl) rfl rfl hdd (Nat.le_refl _) (Nat.le_refl _) (by decide) (fx_ki ?_)
                          refine pm_if_ne (tgt := 214) hG dX12_winsBy_127 rfl (fun c14 => ?_) (fun c14 => ?_)
                          · replace hE := fx_f c14 hE
                            refine pm_iincX (v := x8_10 + 2) (loc' := [some (.ref (B + 54)), some (.int za), some (.int 3), some (.int zc), some (.int zd), some (.int ze), some (.int v2_6), some (.int v2_7), some (.int x8_8), some (.int x5_9), some (.int (x8_10 + 2)), some (.int x11)]) hG dX12_winsBy_214 rfl (by rfl) (by decide) (pm_c1b rfl) rfl ?_
                            refine pm_goto (tgt := 82) hG dX12_winsBy_217 rfl ?_
                            refine pm_fg 11 (loc' := [some (.ref (B + 54)), some (.int za), some (.int 3), some (.int zc), some (.int zd), some (.int ze), some (.int v2_6), some (.int v2_7), some (.int x8_8), some (.int x5_9), some (.int (x8_10 + 2)), none]) rfl ?_
                            exact ih82 _ _ _ hE
                          · replace hE := fx_t c14 hE
                            refine pm_aloadn hG dX12_winsBy_130 rfl ?_
                            refine pm_getf hG dX12_winsBy_131 (flX12_43 _ rfl) rfl rfl ?_
                            refine pm_iloadi hG dX12_winsBy_134 rfl ?_
                            obtain ⟨j15, hj15, hE⟩ := fb_some hE
                            refine fx_iald hG dX12_winsBy_136 rfl hj15 ?_
                            refine pm_if_eq (tgt := 214) hG dX12_winsBy_137 rfl (fun c16 => ?_) (fun c16 => ?_)
                            · replace hE := fx_t c16 hE
                              refine pm_iincX (v := x8_10 + 2) (loc' := [some (.ref (B + 54)), some (.int za), some (.int 3), some (.int zc), some (.int zd), some (.int ze), some (.int v2_6), some (.int v2_7), some (.int x8_8), some (.int x5_9), some (.int (x8_10 + 2)), some (.int x11)]) hG dX12_winsBy_214 rfl (by rfl) (by decide) (pm_c1b rfl) rfl ?_
                              refine pm_goto (tgt := 82) hG dX12_winsBy_217 rfl ?_
                              refine pm_fg 11 (loc' := [some (.ref (B + 54)), some (.int za), some (.int 3), some (.int zc), some (.int zd), some (.int ze), some (.int v2_6), some (.int v2_7), some (.int x8_8), some (.int x5_9), some (.int (x8_10 + 2)), none]) rfl ?_
                              exact ih82 _ _ _ hE
                            · replace hE := fx_f c16 hE
                              refine pm_aloadn hG dX12_winsBy_140 rfl ?_
                              refine pm_getf hG dX12_winsBy_141 (flX12_43 _ rfl) rfl rfl ?_
                              refine pm_iloadi hG dX12_winsBy_144 rfl ?_
                              obtain ⟨j17, hj17, hE⟩ := fb_some hE
                              refine fx_iald hG dX12_winsBy_146 rfl hj17 ?_
                              refine pm_bipush (v := 6) hG dX12_winsBy_147 (by decide) ?_
                              refine pm_icmp_ne (tgt := 155) hG dX12_winsBy_149 rfl (fun c18 => ?_) (fun c18 => ?_)
                              · replace hE := fx_f c18 hE
                                refine pm_aloadn hG dX12_winsBy_155 rfl ?_
                                refine pm_getf hG dX12_winsBy_156 (flX12_43 _ rfl) rfl rfl ?_
                                refine pm_iloadi hG dX12_winsBy_159 rfl ?_
                                refine pm_dup2 hG dX12_winsBy_161 rfl rfl ?_
                                refine fx_iald hG dX12_winsBy_162 rfl hj15 ?_
                                refine pm_iconst (v := 1) hG dX12_winsBy_163 (by decide) ?_
                                refine pm_isub hG dX12_winsBy_164 ?_
                                refine fx_iast hG dX12_winsBy_165 rfl hj15 ?_
                                refine ma_66 ?_
                                refine fx_letm hE (fun S19 hE => ?_)
                                refine pm_aloadn hG dX12_winsBy_166 rfl ?_
                                refine pm_getf hG dX12_winsBy_167 (flX12_43 _ rfl) rfl rfl ?_
                                refine pm_iloadi hG dX12_winsBy_170 rfl ?_
                                refine pm_dup2 hG dX12_winsBy_172 rfl rfl ?_
                                refine fx_iald hG dX12_winsBy_173 rfl hj17 ?_
                                refine pm_iconst (v := 1) hG dX12_winsBy_174 (by decide) ?_
                                refine pm_iadd hG dX12_winsBy_175 ?_
                                refine fx_iast hG dX12_winsBy_176 rfl hj17 ?_
                                refine ma_66 ?_
                                refine fx_letm hE (fun S20 hE => ?_)
                                refine pm_aloadn hG dX12_winsBy_177 rfl ?_
                                refine pm_iloadn hG dX12_winsBy_178 rfl ?_
                                refine pm_iconst (v := 1) hG dX12_winsBy_179 (by decide) ?_
                                refine pm_isub hG dX12_winsBy_180 ?_
                                refine pm_top (v := 2) (by decide) ?_
                                refine pm_iloadi hG dX12_winsBy_181 rfl ?_
                                refine pm_iloadi hG dX12_winsBy_183 rfl ?_
                                refine pm_iloadi hG dX12_winsBy_185 rfl ?_
                                obtain ⟨r22, h21, hE⟩ := fb_some hE
                                refine pm_callV (As := [.int 2, .int v2_6, .int v2_7, .int ze]) (rest := []) hG hR dX12_winsBy_187 (lkX12_256 _ rfl) okV_X12_wins rfl rfl (c_X12_wins_k2 (d := 6) (by decide) h21) rfl rfl hdd (Nat.le_refl _) (Nat.le_refl _) (by decide) (fx_ki ?_)
                                refine pm_istoreXi (loc' := [some (.ref (B + 54)), some (.int za), some (.int 3), some (.int zc), some (.int zd), some (.int ze), some (.int v2_6), some (.int v2_7), some (.int r22.1), some (.int x5_9), some (.int x8_10), some (.int x11)]) hG dX12_winsBy_190 (by decide) (pm_c1b rfl) rfl ?_
                                refine pm_aloadn hG dX12_winsBy_192 rfl ?_
                                refine pm_getf hG dX12_winsBy_193 (flX12_43 _ rfl) rfl rfl ?_
                                refine pm_iloadi hG dX12_winsBy_196 rfl ?_
                                refine pm_dup2 hG dX12_winsBy_198 rfl rfl ?_
                                refine fx_iald hG dX12_winsBy_199 rfl hj15 ?_
                                refine pm_iconst (v := 1) hG dX12_winsBy_200 (by decide) ?_
                                refine pm_iadd hG dX12_winsBy_201 ?_
                                refine fx_iast hG dX12_winsBy_202 rfl hj15 ?_
                                refine ma_66 ?_
                                refine fx_letm hE (fun S23 hE => ?_)
                                refine pm_aloadn hG dX12_winsBy_203 rfl ?_
                                refine pm_getf hG dX12_winsBy_204 (flX12_43 _ rfl) rfl rfl ?_
                                refine pm_iloadi hG dX12_winsBy_207 rfl ?_
                                refine pm_dup2 hG dX12_winsBy_209 rfl rfl ?_
                                refine fx_iald hG dX12_winsBy_210 rfl hj17 ?_
                                refine pm_iconst (v := 1) hG dX12_winsBy_211 (by decide) ?_
                                refine pm_isub hG dX12_winsBy_212 ?_
                                refine fx_iast hG dX12_winsBy_213 rfl hj17 ?_
                                refine ma_66 ?_
                                refine fx_letm hE (fun S24 hE => ?_)
                                refine pm_iincX (v := x8_10 + 2) (loc' := [some (.ref (B + 54)), some (.int za), some (.int 3), some (.int zc), some (.int zd), some (.int ze), some (.int v2_6), some (.int v2_7), some (.int r22.1), some (.int x5_9), some (.int (x8_10 + 2)), some (.int x11)]) hG dX12_winsBy_214 rfl (by rfl) (by decide) (pm_c1b rfl) rfl ?_
                                refine pm_goto (tgt := 82) hG dX12_winsBy_217 rfl ?_
                                refine pm_fg 11 (loc' := [some (.ref (B + 54)), some (.int za), some (.int 3), some (.int zc), some (.int zd), some (.int ze), some (.int v2_6), some (.int v2_7), some (.int r22.1), some (.int x5_9), some (.int (x8_10 + 2)), none]) rfl ?_
                                exact ih82 _ _ _ hE
                              · replace hE := fx_t c18 hE
                                refine pm_goto (tgt := 214) hG dX12_winsBy_152 rfl ?_
                                refine pm_iincX (v := x8_10 + 2) (loc' := [some (.ref (B + 54)), some (.int za), some (.int 3), some (.int zc), some (.int zd), some (.int ze), some (.int v2_6), some (.int v2_7), some (.int x8_8), some (.int x5_9), some (.int (x8_10 + 2)), some (.int x11)]) hG dX12_winsBy_214 rfl (by rfl) (by decide) (pm_c1b rfl) rfl ?_
                                refine pm_goto (tgt := 82) hG dX12_winsBy_217 rfl ?_
                                refine pm_fg 11 (loc' := [some (.ref (B + 54)), some (.int za), some (.int 3), some (.int zc), some (.int zd), some (.int ze), some (.int v2_6), some (.int v2_7), some (.int x8_8), some (.int x5_9), some (.int (x8_10 + 2)), none]) rfl ?_
                                exact ih82 _ _ _ hE
              refine loop82 _ (fun S25 x25_8 x25_10 hE => ?_) _ _ _ _ hE
              refine pm_iincX (v := x5_9 + 1) (loc' := [some (.ref (B + 54)), some (.int za), some (.int 3), some (.int zc), some (.int zd), some (.int ze), some (.int v2_6), some (.int v2_7), some (.int x25_8), some (.int (x5_9 + 1)), some (.int x25_10), none]) hG dX12_winsBy_220 rfl (by rfl) (by decide) (pm_c1b rfl) rfl ?_
              refine pm_goto (tgt := 68) hG dX12_winsBy_223 rfl ?_
              refine pm_fg 10 (loc' := [some (.ref (B + 54)), some (.int za), some (.int 3), some (.int zc), some (.int zd), some (.int ze), some (.int v2_6), some (.int v2_7), some (.int x25_8), some (.int (x5_9 + 1)), none, none]) rfl ?_
              exact ih68 _ _ _ hE
      refine loop68 _ (fun S26 x26_8 x26_9 hE => ?_) _ _ _ _ hE
      refine pm_iloadi hG dX12_winsBy_226 rfl ?_
      obtain ⟨b27, hb27, hE⟩ := fb_some hE
      exact pm_zret hG hF dX12_winsBy_228 rfl (bz_n hb27) (Nat.le_refl _) (Nat.le_refl _) (fx_rbm hb27 hE)
    refine pm_iloadn hG dX12_winsBy_15 rfl ?_
    refine pm_if_ge (tgt := 23) hG dX12_winsBy_16 rfl (fun c28 => ?_) (fun c28 => ?_)
    · replace c28 := Int32.not_lt.mpr c28
      replace hE := fx_f c28 hE
      refine pm_iloadn hG dX12_winsBy_23 rfl ?_
      refine pm_iconst (v := 1) hG dX12_winsBy_24 (by decide) ?_
      refine pm_iloadn hG dX12_winsBy_25 rfl ?_
      refine pm_ishl hG dX12_winsBy_26 ?_
      refine pm_ior hG dX12_winsBy_27 ?_
      refine fx_letv hE (fun x29 hE => ?_)
      refine pm_istoreXi (loc' := [some (.ref (B + 54)), some (.int za), some (.int 3), some (.int zc), some (.int zd), some (.int ze), some (.int x29), none, none, none, none, none]) hG dX12_winsBy_28 (by decide) (pm_c1b rfl) rfl ?_
      refine pm_iloadn hG dX12_winsBy_30 rfl ?_
      refine pm_if_ge (tgt := 39) hG dX12_winsBy_31 rfl (fun _ => ?_) (fun q => absurd (Int32.not_le.mp q) c28)
      refine pm_iloadi hG dX12_winsBy_39 rfl ?_
      refine pm_aloadn hG dX12_winsBy_41 rfl ?_
      refine pm_getf hG dX12_winsBy_42 (flX12_43 _ rfl) rfl rfl ?_
      refine pm_iloadn hG dX12_winsBy_45 rfl ?_
      obtain ⟨j30, hj30, hE⟩ := fb_some hE
      refine fx_iald hG dX12_winsBy_46 rfl hj30 ?_
      refine pm_isub hG dX12_winsBy_47 ?_
      refine fx_letv hE (fun x31 hE => ?_)
      refine pm_istoreXi (loc' := [some (.ref (B + 54)), some (.int za), some (.int 3), some (.int zc), some (.int zd), some (.int ze), some (.int x29), some (.int x31), none, none, none, none]) hG dX12_winsBy_48 (by decide) (pm_c1b rfl) rfl ?_
      exact join50 _ _ _ hE
    · replace c28 := Int32.not_le.mp c28
      replace hE := fx_t c28 hE
      refine pm_iloadn hG dX12_winsBy_19 rfl ?_
      refine pm_goto (tgt := 28) hG dX12_winsBy_20 rfl ?_
      refine pm_istoreXi (loc' := [some (.ref (B + 54)), some (.int za), some (.int 3), some (.int zc), some (.int zd), some (.int ze), some (.int zc), none, none, none, none, none]) hG dX12_winsBy_28 (by decide) (pm_c1b rfl) rfl ?_
      refine pm_iloadn hG dX12_winsBy_30 rfl ?_
      refine pm_if_ge (tgt := 39) hG dX12_winsBy_31 rfl (fun q => absurd c28 (Int32.not_lt.mpr q)) (fun _ => ?_)
      refine pm_iloadi hG dX12_winsBy_34 rfl ?_
      refine pm_goto (tgt := 48) hG dX12_winsBy_36 rfl ?_
      refine pm_istoreXi (loc' := [some (.ref (B + 54)), some (.int za), some (.int 3), some (.int zc), some (.int zd), some (.int ze), some (.int zc), some (.int zd), none, none, none, none]) hG dX12_winsBy_48 (by decide) (pm_c1b rfl) rfl ?_
      exact join50 _ _ _ hE
  · replace hE := fx_t c1 hE
    refine pm_iconst (v := 1) hG dX12_winsBy_6 (by decide) ?_
    exact pm_zret hG hF dX12_winsBy_7 rfl (by rfl) (Nat.le_refl _) (Nat.le_refl _) (fx_rim hE)

set_option maxRecDepth 100000 in
set_option maxHeartbeats 4000000 in
theorem c_X12_night {d : Nat} {B cnt : Nat} {σ : pm_S} {S : FS} {za : Int32} {zb : Int32} {zc : Int32} {zd : Int32} {R : Int32 × FS} (hdd : 8 ≤ d) (hE : f_X12_night S za zb zc zd = some R) : pm_met mX12_night d 0 0 B [.ref (B + 54), .int za, .int zb, .int zc, .int zd] cnt (mst B S σ) (pm_Qi (fun v σ' cnt' => v = R.1 ∧ σ' = (mst B R.2 σ) ∧ cnt' = cnt)) := by
  refine pm_enter 2 (by decide) (Nat.le_of_ble_eq_true rfl) rfl (fun G hG hR hF => ?_)
  unfold f_X12_night at hE
  refine pm_iloadn hG dX12_night_0 rfl ?_
  refine pm_iconst (v := 1) hG dX12_night_1 (by decide) ?_
  refine pm_bipush (v := 20) hG dX12_night_2 (by decide) ?_
  refine pm_callS (As := [.int za, .int 1, .int 20]) (rest := []) hG hR dX12_night_4 (lkX12_68 _ rfl) okS_X12_in (c_X12_in (d := 7) (by decide) rfl) rfl rfl hdd (Nat.le_refl _) (Nat.le_refl _) (by decide) (fx_ki ?_)
  refine pm_if_eq (tgt := 38) hG dX12_night_7 rfl (fun c1 => ?_) (fun c1 => ?_)
  · replace hE := fx_t c1 hE
    refine pm_aloadn hG dX12_night_38 rfl ?_
    refine pm_iconst (v := 1) hG dX12_night_39 (by decide) ?_
    obtain ⟨r3, h2, hE⟩ := fb_some hE
    refine pm_callV (As := [.int 1]) (rest := []) hG hR dX12_night_40 (lkX12_80 _ rfl) okV_X12_finds rfl rfl (c_X12_finds (d := 7) (by decide) h2) rfl rfl hdd (Nat.le_refl _) (Nat.le_refl _) (by decide) (fx_ki ?_)
    exact pm_iret hG hF dX12_night_43 rfl (Nat.le_refl _) (Nat.le_refl _) (fx_rim hE)
  · replace hE := fx_f c1 hE
    refine pm_iloadn hG dX12_night_10 rfl ?_
    refine pm_iconst (v := 1) hG dX12_night_11 (by decide) ?_
    refine pm_iconst (v := 3) hG dX12_night_12 (by decide) ?_
    refine pm_callS (As := [.int zb, .int 1, .int 3]) (rest := []) hG hR dX12_night_13 (lkX12_68 _ rfl) okS_X12_in (c_X12_in (d := 7) (by decide) rfl) rfl rfl hdd (Nat.le_refl _) (Nat.le_refl _) (by decide) (fx_ki ?_)
    refine pm_if_eq (tgt := 38) hG dX12_night_16 rfl (fun c4 => ?_) (fun c4 => ?_)
    · replace hE := fx_t c4 hE
      refine pm_aloadn hG dX12_night_38 rfl ?_
      refine pm_iconst (v := 1) hG dX12_night_39 (by decide) ?_
      obtain ⟨r6, h5, hE⟩ := fb_some hE
      refine pm_callV (As := [.int 1]) (rest := []) hG hR dX12_night_40 (lkX12_80 _ rfl) okV_X12_finds rfl rfl (c_X12_finds (d := 7) (by decide) h5) rfl rfl hdd (Nat.le_refl _) (Nat.le_refl _) (by decide) (fx_ki ?_)
      exact pm_iret hG hF dX12_night_43 rfl (Nat.le_refl _) (Nat.le_refl _) (fx_rim hE)
    · replace hE := fx_f c4 hE
      refine pm_iloadn hG dX12_night_19 rfl ?_
      refine pm_iconst (v := 0) hG dX12_night_20 (by decide) ?_
      refine pm_iconst (v := 4) hG dX12_night_21 (by decide) ?_
      refine pm_callS (As := [.int zc, .int 0, .int 4]) (rest := []) hG hR dX12_night_22 (lkX12_68 _ rfl) okS_X12_in (c_X12_in (d := 7) (by decide) rfl) rfl rfl hdd (Nat.le_refl _) (Nat.le_refl _) (by decide) (fx_ki ?_)
      refine pm_if_eq (tgt := 38) hG dX12_night_25 rfl (fun c7 => ?_) (fun c7 => ?_)
      · replace hE := fx_t c7 hE
        refine pm_aloadn hG dX12_night_38 rfl ?_
        refine pm_iconst (v := 1) hG dX12_night_39 (by decide) ?_
        obtain ⟨r9, h8, hE⟩ := fb_some hE
        refine pm_callV (As := [.int 1]) (rest := []) hG hR dX12_night_40 (lkX12_80 _ rfl) okV_X12_finds rfl rfl (c_X12_finds (d := 7) (by decide) h8) rfl rfl hdd (Nat.le_refl _) (Nat.le_refl _) (by decide) (fx_ki ?_)
        exact pm_iret hG hF dX12_night_43 rfl (Nat.le_refl _) (Nat.le_refl _) (fx_rim hE)
      · replace hE := fx_f c7 hE
        refine pm_iloadi hG dX12_night_28 rfl ?_
        refine pm_iconst (v := 0) hG dX12_night_30 (by decide) ?_
        refine pm_iconst (v := 1) hG dX12_night_31 (by decide) ?_
        refine pm_callS (As := [.int zd, .int 0, .int 1]) (rest := []) hG hR dX12_night_32 (lkX12_68 _ rfl) okS_X12_in (c_X12_in (d := 7) (by decide) rfl) rfl rfl hdd (Nat.le_refl _) (Nat.le_refl _) (by decide) (fx_ki ?_)
        refine pm_if_ne (tgt := 44) hG dX12_night_35 rfl (fun c10 => ?_) (fun c10 => ?_)
        · replace hE := fx_f c10 hE
          refine pm_iconst (v := 0) hG dX12_night_44 (by decide) ?_
          refine pm_istoreXi (loc' := [some (.ref (B + 54)), some (.int za), some (.int zb), some (.int zc), some (.int zd), some (.int 0), none]) hG dX12_night_45 (by decide) (pm_c1b rfl) rfl ?_
          have loop47 : ∀ (k47 : FS → Int32 → Option (Int32 × FS)), (∀ (S11 : FS) (x11_5 : Int32), k47 S11  x11_5 = some R → pm_wp mX12_night G B 77 [some (.ref (B + 54)), some (.int za), some (.int zb), some (.int zc), some (.int zd), some (.int x11_5), none] [] 0 0 cnt (mst B S11 σ)) → ∀ (m47 : Nat) (S11 : FS) (x11_5 : Int32), l_X12_night_47 k47 m47 S11  x11_5 = some R → pm_wp mX12_night G B 47 [some (.ref (B + 54)), some (.int za), some (.int zb), some (.int zc), some (.int zd), some (.int x11_5), none] [] 0 0 cnt (mst B S11 σ) := by
            intro k47 hk47 m47
            induction m47 with
            | zero => intro S11  x11_5 hE; exact fx_no hE
            | succ m47 ih47 =>
              intro S11  x11_5 hE
              rw [l_X12_night_47] at hE
              refine pm_iloadi hG dX12_night_47 rfl ?_
              refine pm_iconst (v := 5) hG dX12_night_49 (by decide) ?_
              refine pm_icmp_ge (tgt := 77) hG dX12_night_50 rfl (fun c12 => ?_) (fun c12 => ?_)
              · replace c12 := Int32.not_lt.mpr c12
                replace hE := fx_f c12 hE
                exact hk47 _ _ hE
              · replace c12 := Int32.not_le.mp c12
                replace hE := fx_t c12 hE
                refine pm_aloadn hG dX12_night_53 rfl ?_
                refine pm_getf hG dX12_night_54 (flX12_43 _ rfl) rfl rfl ?_
                refine pm_iloadi hG dX12_night_57 rfl ?_
                refine pm_aloadn hG dX12_night_59 rfl ?_
                refine pm_getf hG dX12_night_60 (flX12_7 _ rfl) rfl rfl ?_
                refine pm_sipush (v := 1986) hG dX12_night_63 (by decide) ?_
                refine pm_iloadi hG dX12_night_66 rfl ?_
                refine pm_iadd hG dX12_night_68 ?_
                obtain ⟨j13, hj13, hE⟩ := fb_some hE
                refine fx_iald hG dX12_night_69 rfl hj13 ?_
                obtain ⟨j14, hj14, hE⟩ := fb_some hE
                refine fx_iast hG dX12_night_70 rfl hj14 ?_
                refine ma_66 ?_
                refine fx_letm hE (fun S15 hE => ?_)
                refine pm_iincX (v := x11_5 + 1) (loc' := [some (.ref (B + 54)), some (.int za), some (.int zb), some (.int zc), some (.int zd), some (.int (x11_5 + 1)), none]) hG dX12_night_71 rfl (by rfl) (by decide) (pm_c1b rfl) rfl ?_
                refine pm_goto (tgt := 47) hG dX12_night_74 rfl ?_
                exact ih47 _ _ hE
          refine loop47 _ (fun S16 x16_5 hE => ?_) _ _ _ hE
          refine pm_bipush (v := (-2)) hG dX12_night_77 (by decide) ?_
          refine pm_istoreXi (loc' := [some (.ref (B + 54)), some (.int za), some (.int zb), some (.int zc), some (.int zd), some (.int (-2)), none]) hG dX12_night_79 (by decide) (pm_c1b rfl) rfl ?_
          refine pm_iconst (v := 4) hG dX12_night_81 (by decide) ?_
          refine pm_istoreXi (loc' := [some (.ref (B + 54)), some (.int za), some (.int zb), some (.int zc), some (.int zd), some (.int (-2)), some (.int 4)]) hG dX12_night_82 (by decide) (pm_c1b rfl) rfl ?_
          have loop84 : ∀ (k84 : FS → Int32 → Int32 → Option (Int32 × FS)), (∀ (S17 : FS) (x17_5 : Int32) (x17_6 : Int32), k84 S17  x17_5 x17_6 = some R → pm_wp mX12_night G B 128 [some (.ref (B + 54)), some (.int za), some (.int zb), some (.int zc), some (.int zd), some (.int x17_5), some (.int x17_6)] [] 0 0 cnt (mst B S17 σ)) → ∀ (m84 : Nat) (S17 : FS) (x17_5 : Int32) (x17_6 : Int32), l_X12_night_84 za zb zc k84 m84 S17  x17_5 x17_6 = some R → pm_wp mX12_night G B 84 [some (.ref (B + 54)), some (.int za), some (.int zb), some (.int zc), some (.int zd), some (.int x17_5), some (.int x17_6)] [] 0 0 cnt (mst B S17 σ) := by
            intro k84 hk84 m84
            induction m84 with
            | zero => intro S17  x17_5 x17_6 hE; exact fx_no hE
            | succ m84 ih84 =>
              intro S17  x17_5 x17_6 hE
              rw [l_X12_night_84] at hE
              refine pm_iloadi hG dX12_night_84 rfl ?_
              refine pm_if_lt (tgt := 128) hG dX12_night_86 rfl (fun c18 => ?_) (fun c18 => ?_)
              · replace hE := fx_t c18 hE
                exact hk84 _ _ _ hE
              · replace hE := fx_f c18 hE
                refine pm_aloadn hG dX12_night_89 rfl ?_
                refine pm_iconst (v := 0) hG dX12_night_90 (by decide) ?_
                refine pm_iloadn hG dX12_night_91 rfl ?_
                refine pm_iloadi hG dX12_night_92 rfl ?_
                obtain ⟨x20, h19, hE⟩ := fb_some hE
                refine pm_callV (As := [.int 0, .int za, .int x17_6]) (rest := []) hG hR dX12_night_94 (lkX12_264 _ rfl) okV_X12_canTake rfl rfl (c_X12_canTake (d := 7) (by decide) h19) rfl rfl hdd (Nat.le_refl _) (Nat.le_refl _) (by decide) (fx_ki ?_)
                refine pm_if_eq (tgt := 118) hG dX12_night_97 rfl (fun c21 => ?_) (fun c21 => ?_)
                · replace hE := fx_t c21 hE
                  refine pm_iloadi hG dX12_night_118 rfl ?_
                  refine pm_istoreXi (loc' := [some (.ref (B + 54)), some (.int za), some (.int zb), some (.int zc), some (.int zd), some (.int x17_5), some (.int x17_6)]) hG dX12_night_120 (by decide) (pm_c1b rfl) rfl ?_
                  refine pm_iincX (v := x17_6 + (-1)) (loc' := [some (.ref (B + 54)), some (.int za), some (.int zb), some (.int zc), some (.int zd), some (.int x17_5), some (.int (x17_6 + (-1)))]) hG dX12_night_122 rfl (by rfl) (by decide) (pm_c1b rfl) rfl ?_
                  refine pm_goto (tgt := 84) hG dX12_night_125 rfl ?_
                  exact ih84 _ _ _ hE
                · replace hE := fx_f c21 hE
                  have hZ22 := hE
                  by_cases c23 : zb = 1
                  · subst c23
                    have hE := fx_t rfl hZ22
                    refine pm_aloadn hG dX12_night_100 rfl ?_
                    refine pm_iloadi hG dX12_night_101 rfl ?_
                    refine pm_iloadn hG dX12_night_103 rfl ?_
                    refine pm_iconst (v := 0) hG dX12_night_104 (by decide) ?_
                    refine pm_iloadn hG dX12_night_105 rfl ?_
                    refine pm_iloadn hG dX12_night_106 rfl ?_
                    refine pm_callV (As := [.int x17_6, .int 1, .int 0, .int za, .int zc]) (rest := []) hG hR dX12_night_107 (lkX12_260 _ rfl) okV_X12_winsBy rfl rfl (c_X12_winsBy_k1 (d := 7) (by decide) rfl) rfl rfl hdd (Nat.le_refl _) (Nat.le_refl _) (by decide) (fx_ki ?_)
                    refine pm_if_eq (tgt := 118) hG dX12_night_110 rfl (fun c24 => ?_) (fun c24 => ?_)
                    · replace hE := fx_t c24 hE
                      refine pm_iloadi hG dX12_night_118 rfl ?_
                      refine pm_istoreXi (loc' := [some (.ref (B + 54)), some (.int za), some (.int 1), some (.int zc), some (.int zd), some (.int x17_5), some (.int x17_6)]) hG dX12_night_120 (by decide) (pm_c1b rfl) rfl ?_
                      refine pm_iincX (v := x17_6 + (-1)) (loc' := [some (.ref (B + 54)), some (.int za), some (.int 1), some (.int zc), some (.int zd), some (.int x17_5), some (.int (x17_6 + (-1)))]) hG dX12_night_122 rfl (by rfl) (by decide) (pm_c1b rfl) rfl ?_
                      refine pm_goto (tgt := 84) hG dX12_night_125 rfl ?_
                      exact ih84 _ _ _ hE
                    · replace hE := fx_f c24 hE
                      refine pm_iloadi hG dX12_night_113 rfl ?_
                      refine pm_goto (tgt := 120) hG dX12_night_115 rfl ?_
                      refine pm_istoreXi (loc' := [some (.ref (B + 54)), some (.int za), some (.int 1), some (.int zc), some (.int zd), some (.int x17_6), some (.int x17_6)]) hG dX12_night_120 (by decide) (pm_c1b rfl) rfl ?_
                      refine pm_iincX (v := x17_6 + (-1)) (loc' := [some (.ref (B + 54)), some (.int za), some (.int 1), some (.int zc), some (.int zd), some (.int x17_6), some (.int (x17_6 + (-1)))]) hG dX12_night_122 rfl (by rfl) (by decide) (pm_c1b rfl) rfl ?_
                      refine pm_goto (tgt := 84) hG dX12_night_125 rfl ?_
                      exact ih84 _ _ _ hE
                  have hZ25 := fx_f c23 hZ22
                  by_cases c26 : zb = 2
                  · subst c26
                    have hE := fx_t rfl hZ25
                    refine pm_aloadn hG dX12_night_100 rfl ?_
                    refine pm_iloadi hG dX12_night_101 rfl ?_
                    refine pm_iloadn hG dX12_night_103 rfl ?_
                    refine pm_iconst (v := 0) hG dX12_night_104 (by decide) ?_
                    refine pm_iloadn hG dX12_night_105 rfl ?_
                    refine pm_iloadn hG dX12_night_106 rfl ?_
                    obtain ⟨r28, h27, hE⟩ := fb_some hE
                    refine pm_callV (As := [.int x17_6, .int 2, .int 0, .int za, .int zc]) (rest := []) hG hR dX12_night_107 (lkX12_260 _ rfl) okV_X12_winsBy rfl rfl (c_X12_winsBy_k2 (d := 7) (by decide) h27) rfl rfl hdd (Nat.le_refl _) (Nat.le_refl _) (by decide) (fx_ki ?_)
                    refine pm_if_eq (tgt := 118) hG dX12_night_110 rfl (fun c29 => ?_) (fun c29 => ?_)
                    · replace hE := fx_t c29 hE
                      refine pm_iloadi hG dX12_night_118 rfl ?_
                      refine pm_istoreXi (loc' := [some (.ref (B + 54)), some (.int za), some (.int 2), some (.int zc), some (.int zd), some (.int x17_5), some (.int x17_6)]) hG dX12_night_120 (by decide) (pm_c1b rfl) rfl ?_
                      refine pm_iincX (v := x17_6 + (-1)) (loc' := [some (.ref (B + 54)), some (.int za), some (.int 2), some (.int zc), some (.int zd), some (.int x17_5), some (.int (x17_6 + (-1)))]) hG dX12_night_122 rfl (by rfl) (by decide) (pm_c1b rfl) rfl ?_
                      refine pm_goto (tgt := 84) hG dX12_night_125 rfl ?_
                      exact ih84 _ _ _ hE
                    · replace hE := fx_f c29 hE
                      refine pm_iloadi hG dX12_night_113 rfl ?_
                      refine pm_goto (tgt := 120) hG dX12_night_115 rfl ?_
                      refine pm_istoreXi (loc' := [some (.ref (B + 54)), some (.int za), some (.int 2), some (.int zc), some (.int zd), some (.int x17_6), some (.int x17_6)]) hG dX12_night_120 (by decide) (pm_c1b rfl) rfl ?_
                      refine pm_iincX (v := x17_6 + (-1)) (loc' := [some (.ref (B + 54)), some (.int za), some (.int 2), some (.int zc), some (.int zd), some (.int x17_6), some (.int (x17_6 + (-1)))]) hG dX12_night_122 rfl (by rfl) (by decide) (pm_c1b rfl) rfl ?_
                      refine pm_goto (tgt := 84) hG dX12_night_125 rfl ?_
                      exact ih84 _ _ _ hE
                  have hZ30 := fx_f c26 hZ25
                  by_cases c31 : zb = 3
                  · subst c31
                    have hE := fx_t rfl hZ30
                    refine pm_aloadn hG dX12_night_100 rfl ?_
                    refine pm_iloadi hG dX12_night_101 rfl ?_
                    refine pm_iloadn hG dX12_night_103 rfl ?_
                    refine pm_iconst (v := 0) hG dX12_night_104 (by decide) ?_
                    refine pm_iloadn hG dX12_night_105 rfl ?_
                    refine pm_iloadn hG dX12_night_106 rfl ?_
                    obtain ⟨r33, h32, hE⟩ := fb_some hE
                    refine pm_callV (As := [.int x17_6, .int 3, .int 0, .int za, .int zc]) (rest := []) hG hR dX12_night_107 (lkX12_260 _ rfl) okV_X12_winsBy rfl rfl (c_X12_winsBy_k3 (d := 7) (by decide) h32) rfl rfl hdd (Nat.le_refl _) (Nat.le_refl _) (by decide) (fx_ki ?_)
                    refine pm_if_eq (tgt := 118) hG dX12_night_110 rfl (fun c34 => ?_) (fun c34 => ?_)
                    · replace hE := fx_t c34 hE
                      refine pm_iloadi hG dX12_night_118 rfl ?_
                      refine pm_istoreXi (loc' := [some (.ref (B + 54)), some (.int za), some (.int 3), some (.int zc), some (.int zd), some (.int x17_5), some (.int x17_6)]) hG dX12_night_120 (by decide) (pm_c1b rfl) rfl ?_
                      refine pm_iincX (v := x17_6 + (-1)) (loc' := [some (.ref (B + 54)), some (.int za), some (.int 3), some (.int zc), some (.int zd), some (.int x17_5), some (.int (x17_6 + (-1)))]) hG dX12_night_122 rfl (by rfl) (by decide) (pm_c1b rfl) rfl ?_
                      refine pm_goto (tgt := 84) hG dX12_night_125 rfl ?_
                      exact ih84 _ _ _ hE
                    · replace hE := fx_f c34 hE
                      refine pm_iloadi hG dX12_night_113 rfl ?_
                      refine pm_goto (tgt := 120) hG dX12_night_115 rfl ?_
                      refine pm_istoreXi (loc' := [some (.ref (B + 54)), some (.int za), some (.int 3), some (.int zc), some (.int zd), some (.int x17_6), some (.int x17_6)]) hG dX12_night_120 (by decide) (pm_c1b rfl) rfl ?_
                      refine pm_iincX (v := x17_6 + (-1)) (loc' := [some (.ref (B + 54)), some (.int za), some (.int 3), some (.int zc), some (.int zd), some (.int x17_6), some (.int (x17_6 + (-1)))]) hG dX12_night_122 rfl (by rfl) (by decide) (pm_c1b rfl) rfl ?_
                      refine pm_goto (tgt := 84) hG dX12_night_125 rfl ?_
                      exact ih84 _ _ _ hE
                  have hZ35 := fx_f c31 hZ30
                  exact fx_no hZ35
          refine loop84 _ (fun S36 x36_5 x36_6 hE => ?_) _ _ _ _ hE
          refine pm_iloadi hG dX12_night_128 rfl ?_
          refine pm_bipush (v := (-2)) hG dX12_night_130 (by decide) ?_
          refine pm_icmp_ne (tgt := 150) hG dX12_night_132 rfl (fun c37 => ?_) (fun c37 => ?_)
          · replace hE := fx_f c37 hE
            refine pm_iloadi hG dX12_night_150 rfl ?_
            refine pm_if_ne (tgt := 170) hG dX12_night_152 rfl (fun c38 => ?_) (fun c38 => ?_)
            · replace hE := fx_f c38 hE
              refine pm_iloadi hG dX12_night_170 rfl ?_
              refine pm_bipush (v := (-2)) hG dX12_night_172 (by decide) ?_
              refine pm_icmp_le (tgt := 182) hG dX12_night_174 rfl (fun c39 => ?_) (fun c39 => ?_)
              · replace c39 := Int32.not_lt.mpr c39
                replace hE := fx_f c39 hE
                refine pm_aloadn hG dX12_night_182 rfl ?_
                refine pm_iconst (v := 2) hG dX12_night_183 (by decide) ?_
                obtain ⟨r41, h40, hE⟩ := fb_some hE
                refine pm_callV (As := [.int 2]) (rest := []) hG hR dX12_night_184 (lkX12_80 _ rfl) okV_X12_finds rfl rfl (c_X12_finds (d := 7) (by decide) h40) rfl rfl hdd (Nat.le_refl _) (Nat.le_refl _) (by decide) (fx_ki ?_)
                exact pm_iret hG hF dX12_night_187 rfl (Nat.le_refl _) (Nat.le_refl _) (fx_rim hE)
              · replace c39 := Int32.not_le.mp c39
                replace hE := fx_t c39 hE
                refine pm_iloadi hG dX12_night_177 rfl ?_
                refine pm_goto (tgt := 187) hG dX12_night_179 rfl ?_
                exact pm_iret hG hF dX12_night_187 rfl (Nat.le_refl _) (Nat.le_refl _) (fx_rim hE)
            · replace hE := fx_t c38 hE
              refine pm_iloadi hG dX12_night_155 rfl ?_
              refine pm_bipush (v := (-2)) hG dX12_night_157 (by decide) ?_
              refine pm_icmp_le (tgt := 166) hG dX12_night_159 rfl (fun c42 => ?_) (fun c42 => ?_)
              · replace c42 := Int32.not_lt.mpr c42
                replace hE := fx_f c42 hE
                refine pm_iconst (v := 0) hG dX12_night_166 (by decide) ?_
                refine pm_goto (tgt := 187) hG dX12_night_167 rfl ?_
                exact pm_iret hG hF dX12_night_187 rfl (Nat.le_refl _) (Nat.le_refl _) (fx_rim hE)
              · replace c42 := Int32.not_le.mp c42
                replace hE := fx_t c42 hE
                refine pm_iconst (v := 1) hG dX12_night_162 (by decide) ?_
                refine pm_goto (tgt := 187) hG dX12_night_163 rfl ?_
                exact pm_iret hG hF dX12_night_187 rfl (Nat.le_refl _) (Nat.le_refl _) (fx_rim hE)
          · replace hE := fx_t c37 hE
            have hZ43 := hE
            by_cases c44 : zb = 1
            · subst c44
              have hE := fx_t rfl hZ43
              refine pm_aloadn hG dX12_night_135 rfl ?_
              refine pm_iconst (v := (-1)) hG dX12_night_136 (by decide) ?_
              refine pm_iloadn hG dX12_night_137 rfl ?_
              refine pm_iconst (v := 0) hG dX12_night_138 (by decide) ?_
              refine pm_iloadn hG dX12_night_139 rfl ?_
              refine pm_iloadn hG dX12_night_140 rfl ?_
              refine pm_callV (As := [.int (-1), .int 1, .int 0, .int za, .int zc]) (rest := []) hG hR dX12_night_141 (lkX12_260 _ rfl) okV_X12_winsBy rfl rfl (c_X12_winsBy_k1 (d := 7) (by decide) rfl) rfl rfl hdd (Nat.le_refl _) (Nat.le_refl _) (by decide) (fx_ki ?_)
              refine pm_if_eq (tgt := 150) hG dX12_night_144 rfl (fun c45 => ?_) (fun c45 => ?_)
              · replace hE := fx_t c45 hE
                refine pm_iloadi hG dX12_night_150 rfl ?_
                refine pm_if_ne (tgt := 170) hG dX12_night_152 rfl (fun c46 => ?_) (fun c46 => ?_)
                · replace hE := fx_f c46 hE
                  refine pm_iloadi hG dX12_night_170 rfl ?_
                  refine pm_bipush (v := (-2)) hG dX12_night_172 (by decide) ?_
                  refine pm_icmp_le (tgt := 182) hG dX12_night_174 rfl (fun c47 => ?_) (fun c47 => ?_)
                  · replace c47 := Int32.not_lt.mpr c47
                    replace hE := fx_f c47 hE
                    refine pm_aloadn hG dX12_night_182 rfl ?_
                    refine pm_iconst (v := 2) hG dX12_night_183 (by decide) ?_
                    obtain ⟨r49, h48, hE⟩ := fb_some hE
                    refine pm_callV (As := [.int 2]) (rest := []) hG hR dX12_night_184 (lkX12_80 _ rfl) okV_X12_finds rfl rfl (c_X12_finds (d := 7) (by decide) h48) rfl rfl hdd (Nat.le_refl _) (Nat.le_refl _) (by decide) (fx_ki ?_)
                    exact pm_iret hG hF dX12_night_187 rfl (Nat.le_refl _) (Nat.le_refl _) (fx_rim hE)
                  · replace c47 := Int32.not_le.mp c47
                    replace hE := fx_t c47 hE
                    refine pm_iloadi hG dX12_night_177 rfl ?_
                    refine pm_goto (tgt := 187) hG dX12_night_179 rfl ?_
                    exact pm_iret hG hF dX12_night_187 rfl (Nat.le_refl _) (Nat.le_refl _) (fx_rim hE)
                · replace hE := fx_t c46 hE
                  refine pm_iloadi hG dX12_night_155 rfl ?_
                  refine pm_bipush (v := (-2)) hG dX12_night_157 (by decide) ?_
                  refine pm_icmp_le (tgt := 166) hG dX12_night_159 rfl (fun c50 => ?_) (fun c50 => ?_)
                  · replace c50 := Int32.not_lt.mpr c50
                    replace hE := fx_f c50 hE
                    refine pm_iconst (v := 0) hG dX12_night_166 (by decide) ?_
                    refine pm_goto (tgt := 187) hG dX12_night_167 rfl ?_
                    exact pm_iret hG hF dX12_night_187 rfl (Nat.le_refl _) (Nat.le_refl _) (fx_rim hE)
                  · replace c50 := Int32.not_le.mp c50
                    replace hE := fx_t c50 hE
                    refine pm_iconst (v := 1) hG dX12_night_162 (by decide) ?_
                    refine pm_goto (tgt := 187) hG dX12_night_163 rfl ?_
                    exact pm_iret hG hF dX12_night_187 rfl (Nat.le_refl _) (Nat.le_refl _) (fx_rim hE)
              · replace hE := fx_f c45 hE
                refine pm_iconst (v := (-1)) hG dX12_night_147 (by decide) ?_
                refine pm_istoreXi (loc' := [some (.ref (B + 54)), some (.int za), some (.int 1), some (.int zc), some (.int zd), some (.int (-1)), some (.int x36_6)]) hG dX12_night_148 (by decide) (pm_c1b rfl) rfl ?_
                refine pm_iloadi hG dX12_night_150 rfl ?_
                refine pm_if_ne (tgt := 170) hG dX12_night_152 rfl (fun c51 => ?_) (fun c51 => ?_)
                · replace hE := fx_f c51 hE
                  refine pm_iloadi hG dX12_night_170 rfl ?_
                  refine pm_bipush (v := (-2)) hG dX12_night_172 (by decide) ?_
                  refine pm_icmp_le (tgt := 182) hG dX12_night_174 rfl (fun q => absurd q (by decide)) (fun _ => ?_)
                  refine pm_iloadi hG dX12_night_177 rfl ?_
                  refine pm_goto (tgt := 187) hG dX12_night_179 rfl ?_
                  exact pm_iret hG hF dX12_night_187 rfl (Nat.le_refl _) (Nat.le_refl _) (fx_rim hE)
                · replace hE := fx_t c51 hE
                  refine pm_iloadi hG dX12_night_155 rfl ?_
                  refine pm_bipush (v := (-2)) hG dX12_night_157 (by decide) ?_
                  refine pm_icmp_le (tgt := 166) hG dX12_night_159 rfl (fun q => absurd q (by decide)) (fun _ => ?_)
                  refine pm_iconst (v := 1) hG dX12_night_162 (by decide) ?_
                  refine pm_goto (tgt := 187) hG dX12_night_163 rfl ?_
                  exact pm_iret hG hF dX12_night_187 rfl (Nat.le_refl _) (Nat.le_refl _) (fx_rim hE)
            have hZ52 := fx_f c44 hZ43
            by_cases c53 : zb = 2
            · subst c53
              have hE := fx_t rfl hZ52
              refine pm_aloadn hG dX12_night_135 rfl ?_
              refine pm_iconst (v := (-1)) hG dX12_night_136 (by decide) ?_
              refine pm_iloadn hG dX12_night_137 rfl ?_
              refine pm_iconst (v := 0) hG dX12_night_138 (by decide) ?_
              refine pm_iloadn hG dX12_night_139 rfl ?_
              refine pm_iloadn hG dX12_night_140 rfl ?_
              obtain ⟨r55, h54, hE⟩ := fb_some hE
              refine pm_callV (As := [.int (-1), .int 2, .int 0, .int za, .int zc]) (rest := []) hG hR dX12_night_141 (lkX12_260 _ rfl) okV_X12_winsBy rfl rfl (c_X12_winsBy_k2 (d := 7) (by decide) h54) rfl rfl hdd (Nat.le_refl _) (Nat.le_refl _) (by decide) (fx_ki ?_)
              refine pm_if_eq (tgt := 150) hG dX12_night_144 rfl (fun c56 => ?_) (fun c56 => ?_)
              · replace hE := fx_t c56 hE
                refine pm_iloadi hG dX12_night_150 rfl ?_
                refine pm_if_ne (tgt := 170) hG dX12_night_152 rfl (fun c57 => ?_) (fun c57 => ?_)
                · replace hE := fx_f c57 hE
                  refine pm_iloadi hG dX12_night_170 rfl ?_
                  refine pm_bipush (v := (-2)) hG dX12_night_172 (by decide) ?_
                  refine pm_icmp_le (tgt := 182) hG dX12_night_174 rfl (fun c58 => ?_) (fun c58 => ?_)
                  · replace c58 := Int32.not_lt.mpr c58
                    replace hE := fx_f c58 hE
                    refine pm_aloadn hG dX12_night_182 rfl ?_
                    refine pm_iconst (v := 2) hG dX12_night_183 (by decide) ?_
                    obtain ⟨r60, h59, hE⟩ := fb_some hE
                    refine pm_callV (As := [.int 2]) (rest := []) hG hR dX12_night_184 (lkX12_80 _ rfl) okV_X12_finds rfl rfl (c_X12_finds (d := 7) (by decide) h59) rfl rfl hdd (Nat.le_refl _) (Nat.le_refl _) (by decide) (fx_ki ?_)
                    exact pm_iret hG hF dX12_night_187 rfl (Nat.le_refl _) (Nat.le_refl _) (fx_rim hE)
                  · replace c58 := Int32.not_le.mp c58
                    replace hE := fx_t c58 hE
                    refine pm_iloadi hG dX12_night_177 rfl ?_
                    refine pm_goto (tgt := 187) hG dX12_night_179 rfl ?_
                    exact pm_iret hG hF dX12_night_187 rfl (Nat.le_refl _) (Nat.le_refl _) (fx_rim hE)
                · replace hE := fx_t c57 hE
                  refine pm_iloadi hG dX12_night_155 rfl ?_
                  refine pm_bipush (v := (-2)) hG dX12_night_157 (by decide) ?_
                  refine pm_icmp_le (tgt := 166) hG dX12_night_159 rfl (fun c61 => ?_) (fun c61 => ?_)
                  · replace c61 := Int32.not_lt.mpr c61
                    replace hE := fx_f c61 hE
                    refine pm_iconst (v := 0) hG dX12_night_166 (by decide) ?_
                    refine pm_goto (tgt := 187) hG dX12_night_167 rfl ?_
                    exact pm_iret hG hF dX12_night_187 rfl (Nat.le_refl _) (Nat.le_refl _) (fx_rim hE)
                  · replace c61 := Int32.not_le.mp c61
                    replace hE := fx_t c61 hE
                    refine pm_iconst (v := 1) hG dX12_night_162 (by decide) ?_
                    refine pm_goto (tgt := 187) hG dX12_night_163 rfl ?_
                    exact pm_iret hG hF dX12_night_187 rfl (Nat.le_refl _) (Nat.le_refl _) (fx_rim hE)
              · replace hE := fx_f c56 hE
                refine pm_iconst (v := (-1)) hG dX12_night_147 (by decide) ?_
                refine pm_istoreXi (loc' := [some (.ref (B + 54)), some (.int za), some (.int 2), some (.int zc), some (.int zd), some (.int (-1)), some (.int x36_6)]) hG dX12_night_148 (by decide) (pm_c1b rfl) rfl ?_
                refine pm_iloadi hG dX12_night_150 rfl ?_
                refine pm_if_ne (tgt := 170) hG dX12_night_152 rfl (fun c62 => ?_) (fun c62 => ?_)
                · replace hE := fx_f c62 hE
                  refine pm_iloadi hG dX12_night_170 rfl ?_
                  refine pm_bipush (v := (-2)) hG dX12_night_172 (by decide) ?_
                  refine pm_icmp_le (tgt := 182) hG dX12_night_174 rfl (fun q => absurd q (by decide)) (fun _ => ?_)
                  refine pm_iloadi hG dX12_night_177 rfl ?_
                  refine pm_goto (tgt := 187) hG dX12_night_179 rfl ?_
                  exact pm_iret hG hF dX12_night_187 rfl (Nat.le_refl _) (Nat.le_refl _) (fx_rim hE)
                · replace hE := fx_t c62 hE
                  refine pm_iloadi hG dX12_night_155 rfl ?_
                  refine pm_bipush (v := (-2)) hG dX12_night_157 (by decide) ?_
                  refine pm_icmp_le (tgt := 166) hG dX12_night_159 rfl (fun q => absurd q (by decide)) (fun _ => ?_)
                  refine pm_iconst (v := 1) hG dX12_night_162 (by decide) ?_
                  refine pm_goto (tgt := 187) hG dX12_night_163 rfl ?_
                  exact pm_iret hG hF dX12_night_187 rfl (Nat.le_refl _) (Nat.le_refl _) (fx_rim hE)
            have hZ63 := fx_f c53 hZ52
            by_cases c64 : zb = 3
            · subst c64
              have hE := fx_t rfl hZ63
              refine pm_aloadn hG dX12_night_135 rfl ?_
              refine pm_iconst (v := (-1)) hG dX12_night_136 (by decide) ?_
              refine pm_iloadn hG dX12_night_137 rfl ?_
              refine pm_iconst (v := 0) hG dX12_night_138 (by decide) ?_
              refine pm_iloadn hG dX12_night_139 rfl ?_
              refine pm_iloadn hG dX12_night_140 rfl ?_
              obtain ⟨r66, h65, hE⟩ := fb_some hE
              refine pm_callV (As := [.int (-1), .int 3, .int 0, .int za, .int zc]) (rest := []) hG hR dX12_night_141 (lkX12_260 _ rfl) okV_X12_winsBy rfl rfl (c_X12_winsBy_k3 (d := 7) (by decide) h65) rfl rfl hdd (Nat.le_refl _) (Nat.le_refl _) (by decide) (fx_ki ?_)
              refine pm_if_eq (tgt := 150) hG dX12_night_144 rfl (fun c67 => ?_) (fun c67 => ?_)
              · replace hE := fx_t c67 hE
                refine pm_iloadi hG dX12_night_150 rfl ?_
                refine pm_if_ne (tgt := 170) hG dX12_night_152 rfl (fun c68 => ?_) (fun c68 => ?_)
                · replace hE := fx_f c68 hE
                  refine pm_iloadi hG dX12_night_170 rfl ?_
                  refine pm_bipush (v := (-2)) hG dX12_night_172 (by decide) ?_
                  refine pm_icmp_le (tgt := 182) hG dX12_night_174 rfl (fun c69 => ?_) (fun c69 => ?_)
                  · replace c69 := Int32.not_lt.mpr c69
                    replace hE := fx_f c69 hE
                    refine pm_aloadn hG dX12_night_182 rfl ?_
                    refine pm_iconst (v := 2) hG dX12_night_183 (by decide) ?_
                    obtain ⟨r71, h70, hE⟩ := fb_some hE
                    refine pm_callV (As := [.int 2]) (rest := []) hG hR dX12_night_184 (lkX12_80 _ rfl) okV_X12_finds rfl rfl (c_X12_finds (d := 7) (by decide) h70) rfl rfl hdd (Nat.le_refl _) (Nat.le_refl _) (by decide) (fx_ki ?_)
                    exact pm_iret hG hF dX12_night_187 rfl (Nat.le_refl _) (Nat.le_refl _) (fx_rim hE)
                  · replace c69 := Int32.not_le.mp c69
                    replace hE := fx_t c69 hE
                    refine pm_iloadi hG dX12_night_177 rfl ?_
                    refine pm_goto (tgt := 187) hG dX12_night_179 rfl ?_
                    exact pm_iret hG hF dX12_night_187 rfl (Nat.le_refl _) (Nat.le_refl _) (fx_rim hE)
                · replace hE := fx_t c68 hE
                  refine pm_iloadi hG dX12_night_155 rfl ?_
                  refine pm_bipush (v := (-2)) hG dX12_night_157 (by decide) ?_
                  refine pm_icmp_le (tgt := 166) hG dX12_night_159 rfl (fun c72 => ?_) (fun c72 => ?_)
                  · replace c72 := Int32.not_lt.mpr c72
                    replace hE := fx_f c72 hE
                    refine pm_iconst (v := 0) hG dX12_night_166 (by decide) ?_
                    refine pm_goto (tgt := 187) hG dX12_night_167 rfl ?_
                    exact pm_iret hG hF dX12_night_187 rfl (Nat.le_refl _) (Nat.le_refl _) (fx_rim hE)
                  · replace c72 := Int32.not_le.mp c72
                    replace hE := fx_t c72 hE
                    refine pm_iconst (v := 1) hG dX12_night_162 (by decide) ?_
                    refine pm_goto (tgt := 187) hG dX12_night_163 rfl ?_
                    exact pm_iret hG hF dX12_night_187 rfl (Nat.le_refl _) (Nat.le_refl _) (fx_rim hE)
              · replace hE := fx_f c67 hE
                refine pm_iconst (v := (-1)) hG dX12_night_147 (by decide) ?_
                refine pm_istoreXi (loc' := [some (.ref (B + 54)), some (.int za), some (.int 3), some (.int zc), some (.int zd), some (.int (-1)), some (.int x36_6)]) hG dX12_night_148 (by decide) (pm_c1b rfl) rfl ?_
                refine pm_iloadi hG dX12_night_150 rfl ?_
                refine pm_if_ne (tgt := 170) hG dX12_night_152 rfl (fun c73 => ?_) (fun c73 => ?_)
                · replace hE := fx_f c73 hE
                  refine pm_iloadi hG dX12_night_170 rfl ?_
                  refine pm_bipush (v := (-2)) hG dX12_night_172 (by decide) ?_
                  refine pm_icmp_le (tgt := 182) hG dX12_night_174 rfl (fun q => absurd q (by decide)) (fun _ => ?_)
                  refine pm_iloadi hG dX12_night_177 rfl ?_
                  refine pm_goto (tgt := 187) hG dX12_night_179 rfl ?_
                  exact pm_iret hG hF dX12_night_187 rfl (Nat.le_refl _) (Nat.le_refl _) (fx_rim hE)
                · replace hE := fx_t c73 hE
                  refine pm_iloadi hG dX12_night_155 rfl ?_
                  refine pm_bipush (v := (-2)) hG dX12_night_157 (by decide) ?_
                  refine pm_icmp_le (tgt := 166) hG dX12_night_159 rfl (fun q => absurd q (by decide)) (fun _ => ?_)
                  refine pm_iconst (v := 1) hG dX12_night_162 (by decide) ?_
                  refine pm_goto (tgt := 187) hG dX12_night_163 rfl ?_
                  exact pm_iret hG hF dX12_night_187 rfl (Nat.le_refl _) (Nat.le_refl _) (fx_rim hE)
            have hZ74 := fx_f c64 hZ63
            exact fx_no hZ74
        · replace hE := fx_t c10 hE
          refine pm_aloadn hG dX12_night_38 rfl ?_
          refine pm_iconst (v := 1) hG dX12_night_39 (by decide) ?_
          obtain ⟨r76, h75, hE⟩ := fb_some hE
          refine pm_callV (As := [.int 1]) (rest := []) hG hR dX12_night_40 (lkX12_80 _ rfl) okV_X12_finds rfl rfl (c_X12_finds (d := 7) (by decide) h75) rfl rfl hdd (Nat.le_refl _) (Nat.le_refl _) (by decide) (fx_ki ?_)
          exact pm_iret hG hF dX12_night_43 rfl (Nat.le_refl _) (Nat.le_refl _) (fx_rim hE)
end
