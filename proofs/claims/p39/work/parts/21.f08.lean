set_option maxRecDepth 100000 in
set_option maxHeartbeats 4000000 in
theorem c_X12_reads {d : Nat} {B cnt : Nat} {σ : pm_S} {S : FS} {R : Int32 × FS} (hdd : 3 ≤ d) (hE : f_X12_reads S = some R) : pm_met mX12_reads d 0 0 B [.ref (B + 54)] cnt (mst B S σ) (pm_Qi (fun v σ' cnt' => v = R.1 ∧ σ' = (mst B R.2 σ) ∧ cnt' = cnt)) := by
  refine pm_enter 3 (by decide) (Nat.le_of_ble_eq_true rfl) rfl (fun G hG hR hF => ?_)
  unfold f_X12_reads at hE
  refine pm_aloadn hG dX12_reads_0 rfl ?_
  refine pm_iconst (v := 0) hG dX12_reads_1 (by decide) ?_
  refine pm_putf hG dX12_reads_2 (fwX12_144 _ rfl) rfl rfl rfl ?_
  refine mi_10 ?_
  refine fx_letm hE (fun S1 hE => ?_)
  refine pm_aloadn hG dX12_reads_5 rfl ?_
  refine pm_iconst (v := 0) hG dX12_reads_6 (by decide) ?_
  refine pm_putf hG dX12_reads_7 (fwX12_148 _ rfl) rfl rfl rfl ?_
  refine mi_11 ?_
  refine fx_letm hE (fun S2 hE => ?_)
  refine pm_aloadn hG dX12_reads_10 rfl ?_
  refine pm_iconst (v := 0) hG dX12_reads_11 (by decide) ?_
  refine pm_putf hG dX12_reads_12 (fwX12_157 _ rfl) rfl rfl rfl ?_
  refine mi_12 ?_
  refine fx_letm hE (fun S3 hE => ?_)
  refine pm_iconst (v := 1) hG dX12_reads_15 (by decide) ?_
  refine pm_istoreXn (loc' := [some (.ref (B + 54)), some (.int 1), none, none]) hG dX12_reads_16 (by decide) (pm_c1b rfl) rfl ?_
  have loop17 : ∀ (m17 : Nat) (S4 : FS) (x4_1 : Int32), l_X12_reads_17 m17 S4  x4_1 = some R → pm_wp mX12_reads G B 17 [some (.ref (B + 54)), some (.int x4_1), none, none] [] 0 0 cnt (mst B S4 σ) := by
    intro m17
    induction m17 with
    | zero => intro S4  x4_1 hE; exact fx_no hE
    | succ m17 ih17 =>
      intro S4  x4_1 hE
      rw [l_X12_reads_17] at hE
      refine pm_aloadn hG dX12_reads_17 rfl ?_
      refine pm_aloadn hG dX12_reads_18 rfl ?_
      refine pm_getf hG dX12_reads_19 (flX12_157 _ rfl) rfl rfl ?_
      obtain ⟨x6, h5, hE⟩ := fb_some hE
      refine pm_callV (As := [.int (S4.1 12)]) (rest := []) hG hR dX12_reads_22 (lkX12_160 _ rfl) okV_X12_byteAt rfl rfl (c_X12_byteAt (d := 2) (by decide) h5) rfl rfl hdd (Nat.le_refl _) (Nat.le_refl _) (by decide) (fx_ki ?_)
      refine pm_istoreXn (loc' := [some (.ref (B + 54)), some (.int x4_1), some (.int x6), none]) hG dX12_reads_25 (by decide) (pm_c1b rfl) rfl ?_
      refine pm_iloadn hG dX12_reads_26 rfl ?_
      refine pm_if_eq (tgt := 64) hG dX12_reads_27 rfl (fun c7 => ?_) (fun c7 => ?_)
      · replace hE := fx_t c7 hE
        refine pm_iloadn hG dX12_reads_64 rfl ?_
        refine pm_if_ge (tgt := 84) hG dX12_reads_65 rfl (fun c8 => ?_) (fun c8 => ?_)
        · replace c8 := Int32.not_lt.mpr c8
          replace hE := fx_f c8 hE
          refine pm_iloadn hG dX12_reads_84 rfl ?_
          refine pm_bipush (v := 41) hG dX12_reads_85 (by decide) ?_
          refine pm_icmp_ne (tgt := 130) hG dX12_reads_87 rfl (fun c9 => ?_) (fun c9 => ?_)
          · replace hE := fx_f c9 hE
            refine pm_iloadn hG dX12_reads_130 rfl ?_
            refine pm_callS (As := [.int x6]) (rest := []) hG hR dX12_reads_131 (lkX12_151 _ rfl) okS_X12_rankOf (c_X12_rankOf (d := 2) (by decide) rfl) rfl rfl hdd (Nat.le_refl _) (Nat.le_refl _) (by decide) (fx_ki ?_)
            refine fx_letv hE (fun x10 hE => ?_)
            refine pm_istoreXn (loc' := [some (.ref (B + 54)), some (.int x4_1), some (.int x6), some (.int x10)]) hG dX12_reads_134 (by decide) (pm_c1b rfl) rfl ?_
            refine pm_iloadn hG dX12_reads_135 rfl ?_
            refine pm_if_eq (tgt := 156) hG dX12_reads_136 rfl (fun c11 => ?_) (fun c11 => ?_)
            · replace hE := fx_t c11 hE
              refine pm_iconst (v := 0) hG dX12_reads_156 (by decide) ?_
              exact pm_zret hG hF dX12_reads_157 rfl (by rfl) (Nat.le_refl _) (Nat.le_refl _) (fx_rim hE)
            · replace hE := fx_f c11 hE
              refine pm_iloadn hG dX12_reads_139 rfl ?_
              refine pm_iconst (v := 5) hG dX12_reads_140 (by decide) ?_
              refine pm_icmp_eq (tgt := 156) hG dX12_reads_141 rfl (fun c12 => ?_) (fun c12 => ?_)
              · replace hE := fx_t c12 hE
                refine pm_iconst (v := 0) hG dX12_reads_156 (by decide) ?_
                exact pm_zret hG hF dX12_reads_157 rfl (by rfl) (Nat.le_refl _) (Nat.le_refl _) (fx_rim hE)
              · replace hE := fx_f c12 hE
                refine pm_iloadn hG dX12_reads_144 rfl ?_
                refine pm_iconst (v := 3) hG dX12_reads_145 (by decide) ?_
                refine pm_icmp_ne (tgt := 158) hG dX12_reads_146 rfl (fun c13 => ?_) (fun c13 => ?_)
                · replace hE := fx_f c13 hE
                  refine pm_aloadn hG dX12_reads_158 rfl ?_
                  refine pm_iloadn hG dX12_reads_159 rfl ?_
                  obtain ⟨r15, h14, hE⟩ := fb_some hE
                  refine pm_callV (As := [.int x10]) (rest := []) hG hR dX12_reads_160 (lkX12_176 _ rfl) okV_X12_settles rfl rfl (c_X12_settles (d := 2) (by decide) h14) rfl rfl hdd (Nat.le_refl _) (Nat.le_refl _) (by decide) (fx_kv ?_)
                  refine pm_aloadn hG dX12_reads_163 rfl ?_
                  refine pm_getf hG dX12_reads_164 (flX12_28 _ rfl) rfl rfl ?_
                  refine pm_aloadn hG dX12_reads_167 rfl ?_
                  refine pm_getf hG dX12_reads_168 (flX12_148 _ rfl) rfl rfl ?_
                  refine pm_iloadn hG dX12_reads_171 rfl ?_
                  obtain ⟨j16, hj16, hE⟩ := fb_some hE
                  refine fx_iast hG dX12_reads_172 rfl hj16 ?_
                  refine ma_61 ?_
                  refine fx_letm hE (fun S17 hE => ?_)
                  refine pm_aloadn hG dX12_reads_173 rfl ?_
                  refine pm_dup hG dX12_reads_174 rfl ?_
                  refine pm_getf hG dX12_reads_175 (flX12_148 _ rfl) rfl rfl ?_
                  refine pm_iconst (v := 1) hG dX12_reads_178 (by decide) ?_
                  refine pm_iadd hG dX12_reads_179 ?_
                  refine pm_putf hG dX12_reads_180 (fwX12_148 _ rfl) rfl rfl rfl ?_
                  refine mi_11 ?_
                  refine fx_letm hE (fun S18 hE => ?_)
                  refine pm_aloadn hG dX12_reads_183 rfl ?_
                  refine pm_dup hG dX12_reads_184 rfl ?_
                  refine pm_getf hG dX12_reads_185 (flX12_157 _ rfl) rfl rfl ?_
                  refine pm_iconst (v := 1) hG dX12_reads_188 (by decide) ?_
                  refine pm_iadd hG dX12_reads_189 ?_
                  refine pm_putf hG dX12_reads_190 (fwX12_157 _ rfl) rfl rfl rfl ?_
                  refine mi_12 ?_
                  refine fx_letm hE (fun S19 hE => ?_)
                  refine pm_iconst (v := 1) hG dX12_reads_193 (by decide) ?_
                  refine pm_istoreXn (loc' := [some (.ref (B + 54)), some (.int 1), some (.int x6), some (.int x10)]) hG dX12_reads_194 (by decide) (pm_c1b rfl) rfl ?_
                  refine pm_goto (tgt := 17) hG dX12_reads_195 rfl ?_
                  refine pm_fg 2 (loc' := [some (.ref (B + 54)), some (.int 1), none, some (.int x10)]) rfl ?_
                  refine pm_fg 3 (loc' := [some (.ref (B + 54)), some (.int 1), none, none]) rfl ?_
                  exact ih17 _ _ hE
                · replace hE := fx_t c13 hE
                  refine pm_aloadn hG dX12_reads_149 rfl ?_
                  obtain ⟨x21, h20, hE⟩ := fb_some hE
                  refine pm_callV (As := []) (rest := []) hG hR dX12_reads_150 (lkX12_183 _ rfl) okV_X12_isTested rfl rfl (c_X12_isTested (d := 2) (by decide) h20) rfl rfl hdd (Nat.le_refl _) (Nat.le_refl _) (by decide) (fx_ki ?_)
                  refine pm_if_eq (tgt := 158) hG dX12_reads_153 rfl (fun c22 => ?_) (fun c22 => ?_)
                  · replace hE := fx_t c22 hE
                    refine pm_aloadn hG dX12_reads_158 rfl ?_
                    refine pm_iloadn hG dX12_reads_159 rfl ?_
                    obtain ⟨r24, h23, hE⟩ := fb_some hE
                    refine pm_callV (As := [.int x10]) (rest := []) hG hR dX12_reads_160 (lkX12_176 _ rfl) okV_X12_settles rfl rfl (c_X12_settles (d := 2) (by decide) h23) rfl rfl hdd (Nat.le_refl _) (Nat.le_refl _) (by decide) (fx_kv ?_)
                    refine pm_aloadn hG dX12_reads_163 rfl ?_
                    refine pm_getf hG dX12_reads_164 (flX12_28 _ rfl) rfl rfl ?_
                    refine pm_aloadn hG dX12_reads_167 rfl ?_
                    refine pm_getf hG dX12_reads_168 (flX12_148 _ rfl) rfl rfl ?_
                    refine pm_iloadn hG dX12_reads_171 rfl ?_
                    obtain ⟨j25, hj25, hE⟩ := fb_some hE
                    refine fx_iast hG dX12_reads_172 rfl hj25 ?_
                    refine ma_61 ?_
                    refine fx_letm hE (fun S26 hE => ?_)
                    refine pm_aloadn hG dX12_reads_173 rfl ?_
                    refine pm_dup hG dX12_reads_174 rfl ?_
                    refine pm_getf hG dX12_reads_175 (flX12_148 _ rfl) rfl rfl ?_
                    refine pm_iconst (v := 1) hG dX12_reads_178 (by decide) ?_
                    refine pm_iadd hG dX12_reads_179 ?_
                    refine pm_putf hG dX12_reads_180 (fwX12_148 _ rfl) rfl rfl rfl ?_
                    refine mi_11 ?_
                    refine fx_letm hE (fun S27 hE => ?_)
                    refine pm_aloadn hG dX12_reads_183 rfl ?_
                    refine pm_dup hG dX12_reads_184 rfl ?_
                    refine pm_getf hG dX12_reads_185 (flX12_157 _ rfl) rfl rfl ?_
                    refine pm_iconst (v := 1) hG dX12_reads_188 (by decide) ?_
                    refine pm_iadd hG dX12_reads_189 ?_
                    refine pm_putf hG dX12_reads_190 (fwX12_157 _ rfl) rfl rfl rfl ?_
                    refine mi_12 ?_
                    refine fx_letm hE (fun S28 hE => ?_)
                    refine pm_iconst (v := 1) hG dX12_reads_193 (by decide) ?_
                    refine pm_istoreXn (loc' := [some (.ref (B + 54)), some (.int 1), some (.int x6), some (.int x10)]) hG dX12_reads_194 (by decide) (pm_c1b rfl) rfl ?_
                    refine pm_goto (tgt := 17) hG dX12_reads_195 rfl ?_
                    refine pm_fg 2 (loc' := [some (.ref (B + 54)), some (.int 1), none, some (.int x10)]) rfl ?_
                    refine pm_fg 3 (loc' := [some (.ref (B + 54)), some (.int 1), none, none]) rfl ?_
                    exact ih17 _ _ hE
                  · replace hE := fx_f c22 hE
                    refine pm_iconst (v := 0) hG dX12_reads_156 (by decide) ?_
                    exact pm_zret hG hF dX12_reads_157 rfl (by rfl) (Nat.le_refl _) (Nat.le_refl _) (fx_rim hE)
          · replace hE := fx_t c9 hE
            refine pm_aloadn hG dX12_reads_90 rfl ?_
            obtain ⟨x30, h29, hE⟩ := fb_some hE
            refine pm_callV (As := []) (rest := []) hG hR dX12_reads_91 (lkX12_179 _ rfl) okV_X12_hasOpen rfl rfl (c_X12_hasOpen (d := 2) (by decide) h29) rfl rfl hdd (Nat.le_refl _) (Nat.le_refl _) (by decide) (fx_ki ?_)
            refine pm_if_eq (tgt := 130) hG dX12_reads_94 rfl (fun c31 => ?_) (fun c31 => ?_)
            · replace hE := fx_t c31 hE
              refine pm_iloadn hG dX12_reads_130 rfl ?_
              refine pm_callS (As := [.int x6]) (rest := []) hG hR dX12_reads_131 (lkX12_151 _ rfl) okS_X12_rankOf (c_X12_rankOf (d := 2) (by decide) rfl) rfl rfl hdd (Nat.le_refl _) (Nat.le_refl _) (by decide) (fx_ki ?_)
              refine fx_letv hE (fun x32 hE => ?_)
              refine pm_istoreXn (loc' := [some (.ref (B + 54)), some (.int x4_1), some (.int x6), some (.int x32)]) hG dX12_reads_134 (by decide) (pm_c1b rfl) rfl ?_
              refine pm_iloadn hG dX12_reads_135 rfl ?_
              refine pm_if_eq (tgt := 156) hG dX12_reads_136 rfl (fun c33 => ?_) (fun c33 => ?_)
              · replace hE := fx_t c33 hE
                refine pm_iconst (v := 0) hG dX12_reads_156 (by decide) ?_
                exact pm_zret hG hF dX12_reads_157 rfl (by rfl) (Nat.le_refl _) (Nat.le_refl _) (fx_rim hE)
              · replace hE := fx_f c33 hE
                refine pm_iloadn hG dX12_reads_139 rfl ?_
                refine pm_iconst (v := 5) hG dX12_reads_140 (by decide) ?_
                refine pm_icmp_eq (tgt := 156) hG dX12_reads_141 rfl (fun c34 => ?_) (fun c34 => ?_)
                · replace hE := fx_t c34 hE
                  refine pm_iconst (v := 0) hG dX12_reads_156 (by decide) ?_
                  exact pm_zret hG hF dX12_reads_157 rfl (by rfl) (Nat.le_refl _) (Nat.le_refl _) (fx_rim hE)
                · replace hE := fx_f c34 hE
                  refine pm_iloadn hG dX12_reads_144 rfl ?_
                  refine pm_iconst (v := 3) hG dX12_reads_145 (by decide) ?_
                  refine pm_icmp_ne (tgt := 158) hG dX12_reads_146 rfl (fun c35 => ?_) (fun c35 => ?_)
                  · replace hE := fx_f c35 hE
                    refine pm_aloadn hG dX12_reads_158 rfl ?_
                    refine pm_iloadn hG dX12_reads_159 rfl ?_
                    obtain ⟨r37, h36, hE⟩ := fb_some hE
                    refine pm_callV (As := [.int x32]) (rest := []) hG hR dX12_reads_160 (lkX12_176 _ rfl) okV_X12_settles rfl rfl (c_X12_settles (d := 2) (by decide) h36) rfl rfl hdd (Nat.le_refl _) (Nat.le_refl _) (by decide) (fx_kv ?_)
                    refine pm_aloadn hG dX12_reads_163 rfl ?_
                    refine pm_getf hG dX12_reads_164 (flX12_28 _ rfl) rfl rfl ?_
                    refine pm_aloadn hG dX12_reads_167 rfl ?_
                    refine pm_getf hG dX12_reads_168 (flX12_148 _ rfl) rfl rfl ?_
                    refine pm_iloadn hG dX12_reads_171 rfl ?_
                    obtain ⟨j38, hj38, hE⟩ := fb_some hE
                    refine fx_iast hG dX12_reads_172 rfl hj38 ?_
                    refine ma_61 ?_
                    refine fx_letm hE (fun S39 hE => ?_)
                    refine pm_aloadn hG dX12_reads_173 rfl ?_
                    refine pm_dup hG dX12_reads_174 rfl ?_
                    refine pm_getf hG dX12_reads_175 (flX12_148 _ rfl) rfl rfl ?_
                    refine pm_iconst (v := 1) hG dX12_reads_178 (by decide) ?_
                    refine pm_iadd hG dX12_reads_179 ?_
                    refine pm_putf hG dX12_reads_180 (fwX12_148 _ rfl) rfl rfl rfl ?_
                    refine mi_11 ?_
                    refine fx_letm hE (fun S40 hE => ?_)
                    refine pm_aloadn hG dX12_reads_183 rfl ?_
                    refine pm_dup hG dX12_reads_184 rfl ?_
                    refine pm_getf hG dX12_reads_185 (flX12_157 _ rfl) rfl rfl ?_
                    refine pm_iconst (v := 1) hG dX12_reads_188 (by decide) ?_
                    refine pm_iadd hG dX12_reads_189 ?_
                    refine pm_putf hG dX12_reads_190 (fwX12_157 _ rfl) rfl rfl rfl ?_
                    refine mi_12 ?_
                    refine fx_letm hE (fun S41 hE => ?_)
                    refine pm_iconst (v := 1) hG dX12_reads_193 (by decide) ?_
                    refine pm_istoreXn (loc' := [some (.ref (B + 54)), some (.int 1), some (.int x6), some (.int x32)]) hG dX12_reads_194 (by decide) (pm_c1b rfl) rfl ?_
                    refine pm_goto (tgt := 17) hG dX12_reads_195 rfl ?_
                    refine pm_fg 2 (loc' := [some (.ref (B + 54)), some (.int 1), none, some (.int x32)]) rfl ?_
                    refine pm_fg 3 (loc' := [some (.ref (B + 54)), some (.int 1), none, none]) rfl ?_
                    exact ih17 _ _ hE
                  · replace hE := fx_t c35 hE
                    refine pm_aloadn hG dX12_reads_149 rfl ?_
                    obtain ⟨x43, h42, hE⟩ := fb_some hE
                    refine pm_callV (As := []) (rest := []) hG hR dX12_reads_150 (lkX12_183 _ rfl) okV_X12_isTested rfl rfl (c_X12_isTested (d := 2) (by decide) h42) rfl rfl hdd (Nat.le_refl _) (Nat.le_refl _) (by decide) (fx_ki ?_)
                    refine pm_if_eq (tgt := 158) hG dX12_reads_153 rfl (fun c44 => ?_) (fun c44 => ?_)
                    · replace hE := fx_t c44 hE
                      refine pm_aloadn hG dX12_reads_158 rfl ?_
                      refine pm_iloadn hG dX12_reads_159 rfl ?_
                      obtain ⟨r46, h45, hE⟩ := fb_some hE
                      refine pm_callV (As := [.int x32]) (rest := []) hG hR dX12_reads_160 (lkX12_176 _ rfl) okV_X12_settles rfl rfl (c_X12_settles (d := 2) (by decide) h45) rfl rfl hdd (Nat.le_refl _) (Nat.le_refl _) (by decide) (fx_kv ?_)
                      refine pm_aloadn hG dX12_reads_163 rfl ?_
                      refine pm_getf hG dX12_reads_164 (flX12_28 _ rfl) rfl rfl ?_
                      refine pm_aloadn hG dX12_reads_167 rfl ?_
                      refine pm_getf hG dX12_reads_168 (flX12_148 _ rfl) rfl rfl ?_
                      refine pm_iloadn hG dX12_reads_171 rfl ?_
                      obtain ⟨j47, hj47, hE⟩ := fb_some hE
                      refine fx_iast hG dX12_reads_172 rfl hj47 ?_
                      refine ma_61 ?_
                      refine fx_letm hE (fun S48 hE => ?_)
                      refine pm_aloadn hG dX12_reads_173 rfl ?_
                      refine pm_dup hG dX12_reads_174 rfl ?_
                      refine pm_getf hG dX12_reads_175 (flX12_148 _ rfl) rfl rfl ?_
                      refine pm_iconst (v := 1) hG dX12_reads_178 (by decide) ?_
                      refine pm_iadd hG dX12_reads_179 ?_
                      refine pm_putf hG dX12_reads_180 (fwX12_148 _ rfl) rfl rfl rfl ?_
                      refine mi_11 ?_
                      refine fx_letm hE (fun S49 hE => ?_)
                      refine pm_aloadn hG dX12_reads_183 rfl ?_
                      refine pm_dup hG dX12_reads_184 rfl ?_
                      refine pm_getf hG dX12_reads_185 (flX12_157 _ rfl) rfl rfl ?_
                      refine pm_iconst (v := 1) hG dX12_reads_188 (by decide) ?_
                      refine pm_iadd hG dX12_reads_189 ?_
                      refine pm_putf hG dX12_reads_190 (fwX12_157 _ rfl) rfl rfl rfl ?_
                      refine mi_12 ?_
                      refine fx_letm hE (fun S50 hE => ?_)
                      refine pm_iconst (v := 1) hG dX12_reads_193 (by decide) ?_
                      refine pm_istoreXn (loc' := [some (.ref (B + 54)), some (.int 1), some (.int x6), some (.int x32)]) hG dX12_reads_194 (by decide) (pm_c1b rfl) rfl ?_
                      refine pm_goto (tgt := 17) hG dX12_reads_195 rfl ?_
                      refine pm_fg 2 (loc' := [some (.ref (B + 54)), some (.int 1), none, some (.int x32)]) rfl ?_
                      refine pm_fg 3 (loc' := [some (.ref (B + 54)), some (.int 1), none, none]) rfl ?_
                      exact ih17 _ _ hE
                    · replace hE := fx_f c44 hE
                      refine pm_iconst (v := 0) hG dX12_reads_156 (by decide) ?_
                      exact pm_zret hG hF dX12_reads_157 rfl (by rfl) (Nat.le_refl _) (Nat.le_refl _) (fx_rim hE)
            · replace hE := fx_f c31 hE
              refine pm_aloadn hG dX12_reads_97 rfl ?_
              refine pm_iconst (v := 1) hG dX12_reads_98 (by decide) ?_
              obtain ⟨r52, h51, hE⟩ := fb_some hE
              refine pm_callV (As := [.int 1]) (rest := []) hG hR dX12_reads_99 (lkX12_176 _ rfl) okV_X12_settles rfl rfl (c_X12_settles (d := 2) (by decide) h51) rfl rfl hdd (Nat.le_refl _) (Nat.le_refl _) (by decide) (fx_kv ?_)
              refine pm_aloadn hG dX12_reads_102 rfl ?_
              refine pm_dup hG dX12_reads_103 rfl ?_
              refine pm_getf hG dX12_reads_104 (flX12_148 _ rfl) rfl rfl ?_
              refine pm_iconst (v := 1) hG dX12_reads_107 (by decide) ?_
              refine pm_isub hG dX12_reads_108 ?_
              refine pm_putf hG dX12_reads_109 (fwX12_148 _ rfl) rfl rfl rfl ?_
              refine mi_11 ?_
              refine fx_letm hE (fun S53 hE => ?_)
              refine pm_aloadn hG dX12_reads_112 rfl ?_
              refine pm_dup hG dX12_reads_113 rfl ?_
              refine pm_getf hG dX12_reads_114 (flX12_157 _ rfl) rfl rfl ?_
              refine pm_iconst (v := 1) hG dX12_reads_117 (by decide) ?_
              refine pm_iadd hG dX12_reads_118 ?_
              refine pm_putf hG dX12_reads_119 (fwX12_157 _ rfl) rfl rfl rfl ?_
              refine mi_12 ?_
              refine fx_letm hE (fun S54 hE => ?_)
              refine pm_aloadn hG dX12_reads_122 rfl ?_
              refine pm_iconst (v := 5) hG dX12_reads_123 (by decide) ?_
              obtain ⟨r56, h55, hE⟩ := fb_some hE
              refine pm_callV (As := [.int 5]) (rest := []) hG hR dX12_reads_124 (lkX12_176 _ rfl) okV_X12_settles rfl rfl (c_X12_settles (d := 2) (by decide) h55) rfl rfl hdd (Nat.le_refl _) (Nat.le_refl _) (by decide) (fx_kv ?_)
              refine pm_goto (tgt := 195) hG dX12_reads_127 rfl ?_
              refine pm_goto (tgt := 17) hG dX12_reads_195 rfl ?_
              refine pm_fg 2 (loc' := [some (.ref (B + 54)), some (.int x4_1), none, none]) rfl ?_
              exact ih17 _ _ hE
        · replace c8 := Int32.not_le.mp c8
          replace hE := fx_t c8 hE
          refine pm_aloadn hG dX12_reads_68 rfl ?_
          obtain ⟨x58, h57, hE⟩ := fb_some hE
          refine pm_callV (As := []) (rest := []) hG hR dX12_reads_69 (lkX12_179 _ rfl) okV_X12_hasOpen rfl rfl (c_X12_hasOpen (d := 2) (by decide) h57) rfl rfl hdd (Nat.le_refl _) (Nat.le_refl _) (by decide) (fx_ki ?_)
          refine pm_if_eq (tgt := 77) hG dX12_reads_72 rfl (fun c59 => ?_) (fun c59 => ?_)
          · replace hE := fx_t c59 hE
            refine pm_aloadn hG dX12_reads_77 rfl ?_
            refine pm_iconst (v := 1) hG dX12_reads_78 (by decide) ?_
            obtain ⟨r61, h60, hE⟩ := fb_some hE
            refine pm_callV (As := [.int 1]) (rest := []) hG hR dX12_reads_79 (lkX12_176 _ rfl) okV_X12_settles rfl rfl (c_X12_settles (d := 2) (by decide) h60) rfl rfl hdd (Nat.le_refl _) (Nat.le_refl _) (by decide) (fx_kv ?_)
            refine pm_iconst (v := 1) hG dX12_reads_82 (by decide) ?_
            exact pm_zret hG hF dX12_reads_83 rfl (by rfl) (Nat.le_refl _) (Nat.le_refl _) (fx_rim hE)
          · replace hE := fx_f c59 hE
            refine pm_iconst (v := 0) hG dX12_reads_75 (by decide) ?_
            exact pm_zret hG hF dX12_reads_76 rfl (by rfl) (Nat.le_refl _) (Nat.le_refl _) (fx_rim hE)
      · replace hE := fx_f c7 hE
        refine pm_aloadn hG dX12_reads_30 rfl ?_
        obtain ⟨r63, h62, hE⟩ := fb_some hE
        refine pm_callV (As := []) (rest := []) hG hR dX12_reads_31 (lkX12_173 _ rfl) okV_X12_readsOne rfl rfl (c_X12_readsOne (d := 2) (by decide) h62) rfl rfl hdd (Nat.le_refl _) (Nat.le_refl _) (by decide) (fx_ki ?_)
        refine pm_istoreXn (loc' := [some (.ref (B + 54)), some (.int x4_1), some (.int x6), some (.int r63.1)]) hG dX12_reads_34 (by decide) (pm_c1b rfl) rfl ?_
        refine pm_iloadn hG dX12_reads_35 rfl ?_
        refine pm_if_ne (tgt := 41) hG dX12_reads_36 rfl (fun c64 => ?_) (fun c64 => ?_)
        · replace hE := fx_f c64 hE
          refine pm_iloadn hG dX12_reads_41 rfl ?_
          refine pm_iconst (v := 2) hG dX12_reads_42 (by decide) ?_
          refine pm_icmp_ne (tgt := 50) hG dX12_reads_43 rfl (fun c65 => ?_) (fun c65 => ?_)
          · replace hE := fx_f c65 hE
            refine pm_iconst (v := 0) hG dX12_reads_50 (by decide) ?_
            refine pm_istoreXn (loc' := [some (.ref (B + 54)), some (.int 0), some (.int x6), some (.int r63.1)]) hG dX12_reads_51 (by decide) (pm_c1b rfl) rfl ?_
            refine pm_iloadn hG dX12_reads_52 rfl ?_
            refine pm_if_ne (tgt := 61) hG dX12_reads_53 rfl (fun q => absurd q (by decide)) (fun _ => ?_)
            refine pm_aloadn hG dX12_reads_56 rfl ?_
            refine pm_iconst (v := 5) hG dX12_reads_57 (by decide) ?_
            obtain ⟨r67, h66, hE⟩ := fb_some hE
            refine pm_callV (As := [.int 5]) (rest := []) hG hR dX12_reads_58 (lkX12_176 _ rfl) okV_X12_settles rfl rfl (c_X12_settles (d := 2) (by decide) h66) rfl rfl hdd (Nat.le_refl _) (Nat.le_refl _) (by decide) (fx_kv ?_)
            refine pm_goto (tgt := 195) hG dX12_reads_61 rfl ?_
            refine pm_goto (tgt := 17) hG dX12_reads_195 rfl ?_
            refine pm_fg 2 (loc' := [some (.ref (B + 54)), some (.int 0), none, some (.int r63.1)]) rfl ?_
            refine pm_fg 3 (loc' := [some (.ref (B + 54)), some (.int 0), none, none]) rfl ?_
            exact ih17 _ _ hE
          · replace hE := fx_t c65 hE
            refine pm_iconst (v := 1) hG dX12_reads_46 (by decide) ?_
            refine pm_goto (tgt := 51) hG dX12_reads_47 rfl ?_
            refine pm_istoreXn (loc' := [some (.ref (B + 54)), some (.int 1), some (.int x6), some (.int r63.1)]) hG dX12_reads_51 (by decide) (pm_c1b rfl) rfl ?_
            refine pm_iloadn hG dX12_reads_52 rfl ?_
            refine pm_if_ne (tgt := 61) hG dX12_reads_53 rfl (fun _ => ?_) (fun q => absurd q (by decide))
            refine pm_goto (tgt := 195) hG dX12_reads_61 rfl ?_
            refine pm_goto (tgt := 17) hG dX12_reads_195 rfl ?_
            refine pm_fg 2 (loc' := [some (.ref (B + 54)), some (.int 1), none, some (.int r63.1)]) rfl ?_
            refine pm_fg 3 (loc' := [some (.ref (B + 54)), some (.int 1), none, none]) rfl ?_
            exact ih17 _ _ hE
        · replace hE := fx_t c64 hE
          refine pm_iconst (v := 0) hG dX12_reads_39 (by decide) ?_
          exact pm_zret hG hF dX12_reads_40 rfl (by rfl) (Nat.le_refl _) (Nat.le_refl _) (fx_rim hE)
  exact loop17 _ _ _ hE

set_option maxRecDepth 100000 in
set_option maxHeartbeats 4000000 in
theorem c_X12_law {d : Nat} {B cnt : Nat} {σ : pm_S} {S : FS} {za : Int32} {zb : Int32} {R : Int32 × FS} (hdd : 4 ≤ d) (hE : f_X12_law S za zb = some R) : pm_met mX12_law d 0 0 B [.ref (B + 54), .int za, .int zb] cnt (mst B S σ) (pm_Qi (fun v σ' cnt' => v = R.1 ∧ σ' = (mst B R.2 σ) ∧ cnt' = cnt)) := by
  refine pm_enter 4 (by decide) (Nat.le_of_ble_eq_true rfl) rfl (fun G hG hR hF => ?_)
  unfold f_X12_law at hE
  refine pm_iloadn hG dX12_law_0 rfl ?_
  refine pm_iconst (v := 0) hG dX12_law_1 (by decide) ?_
  refine pm_iconst (v := 4) hG dX12_law_2 (by decide) ?_
  refine pm_callS (As := [.int za, .int 0, .int 4]) (rest := []) hG hR dX12_law_3 (lkX12_68 _ rfl) okS_X12_in (c_X12_in (d := 3) (by decide) rfl) rfl rfl hdd (Nat.le_refl _) (Nat.le_refl _) (by decide) (fx_ki ?_)
  refine pm_if_eq (tgt := 16) hG dX12_law_6 rfl (fun c1 => ?_) (fun c1 => ?_)
  · replace hE := fx_t c1 hE
    refine pm_aloadn hG dX12_law_16 rfl ?_
    refine pm_iconst (v := 1) hG dX12_law_17 (by decide) ?_
    obtain ⟨r3, h2, hE⟩ := fb_some hE
    refine pm_callV (As := [.int 1]) (rest := []) hG hR dX12_law_18 (lkX12_80 _ rfl) okV_X12_finds rfl rfl (c_X12_finds (d := 3) (by decide) h2) rfl rfl hdd (Nat.le_refl _) (Nat.le_refl _) (by decide) (fx_ki ?_)
    exact pm_iret hG hF dX12_law_21 rfl (Nat.le_refl _) (Nat.le_refl _) (fx_rim hE)
  · replace hE := fx_f c1 hE
    refine pm_iloadn hG dX12_law_9 rfl ?_
    refine pm_callS (As := [.int zb]) (rest := []) hG hR dX12_law_10 (lkX12_186 _ rfl) okS_X12_isDay (c_X12_isDay (d := 3) (by decide) rfl) rfl rfl hdd (Nat.le_refl _) (Nat.le_refl _) (by decide) (fx_ki ?_)
    refine pm_if_ne (tgt := 22) hG dX12_law_13 rfl (fun c4 => ?_) (fun c4 => ?_)
    · replace hE := fx_f c4 hE
      refine pm_aloadn hG dX12_law_22 rfl ?_
      refine pm_getf hG dX12_law_23 (flX12_7 _ rfl) rfl rfl ?_
      refine pm_iconst (v := 4) hG dX12_law_26 (by decide) ?_
      refine fx_iald hG dX12_law_27 rfl (ix_lit (by decide) rfl) ?_
      refine fx_letv hE (fun x5 hE => ?_)
      refine pm_istoreXn (loc' := [some (.ref (B + 54)), some (.int za), some (.int zb), some (.int x5), none, none, none]) hG dX12_law_28 (by decide) (pm_c1b rfl) rfl ?_
      refine pm_iloadn hG dX12_law_29 rfl ?_
      refine pm_bipush (v := 12) hG dX12_law_30 (by decide) ?_
      refine pm_icmp_ne (tgt := 41) hG dX12_law_32 rfl (fun c6 => ?_) (fun c6 => ?_)
      · replace hE := fx_f c6 hE
        refine pm_aloadn hG dX12_law_41 rfl ?_
        obtain ⟨r8, h7, hE⟩ := fb_some hE
        refine pm_callV (As := []) (rest := []) hG hR dX12_law_42 (lkX12_189 _ rfl) okV_X12_reads rfl rfl (c_X12_reads (d := 3) (by decide) h7) rfl rfl hdd (Nat.le_refl _) (Nat.le_refl _) (by decide) (fx_ki ?_)
        refine pm_istoreXi (loc' := [some (.ref (B + 54)), some (.int za), some (.int zb), some (.int x5), some (.int r8.1), none, none]) hG dX12_law_45 (by decide) (pm_c1b rfl) rfl ?_
        refine pm_aloadn hG dX12_law_47 rfl ?_
        refine pm_getf hG dX12_law_48 (flX12_7 _ rfl) rfl rfl ?_
        refine pm_bipush (v := 10) hG dX12_law_51 (by decide) ?_
        refine pm_iconst (v := 0) hG dX12_law_53 (by decide) ?_
        refine fx_iast hG dX12_law_54 rfl (ix_lit (by decide) rfl) ?_
        refine ma_55 ?_
        refine fx_letm hE (fun S9 hE => ?_)
        refine pm_iloadi hG dX12_law_55 rfl ?_
        refine pm_if_ne (tgt := 68) hG dX12_law_57 rfl (fun c10 => ?_) (fun c10 => ?_)
        · replace hE := fx_f c10 hE
          refine pm_sipush (v := 510) hG dX12_law_68 (by decide) ?_
          refine pm_bipush (v := 65) hG dX12_law_71 (by decide) ?_
          refine pm_iloadn hG dX12_law_73 rfl ?_
          refine pm_imul hG dX12_law_74 ?_
          refine pm_iadd hG dX12_law_75 ?_
          refine fx_letv hE (fun x11 hE => ?_)
          refine pm_istoreXi (loc' := [some (.ref (B + 54)), some (.int za), some (.int zb), some (.int x5), some (.int r8.1), some (.int x11), none]) hG dX12_law_76 (by decide) (pm_c1b rfl) rfl ?_
          refine pm_aloadn hG dX12_law_78 rfl ?_
          refine pm_getf hG dX12_law_79 (flX12_7 _ rfl) rfl rfl ?_
          refine pm_iconst (v := 4) hG dX12_law_82 (by decide) ?_
          refine pm_dup2 hG dX12_law_83 rfl rfl ?_
          refine fx_iald hG dX12_law_84 rfl (ix_lit (by decide) rfl) ?_
          refine pm_iconst (v := 1) hG dX12_law_85 (by decide) ?_
          refine pm_iadd hG dX12_law_86 ?_
          refine fx_iast hG dX12_law_87 rfl (ix_lit (by decide) rfl) ?_
          refine ma_55 ?_
          refine fx_letm hE (fun S12 hE => ?_)
          refine pm_aloadn hG dX12_law_88 rfl ?_
          refine pm_getf hG dX12_law_89 (flX12_7 _ rfl) rfl rfl ?_
          refine pm_iloadi hG dX12_law_92 rfl ?_
          refine pm_iloadn hG dX12_law_94 rfl ?_
          obtain ⟨j13, hj13, hE⟩ := fb_some hE
          refine fx_iast hG dX12_law_95 rfl hj13 ?_
          refine ma_55 ?_
          refine fx_letm hE (fun S14 hE => ?_)
          refine pm_aloadn hG dX12_law_96 rfl ?_
          refine pm_getf hG dX12_law_97 (flX12_7 _ rfl) rfl rfl ?_
          refine pm_iloadi hG dX12_law_100 rfl ?_
          refine pm_iconst (v := 1) hG dX12_law_102 (by decide) ?_
          refine pm_iadd hG dX12_law_103 ?_
          refine pm_iloadn hG dX12_law_104 rfl ?_
          obtain ⟨j15, hj15, hE⟩ := fb_some hE
          refine fx_iast hG dX12_law_105 rfl hj15 ?_
          refine ma_55 ?_
          refine fx_letm hE (fun S16 hE => ?_)
          refine pm_aloadn hG dX12_law_106 rfl ?_
          refine pm_getf hG dX12_law_107 (flX12_7 _ rfl) rfl rfl ?_
          refine pm_iloadi hG dX12_law_110 rfl ?_
          refine pm_iconst (v := 2) hG dX12_law_112 (by decide) ?_
          refine pm_iadd hG dX12_law_113 ?_
          refine pm_aloadn hG dX12_law_114 rfl ?_
          refine pm_getf hG dX12_law_115 (flX12_7 _ rfl) rfl rfl ?_
          refine pm_bipush (v := 8) hG dX12_law_118 (by decide) ?_
          refine fx_iald hG dX12_law_120 rfl (ix_lit (by decide) rfl) ?_
          obtain ⟨j17, hj17, hE⟩ := fb_some hE
          refine fx_iast hG dX12_law_121 rfl hj17 ?_
          refine ma_55 ?_
          refine fx_letm hE (fun S18 hE => ?_)
          refine pm_aloadn hG dX12_law_122 rfl ?_
          refine pm_getf hG dX12_law_123 (flX12_7 _ rfl) rfl rfl ?_
          refine pm_iloadi hG dX12_law_126 rfl ?_
          refine pm_iconst (v := 3) hG dX12_law_128 (by decide) ?_
          refine pm_iadd hG dX12_law_129 ?_
          refine pm_iconst (v := (-1)) hG dX12_law_130 (by decide) ?_
          obtain ⟨j19, hj19, hE⟩ := fb_some hE
          refine fx_iast hG dX12_law_131 rfl hj19 ?_
          refine ma_55 ?_
          refine fx_letm hE (fun S20 hE => ?_)
          refine pm_aloadn hG dX12_law_132 rfl ?_
          refine pm_getf hG dX12_law_133 (flX12_7 _ rfl) rfl rfl ?_
          refine pm_iloadi hG dX12_law_136 rfl ?_
          refine pm_iconst (v := 4) hG dX12_law_138 (by decide) ?_
          refine pm_iadd hG dX12_law_139 ?_
          refine pm_aloadn hG dX12_law_140 rfl ?_
          refine pm_getf hG dX12_law_141 (flX12_144 _ rfl) rfl rfl ?_
          obtain ⟨j21, hj21, hE⟩ := fb_some hE
          refine fx_iast hG dX12_law_144 rfl hj21 ?_
          refine ma_55 ?_
          refine fx_letm hE (fun S22 hE => ?_)
          refine pm_iconst (v := 0) hG dX12_law_145 (by decide) ?_
          refine pm_istoreXi (loc' := [some (.ref (B + 54)), some (.int za), some (.int zb), some (.int x5), some (.int r8.1), some (.int x11), some (.int 0)]) hG dX12_law_146 (by decide) (pm_c1b rfl) rfl ?_
          have loop148 : ∀ (k148 : FS → Int32 → Option (Int32 × FS)), (∀ (S23 : FS) (x23_6 : Int32), k148 S23  x23_6 = some R → pm_wp mX12_law G B 182 [some (.ref (B + 54)), some (.int za), some (.int zb), some (.int x5), some (.int r8.1), some (.int x11), some (.int x23_6)] [] 0 0 cnt (mst B S23 σ)) → ∀ (m148 : Nat) (S23 : FS) (x23_6 : Int32), l_X12_law_148 x11 k148 m148 S23  x23_6 = some R → pm_wp mX12_law G B 148 [some (.ref (B + 54)), some (.int za), some (.int zb), some (.int x5), some (.int r8.1), some (.int x11), some (.int x23_6)] [] 0 0 cnt (mst B S23 σ) := by
            intro k148 hk148 m148
            induction m148 with
            | zero => intro S23  x23_6 hE; exact fx_no hE
            | succ m148 ih148 =>
              intro S23  x23_6 hE
              rw [l_X12_law_148] at hE
              refine pm_iloadi hG dX12_law_148 rfl ?_
              refine pm_aloadn hG dX12_law_150 rfl ?_
              refine pm_getf hG dX12_law_151 (flX12_144 _ rfl) rfl rfl ?_
              refine pm_icmp_ge (tgt := 182) hG dX12_law_154 rfl (fun c24 => ?_) (fun c24 => ?_)
              · replace c24 := Int32.not_lt.mpr c24
                replace hE := fx_f c24 hE
                exact hk148 _ _ hE
              · replace c24 := Int32.not_le.mp c24
                replace hE := fx_t c24 hE
                refine pm_aloadn hG dX12_law_157 rfl ?_
                refine pm_getf hG dX12_law_158 (flX12_7 _ rfl) rfl rfl ?_
                refine pm_iloadi hG dX12_law_161 rfl ?_
                refine pm_iconst (v := 5) hG dX12_law_163 (by decide) ?_
                refine pm_iadd hG dX12_law_164 ?_
                refine pm_iloadi hG dX12_law_165 rfl ?_
                refine pm_iadd hG dX12_law_167 ?_
                refine pm_aloadn hG dX12_law_168 rfl ?_
                refine pm_getf hG dX12_law_169 (flX12_25 _ rfl) rfl rfl ?_
                refine pm_iloadi hG dX12_law_172 rfl ?_
                obtain ⟨j25, hj25, hE⟩ := fb_some hE
                refine fx_iald hG dX12_law_174 rfl hj25 ?_
                obtain ⟨j26, hj26, hE⟩ := fb_some hE
                refine fx_iast hG dX12_law_175 rfl hj26 ?_
                refine ma_55 ?_
                refine fx_letm hE (fun S27 hE => ?_)
                refine pm_iincX (v := x23_6 + 1) (loc' := [some (.ref (B + 54)), some (.int za), some (.int zb), some (.int x5), some (.int r8.1), some (.int x11), some (.int (x23_6 + 1))]) hG dX12_law_176 rfl (by rfl) (by decide) (pm_c1b rfl) rfl ?_
                refine pm_goto (tgt := 148) hG dX12_law_179 rfl ?_
                exact ih148 _ _ hE
          refine loop148 _ (fun S28 x28_6 hE => ?_) _ _ _ hE
          refine pm_iloadn hG dX12_law_182 rfl ?_
          exact pm_iret hG hF dX12_law_183 rfl (Nat.le_refl _) (Nat.le_refl _) (fx_rim hE)
        · replace hE := fx_t c10 hE
          refine pm_bipush (v := (-10)) hG dX12_law_60 (by decide) ?_
          refine pm_aloadn hG dX12_law_62 rfl ?_
          refine pm_getf hG dX12_law_63 (flX12_157 _ rfl) rfl rfl ?_
          refine pm_isub hG dX12_law_66 ?_
          exact pm_iret hG hF dX12_law_67 rfl (Nat.le_refl _) (Nat.le_refl _) (fx_rim hE)
      · replace hE := fx_t c6 hE
        refine pm_aloadn hG dX12_law_35 rfl ?_
        refine pm_iconst (v := 4) hG dX12_law_36 (by decide) ?_
        obtain ⟨r30, h29, hE⟩ := fb_some hE
        refine pm_callV (As := [.int 4]) (rest := []) hG hR dX12_law_37 (lkX12_80 _ rfl) okV_X12_finds rfl rfl (c_X12_finds (d := 3) (by decide) h29) rfl rfl hdd (Nat.le_refl _) (Nat.le_refl _) (by decide) (fx_ki ?_)
        exact pm_iret hG hF dX12_law_40 rfl (Nat.le_refl _) (Nat.le_refl _) (fx_rim hE)
    · replace hE := fx_t c4 hE
      refine pm_aloadn hG dX12_law_16 rfl ?_
      refine pm_iconst (v := 1) hG dX12_law_17 (by decide) ?_
      obtain ⟨r32, h31, hE⟩ := fb_some hE
      refine pm_callV (As := [.int 1]) (rest := []) hG hR dX12_law_18 (lkX12_80 _ rfl) okV_X12_finds rfl rfl (c_X12_finds (d := 3) (by decide) h31) rfl rfl hdd (Nat.le_refl _) (Nat.le_refl _) (by decide) (fx_ki ?_)
      exact pm_iret hG hF dX12_law_21 rfl (Nat.le_refl _) (Nat.le_refl _) (fx_rim hE)

set_option maxRecDepth 100000 in
set_option maxHeartbeats 4000000 in
theorem c_X12_lend {d : Nat} {B cnt : Nat} {σ : pm_S} {S : FS} {za : Int32} {zb : Int32} {zc : Int32} {R : Int32 × FS} (hdd : 3 ≤ d) (hE : f_X12_lend S za zb zc = some R) : pm_met mX12_lend d 0 0 B [.ref (B + 54), .int za, .int zb, .int zc] cnt (mst B S σ) (pm_Qi (fun v σ' cnt' => v = R.1 ∧ σ' = (mst B R.2 σ) ∧ cnt' = cnt)) := by
  refine pm_enter 0 (by decide) (Nat.le_of_ble_eq_true rfl) rfl (fun G hG hR hF => ?_)
  unfold f_X12_lend at hE
  refine pm_aloadn hG dX12_lend_0 rfl ?_
  refine pm_iloadn hG dX12_lend_1 rfl ?_
  refine pm_callV (As := [.int za]) (rest := []) hG hR dX12_lend_2 (lkX12_132 _ rfl) okV_X12_isPower rfl rfl (c_X12_isPower (d := 2) (by decide) rfl) rfl rfl hdd (Nat.le_refl _) (Nat.le_refl _) (by decide) (fx_ki ?_)
  refine pm_if_eq (tgt := 41) hG dX12_lend_5 rfl (fun c1 => ?_) (fun c1 => ?_)
  · replace hE := fx_t c1 hE
    refine pm_aloadn hG dX12_lend_41 rfl ?_
    refine pm_iconst (v := 1) hG dX12_lend_42 (by decide) ?_
    obtain ⟨r3, h2, hE⟩ := fb_some hE
    refine pm_callV (As := [.int 1]) (rest := []) hG hR dX12_lend_43 (lkX12_80 _ rfl) okV_X12_finds rfl rfl (c_X12_finds (d := 2) (by decide) h2) rfl rfl hdd (Nat.le_refl _) (Nat.le_refl _) (by decide) (fx_ki ?_)
    exact pm_iret hG hF dX12_lend_46 rfl (Nat.le_refl _) (Nat.le_refl _) (fx_rim hE)
  · replace hE := fx_f c1 hE
    refine pm_aloadn hG dX12_lend_8 rfl ?_
    refine pm_iloadn hG dX12_lend_9 rfl ?_
    refine pm_callV (As := [.int zb]) (rest := []) hG hR dX12_lend_10 (lkX12_91 _ rfl) okV_X12_isPerson rfl rfl (c_X12_isPerson (d := 2) (by decide) rfl) rfl rfl hdd (Nat.le_refl _) (Nat.le_refl _) (by decide) (fx_ki ?_)
    refine pm_if_eq (tgt := 41) hG dX12_lend_13 rfl (fun c4 => ?_) (fun c4 => ?_)
    · replace hE := fx_t c4 hE
      refine pm_aloadn hG dX12_lend_41 rfl ?_
      refine pm_iconst (v := 1) hG dX12_lend_42 (by decide) ?_
      obtain ⟨r6, h5, hE⟩ := fb_some hE
      refine pm_callV (As := [.int 1]) (rest := []) hG hR dX12_lend_43 (lkX12_80 _ rfl) okV_X12_finds rfl rfl (c_X12_finds (d := 2) (by decide) h5) rfl rfl hdd (Nat.le_refl _) (Nat.le_refl _) (by decide) (fx_ki ?_)
      exact pm_iret hG hF dX12_lend_46 rfl (Nat.le_refl _) (Nat.le_refl _) (fx_rim hE)
    · replace hE := fx_f c4 hE
      refine pm_aloadn hG dX12_lend_16 rfl ?_
      refine pm_iloadn hG dX12_lend_17 rfl ?_
      obtain ⟨x8, h7, hE⟩ := fb_some hE
      refine pm_callV (As := [.int zb]) (rest := []) hG hR dX12_lend_18 (lkX12_101 _ rfl) okV_X12_lives rfl rfl (c_X12_lives (d := 2) (by decide) h7) rfl rfl hdd (Nat.le_refl _) (Nat.le_refl _) (by decide) (fx_ki ?_)
      refine pm_if_eq (tgt := 41) hG dX12_lend_21 rfl (fun c9 => ?_) (fun c9 => ?_)
      · replace hE := fx_t c9 hE
        refine pm_aloadn hG dX12_lend_41 rfl ?_
        refine pm_iconst (v := 1) hG dX12_lend_42 (by decide) ?_
        obtain ⟨r11, h10, hE⟩ := fb_some hE
        refine pm_callV (As := [.int 1]) (rest := []) hG hR dX12_lend_43 (lkX12_80 _ rfl) okV_X12_finds rfl rfl (c_X12_finds (d := 2) (by decide) h10) rfl rfl hdd (Nat.le_refl _) (Nat.le_refl _) (by decide) (fx_ki ?_)
        exact pm_iret hG hF dX12_lend_46 rfl (Nat.le_refl _) (Nat.le_refl _) (fx_rim hE)
      · replace hE := fx_f c9 hE
        refine pm_iloadn hG dX12_lend_24 rfl ?_
        refine pm_aloadn hG dX12_lend_25 rfl ?_
        refine pm_getf hG dX12_lend_26 (flX12_7 _ rfl) rfl rfl ?_
        refine pm_bipush (v := 8) hG dX12_lend_29 (by decide) ?_
        refine fx_iald hG dX12_lend_31 rfl (ix_lit (by decide) rfl) ?_
        refine pm_sipush (v := 2000) hG dX12_lend_32 (by decide) ?_
        refine pm_callS (As := [.int zc, .int (S.2 55 8), .int 2000]) (rest := []) hG hR dX12_lend_35 (lkX12_68 _ rfl) okS_X12_in (c_X12_in (d := 2) (by decide) rfl) rfl rfl hdd (Nat.le_refl _) (Nat.le_refl _) (by decide) (fx_ki ?_)
        refine pm_if_ne (tgt := 47) hG dX12_lend_38 rfl (fun c12 => ?_) (fun c12 => ?_)
        · replace hE := fx_f c12 hE
          refine pm_aloadn hG dX12_lend_47 rfl ?_
          refine pm_iloadn hG dX12_lend_48 rfl ?_
          refine pm_iconst (v := 0) hG dX12_lend_49 (by decide) ?_
          obtain ⟨x14, h13, hE⟩ := fb_some hE
          refine pm_callV (As := [.int za, .int 0]) (rest := []) hG hR dX12_lend_50 (lkX12_110 _ rfl) okV_X12_its rfl rfl (c_X12_its (d := 2) (by decide) h13) rfl rfl hdd (Nat.le_refl _) (Nat.le_refl _) (by decide) (fx_ki ?_)
          refine pm_iconst (v := 2) hG dX12_lend_53 (by decide) ?_
          refine pm_icmp_eq (tgt := 63) hG dX12_lend_54 rfl (fun c15 => ?_) (fun c15 => ?_)
          · replace hE := fx_t c15 hE
            refine pm_aloadn hG dX12_lend_63 rfl ?_
            refine pm_iloadn hG dX12_lend_64 rfl ?_
            refine pm_iconst (v := 1) hG dX12_lend_65 (by decide) ?_
            obtain ⟨x17, h16, hE⟩ := fb_some hE
            refine pm_callV (As := [.int za, .int 1]) (rest := []) hG hR dX12_lend_66 (lkX12_110 _ rfl) okV_X12_its rfl rfl (c_X12_its (d := 2) (by decide) h16) rfl rfl hdd (Nat.le_refl _) (Nat.le_refl _) (by decide) (fx_ki ?_)
            refine pm_if_lt (tgt := 91) hG dX12_lend_69 rfl (fun c18 => ?_) (fun c18 => ?_)
            · replace hE := fx_t c18 hE
              refine pm_aloadn hG dX12_lend_91 rfl ?_
              refine pm_iconst (v := 3) hG dX12_lend_92 (by decide) ?_
              obtain ⟨r20, h19, hE⟩ := fb_some hE
              refine pm_callV (As := [.int 3]) (rest := []) hG hR dX12_lend_93 (lkX12_80 _ rfl) okV_X12_finds rfl rfl (c_X12_finds (d := 2) (by decide) h19) rfl rfl hdd (Nat.le_refl _) (Nat.le_refl _) (by decide) (fx_ki ?_)
              exact pm_iret hG hF dX12_lend_96 rfl (Nat.le_refl _) (Nat.le_refl _) (fx_rim hE)
            · replace hE := fx_f c18 hE
              refine pm_aloadn hG dX12_lend_72 rfl ?_
              refine pm_iloadn hG dX12_lend_73 rfl ?_
              refine pm_iconst (v := 2) hG dX12_lend_74 (by decide) ?_
              obtain ⟨x22, h21, hE⟩ := fb_some hE
              refine pm_callV (As := [.int za, .int 2]) (rest := []) hG hR dX12_lend_75 (lkX12_110 _ rfl) okV_X12_its rfl rfl (c_X12_its (d := 2) (by decide) h21) rfl rfl hdd (Nat.le_refl _) (Nat.le_refl _) (by decide) (fx_ki ?_)
              refine pm_if_ge (tgt := 91) hG dX12_lend_78 rfl (fun c23 => ?_) (fun c23 => ?_)
              · replace c23 := Int32.not_lt.mpr c23
                replace hE := fx_f c23 hE
                refine pm_aloadn hG dX12_lend_91 rfl ?_
                refine pm_iconst (v := 3) hG dX12_lend_92 (by decide) ?_
                obtain ⟨r25, h24, hE⟩ := fb_some hE
                refine pm_callV (As := [.int 3]) (rest := []) hG hR dX12_lend_93 (lkX12_80 _ rfl) okV_X12_finds rfl rfl (c_X12_finds (d := 2) (by decide) h24) rfl rfl hdd (Nat.le_refl _) (Nat.le_refl _) (by decide) (fx_ki ?_)
                exact pm_iret hG hF dX12_lend_96 rfl (Nat.le_refl _) (Nat.le_refl _) (fx_rim hE)
              · replace c23 := Int32.not_le.mp c23
                replace hE := fx_t c23 hE
                refine pm_aloadn hG dX12_lend_81 rfl ?_
                refine pm_iloadn hG dX12_lend_82 rfl ?_
                refine pm_iconst (v := 1) hG dX12_lend_83 (by decide) ?_
                obtain ⟨x27, h26, hE⟩ := fb_some hE
                refine pm_callV (As := [.int za, .int 1]) (rest := []) hG hR dX12_lend_84 (lkX12_110 _ rfl) okV_X12_its rfl rfl (c_X12_its (d := 2) (by decide) h26) rfl rfl hdd (Nat.le_refl _) (Nat.le_refl _) (by decide) (fx_ki ?_)
                refine pm_iloadn hG dX12_lend_87 rfl ?_
                refine pm_icmp_ne (tgt := 97) hG dX12_lend_88 rfl (fun c28 => ?_) (fun c28 => ?_)
                · replace hE := fx_f c28 hE
                  refine pm_aloadn hG dX12_lend_97 rfl ?_
                  refine pm_iloadn hG dX12_lend_98 rfl ?_
                  refine pm_iconst (v := 2) hG dX12_lend_99 (by decide) ?_
                  refine pm_iloadn hG dX12_lend_100 rfl ?_
                  obtain ⟨r30, h29, hE⟩ := fb_some hE
                  refine pm_callV (As := [.int za, .int 2, .int zb]) (rest := []) hG hR dX12_lend_101 (lkX12_113 _ rfl) okV_X12_makes rfl rfl (c_X12_makes (d := 2) (by decide) h29) rfl rfl hdd (Nat.le_refl _) (Nat.le_refl _) (by decide) (fx_kv ?_)
                  refine pm_aloadn hG dX12_lend_104 rfl ?_
                  refine pm_iloadn hG dX12_lend_105 rfl ?_
                  refine pm_iconst (v := 3) hG dX12_lend_106 (by decide) ?_
                  refine pm_iloadn hG dX12_lend_107 rfl ?_
                  obtain ⟨r32, h31, hE⟩ := fb_some hE
                  refine pm_callV (As := [.int za, .int 3, .int zc]) (rest := []) hG hR dX12_lend_108 (lkX12_113 _ rfl) okV_X12_makes rfl rfl (c_X12_makes (d := 2) (by decide) h31) rfl rfl hdd (Nat.le_refl _) (Nat.le_refl _) (by decide) (fx_kv ?_)
                  refine pm_iconst (v := 1) hG dX12_lend_111 (by decide) ?_
                  exact pm_iret hG hF dX12_lend_112 rfl (Nat.le_refl _) (Nat.le_refl _) (fx_rim hE)
                · replace hE := fx_t c28 hE
                  refine pm_aloadn hG dX12_lend_91 rfl ?_
                  refine pm_iconst (v := 3) hG dX12_lend_92 (by decide) ?_
                  obtain ⟨r34, h33, hE⟩ := fb_some hE
                  refine pm_callV (As := [.int 3]) (rest := []) hG hR dX12_lend_93 (lkX12_80 _ rfl) okV_X12_finds rfl rfl (c_X12_finds (d := 2) (by decide) h33) rfl rfl hdd (Nat.le_refl _) (Nat.le_refl _) (by decide) (fx_ki ?_)
                  exact pm_iret hG hF dX12_lend_96 rfl (Nat.le_refl _) (Nat.le_refl _) (fx_rim hE)
          · replace hE := fx_f c15 hE
            refine pm_aloadn hG dX12_lend_57 rfl ?_
            refine pm_iconst (v := 5) hG dX12_lend_58 (by decide) ?_
            obtain ⟨r36, h35, hE⟩ := fb_some hE
            refine pm_callV (As := [.int 5]) (rest := []) hG hR dX12_lend_59 (lkX12_80 _ rfl) okV_X12_finds rfl rfl (c_X12_finds (d := 2) (by decide) h35) rfl rfl hdd (Nat.le_refl _) (Nat.le_refl _) (by decide) (fx_ki ?_)
            exact pm_iret hG hF dX12_lend_62 rfl (Nat.le_refl _) (Nat.le_refl _) (fx_rim hE)
        · replace hE := fx_t c12 hE
          refine pm_aloadn hG dX12_lend_41 rfl ?_
          refine pm_iconst (v := 1) hG dX12_lend_42 (by decide) ?_
          obtain ⟨r38, h37, hE⟩ := fb_some hE
          refine pm_callV (As := [.int 1]) (rest := []) hG hR dX12_lend_43 (lkX12_80 _ rfl) okV_X12_finds rfl rfl (c_X12_finds (d := 2) (by decide) h37) rfl rfl hdd (Nat.le_refl _) (Nat.le_refl _) (by decide) (fx_ki ?_)
          exact pm_iret hG hF dX12_lend_46 rfl (Nat.le_refl _) (Nat.le_refl _) (fx_rim hE)

set_option maxRecDepth 100000 in
set_option maxHeartbeats 4000000 in
theorem c_X12_letter {d : Nat} {B cnt : Nat} {σ : pm_S} {S : FS} {za : Int32} {zb : Int32} {R : Int32 × FS} (hdd : 3 ≤ d) (hE : f_X12_letter S za zb = some R) : pm_met mX12_letter d 0 0 B [.ref (B + 54), .int za, .int zb] cnt (mst B S σ) (pm_Qi (fun v σ' cnt' => v = R.1 ∧ σ' = (mst B R.2 σ) ∧ cnt' = cnt)) := by
  refine pm_enter 0 (by decide) (Nat.le_of_ble_eq_true rfl) rfl (fun G hG hR hF => ?_)
  unfold f_X12_letter at hE
  refine pm_aloadn hG dX12_letter_0 rfl ?_
  refine pm_iloadn hG dX12_letter_1 rfl ?_
  refine pm_callV (As := [.int za]) (rest := []) hG hR dX12_letter_2 (lkX12_211 _ rfl) okV_X12_isLetter rfl rfl (c_X12_isLetter (d := 2) (by decide) rfl) rfl rfl hdd (Nat.le_refl _) (Nat.le_refl _) (by decide) (fx_ki ?_)
  refine pm_if_eq (tgt := 27) hG dX12_letter_5 rfl (fun c1 => ?_) (fun c1 => ?_)
  · replace hE := fx_t c1 hE
    refine pm_aloadn hG dX12_letter_27 rfl ?_
    refine pm_iconst (v := 1) hG dX12_letter_28 (by decide) ?_
    obtain ⟨r3, h2, hE⟩ := fb_some hE
    refine pm_callV (As := [.int 1]) (rest := []) hG hR dX12_letter_29 (lkX12_80 _ rfl) okV_X12_finds rfl rfl (c_X12_finds (d := 2) (by decide) h2) rfl rfl hdd (Nat.le_refl _) (Nat.le_refl _) (by decide) (fx_ki ?_)
    exact pm_iret hG hF dX12_letter_32 rfl (Nat.le_refl _) (Nat.le_refl _) (fx_rim hE)
  · replace hE := fx_f c1 hE
    refine pm_iloadn hG dX12_letter_8 rfl ?_
    refine pm_iconst (v := 0) hG dX12_letter_9 (by decide) ?_
    refine pm_bipush (v := 9) hG dX12_letter_10 (by decide) ?_
    refine pm_callS (As := [.int zb, .int 0, .int 9]) (rest := []) hG hR dX12_letter_12 (lkX12_68 _ rfl) okS_X12_in (c_X12_in (d := 2) (by decide) rfl) rfl rfl hdd (Nat.le_refl _) (Nat.le_refl _) (by decide) (fx_ki ?_)
    refine pm_if_eq (tgt := 27) hG dX12_letter_15 rfl (fun c4 => ?_) (fun c4 => ?_)
    · replace hE := fx_t c4 hE
      refine pm_aloadn hG dX12_letter_27 rfl ?_
      refine pm_iconst (v := 1) hG dX12_letter_28 (by decide) ?_
      obtain ⟨r6, h5, hE⟩ := fb_some hE
      refine pm_callV (As := [.int 1]) (rest := []) hG hR dX12_letter_29 (lkX12_80 _ rfl) okV_X12_finds rfl rfl (c_X12_finds (d := 2) (by decide) h5) rfl rfl hdd (Nat.le_refl _) (Nat.le_refl _) (by decide) (fx_ki ?_)
      exact pm_iret hG hF dX12_letter_32 rfl (Nat.le_refl _) (Nat.le_refl _) (fx_rim hE)
    · replace hE := fx_f c4 hE
      refine pm_aloadn hG dX12_letter_18 rfl ?_
      refine pm_iloadn hG dX12_letter_19 rfl ?_
      refine pm_iloadn hG dX12_letter_20 rfl ?_
      obtain ⟨x8, h7, hE⟩ := fb_some hE
      refine pm_callV (As := [.int za, .int zb]) (rest := []) hG hR dX12_letter_21 (lkX12_199 _ rfl) okV_X12_of rfl rfl (c_X12_of (d := 2) (by decide) h7) rfl rfl hdd (Nat.le_refl _) (Nat.le_refl _) (by decide) (fx_ki ?_)
      refine pm_goto (tgt := 32) hG dX12_letter_24 rfl ?_
      exact pm_iret hG hF dX12_letter_32 rfl (Nat.le_refl _) (Nat.le_refl _) (fx_rim hE)

set_option maxRecDepth 100000 in
set_option maxHeartbeats 4000000 in
theorem c_X12_men {d : Nat} {B cnt : Nat} {σ : pm_S} {S : FS} {za : Int32} {zb : Int32} {R : Int32 × FS} (hdd : 3 ≤ d) (hE : f_X12_men S za zb = some R) : pm_met mX12_men d 0 0 B [.ref (B + 54), .int za, .int zb] cnt (mst B S σ) (pm_Qi (fun v σ' cnt' => v = R.1 ∧ σ' = (mst B R.2 σ) ∧ cnt' = cnt)) := by
  refine pm_enter 0 (by decide) (Nat.le_of_ble_eq_true rfl) rfl (fun G hG hR hF => ?_)
  unfold f_X12_men at hE
  refine pm_aloadn hG dX12_men_0 rfl ?_
  refine pm_iloadn hG dX12_men_1 rfl ?_
  refine pm_callV (As := [.int za]) (rest := []) hG hR dX12_men_2 (lkX12_91 _ rfl) okV_X12_isPerson rfl rfl (c_X12_isPerson (d := 2) (by decide) rfl) rfl rfl hdd (Nat.le_refl _) (Nat.le_refl _) (by decide) (fx_ki ?_)
  refine pm_if_eq (tgt := 19) hG dX12_men_5 rfl (fun c1 => ?_) (fun c1 => ?_)
  · replace hE := fx_t c1 hE
    refine pm_aloadn hG dX12_men_19 rfl ?_
    refine pm_iconst (v := 1) hG dX12_men_20 (by decide) ?_
    obtain ⟨r3, h2, hE⟩ := fb_some hE
    refine pm_callV (As := [.int 1]) (rest := []) hG hR dX12_men_21 (lkX12_80 _ rfl) okV_X12_finds rfl rfl (c_X12_finds (d := 2) (by decide) h2) rfl rfl hdd (Nat.le_refl _) (Nat.le_refl _) (by decide) (fx_ki ?_)
    exact pm_iret hG hF dX12_men_24 rfl (Nat.le_refl _) (Nat.le_refl _) (fx_rim hE)
  · replace hE := fx_f c1 hE
    refine pm_iloadn hG dX12_men_8 rfl ?_
    refine pm_bipush (v := (-99)) hG dX12_men_9 (by decide) ?_
    refine pm_bipush (v := 99) hG dX12_men_11 (by decide) ?_
    refine pm_callS (As := [.int zb, .int (-99), .int 99]) (rest := []) hG hR dX12_men_13 (lkX12_68 _ rfl) okS_X12_in (c_X12_in (d := 2) (by decide) rfl) rfl rfl hdd (Nat.le_refl _) (Nat.le_refl _) (by decide) (fx_ki ?_)
    refine pm_if_ne (tgt := 25) hG dX12_men_16 rfl (fun c4 => ?_) (fun c4 => ?_)
    · replace hE := fx_f c4 hE
      refine pm_aloadn hG dX12_men_25 rfl ?_
      refine pm_iloadn hG dX12_men_26 rfl ?_
      obtain ⟨x6, h5, hE⟩ := fb_some hE
      refine pm_callV (As := [.int za]) (rest := []) hG hR dX12_men_27 (lkX12_101 _ rfl) okV_X12_lives rfl rfl (c_X12_lives (d := 2) (by decide) h5) rfl rfl hdd (Nat.le_refl _) (Nat.le_refl _) (by decide) (fx_ki ?_)
      refine pm_if_ne (tgt := 39) hG dX12_men_30 rfl (fun c7 => ?_) (fun c7 => ?_)
      · replace hE := fx_f c7 hE
        refine pm_aloadn hG dX12_men_39 rfl ?_
        refine pm_iloadn hG dX12_men_40 rfl ?_
        refine pm_bipush (v := 8) hG dX12_men_41 (by decide) ?_
        obtain ⟨x9, h8, hE⟩ := fb_some hE
        refine pm_callV (As := [.int za, .int 8]) (rest := []) hG hR dX12_men_43 (lkX12_72 _ rfl) okV_X12_man rfl rfl (c_X12_man (d := 2) (by decide) h8) rfl rfl hdd (Nat.le_refl _) (Nat.le_refl _) (by decide) (fx_ki ?_)
        refine pm_iloadn hG dX12_men_46 rfl ?_
        refine pm_iadd hG dX12_men_47 ?_
        refine pm_iconst (v := 0) hG dX12_men_48 (by decide) ?_
        refine pm_sipush (v := 999) hG dX12_men_49 (by decide) ?_
        refine pm_callS (As := [.int (x9 + zb), .int 0, .int 999]) (rest := []) hG hR dX12_men_52 (lkX12_68 _ rfl) okS_X12_in (c_X12_in (d := 2) (by decide) rfl) rfl rfl hdd (Nat.le_refl _) (Nat.le_refl _) (by decide) (fx_ki ?_)
        refine pm_if_ne (tgt := 64) hG dX12_men_55 rfl (fun c10 => ?_) (fun c10 => ?_)
        · replace hE := fx_f c10 hE
          refine pm_aloadn hG dX12_men_64 rfl ?_
          refine pm_iloadn hG dX12_men_65 rfl ?_
          refine pm_bipush (v := 8) hG dX12_men_66 (by decide) ?_
          refine pm_aloadn hG dX12_men_68 rfl ?_
          refine pm_iloadn hG dX12_men_69 rfl ?_
          refine pm_bipush (v := 8) hG dX12_men_70 (by decide) ?_
          obtain ⟨x12, h11, hE⟩ := fb_some hE
          refine pm_callV (As := [.int za, .int 8]) (rest := [.int 8, .int za, .ref (B + 54)]) hG hR dX12_men_72 (lkX12_72 _ rfl) okV_X12_man rfl rfl (c_X12_man (d := 2) (by decide) h11) rfl rfl hdd (Nat.le_refl _) (Nat.le_refl _) (by first | decide | exact Nat.le_of_ble_eq_true rfl) (fx_ki ?_)
          refine pm_iloadn hG dX12_men_75 rfl ?_
          refine pm_iadd hG dX12_men_76 ?_
          obtain ⟨r14, h13, hE⟩ := fb_some hE
          refine pm_callV (As := [.int za, .int 8, .int (x12 + zb)]) (rest := []) hG hR dX12_men_77 (lkX12_97 _ rfl) okV_X12_sets rfl rfl (c_X12_sets (d := 2) (by decide) h13) rfl rfl hdd (Nat.le_refl _) (Nat.le_refl _) (by decide) (fx_kv ?_)
          refine pm_aloadn hG dX12_men_80 rfl ?_
          refine pm_iloadn hG dX12_men_81 rfl ?_
          refine pm_bipush (v := 8) hG dX12_men_82 (by decide) ?_
          obtain ⟨x16, h15, hE⟩ := fb_some hE
          refine pm_callV (As := [.int za, .int 8]) (rest := []) hG hR dX12_men_84 (lkX12_72 _ rfl) okV_X12_man rfl rfl (c_X12_man (d := 2) (by decide) h15) rfl rfl hdd (Nat.le_refl _) (Nat.le_refl _) (by decide) (fx_ki ?_)
          exact pm_iret hG hF dX12_men_87 rfl (Nat.le_refl _) (Nat.le_refl _) (fx_rim hE)
        · replace hE := fx_t c10 hE
          refine pm_aloadn hG dX12_men_58 rfl ?_
          refine pm_iconst (v := 1) hG dX12_men_59 (by decide) ?_
          obtain ⟨r18, h17, hE⟩ := fb_some hE
          refine pm_callV (As := [.int 1]) (rest := []) hG hR dX12_men_60 (lkX12_80 _ rfl) okV_X12_finds rfl rfl (c_X12_finds (d := 2) (by decide) h17) rfl rfl hdd (Nat.le_refl _) (Nat.le_refl _) (by decide) (fx_ki ?_)
          exact pm_iret hG hF dX12_men_63 rfl (Nat.le_refl _) (Nat.le_refl _) (fx_rim hE)
      · replace hE := fx_t c7 hE
        refine pm_aloadn hG dX12_men_33 rfl ?_
        refine pm_iconst (v := 3) hG dX12_men_34 (by decide) ?_
        obtain ⟨r20, h19, hE⟩ := fb_some hE
        refine pm_callV (As := [.int 3]) (rest := []) hG hR dX12_men_35 (lkX12_80 _ rfl) okV_X12_finds rfl rfl (c_X12_finds (d := 2) (by decide) h19) rfl rfl hdd (Nat.le_refl _) (Nat.le_refl _) (by decide) (fx_ki ?_)
        exact pm_iret hG hF dX12_men_38 rfl (Nat.le_refl _) (Nat.le_refl _) (fx_rim hE)
    · replace hE := fx_t c4 hE
      refine pm_aloadn hG dX12_men_19 rfl ?_
      refine pm_iconst (v := 1) hG dX12_men_20 (by decide) ?_
      obtain ⟨r22, h21, hE⟩ := fb_some hE
      refine pm_callV (As := [.int 1]) (rest := []) hG hR dX12_men_21 (lkX12_80 _ rfl) okV_X12_finds rfl rfl (c_X12_finds (d := 2) (by decide) h21) rfl rfl hdd (Nat.le_refl _) (Nat.le_refl _) (by decide) (fx_ki ?_)
      exact pm_iret hG hF dX12_men_24 rfl (Nat.le_refl _) (Nat.le_refl _) (fx_rim hE)

set_option maxRecDepth 100000 in
set_option maxHeartbeats 4000000 in
theorem c_X12_move {d : Nat} {B cnt : Nat} {σ : pm_S} {S : FS} {za : Int32} {zb : Int32} {zc : Int32} {zd : Int32} {ze : Int32} {R : Int32 × FS} (hdd : 3 ≤ d) (hE : f_X12_move S za zb zc zd ze = some R) : pm_met mX12_move d 0 0 B [.ref (B + 54), .int za, .int zb, .int zc, .int zd, .int ze] cnt (mst B S σ) (pm_Qi (fun v σ' cnt' => v = R.1 ∧ σ' = (mst B R.2 σ) ∧ cnt' = cnt)) := by
  refine pm_enter 1 (by decide) (Nat.le_of_ble_eq_true rfl) rfl (fun G hG hR hF => ?_)
  unfold f_X12_move at hE
  refine pm_iloadn hG dX12_move_0 rfl ?_
  refine pm_callS (As := [.int za]) (rest := []) hG hR dX12_move_1 (lkX12_239 _ rfl) okS_X12_isSheet (c_X12_isSheet (d := 2) (by decide) rfl) rfl rfl hdd (Nat.le_refl _) (Nat.le_refl _) (by decide) (fx_ki ?_)
  refine pm_if_eq (tgt := 14) hG dX12_move_4 rfl (fun c1 => ?_) (fun c1 => ?_)
  · replace hE := fx_t c1 hE
    refine pm_aloadn hG dX12_move_14 rfl ?_
    refine pm_iconst (v := 1) hG dX12_move_15 (by decide) ?_
    obtain ⟨r3, h2, hE⟩ := fb_some hE
    refine pm_callV (As := [.int 1]) (rest := []) hG hR dX12_move_16 (lkX12_80 _ rfl) okV_X12_finds rfl rfl (c_X12_finds (d := 2) (by decide) h2) rfl rfl hdd (Nat.le_refl _) (Nat.le_refl _) (by decide) (fx_ki ?_)
    exact pm_iret hG hF dX12_move_19 rfl (Nat.le_refl _) (Nat.le_refl _) (fx_rim hE)
  · replace hE := fx_f c1 hE
    refine pm_iloadn hG dX12_move_7 rfl ?_
    refine pm_callS (As := [.int zc]) (rest := []) hG hR dX12_move_8 (lkX12_239 _ rfl) okS_X12_isSheet (c_X12_isSheet (d := 2) (by decide) rfl) rfl rfl hdd (Nat.le_refl _) (Nat.le_refl _) (by decide) (fx_ki ?_)
    refine pm_if_ne (tgt := 20) hG dX12_move_11 rfl (fun c4 => ?_) (fun c4 => ?_)
    · replace hE := fx_f c4 hE
      refine pm_aloadn hG dX12_move_20 rfl ?_
      refine pm_getf hG dX12_move_21 (flX12_55 _ rfl) rfl rfl ?_
      refine pm_iloadn hG dX12_move_24 rfl ?_
      obtain ⟨j5, hj5, hE⟩ := fb_some hE
      refine fx_iald hG dX12_move_25 rfl hj5 ?_
      refine pm_if_eq (tgt := 38) hG dX12_move_26 rfl (fun c6 => ?_) (fun c6 => ?_)
      · replace hE := fx_t c6 hE
        refine pm_aloadn hG dX12_move_38 rfl ?_
        refine pm_iconst (v := 2) hG dX12_move_39 (by decide) ?_
        obtain ⟨r8, h7, hE⟩ := fb_some hE
        refine pm_callV (As := [.int 2]) (rest := []) hG hR dX12_move_40 (lkX12_80 _ rfl) okV_X12_finds rfl rfl (c_X12_finds (d := 2) (by decide) h7) rfl rfl hdd (Nat.le_refl _) (Nat.le_refl _) (by decide) (fx_ki ?_)
        exact pm_iret hG hF dX12_move_43 rfl (Nat.le_refl _) (Nat.le_refl _) (fx_rim hE)
      · replace hE := fx_f c6 hE
        refine pm_aloadn hG dX12_move_29 rfl ?_
        refine pm_getf hG dX12_move_30 (flX12_55 _ rfl) rfl rfl ?_
        refine pm_iloadn hG dX12_move_33 rfl ?_
        obtain ⟨j9, hj9, hE⟩ := fb_some hE
        refine fx_iald hG dX12_move_34 rfl hj9 ?_
        refine pm_if_ne (tgt := 44) hG dX12_move_35 rfl (fun c10 => ?_) (fun c10 => ?_)
        · replace hE := fx_f c10 hE
          refine pm_aloadn hG dX12_move_44 rfl ?_
          refine pm_getf hG dX12_move_45 (flX12_55 _ rfl) rfl rfl ?_
          refine pm_iloadn hG dX12_move_48 rfl ?_
          refine fx_iald hG dX12_move_49 rfl hj5 ?_
          refine pm_aloadn hG dX12_move_50 rfl ?_
          refine pm_getf hG dX12_move_51 (flX12_55 _ rfl) rfl rfl ?_
          refine pm_iloadn hG dX12_move_54 rfl ?_
          refine fx_iald hG dX12_move_55 rfl hj9 ?_
          refine pm_icmp_eq (tgt := 65) hG dX12_move_56 rfl (fun c11 => ?_) (fun c11 => ?_)
          · replace hE := fx_t c11 hE
            refine pm_iloadi hG dX12_move_65 rfl ?_
            refine pm_if_lt (tgt := 114) hG dX12_move_67 rfl (fun c12 => ?_) (fun c12 => ?_)
            · replace hE := fx_t c12 hE
              refine pm_aloadn hG dX12_move_114 rfl ?_
              refine pm_iconst (v := 1) hG dX12_move_115 (by decide) ?_
              obtain ⟨r14, h13, hE⟩ := fb_some hE
              refine pm_callV (As := [.int 1]) (rest := []) hG hR dX12_move_116 (lkX12_80 _ rfl) okV_X12_finds rfl rfl (c_X12_finds (d := 2) (by decide) h13) rfl rfl hdd (Nat.le_refl _) (Nat.le_refl _) (by decide) (fx_ki ?_)
              exact pm_iret hG hF dX12_move_119 rfl (Nat.le_refl _) (Nat.le_refl _) (fx_rim hE)
            · replace hE := fx_f c12 hE
              refine pm_iloadn hG dX12_move_70 rfl ?_
              refine pm_if_lt (tgt := 114) hG dX12_move_71 rfl (fun c15 => ?_) (fun c15 => ?_)
              · replace hE := fx_t c15 hE
                refine pm_aloadn hG dX12_move_114 rfl ?_
                refine pm_iconst (v := 1) hG dX12_move_115 (by decide) ?_
                obtain ⟨r17, h16, hE⟩ := fb_some hE
                refine pm_callV (As := [.int 1]) (rest := []) hG hR dX12_move_116 (lkX12_80 _ rfl) okV_X12_finds rfl rfl (c_X12_finds (d := 2) (by decide) h16) rfl rfl hdd (Nat.le_refl _) (Nat.le_refl _) (by decide) (fx_ki ?_)
                exact pm_iret hG hF dX12_move_119 rfl (Nat.le_refl _) (Nat.le_refl _) (fx_rim hE)
              · replace hE := fx_f c15 hE
                refine pm_iloadi hG dX12_move_74 rfl ?_
                refine pm_if_lt (tgt := 114) hG dX12_move_76 rfl (fun c18 => ?_) (fun c18 => ?_)
                · replace hE := fx_t c18 hE
                  refine pm_aloadn hG dX12_move_114 rfl ?_
                  refine pm_iconst (v := 1) hG dX12_move_115 (by decide) ?_
                  obtain ⟨r20, h19, hE⟩ := fb_some hE
                  refine pm_callV (As := [.int 1]) (rest := []) hG hR dX12_move_116 (lkX12_80 _ rfl) okV_X12_finds rfl rfl (c_X12_finds (d := 2) (by decide) h19) rfl rfl hdd (Nat.le_refl _) (Nat.le_refl _) (by decide) (fx_ki ?_)
                  exact pm_iret hG hF dX12_move_119 rfl (Nat.le_refl _) (Nat.le_refl _) (fx_rim hE)
                · replace hE := fx_f c18 hE
                  refine pm_iloadn hG dX12_move_79 rfl ?_
                  refine pm_i2l hG dX12_move_80 rfl ?_
                  refine pm_iloadi hG dX12_move_81 rfl ?_
                  refine pm_i2l hG dX12_move_83 rfl ?_
                  refine pm_ladd hG dX12_move_84 ?_
                  refine pm_aloadn hG dX12_move_85 rfl ?_
                  refine pm_getf hG dX12_move_86 (flX12_58 _ rfl) rfl rfl ?_
                  refine pm_iloadn hG dX12_move_89 rfl ?_
                  refine fx_iald hG dX12_move_90 rfl hj5 ?_
                  refine pm_i2l hG dX12_move_91 rfl ?_
                  refine pm_lcmp hG dX12_move_92 ?_
                  refine pm_if_gt (tgt := 114) hG dX12_move_93 rfl (fun c21 => ?_) (fun c21 => ?_)
                  · replace hE := fx_t c21 hE
                    refine pm_aloadn hG dX12_move_114 rfl ?_
                    refine pm_iconst (v := 1) hG dX12_move_115 (by decide) ?_
                    obtain ⟨r23, h22, hE⟩ := fb_some hE
                    refine pm_callV (As := [.int 1]) (rest := []) hG hR dX12_move_116 (lkX12_80 _ rfl) okV_X12_finds rfl rfl (c_X12_finds (d := 2) (by decide) h22) rfl rfl hdd (Nat.le_refl _) (Nat.le_refl _) (by decide) (fx_ki ?_)
                    exact pm_iret hG hF dX12_move_119 rfl (Nat.le_refl _) (Nat.le_refl _) (fx_rim hE)
                  · replace hE := fx_f c21 hE
                    refine pm_iloadi hG dX12_move_96 rfl ?_
                    refine pm_i2l hG dX12_move_98 rfl ?_
                    refine pm_iloadi hG dX12_move_99 rfl ?_
                    refine pm_i2l hG dX12_move_101 rfl ?_
                    refine pm_ladd hG dX12_move_102 ?_
                    refine pm_aloadn hG dX12_move_103 rfl ?_
                    refine pm_getf hG dX12_move_104 (flX12_58 _ rfl) rfl rfl ?_
                    refine pm_iloadn hG dX12_move_107 rfl ?_
                    refine fx_iald hG dX12_move_108 rfl hj9 ?_
                    refine pm_i2l hG dX12_move_109 rfl ?_
                    refine pm_lcmp hG dX12_move_110 ?_
                    refine pm_if_le (tgt := 120) hG dX12_move_111 rfl (fun c24 => ?_) (fun c24 => ?_)
                    · replace c24 := Int32.not_lt.mpr c24
                      replace hE := fx_f c24 hE
                      refine pm_iconst (v := 0) hG dX12_move_120 (by decide) ?_
                      refine pm_istoreXi (loc' := [some (.ref (B + 54)), some (.int za), some (.int zb), some (.int zc), some (.int zd), some (.int ze), some (.int 0)]) hG dX12_move_121 (by decide) (pm_c1b rfl) rfl ?_
                      have loop123 : ∀ (k123 : FS → Int32 → Option (Int32 × FS)), (∀ (S25 : FS) (x25_6 : Int32), k123 S25  x25_6 = some R → pm_wp mX12_move G B 157 [some (.ref (B + 54)), some (.int za), some (.int zb), some (.int zc), some (.int zd), some (.int ze), some (.int x25_6)] [] 0 0 cnt (mst B S25 σ)) → ∀ (m123 : Nat) (S25 : FS) (x25_6 : Int32), l_X12_move_123 za zb ze k123 m123 S25  x25_6 = some R → pm_wp mX12_move G B 123 [some (.ref (B + 54)), some (.int za), some (.int zb), some (.int zc), some (.int zd), some (.int ze), some (.int x25_6)] [] 0 0 cnt (mst B S25 σ) := by
                        intro k123 hk123 m123
                        induction m123 with
                        | zero => intro S25  x25_6 hE; exact fx_no hE
                        | succ m123 ih123 =>
                          intro S25  x25_6 hE
                          rw [l_X12_move_123] at hE
                          refine pm_iloadi hG dX12_move_123 rfl ?_
                          refine pm_iloadi hG dX12_move_125 rfl ?_
                          refine pm_icmp_ge (tgt := 157) hG dX12_move_127 rfl (fun c26 => ?_) (fun c26 => ?_)
                          · replace c26 := Int32.not_lt.mpr c26
                            replace hE := fx_f c26 hE
                            exact hk123 _ _ hE
                          · replace c26 := Int32.not_le.mp c26
                            replace hE := fx_t c26 hE
                            refine pm_aloadn hG dX12_move_130 rfl ?_
                            refine pm_getf hG dX12_move_131 (flX12_64 _ rfl) rfl rfl ?_
                            refine pm_iloadi hG dX12_move_134 rfl ?_
                            refine pm_aloadn hG dX12_move_136 rfl ?_
                            refine pm_getf hG dX12_move_137 (flX12_61 _ rfl) rfl rfl ?_
                            refine pm_bipush (v := 24) hG dX12_move_140 (by decide) ?_
                            refine pm_iloadn hG dX12_move_142 rfl ?_
                            refine pm_imul hG dX12_move_143 ?_
                            refine pm_iloadn hG dX12_move_144 rfl ?_
                            refine pm_iadd hG dX12_move_145 ?_
                            refine pm_iloadi hG dX12_move_146 rfl ?_
                            refine pm_iadd hG dX12_move_148 ?_
                            obtain ⟨j27, hj27, hE⟩ := fb_some hE
                            refine fx_iald hG dX12_move_149 rfl hj27 ?_
                            obtain ⟨j28, hj28, hE⟩ := fb_some hE
                            refine fx_iast hG dX12_move_150 rfl hj28 ?_
                            refine ma_73 ?_
                            refine fx_letm hE (fun S29 hE => ?_)
                            refine pm_iincX (v := x25_6 + 1) (loc' := [some (.ref (B + 54)), some (.int za), some (.int zb), some (.int zc), some (.int zd), some (.int ze), some (.int (x25_6 + 1))]) hG dX12_move_151 rfl (by rfl) (by decide) (pm_c1b rfl) rfl ?_
                            refine pm_goto (tgt := 123) hG dX12_move_154 rfl ?_
                            exact ih123 _ _ hE
                      refine loop123 _ (fun S30 x30_6 hE => ?_) _ _ _ hE
                      refine pm_iconst (v := 0) hG dX12_move_157 (by decide) ?_
                      refine pm_istoreXi (loc' := [some (.ref (B + 54)), some (.int za), some (.int zb), some (.int zc), some (.int zd), some (.int ze), some (.int 0)]) hG dX12_move_158 (by decide) (pm_c1b rfl) rfl ?_
                      have loop160 : ∀ (k160 : FS → Int32 → Option (Int32 × FS)), (∀ (S31 : FS) (x31_6 : Int32), k160 S31  x31_6 = some R → pm_wp mX12_move G B 195 [some (.ref (B + 54)), some (.int za), some (.int zb), some (.int zc), some (.int zd), some (.int ze), some (.int x31_6)] [] 0 0 cnt (mst B S31 σ)) → ∀ (m160 : Nat) (S31 : FS) (x31_6 : Int32), l_X12_move_160 zc zd ze k160 m160 S31  x31_6 = some R → pm_wp mX12_move G B 160 [some (.ref (B + 54)), some (.int za), some (.int zb), some (.int zc), some (.int zd), some (.int ze), some (.int x31_6)] [] 0 0 cnt (mst B S31 σ) := by
                        intro k160 hk160 m160
                        induction m160 with
                        | zero => intro S31  x31_6 hE; exact fx_no hE
                        | succ m160 ih160 =>
                          intro S31  x31_6 hE
                          rw [l_X12_move_160] at hE
                          refine pm_iloadi hG dX12_move_160 rfl ?_
                          refine pm_iloadi hG dX12_move_162 rfl ?_
                          refine pm_icmp_ge (tgt := 195) hG dX12_move_164 rfl (fun c32 => ?_) (fun c32 => ?_)
                          · replace c32 := Int32.not_lt.mpr c32
                            replace hE := fx_f c32 hE
                            exact hk160 _ _ hE
                          · replace c32 := Int32.not_le.mp c32
                            replace hE := fx_t c32 hE
                            refine pm_aloadn hG dX12_move_167 rfl ?_
                            refine pm_getf hG dX12_move_168 (flX12_61 _ rfl) rfl rfl ?_
                            refine pm_bipush (v := 24) hG dX12_move_171 (by decide) ?_
                            refine pm_iloadn hG dX12_move_173 rfl ?_
                            refine pm_imul hG dX12_move_174 ?_
                            refine pm_iloadi hG dX12_move_175 rfl ?_
                            refine pm_iadd hG dX12_move_177 ?_
                            refine pm_iloadi hG dX12_move_178 rfl ?_
                            refine pm_iadd hG dX12_move_180 ?_
                            refine pm_aloadn hG dX12_move_181 rfl ?_
                            refine pm_getf hG dX12_move_182 (flX12_64 _ rfl) rfl rfl ?_
                            refine pm_iloadi hG dX12_move_185 rfl ?_
                            obtain ⟨j33, hj33, hE⟩ := fb_some hE
                            refine fx_iald hG dX12_move_187 rfl hj33 ?_
                            obtain ⟨j34, hj34, hE⟩ := fb_some hE
                            refine fx_iast hG dX12_move_188 rfl hj34 ?_
                            refine ma_72 ?_
                            refine fx_letm hE (fun S35 hE => ?_)
                            refine pm_iincX (v := x31_6 + 1) (loc' := [some (.ref (B + 54)), some (.int za), some (.int zb), some (.int zc), some (.int zd), some (.int ze), some (.int (x31_6 + 1))]) hG dX12_move_189 rfl (by rfl) (by decide) (pm_c1b rfl) rfl ?_
                            refine pm_goto (tgt := 160) hG dX12_move_192 rfl ?_
                            exact ih160 _ _ hE
                      refine loop160 _ (fun S36 x36_6 hE => ?_) _ _ _ hE
                      refine pm_iloadi hG dX12_move_195 rfl ?_
                      exact pm_iret hG hF dX12_move_197 rfl (Nat.le_refl _) (Nat.le_refl _) (fx_rim hE)
                    · replace c24 := Int32.not_le.mp c24
                      replace hE := fx_t c24 hE
                      refine pm_aloadn hG dX12_move_114 rfl ?_
                      refine pm_iconst (v := 1) hG dX12_move_115 (by decide) ?_
                      obtain ⟨r38, h37, hE⟩ := fb_some hE
                      refine pm_callV (As := [.int 1]) (rest := []) hG hR dX12_move_116 (lkX12_80 _ rfl) okV_X12_finds rfl rfl (c_X12_finds (d := 2) (by decide) h37) rfl rfl hdd (Nat.le_refl _) (Nat.le_refl _) (by decide) (fx_ki ?_)
                      exact pm_iret hG hF dX12_move_119 rfl (Nat.le_refl _) (Nat.le_refl _) (fx_rim hE)
          · replace hE := fx_f c11 hE
            refine pm_aloadn hG dX12_move_59 rfl ?_
            refine pm_iconst (v := 5) hG dX12_move_60 (by decide) ?_
            obtain ⟨r40, h39, hE⟩ := fb_some hE
            refine pm_callV (As := [.int 5]) (rest := []) hG hR dX12_move_61 (lkX12_80 _ rfl) okV_X12_finds rfl rfl (c_X12_finds (d := 2) (by decide) h39) rfl rfl hdd (Nat.le_refl _) (Nat.le_refl _) (by decide) (fx_ki ?_)
            exact pm_iret hG hF dX12_move_64 rfl (Nat.le_refl _) (Nat.le_refl _) (fx_rim hE)
        · replace hE := fx_t c10 hE
          refine pm_aloadn hG dX12_move_38 rfl ?_
          refine pm_iconst (v := 2) hG dX12_move_39 (by decide) ?_
          obtain ⟨r42, h41, hE⟩ := fb_some hE
          refine pm_callV (As := [.int 2]) (rest := []) hG hR dX12_move_40 (lkX12_80 _ rfl) okV_X12_finds rfl rfl (c_X12_finds (d := 2) (by decide) h41) rfl rfl hdd (Nat.le_refl _) (Nat.le_refl _) (by decide) (fx_ki ?_)
          exact pm_iret hG hF dX12_move_43 rfl (Nat.le_refl _) (Nat.le_refl _) (fx_rim hE)
    · replace hE := fx_t c4 hE
      refine pm_aloadn hG dX12_move_14 rfl ?_
      refine pm_iconst (v := 1) hG dX12_move_15 (by decide) ?_
      obtain ⟨r44, h43, hE⟩ := fb_some hE
      refine pm_callV (As := [.int 1]) (rest := []) hG hR dX12_move_16 (lkX12_80 _ rfl) okV_X12_finds rfl rfl (c_X12_finds (d := 2) (by decide) h43) rfl rfl hdd (Nat.le_refl _) (Nat.le_refl _) (by decide) (fx_ki ?_)
      exact pm_iret hG hF dX12_move_19 rfl (Nat.le_refl _) (Nat.le_refl _) (fx_rim hE)
