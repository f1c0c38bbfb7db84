set_option maxRecDepth 100000 in
set_option maxHeartbeats 4000000 in
theorem c_X12_price {d : Nat} {B cnt : Nat} {σ : pm_S} {S : FS} {za : Int32} {zb : Int32} {R : Int32 × FS} (hdd : 3 ≤ d) (hE : f_X12_price S za zb = some R) : pm_met mX12_price d 0 0 B [.ref (B + 54), .int za, .int zb] cnt (mst B S σ) (pm_Qi (fun v σ' cnt' => v = R.1 ∧ σ' = (mst B R.2 σ) ∧ cnt' = cnt)) := by
  refine pm_enter 1 (by decide) (Nat.le_of_ble_eq_true rfl) rfl (fun G hG hR hF => ?_)
  unfold f_X12_price at hE
  refine pm_aloadn hG dX12_price_0 rfl ?_
  refine pm_iloadn hG dX12_price_1 rfl ?_
  refine pm_callV (As := [.int za]) (rest := []) hG hR dX12_price_2 (lkX12_91 _ rfl) okV_X12_isPerson rfl rfl (c_X12_isPerson (d := 2) (by decide) rfl) rfl rfl hdd (Nat.le_refl _) (Nat.le_refl _) (by decide) (fx_ki ?_)
  refine pm_if_eq (tgt := 19) hG dX12_price_5 rfl (fun c1 => ?_) (fun c1 => ?_)
  · replace hE := fx_t c1 hE
    refine pm_aloadn hG dX12_price_19 rfl ?_
    refine pm_iconst (v := 1) hG dX12_price_20 (by decide) ?_
    obtain ⟨r3, h2, hE⟩ := fb_some hE
    refine pm_callV (As := [.int 1]) (rest := []) hG hR dX12_price_21 (lkX12_80 _ rfl) okV_X12_finds rfl rfl (c_X12_finds (d := 2) (by decide) h2) rfl rfl hdd (Nat.le_refl _) (Nat.le_refl _) (by decide) (fx_ki ?_)
    exact pm_iret hG hF dX12_price_24 rfl (Nat.le_refl _) (Nat.le_refl _) (fx_rim hE)
  · replace hE := fx_f c1 hE
    refine pm_iloadn hG dX12_price_8 rfl ?_
    refine pm_iconst (v := 1) hG dX12_price_9 (by decide) ?_
    refine pm_sipush (v := 999) hG dX12_price_10 (by decide) ?_
    refine pm_callS (As := [.int zb, .int 1, .int 999]) (rest := []) hG hR dX12_price_13 (lkX12_68 _ rfl) okS_X12_in (c_X12_in (d := 2) (by decide) rfl) rfl rfl hdd (Nat.le_refl _) (Nat.le_refl _) (by decide) (fx_ki ?_)
    refine pm_if_ne (tgt := 25) hG dX12_price_16 rfl (fun c4 => ?_) (fun c4 => ?_)
    · replace hE := fx_f c4 hE
      refine pm_aloadn hG dX12_price_25 rfl ?_
      refine pm_iloadn hG dX12_price_26 rfl ?_
      refine pm_bipush (v := 12) hG dX12_price_27 (by decide) ?_
      obtain ⟨x6, h5, hE⟩ := fb_some hE
      refine pm_callV (As := [.int za, .int 12]) (rest := []) hG hR dX12_price_29 (lkX12_72 _ rfl) okV_X12_man rfl rfl (c_X12_man (d := 2) (by decide) h5) rfl rfl hdd (Nat.le_refl _) (Nat.le_refl _) (by decide) (fx_ki ?_)
      refine pm_istoreXn (loc' := [some (.ref (B + 54)), some (.int za), some (.int zb), some (.int x6)]) hG dX12_price_32 (by decide) (pm_c1b rfl) rfl ?_
      refine pm_aloadn hG dX12_price_33 rfl ?_
      refine pm_iloadn hG dX12_price_34 rfl ?_
      refine pm_bipush (v := 12) hG dX12_price_35 (by decide) ?_
      refine pm_iloadn hG dX12_price_37 rfl ?_
      obtain ⟨r8, h7, hE⟩ := fb_some hE
      refine pm_callV (As := [.int za, .int 12, .int zb]) (rest := []) hG hR dX12_price_38 (lkX12_97 _ rfl) okV_X12_sets rfl rfl (c_X12_sets (d := 2) (by decide) h7) rfl rfl hdd (Nat.le_refl _) (Nat.le_refl _) (by decide) (fx_kv ?_)
      refine pm_iloadn hG dX12_price_41 rfl ?_
      exact pm_iret hG hF dX12_price_42 rfl (Nat.le_refl _) (Nat.le_refl _) (fx_rim hE)
    · replace hE := fx_t c4 hE
      refine pm_aloadn hG dX12_price_19 rfl ?_
      refine pm_iconst (v := 1) hG dX12_price_20 (by decide) ?_
      obtain ⟨r10, h9, hE⟩ := fb_some hE
      refine pm_callV (As := [.int 1]) (rest := []) hG hR dX12_price_21 (lkX12_80 _ rfl) okV_X12_finds rfl rfl (c_X12_finds (d := 2) (by decide) h9) rfl rfl hdd (Nat.le_refl _) (Nat.le_refl _) (by decide) (fx_ki ?_)
      exact pm_iret hG hF dX12_price_24 rfl (Nat.le_refl _) (Nat.le_refl _) (fx_rim hE)

set_option maxRecDepth 100000 in
set_option maxHeartbeats 4000000 in
theorem c_X12_promise {d : Nat} {B cnt : Nat} {σ : pm_S} {S : FS} {za : Int32} {zb : Int32} {zc : Int32} {zd : Int32} {R : Int32 × FS} (hdd : 3 ≤ d) (hE : f_X12_promise S za zb zc zd = some R) : pm_met mX12_promise d 0 0 B [.ref (B + 54), .int za, .int zb, .int zc, .int zd] cnt (mst B S σ) (pm_Qi (fun v σ' cnt' => v = R.1 ∧ σ' = (mst B R.2 σ) ∧ cnt' = cnt)) := by
  refine pm_enter 2 (by decide) (Nat.le_of_ble_eq_true rfl) rfl (fun G hG hR hF => ?_)
  unfold f_X12_promise at hE
  refine pm_aloadn hG dX12_promise_0 rfl ?_
  refine pm_iloadn hG dX12_promise_1 rfl ?_
  refine pm_callV (As := [.int za]) (rest := []) hG hR dX12_promise_2 (lkX12_91 _ rfl) okV_X12_isPerson rfl rfl (c_X12_isPerson (d := 2) (by decide) rfl) rfl rfl hdd (Nat.le_refl _) (Nat.le_refl _) (by decide) (fx_ki ?_)
  refine pm_if_eq (tgt := 34) hG dX12_promise_5 rfl (fun c1 => ?_) (fun c1 => ?_)
  · replace hE := fx_t c1 hE
    refine pm_aloadn hG dX12_promise_34 rfl ?_
    refine pm_iconst (v := 1) hG dX12_promise_35 (by decide) ?_
    obtain ⟨r3, h2, hE⟩ := fb_some hE
    refine pm_callV (As := [.int 1]) (rest := []) hG hR dX12_promise_36 (lkX12_80 _ rfl) okV_X12_finds rfl rfl (c_X12_finds (d := 2) (by decide) h2) rfl rfl hdd (Nat.le_refl _) (Nat.le_refl _) (by decide) (fx_ki ?_)
    exact pm_iret hG hF dX12_promise_39 rfl (Nat.le_refl _) (Nat.le_refl _) (fx_rim hE)
  · replace hE := fx_f c1 hE
    refine pm_iloadn hG dX12_promise_8 rfl ?_
    refine pm_iconst (v := 0) hG dX12_promise_9 (by decide) ?_
    refine pm_iconst (v := 5) hG dX12_promise_10 (by decide) ?_
    refine pm_callS (As := [.int zb, .int 0, .int 5]) (rest := []) hG hR dX12_promise_11 (lkX12_68 _ rfl) okS_X12_in (c_X12_in (d := 2) (by decide) rfl) rfl rfl hdd (Nat.le_refl _) (Nat.le_refl _) (by decide) (fx_ki ?_)
    refine pm_if_eq (tgt := 34) hG dX12_promise_14 rfl (fun c4 => ?_) (fun c4 => ?_)
    · replace hE := fx_t c4 hE
      refine pm_aloadn hG dX12_promise_34 rfl ?_
      refine pm_iconst (v := 1) hG dX12_promise_35 (by decide) ?_
      obtain ⟨r6, h5, hE⟩ := fb_some hE
      refine pm_callV (As := [.int 1]) (rest := []) hG hR dX12_promise_36 (lkX12_80 _ rfl) okV_X12_finds rfl rfl (c_X12_finds (d := 2) (by decide) h5) rfl rfl hdd (Nat.le_refl _) (Nat.le_refl _) (by decide) (fx_ki ?_)
      exact pm_iret hG hF dX12_promise_39 rfl (Nat.le_refl _) (Nat.le_refl _) (fx_rim hE)
    · replace hE := fx_f c4 hE
      refine pm_iloadn hG dX12_promise_17 rfl ?_
      refine pm_aloadn hG dX12_promise_18 rfl ?_
      refine pm_getf hG dX12_promise_19 (flX12_7 _ rfl) rfl rfl ?_
      refine pm_bipush (v := 8) hG dX12_promise_22 (by decide) ?_
      refine fx_iald hG dX12_promise_24 rfl (ix_lit (by decide) rfl) ?_
      refine pm_sipush (v := 2000) hG dX12_promise_25 (by decide) ?_
      refine pm_callS (As := [.int zc, .int (S.2 55 8), .int 2000]) (rest := []) hG hR dX12_promise_28 (lkX12_68 _ rfl) okS_X12_in (c_X12_in (d := 2) (by decide) rfl) rfl rfl hdd (Nat.le_refl _) (Nat.le_refl _) (by decide) (fx_ki ?_)
      refine pm_if_ne (tgt := 40) hG dX12_promise_31 rfl (fun c7 => ?_) (fun c7 => ?_)
      · replace hE := fx_f c7 hE
        refine pm_aloadn hG dX12_promise_40 rfl ?_
        refine pm_iloadn hG dX12_promise_41 rfl ?_
        refine pm_bipush (v := 11) hG dX12_promise_42 (by decide) ?_
        obtain ⟨x9, h8, hE⟩ := fb_some hE
        refine pm_callV (As := [.int za, .int 11]) (rest := []) hG hR dX12_promise_44 (lkX12_72 _ rfl) okV_X12_man rfl rfl (c_X12_man (d := 2) (by decide) h8) rfl rfl hdd (Nat.le_refl _) (Nat.le_refl _) (by decide) (fx_ki ?_)
        refine pm_if_ne (tgt := 56) hG dX12_promise_47 rfl (fun c10 => ?_) (fun c10 => ?_)
        · replace hE := fx_f c10 hE
          refine pm_aloadn hG dX12_promise_56 rfl ?_
          refine pm_getf hG dX12_promise_57 (flX12_7 _ rfl) rfl rfl ?_
          refine pm_bipush (v := 7) hG dX12_promise_60 (by decide) ?_
          refine fx_iald hG dX12_promise_62 rfl (ix_lit (by decide) rfl) ?_
          refine fx_letv hE (fun x11 hE => ?_)
          refine pm_istoreXi (loc' := [some (.ref (B + 54)), some (.int za), some (.int zb), some (.int zc), some (.int zd), some (.int x11), none]) hG dX12_promise_63 (by decide) (pm_c1b rfl) rfl ?_
          refine pm_iloadi hG dX12_promise_65 rfl ?_
          refine pm_bipush (v := 30) hG dX12_promise_67 (by decide) ?_
          refine pm_icmp_ne (tgt := 78) hG dX12_promise_69 rfl (fun c12 => ?_) (fun c12 => ?_)
          · replace hE := fx_f c12 hE
            refine pm_iconst (v := 0) hG dX12_promise_78 (by decide) ?_
            refine pm_istoreXi (loc' := [some (.ref (B + 54)), some (.int za), some (.int zb), some (.int zc), some (.int zd), some (.int x11), some (.int 0)]) hG dX12_promise_79 (by decide) (pm_c1b rfl) rfl ?_
            have loop81 : ∀ (k81 : FS → Int32 → Option (Int32 × FS)), (∀ (S13 : FS) (x13_6 : Int32), k81 S13  x13_6 = some R → pm_wp mX12_promise G B 133 [some (.ref (B + 54)), some (.int za), some (.int zb), some (.int zc), some (.int zd), some (.int x11), some (.int x13_6)] [] 0 0 cnt (mst B S13 σ)) → ∀ (m81 : Nat) (S13 : FS) (x13_6 : Int32), l_X12_promise_81 za zb x11 k81 m81 S13  x13_6 = some R → pm_wp mX12_promise G B 81 [some (.ref (B + 54)), some (.int za), some (.int zb), some (.int zc), some (.int zd), some (.int x11), some (.int x13_6)] [] 0 0 cnt (mst B S13 σ) := by
              intro k81 hk81 m81
              induction m81 with
              | zero => intro S13  x13_6 hE; exact fx_no hE
              | succ m81 ih81 =>
                intro S13  x13_6 hE
                rw [l_X12_promise_81] at hE
                refine pm_iloadi hG dX12_promise_81 rfl ?_
                refine pm_iloadi hG dX12_promise_83 rfl ?_
                refine pm_icmp_ge (tgt := 133) hG dX12_promise_85 rfl (fun c14 => ?_) (fun c14 => ?_)
                · replace c14 := Int32.not_lt.mpr c14
                  replace hE := fx_f c14 hE
                  exact hk81 _ _ hE
                · replace c14 := Int32.not_le.mp c14
                  replace hE := fx_t c14 hE
                  refine pm_aloadn hG dX12_promise_88 rfl ?_
                  refine pm_iloadi hG dX12_promise_89 rfl ?_
                  refine pm_iconst (v := 0) hG dX12_promise_91 (by decide) ?_
                  obtain ⟨x16, h15, hE⟩ := fb_some hE
                  refine pm_callV (As := [.int x13_6, .int 0]) (rest := []) hG hR dX12_promise_92 (lkX12_223 _ rfl) okV_X12_promised rfl rfl (c_X12_promised (d := 2) (by decide) h15) rfl rfl hdd (Nat.le_refl _) (Nat.le_refl _) (by decide) (fx_ki ?_)
                  refine pm_iloadn hG dX12_promise_95 rfl ?_
                  refine pm_icmp_ne (tgt := 127) hG dX12_promise_96 rfl (fun c17 => ?_) (fun c17 => ?_)
                  · replace hE := fx_f c17 hE
                    refine pm_iincX (v := x13_6 + 1) (loc' := [some (.ref (B + 54)), some (.int za), some (.int zb), some (.int zc), some (.int zd), some (.int x11), some (.int (x13_6 + 1))]) hG dX12_promise_127 rfl (by rfl) (by decide) (pm_c1b rfl) rfl ?_
                    refine pm_goto (tgt := 81) hG dX12_promise_130 rfl ?_
                    exact ih81 _ _ hE
                  · replace hE := fx_t c17 hE
                    refine pm_aloadn hG dX12_promise_99 rfl ?_
                    refine pm_iloadi hG dX12_promise_100 rfl ?_
                    refine pm_iconst (v := 1) hG dX12_promise_102 (by decide) ?_
                    obtain ⟨x19, h18, hE⟩ := fb_some hE
                    refine pm_callV (As := [.int x13_6, .int 1]) (rest := []) hG hR dX12_promise_103 (lkX12_223 _ rfl) okV_X12_promised rfl rfl (c_X12_promised (d := 2) (by decide) h18) rfl rfl hdd (Nat.le_refl _) (Nat.le_refl _) (by decide) (fx_ki ?_)
                    refine pm_iloadn hG dX12_promise_106 rfl ?_
                    refine pm_icmp_ne (tgt := 127) hG dX12_promise_107 rfl (fun c20 => ?_) (fun c20 => ?_)
                    · replace hE := fx_f c20 hE
                      refine pm_iincX (v := x13_6 + 1) (loc' := [some (.ref (B + 54)), some (.int za), some (.int zb), some (.int zc), some (.int zd), some (.int x11), some (.int (x13_6 + 1))]) hG dX12_promise_127 rfl (by rfl) (by decide) (pm_c1b rfl) rfl ?_
                      refine pm_goto (tgt := 81) hG dX12_promise_130 rfl ?_
                      exact ih81 _ _ hE
                    · replace hE := fx_t c20 hE
                      refine pm_aloadn hG dX12_promise_110 rfl ?_
                      refine pm_getf hG dX12_promise_111 (flX12_7 _ rfl) rfl rfl ?_
                      refine pm_sipush (v := 1806) hG dX12_promise_114 (by decide) ?_
                      refine pm_bipush (v := 6) hG dX12_promise_117 (by decide) ?_
                      refine pm_iloadi hG dX12_promise_119 rfl ?_
                      refine pm_imul hG dX12_promise_121 ?_
                      refine pm_iadd hG dX12_promise_122 ?_
                      refine pm_iconst (v := 5) hG dX12_promise_123 (by decide) ?_
                      refine pm_iadd hG dX12_promise_124 ?_
                      refine pm_iconst (v := 1) hG dX12_promise_125 (by decide) ?_
                      obtain ⟨j21, hj21, hE⟩ := fb_some hE
                      refine fx_iast hG dX12_promise_126 rfl hj21 ?_
                      refine ma_55 ?_
                      refine fx_letm hE (fun S22 hE => ?_)
                      refine pm_iincX (v := x13_6 + 1) (loc' := [some (.ref (B + 54)), some (.int za), some (.int zb), some (.int zc), some (.int zd), some (.int x11), some (.int (x13_6 + 1))]) hG dX12_promise_127 rfl (by rfl) (by decide) (pm_c1b rfl) rfl ?_
                      refine pm_goto (tgt := 81) hG dX12_promise_130 rfl ?_
                      exact ih81 _ _ hE
            refine loop81 _ (fun S23 x23_6 hE => ?_) _ _ _ hE
            refine pm_aloadn hG dX12_promise_133 rfl ?_
            refine pm_getf hG dX12_promise_134 (flX12_7 _ rfl) rfl rfl ?_
            refine pm_bipush (v := 7) hG dX12_promise_137 (by decide) ?_
            refine pm_dup2 hG dX12_promise_139 rfl rfl ?_
            refine fx_iald hG dX12_promise_140 rfl (ix_lit (by decide) rfl) ?_
            refine pm_iconst (v := 1) hG dX12_promise_141 (by decide) ?_
            refine pm_iadd hG dX12_promise_142 ?_
            refine fx_iast hG dX12_promise_143 rfl (ix_lit (by decide) rfl) ?_
            refine ma_55 ?_
            refine fx_letm hE (fun S24 hE => ?_)
            refine pm_aloadn hG dX12_promise_144 rfl ?_
            refine pm_getf hG dX12_promise_145 (flX12_7 _ rfl) rfl rfl ?_
            refine pm_sipush (v := 1806) hG dX12_promise_148 (by decide) ?_
            refine pm_bipush (v := 6) hG dX12_promise_151 (by decide) ?_
            refine pm_iloadi hG dX12_promise_153 rfl ?_
            refine pm_imul hG dX12_promise_155 ?_
            refine pm_iadd hG dX12_promise_156 ?_
            refine pm_iloadn hG dX12_promise_157 rfl ?_
            obtain ⟨j25, hj25, hE⟩ := fb_some hE
            refine fx_iast hG dX12_promise_158 rfl hj25 ?_
            refine ma_55 ?_
            refine fx_letm hE (fun S26 hE => ?_)
            refine pm_aloadn hG dX12_promise_159 rfl ?_
            refine pm_getf hG dX12_promise_160 (flX12_7 _ rfl) rfl rfl ?_
            refine pm_sipush (v := 1806) hG dX12_promise_163 (by decide) ?_
            refine pm_bipush (v := 6) hG dX12_promise_166 (by decide) ?_
            refine pm_iloadi hG dX12_promise_168 rfl ?_
            refine pm_imul hG dX12_promise_170 ?_
            refine pm_iadd hG dX12_promise_171 ?_
            refine pm_iconst (v := 1) hG dX12_promise_172 (by decide) ?_
            refine pm_iadd hG dX12_promise_173 ?_
            refine pm_iloadn hG dX12_promise_174 rfl ?_
            obtain ⟨j27, hj27, hE⟩ := fb_some hE
            refine fx_iast hG dX12_promise_175 rfl hj27 ?_
            refine ma_55 ?_
            refine fx_letm hE (fun S28 hE => ?_)
            refine pm_aloadn hG dX12_promise_176 rfl ?_
            refine pm_getf hG dX12_promise_177 (flX12_7 _ rfl) rfl rfl ?_
            refine pm_sipush (v := 1806) hG dX12_promise_180 (by decide) ?_
            refine pm_bipush (v := 6) hG dX12_promise_183 (by decide) ?_
            refine pm_iloadi hG dX12_promise_185 rfl ?_
            refine pm_imul hG dX12_promise_187 ?_
            refine pm_iadd hG dX12_promise_188 ?_
            refine pm_iconst (v := 2) hG dX12_promise_189 (by decide) ?_
            refine pm_iadd hG dX12_promise_190 ?_
            refine pm_iloadn hG dX12_promise_191 rfl ?_
            obtain ⟨j29, hj29, hE⟩ := fb_some hE
            refine fx_iast hG dX12_promise_192 rfl hj29 ?_
            refine ma_55 ?_
            refine fx_letm hE (fun S30 hE => ?_)
            refine pm_aloadn hG dX12_promise_193 rfl ?_
            refine pm_getf hG dX12_promise_194 (flX12_7 _ rfl) rfl rfl ?_
            refine pm_sipush (v := 1806) hG dX12_promise_197 (by decide) ?_
            refine pm_bipush (v := 6) hG dX12_promise_200 (by decide) ?_
            refine pm_iloadi hG dX12_promise_202 rfl ?_
            refine pm_imul hG dX12_promise_204 ?_
            refine pm_iadd hG dX12_promise_205 ?_
            refine pm_iconst (v := 3) hG dX12_promise_206 (by decide) ?_
            refine pm_iadd hG dX12_promise_207 ?_
            refine pm_iloadi hG dX12_promise_208 rfl ?_
            refine pm_if_eq (tgt := 217) hG dX12_promise_210 rfl (fun c31 => ?_) (fun c31 => ?_)
            · replace hE := fx_t c31 hE
              refine pm_iconst (v := 0) hG dX12_promise_217 (by decide) ?_
              obtain ⟨j32, hj32, hE⟩ := fb_some hE
              refine fx_iast hG dX12_promise_218 rfl hj32 ?_
              refine ma_55 ?_
              refine fx_letm hE (fun S33 hE => ?_)
              refine pm_aloadn hG dX12_promise_219 rfl ?_
              refine pm_getf hG dX12_promise_220 (flX12_7 _ rfl) rfl rfl ?_
              refine pm_sipush (v := 1806) hG dX12_promise_223 (by decide) ?_
              refine pm_bipush (v := 6) hG dX12_promise_226 (by decide) ?_
              refine pm_iloadi hG dX12_promise_228 rfl ?_
              refine pm_imul hG dX12_promise_230 ?_
              refine pm_iadd hG dX12_promise_231 ?_
              refine pm_iconst (v := 4) hG dX12_promise_232 (by decide) ?_
              refine pm_iadd hG dX12_promise_233 ?_
              refine pm_iconst (v := 0) hG dX12_promise_234 (by decide) ?_
              obtain ⟨j34, hj34, hE⟩ := fb_some hE
              refine fx_iast hG dX12_promise_235 rfl hj34 ?_
              refine ma_55 ?_
              refine fx_letm hE (fun S35 hE => ?_)
              refine pm_aloadn hG dX12_promise_236 rfl ?_
              refine pm_getf hG dX12_promise_237 (flX12_7 _ rfl) rfl rfl ?_
              refine pm_sipush (v := 1806) hG dX12_promise_240 (by decide) ?_
              refine pm_bipush (v := 6) hG dX12_promise_243 (by decide) ?_
              refine pm_iloadi hG dX12_promise_245 rfl ?_
              refine pm_imul hG dX12_promise_247 ?_
              refine pm_iadd hG dX12_promise_248 ?_
              refine pm_iconst (v := 5) hG dX12_promise_249 (by decide) ?_
              refine pm_iadd hG dX12_promise_250 ?_
              refine pm_iconst (v := 0) hG dX12_promise_251 (by decide) ?_
              obtain ⟨j36, hj36, hE⟩ := fb_some hE
              refine fx_iast hG dX12_promise_252 rfl hj36 ?_
              refine ma_55 ?_
              refine fx_letm hE (fun S37 hE => ?_)
              refine pm_iloadi hG dX12_promise_253 rfl ?_
              exact pm_iret hG hF dX12_promise_255 rfl (Nat.le_refl _) (Nat.le_refl _) (fx_rim hE)
            · replace hE := fx_f c31 hE
              refine pm_iconst (v := 1) hG dX12_promise_213 (by decide) ?_
              refine pm_goto (tgt := 218) hG dX12_promise_214 rfl ?_
              obtain ⟨j38, hj38, hE⟩ := fb_some hE
              refine fx_iast hG dX12_promise_218 rfl hj38 ?_
              refine ma_55 ?_
              refine fx_letm hE (fun S39 hE => ?_)
              refine pm_aloadn hG dX12_promise_219 rfl ?_
              refine pm_getf hG dX12_promise_220 (flX12_7 _ rfl) rfl rfl ?_
              refine pm_sipush (v := 1806) hG dX12_promise_223 (by decide) ?_
              refine pm_bipush (v := 6) hG dX12_promise_226 (by decide) ?_
              refine pm_iloadi hG dX12_promise_228 rfl ?_
              refine pm_imul hG dX12_promise_230 ?_
              refine pm_iadd hG dX12_promise_231 ?_
              refine pm_iconst (v := 4) hG dX12_promise_232 (by decide) ?_
              refine pm_iadd hG dX12_promise_233 ?_
              refine pm_iconst (v := 0) hG dX12_promise_234 (by decide) ?_
              obtain ⟨j40, hj40, hE⟩ := fb_some hE
              refine fx_iast hG dX12_promise_235 rfl hj40 ?_
              refine ma_55 ?_
              refine fx_letm hE (fun S41 hE => ?_)
              refine pm_aloadn hG dX12_promise_236 rfl ?_
              refine pm_getf hG dX12_promise_237 (flX12_7 _ rfl) rfl rfl ?_
              refine pm_sipush (v := 1806) hG dX12_promise_240 (by decide) ?_
              refine pm_bipush (v := 6) hG dX12_promise_243 (by decide) ?_
              refine pm_iloadi hG dX12_promise_245 rfl ?_
              refine pm_imul hG dX12_promise_247 ?_
              refine pm_iadd hG dX12_promise_248 ?_
              refine pm_iconst (v := 5) hG dX12_promise_249 (by decide) ?_
              refine pm_iadd hG dX12_promise_250 ?_
              refine pm_iconst (v := 0) hG dX12_promise_251 (by decide) ?_
              obtain ⟨j42, hj42, hE⟩ := fb_some hE
              refine fx_iast hG dX12_promise_252 rfl hj42 ?_
              refine ma_55 ?_
              refine fx_letm hE (fun S43 hE => ?_)
              refine pm_iloadi hG dX12_promise_253 rfl ?_
              exact pm_iret hG hF dX12_promise_255 rfl (Nat.le_refl _) (Nat.le_refl _) (fx_rim hE)
          · replace hE := fx_t c12 hE
            refine pm_aloadn hG dX12_promise_72 rfl ?_
            refine pm_iconst (v := 4) hG dX12_promise_73 (by decide) ?_
            obtain ⟨r45, h44, hE⟩ := fb_some hE
            refine pm_callV (As := [.int 4]) (rest := []) hG hR dX12_promise_74 (lkX12_80 _ rfl) okV_X12_finds rfl rfl (c_X12_finds (d := 2) (by decide) h44) rfl rfl hdd (Nat.le_refl _) (Nat.le_refl _) (by decide) (fx_ki ?_)
            exact pm_iret hG hF dX12_promise_77 rfl (Nat.le_refl _) (Nat.le_refl _) (fx_rim hE)
        · replace hE := fx_t c10 hE
          refine pm_aloadn hG dX12_promise_50 rfl ?_
          refine pm_iconst (v := 3) hG dX12_promise_51 (by decide) ?_
          obtain ⟨r47, h46, hE⟩ := fb_some hE
          refine pm_callV (As := [.int 3]) (rest := []) hG hR dX12_promise_52 (lkX12_80 _ rfl) okV_X12_finds rfl rfl (c_X12_finds (d := 2) (by decide) h46) rfl rfl hdd (Nat.le_refl _) (Nat.le_refl _) (by decide) (fx_ki ?_)
          exact pm_iret hG hF dX12_promise_55 rfl (Nat.le_refl _) (Nat.le_refl _) (fx_rim hE)
      · replace hE := fx_t c7 hE
        refine pm_aloadn hG dX12_promise_34 rfl ?_
        refine pm_iconst (v := 1) hG dX12_promise_35 (by decide) ?_
        obtain ⟨r49, h48, hE⟩ := fb_some hE
        refine pm_callV (As := [.int 1]) (rest := []) hG hR dX12_promise_36 (lkX12_80 _ rfl) okV_X12_finds rfl rfl (c_X12_finds (d := 2) (by decide) h48) rfl rfl hdd (Nat.le_refl _) (Nat.le_refl _) (by decide) (fx_ki ?_)
        exact pm_iret hG hF dX12_promise_39 rfl (Nat.le_refl _) (Nat.le_refl _) (fx_rim hE)

set_option maxRecDepth 100000 in
set_option maxHeartbeats 4000000 in
theorem c_X12_put {d : Nat} {B cnt : Nat} {σ : pm_S} {S : FS} {za : Int32} {zb : Int32} {zc : Int32} {R : Int32 × FS} (hdd : 3 ≤ d) (hE : f_X12_put S za zb zc = some R) : pm_met mX12_put d 0 0 B [.ref (B + 54), .int za, .int zb, .int zc] cnt (mst B S σ) (pm_Qi (fun v σ' cnt' => v = R.1 ∧ σ' = (mst B R.2 σ) ∧ cnt' = cnt)) := by
  refine pm_enter 0 (by decide) (Nat.le_of_ble_eq_true rfl) rfl (fun G hG hR hF => ?_)
  unfold f_X12_put at hE
  refine pm_iloadn hG dX12_put_0 rfl ?_
  refine pm_callS (As := [.int za]) (rest := []) hG hR dX12_put_1 (lkX12_239 _ rfl) okS_X12_isSheet (c_X12_isSheet (d := 2) (by decide) rfl) rfl rfl hdd (Nat.le_refl _) (Nat.le_refl _) (by decide) (fx_ki ?_)
  refine pm_if_ne (tgt := 13) hG dX12_put_4 rfl (fun c1 => ?_) (fun c1 => ?_)
  · replace hE := fx_f c1 hE
    refine pm_aloadn hG dX12_put_13 rfl ?_
    refine pm_getf hG dX12_put_14 (flX12_55 _ rfl) rfl rfl ?_
    refine pm_iloadn hG dX12_put_17 rfl ?_
    obtain ⟨j2, hj2, hE⟩ := fb_some hE
    refine fx_iald hG dX12_put_18 rfl hj2 ?_
    refine pm_if_ne (tgt := 28) hG dX12_put_19 rfl (fun c3 => ?_) (fun c3 => ?_)
    · replace hE := fx_f c3 hE
      refine pm_iloadn hG dX12_put_28 rfl ?_
      refine pm_iconst (v := 0) hG dX12_put_29 (by decide) ?_
      refine pm_aloadn hG dX12_put_30 rfl ?_
      refine pm_getf hG dX12_put_31 (flX12_58 _ rfl) rfl rfl ?_
      refine pm_iloadn hG dX12_put_34 rfl ?_
      refine fx_iald hG dX12_put_35 rfl hj2 ?_
      refine pm_iconst (v := 1) hG dX12_put_36 (by decide) ?_
      refine pm_isub hG dX12_put_37 ?_
      refine pm_callS (As := [.int zb, .int 0, .int ((S.2 71 j2) - 1)]) (rest := []) hG hR dX12_put_38 (lkX12_68 _ rfl) okS_X12_in (c_X12_in (d := 2) (by decide) rfl) rfl rfl hdd (Nat.le_refl _) (Nat.le_refl _) (by decide) (fx_ki ?_)
      refine pm_if_ne (tgt := 50) hG dX12_put_41 rfl (fun c4 => ?_) (fun c4 => ?_)
      · replace hE := fx_f c4 hE
        refine pm_aloadn hG dX12_put_50 rfl ?_
        refine pm_getf hG dX12_put_51 (flX12_61 _ rfl) rfl rfl ?_
        refine pm_bipush (v := 24) hG dX12_put_54 (by decide) ?_
        refine pm_iloadn hG dX12_put_56 rfl ?_
        refine pm_imul hG dX12_put_57 ?_
        refine pm_iloadn hG dX12_put_58 rfl ?_
        refine pm_iadd hG dX12_put_59 ?_
        refine pm_aloadn hG dX12_put_60 rfl ?_
        refine pm_getf hG dX12_put_61 (flX12_55 _ rfl) rfl rfl ?_
        refine pm_iloadn hG dX12_put_64 rfl ?_
        refine fx_iald hG dX12_put_65 rfl hj2 ?_
        refine pm_bipush (v := 8) hG dX12_put_66 (by decide) ?_
        refine pm_icmp_ne (tgt := 76) hG dX12_put_68 rfl (fun c5 => ?_) (fun c5 => ?_)
        · replace hE := fx_f c5 hE
          refine pm_aloadn hG dX12_put_76 rfl ?_
          refine pm_getf hG dX12_put_77 (flX12_55 _ rfl) rfl rfl ?_
          refine pm_iloadn hG dX12_put_80 rfl ?_
          refine fx_iald hG dX12_put_81 rfl hj2 ?_
          refine pm_bipush (v := 16) hG dX12_put_82 (by decide) ?_
          refine pm_icmp_ne (tgt := 92) hG dX12_put_84 rfl (fun c6 => ?_) (fun c6 => ?_)
          · replace hE := fx_f c6 hE
            refine pm_iloadn hG dX12_put_92 rfl ?_
            obtain ⟨j7, hj7, hE⟩ := fb_some hE
            refine fx_iast hG dX12_put_93 rfl hj7 ?_
            refine ma_72 ?_
            refine fx_letm hE (fun S8 hE => ?_)
            refine pm_iconst (v := 1) hG dX12_put_94 (by decide) ?_
            exact pm_iret hG hF dX12_put_95 rfl (Nat.le_refl _) (Nat.le_refl _) (fx_rim hE)
          · replace hE := fx_t c6 hE
            refine pm_iloadn hG dX12_put_87 rfl ?_
            refine pm_i2s hG dX12_put_88 rfl ?_
            refine pm_goto (tgt := 93) hG dX12_put_89 rfl ?_
            obtain ⟨j9, hj9, hE⟩ := fb_some hE
            refine fx_iast hG dX12_put_93 rfl hj9 ?_
            refine ma_72 ?_
            refine fx_letm hE (fun S10 hE => ?_)
            refine pm_iconst (v := 1) hG dX12_put_94 (by decide) ?_
            exact pm_iret hG hF dX12_put_95 rfl (Nat.le_refl _) (Nat.le_refl _) (fx_rim hE)
        · replace hE := fx_t c5 hE
          refine pm_iloadn hG dX12_put_71 rfl ?_
          refine pm_i2b hG dX12_put_72 rfl ?_
          refine pm_goto (tgt := 93) hG dX12_put_73 rfl ?_
          obtain ⟨j11, hj11, hE⟩ := fb_some hE
          refine fx_iast hG dX12_put_93 rfl hj11 ?_
          refine ma_72 ?_
          refine fx_letm hE (fun S12 hE => ?_)
          refine pm_iconst (v := 1) hG dX12_put_94 (by decide) ?_
          exact pm_iret hG hF dX12_put_95 rfl (Nat.le_refl _) (Nat.le_refl _) (fx_rim hE)
      · replace hE := fx_t c4 hE
        refine pm_aloadn hG dX12_put_44 rfl ?_
        refine pm_iconst (v := 1) hG dX12_put_45 (by decide) ?_
        obtain ⟨r14, h13, hE⟩ := fb_some hE
        refine pm_callV (As := [.int 1]) (rest := []) hG hR dX12_put_46 (lkX12_80 _ rfl) okV_X12_finds rfl rfl (c_X12_finds (d := 2) (by decide) h13) rfl rfl hdd (Nat.le_refl _) (Nat.le_refl _) (by decide) (fx_ki ?_)
        exact pm_iret hG hF dX12_put_49 rfl (Nat.le_refl _) (Nat.le_refl _) (fx_rim hE)
    · replace hE := fx_t c3 hE
      refine pm_aloadn hG dX12_put_22 rfl ?_
      refine pm_iconst (v := 2) hG dX12_put_23 (by decide) ?_
      obtain ⟨r16, h15, hE⟩ := fb_some hE
      refine pm_callV (As := [.int 2]) (rest := []) hG hR dX12_put_24 (lkX12_80 _ rfl) okV_X12_finds rfl rfl (c_X12_finds (d := 2) (by decide) h15) rfl rfl hdd (Nat.le_refl _) (Nat.le_refl _) (by decide) (fx_ki ?_)
      exact pm_iret hG hF dX12_put_27 rfl (Nat.le_refl _) (Nat.le_refl _) (fx_rim hE)
  · replace hE := fx_t c1 hE
    refine pm_aloadn hG dX12_put_7 rfl ?_
    refine pm_iconst (v := 1) hG dX12_put_8 (by decide) ?_
    obtain ⟨r18, h17, hE⟩ := fb_some hE
    refine pm_callV (As := [.int 1]) (rest := []) hG hR dX12_put_9 (lkX12_80 _ rfl) okV_X12_finds rfl rfl (c_X12_finds (d := 2) (by decide) h17) rfl rfl hdd (Nat.le_refl _) (Nat.le_refl _) (by decide) (fx_ki ?_)
    exact pm_iret hG hF dX12_put_12 rfl (Nat.le_refl _) (Nat.le_refl _) (fx_rim hE)

set_option maxRecDepth 100000 in
set_option maxHeartbeats 4000000 in
theorem c_X12_ranksPower {d : Nat} {B cnt : Nat} {σ : pm_S} {S : FS} {za : Int32} {zb : Int32} {R : Int32 × FS} (hdd : 2 ≤ d) (hE : f_X12_ranksPower S za zb = some R) : pm_met mX12_ranksPower d 0 0 B [.ref (B + 54), .int za, .int zb] cnt (mst B S σ) (pm_Qi (fun v σ' cnt' => v = R.1 ∧ σ' = (mst B R.2 σ) ∧ cnt' = cnt)) := by
  refine pm_enter 0 (by decide) (Nat.le_of_ble_eq_true rfl) rfl (fun G hG hR hF => ?_)
  unfold f_X12_ranksPower at hE
  refine pm_aloadn hG dX12_ranksPower_0 rfl ?_
  refine pm_bipush (v := 12) hG dX12_ranksPower_1 (by decide) ?_
  obtain ⟨r2, h1, hE⟩ := fb_some hE
  refine pm_callV (As := [.int 12]) (rest := []) hG hR dX12_ranksPower_3 (lkX12_286 _ rfl) okV_X12_ran rfl rfl (c_X12_ran (d := 1) (by decide) h1) rfl rfl hdd (Nat.le_refl _) (Nat.le_refl _) (by decide) (fx_kv ?_)
  refine pm_iloadn hG dX12_ranksPower_6 rfl ?_
  refine pm_iloadn hG dX12_ranksPower_7 rfl ?_
  refine pm_isub hG dX12_ranksPower_8 ?_
  exact pm_iret hG hF dX12_ranksPower_9 rfl (Nat.le_refl _) (Nat.le_refl _) (fx_rim hE)

set_option maxRecDepth 100000 in
set_option maxHeartbeats 4000000 in
theorem c_X12_ranksOf {d : Nat} {B cnt : Nat} {σ : pm_S} {S : FS} {za : Int32} {zb : Int32} {R : Int32 × FS} (hdd : 3 ≤ d) (hE : f_X12_ranksOf S za zb = some R) : pm_met mX12_ranksOf d 0 0 B [.ref (B + 54), .int za, .int zb] cnt (mst B S σ) (pm_Qi (fun v σ' cnt' => v = R.1 ∧ σ' = (mst B R.2 σ) ∧ cnt' = cnt)) := by
  refine pm_enter 0 (by decide) (Nat.le_of_ble_eq_true rfl) rfl (fun G hG hR hF => ?_)
  unfold f_X12_ranksOf at hE
  refine pm_aloadn hG dX12_ranksOf_0 rfl ?_
  refine pm_iloadn hG dX12_ranksOf_1 rfl ?_
  refine pm_iconst (v := 0) hG dX12_ranksOf_2 (by decide) ?_
  obtain ⟨x2, h1, hE⟩ := fb_some hE
  refine pm_callV (As := [.int za, .int 0]) (rest := []) hG hR dX12_ranksOf_3 (lkX12_110 _ rfl) okV_X12_its rfl rfl (c_X12_its (d := 2) (by decide) h1) rfl rfl hdd (Nat.le_refl _) (Nat.le_refl _) (by decide) (fx_ki ?_)
  refine pm_iconst (v := 2) hG dX12_ranksOf_6 (by decide) ?_
  refine pm_icmp_eq (tgt := 17) hG dX12_ranksOf_7 rfl (fun c3 => ?_) (fun c3 => ?_)
  · replace hE := fx_t c3 hE
    refine pm_aloadn hG dX12_ranksOf_17 rfl ?_
    refine pm_bipush (v := 30) hG dX12_ranksOf_18 (by decide) ?_
    obtain ⟨r5, h4, hE⟩ := fb_some hE
    refine pm_callV (As := [.int 30]) (rest := []) hG hR dX12_ranksOf_20 (lkX12_286 _ rfl) okV_X12_ran rfl rfl (c_X12_ran (d := 2) (by decide) h4) rfl rfl hdd (Nat.le_refl _) (Nat.le_refl _) (by decide) (fx_kv ?_)
    refine pm_aloadn hG dX12_ranksOf_23 rfl ?_
    refine pm_iloadn hG dX12_ranksOf_24 rfl ?_
    refine pm_iloadn hG dX12_ranksOf_25 rfl ?_
    obtain ⟨r7, h6, hE⟩ := fb_some hE
    refine pm_callV (As := [.int za, .int zb]) (rest := []) hG hR dX12_ranksOf_26 (lkX12_301 _ rfl) okV_X12_ranksPower rfl rfl (c_X12_ranksPower (d := 2) (by decide) h6) rfl rfl hdd (Nat.le_refl _) (Nat.le_refl _) (by decide) (fx_ki ?_)
    refine pm_iconst (v := 3) hG dX12_ranksOf_29 (by decide) ?_
    refine pm_imul hG dX12_ranksOf_30 ?_
    exact pm_iret hG hF dX12_ranksOf_31 rfl (Nat.le_refl _) (Nat.le_refl _) (fx_rim hE)
  · replace hE := fx_f c3 hE
    refine pm_aloadn hG dX12_ranksOf_10 rfl ?_
    refine pm_iloadn hG dX12_ranksOf_11 rfl ?_
    refine pm_iloadn hG dX12_ranksOf_12 rfl ?_
    obtain ⟨r9, h8, hE⟩ := fb_some hE
    refine pm_callV (As := [.int za, .int zb]) (rest := []) hG hR dX12_ranksOf_13 (lkX12_301 _ rfl) okV_X12_ranksPower rfl rfl (c_X12_ranksPower (d := 2) (by decide) h8) rfl rfl hdd (Nat.le_refl _) (Nat.le_refl _) (by decide) (fx_ki ?_)
    exact pm_iret hG hF dX12_ranksOf_16 rfl (Nat.le_refl _) (Nat.le_refl _) (fx_rim hE)

set_option maxRecDepth 100000 in
set_option maxHeartbeats 4000000 in
theorem c_X12_rent {d : Nat} {B cnt : Nat} {σ : pm_S} {S : FS} {za : Int32} {zb : Int32} {R : Int32 × FS} (hdd : 3 ≤ d) (hE : f_X12_rent S za zb = some R) : pm_met mX12_rent d 0 0 B [.ref (B + 54), .int za, .int zb] cnt (mst B S σ) (pm_Qi (fun v σ' cnt' => v = R.1 ∧ σ' = (mst B R.2 σ) ∧ cnt' = cnt)) := by
  refine pm_enter 1 (by decide) (Nat.le_of_ble_eq_true rfl) rfl (fun G hG hR hF => ?_)
  unfold f_X12_rent at hE
  refine pm_aloadn hG dX12_rent_0 rfl ?_
  refine pm_iloadn hG dX12_rent_1 rfl ?_
  refine pm_callV (As := [.int za]) (rest := []) hG hR dX12_rent_2 (lkX12_84 _ rfl) okV_X12_isTown rfl rfl (c_X12_isTown (d := 2) (by decide) rfl) rfl rfl hdd (Nat.le_refl _) (Nat.le_refl _) (by decide) (fx_ki ?_)
  refine pm_if_eq (tgt := 19) hG dX12_rent_5 rfl (fun c1 => ?_) (fun c1 => ?_)
  · replace hE := fx_t c1 hE
    refine pm_aloadn hG dX12_rent_19 rfl ?_
    refine pm_iconst (v := 1) hG dX12_rent_20 (by decide) ?_
    obtain ⟨r3, h2, hE⟩ := fb_some hE
    refine pm_callV (As := [.int 1]) (rest := []) hG hR dX12_rent_21 (lkX12_80 _ rfl) okV_X12_finds rfl rfl (c_X12_finds (d := 2) (by decide) h2) rfl rfl hdd (Nat.le_refl _) (Nat.le_refl _) (by decide) (fx_ki ?_)
    exact pm_iret hG hF dX12_rent_24 rfl (Nat.le_refl _) (Nat.le_refl _) (fx_rim hE)
  · replace hE := fx_f c1 hE
    refine pm_iloadn hG dX12_rent_8 rfl ?_
    refine pm_iconst (v := 0) hG dX12_rent_9 (by decide) ?_
    refine pm_sipush (v := 999) hG dX12_rent_10 (by decide) ?_
    refine pm_callS (As := [.int zb, .int 0, .int 999]) (rest := []) hG hR dX12_rent_13 (lkX12_68 _ rfl) okS_X12_in (c_X12_in (d := 2) (by decide) rfl) rfl rfl hdd (Nat.le_refl _) (Nat.le_refl _) (by decide) (fx_ki ?_)
    refine pm_if_ne (tgt := 25) hG dX12_rent_16 rfl (fun c4 => ?_) (fun c4 => ?_)
    · replace hE := fx_f c4 hE
      refine pm_aloadn hG dX12_rent_25 rfl ?_
      refine pm_getf hG dX12_rent_26 (flX12_7 _ rfl) rfl rfl ?_
      refine pm_bipush (v := 20) hG dX12_rent_29 (by decide) ?_
      refine pm_iconst (v := 3) hG dX12_rent_31 (by decide) ?_
      refine pm_iloadn hG dX12_rent_32 rfl ?_
      refine pm_imul hG dX12_rent_33 ?_
      refine pm_iadd hG dX12_rent_34 ?_
      obtain ⟨j5, hj5, hE⟩ := fb_some hE
      refine fx_iald hG dX12_rent_35 rfl hj5 ?_
      refine fx_letv hE (fun x6 hE => ?_)
      refine pm_istoreXn (loc' := [some (.ref (B + 54)), some (.int za), some (.int zb), some (.int x6)]) hG dX12_rent_36 (by decide) (pm_c1b rfl) rfl ?_
      refine pm_aloadn hG dX12_rent_37 rfl ?_
      refine pm_getf hG dX12_rent_38 (flX12_7 _ rfl) rfl rfl ?_
      refine pm_bipush (v := 20) hG dX12_rent_41 (by decide) ?_
      refine pm_iconst (v := 3) hG dX12_rent_43 (by decide) ?_
      refine pm_iloadn hG dX12_rent_44 rfl ?_
      refine pm_imul hG dX12_rent_45 ?_
      refine pm_iadd hG dX12_rent_46 ?_
      refine pm_iloadn hG dX12_rent_47 rfl ?_
      refine fx_iast hG dX12_rent_48 rfl hj5 ?_
      refine ma_55 ?_
      refine fx_letm hE (fun S7 hE => ?_)
      refine pm_iloadn hG dX12_rent_49 rfl ?_
      exact pm_iret hG hF dX12_rent_50 rfl (Nat.le_refl _) (Nat.le_refl _) (fx_rim hE)
    · replace hE := fx_t c4 hE
      refine pm_aloadn hG dX12_rent_19 rfl ?_
      refine pm_iconst (v := 1) hG dX12_rent_20 (by decide) ?_
      obtain ⟨r9, h8, hE⟩ := fb_some hE
      refine pm_callV (As := [.int 1]) (rest := []) hG hR dX12_rent_21 (lkX12_80 _ rfl) okV_X12_finds rfl rfl (c_X12_finds (d := 2) (by decide) h8) rfl rfl hdd (Nat.le_refl _) (Nat.le_refl _) (by decide) (fx_ki ?_)
      exact pm_iret hG hF dX12_rent_24 rfl (Nat.le_refl _) (Nat.le_refl _) (fx_rim hE)

set_option maxRecDepth 100000 in
set_option maxHeartbeats 4000000 in
theorem c_X12_rents {d : Nat} {B cnt : Nat} {σ : pm_S} {S : FS} {za : Int32} {zb : Int32} {R : Int32 × FS} (hdd : 3 ≤ d) (hE : f_X12_rents S za zb = some R) : pm_met mX12_rents d 0 0 B [.ref (B + 54), .int za, .int zb] cnt (mst B S σ) (pm_Qi (fun v σ' cnt' => v = R.1 ∧ σ' = (mst B R.2 σ) ∧ cnt' = cnt)) := by
  refine pm_enter 2 (by decide) (Nat.le_of_ble_eq_true rfl) rfl (fun G hG hR hF => ?_)
  unfold f_X12_rents at hE
  have join31 : ∀ (S1 : FS), j_X12_rents_31 za zb S1 = some R → pm_wp mX12_rents G B 31 [some (.ref (B + 54)), some (.int za), some (.int zb), none, none] [] 0 0 cnt (mst B S1 σ) := by
    intro S1 hE
    unfold j_X12_rents_31 at hE
    refine pm_aloadn hG dX12_rents_31 rfl ?_
    refine pm_getf hG dX12_rents_32 (flX12_55 _ rfl) rfl rfl ?_
    refine pm_iloadn hG dX12_rents_35 rfl ?_
    obtain ⟨j2, hj2, hE⟩ := fb_some hE
    refine fx_iald hG dX12_rents_36 rfl hj2 ?_
    refine pm_if_ne (tgt := 46) hG dX12_rents_37 rfl (fun c3 => ?_) (fun c3 => ?_)
    · replace hE := fx_f c3 hE
      refine pm_aloadn hG dX12_rents_46 rfl ?_
      refine pm_getf hG dX12_rents_47 (flX12_55 _ rfl) rfl rfl ?_
      refine pm_iloadn hG dX12_rents_50 rfl ?_
      refine fx_iald hG dX12_rents_51 rfl hj2 ?_
      refine pm_iloadn hG dX12_rents_52 rfl ?_
      refine pm_icmp_eq (tgt := 62) hG dX12_rents_53 rfl (fun c4 => ?_) (fun c4 => ?_)
      · replace hE := fx_t c4 hE
        refine pm_aloadn hG dX12_rents_62 rfl ?_
        refine pm_getf hG dX12_rents_63 (flX12_58 _ rfl) rfl rfl ?_
        refine pm_iloadn hG dX12_rents_66 rfl ?_
        refine fx_iald hG dX12_rents_67 rfl hj2 ?_
        refine pm_aloadn hG dX12_rents_68 rfl ?_
        refine pm_getf hG dX12_rents_69 (flX12_7 _ rfl) rfl rfl ?_
        refine pm_iconst (v := 0) hG dX12_rents_72 (by decide) ?_
        refine fx_iald hG dX12_rents_73 rfl (ix_lit (by decide) rfl) ?_
        refine pm_icmp_le (tgt := 83) hG dX12_rents_74 rfl (fun c5 => ?_) (fun c5 => ?_)
        · replace c5 := Int32.not_lt.mpr c5
          replace hE := fx_f c5 hE
          refine pm_iconst (v := 0) hG dX12_rents_83 (by decide) ?_
          refine pm_istoreXn (loc' := [some (.ref (B + 54)), some (.int za), some (.int zb), some (.int 0), none]) hG dX12_rents_84 (by decide) (pm_c1b rfl) rfl ?_
          have loop85 : ∀ (k85 : FS → Int32 → Option (Int32 × FS)), (∀ (S6 : FS) (x6_3 : Int32), k85 S6  x6_3 = some R → pm_wp mX12_rents G B 128 [some (.ref (B + 54)), some (.int za), some (.int zb), some (.int x6_3), none] [] 0 0 cnt (mst B S6 σ)) → ∀ (m85 : Nat) (S6 : FS) (x6_3 : Int32), l_X12_rents_85 za j2 k85 m85 S6  x6_3 = some R → pm_wp mX12_rents G B 85 [some (.ref (B + 54)), some (.int za), some (.int zb), some (.int x6_3), none] [] 0 0 cnt (mst B S6 σ) := by
            intro k85 hk85 m85
            induction m85 with
            | zero => intro S6  x6_3 hE; exact fx_no hE
            | succ m85 ih85 =>
              intro S6  x6_3 hE
              rw [l_X12_rents_85] at hE
              refine pm_iloadn hG dX12_rents_85 rfl ?_
              refine pm_aloadn hG dX12_rents_86 rfl ?_
              refine pm_getf hG dX12_rents_87 (flX12_58 _ rfl) rfl rfl ?_
              refine pm_iloadn hG dX12_rents_90 rfl ?_
              refine fx_iald hG dX12_rents_91 rfl hj2 ?_
              refine pm_icmp_ge (tgt := 128) hG dX12_rents_92 rfl (fun c7 => ?_) (fun c7 => ?_)
              · replace c7 := Int32.not_lt.mpr c7
                replace hE := fx_f c7 hE
                exact hk85 _ _ hE
              · replace c7 := Int32.not_le.mp c7
                replace hE := fx_t c7 hE
                refine pm_aloadn hG dX12_rents_95 rfl ?_
                refine pm_getf hG dX12_rents_96 (flX12_61 _ rfl) rfl rfl ?_
                refine pm_bipush (v := 24) hG dX12_rents_99 (by decide) ?_
                refine pm_iloadn hG dX12_rents_101 rfl ?_
                refine pm_imul hG dX12_rents_102 ?_
                refine pm_iloadn hG dX12_rents_103 rfl ?_
                refine pm_iadd hG dX12_rents_104 ?_
                obtain ⟨j8, hj8, hE⟩ := fb_some hE
                refine fx_iald hG dX12_rents_105 rfl hj8 ?_
                refine pm_iconst (v := (-1)) hG dX12_rents_106 (by decide) ?_
                refine pm_sipush (v := 999) hG dX12_rents_107 (by decide) ?_
                refine pm_callS (As := [.int (S6.2 72 j8), .int (-1), .int 999]) (rest := []) hG hR dX12_rents_110 (lkX12_68 _ rfl) okS_X12_in (c_X12_in (d := 2) (by decide) rfl) rfl rfl hdd (Nat.le_refl _) (Nat.le_refl _) (by decide) (fx_ki ?_)
                refine pm_if_ne (tgt := 122) hG dX12_rents_113 rfl (fun c9 => ?_) (fun c9 => ?_)
                · replace hE := fx_f c9 hE
                  refine pm_iincX (v := x6_3 + 1) (loc' := [some (.ref (B + 54)), some (.int za), some (.int zb), some (.int (x6_3 + 1)), none]) hG dX12_rents_122 rfl (by rfl) (by decide) (pm_c1b rfl) rfl ?_
                  refine pm_goto (tgt := 85) hG dX12_rents_125 rfl ?_
                  exact ih85 _ _ hE
                · replace hE := fx_t c9 hE
                  refine pm_aloadn hG dX12_rents_116 rfl ?_
                  refine pm_iconst (v := 1) hG dX12_rents_117 (by decide) ?_
                  obtain ⟨r11, h10, hE⟩ := fb_some hE
                  refine pm_callV (As := [.int 1]) (rest := []) hG hR dX12_rents_118 (lkX12_80 _ rfl) okV_X12_finds rfl rfl (c_X12_finds (d := 2) (by decide) h10) rfl rfl hdd (Nat.le_refl _) (Nat.le_refl _) (by decide) (fx_ki ?_)
                  exact pm_iret hG hF dX12_rents_121 rfl (Nat.le_refl _) (Nat.le_refl _) (fx_rim hE)
          refine loop85 _ (fun S12 x12_3 hE => ?_) _ _ _ hE
          refine pm_iconst (v := 0) hG dX12_rents_128 (by decide) ?_
          refine pm_istoreXn (loc' := [some (.ref (B + 54)), some (.int za), some (.int zb), some (.int 0), none]) hG dX12_rents_129 (by decide) (pm_c1b rfl) rfl ?_
          refine pm_iconst (v := 0) hG dX12_rents_130 (by decide) ?_
          refine pm_istoreXi (loc' := [some (.ref (B + 54)), some (.int za), some (.int zb), some (.int 0), some (.int 0)]) hG dX12_rents_131 (by decide) (pm_c1b rfl) rfl ?_
          have loop133 : ∀ (k133 : FS → Int32 → Int32 → Option (Int32 × FS)), (∀ (S13 : FS) (x13_3 : Int32) (x13_4 : Int32), k133 S13  x13_3 x13_4 = some R → pm_wp mX12_rents G B 195 [some (.ref (B + 54)), some (.int za), some (.int zb), some (.int x13_3), some (.int x13_4)] [] 0 0 cnt (mst B S13 σ)) → ∀ (m133 : Nat) (S13 : FS) (x13_3 : Int32) (x13_4 : Int32), l_X12_rents_133 za j2 k133 m133 S13  x13_3 x13_4 = some R → pm_wp mX12_rents G B 133 [some (.ref (B + 54)), some (.int za), some (.int zb), some (.int x13_3), some (.int x13_4)] [] 0 0 cnt (mst B S13 σ) := by
            intro k133 hk133 m133
            induction m133 with
            | zero => intro S13  x13_3 x13_4 hE; exact fx_no hE
            | succ m133 ih133 =>
              intro S13  x13_3 x13_4 hE
              rw [l_X12_rents_133] at hE
              refine pm_iloadi hG dX12_rents_133 rfl ?_
              refine pm_aloadn hG dX12_rents_135 rfl ?_
              refine pm_getf hG dX12_rents_136 (flX12_58 _ rfl) rfl rfl ?_
              refine pm_iloadn hG dX12_rents_139 rfl ?_
              refine fx_iald hG dX12_rents_140 rfl hj2 ?_
              refine pm_icmp_ge (tgt := 195) hG dX12_rents_141 rfl (fun c14 => ?_) (fun c14 => ?_)
              · replace c14 := Int32.not_lt.mpr c14
                replace hE := fx_f c14 hE
                exact hk133 _ _ _ hE
              · replace c14 := Int32.not_le.mp c14
                replace hE := fx_t c14 hE
                refine pm_aloadn hG dX12_rents_144 rfl ?_
                refine pm_getf hG dX12_rents_145 (flX12_61 _ rfl) rfl rfl ?_
                refine pm_bipush (v := 24) hG dX12_rents_148 (by decide) ?_
                refine pm_iloadn hG dX12_rents_150 rfl ?_
                refine pm_imul hG dX12_rents_151 ?_
                refine pm_iloadi hG dX12_rents_152 rfl ?_
                refine pm_iadd hG dX12_rents_154 ?_
                obtain ⟨j15, hj15, hE⟩ := fb_some hE
                refine fx_iald hG dX12_rents_155 rfl hj15 ?_
                refine pm_if_ge (tgt := 162) hG dX12_rents_156 rfl (fun c16 => ?_) (fun c16 => ?_)
                · replace c16 := Int32.not_lt.mpr c16
                  replace hE := fx_f c16 hE
                  refine pm_aloadn hG dX12_rents_162 rfl ?_
                  refine pm_getf hG dX12_rents_163 (flX12_7 _ rfl) rfl rfl ?_
                  refine pm_bipush (v := 20) hG dX12_rents_166 (by decide) ?_
                  refine pm_iconst (v := 3) hG dX12_rents_168 (by decide) ?_
                  refine pm_iloadi hG dX12_rents_169 rfl ?_
                  refine pm_imul hG dX12_rents_171 ?_
                  refine pm_iadd hG dX12_rents_172 ?_
                  refine pm_aloadn hG dX12_rents_173 rfl ?_
                  refine pm_getf hG dX12_rents_174 (flX12_61 _ rfl) rfl rfl ?_
                  refine pm_bipush (v := 24) hG dX12_rents_177 (by decide) ?_
                  refine pm_iloadn hG dX12_rents_179 rfl ?_
                  refine pm_imul hG dX12_rents_180 ?_
                  refine pm_iloadi hG dX12_rents_181 rfl ?_
                  refine pm_iadd hG dX12_rents_183 ?_
                  refine fx_iald hG dX12_rents_184 rfl hj15 ?_
                  obtain ⟨j17, hj17, hE⟩ := fb_some hE
                  refine fx_iast hG dX12_rents_185 rfl hj17 ?_
                  refine ma_55 ?_
                  refine fx_letm hE (fun S18 hE => ?_)
                  refine pm_iincX (v := x13_3 + 1) (loc' := [some (.ref (B + 54)), some (.int za), some (.int zb), some (.int (x13_3 + 1)), some (.int x13_4)]) hG dX12_rents_186 rfl (by rfl) (by decide) (pm_c1b rfl) rfl ?_
                  refine pm_iincX (v := x13_4 + 1) (loc' := [some (.ref (B + 54)), some (.int za), some (.int zb), some (.int (x13_3 + 1)), some (.int (x13_4 + 1))]) hG dX12_rents_189 rfl (by rfl) (by decide) (pm_c1b rfl) rfl ?_
                  refine pm_goto (tgt := 133) hG dX12_rents_192 rfl ?_
                  exact ih133 _ _ _ hE
                · replace c16 := Int32.not_le.mp c16
                  replace hE := fx_t c16 hE
                  refine pm_goto (tgt := 189) hG dX12_rents_159 rfl ?_
                  refine pm_iincX (v := x13_4 + 1) (loc' := [some (.ref (B + 54)), some (.int za), some (.int zb), some (.int x13_3), some (.int (x13_4 + 1))]) hG dX12_rents_189 rfl (by rfl) (by decide) (pm_c1b rfl) rfl ?_
                  refine pm_goto (tgt := 133) hG dX12_rents_192 rfl ?_
                  exact ih133 _ _ _ hE
          refine loop133 _ (fun S19 x19_3 x19_4 hE => ?_) _ _ _ _ hE
          refine pm_iloadn hG dX12_rents_195 rfl ?_
          exact pm_iret hG hF dX12_rents_196 rfl (Nat.le_refl _) (Nat.le_refl _) (fx_rim hE)
        · replace c5 := Int32.not_le.mp c5
          replace hE := fx_t c5 hE
          refine pm_aloadn hG dX12_rents_77 rfl ?_
          refine pm_iconst (v := 3) hG dX12_rents_78 (by decide) ?_
          obtain ⟨r21, h20, hE⟩ := fb_some hE
          refine pm_callV (As := [.int 3]) (rest := []) hG hR dX12_rents_79 (lkX12_80 _ rfl) okV_X12_finds rfl rfl (c_X12_finds (d := 2) (by decide) h20) rfl rfl hdd (Nat.le_refl _) (Nat.le_refl _) (by decide) (fx_ki ?_)
          exact pm_iret hG hF dX12_rents_82 rfl (Nat.le_refl _) (Nat.le_refl _) (fx_rim hE)
      · replace hE := fx_f c4 hE
        refine pm_aloadn hG dX12_rents_56 rfl ?_
        refine pm_iconst (v := 5) hG dX12_rents_57 (by decide) ?_
        obtain ⟨r23, h22, hE⟩ := fb_some hE
        refine pm_callV (As := [.int 5]) (rest := []) hG hR dX12_rents_58 (lkX12_80 _ rfl) okV_X12_finds rfl rfl (c_X12_finds (d := 2) (by decide) h22) rfl rfl hdd (Nat.le_refl _) (Nat.le_refl _) (by decide) (fx_ki ?_)
        exact pm_iret hG hF dX12_rents_61 rfl (Nat.le_refl _) (Nat.le_refl _) (fx_rim hE)
    · replace hE := fx_t c3 hE
      refine pm_aloadn hG dX12_rents_40 rfl ?_
      refine pm_iconst (v := 2) hG dX12_rents_41 (by decide) ?_
      obtain ⟨r25, h24, hE⟩ := fb_some hE
      refine pm_callV (As := [.int 2]) (rest := []) hG hR dX12_rents_42 (lkX12_80 _ rfl) okV_X12_finds rfl rfl (c_X12_finds (d := 2) (by decide) h24) rfl rfl hdd (Nat.le_refl _) (Nat.le_refl _) (by decide) (fx_ki ?_)
      exact pm_iret hG hF dX12_rents_45 rfl (Nat.le_refl _) (Nat.le_refl _) (fx_rim hE)
  refine pm_iloadn hG dX12_rents_0 rfl ?_
  refine pm_callS (As := [.int za]) (rest := []) hG hR dX12_rents_1 (lkX12_239 _ rfl) okS_X12_isSheet (c_X12_isSheet (d := 2) (by decide) rfl) rfl rfl hdd (Nat.le_refl _) (Nat.le_refl _) (by decide) (fx_ki ?_)
  refine pm_if_eq (tgt := 25) hG dX12_rents_4 rfl (fun c26 => ?_) (fun c26 => ?_)
  · replace hE := fx_t c26 hE
    refine pm_aloadn hG dX12_rents_25 rfl ?_
    refine pm_iconst (v := 1) hG dX12_rents_26 (by decide) ?_
    obtain ⟨r28, h27, hE⟩ := fb_some hE
    refine pm_callV (As := [.int 1]) (rest := []) hG hR dX12_rents_27 (lkX12_80 _ rfl) okV_X12_finds rfl rfl (c_X12_finds (d := 2) (by decide) h27) rfl rfl hdd (Nat.le_refl _) (Nat.le_refl _) (by decide) (fx_ki ?_)
    exact pm_iret hG hF dX12_rents_30 rfl (Nat.le_refl _) (Nat.le_refl _) (fx_rim hE)
  · replace hE := fx_f c26 hE
    refine pm_iloadn hG dX12_rents_7 rfl ?_
    refine pm_bipush (v := 8) hG dX12_rents_8 (by decide) ?_
    refine pm_icmp_eq (tgt := 31) hG dX12_rents_10 rfl (fun c29 => ?_) (fun c29 => ?_)
    · replace hE := fx_t c29 hE
      exact join31 _ hE
    · replace hE := fx_f c29 hE
      refine pm_iloadn hG dX12_rents_13 rfl ?_
      refine pm_bipush (v := 16) hG dX12_rents_14 (by decide) ?_
      refine pm_icmp_eq (tgt := 31) hG dX12_rents_16 rfl (fun c30 => ?_) (fun c30 => ?_)
      · replace hE := fx_t c30 hE
        exact join31 _ hE
      · replace hE := fx_f c30 hE
        refine pm_iloadn hG dX12_rents_19 rfl ?_
        refine pm_bipush (v := 32) hG dX12_rents_20 (by decide) ?_
        refine pm_icmp_eq (tgt := 31) hG dX12_rents_22 rfl (fun c31 => ?_) (fun c31 => ?_)
        · replace hE := fx_t c31 hE
          exact join31 _ hE
        · replace hE := fx_f c31 hE
          refine pm_aloadn hG dX12_rents_25 rfl ?_
          refine pm_iconst (v := 1) hG dX12_rents_26 (by decide) ?_
          obtain ⟨r33, h32, hE⟩ := fb_some hE
          refine pm_callV (As := [.int 1]) (rest := []) hG hR dX12_rents_27 (lkX12_80 _ rfl) okV_X12_finds rfl rfl (c_X12_finds (d := 2) (by decide) h32) rfl rfl hdd (Nat.le_refl _) (Nat.le_refl _) (by decide) (fx_ki ?_)
          exact pm_iret hG hF dX12_rents_30 rfl (Nat.le_refl _) (Nat.le_refl _) (fx_rim hE)

set_option maxRecDepth 100000 in
set_option maxHeartbeats 4000000 in
theorem c_X12_restore {d : Nat} {B cnt : Nat} {σ : pm_S} {S : FS} {R : Int32 × FS} (hdd : 2 ≤ d) (hE : f_X12_restore S = some R) : pm_met mX12_restore d 0 0 B [.ref (B + 54)] cnt (mst B S σ) (pm_Qi (fun v σ' cnt' => v = R.1 ∧ σ' = (mst B R.2 σ) ∧ cnt' = cnt)) := by
  refine pm_enter 1 (by decide) (Nat.le_of_ble_eq_true rfl) rfl (fun G hG hR hF => ?_)
  unfold f_X12_restore at hE
  refine pm_aloadn hG dX12_restore_0 rfl ?_
  refine pm_getf hG dX12_restore_1 (flX12_319 _ rfl) rfl rfl ?_
  refine pm_if_ne (tgt := 13) hG dX12_restore_4 rfl (fun c1 => ?_) (fun c1 => ?_)
  · replace hE := fx_f c1 hE
    refine pm_iconst (v := 0) hG dX12_restore_13 (by decide) ?_
    refine pm_istoreXn (loc' := [some (.ref (B + 54)), some (.int 0)]) hG dX12_restore_14 (by decide) (pm_c1b rfl) rfl ?_
    have loop15 : ∀ (k15 : FS → Int32 → Option (Int32 × FS)), (∀ (S2 : FS) (x2_1 : Int32), k15 S2  x2_1 = some R → pm_wp mX12_restore G B 40 [some (.ref (B + 54)), some (.int x2_1)] [] 0 0 cnt (mst B S2 σ)) → ∀ (m15 : Nat) (S2 : FS) (x2_1 : Int32), l_X12_restore_15 k15 m15 S2  x2_1 = some R → pm_wp mX12_restore G B 15 [some (.ref (B + 54)), some (.int x2_1)] [] 0 0 cnt (mst B S2 σ) := by
      intro k15 hk15 m15
      induction m15 with
      | zero => intro S2  x2_1 hE; exact fx_no hE
      | succ m15 ih15 =>
        intro S2  x2_1 hE
        rw [l_X12_restore_15] at hE
        refine pm_iloadn hG dX12_restore_15 rfl ?_
        refine pm_sipush (v := 2071) hG dX12_restore_16 (by decide) ?_
        refine pm_icmp_ge (tgt := 40) hG dX12_restore_19 rfl (fun c3 => ?_) (fun c3 => ?_)
        · replace c3 := Int32.not_lt.mpr c3
          replace hE := fx_f c3 hE
          exact hk15 _ _ hE
        · replace c3 := Int32.not_le.mp c3
          replace hE := fx_t c3 hE
          refine pm_aloadn hG dX12_restore_22 rfl ?_
          refine pm_getf hG dX12_restore_23 (flX12_7 _ rfl) rfl rfl ?_
          refine pm_iloadn hG dX12_restore_26 rfl ?_
          refine pm_aloadn hG dX12_restore_27 rfl ?_
          refine pm_getf hG dX12_restore_28 (flX12_13 _ rfl) rfl rfl ?_
          refine pm_iloadn hG dX12_restore_31 rfl ?_
          obtain ⟨j4, hj4, hE⟩ := fb_some hE
          refine fx_iald hG dX12_restore_32 rfl hj4 ?_
          refine fx_iast hG dX12_restore_33 rfl hj4 ?_
          refine ma_55 ?_
          refine fx_letm hE (fun S5 hE => ?_)
          refine pm_iincX (v := x2_1 + 1) (loc' := [some (.ref (B + 54)), some (.int (x2_1 + 1))]) hG dX12_restore_34 rfl (by rfl) (by decide) (pm_c1b rfl) rfl ?_
          refine pm_goto (tgt := 15) hG dX12_restore_37 rfl ?_
          exact ih15 _ _ hE
    refine loop15 _ (fun S6 x6_1 hE => ?_) _ _ _ hE
    refine pm_aloadn hG dX12_restore_40 rfl ?_
    refine pm_getf hG dX12_restore_41 (flX12_7 _ rfl) rfl rfl ?_
    refine pm_bipush (v := 8) hG dX12_restore_44 (by decide) ?_
    refine fx_iald hG dX12_restore_46 rfl (ix_lit (by decide) rfl) ?_
    exact pm_iret hG hF dX12_restore_47 rfl (Nat.le_refl _) (Nat.le_refl _) (fx_rim hE)
  · replace hE := fx_t c1 hE
    refine pm_aloadn hG dX12_restore_7 rfl ?_
    refine pm_iconst (v := 2) hG dX12_restore_8 (by decide) ?_
    obtain ⟨r8, h7, hE⟩ := fb_some hE
    refine pm_callV (As := [.int 2]) (rest := []) hG hR dX12_restore_9 (lkX12_80 _ rfl) okV_X12_finds rfl rfl (c_X12_finds (d := 1) (by decide) h7) rfl rfl hdd (Nat.le_refl _) (Nat.le_refl _) (by decide) (fx_ki ?_)
    exact pm_iret hG hF dX12_restore_12 rfl (Nat.le_refl _) (Nat.le_refl _) (fx_rim hE)

set_option maxRecDepth 100000 in
set_option maxHeartbeats 4000000 in
theorem c_X12_road {d : Nat} {B cnt : Nat} {σ : pm_S} {S : FS} {za : Int32} {zb : Int32} {zc : Int32} {R : Int32 × FS} (hdd : 3 ≤ d) (hE : f_X12_road S za zb zc = some R) : pm_met mX12_road d 0 0 B [.ref (B + 54), .int za, .int zb, .int zc] cnt (mst B S σ) (pm_Qi (fun v σ' cnt' => v = R.1 ∧ σ' = (mst B R.2 σ) ∧ cnt' = cnt)) := by
  refine pm_enter 1 (by decide) (Nat.le_of_ble_eq_true rfl) rfl (fun G hG hR hF => ?_)
  unfold f_X12_road at hE
  refine pm_aloadn hG dX12_road_0 rfl ?_
  refine pm_iloadn hG dX12_road_1 rfl ?_
  refine pm_callV (As := [.int za]) (rest := []) hG hR dX12_road_2 (lkX12_84 _ rfl) okV_X12_isTown rfl rfl (c_X12_isTown (d := 2) (by decide) rfl) rfl rfl hdd (Nat.le_refl _) (Nat.le_refl _) (by decide) (fx_ki ?_)
  refine pm_if_eq (tgt := 31) hG dX12_road_5 rfl (fun c1 => ?_) (fun c1 => ?_)
  · replace hE := fx_t c1 hE
    refine pm_aloadn hG dX12_road_31 rfl ?_
    refine pm_iconst (v := 1) hG dX12_road_32 (by decide) ?_
    obtain ⟨r3, h2, hE⟩ := fb_some hE
    refine pm_callV (As := [.int 1]) (rest := []) hG hR dX12_road_33 (lkX12_80 _ rfl) okV_X12_finds rfl rfl (c_X12_finds (d := 2) (by decide) h2) rfl rfl hdd (Nat.le_refl _) (Nat.le_refl _) (by decide) (fx_ki ?_)
    exact pm_iret hG hF dX12_road_36 rfl (Nat.le_refl _) (Nat.le_refl _) (fx_rim hE)
  · replace hE := fx_f c1 hE
    refine pm_aloadn hG dX12_road_8 rfl ?_
    refine pm_iloadn hG dX12_road_9 rfl ?_
    refine pm_callV (As := [.int zb]) (rest := []) hG hR dX12_road_10 (lkX12_84 _ rfl) okV_X12_isTown rfl rfl (c_X12_isTown (d := 2) (by decide) rfl) rfl rfl hdd (Nat.le_refl _) (Nat.le_refl _) (by decide) (fx_ki ?_)
    refine pm_if_eq (tgt := 31) hG dX12_road_13 rfl (fun c4 => ?_) (fun c4 => ?_)
    · replace hE := fx_t c4 hE
      refine pm_aloadn hG dX12_road_31 rfl ?_
      refine pm_iconst (v := 1) hG dX12_road_32 (by decide) ?_
      obtain ⟨r6, h5, hE⟩ := fb_some hE
      refine pm_callV (As := [.int 1]) (rest := []) hG hR dX12_road_33 (lkX12_80 _ rfl) okV_X12_finds rfl rfl (c_X12_finds (d := 2) (by decide) h5) rfl rfl hdd (Nat.le_refl _) (Nat.le_refl _) (by decide) (fx_ki ?_)
      exact pm_iret hG hF dX12_road_36 rfl (Nat.le_refl _) (Nat.le_refl _) (fx_rim hE)
    · replace hE := fx_f c4 hE
      refine pm_iloadn hG dX12_road_16 rfl ?_
      refine pm_iloadn hG dX12_road_17 rfl ?_
      refine pm_icmp_eq (tgt := 31) hG dX12_road_18 rfl (fun c7 => ?_) (fun c7 => ?_)
      · replace hE := fx_t c7 hE
        refine pm_aloadn hG dX12_road_31 rfl ?_
        refine pm_iconst (v := 1) hG dX12_road_32 (by decide) ?_
        obtain ⟨r9, h8, hE⟩ := fb_some hE
        refine pm_callV (As := [.int 1]) (rest := []) hG hR dX12_road_33 (lkX12_80 _ rfl) okV_X12_finds rfl rfl (c_X12_finds (d := 2) (by decide) h8) rfl rfl hdd (Nat.le_refl _) (Nat.le_refl _) (by decide) (fx_ki ?_)
        exact pm_iret hG hF dX12_road_36 rfl (Nat.le_refl _) (Nat.le_refl _) (fx_rim hE)
      · replace hE := fx_f c7 hE
        refine pm_iloadn hG dX12_road_21 rfl ?_
        refine pm_iconst (v := 1) hG dX12_road_22 (by decide) ?_
        refine pm_bipush (v := 9) hG dX12_road_23 (by decide) ?_
        refine pm_callS (As := [.int zc, .int 1, .int 9]) (rest := []) hG hR dX12_road_25 (lkX12_68 _ rfl) okS_X12_in (c_X12_in (d := 2) (by decide) rfl) rfl rfl hdd (Nat.le_refl _) (Nat.le_refl _) (by decide) (fx_ki ?_)
        refine pm_if_ne (tgt := 37) hG dX12_road_28 rfl (fun c10 => ?_) (fun c10 => ?_)
        · replace hE := fx_f c10 hE
          refine pm_aloadn hG dX12_road_37 rfl ?_
          refine pm_getf hG dX12_road_38 (flX12_7 _ rfl) rfl rfl ?_
          refine pm_iconst (v := 1) hG dX12_road_41 (by decide) ?_
          refine fx_iald hG dX12_road_42 rfl (ix_lit (by decide) rfl) ?_
          refine fx_letv hE (fun x11 hE => ?_)
          refine pm_istoreXi (loc' := [some (.ref (B + 54)), some (.int za), some (.int zb), some (.int zc), some (.int x11)]) hG dX12_road_43 (by decide) (pm_c1b rfl) rfl ?_
          refine pm_iloadi hG dX12_road_45 rfl ?_
          refine pm_bipush (v := 20) hG dX12_road_47 (by decide) ?_
          refine pm_icmp_ne (tgt := 58) hG dX12_road_49 rfl (fun c12 => ?_) (fun c12 => ?_)
          · replace hE := fx_f c12 hE
            refine pm_aloadn hG dX12_road_58 rfl ?_
            refine pm_getf hG dX12_road_59 (flX12_7 _ rfl) rfl rfl ?_
            refine pm_iconst (v := 1) hG dX12_road_62 (by decide) ?_
            refine pm_dup2 hG dX12_road_63 rfl rfl ?_
            refine fx_iald hG dX12_road_64 rfl (ix_lit (by decide) rfl) ?_
            refine pm_iconst (v := 1) hG dX12_road_65 (by decide) ?_
            refine pm_iadd hG dX12_road_66 ?_
            refine fx_iast hG dX12_road_67 rfl (ix_lit (by decide) rfl) ?_
            refine ma_55 ?_
            refine fx_letm hE (fun S13 hE => ?_)
            refine pm_aloadn hG dX12_road_68 rfl ?_
            refine pm_getf hG dX12_road_69 (flX12_7 _ rfl) rfl rfl ?_
            refine pm_bipush (v := 50) hG dX12_road_72 (by decide) ?_
            refine pm_iconst (v := 3) hG dX12_road_74 (by decide) ?_
            refine pm_iloadi hG dX12_road_75 rfl ?_
            refine pm_imul hG dX12_road_77 ?_
            refine pm_iadd hG dX12_road_78 ?_
            refine pm_iloadn hG dX12_road_79 rfl ?_
            obtain ⟨j14, hj14, hE⟩ := fb_some hE
            refine fx_iast hG dX12_road_80 rfl hj14 ?_
            refine ma_55 ?_
            refine fx_letm hE (fun S15 hE => ?_)
            refine pm_aloadn hG dX12_road_81 rfl ?_
            refine pm_getf hG dX12_road_82 (flX12_7 _ rfl) rfl rfl ?_
            refine pm_bipush (v := 50) hG dX12_road_85 (by decide) ?_
            refine pm_iconst (v := 3) hG dX12_road_87 (by decide) ?_
            refine pm_iloadi hG dX12_road_88 rfl ?_
            refine pm_imul hG dX12_road_90 ?_
            refine pm_iadd hG dX12_road_91 ?_
            refine pm_iconst (v := 1) hG dX12_road_92 (by decide) ?_
            refine pm_iadd hG dX12_road_93 ?_
            refine pm_iloadn hG dX12_road_94 rfl ?_
            obtain ⟨j16, hj16, hE⟩ := fb_some hE
            refine fx_iast hG dX12_road_95 rfl hj16 ?_
            refine ma_55 ?_
            refine fx_letm hE (fun S17 hE => ?_)
            refine pm_aloadn hG dX12_road_96 rfl ?_
            refine pm_getf hG dX12_road_97 (flX12_7 _ rfl) rfl rfl ?_
            refine pm_bipush (v := 50) hG dX12_road_100 (by decide) ?_
            refine pm_iconst (v := 3) hG dX12_road_102 (by decide) ?_
            refine pm_iloadi hG dX12_road_103 rfl ?_
            refine pm_imul hG dX12_road_105 ?_
            refine pm_iadd hG dX12_road_106 ?_
            refine pm_iconst (v := 2) hG dX12_road_107 (by decide) ?_
            refine pm_iadd hG dX12_road_108 ?_
            refine pm_iloadn hG dX12_road_109 rfl ?_
            obtain ⟨j18, hj18, hE⟩ := fb_some hE
            refine fx_iast hG dX12_road_110 rfl hj18 ?_
            refine ma_55 ?_
            refine fx_letm hE (fun S19 hE => ?_)
            refine pm_iloadi hG dX12_road_111 rfl ?_
            refine pm_iconst (v := 1) hG dX12_road_113 (by decide) ?_
            refine pm_iadd hG dX12_road_114 ?_
            exact pm_iret hG hF dX12_road_115 rfl (Nat.le_refl _) (Nat.le_refl _) (fx_rim hE)
          · replace hE := fx_t c12 hE
            refine pm_aloadn hG dX12_road_52 rfl ?_
            refine pm_iconst (v := 4) hG dX12_road_53 (by decide) ?_
            obtain ⟨r21, h20, hE⟩ := fb_some hE
            refine pm_callV (As := [.int 4]) (rest := []) hG hR dX12_road_54 (lkX12_80 _ rfl) okV_X12_finds rfl rfl (c_X12_finds (d := 2) (by decide) h20) rfl rfl hdd (Nat.le_refl _) (Nat.le_refl _) (by decide) (fx_ki ?_)
            exact pm_iret hG hF dX12_road_57 rfl (Nat.le_refl _) (Nat.le_refl _) (fx_rim hE)
        · replace hE := fx_t c10 hE
          refine pm_aloadn hG dX12_road_31 rfl ?_
          refine pm_iconst (v := 1) hG dX12_road_32 (by decide) ?_
          obtain ⟨r23, h22, hE⟩ := fb_some hE
          refine pm_callV (As := [.int 1]) (rest := []) hG hR dX12_road_33 (lkX12_80 _ rfl) okV_X12_finds rfl rfl (c_X12_finds (d := 2) (by decide) h22) rfl rfl hdd (Nat.le_refl _) (Nat.le_refl _) (by decide) (fx_ki ?_)
          exact pm_iret hG hF dX12_road_36 rfl (Nat.le_refl _) (Nat.le_refl _) (fx_rim hE)
