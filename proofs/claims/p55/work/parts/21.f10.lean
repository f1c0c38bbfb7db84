section
set_option maxRecDepth 100000 in
set_option maxHeartbeats 4000000 in
theorem c_X12_obeys {d : Nat} {B cnt : Nat} {σ : pm_S} {S : FS} {za : Int32} {R : Int32 × FS} (hdd : 5 ≤ d) (hE : f_X12_obeys S za = some R) : pm_met mX12_obeys d 0 0 B [.ref (B + 54), .int za] cnt (mst B S σ) (pm_Qi (fun v σ' cnt' => v = R.1 ∧ σ' = (mst B R.2 σ) ∧ cnt' = cnt)) := by
  refine pm_enter 5 (by decide) (Nat.le_of_ble_eq_true rfl) rfl (fun G hG hR hF => ?_)
  unfold f_X12_obeys at hE
  refine pm_aloadn hG dX12_obeys_0 rfl ?_
  refine pm_iloadn hG dX12_obeys_1 rfl ?_
  refine pm_iconst (v := 4) hG dX12_obeys_2 (by decide) ?_
  obtain ⟨x2, h1, hE⟩ := fb_some hE
  refine pm_callV (As := [.int za, .int 4]) (rest := []) hG hR dX12_obeys_3 (lkX12_199 _ rfl) okV_X12_of rfl rfl (c_X12_of (d := 4) (by decide) h1) rfl rfl hdd (Nat.le_refl _) (Nat.le_refl _) (by decide) (fx_ki ?_)
  refine pm_istoreXn (loc' := [some (.ref (B + 54)), some (.int za), some (.int x2), none, none, none, none]) hG dX12_obeys_6 (by decide) (pm_c1b rfl) rfl ?_
  refine pm_aloadn hG dX12_obeys_7 rfl ?_
  refine pm_iloadn hG dX12_obeys_8 rfl ?_
  refine pm_iconst (v := 2) hG dX12_obeys_9 (by decide) ?_
  obtain ⟨x4, h3, hE⟩ := fb_some hE
  refine pm_callV (As := [.int za, .int 2]) (rest := []) hG hR dX12_obeys_10 (lkX12_199 _ rfl) okV_X12_of rfl rfl (c_X12_of (d := 4) (by decide) h3) rfl rfl hdd (Nat.le_refl _) (Nat.le_refl _) (by decide) (fx_ki ?_)
  refine pm_istoreXn (loc' := [some (.ref (B + 54)), some (.int za), some (.int x2), some (.int x4), none, none, none]) hG dX12_obeys_13 (by decide) (pm_c1b rfl) rfl ?_
  refine pm_aloadn hG dX12_obeys_14 rfl ?_
  refine pm_iloadn hG dX12_obeys_15 rfl ?_
  refine pm_iconst (v := 1) hG dX12_obeys_16 (by decide) ?_
  obtain ⟨x6, h5, hE⟩ := fb_some hE
  refine pm_callV (As := [.int za, .int 1]) (rest := []) hG hR dX12_obeys_17 (lkX12_199 _ rfl) okV_X12_of rfl rfl (c_X12_of (d := 4) (by decide) h5) rfl rfl hdd (Nat.le_refl _) (Nat.le_refl _) (by decide) (fx_ki ?_)
  by_cases c7 : x6 = 0
  · replace hE := fx_t c7 hE
    refine pm_top (v := 0) c7 ?_
    refine pm_tswIn (tgt := 52) hG dX12_obeys_20 (by decide) (by decide) rfl rfl ?_
    refine pm_aloadn hG dX12_obeys_52 rfl ?_
    refine pm_getf hG dX12_obeys_53 (flX12_7 _ rfl) rfl rfl ?_
    refine pm_bipush (v := 9) hG dX12_obeys_56 (by decide) ?_
    refine pm_dup2 hG dX12_obeys_58 rfl rfl ?_
    refine fx_iald hG dX12_obeys_59 rfl (ix_lit (by decide) rfl) ?_
    refine pm_iloadn hG dX12_obeys_60 rfl ?_
    refine pm_isub hG dX12_obeys_61 ?_
    refine fx_iast hG dX12_obeys_62 rfl (ix_lit (by decide) rfl) ?_
    refine ma_55 ?_
    refine fx_letm hE (fun S8 hE => ?_)
    refine pm_aloadn hG dX12_obeys_63 rfl ?_
    refine pm_iloadn hG dX12_obeys_64 rfl ?_
    refine pm_bipush (v := 7) hG dX12_obeys_65 (by decide) ?_
    refine pm_aloadn hG dX12_obeys_67 rfl ?_
    refine pm_iloadn hG dX12_obeys_68 rfl ?_
    refine pm_bipush (v := 7) hG dX12_obeys_69 (by decide) ?_
    obtain ⟨x10, h9, hE⟩ := fb_some hE
    refine pm_callV (As := [.int x2, .int 7]) (rest := [.int 7, .int x2, .ref (B + 54)]) hG hR dX12_obeys_71 (lkX12_72 _ rfl) okV_X12_man rfl rfl (c_X12_man (d := 4) (by decide) h9) rfl rfl hdd (Nat.le_refl _) (Nat.le_refl _) (by first | decide | exact Nat.le_of_ble_eq_true rfl) (fx_ki ?_)
    refine pm_iloadn hG dX12_obeys_74 rfl ?_
    refine pm_iadd hG dX12_obeys_75 ?_
    obtain ⟨r12, h11, hE⟩ := fb_some hE
    refine pm_callV (As := [.int x2, .int 7, .int (x10 + x4)]) (rest := []) hG hR dX12_obeys_76 (lkX12_97 _ rfl) okV_X12_sets rfl rfl (c_X12_sets (d := 4) (by decide) h11) rfl rfl hdd (Nat.le_refl _) (Nat.le_refl _) (by decide) (fx_kv ?_)
    refine pm_aloadn hG dX12_obeys_79 rfl ?_
    refine pm_getf hG dX12_obeys_80 (flX12_7 _ rfl) rfl rfl ?_
    refine pm_bipush (v := 9) hG dX12_obeys_83 (by decide) ?_
    refine fx_iald hG dX12_obeys_85 rfl (ix_lit (by decide) rfl) ?_
    exact pm_iret hG hF dX12_obeys_86 rfl (Nat.le_refl _) (Nat.le_refl _) (fx_rim hE)
  replace hE := fx_f c7 hE
  by_cases c13 : x6 = 1
  · replace hE := fx_t c13 hE
    refine pm_top (v := 1) c13 ?_
    refine pm_tswIn (tgt := 87) hG dX12_obeys_20 (by decide) (by decide) rfl rfl ?_
    refine pm_aloadn hG dX12_obeys_87 rfl ?_
    refine pm_iloadn hG dX12_obeys_88 rfl ?_
    refine pm_iloadn hG dX12_obeys_89 rfl ?_
    refine pm_aloadn hG dX12_obeys_90 rfl ?_
    refine pm_getf hG dX12_obeys_91 (flX12_7 _ rfl) rfl rfl ?_
    refine pm_iconst (v := 0) hG dX12_obeys_94 (by decide) ?_
    refine fx_iald hG dX12_obeys_95 rfl (ix_lit (by decide) rfl) ?_
    obtain ⟨u15, h14, hE⟩ := fb_some hE
    refine pm_irem hG dX12_obeys_96 (nz_n h14) ?_
    obtain ⟨r17, h16, hE⟩ := fb_some hE
    refine pm_callV (As := [.int x2, .int (x4 - x4 / (S.2 55 0) * (S.2 55 0))]) (rest := []) hG hR dX12_obeys_97 (lkX12_119 _ rfl) okV_X12_goes rfl rfl (c_X12_goes (d := 4) (by decide) h16) rfl rfl hdd (Nat.le_refl _) (Nat.le_refl _) (by decide) (fx_ki ?_)
    exact pm_iret hG hF dX12_obeys_100 rfl (Nat.le_refl _) (Nat.le_refl _) (fx_rim hE)
  replace hE := fx_f c13 hE
  by_cases c18 : x6 = 2
  · replace hE := fx_t c18 hE
    refine pm_top (v := 2) c18 ?_
    refine pm_tswIn (tgt := 101) hG dX12_obeys_20 (by decide) (by decide) rfl rfl ?_
    refine pm_aloadn hG dX12_obeys_101 rfl ?_
    refine pm_iloadn hG dX12_obeys_102 rfl ?_
    refine pm_iconst (v := 1) hG dX12_obeys_103 (by decide) ?_
    obtain ⟨x20, h19, hE⟩ := fb_some hE
    refine pm_callV (As := [.int x4, .int 1]) (rest := []) hG hR dX12_obeys_104 (lkX12_110 _ rfl) okV_X12_its rfl rfl (c_X12_its (d := 4) (by decide) h19) rfl rfl hdd (Nat.le_refl _) (Nat.le_refl _) (by decide) (fx_ki ?_)
    refine pm_istoreXi (loc' := [some (.ref (B + 54)), some (.int za), some (.int x2), some (.int x4), some (.int x20), none, none]) hG dX12_obeys_107 (by decide) (pm_c1b rfl) rfl ?_
    refine pm_aloadn hG dX12_obeys_109 rfl ?_
    refine pm_iloadn hG dX12_obeys_110 rfl ?_
    refine pm_iconst (v := 1) hG dX12_obeys_111 (by decide) ?_
    refine pm_iloadn hG dX12_obeys_112 rfl ?_
    obtain ⟨r22, h21, hE⟩ := fb_some hE
    refine pm_callV (As := [.int x4, .int 1, .int x2]) (rest := []) hG hR dX12_obeys_113 (lkX12_113 _ rfl) okV_X12_makes rfl rfl (c_X12_makes (d := 4) (by decide) h21) rfl rfl hdd (Nat.le_refl _) (Nat.le_refl _) (by decide) (fx_kv ?_)
    refine pm_aloadn hG dX12_obeys_116 rfl ?_
    refine pm_iloadn hG dX12_obeys_117 rfl ?_
    obtain ⟨r24, h23, hE⟩ := fb_some hE
    refine pm_callV (As := [.int x4]) (rest := []) hG hR dX12_obeys_118 (lkX12_116 _ rfl) okV_X12_comesBack rfl rfl (c_X12_comesBack (d := 4) (by decide) h23) rfl rfl hdd (Nat.le_refl _) (Nat.le_refl _) (by decide) (fx_kv ?_)
    refine pm_iloadi hG dX12_obeys_121 rfl ?_
    exact pm_iret hG hF dX12_obeys_123 rfl (Nat.le_refl _) (Nat.le_refl _) (fx_rim hE)
  replace hE := fx_f c18 hE
  by_cases c25 : x6 = 3
  · replace hE := fx_t c25 hE
    refine pm_top (v := 3) c25 ?_
    refine pm_tswIn (tgt := 124) hG dX12_obeys_20 (by decide) (by decide) rfl rfl ?_
    refine pm_aloadn hG dX12_obeys_124 rfl ?_
    refine pm_getf hG dX12_obeys_125 (flX12_7 _ rfl) rfl rfl ?_
    refine pm_sipush (v := 510) hG dX12_obeys_128 (by decide) ?_
    refine pm_bipush (v := 65) hG dX12_obeys_131 (by decide) ?_
    refine pm_iloadn hG dX12_obeys_133 rfl ?_
    refine pm_imul hG dX12_obeys_134 ?_
    refine pm_iadd hG dX12_obeys_135 ?_
    refine pm_iconst (v := 3) hG dX12_obeys_136 (by decide) ?_
    refine pm_iadd hG dX12_obeys_137 ?_
    refine pm_aloadn hG dX12_obeys_138 rfl ?_
    refine pm_getf hG dX12_obeys_139 (flX12_7 _ rfl) rfl rfl ?_
    refine pm_bipush (v := 8) hG dX12_obeys_142 (by decide) ?_
    refine fx_iald hG dX12_obeys_144 rfl (ix_lit (by decide) rfl) ?_
    obtain ⟨j26, hj26, hE⟩ := fb_some hE
    refine fx_iast hG dX12_obeys_145 rfl hj26 ?_
    refine ma_55 ?_
    refine fx_letm hE (fun S27 hE => ?_)
    refine pm_iconst (v := 1) hG dX12_obeys_146 (by decide) ?_
    exact pm_iret hG hF dX12_obeys_147 rfl (Nat.le_refl _) (Nat.le_refl _) (fx_rim hE)
  replace hE := fx_f c25 hE
  have tc7 : ¬ x6.toInt = 0 := fun q => c7 (Int32.toInt_inj.mp q)
  have tc13 : ¬ x6.toInt = 1 := fun q => c13 (Int32.toInt_inj.mp q)
  have tc18 : ¬ x6.toInt = 2 := fun q => c18 (Int32.toInt_inj.mp q)
  have tc25 : ¬ x6.toInt = 3 := fun q => c25 (Int32.toInt_inj.mp q)
  refine pm_tswOut (tgt := 148) hG dX12_obeys_20 (by omega) rfl ?_
  refine pm_iconst (v := 0) hG dX12_obeys_148 (by decide) ?_
  refine pm_istoreXi (loc' := [some (.ref (B + 54)), some (.int za), some (.int x2), some (.int x4), none, some (.int 0), none]) hG dX12_obeys_149 (by decide) (pm_c1b rfl) rfl ?_
  refine pm_iconst (v := 0) hG dX12_obeys_151 (by decide) ?_
  refine pm_istoreXi (loc' := [some (.ref (B + 54)), some (.int za), some (.int x2), some (.int x4), none, some (.int 0), some (.int 0)]) hG dX12_obeys_152 (by decide) (pm_c1b rfl) rfl ?_
  have loop154 : ∀ (k154 : FS → Int32 → Int32 → Option (Int32 × FS)), (∀ (S28 : FS) (x28_5 : Int32) (x28_6 : Int32), k154 S28  x28_5 x28_6 = some R → pm_wp mX12_obeys G B 215 [some (.ref (B + 54)), some (.int za), some (.int x2), some (.int x4), none, some (.int x28_5), some (.int x28_6)] [] 0 0 cnt (mst B S28 σ)) → ∀ (m154 : Nat) (S28 : FS) (x28_5 : Int32) (x28_6 : Int32), l_X12_obeys_154 x2 k154 m154 S28  x28_5 x28_6 = some R → pm_wp mX12_obeys G B 154 [some (.ref (B + 54)), some (.int za), some (.int x2), some (.int x4), none, some (.int x28_5), some (.int x28_6)] [] 0 0 cnt (mst B S28 σ) := by
    intro k154 hk154 m154
    induction m154 with
    | zero => intro S28  x28_5 x28_6 hE; exact fx_no hE
    | succ m154 ih154 =>
      intro S28  x28_5 x28_6 hE
      rw [l_X12_obeys_154] at hE
      refine pm_iloadi hG dX12_obeys_154 rfl ?_
      refine pm_aloadn hG dX12_obeys_156 rfl ?_
      refine pm_getf hG dX12_obeys_157 (flX12_7 _ rfl) rfl rfl ?_
      refine pm_bipush (v := 7) hG dX12_obeys_160 (by decide) ?_
      refine fx_iald hG dX12_obeys_162 rfl (ix_lit (by decide) rfl) ?_
      refine pm_icmp_ge (tgt := 215) hG dX12_obeys_163 rfl (fun c29 => ?_) (fun c29 => ?_)
      · replace c29 := Int32.not_lt.mpr c29
        replace hE := fx_f c29 hE
        exact hk154 _ _ _ hE
      · replace c29 := Int32.not_le.mp c29
        replace hE := fx_t c29 hE
        refine pm_aloadn hG dX12_obeys_166 rfl ?_
        refine pm_iloadi hG dX12_obeys_167 rfl ?_
        refine pm_iconst (v := 0) hG dX12_obeys_169 (by decide) ?_
        obtain ⟨x31, h30, hE⟩ := fb_some hE
        refine pm_callV (As := [.int x28_6, .int 0]) (rest := []) hG hR dX12_obeys_170 (lkX12_223 _ rfl) okV_X12_promised rfl rfl (c_X12_promised (d := 4) (by decide) h30) rfl rfl hdd (Nat.le_refl _) (Nat.le_refl _) (by decide) (fx_ki ?_)
        refine pm_iloadn hG dX12_obeys_173 rfl ?_
        refine pm_icmp_ne (tgt := 209) hG dX12_obeys_174 rfl (fun c32 => ?_) (fun c32 => ?_)
        · replace hE := fx_f c32 hE
          refine pm_iincX (v := x28_6 + 1) (loc' := [some (.ref (B + 54)), some (.int za), some (.int x2), some (.int x4), none, some (.int x28_5), some (.int (x28_6 + 1))]) hG dX12_obeys_209 rfl (by rfl) (by decide) (pm_c1b rfl) rfl ?_
          refine pm_goto (tgt := 154) hG dX12_obeys_212 rfl ?_
          exact ih154 _ _ _ hE
        · replace hE := fx_t c32 hE
          refine pm_aloadn hG dX12_obeys_177 rfl ?_
          refine pm_iloadi hG dX12_obeys_178 rfl ?_
          obtain ⟨x34, h33, hE⟩ := fb_some hE
          refine pm_callV (As := [.int x28_6]) (rest := []) hG hR dX12_obeys_180 (lkX12_226 _ rfl) okV_X12_stands rfl rfl (c_X12_stands (d := 4) (by decide) h33) rfl rfl hdd (Nat.le_refl _) (Nat.le_refl _) (by decide) (fx_ki ?_)
          refine pm_if_ne (tgt := 189) hG dX12_obeys_183 rfl (fun c35 => ?_) (fun c35 => ?_)
          · replace hE := fx_f c35 hE
            refine pm_aloadn hG dX12_obeys_189 rfl ?_
            refine pm_getf hG dX12_obeys_190 (flX12_7 _ rfl) rfl rfl ?_
            refine pm_sipush (v := 1806) hG dX12_obeys_193 (by decide) ?_
            refine pm_bipush (v := 6) hG dX12_obeys_196 (by decide) ?_
            refine pm_iloadi hG dX12_obeys_198 rfl ?_
            refine pm_imul hG dX12_obeys_200 ?_
            refine pm_iadd hG dX12_obeys_201 ?_
            refine pm_iconst (v := 4) hG dX12_obeys_202 (by decide) ?_
            refine pm_iadd hG dX12_obeys_203 ?_
            refine pm_iconst (v := 1) hG dX12_obeys_204 (by decide) ?_
            obtain ⟨j36, hj36, hE⟩ := fb_some hE
            refine fx_iast hG dX12_obeys_205 rfl hj36 ?_
            refine ma_55 ?_
            refine fx_letm hE (fun S37 hE => ?_)
            refine pm_iincX (v := x28_5 + 1) (loc' := [some (.ref (B + 54)), some (.int za), some (.int x2), some (.int x4), none, some (.int (x28_5 + 1)), some (.int x28_6)]) hG dX12_obeys_206 rfl (by rfl) (by decide) (pm_c1b rfl) rfl ?_
            refine pm_iincX (v := x28_6 + 1) (loc' := [some (.ref (B + 54)), some (.int za), some (.int x2), some (.int x4), none, some (.int (x28_5 + 1)), some (.int (x28_6 + 1))]) hG dX12_obeys_209 rfl (by rfl) (by decide) (pm_c1b rfl) rfl ?_
            refine pm_goto (tgt := 154) hG dX12_obeys_212 rfl ?_
            exact ih154 _ _ _ hE
          · replace hE := fx_t c35 hE
            refine pm_goto (tgt := 209) hG dX12_obeys_186 rfl ?_
            refine pm_iincX (v := x28_6 + 1) (loc' := [some (.ref (B + 54)), some (.int za), some (.int x2), some (.int x4), none, some (.int x28_5), some (.int (x28_6 + 1))]) hG dX12_obeys_209 rfl (by rfl) (by decide) (pm_c1b rfl) rfl ?_
            refine pm_goto (tgt := 154) hG dX12_obeys_212 rfl ?_
            exact ih154 _ _ _ hE
  refine loop154 _ (fun S38 x38_5 x38_6 hE => ?_) _ _ _ _ hE
  refine pm_iloadi hG dX12_obeys_215 rfl ?_
  exact pm_iret hG hF dX12_obeys_217 rfl (Nat.le_refl _) (Nat.le_refl _) (fx_rim hE)

set_option maxRecDepth 100000 in
set_option maxHeartbeats 4000000 in
theorem c_X12_obey {d : Nat} {B cnt : Nat} {σ : pm_S} {S : FS} {za : Int32} {R : Int32 × FS} (hdd : 6 ≤ d) (hE : f_X12_obey S za = some R) : pm_met mX12_obey d 0 0 B [.ref (B + 54), .int za] cnt (mst B S σ) (pm_Qi (fun v σ' cnt' => v = R.1 ∧ σ' = (mst B R.2 σ) ∧ cnt' = cnt)) := by
  refine pm_enter 0 (by decide) (Nat.le_of_ble_eq_true rfl) rfl (fun G hG hR hF => ?_)
  unfold f_X12_obey at hE
  refine pm_aloadn hG dX12_obey_0 rfl ?_
  refine pm_iloadn hG dX12_obey_1 rfl ?_
  refine pm_callV (As := [.int za]) (rest := []) hG hR dX12_obey_2 (lkX12_211 _ rfl) okV_X12_isLetter rfl rfl (c_X12_isLetter (d := 5) (by decide) rfl) rfl rfl hdd (Nat.le_refl _) (Nat.le_refl _) (by decide) (fx_ki ?_)
  refine pm_if_ne (tgt := 14) hG dX12_obey_5 rfl (fun c1 => ?_) (fun c1 => ?_)
  · replace hE := fx_f c1 hE
    refine pm_aloadn hG dX12_obey_14 rfl ?_
    refine pm_iloadn hG dX12_obey_15 rfl ?_
    refine pm_bipush (v := 6) hG dX12_obey_16 (by decide) ?_
    obtain ⟨x3, h2, hE⟩ := fb_some hE
    refine pm_callV (As := [.int za, .int 6]) (rest := []) hG hR dX12_obey_18 (lkX12_199 _ rfl) okV_X12_of rfl rfl (c_X12_of (d := 5) (by decide) h2) rfl rfl hdd (Nat.le_refl _) (Nat.le_refl _) (by decide) (fx_ki ?_)
    refine pm_if_lt (tgt := 48) hG dX12_obey_21 rfl (fun c4 => ?_) (fun c4 => ?_)
    · replace hE := fx_t c4 hE
      refine pm_aloadn hG dX12_obey_48 rfl ?_
      refine pm_iconst (v := 3) hG dX12_obey_49 (by decide) ?_
      obtain ⟨r6, h5, hE⟩ := fb_some hE
      refine pm_callV (As := [.int 3]) (rest := []) hG hR dX12_obey_50 (lkX12_80 _ rfl) okV_X12_finds rfl rfl (c_X12_finds (d := 5) (by decide) h5) rfl rfl hdd (Nat.le_refl _) (Nat.le_refl _) (by decide) (fx_ki ?_)
      exact pm_iret hG hF dX12_obey_53 rfl (Nat.le_refl _) (Nat.le_refl _) (fx_rim hE)
    · replace hE := fx_f c4 hE
      refine pm_aloadn hG dX12_obey_24 rfl ?_
      refine pm_iloadn hG dX12_obey_25 rfl ?_
      refine pm_bipush (v := 8) hG dX12_obey_26 (by decide) ?_
      obtain ⟨x8, h7, hE⟩ := fb_some hE
      refine pm_callV (As := [.int za, .int 8]) (rest := []) hG hR dX12_obey_28 (lkX12_199 _ rfl) okV_X12_of rfl rfl (c_X12_of (d := 5) (by decide) h7) rfl rfl hdd (Nat.le_refl _) (Nat.le_refl _) (by decide) (fx_ki ?_)
      refine pm_iconst (v := 1) hG dX12_obey_31 (by decide) ?_
      refine pm_icmp_eq (tgt := 48) hG dX12_obey_32 rfl (fun c9 => ?_) (fun c9 => ?_)
      · replace hE := fx_t c9 hE
        refine pm_aloadn hG dX12_obey_48 rfl ?_
        refine pm_iconst (v := 3) hG dX12_obey_49 (by decide) ?_
        obtain ⟨r11, h10, hE⟩ := fb_some hE
        refine pm_callV (As := [.int 3]) (rest := []) hG hR dX12_obey_50 (lkX12_80 _ rfl) okV_X12_finds rfl rfl (c_X12_finds (d := 5) (by decide) h10) rfl rfl hdd (Nat.le_refl _) (Nat.le_refl _) (by decide) (fx_ki ?_)
        exact pm_iret hG hF dX12_obey_53 rfl (Nat.le_refl _) (Nat.le_refl _) (fx_rim hE)
      · replace hE := fx_f c9 hE
        refine pm_aloadn hG dX12_obey_35 rfl ?_
        refine pm_aloadn hG dX12_obey_36 rfl ?_
        refine pm_iloadn hG dX12_obey_37 rfl ?_
        refine pm_iconst (v := 4) hG dX12_obey_38 (by decide) ?_
        obtain ⟨x13, h12, hE⟩ := fb_some hE
        refine pm_callV (As := [.int za, .int 4]) (rest := [.ref (B + 54)]) hG hR dX12_obey_39 (lkX12_199 _ rfl) okV_X12_of rfl rfl (c_X12_of (d := 5) (by decide) h12) rfl rfl hdd (Nat.le_refl _) (Nat.le_refl _) (by first | decide | exact Nat.le_of_ble_eq_true rfl) (fx_ki ?_)
        obtain ⟨x15, h14, hE⟩ := fb_some hE
        refine pm_callV (As := [.int x13]) (rest := []) hG hR dX12_obey_42 (lkX12_101 _ rfl) okV_X12_lives rfl rfl (c_X12_lives (d := 5) (by decide) h14) rfl rfl hdd (Nat.le_refl _) (Nat.le_refl _) (by decide) (fx_ki ?_)
        refine pm_if_ne (tgt := 54) hG dX12_obey_45 rfl (fun c16 => ?_) (fun c16 => ?_)
        · replace hE := fx_f c16 hE
          refine pm_aloadn hG dX12_obey_54 rfl ?_
          refine pm_iloadn hG dX12_obey_55 rfl ?_
          refine pm_bipush (v := 7) hG dX12_obey_56 (by decide) ?_
          obtain ⟨x18, h17, hE⟩ := fb_some hE
          refine pm_callV (As := [.int za, .int 7]) (rest := []) hG hR dX12_obey_58 (lkX12_199 _ rfl) okV_X12_of rfl rfl (c_X12_of (d := 5) (by decide) h17) rfl rfl hdd (Nat.le_refl _) (Nat.le_refl _) (by decide) (fx_ki ?_)
          refine pm_iconst (v := 1) hG dX12_obey_61 (by decide) ?_
          refine pm_icmp_eq (tgt := 71) hG dX12_obey_62 rfl (fun c19 => ?_) (fun c19 => ?_)
          · replace hE := fx_t c19 hE
            refine pm_aloadn hG dX12_obey_71 rfl ?_
            refine pm_iloadn hG dX12_obey_72 rfl ?_
            obtain ⟨r21, h20, hE⟩ := fb_some hE
            refine pm_callV (As := [.int za]) (rest := []) hG hR dX12_obey_73 (lkX12_229 _ rfl) okV_X12_cannot rfl rfl (c_X12_cannot (d := 5) (by decide) h20) rfl rfl hdd (Nat.le_refl _) (Nat.le_refl _) (by decide) (fx_ki ?_)
            refine pm_if_eq (tgt := 85) hG dX12_obey_76 rfl (fun c22 => ?_) (fun c22 => ?_)
            · replace hE := fx_t c22 hE
              refine pm_aloadn hG dX12_obey_85 rfl ?_
              refine pm_iloadn hG dX12_obey_86 rfl ?_
              refine pm_bipush (v := 8) hG dX12_obey_87 (by decide) ?_
              refine pm_iconst (v := 1) hG dX12_obey_89 (by decide) ?_
              obtain ⟨r24, h23, hE⟩ := fb_some hE
              refine pm_callV (As := [.int za, .int 8, .int 1]) (rest := []) hG hR dX12_obey_90 (lkX12_217 _ rfl) okV_X12_writes rfl rfl (c_X12_writes (d := 5) (by decide) h23) rfl rfl hdd (Nat.le_refl _) (Nat.le_refl _) (by decide) (fx_kv ?_)
              refine pm_aloadn hG dX12_obey_93 rfl ?_
              refine pm_iloadn hG dX12_obey_94 rfl ?_
              obtain ⟨r26, h25, hE⟩ := fb_some hE
              refine pm_callV (As := [.int za]) (rest := []) hG hR dX12_obey_95 (lkX12_232 _ rfl) okV_X12_obeys rfl rfl (c_X12_obeys (d := 5) (by decide) h25) rfl rfl hdd (Nat.le_refl _) (Nat.le_refl _) (by decide) (fx_ki ?_)
              exact pm_iret hG hF dX12_obey_98 rfl (Nat.le_refl _) (Nat.le_refl _) (fx_rim hE)
            · replace hE := fx_f c22 hE
              refine pm_aloadn hG dX12_obey_79 rfl ?_
              refine pm_iconst (v := 2) hG dX12_obey_80 (by decide) ?_
              obtain ⟨r28, h27, hE⟩ := fb_some hE
              refine pm_callV (As := [.int 2]) (rest := []) hG hR dX12_obey_81 (lkX12_80 _ rfl) okV_X12_finds rfl rfl (c_X12_finds (d := 5) (by decide) h27) rfl rfl hdd (Nat.le_refl _) (Nat.le_refl _) (by decide) (fx_ki ?_)
              exact pm_iret hG hF dX12_obey_84 rfl (Nat.le_refl _) (Nat.le_refl _) (fx_rim hE)
          · replace hE := fx_f c19 hE
            refine pm_aloadn hG dX12_obey_65 rfl ?_
            refine pm_iconst (v := 5) hG dX12_obey_66 (by decide) ?_
            obtain ⟨r30, h29, hE⟩ := fb_some hE
            refine pm_callV (As := [.int 5]) (rest := []) hG hR dX12_obey_67 (lkX12_80 _ rfl) okV_X12_finds rfl rfl (c_X12_finds (d := 5) (by decide) h29) rfl rfl hdd (Nat.le_refl _) (Nat.le_refl _) (by decide) (fx_ki ?_)
            exact pm_iret hG hF dX12_obey_70 rfl (Nat.le_refl _) (Nat.le_refl _) (fx_rim hE)
        · replace hE := fx_t c16 hE
          refine pm_aloadn hG dX12_obey_48 rfl ?_
          refine pm_iconst (v := 3) hG dX12_obey_49 (by decide) ?_
          obtain ⟨r32, h31, hE⟩ := fb_some hE
          refine pm_callV (As := [.int 3]) (rest := []) hG hR dX12_obey_50 (lkX12_80 _ rfl) okV_X12_finds rfl rfl (c_X12_finds (d := 5) (by decide) h31) rfl rfl hdd (Nat.le_refl _) (Nat.le_refl _) (by decide) (fx_ki ?_)
          exact pm_iret hG hF dX12_obey_53 rfl (Nat.le_refl _) (Nat.le_refl _) (fx_rim hE)
  · replace hE := fx_t c1 hE
    refine pm_aloadn hG dX12_obey_8 rfl ?_
    refine pm_iconst (v := 1) hG dX12_obey_9 (by decide) ?_
    obtain ⟨r34, h33, hE⟩ := fb_some hE
    refine pm_callV (As := [.int 1]) (rest := []) hG hR dX12_obey_10 (lkX12_80 _ rfl) okV_X12_finds rfl rfl (c_X12_finds (d := 5) (by decide) h33) rfl rfl hdd (Nat.le_refl _) (Nat.le_refl _) (by decide) (fx_ki ?_)
    exact pm_iret hG hF dX12_obey_13 rfl (Nat.le_refl _) (Nat.le_refl _) (fx_rim hE)

set_option maxRecDepth 100000 in
set_option maxHeartbeats 4000000 in
theorem c_X12_open {d : Nat} {B cnt : Nat} {σ : pm_S} {S : FS} {za : Int32} {R : Int32 × FS} (hdd : 5 ≤ d) (hE : f_X12_open S za = some R) : pm_met mX12_open d 0 0 B [.ref (B + 54), .int za] cnt (mst B S σ) (pm_Qi (fun v σ' cnt' => v = R.1 ∧ σ' = (mst B R.2 σ) ∧ cnt' = cnt)) := by
  refine pm_enter 2 (by decide) (Nat.le_of_ble_eq_true rfl) rfl (fun G hG hR hF => ?_)
  unfold f_X12_open at hE
  refine pm_aloadn hG dX12_open_0 rfl ?_
  refine pm_iloadn hG dX12_open_1 rfl ?_
  refine pm_callV (As := [.int za]) (rest := []) hG hR dX12_open_2 (lkX12_211 _ rfl) okV_X12_isLetter rfl rfl (c_X12_isLetter (d := 4) (by decide) rfl) rfl rfl hdd (Nat.le_refl _) (Nat.le_refl _) (by decide) (fx_ki ?_)
  refine pm_if_ne (tgt := 14) hG dX12_open_5 rfl (fun c1 => ?_) (fun c1 => ?_)
  · replace hE := fx_f c1 hE
    refine pm_aloadn hG dX12_open_14 rfl ?_
    refine pm_iloadn hG dX12_open_15 rfl ?_
    refine pm_iconst (v := 4) hG dX12_open_16 (by decide) ?_
    obtain ⟨x3, h2, hE⟩ := fb_some hE
    refine pm_callV (As := [.int za, .int 4]) (rest := []) hG hR dX12_open_17 (lkX12_199 _ rfl) okV_X12_of rfl rfl (c_X12_of (d := 4) (by decide) h2) rfl rfl hdd (Nat.le_refl _) (Nat.le_refl _) (by decide) (fx_ki ?_)
    refine pm_istoreXn (loc' := [some (.ref (B + 54)), some (.int za), some (.int x3), none]) hG dX12_open_20 (by decide) (pm_c1b rfl) rfl ?_
    refine pm_iloadn hG dX12_open_21 rfl ?_
    refine pm_if_lt (tgt := 75) hG dX12_open_22 rfl (fun c4 => ?_) (fun c4 => ?_)
    · replace hE := fx_t c4 hE
      refine pm_aloadn hG dX12_open_75 rfl ?_
      refine pm_iconst (v := 3) hG dX12_open_76 (by decide) ?_
      obtain ⟨r6, h5, hE⟩ := fb_some hE
      refine pm_callV (As := [.int 3]) (rest := []) hG hR dX12_open_77 (lkX12_80 _ rfl) okV_X12_finds rfl rfl (c_X12_finds (d := 4) (by decide) h5) rfl rfl hdd (Nat.le_refl _) (Nat.le_refl _) (by decide) (fx_ki ?_)
      exact pm_iret hG hF dX12_open_80 rfl (Nat.le_refl _) (Nat.le_refl _) (fx_rim hE)
    · replace hE := fx_f c4 hE
      refine pm_aloadn hG dX12_open_25 rfl ?_
      refine pm_iloadn hG dX12_open_26 rfl ?_
      refine pm_iconst (v := 5) hG dX12_open_27 (by decide) ?_
      obtain ⟨x8, h7, hE⟩ := fb_some hE
      refine pm_callV (As := [.int za, .int 5]) (rest := []) hG hR dX12_open_28 (lkX12_199 _ rfl) okV_X12_of rfl rfl (c_X12_of (d := 4) (by decide) h7) rfl rfl hdd (Nat.le_refl _) (Nat.le_refl _) (by decide) (fx_ki ?_)
      refine pm_aloadn hG dX12_open_31 rfl ?_
      refine pm_getf hG dX12_open_32 (flX12_7 _ rfl) rfl rfl ?_
      refine pm_bipush (v := 8) hG dX12_open_35 (by decide) ?_
      refine fx_iald hG dX12_open_37 rfl (ix_lit (by decide) rfl) ?_
      refine pm_icmp_gt (tgt := 75) hG dX12_open_38 rfl (fun c9 => ?_) (fun c9 => ?_)
      · replace hE := fx_t c9 hE
        refine pm_aloadn hG dX12_open_75 rfl ?_
        refine pm_iconst (v := 3) hG dX12_open_76 (by decide) ?_
        obtain ⟨r11, h10, hE⟩ := fb_some hE
        refine pm_callV (As := [.int 3]) (rest := []) hG hR dX12_open_77 (lkX12_80 _ rfl) okV_X12_finds rfl rfl (c_X12_finds (d := 4) (by decide) h10) rfl rfl hdd (Nat.le_refl _) (Nat.le_refl _) (by decide) (fx_ki ?_)
        exact pm_iret hG hF dX12_open_80 rfl (Nat.le_refl _) (Nat.le_refl _) (fx_rim hE)
      · replace hE := fx_f c9 hE
        refine pm_aloadn hG dX12_open_41 rfl ?_
        refine pm_iloadn hG dX12_open_42 rfl ?_
        refine pm_bipush (v := 6) hG dX12_open_43 (by decide) ?_
        obtain ⟨x13, h12, hE⟩ := fb_some hE
        refine pm_callV (As := [.int za, .int 6]) (rest := []) hG hR dX12_open_45 (lkX12_199 _ rfl) okV_X12_of rfl rfl (c_X12_of (d := 4) (by decide) h12) rfl rfl hdd (Nat.le_refl _) (Nat.le_refl _) (by decide) (fx_ki ?_)
        refine pm_if_ge (tgt := 75) hG dX12_open_48 rfl (fun c14 => ?_) (fun c14 => ?_)
        · replace c14 := Int32.not_lt.mpr c14
          replace hE := fx_f c14 hE
          refine pm_aloadn hG dX12_open_75 rfl ?_
          refine pm_iconst (v := 3) hG dX12_open_76 (by decide) ?_
          obtain ⟨r16, h15, hE⟩ := fb_some hE
          refine pm_callV (As := [.int 3]) (rest := []) hG hR dX12_open_77 (lkX12_80 _ rfl) okV_X12_finds rfl rfl (c_X12_finds (d := 4) (by decide) h15) rfl rfl hdd (Nat.le_refl _) (Nat.le_refl _) (by decide) (fx_ki ?_)
          exact pm_iret hG hF dX12_open_80 rfl (Nat.le_refl _) (Nat.le_refl _) (fx_rim hE)
        · replace c14 := Int32.not_le.mp c14
          replace hE := fx_t c14 hE
          refine pm_aloadn hG dX12_open_51 rfl ?_
          refine pm_iloadn hG dX12_open_52 rfl ?_
          obtain ⟨x18, h17, hE⟩ := fb_some hE
          refine pm_callV (As := [.int x3]) (rest := []) hG hR dX12_open_53 (lkX12_101 _ rfl) okV_X12_lives rfl rfl (c_X12_lives (d := 4) (by decide) h17) rfl rfl hdd (Nat.le_refl _) (Nat.le_refl _) (by decide) (fx_ki ?_)
          refine pm_if_eq (tgt := 75) hG dX12_open_56 rfl (fun c19 => ?_) (fun c19 => ?_)
          · replace hE := fx_t c19 hE
            refine pm_aloadn hG dX12_open_75 rfl ?_
            refine pm_iconst (v := 3) hG dX12_open_76 (by decide) ?_
            obtain ⟨r21, h20, hE⟩ := fb_some hE
            refine pm_callV (As := [.int 3]) (rest := []) hG hR dX12_open_77 (lkX12_80 _ rfl) okV_X12_finds rfl rfl (c_X12_finds (d := 4) (by decide) h20) rfl rfl hdd (Nat.le_refl _) (Nat.le_refl _) (by decide) (fx_ki ?_)
            exact pm_iret hG hF dX12_open_80 rfl (Nat.le_refl _) (Nat.le_refl _) (fx_rim hE)
          · replace hE := fx_f c19 hE
            refine pm_aloadn hG dX12_open_59 rfl ?_
            refine pm_iloadn hG dX12_open_60 rfl ?_
            refine pm_iconst (v := 4) hG dX12_open_61 (by decide) ?_
            obtain ⟨x23, h22, hE⟩ := fb_some hE
            refine pm_callV (As := [.int x3, .int 4]) (rest := []) hG hR dX12_open_62 (lkX12_72 _ rfl) okV_X12_man rfl rfl (c_X12_man (d := 4) (by decide) h22) rfl rfl hdd (Nat.le_refl _) (Nat.le_refl _) (by decide) (fx_ki ?_)
            refine pm_aloadn hG dX12_open_65 rfl ?_
            refine pm_iloadn hG dX12_open_66 rfl ?_
            refine pm_bipush (v := 10) hG dX12_open_67 (by decide) ?_
            obtain ⟨x25, h24, hE⟩ := fb_some hE
            refine pm_callV (As := [.int za, .int 10]) (rest := [.int x23]) hG hR dX12_open_69 (lkX12_199 _ rfl) okV_X12_of rfl rfl (c_X12_of (d := 4) (by decide) h24) rfl rfl hdd (Nat.le_refl _) (Nat.le_refl _) (by first | decide | exact Nat.le_of_ble_eq_true rfl) (fx_ki ?_)
            refine pm_icmp_eq (tgt := 81) hG dX12_open_72 rfl (fun c26 => ?_) (fun c26 => ?_)
            · replace hE := fx_t c26 hE
              refine pm_aloadn hG dX12_open_81 rfl ?_
              refine pm_aloadn hG dX12_open_82 rfl ?_
              refine pm_iconst (v := 1) hG dX12_open_83 (by decide) ?_
              refine pm_aloadn hG dX12_open_84 rfl ?_
              refine pm_getf hG dX12_open_85 (flX12_7 _ rfl) rfl rfl ?_
              refine pm_bipush (v := 8) hG dX12_open_88 (by decide) ?_
              refine fx_iald hG dX12_open_90 rfl (ix_lit (by decide) rfl) ?_
              refine pm_aloadn hG dX12_open_91 rfl ?_
              refine pm_iloadn hG dX12_open_92 rfl ?_
              obtain ⟨r28, h27, hE⟩ := fb_some hE
              refine pm_callV (As := [.int x3]) (rest := [.int (S.2 55 8), .int 1, .ref (B + 54), .ref (B + 54)]) hG hR dX12_open_93 (lkX12_104 _ rfl) okV_X12_knownTo rfl rfl (c_X12_knownTo (d := 4) (by decide) h27) rfl rfl hdd (Nat.le_refl _) (Nat.le_refl _) (by first | decide | exact Nat.le_of_ble_eq_true rfl) (fx_ki ?_)
              obtain ⟨x30, h29, hE⟩ := fb_some hE
              refine pm_callV (As := [.int 1, .int (S.2 55 8), .int r28.1]) (rest := [.ref (B + 54)]) hG hR dX12_open_96 (lkX12_195 _ rfl) okV_X12_inForce rfl rfl (c_X12_inForce (d := 4) (by decide) h29) rfl rfl hdd (Nat.le_refl _) (Nat.le_refl _) (by first | decide | exact Nat.le_of_ble_eq_true rfl) (fx_ki ?_)
              refine pm_iloadn hG dX12_open_99 rfl ?_
              refine pm_iloadn hG dX12_open_100 rfl ?_
              refine pm_aloadn hG dX12_open_101 rfl ?_
              refine pm_getf hG dX12_open_102 (flX12_7 _ rfl) rfl rfl ?_
              refine pm_bipush (v := 8) hG dX12_open_105 (by decide) ?_
              refine fx_iald hG dX12_open_107 rfl (ix_lit (by decide) rfl) ?_
              obtain ⟨r32, h31, hE⟩ := fb_some hE
              refine pm_callV (As := [.int x30, .int x3, .int za, .int (r28.2.2 55 8)]) (rest := []) hG hR dX12_open_108 (lkX12_214 _ rfl) okV_X12_comesTo rfl rfl (c_X12_comesTo (d := 4) (by decide) h31) rfl rfl hdd (Nat.le_refl _) (Nat.le_refl _) (by decide) (fx_ki ?_)
              refine pm_if_eq (tgt := 118) hG dX12_open_111 rfl (fun c33 => ?_) (fun c33 => ?_)
              · replace hE := fx_t c33 hE
                refine pm_iconst (v := 0) hG dX12_open_118 (by decide) ?_
                refine pm_istoreXn (loc' := [some (.ref (B + 54)), some (.int za), some (.int x3), some (.int 0)]) hG dX12_open_119 (by decide) (pm_c1b rfl) rfl ?_
                refine pm_aloadn hG dX12_open_120 rfl ?_
                refine pm_iloadn hG dX12_open_121 rfl ?_
                refine pm_bipush (v := 6) hG dX12_open_122 (by decide) ?_
                refine pm_aloadn hG dX12_open_124 rfl ?_
                refine pm_getf hG dX12_open_125 (flX12_7 _ rfl) rfl rfl ?_
                refine pm_bipush (v := 8) hG dX12_open_128 (by decide) ?_
                refine fx_iald hG dX12_open_130 rfl (ix_lit (by decide) rfl) ?_
                obtain ⟨r35, h34, hE⟩ := fb_some hE
                refine pm_callV (As := [.int za, .int 6, .int (r32.2.2 55 8)]) (rest := []) hG hR dX12_open_131 (lkX12_217 _ rfl) okV_X12_writes rfl rfl (c_X12_writes (d := 4) (by decide) h34) rfl rfl hdd (Nat.le_refl _) (Nat.le_refl _) (by decide) (fx_kv ?_)
                refine pm_aloadn hG dX12_open_134 rfl ?_
                refine pm_iloadn hG dX12_open_135 rfl ?_
                refine pm_bipush (v := 7) hG dX12_open_136 (by decide) ?_
                refine pm_iloadn hG dX12_open_138 rfl ?_
                obtain ⟨r37, h36, hE⟩ := fb_some hE
                refine pm_callV (As := [.int za, .int 7, .int 0]) (rest := []) hG hR dX12_open_139 (lkX12_217 _ rfl) okV_X12_writes rfl rfl (c_X12_writes (d := 4) (by decide) h36) rfl rfl hdd (Nat.le_refl _) (Nat.le_refl _) (by decide) (fx_kv ?_)
                refine pm_iloadn hG dX12_open_142 rfl ?_
                exact pm_iret hG hF dX12_open_143 rfl (Nat.le_refl _) (Nat.le_refl _) (fx_rim hE)
              · replace hE := fx_f c33 hE
                refine pm_iconst (v := 1) hG dX12_open_114 (by decide) ?_
                refine pm_goto (tgt := 119) hG dX12_open_115 rfl ?_
                refine pm_istoreXn (loc' := [some (.ref (B + 54)), some (.int za), some (.int x3), some (.int 1)]) hG dX12_open_119 (by decide) (pm_c1b rfl) rfl ?_
                refine pm_aloadn hG dX12_open_120 rfl ?_
                refine pm_iloadn hG dX12_open_121 rfl ?_
                refine pm_bipush (v := 6) hG dX12_open_122 (by decide) ?_
                refine pm_aloadn hG dX12_open_124 rfl ?_
                refine pm_getf hG dX12_open_125 (flX12_7 _ rfl) rfl rfl ?_
                refine pm_bipush (v := 8) hG dX12_open_128 (by decide) ?_
                refine fx_iald hG dX12_open_130 rfl (ix_lit (by decide) rfl) ?_
                obtain ⟨r39, h38, hE⟩ := fb_some hE
                refine pm_callV (As := [.int za, .int 6, .int (r32.2.2 55 8)]) (rest := []) hG hR dX12_open_131 (lkX12_217 _ rfl) okV_X12_writes rfl rfl (c_X12_writes (d := 4) (by decide) h38) rfl rfl hdd (Nat.le_refl _) (Nat.le_refl _) (by decide) (fx_kv ?_)
                refine pm_aloadn hG dX12_open_134 rfl ?_
                refine pm_iloadn hG dX12_open_135 rfl ?_
                refine pm_bipush (v := 7) hG dX12_open_136 (by decide) ?_
                refine pm_iloadn hG dX12_open_138 rfl ?_
                obtain ⟨r41, h40, hE⟩ := fb_some hE
                refine pm_callV (As := [.int za, .int 7, .int 1]) (rest := []) hG hR dX12_open_139 (lkX12_217 _ rfl) okV_X12_writes rfl rfl (c_X12_writes (d := 4) (by decide) h40) rfl rfl hdd (Nat.le_refl _) (Nat.le_refl _) (by decide) (fx_kv ?_)
                refine pm_iloadn hG dX12_open_142 rfl ?_
                exact pm_iret hG hF dX12_open_143 rfl (Nat.le_refl _) (Nat.le_refl _) (fx_rim hE)
            · replace hE := fx_f c26 hE
              refine pm_aloadn hG dX12_open_75 rfl ?_
              refine pm_iconst (v := 3) hG dX12_open_76 (by decide) ?_
              obtain ⟨r43, h42, hE⟩ := fb_some hE
              refine pm_callV (As := [.int 3]) (rest := []) hG hR dX12_open_77 (lkX12_80 _ rfl) okV_X12_finds rfl rfl (c_X12_finds (d := 4) (by decide) h42) rfl rfl hdd (Nat.le_refl _) (Nat.le_refl _) (by decide) (fx_ki ?_)
              exact pm_iret hG hF dX12_open_80 rfl (Nat.le_refl _) (Nat.le_refl _) (fx_rim hE)
  · replace hE := fx_t c1 hE
    refine pm_aloadn hG dX12_open_8 rfl ?_
    refine pm_iconst (v := 1) hG dX12_open_9 (by decide) ?_
    obtain ⟨r45, h44, hE⟩ := fb_some hE
    refine pm_callV (As := [.int 1]) (rest := []) hG hR dX12_open_10 (lkX12_80 _ rfl) okV_X12_finds rfl rfl (c_X12_finds (d := 4) (by decide) h44) rfl rfl hdd (Nat.le_refl _) (Nat.le_refl _) (by decide) (fx_ki ?_)
    exact pm_iret hG hF dX12_open_13 rfl (Nat.le_refl _) (Nat.le_refl _) (fx_rim hE)

set_option maxRecDepth 100000 in
set_option maxHeartbeats 4000000 in
theorem c_X12_owed {d : Nat} {B cnt : Nat} {σ : pm_S} {S : FS} {za : Int32} {zb : Int32} {R : Int32 × FS} (hdd : 2 ≤ d) (hE : f_X12_owed S za zb = some R) : pm_met mX12_owed d 0 0 B [.ref (B + 54), .int za, .int zb] cnt (mst B S σ) (pm_Qi (fun v σ' cnt' => v = R.1 ∧ σ' = (mst B R.2 σ) ∧ cnt' = cnt)) := by
  refine pm_enter 3 (by decide) (Nat.le_of_ble_eq_true rfl) rfl (fun G hG hR hF => ?_)
  unfold f_X12_owed at hE
  refine pm_iloadn hG dX12_owed_0 rfl ?_
  refine pm_iconst (v := 0) hG dX12_owed_1 (by decide) ?_
  refine pm_aloadn hG dX12_owed_2 rfl ?_
  refine pm_getf hG dX12_owed_3 (flX12_7 _ rfl) rfl rfl ?_
  refine pm_bipush (v := 6) hG dX12_owed_6 (by decide) ?_
  refine fx_iald hG dX12_owed_8 rfl (ix_lit (by decide) rfl) ?_
  refine pm_iconst (v := 1) hG dX12_owed_9 (by decide) ?_
  refine pm_isub hG dX12_owed_10 ?_
  refine pm_callS (As := [.int za, .int 0, .int ((S.2 55 6) - 1)]) (rest := []) hG hR dX12_owed_11 (lkX12_68 _ rfl) okS_X12_in (c_X12_in (d := 1) (by decide) rfl) rfl rfl hdd (Nat.le_refl _) (Nat.le_refl _) (by decide) (fx_ki ?_)
  refine pm_if_ne (tgt := 23) hG dX12_owed_14 rfl (fun c1 => ?_) (fun c1 => ?_)
  · replace hE := fx_f c1 hE
    refine pm_aloadn hG dX12_owed_23 rfl ?_
    refine pm_getf hG dX12_owed_24 (flX12_7 _ rfl) rfl rfl ?_
    refine pm_sipush (v := 1770) hG dX12_owed_27 (by decide) ?_
    refine pm_bipush (v := 6) hG dX12_owed_30 (by decide) ?_
    refine pm_iloadn hG dX12_owed_32 rfl ?_
    refine pm_imul hG dX12_owed_33 ?_
    refine pm_iadd hG dX12_owed_34 ?_
    refine pm_iconst (v := 4) hG dX12_owed_35 (by decide) ?_
    refine pm_iadd hG dX12_owed_36 ?_
    obtain ⟨j2, hj2, hE⟩ := fb_some hE
    refine fx_iald hG dX12_owed_37 rfl hj2 ?_
    refine fx_letv hE (fun x3 hE => ?_)
    refine pm_istoreXn (loc' := [some (.ref (B + 54)), some (.int za), some (.int zb), some (.int x3), none, none]) hG dX12_owed_38 (by decide) (pm_c1b rfl) rfl ?_
    refine pm_iloadn hG dX12_owed_39 rfl ?_
    by_cases c4 : zb = 0
    · replace hE := fx_t c4 hE
      refine pm_top (v := 0) c4 ?_
      refine pm_tswIn (tgt := 72) hG dX12_owed_40 (by decide) (by decide) rfl rfl ?_
      refine pm_aloadn hG dX12_owed_72 rfl ?_
      refine pm_getf hG dX12_owed_73 (flX12_7 _ rfl) rfl rfl ?_
      refine pm_sipush (v := 1770) hG dX12_owed_76 (by decide) ?_
      refine pm_bipush (v := 6) hG dX12_owed_79 (by decide) ?_
      refine pm_iloadn hG dX12_owed_81 rfl ?_
      refine pm_imul hG dX12_owed_82 ?_
      refine pm_iadd hG dX12_owed_83 ?_
      obtain ⟨j5, hj5, hE⟩ := fb_some hE
      refine fx_iald hG dX12_owed_84 rfl hj5 ?_
      exact pm_iret hG hF dX12_owed_85 rfl (Nat.le_refl _) (Nat.le_refl _) (fx_rim hE)
    replace hE := fx_f c4 hE
    by_cases c6 : zb = 1
    · replace hE := fx_t c6 hE
      refine pm_top (v := 1) c6 ?_
      refine pm_tswIn (tgt := 86) hG dX12_owed_40 (by decide) (by decide) rfl rfl ?_
      refine pm_aloadn hG dX12_owed_86 rfl ?_
      refine pm_getf hG dX12_owed_87 (flX12_7 _ rfl) rfl rfl ?_
      refine pm_sipush (v := 1770) hG dX12_owed_90 (by decide) ?_
      refine pm_bipush (v := 6) hG dX12_owed_93 (by decide) ?_
      refine pm_iloadn hG dX12_owed_95 rfl ?_
      refine pm_imul hG dX12_owed_96 ?_
      refine pm_iadd hG dX12_owed_97 ?_
      refine pm_iconst (v := 3) hG dX12_owed_98 (by decide) ?_
      refine pm_iadd hG dX12_owed_99 ?_
      obtain ⟨j7, hj7, hE⟩ := fb_some hE
      refine fx_iald hG dX12_owed_100 rfl hj7 ?_
      exact pm_iret hG hF dX12_owed_101 rfl (Nat.le_refl _) (Nat.le_refl _) (fx_rim hE)
    replace hE := fx_f c6 hE
    by_cases c8 : zb = 2
    · replace hE := fx_t c8 hE
      refine pm_top (v := 2) c8 ?_
      refine pm_tswIn (tgt := 102) hG dX12_owed_40 (by decide) (by decide) rfl rfl ?_
      refine pm_aloadn hG dX12_owed_102 rfl ?_
      refine pm_getf hG dX12_owed_103 (flX12_7 _ rfl) rfl rfl ?_
      refine pm_bipush (v := 20) hG dX12_owed_106 (by decide) ?_
      refine pm_iconst (v := 3) hG dX12_owed_108 (by decide) ?_
      refine pm_iloadn hG dX12_owed_109 rfl ?_
      refine pm_imul hG dX12_owed_110 ?_
      refine pm_iadd hG dX12_owed_111 ?_
      refine pm_iconst (v := 2) hG dX12_owed_112 (by decide) ?_
      refine pm_iadd hG dX12_owed_113 ?_
      obtain ⟨j9, hj9, hE⟩ := fb_some hE
      refine fx_iald hG dX12_owed_114 rfl hj9 ?_
      exact pm_iret hG hF dX12_owed_115 rfl (Nat.le_refl _) (Nat.le_refl _) (fx_rim hE)
    replace hE := fx_f c8 hE
    by_cases c10 : zb = 3
    · replace hE := fx_t c10 hE
      refine pm_top (v := 3) c10 ?_
      refine pm_tswIn (tgt := 116) hG dX12_owed_40 (by decide) (by decide) rfl rfl ?_
      refine pm_iconst (v := 0) hG dX12_owed_116 (by decide) ?_
      refine pm_istoreXi (loc' := [some (.ref (B + 54)), some (.int za), some (.int zb), some (.int x3), some (.int 0), none]) hG dX12_owed_117 (by decide) (pm_c1b rfl) rfl ?_
      refine pm_iconst (v := 0) hG dX12_owed_119 (by decide) ?_
      refine pm_istoreXi (loc' := [some (.ref (B + 54)), some (.int za), some (.int zb), some (.int x3), some (.int 0), some (.int 0)]) hG dX12_owed_120 (by decide) (pm_c1b rfl) rfl ?_
      have loop122 : ∀ (k122 : FS → Int32 → Int32 → Option (Int32 × FS)), (∀ (S11 : FS) (x11_4 : Int32) (x11_5 : Int32), k122 S11  x11_4 x11_5 = some R → pm_wp mX12_owed G B 170 [some (.ref (B + 54)), some (.int za), some (.int zb), some (.int x3), some (.int x11_4), some (.int x11_5)] [] 0 0 cnt (mst B S11 σ)) → ∀ (m122 : Nat) (S11 : FS) (x11_4 : Int32) (x11_5 : Int32), l_X12_owed_122 x3 k122 m122 S11  x11_4 x11_5 = some R → pm_wp mX12_owed G B 122 [some (.ref (B + 54)), some (.int za), some (.int zb), some (.int x3), some (.int x11_4), some (.int x11_5)] [] 0 0 cnt (mst B S11 σ) := by
        intro k122 hk122 m122
        induction m122 with
        | zero => intro S11  x11_4 x11_5 hE; exact fx_no hE
        | succ m122 ih122 =>
          intro S11  x11_4 x11_5 hE
          rw [l_X12_owed_122] at hE
          refine pm_iloadi hG dX12_owed_122 rfl ?_
          refine pm_aloadn hG dX12_owed_124 rfl ?_
          refine pm_getf hG dX12_owed_125 (flX12_7 _ rfl) rfl rfl ?_
          refine pm_bipush (v := 6) hG dX12_owed_128 (by decide) ?_
          refine fx_iald hG dX12_owed_130 rfl (ix_lit (by decide) rfl) ?_
          refine pm_icmp_ge (tgt := 170) hG dX12_owed_131 rfl (fun c12 => ?_) (fun c12 => ?_)
          · replace c12 := Int32.not_lt.mpr c12
            replace hE := fx_f c12 hE
            exact hk122 _ _ _ hE
          · replace c12 := Int32.not_le.mp c12
            replace hE := fx_t c12 hE
            refine pm_iloadi hG dX12_owed_134 rfl ?_
            refine pm_aloadn hG dX12_owed_136 rfl ?_
            refine pm_getf hG dX12_owed_137 (flX12_7 _ rfl) rfl rfl ?_
            refine pm_sipush (v := 1770) hG dX12_owed_140 (by decide) ?_
            refine pm_bipush (v := 6) hG dX12_owed_143 (by decide) ?_
            refine pm_iloadi hG dX12_owed_145 rfl ?_
            refine pm_imul hG dX12_owed_147 ?_
            refine pm_iadd hG dX12_owed_148 ?_
            refine pm_iconst (v := 4) hG dX12_owed_149 (by decide) ?_
            refine pm_iadd hG dX12_owed_150 ?_
            obtain ⟨j13, hj13, hE⟩ := fb_some hE
            refine fx_iald hG dX12_owed_151 rfl hj13 ?_
            refine pm_iloadn hG dX12_owed_152 rfl ?_
            refine pm_icmp_ne (tgt := 160) hG dX12_owed_153 rfl (fun c14 => ?_) (fun c14 => ?_)
            · replace hE := fx_f c14 hE
              refine pm_iconst (v := 0) hG dX12_owed_160 (by decide) ?_
              refine pm_iadd hG dX12_owed_161 ?_
              refine fx_letv hE (fun x15 hE => ?_)
              refine pm_istoreXi (loc' := [some (.ref (B + 54)), some (.int za), some (.int zb), some (.int x3), some (.int x15), some (.int x11_5)]) hG dX12_owed_162 (by decide) (pm_c1b rfl) rfl ?_
              refine pm_iincX (v := x11_5 + 1) (loc' := [some (.ref (B + 54)), some (.int za), some (.int zb), some (.int x3), some (.int x15), some (.int (x11_5 + 1))]) hG dX12_owed_164 rfl (by rfl) (by decide) (pm_c1b rfl) rfl ?_
              refine pm_goto (tgt := 122) hG dX12_owed_167 rfl ?_
              exact ih122 _ _ _ hE
            · replace hE := fx_t c14 hE
              refine pm_iconst (v := 1) hG dX12_owed_156 (by decide) ?_
              refine pm_goto (tgt := 161) hG dX12_owed_157 rfl ?_
              refine pm_iadd hG dX12_owed_161 ?_
              refine fx_letv hE (fun x16 hE => ?_)
              refine pm_istoreXi (loc' := [some (.ref (B + 54)), some (.int za), some (.int zb), some (.int x3), some (.int x16), some (.int x11_5)]) hG dX12_owed_162 (by decide) (pm_c1b rfl) rfl ?_
              refine pm_iincX (v := x11_5 + 1) (loc' := [some (.ref (B + 54)), some (.int za), some (.int zb), some (.int x3), some (.int x16), some (.int (x11_5 + 1))]) hG dX12_owed_164 rfl (by rfl) (by decide) (pm_c1b rfl) rfl ?_
              refine pm_goto (tgt := 122) hG dX12_owed_167 rfl ?_
              exact ih122 _ _ _ hE
      refine loop122 _ (fun S17 x17_4 x17_5 hE => ?_) _ _ _ _ hE
      refine pm_iloadi hG dX12_owed_170 rfl ?_
      exact pm_iret hG hF dX12_owed_172 rfl (Nat.le_refl _) (Nat.le_refl _) (fx_rim hE)
    replace hE := fx_f c10 hE
    have tc4 : ¬ zb.toInt = 0 := fun q => c4 (Int32.toInt_inj.mp q)
    have tc6 : ¬ zb.toInt = 1 := fun q => c6 (Int32.toInt_inj.mp q)
    have tc8 : ¬ zb.toInt = 2 := fun q => c8 (Int32.toInt_inj.mp q)
    have tc10 : ¬ zb.toInt = 3 := fun q => c10 (Int32.toInt_inj.mp q)
    refine pm_tswOut (tgt := 173) hG dX12_owed_40 (by omega) rfl ?_
    refine pm_aloadn hG dX12_owed_173 rfl ?_
    refine pm_iconst (v := 1) hG dX12_owed_174 (by decide) ?_
    obtain ⟨r19, h18, hE⟩ := fb_some hE
    refine pm_callV (As := [.int 1]) (rest := []) hG hR dX12_owed_175 (lkX12_80 _ rfl) okV_X12_finds rfl rfl (c_X12_finds (d := 1) (by decide) h18) rfl rfl hdd (Nat.le_refl _) (Nat.le_refl _) (by decide) (fx_ki ?_)
    exact pm_iret hG hF dX12_owed_178 rfl (Nat.le_refl _) (Nat.le_refl _) (fx_rim hE)
  · replace hE := fx_t c1 hE
    refine pm_aloadn hG dX12_owed_17 rfl ?_
    refine pm_iconst (v := 1) hG dX12_owed_18 (by decide) ?_
    obtain ⟨r21, h20, hE⟩ := fb_some hE
    refine pm_callV (As := [.int 1]) (rest := []) hG hR dX12_owed_19 (lkX12_80 _ rfl) okV_X12_finds rfl rfl (c_X12_finds (d := 1) (by decide) h20) rfl rfl hdd (Nat.le_refl _) (Nat.le_refl _) (by decide) (fx_ki ?_)
    exact pm_iret hG hF dX12_owed_22 rfl (Nat.le_refl _) (Nat.le_refl _) (fx_rim hE)

set_option maxRecDepth 100000 in
set_option maxHeartbeats 4000000 in
theorem c_X12_own {d : Nat} {B cnt : Nat} {σ : pm_S} {S : FS} {za : Int32} {zb : Int32} {R : Int32 × FS} (hdd : 3 ≤ d) (hE : f_X12_own S za zb = some R) : pm_met mX12_own d 0 0 B [.ref (B + 54), .int za, .int zb] cnt (mst B S σ) (pm_Qi (fun v σ' cnt' => v = R.1 ∧ σ' = (mst B R.2 σ) ∧ cnt' = cnt)) := by
  refine pm_enter 1 (by decide) (Nat.le_of_ble_eq_true rfl) rfl (fun G hG hR hF => ?_)
  unfold f_X12_own at hE
  refine pm_aloadn hG dX12_own_0 rfl ?_
  refine pm_iloadn hG dX12_own_1 rfl ?_
  refine pm_callV (As := [.int za]) (rest := []) hG hR dX12_own_2 (lkX12_84 _ rfl) okV_X12_isTown rfl rfl (c_X12_isTown (d := 2) (by decide) rfl) rfl rfl hdd (Nat.le_refl _) (Nat.le_refl _) (by decide) (fx_ki ?_)
  refine pm_if_eq (tgt := 29) hG dX12_own_5 rfl (fun c1 => ?_) (fun c1 => ?_)
  · replace hE := fx_t c1 hE
    refine pm_aloadn hG dX12_own_29 rfl ?_
    refine pm_iconst (v := 1) hG dX12_own_30 (by decide) ?_
    obtain ⟨r3, h2, hE⟩ := fb_some hE
    refine pm_callV (As := [.int 1]) (rest := []) hG hR dX12_own_31 (lkX12_80 _ rfl) okV_X12_finds rfl rfl (c_X12_finds (d := 2) (by decide) h2) rfl rfl hdd (Nat.le_refl _) (Nat.le_refl _) (by decide) (fx_ki ?_)
    exact pm_iret hG hF dX12_own_34 rfl (Nat.le_refl _) (Nat.le_refl _) (fx_rim hE)
  · replace hE := fx_f c1 hE
    refine pm_iloadn hG dX12_own_8 rfl ?_
    refine pm_iconst (v := (-1)) hG dX12_own_9 (by decide) ?_
    refine pm_icmp_eq (tgt := 35) hG dX12_own_10 rfl (fun c4 => ?_) (fun c4 => ?_)
    · replace hE := fx_t c4 hE
      refine pm_aloadn hG dX12_own_35 rfl ?_
      refine pm_getf hG dX12_own_36 (flX12_7 _ rfl) rfl rfl ?_
      refine pm_bipush (v := 20) hG dX12_own_39 (by decide) ?_
      refine pm_iconst (v := 3) hG dX12_own_41 (by decide) ?_
      refine pm_iloadn hG dX12_own_42 rfl ?_
      refine pm_imul hG dX12_own_43 ?_
      refine pm_iadd hG dX12_own_44 ?_
      refine pm_iconst (v := 2) hG dX12_own_45 (by decide) ?_
      refine pm_iadd hG dX12_own_46 ?_
      obtain ⟨j5, hj5, hE⟩ := fb_some hE
      refine fx_iald hG dX12_own_47 rfl hj5 ?_
      refine pm_iconst (v := 1) hG dX12_own_48 (by decide) ?_
      refine pm_icmp_ne (tgt := 58) hG dX12_own_49 rfl (fun c6 => ?_) (fun c6 => ?_)
      · replace hE := fx_f c6 hE
        refine pm_aloadn hG dX12_own_58 rfl ?_
        refine pm_getf hG dX12_own_59 (flX12_7 _ rfl) rfl rfl ?_
        refine pm_bipush (v := 20) hG dX12_own_62 (by decide) ?_
        refine pm_iconst (v := 3) hG dX12_own_64 (by decide) ?_
        refine pm_iloadn hG dX12_own_65 rfl ?_
        refine pm_imul hG dX12_own_66 ?_
        refine pm_iadd hG dX12_own_67 ?_
        refine pm_iconst (v := 1) hG dX12_own_68 (by decide) ?_
        refine pm_iadd hG dX12_own_69 ?_
        obtain ⟨j7, hj7, hE⟩ := fb_some hE
        refine fx_iald hG dX12_own_70 rfl hj7 ?_
        refine fx_letv hE (fun x8 hE => ?_)
        refine pm_istoreXn (loc' := [some (.ref (B + 54)), some (.int za), some (.int zb), some (.int x8)]) hG dX12_own_71 (by decide) (pm_c1b rfl) rfl ?_
        refine pm_aloadn hG dX12_own_72 rfl ?_
        refine pm_getf hG dX12_own_73 (flX12_7 _ rfl) rfl rfl ?_
        refine pm_bipush (v := 20) hG dX12_own_76 (by decide) ?_
        refine pm_iconst (v := 3) hG dX12_own_78 (by decide) ?_
        refine pm_iloadn hG dX12_own_79 rfl ?_
        refine pm_imul hG dX12_own_80 ?_
        refine pm_iadd hG dX12_own_81 ?_
        refine pm_iconst (v := 1) hG dX12_own_82 (by decide) ?_
        refine pm_iadd hG dX12_own_83 ?_
        refine pm_iloadn hG dX12_own_84 rfl ?_
        refine fx_iast hG dX12_own_85 rfl hj7 ?_
        refine ma_55 ?_
        refine fx_letm hE (fun S9 hE => ?_)
        refine pm_iloadn hG dX12_own_86 rfl ?_
        exact pm_iret hG hF dX12_own_87 rfl (Nat.le_refl _) (Nat.le_refl _) (fx_rim hE)
      · replace hE := fx_t c6 hE
        refine pm_aloadn hG dX12_own_52 rfl ?_
        refine pm_iconst (v := 3) hG dX12_own_53 (by decide) ?_
        obtain ⟨r11, h10, hE⟩ := fb_some hE
        refine pm_callV (As := [.int 3]) (rest := []) hG hR dX12_own_54 (lkX12_80 _ rfl) okV_X12_finds rfl rfl (c_X12_finds (d := 2) (by decide) h10) rfl rfl hdd (Nat.le_refl _) (Nat.le_refl _) (by decide) (fx_ki ?_)
        exact pm_iret hG hF dX12_own_57 rfl (Nat.le_refl _) (Nat.le_refl _) (fx_rim hE)
    · replace hE := fx_f c4 hE
      refine pm_aloadn hG dX12_own_13 rfl ?_
      refine pm_iloadn hG dX12_own_14 rfl ?_
      refine pm_callV (As := [.int zb]) (rest := []) hG hR dX12_own_15 (lkX12_91 _ rfl) okV_X12_isPerson rfl rfl (c_X12_isPerson (d := 2) (by decide) rfl) rfl rfl hdd (Nat.le_refl _) (Nat.le_refl _) (by decide) (fx_ki ?_)
      refine pm_if_eq (tgt := 29) hG dX12_own_18 rfl (fun c12 => ?_) (fun c12 => ?_)
      · replace hE := fx_t c12 hE
        refine pm_aloadn hG dX12_own_29 rfl ?_
        refine pm_iconst (v := 1) hG dX12_own_30 (by decide) ?_
        obtain ⟨r14, h13, hE⟩ := fb_some hE
        refine pm_callV (As := [.int 1]) (rest := []) hG hR dX12_own_31 (lkX12_80 _ rfl) okV_X12_finds rfl rfl (c_X12_finds (d := 2) (by decide) h13) rfl rfl hdd (Nat.le_refl _) (Nat.le_refl _) (by decide) (fx_ki ?_)
        exact pm_iret hG hF dX12_own_34 rfl (Nat.le_refl _) (Nat.le_refl _) (fx_rim hE)
      · replace hE := fx_f c12 hE
        refine pm_aloadn hG dX12_own_21 rfl ?_
        refine pm_iloadn hG dX12_own_22 rfl ?_
        obtain ⟨x16, h15, hE⟩ := fb_some hE
        refine pm_callV (As := [.int zb]) (rest := []) hG hR dX12_own_23 (lkX12_101 _ rfl) okV_X12_lives rfl rfl (c_X12_lives (d := 2) (by decide) h15) rfl rfl hdd (Nat.le_refl _) (Nat.le_refl _) (by decide) (fx_ki ?_)
        refine pm_if_ne (tgt := 35) hG dX12_own_26 rfl (fun c17 => ?_) (fun c17 => ?_)
        · replace hE := fx_f c17 hE
          refine pm_aloadn hG dX12_own_35 rfl ?_
          refine pm_getf hG dX12_own_36 (flX12_7 _ rfl) rfl rfl ?_
          refine pm_bipush (v := 20) hG dX12_own_39 (by decide) ?_
          refine pm_iconst (v := 3) hG dX12_own_41 (by decide) ?_
          refine pm_iloadn hG dX12_own_42 rfl ?_
          refine pm_imul hG dX12_own_43 ?_
          refine pm_iadd hG dX12_own_44 ?_
          refine pm_iconst (v := 2) hG dX12_own_45 (by decide) ?_
          refine pm_iadd hG dX12_own_46 ?_
          obtain ⟨j18, hj18, hE⟩ := fb_some hE
          refine fx_iald hG dX12_own_47 rfl hj18 ?_
          refine pm_iconst (v := 1) hG dX12_own_48 (by decide) ?_
          refine pm_icmp_ne (tgt := 58) hG dX12_own_49 rfl (fun c19 => ?_) (fun c19 => ?_)
          · replace hE := fx_f c19 hE
            refine pm_aloadn hG dX12_own_58 rfl ?_
            refine pm_getf hG dX12_own_59 (flX12_7 _ rfl) rfl rfl ?_
            refine pm_bipush (v := 20) hG dX12_own_62 (by decide) ?_
            refine pm_iconst (v := 3) hG dX12_own_64 (by decide) ?_
            refine pm_iloadn hG dX12_own_65 rfl ?_
            refine pm_imul hG dX12_own_66 ?_
            refine pm_iadd hG dX12_own_67 ?_
            refine pm_iconst (v := 1) hG dX12_own_68 (by decide) ?_
            refine pm_iadd hG dX12_own_69 ?_
            obtain ⟨j20, hj20, hE⟩ := fb_some hE
            refine fx_iald hG dX12_own_70 rfl hj20 ?_
            refine fx_letv hE (fun x21 hE => ?_)
            refine pm_istoreXn (loc' := [some (.ref (B + 54)), some (.int za), some (.int zb), some (.int x21)]) hG dX12_own_71 (by decide) (pm_c1b rfl) rfl ?_
            refine pm_aloadn hG dX12_own_72 rfl ?_
            refine pm_getf hG dX12_own_73 (flX12_7 _ rfl) rfl rfl ?_
            refine pm_bipush (v := 20) hG dX12_own_76 (by decide) ?_
            refine pm_iconst (v := 3) hG dX12_own_78 (by decide) ?_
            refine pm_iloadn hG dX12_own_79 rfl ?_
            refine pm_imul hG dX12_own_80 ?_
            refine pm_iadd hG dX12_own_81 ?_
            refine pm_iconst (v := 1) hG dX12_own_82 (by decide) ?_
            refine pm_iadd hG dX12_own_83 ?_
            refine pm_iloadn hG dX12_own_84 rfl ?_
            refine fx_iast hG dX12_own_85 rfl hj20 ?_
            refine ma_55 ?_
            refine fx_letm hE (fun S22 hE => ?_)
            refine pm_iloadn hG dX12_own_86 rfl ?_
            exact pm_iret hG hF dX12_own_87 rfl (Nat.le_refl _) (Nat.le_refl _) (fx_rim hE)
          · replace hE := fx_t c19 hE
            refine pm_aloadn hG dX12_own_52 rfl ?_
            refine pm_iconst (v := 3) hG dX12_own_53 (by decide) ?_
            obtain ⟨r24, h23, hE⟩ := fb_some hE
            refine pm_callV (As := [.int 3]) (rest := []) hG hR dX12_own_54 (lkX12_80 _ rfl) okV_X12_finds rfl rfl (c_X12_finds (d := 2) (by decide) h23) rfl rfl hdd (Nat.le_refl _) (Nat.le_refl _) (by decide) (fx_ki ?_)
            exact pm_iret hG hF dX12_own_57 rfl (Nat.le_refl _) (Nat.le_refl _) (fx_rim hE)
        · replace hE := fx_t c17 hE
          refine pm_aloadn hG dX12_own_29 rfl ?_
          refine pm_iconst (v := 1) hG dX12_own_30 (by decide) ?_
          obtain ⟨r26, h25, hE⟩ := fb_some hE
          refine pm_callV (As := [.int 1]) (rest := []) hG hR dX12_own_31 (lkX12_80 _ rfl) okV_X12_finds rfl rfl (c_X12_finds (d := 2) (by decide) h25) rfl rfl hdd (Nat.le_refl _) (Nat.le_refl _) (by decide) (fx_ki ?_)
          exact pm_iret hG hF dX12_own_34 rfl (Nat.le_refl _) (Nat.le_refl _) (fx_rim hE)

set_option maxRecDepth 100000 in
set_option maxHeartbeats 4000000 in
theorem c_X12_pay {d : Nat} {B cnt : Nat} {σ : pm_S} {S : FS} {za : Int32} {zb : Int32} {R : Int32 × FS} (hdd : 3 ≤ d) (hE : f_X12_pay S za zb = some R) : pm_met mX12_pay d 0 0 B [.ref (B + 54), .int za, .int zb] cnt (mst B S σ) (pm_Qi (fun v σ' cnt' => v = R.1 ∧ σ' = (mst B R.2 σ) ∧ cnt' = cnt)) := by
  refine pm_enter 0 (by decide) (Nat.le_of_ble_eq_true rfl) rfl (fun G hG hR hF => ?_)
  unfold f_X12_pay at hE
  refine pm_aloadn hG dX12_pay_0 rfl ?_
  refine pm_iloadn hG dX12_pay_1 rfl ?_
  refine pm_callV (As := [.int za]) (rest := []) hG hR dX12_pay_2 (lkX12_91 _ rfl) okV_X12_isPerson rfl rfl (c_X12_isPerson (d := 2) (by decide) rfl) rfl rfl hdd (Nat.le_refl _) (Nat.le_refl _) (by decide) (fx_ki ?_)
  refine pm_if_eq (tgt := 19) hG dX12_pay_5 rfl (fun c1 => ?_) (fun c1 => ?_)
  · replace hE := fx_t c1 hE
    refine pm_aloadn hG dX12_pay_19 rfl ?_
    refine pm_iconst (v := 1) hG dX12_pay_20 (by decide) ?_
    obtain ⟨r3, h2, hE⟩ := fb_some hE
    refine pm_callV (As := [.int 1]) (rest := []) hG hR dX12_pay_21 (lkX12_80 _ rfl) okV_X12_finds rfl rfl (c_X12_finds (d := 2) (by decide) h2) rfl rfl hdd (Nat.le_refl _) (Nat.le_refl _) (by decide) (fx_ki ?_)
    exact pm_iret hG hF dX12_pay_24 rfl (Nat.le_refl _) (Nat.le_refl _) (fx_rim hE)
  · replace hE := fx_f c1 hE
    refine pm_iloadn hG dX12_pay_8 rfl ?_
    refine pm_iconst (v := 1) hG dX12_pay_9 (by decide) ?_
    refine pm_sipush (v := 9999) hG dX12_pay_10 (by decide) ?_
    refine pm_callS (As := [.int zb, .int 1, .int 9999]) (rest := []) hG hR dX12_pay_13 (lkX12_68 _ rfl) okS_X12_in (c_X12_in (d := 2) (by decide) rfl) rfl rfl hdd (Nat.le_refl _) (Nat.le_refl _) (by decide) (fx_ki ?_)
    refine pm_if_ne (tgt := 25) hG dX12_pay_16 rfl (fun c4 => ?_) (fun c4 => ?_)
    · replace hE := fx_f c4 hE
      refine pm_aloadn hG dX12_pay_25 rfl ?_
      refine pm_iloadn hG dX12_pay_26 rfl ?_
      obtain ⟨x6, h5, hE⟩ := fb_some hE
      refine pm_callV (As := [.int za]) (rest := []) hG hR dX12_pay_27 (lkX12_101 _ rfl) okV_X12_lives rfl rfl (c_X12_lives (d := 2) (by decide) h5) rfl rfl hdd (Nat.le_refl _) (Nat.le_refl _) (by decide) (fx_ki ?_)
      refine pm_if_ne (tgt := 39) hG dX12_pay_30 rfl (fun c7 => ?_) (fun c7 => ?_)
      · replace hE := fx_f c7 hE
        refine pm_aloadn hG dX12_pay_39 rfl ?_
        refine pm_getf hG dX12_pay_40 (flX12_7 _ rfl) rfl rfl ?_
        refine pm_bipush (v := 9) hG dX12_pay_43 (by decide) ?_
        refine fx_iald hG dX12_pay_45 rfl (ix_lit (by decide) rfl) ?_
        refine pm_iloadn hG dX12_pay_46 rfl ?_
        refine pm_icmp_ge (tgt := 56) hG dX12_pay_47 rfl (fun c8 => ?_) (fun c8 => ?_)
        · replace c8 := Int32.not_lt.mpr c8
          replace hE := fx_f c8 hE
          refine pm_aloadn hG dX12_pay_56 rfl ?_
          refine pm_getf hG dX12_pay_57 (flX12_7 _ rfl) rfl rfl ?_
          refine pm_bipush (v := 9) hG dX12_pay_60 (by decide) ?_
          refine pm_dup2 hG dX12_pay_62 rfl rfl ?_
          refine fx_iald hG dX12_pay_63 rfl (ix_lit (by decide) rfl) ?_
          refine pm_iloadn hG dX12_pay_64 rfl ?_
          refine pm_isub hG dX12_pay_65 ?_
          refine fx_iast hG dX12_pay_66 rfl (ix_lit (by decide) rfl) ?_
          refine ma_55 ?_
          refine fx_letm hE (fun S9 hE => ?_)
          refine pm_aloadn hG dX12_pay_67 rfl ?_
          refine pm_iloadn hG dX12_pay_68 rfl ?_
          refine pm_bipush (v := 7) hG dX12_pay_69 (by decide) ?_
          refine pm_aloadn hG dX12_pay_71 rfl ?_
          refine pm_iloadn hG dX12_pay_72 rfl ?_
          refine pm_bipush (v := 7) hG dX12_pay_73 (by decide) ?_
          obtain ⟨x11, h10, hE⟩ := fb_some hE
          refine pm_callV (As := [.int za, .int 7]) (rest := [.int 7, .int za, .ref (B + 54)]) hG hR dX12_pay_75 (lkX12_72 _ rfl) okV_X12_man rfl rfl (c_X12_man (d := 2) (by decide) h10) rfl rfl hdd (Nat.le_refl _) (Nat.le_refl _) (by first | decide | exact Nat.le_of_ble_eq_true rfl) (fx_ki ?_)
          refine pm_iloadn hG dX12_pay_78 rfl ?_
          refine pm_iadd hG dX12_pay_79 ?_
          obtain ⟨r13, h12, hE⟩ := fb_some hE
          refine pm_callV (As := [.int za, .int 7, .int (x11 + zb)]) (rest := []) hG hR dX12_pay_80 (lkX12_97 _ rfl) okV_X12_sets rfl rfl (c_X12_sets (d := 2) (by decide) h12) rfl rfl hdd (Nat.le_refl _) (Nat.le_refl _) (by decide) (fx_kv ?_)
          refine pm_aloadn hG dX12_pay_83 rfl ?_
          refine pm_getf hG dX12_pay_84 (flX12_7 _ rfl) rfl rfl ?_
          refine pm_bipush (v := 9) hG dX12_pay_87 (by decide) ?_
          refine fx_iald hG dX12_pay_89 rfl (ix_lit (by decide) rfl) ?_
          exact pm_iret hG hF dX12_pay_90 rfl (Nat.le_refl _) (Nat.le_refl _) (fx_rim hE)
        · replace c8 := Int32.not_le.mp c8
          replace hE := fx_t c8 hE
          refine pm_aloadn hG dX12_pay_50 rfl ?_
          refine pm_iconst (v := 2) hG dX12_pay_51 (by decide) ?_
          obtain ⟨r15, h14, hE⟩ := fb_some hE
          refine pm_callV (As := [.int 2]) (rest := []) hG hR dX12_pay_52 (lkX12_80 _ rfl) okV_X12_finds rfl rfl (c_X12_finds (d := 2) (by decide) h14) rfl rfl hdd (Nat.le_refl _) (Nat.le_refl _) (by decide) (fx_ki ?_)
          exact pm_iret hG hF dX12_pay_55 rfl (Nat.le_refl _) (Nat.le_refl _) (fx_rim hE)
      · replace hE := fx_t c7 hE
        refine pm_aloadn hG dX12_pay_33 rfl ?_
        refine pm_iconst (v := 3) hG dX12_pay_34 (by decide) ?_
        obtain ⟨r17, h16, hE⟩ := fb_some hE
        refine pm_callV (As := [.int 3]) (rest := []) hG hR dX12_pay_35 (lkX12_80 _ rfl) okV_X12_finds rfl rfl (c_X12_finds (d := 2) (by decide) h16) rfl rfl hdd (Nat.le_refl _) (Nat.le_refl _) (by decide) (fx_ki ?_)
        exact pm_iret hG hF dX12_pay_38 rfl (Nat.le_refl _) (Nat.le_refl _) (fx_rim hE)
    · replace hE := fx_t c4 hE
      refine pm_aloadn hG dX12_pay_19 rfl ?_
      refine pm_iconst (v := 1) hG dX12_pay_20 (by decide) ?_
      obtain ⟨r19, h18, hE⟩ := fb_some hE
      refine pm_callV (As := [.int 1]) (rest := []) hG hR dX12_pay_21 (lkX12_80 _ rfl) okV_X12_finds rfl rfl (c_X12_finds (d := 2) (by decide) h18) rfl rfl hdd (Nat.le_refl _) (Nat.le_refl _) (by decide) (fx_ki ?_)
      exact pm_iret hG hF dX12_pay_24 rfl (Nat.le_refl _) (Nat.le_refl _) (fx_rim hE)
end
section
set_option maxRecDepth 100000 in
set_option maxHeartbeats 4000000 in
theorem c_X12_person {d : Nat} {B cnt : Nat} {σ : pm_S} {S : FS} {za : Int32} {zb : Int32} {zc : Int32} {zd : Int32} {R : Int32 × FS} (hdd : 4 ≤ d) (hE : f_X12_person S za zb zc zd = some R) : pm_met mX12_person d 0 0 B [.ref (B + 54), .int za, .int zb, .int zc, .int zd] cnt (mst B S σ) (pm_Qi (fun v σ' cnt' => v = R.1 ∧ σ' = (mst B R.2 σ) ∧ cnt' = cnt)) := by
  refine pm_enter 3 (by decide) (Nat.le_of_ble_eq_true rfl) rfl (fun G hG hR hF => ?_)
  unfold f_X12_person at hE
  refine pm_iloadn hG dX12_person_0 rfl ?_
  refine pm_iconst (v := 0) hG dX12_person_1 (by decide) ?_
  refine pm_iconst (v := 1) hG dX12_person_2 (by decide) ?_
  refine pm_callS (As := [.int za, .int 0, .int 1]) (rest := []) hG hR dX12_person_3 (lkX12_68 _ rfl) okS_X12_in (c_X12_in (d := 3) (by decide) rfl) rfl rfl hdd (Nat.le_refl _) (Nat.le_refl _) (by decide) (fx_ki ?_)
  refine pm_if_eq (tgt := 73) hG dX12_person_6 rfl (fun c1 => ?_) (fun c1 => ?_)
  · replace hE := fx_t c1 hE
    refine pm_iconst (v := 0) hG dX12_person_73 (by decide) ?_
    refine pm_istoreXi (loc' := [some (.ref (B + 54)), some (.int za), some (.int zb), some (.int zc), some (.int zd), some (.int 0), none, none]) hG dX12_person_74 (by decide) (pm_c1b rfl) rfl ?_
    refine pm_iloadi hG dX12_person_76 rfl ?_
    refine pm_if_ne (tgt := 87) hG dX12_person_78 rfl (fun q => absurd q (by decide)) (fun _ => ?_)
    refine pm_aloadn hG dX12_person_81 rfl ?_
    refine pm_iconst (v := 1) hG dX12_person_82 (by decide) ?_
    obtain ⟨r3, h2, hE⟩ := fb_some hE
    refine pm_callV (As := [.int 1]) (rest := []) hG hR dX12_person_83 (lkX12_80 _ rfl) okV_X12_finds rfl rfl (c_X12_finds (d := 3) (by decide) h2) rfl rfl hdd (Nat.le_refl _) (Nat.le_refl _) (by decide) (fx_ki ?_)
    exact pm_iret hG hF dX12_person_86 rfl (Nat.le_refl _) (Nat.le_refl _) (fx_rim hE)
  · replace hE := fx_f c1 hE
    refine pm_iloadn hG dX12_person_9 rfl ?_
    refine pm_sipush (v := (-20000)) hG dX12_person_10 (by decide) ?_
    refine pm_aloadn hG dX12_person_13 rfl ?_
    refine pm_getf hG dX12_person_14 (flX12_7 _ rfl) rfl rfl ?_
    refine pm_bipush (v := 8) hG dX12_person_17 (by decide) ?_
    refine fx_iald hG dX12_person_19 rfl (ix_lit (by decide) rfl) ?_
    refine pm_callS (As := [.int zb, .int (-20000), .int (S.2 55 8)]) (rest := []) hG hR dX12_person_20 (lkX12_68 _ rfl) okS_X12_in (c_X12_in (d := 3) (by decide) rfl) rfl rfl hdd (Nat.le_refl _) (Nat.le_refl _) (by decide) (fx_ki ?_)
    refine pm_if_eq (tgt := 73) hG dX12_person_23 rfl (fun c4 => ?_) (fun c4 => ?_)
    · replace hE := fx_t c4 hE
      refine pm_iconst (v := 0) hG dX12_person_73 (by decide) ?_
      refine pm_istoreXi (loc' := [some (.ref (B + 54)), some (.int za), some (.int zb), some (.int zc), some (.int zd), some (.int 0), none, none]) hG dX12_person_74 (by decide) (pm_c1b rfl) rfl ?_
      refine pm_iloadi hG dX12_person_76 rfl ?_
      refine pm_if_ne (tgt := 87) hG dX12_person_78 rfl (fun q => absurd q (by decide)) (fun _ => ?_)
      refine pm_aloadn hG dX12_person_81 rfl ?_
      refine pm_iconst (v := 1) hG dX12_person_82 (by decide) ?_
      obtain ⟨r6, h5, hE⟩ := fb_some hE
      refine pm_callV (As := [.int 1]) (rest := []) hG hR dX12_person_83 (lkX12_80 _ rfl) okV_X12_finds rfl rfl (c_X12_finds (d := 3) (by decide) h5) rfl rfl hdd (Nat.le_refl _) (Nat.le_refl _) (by decide) (fx_ki ?_)
      exact pm_iret hG hF dX12_person_86 rfl (Nat.le_refl _) (Nat.le_refl _) (fx_rim hE)
    · replace hE := fx_f c4 hE
      refine pm_iloadn hG dX12_person_26 rfl ?_
      refine pm_if_lt (tgt := 73) hG dX12_person_27 rfl (fun c7 => ?_) (fun c7 => ?_)
      · replace hE := fx_t c7 hE
        refine pm_iconst (v := 0) hG dX12_person_73 (by decide) ?_
        refine pm_istoreXi (loc' := [some (.ref (B + 54)), some (.int za), some (.int zb), some (.int zc), some (.int zd), some (.int 0), none, none]) hG dX12_person_74 (by decide) (pm_c1b rfl) rfl ?_
        refine pm_iloadi hG dX12_person_76 rfl ?_
        refine pm_if_ne (tgt := 87) hG dX12_person_78 rfl (fun q => absurd q (by decide)) (fun _ => ?_)
        refine pm_aloadn hG dX12_person_81 rfl ?_
        refine pm_iconst (v := 1) hG dX12_person_82 (by decide) ?_
        obtain ⟨r9, h8, hE⟩ := fb_some hE
        refine pm_callV (As := [.int 1]) (rest := []) hG hR dX12_person_83 (lkX12_80 _ rfl) okV_X12_finds rfl rfl (c_X12_finds (d := 3) (by decide) h8) rfl rfl hdd (Nat.le_refl _) (Nat.le_refl _) (by decide) (fx_ki ?_)
        exact pm_iret hG hF dX12_person_86 rfl (Nat.le_refl _) (Nat.le_refl _) (fx_rim hE)
      · replace hE := fx_f c7 hE
        refine pm_aloadn hG dX12_person_30 rfl ?_
        refine pm_iloadn hG dX12_person_31 rfl ?_
        refine pm_bipush (v := 100) hG dX12_person_32 (by decide) ?_
        refine pm_idiv hG dX12_person_34 (by decide) ?_
        refine pm_iconst (v := 1) hG dX12_person_35 (by decide) ?_
        refine pm_isub hG dX12_person_36 ?_
        refine pm_iconst (v := 1) hG dX12_person_37 (by decide) ?_
        refine pm_iloadn hG dX12_person_38 rfl ?_
        obtain ⟨x11, h10, hE⟩ := fb_some hE
        refine pm_callV (As := [.int ((zc / 100) - 1), .int 1, .int zb]) (rest := []) hG hR dX12_person_39 (lkX12_94 _ rfl) okV_X12_isParent rfl rfl (c_X12_isParent (d := 3) (by decide) h10) rfl rfl hdd (Nat.le_refl _) (Nat.le_refl _) (by decide) (fx_ki ?_)
        refine pm_if_eq (tgt := 73) hG dX12_person_42 rfl (fun c12 => ?_) (fun c12 => ?_)
        · replace hE := fx_t c12 hE
          refine pm_iconst (v := 0) hG dX12_person_73 (by decide) ?_
          refine pm_istoreXi (loc' := [some (.ref (B + 54)), some (.int za), some (.int zb), some (.int zc), some (.int zd), some (.int 0), none, none]) hG dX12_person_74 (by decide) (pm_c1b rfl) rfl ?_
          refine pm_iloadi hG dX12_person_76 rfl ?_
          refine pm_if_ne (tgt := 87) hG dX12_person_78 rfl (fun q => absurd q (by decide)) (fun _ => ?_)
          refine pm_aloadn hG dX12_person_81 rfl ?_
          refine pm_iconst (v := 1) hG dX12_person_82 (by decide) ?_
          obtain ⟨r14, h13, hE⟩ := fb_some hE
          refine pm_callV (As := [.int 1]) (rest := []) hG hR dX12_person_83 (lkX12_80 _ rfl) okV_X12_finds rfl rfl (c_X12_finds (d := 3) (by decide) h13) rfl rfl hdd (Nat.le_refl _) (Nat.le_refl _) (by decide) (fx_ki ?_)
          exact pm_iret hG hF dX12_person_86 rfl (Nat.le_refl _) (Nat.le_refl _) (fx_rim hE)
        · replace hE := fx_f c12 hE
          refine pm_aloadn hG dX12_person_45 rfl ?_
          refine pm_iloadn hG dX12_person_46 rfl ?_
          refine pm_bipush (v := 100) hG dX12_person_47 (by decide) ?_
          refine pm_irem hG dX12_person_49 (by decide) ?_
          refine pm_iconst (v := 1) hG dX12_person_50 (by decide) ?_
          refine pm_isub hG dX12_person_51 ?_
          refine pm_iconst (v := 0) hG dX12_person_52 (by decide) ?_
          refine pm_iloadn hG dX12_person_53 rfl ?_
          obtain ⟨x16, h15, hE⟩ := fb_some hE
          refine pm_callV (As := [.int ((zc - zc / 100 * 100) - 1), .int 0, .int zb]) (rest := []) hG hR dX12_person_54 (lkX12_94 _ rfl) okV_X12_isParent rfl rfl (c_X12_isParent (d := 3) (by decide) h15) rfl rfl hdd (Nat.le_refl _) (Nat.le_refl _) (by decide) (fx_ki ?_)
          refine pm_if_eq (tgt := 73) hG dX12_person_57 rfl (fun c17 => ?_) (fun c17 => ?_)
          · replace hE := fx_t c17 hE
            refine pm_iconst (v := 0) hG dX12_person_73 (by decide) ?_
            refine pm_istoreXi (loc' := [some (.ref (B + 54)), some (.int za), some (.int zb), some (.int zc), some (.int zd), some (.int 0), none, none]) hG dX12_person_74 (by decide) (pm_c1b rfl) rfl ?_
            refine pm_iloadi hG dX12_person_76 rfl ?_
            refine pm_if_ne (tgt := 87) hG dX12_person_78 rfl (fun q => absurd q (by decide)) (fun _ => ?_)
            refine pm_aloadn hG dX12_person_81 rfl ?_
            refine pm_iconst (v := 1) hG dX12_person_82 (by decide) ?_
            obtain ⟨r19, h18, hE⟩ := fb_some hE
            refine pm_callV (As := [.int 1]) (rest := []) hG hR dX12_person_83 (lkX12_80 _ rfl) okV_X12_finds rfl rfl (c_X12_finds (d := 3) (by decide) h18) rfl rfl hdd (Nat.le_refl _) (Nat.le_refl _) (by decide) (fx_ki ?_)
            exact pm_iret hG hF dX12_person_86 rfl (Nat.le_refl _) (Nat.le_refl _) (fx_rim hE)
          · replace hE := fx_f c17 hE
            refine pm_aloadn hG dX12_person_60 rfl ?_
            refine pm_iloadi hG dX12_person_61 rfl ?_
            refine pm_callV (As := [.int zd]) (rest := []) hG hR dX12_person_63 (lkX12_84 _ rfl) okV_X12_isTown rfl rfl (c_X12_isTown (d := 3) (by decide) rfl) rfl rfl hdd (Nat.le_refl _) (Nat.le_refl _) (by decide) (fx_ki ?_)
            refine pm_if_eq (tgt := 73) hG dX12_person_66 rfl (fun c20 => ?_) (fun c20 => ?_)
            · replace hE := fx_t c20 hE
              refine pm_iconst (v := 0) hG dX12_person_73 (by decide) ?_
              refine pm_istoreXi (loc' := [some (.ref (B + 54)), some (.int za), some (.int zb), some (.int zc), some (.int zd), some (.int 0), none, none]) hG dX12_person_74 (by decide) (pm_c1b rfl) rfl ?_
              refine pm_iloadi hG dX12_person_76 rfl ?_
              refine pm_if_ne (tgt := 87) hG dX12_person_78 rfl (fun q => absurd q (by decide)) (fun _ => ?_)
              refine pm_aloadn hG dX12_person_81 rfl ?_
              refine pm_iconst (v := 1) hG dX12_person_82 (by decide) ?_
              obtain ⟨r22, h21, hE⟩ := fb_some hE
              refine pm_callV (As := [.int 1]) (rest := []) hG hR dX12_person_83 (lkX12_80 _ rfl) okV_X12_finds rfl rfl (c_X12_finds (d := 3) (by decide) h21) rfl rfl hdd (Nat.le_refl _) (Nat.le_refl _) (by decide) (fx_ki ?_)
              exact pm_iret hG hF dX12_person_86 rfl (Nat.le_refl _) (Nat.le_refl _) (fx_rim hE)
            · replace hE := fx_f c20 hE
              refine pm_iconst (v := 1) hG dX12_person_69 (by decide) ?_
              refine pm_goto (tgt := 74) hG dX12_person_70 rfl ?_
              refine pm_istoreXi (loc' := [some (.ref (B + 54)), some (.int za), some (.int zb), some (.int zc), some (.int zd), some (.int 1), none, none]) hG dX12_person_74 (by decide) (pm_c1b rfl) rfl ?_
              refine pm_iloadi hG dX12_person_76 rfl ?_
              refine pm_if_ne (tgt := 87) hG dX12_person_78 rfl (fun _ => ?_) (fun q => absurd q (by decide))
              refine pm_aloadn hG dX12_person_87 rfl ?_
              refine pm_getf hG dX12_person_88 (flX12_7 _ rfl) rfl rfl ?_
              refine pm_iconst (v := 2) hG dX12_person_91 (by decide) ?_
              refine fx_iald hG dX12_person_92 rfl (ix_lit (by decide) rfl) ?_
              refine fx_letv hE (fun x23 hE => ?_)
              refine pm_istoreXi (loc' := [some (.ref (B + 54)), some (.int za), some (.int zb), some (.int zc), some (.int zd), some (.int 1), some (.int x23), none]) hG dX12_person_93 (by decide) (pm_c1b rfl) rfl ?_
              refine pm_iloadi hG dX12_person_95 rfl ?_
              refine pm_bipush (v := 20) hG dX12_person_97 (by decide) ?_
              refine pm_icmp_ne (tgt := 108) hG dX12_person_99 rfl (fun c24 => ?_) (fun c24 => ?_)
              · replace hE := fx_f c24 hE
                refine pm_aloadn hG dX12_person_108 rfl ?_
                refine pm_getf hG dX12_person_109 (flX12_7 _ rfl) rfl rfl ?_
                refine pm_iconst (v := 2) hG dX12_person_112 (by decide) ?_
                refine pm_dup2 hG dX12_person_113 rfl rfl ?_
                refine fx_iald hG dX12_person_114 rfl (ix_lit (by decide) rfl) ?_
                refine pm_iconst (v := 1) hG dX12_person_115 (by decide) ?_
                refine pm_iadd hG dX12_person_116 ?_
                refine fx_iast hG dX12_person_117 rfl (ix_lit (by decide) rfl) ?_
                refine ma_55 ?_
                refine fx_letm hE (fun S25 hE => ?_)
                refine pm_iconst (v := 0) hG dX12_person_118 (by decide) ?_
                refine pm_istoreXi (loc' := [some (.ref (B + 54)), some (.int za), some (.int zb), some (.int zc), some (.int zd), some (.int 1), some (.int x23), some (.int 0)]) hG dX12_person_119 (by decide) (pm_c1b rfl) rfl ?_
                have loop121 : ∀ (k121 : FS → Int32 → Option (Int32 × FS)), (∀ (S26 : FS) (x26_7 : Int32), k121 S26  x26_7 = some R → pm_wp mX12_person G B 143 [some (.ref (B + 54)), some (.int za), some (.int zb), some (.int zc), some (.int zd), some (.int 1), some (.int x23), some (.int x26_7)] [] 0 0 cnt (mst B S26 σ)) → ∀ (m121 : Nat) (S26 : FS) (x26_7 : Int32), l_X12_person_121 x23 k121 m121 S26  x26_7 = some R → pm_wp mX12_person G B 121 [some (.ref (B + 54)), some (.int za), some (.int zb), some (.int zc), some (.int zd), some (.int 1), some (.int x23), some (.int x26_7)] [] 0 0 cnt (mst B S26 σ) := by
                  intro k121 hk121 m121
                  induction m121 with
                  | zero => intro S26  x26_7 hE; exact fx_no hE
                  | succ m121 ih121 =>
                    intro S26  x26_7 hE
                    rw [l_X12_person_121] at hE
                    refine pm_iloadi hG dX12_person_121 rfl ?_
                    refine pm_bipush (v := 14) hG dX12_person_123 (by decide) ?_
                    refine pm_icmp_ge (tgt := 143) hG dX12_person_125 rfl (fun c27 => ?_) (fun c27 => ?_)
                    · replace c27 := Int32.not_lt.mpr c27
                      replace hE := fx_f c27 hE
                      exact hk121 _ _ hE
                    · replace c27 := Int32.not_le.mp c27
                      replace hE := fx_t c27 hE
                      refine pm_aloadn hG dX12_person_128 rfl ?_
                      refine pm_iloadi hG dX12_person_129 rfl ?_
                      refine pm_iloadi hG dX12_person_131 rfl ?_
                      refine pm_iconst (v := 0) hG dX12_person_133 (by decide) ?_
                      obtain ⟨r29, h28, hE⟩ := fb_some hE
                      refine pm_callV (As := [.int x23, .int x26_7, .int 0]) (rest := []) hG hR dX12_person_134 (lkX12_97 _ rfl) okV_X12_sets rfl rfl (c_X12_sets (d := 3) (by decide) h28) rfl rfl hdd (Nat.le_refl _) (Nat.le_refl _) (by decide) (fx_kv ?_)
                      refine pm_iincX (v := x26_7 + 1) (loc' := [some (.ref (B + 54)), some (.int za), some (.int zb), some (.int zc), some (.int zd), some (.int 1), some (.int x23), some (.int (x26_7 + 1))]) hG dX12_person_137 rfl (by rfl) (by decide) (pm_c1b rfl) rfl ?_
                      refine pm_goto (tgt := 121) hG dX12_person_140 rfl ?_
                      exact ih121 _ _ hE
                refine loop121 _ (fun S30 x30_7 hE => ?_) _ _ _ hE
                refine pm_aloadn hG dX12_person_143 rfl ?_
                refine pm_iloadi hG dX12_person_144 rfl ?_
                refine pm_iconst (v := 0) hG dX12_person_146 (by decide) ?_
                refine pm_iloadn hG dX12_person_147 rfl ?_
                obtain ⟨r32, h31, hE⟩ := fb_some hE
                refine pm_callV (As := [.int x23, .int 0, .int za]) (rest := []) hG hR dX12_person_148 (lkX12_97 _ rfl) okV_X12_sets rfl rfl (c_X12_sets (d := 3) (by decide) h31) rfl rfl hdd (Nat.le_refl _) (Nat.le_refl _) (by decide) (fx_kv ?_)
                refine pm_aloadn hG dX12_person_151 rfl ?_
                refine pm_iloadi hG dX12_person_152 rfl ?_
                refine pm_iconst (v := 1) hG dX12_person_154 (by decide) ?_
                refine pm_iloadn hG dX12_person_155 rfl ?_
                obtain ⟨r34, h33, hE⟩ := fb_some hE
                refine pm_callV (As := [.int x23, .int 1, .int zb]) (rest := []) hG hR dX12_person_156 (lkX12_97 _ rfl) okV_X12_sets rfl rfl (c_X12_sets (d := 3) (by decide) h33) rfl rfl hdd (Nat.le_refl _) (Nat.le_refl _) (by decide) (fx_kv ?_)
                refine pm_aloadn hG dX12_person_159 rfl ?_
                refine pm_iloadi hG dX12_person_160 rfl ?_
                refine pm_iconst (v := 2) hG dX12_person_162 (by decide) ?_
                refine pm_iloadn hG dX12_person_163 rfl ?_
                refine pm_bipush (v := 100) hG dX12_person_164 (by decide) ?_
                refine pm_idiv hG dX12_person_166 (by decide) ?_
                refine pm_iconst (v := 1) hG dX12_person_167 (by decide) ?_
                refine pm_isub hG dX12_person_168 ?_
                obtain ⟨r36, h35, hE⟩ := fb_some hE
                refine pm_callV (As := [.int x23, .int 2, .int ((zc / 100) - 1)]) (rest := []) hG hR dX12_person_169 (lkX12_97 _ rfl) okV_X12_sets rfl rfl (c_X12_sets (d := 3) (by decide) h35) rfl rfl hdd (Nat.le_refl _) (Nat.le_refl _) (by decide) (fx_kv ?_)
                refine pm_aloadn hG dX12_person_172 rfl ?_
                refine pm_iloadi hG dX12_person_173 rfl ?_
                refine pm_iconst (v := 3) hG dX12_person_175 (by decide) ?_
                refine pm_iloadn hG dX12_person_176 rfl ?_
                refine pm_bipush (v := 100) hG dX12_person_177 (by decide) ?_
                refine pm_irem hG dX12_person_179 (by decide) ?_
                refine pm_iconst (v := 1) hG dX12_person_180 (by decide) ?_
                refine pm_isub hG dX12_person_181 ?_
                obtain ⟨r38, h37, hE⟩ := fb_some hE
                refine pm_callV (As := [.int x23, .int 3, .int ((zc - zc / 100 * 100) - 1)]) (rest := []) hG hR dX12_person_182 (lkX12_97 _ rfl) okV_X12_sets rfl rfl (c_X12_sets (d := 3) (by decide) h37) rfl rfl hdd (Nat.le_refl _) (Nat.le_refl _) (by decide) (fx_kv ?_)
                refine pm_aloadn hG dX12_person_185 rfl ?_
                refine pm_iloadi hG dX12_person_186 rfl ?_
                refine pm_iconst (v := 4) hG dX12_person_188 (by decide) ?_
                refine pm_iloadi hG dX12_person_189 rfl ?_
                obtain ⟨r40, h39, hE⟩ := fb_some hE
                refine pm_callV (As := [.int x23, .int 4, .int zd]) (rest := []) hG hR dX12_person_191 (lkX12_97 _ rfl) okV_X12_sets rfl rfl (c_X12_sets (d := 3) (by decide) h39) rfl rfl hdd (Nat.le_refl _) (Nat.le_refl _) (by decide) (fx_kv ?_)
                refine pm_aloadn hG dX12_person_194 rfl ?_
                refine pm_iloadi hG dX12_person_195 rfl ?_
                refine pm_bipush (v := 9) hG dX12_person_197 (by decide) ?_
                refine pm_iconst (v := (-1)) hG dX12_person_199 (by decide) ?_
                obtain ⟨r42, h41, hE⟩ := fb_some hE
                refine pm_callV (As := [.int x23, .int 9, .int (-1)]) (rest := []) hG hR dX12_person_200 (lkX12_97 _ rfl) okV_X12_sets rfl rfl (c_X12_sets (d := 3) (by decide) h41) rfl rfl hdd (Nat.le_refl _) (Nat.le_refl _) (by decide) (fx_kv ?_)
                refine pm_aloadn hG dX12_person_203 rfl ?_
                refine pm_iloadi hG dX12_person_204 rfl ?_
                refine pm_bipush (v := 10) hG dX12_person_206 (by decide) ?_
                refine pm_iconst (v := (-1)) hG dX12_person_208 (by decide) ?_
                obtain ⟨r44, h43, hE⟩ := fb_some hE
                refine pm_callV (As := [.int x23, .int 10, .int (-1)]) (rest := []) hG hR dX12_person_209 (lkX12_97 _ rfl) okV_X12_sets rfl rfl (c_X12_sets (d := 3) (by decide) h43) rfl rfl hdd (Nat.le_refl _) (Nat.le_refl _) (by decide) (fx_kv ?_)
                refine pm_aloadn hG dX12_person_212 rfl ?_
                refine pm_iloadi hG dX12_person_213 rfl ?_
                refine pm_bipush (v := 12) hG dX12_person_215 (by decide) ?_
                refine pm_iconst (v := 1) hG dX12_person_217 (by decide) ?_
                obtain ⟨r46, h45, hE⟩ := fb_some hE
                refine pm_callV (As := [.int x23, .int 12, .int 1]) (rest := []) hG hR dX12_person_218 (lkX12_97 _ rfl) okV_X12_sets rfl rfl (c_X12_sets (d := 3) (by decide) h45) rfl rfl hdd (Nat.le_refl _) (Nat.le_refl _) (by decide) (fx_kv ?_)
                refine pm_iloadi hG dX12_person_221 rfl ?_
                exact pm_iret hG hF dX12_person_223 rfl (Nat.le_refl _) (Nat.le_refl _) (fx_rim hE)
              · replace hE := fx_t c24 hE
                refine pm_aloadn hG dX12_person_102 rfl ?_
                refine pm_iconst (v := 4) hG dX12_person_103 (by decide) ?_
                obtain ⟨r48, h47, hE⟩ := fb_some hE
                refine pm_callV (As := [.int 4]) (rest := []) hG hR dX12_person_104 (lkX12_80 _ rfl) okV_X12_finds rfl rfl (c_X12_finds (d := 3) (by decide) h47) rfl rfl hdd (Nat.le_refl _) (Nat.le_refl _) (by decide) (fx_ki ?_)
                exact pm_iret hG hF dX12_person_107 rfl (Nat.le_refl _) (Nat.le_refl _) (fx_rim hE)

set_option maxRecDepth 100000 in
set_option maxHeartbeats 4000000 in
theorem c_X12_plans_k8 {d : Nat} {B cnt : Nat} {σ : pm_S} {S : FS} {zb : Int32} {zc : Int32} {R : Int32 × FS} (hdd : 1 ≤ d) (hE : f_X12_plans_k8 S zb zc = some R) : pm_met mX12_plans d 0 0 B [.ref (B + 54), .int 8, .int zb, .int zc] cnt (mst B S σ) (pm_Qv (fun σ' cnt' => σ' = (mst B R.2 σ) ∧ cnt' = cnt)) := by
  refine pm_enter 3 (by decide) (Nat.le_of_ble_eq_true rfl) rfl (fun G hG hR hF => ?_)
  unfold f_X12_plans_k8 at hE
  refine pm_iloadn hG dX12_plans_0 rfl ?_
  refine pm_aloadn hG dX12_plans_1 rfl ?_
  refine pm_getf hG dX12_plans_2 (flX12_58 _ rfl) rfl rfl ?_
  refine pm_aloadn hG dX12_plans_5 rfl ?_
  refine pm_getf hG dX12_plans_6 (flX12_270 _ rfl) rfl rfl ?_
  obtain ⟨j1, hj1, hE⟩ := fb_some hE
  refine fx_iald hG dX12_plans_9 rfl hj1 ?_
  refine pm_icmp_ne (tgt := 124) hG dX12_plans_10 rfl (fun c2 => ?_) (fun c2 => ?_)
  · replace hE := fx_f c2 hE
    refine pm_iloadn hG dX12_plans_124 rfl ?_
    refine pm_istoreXi (loc' := [some (.ref (B + 54)), some (.int 8), some (.int zb), some (.int zc), some (.int zc), none, none]) hG dX12_plans_125 (by decide) (pm_c1b rfl) rfl ?_
    refine pm_iconst (v := 0) hG dX12_plans_127 (by decide) ?_
    refine pm_istoreXi (loc' := [some (.ref (B + 54)), some (.int 8), some (.int zb), some (.int zc), some (.int zc), some (.int 0), none]) hG dX12_plans_128 (by decide) (pm_c1b rfl) rfl ?_
    have loop130 : ∀ (k130 : FS → Int32 → Int32 → Option (Int32 × FS)), (∀ (S3 : FS) (x3_4 : Int32) (x3_5 : Int32), k130 S3  x3_4 x3_5 = some R → pm_wp mX12_plans G B 174 [some (.ref (B + 54)), some (.int 8), some (.int zb), some (.int zc), some (.int x3_4), some (.int x3_5), none] [] 0 0 cnt (mst B S3 σ)) → ∀ (m130 : Nat) (S3 : FS) (x3_4 : Int32) (x3_5 : Int32), l_X12_plans_k8_130 zb k130 m130 S3  x3_4 x3_5 = some R → pm_wp mX12_plans G B 130 [some (.ref (B + 54)), some (.int 8), some (.int zb), some (.int zc), some (.int x3_4), some (.int x3_5), none] [] 0 0 cnt (mst B S3 σ) := by
      intro k130 hk130 m130
      induction m130 with
      | zero => intro S3  x3_4 x3_5 hE; exact fx_no hE
      | succ m130 ih130 =>
        intro S3  x3_4 x3_5 hE
        rw [l_X12_plans_k8_130] at hE
        refine pm_iloadi hG dX12_plans_130 rfl ?_
        refine pm_bipush (v := 6) hG dX12_plans_132 (by decide) ?_
        refine pm_icmp_ge (tgt := 174) hG dX12_plans_134 rfl (fun c4 => ?_) (fun c4 => ?_)
        · replace c4 := Int32.not_lt.mpr c4
          replace hE := fx_f c4 hE
          exact hk130 _ _ _ hE
        · replace c4 := Int32.not_le.mp c4
          replace hE := fx_t c4 hE
          refine pm_iloadi hG dX12_plans_137 rfl ?_
          refine pm_iloadn hG dX12_plans_139 rfl ?_
          refine pm_iloadi hG dX12_plans_140 rfl ?_
          refine pm_ishr hG dX12_plans_142 ?_
          refine pm_iconst (v := 1) hG dX12_plans_143 (by decide) ?_
          refine pm_iand hG dX12_plans_144 ?_
          refine pm_iconst (v := 1) hG dX12_plans_145 (by decide) ?_
          refine pm_icmp_ne (tgt := 164) hG dX12_plans_146 rfl (fun c5 => ?_) (fun c5 => ?_)
          · replace hE := fx_f c5 hE
            refine pm_iconst (v := 0) hG dX12_plans_164 (by decide) ?_
            refine pm_iadd hG dX12_plans_165 ?_
            refine fx_letv hE (fun x6 hE => ?_)
            refine pm_istoreXi (loc' := [some (.ref (B + 54)), some (.int 8), some (.int zb), some (.int zc), some (.int x6), some (.int x3_5), none]) hG dX12_plans_166 (by decide) (pm_c1b rfl) rfl ?_
            refine pm_iincX (v := x3_5 + 1) (loc' := [some (.ref (B + 54)), some (.int 8), some (.int zb), some (.int zc), some (.int x6), some (.int (x3_5 + 1)), none]) hG dX12_plans_168 rfl (by rfl) (by decide) (pm_c1b rfl) rfl ?_
            refine pm_goto (tgt := 130) hG dX12_plans_171 rfl ?_
            exact ih130 _ _ _ hE
          · replace hE := fx_t c5 hE
            refine pm_aloadn hG dX12_plans_149 rfl ?_
            refine pm_getf hG dX12_plans_150 (flX12_7 _ rfl) rfl rfl ?_
            refine pm_bipush (v := 20) hG dX12_plans_153 (by decide) ?_
            refine pm_iconst (v := 3) hG dX12_plans_155 (by decide) ?_
            refine pm_iloadi hG dX12_plans_156 rfl ?_
            refine pm_imul hG dX12_plans_158 ?_
            refine pm_iadd hG dX12_plans_159 ?_
            obtain ⟨j7, hj7, hE⟩ := fb_some hE
            refine fx_iald hG dX12_plans_160 rfl hj7 ?_
            refine pm_goto (tgt := 165) hG dX12_plans_161 rfl ?_
            refine pm_iadd hG dX12_plans_165 ?_
            refine fx_letv hE (fun x8 hE => ?_)
            refine pm_istoreXi (loc' := [some (.ref (B + 54)), some (.int 8), some (.int zb), some (.int zc), some (.int x8), some (.int x3_5), none]) hG dX12_plans_166 (by decide) (pm_c1b rfl) rfl ?_
            refine pm_iincX (v := x3_5 + 1) (loc' := [some (.ref (B + 54)), some (.int 8), some (.int zb), some (.int zc), some (.int x8), some (.int (x3_5 + 1)), none]) hG dX12_plans_168 rfl (by rfl) (by decide) (pm_c1b rfl) rfl ?_
            refine pm_goto (tgt := 130) hG dX12_plans_171 rfl ?_
            exact ih130 _ _ _ hE
    refine loop130 _ (fun S9 x9_4 x9_5 hE => ?_) _ _ _ _ hE
    refine pm_iconst (v := (-1)) hG dX12_plans_174 (by decide) ?_
    refine pm_istoreXi (loc' := [some (.ref (B + 54)), some (.int 8), some (.int zb), some (.int zc), some (.int x9_4), some (.int (-1)), none]) hG dX12_plans_175 (by decide) (pm_c1b rfl) rfl ?_
    have loop177 : ∀ (k177 : FS → Int32 → Option (Int32 × FS)), (∀ (S10 : FS) (x10_5 : Int32), k177 S10  x10_5 = some R → pm_wp mX12_plans G B 292 [some (.ref (B + 54)), some (.int 8), some (.int zb), some (.int zc), some (.int x9_4), some (.int x10_5), none] [] 0 0 cnt (mst B S10 σ)) → ∀ (m177 : Nat) (S10 : FS) (x10_5 : Int32), l_X12_plans_k8_177 zb x9_4 k177 m177 S10  x10_5 = some R → pm_wp mX12_plans G B 177 [some (.ref (B + 54)), some (.int 8), some (.int zb), some (.int zc), some (.int x9_4), some (.int x10_5), none] [] 0 0 cnt (mst B S10 σ) := by
      intro k177 hk177 m177
      induction m177 with
      | zero => intro S10  x10_5 hE; exact fx_no hE
      | succ m177 ih177 =>
        intro S10  x10_5 hE
        rw [l_X12_plans_k8_177] at hE
        refine pm_iloadi hG dX12_plans_177 rfl ?_
        refine pm_bipush (v := 6) hG dX12_plans_179 (by decide) ?_
        refine pm_icmp_ge (tgt := 292) hG dX12_plans_181 rfl (fun c11 => ?_) (fun c11 => ?_)
        · replace c11 := Int32.not_lt.mpr c11
          replace hE := fx_f c11 hE
          exact hk177 _ _ hE
        · replace c11 := Int32.not_le.mp c11
          replace hE := fx_t c11 hE
          refine pm_iloadi hG dX12_plans_184 rfl ?_
          refine pm_if_lt (tgt := 201) hG dX12_plans_186 rfl (fun c12 => ?_) (fun c12 => ?_)
          · replace hE := fx_t c12 hE
            refine pm_iloadi hG dX12_plans_201 rfl ?_
            refine pm_aloadn hG dX12_plans_203 rfl ?_
            refine pm_getf hG dX12_plans_204 (flX12_61 _ rfl) rfl rfl ?_
            refine pm_bipush (v := 24) hG dX12_plans_207 (by decide) ?_
            refine pm_aloadn hG dX12_plans_209 rfl ?_
            refine pm_getf hG dX12_plans_210 (flX12_270 _ rfl) rfl rfl ?_
            refine pm_imul hG dX12_plans_213 ?_
            refine pm_iloadn hG dX12_plans_214 rfl ?_
            refine pm_iadd hG dX12_plans_215 ?_
            obtain ⟨j13, hj13, hE⟩ := fb_some hE
            refine fx_iald hG dX12_plans_216 rfl hj13 ?_
            refine pm_isub hG dX12_plans_217 ?_
            refine pm_iloadi hG dX12_plans_218 rfl ?_
            refine pm_if_ge (tgt := 227) hG dX12_plans_220 rfl (fun q => absurd c12 (Int32.not_lt.mpr q)) (fun _ => ?_)
            refine pm_iconst (v := 0) hG dX12_plans_223 (by decide) ?_
            refine pm_goto (tgt := 241) hG dX12_plans_224 rfl ?_
            refine pm_iadd hG dX12_plans_241 ?_
            refine fx_letv hE (fun x14 hE => ?_)
            refine pm_istoreXi (loc' := [some (.ref (B + 54)), some (.int 8), some (.int zb), some (.int zc), some (.int x9_4), some (.int x10_5), some (.int x14)]) hG dX12_plans_242 (by decide) (pm_c1b rfl) rfl ?_
            refine pm_iloadi hG dX12_plans_244 rfl ?_
            refine pm_if_ge (tgt := 252) hG dX12_plans_246 rfl (fun c15 => ?_) (fun c15 => ?_)
            · replace c15 := Int32.not_lt.mpr c15
              replace hE := fx_f c15 hE
              refine pm_aloadn hG dX12_plans_252 rfl ?_
              refine pm_getf hG dX12_plans_253 (flX12_46 _ rfl) rfl rfl ?_
              refine pm_iloadn hG dX12_plans_256 rfl ?_
              refine pm_iloadi hG dX12_plans_257 rfl ?_
              exact fx_no hE
            · replace c15 := Int32.not_le.mp c15
              replace hE := fx_t c15 hE
              refine pm_goto (tgt := 286) hG dX12_plans_249 rfl ?_
              refine pm_iincX (v := x10_5 + 1) (loc' := [some (.ref (B + 54)), some (.int 8), some (.int zb), some (.int zc), some (.int x9_4), some (.int (x10_5 + 1)), some (.int x14)]) hG dX12_plans_286 rfl (by rfl) (by decide) (pm_c1b rfl) rfl ?_
              refine pm_goto (tgt := 177) hG dX12_plans_289 rfl ?_
              refine pm_fg 6 (loc' := [some (.ref (B + 54)), some (.int 8), some (.int zb), some (.int zc), some (.int x9_4), some (.int (x10_5 + 1)), none]) rfl ?_
              exact ih177 _ _ hE
          · replace hE := fx_f c12 hE
            refine pm_iloadn hG dX12_plans_189 rfl ?_
            refine pm_iloadi hG dX12_plans_190 rfl ?_
            refine pm_ishr hG dX12_plans_192 ?_
            refine pm_iconst (v := 1) hG dX12_plans_193 (by decide) ?_
            refine pm_iand hG dX12_plans_194 ?_
            refine pm_if_ne (tgt := 201) hG dX12_plans_195 rfl (fun c16 => ?_) (fun c16 => ?_)
            · replace hE := fx_f c16 hE
              refine pm_iloadi hG dX12_plans_201 rfl ?_
              refine pm_aloadn hG dX12_plans_203 rfl ?_
              refine pm_getf hG dX12_plans_204 (flX12_61 _ rfl) rfl rfl ?_
              refine pm_bipush (v := 24) hG dX12_plans_207 (by decide) ?_
              refine pm_aloadn hG dX12_plans_209 rfl ?_
              refine pm_getf hG dX12_plans_210 (flX12_270 _ rfl) rfl rfl ?_
              refine pm_imul hG dX12_plans_213 ?_
              refine pm_iloadn hG dX12_plans_214 rfl ?_
              refine pm_iadd hG dX12_plans_215 ?_
              obtain ⟨j17, hj17, hE⟩ := fb_some hE
              refine fx_iald hG dX12_plans_216 rfl hj17 ?_
              refine pm_isub hG dX12_plans_217 ?_
              refine pm_iloadi hG dX12_plans_218 rfl ?_
              refine pm_if_ge (tgt := 227) hG dX12_plans_220 rfl (fun _ => ?_) (fun q => absurd (Int32.not_le.mp q) c12)
              refine pm_iconst (v := 4) hG dX12_plans_227 (by decide) ?_
              refine pm_aloadn hG dX12_plans_228 rfl ?_
              refine pm_getf hG dX12_plans_229 (flX12_7 _ rfl) rfl rfl ?_
              refine pm_bipush (v := 20) hG dX12_plans_232 (by decide) ?_
              refine pm_iconst (v := 3) hG dX12_plans_234 (by decide) ?_
              refine pm_iloadi hG dX12_plans_235 rfl ?_
              refine pm_imul hG dX12_plans_237 ?_
              refine pm_iadd hG dX12_plans_238 ?_
              obtain ⟨j18, hj18, hE⟩ := fb_some hE
              refine fx_iald hG dX12_plans_239 rfl hj18 ?_
              refine pm_imul hG dX12_plans_240 ?_
              refine pm_iadd hG dX12_plans_241 ?_
              refine fx_letv hE (fun x19 hE => ?_)
              refine pm_istoreXi (loc' := [some (.ref (B + 54)), some (.int 8), some (.int zb), some (.int zc), some (.int x9_4), some (.int x10_5), some (.int x19)]) hG dX12_plans_242 (by decide) (pm_c1b rfl) rfl ?_
              refine pm_iloadi hG dX12_plans_244 rfl ?_
              refine pm_if_ge (tgt := 252) hG dX12_plans_246 rfl (fun c20 => ?_) (fun c20 => ?_)
              · replace c20 := Int32.not_lt.mpr c20
                replace hE := fx_f c20 hE
                refine pm_aloadn hG dX12_plans_252 rfl ?_
                refine pm_getf hG dX12_plans_253 (flX12_46 _ rfl) rfl rfl ?_
                refine pm_iloadn hG dX12_plans_256 rfl ?_
                refine pm_iloadi hG dX12_plans_257 rfl ?_
                exact fx_no hE
              · replace c20 := Int32.not_le.mp c20
                replace hE := fx_t c20 hE
                refine pm_goto (tgt := 286) hG dX12_plans_249 rfl ?_
                refine pm_iincX (v := x10_5 + 1) (loc' := [some (.ref (B + 54)), some (.int 8), some (.int zb), some (.int zc), some (.int x9_4), some (.int (x10_5 + 1)), some (.int x19)]) hG dX12_plans_286 rfl (by rfl) (by decide) (pm_c1b rfl) rfl ?_
                refine pm_goto (tgt := 177) hG dX12_plans_289 rfl ?_
                refine pm_fg 6 (loc' := [some (.ref (B + 54)), some (.int 8), some (.int zb), some (.int zc), some (.int x9_4), some (.int (x10_5 + 1)), none]) rfl ?_
                exact ih177 _ _ hE
            · replace hE := fx_t c16 hE
              refine pm_goto (tgt := 286) hG dX12_plans_198 rfl ?_
              refine pm_iincX (v := x10_5 + 1) (loc' := [some (.ref (B + 54)), some (.int 8), some (.int zb), some (.int zc), some (.int x9_4), some (.int (x10_5 + 1)), none]) hG dX12_plans_286 rfl (by rfl) (by decide) (pm_c1b rfl) rfl ?_
              refine pm_goto (tgt := 177) hG dX12_plans_289 rfl ?_
              exact ih177 _ _ hE
    refine loop177 _ (fun S21 x21_5 hE => ?_) _ _ _ hE
    exact pm_vret hG hF dX12_plans_292 rfl (Nat.le_refl _) (Nat.le_refl _) (fx_rvm hE)
  · replace hE := fx_t c2 hE
    refine pm_iloadn hG dX12_plans_13 rfl ?_
    refine pm_istoreXi (loc' := [some (.ref (B + 54)), some (.int 8), some (.int zb), some (.int zc), some (.int zc), none, none]) hG dX12_plans_14 (by decide) (pm_c1b rfl) rfl ?_
    refine pm_iconst (v := 0) hG dX12_plans_16 (by decide) ?_
    refine pm_istoreXi (loc' := [some (.ref (B + 54)), some (.int 8), some (.int zb), some (.int zc), some (.int zc), some (.int 0), none]) hG dX12_plans_17 (by decide) (pm_c1b rfl) rfl ?_
    have loop19 : ∀ (k19 : FS → Int32 → Int32 → Option (Int32 × FS)), (∀ (S22 : FS) (x22_4 : Int32) (x22_5 : Int32), k19 S22  x22_4 x22_5 = some R → pm_wp mX12_plans G B 66 [some (.ref (B + 54)), some (.int 8), some (.int zb), some (.int zc), some (.int x22_4), some (.int x22_5), none] [] 0 0 cnt (mst B S22 σ)) → ∀ (m19 : Nat) (S22 : FS) (x22_4 : Int32) (x22_5 : Int32), l_X12_plans_k8_19 zb k19 m19 S22  x22_4 x22_5 = some R → pm_wp mX12_plans G B 19 [some (.ref (B + 54)), some (.int 8), some (.int zb), some (.int zc), some (.int x22_4), some (.int x22_5), none] [] 0 0 cnt (mst B S22 σ) := by
      intro k19 hk19 m19
      induction m19 with
      | zero => intro S22  x22_4 x22_5 hE; exact fx_no hE
      | succ m19 ih19 =>
        intro S22  x22_4 x22_5 hE
        rw [l_X12_plans_k8_19] at hE
        refine pm_iloadi hG dX12_plans_19 rfl ?_
        refine pm_bipush (v := 6) hG dX12_plans_21 (by decide) ?_
        refine pm_icmp_ge (tgt := 66) hG dX12_plans_23 rfl (fun c23 => ?_) (fun c23 => ?_)
        · replace c23 := Int32.not_lt.mpr c23
          replace hE := fx_f c23 hE
          exact hk19 _ _ _ hE
        · replace c23 := Int32.not_le.mp c23
          replace hE := fx_t c23 hE
          refine pm_iloadi hG dX12_plans_26 rfl ?_
          refine pm_iloadn hG dX12_plans_28 rfl ?_
          refine pm_iloadi hG dX12_plans_29 rfl ?_
          refine pm_ishr hG dX12_plans_31 ?_
          refine pm_iconst (v := 1) hG dX12_plans_32 (by decide) ?_
          refine pm_iand hG dX12_plans_33 ?_
          refine pm_iconst (v := 1) hG dX12_plans_34 (by decide) ?_
          refine pm_icmp_ne (tgt := 56) hG dX12_plans_35 rfl (fun c24 => ?_) (fun c24 => ?_)
          · replace hE := fx_f c24 hE
            refine pm_iconst (v := 0) hG dX12_plans_56 (by decide) ?_
            refine pm_iadd hG dX12_plans_57 ?_
            refine fx_letv hE (fun x25 hE => ?_)
            refine pm_istoreXi (loc' := [some (.ref (B + 54)), some (.int 8), some (.int zb), some (.int zc), some (.int x25), some (.int x22_5), none]) hG dX12_plans_58 (by decide) (pm_c1b rfl) rfl ?_
            refine pm_iincX (v := x22_5 + 1) (loc' := [some (.ref (B + 54)), some (.int 8), some (.int zb), some (.int zc), some (.int x25), some (.int (x22_5 + 1)), none]) hG dX12_plans_60 rfl (by rfl) (by decide) (pm_c1b rfl) rfl ?_
            refine pm_goto (tgt := 19) hG dX12_plans_63 rfl ?_
            exact ih19 _ _ _ hE
          · replace hE := fx_t c24 hE
            refine pm_bipush (v := 8) hG dX12_plans_38 (by decide) ?_
            refine pm_aloadn hG dX12_plans_40 rfl ?_
            refine pm_getf hG dX12_plans_41 (flX12_7 _ rfl) rfl rfl ?_
            refine pm_bipush (v := 20) hG dX12_plans_44 (by decide) ?_
            refine pm_iconst (v := 3) hG dX12_plans_46 (by decide) ?_
            refine pm_iloadi hG dX12_plans_47 rfl ?_
            refine pm_imul hG dX12_plans_49 ?_
            refine pm_iadd hG dX12_plans_50 ?_
            obtain ⟨j26, hj26, hE⟩ := fb_some hE
            refine fx_iald hG dX12_plans_51 rfl hj26 ?_
            refine pm_imul hG dX12_plans_52 ?_
            refine pm_goto (tgt := 57) hG dX12_plans_53 rfl ?_
            refine pm_iadd hG dX12_plans_57 ?_
            refine fx_letv hE (fun x27 hE => ?_)
            refine pm_istoreXi (loc' := [some (.ref (B + 54)), some (.int 8), some (.int zb), some (.int zc), some (.int x27), some (.int x22_5), none]) hG dX12_plans_58 (by decide) (pm_c1b rfl) rfl ?_
            refine pm_iincX (v := x22_5 + 1) (loc' := [some (.ref (B + 54)), some (.int 8), some (.int zb), some (.int zc), some (.int x27), some (.int (x22_5 + 1)), none]) hG dX12_plans_60 rfl (by rfl) (by decide) (pm_c1b rfl) rfl ?_
            refine pm_goto (tgt := 19) hG dX12_plans_63 rfl ?_
            exact ih19 _ _ _ hE
    refine loop19 _ (fun S28 x28_4 x28_5 hE => ?_) _ _ _ _ hE
    have join83 : ∀ (S29 : FS), j_X12_plans_k8_83 x28_4 S29 = some R → pm_wp mX12_plans G B 83 [some (.ref (B + 54)), some (.int 8), some (.int zb), some (.int zc), some (.int x28_4), some (.int x28_5), none] [] 0 0 cnt (mst B S29 σ) := by
      intro S29 hE
      unfold j_X12_plans_k8_83 at hE
      refine pm_aloadn hG dX12_plans_83 rfl ?_
      refine pm_iconst (v := 1) hG dX12_plans_84 (by decide) ?_
      refine pm_putf hG dX12_plans_85 (fwX12_273 _ rfl) rfl (by decide) (by decide) ?_
      refine mi_20 ?_
      refine fx_letm hE (fun S30 hE => ?_)
      refine pm_aloadn hG dX12_plans_88 rfl ?_
      refine pm_iloadi hG dX12_plans_89 rfl ?_
      refine pm_putf hG dX12_plans_91 (fwX12_277 _ rfl) rfl rfl rfl ?_
      refine mi_19 ?_
      refine fx_letm hE (fun S31 hE => ?_)
      refine pm_iconst (v := 0) hG dX12_plans_94 (by decide) ?_
      refine pm_istoreXi (loc' := [some (.ref (B + 54)), some (.int 8), some (.int zb), some (.int zc), some (.int x28_4), some (.int 0), none]) hG dX12_plans_95 (by decide) (pm_c1b rfl) rfl ?_
      have loop97 : ∀ (k97 : FS → Int32 → Option (Int32 × FS)), (∀ (S32 : FS) (x32_5 : Int32), k97 S32  x32_5 = some R → pm_wp mX12_plans G B 123 [some (.ref (B + 54)), some (.int 8), some (.int zb), some (.int zc), some (.int x28_4), some (.int x32_5), none] [] 0 0 cnt (mst B S32 σ)) → ∀ (m97 : Nat) (S32 : FS) (x32_5 : Int32), l_X12_plans_k8_97 k97 m97 S32  x32_5 = some R → pm_wp mX12_plans G B 97 [some (.ref (B + 54)), some (.int 8), some (.int zb), some (.int zc), some (.int x28_4), some (.int x32_5), none] [] 0 0 cnt (mst B S32 σ) := by
        intro k97 hk97 m97
        induction m97 with
        | zero => intro S32  x32_5 hE; exact fx_no hE
        | succ m97 ih97 =>
          intro S32  x32_5 hE
          rw [l_X12_plans_k8_97] at hE
          refine pm_iloadi hG dX12_plans_97 rfl ?_
          refine pm_iloadn hG dX12_plans_99 rfl ?_
          refine pm_icmp_ge (tgt := 123) hG dX12_plans_100 rfl (fun c33 => ?_) (fun c33 => ?_)
          · replace c33 := Int32.not_lt.mpr c33
            replace hE := fx_f c33 hE
            exact hk97 _ _ hE
          · replace c33 := Int32.not_le.mp c33
            replace hE := fx_t c33 hE
            refine pm_aloadn hG dX12_plans_103 rfl ?_
            refine pm_getf hG dX12_plans_104 (flX12_49 _ rfl) rfl rfl ?_
            refine pm_iloadi hG dX12_plans_107 rfl ?_
            refine pm_aloadn hG dX12_plans_109 rfl ?_
            refine pm_getf hG dX12_plans_110 (flX12_46 _ rfl) rfl rfl ?_
            refine pm_iloadi hG dX12_plans_113 rfl ?_
            obtain ⟨j34, hj34, hE⟩ := fb_some hE
            refine fx_iald hG dX12_plans_115 rfl hj34 ?_
            refine fx_iast hG dX12_plans_116 rfl hj34 ?_
            refine ma_68 ?_
            refine fx_letm hE (fun S35 hE => ?_)
            refine pm_iincX (v := x32_5 + 1) (loc' := [some (.ref (B + 54)), some (.int 8), some (.int zb), some (.int zc), some (.int x28_4), some (.int (x32_5 + 1)), none]) hG dX12_plans_117 rfl (by rfl) (by decide) (pm_c1b rfl) rfl ?_
            refine pm_goto (tgt := 97) hG dX12_plans_120 rfl ?_
            exact ih97 _ _ hE
      refine loop97 _ (fun S36 x36_5 hE => ?_) _ _ _ hE
      exact pm_vret hG hF dX12_plans_123 rfl (Nat.le_refl _) (Nat.le_refl _) (fx_rvm hE)
    refine pm_aloadn hG dX12_plans_66 rfl ?_
    refine pm_getf hG dX12_plans_67 (flX12_273 _ rfl) rfl rfl ?_
    refine pm_if_eq (tgt := 83) hG dX12_plans_70 rfl (fun c37 => ?_) (fun c37 => ?_)
    · replace hE := fx_t c37 hE
      exact join83 _ hE
    · replace hE := fx_f c37 hE
      refine pm_iloadi hG dX12_plans_73 rfl ?_
      refine pm_aloadn hG dX12_plans_75 rfl ?_
      refine pm_getf hG dX12_plans_76 (flX12_277 _ rfl) rfl rfl ?_
      refine pm_icmp_gt (tgt := 83) hG dX12_plans_79 rfl (fun c38 => ?_) (fun c38 => ?_)
      · replace hE := fx_t c38 hE
        exact join83 _ hE
      · replace hE := fx_f c38 hE
        exact pm_vret hG hF dX12_plans_82 rfl (Nat.le_refl _) (Nat.le_refl _) (fx_rvm hE)

set_option maxRecDepth 100000 in
set_option maxHeartbeats 4000000 in
theorem c_X12_plans_k7 {d : Nat} {B cnt : Nat} {σ : pm_S} {S : FS} {zb : Int32} {zc : Int32} {R : Int32 × FS} (hdd : 2 ≤ d) (hE : f_X12_plans_k7 S zb zc = some R) : pm_met mX12_plans d 0 0 B [.ref (B + 54), .int 7, .int zb, .int zc] cnt (mst B S σ) (pm_Qv (fun σ' cnt' => σ' = (mst B R.2 σ) ∧ cnt' = cnt)) := by
  refine pm_enter 3 (by decide) (Nat.le_of_ble_eq_true rfl) rfl (fun G hG hR hF => ?_)
  unfold f_X12_plans_k7 at hE
  refine pm_iloadn hG dX12_plans_0 rfl ?_
  refine pm_aloadn hG dX12_plans_1 rfl ?_
  refine pm_getf hG dX12_plans_2 (flX12_58 _ rfl) rfl rfl ?_
  refine pm_aloadn hG dX12_plans_5 rfl ?_
  refine pm_getf hG dX12_plans_6 (flX12_270 _ rfl) rfl rfl ?_
  obtain ⟨j1, hj1, hE⟩ := fb_some hE
  refine fx_iald hG dX12_plans_9 rfl hj1 ?_
  refine pm_icmp_ne (tgt := 124) hG dX12_plans_10 rfl (fun c2 => ?_) (fun c2 => ?_)
  · replace hE := fx_f c2 hE
    refine pm_iloadn hG dX12_plans_124 rfl ?_
    refine pm_istoreXi (loc' := [some (.ref (B + 54)), some (.int 7), some (.int zb), some (.int zc), some (.int zc), none, none]) hG dX12_plans_125 (by decide) (pm_c1b rfl) rfl ?_
    refine pm_iconst (v := 0) hG dX12_plans_127 (by decide) ?_
    refine pm_istoreXi (loc' := [some (.ref (B + 54)), some (.int 7), some (.int zb), some (.int zc), some (.int zc), some (.int 0), none]) hG dX12_plans_128 (by decide) (pm_c1b rfl) rfl ?_
    have loop130 : ∀ (k130 : FS → Int32 → Int32 → Option (Int32 × FS)), (∀ (S3 : FS) (x3_4 : Int32) (x3_5 : Int32), k130 S3  x3_4 x3_5 = some R → pm_wp mX12_plans G B 174 [some (.ref (B + 54)), some (.int 7), some (.int zb), some (.int zc), some (.int x3_4), some (.int x3_5), none] [] 0 0 cnt (mst B S3 σ)) → ∀ (m130 : Nat) (S3 : FS) (x3_4 : Int32) (x3_5 : Int32), l_X12_plans_k7_130 zb k130 m130 S3  x3_4 x3_5 = some R → pm_wp mX12_plans G B 130 [some (.ref (B + 54)), some (.int 7), some (.int zb), some (.int zc), some (.int x3_4), some (.int x3_5), none] [] 0 0 cnt (mst B S3 σ) := by
      intro k130 hk130 m130
      induction m130 with
      | zero => intro S3  x3_4 x3_5 hE; exact fx_no hE
      | succ m130 ih130 =>
        intro S3  x3_4 x3_5 hE
        rw [l_X12_plans_k7_130] at hE
        refine pm_iloadi hG dX12_plans_130 rfl ?_
        refine pm_bipush (v := 6) hG dX12_plans_132 (by decide) ?_
        refine pm_icmp_ge (tgt := 174) hG dX12_plans_134 rfl (fun c4 => ?_) (fun c4 => ?_)
        · replace c4 := Int32.not_lt.mpr c4
          replace hE := fx_f c4 hE
          exact hk130 _ _ _ hE
        · replace c4 := Int32.not_le.mp c4
          replace hE := fx_t c4 hE
          refine pm_iloadi hG dX12_plans_137 rfl ?_
          refine pm_iloadn hG dX12_plans_139 rfl ?_
          refine pm_iloadi hG dX12_plans_140 rfl ?_
          refine pm_ishr hG dX12_plans_142 ?_
          refine pm_iconst (v := 1) hG dX12_plans_143 (by decide) ?_
          refine pm_iand hG dX12_plans_144 ?_
          refine pm_iconst (v := 1) hG dX12_plans_145 (by decide) ?_
          refine pm_icmp_ne (tgt := 164) hG dX12_plans_146 rfl (fun c5 => ?_) (fun c5 => ?_)
          · replace hE := fx_f c5 hE
            refine pm_iconst (v := 0) hG dX12_plans_164 (by decide) ?_
            refine pm_iadd hG dX12_plans_165 ?_
            refine fx_letv hE (fun x6 hE => ?_)
            refine pm_istoreXi (loc' := [some (.ref (B + 54)), some (.int 7), some (.int zb), some (.int zc), some (.int x6), some (.int x3_5), none]) hG dX12_plans_166 (by decide) (pm_c1b rfl) rfl ?_
            refine pm_iincX (v := x3_5 + 1) (loc' := [some (.ref (B + 54)), some (.int 7), some (.int zb), some (.int zc), some (.int x6), some (.int (x3_5 + 1)), none]) hG dX12_plans_168 rfl (by rfl) (by decide) (pm_c1b rfl) rfl ?_
            refine pm_goto (tgt := 130) hG dX12_plans_171 rfl ?_
            exact ih130 _ _ _ hE
          · replace hE := fx_t c5 hE
            refine pm_aloadn hG dX12_plans_149 rfl ?_
            refine pm_getf hG dX12_plans_150 (flX12_7 _ rfl) rfl rfl ?_
            refine pm_bipush (v := 20) hG dX12_plans_153 (by decide) ?_
            refine pm_iconst (v := 3) hG dX12_plans_155 (by decide) ?_
            refine pm_iloadi hG dX12_plans_156 rfl ?_
            refine pm_imul hG dX12_plans_158 ?_
            refine pm_iadd hG dX12_plans_159 ?_
            obtain ⟨j7, hj7, hE⟩ := fb_some hE
            refine fx_iald hG dX12_plans_160 rfl hj7 ?_
            refine pm_goto (tgt := 165) hG dX12_plans_161 rfl ?_
            refine pm_iadd hG dX12_plans_165 ?_
            refine fx_letv hE (fun x8 hE => ?_)
            refine pm_istoreXi (loc' := [some (.ref (B + 54)), some (.int 7), some (.int zb), some (.int zc), some (.int x8), some (.int x3_5), none]) hG dX12_plans_166 (by decide) (pm_c1b rfl) rfl ?_
            refine pm_iincX (v := x3_5 + 1) (loc' := [some (.ref (B + 54)), some (.int 7), some (.int zb), some (.int zc), some (.int x8), some (.int (x3_5 + 1)), none]) hG dX12_plans_168 rfl (by rfl) (by decide) (pm_c1b rfl) rfl ?_
            refine pm_goto (tgt := 130) hG dX12_plans_171 rfl ?_
            exact ih130 _ _ _ hE
    refine loop130 _ (fun S9 x9_4 x9_5 hE => ?_) _ _ _ _ hE
    refine pm_iconst (v := (-1)) hG dX12_plans_174 (by decide) ?_
    refine pm_istoreXi (loc' := [some (.ref (B + 54)), some (.int 7), some (.int zb), some (.int zc), some (.int x9_4), some (.int (-1)), none]) hG dX12_plans_175 (by decide) (pm_c1b rfl) rfl ?_
    have loop177 : ∀ (k177 : FS → Int32 → Option (Int32 × FS)), (∀ (S10 : FS) (x10_5 : Int32), k177 S10  x10_5 = some R → pm_wp mX12_plans G B 292 [some (.ref (B + 54)), some (.int 7), some (.int zb), some (.int zc), some (.int x9_4), some (.int x10_5), none] [] 0 0 cnt (mst B S10 σ)) → ∀ (m177 : Nat) (S10 : FS) (x10_5 : Int32), l_X12_plans_k7_177 zb x9_4 k177 m177 S10  x10_5 = some R → pm_wp mX12_plans G B 177 [some (.ref (B + 54)), some (.int 7), some (.int zb), some (.int zc), some (.int x9_4), some (.int x10_5), none] [] 0 0 cnt (mst B S10 σ) := by
      intro k177 hk177 m177
      induction m177 with
      | zero => intro S10  x10_5 hE; exact fx_no hE
      | succ m177 ih177 =>
        intro S10  x10_5 hE
        rw [l_X12_plans_k7_177] at hE
        refine pm_iloadi hG dX12_plans_177 rfl ?_
        refine pm_bipush (v := 6) hG dX12_plans_179 (by decide) ?_
        refine pm_icmp_ge (tgt := 292) hG dX12_plans_181 rfl (fun c11 => ?_) (fun c11 => ?_)
        · replace c11 := Int32.not_lt.mpr c11
          replace hE := fx_f c11 hE
          exact hk177 _ _ hE
        · replace c11 := Int32.not_le.mp c11
          replace hE := fx_t c11 hE
          refine pm_iloadi hG dX12_plans_184 rfl ?_
          refine pm_if_lt (tgt := 201) hG dX12_plans_186 rfl (fun c12 => ?_) (fun c12 => ?_)
          · replace hE := fx_t c12 hE
            refine pm_iloadi hG dX12_plans_201 rfl ?_
            refine pm_aloadn hG dX12_plans_203 rfl ?_
            refine pm_getf hG dX12_plans_204 (flX12_61 _ rfl) rfl rfl ?_
            refine pm_bipush (v := 24) hG dX12_plans_207 (by decide) ?_
            refine pm_aloadn hG dX12_plans_209 rfl ?_
            refine pm_getf hG dX12_plans_210 (flX12_270 _ rfl) rfl rfl ?_
            refine pm_imul hG dX12_plans_213 ?_
            refine pm_iloadn hG dX12_plans_214 rfl ?_
            refine pm_iadd hG dX12_plans_215 ?_
            obtain ⟨j13, hj13, hE⟩ := fb_some hE
            refine fx_iald hG dX12_plans_216 rfl hj13 ?_
            refine pm_isub hG dX12_plans_217 ?_
            refine pm_iloadi hG dX12_plans_218 rfl ?_
            refine pm_if_ge (tgt := 227) hG dX12_plans_220 rfl (fun q => absurd c12 (Int32.not_lt.mpr q)) (fun _ => ?_)
            refine pm_iconst (v := 0) hG dX12_plans_223 (by decide) ?_
            refine pm_goto (tgt := 241) hG dX12_plans_224 rfl ?_
            refine pm_iadd hG dX12_plans_241 ?_
            refine fx_letv hE (fun x14 hE => ?_)
            refine pm_istoreXi (loc' := [some (.ref (B + 54)), some (.int 7), some (.int zb), some (.int zc), some (.int x9_4), some (.int x10_5), some (.int x14)]) hG dX12_plans_242 (by decide) (pm_c1b rfl) rfl ?_
            refine pm_iloadi hG dX12_plans_244 rfl ?_
            refine pm_if_ge (tgt := 252) hG dX12_plans_246 rfl (fun c15 => ?_) (fun c15 => ?_)
            · replace c15 := Int32.not_lt.mpr c15
              replace hE := fx_f c15 hE
              refine pm_aloadn hG dX12_plans_252 rfl ?_
              refine pm_getf hG dX12_plans_253 (flX12_46 _ rfl) rfl rfl ?_
              refine pm_iloadn hG dX12_plans_256 rfl ?_
              refine pm_iloadi hG dX12_plans_257 rfl ?_
              refine fx_iast hG dX12_plans_259 rfl (ix_lit (by decide) rfl) ?_
              refine ma_67 ?_
              refine fx_letm hE (fun S16 hE => ?_)
              refine pm_aloadn hG dX12_plans_260 rfl ?_
              refine pm_iloadn hG dX12_plans_261 rfl ?_
              refine pm_iconst (v := 1) hG dX12_plans_262 (by decide) ?_
              refine pm_iadd hG dX12_plans_263 ?_
              refine pm_top (v := 8) (by decide) ?_
              refine pm_iloadi hG dX12_plans_264 rfl ?_
              refine pm_if_ge (tgt := 273) hG dX12_plans_266 rfl (fun q => absurd c12 (Int32.not_lt.mpr q)) (fun _ => ?_)
              refine pm_iloadn hG dX12_plans_269 rfl ?_
              refine pm_goto (tgt := 281) hG dX12_plans_270 rfl ?_
              refine pm_iloadi hG dX12_plans_281 rfl ?_
              obtain ⟨r18, h17, hE⟩ := fb_some hE
              refine pm_callV (As := [.int 8, .int zb, .int x14]) (rest := []) hG hR dX12_plans_283 (lkX12_280 _ rfl) okV_X12_plans rfl rfl (c_X12_plans_k8 (d := 1) (by decide) h17) rfl rfl hdd (Nat.le_refl _) (Nat.le_refl _) (by decide) (fx_kv ?_)
              refine pm_iincX (v := x10_5 + 1) (loc' := [some (.ref (B + 54)), some (.int 7), some (.int zb), some (.int zc), some (.int x9_4), some (.int (x10_5 + 1)), some (.int x14)]) hG dX12_plans_286 rfl (by rfl) (by decide) (pm_c1b rfl) rfl ?_
              refine pm_goto (tgt := 177) hG dX12_plans_289 rfl ?_
              refine pm_fg 6 (loc' := [some (.ref (B + 54)), some (.int 7), some (.int zb), some (.int zc), some (.int x9_4), some (.int (x10_5 + 1)), none]) rfl ?_
              exact ih177 _ _ hE
            · replace c15 := Int32.not_le.mp c15
              replace hE := fx_t c15 hE
              refine pm_goto (tgt := 286) hG dX12_plans_249 rfl ?_
              refine pm_iincX (v := x10_5 + 1) (loc' := [some (.ref (B + 54)), some (.int 7), some (.int zb), some (.int zc), some (.int x9_4), some (.int (x10_5 + 1)), some (.int x14)]) hG dX12_plans_286 rfl (by rfl) (by decide) (pm_c1b rfl) rfl ?_
              refine pm_goto (tgt := 177) hG dX12_plans_289 rfl ?_
              refine pm_fg 6 (loc' := [some (.ref (B + 54)), some (.int 7), some (.int zb), some (.int zc), some (.int x9_4), some (.int (x10_5 + 1)), none]) rfl ?_
              exact ih177 _ _ hE
          · replace hE := fx_f c12 hE
            refine pm_iloadn hG dX12_plans_189 rfl ?_
            refine pm_iloadi hG dX12_plans_190 rfl ?_
            refine pm_ishr hG dX12_plans_192 ?_
            refine pm_iconst (v := 1) hG dX12_plans_193 (by decide) ?_
            refine pm_iand hG dX12_plans_194 ?_
            refine pm_if_ne (tgt := 201) hG dX12_plans_195 rfl (fun c19 => ?_) (fun c19 => ?_)
            · replace hE := fx_f c19 hE
              refine pm_iloadi hG dX12_plans_201 rfl ?_
              refine pm_aloadn hG dX12_plans_203 rfl ?_
              refine pm_getf hG dX12_plans_204 (flX12_61 _ rfl) rfl rfl ?_
              refine pm_bipush (v := 24) hG dX12_plans_207 (by decide) ?_
              refine pm_aloadn hG dX12_plans_209 rfl ?_
              refine pm_getf hG dX12_plans_210 (flX12_270 _ rfl) rfl rfl ?_
              refine pm_imul hG dX12_plans_213 ?_
              refine pm_iloadn hG dX12_plans_214 rfl ?_
              refine pm_iadd hG dX12_plans_215 ?_
              obtain ⟨j20, hj20, hE⟩ := fb_some hE
              refine fx_iald hG dX12_plans_216 rfl hj20 ?_
              refine pm_isub hG dX12_plans_217 ?_
              refine pm_iloadi hG dX12_plans_218 rfl ?_
              refine pm_if_ge (tgt := 227) hG dX12_plans_220 rfl (fun _ => ?_) (fun q => absurd (Int32.not_le.mp q) c12)
              refine pm_iconst (v := 4) hG dX12_plans_227 (by decide) ?_
              refine pm_aloadn hG dX12_plans_228 rfl ?_
              refine pm_getf hG dX12_plans_229 (flX12_7 _ rfl) rfl rfl ?_
              refine pm_bipush (v := 20) hG dX12_plans_232 (by decide) ?_
              refine pm_iconst (v := 3) hG dX12_plans_234 (by decide) ?_
              refine pm_iloadi hG dX12_plans_235 rfl ?_
              refine pm_imul hG dX12_plans_237 ?_
              refine pm_iadd hG dX12_plans_238 ?_
              obtain ⟨j21, hj21, hE⟩ := fb_some hE
              refine fx_iald hG dX12_plans_239 rfl hj21 ?_
              refine pm_imul hG dX12_plans_240 ?_
              refine pm_iadd hG dX12_plans_241 ?_
              refine fx_letv hE (fun x22 hE => ?_)
              refine pm_istoreXi (loc' := [some (.ref (B + 54)), some (.int 7), some (.int zb), some (.int zc), some (.int x9_4), some (.int x10_5), some (.int x22)]) hG dX12_plans_242 (by decide) (pm_c1b rfl) rfl ?_
              refine pm_iloadi hG dX12_plans_244 rfl ?_
              refine pm_if_ge (tgt := 252) hG dX12_plans_246 rfl (fun c23 => ?_) (fun c23 => ?_)
              · replace c23 := Int32.not_lt.mpr c23
                replace hE := fx_f c23 hE
                refine pm_aloadn hG dX12_plans_252 rfl ?_
                refine pm_getf hG dX12_plans_253 (flX12_46 _ rfl) rfl rfl ?_
                refine pm_iloadn hG dX12_plans_256 rfl ?_
                refine pm_iloadi hG dX12_plans_257 rfl ?_
                refine fx_iast hG dX12_plans_259 rfl (ix_lit (by decide) rfl) ?_
                refine ma_67 ?_
                refine fx_letm hE (fun S24 hE => ?_)
                refine pm_aloadn hG dX12_plans_260 rfl ?_
                refine pm_iloadn hG dX12_plans_261 rfl ?_
                refine pm_iconst (v := 1) hG dX12_plans_262 (by decide) ?_
                refine pm_iadd hG dX12_plans_263 ?_
                refine pm_top (v := 8) (by decide) ?_
                refine pm_iloadi hG dX12_plans_264 rfl ?_
                refine pm_if_ge (tgt := 273) hG dX12_plans_266 rfl (fun _ => ?_) (fun q => absurd (Int32.not_le.mp q) c12)
                refine pm_iloadn hG dX12_plans_273 rfl ?_
                refine pm_iconst (v := 1) hG dX12_plans_274 (by decide) ?_
                refine pm_iloadi hG dX12_plans_275 rfl ?_
                refine pm_ishl hG dX12_plans_277 ?_
                refine pm_iconst (v := (-1)) hG dX12_plans_278 (by decide) ?_
                refine pm_ixor hG dX12_plans_279 ?_
                refine pm_iand hG dX12_plans_280 ?_
                refine pm_iloadi hG dX12_plans_281 rfl ?_
                obtain ⟨r26, h25, hE⟩ := fb_some hE
                refine pm_callV (As := [.int 8, .int (zb &&& (((1 : Int32) <<< (x10_5 &&& 31)) ^^^ (-1))), .int x22]) (rest := []) hG hR dX12_plans_283 (lkX12_280 _ rfl) okV_X12_plans rfl rfl (c_X12_plans_k8 (d := 1) (by decide) h25) rfl rfl hdd (Nat.le_refl _) (Nat.le_refl _) (by decide) (fx_kv ?_)
                refine pm_iincX (v := x10_5 + 1) (loc' := [some (.ref (B + 54)), some (.int 7), some (.int zb), some (.int zc), some (.int x9_4), some (.int (x10_5 + 1)), some (.int x22)]) hG dX12_plans_286 rfl (by rfl) (by decide) (pm_c1b rfl) rfl ?_
                refine pm_goto (tgt := 177) hG dX12_plans_289 rfl ?_
                refine pm_fg 6 (loc' := [some (.ref (B + 54)), some (.int 7), some (.int zb), some (.int zc), some (.int x9_4), some (.int (x10_5 + 1)), none]) rfl ?_
                exact ih177 _ _ hE
              · replace c23 := Int32.not_le.mp c23
                replace hE := fx_t c23 hE
                refine pm_goto (tgt := 286) hG dX12_plans_249 rfl ?_
                refine pm_iincX (v := x10_5 + 1) (loc' := [some (.ref (B + 54)), some (.int 7), some (.int zb), some (.int zc), some (.int x9_4), some (.int (x10_5 + 1)), some (.int x22)]) hG dX12_plans_286 rfl (by rfl) (by decide) (pm_c1b rfl) rfl ?_
                refine pm_goto (tgt := 177) hG dX12_plans_289 rfl ?_
                refine pm_fg 6 (loc' := [some (.ref (B + 54)), some (.int 7), some (.int zb), some (.int zc), some (.int x9_4), some (.int (x10_5 + 1)), none]) rfl ?_
                exact ih177 _ _ hE
            · replace hE := fx_t c19 hE
              refine pm_goto (tgt := 286) hG dX12_plans_198 rfl ?_
              refine pm_iincX (v := x10_5 + 1) (loc' := [some (.ref (B + 54)), some (.int 7), some (.int zb), some (.int zc), some (.int x9_4), some (.int (x10_5 + 1)), none]) hG dX12_plans_286 rfl (by rfl) (by decide) (pm_c1b rfl) rfl ?_
              refine pm_goto (tgt := 177) hG dX12_plans_289 rfl ?_
              exact ih177 _ _ hE
    refine loop177 _ (fun S27 x27_5 hE => ?_) _ _ _ hE
    exact pm_vret hG hF dX12_plans_292 rfl (Nat.le_refl _) (Nat.le_refl _) (fx_rvm hE)
  · replace hE := fx_t c2 hE
    refine pm_iloadn hG dX12_plans_13 rfl ?_
    refine pm_istoreXi (loc' := [some (.ref (B + 54)), some (.int 7), some (.int zb), some (.int zc), some (.int zc), none, none]) hG dX12_plans_14 (by decide) (pm_c1b rfl) rfl ?_
    refine pm_iconst (v := 0) hG dX12_plans_16 (by decide) ?_
    refine pm_istoreXi (loc' := [some (.ref (B + 54)), some (.int 7), some (.int zb), some (.int zc), some (.int zc), some (.int 0), none]) hG dX12_plans_17 (by decide) (pm_c1b rfl) rfl ?_
    have loop19 : ∀ (k19 : FS → Int32 → Int32 → Option (Int32 × FS)), (∀ (S28 : FS) (x28_4 : Int32) (x28_5 : Int32), k19 S28  x28_4 x28_5 = some R → pm_wp mX12_plans G B 66 [some (.ref (B + 54)), some (.int 7), some (.int zb), some (.int zc), some (.int x28_4), some (.int x28_5), none] [] 0 0 cnt (mst B S28 σ)) → ∀ (m19 : Nat) (S28 : FS) (x28_4 : Int32) (x28_5 : Int32), l_X12_plans_k7_19 zb k19 m19 S28  x28_4 x28_5 = some R → pm_wp mX12_plans G B 19 [some (.ref (B + 54)), some (.int 7), some (.int zb), some (.int zc), some (.int x28_4), some (.int x28_5), none] [] 0 0 cnt (mst B S28 σ) := by
      intro k19 hk19 m19
      induction m19 with
      | zero => intro S28  x28_4 x28_5 hE; exact fx_no hE
      | succ m19 ih19 =>
        intro S28  x28_4 x28_5 hE
        rw [l_X12_plans_k7_19] at hE
        refine pm_iloadi hG dX12_plans_19 rfl ?_
        refine pm_bipush (v := 6) hG dX12_plans_21 (by decide) ?_
        refine pm_icmp_ge (tgt := 66) hG dX12_plans_23 rfl (fun c29 => ?_) (fun c29 => ?_)
        · replace c29 := Int32.not_lt.mpr c29
          replace hE := fx_f c29 hE
          exact hk19 _ _ _ hE
        · replace c29 := Int32.not_le.mp c29
          replace hE := fx_t c29 hE
          refine pm_iloadi hG dX12_plans_26 rfl ?_
          refine pm_iloadn hG dX12_plans_28 rfl ?_
          refine pm_iloadi hG dX12_plans_29 rfl ?_
          refine pm_ishr hG dX12_plans_31 ?_
          refine pm_iconst (v := 1) hG dX12_plans_32 (by decide) ?_
          refine pm_iand hG dX12_plans_33 ?_
          refine pm_iconst (v := 1) hG dX12_plans_34 (by decide) ?_
          refine pm_icmp_ne (tgt := 56) hG dX12_plans_35 rfl (fun c30 => ?_) (fun c30 => ?_)
          · replace hE := fx_f c30 hE
            refine pm_iconst (v := 0) hG dX12_plans_56 (by decide) ?_
            refine pm_iadd hG dX12_plans_57 ?_
            refine fx_letv hE (fun x31 hE => ?_)
            refine pm_istoreXi (loc' := [some (.ref (B + 54)), some (.int 7), some (.int zb), some (.int zc), some (.int x31), some (.int x28_5), none]) hG dX12_plans_58 (by decide) (pm_c1b rfl) rfl ?_
            refine pm_iincX (v := x28_5 + 1) (loc' := [some (.ref (B + 54)), some (.int 7), some (.int zb), some (.int zc), some (.int x31), some (.int (x28_5 + 1)), none]) hG dX12_plans_60 rfl (by rfl) (by decide) (pm_c1b rfl) rfl ?_
            refine pm_goto (tgt := 19) hG dX12_plans_63 rfl ?_
            exact ih19 _ _ _ hE
          · replace hE := fx_t c30 hE
            refine pm_bipush (v := 8) hG dX12_plans_38 (by decide) ?_
            refine pm_aloadn hG dX12_plans_40 rfl ?_
            refine pm_getf hG dX12_plans_41 (flX12_7 _ rfl) rfl rfl ?_
            refine pm_bipush (v := 20) hG dX12_plans_44 (by decide) ?_
            refine pm_iconst (v := 3) hG dX12_plans_46 (by decide) ?_
            refine pm_iloadi hG dX12_plans_47 rfl ?_
            refine pm_imul hG dX12_plans_49 ?_
            refine pm_iadd hG dX12_plans_50 ?_
            obtain ⟨j32, hj32, hE⟩ := fb_some hE
            refine fx_iald hG dX12_plans_51 rfl hj32 ?_
            refine pm_imul hG dX12_plans_52 ?_
            refine pm_goto (tgt := 57) hG dX12_plans_53 rfl ?_
            refine pm_iadd hG dX12_plans_57 ?_
            refine fx_letv hE (fun x33 hE => ?_)
            refine pm_istoreXi (loc' := [some (.ref (B + 54)), some (.int 7), some (.int zb), some (.int zc), some (.int x33), some (.int x28_5), none]) hG dX12_plans_58 (by decide) (pm_c1b rfl) rfl ?_
            refine pm_iincX (v := x28_5 + 1) (loc' := [some (.ref (B + 54)), some (.int 7), some (.int zb), some (.int zc), some (.int x33), some (.int (x28_5 + 1)), none]) hG dX12_plans_60 rfl (by rfl) (by decide) (pm_c1b rfl) rfl ?_
            refine pm_goto (tgt := 19) hG dX12_plans_63 rfl ?_
            exact ih19 _ _ _ hE
    refine loop19 _ (fun S34 x34_4 x34_5 hE => ?_) _ _ _ _ hE
    have join83 : ∀ (S35 : FS), j_X12_plans_k7_83 x34_4 S35 = some R → pm_wp mX12_plans G B 83 [some (.ref (B + 54)), some (.int 7), some (.int zb), some (.int zc), some (.int x34_4), some (.int x34_5), none] [] 0 0 cnt (mst B S35 σ) := by
      intro S35 hE
      unfold j_X12_plans_k7_83 at hE
      refine pm_aloadn hG dX12_plans_83 rfl ?_
      refine pm_iconst (v := 1) hG dX12_plans_84 (by decide) ?_
      refine pm_putf hG dX12_plans_85 (fwX12_273 _ rfl) rfl (by decide) (by decide) ?_
      refine mi_20 ?_
      refine fx_letm hE (fun S36 hE => ?_)
      refine pm_aloadn hG dX12_plans_88 rfl ?_
      refine pm_iloadi hG dX12_plans_89 rfl ?_
      refine pm_putf hG dX12_plans_91 (fwX12_277 _ rfl) rfl rfl rfl ?_
      refine mi_19 ?_
      refine fx_letm hE (fun S37 hE => ?_)
      refine pm_iconst (v := 0) hG dX12_plans_94 (by decide) ?_
      refine pm_istoreXi (loc' := [some (.ref (B + 54)), some (.int 7), some (.int zb), some (.int zc), some (.int x34_4), some (.int 0), none]) hG dX12_plans_95 (by decide) (pm_c1b rfl) rfl ?_
      have loop97 : ∀ (k97 : FS → Int32 → Option (Int32 × FS)), (∀ (S38 : FS) (x38_5 : Int32), k97 S38  x38_5 = some R → pm_wp mX12_plans G B 123 [some (.ref (B + 54)), some (.int 7), some (.int zb), some (.int zc), some (.int x34_4), some (.int x38_5), none] [] 0 0 cnt (mst B S38 σ)) → ∀ (m97 : Nat) (S38 : FS) (x38_5 : Int32), l_X12_plans_k7_97 k97 m97 S38  x38_5 = some R → pm_wp mX12_plans G B 97 [some (.ref (B + 54)), some (.int 7), some (.int zb), some (.int zc), some (.int x34_4), some (.int x38_5), none] [] 0 0 cnt (mst B S38 σ) := by
        intro k97 hk97 m97
        induction m97 with
        | zero => intro S38  x38_5 hE; exact fx_no hE
        | succ m97 ih97 =>
          intro S38  x38_5 hE
          rw [l_X12_plans_k7_97] at hE
          refine pm_iloadi hG dX12_plans_97 rfl ?_
          refine pm_iloadn hG dX12_plans_99 rfl ?_
          refine pm_icmp_ge (tgt := 123) hG dX12_plans_100 rfl (fun c39 => ?_) (fun c39 => ?_)
          · replace c39 := Int32.not_lt.mpr c39
            replace hE := fx_f c39 hE
            exact hk97 _ _ hE
          · replace c39 := Int32.not_le.mp c39
            replace hE := fx_t c39 hE
            refine pm_aloadn hG dX12_plans_103 rfl ?_
            refine pm_getf hG dX12_plans_104 (flX12_49 _ rfl) rfl rfl ?_
            refine pm_iloadi hG dX12_plans_107 rfl ?_
            refine pm_aloadn hG dX12_plans_109 rfl ?_
            refine pm_getf hG dX12_plans_110 (flX12_46 _ rfl) rfl rfl ?_
            refine pm_iloadi hG dX12_plans_113 rfl ?_
            obtain ⟨j40, hj40, hE⟩ := fb_some hE
            refine fx_iald hG dX12_plans_115 rfl hj40 ?_
            refine fx_iast hG dX12_plans_116 rfl hj40 ?_
            refine ma_68 ?_
            refine fx_letm hE (fun S41 hE => ?_)
            refine pm_iincX (v := x38_5 + 1) (loc' := [some (.ref (B + 54)), some (.int 7), some (.int zb), some (.int zc), some (.int x34_4), some (.int (x38_5 + 1)), none]) hG dX12_plans_117 rfl (by rfl) (by decide) (pm_c1b rfl) rfl ?_
            refine pm_goto (tgt := 97) hG dX12_plans_120 rfl ?_
            exact ih97 _ _ hE
      refine loop97 _ (fun S42 x42_5 hE => ?_) _ _ _ hE
      exact pm_vret hG hF dX12_plans_123 rfl (Nat.le_refl _) (Nat.le_refl _) (fx_rvm hE)
    refine pm_aloadn hG dX12_plans_66 rfl ?_
    refine pm_getf hG dX12_plans_67 (flX12_273 _ rfl) rfl rfl ?_
    refine pm_if_eq (tgt := 83) hG dX12_plans_70 rfl (fun c43 => ?_) (fun c43 => ?_)
    · replace hE := fx_t c43 hE
      exact join83 _ hE
    · replace hE := fx_f c43 hE
      refine pm_iloadi hG dX12_plans_73 rfl ?_
      refine pm_aloadn hG dX12_plans_75 rfl ?_
      refine pm_getf hG dX12_plans_76 (flX12_277 _ rfl) rfl rfl ?_
      refine pm_icmp_gt (tgt := 83) hG dX12_plans_79 rfl (fun c44 => ?_) (fun c44 => ?_)
      · replace hE := fx_t c44 hE
        exact join83 _ hE
      · replace hE := fx_f c44 hE
        exact pm_vret hG hF dX12_plans_82 rfl (Nat.le_refl _) (Nat.le_refl _) (fx_rvm hE)
end
section
set_option maxRecDepth 100000 in
set_option maxHeartbeats 4000000 in
theorem c_X12_plans_k6 {d : Nat} {B cnt : Nat} {σ : pm_S} {S : FS} {zb : Int32} {zc : Int32} {R : Int32 × FS} (hdd : 3 ≤ d) (hE : f_X12_plans_k6 S zb zc = some R) : pm_met mX12_plans d 0 0 B [.ref (B + 54), .int 6, .int zb, .int zc] cnt (mst B S σ) (pm_Qv (fun σ' cnt' => σ' = (mst B R.2 σ) ∧ cnt' = cnt)) := by
  refine pm_enter 3 (by decide) (Nat.le_of_ble_eq_true rfl) rfl (fun G hG hR hF => ?_)
  unfold f_X12_plans_k6 at hE
  refine pm_iloadn hG dX12_plans_0 rfl ?_
  refine pm_aloadn hG dX12_plans_1 rfl ?_
  refine pm_getf hG dX12_plans_2 (flX12_58 _ rfl) rfl rfl ?_
  refine pm_aloadn hG dX12_plans_5 rfl ?_
  refine pm_getf hG dX12_plans_6 (flX12_270 _ rfl) rfl rfl ?_
  obtain ⟨j1, hj1, hE⟩ := fb_some hE
  refine fx_iald hG dX12_plans_9 rfl hj1 ?_
  refine pm_icmp_ne (tgt := 124) hG dX12_plans_10 rfl (fun c2 => ?_) (fun c2 => ?_)
  · replace hE := fx_f c2 hE
    refine pm_iloadn hG dX12_plans_124 rfl ?_
    refine pm_istoreXi (loc' := [some (.ref (B + 54)), some (.int 6), some (.int zb), some (.int zc), some (.int zc), none, none]) hG dX12_plans_125 (by decide) (pm_c1b rfl) rfl ?_
    refine pm_iconst (v := 0) hG dX12_plans_127 (by decide) ?_
    refine pm_istoreXi (loc' := [some (.ref (B + 54)), some (.int 6), some (.int zb), some (.int zc), some (.int zc), some (.int 0), none]) hG dX12_plans_128 (by decide) (pm_c1b rfl) rfl ?_
    have loop130 : ∀ (k130 : FS → Int32 → Int32 → Option (Int32 × FS)), (∀ (S3 : FS) (x3_4 : Int32) (x3_5 : Int32), k130 S3  x3_4 x3_5 = some R → pm_wp mX12_plans G B 174 [some (.ref (B + 54)), some (.int 6), some (.int zb), some (.int zc), some (.int x3_4), some (.int x3_5), none] [] 0 0 cnt (mst B S3 σ)) → ∀ (m130 : Nat) (S3 : FS) (x3_4 : Int32) (x3_5 : Int32), l_X12_plans_k6_130 zb k130 m130 S3  x3_4 x3_5 = some R → pm_wp mX12_plans G B 130 [some (.ref (B + 54)), some (.int 6), some (.int zb), some (.int zc), some (.int x3_4), some (.int x3_5), none] [] 0 0 cnt (mst B S3 σ) := by
      intro k130 hk130 m130
      induction m130 with
      | zero => intro S3  x3_4 x3_5 hE; exact fx_no hE
      | succ m130 ih130 =>
        intro S3  x3_4 x3_5 hE
        rw [l_X12_plans_k6_130] at hE
        refine pm_iloadi hG dX12_plans_130 rfl ?_
        refine pm_bipush (v := 6) hG dX12_plans_132 (by decide) ?_
        refine pm_icmp_ge (tgt := 174) hG dX12_plans_134 rfl (fun c4 => ?_) (fun c4 => ?_)
        · replace c4 := Int32.not_lt.mpr c4
          replace hE := fx_f c4 hE
          exact hk130 _ _ _ hE
        · replace c4 := Int32.not_le.mp c4
          replace hE := fx_t c4 hE
          refine pm_iloadi hG dX12_plans_137 rfl ?_
          refine pm_iloadn hG dX12_plans_139 rfl ?_
          refine pm_iloadi hG dX12_plans_140 rfl ?_
          refine pm_ishr hG dX12_plans_142 ?_
          refine pm_iconst (v := 1) hG dX12_plans_143 (by decide) ?_
          refine pm_iand hG dX12_plans_144 ?_
          refine pm_iconst (v := 1) hG dX12_plans_145 (by decide) ?_
          refine pm_icmp_ne (tgt := 164) hG dX12_plans_146 rfl (fun c5 => ?_) (fun c5 => ?_)
          · replace hE := fx_f c5 hE
            refine pm_iconst (v := 0) hG dX12_plans_164 (by decide) ?_
            refine pm_iadd hG dX12_plans_165 ?_
            refine fx_letv hE (fun x6 hE => ?_)
            refine pm_istoreXi (loc' := [some (.ref (B + 54)), some (.int 6), some (.int zb), some (.int zc), some (.int x6), some (.int x3_5), none]) hG dX12_plans_166 (by decide) (pm_c1b rfl) rfl ?_
            refine pm_iincX (v := x3_5 + 1) (loc' := [some (.ref (B + 54)), some (.int 6), some (.int zb), some (.int zc), some (.int x6), some (.int (x3_5 + 1)), none]) hG dX12_plans_168 rfl (by rfl) (by decide) (pm_c1b rfl) rfl ?_
            refine pm_goto (tgt := 130) hG dX12_plans_171 rfl ?_
            exact ih130 _ _ _ hE
          · replace hE := fx_t c5 hE
            refine pm_aloadn hG dX12_plans_149 rfl ?_
            refine pm_getf hG dX12_plans_150 (flX12_7 _ rfl) rfl rfl ?_
            refine pm_bipush (v := 20) hG dX12_plans_153 (by decide) ?_
            refine pm_iconst (v := 3) hG dX12_plans_155 (by decide) ?_
            refine pm_iloadi hG dX12_plans_156 rfl ?_
            refine pm_imul hG dX12_plans_158 ?_
            refine pm_iadd hG dX12_plans_159 ?_
            obtain ⟨j7, hj7, hE⟩ := fb_some hE
            refine fx_iald hG dX12_plans_160 rfl hj7 ?_
            refine pm_goto (tgt := 165) hG dX12_plans_161 rfl ?_
            refine pm_iadd hG dX12_plans_165 ?_
            refine fx_letv hE (fun x8 hE => ?_)
            refine pm_istoreXi (loc' := [some (.ref (B + 54)), some (.int 6), some (.int zb), some (.int zc), some (.int x8), some (.int x3_5), none]) hG dX12_plans_166 (by decide) (pm_c1b rfl) rfl ?_
            refine pm_iincX (v := x3_5 + 1) (loc' := [some (.ref (B + 54)), some (.int 6), some (.int zb), some (.int zc), some (.int x8), some (.int (x3_5 + 1)), none]) hG dX12_plans_168 rfl (by rfl) (by decide) (pm_c1b rfl) rfl ?_
            refine pm_goto (tgt := 130) hG dX12_plans_171 rfl ?_
            exact ih130 _ _ _ hE
    refine loop130 _ (fun S9 x9_4 x9_5 hE => ?_) _ _ _ _ hE
    refine pm_iconst (v := (-1)) hG dX12_plans_174 (by decide) ?_
    refine pm_istoreXi (loc' := [some (.ref (B + 54)), some (.int 6), some (.int zb), some (.int zc), some (.int x9_4), some (.int (-1)), none]) hG dX12_plans_175 (by decide) (pm_c1b rfl) rfl ?_
    have loop177 : ∀ (k177 : FS → Int32 → Option (Int32 × FS)), (∀ (S10 : FS) (x10_5 : Int32), k177 S10  x10_5 = some R → pm_wp mX12_plans G B 292 [some (.ref (B + 54)), some (.int 6), some (.int zb), some (.int zc), some (.int x9_4), some (.int x10_5), none] [] 0 0 cnt (mst B S10 σ)) → ∀ (m177 : Nat) (S10 : FS) (x10_5 : Int32), l_X12_plans_k6_177 zb x9_4 k177 m177 S10  x10_5 = some R → pm_wp mX12_plans G B 177 [some (.ref (B + 54)), some (.int 6), some (.int zb), some (.int zc), some (.int x9_4), some (.int x10_5), none] [] 0 0 cnt (mst B S10 σ) := by
      intro k177 hk177 m177
      induction m177 with
      | zero => intro S10  x10_5 hE; exact fx_no hE
      | succ m177 ih177 =>
        intro S10  x10_5 hE
        rw [l_X12_plans_k6_177] at hE
        refine pm_iloadi hG dX12_plans_177 rfl ?_
        refine pm_bipush (v := 6) hG dX12_plans_179 (by decide) ?_
        refine pm_icmp_ge (tgt := 292) hG dX12_plans_181 rfl (fun c11 => ?_) (fun c11 => ?_)
        · replace c11 := Int32.not_lt.mpr c11
          replace hE := fx_f c11 hE
          exact hk177 _ _ hE
        · replace c11 := Int32.not_le.mp c11
          replace hE := fx_t c11 hE
          refine pm_iloadi hG dX12_plans_184 rfl ?_
          refine pm_if_lt (tgt := 201) hG dX12_plans_186 rfl (fun c12 => ?_) (fun c12 => ?_)
          · replace hE := fx_t c12 hE
            refine pm_iloadi hG dX12_plans_201 rfl ?_
            refine pm_aloadn hG dX12_plans_203 rfl ?_
            refine pm_getf hG dX12_plans_204 (flX12_61 _ rfl) rfl rfl ?_
            refine pm_bipush (v := 24) hG dX12_plans_207 (by decide) ?_
            refine pm_aloadn hG dX12_plans_209 rfl ?_
            refine pm_getf hG dX12_plans_210 (flX12_270 _ rfl) rfl rfl ?_
            refine pm_imul hG dX12_plans_213 ?_
            refine pm_iloadn hG dX12_plans_214 rfl ?_
            refine pm_iadd hG dX12_plans_215 ?_
            obtain ⟨j13, hj13, hE⟩ := fb_some hE
            refine fx_iald hG dX12_plans_216 rfl hj13 ?_
            refine pm_isub hG dX12_plans_217 ?_
            refine pm_iloadi hG dX12_plans_218 rfl ?_
            refine pm_if_ge (tgt := 227) hG dX12_plans_220 rfl (fun q => absurd c12 (Int32.not_lt.mpr q)) (fun _ => ?_)
            refine pm_iconst (v := 0) hG dX12_plans_223 (by decide) ?_
            refine pm_goto (tgt := 241) hG dX12_plans_224 rfl ?_
            refine pm_iadd hG dX12_plans_241 ?_
            refine fx_letv hE (fun x14 hE => ?_)
            refine pm_istoreXi (loc' := [some (.ref (B + 54)), some (.int 6), some (.int zb), some (.int zc), some (.int x9_4), some (.int x10_5), some (.int x14)]) hG dX12_plans_242 (by decide) (pm_c1b rfl) rfl ?_
            refine pm_iloadi hG dX12_plans_244 rfl ?_
            refine pm_if_ge (tgt := 252) hG dX12_plans_246 rfl (fun c15 => ?_) (fun c15 => ?_)
            · replace c15 := Int32.not_lt.mpr c15
              replace hE := fx_f c15 hE
              refine pm_aloadn hG dX12_plans_252 rfl ?_
              refine pm_getf hG dX12_plans_253 (flX12_46 _ rfl) rfl rfl ?_
              refine pm_iloadn hG dX12_plans_256 rfl ?_
              refine pm_iloadi hG dX12_plans_257 rfl ?_
              refine fx_iast hG dX12_plans_259 rfl (ix_lit (by decide) rfl) ?_
              refine ma_67 ?_
              refine fx_letm hE (fun S16 hE => ?_)
              refine pm_aloadn hG dX12_plans_260 rfl ?_
              refine pm_iloadn hG dX12_plans_261 rfl ?_
              refine pm_iconst (v := 1) hG dX12_plans_262 (by decide) ?_
              refine pm_iadd hG dX12_plans_263 ?_
              refine pm_top (v := 7) (by decide) ?_
              refine pm_iloadi hG dX12_plans_264 rfl ?_
              refine pm_if_ge (tgt := 273) hG dX12_plans_266 rfl (fun q => absurd c12 (Int32.not_lt.mpr q)) (fun _ => ?_)
              refine pm_iloadn hG dX12_plans_269 rfl ?_
              refine pm_goto (tgt := 281) hG dX12_plans_270 rfl ?_
              refine pm_iloadi hG dX12_plans_281 rfl ?_
              obtain ⟨r18, h17, hE⟩ := fb_some hE
              refine pm_callV (As := [.int 7, .int zb, .int x14]) (rest := []) hG hR dX12_plans_283 (lkX12_280 _ rfl) okV_X12_plans rfl rfl (c_X12_plans_k7 (d := 2) (by decide) h17) rfl rfl hdd (Nat.le_refl _) (Nat.le_refl _) (by decide) (fx_kv ?_)
              refine pm_iincX (v := x10_5 + 1) (loc' := [some (.ref (B + 54)), some (.int 6), some (.int zb), some (.int zc), some (.int x9_4), some (.int (x10_5 + 1)), some (.int x14)]) hG dX12_plans_286 rfl (by rfl) (by decide) (pm_c1b rfl) rfl ?_
              refine pm_goto (tgt := 177) hG dX12_plans_289 rfl ?_
              refine pm_fg 6 (loc' := [some (.ref (B + 54)), some (.int 6), some (.int zb), some (.int zc), some (.int x9_4), some (.int (x10_5 + 1)), none]) rfl ?_
              exact ih177 _ _ hE
            · replace c15 := Int32.not_le.mp c15
              replace hE := fx_t c15 hE
              refine pm_goto (tgt := 286) hG dX12_plans_249 rfl ?_
              refine pm_iincX (v := x10_5 + 1) (loc' := [some (.ref (B + 54)), some (.int 6), some (.int zb), some (.int zc), some (.int x9_4), some (.int (x10_5 + 1)), some (.int x14)]) hG dX12_plans_286 rfl (by rfl) (by decide) (pm_c1b rfl) rfl ?_
              refine pm_goto (tgt := 177) hG dX12_plans_289 rfl ?_
              refine pm_fg 6 (loc' := [some (.ref (B + 54)), some (.int 6), some (.int zb), some (.int zc), some (.int x9_4), some (.int (x10_5 + 1)), none]) rfl ?_
              exact ih177 _ _ hE
          · replace hE := fx_f c12 hE
            refine pm_iloadn hG dX12_plans_189 rfl ?_
            refine pm_iloadi hG dX12_plans_190 rfl ?_
            refine pm_ishr hG dX12_plans_192 ?_
            refine pm_iconst (v := 1) hG dX12_plans_193 (by decide) ?_
            refine pm_iand hG dX12_plans_194 ?_
            refine pm_if_ne (tgt := 201) hG dX12_plans_195 rfl (fun c19 => ?_) (fun c19 => ?_)
            · replace hE := fx_f c19 hE
              refine pm_iloadi hG dX12_plans_201 rfl ?_
              refine pm_aloadn hG dX12_plans_203 rfl ?_
              refine pm_getf hG dX12_plans_204 (flX12_61 _ rfl) rfl rfl ?_
              refine pm_bipush (v := 24) hG dX12_plans_207 (by decide) ?_
              refine pm_aloadn hG dX12_plans_209 rfl ?_
              refine pm_getf hG dX12_plans_210 (flX12_270 _ rfl) rfl rfl ?_
              refine pm_imul hG dX12_plans_213 ?_
              refine pm_iloadn hG dX12_plans_214 rfl ?_
              refine pm_iadd hG dX12_plans_215 ?_
              obtain ⟨j20, hj20, hE⟩ := fb_some hE
              refine fx_iald hG dX12_plans_216 rfl hj20 ?_
              refine pm_isub hG dX12_plans_217 ?_
              refine pm_iloadi hG dX12_plans_218 rfl ?_
              refine pm_if_ge (tgt := 227) hG dX12_plans_220 rfl (fun _ => ?_) (fun q => absurd (Int32.not_le.mp q) c12)
              refine pm_iconst (v := 4) hG dX12_plans_227 (by decide) ?_
              refine pm_aloadn hG dX12_plans_228 rfl ?_
              refine pm_getf hG dX12_plans_229 (flX12_7 _ rfl) rfl rfl ?_
              refine pm_bipush (v := 20) hG dX12_plans_232 (by decide) ?_
              refine pm_iconst (v := 3) hG dX12_plans_234 (by decide) ?_
              refine pm_iloadi hG dX12_plans_235 rfl ?_
              refine pm_imul hG dX12_plans_237 ?_
              refine pm_iadd hG dX12_plans_238 ?_
              obtain ⟨j21, hj21, hE⟩ := fb_some hE
              refine fx_iald hG dX12_plans_239 rfl hj21 ?_
              refine pm_imul hG dX12_plans_240 ?_
              refine pm_iadd hG dX12_plans_241 ?_
              refine fx_letv hE (fun x22 hE => ?_)
              refine pm_istoreXi (loc' := [some (.ref (B + 54)), some (.int 6), some (.int zb), some (.int zc), some (.int x9_4), some (.int x10_5), some (.int x22)]) hG dX12_plans_242 (by decide) (pm_c1b rfl) rfl ?_
              refine pm_iloadi hG dX12_plans_244 rfl ?_
              refine pm_if_ge (tgt := 252) hG dX12_plans_246 rfl (fun c23 => ?_) (fun c23 => ?_)
              · replace c23 := Int32.not_lt.mpr c23
                replace hE := fx_f c23 hE
                refine pm_aloadn hG dX12_plans_252 rfl ?_
                refine pm_getf hG dX12_plans_253 (flX12_46 _ rfl) rfl rfl ?_
                refine pm_iloadn hG dX12_plans_256 rfl ?_
                refine pm_iloadi hG dX12_plans_257 rfl ?_
                refine fx_iast hG dX12_plans_259 rfl (ix_lit (by decide) rfl) ?_
                refine ma_67 ?_
                refine fx_letm hE (fun S24 hE => ?_)
                refine pm_aloadn hG dX12_plans_260 rfl ?_
                refine pm_iloadn hG dX12_plans_261 rfl ?_
                refine pm_iconst (v := 1) hG dX12_plans_262 (by decide) ?_
                refine pm_iadd hG dX12_plans_263 ?_
                refine pm_top (v := 7) (by decide) ?_
                refine pm_iloadi hG dX12_plans_264 rfl ?_
                refine pm_if_ge (tgt := 273) hG dX12_plans_266 rfl (fun _ => ?_) (fun q => absurd (Int32.not_le.mp q) c12)
                refine pm_iloadn hG dX12_plans_273 rfl ?_
                refine pm_iconst (v := 1) hG dX12_plans_274 (by decide) ?_
                refine pm_iloadi hG dX12_plans_275 rfl ?_
                refine pm_ishl hG dX12_plans_277 ?_
                refine pm_iconst (v := (-1)) hG dX12_plans_278 (by decide) ?_
                refine pm_ixor hG dX12_plans_279 ?_
                refine pm_iand hG dX12_plans_280 ?_
                refine pm_iloadi hG dX12_plans_281 rfl ?_
                obtain ⟨r26, h25, hE⟩ := fb_some hE
                refine pm_callV (As := [.int 7, .int (zb &&& (((1 : Int32) <<< (x10_5 &&& 31)) ^^^ (-1))), .int x22]) (rest := []) hG hR dX12_plans_283 (lkX12_280 _ rfl) okV_X12_plans rfl rfl (c_X12_plans_k7 (d := 2) (by decide) h25) rfl rfl hdd (Nat.le_refl _) (Nat.le_refl _) (by decide) (fx_kv ?_)
                refine pm_iincX (v := x10_5 + 1) (loc' := [some (.ref (B + 54)), some (.int 6), some (.int zb), some (.int zc), some (.int x9_4), some (.int (x10_5 + 1)), some (.int x22)]) hG dX12_plans_286 rfl (by rfl) (by decide) (pm_c1b rfl) rfl ?_
                refine pm_goto (tgt := 177) hG dX12_plans_289 rfl ?_
                refine pm_fg 6 (loc' := [some (.ref (B + 54)), some (.int 6), some (.int zb), some (.int zc), some (.int x9_4), some (.int (x10_5 + 1)), none]) rfl ?_
                exact ih177 _ _ hE
              · replace c23 := Int32.not_le.mp c23
                replace hE := fx_t c23 hE
                refine pm_goto (tgt := 286) hG dX12_plans_249 rfl ?_
                refine pm_iincX (v := x10_5 + 1) (loc' := [some (.ref (B + 54)), some (.int 6), some (.int zb), some (.int zc), some (.int x9_4), some (.int (x10_5 + 1)), some (.int x22)]) hG dX12_plans_286 rfl (by rfl) (by decide) (pm_c1b rfl) rfl ?_
                refine pm_goto (tgt := 177) hG dX12_plans_289 rfl ?_
                refine pm_fg 6 (loc' := [some (.ref (B + 54)), some (.int 6), some (.int zb), some (.int zc), some (.int x9_4), some (.int (x10_5 + 1)), none]) rfl ?_
                exact ih177 _ _ hE
            · replace hE := fx_t c19 hE
              refine pm_goto (tgt := 286) hG dX12_plans_198 rfl ?_
              refine pm_iincX (v := x10_5 + 1) (loc' := [some (.ref (B + 54)), some (.int 6), some (.int zb), some (.int zc), some (.int x9_4), some (.int (x10_5 + 1)), none]) hG dX12_plans_286 rfl (by rfl) (by decide) (pm_c1b rfl) rfl ?_
              refine pm_goto (tgt := 177) hG dX12_plans_289 rfl ?_
              exact ih177 _ _ hE
    refine loop177 _ (fun S27 x27_5 hE => ?_) _ _ _ hE
    exact pm_vret hG hF dX12_plans_292 rfl (Nat.le_refl _) (Nat.le_refl _) (fx_rvm hE)
  · replace hE := fx_t c2 hE
    refine pm_iloadn hG dX12_plans_13 rfl ?_
    refine pm_istoreXi (loc' := [some (.ref (B + 54)), some (.int 6), some (.int zb), some (.int zc), some (.int zc), none, none]) hG dX12_plans_14 (by decide) (pm_c1b rfl) rfl ?_
    refine pm_iconst (v := 0) hG dX12_plans_16 (by decide) ?_
    refine pm_istoreXi (loc' := [some (.ref (B + 54)), some (.int 6), some (.int zb), some (.int zc), some (.int zc), some (.int 0), none]) hG dX12_plans_17 (by decide) (pm_c1b rfl) rfl ?_
    have loop19 : ∀ (k19 : FS → Int32 → Int32 → Option (Int32 × FS)), (∀ (S28 : FS) (x28_4 : Int32) (x28_5 : Int32), k19 S28  x28_4 x28_5 = some R → pm_wp mX12_plans G B 66 [some (.ref (B + 54)), some (.int 6), some (.int zb), some (.int zc), some (.int x28_4), some (.int x28_5), none] [] 0 0 cnt (mst B S28 σ)) → ∀ (m19 : Nat) (S28 : FS) (x28_4 : Int32) (x28_5 : Int32), l_X12_plans_k6_19 zb k19 m19 S28  x28_4 x28_5 = some R → pm_wp mX12_plans G B 19 [some (.ref (B + 54)), some (.int 6), some (.int zb), some (.int zc), some (.int x28_4), some (.int x28_5), none] [] 0 0 cnt (mst B S28 σ) := by
      intro k19 hk19 m19
      induction m19 with
      | zero => intro S28  x28_4 x28_5 hE; exact fx_no hE
      | succ m19 ih19 =>
        intro S28  x28_4 x28_5 hE
        rw [l_X12_plans_k6_19] at hE
        refine pm_iloadi hG dX12_plans_19 rfl ?_
        refine pm_bipush (v := 6) hG dX12_plans_21 (by decide) ?_
        refine pm_icmp_ge (tgt := 66) hG dX12_plans_23 rfl (fun c29 => ?_) (fun c29 => ?_)
        · replace c29 := Int32.not_lt.mpr c29
          replace hE := fx_f c29 hE
          exact hk19 _ _ _ hE
        · replace c29 := Int32.not_le.mp c29
          replace hE := fx_t c29 hE
          refine pm_iloadi hG dX12_plans_26 rfl ?_
          refine pm_iloadn hG dX12_plans_28 rfl ?_
          refine pm_iloadi hG dX12_plans_29 rfl ?_
          refine pm_ishr hG dX12_plans_31 ?_
          refine pm_iconst (v := 1) hG dX12_plans_32 (by decide) ?_
          refine pm_iand hG dX12_plans_33 ?_
          refine pm_iconst (v := 1) hG dX12_plans_34 (by decide) ?_
          refine pm_icmp_ne (tgt := 56) hG dX12_plans_35 rfl (fun c30 => ?_) (fun c30 => ?_)
          · replace hE := fx_f c30 hE
            refine pm_iconst (v := 0) hG dX12_plans_56 (by decide) ?_
            refine pm_iadd hG dX12_plans_57 ?_
            refine fx_letv hE (fun x31 hE => ?_)
            refine pm_istoreXi (loc' := [some (.ref (B + 54)), some (.int 6), some (.int zb), some (.int zc), some (.int x31), some (.int x28_5), none]) hG dX12_plans_58 (by decide) (pm_c1b rfl) rfl ?_
            refine pm_iincX (v := x28_5 + 1) (loc' := [some (.ref (B + 54)), some (.int 6), some (.int zb), some (.int zc), some (.int x31), some (.int (x28_5 + 1)), none]) hG dX12_plans_60 rfl (by rfl) (by decide) (pm_c1b rfl) rfl ?_
            refine pm_goto (tgt := 19) hG dX12_plans_63 rfl ?_
            exact ih19 _ _ _ hE
          · replace hE := fx_t c30 hE
            refine pm_bipush (v := 8) hG dX12_plans_38 (by decide) ?_
            refine pm_aloadn hG dX12_plans_40 rfl ?_
            refine pm_getf hG dX12_plans_41 (flX12_7 _ rfl) rfl rfl ?_
            refine pm_bipush (v := 20) hG dX12_plans_44 (by decide) ?_
            refine pm_iconst (v := 3) hG dX12_plans_46 (by decide) ?_
            refine pm_iloadi hG dX12_plans_47 rfl ?_
            refine pm_imul hG dX12_plans_49 ?_
            refine pm_iadd hG dX12_plans_50 ?_
            obtain ⟨j32, hj32, hE⟩ := fb_some hE
            refine fx_iald hG dX12_plans_51 rfl hj32 ?_
            refine pm_imul hG dX12_plans_52 ?_
            refine pm_goto (tgt := 57) hG dX12_plans_53 rfl ?_
            refine pm_iadd hG dX12_plans_57 ?_
            refine fx_letv hE (fun x33 hE => ?_)
            refine pm_istoreXi (loc' := [some (.ref (B + 54)), some (.int 6), some (.int zb), some (.int zc), some (.int x33), some (.int x28_5), none]) hG dX12_plans_58 (by decide) (pm_c1b rfl) rfl ?_
            refine pm_iincX (v := x28_5 + 1) (loc' := [some (.ref (B + 54)), some (.int 6), some (.int zb), some (.int zc), some (.int x33), some (.int (x28_5 + 1)), none]) hG dX12_plans_60 rfl (by rfl) (by decide) (pm_c1b rfl) rfl ?_
            refine pm_goto (tgt := 19) hG dX12_plans_63 rfl ?_
            exact ih19 _ _ _ hE
    refine loop19 _ (fun S34 x34_4 x34_5 hE => ?_) _ _ _ _ hE
    have join83 : ∀ (S35 : FS), j_X12_plans_k6_83 x34_4 S35 = some R → pm_wp mX12_plans G B 83 [some (.ref (B + 54)), some (.int 6), some (.int zb), some (.int zc), some (.int x34_4), some (.int x34_5), none] [] 0 0 cnt (mst B S35 σ) := by
      intro S35 hE
      unfold j_X12_plans_k6_83 at hE
      refine pm_aloadn hG dX12_plans_83 rfl ?_
      refine pm_iconst (v := 1) hG dX12_plans_84 (by decide) ?_
      refine pm_putf hG dX12_plans_85 (fwX12_273 _ rfl) rfl (by decide) (by decide) ?_
      refine mi_20 ?_
      refine fx_letm hE (fun S36 hE => ?_)
      refine pm_aloadn hG dX12_plans_88 rfl ?_
      refine pm_iloadi hG dX12_plans_89 rfl ?_
      refine pm_putf hG dX12_plans_91 (fwX12_277 _ rfl) rfl rfl rfl ?_
      refine mi_19 ?_
      refine fx_letm hE (fun S37 hE => ?_)
      refine pm_iconst (v := 0) hG dX12_plans_94 (by decide) ?_
      refine pm_istoreXi (loc' := [some (.ref (B + 54)), some (.int 6), some (.int zb), some (.int zc), some (.int x34_4), some (.int 0), none]) hG dX12_plans_95 (by decide) (pm_c1b rfl) rfl ?_
      have loop97 : ∀ (k97 : FS → Int32 → Option (Int32 × FS)), (∀ (S38 : FS) (x38_5 : Int32), k97 S38  x38_5 = some R → pm_wp mX12_plans G B 123 [some (.ref (B + 54)), some (.int 6), some (.int zb), some (.int zc), some (.int x34_4), some (.int x38_5), none] [] 0 0 cnt (mst B S38 σ)) → ∀ (m97 : Nat) (S38 : FS) (x38_5 : Int32), l_X12_plans_k6_97 k97 m97 S38  x38_5 = some R → pm_wp mX12_plans G B 97 [some (.ref (B + 54)), some (.int 6), some (.int zb), some (.int zc), some (.int x34_4), some (.int x38_5), none] [] 0 0 cnt (mst B S38 σ) := by
        intro k97 hk97 m97
        induction m97 with
        | zero => intro S38  x38_5 hE; exact fx_no hE
        | succ m97 ih97 =>
          intro S38  x38_5 hE
          rw [l_X12_plans_k6_97] at hE
          refine pm_iloadi hG dX12_plans_97 rfl ?_
          refine pm_iloadn hG dX12_plans_99 rfl ?_
          refine pm_icmp_ge (tgt := 123) hG dX12_plans_100 rfl (fun c39 => ?_) (fun c39 => ?_)
          · replace c39 := Int32.not_lt.mpr c39
            replace hE := fx_f c39 hE
            exact hk97 _ _ hE
          · replace c39 := Int32.not_le.mp c39
            replace hE := fx_t c39 hE
            refine pm_aloadn hG dX12_plans_103 rfl ?_
            refine pm_getf hG dX12_plans_104 (flX12_49 _ rfl) rfl rfl ?_
            refine pm_iloadi hG dX12_plans_107 rfl ?_
            refine pm_aloadn hG dX12_plans_109 rfl ?_
            refine pm_getf hG dX12_plans_110 (flX12_46 _ rfl) rfl rfl ?_
            refine pm_iloadi hG dX12_plans_113 rfl ?_
            obtain ⟨j40, hj40, hE⟩ := fb_some hE
            refine fx_iald hG dX12_plans_115 rfl hj40 ?_
            refine fx_iast hG dX12_plans_116 rfl hj40 ?_
            refine ma_68 ?_
            refine fx_letm hE (fun S41 hE => ?_)
            refine pm_iincX (v := x38_5 + 1) (loc' := [some (.ref (B + 54)), some (.int 6), some (.int zb), some (.int zc), some (.int x34_4), some (.int (x38_5 + 1)), none]) hG dX12_plans_117 rfl (by rfl) (by decide) (pm_c1b rfl) rfl ?_
            refine pm_goto (tgt := 97) hG dX12_plans_120 rfl ?_
            exact ih97 _ _ hE
      refine loop97 _ (fun S42 x42_5 hE => ?_) _ _ _ hE
      exact pm_vret hG hF dX12_plans_123 rfl (Nat.le_refl _) (Nat.le_refl _) (fx_rvm hE)
    refine pm_aloadn hG dX12_plans_66 rfl ?_
    refine pm_getf hG dX12_plans_67 (flX12_273 _ rfl) rfl rfl ?_
    refine pm_if_eq (tgt := 83) hG dX12_plans_70 rfl (fun c43 => ?_) (fun c43 => ?_)
    · replace hE := fx_t c43 hE
      exact join83 _ hE
    · replace hE := fx_f c43 hE
      refine pm_iloadi hG dX12_plans_73 rfl ?_
      refine pm_aloadn hG dX12_plans_75 rfl ?_
      refine pm_getf hG dX12_plans_76 (flX12_277 _ rfl) rfl rfl ?_
      refine pm_icmp_gt (tgt := 83) hG dX12_plans_79 rfl (fun c44 => ?_) (fun c44 => ?_)
      · replace hE := fx_t c44 hE
        exact join83 _ hE
      · replace hE := fx_f c44 hE
        exact pm_vret hG hF dX12_plans_82 rfl (Nat.le_refl _) (Nat.le_refl _) (fx_rvm hE)

set_option maxRecDepth 100000 in
set_option maxHeartbeats 4000000 in
theorem c_X12_plans_k5 {d : Nat} {B cnt : Nat} {σ : pm_S} {S : FS} {zb : Int32} {zc : Int32} {R : Int32 × FS} (hdd : 4 ≤ d) (hE : f_X12_plans_k5 S zb zc = some R) : pm_met mX12_plans d 0 0 B [.ref (B + 54), .int 5, .int zb, .int zc] cnt (mst B S σ) (pm_Qv (fun σ' cnt' => σ' = (mst B R.2 σ) ∧ cnt' = cnt)) := by
  refine pm_enter 3 (by decide) (Nat.le_of_ble_eq_true rfl) rfl (fun G hG hR hF => ?_)
  unfold f_X12_plans_k5 at hE
  refine pm_iloadn hG dX12_plans_0 rfl ?_
  refine pm_aloadn hG dX12_plans_1 rfl ?_
  refine pm_getf hG dX12_plans_2 (flX12_58 _ rfl) rfl rfl ?_
  refine pm_aloadn hG dX12_plans_5 rfl ?_
  refine pm_getf hG dX12_plans_6 (flX12_270 _ rfl) rfl rfl ?_
  obtain ⟨j1, hj1, hE⟩ := fb_some hE
  refine fx_iald hG dX12_plans_9 rfl hj1 ?_
  refine pm_icmp_ne (tgt := 124) hG dX12_plans_10 rfl (fun c2 => ?_) (fun c2 => ?_)
  · replace hE := fx_f c2 hE
    refine pm_iloadn hG dX12_plans_124 rfl ?_
    refine pm_istoreXi (loc' := [some (.ref (B + 54)), some (.int 5), some (.int zb), some (.int zc), some (.int zc), none, none]) hG dX12_plans_125 (by decide) (pm_c1b rfl) rfl ?_
    refine pm_iconst (v := 0) hG dX12_plans_127 (by decide) ?_
    refine pm_istoreXi (loc' := [some (.ref (B + 54)), some (.int 5), some (.int zb), some (.int zc), some (.int zc), some (.int 0), none]) hG dX12_plans_128 (by decide) (pm_c1b rfl) rfl ?_
    have loop130 : ∀ (k130 : FS → Int32 → Int32 → Option (Int32 × FS)), (∀ (S3 : FS) (x3_4 : Int32) (x3_5 : Int32), k130 S3  x3_4 x3_5 = some R → pm_wp mX12_plans G B 174 [some (.ref (B + 54)), some (.int 5), some (.int zb), some (.int zc), some (.int x3_4), some (.int x3_5), none] [] 0 0 cnt (mst B S3 σ)) → ∀ (m130 : Nat) (S3 : FS) (x3_4 : Int32) (x3_5 : Int32), l_X12_plans_k5_130 zb k130 m130 S3  x3_4 x3_5 = some R → pm_wp mX12_plans G B 130 [some (.ref (B + 54)), some (.int 5), some (.int zb), some (.int zc), some (.int x3_4), some (.int x3_5), none] [] 0 0 cnt (mst B S3 σ) := by
      intro k130 hk130 m130
      induction m130 with
      | zero => intro S3  x3_4 x3_5 hE; exact fx_no hE
      | succ m130 ih130 =>
        intro S3  x3_4 x3_5 hE
        rw [l_X12_plans_k5_130] at hE
        refine pm_iloadi hG dX12_plans_130 rfl ?_
        refine pm_bipush (v := 6) hG dX12_plans_132 (by decide) ?_
        refine pm_icmp_ge (tgt := 174) hG dX12_plans_134 rfl (fun c4 => ?_) (fun c4 => ?_)
        · replace c4 := Int32.not_lt.mpr c4
          replace hE := fx_f c4 hE
          exact hk130 _ _ _ hE
        · replace c4 := Int32.not_le.mp c4
          replace hE := fx_t c4 hE
          refine pm_iloadi hG dX12_plans_137 rfl ?_
          refine pm_iloadn hG dX12_plans_139 rfl ?_
          refine pm_iloadi hG dX12_plans_140 rfl ?_
          refine pm_ishr hG dX12_plans_142 ?_
          refine pm_iconst (v := 1) hG dX12_plans_143 (by decide) ?_
          refine pm_iand hG dX12_plans_144 ?_
          refine pm_iconst (v := 1) hG dX12_plans_145 (by decide) ?_
          refine pm_icmp_ne (tgt := 164) hG dX12_plans_146 rfl (fun c5 => ?_) (fun c5 => ?_)
          · replace hE := fx_f c5 hE
            refine pm_iconst (v := 0) hG dX12_plans_164 (by decide) ?_
            refine pm_iadd hG dX12_plans_165 ?_
            refine fx_letv hE (fun x6 hE => ?_)
            refine pm_istoreXi (loc' := [some (.ref (B + 54)), some (.int 5), some (.int zb), some (.int zc), some (.int x6), some (.int x3_5), none]) hG dX12_plans_166 (by decide) (pm_c1b rfl) rfl ?_
            refine pm_iincX (v := x3_5 + 1) (loc' := [some (.ref (B + 54)), some (.int 5), some (.int zb), some (.int zc), some (.int x6), some (.int (x3_5 + 1)), none]) hG dX12_plans_168 rfl (by rfl) (by decide) (pm_c1b rfl) rfl ?_
            refine pm_goto (tgt := 130) hG dX12_plans_171 rfl ?_
            exact ih130 _ _ _ hE
          · replace hE := fx_t c5 hE
            refine pm_aloadn hG dX12_plans_149 rfl ?_
            refine pm_getf hG dX12_plans_150 (flX12_7 _ rfl) rfl rfl ?_
            refine pm_bipush (v := 20) hG dX12_plans_153 (by decide) ?_
            refine pm_iconst (v := 3) hG dX12_plans_155 (by decide) ?_
            refine pm_iloadi hG dX12_plans_156 rfl ?_
            refine pm_imul hG dX12_plans_158 ?_
            refine pm_iadd hG dX12_plans_159 ?_
            obtain ⟨j7, hj7, hE⟩ := fb_some hE
            refine fx_iald hG dX12_plans_160 rfl hj7 ?_
            refine pm_goto (tgt := 165) hG dX12_plans_161 rfl ?_
            refine pm_iadd hG dX12_plans_165 ?_
            refine fx_letv hE (fun x8 hE => ?_)
            refine pm_istoreXi (loc' := [some (.ref (B + 54)), some (.int 5), some (.int zb), some (.int zc), some (.int x8), some (.int x3_5), none]) hG dX12_plans_166 (by decide) (pm_c1b rfl) rfl ?_
            refine pm_iincX (v := x3_5 + 1) (loc' := [some (.ref (B + 54)), some (.int 5), some (.int zb), some (.int zc), some (.int x8), some (.int (x3_5 + 1)), none]) hG dX12_plans_168 rfl (by rfl) (by decide) (pm_c1b rfl) rfl ?_
            refine pm_goto (tgt := 130) hG dX12_plans_171 rfl ?_
            exact ih130 _ _ _ hE
    refine loop130 _ (fun S9 x9_4 x9_5 hE => ?_) _ _ _ _ hE
    refine pm_iconst (v := (-1)) hG dX12_plans_174 (by decide) ?_
    refine pm_istoreXi (loc' := [some (.ref (B + 54)), some (.int 5), some (.int zb), some (.int zc), some (.int x9_4), some (.int (-1)), none]) hG dX12_plans_175 (by decide) (pm_c1b rfl) rfl ?_
    have loop177 : ∀ (k177 : FS → Int32 → Option (Int32 × FS)), (∀ (S10 : FS) (x10_5 : Int32), k177 S10  x10_5 = some R → pm_wp mX12_plans G B 292 [some (.ref (B + 54)), some (.int 5), some (.int zb), some (.int zc), some (.int x9_4), some (.int x10_5), none] [] 0 0 cnt (mst B S10 σ)) → ∀ (m177 : Nat) (S10 : FS) (x10_5 : Int32), l_X12_plans_k5_177 zb x9_4 k177 m177 S10  x10_5 = some R → pm_wp mX12_plans G B 177 [some (.ref (B + 54)), some (.int 5), some (.int zb), some (.int zc), some (.int x9_4), some (.int x10_5), none] [] 0 0 cnt (mst B S10 σ) := by
      intro k177 hk177 m177
      induction m177 with
      | zero => intro S10  x10_5 hE; exact fx_no hE
      | succ m177 ih177 =>
        intro S10  x10_5 hE
        rw [l_X12_plans_k5_177] at hE
        refine pm_iloadi hG dX12_plans_177 rfl ?_
        refine pm_bipush (v := 6) hG dX12_plans_179 (by decide) ?_
        refine pm_icmp_ge (tgt := 292) hG dX12_plans_181 rfl (fun c11 => ?_) (fun c11 => ?_)
        · replace c11 := Int32.not_lt.mpr c11
          replace hE := fx_f c11 hE
          exact hk177 _ _ hE
        · replace c11 := Int32.not_le.mp c11
          replace hE := fx_t c11 hE
          refine pm_iloadi hG dX12_plans_184 rfl ?_
          refine pm_if_lt (tgt := 201) hG dX12_plans_186 rfl (fun c12 => ?_) (fun c12 => ?_)
          · replace hE := fx_t c12 hE
            refine pm_iloadi hG dX12_plans_201 rfl ?_
            refine pm_aloadn hG dX12_plans_203 rfl ?_
            refine pm_getf hG dX12_plans_204 (flX12_61 _ rfl) rfl rfl ?_
            refine pm_bipush (v := 24) hG dX12_plans_207 (by decide) ?_
            refine pm_aloadn hG dX12_plans_209 rfl ?_
            refine pm_getf hG dX12_plans_210 (flX12_270 _ rfl) rfl rfl ?_
            refine pm_imul hG dX12_plans_213 ?_
            refine pm_iloadn hG dX12_plans_214 rfl ?_
            refine pm_iadd hG dX12_plans_215 ?_
            obtain ⟨j13, hj13, hE⟩ := fb_some hE
            refine fx_iald hG dX12_plans_216 rfl hj13 ?_
            refine pm_isub hG dX12_plans_217 ?_
            refine pm_iloadi hG dX12_plans_218 rfl ?_
            refine pm_if_ge (tgt := 227) hG dX12_plans_220 rfl (fun q => absurd c12 (Int32.not_lt.mpr q)) (fun _ => ?_)
            refine pm_iconst (v := 0) hG dX12_plans_223 (by decide) ?_
            refine pm_goto (tgt := 241) hG dX12_plans_224 rfl ?_
            refine pm_iadd hG dX12_plans_241 ?_
            refine fx_letv hE (fun x14 hE => ?_)
            refine pm_istoreXi (loc' := [some (.ref (B + 54)), some (.int 5), some (.int zb), some (.int zc), some (.int x9_4), some (.int x10_5), some (.int x14)]) hG dX12_plans_242 (by decide) (pm_c1b rfl) rfl ?_
            refine pm_iloadi hG dX12_plans_244 rfl ?_
            refine pm_if_ge (tgt := 252) hG dX12_plans_246 rfl (fun c15 => ?_) (fun c15 => ?_)
            · replace c15 := Int32.not_lt.mpr c15
              replace hE := fx_f c15 hE
              refine pm_aloadn hG dX12_plans_252 rfl ?_
              refine pm_getf hG dX12_plans_253 (flX12_46 _ rfl) rfl rfl ?_
              refine pm_iloadn hG dX12_plans_256 rfl ?_
              refine pm_iloadi hG dX12_plans_257 rfl ?_
              refine fx_iast hG dX12_plans_259 rfl (ix_lit (by decide) rfl) ?_
              refine ma_67 ?_
              refine fx_letm hE (fun S16 hE => ?_)
              refine pm_aloadn hG dX12_plans_260 rfl ?_
              refine pm_iloadn hG dX12_plans_261 rfl ?_
              refine pm_iconst (v := 1) hG dX12_plans_262 (by decide) ?_
              refine pm_iadd hG dX12_plans_263 ?_
              refine pm_top (v := 6) (by decide) ?_
              refine pm_iloadi hG dX12_plans_264 rfl ?_
              refine pm_if_ge (tgt := 273) hG dX12_plans_266 rfl (fun q => absurd c12 (Int32.not_lt.mpr q)) (fun _ => ?_)
              refine pm_iloadn hG dX12_plans_269 rfl ?_
              refine pm_goto (tgt := 281) hG dX12_plans_270 rfl ?_
              refine pm_iloadi hG dX12_plans_281 rfl ?_
              obtain ⟨r18, h17, hE⟩ := fb_some hE
              refine pm_callV (As := [.int 6, .int zb, .int x14]) (rest := []) hG hR dX12_plans_283 (lkX12_280 _ rfl) okV_X12_plans rfl rfl (c_X12_plans_k6 (d := 3) (by decide) h17) rfl rfl hdd (Nat.le_refl _) (Nat.le_refl _) (by decide) (fx_kv ?_)
              refine pm_iincX (v := x10_5 + 1) (loc' := [some (.ref (B + 54)), some (.int 5), some (.int zb), some (.int zc), some (.int x9_4), some (.int (x10_5 + 1)), some (.int x14)]) hG dX12_plans_286 rfl (by rfl) (by decide) (pm_c1b rfl) rfl ?_
              refine pm_goto (tgt := 177) hG dX12_plans_289 rfl ?_
              refine pm_fg 6 (loc' := [some (.ref (B + 54)), some (.int 5), some (.int zb), some (.int zc), some (.int x9_4), some (.int (x10_5 + 1)), none]) rfl ?_
              exact ih177 _ _ hE
            · replace c15 := Int32.not_le.mp c15
              replace hE := fx_t c15 hE
              refine pm_goto (tgt := 286) hG dX12_plans_249 rfl ?_
              refine pm_iincX (v := x10_5 + 1) (loc' := [some (.ref (B + 54)), some (.int 5), some (.int zb), some (.int zc), some (.int x9_4), some (.int (x10_5 + 1)), some (.int x14)]) hG dX12_plans_286 rfl (by rfl) (by decide) (pm_c1b rfl) rfl ?_
              refine pm_goto (tgt := 177) hG dX12_plans_289 rfl ?_
              refine pm_fg 6 (loc' := [some (.ref (B + 54)), some (.int 5), some (.int zb), some (.int zc), some (.int x9_4), some (.int (x10_5 + 1)), none]) rfl ?_
              exact ih177 _ _ hE
          · replace hE := fx_f c12 hE
            refine pm_iloadn hG dX12_plans_189 rfl ?_
            refine pm_iloadi hG dX12_plans_190 rfl ?_
            refine pm_ishr hG dX12_plans_192 ?_
            refine pm_iconst (v := 1) hG dX12_plans_193 (by decide) ?_
            refine pm_iand hG dX12_plans_194 ?_
            refine pm_if_ne (tgt := 201) hG dX12_plans_195 rfl (fun c19 => ?_) (fun c19 => ?_)
            · replace hE := fx_f c19 hE
              refine pm_iloadi hG dX12_plans_201 rfl ?_
              refine pm_aloadn hG dX12_plans_203 rfl ?_
              refine pm_getf hG dX12_plans_204 (flX12_61 _ rfl) rfl rfl ?_
              refine pm_bipush (v := 24) hG dX12_plans_207 (by decide) ?_
              refine pm_aloadn hG dX12_plans_209 rfl ?_
              refine pm_getf hG dX12_plans_210 (flX12_270 _ rfl) rfl rfl ?_
              refine pm_imul hG dX12_plans_213 ?_
              refine pm_iloadn hG dX12_plans_214 rfl ?_
              refine pm_iadd hG dX12_plans_215 ?_
              obtain ⟨j20, hj20, hE⟩ := fb_some hE
              refine fx_iald hG dX12_plans_216 rfl hj20 ?_
              refine pm_isub hG dX12_plans_217 ?_
              refine pm_iloadi hG dX12_plans_218 rfl ?_
              refine pm_if_ge (tgt := 227) hG dX12_plans_220 rfl (fun _ => ?_) (fun q => absurd (Int32.not_le.mp q) c12)
              refine pm_iconst (v := 4) hG dX12_plans_227 (by decide) ?_
              refine pm_aloadn hG dX12_plans_228 rfl ?_
              refine pm_getf hG dX12_plans_229 (flX12_7 _ rfl) rfl rfl ?_
              refine pm_bipush (v := 20) hG dX12_plans_232 (by decide) ?_
              refine pm_iconst (v := 3) hG dX12_plans_234 (by decide) ?_
              refine pm_iloadi hG dX12_plans_235 rfl ?_
              refine pm_imul hG dX12_plans_237 ?_
              refine pm_iadd hG dX12_plans_238 ?_
              obtain ⟨j21, hj21, hE⟩ := fb_some hE
              refine fx_iald hG dX12_plans_239 rfl hj21 ?_
              refine pm_imul hG dX12_plans_240 ?_
              refine pm_iadd hG dX12_plans_241 ?_
              refine fx_letv hE (fun x22 hE => ?_)
              refine pm_istoreXi (loc' := [some (.ref (B + 54)), some (.int 5), some (.int zb), some (.int zc), some (.int x9_4), some (.int x10_5), some (.int x22)]) hG dX12_plans_242 (by decide) (pm_c1b rfl) rfl ?_
              refine pm_iloadi hG dX12_plans_244 rfl ?_
              refine pm_if_ge (tgt := 252) hG dX12_plans_246 rfl (fun c23 => ?_) (fun c23 => ?_)
              · replace c23 := Int32.not_lt.mpr c23
                replace hE := fx_f c23 hE
                refine pm_aloadn hG dX12_plans_252 rfl ?_
                refine pm_getf hG dX12_plans_253 (flX12_46 _ rfl) rfl rfl ?_
                refine pm_iloadn hG dX12_plans_256 rfl ?_
                refine pm_iloadi hG dX12_plans_257 rfl ?_
                refine fx_iast hG dX12_plans_259 rfl (ix_lit (by decide) rfl) ?_
                refine ma_67 ?_
                refine fx_letm hE (fun S24 hE => ?_)
                refine pm_aloadn hG dX12_plans_260 rfl ?_
                refine pm_iloadn hG dX12_plans_261 rfl ?_
                refine pm_iconst (v := 1) hG dX12_plans_262 (by decide) ?_
                refine pm_iadd hG dX12_plans_263 ?_
                refine pm_top (v := 6) (by decide) ?_
                refine pm_iloadi hG dX12_plans_264 rfl ?_
                refine pm_if_ge (tgt := 273) hG dX12_plans_266 rfl (fun _ => ?_) (fun q => absurd (Int32.not_le.mp q) c12)
                refine pm_iloadn hG dX12_plans_273 rfl ?_
                refine pm_iconst (v := 1) hG dX12_plans_274 (by decide) ?_
                refine pm_iloadi hG dX12_plans_275 rfl ?_
                refine pm_ishl hG dX12_plans_277 ?_
                refine pm_iconst (v := (-1)) hG dX12_plans_278 (by decide) ?_
                refine pm_ixor hG dX12_plans_279 ?_
                refine pm_iand hG dX12_plans_280 ?_
                refine pm_iloadi hG dX12_plans_281 rfl ?_
                obtain ⟨r26, h25, hE⟩ := fb_some hE
                refine pm_callV (As := [.int 6, .int (zb &&& (((1 : Int32) <<< (x10_5 &&& 31)) ^^^ (-1))), .int x22]) (rest := []) hG hR dX12_plans_283 (lkX12_280 _ rfl) okV_X12_plans rfl rfl (c_X12_plans_k6 (d := 3) (by decide) h25) rfl rfl hdd (Nat.le_refl _) (Nat.le_refl _) (by decide) (fx_kv ?_)
                refine pm_iincX (v := x10_5 + 1) (loc' := [some (.ref (B + 54)), some (.int 5), some (.int zb), some (.int zc), some (.int x9_4), some (.int (x10_5 + 1)), some (.int x22)]) hG dX12_plans_286 rfl (by rfl) (by decide) (pm_c1b rfl) rfl ?_
                refine pm_goto (tgt := 177) hG dX12_plans_289 rfl ?_
                refine pm_fg 6 (loc' := [some (.ref (B + 54)), some (.int 5), some (.int zb), some (.int zc), some (.int x9_4), some (.int (x10_5 + 1)), none]) rfl ?_
                exact ih177 _ _ hE
              · replace c23 := Int32.not_le.mp c23
                replace hE := fx_t c23 hE
                refine pm_goto (tgt := 286) hG dX12_plans_249 rfl ?_
                refine pm_iincX (v := x10_5 + 1) (loc' := [some (.ref (B + 54)), some (.int 5), some (.int zb), some (.int zc), some (.int x9_4), some (.int (x10_5 + 1)), some (.int x22)]) hG dX12_plans_286 rfl (by rfl) (by decide) (pm_c1b rfl) rfl ?_
                refine pm_goto (tgt := 177) hG dX12_plans_289 rfl ?_
                refine pm_fg 6 (loc' := [some (.ref (B + 54)), some (.int 5), some (.int zb), some (.int zc), some (.int x9_4), some (.int (x10_5 + 1)), none]) rfl ?_
                exact ih177 _ _ hE
            · replace hE := fx_t c19 hE
              refine pm_goto (tgt := 286) hG dX12_plans_198 rfl ?_
              refine pm_iincX (v := x10_5 + 1) (loc' := [some (.ref (B + 54)), some (.int 5), some (.int zb), some (.int zc), some (.int x9_4), some (.int (x10_5 + 1)), none]) hG dX12_plans_286 rfl (by rfl) (by decide) (pm_c1b rfl) rfl ?_
              refine pm_goto (tgt := 177) hG dX12_plans_289 rfl ?_
              exact ih177 _ _ hE
    refine loop177 _ (fun S27 x27_5 hE => ?_) _ _ _ hE
    exact pm_vret hG hF dX12_plans_292 rfl (Nat.le_refl _) (Nat.le_refl _) (fx_rvm hE)
  · replace hE := fx_t c2 hE
    refine pm_iloadn hG dX12_plans_13 rfl ?_
    refine pm_istoreXi (loc' := [some (.ref (B + 54)), some (.int 5), some (.int zb), some (.int zc), some (.int zc), none, none]) hG dX12_plans_14 (by decide) (pm_c1b rfl) rfl ?_
    refine pm_iconst (v := 0) hG dX12_plans_16 (by decide) ?_
    refine pm_istoreXi (loc' := [some (.ref (B + 54)), some (.int 5), some (.int zb), some (.int zc), some (.int zc), some (.int 0), none]) hG dX12_plans_17 (by decide) (pm_c1b rfl) rfl ?_
    have loop19 : ∀ (k19 : FS → Int32 → Int32 → Option (Int32 × FS)), (∀ (S28 : FS) (x28_4 : Int32) (x28_5 : Int32), k19 S28  x28_4 x28_5 = some R → pm_wp mX12_plans G B 66 [some (.ref (B + 54)), some (.int 5), some (.int zb), some (.int zc), some (.int x28_4), some (.int x28_5), none] [] 0 0 cnt (mst B S28 σ)) → ∀ (m19 : Nat) (S28 : FS) (x28_4 : Int32) (x28_5 : Int32), l_X12_plans_k5_19 zb k19 m19 S28  x28_4 x28_5 = some R → pm_wp mX12_plans G B 19 [some (.ref (B + 54)), some (.int 5), some (.int zb), some (.int zc), some (.int x28_4), some (.int x28_5), none] [] 0 0 cnt (mst B S28 σ) := by
      intro k19 hk19 m19
      induction m19 with
      | zero => intro S28  x28_4 x28_5 hE; exact fx_no hE
      | succ m19 ih19 =>
        intro S28  x28_4 x28_5 hE
        rw [l_X12_plans_k5_19] at hE
        refine pm_iloadi hG dX12_plans_19 rfl ?_
        refine pm_bipush (v := 6) hG dX12_plans_21 (by decide) ?_
        refine pm_icmp_ge (tgt := 66) hG dX12_plans_23 rfl (fun c29 => ?_) (fun c29 => ?_)
        · replace c29 := Int32.not_lt.mpr c29
          replace hE := fx_f c29 hE
          exact hk19 _ _ _ hE
        · replace c29 := Int32.not_le.mp c29
          replace hE := fx_t c29 hE
          refine pm_iloadi hG dX12_plans_26 rfl ?_
          refine pm_iloadn hG dX12_plans_28 rfl ?_
          refine pm_iloadi hG dX12_plans_29 rfl ?_
          refine pm_ishr hG dX12_plans_31 ?_
          refine pm_iconst (v := 1) hG dX12_plans_32 (by decide) ?_
          refine pm_iand hG dX12_plans_33 ?_
          refine pm_iconst (v := 1) hG dX12_plans_34 (by decide) ?_
          refine pm_icmp_ne (tgt := 56) hG dX12_plans_35 rfl (fun c30 => ?_) (fun c30 => ?_)
          · replace hE := fx_f c30 hE
            refine pm_iconst (v := 0) hG dX12_plans_56 (by decide) ?_
            refine pm_iadd hG dX12_plans_57 ?_
            refine fx_letv hE (fun x31 hE => ?_)
            refine pm_istoreXi (loc' := [some (.ref (B + 54)), some (.int 5), some (.int zb), some (.int zc), some (.int x31), some (.int x28_5), none]) hG dX12_plans_58 (by decide) (pm_c1b rfl) rfl ?_
            refine pm_iincX (v := x28_5 + 1) (loc' := [some (.ref (B + 54)), some (.int 5), some (.int zb), some (.int zc), some (.int x31), some (.int (x28_5 + 1)), none]) hG dX12_plans_60 rfl (by rfl) (by decide) (pm_c1b rfl) rfl ?_
            refine pm_goto (tgt := 19) hG dX12_plans_63 rfl ?_
            exact ih19 _ _ _ hE
          · replace hE := fx_t c30 hE
            refine pm_bipush (v := 8) hG dX12_plans_38 (by decide) ?_
            refine pm_aloadn hG dX12_plans_40 rfl ?_
            refine pm_getf hG dX12_plans_41 (flX12_7 _ rfl) rfl rfl ?_
            refine pm_bipush (v := 20) hG dX12_plans_44 (by decide) ?_
            refine pm_iconst (v := 3) hG dX12_plans_46 (by decide) ?_
            refine pm_iloadi hG dX12_plans_47 rfl ?_
            refine pm_imul hG dX12_plans_49 ?_
            refine pm_iadd hG dX12_plans_50 ?_
            obtain ⟨j32, hj32, hE⟩ := fb_some hE
            refine fx_iald hG dX12_plans_51 rfl hj32 ?_
            refine pm_imul hG dX12_plans_52 ?_
            refine pm_goto (tgt := 57) hG dX12_plans_53 rfl ?_
            refine pm_iadd hG dX12_plans_57 ?_
            refine fx_letv hE (fun x33 hE => ?_)
            refine pm_istoreXi (loc' := [some (.ref (B + 54)), some (.int 5), some (.int zb), some (.int zc), some (.int x33), some (.int x28_5), none]) hG dX12_plans_58 (by decide) (pm_c1b rfl) rfl ?_
            refine pm_iincX (v := x28_5 + 1) (loc' := [some (.ref (B + 54)), some (.int 5), some (.int zb), some (.int zc), some (.int x33), some (.int (x28_5 + 1)), none]) hG dX12_plans_60 rfl (by rfl) (by decide) (pm_c1b rfl) rfl ?_
            refine pm_goto (tgt := 19) hG dX12_plans_63 rfl ?_
            exact ih19 _ _ _ hE
    refine loop19 _ (fun S34 x34_4 x34_5 hE => ?_) _ _ _ _ hE
    have join83 : ∀ (S35 : FS), j_X12_plans_k5_83 x34_4 S35 = some R → pm_wp mX12_plans G B 83 [some (.ref (B + 54)), some (.int 5), some (.int zb), some (.int zc), some (.int x34_4), some (.int x34_5), none] [] 0 0 cnt (mst B S35 σ) := by
      intro S35 hE
      unfold j_X12_plans_k5_83 at hE
      refine pm_aloadn hG dX12_plans_83 rfl ?_
      refine pm_iconst (v := 1) hG dX12_plans_84 (by decide) ?_
      refine pm_putf hG dX12_plans_85 (fwX12_273 _ rfl) rfl (by decide) (by decide) ?_
      refine mi_20 ?_
      refine fx_letm hE (fun S36 hE => ?_)
      refine pm_aloadn hG dX12_plans_88 rfl ?_
      refine pm_iloadi hG dX12_plans_89 rfl ?_
      refine pm_putf hG dX12_plans_91 (fwX12_277 _ rfl) rfl rfl rfl ?_
      refine mi_19 ?_
      refine fx_letm hE (fun S37 hE => ?_)
      refine pm_iconst (v := 0) hG dX12_plans_94 (by decide) ?_
      refine pm_istoreXi (loc' := [some (.ref (B + 54)), some (.int 5), some (.int zb), some (.int zc), some (.int x34_4), some (.int 0), none]) hG dX12_plans_95 (by decide) (pm_c1b rfl) rfl ?_
      have loop97 : ∀ (k97 : FS → Int32 → Option (Int32 × FS)), (∀ (S38 : FS) (x38_5 : Int32), k97 S38  x38_5 = some R → pm_wp mX12_plans G B 123 [some (.ref (B + 54)), some (.int 5), some (.int zb), some (.int zc), some (.int x34_4), some (.int x38_5), none] [] 0 0 cnt (mst B S38 σ)) → ∀ (m97 : Nat) (S38 : FS) (x38_5 : Int32), l_X12_plans_k5_97 k97 m97 S38  x38_5 = some R → pm_wp mX12_plans G B 97 [some (.ref (B + 54)), some (.int 5), some (.int zb), some (.int zc), some (.int x34_4), some (.int x38_5), none] [] 0 0 cnt (mst B S38 σ) := by
        intro k97 hk97 m97
        induction m97 with
        | zero => intro S38  x38_5 hE; exact fx_no hE
        | succ m97 ih97 =>
          intro S38  x38_5 hE
          rw [l_X12_plans_k5_97] at hE
          refine pm_iloadi hG dX12_plans_97 rfl ?_
          refine pm_iloadn hG dX12_plans_99 rfl ?_
          refine pm_icmp_ge (tgt := 123) hG dX12_plans_100 rfl (fun c39 => ?_) (fun c39 => ?_)
          · replace c39 := Int32.not_lt.mpr c39
            replace hE := fx_f c39 hE
            exact hk97 _ _ hE
          · replace c39 := Int32.not_le.mp c39
            replace hE := fx_t c39 hE
            refine pm_aloadn hG dX12_plans_103 rfl ?_
            refine pm_getf hG dX12_plans_104 (flX12_49 _ rfl) rfl rfl ?_
            refine pm_iloadi hG dX12_plans_107 rfl ?_
            refine pm_aloadn hG dX12_plans_109 rfl ?_
            refine pm_getf hG dX12_plans_110 (flX12_46 _ rfl) rfl rfl ?_
            refine pm_iloadi hG dX12_plans_113 rfl ?_
            obtain ⟨j40, hj40, hE⟩ := fb_some hE
            refine fx_iald hG dX12_plans_115 rfl hj40 ?_
            refine fx_iast hG dX12_plans_116 rfl hj40 ?_
            refine ma_68 ?_
            refine fx_letm hE (fun S41 hE => ?_)
            refine pm_iincX (v := x38_5 + 1) (loc' := [some (.ref (B + 54)), some (.int 5), some (.int zb), some (.int zc), some (.int x34_4), some (.int (x38_5 + 1)), none]) hG dX12_plans_117 rfl (by rfl) (by decide) (pm_c1b rfl) rfl ?_
            refine pm_goto (tgt := 97) hG dX12_plans_120 rfl ?_
            exact ih97 _ _ hE
      refine loop97 _ (fun S42 x42_5 hE => ?_) _ _ _ hE
      exact pm_vret hG hF dX12_plans_123 rfl (Nat.le_refl _) (Nat.le_refl _) (fx_rvm hE)
    refine pm_aloadn hG dX12_plans_66 rfl ?_
    refine pm_getf hG dX12_plans_67 (flX12_273 _ rfl) rfl rfl ?_
    refine pm_if_eq (tgt := 83) hG dX12_plans_70 rfl (fun c43 => ?_) (fun c43 => ?_)
    · replace hE := fx_t c43 hE
      exact join83 _ hE
    · replace hE := fx_f c43 hE
      refine pm_iloadi hG dX12_plans_73 rfl ?_
      refine pm_aloadn hG dX12_plans_75 rfl ?_
      refine pm_getf hG dX12_plans_76 (flX12_277 _ rfl) rfl rfl ?_
      refine pm_icmp_gt (tgt := 83) hG dX12_plans_79 rfl (fun c44 => ?_) (fun c44 => ?_)
      · replace hE := fx_t c44 hE
        exact join83 _ hE
      · replace hE := fx_f c44 hE
        exact pm_vret hG hF dX12_plans_82 rfl (Nat.le_refl _) (Nat.le_refl _) (fx_rvm hE)

set_option maxRecDepth 100000 in
set_option maxHeartbeats 4000000 in
theorem c_X12_plans_k4 {d : Nat} {B cnt : Nat} {σ : pm_S} {S : FS} {zb : Int32} {zc : Int32} {R : Int32 × FS} (hdd : 5 ≤ d) (hE : f_X12_plans_k4 S zb zc = some R) : pm_met mX12_plans d 0 0 B [.ref (B + 54), .int 4, .int zb, .int zc] cnt (mst B S σ) (pm_Qv (fun σ' cnt' => σ' = (mst B R.2 σ) ∧ cnt' = cnt)) := by
  refine pm_enter 3 (by decide) (Nat.le_of_ble_eq_true rfl) rfl (fun G hG hR hF => ?_)
  unfold f_X12_plans_k4 at hE
  refine pm_iloadn hG dX12_plans_0 rfl ?_
  refine pm_aloadn hG dX12_plans_1 rfl ?_
  refine pm_getf hG dX12_plans_2 (flX12_58 _ rfl) rfl rfl ?_
  refine pm_aloadn hG dX12_plans_5 rfl ?_
  refine pm_getf hG dX12_plans_6 (flX12_270 _ rfl) rfl rfl ?_
  obtain ⟨j1, hj1, hE⟩ := fb_some hE
  refine fx_iald hG dX12_plans_9 rfl hj1 ?_
  refine pm_icmp_ne (tgt := 124) hG dX12_plans_10 rfl (fun c2 => ?_) (fun c2 => ?_)
  · replace hE := fx_f c2 hE
    refine pm_iloadn hG dX12_plans_124 rfl ?_
    refine pm_istoreXi (loc' := [some (.ref (B + 54)), some (.int 4), some (.int zb), some (.int zc), some (.int zc), none, none]) hG dX12_plans_125 (by decide) (pm_c1b rfl) rfl ?_
    refine pm_iconst (v := 0) hG dX12_plans_127 (by decide) ?_
    refine pm_istoreXi (loc' := [some (.ref (B + 54)), some (.int 4), some (.int zb), some (.int zc), some (.int zc), some (.int 0), none]) hG dX12_plans_128 (by decide) (pm_c1b rfl) rfl ?_
    have loop130 : ∀ (k130 : FS → Int32 → Int32 → Option (Int32 × FS)), (∀ (S3 : FS) (x3_4 : Int32) (x3_5 : Int32), k130 S3  x3_4 x3_5 = some R → pm_wp mX12_plans G B 174 [some (.ref (B + 54)), some (.int 4), some (.int zb), some (.int zc), some (.int x3_4), some (.int x3_5), none] [] 0 0 cnt (mst B S3 σ)) → ∀ (m130 : Nat) (S3 : FS) (x3_4 : Int32) (x3_5 : Int32), l_X12_plans_k4_130 zb k130 m130 S3  x3_4 x3_5 = some R → pm_wp mX12_plans G B 130 [some (.ref (B + 54)), some (.int 4), some (.int zb), some (.int zc), some (.int x3_4), some (.int x3_5), none] [] 0 0 cnt (mst B S3 σ) := by
      intro k130 hk130 m130
      induction m130 with
      | zero => intro S3  x3_4 x3_5 hE; exact fx_no hE
      | succ m130 ih130 =>
        intro S3  x3_4 x3_5 hE
        rw [l_X12_plans_k4_130] at hE
        refine pm_iloadi hG dX12_plans_130 rfl ?_
        refine pm_bipush (v := 6) hG dX12_plans_132 (by decide) ?_
        refine pm_icmp_ge (tgt := 174) hG dX12_plans_134 rfl (fun c4 => ?_) (fun c4 => ?_)
        · replace c4 := Int32.not_lt.mpr c4
          replace hE := fx_f c4 hE
          exact hk130 _ _ _ hE
        · replace c4 := Int32.not_le.mp c4
          replace hE := fx_t c4 hE
          refine pm_iloadi hG dX12_plans_137 rfl ?_
          refine pm_iloadn hG dX12_plans_139 rfl ?_
          refine pm_iloadi hG dX12_plans_140 rfl ?_
          refine pm_ishr hG dX12_plans_142 ?_
          refine pm_iconst (v := 1) hG dX12_plans_143 (by decide) ?_
          refine pm_iand hG dX12_plans_144 ?_
          refine pm_iconst (v := 1) hG dX12_plans_145 (by decide) ?_
          refine pm_icmp_ne (tgt := 164) hG dX12_plans_146 rfl (fun c5 => ?_) (fun c5 => ?_)
          · replace hE := fx_f c5 hE
            refine pm_iconst (v := 0) hG dX12_plans_164 (by decide) ?_
            refine pm_iadd hG dX12_plans_165 ?_
            refine fx_letv hE (fun x6 hE => ?_)
            refine pm_istoreXi (loc' := [some (.ref (B + 54)), some (.int 4), some (.int zb), some (.int zc), some (.int x6), some (.int x3_5), none]) hG dX12_plans_166 (by decide) (pm_c1b rfl) rfl ?_
            refine pm_iincX (v := x3_5 + 1) (loc' := [some (.ref (B + 54)), some (.int 4), some (.int zb), some (.int zc), some (.int x6), some (.int (x3_5 + 1)), none]) hG dX12_plans_168 rfl (by rfl) (by decide) (pm_c1b rfl) rfl ?_
            refine pm_goto (tgt := 130) hG dX12_plans_171 rfl ?_
            exact ih130 _ _ _ hE
          · replace hE := fx_t c5 hE
            refine pm_aloadn hG dX12_plans_149 rfl ?_
            refine pm_getf hG dX12_plans_150 (flX12_7 _ rfl) rfl rfl ?_
            refine pm_bipush (v := 20) hG dX12_plans_153 (by decide) ?_
            refine pm_iconst (v := 3) hG dX12_plans_155 (by decide) ?_
            refine pm_iloadi hG dX12_plans_156 rfl ?_
            refine pm_imul hG dX12_plans_158 ?_
            refine pm_iadd hG dX12_plans_159 ?_
            obtain ⟨j7, hj7, hE⟩ := fb_some hE
            refine fx_iald hG dX12_plans_160 rfl hj7 ?_
            refine pm_goto (tgt := 165) hG dX12_plans_161 rfl ?_
            refine pm_iadd hG dX12_plans_165 ?_
            refine fx_letv hE (fun x8 hE => ?_)
            refine pm_istoreXi (loc' := [some (.ref (B + 54)), some (.int 4), some (.int zb), some (.int zc), some (.int x8), some (.int x3_5), none]) hG dX12_plans_166 (by decide) (pm_c1b rfl) rfl ?_
            refine pm_iincX (v := x3_5 + 1) (loc' := [some (.ref (B + 54)), some (.int 4), some (.int zb), some (.int zc), some (.int x8), some (.int (x3_5 + 1)), none]) hG dX12_plans_168 rfl (by rfl) (by decide) (pm_c1b rfl) rfl ?_
            refine pm_goto (tgt := 130) hG dX12_plans_171 rfl ?_
            exact ih130 _ _ _ hE
    refine loop130 _ (fun S9 x9_4 x9_5 hE => ?_) _ _ _ _ hE
    refine pm_iconst (v := (-1)) hG dX12_plans_174 (by decide) ?_
    refine pm_istoreXi (loc' := [some (.ref (B + 54)), some (.int 4), some (.int zb), some (.int zc), some (.int x9_4), some (.int (-1)), none]) hG dX12_plans_175 (by decide) (pm_c1b rfl) rfl ?_
    have loop177 : ∀ (k177 : FS → Int32 → Option (Int32 × FS)), (∀ (S10 : FS) (x10_5 : Int32), k177 S10  x10_5 = some R → pm_wp mX12_plans G B 292 [some (.ref (B + 54)), some (.int 4), some (.int zb), some (.int zc), some (.int x9_4), some (.int x10_5), none] [] 0 0 cnt (mst B S10 σ)) → ∀ (m177 : Nat) (S10 : FS) (x10_5 : Int32), l_X12_plans_k4_177 zb x9_4 k177 m177 S10  x10_5 = some R → pm_wp mX12_plans G B 177 [some (.ref (B + 54)), some (.int 4), some (.int zb), some (.int zc), some (.int x9_4), some (.int x10_5), none] [] 0 0 cnt (mst B S10 σ) := by
      intro k177 hk177 m177
      induction m177 with
      | zero => intro S10  x10_5 hE; exact fx_no hE
      | succ m177 ih177 =>
        intro S10  x10_5 hE
        rw [l_X12_plans_k4_177] at hE
        refine pm_iloadi hG dX12_plans_177 rfl ?_
        refine pm_bipush (v := 6) hG dX12_plans_179 (by decide) ?_
        refine pm_icmp_ge (tgt := 292) hG dX12_plans_181 rfl (fun c11 => ?_) (fun c11 => ?_)
        · replace c11 := Int32.not_lt.mpr c11
          replace hE := fx_f c11 hE
          exact hk177 _ _ hE
        · replace c11 := Int32.not_le.mp c11
          replace hE := fx_t c11 hE
          refine pm_iloadi hG dX12_plans_184 rfl ?_
          refine pm_if_lt (tgt := 201) hG dX12_plans_186 rfl (fun c12 => ?_) (fun c12 => ?_)
          · replace hE := fx_t c12 hE
            refine pm_iloadi hG dX12_plans_201 rfl ?_
            refine pm_aloadn hG dX12_plans_203 rfl ?_
            refine pm_getf hG dX12_plans_204 (flX12_61 _ rfl) rfl rfl ?_
            refine pm_bipush (v := 24) hG dX12_plans_207 (by decide) ?_
            refine pm_aloadn hG dX12_plans_209 rfl ?_
            refine pm_getf hG dX12_plans_210 (flX12_270 _ rfl) rfl rfl ?_
            refine pm_imul hG dX12_plans_213 ?_
            refine pm_iloadn hG dX12_plans_214 rfl ?_
            refine pm_iadd hG dX12_plans_215 ?_
            obtain ⟨j13, hj13, hE⟩ := fb_some hE
            refine fx_iald hG dX12_plans_216 rfl hj13 ?_
            refine pm_isub hG dX12_plans_217 ?_
            refine pm_iloadi hG dX12_plans_218 rfl ?_
            refine pm_if_ge (tgt := 227) hG dX12_plans_220 rfl (fun q => absurd c12 (Int32.not_lt.mpr q)) (fun _ => ?_)
            refine pm_iconst (v := 0) hG dX12_plans_223 (by decide) ?_
            refine pm_goto (tgt := 241) hG dX12_plans_224 rfl ?_
            refine pm_iadd hG dX12_plans_241 ?_
            refine fx_letv hE (fun x14 hE => ?_)
            refine pm_istoreXi (loc' := [some (.ref (B + 54)), some (.int 4), some (.int zb), some (.int zc), some (.int x9_4), some (.int x10_5), some (.int x14)]) hG dX12_plans_242 (by decide) (pm_c1b rfl) rfl ?_
            refine pm_iloadi hG dX12_plans_244 rfl ?_
            refine pm_if_ge (tgt := 252) hG dX12_plans_246 rfl (fun c15 => ?_) (fun c15 => ?_)
            · replace c15 := Int32.not_lt.mpr c15
              replace hE := fx_f c15 hE
              refine pm_aloadn hG dX12_plans_252 rfl ?_
              refine pm_getf hG dX12_plans_253 (flX12_46 _ rfl) rfl rfl ?_
              refine pm_iloadn hG dX12_plans_256 rfl ?_
              refine pm_iloadi hG dX12_plans_257 rfl ?_
              refine fx_iast hG dX12_plans_259 rfl (ix_lit (by decide) rfl) ?_
              refine ma_67 ?_
              refine fx_letm hE (fun S16 hE => ?_)
              refine pm_aloadn hG dX12_plans_260 rfl ?_
              refine pm_iloadn hG dX12_plans_261 rfl ?_
              refine pm_iconst (v := 1) hG dX12_plans_262 (by decide) ?_
              refine pm_iadd hG dX12_plans_263 ?_
              refine pm_top (v := 5) (by decide) ?_
              refine pm_iloadi hG dX12_plans_264 rfl ?_
              refine pm_if_ge (tgt := 273) hG dX12_plans_266 rfl (fun q => absurd c12 (Int32.not_lt.mpr q)) (fun _ => ?_)
              refine pm_iloadn hG dX12_plans_269 rfl ?_
              refine pm_goto (tgt := 281) hG dX12_plans_270 rfl ?_
              refine pm_iloadi hG dX12_plans_281 rfl ?_
              obtain ⟨r18, h17, hE⟩ := fb_some hE
              refine pm_callV (As := [.int 5, .int zb, .int x14]) (rest := []) hG hR dX12_plans_283 (lkX12_280 _ rfl) okV_X12_plans rfl rfl (c_X12_plans_k5 (d := 4) (by decide) h17) rfl rfl hdd (Nat.le_refl _) (Nat.le_refl _) (by decide) (fx_kv ?_)
              refine pm_iincX (v := x10_5 + 1) (loc' := [some (.ref (B + 54)), some (.int 4), some (.int zb), some (.int zc), some (.int x9_4), some (.int (x10_5 + 1)), some (.int x14)]) hG dX12_plans_286 rfl (by rfl) (by decide) (pm_c1b rfl) rfl ?_
              refine pm_goto (tgt := 177) hG dX12_plans_289 rfl ?_
              refine pm_fg 6 (loc' := [some (.ref (B + 54)), some (.int 4), some (.int zb), some (.int zc), some (.int x9_4), some (.int (x10_5 + 1)), none]) rfl ?_
              exact ih177 _ _ hE
            · replace c15 := Int32.not_le.mp c15
              replace hE := fx_t c15 hE
              refine pm_goto (tgt := 286) hG dX12_plans_249 rfl ?_
              refine pm_iincX (v := x10_5 + 1) (loc' := [some (.ref (B + 54)), some (.int 4), some (.int zb), some (.int zc), some (.int x9_4), some (.int (x10_5 + 1)), some (.int x14)]) hG dX12_plans_286 rfl (by rfl) (by decide) (pm_c1b rfl) rfl ?_
              refine pm_goto (tgt := 177) hG dX12_plans_289 rfl ?_
              refine pm_fg 6 (loc' := [some (.ref (B + 54)), some (.int 4), some (.int zb), some (.int zc), some (.int x9_4), some (.int (x10_5 + 1)), none]) rfl ?_
              exact ih177 _ _ hE
          · replace hE := fx_f c12 hE
            refine pm_iloadn hG dX12_plans_189 rfl ?_
            refine pm_iloadi hG dX12_plans_190 rfl ?_
            refine pm_ishr hG dX12_plans_192 ?_
            refine pm_iconst (v := 1) hG dX12_plans_193 (by decide) ?_
            refine pm_iand hG dX12_plans_194 ?_
            refine pm_if_ne (tgt := 201) hG dX12_plans_195 rfl (fun c19 => ?_) (fun c19 => ?_)
            · replace hE := fx_f c19 hE
              refine pm_iloadi hG dX12_plans_201 rfl ?_
              refine pm_aloadn hG dX12_plans_203 rfl ?_
              refine pm_getf hG dX12_plans_204 (flX12_61 _ rfl) rfl rfl ?_
              refine pm_bipush (v := 24) hG dX12_plans_207 (by decide) ?_
              refine pm_aloadn hG dX12_plans_209 rfl ?_
              refine pm_getf hG dX12_plans_210 (flX12_270 _ rfl) rfl rfl ?_
              refine pm_imul hG dX12_plans_213 ?_
              refine pm_iloadn hG dX12_plans_214 rfl ?_
              refine pm_iadd hG dX12_plans_215 ?_
              obtain ⟨j20, hj20, hE⟩ := fb_some hE
              refine fx_iald hG dX12_plans_216 rfl hj20 ?_
              refine pm_isub hG dX12_plans_217 ?_
              refine pm_iloadi hG dX12_plans_218 rfl ?_
              refine pm_if_ge (tgt := 227) hG dX12_plans_220 rfl (fun _ => ?_) (fun q => absurd (Int32.not_le.mp q) c12)
              refine pm_iconst (v := 4) hG dX12_plans_227 (by decide) ?_
              refine pm_aloadn hG dX12_plans_228 rfl ?_
              refine pm_getf hG dX12_plans_229 (flX12_7 _ rfl) rfl rfl ?_
              refine pm_bipush (v := 20) hG dX12_plans_232 (by decide) ?_
              refine pm_iconst (v := 3) hG dX12_plans_234 (by decide) ?_
              refine pm_iloadi hG dX12_plans_235 rfl ?_
              refine pm_imul hG dX12_plans_237 ?_
              refine pm_iadd hG dX12_plans_238 ?_
              obtain ⟨j21, hj21, hE⟩ := fb_some hE
              refine fx_iald hG dX12_plans_239 rfl hj21 ?_
              refine pm_imul hG dX12_plans_240 ?_
              refine pm_iadd hG dX12_plans_241 ?_
              refine fx_letv hE (fun x22 hE => ?_)
              refine pm_istoreXi (loc' := [some (.ref (B + 54)), some (.int 4), some (.int zb), some (.int zc), some (.int x9_4), some (.int x10_5), some (.int x22)]) hG dX12_plans_242 (by decide) (pm_c1b rfl) rfl ?_
              refine pm_iloadi hG dX12_plans_244 rfl ?_
              refine pm_if_ge (tgt := 252) hG dX12_plans_246 rfl (fun c23 => ?_) (fun c23 => ?_)
              · replace c23 := Int32.not_lt.mpr c23
                replace hE := fx_f c23 hE
                refine pm_aloadn hG dX12_plans_252 rfl ?_
                refine pm_getf hG dX12_plans_253 (flX12_46 _ rfl) rfl rfl ?_
                refine pm_iloadn hG dX12_plans_256 rfl ?_
                refine pm_iloadi hG dX12_plans_257 rfl ?_
                refine fx_iast hG dX12_plans_259 rfl (ix_lit (by decide) rfl) ?_
                refine ma_67 ?_
                refine fx_letm hE (fun S24 hE => ?_)
                refine pm_aloadn hG dX12_plans_260 rfl ?_
                refine pm_iloadn hG dX12_plans_261 rfl ?_
                refine pm_iconst (v := 1) hG dX12_plans_262 (by decide) ?_
                refine pm_iadd hG dX12_plans_263 ?_
                refine pm_top (v := 5) (by decide) ?_
                refine pm_iloadi hG dX12_plans_264 rfl ?_
                refine pm_if_ge (tgt := 273) hG dX12_plans_266 rfl (fun _ => ?_) (fun q => absurd (Int32.not_le.mp q) c12)
                refine pm_iloadn hG dX12_plans_273 rfl ?_
                refine pm_iconst (v := 1) hG dX12_plans_274 (by decide) ?_
                refine pm_iloadi hG dX12_plans_275 rfl ?_
                refine pm_ishl hG dX12_plans_277 ?_
                refine pm_iconst (v := (-1)) hG dX12_plans_278 (by decide) ?_
                refine pm_ixor hG dX12_plans_279 ?_
                refine pm_iand hG dX12_plans_280 ?_
                refine pm_iloadi hG dX12_plans_281 rfl ?_
                obtain ⟨r26, h25, hE⟩ := fb_some hE
                refine pm_callV (As := [.int 5, .int (zb &&& (((1 : Int32) <<< (x10_5 &&& 31)) ^^^ (-1))), .int x22]) (rest := []) hG hR dX12_plans_283 (lkX12_280 _ rfl) okV_X12_plans rfl rfl (c_X12_plans_k5 (d := 4) (by decide) h25) rfl rfl hdd (Nat.le_refl _) (Nat.le_refl _) (by decide) (fx_kv ?_)
                refine pm_iincX (v := x10_5 + 1) (loc' := [some (.ref (B + 54)), some (.int 4), some (.int zb), some (.int zc), some (.int x9_4), some (.int (x10_5 + 1)), some (.int x22)]) hG dX12_plans_286 rfl (by rfl) (by decide) (pm_c1b rfl) rfl ?_
                refine pm_goto (tgt := 177) hG dX12_plans_289 rfl ?_
                refine pm_fg 6 (loc' := [some (.ref (B + 54)), some (.int 4), some (.int zb), some (.int zc), some (.int x9_4), some (.int (x10_5 + 1)), none]) rfl ?_
                exact ih177 _ _ hE
              · replace c23 := Int32.not_le.mp c23
                replace hE := fx_t c23 hE
                refine pm_goto (tgt := 286) hG dX12_plans_249 rfl ?_
                refine pm_iincX (v := x10_5 + 1) (loc' := [some (.ref (B + 54)), some (.int 4), some (.int zb), some (.int zc), some (.int x9_4), some (.int (x10_5 + 1)), some (.int x22)]) hG dX12_plans_286 rfl (by rfl) (by decide) (pm_c1b rfl) rfl ?_
                refine pm_goto (tgt := 177) hG dX12_plans_289 rfl ?_
                refine pm_fg 6 (loc' := [some (.ref (B + 54)), some (.int 4), some (.int zb), some (.int zc), some (.int x9_4), some (.int (x10_5 + 1)), none]) rfl ?_
                exact ih177 _ _ hE
            · replace hE := fx_t c19 hE
              refine pm_goto (tgt := 286) hG dX12_plans_198 rfl ?_
              refine pm_iincX (v := x10_5 + 1) (loc' := [some (.ref (B + 54)), some (.int 4), some (.int zb), some (.int zc), some (.int x9_4), some (.int (x10_5 + 1)), none]) hG dX12_plans_286 rfl (by rfl) (by decide) (pm_c1b rfl) rfl ?_
              refine pm_goto (tgt := 177) hG dX12_plans_289 rfl ?_
              exact ih177 _ _ hE
    refine loop177 _ (fun S27 x27_5 hE => ?_) _ _ _ hE
    exact pm_vret hG hF dX12_plans_292 rfl (Nat.le_refl _) (Nat.le_refl _) (fx_rvm hE)
  · replace hE := fx_t c2 hE
    refine pm_iloadn hG dX12_plans_13 rfl ?_
    refine pm_istoreXi (loc' := [some (.ref (B + 54)), some (.int 4), some (.int zb), some (.int zc), some (.int zc), none, none]) hG dX12_plans_14 (by decide) (pm_c1b rfl) rfl ?_
    refine pm_iconst (v := 0) hG dX12_plans_16 (by decide) ?_
    refine pm_istoreXi (loc' := [some (.ref (B + 54)), some (.int 4), some (.int zb), some (.int zc), some (.int zc), some (.int 0), none]) hG dX12_plans_17 (by decide) (pm_c1b rfl) rfl ?_
    have loop19 : ∀ (k19 : FS → Int32 → Int32 → Option (Int32 × FS)), (∀ (S28 : FS) (x28_4 : Int32) (x28_5 : Int32), k19 S28  x28_4 x28_5 = some R → pm_wp mX12_plans G B 66 [some (.ref (B + 54)), some (.int 4), some (.int zb), some (.int zc), some (.int x28_4), some (.int x28_5), none] [] 0 0 cnt (mst B S28 σ)) → ∀ (m19 : Nat) (S28 : FS) (x28_4 : Int32) (x28_5 : Int32), l_X12_plans_k4_19 zb k19 m19 S28  x28_4 x28_5 = some R → pm_wp mX12_plans G B 19 [some (.ref (B + 54)), some (.int 4), some (.int zb), some (.int zc), some (.int x28_4), some (.int x28_5), none] [] 0 0 cnt (mst B S28 σ) := by
      intro k19 hk19 m19
      induction m19 with
      | zero => intro S28  x28_4 x28_5 hE; exact fx_no hE
      | succ m19 ih19 =>
        intro S28  x28_4 x28_5 hE
        rw [l_X12_plans_k4_19] at hE
        refine pm_iloadi hG dX12_plans_19 rfl ?_
        refine pm_bipush (v := 6) hG dX12_plans_21 (by decide) ?_
        refine pm_icmp_ge (tgt := 66) hG dX12_plans_23 rfl (fun c29 => ?_) (fun c29 => ?_)
        · replace c29 := Int32.not_lt.mpr c29
          replace hE := fx_f c29 hE
          exact hk19 _ _ _ hE
        · replace c29 := Int32.not_le.mp c29
          replace hE := fx_t c29 hE
          refine pm_iloadi hG dX12_plans_26 rfl ?_
          refine pm_iloadn hG dX12_plans_28 rfl ?_
          refine pm_iloadi hG dX12_plans_29 rfl ?_
          refine pm_ishr hG dX12_plans_31 ?_
          refine pm_iconst (v := 1) hG dX12_plans_32 (by decide) ?_
          refine pm_iand hG dX12_plans_33 ?_
          refine pm_iconst (v := 1) hG dX12_plans_34 (by decide) ?_
          refine pm_icmp_ne (tgt := 56) hG dX12_plans_35 rfl (fun c30 => ?_) (fun c30 => ?_)
          · replace hE := fx_f c30 hE
            refine pm_iconst (v := 0) hG dX12_plans_56 (by decide) ?_
            refine pm_iadd hG dX12_plans_57 ?_
            refine fx_letv hE (fun x31 hE => ?_)
            refine pm_istoreXi (loc' := [some (.ref (B + 54)), some (.int 4), some (.int zb), some (.int zc), some (.int x31), some (.int x28_5), none]) hG dX12_plans_58 (by decide) (pm_c1b rfl) rfl ?_
            refine pm_iincX (v := x28_5 + 1) (loc' := [some (.ref (B + 54)), some (.int 4), some (.int zb), some (.int zc), some (.int x31), some (.int (x28_5 + 1)), none]) hG dX12_plans_60 rfl (by rfl) (by decide) (pm_c1b rfl) rfl ?_
            refine pm_goto (tgt := 19) hG dX12_plans_63 rfl ?_
            exact ih19 _ _ _ hE
          · replace hE := fx_t c30 hE
            refine pm_bipush (v := 8) hG dX12_plans_38 (by decide) ?_
            refine pm_aloadn hG dX12_plans_40 rfl ?_
            refine pm_getf hG dX12_plans_41 (flX12_7 _ rfl) rfl rfl ?_
            refine pm_bipush (v := 20) hG dX12_plans_44 (by decide) ?_
            refine pm_iconst (v := 3) hG dX12_plans_46 (by decide) ?_
            refine pm_iloadi hG dX12_plans_47 rfl ?_
            refine pm_imul hG dX12_plans_49 ?_
            refine pm_iadd hG dX12_plans_50 ?_
            obtain ⟨j32, hj32, hE⟩ := fb_some hE
            refine fx_iald hG dX12_plans_51 rfl hj32 ?_
            refine pm_imul hG dX12_plans_52 ?_
            refine pm_goto (tgt := 57) hG dX12_plans_53 rfl ?_
            refine pm_iadd hG dX12_plans_57 ?_
            refine fx_letv hE (fun x33 hE => ?_)
            refine pm_istoreXi (loc' := [some (.ref (B + 54)), some (.int 4), some (.int zb), some (.int zc), some (.int x33), some (.int x28_5), none]) hG dX12_plans_58 (by decide) (pm_c1b rfl) rfl ?_
            refine pm_iincX (v := x28_5 + 1) (loc' := [some (.ref (B + 54)), some (.int 4), some (.int zb), some (.int zc), some (.int x33), some (.int (x28_5 + 1)), none]) hG dX12_plans_60 rfl (by rfl) (by decide) (pm_c1b rfl) rfl ?_
            refine pm_goto (tgt := 19) hG dX12_plans_63 rfl ?_
            exact ih19 _ _ _ hE
    refine loop19 _ (fun S34 x34_4 x34_5 hE => ?_) _ _ _ _ hE
    have join83 : ∀ (S35 : FS), j_X12_plans_k4_83 x34_4 S35 = some R → pm_wp mX12_plans G B 83 [some (.ref (B + 54)), some (.int 4), some (.int zb), some (.int zc), some (.int x34_4), some (.int x34_5), none] [] 0 0 cnt (mst B S35 σ) := by
      intro S35 hE
      unfold j_X12_plans_k4_83 at hE
      refine pm_aloadn hG dX12_plans_83 rfl ?_
      refine pm_iconst (v := 1) hG dX12_plans_84 (by decide) ?_
      refine pm_putf hG dX12_plans_85 (fwX12_273 _ rfl) rfl (by decide) (by decide) ?_
      refine mi_20 ?_
      refine fx_letm hE (fun S36 hE => ?_)
      refine pm_aloadn hG dX12_plans_88 rfl ?_
      refine pm_iloadi hG dX12_plans_89 rfl ?_
      refine pm_putf hG dX12_plans_91 (fwX12_277 _ rfl) rfl rfl rfl ?_
      refine mi_19 ?_
      refine fx_letm hE (fun S37 hE => ?_)
      refine pm_iconst (v := 0) hG dX12_plans_94 (by decide) ?_
      refine pm_istoreXi (loc' := [some (.ref (B + 54)), some (.int 4), some (.int zb), some (.int zc), some (.int x34_4), some (.int 0), none]) hG dX12_plans_95 (by decide) (pm_c1b rfl) rfl ?_
      have loop97 : ∀ (k97 : FS → Int32 → Option (Int32 × FS)), (∀ (S38 : FS) (x38_5 : Int32), k97 S38  x38_5 = some R → pm_wp mX12_plans G B 123 [some (.ref (B + 54)), some (.int 4), some (.int zb), some (.int zc), some (.int x34_4), some (.int x38_5), none] [] 0 0 cnt (mst B S38 σ)) → ∀ (m97 : Nat) (S38 : FS) (x38_5 : Int32), l_X12_plans_k4_97 k97 m97 S38  x38_5 = some R → pm_wp mX12_plans G B 97 [some (.ref (B + 54)), some (.int 4), some (.int zb), some (.int zc), some (.int x34_4), some (.int x38_5), none] [] 0 0 cnt (mst B S38 σ) := by
        intro k97 hk97 m97
        induction m97 with
        | zero => intro S38  x38_5 hE; exact fx_no hE
        | succ m97 ih97 =>
          intro S38  x38_5 hE
          rw [l_X12_plans_k4_97] at hE
          refine pm_iloadi hG dX12_plans_97 rfl ?_
          refine pm_iloadn hG dX12_plans_99 rfl ?_
          refine pm_icmp_ge (tgt := 123) hG dX12_plans_100 rfl (fun c39 => ?_) (fun c39 => ?_)
          · replace c39 := Int32.not_lt.mpr c39
            replace hE := fx_f c39 hE
            exact hk97 _ _ hE
          · replace c39 := Int32.not_le.mp c39
            replace hE := fx_t c39 hE
            refine pm_aloadn hG dX12_plans_103 rfl ?_
            refine pm_getf hG dX12_plans_104 (flX12_49 _ rfl) rfl rfl ?_
            refine pm_iloadi hG dX12_plans_107 rfl ?_
            refine pm_aloadn hG dX12_plans_109 rfl ?_
            refine pm_getf hG dX12_plans_110 (flX12_46 _ rfl) rfl rfl ?_
            refine pm_iloadi hG dX12_plans_113 rfl ?_
            obtain ⟨j40, hj40, hE⟩ := fb_some hE
            refine fx_iald hG dX12_plans_115 rfl hj40 ?_
            refine fx_iast hG dX12_plans_116 rfl hj40 ?_
            refine ma_68 ?_
            refine fx_letm hE (fun S41 hE => ?_)
            refine pm_iincX (v := x38_5 + 1) (loc' := [some (.ref (B + 54)), some (.int 4), some (.int zb), some (.int zc), some (.int x34_4), some (.int (x38_5 + 1)), none]) hG dX12_plans_117 rfl (by rfl) (by decide) (pm_c1b rfl) rfl ?_
            refine pm_goto (tgt := 97) hG dX12_plans_120 rfl ?_
            exact ih97 _ _ hE
      refine loop97 _ (fun S42 x42_5 hE => ?_) _ _ _ hE
      exact pm_vret hG hF dX12_plans_123 rfl (Nat.le_refl _) (Nat.le_refl _) (fx_rvm hE)
    refine pm_aloadn hG dX12_plans_66 rfl ?_
    refine pm_getf hG dX12_plans_67 (flX12_273 _ rfl) rfl rfl ?_
    refine pm_if_eq (tgt := 83) hG dX12_plans_70 rfl (fun c43 => ?_) (fun c43 => ?_)
    · replace hE := fx_t c43 hE
      exact join83 _ hE
    · replace hE := fx_f c43 hE
      refine pm_iloadi hG dX12_plans_73 rfl ?_
      refine pm_aloadn hG dX12_plans_75 rfl ?_
      refine pm_getf hG dX12_plans_76 (flX12_277 _ rfl) rfl rfl ?_
      refine pm_icmp_gt (tgt := 83) hG dX12_plans_79 rfl (fun c44 => ?_) (fun c44 => ?_)
      · replace hE := fx_t c44 hE
        exact join83 _ hE
      · replace hE := fx_f c44 hE
        exact pm_vret hG hF dX12_plans_82 rfl (Nat.le_refl _) (Nat.le_refl _) (fx_rvm hE)
end
