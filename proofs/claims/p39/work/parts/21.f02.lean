set_option maxRecDepth 100000 in
set_option maxHeartbeats 4000000 in
theorem c_X12_comesTo {d : Nat} {B cnt : Nat} {σ : pm_S} {S : FS} {za : Int32} {zb : Int32} {zc : Int32} {zd : Int32} {R : Int32 × FS} (hdd : 4 ≤ d) (hE : f_X12_comesTo S za zb zc zd = some R) : pm_met mX12_comesTo d 0 0 B [.ref (B + 54), .int za, .int zb, .int zc, .int zd] cnt (mst B S σ) (pm_Qi (fun v σ' cnt' => v = R.1 ∧ σ' = (mst B R.2 σ) ∧ cnt' = cnt)) := by
  refine pm_enter 4 (by decide) (Nat.le_of_ble_eq_true rfl) rfl (fun G hG hR hF => ?_)
  unfold f_X12_comesTo at hE
  refine pm_iloadn hG dX12_comesTo_0 rfl ?_
  refine pm_if_ge (tgt := 6) hG dX12_comesTo_1 rfl (fun c1 => ?_) (fun c1 => ?_)
  · replace c1 := Int32.not_lt.mpr c1
    replace hE := fx_f c1 hE
    refine pm_aloadn hG dX12_comesTo_6 rfl ?_
    refine pm_iloadn hG dX12_comesTo_7 rfl ?_
    refine pm_iloadn hG dX12_comesTo_8 rfl ?_
    refine pm_iloadi hG dX12_comesTo_9 rfl ?_
    obtain ⟨r3, h2, hE⟩ := fb_some hE
    refine pm_callV (As := [.int zb, .int zc, .int zd]) (rest := []) hG hR dX12_comesTo_11 (lkX12_205 _ rfl) okV_X12_setNames rfl rfl (c_X12_setNames (d := 3) (by decide) h2) rfl rfl hdd (Nat.le_refl _) (Nat.le_refl _) (by decide) (fx_kv ?_)
    refine pm_iconst (v := 0) hG dX12_comesTo_14 (by decide) ?_
    refine pm_istoreXi (loc' := [some (.ref (B + 54)), some (.int za), some (.int zb), some (.int zc), some (.int zd), some (.int 0), none, none, none]) hG dX12_comesTo_15 (by decide) (pm_c1b rfl) rfl ?_
    refine pm_sipush (v := 510) hG dX12_comesTo_17 (by decide) ?_
    refine pm_bipush (v := 65) hG dX12_comesTo_20 (by decide) ?_
    refine pm_iloadn hG dX12_comesTo_22 rfl ?_
    refine pm_imul hG dX12_comesTo_23 ?_
    refine pm_iadd hG dX12_comesTo_24 ?_
    refine pm_iconst (v := 5) hG dX12_comesTo_25 (by decide) ?_
    refine pm_iadd hG dX12_comesTo_26 ?_
    refine fx_letv hE (fun x4 hE => ?_)
    refine pm_istoreXi (loc' := [some (.ref (B + 54)), some (.int za), some (.int zb), some (.int zc), some (.int zd), some (.int 0), some (.int x4), none, none]) hG dX12_comesTo_27 (by decide) (pm_c1b rfl) rfl ?_
    refine pm_iloadi hG dX12_comesTo_29 rfl ?_
    refine pm_istoreXi (loc' := [some (.ref (B + 54)), some (.int za), some (.int zb), some (.int zc), some (.int zd), some (.int 0), some (.int x4), some (.int x4), none]) hG dX12_comesTo_31 (by decide) (pm_c1b rfl) rfl ?_
    have loop33 : ∀ (k33 : FS → Int32 → Int32 → Option (Int32 × FS)), (∀ (S5 : FS) (x5_5 : Int32) (x5_7 : Int32), k33 S5  x5_5 x5_7 = some R → pm_wp mX12_comesTo G B 177 [some (.ref (B + 54)), some (.int za), some (.int zb), some (.int zc), some (.int zd), some (.int x5_5), some (.int x4), some (.int x5_7), none] [] 0 0 cnt (mst B S5 σ)) → ∀ (m33 : Nat) (S5 : FS) (x5_5 : Int32) (x5_7 : Int32), l_X12_comesTo_33 x4 k33 m33 S5  x5_5 x5_7 = some R → pm_wp mX12_comesTo G B 33 [some (.ref (B + 54)), some (.int za), some (.int zb), some (.int zc), some (.int zd), some (.int x5_5), some (.int x4), some (.int x5_7), none] [] 0 0 cnt (mst B S5 σ) := by
      intro k33 hk33 m33
      induction m33 with
      | zero => intro S5  x5_5 x5_7 hE; exact fx_no hE
      | succ m33 ih33 =>
        intro S5  x5_5 x5_7 hE
        rw [l_X12_comesTo_33] at hE
        refine pm_iloadi hG dX12_comesTo_33 rfl ?_
        refine pm_iloadi hG dX12_comesTo_35 rfl ?_
        refine pm_aloadn hG dX12_comesTo_37 rfl ?_
        refine pm_getf hG dX12_comesTo_38 (flX12_7 _ rfl) rfl rfl ?_
        refine pm_iloadi hG dX12_comesTo_41 rfl ?_
        refine pm_iconst (v := 1) hG dX12_comesTo_43 (by decide) ?_
        refine pm_isub hG dX12_comesTo_44 ?_
        obtain ⟨j6, hj6, hE⟩ := fb_some hE
        refine fx_iald hG dX12_comesTo_45 rfl hj6 ?_
        refine pm_iadd hG dX12_comesTo_46 ?_
        refine pm_icmp_ge (tgt := 177) hG dX12_comesTo_47 rfl (fun c7 => ?_) (fun c7 => ?_)
        · replace c7 := Int32.not_lt.mpr c7
          replace hE := fx_f c7 hE
          exact hk33 _ _ _ hE
        · replace c7 := Int32.not_le.mp c7
          replace hE := fx_t c7 hE
          refine pm_aloadn hG dX12_comesTo_50 rfl ?_
          refine pm_getf hG dX12_comesTo_51 (flX12_7 _ rfl) rfl rfl ?_
          refine pm_iloadi hG dX12_comesTo_54 rfl ?_
          obtain ⟨j8, hj8, hE⟩ := fb_some hE
          refine fx_iald hG dX12_comesTo_56 rfl hj8 ?_
          refine fx_letv hE (fun x9 hE => ?_)
          refine pm_istoreXi (loc' := [some (.ref (B + 54)), some (.int za), some (.int zb), some (.int zc), some (.int zd), some (.int x5_5), some (.int x4), some (.int x5_7), some (.int x9)]) hG dX12_comesTo_57 (by decide) (pm_c1b rfl) rfl ?_
          refine pm_iloadi hG dX12_comesTo_59 rfl ?_
          refine pm_bipush (v := (-100)) hG dX12_comesTo_61 (by decide) ?_
          refine pm_icmp_le (tgt := 98) hG dX12_comesTo_63 rfl (fun c10 => ?_) (fun c10 => ?_)
          · replace c10 := Int32.not_lt.mpr c10
            replace hE := fx_f c10 hE
            refine pm_iloadi hG dX12_comesTo_98 rfl ?_
            refine pm_sipush (v := (-133)) hG dX12_comesTo_100 (by decide) ?_
            refine pm_icmp_ne (tgt := 135) hG dX12_comesTo_103 rfl (fun c11 => ?_) (fun c11 => ?_)
            · replace hE := fx_f c11 hE
              refine pm_iincX (v := x5_5 + (-1)) (loc' := [some (.ref (B + 54)), some (.int za), some (.int zb), some (.int zc), some (.int zd), some (.int (x5_5 + (-1))), some (.int x4), some (.int x5_7), some (.int x9)]) hG dX12_comesTo_135 rfl (by rfl) (by decide) (pm_c1b rfl) rfl ?_
              refine pm_aloadn hG dX12_comesTo_138 rfl ?_
              refine pm_getf hG dX12_comesTo_139 (flX12_31 _ rfl) rfl rfl ?_
              refine pm_iloadi hG dX12_comesTo_142 rfl ?_
              refine pm_iconst (v := 1) hG dX12_comesTo_144 (by decide) ?_
              refine pm_isub hG dX12_comesTo_145 ?_
              refine pm_bipush (v := (-100)) hG dX12_comesTo_146 (by decide) ?_
              refine pm_iloadi hG dX12_comesTo_148 rfl ?_
              refine pm_isub hG dX12_comesTo_150 ?_
              refine pm_aloadn hG dX12_comesTo_151 rfl ?_
              refine pm_getf hG dX12_comesTo_152 (flX12_31 _ rfl) rfl rfl ?_
              refine pm_iloadi hG dX12_comesTo_155 rfl ?_
              refine pm_iconst (v := 1) hG dX12_comesTo_157 (by decide) ?_
              refine pm_isub hG dX12_comesTo_158 ?_
              obtain ⟨j12, hj12, hE⟩ := fb_some hE
              refine fx_iald hG dX12_comesTo_159 rfl hj12 ?_
              refine pm_aloadn hG dX12_comesTo_160 rfl ?_
              refine pm_getf hG dX12_comesTo_161 (flX12_31 _ rfl) rfl rfl ?_
              refine pm_iloadi hG dX12_comesTo_164 rfl ?_
              obtain ⟨j13, hj13, hE⟩ := fb_some hE
              refine fx_iald hG dX12_comesTo_166 rfl hj13 ?_
              refine pm_callS (As := [.int ((-100) - x9), .int (S5.2 62 j12), .int (S5.2 62 j13)]) (rest := [.int ((x5_5 + (-1)) - 1), .ref (B + 62)]) hG hR dX12_comesTo_167 (lkX12_208 _ rfl) okS_X12_done (c_X12_done (d := 3) (by decide) rfl) rfl rfl hdd (Nat.le_refl _) (Nat.le_refl _) (by first | decide | exact Nat.le_of_ble_eq_true rfl) (fx_ki ?_)
              refine fx_iast hG dX12_comesTo_170 rfl hj12 ?_
              refine ma_62 ?_
              refine fx_letm hE (fun S14 hE => ?_)
              refine pm_iincX (v := x5_7 + 1) (loc' := [some (.ref (B + 54)), some (.int za), some (.int zb), some (.int zc), some (.int zd), some (.int (x5_5 + (-1))), some (.int x4), some (.int (x5_7 + 1)), some (.int x9)]) hG dX12_comesTo_171 rfl (by rfl) (by decide) (pm_c1b rfl) rfl ?_
              refine pm_goto (tgt := 33) hG dX12_comesTo_174 rfl ?_
              refine pm_fg 8 (loc' := [some (.ref (B + 54)), some (.int za), some (.int zb), some (.int zc), some (.int zd), some (.int (x5_5 + (-1))), some (.int x4), some (.int (x5_7 + 1)), none]) rfl ?_
              exact ih33 _ _ _ hE
            · replace hE := fx_t c11 hE
              refine pm_aloadn hG dX12_comesTo_106 rfl ?_
              refine pm_getf hG dX12_comesTo_107 (flX12_31 _ rfl) rfl rfl ?_
              refine pm_iloadi hG dX12_comesTo_110 rfl ?_
              refine pm_iconst (v := 1) hG dX12_comesTo_112 (by decide) ?_
              refine pm_isub hG dX12_comesTo_113 ?_
              refine pm_aloadn hG dX12_comesTo_114 rfl ?_
              refine pm_getf hG dX12_comesTo_115 (flX12_31 _ rfl) rfl rfl ?_
              refine pm_iloadi hG dX12_comesTo_118 rfl ?_
              refine pm_iconst (v := 1) hG dX12_comesTo_120 (by decide) ?_
              refine pm_isub hG dX12_comesTo_121 ?_
              obtain ⟨j15, hj15, hE⟩ := fb_some hE
              refine fx_iald hG dX12_comesTo_122 rfl hj15 ?_
              refine pm_if_ne (tgt := 130) hG dX12_comesTo_123 rfl (fun c16 => ?_) (fun c16 => ?_)
              · replace hE := fx_f c16 hE
                refine pm_iconst (v := 0) hG dX12_comesTo_130 (by decide) ?_
                refine fx_iast hG dX12_comesTo_131 rfl hj15 ?_
                refine ma_62 ?_
                refine fx_letm hE (fun S17 hE => ?_)
                refine pm_goto (tgt := 171) hG dX12_comesTo_132 rfl ?_
                refine pm_iincX (v := x5_7 + 1) (loc' := [some (.ref (B + 54)), some (.int za), some (.int zb), some (.int zc), some (.int zd), some (.int x5_5), some (.int x4), some (.int (x5_7 + 1)), some (.int x9)]) hG dX12_comesTo_171 rfl (by rfl) (by decide) (pm_c1b rfl) rfl ?_
                refine pm_goto (tgt := 33) hG dX12_comesTo_174 rfl ?_
                refine pm_fg 8 (loc' := [some (.ref (B + 54)), some (.int za), some (.int zb), some (.int zc), some (.int zd), some (.int x5_5), some (.int x4), some (.int (x5_7 + 1)), none]) rfl ?_
                exact ih33 _ _ _ hE
              · replace hE := fx_t c16 hE
                refine pm_iconst (v := 1) hG dX12_comesTo_126 (by decide) ?_
                refine pm_goto (tgt := 131) hG dX12_comesTo_127 rfl ?_
                refine fx_iast hG dX12_comesTo_131 rfl hj15 ?_
                refine ma_62 ?_
                refine fx_letm hE (fun S18 hE => ?_)
                refine pm_goto (tgt := 171) hG dX12_comesTo_132 rfl ?_
                refine pm_iincX (v := x5_7 + 1) (loc' := [some (.ref (B + 54)), some (.int za), some (.int zb), some (.int zc), some (.int zd), some (.int x5_5), some (.int x4), some (.int (x5_7 + 1)), some (.int x9)]) hG dX12_comesTo_171 rfl (by rfl) (by decide) (pm_c1b rfl) rfl ?_
                refine pm_goto (tgt := 33) hG dX12_comesTo_174 rfl ?_
                refine pm_fg 8 (loc' := [some (.ref (B + 54)), some (.int za), some (.int zb), some (.int zc), some (.int zd), some (.int x5_5), some (.int x4), some (.int (x5_7 + 1)), none]) rfl ?_
                exact ih33 _ _ _ hE
          · replace c10 := Int32.not_le.mp c10
            replace hE := fx_t c10 hE
            refine pm_aloadn hG dX12_comesTo_66 rfl ?_
            refine pm_getf hG dX12_comesTo_67 (flX12_31 _ rfl) rfl rfl ?_
            refine pm_iloadi hG dX12_comesTo_70 rfl ?_
            refine pm_iloadi hG dX12_comesTo_72 rfl ?_
            refine pm_if_ge (tgt := 89) hG dX12_comesTo_74 rfl (fun c19 => ?_) (fun c19 => ?_)
            · replace c19 := Int32.not_lt.mpr c19
              replace hE := fx_f c19 hE
              refine pm_iloadi hG dX12_comesTo_89 rfl ?_
              obtain ⟨j20, hj20, hE⟩ := fb_some hE
              refine fx_iast hG dX12_comesTo_91 rfl hj20 ?_
              refine ma_62 ?_
              refine fx_letm hE (fun S21 hE => ?_)
              refine pm_iincX (v := x5_5 + 1) (loc' := [some (.ref (B + 54)), some (.int za), some (.int zb), some (.int zc), some (.int zd), some (.int (x5_5 + 1)), some (.int x4), some (.int x5_7), some (.int x9)]) hG dX12_comesTo_92 rfl (by rfl) (by decide) (pm_c1b rfl) rfl ?_
              refine pm_goto (tgt := 171) hG dX12_comesTo_95 rfl ?_
              refine pm_iincX (v := x5_7 + 1) (loc' := [some (.ref (B + 54)), some (.int za), some (.int zb), some (.int zc), some (.int zd), some (.int (x5_5 + 1)), some (.int x4), some (.int (x5_7 + 1)), some (.int x9)]) hG dX12_comesTo_171 rfl (by rfl) (by decide) (pm_c1b rfl) rfl ?_
              refine pm_goto (tgt := 33) hG dX12_comesTo_174 rfl ?_
              refine pm_fg 8 (loc' := [some (.ref (B + 54)), some (.int za), some (.int zb), some (.int zc), some (.int zd), some (.int (x5_5 + 1)), some (.int x4), some (.int (x5_7 + 1)), none]) rfl ?_
              exact ih33 _ _ _ hE
            · replace c19 := Int32.not_le.mp c19
              replace hE := fx_t c19 hE
              refine pm_aloadn hG dX12_comesTo_77 rfl ?_
              refine pm_getf hG dX12_comesTo_78 (flX12_34 _ rfl) rfl rfl ?_
              refine pm_iconst (v := (-1)) hG dX12_comesTo_81 (by decide) ?_
              refine pm_iloadi hG dX12_comesTo_82 rfl ?_
              refine pm_isub hG dX12_comesTo_84 ?_
              obtain ⟨j22, hj22, hE⟩ := fb_some hE
              refine fx_iald hG dX12_comesTo_85 rfl hj22 ?_
              refine pm_goto (tgt := 91) hG dX12_comesTo_86 rfl ?_
              obtain ⟨j23, hj23, hE⟩ := fb_some hE
              refine fx_iast hG dX12_comesTo_91 rfl hj23 ?_
              refine ma_62 ?_
              refine fx_letm hE (fun S24 hE => ?_)
              refine pm_iincX (v := x5_5 + 1) (loc' := [some (.ref (B + 54)), some (.int za), some (.int zb), some (.int zc), some (.int zd), some (.int (x5_5 + 1)), some (.int x4), some (.int x5_7), some (.int x9)]) hG dX12_comesTo_92 rfl (by rfl) (by decide) (pm_c1b rfl) rfl ?_
              refine pm_goto (tgt := 171) hG dX12_comesTo_95 rfl ?_
              refine pm_iincX (v := x5_7 + 1) (loc' := [some (.ref (B + 54)), some (.int za), some (.int zb), some (.int zc), some (.int zd), some (.int (x5_5 + 1)), some (.int x4), some (.int (x5_7 + 1)), some (.int x9)]) hG dX12_comesTo_171 rfl (by rfl) (by decide) (pm_c1b rfl) rfl ?_
              refine pm_goto (tgt := 33) hG dX12_comesTo_174 rfl ?_
              refine pm_fg 8 (loc' := [some (.ref (B + 54)), some (.int za), some (.int zb), some (.int zc), some (.int zd), some (.int (x5_5 + 1)), some (.int x4), some (.int (x5_7 + 1)), none]) rfl ?_
              exact ih33 _ _ _ hE
    refine loop33 _ (fun S25 x25_5 x25_7 hE => ?_) _ _ _ _ hE
    refine pm_aloadn hG dX12_comesTo_177 rfl ?_
    refine pm_getf hG dX12_comesTo_178 (flX12_31 _ rfl) rfl rfl ?_
    refine pm_iconst (v := 0) hG dX12_comesTo_181 (by decide) ?_
    refine fx_iald hG dX12_comesTo_182 rfl (ix_lit (by decide) rfl) ?_
    exact pm_iret hG hF dX12_comesTo_183 rfl (Nat.le_refl _) (Nat.le_refl _) (fx_rim hE)
  · replace c1 := Int32.not_le.mp c1
    replace hE := fx_t c1 hE
    refine pm_iconst (v := 1) hG dX12_comesTo_4 (by decide) ?_
    exact pm_iret hG hF dX12_comesTo_5 rfl (Nat.le_refl _) (Nat.le_refl _) (fx_rim hE)

set_option maxRecDepth 100000 in
set_option maxHeartbeats 4000000 in
theorem c_X12_ageDay {d : Nat} {B cnt : Nat} {σ : pm_S} {S : FS} {R : Int32 × FS} (hdd : 5 ≤ d) (hE : f_X12_ageDay S = some R) : pm_met mX12_ageDay d 0 0 B [.ref (B + 54)] cnt (mst B S σ) (pm_Qi (fun v σ' cnt' => v = R.1 ∧ σ' = (mst B R.2 σ) ∧ cnt' = cnt)) := by
  refine pm_enter 1 (by decide) (Nat.le_of_ble_eq_true rfl) rfl (fun G hG hR hF => ?_)
  unfold f_X12_ageDay at hE
  refine pm_aloadn hG dX12_ageDay_0 rfl ?_
  refine pm_getf hG dX12_ageDay_1 (flX12_7 _ rfl) rfl rfl ?_
  refine pm_iconst (v := 2) hG dX12_ageDay_4 (by decide) ?_
  refine fx_iald hG dX12_ageDay_5 rfl (ix_lit (by decide) rfl) ?_
  refine pm_if_ne (tgt := 11) hG dX12_ageDay_6 rfl (fun c1 => ?_) (fun c1 => ?_)
  · replace hE := fx_f c1 hE
    refine pm_aloadn hG dX12_ageDay_11 rfl ?_
    refine pm_getf hG dX12_ageDay_12 (flX12_7 _ rfl) rfl rfl ?_
    refine pm_bipush (v := 8) hG dX12_ageDay_15 (by decide) ?_
    refine fx_iald hG dX12_ageDay_17 rfl (ix_lit (by decide) rfl) ?_
    refine fx_letv hE (fun x2 hE => ?_)
    refine pm_istoreXn (loc' := [some (.ref (B + 54)), some (.int x2)]) hG dX12_ageDay_18 (by decide) (pm_c1b rfl) rfl ?_
    have loop19 : ∀ (k19 : FS → Int32 → Option (Int32 × FS)), (∀ (S3 : FS) (x3_1 : Int32), k19 S3  x3_1 = some R → pm_wp mX12_ageDay G B 57 [some (.ref (B + 54)), some (.int x3_1)] [] 0 0 cnt (mst B S3 σ)) → ∀ (m19 : Nat) (S3 : FS) (x3_1 : Int32), l_X12_ageDay_19 k19 m19 S3  x3_1 = some R → pm_wp mX12_ageDay G B 19 [some (.ref (B + 54)), some (.int x3_1)] [] 0 0 cnt (mst B S3 σ) := by
      intro k19 hk19 m19
      induction m19 with
      | zero => intro S3  x3_1 hE; exact fx_no hE
      | succ m19 ih19 =>
        intro S3  x3_1 hE
        rw [l_X12_ageDay_19] at hE
        refine pm_iloadn hG dX12_ageDay_19 rfl ?_
        refine pm_sipush (v := 2000) hG dX12_ageDay_20 (by decide) ?_
        refine pm_icmp_gt (tgt := 57) hG dX12_ageDay_23 rfl (fun c4 => ?_) (fun c4 => ?_)
        · replace hE := fx_t c4 hE
          exact hk19 _ _ hE
        · replace hE := fx_f c4 hE
          refine pm_aloadn hG dX12_ageDay_26 rfl ?_
          refine pm_aloadn hG dX12_ageDay_27 rfl ?_
          refine pm_iconst (v := 3) hG dX12_ageDay_28 (by decide) ?_
          refine pm_iloadn hG dX12_ageDay_29 rfl ?_
          refine pm_aloadn hG dX12_ageDay_30 rfl ?_
          refine pm_getf hG dX12_ageDay_31 (flX12_7 _ rfl) rfl rfl ?_
          refine pm_bipush (v := 8) hG dX12_ageDay_34 (by decide) ?_
          refine fx_iald hG dX12_ageDay_36 rfl (ix_lit (by decide) rfl) ?_
          obtain ⟨x6, h5, hE⟩ := fb_some hE
          refine pm_callV (As := [.int 3, .int x3_1, .int (S3.2 55 8)]) (rest := [.ref (B + 54)]) hG hR dX12_ageDay_37 (lkX12_195 _ rfl) okV_X12_inForce rfl rfl (c_X12_inForce (d := 4) (by decide) h5) rfl rfl hdd (Nat.le_refl _) (Nat.le_refl _) (by first | decide | exact Nat.le_of_ble_eq_true rfl) (fx_ki ?_)
          refine pm_iconst (v := 0) hG dX12_ageDay_40 (by decide) ?_
          refine pm_iconst (v := (-1)) hG dX12_ageDay_41 (by decide) ?_
          refine pm_iloadn hG dX12_ageDay_42 rfl ?_
          obtain ⟨r8, h7, hE⟩ := fb_some hE
          refine pm_callV (As := [.int x6, .int 0, .int (-1), .int x3_1]) (rest := []) hG hR dX12_ageDay_43 (lkX12_214 _ rfl) okV_X12_comesTo rfl rfl (c_X12_comesTo (d := 4) (by decide) h7) rfl rfl hdd (Nat.le_refl _) (Nat.le_refl _) (by decide) (fx_ki ?_)
          refine pm_if_eq (tgt := 51) hG dX12_ageDay_46 rfl (fun c9 => ?_) (fun c9 => ?_)
          · replace hE := fx_t c9 hE
            refine pm_iincX (v := x3_1 + 1) (loc' := [some (.ref (B + 54)), some (.int (x3_1 + 1))]) hG dX12_ageDay_51 rfl (by rfl) (by decide) (pm_c1b rfl) rfl ?_
            refine pm_goto (tgt := 19) hG dX12_ageDay_54 rfl ?_
            exact ih19 _ _ hE
          · replace hE := fx_f c9 hE
            refine pm_iloadn hG dX12_ageDay_49 rfl ?_
            exact pm_iret hG hF dX12_ageDay_50 rfl (Nat.le_refl _) (Nat.le_refl _) (fx_rim hE)
    refine loop19 _ (fun S10 x10_1 hE => ?_) _ _ _ hE
    refine pm_iconst (v := (-1)) hG dX12_ageDay_57 (by decide) ?_
    exact pm_iret hG hF dX12_ageDay_58 rfl (Nat.le_refl _) (Nat.le_refl _) (fx_rim hE)
  · replace hE := fx_t c1 hE
    refine pm_iconst (v := (-1)) hG dX12_ageDay_9 (by decide) ?_
    exact pm_iret hG hF dX12_ageDay_10 rfl (Nat.le_refl _) (Nat.le_refl _) (fx_rim hE)

set_option maxRecDepth 100000 in
set_option maxHeartbeats 4000000 in
theorem c_X12_after {d : Nat} {B cnt : Nat} {σ : pm_S} {S : FS} {za : Int32} {R : Int32 × FS} (hdd : 6 ≤ d) (hE : f_X12_after S za = some R) : pm_met mX12_after d 0 0 B [.ref (B + 54), .int za] cnt (mst B S σ) (pm_Qi (fun v σ' cnt' => v = R.1 ∧ σ' = (mst B R.2 σ) ∧ cnt' = cnt)) := by
  refine pm_enter 2 (by decide) (Nat.le_of_ble_eq_true rfl) rfl (fun G hG hR hF => ?_)
  unfold f_X12_after at hE
  refine pm_aloadn hG dX12_after_0 rfl ?_
  refine pm_iloadn hG dX12_after_1 rfl ?_
  refine pm_callV (As := [.int za]) (rest := []) hG hR dX12_after_2 (lkX12_132 _ rfl) okV_X12_isPower rfl rfl (c_X12_isPower (d := 5) (by decide) rfl) rfl rfl hdd (Nat.le_refl _) (Nat.le_refl _) (by decide) (fx_ki ?_)
  refine pm_if_ne (tgt := 14) hG dX12_after_5 rfl (fun c1 => ?_) (fun c1 => ?_)
  · replace hE := fx_f c1 hE
    refine pm_aloadn hG dX12_after_14 rfl ?_
    obtain ⟨r3, h2, hE⟩ := fb_some hE
    refine pm_callV (As := []) (rest := []) hG hR dX12_after_15 (lkX12_267 _ rfl) okV_X12_ageDay rfl rfl (c_X12_ageDay (d := 5) (by decide) h2) rfl rfl hdd (Nat.le_refl _) (Nat.le_refl _) (by decide) (fx_ki ?_)
    refine pm_istoreXn (loc' := [some (.ref (B + 54)), some (.int za), some (.int r3.1), none]) hG dX12_after_18 (by decide) (pm_c1b rfl) rfl ?_
    refine pm_iloadn hG dX12_after_19 rfl ?_
    refine pm_if_ge (tgt := 29) hG dX12_after_20 rfl (fun c4 => ?_) (fun c4 => ?_)
    · replace c4 := Int32.not_lt.mpr c4
      replace hE := fx_f c4 hE
      refine pm_aloadn hG dX12_after_29 rfl ?_
      refine pm_aloadn hG dX12_after_30 rfl ?_
      refine pm_iconst (v := 4) hG dX12_after_31 (by decide) ?_
      refine pm_iloadn hG dX12_after_32 rfl ?_
      refine pm_aloadn hG dX12_after_33 rfl ?_
      refine pm_getf hG dX12_after_34 (flX12_7 _ rfl) rfl rfl ?_
      refine pm_bipush (v := 8) hG dX12_after_37 (by decide) ?_
      refine fx_iald hG dX12_after_39 rfl (ix_lit (by decide) rfl) ?_
      obtain ⟨x6, h5, hE⟩ := fb_some hE
      refine pm_callV (As := [.int 4, .int r3.1, .int (r3.2.2 55 8)]) (rest := [.ref (B + 54)]) hG hR dX12_after_40 (lkX12_195 _ rfl) okV_X12_inForce rfl rfl (c_X12_inForce (d := 5) (by decide) h5) rfl rfl hdd (Nat.le_refl _) (Nat.le_refl _) (by first | decide | exact Nat.le_of_ble_eq_true rfl) (fx_ki ?_)
      refine pm_aloadn hG dX12_after_43 rfl ?_
      refine pm_iloadn hG dX12_after_44 rfl ?_
      refine pm_iconst (v := 1) hG dX12_after_45 (by decide) ?_
      obtain ⟨x8, h7, hE⟩ := fb_some hE
      refine pm_callV (As := [.int za, .int 1]) (rest := [.int x6, .ref (B + 54)]) hG hR dX12_after_46 (lkX12_110 _ rfl) okV_X12_its rfl rfl (c_X12_its (d := 5) (by decide) h7) rfl rfl hdd (Nat.le_refl _) (Nat.le_refl _) (by first | decide | exact Nat.le_of_ble_eq_true rfl) (fx_ki ?_)
      refine pm_iconst (v := (-1)) hG dX12_after_49 (by decide) ?_
      refine pm_iloadn hG dX12_after_50 rfl ?_
      obtain ⟨r10, h9, hE⟩ := fb_some hE
      refine pm_callV (As := [.int x6, .int x8, .int (-1), .int r3.1]) (rest := []) hG hR dX12_after_51 (lkX12_214 _ rfl) okV_X12_comesTo rfl rfl (c_X12_comesTo (d := 5) (by decide) h9) rfl rfl hdd (Nat.le_refl _) (Nat.le_refl _) (by decide) (fx_ki ?_)
      refine pm_istoreXn (loc' := [some (.ref (B + 54)), some (.int za), some (.int r3.1), some (.int r10.1)]) hG dX12_after_54 (by decide) (pm_c1b rfl) rfl ?_
      refine pm_iloadn hG dX12_after_55 rfl ?_
      refine pm_if_eq (tgt := 64) hG dX12_after_56 rfl (fun c11 => ?_) (fun c11 => ?_)
      · replace hE := fx_t c11 hE
        refine pm_iloadn hG dX12_after_64 rfl ?_
        refine pm_goto (tgt := 69) hG dX12_after_65 rfl ?_
        exact pm_iret hG hF dX12_after_69 rfl (Nat.le_refl _) (Nat.le_refl _) (fx_rim hE)
      · replace hE := fx_f c11 hE
        refine pm_iloadn hG dX12_after_59 rfl ?_
        refine pm_iconst (v := 1) hG dX12_after_60 (by decide) ?_
        refine pm_icmp_ne (tgt := 68) hG dX12_after_61 rfl (fun c12 => ?_) (fun c12 => ?_)
        · replace hE := fx_f c12 hE
          refine pm_iconst (v := 2) hG dX12_after_68 (by decide) ?_
          exact pm_iret hG hF dX12_after_69 rfl (Nat.le_refl _) (Nat.le_refl _) (fx_rim hE)
        · replace hE := fx_t c12 hE
          refine pm_iloadn hG dX12_after_64 rfl ?_
          refine pm_goto (tgt := 69) hG dX12_after_65 rfl ?_
          exact pm_iret hG hF dX12_after_69 rfl (Nat.le_refl _) (Nat.le_refl _) (fx_rim hE)
    · replace c4 := Int32.not_le.mp c4
      replace hE := fx_t c4 hE
      refine pm_aloadn hG dX12_after_23 rfl ?_
      refine pm_iconst (v := 2) hG dX12_after_24 (by decide) ?_
      obtain ⟨r14, h13, hE⟩ := fb_some hE
      refine pm_callV (As := [.int 2]) (rest := []) hG hR dX12_after_25 (lkX12_80 _ rfl) okV_X12_finds rfl rfl (c_X12_finds (d := 5) (by decide) h13) rfl rfl hdd (Nat.le_refl _) (Nat.le_refl _) (by decide) (fx_ki ?_)
      exact pm_iret hG hF dX12_after_28 rfl (Nat.le_refl _) (Nat.le_refl _) (fx_rim hE)
  · replace hE := fx_t c1 hE
    refine pm_aloadn hG dX12_after_8 rfl ?_
    refine pm_iconst (v := 1) hG dX12_after_9 (by decide) ?_
    obtain ⟨r16, h15, hE⟩ := fb_some hE
    refine pm_callV (As := [.int 1]) (rest := []) hG hR dX12_after_10 (lkX12_80 _ rfl) okV_X12_finds rfl rfl (c_X12_finds (d := 5) (by decide) h15) rfl rfl hdd (Nat.le_refl _) (Nat.le_refl _) (by decide) (fx_ki ?_)
    exact pm_iret hG hF dX12_after_13 rfl (Nat.le_refl _) (Nat.le_refl _) (fx_rim hE)

set_option maxRecDepth 100000 in
set_option maxHeartbeats 4000000 in
theorem c_X12_age {d : Nat} {B cnt : Nat} {σ : pm_S} {S : FS} {R : Int32 × FS} (hdd : 6 ≤ d) (hE : f_X12_age S = some R) : pm_met mX12_age d 0 0 B [.ref (B + 54)] cnt (mst B S σ) (pm_Qi (fun v σ' cnt' => v = R.1 ∧ σ' = (mst B R.2 σ) ∧ cnt' = cnt)) := by
  refine pm_enter 1 (by decide) (Nat.le_of_ble_eq_true rfl) rfl (fun G hG hR hF => ?_)
  unfold f_X12_age at hE
  refine pm_aloadn hG dX12_age_0 rfl ?_
  obtain ⟨r2, h1, hE⟩ := fb_some hE
  refine pm_callV (As := []) (rest := []) hG hR dX12_age_1 (lkX12_267 _ rfl) okV_X12_ageDay rfl rfl (c_X12_ageDay (d := 5) (by decide) h1) rfl rfl hdd (Nat.le_refl _) (Nat.le_refl _) (by decide) (fx_ki ?_)
  refine pm_istoreXn (loc' := [some (.ref (B + 54)), some (.int r2.1)]) hG dX12_age_4 (by decide) (pm_c1b rfl) rfl ?_
  refine pm_iloadn hG dX12_age_5 rfl ?_
  refine pm_if_ge (tgt := 17) hG dX12_age_6 rfl (fun c3 => ?_) (fun c3 => ?_)
  · replace c3 := Int32.not_lt.mpr c3
    replace hE := fx_f c3 hE
    refine pm_iloadn hG dX12_age_17 rfl ?_
    exact pm_iret hG hF dX12_age_18 rfl (Nat.le_refl _) (Nat.le_refl _) (fx_rim hE)
  · replace c3 := Int32.not_le.mp c3
    replace hE := fx_t c3 hE
    refine pm_aloadn hG dX12_age_9 rfl ?_
    refine pm_iconst (v := 2) hG dX12_age_10 (by decide) ?_
    obtain ⟨r5, h4, hE⟩ := fb_some hE
    refine pm_callV (As := [.int 2]) (rest := []) hG hR dX12_age_11 (lkX12_80 _ rfl) okV_X12_finds rfl rfl (c_X12_finds (d := 5) (by decide) h4) rfl rfl hdd (Nat.le_refl _) (Nat.le_refl _) (by decide) (fx_ki ?_)
    refine pm_goto (tgt := 18) hG dX12_age_14 rfl ?_
    exact pm_iret hG hF dX12_age_18 rfl (Nat.le_refl _) (Nat.le_refl _) (fx_rim hE)

set_option maxRecDepth 100000 in
set_option maxHeartbeats 4000000 in
theorem c_X12_isUnder {d : Nat} {B cnt : Nat} {σ : pm_S} {S : FS} {za : Int32} {zb : Int32} {R : Int32} (hdd : 1 ≤ d) (hE : p_X12_isUnder S za zb = R) : pm_met mX12_isUnder d 0 0 B [.int za, .int zb] cnt (mst B S σ) (pm_Qi (fun v σ' cnt' => v = R ∧ σ' = (mst B S σ) ∧ cnt' = cnt)) := by
  refine pm_enter 0 (by decide) (Nat.le_of_ble_eq_true rfl) rfl (fun G hG hR hF => ?_)
  unfold p_X12_isUnder at hE
  refine pm_iloadn hG dX12_isUnder_0 rfl ?_
  refine pm_if_eq (tgt := 34) hG dX12_isUnder_1 rfl (fun c1 => ?_) (fun c1 => ?_)
  · replace hE := fx_t c1 hE
    refine pm_iconst (v := 1) hG dX12_isUnder_34 (by decide) ?_
    refine pm_goto (tgt := 39) hG dX12_isUnder_35 rfl ?_
    exact pm_zret hG hF dX12_isUnder_39 rfl (by rfl) (Nat.le_refl _) (Nat.le_refl _) (fx_pi hE)
  · replace hE := fx_f c1 hE
    refine pm_iloadn hG dX12_isUnder_4 rfl ?_
    refine pm_iloadn hG dX12_isUnder_5 rfl ?_
    refine pm_icmp_eq (tgt := 34) hG dX12_isUnder_6 rfl (fun c2 => ?_) (fun c2 => ?_)
    · replace hE := fx_t c2 hE
      refine pm_iconst (v := 1) hG dX12_isUnder_34 (by decide) ?_
      refine pm_goto (tgt := 39) hG dX12_isUnder_35 rfl ?_
      exact pm_zret hG hF dX12_isUnder_39 rfl (by rfl) (Nat.le_refl _) (Nat.le_refl _) (fx_pi hE)
    · replace hE := fx_f c2 hE
      refine pm_iloadn hG dX12_isUnder_9 rfl ?_
      refine pm_iconst (v := 1) hG dX12_isUnder_10 (by decide) ?_
      refine pm_icmp_ne (tgt := 24) hG dX12_isUnder_11 rfl (fun c3 => ?_) (fun c3 => ?_)
      · replace hE := fx_f c3 hE
        refine pm_iloadn hG dX12_isUnder_24 rfl ?_
        refine pm_iconst (v := 3) hG dX12_isUnder_25 (by decide) ?_
        refine pm_icmp_ne (tgt := 38) hG dX12_isUnder_26 rfl (fun c4 => ?_) (fun c4 => ?_)
        · replace hE := fx_f c4 hE
          refine pm_iconst (v := 0) hG dX12_isUnder_38 (by decide) ?_
          exact pm_zret hG hF dX12_isUnder_39 rfl (by rfl) (Nat.le_refl _) (Nat.le_refl _) (fx_pi hE)
        · replace hE := fx_t c4 hE
          refine pm_iloadn hG dX12_isUnder_29 rfl ?_
          refine pm_iconst (v := 4) hG dX12_isUnder_30 (by decide) ?_
          refine pm_icmp_ne (tgt := 38) hG dX12_isUnder_31 rfl (fun c5 => ?_) (fun c5 => ?_)
          · replace hE := fx_f c5 hE
            refine pm_iconst (v := 0) hG dX12_isUnder_38 (by decide) ?_
            exact pm_zret hG hF dX12_isUnder_39 rfl (by rfl) (Nat.le_refl _) (Nat.le_refl _) (fx_pi hE)
          · replace hE := fx_t c5 hE
            refine pm_iconst (v := 1) hG dX12_isUnder_34 (by decide) ?_
            refine pm_goto (tgt := 39) hG dX12_isUnder_35 rfl ?_
            exact pm_zret hG hF dX12_isUnder_39 rfl (by rfl) (Nat.le_refl _) (Nat.le_refl _) (fx_pi hE)
      · replace hE := fx_t c3 hE
        refine pm_iloadn hG dX12_isUnder_14 rfl ?_
        refine pm_iconst (v := 3) hG dX12_isUnder_15 (by decide) ?_
        refine pm_icmp_eq (tgt := 34) hG dX12_isUnder_16 rfl (fun c6 => ?_) (fun c6 => ?_)
        · replace hE := fx_t c6 hE
          refine pm_iconst (v := 1) hG dX12_isUnder_34 (by decide) ?_
          refine pm_goto (tgt := 39) hG dX12_isUnder_35 rfl ?_
          exact pm_zret hG hF dX12_isUnder_39 rfl (by rfl) (Nat.le_refl _) (Nat.le_refl _) (fx_pi hE)
        · replace hE := fx_f c6 hE
          refine pm_iloadn hG dX12_isUnder_19 rfl ?_
          refine pm_iconst (v := 4) hG dX12_isUnder_20 (by decide) ?_
          refine pm_icmp_eq (tgt := 34) hG dX12_isUnder_21 rfl (fun c7 => ?_) (fun c7 => ?_)
          · replace hE := fx_t c7 hE
            refine pm_iconst (v := 1) hG dX12_isUnder_34 (by decide) ?_
            refine pm_goto (tgt := 39) hG dX12_isUnder_35 rfl ?_
            exact pm_zret hG hF dX12_isUnder_39 rfl (by rfl) (Nat.le_refl _) (Nat.le_refl _) (fx_pi hE)
          · replace hE := fx_f c7 hE
            refine pm_iloadn hG dX12_isUnder_24 rfl ?_
            refine pm_iconst (v := 3) hG dX12_isUnder_25 (by decide) ?_
            refine pm_icmp_ne (tgt := 38) hG dX12_isUnder_26 rfl (fun c8 => ?_) (fun c8 => ?_)
            · replace hE := fx_f c8 hE
              refine pm_iconst (v := 0) hG dX12_isUnder_38 (by decide) ?_
              exact pm_zret hG hF dX12_isUnder_39 rfl (by rfl) (Nat.le_refl _) (Nat.le_refl _) (fx_pi hE)
            · replace hE := fx_t c8 hE
              refine pm_iloadn hG dX12_isUnder_29 rfl ?_
              refine pm_iconst (v := 4) hG dX12_isUnder_30 (by decide) ?_
              refine pm_icmp_ne (tgt := 38) hG dX12_isUnder_31 rfl (fun _ => ?_) (fun q => absurd q c7)
              refine pm_iconst (v := 0) hG dX12_isUnder_38 (by decide) ?_
              exact pm_zret hG hF dX12_isUnder_39 rfl (by rfl) (Nat.le_refl _) (Nat.le_refl _) (fx_pi hE)

set_option maxRecDepth 100000 in
set_option maxHeartbeats 4000000 in
theorem c_X12_as {d : Nat} {B cnt : Nat} {σ : pm_S} {S : FS} {za : Int32} {zb : Int32} {R : Int32 × FS} (hdd : 3 ≤ d) (hE : f_X12_as S za zb = some R) : pm_met mX12_as d 0 0 B [.ref (B + 54), .int za, .int zb] cnt (mst B S σ) (pm_Qi (fun v σ' cnt' => v = R.1 ∧ σ' = (mst B R.2 σ) ∧ cnt' = cnt)) := by
  refine pm_enter 0 (by decide) (Nat.le_of_ble_eq_true rfl) rfl (fun G hG hR hF => ?_)
  unfold f_X12_as at hE
  refine pm_aloadn hG dX12_as_0 rfl ?_
  refine pm_iloadn hG dX12_as_1 rfl ?_
  refine pm_callV (As := [.int za]) (rest := []) hG hR dX12_as_2 (lkX12_132 _ rfl) okV_X12_isPower rfl rfl (c_X12_isPower (d := 2) (by decide) rfl) rfl rfl hdd (Nat.le_refl _) (Nat.le_refl _) (by decide) (fx_ki ?_)
  refine pm_if_eq (tgt := 17) hG dX12_as_5 rfl (fun c1 => ?_) (fun c1 => ?_)
  · replace hE := fx_t c1 hE
    refine pm_aloadn hG dX12_as_17 rfl ?_
    refine pm_iconst (v := 1) hG dX12_as_18 (by decide) ?_
    obtain ⟨r3, h2, hE⟩ := fb_some hE
    refine pm_callV (As := [.int 1]) (rest := []) hG hR dX12_as_19 (lkX12_80 _ rfl) okV_X12_finds rfl rfl (c_X12_finds (d := 2) (by decide) h2) rfl rfl hdd (Nat.le_refl _) (Nat.le_refl _) (by decide) (fx_ki ?_)
    exact pm_iret hG hF dX12_as_22 rfl (Nat.le_refl _) (Nat.le_refl _) (fx_rim hE)
  · replace hE := fx_f c1 hE
    refine pm_iloadn hG dX12_as_8 rfl ?_
    refine pm_iconst (v := 0) hG dX12_as_9 (by decide) ?_
    refine pm_iconst (v := 5) hG dX12_as_10 (by decide) ?_
    refine pm_callS (As := [.int zb, .int 0, .int 5]) (rest := []) hG hR dX12_as_11 (lkX12_68 _ rfl) okS_X12_in (c_X12_in (d := 2) (by decide) rfl) rfl rfl hdd (Nat.le_refl _) (Nat.le_refl _) (by decide) (fx_ki ?_)
    refine pm_if_ne (tgt := 23) hG dX12_as_14 rfl (fun c4 => ?_) (fun c4 => ?_)
    · replace hE := fx_f c4 hE
      refine pm_aloadn hG dX12_as_23 rfl ?_
      refine pm_iloadn hG dX12_as_24 rfl ?_
      refine pm_iconst (v := 0) hG dX12_as_25 (by decide) ?_
      obtain ⟨x6, h5, hE⟩ := fb_some hE
      refine pm_callV (As := [.int za, .int 0]) (rest := []) hG hR dX12_as_26 (lkX12_110 _ rfl) okV_X12_its rfl rfl (c_X12_its (d := 2) (by decide) h5) rfl rfl hdd (Nat.le_refl _) (Nat.le_refl _) (by decide) (fx_ki ?_)
      refine pm_iloadn hG dX12_as_29 rfl ?_
      refine pm_callS (As := [.int x6, .int zb]) (rest := []) hG hR dX12_as_30 (lkX12_135 _ rfl) okS_X12_isUnder (c_X12_isUnder (d := 2) (by decide) rfl) rfl rfl hdd (Nat.le_refl _) (Nat.le_refl _) (by decide) (fx_ki ?_)
      refine pm_if_eq (tgt := 45) hG dX12_as_33 rfl (fun c7 => ?_) (fun c7 => ?_)
      · replace hE := fx_t c7 hE
        refine pm_aloadn hG dX12_as_45 rfl ?_
        refine pm_iconst (v := 5) hG dX12_as_46 (by decide) ?_
        obtain ⟨r9, h8, hE⟩ := fb_some hE
        refine pm_callV (As := [.int 5]) (rest := []) hG hR dX12_as_47 (lkX12_80 _ rfl) okV_X12_finds rfl rfl (c_X12_finds (d := 2) (by decide) h8) rfl rfl hdd (Nat.le_refl _) (Nat.le_refl _) (by decide) (fx_ki ?_)
        exact pm_iret hG hF dX12_as_50 rfl (Nat.le_refl _) (Nat.le_refl _) (fx_rim hE)
      · replace hE := fx_f c7 hE
        refine pm_aloadn hG dX12_as_36 rfl ?_
        refine pm_iloadn hG dX12_as_37 rfl ?_
        refine pm_iconst (v := 4) hG dX12_as_38 (by decide) ?_
        obtain ⟨x11, h10, hE⟩ := fb_some hE
        refine pm_callV (As := [.int za, .int 4]) (rest := []) hG hR dX12_as_39 (lkX12_110 _ rfl) okV_X12_its rfl rfl (c_X12_its (d := 2) (by decide) h10) rfl rfl hdd (Nat.le_refl _) (Nat.le_refl _) (by decide) (fx_ki ?_)
        refine pm_goto (tgt := 50) hG dX12_as_42 rfl ?_
        exact pm_iret hG hF dX12_as_50 rfl (Nat.le_refl _) (Nat.le_refl _) (fx_rim hE)
    · replace hE := fx_t c4 hE
      refine pm_aloadn hG dX12_as_17 rfl ?_
      refine pm_iconst (v := 1) hG dX12_as_18 (by decide) ?_
      obtain ⟨r13, h12, hE⟩ := fb_some hE
      refine pm_callV (As := [.int 1]) (rest := []) hG hR dX12_as_19 (lkX12_80 _ rfl) okV_X12_finds rfl rfl (c_X12_finds (d := 2) (by decide) h12) rfl rfl hdd (Nat.le_refl _) (Nat.le_refl _) (by decide) (fx_ki ?_)
      exact pm_iret hG hF dX12_as_22 rfl (Nat.le_refl _) (Nat.le_refl _) (fx_rim hE)

set_option maxRecDepth 100000 in
set_option maxHeartbeats 4000000 in
theorem c_X12_bindsPower {d : Nat} {B cnt : Nat} {σ : pm_S} {S : FS} {za : Int32} {zb : Int32} {R : Int32 × FS} (hdd : 5 ≤ d) (hE : f_X12_bindsPower S za zb = some R) : pm_met mX12_bindsPower d 0 0 B [.ref (B + 54), .int za, .int zb] cnt (mst B S σ) (pm_Qi (fun v σ' cnt' => v = R.1 ∧ σ' = (mst B R.2 σ) ∧ cnt' = cnt)) := by
  refine pm_enter 0 (by decide) (Nat.le_of_ble_eq_true rfl) rfl (fun G hG hR hF => ?_)
  unfold f_X12_bindsPower at hE
  refine pm_aloadn hG dX12_bindsPower_0 rfl ?_
  refine pm_bipush (v := 11) hG dX12_bindsPower_1 (by decide) ?_
  obtain ⟨r2, h1, hE⟩ := fb_some hE
  refine pm_callV (As := [.int 11]) (rest := []) hG hR dX12_bindsPower_3 (lkX12_286 _ rfl) okV_X12_ran rfl rfl (c_X12_ran (d := 4) (by decide) h1) rfl rfl hdd (Nat.le_refl _) (Nat.le_refl _) (by decide) (fx_kv ?_)
  refine pm_aloadn hG dX12_bindsPower_6 rfl ?_
  refine pm_iloadn hG dX12_bindsPower_7 rfl ?_
  refine pm_iloadn hG dX12_bindsPower_8 rfl ?_
  obtain ⟨r4, h3, hE⟩ := fb_some hE
  refine pm_callV (As := [.int za, .int zb]) (rest := []) hG hR dX12_bindsPower_9 (lkX12_295 _ rfl) okV_X12_actsOf rfl rfl (c_X12_actsOf (d := 4) (by decide) h3) rfl rfl hdd (Nat.le_refl _) (Nat.le_refl _) (by decide) (fx_ki ?_)
  refine pm_iconst (v := 2) hG dX12_bindsPower_12 (by decide) ?_
  refine pm_imul hG dX12_bindsPower_13 ?_
  exact pm_iret hG hF dX12_bindsPower_14 rfl (Nat.le_refl _) (Nat.le_refl _) (fx_rim hE)

set_option maxRecDepth 100000 in
set_option maxHeartbeats 4000000 in
theorem c_X12_bindsOf {d : Nat} {B cnt : Nat} {σ : pm_S} {S : FS} {za : Int32} {zb : Int32} {R : Int32 × FS} (hdd : 6 ≤ d) (hE : f_X12_bindsOf S za zb = some R) : pm_met mX12_bindsOf d 0 0 B [.ref (B + 54), .int za, .int zb] cnt (mst B S σ) (pm_Qi (fun v σ' cnt' => v = R.1 ∧ σ' = (mst B R.2 σ) ∧ cnt' = cnt)) := by
  refine pm_enter 2 (by decide) (Nat.le_of_ble_eq_true rfl) rfl (fun G hG hR hF => ?_)
  unfold f_X12_bindsOf at hE
  refine pm_aloadn hG dX12_bindsOf_0 rfl ?_
  refine pm_iloadn hG dX12_bindsOf_1 rfl ?_
  refine pm_iconst (v := 0) hG dX12_bindsOf_2 (by decide) ?_
  obtain ⟨x2, h1, hE⟩ := fb_some hE
  refine pm_callV (As := [.int za, .int 0]) (rest := []) hG hR dX12_bindsOf_3 (lkX12_110 _ rfl) okV_X12_its rfl rfl (c_X12_its (d := 5) (by decide) h1) rfl rfl hdd (Nat.le_refl _) (Nat.le_refl _) (by decide) (fx_ki ?_)
  refine pm_istoreXn (loc' := [some (.ref (B + 54)), some (.int za), some (.int zb), some (.int x2), none]) hG dX12_bindsOf_6 (by decide) (pm_c1b rfl) rfl ?_
  refine pm_iloadn hG dX12_bindsOf_7 rfl ?_
  refine pm_iconst (v := 3) hG dX12_bindsOf_8 (by decide) ?_
  refine pm_icmp_eq (tgt := 17) hG dX12_bindsOf_9 rfl (fun c3 => ?_) (fun c3 => ?_)
  · replace hE := fx_t c3 hE
    refine pm_aloadn hG dX12_bindsOf_17 rfl ?_
    refine pm_bipush (v := 40) hG dX12_bindsOf_18 (by decide) ?_
    obtain ⟨r5, h4, hE⟩ := fb_some hE
    refine pm_callV (As := [.int 40]) (rest := []) hG hR dX12_bindsOf_20 (lkX12_286 _ rfl) okV_X12_ran rfl rfl (c_X12_ran (d := 5) (by decide) h4) rfl rfl hdd (Nat.le_refl _) (Nat.le_refl _) (by decide) (fx_kv ?_)
    refine pm_aloadn hG dX12_bindsOf_23 rfl ?_
    refine pm_iloadn hG dX12_bindsOf_24 rfl ?_
    refine pm_iloadn hG dX12_bindsOf_25 rfl ?_
    obtain ⟨r7, h6, hE⟩ := fb_some hE
    refine pm_callV (As := [.int za, .int zb]) (rest := []) hG hR dX12_bindsOf_26 (lkX12_298 _ rfl) okV_X12_bindsPower rfl rfl (c_X12_bindsPower (d := 5) (by decide) h6) rfl rfl hdd (Nat.le_refl _) (Nat.le_refl _) (by decide) (fx_ki ?_)
    refine pm_istoreXi (loc' := [some (.ref (B + 54)), some (.int za), some (.int zb), some (.int x2), some (.int r7.1)]) hG dX12_bindsOf_29 (by decide) (pm_c1b rfl) rfl ?_
    refine pm_iloadi hG dX12_bindsOf_31 rfl ?_
    refine pm_aloadn hG dX12_bindsOf_33 rfl ?_
    refine pm_iloadn hG dX12_bindsOf_34 rfl ?_
    refine pm_iloadn hG dX12_bindsOf_35 rfl ?_
    obtain ⟨r9, h8, hE⟩ := fb_some hE
    refine pm_callV (As := [.int za, .int zb]) (rest := [.int r7.1]) hG hR dX12_bindsOf_36 (lkX12_295 _ rfl) okV_X12_actsOf rfl rfl (c_X12_actsOf (d := 5) (by decide) h8) rfl rfl hdd (Nat.le_refl _) (Nat.le_refl _) (by first | decide | exact Nat.le_of_ble_eq_true rfl) (fx_ki ?_)
    refine pm_isub hG dX12_bindsOf_39 ?_
    exact pm_iret hG hF dX12_bindsOf_40 rfl (Nat.le_refl _) (Nat.le_refl _) (fx_rim hE)
  · replace hE := fx_f c3 hE
    refine pm_iloadn hG dX12_bindsOf_12 rfl ?_
    refine pm_iconst (v := 4) hG dX12_bindsOf_13 (by decide) ?_
    refine pm_icmp_ne (tgt := 41) hG dX12_bindsOf_14 rfl (fun c10 => ?_) (fun c10 => ?_)
    · replace hE := fx_f c10 hE
      refine pm_iloadn hG dX12_bindsOf_41 rfl ?_
      refine pm_iconst (v := 5) hG dX12_bindsOf_42 (by decide) ?_
      refine pm_icmp_eq (tgt := 53) hG dX12_bindsOf_43 rfl (fun c11 => ?_) (fun c11 => ?_)
      · replace hE := fx_t c11 hE
        refine pm_aloadn hG dX12_bindsOf_53 rfl ?_
        refine pm_bipush (v := 60) hG dX12_bindsOf_54 (by decide) ?_
        obtain ⟨r13, h12, hE⟩ := fb_some hE
        refine pm_callV (As := [.int 60]) (rest := []) hG hR dX12_bindsOf_56 (lkX12_286 _ rfl) okV_X12_ran rfl rfl (c_X12_ran (d := 5) (by decide) h12) rfl rfl hdd (Nat.le_refl _) (Nat.le_refl _) (by decide) (fx_kv ?_)
        refine pm_aloadn hG dX12_bindsOf_59 rfl ?_
        refine pm_iloadn hG dX12_bindsOf_60 rfl ?_
        refine pm_iloadn hG dX12_bindsOf_61 rfl ?_
        obtain ⟨r15, h14, hE⟩ := fb_some hE
        refine pm_callV (As := [.int za, .int zb]) (rest := []) hG hR dX12_bindsOf_62 (lkX12_298 _ rfl) okV_X12_bindsPower rfl rfl (c_X12_bindsPower (d := 5) (by decide) h14) rfl rfl hdd (Nat.le_refl _) (Nat.le_refl _) (by decide) (fx_ki ?_)
        refine pm_aloadn hG dX12_bindsOf_65 rfl ?_
        refine pm_iloadn hG dX12_bindsOf_66 rfl ?_
        refine pm_iconst (v := 4) hG dX12_bindsOf_67 (by decide) ?_
        obtain ⟨x17, h16, hE⟩ := fb_some hE
        refine pm_callV (As := [.int za, .int 4]) (rest := [.int r15.1]) hG hR dX12_bindsOf_68 (lkX12_110 _ rfl) okV_X12_its rfl rfl (c_X12_its (d := 5) (by decide) h16) rfl rfl hdd (Nat.le_refl _) (Nat.le_refl _) (by first | decide | exact Nat.le_of_ble_eq_true rfl) (fx_ki ?_)
        refine pm_iadd hG dX12_bindsOf_71 ?_
        exact pm_iret hG hF dX12_bindsOf_72 rfl (Nat.le_refl _) (Nat.le_refl _) (fx_rim hE)
      · replace hE := fx_f c11 hE
        refine pm_aloadn hG dX12_bindsOf_46 rfl ?_
        refine pm_iloadn hG dX12_bindsOf_47 rfl ?_
        refine pm_iloadn hG dX12_bindsOf_48 rfl ?_
        obtain ⟨r19, h18, hE⟩ := fb_some hE
        refine pm_callV (As := [.int za, .int zb]) (rest := []) hG hR dX12_bindsOf_49 (lkX12_298 _ rfl) okV_X12_bindsPower rfl rfl (c_X12_bindsPower (d := 5) (by decide) h18) rfl rfl hdd (Nat.le_refl _) (Nat.le_refl _) (by decide) (fx_ki ?_)
        exact pm_iret hG hF dX12_bindsOf_52 rfl (Nat.le_refl _) (Nat.le_refl _) (fx_rim hE)
    · replace hE := fx_t c10 hE
      refine pm_aloadn hG dX12_bindsOf_17 rfl ?_
      refine pm_bipush (v := 40) hG dX12_bindsOf_18 (by decide) ?_
      obtain ⟨r21, h20, hE⟩ := fb_some hE
      refine pm_callV (As := [.int 40]) (rest := []) hG hR dX12_bindsOf_20 (lkX12_286 _ rfl) okV_X12_ran rfl rfl (c_X12_ran (d := 5) (by decide) h20) rfl rfl hdd (Nat.le_refl _) (Nat.le_refl _) (by decide) (fx_kv ?_)
      refine pm_aloadn hG dX12_bindsOf_23 rfl ?_
      refine pm_iloadn hG dX12_bindsOf_24 rfl ?_
      refine pm_iloadn hG dX12_bindsOf_25 rfl ?_
      obtain ⟨r23, h22, hE⟩ := fb_some hE
      refine pm_callV (As := [.int za, .int zb]) (rest := []) hG hR dX12_bindsOf_26 (lkX12_298 _ rfl) okV_X12_bindsPower rfl rfl (c_X12_bindsPower (d := 5) (by decide) h22) rfl rfl hdd (Nat.le_refl _) (Nat.le_refl _) (by decide) (fx_ki ?_)
      refine pm_istoreXi (loc' := [some (.ref (B + 54)), some (.int za), some (.int zb), some (.int x2), some (.int r23.1)]) hG dX12_bindsOf_29 (by decide) (pm_c1b rfl) rfl ?_
      refine pm_iloadi hG dX12_bindsOf_31 rfl ?_
      refine pm_aloadn hG dX12_bindsOf_33 rfl ?_
      refine pm_iloadn hG dX12_bindsOf_34 rfl ?_
      refine pm_iloadn hG dX12_bindsOf_35 rfl ?_
      obtain ⟨r25, h24, hE⟩ := fb_some hE
      refine pm_callV (As := [.int za, .int zb]) (rest := [.int r23.1]) hG hR dX12_bindsOf_36 (lkX12_295 _ rfl) okV_X12_actsOf rfl rfl (c_X12_actsOf (d := 5) (by decide) h24) rfl rfl hdd (Nat.le_refl _) (Nat.le_refl _) (by first | decide | exact Nat.le_of_ble_eq_true rfl) (fx_ki ?_)
      refine pm_isub hG dX12_bindsOf_39 ?_
      exact pm_iret hG hF dX12_bindsOf_40 rfl (Nat.le_refl _) (Nat.le_refl _) (fx_rim hE)

set_option maxRecDepth 100000 in
set_option maxHeartbeats 4000000 in
theorem c_X12_promised {d : Nat} {B cnt : Nat} {σ : pm_S} {S : FS} {za : Int32} {zb : Int32} {R : Int32} (hdd : 1 ≤ d) (hE : q_X12_promised S za zb = some R) : pm_met mX12_promised d 0 0 B [.ref (B + 54), .int za, .int zb] cnt (mst B S σ) (pm_Qi (fun v σ' cnt' => v = R ∧ σ' = (mst B S σ) ∧ cnt' = cnt)) := by
  refine pm_enter 0 (by decide) (Nat.le_of_ble_eq_true rfl) rfl (fun G hG hR hF => ?_)
  unfold q_X12_promised at hE
  refine pm_aloadn hG dX12_promised_0 rfl ?_
  refine pm_getf hG dX12_promised_1 (flX12_7 _ rfl) rfl rfl ?_
  refine pm_sipush (v := 1806) hG dX12_promised_4 (by decide) ?_
  refine pm_bipush (v := 6) hG dX12_promised_7 (by decide) ?_
  refine pm_iloadn hG dX12_promised_9 rfl ?_
  refine pm_imul hG dX12_promised_10 ?_
  refine pm_iadd hG dX12_promised_11 ?_
  refine pm_iloadn hG dX12_promised_12 rfl ?_
  refine pm_iadd hG dX12_promised_13 ?_
  obtain ⟨j1, hj1, hE⟩ := fb_some hE
  refine fx_iald hG dX12_promised_14 rfl hj1 ?_
  exact pm_iret hG hF dX12_promised_15 rfl (Nat.le_refl _) (Nat.le_refl _) (fx_pi (Option.some.inj hE))

set_option maxRecDepth 100000 in
set_option maxHeartbeats 4000000 in
theorem c_X12_stands {d : Nat} {B cnt : Nat} {σ : pm_S} {S : FS} {za : Int32} {R : Int32} (hdd : 2 ≤ d) (hE : q_X12_stands S za = some R) : pm_met mX12_stands d 0 0 B [.ref (B + 54), .int za] cnt (mst B S σ) (pm_Qi (fun v σ' cnt' => v = R ∧ σ' = (mst B S σ) ∧ cnt' = cnt)) := by
  refine pm_enter 0 (by decide) (Nat.le_of_ble_eq_true rfl) rfl (fun G hG hR hF => ?_)
  unfold q_X12_stands at hE
  refine pm_aloadn hG dX12_stands_0 rfl ?_
  refine pm_iloadn hG dX12_stands_1 rfl ?_
  refine pm_iconst (v := 4) hG dX12_stands_2 (by decide) ?_
  obtain ⟨x2, h1, hE⟩ := fb_some hE
  refine pm_callV (As := [.int za, .int 4]) (rest := []) hG hR dX12_stands_3 (lkX12_223 _ rfl) okV_X12_promised rfl rfl (c_X12_promised (d := 1) (by decide) h1) rfl rfl hdd (Nat.le_refl _) (Nat.le_refl _) (by decide) (fx_ki ?_)
  refine pm_if_ne (tgt := 38) hG dX12_stands_6 rfl (fun c3 => ?_) (fun c3 => ?_)
  · replace hE := fx_f c3 hE
    refine pm_iconst (v := 0) hG dX12_stands_38 (by decide) ?_
    exact pm_zret hG hF dX12_stands_39 rfl (by rfl) (Nat.le_refl _) (Nat.le_refl _) (fx_pi (Option.some.inj hE))
  · replace hE := fx_t c3 hE
    refine pm_aloadn hG dX12_stands_9 rfl ?_
    refine pm_iloadn hG dX12_stands_10 rfl ?_
    refine pm_iconst (v := 5) hG dX12_stands_11 (by decide) ?_
    obtain ⟨x5, h4, hE⟩ := fb_some hE
    refine pm_callV (As := [.int za, .int 5]) (rest := []) hG hR dX12_stands_12 (lkX12_223 _ rfl) okV_X12_promised rfl rfl (c_X12_promised (d := 1) (by decide) h4) rfl rfl hdd (Nat.le_refl _) (Nat.le_refl _) (by decide) (fx_ki ?_)
    refine pm_if_ne (tgt := 38) hG dX12_stands_15 rfl (fun c6 => ?_) (fun c6 => ?_)
    · replace hE := fx_f c6 hE
      refine pm_iconst (v := 0) hG dX12_stands_38 (by decide) ?_
      exact pm_zret hG hF dX12_stands_39 rfl (by rfl) (Nat.le_refl _) (Nat.le_refl _) (fx_pi (Option.some.inj hE))
    · replace hE := fx_t c6 hE
      refine pm_aloadn hG dX12_stands_18 rfl ?_
      refine pm_getf hG dX12_stands_19 (flX12_7 _ rfl) rfl rfl ?_
      refine pm_bipush (v := 8) hG dX12_stands_22 (by decide) ?_
      refine fx_iald hG dX12_stands_24 rfl (ix_lit (by decide) rfl) ?_
      refine pm_aloadn hG dX12_stands_25 rfl ?_
      refine pm_iloadn hG dX12_stands_26 rfl ?_
      refine pm_iconst (v := 2) hG dX12_stands_27 (by decide) ?_
      obtain ⟨x8, h7, hE⟩ := fb_some hE
      refine pm_callV (As := [.int za, .int 2]) (rest := [.int (S.2 55 8)]) hG hR dX12_stands_28 (lkX12_223 _ rfl) okV_X12_promised rfl rfl (c_X12_promised (d := 1) (by decide) h7) rfl rfl hdd (Nat.le_refl _) (Nat.le_refl _) (by first | decide | exact Nat.le_of_ble_eq_true rfl) (fx_ki ?_)
      refine pm_icmp_gt (tgt := 38) hG dX12_stands_31 rfl (fun c9 => ?_) (fun c9 => ?_)
      · replace hE := fx_t c9 hE
        refine pm_iconst (v := 0) hG dX12_stands_38 (by decide) ?_
        exact pm_zret hG hF dX12_stands_39 rfl (by rfl) (Nat.le_refl _) (Nat.le_refl _) (fx_pi (Option.some.inj hE))
      · replace hE := fx_f c9 hE
        refine pm_iconst (v := 1) hG dX12_stands_34 (by decide) ?_
        refine pm_goto (tgt := 39) hG dX12_stands_35 rfl ?_
        exact pm_zret hG hF dX12_stands_39 rfl (by rfl) (Nat.le_refl _) (Nat.le_refl _) (fx_pi (Option.some.inj hE))

set_option maxRecDepth 100000 in
set_option maxHeartbeats 4000000 in
theorem c_X12_breaks {d : Nat} {B cnt : Nat} {σ : pm_S} {S : FS} {za : Int32} {R : Int32 × FS} (hdd : 3 ≤ d) (hE : f_X12_breaks S za = some R) : pm_met mX12_breaks d 0 0 B [.ref (B + 54), .int za] cnt (mst B S σ) (pm_Qi (fun v σ' cnt' => v = R.1 ∧ σ' = (mst B R.2 σ) ∧ cnt' = cnt)) := by
  refine pm_enter 0 (by decide) (Nat.le_of_ble_eq_true rfl) rfl (fun G hG hR hF => ?_)
  unfold f_X12_breaks at hE
  refine pm_iloadn hG dX12_breaks_0 rfl ?_
  refine pm_iconst (v := 0) hG dX12_breaks_1 (by decide) ?_
  refine pm_aloadn hG dX12_breaks_2 rfl ?_
  refine pm_getf hG dX12_breaks_3 (flX12_7 _ rfl) rfl rfl ?_
  refine pm_bipush (v := 7) hG dX12_breaks_6 (by decide) ?_
  refine fx_iald hG dX12_breaks_8 rfl (ix_lit (by decide) rfl) ?_
  refine pm_iconst (v := 1) hG dX12_breaks_9 (by decide) ?_
  refine pm_isub hG dX12_breaks_10 ?_
  refine pm_callS (As := [.int za, .int 0, .int ((S.2 55 7) - 1)]) (rest := []) hG hR dX12_breaks_11 (lkX12_68 _ rfl) okS_X12_in (c_X12_in (d := 2) (by decide) rfl) rfl rfl hdd (Nat.le_refl _) (Nat.le_refl _) (by decide) (fx_ki ?_)
  refine pm_if_ne (tgt := 23) hG dX12_breaks_14 rfl (fun c1 => ?_) (fun c1 => ?_)
  · replace hE := fx_f c1 hE
    refine pm_aloadn hG dX12_breaks_23 rfl ?_
    refine pm_iloadn hG dX12_breaks_24 rfl ?_
    obtain ⟨x3, h2, hE⟩ := fb_some hE
    refine pm_callV (As := [.int za]) (rest := []) hG hR dX12_breaks_25 (lkX12_226 _ rfl) okV_X12_stands rfl rfl (c_X12_stands (d := 2) (by decide) h2) rfl rfl hdd (Nat.le_refl _) (Nat.le_refl _) (by decide) (fx_ki ?_)
    refine pm_if_ne (tgt := 37) hG dX12_breaks_28 rfl (fun c4 => ?_) (fun c4 => ?_)
    · replace hE := fx_f c4 hE
      refine pm_aloadn hG dX12_breaks_37 rfl ?_
      refine pm_getf hG dX12_breaks_38 (flX12_7 _ rfl) rfl rfl ?_
      refine pm_sipush (v := 1806) hG dX12_breaks_41 (by decide) ?_
      refine pm_bipush (v := 6) hG dX12_breaks_44 (by decide) ?_
      refine pm_iloadn hG dX12_breaks_46 rfl ?_
      refine pm_imul hG dX12_breaks_47 ?_
      refine pm_iadd hG dX12_breaks_48 ?_
      refine pm_iconst (v := 4) hG dX12_breaks_49 (by decide) ?_
      refine pm_iadd hG dX12_breaks_50 ?_
      refine pm_iconst (v := 1) hG dX12_breaks_51 (by decide) ?_
      obtain ⟨j5, hj5, hE⟩ := fb_some hE
      refine fx_iast hG dX12_breaks_52 rfl hj5 ?_
      refine ma_55 ?_
      refine fx_letm hE (fun S6 hE => ?_)
      refine pm_iconst (v := 1) hG dX12_breaks_53 (by decide) ?_
      exact pm_iret hG hF dX12_breaks_54 rfl (Nat.le_refl _) (Nat.le_refl _) (fx_rim hE)
    · replace hE := fx_t c4 hE
      refine pm_aloadn hG dX12_breaks_31 rfl ?_
      refine pm_iconst (v := 3) hG dX12_breaks_32 (by decide) ?_
      obtain ⟨r8, h7, hE⟩ := fb_some hE
      refine pm_callV (As := [.int 3]) (rest := []) hG hR dX12_breaks_33 (lkX12_80 _ rfl) okV_X12_finds rfl rfl (c_X12_finds (d := 2) (by decide) h7) rfl rfl hdd (Nat.le_refl _) (Nat.le_refl _) (by decide) (fx_ki ?_)
      exact pm_iret hG hF dX12_breaks_36 rfl (Nat.le_refl _) (Nat.le_refl _) (fx_rim hE)
  · replace hE := fx_t c1 hE
    refine pm_aloadn hG dX12_breaks_17 rfl ?_
    refine pm_iconst (v := 1) hG dX12_breaks_18 (by decide) ?_
    obtain ⟨r10, h9, hE⟩ := fb_some hE
    refine pm_callV (As := [.int 1]) (rest := []) hG hR dX12_breaks_19 (lkX12_80 _ rfl) okV_X12_finds rfl rfl (c_X12_finds (d := 2) (by decide) h9) rfl rfl hdd (Nat.le_refl _) (Nat.le_refl _) (by decide) (fx_ki ?_)
    exact pm_iret hG hF dX12_breaks_22 rfl (Nat.le_refl _) (Nat.le_refl _) (fx_rim hE)

set_option maxRecDepth 100000 in
set_option maxHeartbeats 4000000 in
theorem c_X12_weigh {d : Nat} {B cnt : Nat} {σ : pm_S} {S : FS} {za : Int32} {R : Int32 × FS} (hdd : 5 ≤ d) (hE : f_X12_weigh S za = some R) : pm_met mX12_weigh d 0 0 B [.ref (B + 54), .int za] cnt (mst B S σ) (pm_Qv (fun σ' cnt' => σ' = (mst B R.2 σ) ∧ cnt' = cnt)) := by
  refine pm_enter 5 (by decide) (Nat.le_of_ble_eq_true rfl) rfl (fun G hG hR hF => ?_)
  unfold f_X12_weigh at hE
  refine pm_iconst (v := (-1)) hG dX12_weigh_0 (by decide) ?_
  refine pm_istoreXn (loc' := [some (.ref (B + 54)), some (.int za), some (.int (-1)), none, none, none, none]) hG dX12_weigh_1 (by decide) (pm_c1b rfl) rfl ?_
  refine pm_aloadn hG dX12_weigh_2 rfl ?_
  refine pm_getf hG dX12_weigh_3 (flX12_7 _ rfl) rfl rfl ?_
  refine pm_iconst (v := 2) hG dX12_weigh_6 (by decide) ?_
  refine fx_iald hG dX12_weigh_7 rfl (ix_lit (by decide) rfl) ?_
  refine pm_iconst (v := 1) hG dX12_weigh_8 (by decide) ?_
  refine pm_isub hG dX12_weigh_9 ?_
  refine fx_letv hE (fun x1 hE => ?_)
  refine pm_istoreXn (loc' := [some (.ref (B + 54)), some (.int za), some (.int (-1)), some (.int x1), none, none, none]) hG dX12_weigh_10 (by decide) (pm_c1b rfl) rfl ?_
  have loop11 : ∀ (k11 : FS → Int32 → Int32 → Option (Int32 × FS)), (∀ (S2 : FS) (x2_2 : Int32) (x2_3 : Int32), k11 S2  x2_2 x2_3 = some R → pm_wp mX12_weigh G B 38 [some (.ref (B + 54)), some (.int za), some (.int x2_2), some (.int x2_3), none, none, none] [] 0 0 cnt (mst B S2 σ)) → ∀ (m11 : Nat) (S2 : FS) (x2_2 : Int32) (x2_3 : Int32), l_X12_weigh_11 k11 m11 S2  x2_2 x2_3 = some R → pm_wp mX12_weigh G B 11 [some (.ref (B + 54)), some (.int za), some (.int x2_2), some (.int x2_3), none, none, none] [] 0 0 cnt (mst B S2 σ) := by
    intro k11 hk11 m11
    induction m11 with
    | zero => intro S2  x2_2 x2_3 hE; exact fx_no hE
    | succ m11 ih11 =>
      intro S2  x2_2 x2_3 hE
      rw [l_X12_weigh_11] at hE
      refine pm_iloadn hG dX12_weigh_11 rfl ?_
      refine pm_if_lt (tgt := 38) hG dX12_weigh_12 rfl (fun c3 => ?_) (fun c3 => ?_)
      · replace hE := fx_t c3 hE
        exact hk11 _ _ _ hE
      · replace hE := fx_f c3 hE
        refine pm_aloadn hG dX12_weigh_15 rfl ?_
        refine pm_iloadn hG dX12_weigh_16 rfl ?_
        refine pm_bipush (v := 11) hG dX12_weigh_17 (by decide) ?_
        obtain ⟨x5, h4, hE⟩ := fb_some hE
        refine pm_callV (As := [.int x2_3, .int 11]) (rest := []) hG hR dX12_weigh_19 (lkX12_72 _ rfl) okV_X12_man rfl rfl (c_X12_man (d := 4) (by decide) h4) rfl rfl hdd (Nat.le_refl _) (Nat.le_refl _) (by decide) (fx_ki ?_)
        refine pm_iconst (v := 1) hG dX12_weigh_22 (by decide) ?_
        refine pm_icmp_ne (tgt := 30) hG dX12_weigh_23 rfl (fun c6 => ?_) (fun c6 => ?_)
        · replace hE := fx_f c6 hE
          refine pm_iloadn hG dX12_weigh_30 rfl ?_
          refine pm_istoreXn (loc' := [some (.ref (B + 54)), some (.int za), some (.int x2_2), some (.int x2_3), none, none, none]) hG dX12_weigh_31 (by decide) (pm_c1b rfl) rfl ?_
          refine pm_iincX (v := x2_3 + (-1)) (loc' := [some (.ref (B + 54)), some (.int za), some (.int x2_2), some (.int (x2_3 + (-1))), none, none, none]) hG dX12_weigh_32 rfl (by rfl) (by decide) (pm_c1b rfl) rfl ?_
          refine pm_goto (tgt := 11) hG dX12_weigh_35 rfl ?_
          exact ih11 _ _ _ hE
        · replace hE := fx_t c6 hE
          refine pm_iloadn hG dX12_weigh_26 rfl ?_
          refine pm_goto (tgt := 31) hG dX12_weigh_27 rfl ?_
          refine pm_istoreXn (loc' := [some (.ref (B + 54)), some (.int za), some (.int x2_3), some (.int x2_3), none, none, none]) hG dX12_weigh_31 (by decide) (pm_c1b rfl) rfl ?_
          refine pm_iincX (v := x2_3 + (-1)) (loc' := [some (.ref (B + 54)), some (.int za), some (.int x2_3), some (.int (x2_3 + (-1))), none, none, none]) hG dX12_weigh_32 rfl (by rfl) (by decide) (pm_c1b rfl) rfl ?_
          refine pm_goto (tgt := 11) hG dX12_weigh_35 rfl ?_
          exact ih11 _ _ _ hE
  refine loop11 _ (fun S7 x7_2 x7_3 hE => ?_) _ _ _ _ hE
  have join64 : ∀ (S8 : FS) (v8_3 : Int32), j_X12_weigh_64 za S8 v8_3 = some R → pm_wp mX12_weigh G B 64 [some (.ref (B + 54)), some (.int za), some (.int x7_2), some (.int v8_3), none, none, none] [] 0 0 cnt (mst B S8 σ) := by
    intro S8 v8_3 hE
    unfold j_X12_weigh_64 at hE
    refine pm_iconst (v := 0) hG dX12_weigh_64 (by decide) ?_
    refine pm_istoreXi (loc' := [some (.ref (B + 54)), some (.int za), some (.int x7_2), some (.int v8_3), some (.int 0), none, none]) hG dX12_weigh_65 (by decide) (pm_c1b rfl) rfl ?_
    have loop67 : ∀ (k67 : FS → Int32 → Option (Int32 × FS)), (∀ (S9 : FS) (x9_4 : Int32), k67 S9  x9_4 = some R → pm_wp mX12_weigh G B 193 [some (.ref (B + 54)), some (.int za), some (.int x7_2), some (.int v8_3), some (.int x9_4), none, none] [] 0 0 cnt (mst B S9 σ)) → ∀ (m67 : Nat) (S9 : FS) (x9_4 : Int32), l_X12_weigh_67 v8_3 k67 m67 S9  x9_4 = some R → pm_wp mX12_weigh G B 67 [some (.ref (B + 54)), some (.int za), some (.int x7_2), some (.int v8_3), some (.int x9_4), none, none] [] 0 0 cnt (mst B S9 σ) := by
      intro k67 hk67 m67
      induction m67 with
      | zero => intro S9  x9_4 hE; exact fx_no hE
      | succ m67 ih67 =>
        intro S9  x9_4 hE
        rw [l_X12_weigh_67] at hE
        refine pm_iloadi hG dX12_weigh_67 rfl ?_
        refine pm_aloadn hG dX12_weigh_69 rfl ?_
        refine pm_getf hG dX12_weigh_70 (flX12_7 _ rfl) rfl rfl ?_
        refine pm_iconst (v := 2) hG dX12_weigh_73 (by decide) ?_
        refine fx_iald hG dX12_weigh_74 rfl (ix_lit (by decide) rfl) ?_
        refine pm_icmp_ge (tgt := 193) hG dX12_weigh_75 rfl (fun c10 => ?_) (fun c10 => ?_)
        · replace c10 := Int32.not_lt.mpr c10
          replace hE := fx_f c10 hE
          exact hk67 _ _ hE
        · replace c10 := Int32.not_le.mp c10
          replace hE := fx_t c10 hE
          refine pm_iconst (v := 1) hG dX12_weigh_78 (by decide) ?_
          refine pm_istoreXi (loc' := [some (.ref (B + 54)), some (.int za), some (.int x7_2), some (.int v8_3), some (.int x9_4), some (.int 1), none]) hG dX12_weigh_79 (by decide) (pm_c1b rfl) rfl ?_
          refine pm_iconst (v := 0) hG dX12_weigh_81 (by decide) ?_
          refine pm_istoreXi (loc' := [some (.ref (B + 54)), some (.int za), some (.int x7_2), some (.int v8_3), some (.int x9_4), some (.int 1), some (.int 0)]) hG dX12_weigh_82 (by decide) (pm_c1b rfl) rfl ?_
          have loop84 : ∀ (k84 : FS → Int32 → Int32 → Option (Int32 × FS)), (∀ (S11 : FS) (x11_5 : Int32) (x11_6 : Int32), k84 S11  x11_5 x11_6 = some R → pm_wp mX12_weigh G B 137 [some (.ref (B + 54)), some (.int za), some (.int x7_2), some (.int v8_3), some (.int x9_4), some (.int x11_5), some (.int x11_6)] [] 0 0 cnt (mst B S11 σ)) → ∀ (m84 : Nat) (S11 : FS) (x11_5 : Int32) (x11_6 : Int32), l_X12_weigh_84 x9_4 k84 m84 S11  x11_5 x11_6 = some R → pm_wp mX12_weigh G B 84 [some (.ref (B + 54)), some (.int za), some (.int x7_2), some (.int v8_3), some (.int x9_4), some (.int x11_5), some (.int x11_6)] [] 0 0 cnt (mst B S11 σ) := by
            intro k84 hk84 m84
            induction m84 with
            | zero => intro S11  x11_5 x11_6 hE; exact fx_no hE
            | succ m84 ih84 =>
              intro S11  x11_5 x11_6 hE
              rw [l_X12_weigh_84] at hE
              refine pm_iloadi hG dX12_weigh_84 rfl ?_
              refine pm_aloadn hG dX12_weigh_86 rfl ?_
              refine pm_getf hG dX12_weigh_87 (flX12_7 _ rfl) rfl rfl ?_
              refine pm_iconst (v := 3) hG dX12_weigh_90 (by decide) ?_
              refine fx_iald hG dX12_weigh_91 rfl (ix_lit (by decide) rfl) ?_
              refine pm_icmp_ge (tgt := 137) hG dX12_weigh_92 rfl (fun c12 => ?_) (fun c12 => ?_)
              · replace c12 := Int32.not_lt.mpr c12
                replace hE := fx_f c12 hE
                exact hk84 _ _ _ hE
              · replace c12 := Int32.not_le.mp c12
                replace hE := fx_t c12 hE
                refine pm_iloadi hG dX12_weigh_95 rfl ?_
                refine pm_aloadn hG dX12_weigh_97 rfl ?_
                refine pm_iloadi hG dX12_weigh_98 rfl ?_
                refine pm_iconst (v := 1) hG dX12_weigh_100 (by decide) ?_
                obtain ⟨x14, h13, hE⟩ := fb_some hE
                refine pm_callV (As := [.int x11_6, .int 1]) (rest := [.int x11_5]) hG hR dX12_weigh_101 (lkX12_110 _ rfl) okV_X12_its rfl rfl (c_X12_its (d := 4) (by decide) h13) rfl rfl hdd (Nat.le_refl _) (Nat.le_refl _) (by first | decide | exact Nat.le_of_ble_eq_true rfl) (fx_ki ?_)
                refine pm_iloadi hG dX12_weigh_104 rfl ?_
                refine pm_icmp_ne (tgt := 127) hG dX12_weigh_106 rfl (fun c15 => ?_) (fun c15 => ?_)
                · replace hE := fx_f c15 hE
                  refine pm_iconst (v := 0) hG dX12_weigh_127 (by decide) ?_
                  refine pm_iadd hG dX12_weigh_128 ?_
                  refine fx_letv hE (fun x16 hE => ?_)
                  refine pm_istoreXi (loc' := [some (.ref (B + 54)), some (.int za), some (.int x7_2), some (.int v8_3), some (.int x9_4), some (.int x16), some (.int x11_6)]) hG dX12_weigh_129 (by decide) (pm_c1b rfl) rfl ?_
                  refine pm_iincX (v := x11_6 + 1) (loc' := [some (.ref (B + 54)), some (.int za), some (.int x7_2), some (.int v8_3), some (.int x9_4), some (.int x16), some (.int (x11_6 + 1))]) hG dX12_weigh_131 rfl (by rfl) (by decide) (pm_c1b rfl) rfl ?_
                  refine pm_goto (tgt := 84) hG dX12_weigh_134 rfl ?_
                  exact ih84 _ _ _ hE
                · replace hE := fx_t c15 hE
                  refine pm_aloadn hG dX12_weigh_109 rfl ?_
                  refine pm_iloadi hG dX12_weigh_110 rfl ?_
                  refine pm_iconst (v := 0) hG dX12_weigh_112 (by decide) ?_
                  obtain ⟨x18, h17, hE⟩ := fb_some hE
                  refine pm_callV (As := [.int x11_6, .int 0]) (rest := [.int x11_5]) hG hR dX12_weigh_113 (lkX12_110 _ rfl) okV_X12_its rfl rfl (c_X12_its (d := 4) (by decide) h17) rfl rfl hdd (Nat.le_refl _) (Nat.le_refl _) (by first | decide | exact Nat.le_of_ble_eq_true rfl) (fx_ki ?_)
                  refine pm_iconst (v := 1) hG dX12_weigh_116 (by decide) ?_
                  refine pm_callS (As := [.int x18, .int 1]) (rest := [.int x11_5]) hG hR dX12_weigh_117 (lkX12_135 _ rfl) okS_X12_isUnder (c_X12_isUnder (d := 4) (by decide) rfl) rfl rfl hdd (Nat.le_refl _) (Nat.le_refl _) (by first | decide | exact Nat.le_of_ble_eq_true rfl) (fx_ki ?_)
                  refine pm_if_eq (tgt := 127) hG dX12_weigh_120 rfl (fun c19 => ?_) (fun c19 => ?_)
                  · replace hE := fx_t c19 hE
                    refine pm_iconst (v := 0) hG dX12_weigh_127 (by decide) ?_
                    refine pm_iadd hG dX12_weigh_128 ?_
                    refine fx_letv hE (fun x20 hE => ?_)
                    refine pm_istoreXi (loc' := [some (.ref (B + 54)), some (.int za), some (.int x7_2), some (.int v8_3), some (.int x9_4), some (.int x20), some (.int x11_6)]) hG dX12_weigh_129 (by decide) (pm_c1b rfl) rfl ?_
                    refine pm_iincX (v := x11_6 + 1) (loc' := [some (.ref (B + 54)), some (.int za), some (.int x7_2), some (.int v8_3), some (.int x9_4), some (.int x20), some (.int (x11_6 + 1))]) hG dX12_weigh_131 rfl (by rfl) (by decide) (pm_c1b rfl) rfl ?_
                    refine pm_goto (tgt := 84) hG dX12_weigh_134 rfl ?_
                    exact ih84 _ _ _ hE
                  · replace hE := fx_f c19 hE
                    refine pm_iconst (v := 1) hG dX12_weigh_123 (by decide) ?_
                    refine pm_goto (tgt := 128) hG dX12_weigh_124 rfl ?_
                    refine pm_iadd hG dX12_weigh_128 ?_
                    refine fx_letv hE (fun x21 hE => ?_)
                    refine pm_istoreXi (loc' := [some (.ref (B + 54)), some (.int za), some (.int x7_2), some (.int v8_3), some (.int x9_4), some (.int x21), some (.int x11_6)]) hG dX12_weigh_129 (by decide) (pm_c1b rfl) rfl ?_
                    refine pm_iincX (v := x11_6 + 1) (loc' := [some (.ref (B + 54)), some (.int za), some (.int x7_2), some (.int v8_3), some (.int x9_4), some (.int x21), some (.int (x11_6 + 1))]) hG dX12_weigh_131 rfl (by rfl) (by decide) (pm_c1b rfl) rfl ?_
                    refine pm_goto (tgt := 84) hG dX12_weigh_134 rfl ?_
                    exact ih84 _ _ _ hE
          refine loop84 _ (fun S22 x22_5 x22_6 hE => ?_) _ _ _ _ hE
          refine pm_aloadn hG dX12_weigh_137 rfl ?_
          refine pm_getf hG dX12_weigh_138 (flX12_37 _ rfl) rfl rfl ?_
          refine pm_iloadi hG dX12_weigh_141 rfl ?_
          refine pm_aloadn hG dX12_weigh_143 rfl ?_
          refine pm_iloadi hG dX12_weigh_144 rfl ?_
          refine pm_bipush (v := 11) hG dX12_weigh_146 (by decide) ?_
          obtain ⟨x24, h23, hE⟩ := fb_some hE
          refine pm_callV (As := [.int x9_4, .int 11]) (rest := [.int x9_4, .ref (B + 64)]) hG hR dX12_weigh_148 (lkX12_72 _ rfl) okV_X12_man rfl rfl (c_X12_man (d := 4) (by decide) h23) rfl rfl hdd (Nat.le_refl _) (Nat.le_refl _) (by first | decide | exact Nat.le_of_ble_eq_true rfl) (fx_ki ?_)
          refine pm_if_eq (tgt := 172) hG dX12_weigh_151 rfl (fun c25 => ?_) (fun c25 => ?_)
          · replace hE := fx_t c25 hE
            refine pm_iconst (v := 0) hG dX12_weigh_172 (by decide) ?_
            refine pm_goto (tgt := 178) hG dX12_weigh_173 rfl ?_
            obtain ⟨j26, hj26, hE⟩ := fb_some hE
            refine fx_iast hG dX12_weigh_178 rfl hj26 ?_
            refine ma_64 ?_
            refine fx_letm hE (fun S27 hE => ?_)
            refine pm_aloadn hG dX12_weigh_179 rfl ?_
            refine pm_getf hG dX12_weigh_180 (flX12_40 _ rfl) rfl rfl ?_
            refine pm_iloadi hG dX12_weigh_183 rfl ?_
            refine pm_iconst (v := 0) hG dX12_weigh_185 (by decide) ?_
            refine fx_iast hG dX12_weigh_186 rfl hj26 ?_
            refine ma_65 ?_
            refine fx_letm hE (fun S28 hE => ?_)
            refine pm_iincX (v := x9_4 + 1) (loc' := [some (.ref (B + 54)), some (.int za), some (.int x7_2), some (.int v8_3), some (.int (x9_4 + 1)), some (.int x22_5), some (.int x22_6)]) hG dX12_weigh_187 rfl (by rfl) (by decide) (pm_c1b rfl) rfl ?_
            refine pm_goto (tgt := 67) hG dX12_weigh_190 rfl ?_
            refine pm_fg 5 (loc' := [some (.ref (B + 54)), some (.int za), some (.int x7_2), some (.int v8_3), some (.int (x9_4 + 1)), none, some (.int x22_6)]) rfl ?_
            refine pm_fg 6 (loc' := [some (.ref (B + 54)), some (.int za), some (.int x7_2), some (.int v8_3), some (.int (x9_4 + 1)), none, none]) rfl ?_
            exact ih67 _ _ hE
          · replace hE := fx_f c25 hE
            refine pm_aloadn hG dX12_weigh_154 rfl ?_
            refine pm_iloadn hG dX12_weigh_155 rfl ?_
            refine pm_iloadi hG dX12_weigh_156 rfl ?_
            refine pm_iconst (v := (-1)) hG dX12_weigh_158 (by decide) ?_
            refine pm_aloadn hG dX12_weigh_159 rfl ?_
            refine pm_getf hG dX12_weigh_160 (flX12_7 _ rfl) rfl rfl ?_
            refine pm_bipush (v := 8) hG dX12_weigh_163 (by decide) ?_
            refine fx_iald hG dX12_weigh_165 rfl (ix_lit (by decide) rfl) ?_
            obtain ⟨r30, h29, hE⟩ := fb_some hE
            refine pm_callV (As := [.int v8_3, .int x9_4, .int (-1), .int (S22.2 55 8)]) (rest := [.int x9_4, .ref (B + 64)]) hG hR dX12_weigh_166 (lkX12_214 _ rfl) okV_X12_comesTo rfl rfl (c_X12_comesTo (d := 4) (by decide) h29) rfl rfl hdd (Nat.le_refl _) (Nat.le_refl _) (by first | decide | exact Nat.le_of_ble_eq_true rfl) (fx_ki ?_)
            refine pm_if_ne (tgt := 176) hG dX12_weigh_169 rfl (fun c31 => ?_) (fun c31 => ?_)
            · replace hE := fx_f c31 hE
              refine pm_iloadi hG dX12_weigh_176 rfl ?_
              obtain ⟨j32, hj32, hE⟩ := fb_some hE
              refine fx_iast hG dX12_weigh_178 rfl hj32 ?_
              refine ma_64 ?_
              refine fx_letm hE (fun S33 hE => ?_)
              refine pm_aloadn hG dX12_weigh_179 rfl ?_
              refine pm_getf hG dX12_weigh_180 (flX12_40 _ rfl) rfl rfl ?_
              refine pm_iloadi hG dX12_weigh_183 rfl ?_
              refine pm_iconst (v := 0) hG dX12_weigh_185 (by decide) ?_
              refine fx_iast hG dX12_weigh_186 rfl hj32 ?_
              refine ma_65 ?_
              refine fx_letm hE (fun S34 hE => ?_)
              refine pm_iincX (v := x9_4 + 1) (loc' := [some (.ref (B + 54)), some (.int za), some (.int x7_2), some (.int v8_3), some (.int (x9_4 + 1)), some (.int x22_5), some (.int x22_6)]) hG dX12_weigh_187 rfl (by rfl) (by decide) (pm_c1b rfl) rfl ?_
              refine pm_goto (tgt := 67) hG dX12_weigh_190 rfl ?_
              refine pm_fg 5 (loc' := [some (.ref (B + 54)), some (.int za), some (.int x7_2), some (.int v8_3), some (.int (x9_4 + 1)), none, some (.int x22_6)]) rfl ?_
              refine pm_fg 6 (loc' := [some (.ref (B + 54)), some (.int za), some (.int x7_2), some (.int v8_3), some (.int (x9_4 + 1)), none, none]) rfl ?_
              exact ih67 _ _ hE
            · replace hE := fx_t c31 hE
              refine pm_iconst (v := 0) hG dX12_weigh_172 (by decide) ?_
              refine pm_goto (tgt := 178) hG dX12_weigh_173 rfl ?_
              obtain ⟨j35, hj35, hE⟩ := fb_some hE
              refine fx_iast hG dX12_weigh_178 rfl hj35 ?_
              refine ma_64 ?_
              refine fx_letm hE (fun S36 hE => ?_)
              refine pm_aloadn hG dX12_weigh_179 rfl ?_
              refine pm_getf hG dX12_weigh_180 (flX12_40 _ rfl) rfl rfl ?_
              refine pm_iloadi hG dX12_weigh_183 rfl ?_
              refine pm_iconst (v := 0) hG dX12_weigh_185 (by decide) ?_
              refine fx_iast hG dX12_weigh_186 rfl hj35 ?_
              refine ma_65 ?_
              refine fx_letm hE (fun S37 hE => ?_)
              refine pm_iincX (v := x9_4 + 1) (loc' := [some (.ref (B + 54)), some (.int za), some (.int x7_2), some (.int v8_3), some (.int (x9_4 + 1)), some (.int x22_5), some (.int x22_6)]) hG dX12_weigh_187 rfl (by rfl) (by decide) (pm_c1b rfl) rfl ?_
              refine pm_goto (tgt := 67) hG dX12_weigh_190 rfl ?_
              refine pm_fg 5 (loc' := [some (.ref (B + 54)), some (.int za), some (.int x7_2), some (.int v8_3), some (.int (x9_4 + 1)), none, some (.int x22_6)]) rfl ?_
              refine pm_fg 6 (loc' := [some (.ref (B + 54)), some (.int za), some (.int x7_2), some (.int v8_3), some (.int (x9_4 + 1)), none, none]) rfl ?_
              exact ih67 _ _ hE
    refine loop67 _ (fun S38 x38_4 hE => ?_) _ _ _ hE
    refine pm_iconst (v := 0) hG dX12_weigh_193 (by decide) ?_
    refine pm_istoreXi (loc' := [some (.ref (B + 54)), some (.int za), some (.int x7_2), some (.int v8_3), some (.int 0), none, none]) hG dX12_weigh_194 (by decide) (pm_c1b rfl) rfl ?_
    have loop196 : ∀ (k196 : FS → Int32 → Option (Int32 × FS)), (∀ (S39 : FS) (x39_4 : Int32), k196 S39  x39_4 = some R → pm_wp mX12_weigh G B 262 [some (.ref (B + 54)), some (.int za), some (.int x7_2), some (.int v8_3), some (.int x39_4), none, none] [] 0 0 cnt (mst B S39 σ)) → ∀ (m196 : Nat) (S39 : FS) (x39_4 : Int32), l_X12_weigh_196 za k196 m196 S39  x39_4 = some R → pm_wp mX12_weigh G B 196 [some (.ref (B + 54)), some (.int za), some (.int x7_2), some (.int v8_3), some (.int x39_4), none, none] [] 0 0 cnt (mst B S39 σ) := by
      intro k196 hk196 m196
      induction m196 with
      | zero => intro S39  x39_4 hE; exact fx_no hE
      | succ m196 ih196 =>
        intro S39  x39_4 hE
        rw [l_X12_weigh_196] at hE
        refine pm_iloadi hG dX12_weigh_196 rfl ?_
        refine pm_aloadn hG dX12_weigh_198 rfl ?_
        refine pm_getf hG dX12_weigh_199 (flX12_7 _ rfl) rfl rfl ?_
        refine pm_bipush (v := 7) hG dX12_weigh_202 (by decide) ?_
        refine fx_iald hG dX12_weigh_204 rfl (ix_lit (by decide) rfl) ?_
        refine pm_icmp_ge (tgt := 262) hG dX12_weigh_205 rfl (fun c40 => ?_) (fun c40 => ?_)
        · replace c40 := Int32.not_lt.mpr c40
          replace hE := fx_f c40 hE
          exact hk196 _ _ hE
        · replace c40 := Int32.not_le.mp c40
          replace hE := fx_t c40 hE
          refine pm_aloadn hG dX12_weigh_208 rfl ?_
          refine pm_iloadi hG dX12_weigh_209 rfl ?_
          refine pm_iconst (v := 1) hG dX12_weigh_211 (by decide) ?_
          obtain ⟨x42, h41, hE⟩ := fb_some hE
          refine pm_callV (As := [.int x39_4, .int 1]) (rest := []) hG hR dX12_weigh_212 (lkX12_223 _ rfl) okV_X12_promised rfl rfl (c_X12_promised (d := 4) (by decide) h41) rfl rfl hdd (Nat.le_refl _) (Nat.le_refl _) (by decide) (fx_ki ?_)
          refine pm_iloadn hG dX12_weigh_215 rfl ?_
          refine pm_icmp_ne (tgt := 256) hG dX12_weigh_216 rfl (fun c43 => ?_) (fun c43 => ?_)
          · replace hE := fx_f c43 hE
            refine pm_iincX (v := x39_4 + 1) (loc' := [some (.ref (B + 54)), some (.int za), some (.int x7_2), some (.int v8_3), some (.int (x39_4 + 1)), none, none]) hG dX12_weigh_256 rfl (by rfl) (by decide) (pm_c1b rfl) rfl ?_
            refine pm_goto (tgt := 196) hG dX12_weigh_259 rfl ?_
            exact ih196 _ _ hE
          · replace hE := fx_t c43 hE
            refine pm_aloadn hG dX12_weigh_219 rfl ?_
            refine pm_iloadi hG dX12_weigh_220 rfl ?_
            obtain ⟨x45, h44, hE⟩ := fb_some hE
            refine pm_callV (As := [.int x39_4]) (rest := []) hG hR dX12_weigh_222 (lkX12_226 _ rfl) okV_X12_stands rfl rfl (c_X12_stands (d := 4) (by decide) h44) rfl rfl hdd (Nat.le_refl _) (Nat.le_refl _) (by decide) (fx_ki ?_)
            refine pm_if_eq (tgt := 256) hG dX12_weigh_225 rfl (fun c46 => ?_) (fun c46 => ?_)
            · replace hE := fx_t c46 hE
              refine pm_iincX (v := x39_4 + 1) (loc' := [some (.ref (B + 54)), some (.int za), some (.int x7_2), some (.int v8_3), some (.int (x39_4 + 1)), none, none]) hG dX12_weigh_256 rfl (by rfl) (by decide) (pm_c1b rfl) rfl ?_
              refine pm_goto (tgt := 196) hG dX12_weigh_259 rfl ?_
              exact ih196 _ _ hE
            · replace hE := fx_f c46 hE
              refine pm_aloadn hG dX12_weigh_228 rfl ?_
              refine pm_getf hG dX12_weigh_229 (flX12_40 _ rfl) rfl rfl ?_
              refine pm_aloadn hG dX12_weigh_232 rfl ?_
              refine pm_iloadi hG dX12_weigh_233 rfl ?_
              refine pm_iconst (v := 0) hG dX12_weigh_235 (by decide) ?_
              obtain ⟨x48, h47, hE⟩ := fb_some hE
              refine pm_callV (As := [.int x39_4, .int 0]) (rest := [.ref (B + 65)]) hG hR dX12_weigh_236 (lkX12_223 _ rfl) okV_X12_promised rfl rfl (c_X12_promised (d := 4) (by decide) h47) rfl rfl hdd (Nat.le_refl _) (Nat.le_refl _) (by first | decide | exact Nat.le_of_ble_eq_true rfl) (fx_ki ?_)
              refine pm_aloadn hG dX12_weigh_239 rfl ?_
              refine pm_iloadi hG dX12_weigh_240 rfl ?_
              refine pm_iconst (v := 3) hG dX12_weigh_242 (by decide) ?_
              obtain ⟨x50, h49, hE⟩ := fb_some hE
              refine pm_callV (As := [.int x39_4, .int 3]) (rest := [.int x48, .ref (B + 65)]) hG hR dX12_weigh_243 (lkX12_223 _ rfl) okV_X12_promised rfl rfl (c_X12_promised (d := 4) (by decide) h49) rfl rfl hdd (Nat.le_refl _) (Nat.le_refl _) (by first | decide | exact Nat.le_of_ble_eq_true rfl) (fx_ki ?_)
              refine pm_iconst (v := 1) hG dX12_weigh_246 (by decide) ?_
              refine pm_icmp_ne (tgt := 254) hG dX12_weigh_247 rfl (fun c51 => ?_) (fun c51 => ?_)
              · replace hE := fx_f c51 hE
                refine pm_iconst (v := (-1)) hG dX12_weigh_254 (by decide) ?_
                obtain ⟨j52, hj52, hE⟩ := fb_some hE
                refine fx_iast hG dX12_weigh_255 rfl hj52 ?_
                refine ma_65 ?_
                refine fx_letm hE (fun S53 hE => ?_)
                refine pm_iincX (v := x39_4 + 1) (loc' := [some (.ref (B + 54)), some (.int za), some (.int x7_2), some (.int v8_3), some (.int (x39_4 + 1)), none, none]) hG dX12_weigh_256 rfl (by rfl) (by decide) (pm_c1b rfl) rfl ?_
                refine pm_goto (tgt := 196) hG dX12_weigh_259 rfl ?_
                exact ih196 _ _ hE
              · replace hE := fx_t c51 hE
                refine pm_iconst (v := 1) hG dX12_weigh_250 (by decide) ?_
                refine pm_goto (tgt := 255) hG dX12_weigh_251 rfl ?_
                obtain ⟨j54, hj54, hE⟩ := fb_some hE
                refine fx_iast hG dX12_weigh_255 rfl hj54 ?_
                refine ma_65 ?_
                refine fx_letm hE (fun S55 hE => ?_)
                refine pm_iincX (v := x39_4 + 1) (loc' := [some (.ref (B + 54)), some (.int za), some (.int x7_2), some (.int v8_3), some (.int (x39_4 + 1)), none, none]) hG dX12_weigh_256 rfl (by rfl) (by decide) (pm_c1b rfl) rfl ?_
                refine pm_goto (tgt := 196) hG dX12_weigh_259 rfl ?_
                exact ih196 _ _ hE
    refine loop196 _ (fun S56 x56_4 hE => ?_) _ _ _ hE
    exact pm_vret hG hF dX12_weigh_262 rfl (Nat.le_refl _) (Nat.le_refl _) (fx_rvm hE)
  refine pm_iloadn hG dX12_weigh_38 rfl ?_
  refine pm_if_ge (tgt := 46) hG dX12_weigh_39 rfl (fun c57 => ?_) (fun c57 => ?_)
  · replace c57 := Int32.not_lt.mpr c57
    replace hE := fx_f c57 hE
    refine pm_aloadn hG dX12_weigh_46 rfl ?_
    refine pm_iconst (v := 0) hG dX12_weigh_47 (by decide) ?_
    refine pm_aloadn hG dX12_weigh_48 rfl ?_
    refine pm_getf hG dX12_weigh_49 (flX12_7 _ rfl) rfl rfl ?_
    refine pm_bipush (v := 8) hG dX12_weigh_52 (by decide) ?_
    refine fx_iald hG dX12_weigh_54 rfl (ix_lit (by decide) rfl) ?_
    refine pm_aloadn hG dX12_weigh_55 rfl ?_
    refine pm_iloadn hG dX12_weigh_56 rfl ?_
    obtain ⟨r59, h58, hE⟩ := fb_some hE
    refine pm_callV (As := [.int x7_2]) (rest := [.int (S7.2 55 8), .int 0, .ref (B + 54)]) hG hR dX12_weigh_57 (lkX12_104 _ rfl) okV_X12_knownTo rfl rfl (c_X12_knownTo (d := 4) (by decide) h58) rfl rfl hdd (Nat.le_refl _) (Nat.le_refl _) (by first | decide | exact Nat.le_of_ble_eq_true rfl) (fx_ki ?_)
    obtain ⟨x61, h60, hE⟩ := fb_some hE
    refine pm_callV (As := [.int 0, .int (S7.2 55 8), .int r59.1]) (rest := []) hG hR dX12_weigh_60 (lkX12_195 _ rfl) okV_X12_inForce rfl rfl (c_X12_inForce (d := 4) (by decide) h60) rfl rfl hdd (Nat.le_refl _) (Nat.le_refl _) (by decide) (fx_ki ?_)
    refine pm_istoreXn (loc' := [some (.ref (B + 54)), some (.int za), some (.int x7_2), some (.int x61), none, none, none]) hG dX12_weigh_63 (by decide) (pm_c1b rfl) rfl ?_
    exact join64 _ _ hE
  · replace c57 := Int32.not_le.mp c57
    replace hE := fx_t c57 hE
    refine pm_iconst (v := (-1)) hG dX12_weigh_42 (by decide) ?_
    refine pm_goto (tgt := 63) hG dX12_weigh_43 rfl ?_
    refine pm_istoreXn (loc' := [some (.ref (B + 54)), some (.int za), some (.int x7_2), some (.int (-1)), none, none, none]) hG dX12_weigh_63 (by decide) (pm_c1b rfl) rfl ?_
    exact join64 _ _ hE
