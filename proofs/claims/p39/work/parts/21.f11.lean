set_option maxRecDepth 100000 in
set_option maxHeartbeats 4000000 in
theorem c_X12_person {d : Nat} {B cnt : Nat} {σ : pm_S} {S : FS} {za : Int32} {zb : Int32} {zc : Int32} {zd : Int32} {R : Int32 × FS} (hdd : 4 ≤ d) (hE : f_X12_person S za zb zc zd = some R) : pm_met mX12_person d 0 0 B [.ref (B + 54), .int za, .int zb, .int zc, .int zd] cnt (mst B S σ) (pm_Qi (fun v σ' cnt' => v = R.1 ∧ σ' = (mst B R.2 σ) ∧ cnt' = cnt)) := by
  refine pm_enter 3 (by decide) (Nat.le_of_ble_eq_true rfl) rfl (fun G hG hR hF => ?_)
  unfold f_X12_person at hE
  refine pm_iloadn hG dX12_person_0 rfl ?_
  refine pm_iconst (v := 0) hG dX12_person_1 (by decide) ?_
  refine pm_iconst (v := 1) hG dX12_person_2 (by decide) ?_
  refine pm_callS (As := [.int za, .int 0, .int 1]) (rest := []) hG hR dX12_person_3 (lkX12_68 _ rfl) okS_X12_in (c_X12_in (d := 3) (by decide) rfl) rfl rfl hdd (Nat.le_refl _) (Nat.le_refl _) (by decide) (fx_ki ?_)
  refine pm_if_eq (tgt := 73) hG dX12_person_6 rfl (fun c1 => ?_) (fun c1 => ?_)
  · replace hE := fx_t c1 hE
    refine pm_iconst (v := 0) hG dX12_person_73 (by decide) ?_
    refine pm_istoreXi (loc' := [some (.ref (B + 54)), some (.int za), some (.int zb), some (.int zc), some (.int zd), some (.int 0), none, none]) hG dX12_person_74 (by decide) (pm_c1b rfl) rfl ?_
    refine pm_iloadi hG dX12_person_76 rfl ?_
    refine pm_if_ne (tgt := 87) hG dX12_person_78 rfl (fun q => absurd q (by decide)) (fun _ => ?_)
    refine pm_aloadn hG dX12_person_81 rfl ?_
    refine pm_iconst (v := 1) hG dX12_person_82 (by decide) ?_
    obtain ⟨r3, h2, hE⟩ := fb_some hE
    refine pm_callV (As := [.int 1]) (rest := []) hG hR dX12_person_83 (lkX12_80 _ rfl) okV_X12_finds rfl rfl (c_X12_finds (d := 3) (by decide) h2) rfl rfl hdd (Nat.le_refl _) (Nat.le_refl _) (by decide) (fx_ki ?_)
    exact pm_iret hG hF dX12_person_86 rfl (Nat.le_refl _) (Nat.le_refl _) (fx_rim hE)
  · replace hE := fx_f c1 hE
    refine pm_iloadn hG dX12_person_9 rfl ?_
    refine pm_sipush (v := (-20000)) hG dX12_person_10 (by decide) ?_
    refine pm_aloadn hG dX12_person_13 rfl ?_
    refine pm_getf hG dX12_person_14 (flX12_7 _ rfl) rfl rfl ?_
    refine pm_bipush (v := 8) hG dX12_person_17 (by decide) ?_
    refine fx_iald hG dX12_person_19 rfl (ix_lit (by decide) rfl) ?_
    refine pm_callS (As := [.int zb, .int (-20000), .int (S.2 55 8)]) (rest := []) hG hR dX12_person_20 (lkX12_68 _ rfl) okS_X12_in (c_X12_in (d := 3) (by decide) rfl) rfl rfl hdd (Nat.le_refl _) (Nat.le_refl _) (by decide) (fx_ki ?_)
    refine pm_if_eq (tgt := 73) hG dX12_person_23 rfl (fun c4 => ?_) (fun c4 => ?_)
    · replace hE := fx_t c4 hE
      refine pm_iconst (v := 0) hG dX12_person_73 (by decide) ?_
      refine pm_istoreXi (loc' := [some (.ref (B + 54)), some (.int za), some (.int zb), some (.int zc), some (.int zd), some (.int 0), none, none]) hG dX12_person_74 (by decide) (pm_c1b rfl) rfl ?_
      refine pm_iloadi hG dX12_person_76 rfl ?_
      refine pm_if_ne (tgt := 87) hG dX12_person_78 rfl (fun q => absurd q (by decide)) (fun _ => ?_)
      refine pm_aloadn hG dX12_person_81 rfl ?_
      refine pm_iconst (v := 1) hG dX12_person_82 (by decide) ?_
      obtain ⟨r6, h5, hE⟩ := fb_some hE
      refine pm_callV (As := [.int 1]) (rest := []) hG hR dX12_person_83 (lkX12_80 _ rfl) okV_X12_finds rfl rfl (c_X12_finds (d := 3) (by decide) h5) rfl rfl hdd (Nat.le_refl _) (Nat.le_refl _) (by decide) (fx_ki ?_)
      exact pm_iret hG hF dX12_person_86 rfl (Nat.le_refl _) (Nat.le_refl _) (fx_rim hE)
    · replace hE := fx_f c4 hE
      refine pm_iloadn hG dX12_person_26 rfl ?_
      refine pm_if_lt (tgt := 73) hG dX12_person_27 rfl (fun c7 => ?_) (fun c7 => ?_)
      · replace hE := fx_t c7 hE
        refine pm_iconst (v := 0) hG dX12_person_73 (by decide) ?_
        refine pm_istoreXi (loc' := [some (.ref (B + 54)), some (.int za), some (.int zb), some (.int zc), some (.int zd), some (.int 0), none, none]) hG dX12_person_74 (by decide) (pm_c1b rfl) rfl ?_
        refine pm_iloadi hG dX12_person_76 rfl ?_
        refine pm_if_ne (tgt := 87) hG dX12_person_78 rfl (fun q => absurd q (by decide)) (fun _ => ?_)
        refine pm_aloadn hG dX12_person_81 rfl ?_
        refine pm_iconst (v := 1) hG dX12_person_82 (by decide) ?_
        obtain ⟨r9, h8, hE⟩ := fb_some hE
        refine pm_callV (As := [.int 1]) (rest := []) hG hR dX12_person_83 (lkX12_80 _ rfl) okV_X12_finds rfl rfl (c_X12_finds (d := 3) (by decide) h8) rfl rfl hdd (Nat.le_refl _) (Nat.le_refl _) (by decide) (fx_ki ?_)
        exact pm_iret hG hF dX12_person_86 rfl (Nat.le_refl _) (Nat.le_refl _) (fx_rim hE)
      · replace hE := fx_f c7 hE
        refine pm_aloadn hG dX12_person_30 rfl ?_
        refine pm_iloadn hG dX12_person_31 rfl ?_
        refine pm_bipush (v := 100) hG dX12_person_32 (by decide) ?_
        refine pm_idiv hG dX12_person_34 (by decide) ?_
        refine pm_iconst (v := 1) hG dX12_person_35 (by decide) ?_
        refine pm_isub hG dX12_person_36 ?_
        refine pm_iconst (v := 1) hG dX12_person_37 (by decide) ?_
        refine pm_iloadn hG dX12_person_38 rfl ?_
        obtain ⟨x11, h10, hE⟩ := fb_some hE
        refine pm_callV (As := [.int ((zc / 100) - 1), .int 1, .int zb]) (rest := []) hG hR dX12_person_39 (lkX12_94 _ rfl) okV_X12_isParent rfl rfl (c_X12_isParent (d := 3) (by decide) h10) rfl rfl hdd (Nat.le_refl _) (Nat.le_refl _) (by decide) (fx_ki ?_)
        refine pm_if_eq (tgt := 73) hG dX12_person_42 rfl (fun c12 => ?_) (fun c12 => ?_)
        · replace hE := fx_t c12 hE
          refine pm_iconst (v := 0) hG dX12_person_73 (by decide) ?_
          refine pm_istoreXi (loc' := [some (.ref (B + 54)), some (.int za), some (.int zb), some (.int zc), some (.int zd), some (.int 0), none, none]) hG dX12_person_74 (by decide) (pm_c1b rfl) rfl ?_
          refine pm_iloadi hG dX12_person_76 rfl ?_
          refine pm_if_ne (tgt := 87) hG dX12_person_78 rfl (fun q => absurd q (by decide)) (fun _ => ?_)
          refine pm_aloadn hG dX12_person_81 rfl ?_
          refine pm_iconst (v := 1) hG dX12_person_82 (by decide) ?_
          obtain ⟨r14, h13, hE⟩ := fb_some hE
          refine pm_callV (As := [.int 1]) (rest := []) hG hR dX12_person_83 (lkX12_80 _ rfl) okV_X12_finds rfl rfl (c_X12_finds (d := 3) (by decide) h13) rfl rfl hdd (Nat.le_refl _) (Nat.le_refl _) (by decide) (fx_ki ?_)
          exact pm_iret hG hF dX12_person_86 rfl (Nat.le_refl _) (Nat.le_refl _) (fx_rim hE)
        · replace hE := fx_f c12 hE
          refine pm_aloadn hG dX12_person_45 rfl ?_
          refine pm_iloadn hG dX12_person_46 rfl ?_
          refine pm_bipush (v := 100) hG dX12_person_47 (by decide) ?_
          refine pm_irem hG dX12_person_49 (by decide) ?_
          refine pm_iconst (v := 1) hG dX12_person_50 (by decide) ?_
          refine pm_isub hG dX12_person_51 ?_
          refine pm_iconst (v := 0) hG dX12_person_52 (by decide) ?_
          refine pm_iloadn hG dX12_person_53 rfl ?_
          obtain ⟨x16, h15, hE⟩ := fb_some hE
          refine pm_callV (As := [.int ((zc - zc / 100 * 100) - 1), .int 0, .int zb]) (rest := []) hG hR dX12_person_54 (lkX12_94 _ rfl) okV_X12_isParent rfl rfl (c_X12_isParent (d := 3) (by decide) h15) rfl rfl hdd (Nat.le_refl _) (Nat.le_refl _) (by decide) (fx_ki ?_)
          refine pm_if_eq (tgt := 73) hG dX12_person_57 rfl (fun c17 => ?_) (fun c17 => ?_)
          · replace hE := fx_t c17 hE
            refine pm_iconst (v := 0) hG dX12_person_73 (by decide) ?_
            refine pm_istoreXi (loc' := [some (.ref (B + 54)), some (.int za), some (.int zb), some (.int zc), some (.int zd), some (.int 0), none, none]) hG dX12_person_74 (by decide) (pm_c1b rfl) rfl ?_
            refine pm_iloadi hG dX12_person_76 rfl ?_
            refine pm_if_ne (tgt := 87) hG dX12_person_78 rfl (fun q => absurd q (by decide)) (fun _ => ?_)
            refine pm_aloadn hG dX12_person_81 rfl ?_
            refine pm_iconst (v := 1) hG dX12_person_82 (by decide) ?_
            obtain ⟨r19, h18, hE⟩ := fb_some hE
            refine pm_callV (As := [.int 1]) (rest := []) hG hR dX12_person_83 (lkX12_80 _ rfl) okV_X12_finds rfl rfl (c_X12_finds (d := 3) (by decide) h18) rfl rfl hdd (Nat.le_refl _) (Nat.le_refl _) (by decide) (fx_ki ?_)
            exact pm_iret hG hF dX12_person_86 rfl (Nat.le_refl _) (Nat.le_refl _) (fx_rim hE)
          · replace hE := fx_f c17 hE
            refine pm_aloadn hG dX12_person_60 rfl ?_
            refine pm_iloadi hG dX12_person_61 rfl ?_
            refine pm_callV (As := [.int zd]) (rest := []) hG hR dX12_person_63 (lkX12_84 _ rfl) okV_X12_isTown rfl rfl (c_X12_isTown (d := 3) (by decide) rfl) rfl rfl hdd (Nat.le_refl _) (Nat.le_refl _) (by decide) (fx_ki ?_)
            refine pm_if_eq (tgt := 73) hG dX12_person_66 rfl (fun c20 => ?_) (fun c20 => ?_)
            · replace hE := fx_t c20 hE
              refine pm_iconst (v := 0) hG dX12_person_73 (by decide) ?_
              refine pm_istoreXi (loc' := [some (.ref (B + 54)), some (.int za), some (.int zb), some (.int zc), some (.int zd), some (.int 0), none, none]) hG dX12_person_74 (by decide) (pm_c1b rfl) rfl ?_
              refine pm_iloadi hG dX12_person_76 rfl ?_
              refine pm_if_ne (tgt := 87) hG dX12_person_78 rfl (fun q => absurd q (by decide)) (fun _ => ?_)
              refine pm_aloadn hG dX12_person_81 rfl ?_
              refine pm_iconst (v := 1) hG dX12_person_82 (by decide) ?_
              obtain ⟨r22, h21, hE⟩ := fb_some hE
              refine pm_callV (As := [.int 1]) (rest := []) hG hR dX12_person_83 (lkX12_80 _ rfl) okV_X12_finds rfl rfl (c_X12_finds (d := 3) (by decide) h21) rfl rfl hdd (Nat.le_refl _) (Nat.le_refl _) (by decide) (fx_ki ?_)
              exact pm_iret hG hF dX12_person_86 rfl (Nat.le_refl _) (Nat.le_refl _) (fx_rim hE)
            · replace hE := fx_f c20 hE
              refine pm_iconst (v := 1) hG dX12_person_69 (by decide) ?_
              refine pm_goto (tgt := 74) hG dX12_person_70 rfl ?_
              refine pm_istoreXi (loc' := [some (.ref (B + 54)), some (.int za), some (.int zb), some (.int zc), some (.int zd), some (.int 1), none, none]) hG dX12_person_74 (by decide) (pm_c1b rfl) rfl ?_
              refine pm_iloadi hG dX12_person_76 rfl ?_
              refine pm_if_ne (tgt := 87) hG dX12_person_78 rfl (fun _ => ?_) (fun q => absurd q (by decide))
              refine pm_aloadn hG dX12_person_87 rfl ?_
              refine pm_getf hG dX12_person_88 (flX12_7 _ rfl) rfl rfl ?_
              refine pm_iconst (v := 2) hG dX12_person_91 (by decide) ?_
              refine fx_iald hG dX12_person_92 rfl (ix_lit (by decide) rfl) ?_
              refine fx_letv hE (fun x23 hE => ?_)
              refine pm_istoreXi (loc' := [some (.ref (B + 54)), some (.int za), some (.int zb), some (.int zc), some (.int zd), some (.int 1), some (.int x23), none]) hG dX12_person_93 (by decide) (pm_c1b rfl) rfl ?_
              refine pm_iloadi hG dX12_person_95 rfl ?_
              refine pm_bipush (v := 20) hG dX12_person_97 (by decide) ?_
              refine pm_icmp_ne (tgt := 108) hG dX12_person_99 rfl (fun c24 => ?_) (fun c24 => ?_)
              · replace hE := fx_f c24 hE
                refine pm_aloadn hG dX12_person_108 rfl ?_
                refine pm_getf hG dX12_person_109 (flX12_7 _ rfl) rfl rfl ?_
                refine pm_iconst (v := 2) hG dX12_person_112 (by decide) ?_
                refine pm_dup2 hG dX12_person_113 rfl rfl ?_
                refine fx_iald hG dX12_person_114 rfl (ix_lit (by decide) rfl) ?_
                refine pm_iconst (v := 1) hG dX12_person_115 (by decide) ?_
                refine pm_iadd hG dX12_person_116 ?_
                refine fx_iast hG dX12_person_117 rfl (ix_lit (by decide) rfl) ?_
                refine ma_55 ?_
                refine fx_letm hE (fun S25 hE => ?_)
                refine pm_iconst (v := 0) hG dX12_person_118 (by decide) ?_
                refine pm_istoreXi (loc' := [some (.ref (B + 54)), some (.int za), some (.int zb), some (.int zc), some (.int zd), some (.int 1), some (.int x23), some (.int 0)]) hG dX12_person_119 (by decide) (pm_c1b rfl) rfl ?_
                have loop121 : ∀ (k121 : FS → Int32 → Option (Int32 × FS)), (∀ (S26 : FS) (x26_7 : Int32), k121 S26  x26_7 = some R → pm_wp mX12_person G B 143 [some (.ref (B + 54)), some (.int za), some (.int zb), some (.int zc), some (.int zd), some (.int 1), some (.int x23), some (.int x26_7)] [] 0 0 cnt (mst B S26 σ)) → ∀ (m121 : Nat) (S26 : FS) (x26_7 : Int32), l_X12_person_121 x23 k121 m121 S26  x26_7 = some R → pm_wp mX12_person G B 121 [some (.ref (B + 54)), some (.int za), some (.int zb), some (.int zc), some (.int zd), some (.int 1), some (.int x23), some (.int x26_7)] [] 0 0 cnt (mst B S26 σ) := by
                  intro k121 hk121 m121
                  induction m121 with
                  | zero => intro S26  x26_7 hE; exact fx_no hE
                  | succ m121 ih121 =>
                    intro S26  x26_7 hE
                    rw [l_X12_person_121] at hE
                    refine pm_iloadi hG dX12_person_121 rfl ?_
                    refine pm_bipush (v := 14) hG dX12_person_123 (by decide) ?_
                    refine pm_icmp_ge (tgt := 143) hG dX12_person_125 rfl (fun c27 => ?_) (fun c27 => ?_)
                    · replace c27 := Int32.not_lt.mpr c27
                      replace hE := fx_f c27 hE
                      exact hk121 _ _ hE
                    · replace c27 := Int32.not_le.mp c27
                      replace hE := fx_t c27 hE
                      refine pm_aloadn hG dX12_person_128 rfl ?_
                      refine pm_iloadi hG dX12_person_129 rfl ?_
                      refine pm_iloadi hG dX12_person_131 rfl ?_
                      refine pm_iconst (v := 0) hG dX12_person_133 (by decide) ?_
                      obtain ⟨r29, h28, hE⟩ := fb_some hE
                      refine pm_callV (As := [.int x23, .int x26_7, .int 0]) (rest := []) hG hR dX12_person_134 (lkX12_97 _ rfl) okV_X12_sets rfl rfl (c_X12_sets (d := 3) (by decide) h28) rfl rfl hdd (Nat.le_refl _) (Nat.le_refl _) (by decide) (fx_kv ?_)
                      refine pm_iincX (v := x26_7 + 1) (loc' := [some (.ref (B + 54)), some (.int za), some (.int zb), some (.int zc), some (.int zd), some (.int 1), some (.int x23), some (.int (x26_7 + 1))]) hG dX12_person_137 rfl (by rfl) (by decide) (pm_c1b rfl) rfl ?_
                      refine pm_goto (tgt := 121) hG dX12_person_140 rfl ?_
                      exact ih121 _ _ hE
                refine loop121 _ (fun S30 x30_7 hE => ?_) _ _ _ hE
                refine pm_aloadn hG dX12_person_143 rfl ?_
                refine pm_iloadi hG dX12_person_144 rfl ?_
                refine pm_iconst (v := 0) hG dX12_person_146 (by decide) ?_
                refine pm_iloadn hG dX12_person_147 rfl ?_
                obtain ⟨r32, h31, hE⟩ := fb_some hE
                refine pm_callV (As := [.int x23, .int 0, .int za]) (rest := []) hG hR dX12_person_148 (lkX12_97 _ rfl) okV_X12_sets rfl rfl (c_X12_sets (d := 3) (by decide) h31) rfl rfl hdd (Nat.le_refl _) (Nat.le_refl _) (by decide) (fx_kv ?_)
                refine pm_aloadn hG dX12_person_151 rfl ?_
                refine pm_iloadi hG dX12_person_152 rfl ?_
                refine pm_iconst (v := 1) hG dX12_person_154 (by decide) ?_
                refine pm_iloadn hG dX12_person_155 rfl ?_
                obtain ⟨r34, h33, hE⟩ := fb_some hE
                refine pm_callV (As := [.int x23, .int 1, .int zb]) (rest := []) hG hR dX12_person_156 (lkX12_97 _ rfl) okV_X12_sets rfl rfl (c_X12_sets (d := 3) (by decide) h33) rfl rfl hdd (Nat.le_refl _) (Nat.le_refl _) (by decide) (fx_kv ?_)
                refine pm_aloadn hG dX12_person_159 rfl ?_
                refine pm_iloadi hG dX12_person_160 rfl ?_
                refine pm_iconst (v := 2) hG dX12_person_162 (by decide) ?_
                refine pm_iloadn hG dX12_person_163 rfl ?_
                refine pm_bipush (v := 100) hG dX12_person_164 (by decide) ?_
                refine pm_idiv hG dX12_person_166 (by decide) ?_
                refine pm_iconst (v := 1) hG dX12_person_167 (by decide) ?_
                refine pm_isub hG dX12_person_168 ?_
                obtain ⟨r36, h35, hE⟩ := fb_some hE
                refine pm_callV (As := [.int x23, .int 2, .int ((zc / 100) - 1)]) (rest := []) hG hR dX12_person_169 (lkX12_97 _ rfl) okV_X12_sets rfl rfl (c_X12_sets (d := 3) (by decide) h35) rfl rfl hdd (Nat.le_refl _) (Nat.le_refl _) (by decide) (fx_kv ?_)
                refine pm_aloadn hG dX12_person_172 rfl ?_
                refine pm_iloadi hG dX12_person_173 rfl ?_
                refine pm_iconst (v := 3) hG dX12_person_175 (by decide) ?_
                refine pm_iloadn hG dX12_person_176 rfl ?_
                refine pm_bipush (v := 100) hG dX12_person_177 (by decide) ?_
                refine pm_irem hG dX12_person_179 (by decide) ?_
                refine pm_iconst (v := 1) hG dX12_person_180 (by decide) ?_
                refine pm_isub hG dX12_person_181 ?_
                obtain ⟨r38, h37, hE⟩ := fb_some hE
                refine pm_callV (As := [.int x23, .int 3, .int ((zc - zc / 100 * 100) - 1)]) (rest := []) hG hR dX12_person_182 (lkX12_97 _ rfl) okV_X12_sets rfl rfl (c_X12_sets (d := 3) (by decide) h37) rfl rfl hdd (Nat.le_refl _) (Nat.le_refl _) (by decide) (fx_kv ?_)
                refine pm_aloadn hG dX12_person_185 rfl ?_
                refine pm_iloadi hG dX12_person_186 rfl ?_
                refine pm_iconst (v := 4) hG dX12_person_188 (by decide) ?_
                refine pm_iloadi hG dX12_person_189 rfl ?_
                obtain ⟨r40, h39, hE⟩ := fb_some hE
                refine pm_callV (As := [.int x23, .int 4, .int zd]) (rest := []) hG hR dX12_person_191 (lkX12_97 _ rfl) okV_X12_sets rfl rfl (c_X12_sets (d := 3) (by decide) h39) rfl rfl hdd (Nat.le_refl _) (Nat.le_refl _) (by decide) (fx_kv ?_)
                refine pm_aloadn hG dX12_person_194 rfl ?_
                refine pm_iloadi hG dX12_person_195 rfl ?_
                refine pm_bipush (v := 9) hG dX12_person_197 (by decide) ?_
                refine pm_iconst (v := (-1)) hG dX12_person_199 (by decide) ?_
                obtain ⟨r42, h41, hE⟩ := fb_some hE
                refine pm_callV (As := [.int x23, .int 9, .int (-1)]) (rest := []) hG hR dX12_person_200 (lkX12_97 _ rfl) okV_X12_sets rfl rfl (c_X12_sets (d := 3) (by decide) h41) rfl rfl hdd (Nat.le_refl _) (Nat.le_refl _) (by decide) (fx_kv ?_)
                refine pm_aloadn hG dX12_person_203 rfl ?_
                refine pm_iloadi hG dX12_person_204 rfl ?_
                refine pm_bipush (v := 10) hG dX12_person_206 (by decide) ?_
                refine pm_iconst (v := (-1)) hG dX12_person_208 (by decide) ?_
                obtain ⟨r44, h43, hE⟩ := fb_some hE
                refine pm_callV (As := [.int x23, .int 10, .int (-1)]) (rest := []) hG hR dX12_person_209 (lkX12_97 _ rfl) okV_X12_sets rfl rfl (c_X12_sets (d := 3) (by decide) h43) rfl rfl hdd (Nat.le_refl _) (Nat.le_refl _) (by decide) (fx_kv ?_)
                refine pm_aloadn hG dX12_person_212 rfl ?_
                refine pm_iloadi hG dX12_person_213 rfl ?_
                refine pm_bipush (v := 12) hG dX12_person_215 (by decide) ?_
                refine pm_iconst (v := 1) hG dX12_person_217 (by decide) ?_
                obtain ⟨r46, h45, hE⟩ := fb_some hE
                refine pm_callV (As := [.int x23, .int 12, .int 1]) (rest := []) hG hR dX12_person_218 (lkX12_97 _ rfl) okV_X12_sets rfl rfl (c_X12_sets (d := 3) (by decide) h45) rfl rfl hdd (Nat.le_refl _) (Nat.le_refl _) (by decide) (fx_kv ?_)
                refine pm_iloadi hG dX12_person_221 rfl ?_
                exact pm_iret hG hF dX12_person_223 rfl (Nat.le_refl _) (Nat.le_refl _) (fx_rim hE)
              · replace hE := fx_t c24 hE
                refine pm_aloadn hG dX12_person_102 rfl ?_
                refine pm_iconst (v := 4) hG dX12_person_103 (by decide) ?_
                obtain ⟨r48, h47, hE⟩ := fb_some hE
                refine pm_callV (As := [.int 4]) (rest := []) hG hR dX12_person_104 (lkX12_80 _ rfl) okV_X12_finds rfl rfl (c_X12_finds (d := 3) (by decide) h47) rfl rfl hdd (Nat.le_refl _) (Nat.le_refl _) (by decide) (fx_ki ?_)
                exact pm_iret hG hF dX12_person_107 rfl (Nat.le_refl _) (Nat.le_refl _) (fx_rim hE)

set_option maxRecDepth 100000 in
set_option maxHeartbeats 4000000 in
theorem c_X12_plans_k8 {d : Nat} {B cnt : Nat} {σ : pm_S} {S : FS} {zb : Int32} {zc : Int32} {R : Int32 × FS} (hdd : 1 ≤ d) (hE : f_X12_plans_k8 S zb zc = some R) : pm_met mX12_plans d 0 0 B [.ref (B + 54), .int 8, .int zb, .int zc] cnt (mst B S σ) (pm_Qv (fun σ' cnt' => σ' = (mst B R.2 σ) ∧ cnt' = cnt)) := by
  refine pm_enter 3 (by decide) (Nat.le_of_ble_eq_true rfl) rfl (fun G hG hR hF => ?_)
  unfold f_X12_plans_k8 at hE
  refine pm_iloadn hG dX12_plans_0 rfl ?_
  refine pm_aloadn hG dX12_plans_1 rfl ?_
  refine pm_getf hG dX12_plans_2 (flX12_58 _ rfl) rfl rfl ?_
  refine pm_aloadn hG dX12_plans_5 rfl ?_
  refine pm_getf hG dX12_plans_6 (flX12_270 _ rfl) rfl rfl ?_
  obtain ⟨j1, hj1, hE⟩ := fb_some hE
  refine fx_iald hG dX12_plans_9 rfl hj1 ?_
  refine pm_icmp_ne (tgt := 124) hG dX12_plans_10 rfl (fun c2 => ?_) (fun c2 => ?_)
  · replace hE := fx_f c2 hE
    refine pm_iloadn hG dX12_plans_124 rfl ?_
    refine pm_istoreXi (loc' := [some (.ref (B + 54)), some (.int 8), some (.int zb), some (.int zc), some (.int zc), none, none]) hG dX12_plans_125 (by decide) (pm_c1b rfl) rfl ?_
    refine pm_iconst (v := 0) hG dX12_plans_127 (by decide) ?_
    refine pm_istoreXi (loc' := [some (.ref (B + 54)), some (.int 8), some (.int zb), some (.int zc), some (.int zc), some (.int 0), none]) hG dX12_plans_128 (by decide) (pm_c1b rfl) rfl ?_
    have loop130 : ∀ (k130 : FS → Int32 → Int32 → Option (Int32 × FS)), (∀ (S3 : FS) (x3_4 : Int32) (x3_5 : Int32), k130 S3  x3_4 x3_5 = some R → pm_wp mX12_plans G B 174 [some (.ref (B + 54)), some (.int 8), some (.int zb), some (.int zc), some (.int x3_4), some (.int x3_5), none] [] 0 0 cnt (mst B S3 σ)) → ∀ (m130 : Nat) (S3 : FS) (x3_4 : Int32) (x3_5 : Int32), l_X12_plans_k8_130 zb k130 m130 S3  x3_4 x3_5 = some R → pm_wp mX12_plans G B 130 [some (.ref (B + 54)), some (.int 8), some (.int zb), some (.int zc), some (.int x3_4), some (.int x3_5), none] [] 0 0 cnt (mst B S3 σ) := by
      intro k130 hk130 m130
      induction m130 with
      | zero => intro S3  x3_4 x3_5 hE; exact fx_no hE
      | succ m130 ih130 =>
        intro S3  x3_4 x3_5 hE
        rw [l_X12_plans_k8_130] at hE
        refine pm_iloadi hG dX12_plans_130 rfl ?_
        refine pm_bipush (v := 6) hG dX12_plans_132 (by decide) ?_
        refine pm_icmp_ge (tgt := 174) hG dX12_plans_134 rfl (fun c4 => ?_) (fun c4 => ?_)
        · replace c4 := Int32.not_lt.mpr c4
          replace hE := fx_f c4 hE
          exact hk130 _ _ _ hE
        · replace c4 := Int32.not_le.mp c4
          replace hE := fx_t c4 hE
          refine pm_iloadi hG dX12_plans_137 rfl ?_
          refine pm_iloadn hG dX12_plans_139 rfl ?_
          refine pm_iloadi hG dX12_plans_140 rfl ?_
          refine pm_ishr hG dX12_plans_142 ?_
          refine pm_iconst (v := 1) hG dX12_plans_143 (by decide) ?_
          refine pm_iand hG dX12_plans_144 ?_
          refine pm_iconst (v := 1) hG dX12_plans_145 (by decide) ?_
          refine pm_icmp_ne (tgt := 164) hG dX12_plans_146 rfl (fun c5 => ?_) (fun c5 => ?_)
          · replace hE := fx_f c5 hE
            refine pm_iconst (v := 0) hG dX12_plans_164 (by decide) ?_
            refine pm_iadd hG dX12_plans_165 ?_
            refine fx_letv hE (fun x6 hE => ?_)
            refine pm_istoreXi (loc' := [some (.ref (B + 54)), some (.int 8), some (.int zb), some (.int zc), some (.int x6), some (.int x3_5), none]) hG dX12_plans_166 (by decide) (pm_c1b rfl) rfl ?_
            refine pm_iincX (v := x3_5 + 1) (loc' := [some (.ref (B + 54)), some (.int 8), some (.int zb), some (.int zc), some (.int x6), some (.int (x3_5 + 1)), none]) hG dX12_plans_168 rfl (by rfl) (by decide) (pm_c1b rfl) rfl ?_
            refine pm_goto (tgt := 130) hG dX12_plans_171 rfl ?_
            exact ih130 _ _ _ hE
          · replace hE := fx_t c5 hE
            refine pm_aloadn hG dX12_plans_149 rfl ?_
            refine pm_getf hG dX12_plans_150 (flX12_7 _ rfl) rfl rfl ?_
            refine pm_bipush (v := 20) hG dX12_plans_153 (by decide) ?_
            refine pm_iconst (v := 3) hG dX12_plans_155 (by decide) ?_
            refine pm_iloadi hG dX12_plans_156 rfl ?_
            refine pm_imul hG dX12_plans_158 ?_
            refine pm_iadd hG dX12_plans_159 ?_
            obtain ⟨j7, hj7, hE⟩ := fb_some hE
            refine fx_iald hG dX12_plans_160 rfl hj7 ?_
            refine pm_goto (tgt := 165) hG dX12_plans_161 rfl ?_
            refine pm_iadd hG dX12_plans_165 ?_
            refine fx_letv hE (fun x8 hE => ?_)
            refine pm_istoreXi (loc' := [some (.ref (B + 54)), some (.int 8), some (.int zb), some (.int zc), some (.int x8), some (.int x3_5), none]) hG dX12_plans_166 (by decide) (pm_c1b rfl) rfl ?_
            refine pm_iincX (v := x3_5 + 1) (loc' := [some (.ref (B + 54)), some (.int 8), some (.int zb), some (.int zc), some (.int x8), some (.int (x3_5 + 1)), none]) hG dX12_plans_168 rfl (by rfl) (by decide) (pm_c1b rfl) rfl ?_
            refine pm_goto (tgt := 130) hG dX12_plans_171 rfl ?_
            exact ih130 _ _ _ hE
    refine loop130 _ (fun S9 x9_4 x9_5 hE => ?_) _ _ _ _ hE
    refine pm_iconst (v := (-1)) hG dX12_plans_174 (by decide) ?_
    refine pm_istoreXi (loc' := [some (.ref (B + 54)), some (.int 8), some (.int zb), some (.int zc), some (.int x9_4), some (.int (-1)), none]) hG dX12_plans_175 (by decide) (pm_c1b rfl) rfl ?_
    have loop177 : ∀ (k177 : FS → Int32 → Option (Int32 × FS)), (∀ (S10 : FS) (x10_5 : Int32), k177 S10  x10_5 = some R → pm_wp mX12_plans G B 292 [some (.ref (B + 54)), some (.int 8), some (.int zb), some (.int zc), some (.int x9_4), some (.int x10_5), none] [] 0 0 cnt (mst B S10 σ)) → ∀ (m177 : Nat) (S10 : FS) (x10_5 : Int32), l_X12_plans_k8_177 zb x9_4 k177 m177 S10  x10_5 = some R → pm_wp mX12_plans G B 177 [some (.ref (B + 54)), some (.int 8), some (.int zb), some (.int zc), some (.int x9_4), some (.int x10_5), none] [] 0 0 cnt (mst B S10 σ) := by
      intro k177 hk177 m177
      induction m177 with
      | zero => intro S10  x10_5 hE; exact fx_no hE
      | succ m177 ih177 =>
        intro S10  x10_5 hE
        rw [l_X12_plans_k8_177] at hE
        refine pm_iloadi hG dX12_plans_177 rfl ?_
        refine pm_bipush (v := 6) hG dX12_plans_179 (by decide) ?_
        refine pm_icmp_ge (tgt := 292) hG dX12_plans_181 rfl (fun c11 => ?_) (fun c11 => ?_)
        · replace c11 := Int32.not_lt.mpr c11
          replace hE := fx_f c11 hE
          exact hk177 _ _ hE
        · replace c11 := Int32.not_le.mp c11
          replace hE := fx_t c11 hE
          refine pm_iloadi hG dX12_plans_184 rfl ?_
          refine pm_if_lt (tgt := 201) hG dX12_plans_186 rfl (fun c12 => ?_) (fun c12 => ?_)
          · replace hE := fx_t c12 hE
            refine pm_iloadi hG dX12_plans_201 rfl ?_
            refine pm_aloadn hG dX12_plans_203 rfl ?_
            refine pm_getf hG dX12_plans_204 (flX12_61 _ rfl) rfl rfl ?_
            refine pm_bipush (v := 24) hG dX12_plans_207 (by decide) ?_
            refine pm_aloadn hG dX12_plans_209 rfl ?_
            refine pm_getf hG dX12_plans_210 (flX12_270 _ rfl) rfl rfl ?_
            refine pm_imul hG dX12_plans_213 ?_
            refine pm_iloadn hG dX12_plans_214 rfl ?_
            refine pm_iadd hG dX12_plans_215 ?_
            obtain ⟨j13, hj13, hE⟩ := fb_some hE
            refine fx_iald hG dX12_plans_216 rfl hj13 ?_
            refine pm_isub hG dX12_plans_217 ?_
            refine pm_iloadi hG dX12_plans_218 rfl ?_
            refine pm_if_ge (tgt := 227) hG dX12_plans_220 rfl (fun q => absurd c12 (Int32.not_lt.mpr q)) (fun _ => ?_)
            refine pm_iconst (v := 0) hG dX12_plans_223 (by decide) ?_
            refine pm_goto (tgt := 241) hG dX12_plans_224 rfl ?_
            refine pm_iadd hG dX12_plans_241 ?_
            refine fx_letv hE (fun x14 hE => ?_)
            refine pm_istoreXi (loc' := [some (.ref (B + 54)), some (.int 8), some (.int zb), some (.int zc), some (.int x9_4), some (.int x10_5), some (.int x14)]) hG dX12_plans_242 (by decide) (pm_c1b rfl) rfl ?_
            refine pm_iloadi hG dX12_plans_244 rfl ?_
            refine pm_if_ge (tgt := 252) hG dX12_plans_246 rfl (fun c15 => ?_) (fun c15 => ?_)
            · replace c15 := Int32.not_lt.mpr c15
              replace hE := fx_f c15 hE
              refine pm_aloadn hG dX12_plans_252 rfl ?_
              refine pm_getf hG dX12_plans_253 (flX12_46 _ rfl) rfl rfl ?_
              refine pm_iloadn hG dX12_plans_256 rfl ?_
              refine pm_iloadi hG dX12_plans_257 rfl ?_
              exact fx_no hE
            · replace c15 := Int32.not_le.mp c15
              replace hE := fx_t c15 hE
              refine pm_goto (tgt := 286) hG dX12_plans_249 rfl ?_
              refine pm_iincX (v := x10_5 + 1) (loc' := [some (.ref (B + 54)), some (.int 8), some (.int zb), some (.int zc), some (.int x9_4), some (.int (x10_5 + 1)), some (.int x14)]) hG dX12_plans_286 rfl (by rfl) (by decide) (pm_c1b rfl) rfl ?_
              refine pm_goto (tgt := 177) hG dX12_plans_289 rfl ?_
              refine pm_fg 6 (loc' := [some (.ref (B + 54)), some (.int 8), some (.int zb), some (.int zc), some (.int x9_4), some (.int (x10_5 + 1)), none]) rfl ?_
              exact ih177 _ _ hE
          · replace hE := fx_f c12 hE
            refine pm_iloadn hG dX12_plans_189 rfl ?_
            refine pm_iloadi hG dX12_plans_190 rfl ?_
            refine pm_ishr hG dX12_plans_192 ?_
            refine pm_iconst (v := 1) hG dX12_plans_193 (by decide) ?_
            refine pm_iand hG dX12_plans_194 ?_
            refine pm_if_ne (tgt := 201) hG dX12_plans_195 rfl (fun c16 => ?_) (fun c16 => ?_)
            · replace hE := fx_f c16 hE
              refine pm_iloadi hG dX12_plans_201 rfl ?_
              refine pm_aloadn hG dX12_plans_203 rfl ?_
              refine pm_getf hG dX12_plans_204 (flX12_61 _ rfl) rfl rfl ?_
              refine pm_bipush (v := 24) hG dX12_plans_207 (by decide) ?_
              refine pm_aloadn hG dX12_plans_209 rfl ?_
              refine pm_getf hG dX12_plans_210 (flX12_270 _ rfl) rfl rfl ?_
              refine pm_imul hG dX12_plans_213 ?_
              refine pm_iloadn hG dX12_plans_214 rfl ?_
              refine pm_iadd hG dX12_plans_215 ?_
              obtain ⟨j17, hj17, hE⟩ := fb_some hE
              refine fx_iald hG dX12_plans_216 rfl hj17 ?_
              refine pm_isub hG dX12_plans_217 ?_
              refine pm_iloadi hG dX12_plans_218 rfl ?_
              refine pm_if_ge (tgt := 227) hG dX12_plans_220 rfl (fun _ => ?_) (fun q => absurd (Int32.not_le.mp q) c12)
              refine pm_iconst (v := 4) hG dX12_plans_227 (by decide) ?_
              refine pm_aloadn hG dX12_plans_228 rfl ?_
              refine pm_getf hG dX12_plans_229 (flX12_7 _ rfl) rfl rfl ?_
              refine pm_bipush (v := 20) hG dX12_plans_232 (by decide) ?_
              refine pm_iconst (v := 3) hG dX12_plans_234 (by decide) ?_
              refine pm_iloadi hG dX12_plans_235 rfl ?_
              refine pm_imul hG dX12_plans_237 ?_
              refine pm_iadd hG dX12_plans_238 ?_
              obtain ⟨j18, hj18, hE⟩ := fb_some hE
              refine fx_iald hG dX12_plans_239 rfl hj18 ?_
              refine pm_imul hG dX12_plans_240 ?_
              refine pm_iadd hG dX12_plans_241 ?_
              refine fx_letv hE (fun x19 hE => ?_)
              refine pm_istoreXi (loc' := [some (.ref (B + 54)), some (.int 8), some (.int zb), some (.int zc), some (.int x9_4), some (.int x10_5), some (.int x19)]) hG dX12_plans_242 (by decide) (pm_c1b rfl) rfl ?_
              refine pm_iloadi hG dX12_plans_244 rfl ?_
              refine pm_if_ge (tgt := 252) hG dX12_plans_246 rfl (fun c20 => ?_) (fun c20 => ?_)
              · replace c20 := Int32.not_lt.mpr c20
                replace hE := fx_f c20 hE
                refine pm_aloadn hG dX12_plans_252 rfl ?_
                refine pm_getf hG dX12_plans_253 (flX12_46 _ rfl) rfl rfl ?_
                refine pm_iloadn hG dX12_plans_256 rfl ?_
                refine pm_iloadi hG dX12_plans_257 rfl ?_
                exact fx_no hE
              · replace c20 := Int32.not_le.mp c20
                replace hE := fx_t c20 hE
                refine pm_goto (tgt := 286) hG dX12_plans_249 rfl ?_
                refine pm_iincX (v := x10_5 + 1) (loc' := [some (.ref (B + 54)), some (.int 8), some (.int zb), some (.int zc), some (.int x9_4), some (.int (x10_5 + 1)), some (.int x19)]) hG dX12_plans_286 rfl (by rfl) (by decide) (pm_c1b rfl) rfl ?_
                refine pm_goto (tgt := 177) hG dX12_plans_289 rfl ?_
                refine pm_fg 6 (loc' := [some (.ref (B + 54)), some (.int 8), some (.int zb), some (.int zc), some (.int x9_4), some (.int (x10_5 + 1)), none]) rfl ?_
                exact ih177 _ _ hE
            · replace hE := fx_t c16 hE
              refine pm_goto (tgt := 286) hG dX12_plans_198 rfl ?_
              refine pm_iincX (v := x10_5 + 1) (loc' := [some (.ref (B + 54)), some (.int 8), some (.int zb), some (.int zc), some (.int x9_4), some (.int (x10_5 + 1)), none]) hG dX12_plans_286 rfl (by rfl) (by decide) (pm_c1b rfl) rfl ?_
              refine pm_goto (tgt := 177) hG dX12_plans_289 rfl ?_
              exact ih177 _ _ hE
    refine loop177 _ (fun S21 x21_5 hE => ?_) _ _ _ hE
    exact pm_vret hG hF dX12_plans_292 rfl (Nat.le_refl _) (Nat.le_refl _) (fx_rvm hE)
  · replace hE := fx_t c2 hE
    refine pm_iloadn hG dX12_plans_13 rfl ?_
    refine pm_istoreXi (loc' := [some (.ref (B + 54)), some (.int 8), some (.int zb), some (.int zc), some (.int zc), none, none]) hG dX12_plans_14 (by decide) (pm_c1b rfl) rfl ?_
    refine pm_iconst (v := 0) hG dX12_plans_16 (by decide) ?_
    refine pm_istoreXi (loc' := [some (.ref (B + 54)), some (.int 8), some (.int zb), some (.int zc), some (.int zc), some (.int 0), none]) hG dX12_plans_17 (by decide) (pm_c1b rfl) rfl ?_
    have loop19 : ∀ (k19 : FS → Int32 → Int32 → Option (Int32 × FS)), (∀ (S22 : FS) (x22_4 : Int32) (x22_5 : Int32), k19 S22  x22_4 x22_5 = some R → pm_wp mX12_plans G B 66 [some (.ref (B + 54)), some (.int 8), some (.int zb), some (.int zc), some (.int x22_4), some (.int x22_5), none] [] 0 0 cnt (mst B S22 σ)) → ∀ (m19 : Nat) (S22 : FS) (x22_4 : Int32) (x22_5 : Int32), l_X12_plans_k8_19 zb k19 m19 S22  x22_4 x22_5 = some R → pm_wp mX12_plans G B 19 [some (.ref (B + 54)), some (.int 8), some (.int zb), some (.int zc), some (.int x22_4), some (.int x22_5), none] [] 0 0 cnt (mst B S22 σ) := by
      intro k19 hk19 m19
      induction m19 with
      | zero => intro S22  x22_4 x22_5 hE; exact fx_no hE
      | succ m19 ih19 =>
        intro S22  x22_4 x22_5 hE
        rw [l_X12_plans_k8_19] at hE
        refine pm_iloadi hG dX12_plans_19 rfl ?_
        refine pm_bipush (v := 6) hG dX12_plans_21 (by decide) ?_
        refine pm_icmp_ge (tgt := 66) hG dX12_plans_23 rfl (fun c23 => ?_) (fun c23 => ?_)
        · replace c23 := Int32.not_lt.mpr c23
          replace hE := fx_f c23 hE
          exact hk19 _ _ _ hE
        · replace c23 := Int32.not_le.mp c23
          replace hE := fx_t c23 hE
          refine pm_iloadi hG dX12_plans_26 rfl ?_
          refine pm_iloadn hG dX12_plans_28 rfl ?_
          refine pm_iloadi hG dX12_plans_29 rfl ?_
          refine pm_ishr hG dX12_plans_31 ?_
          refine pm_iconst (v := 1) hG dX12_plans_32 (by decide) ?_
          refine pm_iand hG dX12_plans_33 ?_
          refine pm_iconst (v := 1) hG dX12_plans_34 (by decide) ?_
          refine pm_icmp_ne (tgt := 56) hG dX12_plans_35 rfl (fun c24 => ?_) (fun c24 => ?_)
          · replace hE := fx_f c24 hE
            refine pm_iconst (v := 0) hG dX12_plans_56 (by decide) ?_
            refine pm_iadd hG dX12_plans_57 ?_
            refine fx_letv hE (fun x25 hE => ?_)
            refine pm_istoreXi (loc' := [some (.ref (B + 54)), some (.int 8), some (.int zb), some (.int zc), some (.int x25), some (.int x22_5), none]) hG dX12_plans_58 (by decide) (pm_c1b rfl) rfl ?_
            refine pm_iincX (v := x22_5 + 1) (loc' := [some (.ref (B + 54)), some (.int 8), some (.int zb), some (.int zc), some (.int x25), some (.int (x22_5 + 1)), none]) hG dX12_plans_60 rfl (by rfl) (by decide) (pm_c1b rfl) rfl ?_
            refine pm_goto (tgt := 19) hG dX12_plans_63 rfl ?_
            exact ih19 _ _ _ hE
          · replace hE := fx_t c24 hE
            refine pm_bipush (v := 8) hG dX12_plans_38 (by decide) ?_
            refine pm_aloadn hG dX12_plans_40 rfl ?_
            refine pm_getf hG dX12_plans_41 (flX12_7 _ rfl) rfl rfl ?_
            refine pm_bipush (v := 20) hG dX12_plans_44 (by decide) ?_
            refine pm_iconst (v := 3) hG dX12_plans_46 (by decide) ?_
            refine pm_iloadi hG dX12_plans_47 rfl ?_
            refine pm_imul hG dX12_plans_49 ?_
            refine pm_iadd hG dX12_plans_50 ?_
            obtain ⟨j26, hj26, hE⟩ := fb_some hE
            refine fx_iald hG dX12_plans_51 rfl hj26 ?_
            refine pm_imul hG dX12_plans_52 ?_
            refine pm_goto (tgt := 57) hG dX12_plans_53 rfl ?_
            refine pm_iadd hG dX12_plans_57 ?_
            refine fx_letv hE (fun x27 hE => ?_)
            refine pm_istoreXi (loc' := [some (.ref (B + 54)), some (.int 8), some (.int zb), some (.int zc), some (.int x27), some (.int x22_5), none]) hG dX12_plans_58 (by decide) (pm_c1b rfl) rfl ?_
            refine pm_iincX (v := x22_5 + 1) (loc' := [some (.ref (B + 54)), some (.int 8), some (.int zb), some (.int zc), some (.int x27), some (.int (x22_5 + 1)), none]) hG dX12_plans_60 rfl (by rfl) (by decide) (pm_c1b rfl) rfl ?_
            refine pm_goto (tgt := 19) hG dX12_plans_63 rfl ?_
            exact ih19 _ _ _ hE
    refine loop19 _ (fun S28 x28_4 x28_5 hE => ?_) _ _ _ _ hE
    have join83 : ∀ (S29 : FS), j_X12_plans_k8_83 x28_4 S29 = some R → pm_wp mX12_plans G B 83 [some (.ref (B + 54)), some (.int 8), some (.int zb), some (.int zc), some (.int x28_4), some (.int x28_5), none] [] 0 0 cnt (mst B S29 σ) := by
      intro S29 hE
      unfold j_X12_plans_k8_83 at hE
      refine pm_aloadn hG dX12_plans_83 rfl ?_
      refine pm_iconst (v := 1) hG dX12_plans_84 (by decide) ?_
      refine pm_putf hG dX12_plans_85 (fwX12_273 _ rfl) rfl (by decide) (by decide) ?_
      refine mi_20 ?_
      refine fx_letm hE (fun S30 hE => ?_)
      refine pm_aloadn hG dX12_plans_88 rfl ?_
      refine pm_iloadi hG dX12_plans_89 rfl ?_
      refine pm_putf hG dX12_plans_91 (fwX12_277 _ rfl) rfl rfl rfl ?_
      refine mi_19 ?_
      refine fx_letm hE (fun S31 hE => ?_)
      refine pm_iconst (v := 0) hG dX12_plans_94 (by decide) ?_
      refine pm_istoreXi (loc' := [some (.ref (B + 54)), some (.int 8), some (.int zb), some (.int zc), some (.int x28_4), some (.int 0), none]) hG dX12_plans_95 (by decide) (pm_c1b rfl) rfl ?_
      have loop97 : ∀ (k97 : FS → Int32 → Option (Int32 × FS)), (∀ (S32 : FS) (x32_5 : Int32), k97 S32  x32_5 = some R → pm_wp mX12_plans G B 123 [some (.ref (B + 54)), some (.int 8), some (.int zb), some (.int zc), some (.int x28_4), some (.int x32_5), none] [] 0 0 cnt (mst B S32 σ)) → ∀ (m97 : Nat) (S32 : FS) (x32_5 : Int32), l_X12_plans_k8_97 k97 m97 S32  x32_5 = some R → pm_wp mX12_plans G B 97 [some (.ref (B + 54)), some (.int 8), some (.int zb), some (.int zc), some (.int x28_4), some (.int x32_5), none] [] 0 0 cnt (mst B S32 σ) := by
        intro k97 hk97 m97
        induction m97 with
        | zero => intro S32  x32_5 hE; exact fx_no hE
        | succ m97 ih97 =>
          intro S32  x32_5 hE
          rw [l_X12_plans_k8_97] at hE
          refine pm_iloadi hG dX12_plans_97 rfl ?_
          refine pm_iloadn hG dX12_plans_99 rfl ?_
          refine pm_icmp_ge (tgt := 123) hG dX12_plans_100 rfl (fun c33 => ?_) (fun c33 => ?_)
          · replace c33 := Int32.not_lt.mpr c33
            replace hE := fx_f c33 hE
            exact hk97 _ _ hE
          · replace c33 := Int32.not_le.mp c33
            replace hE := fx_t c33 hE
            refine pm_aloadn hG dX12_plans_103 rfl ?_
            refine pm_getf hG dX12_plans_104 (flX12_49 _ rfl) rfl rfl ?_
            refine pm_iloadi hG dX12_plans_107 rfl ?_
            refine pm_aloadn hG dX12_plans_109 rfl ?_
            refine pm_getf hG dX12_plans_110 (flX12_46 _ rfl) rfl rfl ?_
            refine pm_iloadi hG dX12_plans_113 rfl ?_
            obtain ⟨j34, hj34, hE⟩ := fb_some hE
            refine fx_iald hG dX12_plans_115 rfl hj34 ?_
            refine fx_iast hG dX12_plans_116 rfl hj34 ?_
            refine ma_68 ?_
            refine fx_letm hE (fun S35 hE => ?_)
            refine pm_iincX (v := x32_5 + 1) (loc' := [some (.ref (B + 54)), some (.int 8), some (.int zb), some (.int zc), some (.int x28_4), some (.int (x32_5 + 1)), none]) hG dX12_plans_117 rfl (by rfl) (by decide) (pm_c1b rfl) rfl ?_
            refine pm_goto (tgt := 97) hG dX12_plans_120 rfl ?_
            exact ih97 _ _ hE
      refine loop97 _ (fun S36 x36_5 hE => ?_) _ _ _ hE
      exact pm_vret hG hF dX12_plans_123 rfl (Nat.le_refl _) (Nat.le_refl _) (fx_rvm hE)
    refine pm_aloadn hG dX12_plans_66 rfl ?_
    refine pm_getf hG dX12_plans_67 (flX12_273 _ rfl) rfl rfl ?_
    refine pm_if_eq (tgt := 83) hG dX12_plans_70 rfl (fun c37 => ?_) (fun c37 => ?_)
    · replace hE := fx_t c37 hE
      exact join83 _ hE
    · replace hE := fx_f c37 hE
      refine pm_iloadi hG dX12_plans_73 rfl ?_
      refine pm_aloadn hG dX12_plans_75 rfl ?_
      refine pm_getf hG dX12_plans_76 (flX12_277 _ rfl) rfl rfl ?_
      refine pm_icmp_gt (tgt := 83) hG dX12_plans_79 rfl (fun c38 => ?_) (fun c38 => ?_)
      · replace hE := fx_t c38 hE
        exact join83 _ hE
      · replace hE := fx_f c38 hE
        exact pm_vret hG hF dX12_plans_82 rfl (Nat.le_refl _) (Nat.le_refl _) (fx_rvm hE)

set_option maxRecDepth 100000 in
set_option maxHeartbeats 4000000 in
theorem c_X12_plans_k7 {d : Nat} {B cnt : Nat} {σ : pm_S} {S : FS} {zb : Int32} {zc : Int32} {R : Int32 × FS} (hdd : 2 ≤ d) (hE : f_X12_plans_k7 S zb zc = some R) : pm_met mX12_plans d 0 0 B [.ref (B + 54), .int 7, .int zb, .int zc] cnt (mst B S σ) (pm_Qv (fun σ' cnt' => σ' = (mst B R.2 σ) ∧ cnt' = cnt)) := by
  refine pm_enter 3 (by decide) (Nat.le_of_ble_eq_true rfl) rfl (fun G hG hR hF => ?_)
  unfold f_X12_plans_k7 at hE
  refine pm_iloadn hG dX12_plans_0 rfl ?_
  refine pm_aloadn hG dX12_plans_1 rfl ?_
  refine pm_getf hG dX12_plans_2 (flX12_58 _ rfl) rfl rfl ?_
  refine pm_aloadn hG dX12_plans_5 rfl ?_
  refine pm_getf hG dX12_plans_6 (flX12_270 _ rfl) rfl rfl ?_
  obtain ⟨j1, hj1, hE⟩ := fb_some hE
  refine fx_iald hG dX12_plans_9 rfl hj1 ?_
  refine pm_icmp_ne (tgt := 124) hG dX12_plans_10 rfl (fun c2 => ?_) (fun c2 => ?_)
  · replace hE := fx_f c2 hE
    refine pm_iloadn hG dX12_plans_124 rfl ?_
    refine pm_istoreXi (loc' := [some (.ref (B + 54)), some (.int 7), some (.int zb), some (.int zc), some (.int zc), none, none]) hG dX12_plans_125 (by decide) (pm_c1b rfl) rfl ?_
    refine pm_iconst (v := 0) hG dX12_plans_127 (by decide) ?_
    refine pm_istoreXi (loc' := [some (.ref (B + 54)), some (.int 7), some (.int zb), some (.int zc), some (.int zc), some (.int 0), none]) hG dX12_plans_128 (by decide) (pm_c1b rfl) rfl ?_
    have loop130 : ∀ (k130 : FS → Int32 → Int32 → Option (Int32 × FS)), (∀ (S3 : FS) (x3_4 : Int32) (x3_5 : Int32), k130 S3  x3_4 x3_5 = some R → pm_wp mX12_plans G B 174 [some (.ref (B + 54)), some (.int 7), some (.int zb), some (.int zc), some (.int x3_4), some (.int x3_5), none] [] 0 0 cnt (mst B S3 σ)) → ∀ (m130 : Nat) (S3 : FS) (x3_4 : Int32) (x3_5 : Int32), l_X12_plans_k7_130 zb k130 m130 S3  x3_4 x3_5 = some R → pm_wp mX12_plans G B 130 [some (.ref (B + 54)), some (.int 7), some (.int zb), some (.int zc), some (.int x3_4), some (.int x3_5), none] [] 0 0 cnt (mst B S3 σ) := by
      intro k130 hk130 m130
      induction m130 with
      | zero => intro S3  x3_4 x3_5 hE; exact fx_no hE
      | succ m130 ih130 =>
        intro S3  x3_4 x3_5 hE
        rw [l_X12_plans_k7_130] at hE
        refine pm_iloadi hG dX12_plans_130 rfl ?_
        refine pm_bipush (v := 6) hG dX12_plans_132 (by decide) ?_
        refine pm_icmp_ge (tgt := 174) hG dX12_plans_134 rfl (fun c4 => ?_) (fun c4 => ?_)
        · replace c4 := Int32.not_lt.mpr c4
          replace hE := fx_f c4 hE
          exact hk130 _ _ _ hE
        · replace c4 := Int32.not_le.mp c4
          replace hE := fx_t c4 hE
          refine pm_iloadi hG dX12_plans_137 rfl ?_
          refine pm_iloadn hG dX12_plans_139 rfl ?_
          refine pm_iloadi hG dX12_plans_140 rfl ?_
          refine pm_ishr hG dX12_plans_142 ?_
          refine pm_iconst (v := 1) hG dX12_plans_143 (by decide) ?_
          refine pm_iand hG dX12_plans_144 ?_
          refine pm_iconst (v := 1) hG dX12_plans_145 (by decide) ?_
          refine pm_icmp_ne (tgt := 164) hG dX12_plans_146 rfl (fun c5 => ?_) (fun c5 => ?_)
          · replace hE := fx_f c5 hE
            refine pm_iconst (v := 0) hG dX12_plans_164 (by decide) ?_
            refine pm_iadd hG dX12_plans_165 ?_
            refine fx_letv hE (fun x6 hE => ?_)
            refine pm_istoreXi (loc' := [some (.ref (B + 54)), some (.int 7), some (.int zb), some (.int zc), some (.int x6), some (.int x3_5), none]) hG dX12_plans_166 (by decide) (pm_c1b rfl) rfl ?_
            refine pm_iincX (v := x3_5 + 1) (loc' := [some (.ref (B + 54)), some (.int 7), some (.int zb), some (.int zc), some (.int x6), some (.int (x3_5 + 1)), none]) hG dX12_plans_168 rfl (by rfl) (by decide) (pm_c1b rfl) rfl ?_
            refine pm_goto (tgt := 130) hG dX12_plans_171 rfl ?_
            exact ih130 _ _ _ hE
          · replace hE := fx_t c5 hE
            refine pm_aloadn hG dX12_plans_149 rfl ?_
            refine pm_getf hG dX12_plans_150 (flX12_7 _ rfl) rfl rfl ?_
            refine pm_bipush (v := 20) hG dX12_plans_153 (by decide) ?_
            refine pm_iconst (v := 3) hG dX12_plans_155 (by decide) ?_
            refine pm_iloadi hG dX12_plans_156 rfl ?_
            refine pm_imul hG dX12_plans_158 ?_
            refine pm_iadd hG dX12_plans_159 ?_
            obtain ⟨j7, hj7, hE⟩ := fb_some hE
            refine fx_iald hG dX12_plans_160 rfl hj7 ?_
            refine pm_goto (tgt := 165) hG dX12_plans_161 rfl ?_
            refine pm_iadd hG dX12_plans_165 ?_
            refine fx_letv hE (fun x8 hE => ?_)
            refine pm_istoreXi (loc' := [some (.ref (B + 54)), some (.int 7), some (.int zb), some (.int zc), some (.int x8), some (.int x3_5), none]) hG dX12_plans_166 (by decide) (pm_c1b rfl) rfl ?_
            refine pm_iincX (v := x3_5 + 1) (loc' := [some (.ref (B + 54)), some (.int 7), some (.int zb), some (.int zc), some (.int x8), some (.int (x3_5 + 1)), none]) hG dX12_plans_168 rfl (by rfl) (by decide) (pm_c1b rfl) rfl ?_
            refine pm_goto (tgt := 130) hG dX12_plans_171 rfl ?_
            exact ih130 _ _ _ hE
    refine loop130 _ (fun S9 x9_4 x9_5 hE => ?_) _ _ _ _ hE
    refine pm_iconst (v := (-1)) hG dX12_plans_174 (by decide) ?_
    refine pm_istoreXi (loc' := [some (.ref (B + 54)), some (.int 7), some (.int zb), some (.int zc), some (.int x9_4), some (.int (-1)), none]) hG dX12_plans_175 (by decide) (pm_c1b rfl) rfl ?_
    have loop177 : ∀ (k177 : FS → Int32 → Option (Int32 × FS)), (∀ (S10 : FS) (x10_5 : Int32), k177 S10  x10_5 = some R → pm_wp mX12_plans G B 292 [some (.ref (B + 54)), some (.int 7), some (.int zb), some (.int zc), some (.int x9_4), some (.int x10_5), none] [] 0 0 cnt (mst B S10 σ)) → ∀ (m177 : Nat) (S10 : FS) (x10_5 : Int32), l_X12_plans_k7_177 zb x9_4 k177 m177 S10  x10_5 = some R → pm_wp mX12_plans G B 177 [some (.ref (B + 54)), some (.int 7), some (.int zb), some (.int zc), some (.int x9_4), some (.int x10_5), none] [] 0 0 cnt (mst B S10 σ) := by
      intro k177 hk177 m177
      induction m177 with
      | zero => intro S10  x10_5 hE; exact fx_no hE
      | succ m177 ih177 =>
        intro S10  x10_5 hE
        rw [l_X12_plans_k7_177] at hE
        refine pm_iloadi hG dX12_plans_177 rfl ?_
        refine pm_bipush (v := 6) hG dX12_plans_179 (by decide) ?_
        refine pm_icmp_ge (tgt := 292) hG dX12_plans_181 rfl (fun c11 => ?_) (fun c11 => ?_)
        · replace c11 := Int32.not_lt.mpr c11
          replace hE := fx_f c11 hE
          exact hk177 _ _ hE
        · replace c11 := Int32.not_le.mp c11
          replace hE := fx_t c11 hE
          refine pm_iloadi hG dX12_plans_184 rfl ?_
          refine pm_if_lt (tgt := 201) hG dX12_plans_186 rfl (fun c12 => ?_) (fun c12 => ?_)
          · replace hE := fx_t c12 hE
            refine pm_iloadi hG dX12_plans_201 rfl ?_
            refine pm_aloadn hG dX12_plans_203 rfl ?_
            refine pm_getf hG dX12_plans_204 (flX12_61 _ rfl) rfl rfl ?_
            refine pm_bipush (v := 24) hG dX12_plans_207 (by decide) ?_
            refine pm_aloadn hG dX12_plans_209 rfl ?_
            refine pm_getf hG dX12_plans_210 (flX12_270 _ rfl) rfl rfl ?_
            refine pm_imul hG dX12_plans_213 ?_
            refine pm_iloadn hG dX12_plans_214 rfl ?_
            refine pm_iadd hG dX12_plans_215 ?_
            obtain ⟨j13, hj13, hE⟩ := fb_some hE
            refine fx_iald hG dX12_plans_216 rfl hj13 ?_
            refine pm_isub hG dX12_plans_217 ?_
            refine pm_iloadi hG dX12_plans_218 rfl ?_
            refine pm_if_ge (tgt := 227) hG dX12_plans_220 rfl (fun q => absurd c12 (Int32.not_lt.mpr q)) (fun _ => ?_)
            refine pm_iconst (v := 0) hG dX12_plans_223 (by decide) ?_
            refine pm_goto (tgt := 241) hG dX12_plans_224 rfl ?_
            refine pm_iadd hG dX12_plans_241 ?_
            refine fx_letv hE (fun x14 hE => ?_)
            refine pm_istoreXi (loc' := [some (.ref (B + 54)), some (.int 7), some (.int zb), some (.int zc), some (.int x9_4), some (.int x10_5), some (.int x14)]) hG dX12_plans_242 (by decide) (pm_c1b rfl) rfl ?_
            refine pm_iloadi hG dX12_plans_244 rfl ?_
            refine pm_if_ge (tgt := 252) hG dX12_plans_246 rfl (fun c15 => ?_) (fun c15 => ?_)
            · replace c15 := Int32.not_lt.mpr c15
              replace hE := fx_f c15 hE
              refine pm_aloadn hG dX12_plans_252 rfl ?_
              refine pm_getf hG dX12_plans_253 (flX12_46 _ rfl) rfl rfl ?_
              refine pm_iloadn hG dX12_plans_256 rfl ?_
              refine pm_iloadi hG dX12_plans_257 rfl ?_
              refine fx_iast hG dX12_plans_259 rfl (ix_lit (by decide) rfl) ?_
              refine ma_67 ?_
              refine fx_letm hE (fun S16 hE => ?_)
              refine pm_aloadn hG dX12_plans_260 rfl ?_
              refine pm_iloadn hG dX12_plans_261 rfl ?_
              refine pm_iconst (v := 1) hG dX12_plans_262 (by decide) ?_
              refine pm_iadd hG dX12_plans_263 ?_
              refine pm_top (v := 8) (by decide) ?_
              refine pm_iloadi hG dX12_plans_264 rfl ?_
              refine pm_if_ge (tgt := 273) hG dX12_plans_266 rfl (fun q => absurd c12 (Int32.not_lt.mpr q)) (fun _ => ?_)
              refine pm_iloadn hG dX12_plans_269 rfl ?_
              refine pm_goto (tgt := 281) hG dX12_plans_270 rfl ?_
              refine pm_iloadi hG dX12_plans_281 rfl ?_
              obtain ⟨r18, h17, hE⟩ := fb_some hE
              refine pm_callV (As := [.int 8, .int zb, .int x14]) (rest := []) hG hR dX12_plans_283 (lkX12_280 _ rfl) okV_X12_plans rfl rfl (c_X12_plans_k8 (d := 1) (by decide) h17) rfl rfl hdd (Nat.le_refl _) (Nat.le_refl _) (by decide) (fx_kv ?_)
              refine pm_iincX (v := x10_5 + 1) (loc' := [some (.ref (B + 54)), some (.int 7), some (.int zb), some (.int zc), some (.int x9_4), some (.int (x10_5 + 1)), some (.int x14)]) hG dX12_plans_286 rfl (by rfl) (by decide) (pm_c1b rfl) rfl ?_
              refine pm_goto (tgt := 177) hG dX12_plans_289 rfl ?_
              refine pm_fg 6 (loc' := [some (.ref (B + 54)), some (.int 7), some (.int zb), some (.int zc), some (.int x9_4), some (.int (x10_5 + 1)), none]) rfl ?_
              exact ih177 _ _ hE
            · replace c15 := Int32.not_le.mp c15
              replace hE := fx_t c15 hE
              refine pm_goto (tgt := 286) hG dX12_plans_249 rfl ?_
              refine pm_iincX (v := x10_5 + 1) (loc' := [some (.ref (B + 54)), some (.int 7), some (.int zb), some (.int zc), some (.int x9_4), some (.int (x10_5 + 1)), some (.int x14)]) hG dX12_plans_286 rfl (by rfl) (by decide) (pm_c1b rfl) rfl ?_
              refine pm_goto (tgt := 177) hG dX12_plans_289 rfl ?_
              refine pm_fg 6 (loc' := [some (.ref (B + 54)), some (.int 7), some (.int zb), some (.int zc), some (.int x9_4), some (.int (x10_5 + 1)), none]) rfl ?_
              exact ih177 _ _ hE
          · replace hE := fx_f c12 hE
            refine pm_iloadn hG dX12_plans_189 rfl ?_
            refine pm_iloadi hG dX12_plans_190 rfl ?_
            refine pm_ishr hG dX12_plans_192 ?_
            refine pm_iconst (v := 1) hG dX12_plans_193 (by decide) ?_
            refine pm_iand hG dX12_plans_194 ?_
            refine pm_if_ne (tgt := 201) hG dX12_plans_195 rfl (fun c19 => ?_) (fun c19 => ?_)
            · replace hE := fx_f c19 hE
              refine pm_iloadi hG dX12_plans_201 rfl ?_
              refine pm_aloadn hG dX12_plans_203 rfl ?_
              refine pm_getf hG dX12_plans_204 (flX12_61 _ rfl) rfl rfl ?_
              refine pm_bipush (v := 24) hG dX12_plans_207 (by decide) ?_
              refine pm_aloadn hG dX12_plans_209 rfl ?_
              refine pm_getf hG dX12_plans_210 (flX12_270 _ rfl) rfl rfl ?_
              refine pm_imul hG dX12_plans_213 ?_
              refine pm_iloadn hG dX12_plans_214 rfl ?_
              refine pm_iadd hG dX12_plans_215 ?_
              obtain ⟨j20, hj20, hE⟩ := fb_some hE
              refine fx_iald hG dX12_plans_216 rfl hj20 ?_
              refine pm_isub hG dX12_plans_217 ?_
              refine pm_iloadi hG dX12_plans_218 rfl ?_
              refine pm_if_ge (tgt := 227) hG dX12_plans_220 rfl (fun _ => ?_) (fun q => absurd (Int32.not_le.mp q) c12)
              refine pm_iconst (v := 4) hG dX12_plans_227 (by decide) ?_
              refine pm_aloadn hG dX12_plans_228 rfl ?_
              refine pm_getf hG dX12_plans_229 (flX12_7 _ rfl) rfl rfl ?_
              refine pm_bipush (v := 20) hG dX12_plans_232 (by decide) ?_
              refine pm_iconst (v := 3) hG dX12_plans_234 (by decide) ?_
              refine pm_iloadi hG dX12_plans_235 rfl ?_
              refine pm_imul hG dX12_plans_237 ?_
              refine pm_iadd hG dX12_plans_238 ?_
              obtain ⟨j21, hj21, hE⟩ := fb_some hE
              refine fx_iald hG dX12_plans_239 rfl hj21 ?_
              refine pm_imul hG dX12_plans_240 ?_
              refine pm_iadd hG dX12_plans_241 ?_
              refine fx_letv hE (fun x22 hE => ?_)
              refine pm_istoreXi (loc' := [some (.ref (B + 54)), some (.int 7), some (.int zb), some (.int zc), some (.int x9_4), some (.int x10_5), some (.int x22)]) hG dX12_plans_242 (by decide) (pm_c1b rfl) rfl ?_
              refine pm_iloadi hG dX12_plans_244 rfl ?_
              refine pm_if_ge (tgt := 252) hG dX12_plans_246 rfl (fun c23 => ?_) (fun c23 => ?_)
              · replace c23 := Int32.not_lt.mpr c23
                replace hE := fx_f c23 hE
                refine pm_aloadn hG dX12_plans_252 rfl ?_
                refine pm_getf hG dX12_plans_253 (flX12_46 _ rfl) rfl rfl ?_
                refine pm_iloadn hG dX12_plans_256 rfl ?_
                refine pm_iloadi hG dX12_plans_257 rfl ?_
                refine fx_iast hG dX12_plans_259 rfl (ix_lit (by decide) rfl) ?_
                refine ma_67 ?_
                refine fx_letm hE (fun S24 hE => ?_)
                refine pm_aloadn hG dX12_plans_260 rfl ?_
                refine pm_iloadn hG dX12_plans_261 rfl ?_
                refine pm_iconst (v := 1) hG dX12_plans_262 (by decide) ?_
                refine pm_iadd hG dX12_plans_263 ?_
                refine pm_top (v := 8) (by decide) ?_
                refine pm_iloadi hG dX12_plans_264 rfl ?_
                refine pm_if_ge (tgt := 273) hG dX12_plans_266 rfl (fun _ => ?_) (fun q => absurd (Int32.not_le.mp q) c12)
                refine pm_iloadn hG dX12_plans_273 rfl ?_
                refine pm_iconst (v := 1) hG dX12_plans_274 (by decide) ?_
                refine pm_iloadi hG dX12_plans_275 rfl ?_
                refine pm_ishl hG dX12_plans_277 ?_
                refine pm_iconst (v := (-1)) hG dX12_plans_278 (by decide) ?_
                refine pm_ixor hG dX12_plans_279 ?_
                refine pm_iand hG dX12_plans_280 ?_
                refine pm_iloadi hG dX12_plans_281 rfl ?_
                obtain ⟨r26, h25, hE⟩ := fb_some hE
                refine pm_callV (As := [.int 8, .int (zb &&& (((1 : Int32) <<< (x10_5 &&& 31)) ^^^ (-1))), .int x22]) (rest := []) hG hR dX12_plans_283 (lkX12_280 _ rfl) okV_X12_plans rfl rfl (c_X12_plans_k8 (d := 1) (by decide) h25) rfl rfl hdd (Nat.le_refl _) (Nat.le_refl _) (by decide) (fx_kv ?_)
                refine pm_iincX (v := x10_5 + 1) (loc' := [some (.ref (B + 54)), some (.int 7), some (.int zb), some (.int zc), some (.int x9_4), some (.int (x10_5 + 1)), some (.int x22)]) hG dX12_plans_286 rfl (by rfl) (by decide) (pm_c1b rfl) rfl ?_
                refine pm_goto (tgt := 177) hG dX12_plans_289 rfl ?_
                refine pm_fg 6 (loc' := [some (.ref (B + 54)), some (.int 7), some (.int zb), some (.int zc), some (.int x9_4), some (.int (x10_5 + 1)), none]) rfl ?_
                exact ih177 _ _ hE
              · replace c23 := Int32.not_le.mp c23
                replace hE := fx_t c23 hE
                refine pm_goto (tgt := 286) hG dX12_plans_249 rfl ?_
                refine pm_iincX (v := x10_5 + 1) (loc' := [some (.ref (B + 54)), some (.int 7), some (.int zb), some (.int zc), some (.int x9_4), some (.int (x10_5 + 1)), some (.int x22)]) hG dX12_plans_286 rfl (by rfl) (by decide) (pm_c1b rfl) rfl ?_
                refine pm_goto (tgt := 177) hG dX12_plans_289 rfl ?_
                refine pm_fg 6 (loc' := [some (.ref (B + 54)), some (.int 7), some (.int zb), some (.int zc), some (.int x9_4), some (.int (x10_5 + 1)), none]) rfl ?_
                exact ih177 _ _ hE
            · replace hE := fx_t c19 hE
              refine pm_goto (tgt := 286) hG dX12_plans_198 rfl ?_
              refine pm_iincX (v := x10_5 + 1) (loc' := [some (.ref (B + 54)), some (.int 7), some (.int zb), some (.int zc), some (.int x9_4), some (.int (x10_5 + 1)), none]) hG dX12_plans_286 rfl (by rfl) (by decide) (pm_c1b rfl) rfl ?_
              refine pm_goto (tgt := 177) hG dX12_plans_289 rfl ?_
              exact ih177 _ _ hE
    refine loop177 _ (fun S27 x27_5 hE => ?_) _ _ _ hE
    exact pm_vret hG hF dX12_plans_292 rfl (Nat.le_refl _) (Nat.le_refl _) (fx_rvm hE)
  · replace hE := fx_t c2 hE
    refine pm_iloadn hG dX12_plans_13 rfl ?_
    refine pm_istoreXi (loc' := [some (.ref (B + 54)), some (.int 7), some (.int zb), some (.int zc), some (.int zc), none, none]) hG dX12_plans_14 (by decide) (pm_c1b rfl) rfl ?_
    refine pm_iconst (v := 0) hG dX12_plans_16 (by decide) ?_
    refine pm_istoreXi (loc' := [some (.ref (B + 54)), some (.int 7), some (.int zb), some (.int zc), some (.int zc), some (.int 0), none]) hG dX12_plans_17 (by decide) (pm_c1b rfl) rfl ?_
    have loop19 : ∀ (k19 : FS → Int32 → Int32 → Option (Int32 × FS)), (∀ (S28 : FS) (x28_4 : Int32) (x28_5 : Int32), k19 S28  x28_4 x28_5 = some R → pm_wp mX12_plans G B 66 [some (.ref (B + 54)), some (.int 7), some (.int zb), some (.int zc), some (.int x28_4), some (.int x28_5), none] [] 0 0 cnt (mst B S28 σ)) → ∀ (m19 : Nat) (S28 : FS) (x28_4 : Int32) (x28_5 : Int32), l_X12_plans_k7_19 zb k19 m19 S28  x28_4 x28_5 = some R → pm_wp mX12_plans G B 19 [some (.ref (B + 54)), some (.int 7), some (.int zb), some (.int zc), some (.int x28_4), some (.int x28_5), none] [] 0 0 cnt (mst B S28 σ) := by
      intro k19 hk19 m19
      induction m19 with
      | zero => intro S28  x28_4 x28_5 hE; exact fx_no hE
      | succ m19 ih19 =>
        intro S28  x28_4 x28_5 hE
        rw [l_X12_plans_k7_19] at hE
        refine pm_iloadi hG dX12_plans_19 rfl ?_
        refine pm_bipush (v := 6) hG dX12_plans_21 (by decide) ?_
        refine pm_icmp_ge (tgt := 66) hG dX12_plans_23 rfl (fun c29 => ?_) (fun c29 => ?_)
        · replace c29 := Int32.not_lt.mpr c29
          replace hE := fx_f c29 hE
          exact hk19 _ _ _ hE
        · replace c29 := Int32.not_le.mp c29
          replace hE := fx_t c29 hE
          refine pm_iloadi hG dX12_plans_26 rfl ?_
          refine pm_iloadn hG dX12_plans_28 rfl ?_
          refine pm_iloadi hG dX12_plans_29 rfl ?_
          refine pm_ishr hG dX12_plans_31 ?_
          refine pm_iconst (v := 1) hG dX12_plans_32 (by decide) ?_
          refine pm_iand hG dX12_plans_33 ?_
          refine pm_iconst (v := 1) hG dX12_plans_34 (by decide) ?_
          refine pm_icmp_ne (tgt := 56) hG dX12_plans_35 rfl (fun c30 => ?_) (fun c30 => ?_)
          · replace hE := fx_f c30 hE
            refine pm_iconst (v := 0) hG dX12_plans_56 (by decide) ?_
            refine pm_iadd hG dX12_plans_57 ?_
            refine fx_letv hE (fun x31 hE => ?_)
            refine pm_istoreXi (loc' := [some (.ref (B + 54)), some (.int 7), some (.int zb), some (.int zc), some (.int x31), some (.int x28_5), none]) hG dX12_plans_58 (by decide) (pm_c1b rfl) rfl ?_
            refine pm_iincX (v := x28_5 + 1) (loc' := [some (.ref (B + 54)), some (.int 7), some (.int zb), some (.int zc), some (.int x31), some (.int (x28_5 + 1)), none]) hG dX12_plans_60 rfl (by rfl) (by decide) (pm_c1b rfl) rfl ?_
            refine pm_goto (tgt := 19) hG dX12_plans_63 rfl ?_
            exact ih19 _ _ _ hE
          · replace hE := fx_t c30 hE
            refine pm_bipush (v := 8) hG dX12_plans_38 (by decide) ?_
            refine pm_aloadn hG dX12_plans_40 rfl ?_
            refine pm_getf hG dX12_plans_41 (flX12_7 _ rfl) rfl rfl ?_
            refine pm_bipush (v := 20) hG dX12_plans_44 (by decide) ?_
            refine pm_iconst (v := 3) hG dX12_plans_46 (by decide) ?_
            refine pm_iloadi hG dX12_plans_47 rfl ?_
            refine pm_imul hG dX12_plans_49 ?_
            refine pm_iadd hG dX12_plans_50 ?_
            obtain ⟨j32, hj32, hE⟩ := fb_some hE
            refine fx_iald hG dX12_plans_51 rfl hj32 ?_
            refine pm_imul hG dX12_plans_52 ?_
            refine pm_goto (tgt := 57) hG dX12_plans_53 rfl ?_
            refine pm_iadd hG dX12_plans_57 ?_
            refine fx_letv hE (fun x33 hE => ?_)
            refine pm_istoreXi (loc' := [some (.ref (B + 54)), some (.int 7), some (.int zb), some (.int zc), some (.int x33), some (.int x28_5), none]) hG dX12_plans_58 (by decide) (pm_c1b rfl) rfl ?_
            refine pm_iincX (v := x28_5 + 1) (loc' := [some (.ref (B + 54)), some (.int 7), some (.int zb), some (.int zc), some (.int x33), some (.int (x28_5 + 1)), none]) hG dX12_plans_60 rfl (by rfl) (by decide) (pm_c1b rfl) rfl ?_
            refine pm_goto (tgt := 19) hG dX12_plans_63 rfl ?_
            exact ih19 _ _ _ hE
    refine loop19 _ (fun S34 x34_4 x34_5 hE => ?_) _ _ _ _ hE
    have join83 : ∀ (S35 : FS), j_X12_plans_k7_83 x34_4 S35 = some R → pm_wp mX12_plans G B 83 [some (.ref (B + 54)), some (.int 7), some (.int zb), some (.int zc), some (.int x34_4), some (.int x34_5), none] [] 0 0 cnt (mst B S35 σ) := by
      intro S35 hE
      unfold j_X12_plans_k7_83 at hE
      refine pm_aloadn hG dX12_plans_83 rfl ?_
      refine pm_iconst (v := 1) hG dX12_plans_84 (by decide) ?_
      refine pm_putf hG dX12_plans_85 (fwX12_273 _ rfl) rfl (by decide) (by decide) ?_
      refine mi_20 ?_
      refine fx_letm hE (fun S36 hE => ?_)
      refine pm_aloadn hG dX12_plans_88 rfl ?_
      refine pm_iloadi hG dX12_plans_89 rfl ?_
      refine pm_putf hG dX12_plans_91 (fwX12_277 _ rfl) rfl rfl rfl ?_
      refine mi_19 ?_
      refine fx_letm hE (fun S37 hE => ?_)
      refine pm_iconst (v := 0) hG dX12_plans_94 (by decide) ?_
      refine pm_istoreXi (loc' := [some (.ref (B + 54)), some (.int 7), some (.int zb), some (.int zc), some (.int x34_4), some (.int 0), none]) hG dX12_plans_95 (by decide) (pm_c1b rfl) rfl ?_
      have loop97 : ∀ (k97 : FS → Int32 → Option (Int32 × FS)), (∀ (S38 : FS) (x38_5 : Int32), k97 S38  x38_5 = some R → pm_wp mX12_plans G B 123 [some (.ref (B + 54)), some (.int 7), some (.int zb), some (.int zc), some (.int x34_4), some (.int x38_5), none] [] 0 0 cnt (mst B S38 σ)) → ∀ (m97 : Nat) (S38 : FS) (x38_5 : Int32), l_X12_plans_k7_97 k97 m97 S38  x38_5 = some R → pm_wp mX12_plans G B 97 [some (.ref (B + 54)), some (.int 7), some (.int zb), some (.int zc), some (.int x34_4), some (.int x38_5), none] [] 0 0 cnt (mst B S38 σ) := by
        intro k97 hk97 m97
        induction m97 with
        | zero => intro S38  x38_5 hE; exact fx_no hE
        | succ m97 ih97 =>
          intro S38  x38_5 hE
          rw [l_X12_plans_k7_97] at hE
          refine pm_iloadi hG dX12_plans_97 rfl ?_
          refine pm_iloadn hG dX12_plans_99 rfl ?_
          refine pm_icmp_ge (tgt := 123) hG dX12_plans_100 rfl (fun c39 => ?_) (fun c39 => ?_)
          · replace c39 := Int32.not_lt.mpr c39
            replace hE := fx_f c39 hE
            exact hk97 _ _ hE
          · replace c39 := Int32.not_le.mp c39
            replace hE := fx_t c39 hE
            refine pm_aloadn hG dX12_plans_103 rfl ?_
            refine pm_getf hG dX12_plans_104 (flX12_49 _ rfl) rfl rfl ?_
            refine pm_iloadi hG dX12_plans_107 rfl ?_
            refine pm_aloadn hG dX12_plans_109 rfl ?_
            refine pm_getf hG dX12_plans_110 (flX12_46 _ rfl) rfl rfl ?_
            refine pm_iloadi hG dX12_plans_113 rfl ?_
            obtain ⟨j40, hj40, hE⟩ := fb_some hE
            refine fx_iald hG dX12_plans_115 rfl hj40 ?_
            refine fx_iast hG dX12_plans_116 rfl hj40 ?_
            refine ma_68 ?_
            refine fx_letm hE (fun S41 hE => ?_)
            refine pm_iincX (v := x38_5 + 1) (loc' := [some (.ref (B + 54)), some (.int 7), some (.int zb), some (.int zc), some (.int x34_4), some (.int (x38_5 + 1)), none]) hG dX12_plans_117 rfl (by rfl) (by decide) (pm_c1b rfl) rfl ?_
            refine pm_goto (tgt := 97) hG dX12_plans_120 rfl ?_
            exact ih97 _ _ hE
      refine loop97 _ (fun S42 x42_5 hE => ?_) _ _ _ hE
      exact pm_vret hG hF dX12_plans_123 rfl (Nat.le_refl _) (Nat.le_refl _) (fx_rvm hE)
    refine pm_aloadn hG dX12_plans_66 rfl ?_
    refine pm_getf hG dX12_plans_67 (flX12_273 _ rfl) rfl rfl ?_
    refine pm_if_eq (tgt := 83) hG dX12_plans_70 rfl (fun c43 => ?_) (fun c43 => ?_)
    · replace hE := fx_t c43 hE
      exact join83 _ hE
    · replace hE := fx_f c43 hE
      refine pm_iloadi hG dX12_plans_73 rfl ?_
      refine pm_aloadn hG dX12_plans_75 rfl ?_
      refine pm_getf hG dX12_plans_76 (flX12_277 _ rfl) rfl rfl ?_
      refine pm_icmp_gt (tgt := 83) hG dX12_plans_79 rfl (fun c44 => ?_) (fun c44 => ?_)
      · replace hE := fx_t c44 hE
        exact join83 _ hE
      · replace hE := fx_f c44 hE
        exact pm_vret hG hF dX12_plans_82 rfl (Nat.le_refl _) (Nat.le_refl _) (fx_rvm hE)
