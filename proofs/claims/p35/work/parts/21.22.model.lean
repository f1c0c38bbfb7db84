set_option maxRecDepth 100000 in
set_option maxHeartbeats 4000000 in
theorem m_plan {d B cnt p0 t0 : Nat} {σ : pm_S} {I : Nat → Int32} {A : Nat → Nat → Int32} {n k z : Nat → Int32} {ac wt pl im : Int32} {za zb : Int32} (hdd : 10 ≤ d) (hn : KI n) (hz : SZ z) (hp0 : p0 < 4)  : pm_met mX12_plan d 0 0 B [.ref (B + 54), .int za, .int zb] cnt (pm_mid σ (md_L B I A n k z ac wt pl (nI p0) (nI t0) im)) (pm_Qi (fun v σ' cnt' => (∃ (I' : Nat → Int32) (A' : Nat → Nat → Int32) (p0' : Nat), σ' = pm_mid σ (md_L B I' A' n k z ac wt pl (nI p0') (nI t0) im) ∧ p0' < 4) ∧ cnt = cnt')) := by
  refine pm_enter 3 (by decide) (Nat.le_of_ble_eq_true rfl) rfl (fun G hG hR hF => ?_)
  refine pm_iloadn hG dX12_plan_0 rfl ?_
  refine pm_callS (As := [.int za]) (rest := []) hG hR dX12_plan_1 (lkX12_239 _ rfl) okS_X12_isSheet (m_isSheet (d := 9) (by decide)) rfl rfl hdd (Nat.le_refl _) (Nat.le_refl _) (by decide) (pm_ki (fun v1 σ' cnt' hq => ?_))
  obtain ⟨hq, rfl, rfl⟩ := hq
  rcases hq with ⟨rfl, ac2, bc2⟩ | ⟨rfl, c2⟩
  · obtain ⟨k3, hk3, ek3⟩ := in_nat (by omega) (by omega) ac2 bc2
    refine pm_ifN_ne (tgt := 13) hG dX12_plan_4 rfl (by omega) (fun _ => ?_) (fun q => absurd q (by omega))
    refine pm_aloadn hG dX12_plan_13 rfl ?_
    refine pm_getf hG dX12_plan_14 (flX12_55 _ rfl) rfl rfl ?_
    refine pm_iloadn hG dX12_plan_17 rfl ?_
    refine pm_top (v := nI k3) ek3 ?_
    refine pm_ialdN hG dX12_plan_18 rfl (by decide) (by omega) ?_
    refine pm_any (fun x4 => ?_)
    refine pm_if_ne (tgt := 28) hG dX12_plan_19 rfl (fun c5 => ?_) (fun c5 => ?_)
    · refine pm_aloadn hG dX12_plan_28 rfl ?_
      refine pm_getf hG dX12_plan_29 (flX12_58 _ rfl) rfl rfl ?_
      refine pm_iloadn hG dX12_plan_32 rfl ?_
      refine pm_top (v := nI k3) ek3 ?_
      refine pm_ialdN hG dX12_plan_33 rfl (by decide) (by omega) ?_
      obtain ⟨k6, hk6, ek6⟩ := hz k3 (by omega)
      refine pm_top (v := nI k6) ek6 ?_
      refine pm_iconst (v := nI 1) hG dX12_plan_34 (by decide) ?_
      refine pm_bipush (v := nI 8) hG dX12_plan_35 (by decide) ?_
      refine pm_callS (As := [.int (nI k6), .int (nI 1), .int (nI 8)]) (rest := []) hG hR dX12_plan_37 (lkX12_68 _ rfl) okS_X12_in (m_in (d := 9)) rfl rfl hdd (Nat.le_refl _) (Nat.le_refl _) (by decide) (pm_ki (fun v7 σ' cnt' hq => ?_))
      obtain ⟨hq, rfl, rfl⟩ := hq
      rcases hq with ⟨rfl, ac8, bc8⟩ | ⟨rfl, c8⟩
      · have ic8 := (nI_leI (by omega) (by omega)).mp (Int32.not_lt.mp ac8)
        have jc8 := (nI_leI (by omega) (by omega)).mp (Int32.not_lt.mp bc8)
        refine pm_ifN_eq (tgt := 63) hG dX12_plan_40 rfl (by omega) (fun q => absurd q (by omega)) (fun _ => ?_)
        refine pm_iloadn hG dX12_plan_43 rfl ?_
        refine pm_iconst (v := (-1)) hG dX12_plan_44 (by decide) ?_
        refine pm_aloadn hG dX12_plan_45 rfl ?_
        refine pm_getf hG dX12_plan_46 (flX12_58 _ rfl) rfl rfl ?_
        refine pm_iloadn hG dX12_plan_49 rfl ?_
        refine pm_top (v := nI k3) ek3 ?_
        refine pm_ialdN hG dX12_plan_50 rfl (by decide) (by omega) ?_
        refine pm_top (v := nI k6) ek6 ?_
        refine pm_iconst (v := nI 1) hG dX12_plan_51 (by decide) ?_
        obtain ⟨q9, hq9⟩ : ∃ q9 : Nat, k6 = 1 + q9 := ⟨k6 - (1), by omega⟩
        refine pm_isubN (c := q9) hG dX12_plan_52 (by omega) ?_
        refine pm_callS (As := [.int zb, .int (-1), .int (nI q9)]) (rest := []) hG hR dX12_plan_53 (lkX12_68 _ rfl) okS_X12_in (m_in (d := 9)) rfl rfl hdd (Nat.le_refl _) (Nat.le_refl _) (by decide) (pm_ki (fun v10 σ' cnt' hq => ?_))
        obtain ⟨hq, rfl, rfl⟩ := hq
        rcases hq with ⟨rfl, ac11, bc11⟩ | ⟨rfl, c11⟩
        · refine pm_ifN_eq (tgt := 63) hG dX12_plan_56 rfl (by omega) (fun q => absurd q (by omega)) (fun _ => ?_)
          refine pm_iconst (v := nI 1) hG dX12_plan_59 (by decide) ?_
          refine pm_goto (tgt := 64) hG dX12_plan_60 rfl ?_
          refine pm_istoreXn (loc' := [some (.ref (B + 54)), some (.int za), some (.int zb), some (.int (nI 1)), none, none]) hG dX12_plan_64 (by decide) (pm_c1b rfl) rfl ?_
          refine pm_iconst (v := nI 0) hG dX12_plan_65 (by decide) ?_
          refine pm_istoreXi (loc' := [some (.ref (B + 54)), some (.int za), some (.int zb), some (.int (nI 1)), some (.int (nI 0)), none]) hG dX12_plan_66 (by decide) (pm_c1b rfl) rfl ?_
          have loop68_12 : ∀ (m12 : Nat) (I12 : Nat → Int32) (A12 : Nat → Nat → Int32) (x12_3 : Int32) (i12 : Nat), i12 ≤ 24 → 24 - i12 < m12 → pm_wp mX12_plan G B 68 [some (.ref (B + 54)), some (.int za), some (.int zb), some (.int x12_3), some (.int (nI i12)), none] [] 0 0 cnt (pm_mid σ (md_L B I12 A12 n k z ac wt pl (nI p0) (nI t0) im)) := by
            intro m12
            induction m12 with
            | zero => intro I12 A12 x12_3 i12 _ hm; exact absurd hm (Nat.not_lt_zero _)
            | succ m12 ih12 =>
              intro I12 A12 x12_3 i12 hi12 hm12
              refine pm_iloadi hG dX12_plan_68 rfl ?_
              refine pm_aloadn hG dX12_plan_70 rfl ?_
              refine pm_getf hG dX12_plan_71 (flX12_58 _ rfl) rfl rfl ?_
              refine pm_iloadn hG dX12_plan_74 rfl ?_
              refine pm_top (v := nI k3) ek3 ?_
              refine pm_ialdN hG dX12_plan_75 rfl (by decide) (by omega) ?_
              refine pm_top (v := nI k6) ek6 ?_
              refine pm_icmpN_ge (tgt := 117) hG dX12_plan_76 rfl (by omega) (by omega) (fun c13 => ?_) (fun c13 => ?_)
              · refine pm_iloadn hG dX12_plan_117 rfl ?_
                refine pm_if_ne (tgt := 127) hG dX12_plan_118 rfl (fun c14 => ?_) (fun c14 => ?_)
                · refine pm_iconst (v := nI 0) hG dX12_plan_127 (by decide) ?_
                  refine pm_istoreXi (loc' := [some (.ref (B + 54)), some (.int za), some (.int zb), some (.int x12_3), some (.int (nI 0)), none]) hG dX12_plan_128 (by decide) (pm_c1b rfl) rfl ?_
                  refine pm_iconst (v := nI 0) hG dX12_plan_130 (by decide) ?_
                  refine pm_istoreXi (loc' := [some (.ref (B + 54)), some (.int za), some (.int zb), some (.int x12_3), some (.int (nI 0)), some (.int (nI 0))]) hG dX12_plan_131 (by decide) (pm_c1b rfl) rfl ?_
                  have loop133_15 : ∀ (m15 : Nat) (I15 : Nat → Int32) (A15 : Nat → Nat → Int32) (x15_4 : Int32) (i15 : Nat), i15 ≤ 6 → 6 - i15 < m15 → pm_wp mX12_plan G B 133 [some (.ref (B + 54)), some (.int za), some (.int zb), some (.int x12_3), some (.int x15_4), some (.int (nI i15))] [] 0 0 cnt (pm_mid σ (md_L B I15 A15 n k z ac wt pl (nI p0) (nI t0) im)) := by
                    intro m15
                    induction m15 with
                    | zero => intro I15 A15 x15_4 i15 _ hm; exact absurd hm (Nat.not_lt_zero _)
                    | succ m15 ih15 =>
                      intro I15 A15 x15_4 i15 hi15 hm15
                      refine pm_iloadi hG dX12_plan_133 rfl ?_
                      refine pm_bipush (v := nI 6) hG dX12_plan_135 (by decide) ?_
                      refine pm_icmpN_ge (tgt := 205) hG dX12_plan_137 rfl (by omega) (by omega) (fun c16 => ?_) (fun c16 => ?_)
                      · refine pm_aloadn hG dX12_plan_205 rfl ?_
                        refine pm_iloadn hG dX12_plan_206 rfl ?_
                        refine pm_top (v := nI k3) ek3 ?_
                        refine pm_putf hG dX12_plan_207 (fwX12_270 _ rfl) rfl rfl rfl ?_
                        refine mdn_planSheet ?_
                        refine pm_aloadn hG dX12_plan_210 rfl ?_
                        refine pm_iconst (v := nI 0) hG dX12_plan_211 (by decide) ?_
                        refine pm_putf hG dX12_plan_212 (fwX12_273 _ rfl) rfl (by decide) (by decide) ?_
                        refine mdn_hasPlan (fun I_17 => ?_)
                        refine pm_aloadn hG dX12_plan_215 rfl ?_
                        refine pm_iconst (v := nI 0) hG dX12_plan_216 (by decide) ?_
                        refine pm_iloadi hG dX12_plan_217 rfl ?_
                        refine pm_aloadn hG dX12_plan_219 rfl ?_
                        refine pm_getf hG dX12_plan_220 (flX12_7 _ rfl) rfl rfl ?_
                        refine pm_bipush (v := nI 9) hG dX12_plan_223 (by decide) ?_
                        refine pm_ialdN hG dX12_plan_225 rfl (by decide) (by omega) ?_
                        refine pm_gen (fun x18 ex18 => ?_)
                        refine pm_callV (As := [.int (nI 0), .int x15_4, .int x18]) (rest := []) hG hR dX12_plan_226 (lkX12_280 _ rfl) okV_X12_plans rfl rfl (m_plans_c0 (d := 9) (by decide) hn hz (by omega) ek6 (by omega)) rfl rfl hdd (Nat.le_refl _) (Nat.le_refl _) (by decide) (pm_kv (fun σ' cnt' hq => ?_))
                        obtain ⟨⟨I20, A20, rfl⟩, rfl⟩ := hq
                        refine pm_aloadn hG dX12_plan_229 rfl ?_
                        refine pm_getf hG dX12_plan_230 (flX12_273 _ rfl) rfl rfl ?_
                        refine pm_any (fun x21 => ?_)
                        refine pm_if_ne (tgt := 244) hG dX12_plan_233 rfl (fun c22 => ?_) (fun c22 => ?_)
                        · refine pm_iloadn hG dX12_plan_244 rfl ?_
                          refine pm_if_ge (tgt := 255) hG dX12_plan_245 rfl (fun c23 => ?_) (fun c23 => ?_)
                          · obtain ⟨k24, hk24, ek24⟩ := nI_of (Int32.not_lt.mpr c23)
                            have gk24 : k24 ≤ q9 := (nI_leI hk24 (by omega)).mp (Int32.not_lt.mp (by rw [← ek24]; exact bc11))
                            refine pm_aloadn hG dX12_plan_255 rfl ?_
                            refine pm_getf hG dX12_plan_256 (flX12_49 _ rfl) rfl rfl ?_
                            refine pm_iloadn hG dX12_plan_259 rfl ?_
                            refine pm_top (v := nI k24) ek24 ?_
                            refine pm_ialdN hG dX12_plan_260 rfl (by decide) (by omega) ?_
                            refine pm_any (fun x25 => ?_)
                            exact pm_iret hG hF dX12_plan_261 rfl (Nat.le_refl _) (Nat.le_refl _) ⟨_, rfl, ⟨_, _, _, rfl, by omega⟩, rfl⟩
                          · refine pm_aloadn hG dX12_plan_248 rfl ?_
                            refine pm_getf hG dX12_plan_249 (flX12_277 _ rfl) rfl rfl ?_
                            refine pm_any (fun x26 => ?_)
                            refine pm_goto (tgt := 261) hG dX12_plan_252 rfl ?_
                            exact pm_iret hG hF dX12_plan_261 rfl (Nat.le_refl _) (Nat.le_refl _) ⟨_, rfl, ⟨_, _, _, rfl, by omega⟩, rfl⟩
                        · refine pm_aloadn hG dX12_plan_236 rfl ?_
                          refine pm_iconst (v := nI 3) hG dX12_plan_237 (by decide) ?_
                          refine pm_callV (As := [.int (nI 3)]) (rest := []) hG hR dX12_plan_238 (lkX12_80 _ rfl) okV_X12_finds rfl rfl (m_finds (d := 9) (by decide) hn hz (by omega)) rfl rfl hdd (Nat.le_refl _) (Nat.le_refl _) (by decide) (pm_ki (fun v27 σ' cnt' hq => ?_))
                          obtain ⟨⟨I28, A28, rfl⟩, rfl, fv27⟩ := hq
                          refine pm_goto (tgt := 261) hG dX12_plan_241 rfl ?_
                          exact pm_iret hG hF dX12_plan_261 rfl (Nat.le_refl _) (Nat.le_refl _) ⟨_, rfl, ⟨_, _, _, rfl, by omega⟩, rfl⟩
                      · refine pm_iloadi hG dX12_plan_140 rfl ?_
                        refine pm_aloadn hG dX12_plan_142 rfl ?_
                        refine pm_getf hG dX12_plan_143 (flX12_7 _ rfl) rfl rfl ?_
                        refine pm_iconst (v := nI 0) hG dX12_plan_146 (by decide) ?_
                        refine pm_ialdN hG dX12_plan_147 rfl (by decide) (by omega) ?_
                        obtain ⟨k29, hk29, ek29⟩ := KI.nat hn (show kd 0 = (1, 11, true) by decide)
                        refine pm_top (v := nI k29) ek29 ?_
                        refine pm_icmpN_ge (tgt := 205) hG dX12_plan_148 rfl (by omega) (by omega) (fun c30 => ?_) (fun c30 => ?_)
                        · refine pm_aloadn hG dX12_plan_205 rfl ?_
                          refine pm_iloadn hG dX12_plan_206 rfl ?_
                          refine pm_top (v := nI k3) ek3 ?_
                          refine pm_putf hG dX12_plan_207 (fwX12_270 _ rfl) rfl rfl rfl ?_
                          refine mdn_planSheet ?_
                          refine pm_aloadn hG dX12_plan_210 rfl ?_
                          refine pm_iconst (v := nI 0) hG dX12_plan_211 (by decide) ?_
                          refine pm_putf hG dX12_plan_212 (fwX12_273 _ rfl) rfl (by decide) (by decide) ?_
                          refine mdn_hasPlan (fun I_31 => ?_)
                          refine pm_aloadn hG dX12_plan_215 rfl ?_
                          refine pm_iconst (v := nI 0) hG dX12_plan_216 (by decide) ?_
                          refine pm_iloadi hG dX12_plan_217 rfl ?_
                          refine pm_aloadn hG dX12_plan_219 rfl ?_
                          refine pm_getf hG dX12_plan_220 (flX12_7 _ rfl) rfl rfl ?_
                          refine pm_bipush (v := nI 9) hG dX12_plan_223 (by decide) ?_
                          refine pm_ialdN hG dX12_plan_225 rfl (by decide) (by omega) ?_
                          refine pm_gen (fun x32 ex32 => ?_)
                          refine pm_callV (As := [.int (nI 0), .int x15_4, .int x32]) (rest := []) hG hR dX12_plan_226 (lkX12_280 _ rfl) okV_X12_plans rfl rfl (m_plans_c0 (d := 9) (by decide) hn hz (by omega) ek6 (by omega)) rfl rfl hdd (Nat.le_refl _) (Nat.le_refl _) (by decide) (pm_kv (fun σ' cnt' hq => ?_))
                          obtain ⟨⟨I34, A34, rfl⟩, rfl⟩ := hq
                          refine pm_aloadn hG dX12_plan_229 rfl ?_
                          refine pm_getf hG dX12_plan_230 (flX12_273 _ rfl) rfl rfl ?_
                          refine pm_any (fun x35 => ?_)
                          refine pm_if_ne (tgt := 244) hG dX12_plan_233 rfl (fun c36 => ?_) (fun c36 => ?_)
                          · refine pm_iloadn hG dX12_plan_244 rfl ?_
                            refine pm_if_ge (tgt := 255) hG dX12_plan_245 rfl (fun c37 => ?_) (fun c37 => ?_)
                            · obtain ⟨k38, hk38, ek38⟩ := nI_of (Int32.not_lt.mpr c37)
                              have gk38 : k38 ≤ q9 := (nI_leI hk38 (by omega)).mp (Int32.not_lt.mp (by rw [← ek38]; exact bc11))
                              refine pm_aloadn hG dX12_plan_255 rfl ?_
                              refine pm_getf hG dX12_plan_256 (flX12_49 _ rfl) rfl rfl ?_
                              refine pm_iloadn hG dX12_plan_259 rfl ?_
                              refine pm_top (v := nI k38) ek38 ?_
                              refine pm_ialdN hG dX12_plan_260 rfl (by decide) (by omega) ?_
                              refine pm_any (fun x39 => ?_)
                              exact pm_iret hG hF dX12_plan_261 rfl (Nat.le_refl _) (Nat.le_refl _) ⟨_, rfl, ⟨_, _, _, rfl, by omega⟩, rfl⟩
                            · refine pm_aloadn hG dX12_plan_248 rfl ?_
                              refine pm_getf hG dX12_plan_249 (flX12_277 _ rfl) rfl rfl ?_
                              refine pm_any (fun x40 => ?_)
                              refine pm_goto (tgt := 261) hG dX12_plan_252 rfl ?_
                              exact pm_iret hG hF dX12_plan_261 rfl (Nat.le_refl _) (Nat.le_refl _) ⟨_, rfl, ⟨_, _, _, rfl, by omega⟩, rfl⟩
                          · refine pm_aloadn hG dX12_plan_236 rfl ?_
                            refine pm_iconst (v := nI 3) hG dX12_plan_237 (by decide) ?_
                            refine pm_callV (As := [.int (nI 3)]) (rest := []) hG hR dX12_plan_238 (lkX12_80 _ rfl) okV_X12_finds rfl rfl (m_finds (d := 9) (by decide) hn hz (by omega)) rfl rfl hdd (Nat.le_refl _) (Nat.le_refl _) (by decide) (pm_ki (fun v41 σ' cnt' hq => ?_))
                            obtain ⟨⟨I42, A42, rfl⟩, rfl, fv41⟩ := hq
                            refine pm_goto (tgt := 261) hG dX12_plan_241 rfl ?_
                            exact pm_iret hG hF dX12_plan_261 rfl (Nat.le_refl _) (Nat.le_refl _) ⟨_, rfl, ⟨_, _, _, rfl, by omega⟩, rfl⟩
                        · refine pm_iloadi hG dX12_plan_151 rfl ?_
                          refine pm_aloadn hG dX12_plan_153 rfl ?_
                          refine pm_getf hG dX12_plan_154 (flX12_7 _ rfl) rfl rfl ?_
                          refine pm_bipush (v := nI 20) hG dX12_plan_157 (by decide) ?_
                          refine pm_iconst (v := nI 3) hG dX12_plan_159 (by decide) ?_
                          refine pm_iloadi hG dX12_plan_160 rfl ?_
                          refine pm_imulN (c := 3 * i15) hG dX12_plan_162 (by omega) ?_
                          refine pm_iaddN (c := 3 * i15 + 20) hG dX12_plan_163 (by omega) ?_
                          refine pm_iconst (v := nI 1) hG dX12_plan_164 (by decide) ?_
                          refine pm_iaddN (c := 3 * i15 + 21) hG dX12_plan_165 (by omega) ?_
                          refine pm_ialdN hG dX12_plan_166 rfl (by decide) (by omega) ?_
                          rcases KI.opt hn (show kd (3 * i15 + 21) = (2, 20, false) from (kd_T (k := i15) (c := 1) (by omega) (by omega) (by decide))) with ek43 | ⟨k43, hk43, ek43⟩
                          · refine pm_top (v := (-1)) ek43 ?_
                            refine pm_iconst (v := (-1)) hG dX12_plan_167 (by decide) ?_
                            refine pm_icmp_ne (tgt := 195) hG dX12_plan_168 rfl (fun q => absurd q (by decide)) (fun _ => ?_)
                            refine pm_aloadn hG dX12_plan_171 rfl ?_
                            refine pm_getf hG dX12_plan_172 (flX12_7 _ rfl) rfl rfl ?_
                            refine pm_bipush (v := nI 20) hG dX12_plan_175 (by decide) ?_
                            refine pm_iconst (v := nI 3) hG dX12_plan_177 (by decide) ?_
                            refine pm_iloadi hG dX12_plan_178 rfl ?_
                            refine pm_imulN (c := 3 * i15) hG dX12_plan_180 (by omega) ?_
                            refine pm_iaddN (c := 3 * i15 + 20) hG dX12_plan_181 (by omega) ?_
                            refine pm_iconst (v := nI 2) hG dX12_plan_182 (by decide) ?_
                            refine pm_iaddN (c := 3 * i15 + 22) hG dX12_plan_183 (by omega) ?_
                            refine pm_ialdN hG dX12_plan_184 rfl (by decide) (by omega) ?_
                            refine pm_gen (fun x44 ex44 => ?_)
                            refine pm_if_ne (tgt := 195) hG dX12_plan_185 rfl (fun c45 => ?_) (fun c45 => ?_)
                            · refine pm_iconst (v := nI 0) hG dX12_plan_195 (by decide) ?_
                              refine pm_ior hG dX12_plan_196 ?_
                              refine pm_any (fun x46 => ?_)
                              refine pm_istoreXi (loc' := [some (.ref (B + 54)), some (.int za), some (.int zb), some (.int x12_3), some (.int x46), some (.int (nI i15))]) hG dX12_plan_197 (by decide) (pm_c1b rfl) rfl ?_
                              refine pm_iincX (v := nI (i15 + 1)) (loc' := [some (.ref (B + 54)), some (.int za), some (.int zb), some (.int x12_3), some (.int x46), some (.int (nI (i15 + 1)))]) hG dX12_plan_199 rfl (nI_1 _) (by decide) (pm_c1b rfl) rfl ?_
                              refine pm_goto (tgt := 133) hG dX12_plan_202 rfl ?_
                              exact ih15 I15 A15 x46 (i15 + 1) (by omega) (by omega)
                            · refine pm_iconst (v := nI 1) hG dX12_plan_188 (by decide) ?_
                              refine pm_iloadi hG dX12_plan_189 rfl ?_
                              refine pm_ishl hG dX12_plan_191 ?_
                              refine pm_any (fun x47 => ?_)
                              refine pm_goto (tgt := 196) hG dX12_plan_192 rfl ?_
                              refine pm_ior hG dX12_plan_196 ?_
                              refine pm_any (fun x48 => ?_)
                              refine pm_istoreXi (loc' := [some (.ref (B + 54)), some (.int za), some (.int zb), some (.int x12_3), some (.int x48), some (.int (nI i15))]) hG dX12_plan_197 (by decide) (pm_c1b rfl) rfl ?_
                              refine pm_iincX (v := nI (i15 + 1)) (loc' := [some (.ref (B + 54)), some (.int za), some (.int zb), some (.int x12_3), some (.int x48), some (.int (nI (i15 + 1)))]) hG dX12_plan_199 rfl (nI_1 _) (by decide) (pm_c1b rfl) rfl ?_
                              refine pm_goto (tgt := 133) hG dX12_plan_202 rfl ?_
                              exact ih15 I15 A15 x48 (i15 + 1) (by omega) (by omega)
                          · refine pm_top (v := nI k43) ek43 ?_
                            refine pm_iconst (v := (-1)) hG dX12_plan_167 (by decide) ?_
                            refine pm_icmp_ne (tgt := 195) hG dX12_plan_168 rfl (fun _ => ?_) (fun q => absurd q (nI_m1 (by omega)))
                            refine pm_iconst (v := nI 0) hG dX12_plan_195 (by decide) ?_
                            refine pm_ior hG dX12_plan_196 ?_
                            refine pm_any (fun x49 => ?_)
                            refine pm_istoreXi (loc' := [some (.ref (B + 54)), some (.int za), some (.int zb), some (.int x12_3), some (.int x49), some (.int (nI i15))]) hG dX12_plan_197 (by decide) (pm_c1b rfl) rfl ?_
                            refine pm_iincX (v := nI (i15 + 1)) (loc' := [some (.ref (B + 54)), some (.int za), some (.int zb), some (.int x12_3), some (.int x49), some (.int (nI (i15 + 1)))]) hG dX12_plan_199 rfl (nI_1 _) (by decide) (pm_c1b rfl) rfl ?_
                            refine pm_goto (tgt := 133) hG dX12_plan_202 rfl ?_
                            exact ih15 I15 A15 x49 (i15 + 1) (by omega) (by omega)
                  exact loop133_15 _ I12 A12 (nI 0) 0 (by omega) (Nat.lt_succ_self _)
                · refine pm_aloadn hG dX12_plan_121 rfl ?_
                  refine pm_iconst (v := nI 1) hG dX12_plan_122 (by decide) ?_
                  refine pm_callV (As := [.int (nI 1)]) (rest := []) hG hR dX12_plan_123 (lkX12_80 _ rfl) okV_X12_finds rfl rfl (m_finds (d := 9) (by decide) hn hz (by omega)) rfl rfl hdd (Nat.le_refl _) (Nat.le_refl _) (by decide) (pm_ki (fun v50 σ' cnt' hq => ?_))
                  obtain ⟨⟨I51, A51, rfl⟩, rfl, fv50⟩ := hq
                  exact pm_iret hG hF dX12_plan_126 rfl (Nat.le_refl _) (Nat.le_refl _) ⟨_, rfl, ⟨_, _, _, rfl, by omega⟩, rfl⟩
              · refine pm_iloadn hG dX12_plan_79 rfl ?_
                refine pm_if_eq (tgt := 109) hG dX12_plan_80 rfl (fun c52 => ?_) (fun c52 => ?_)
                · refine pm_iconst (v := nI 0) hG dX12_plan_109 (by decide) ?_
                  refine pm_istoreXn (loc' := [some (.ref (B + 54)), some (.int za), some (.int zb), some (.int (nI 0)), some (.int (nI i12)), none]) hG dX12_plan_110 (by decide) (pm_c1b rfl) rfl ?_
                  refine pm_iincX (v := nI (i12 + 1)) (loc' := [some (.ref (B + 54)), some (.int za), some (.int zb), some (.int (nI 0)), some (.int (nI (i12 + 1))), none]) hG dX12_plan_111 rfl (nI_1 _) (by decide) (pm_c1b rfl) rfl ?_
                  refine pm_goto (tgt := 68) hG dX12_plan_114 rfl ?_
                  exact ih12 I12 A12 (nI 0) (i12 + 1) (by omega) (by omega)
                · refine pm_aloadn hG dX12_plan_83 rfl ?_
                  refine pm_getf hG dX12_plan_84 (flX12_61 _ rfl) rfl rfl ?_
                  refine pm_bipush (v := nI 24) hG dX12_plan_87 (by decide) ?_
                  refine pm_iloadn hG dX12_plan_89 rfl ?_
                  refine pm_top (v := nI k3) ek3 ?_
                  refine pm_imulN (c := 24 * k3) hG dX12_plan_90 (by omega) ?_
                  refine pm_iloadi hG dX12_plan_91 rfl ?_
                  refine pm_iaddN (c := i12 + 24 * k3) hG dX12_plan_93 (by omega) ?_
                  refine pm_ialdN hG dX12_plan_94 rfl (by decide) (by omega) ?_
                  refine pm_any (fun x53 => ?_)
                  refine pm_iconst (v := nI 0) hG dX12_plan_95 (by decide) ?_
                  refine pm_sipush (v := nI 9999) hG dX12_plan_96 (by decide) ?_
                  refine pm_callS (As := [.int x53, .int (nI 0), .int (nI 9999)]) (rest := []) hG hR dX12_plan_99 (lkX12_68 _ rfl) okS_X12_in (m_in (d := 9)) rfl rfl hdd (Nat.le_refl _) (Nat.le_refl _) (by decide) (pm_ki (fun v54 σ' cnt' hq => ?_))
                  obtain ⟨hq, rfl, rfl⟩ := hq
                  rcases hq with ⟨rfl, ac55, bc55⟩ | ⟨rfl, c55⟩
                  · obtain ⟨k56, hk56, ek56⟩ := in_nat (by omega) (by omega) ac55 bc55
                    refine pm_ifN_eq (tgt := 109) hG dX12_plan_102 rfl (by omega) (fun q => absurd q (by omega)) (fun _ => ?_)
                    refine pm_iconst (v := nI 1) hG dX12_plan_105 (by decide) ?_
                    refine pm_goto (tgt := 110) hG dX12_plan_106 rfl ?_
                    refine pm_istoreXn (loc' := [some (.ref (B + 54)), some (.int za), some (.int zb), some (.int (nI 1)), some (.int (nI i12)), none]) hG dX12_plan_110 (by decide) (pm_c1b rfl) rfl ?_
                    refine pm_iincX (v := nI (i12 + 1)) (loc' := [some (.ref (B + 54)), some (.int za), some (.int zb), some (.int (nI 1)), some (.int (nI (i12 + 1))), none]) hG dX12_plan_111 rfl (nI_1 _) (by decide) (pm_c1b rfl) rfl ?_
                    refine pm_goto (tgt := 68) hG dX12_plan_114 rfl ?_
                    exact ih12 I12 A12 (nI 1) (i12 + 1) (by omega) (by omega)
                  · refine pm_ifN_eq (tgt := 109) hG dX12_plan_102 rfl (by omega) (fun _ => ?_) (fun q => absurd q (by omega))
                    refine pm_iconst (v := nI 0) hG dX12_plan_109 (by decide) ?_
                    refine pm_istoreXn (loc' := [some (.ref (B + 54)), some (.int za), some (.int zb), some (.int (nI 0)), some (.int (nI i12)), none]) hG dX12_plan_110 (by decide) (pm_c1b rfl) rfl ?_
                    refine pm_iincX (v := nI (i12 + 1)) (loc' := [some (.ref (B + 54)), some (.int za), some (.int zb), some (.int (nI 0)), some (.int (nI (i12 + 1))), none]) hG dX12_plan_111 rfl (nI_1 _) (by decide) (pm_c1b rfl) rfl ?_
                    refine pm_goto (tgt := 68) hG dX12_plan_114 rfl ?_
                    exact ih12 I12 A12 (nI 0) (i12 + 1) (by omega) (by omega)
          exact loop68_12 _ I A (nI 1) 0 (by omega) (Nat.lt_succ_self _)
        · refine pm_ifN_eq (tgt := 63) hG dX12_plan_56 rfl (by omega) (fun _ => ?_) (fun q => absurd q (by omega))
          refine pm_iconst (v := nI 0) hG dX12_plan_63 (by decide) ?_
          refine pm_istoreXn (loc' := [some (.ref (B + 54)), some (.int za), some (.int zb), some (.int (nI 0)), none, none]) hG dX12_plan_64 (by decide) (pm_c1b rfl) rfl ?_
          refine pm_iconst (v := nI 0) hG dX12_plan_65 (by decide) ?_
          refine pm_istoreXi (loc' := [some (.ref (B + 54)), some (.int za), some (.int zb), some (.int (nI 0)), some (.int (nI 0)), none]) hG dX12_plan_66 (by decide) (pm_c1b rfl) rfl ?_
          have loop68_57 : ∀ (m57 : Nat) (I57 : Nat → Int32) (A57 : Nat → Nat → Int32) (i57 : Nat), i57 ≤ 24 → 24 - i57 < m57 → pm_wp mX12_plan G B 68 [some (.ref (B + 54)), some (.int za), some (.int zb), some (.int (nI 0)), some (.int (nI i57)), none] [] 0 0 cnt (pm_mid σ (md_L B I57 A57 n k z ac wt pl (nI p0) (nI t0) im)) := by
            intro m57
            induction m57 with
            | zero => intro I57 A57 i57 _ hm; exact absurd hm (Nat.not_lt_zero _)
            | succ m57 ih57 =>
              intro I57 A57 i57 hi57 hm57
              refine pm_iloadi hG dX12_plan_68 rfl ?_
              refine pm_aloadn hG dX12_plan_70 rfl ?_
              refine pm_getf hG dX12_plan_71 (flX12_58 _ rfl) rfl rfl ?_
              refine pm_iloadn hG dX12_plan_74 rfl ?_
              refine pm_top (v := nI k3) ek3 ?_
              refine pm_ialdN hG dX12_plan_75 rfl (by decide) (by omega) ?_
              refine pm_top (v := nI k6) ek6 ?_
              refine pm_icmpN_ge (tgt := 117) hG dX12_plan_76 rfl (by omega) (by omega) (fun c58 => ?_) (fun c58 => ?_)
              · refine pm_iloadn hG dX12_plan_117 rfl ?_
                refine pm_ifN_ne (tgt := 127) hG dX12_plan_118 rfl (by omega) (fun q => absurd q (by omega)) (fun _ => ?_)
                refine pm_aloadn hG dX12_plan_121 rfl ?_
                refine pm_iconst (v := nI 1) hG dX12_plan_122 (by decide) ?_
                refine pm_callV (As := [.int (nI 1)]) (rest := []) hG hR dX12_plan_123 (lkX12_80 _ rfl) okV_X12_finds rfl rfl (m_finds (d := 9) (by decide) hn hz (by omega)) rfl rfl hdd (Nat.le_refl _) (Nat.le_refl _) (by decide) (pm_ki (fun v59 σ' cnt' hq => ?_))
                obtain ⟨⟨I60, A60, rfl⟩, rfl, fv59⟩ := hq
                exact pm_iret hG hF dX12_plan_126 rfl (Nat.le_refl _) (Nat.le_refl _) ⟨_, rfl, ⟨_, _, _, rfl, by omega⟩, rfl⟩
              · refine pm_iloadn hG dX12_plan_79 rfl ?_
                refine pm_ifN_eq (tgt := 109) hG dX12_plan_80 rfl (by omega) (fun _ => ?_) (fun q => absurd q (by omega))
                refine pm_iconst (v := nI 0) hG dX12_plan_109 (by decide) ?_
                refine pm_istoreXn (loc' := [some (.ref (B + 54)), some (.int za), some (.int zb), some (.int (nI 0)), some (.int (nI i57)), none]) hG dX12_plan_110 (by decide) (pm_c1b rfl) rfl ?_
                refine pm_iincX (v := nI (i57 + 1)) (loc' := [some (.ref (B + 54)), some (.int za), some (.int zb), some (.int (nI 0)), some (.int (nI (i57 + 1))), none]) hG dX12_plan_111 rfl (nI_1 _) (by decide) (pm_c1b rfl) rfl ?_
                refine pm_goto (tgt := 68) hG dX12_plan_114 rfl ?_
                exact ih57 I57 A57 (i57 + 1) (by omega) (by omega)
          exact loop68_57 _ I A 0 (by omega) (Nat.lt_succ_self _)
      · refine pm_ifN_eq (tgt := 63) hG dX12_plan_40 rfl (by omega) (fun _ => ?_) (fun q => absurd q (by omega))
        refine pm_iconst (v := nI 0) hG dX12_plan_63 (by decide) ?_
        refine pm_istoreXn (loc' := [some (.ref (B + 54)), some (.int za), some (.int zb), some (.int (nI 0)), none, none]) hG dX12_plan_64 (by decide) (pm_c1b rfl) rfl ?_
        refine pm_iconst (v := nI 0) hG dX12_plan_65 (by decide) ?_
        refine pm_istoreXi (loc' := [some (.ref (B + 54)), some (.int za), some (.int zb), some (.int (nI 0)), some (.int (nI 0)), none]) hG dX12_plan_66 (by decide) (pm_c1b rfl) rfl ?_
        have loop68_61 : ∀ (m61 : Nat) (I61 : Nat → Int32) (A61 : Nat → Nat → Int32) (i61 : Nat), i61 ≤ 24 → 24 - i61 < m61 → pm_wp mX12_plan G B 68 [some (.ref (B + 54)), some (.int za), some (.int zb), some (.int (nI 0)), some (.int (nI i61)), none] [] 0 0 cnt (pm_mid σ (md_L B I61 A61 n k z ac wt pl (nI p0) (nI t0) im)) := by
          intro m61
          induction m61 with
          | zero => intro I61 A61 i61 _ hm; exact absurd hm (Nat.not_lt_zero _)
          | succ m61 ih61 =>
            intro I61 A61 i61 hi61 hm61
            refine pm_iloadi hG dX12_plan_68 rfl ?_
            refine pm_aloadn hG dX12_plan_70 rfl ?_
            refine pm_getf hG dX12_plan_71 (flX12_58 _ rfl) rfl rfl ?_
            refine pm_iloadn hG dX12_plan_74 rfl ?_
            refine pm_top (v := nI k3) ek3 ?_
            refine pm_ialdN hG dX12_plan_75 rfl (by decide) (by omega) ?_
            refine pm_top (v := nI k6) ek6 ?_
            refine pm_icmpN_ge (tgt := 117) hG dX12_plan_76 rfl (by omega) (by omega) (fun c62 => ?_) (fun c62 => ?_)
            · refine pm_iloadn hG dX12_plan_117 rfl ?_
              refine pm_ifN_ne (tgt := 127) hG dX12_plan_118 rfl (by omega) (fun q => absurd q (by omega)) (fun _ => ?_)
              refine pm_aloadn hG dX12_plan_121 rfl ?_
              refine pm_iconst (v := nI 1) hG dX12_plan_122 (by decide) ?_
              refine pm_callV (As := [.int (nI 1)]) (rest := []) hG hR dX12_plan_123 (lkX12_80 _ rfl) okV_X12_finds rfl rfl (m_finds (d := 9) (by decide) hn hz (by omega)) rfl rfl hdd (Nat.le_refl _) (Nat.le_refl _) (by decide) (pm_ki (fun v63 σ' cnt' hq => ?_))
              obtain ⟨⟨I64, A64, rfl⟩, rfl, fv63⟩ := hq
              exact pm_iret hG hF dX12_plan_126 rfl (Nat.le_refl _) (Nat.le_refl _) ⟨_, rfl, ⟨_, _, _, rfl, by omega⟩, rfl⟩
            · refine pm_iloadn hG dX12_plan_79 rfl ?_
              refine pm_ifN_eq (tgt := 109) hG dX12_plan_80 rfl (by omega) (fun _ => ?_) (fun q => absurd q (by omega))
              refine pm_iconst (v := nI 0) hG dX12_plan_109 (by decide) ?_
              refine pm_istoreXn (loc' := [some (.ref (B + 54)), some (.int za), some (.int zb), some (.int (nI 0)), some (.int (nI i61)), none]) hG dX12_plan_110 (by decide) (pm_c1b rfl) rfl ?_
              refine pm_iincX (v := nI (i61 + 1)) (loc' := [some (.ref (B + 54)), some (.int za), some (.int zb), some (.int (nI 0)), some (.int (nI (i61 + 1))), none]) hG dX12_plan_111 rfl (nI_1 _) (by decide) (pm_c1b rfl) rfl ?_
              refine pm_goto (tgt := 68) hG dX12_plan_114 rfl ?_
              exact ih61 I61 A61 (i61 + 1) (by omega) (by omega)
        exact loop68_61 _ I A 0 (by omega) (Nat.lt_succ_self _)
    · refine pm_aloadn hG dX12_plan_22 rfl ?_
      refine pm_iconst (v := nI 2) hG dX12_plan_23 (by decide) ?_
      refine pm_callV (As := [.int (nI 2)]) (rest := []) hG hR dX12_plan_24 (lkX12_80 _ rfl) okV_X12_finds rfl rfl (m_finds (d := 9) (by decide) hn hz (by omega)) rfl rfl hdd (Nat.le_refl _) (Nat.le_refl _) (by decide) (pm_ki (fun v65 σ' cnt' hq => ?_))
      obtain ⟨⟨I66, A66, rfl⟩, rfl, fv65⟩ := hq
      exact pm_iret hG hF dX12_plan_27 rfl (Nat.le_refl _) (Nat.le_refl _) ⟨_, rfl, ⟨_, _, _, rfl, by omega⟩, rfl⟩
  · refine pm_ifN_ne (tgt := 13) hG dX12_plan_4 rfl (by omega) (fun q => absurd q (by omega)) (fun _ => ?_)
    refine pm_aloadn hG dX12_plan_7 rfl ?_
    refine pm_iconst (v := nI 1) hG dX12_plan_8 (by decide) ?_
    refine pm_callV (As := [.int (nI 1)]) (rest := []) hG hR dX12_plan_9 (lkX12_80 _ rfl) okV_X12_finds rfl rfl (m_finds (d := 9) (by decide) hn hz (by omega)) rfl rfl hdd (Nat.le_refl _) (Nat.le_refl _) (by decide) (pm_ki (fun v67 σ' cnt' hq => ?_))
    obtain ⟨⟨I68, A68, rfl⟩, rfl, fv67⟩ := hq
    exact pm_iret hG hF dX12_plan_12 rfl (Nat.le_refl _) (Nat.le_refl _) ⟨_, rfl, ⟨_, _, _, rfl, by omega⟩, rfl⟩

set_option maxRecDepth 100000 in
set_option maxHeartbeats 4000000 in
theorem m_newPower_m {d B cnt p0 t0 : Nat} {σ : pm_S} {I : Nat → Int32} {A : Nat → Nat → Int32} {n k z : Nat → Int32} {ac wt pl im : Int32} {za zc zd : Int32} {c0 : Nat} (hdd : 2 ≤ d) (hn : KI n) (hr : NR n) (hz : SZ z) (ec0 : n 3 = nI c0) (hc0 : c0 < 20) : pm_met mX12_newPower d 0 0 B [.ref (B + 54), .int za, .int (-1), .int zc, .int zd] cnt (pm_mid σ (md_L B I A n k z ac wt pl (nI p0) (nI t0) im)) (pm_Qi (fun v σ' cnt' => (∃ (n' : Nat → Int32), σ' = pm_mid σ (md_L B I A n' k z ac wt pl (nI p0) (nI t0) im) ∧ KI n' ∧ NR n' ∧ n' 0 = n 0 ∧ n' 2 = n 2 ∧ n' 7 = n 7 ∧ n' 8 = n 8 ∧ KS n' n) ∧ cnt = cnt')) := by
  obtain ⟨kc0, hkc0, ekc0⟩ := KI.nat hn (show kd 0 = (1, 11, true) by decide)
  obtain ⟨kc2, hkc2, ekc2⟩ := KI.nat hn (show kd 2 = (1, 21, true) by decide)
  obtain ⟨kc7, hkc7, ekc7⟩ := KI.nat hn (show kd 7 = (1, 31, false) by decide)
  obtain ⟨kc8, hkc8, ekc8⟩ := KI.nat hn (show kd 8 = (1, 2001, false) by decide)
  refine pm_enter 1 (by decide) (Nat.le_of_ble_eq_true rfl) rfl (fun G hG hR hF => ?_)
  refine pm_aloadn hG dX12_newPower_0 rfl ?_
  refine pm_getf hG dX12_newPower_1 (flX12_7 _ rfl) rfl rfl ?_
  refine pm_iconst (v := nI 3) hG dX12_newPower_4 (by decide) ?_
  refine pm_ialdN hG dX12_newPower_5 rfl (by decide) (by omega) ?_
  refine pm_top (v := nI c0) ec0 ?_
  refine pm_istoreXi (loc' := [some (.ref (B + 54)), some (.int za), some (.int (-1)), some (.int zc), some (.int zd), some (.int (nI c0))]) hG dX12_newPower_6 (by decide) (pm_c1b rfl) rfl ?_
  refine pm_aloadn hG dX12_newPower_8 rfl ?_
  refine pm_getf hG dX12_newPower_9 (flX12_7 _ rfl) rfl rfl ?_
  refine pm_iconst (v := nI 3) hG dX12_newPower_12 (by decide) ?_
  refine pm_dup2 hG dX12_newPower_13 rfl rfl ?_
  refine pm_ialdN hG dX12_newPower_14 rfl (by decide) (by omega) ?_
  refine pm_top (v := nI c0) ec0 ?_
  refine pm_iconst (v := nI 1) hG dX12_newPower_15 (by decide) ?_
  refine pm_iaddN (c := c0 + 1) hG dX12_newPower_16 (by omega) ?_
  refine pm_iastN hG dX12_newPower_17 rfl (by decide) (by omega) ?_
  refine mdn_now (fun n_1 en_1 => ?_)
  have hnn_1 := KI.w en_1 hn (okv_n (show kd 3 = (1, 21, false) by decide) (by omega))
  have hrn_1 := NRx.w en_1 hr (by rw [(show kd 3 = (1, 21, false) by decide)])
  have ksn_1 := KS.w en_1 KS.rf (by unfold tS; omega)
  have e2 : n_1 0 = nI kc0 := by rw [en_1, pk_un (by omega)]; exact ekc0
  have e3 : n_1 2 = nI kc2 := by rw [en_1, pk_un (by omega)]; exact ekc2
  have e4 : n_1 7 = nI kc7 := by rw [en_1, pk_un (by omega)]; exact ekc7
  have e5 : n_1 8 = nI kc8 := by rw [en_1, pk_un (by omega)]; exact ekc8
  have e6 : n_1 3 = nI (c0 + 1) := by rw [en_1, pk_us]
  refine pm_aloadn hG dX12_newPower_18 rfl ?_
  refine pm_iloadi hG dX12_newPower_19 rfl ?_
  refine pm_iconst (v := nI 0) hG dX12_newPower_21 (by decide) ?_
  refine pm_iloadn hG dX12_newPower_22 rfl ?_
  refine pm_callV (As := [.int (nI c0), .int (nI 0), .int za]) (rest := []) hG hR dX12_newPower_23 (lkX12_113 _ rfl) okV_X12_makes rfl rfl (m_makes (d := 1) (e := 6 * c0 + 390) (by omega) (by omega) (by omega)) rfl rfl hdd (Nat.le_refl _) (Nat.le_refl _) (by decide) (pm_kv (fun σ' cnt' hq => ?_))
  obtain ⟨rfl, rfl⟩ := hq
  obtain ⟨n_7, en_7⟩ : ∃ f : Nat → Int32, f = upd n_1 (6 * c0 + 390) za := ⟨_, rfl⟩
  rw [← en_7]
  have hnn_7 := KI.w en_7 hnn_1 (okv_f (show kd (6 * c0 + 390) = (0, 0, false) from (kd_W (k := c0) (c := 0) (by omega) (by omega) (by decide))))
  have hrn_7 := NRx.w en_7 hrn_1 (by rw [(show kd (6 * c0 + 390) = (0, 0, false) from (kd_W (k := c0) (c := 0) (by omega) (by omega) (by decide)))])
  have ksn_7 := KS.w en_7 ksn_1 (by unfold tS; omega)
  have e8 : n_7 0 = nI kc0 := by rw [en_7, pk_un (by omega)]; exact e2
  have e9 : n_7 2 = nI kc2 := by rw [en_7, pk_un (by omega)]; exact e3
  have e10 : n_7 7 = nI kc7 := by rw [en_7, pk_un (by omega)]; exact e4
  have e11 : n_7 8 = nI kc8 := by rw [en_7, pk_un (by omega)]; exact e5
  have e12 : n_7 3 = nI (c0 + 1) := by rw [en_7, pk_un (by omega)]; exact e6
  have e13 : n_7 (6 * c0 + 390) = za := by rw [en_7, pk_us]
  refine pm_aloadn hG dX12_newPower_26 rfl ?_
  refine pm_iloadi hG dX12_newPower_27 rfl ?_
  refine pm_iconst (v := nI 1) hG dX12_newPower_29 (by decide) ?_
  refine pm_iloadn hG dX12_newPower_30 rfl ?_
  refine pm_callV (As := [.int (nI c0), .int (nI 1), .int (-1)]) (rest := []) hG hR dX12_newPower_31 (lkX12_113 _ rfl) okV_X12_makes rfl rfl (m_makes (d := 1) (e := 6 * c0 + 391) (by omega) (by omega) (by omega)) rfl rfl hdd (Nat.le_refl _) (Nat.le_refl _) (by decide) (pm_kv (fun σ' cnt' hq => ?_))
  obtain ⟨rfl, rfl⟩ := hq
  obtain ⟨n_14, en_14⟩ : ∃ f : Nat → Int32, f = upd n_7 (6 * c0 + 391) (-1) := ⟨_, rfl⟩
  rw [← en_14]
  have hnn_14 := KI.w en_14 hnn_7 (okv_m (show kd (6 * c0 + 391) = (2, 20, false) from (kd_W (k := c0) (c := 1) (by omega) (by omega) (by decide))))
  have hrn_14 := NRx.w en_14 hrn_7 (by rw [(show kd (6 * c0 + 391) = (2, 20, false) from (kd_W (k := c0) (c := 1) (by omega) (by omega) (by decide)))])
  have ksn_14 := KS.w en_14 ksn_7 (by unfold tS; omega)
  have e15 : n_14 0 = nI kc0 := by rw [en_14, pk_un (by omega)]; exact e8
  have e16 : n_14 2 = nI kc2 := by rw [en_14, pk_un (by omega)]; exact e9
  have e17 : n_14 7 = nI kc7 := by rw [en_14, pk_un (by omega)]; exact e10
  have e18 : n_14 8 = nI kc8 := by rw [en_14, pk_un (by omega)]; exact e11
  have e19 : n_14 3 = nI (c0 + 1) := by rw [en_14, pk_un (by omega)]; exact e12
  have e20 : n_14 (6 * c0 + 390) = za := by rw [en_14, pk_un (by omega)]; exact e13
  have e21 : n_14 (6 * c0 + 391) = (-1) := by rw [en_14, pk_us]
  refine pm_aloadn hG dX12_newPower_34 rfl ?_
  refine pm_iloadi hG dX12_newPower_35 rfl ?_
  refine pm_iconst (v := nI 4) hG dX12_newPower_37 (by decide) ?_
  refine pm_iloadn hG dX12_newPower_38 rfl ?_
  refine pm_callV (As := [.int (nI c0), .int (nI 4), .int zc]) (rest := []) hG hR dX12_newPower_39 (lkX12_113 _ rfl) okV_X12_makes rfl rfl (m_makes (d := 1) (e := 6 * c0 + 394) (by omega) (by omega) (by omega)) rfl rfl hdd (Nat.le_refl _) (Nat.le_refl _) (by decide) (pm_kv (fun σ' cnt' hq => ?_))
  obtain ⟨rfl, rfl⟩ := hq
  obtain ⟨n_22, en_22⟩ : ∃ f : Nat → Int32, f = upd n_14 (6 * c0 + 394) zc := ⟨_, rfl⟩
  rw [← en_22]
  have hnn_22 := KI.w en_22 hnn_14 (okv_f (show kd (6 * c0 + 394) = (0, 0, false) from (kd_W (k := c0) (c := 4) (by omega) (by omega) (by decide))))
  have hrn_22 := NRx.w en_22 hrn_14 (by rw [(show kd (6 * c0 + 394) = (0, 0, false) from (kd_W (k := c0) (c := 4) (by omega) (by omega) (by decide)))])
  have ksn_22 := KS.w en_22 ksn_14 (by unfold tS; omega)
  have e23 : n_22 0 = nI kc0 := by rw [en_22, pk_un (by omega)]; exact e15
  have e24 : n_22 2 = nI kc2 := by rw [en_22, pk_un (by omega)]; exact e16
  have e25 : n_22 7 = nI kc7 := by rw [en_22, pk_un (by omega)]; exact e17
  have e26 : n_22 8 = nI kc8 := by rw [en_22, pk_un (by omega)]; exact e18
  have e27 : n_22 3 = nI (c0 + 1) := by rw [en_22, pk_un (by omega)]; exact e19
  have e28 : n_22 (6 * c0 + 390) = za := by rw [en_22, pk_un (by omega)]; exact e20
  have e29 : n_22 (6 * c0 + 391) = (-1) := by rw [en_22, pk_un (by omega)]; exact e21
  have e30 : n_22 (6 * c0 + 394) = zc := by rw [en_22, pk_us]
  refine pm_aloadn hG dX12_newPower_42 rfl ?_
  refine pm_iloadi hG dX12_newPower_43 rfl ?_
  refine pm_iconst (v := nI 5) hG dX12_newPower_45 (by decide) ?_
  refine pm_iloadi hG dX12_newPower_46 rfl ?_
  refine pm_if_ge (tgt := 56) hG dX12_newPower_48 rfl (fun c31 => ?_) (fun c31 => ?_)
  · obtain ⟨k32, hk32, ek32⟩ := nI_of (Int32.not_lt.mpr c31)
    refine pm_iloadi hG dX12_newPower_56 rfl ?_
    refine pm_top (v := nI k32) ek32 ?_
    refine pm_callV (As := [.int (nI c0), .int (nI 5), .int (nI k32)]) (rest := []) hG hR dX12_newPower_58 (lkX12_113 _ rfl) okV_X12_makes rfl rfl (m_makes (d := 1) (e := 6 * c0 + 395) (by omega) (by omega) (by omega)) rfl rfl hdd (Nat.le_refl _) (Nat.le_refl _) (by decide) (pm_kv (fun σ' cnt' hq => ?_))
    obtain ⟨rfl, rfl⟩ := hq
    obtain ⟨n_33, en_33⟩ : ∃ f : Nat → Int32, f = upd n_22 (6 * c0 + 395) (nI k32) := ⟨_, rfl⟩
    rw [← en_33]
    have hnn_33 := KI.w en_33 hnn_22 (okv_f (show kd (6 * c0 + 395) = (0, 0, false) from (kd_W (k := c0) (c := 5) (by omega) (by omega) (by decide))))
    have hrn_33 := NRx.w en_33 hrn_22 (by rw [(show kd (6 * c0 + 395) = (0, 0, false) from (kd_W (k := c0) (c := 5) (by omega) (by omega) (by decide)))])
    have ksn_33 := KS.w en_33 ksn_22 (by unfold tS; omega)
    have e34 : n_33 0 = nI kc0 := by rw [en_33, pk_un (by omega)]; exact e23
    have e35 : n_33 2 = nI kc2 := by rw [en_33, pk_un (by omega)]; exact e24
    have e36 : n_33 7 = nI kc7 := by rw [en_33, pk_un (by omega)]; exact e25
    have e37 : n_33 8 = nI kc8 := by rw [en_33, pk_un (by omega)]; exact e26
    have e38 : n_33 3 = nI (c0 + 1) := by rw [en_33, pk_un (by omega)]; exact e27
    have e39 : n_33 (6 * c0 + 390) = za := by rw [en_33, pk_un (by omega)]; exact e28
    have e40 : n_33 (6 * c0 + 391) = (-1) := by rw [en_33, pk_un (by omega)]; exact e29
    have e41 : n_33 (6 * c0 + 394) = zc := by rw [en_33, pk_un (by omega)]; exact e30
    have e42 : n_33 (6 * c0 + 395) = nI k32 := by rw [en_33, pk_us]
    refine pm_aloadn hG dX12_newPower_61 rfl ?_
    refine pm_iloadi hG dX12_newPower_62 rfl ?_
    refine pm_callV (As := [.int (nI c0)]) (rest := []) hG hR dX12_newPower_64 (lkX12_116 _ rfl) okV_X12_comesBack rfl rfl (m_comesBack (d := 1) (e := 6 * c0 + 392) (e2 := 6 * c0 + 393) (by decide) (by omega) (by omega) (by omega)) rfl rfl hdd (Nat.le_refl _) (Nat.le_refl _) (by decide) (pm_kv (fun σ' cnt' hq => ?_))
    obtain ⟨rfl, rfl⟩ := hq
    obtain ⟨n_43, en_43⟩ : ∃ f : Nat → Int32, f = upd n_33 (6 * c0 + 392) (-1) := ⟨_, rfl⟩
    rw [← en_43]
    have hnn_43 := KI.w en_43 hnn_33 (okv_m (show kd (6 * c0 + 392) = (2, 20, false) from (kd_W (k := c0) (c := 2) (by omega) (by omega) (by decide))))
    have hrn_43 := NRx.w en_43 hrn_33 (by rw [(show kd (6 * c0 + 392) = (2, 20, false) from (kd_W (k := c0) (c := 2) (by omega) (by omega) (by decide)))])
    have ksn_43 := KS.w en_43 ksn_33 (by unfold tS; omega)
    have e44 : n_43 0 = nI kc0 := by rw [en_43, pk_un (by omega)]; exact e34
    have e45 : n_43 2 = nI kc2 := by rw [en_43, pk_un (by omega)]; exact e35
    have e46 : n_43 7 = nI kc7 := by rw [en_43, pk_un (by omega)]; exact e36
    have e47 : n_43 8 = nI kc8 := by rw [en_43, pk_un (by omega)]; exact e37
    have e48 : n_43 3 = nI (c0 + 1) := by rw [en_43, pk_un (by omega)]; exact e38
    have e49 : n_43 (6 * c0 + 390) = za := by rw [en_43, pk_un (by omega)]; exact e39
    have e50 : n_43 (6 * c0 + 391) = (-1) := by rw [en_43, pk_un (by omega)]; exact e40
    have e51 : n_43 (6 * c0 + 394) = zc := by rw [en_43, pk_un (by omega)]; exact e41
    have e52 : n_43 (6 * c0 + 395) = nI k32 := by rw [en_43, pk_un (by omega)]; exact e42
    have e53 : n_43 (6 * c0 + 392) = (-1) := by rw [en_43, pk_us]
    obtain ⟨n_54, en_54⟩ : ∃ f : Nat → Int32, f = upd n_43 (6 * c0 + 393) (-1) := ⟨_, rfl⟩
    rw [← en_54]
    have hnn_54 := KI.w en_54 hnn_43 (okv_f (show kd (6 * c0 + 393) = (0, 0, false) from (kd_W (k := c0) (c := 3) (by omega) (by omega) (by decide))))
    have hrn_54 := NRx.w en_54 hrn_43 (by rw [(show kd (6 * c0 + 393) = (0, 0, false) from (kd_W (k := c0) (c := 3) (by omega) (by omega) (by decide)))])
    have ksn_54 := KS.w en_54 ksn_43 (by unfold tS; omega)
    have e55 : n_54 0 = nI kc0 := by rw [en_54, pk_un (by omega)]; exact e44
    have e56 : n_54 2 = nI kc2 := by rw [en_54, pk_un (by omega)]; exact e45
    have e57 : n_54 7 = nI kc7 := by rw [en_54, pk_un (by omega)]; exact e46
    have e58 : n_54 8 = nI kc8 := by rw [en_54, pk_un (by omega)]; exact e47
    have e59 : n_54 3 = nI (c0 + 1) := by rw [en_54, pk_un (by omega)]; exact e48
    have e60 : n_54 (6 * c0 + 390) = za := by rw [en_54, pk_un (by omega)]; exact e49
    have e61 : n_54 (6 * c0 + 391) = (-1) := by rw [en_54, pk_un (by omega)]; exact e50
    have e62 : n_54 (6 * c0 + 394) = zc := by rw [en_54, pk_un (by omega)]; exact e51
    have e63 : n_54 (6 * c0 + 395) = nI k32 := by rw [en_54, pk_un (by omega)]; exact e52
    have e64 : n_54 (6 * c0 + 392) = (-1) := by rw [en_54, pk_un (by omega)]; exact e53
    have e65 : n_54 (6 * c0 + 393) = (-1) := by rw [en_54, pk_us]
    refine pm_iloadi hG dX12_newPower_67 rfl ?_
    exact pm_iret hG hF dX12_newPower_69 rfl (Nat.le_refl _) (Nat.le_refl _) ⟨_, rfl, ⟨_, rfl, hnn_54, hrn_54, e55.trans ekc0.symm, e56.trans ekc2.symm, e57.trans ekc7.symm, e58.trans ekc8.symm, ksn_54⟩, rfl⟩
  · refine pm_iloadi hG dX12_newPower_51 rfl ?_
    refine pm_goto (tgt := 58) hG dX12_newPower_53 rfl ?_
    refine pm_callV (As := [.int (nI c0), .int (nI 5), .int (nI c0)]) (rest := []) hG hR dX12_newPower_58 (lkX12_113 _ rfl) okV_X12_makes rfl rfl (m_makes (d := 1) (e := 6 * c0 + 395) (by omega) (by omega) (by omega)) rfl rfl hdd (Nat.le_refl _) (Nat.le_refl _) (by decide) (pm_kv (fun σ' cnt' hq => ?_))
    obtain ⟨rfl, rfl⟩ := hq
    obtain ⟨n_66, en_66⟩ : ∃ f : Nat → Int32, f = upd n_22 (6 * c0 + 395) (nI c0) := ⟨_, rfl⟩
    rw [← en_66]
    have hnn_66 := KI.w en_66 hnn_22 (okv_f (show kd (6 * c0 + 395) = (0, 0, false) from (kd_W (k := c0) (c := 5) (by omega) (by omega) (by decide))))
    have hrn_66 := NRx.w en_66 hrn_22 (by rw [(show kd (6 * c0 + 395) = (0, 0, false) from (kd_W (k := c0) (c := 5) (by omega) (by omega) (by decide)))])
    have ksn_66 := KS.w en_66 ksn_22 (by unfold tS; omega)
    have e67 : n_66 0 = nI kc0 := by rw [en_66, pk_un (by omega)]; exact e23
    have e68 : n_66 2 = nI kc2 := by rw [en_66, pk_un (by omega)]; exact e24
    have e69 : n_66 7 = nI kc7 := by rw [en_66, pk_un (by omega)]; exact e25
    have e70 : n_66 8 = nI kc8 := by rw [en_66, pk_un (by omega)]; exact e26
    have e71 : n_66 3 = nI (c0 + 1) := by rw [en_66, pk_un (by omega)]; exact e27
    have e72 : n_66 (6 * c0 + 390) = za := by rw [en_66, pk_un (by omega)]; exact e28
    have e73 : n_66 (6 * c0 + 391) = (-1) := by rw [en_66, pk_un (by omega)]; exact e29
    have e74 : n_66 (6 * c0 + 394) = zc := by rw [en_66, pk_un (by omega)]; exact e30
    have e75 : n_66 (6 * c0 + 395) = nI c0 := by rw [en_66, pk_us]
    refine pm_aloadn hG dX12_newPower_61 rfl ?_
    refine pm_iloadi hG dX12_newPower_62 rfl ?_
    refine pm_callV (As := [.int (nI c0)]) (rest := []) hG hR dX12_newPower_64 (lkX12_116 _ rfl) okV_X12_comesBack rfl rfl (m_comesBack (d := 1) (e := 6 * c0 + 392) (e2 := 6 * c0 + 393) (by decide) (by omega) (by omega) (by omega)) rfl rfl hdd (Nat.le_refl _) (Nat.le_refl _) (by decide) (pm_kv (fun σ' cnt' hq => ?_))
    obtain ⟨rfl, rfl⟩ := hq
    obtain ⟨n_76, en_76⟩ : ∃ f : Nat → Int32, f = upd n_66 (6 * c0 + 392) (-1) := ⟨_, rfl⟩
    rw [← en_76]
    have hnn_76 := KI.w en_76 hnn_66 (okv_m (show kd (6 * c0 + 392) = (2, 20, false) from (kd_W (k := c0) (c := 2) (by omega) (by omega) (by decide))))
    have hrn_76 := NRx.w en_76 hrn_66 (by rw [(show kd (6 * c0 + 392) = (2, 20, false) from (kd_W (k := c0) (c := 2) (by omega) (by omega) (by decide)))])
    have ksn_76 := KS.w en_76 ksn_66 (by unfold tS; omega)
    have e77 : n_76 0 = nI kc0 := by rw [en_76, pk_un (by omega)]; exact e67
    have e78 : n_76 2 = nI kc2 := by rw [en_76, pk_un (by omega)]; exact e68
    have e79 : n_76 7 = nI kc7 := by rw [en_76, pk_un (by omega)]; exact e69
    have e80 : n_76 8 = nI kc8 := by rw [en_76, pk_un (by omega)]; exact e70
    have e81 : n_76 3 = nI (c0 + 1) := by rw [en_76, pk_un (by omega)]; exact e71
    have e82 : n_76 (6 * c0 + 390) = za := by rw [en_76, pk_un (by omega)]; exact e72
    have e83 : n_76 (6 * c0 + 391) = (-1) := by rw [en_76, pk_un (by omega)]; exact e73
    have e84 : n_76 (6 * c0 + 394) = zc := by rw [en_76, pk_un (by omega)]; exact e74
    have e85 : n_76 (6 * c0 + 395) = nI c0 := by rw [en_76, pk_un (by omega)]; exact e75
    have e86 : n_76 (6 * c0 + 392) = (-1) := by rw [en_76, pk_us]
    obtain ⟨n_87, en_87⟩ : ∃ f : Nat → Int32, f = upd n_76 (6 * c0 + 393) (-1) := ⟨_, rfl⟩
    rw [← en_87]
    have hnn_87 := KI.w en_87 hnn_76 (okv_f (show kd (6 * c0 + 393) = (0, 0, false) from (kd_W (k := c0) (c := 3) (by omega) (by omega) (by decide))))
    have hrn_87 := NRx.w en_87 hrn_76 (by rw [(show kd (6 * c0 + 393) = (0, 0, false) from (kd_W (k := c0) (c := 3) (by omega) (by omega) (by decide)))])
    have ksn_87 := KS.w en_87 ksn_76 (by unfold tS; omega)
    have e88 : n_87 0 = nI kc0 := by rw [en_87, pk_un (by omega)]; exact e77
    have e89 : n_87 2 = nI kc2 := by rw [en_87, pk_un (by omega)]; exact e78
    have e90 : n_87 7 = nI kc7 := by rw [en_87, pk_un (by omega)]; exact e79
    have e91 : n_87 8 = nI kc8 := by rw [en_87, pk_un (by omega)]; exact e80
    have e92 : n_87 3 = nI (c0 + 1) := by rw [en_87, pk_un (by omega)]; exact e81
    have e93 : n_87 (6 * c0 + 390) = za := by rw [en_87, pk_un (by omega)]; exact e82
    have e94 : n_87 (6 * c0 + 391) = (-1) := by rw [en_87, pk_un (by omega)]; exact e83
    have e95 : n_87 (6 * c0 + 394) = zc := by rw [en_87, pk_un (by omega)]; exact e84
    have e96 : n_87 (6 * c0 + 395) = nI c0 := by rw [en_87, pk_un (by omega)]; exact e85
    have e97 : n_87 (6 * c0 + 392) = (-1) := by rw [en_87, pk_un (by omega)]; exact e86
    have e98 : n_87 (6 * c0 + 393) = (-1) := by rw [en_87, pk_us]
    refine pm_iloadi hG dX12_newPower_67 rfl ?_
    exact pm_iret hG hF dX12_newPower_69 rfl (Nat.le_refl _) (Nat.le_refl _) ⟨_, rfl, ⟨_, rfl, hnn_87, hrn_87, e88.trans ekc0.symm, e89.trans ekc2.symm, e90.trans ekc7.symm, e91.trans ekc8.symm, ksn_87⟩, rfl⟩

set_option maxRecDepth 100000 in
set_option maxHeartbeats 4000000 in
theorem m_power {d B cnt p0 t0 : Nat} {σ : pm_S} {I : Nat → Int32} {A : Nat → Nat → Int32} {n k z : Nat → Int32} {ac wt pl im : Int32} {za zb zc : Int32} (hdd : 3 ≤ d) (hn : KI n) (hr : NR n) (hz : SZ z)  : pm_met mX12_power d 0 0 B [.ref (B + 54), .int za, .int zb, .int zc] cnt (pm_mid σ (md_L B I A n k z ac wt pl (nI p0) (nI t0) im)) (pm_Qi (fun v σ' cnt' => (∃ (I' : Nat → Int32) (A' : Nat → Nat → Int32) (n' : Nat → Int32), σ' = pm_mid σ (md_L B I' A' n' k z ac wt pl (nI p0) (nI t0) im) ∧ KI n' ∧ NR n' ∧ n' 0 = n 0 ∧ n' 2 = n 2 ∧ n' 7 = n 7 ∧ n' 8 = n 8 ∧ KS n' n) ∧ cnt = cnt')) := by
  obtain ⟨kc0, hkc0, ekc0⟩ := KI.nat hn (show kd 0 = (1, 11, true) by decide)
  obtain ⟨kc2, hkc2, ekc2⟩ := KI.nat hn (show kd 2 = (1, 21, true) by decide)
  obtain ⟨kc7, hkc7, ekc7⟩ := KI.nat hn (show kd 7 = (1, 31, false) by decide)
  obtain ⟨kc8, hkc8, ekc8⟩ := KI.nat hn (show kd 8 = (1, 2001, false) by decide)
  refine pm_enter 0 (by decide) (Nat.le_of_ble_eq_true rfl) rfl (fun G hG hR hF => ?_)
  refine pm_iloadn hG dX12_power_0 rfl ?_
  refine pm_iconst (v := nI 0) hG dX12_power_1 (by decide) ?_
  refine pm_iconst (v := nI 5) hG dX12_power_2 (by decide) ?_
  refine pm_callS (As := [.int za, .int (nI 0), .int (nI 5)]) (rest := []) hG hR dX12_power_3 (lkX12_68 _ rfl) okS_X12_in (m_in (d := 2)) rfl rfl hdd (Nat.le_refl _) (Nat.le_refl _) (by decide) (pm_ki (fun v1 σ' cnt' hq => ?_))
  obtain ⟨hq, rfl, rfl⟩ := hq
  rcases hq with ⟨rfl, ac2, bc2⟩ | ⟨rfl, c2⟩
  · obtain ⟨k3, hk3, ek3⟩ := in_nat (by omega) (by omega) ac2 bc2
    refine pm_ifN_eq (tgt := 40) hG dX12_power_6 rfl (by omega) (fun q => absurd q (by omega)) (fun _ => ?_)
    refine pm_iloadn hG dX12_power_9 rfl ?_
    refine pm_iconst (v := (-1)) hG dX12_power_10 (by decide) ?_
    refine pm_icmp_eq (tgt := 30) hG dX12_power_11 rfl (fun c4 => ?_) (fun c4 => ?_)
    · refine pm_iloadn hG dX12_power_30 rfl ?_
      refine pm_iconst (v := nI 0) hG dX12_power_31 (by decide) ?_
      refine pm_bipush (v := nI 99) hG dX12_power_32 (by decide) ?_
      refine pm_callS (As := [.int zc, .int (nI 0), .int (nI 99)]) (rest := []) hG hR dX12_power_34 (lkX12_68 _ rfl) okS_X12_in (m_in (d := 2)) rfl rfl hdd (Nat.le_refl _) (Nat.le_refl _) (by decide) (pm_ki (fun v5 σ' cnt' hq => ?_))
      obtain ⟨hq, rfl, rfl⟩ := hq
      rcases hq with ⟨rfl, ac6, bc6⟩ | ⟨rfl, c6⟩
      · obtain ⟨k7, hk7, ek7⟩ := in_nat (by omega) (by omega) ac6 bc6
        refine pm_ifN_ne (tgt := 46) hG dX12_power_37 rfl (by omega) (fun _ => ?_) (fun q => absurd q (by omega))
        refine pm_aloadn hG dX12_power_46 rfl ?_
        refine pm_getf hG dX12_power_47 (flX12_7 _ rfl) rfl rfl ?_
        refine pm_iconst (v := nI 3) hG dX12_power_50 (by decide) ?_
        refine pm_ialdN hG dX12_power_51 rfl (by decide) (by omega) ?_
        obtain ⟨k8, hk8, ek8⟩ := KI.nat hn (show kd 3 = (1, 21, false) by decide)
        refine pm_top (v := nI k8) ek8 ?_
        refine pm_bipush (v := nI 20) hG dX12_power_52 (by decide) ?_
        refine pm_icmpN_ne (tgt := 65) hG dX12_power_54 rfl (by omega) (by omega) (fun c9 => ?_) (fun c9 => ?_)
        · refine pm_aloadn hG dX12_power_65 rfl ?_
          refine pm_iloadn hG dX12_power_66 rfl ?_
          refine pm_top (v := nI k3) ek3 ?_
          refine pm_iloadn hG dX12_power_67 rfl ?_
          refine pm_top (v := (-1)) c4 ?_
          refine pm_iloadn hG dX12_power_68 rfl ?_
          refine pm_top (v := nI k7) ek7 ?_
          refine pm_iconst (v := (-1)) hG dX12_power_69 (by decide) ?_
          refine pm_callV (As := [.int (nI k3), .int (-1), .int (nI k7), .int (-1)]) (rest := []) hG hR dX12_power_70 (lkX12_128 _ rfl) okV_X12_newPower rfl rfl (m_newPower_m (d := 2) (by decide) hn hr hz ek8 (by omega)) rfl rfl hdd (Nat.le_refl _) (Nat.le_refl _) (by decide) (pm_ki (fun v10 σ' cnt' hq => ?_))
          obtain ⟨⟨n_11, rfl, hn11, hr11, hc11_0, hc11_2, hc11_7, hc11_8, hks11⟩, rfl⟩ := hq
          have e12 : n_11 0 = nI kc0 := hc11_0.trans ekc0
          have e13 : n_11 2 = nI kc2 := hc11_2.trans ekc2
          have e14 : n_11 7 = nI kc7 := hc11_7.trans ekc7
          have e15 : n_11 8 = nI kc8 := hc11_8.trans ekc8
          exact pm_iret hG hF dX12_power_73 rfl (Nat.le_refl _) (Nat.le_refl _) ⟨_, rfl, ⟨_, _, _, rfl, hn11, hr11, e12.trans ekc0.symm, e13.trans ekc2.symm, e14.trans ekc7.symm, e15.trans ekc8.symm, (hks11.tr KS.rf)⟩, rfl⟩
        · refine pm_aloadn hG dX12_power_57 rfl ?_
          refine pm_iconst (v := nI 4) hG dX12_power_58 (by decide) ?_
          refine pm_callV (As := [.int (nI 4)]) (rest := []) hG hR dX12_power_59 (lkX12_80 _ rfl) okV_X12_finds rfl rfl (m_finds (d := 2) (by decide) hn hz (by omega)) rfl rfl hdd (Nat.le_refl _) (Nat.le_refl _) (by decide) (pm_ki (fun v16 σ' cnt' hq => ?_))
          obtain ⟨⟨I17, A17, rfl⟩, rfl, fv16⟩ := hq
          refine pm_goto (tgt := 73) hG dX12_power_62 rfl ?_
          exact pm_iret hG hF dX12_power_73 rfl (Nat.le_refl _) (Nat.le_refl _) ⟨_, rfl, ⟨_, _, _, rfl, hn, hr, ekc0.trans ekc0.symm, ekc2.trans ekc2.symm, ekc7.trans ekc7.symm, ekc8.trans ekc8.symm, KS.rf⟩, rfl⟩
      · refine pm_ifN_ne (tgt := 46) hG dX12_power_37 rfl (by omega) (fun q => absurd q (by omega)) (fun _ => ?_)
        refine pm_aloadn hG dX12_power_40 rfl ?_
        refine pm_iconst (v := nI 1) hG dX12_power_41 (by decide) ?_
        refine pm_callV (As := [.int (nI 1)]) (rest := []) hG hR dX12_power_42 (lkX12_80 _ rfl) okV_X12_finds rfl rfl (m_finds (d := 2) (by decide) hn hz (by omega)) rfl rfl hdd (Nat.le_refl _) (Nat.le_refl _) (by decide) (pm_ki (fun v18 σ' cnt' hq => ?_))
        obtain ⟨⟨I19, A19, rfl⟩, rfl, fv18⟩ := hq
        exact pm_iret hG hF dX12_power_45 rfl (Nat.le_refl _) (Nat.le_refl _) ⟨_, rfl, ⟨_, _, _, rfl, hn, hr, ekc0.trans ekc0.symm, ekc2.trans ekc2.symm, ekc7.trans ekc7.symm, ekc8.trans ekc8.symm, KS.rf⟩, rfl⟩
    · refine pm_aloadn hG dX12_power_14 rfl ?_
      refine pm_iloadn hG dX12_power_15 rfl ?_
      refine pm_callV (As := [.int zb]) (rest := []) hG hR dX12_power_16 (lkX12_91 _ rfl) okV_X12_isPerson rfl rfl (m_isPerson (d := 2) (by decide) ekc2 (by omega)) rfl rfl hdd (Nat.le_refl _) (Nat.le_refl _) (by decide) (pm_ki (fun v20 σ' cnt' hq => ?_))
      obtain ⟨hq, rfl, rfl⟩ := hq
      rcases hq with ⟨rfl, k22, hk22, ek22⟩ | ⟨rfl, ntk22⟩
      · refine pm_ifN_eq (tgt := 40) hG dX12_power_19 rfl (by omega) (fun q => absurd q (by omega)) (fun _ => ?_)
        refine pm_aloadn hG dX12_power_22 rfl ?_
        refine pm_iloadn hG dX12_power_23 rfl ?_
        refine pm_top (v := nI k22) ek22 ?_
        rcases KI.opt hn (show kd (14 * k22 + 119) = (2, 2001, false) from (kd_P (k := k22) (c := 9) (by omega) (by omega) (by decide))) with ek23 | ⟨k23, hk23, ek23⟩
        · refine pm_callV (As := [.int (nI k22)]) (rest := []) hG hR dX12_power_24 (lkX12_101 _ rfl) okV_X12_lives rfl rfl (m_lives1 (d := 2) (by decide) (by omega) (by omega : 14 * k22 + 119 = 14 * k22 + 119) ek23) rfl rfl hdd (Nat.le_refl _) (Nat.le_refl _) (by decide) (pm_ki (fun v24 σ' cnt' hq => ?_))
          obtain ⟨rfl, rfl, rfl⟩ := hq
          refine pm_ifN_eq (tgt := 40) hG dX12_power_27 rfl (by omega) (fun q => absurd q (by omega)) (fun _ => ?_)
          refine pm_iloadn hG dX12_power_30 rfl ?_
          refine pm_iconst (v := nI 0) hG dX12_power_31 (by decide) ?_
          refine pm_bipush (v := nI 99) hG dX12_power_32 (by decide) ?_
          refine pm_callS (As := [.int zc, .int (nI 0), .int (nI 99)]) (rest := []) hG hR dX12_power_34 (lkX12_68 _ rfl) okS_X12_in (m_in (d := 2)) rfl rfl hdd (Nat.le_refl _) (Nat.le_refl _) (by decide) (pm_ki (fun v25 σ' cnt' hq => ?_))
          obtain ⟨hq, rfl, rfl⟩ := hq
          rcases hq with ⟨rfl, ac26, bc26⟩ | ⟨rfl, c26⟩
          · obtain ⟨k27, hk27, ek27⟩ := in_nat (by omega) (by omega) ac26 bc26
            refine pm_ifN_ne (tgt := 46) hG dX12_power_37 rfl (by omega) (fun _ => ?_) (fun q => absurd q (by omega))
            refine pm_aloadn hG dX12_power_46 rfl ?_
            refine pm_getf hG dX12_power_47 (flX12_7 _ rfl) rfl rfl ?_
            refine pm_iconst (v := nI 3) hG dX12_power_50 (by decide) ?_
            refine pm_ialdN hG dX12_power_51 rfl (by decide) (by omega) ?_
            obtain ⟨k28, hk28, ek28⟩ := KI.nat hn (show kd 3 = (1, 21, false) by decide)
            refine pm_top (v := nI k28) ek28 ?_
            refine pm_bipush (v := nI 20) hG dX12_power_52 (by decide) ?_
            refine pm_icmpN_ne (tgt := 65) hG dX12_power_54 rfl (by omega) (by omega) (fun c29 => ?_) (fun c29 => ?_)
            · refine pm_aloadn hG dX12_power_65 rfl ?_
              refine pm_iloadn hG dX12_power_66 rfl ?_
              refine pm_top (v := nI k3) ek3 ?_
              refine pm_iloadn hG dX12_power_67 rfl ?_
              refine pm_top (v := nI k22) ek22 ?_
              refine pm_iloadn hG dX12_power_68 rfl ?_
              refine pm_top (v := nI k27) ek27 ?_
              refine pm_iconst (v := (-1)) hG dX12_power_69 (by decide) ?_
              refine pm_callV (As := [.int (nI k3), .int (nI k22), .int (nI k27), .int (-1)]) (rest := []) hG hR dX12_power_70 (lkX12_128 _ rfl) okV_X12_newPower rfl rfl (m_newPower_n20 (d := 2) (by decide) hn hr hz (by omega) ek28 (by omega)) rfl rfl hdd (Nat.le_refl _) (Nat.le_refl _) (by decide) (pm_ki (fun v30 σ' cnt' hq => ?_))
              obtain ⟨⟨n_31, rfl, hn31, hr31, hc31_0, hc31_2, hc31_7, hc31_8, hks31⟩, rfl⟩ := hq
              have e32 : n_31 0 = nI kc0 := hc31_0.trans ekc0
              have e33 : n_31 2 = nI kc2 := hc31_2.trans ekc2
              have e34 : n_31 7 = nI kc7 := hc31_7.trans ekc7
              have e35 : n_31 8 = nI kc8 := hc31_8.trans ekc8
              exact pm_iret hG hF dX12_power_73 rfl (Nat.le_refl _) (Nat.le_refl _) ⟨_, rfl, ⟨_, _, _, rfl, hn31, hr31, e32.trans ekc0.symm, e33.trans ekc2.symm, e34.trans ekc7.symm, e35.trans ekc8.symm, (hks31.tr KS.rf)⟩, rfl⟩
            · refine pm_aloadn hG dX12_power_57 rfl ?_
              refine pm_iconst (v := nI 4) hG dX12_power_58 (by decide) ?_
              refine pm_callV (As := [.int (nI 4)]) (rest := []) hG hR dX12_power_59 (lkX12_80 _ rfl) okV_X12_finds rfl rfl (m_finds (d := 2) (by decide) hn hz (by omega)) rfl rfl hdd (Nat.le_refl _) (Nat.le_refl _) (by decide) (pm_ki (fun v36 σ' cnt' hq => ?_))
              obtain ⟨⟨I37, A37, rfl⟩, rfl, fv36⟩ := hq
              refine pm_goto (tgt := 73) hG dX12_power_62 rfl ?_
              exact pm_iret hG hF dX12_power_73 rfl (Nat.le_refl _) (Nat.le_refl _) ⟨_, rfl, ⟨_, _, _, rfl, hn, hr, ekc0.trans ekc0.symm, ekc2.trans ekc2.symm, ekc7.trans ekc7.symm, ekc8.trans ekc8.symm, KS.rf⟩, rfl⟩
          · refine pm_ifN_ne (tgt := 46) hG dX12_power_37 rfl (by omega) (fun q => absurd q (by omega)) (fun _ => ?_)
            refine pm_aloadn hG dX12_power_40 rfl ?_
            refine pm_iconst (v := nI 1) hG dX12_power_41 (by decide) ?_
            refine pm_callV (As := [.int (nI 1)]) (rest := []) hG hR dX12_power_42 (lkX12_80 _ rfl) okV_X12_finds rfl rfl (m_finds (d := 2) (by decide) hn hz (by omega)) rfl rfl hdd (Nat.le_refl _) (Nat.le_refl _) (by decide) (pm_ki (fun v38 σ' cnt' hq => ?_))
            obtain ⟨⟨I39, A39, rfl⟩, rfl, fv38⟩ := hq
            exact pm_iret hG hF dX12_power_45 rfl (Nat.le_refl _) (Nat.le_refl _) ⟨_, rfl, ⟨_, _, _, rfl, hn, hr, ekc0.trans ekc0.symm, ekc2.trans ekc2.symm, ekc7.trans ekc7.symm, ekc8.trans ekc8.symm, KS.rf⟩, rfl⟩
        · refine pm_callV (As := [.int (nI k22)]) (rest := []) hG hR dX12_power_24 (lkX12_101 _ rfl) okV_X12_lives rfl rfl (m_lives0 (d := 2) (by decide) (by omega) (by omega : 14 * k22 + 119 = 14 * k22 + 119) ek23 (by omega)) rfl rfl hdd (Nat.le_refl _) (Nat.le_refl _) (by decide) (pm_ki (fun v40 σ' cnt' hq => ?_))
          obtain ⟨rfl, rfl, rfl⟩ := hq
          refine pm_ifN_eq (tgt := 40) hG dX12_power_27 rfl (by omega) (fun _ => ?_) (fun q => absurd q (by omega))
          refine pm_aloadn hG dX12_power_40 rfl ?_
          refine pm_iconst (v := nI 1) hG dX12_power_41 (by decide) ?_
          refine pm_callV (As := [.int (nI 1)]) (rest := []) hG hR dX12_power_42 (lkX12_80 _ rfl) okV_X12_finds rfl rfl (m_finds (d := 2) (by decide) hn hz (by omega)) rfl rfl hdd (Nat.le_refl _) (Nat.le_refl _) (by decide) (pm_ki (fun v41 σ' cnt' hq => ?_))
          obtain ⟨⟨I42, A42, rfl⟩, rfl, fv41⟩ := hq
          exact pm_iret hG hF dX12_power_45 rfl (Nat.le_refl _) (Nat.le_refl _) ⟨_, rfl, ⟨_, _, _, rfl, hn, hr, ekc0.trans ekc0.symm, ekc2.trans ekc2.symm, ekc7.trans ekc7.symm, ekc8.trans ekc8.symm, KS.rf⟩, rfl⟩
      · refine pm_ifN_eq (tgt := 40) hG dX12_power_19 rfl (by omega) (fun _ => ?_) (fun q => absurd q (by omega))
        refine pm_aloadn hG dX12_power_40 rfl ?_
        refine pm_iconst (v := nI 1) hG dX12_power_41 (by decide) ?_
        refine pm_callV (As := [.int (nI 1)]) (rest := []) hG hR dX12_power_42 (lkX12_80 _ rfl) okV_X12_finds rfl rfl (m_finds (d := 2) (by decide) hn hz (by omega)) rfl rfl hdd (Nat.le_refl _) (Nat.le_refl _) (by decide) (pm_ki (fun v43 σ' cnt' hq => ?_))
        obtain ⟨⟨I44, A44, rfl⟩, rfl, fv43⟩ := hq
        exact pm_iret hG hF dX12_power_45 rfl (Nat.le_refl _) (Nat.le_refl _) ⟨_, rfl, ⟨_, _, _, rfl, hn, hr, ekc0.trans ekc0.symm, ekc2.trans ekc2.symm, ekc7.trans ekc7.symm, ekc8.trans ekc8.symm, KS.rf⟩, rfl⟩
  · refine pm_ifN_eq (tgt := 40) hG dX12_power_6 rfl (by omega) (fun _ => ?_) (fun q => absurd q (by omega))
    refine pm_aloadn hG dX12_power_40 rfl ?_
    refine pm_iconst (v := nI 1) hG dX12_power_41 (by decide) ?_
    refine pm_callV (As := [.int (nI 1)]) (rest := []) hG hR dX12_power_42 (lkX12_80 _ rfl) okV_X12_finds rfl rfl (m_finds (d := 2) (by decide) hn hz (by omega)) rfl rfl hdd (Nat.le_refl _) (Nat.le_refl _) (by decide) (pm_ki (fun v45 σ' cnt' hq => ?_))
    obtain ⟨⟨I46, A46, rfl⟩, rfl, fv45⟩ := hq
    exact pm_iret hG hF dX12_power_45 rfl (Nat.le_refl _) (Nat.le_refl _) ⟨_, rfl, ⟨_, _, _, rfl, hn, hr, ekc0.trans ekc0.symm, ekc2.trans ekc2.symm, ekc7.trans ekc7.symm, ekc8.trans ekc8.symm, KS.rf⟩, rfl⟩
