set_option maxRecDepth 100000 in
set_option maxHeartbeats 4000000 in
theorem m_quarter {d B cnt p0 t0 : Nat} {σ : pm_S} {I : Nat → Int32} {A : Nat → Nat → Int32} {n k z : Nat → Int32} {ac wt pl im : Int32} (hdd : 2 ≤ d) (hn : KI n) (hr : NR n) (hz : SZ z)  : pm_met mX12_quarter d 0 0 B [.ref (B + 54)] cnt (pm_mid σ (md_L B I A n k z ac wt pl (nI p0) (nI t0) im)) (pm_Qv (fun σ' cnt' => (∃ (n' : Nat → Int32), σ' = pm_mid σ (md_L B I A n' k z ac wt pl (nI p0) (nI t0) im) ∧ KI n' ∧ NR n' ∧ n' 0 = n 0 ∧ n' 2 = n 2 ∧ n' 7 = n 7 ∧ n' 8 = n 8 ∧ KS n' n) ∧ cnt = cnt')) := by
  obtain ⟨kc0, hkc0, ekc0⟩ := KI.nat hn (show kd 0 = (1, 11, true) by decide)
  obtain ⟨kc2, hkc2, ekc2⟩ := KI.nat hn (show kd 2 = (1, 21, true) by decide)
  obtain ⟨kc7, hkc7, ekc7⟩ := KI.nat hn (show kd 7 = (1, 31, false) by decide)
  obtain ⟨kc8, hkc8, ekc8⟩ := KI.nat hn (show kd 8 = (1, 2001, false) by decide)
  refine pm_enter 4 (by decide) (Nat.le_of_ble_eq_true rfl) rfl (fun G hG hR hF => ?_)
  refine pm_iconst (v := nI 0) hG dX12_quarter_0 (by decide) ?_
  refine pm_istoreXn (loc' := [some (.ref (B + 54)), some (.int (nI 0)), none, none, none]) hG dX12_quarter_1 (by decide) (pm_c1b rfl) rfl ?_
  have loop2_1 : ∀ (m1 : Nat) (n_1 : Nat → Int32) (i1 : Nat), KI n_1 → KS n_1 n → NRx 40 n_1 → n_1 8 = nI kc8 → n_1 0 = nI kc0 → n_1 2 = nI kc2 → n_1 7 = nI kc7 → i1 ≤ 10 → 10 - i1 < m1 → pm_wp mX12_quarter G B 2 [some (.ref (B + 54)), some (.int (nI i1)), none, none, none] [] 0 0 cnt (pm_mid σ (md_L B I A n_1 k z ac wt pl (nI p0) (nI t0) im)) := by
    intro m1
    induction m1 with
    | zero => intro n_1 i1 _ _ _ _ _ _ _ _ hm; exact absurd hm (Nat.not_lt_zero _)
    | succ m1 ih1 =>
      intro n_1 i1 hnn_1 ksn_1 hrn_1 kc1_8 kc1_0 kc1_2 kc1_7 hi1 hm1
      refine pm_iloadn hG dX12_quarter_2 rfl ?_
      refine pm_aloadn hG dX12_quarter_3 rfl ?_
      refine pm_getf hG dX12_quarter_4 (flX12_7 _ rfl) rfl rfl ?_
      refine pm_iconst (v := nI 0) hG dX12_quarter_7 (by decide) ?_
      refine pm_ialdN hG dX12_quarter_8 rfl (by decide) (by omega) ?_
      refine pm_top (v := nI kc0) kc1_0 ?_
      refine pm_icmpN_ge (tgt := 101) hG dX12_quarter_9 rfl (by omega) (by omega) (fun c2 => ?_) (fun c2 => ?_)
      · refine pm_iconst (v := nI 0) hG dX12_quarter_101 (by decide) ?_
        refine pm_istoreXn (loc' := [some (.ref (B + 54)), some (.int (nI 0)), none, none, none]) hG dX12_quarter_102 (by decide) (pm_c1b rfl) rfl ?_
        have loop103_3 : ∀ (m3 : Nat) (n_3 : Nat → Int32) (i3 : Nat), KI n_3 → KS n_3 n → NRx 40 n_3 → n_3 8 = nI kc8 → n_3 0 = nI kc0 → n_3 2 = nI kc2 → n_3 7 = nI kc7 → i3 ≤ 20 → 20 - i3 < m3 → pm_wp mX12_quarter G B 103 [some (.ref (B + 54)), some (.int (nI i3)), none, none, none] [] 0 0 cnt (pm_mid σ (md_L B I A n_3 k z ac wt pl (nI p0) (nI t0) im)) := by
          intro m3
          induction m3 with
          | zero => intro n_3 i3 _ _ _ _ _ _ _ _ hm; exact absurd hm (Nat.not_lt_zero _)
          | succ m3 ih3 =>
            intro n_3 i3 hnn_3 ksn_3 hrn_3 kc3_8 kc3_0 kc3_2 kc3_7 hi3 hm3
            refine pm_iloadn hG dX12_quarter_103 rfl ?_
            refine pm_aloadn hG dX12_quarter_104 rfl ?_
            refine pm_getf hG dX12_quarter_105 (flX12_7 _ rfl) rfl rfl ?_
            refine pm_iconst (v := nI 2) hG dX12_quarter_108 (by decide) ?_
            refine pm_ialdN hG dX12_quarter_109 rfl (by decide) (by omega) ?_
            refine pm_top (v := nI kc2) kc3_2 ?_
            refine pm_icmpN_ge (tgt := 178) hG dX12_quarter_110 rfl (by omega) (by omega) (fun c4 => ?_) (fun c4 => ?_)
            · refine pm_iconst (v := nI 0) hG dX12_quarter_178 (by decide) ?_
              refine pm_istoreXn (loc' := [some (.ref (B + 54)), some (.int (nI 0)), none, none, none]) hG dX12_quarter_179 (by decide) (pm_c1b rfl) rfl ?_
              have loop180_5 : ∀ (m5 : Nat) (n_5 : Nat → Int32) (i5 : Nat), KI n_5 → KS n_5 n → NRx 40 n_5 → n_5 8 = nI kc8 → n_5 0 = nI kc0 → n_5 2 = nI kc2 → n_5 7 = nI kc7 → i5 ≤ 6 → 6 - i5 < m5 → pm_wp mX12_quarter G B 180 [some (.ref (B + 54)), some (.int (nI i5)), none, none, none] [] 0 0 cnt (pm_mid σ (md_L B I A n_5 k z ac wt pl (nI p0) (nI t0) im)) := by
                intro m5
                induction m5 with
                | zero => intro n_5 i5 _ _ _ _ _ _ _ _ hm; exact absurd hm (Nat.not_lt_zero _)
                | succ m5 ih5 =>
                  intro n_5 i5 hnn_5 ksn_5 hrn_5 kc5_8 kc5_0 kc5_2 kc5_7 hi5 hm5
                  refine pm_iloadn hG dX12_quarter_180 rfl ?_
                  refine pm_aloadn hG dX12_quarter_181 rfl ?_
                  refine pm_getf hG dX12_quarter_182 (flX12_7 _ rfl) rfl rfl ?_
                  refine pm_bipush (v := nI 6) hG dX12_quarter_185 (by decide) ?_
                  refine pm_ialdN hG dX12_quarter_187 rfl (by decide) (by omega) ?_
                  obtain ⟨k6, hk6, ek6⟩ := KI.nat hnn_5 (show kd 6 = (1, 7, false) by decide)
                  refine pm_top (v := nI k6) ek6 ?_
                  refine pm_icmpN_ge (tgt := 369) hG dX12_quarter_188 rfl (by omega) (by omega) (fun c7 => ?_) (fun c7 => ?_)
                  · exact pm_vret hG hF dX12_quarter_369 rfl (Nat.le_refl _) (Nat.le_refl _) ⟨rfl, ⟨_, rfl, hnn_5, hrn_5, kc5_0.trans ekc0.symm, kc5_2.trans ekc2.symm, kc5_7.trans ekc7.symm, kc5_8.trans ekc8.symm, ksn_5⟩, rfl⟩
                  · refine pm_sipush (v := nI 1770) hG dX12_quarter_191 (by decide) ?_
                    refine pm_bipush (v := nI 6) hG dX12_quarter_194 (by decide) ?_
                    refine pm_iloadn hG dX12_quarter_196 rfl ?_
                    refine pm_imulN (c := 6 * i5) hG dX12_quarter_197 (by omega) ?_
                    refine pm_iaddN (c := 6 * i5 + 1770) hG dX12_quarter_198 (by omega) ?_
                    refine pm_istoreXn (loc' := [some (.ref (B + 54)), some (.int (nI i5)), some (.int (nI (6 * i5 + 1770))), none, none]) hG dX12_quarter_199 (by decide) (pm_c1b rfl) rfl ?_
                    refine pm_aloadn hG dX12_quarter_200 rfl ?_
                    refine pm_getf hG dX12_quarter_201 (flX12_7 _ rfl) rfl rfl ?_
                    refine pm_iloadn hG dX12_quarter_204 rfl ?_
                    refine pm_ialdN hG dX12_quarter_205 rfl (by decide) (by omega) ?_
                    refine pm_gen (fun x8 ex8 => ?_)
                    refine pm_aloadn hG dX12_quarter_206 rfl ?_
                    refine pm_getf hG dX12_quarter_207 (flX12_7 _ rfl) rfl rfl ?_
                    refine pm_iloadn hG dX12_quarter_210 rfl ?_
                    refine pm_ialdN hG dX12_quarter_211 rfl (by decide) (by omega) ?_
                    refine pm_top (v := x8) ex8 ?_
                    refine pm_aloadn hG dX12_quarter_212 rfl ?_
                    refine pm_getf hG dX12_quarter_213 (flX12_7 _ rfl) rfl rfl ?_
                    refine pm_iloadn hG dX12_quarter_216 rfl ?_
                    refine pm_iconst (v := nI 1) hG dX12_quarter_217 (by decide) ?_
                    refine pm_iaddN (c := 6 * i5 + 1771) hG dX12_quarter_218 (by omega) ?_
                    refine pm_ialdN hG dX12_quarter_219 rfl (by decide) (by omega) ?_
                    refine pm_gen (fun x9 ex9 => ?_)
                    refine pm_imul hG dX12_quarter_220 ?_
                    refine pm_bipush (v := nI 100) hG dX12_quarter_221 (by decide) ?_
                    refine pm_idiv hG dX12_quarter_223 (by decide) ?_
                    refine pm_any (fun x10 => ?_)
                    refine pm_iadd hG dX12_quarter_224 ?_
                    refine pm_istoreXn (loc' := [some (.ref (B + 54)), some (.int (nI i5)), some (.int (nI (6 * i5 + 1770))), some (.int (x8 + x10)), none]) hG dX12_quarter_225 (by decide) (pm_c1b rfl) rfl ?_
                    refine pm_aloadn hG dX12_quarter_226 rfl ?_
                    refine pm_getf hG dX12_quarter_227 (flX12_7 _ rfl) rfl rfl ?_
                    refine pm_iloadn hG dX12_quarter_230 rfl ?_
                    refine pm_iloadn hG dX12_quarter_231 rfl ?_
                    refine pm_ldc hG dX12_quarter_232 (ctX12_235 _ rfl) ?_
                    refine pm_top (v := nI 999999) (by decide) ?_
                    refine pm_icmp_ge (tgt := 241) hG dX12_quarter_234 rfl (fun c11 => ?_) (fun c11 => ?_)
                    · refine pm_ldc hG dX12_quarter_241 (ctX12_235 _ rfl) ?_
                      refine pm_top (v := nI 999999) (by decide) ?_
                      refine pm_iastN hG dX12_quarter_243 rfl (by decide) (by omega) ?_
                      refine mdn_now (fun n_12 en_12 => ?_)
                      have hnn_12 := KI.w en_12 hnn_5 (okv_f (show kd (6 * i5 + 1770) = (0, 0, false) from (kd_D (k := i5) (c := 0) (by omega) (by omega) (by decide))))
                      have hrn_12 := NRx.w en_12 hrn_5 (by rw [(show kd (6 * i5 + 1770) = (0, 0, false) from (kd_D (k := i5) (c := 0) (by omega) (by omega) (by decide)))])
                      have ksn_12 := KS.w en_12 ksn_5 (by unfold tS; omega)
                      have e13 : n_12 8 = nI kc8 := by rw [en_12, pk_un (by omega)]; exact kc5_8
                      have e14 : n_12 0 = nI kc0 := by rw [en_12, pk_un (by omega)]; exact kc5_0
                      have e15 : n_12 2 = nI kc2 := by rw [en_12, pk_un (by omega)]; exact kc5_2
                      have e16 : n_12 7 = nI kc7 := by rw [en_12, pk_un (by omega)]; exact kc5_7
                      have e17 : n_12 6 = nI k6 := by rw [en_12, pk_un (by omega)]; exact ek6
                      have e18 : n_12 (6 * i5 + 1771) = x9 := by rw [en_12, pk_un (by omega)]; exact ex9
                      have e19 : n_12 (6 * i5 + 1770) = nI 999999 := by rw [en_12, pk_us]
                      refine pm_aloadn hG dX12_quarter_244 rfl ?_
                      refine pm_getf hG dX12_quarter_245 (flX12_7 _ rfl) rfl rfl ?_
                      refine pm_iloadn hG dX12_quarter_248 rfl ?_
                      refine pm_ialdN hG dX12_quarter_249 rfl (by decide) (by omega) ?_
                      refine pm_top (v := nI 999999) e19 ?_
                      refine pm_aloadn hG dX12_quarter_250 rfl ?_
                      refine pm_getf hG dX12_quarter_251 (flX12_7 _ rfl) rfl rfl ?_
                      refine pm_iloadn hG dX12_quarter_254 rfl ?_
                      refine pm_iconst (v := nI 2) hG dX12_quarter_255 (by decide) ?_
                      refine pm_iaddN (c := 6 * i5 + 1772) hG dX12_quarter_256 (by omega) ?_
                      refine pm_ialdN hG dX12_quarter_257 rfl (by decide) (by omega) ?_
                      refine pm_gen (fun x20 ex20 => ?_)
                      refine pm_icmp_ge (tgt := 270) hG dX12_quarter_258 rfl (fun c21 => ?_) (fun c21 => ?_)
                      · refine pm_aloadn hG dX12_quarter_270 rfl ?_
                        refine pm_getf hG dX12_quarter_271 (flX12_7 _ rfl) rfl rfl ?_
                        refine pm_iloadn hG dX12_quarter_274 rfl ?_
                        refine pm_iconst (v := nI 2) hG dX12_quarter_275 (by decide) ?_
                        refine pm_iaddN (c := 6 * i5 + 1772) hG dX12_quarter_276 (by omega) ?_
                        refine pm_ialdN hG dX12_quarter_277 rfl (by decide) (by omega) ?_
                        refine pm_top (v := x20) ex20 ?_
                        refine pm_istoreXi (loc' := [some (.ref (B + 54)), some (.int (nI i5)), some (.int (nI (6 * i5 + 1770))), some (.int (x8 + x10)), some (.int x20)]) hG dX12_quarter_278 (by decide) (pm_c1b rfl) rfl ?_
                        refine pm_aloadn hG dX12_quarter_280 rfl ?_
                        refine pm_getf hG dX12_quarter_281 (flX12_7 _ rfl) rfl rfl ?_
                        refine pm_bipush (v := nI 9) hG dX12_quarter_284 (by decide) ?_
                        refine pm_ialdN hG dX12_quarter_286 rfl (by decide) (by omega) ?_
                        refine pm_gen (fun x22 ex22 => ?_)
                        refine pm_iloadi hG dX12_quarter_287 rfl ?_
                        refine pm_icmp_lt (tgt := 318) hG dX12_quarter_289 rfl (fun c23 => ?_) (fun c23 => ?_)
                        · refine pm_aloadn hG dX12_quarter_318 rfl ?_
                          refine pm_getf hG dX12_quarter_319 (flX12_7 _ rfl) rfl rfl ?_
                          refine pm_iloadn hG dX12_quarter_322 rfl ?_
                          refine pm_iconst (v := nI 3) hG dX12_quarter_323 (by decide) ?_
                          refine pm_iaddN (c := 6 * i5 + 1773) hG dX12_quarter_324 (by omega) ?_
                          refine pm_dup2 hG dX12_quarter_325 rfl rfl ?_
                          refine pm_ialdN hG dX12_quarter_326 rfl (by decide) (by omega) ?_
                          refine pm_gen (fun x24 ex24 => ?_)
                          refine pm_iconst (v := nI 1) hG dX12_quarter_327 (by decide) ?_
                          refine pm_iadd hG dX12_quarter_328 ?_
                          refine pm_iastN hG dX12_quarter_329 rfl (by decide) (by omega) ?_
                          refine mdn_now (fun n_25 en_25 => ?_)
                          have hnn_25 := KI.w en_25 hnn_12 (okv_f (show kd (6 * i5 + 1773) = (0, 0, false) from (kd_D (k := i5) (c := 3) (by omega) (by omega) (by decide))))
                          have hrn_25 := NRx.w en_25 hrn_12 (by rw [(show kd (6 * i5 + 1773) = (0, 0, false) from (kd_D (k := i5) (c := 3) (by omega) (by omega) (by decide)))])
                          have ksn_25 := KS.w en_25 ksn_12 (by unfold tS; omega)
                          have e26 : n_25 8 = nI kc8 := by rw [en_25, pk_un (by omega)]; exact e13
                          have e27 : n_25 0 = nI kc0 := by rw [en_25, pk_un (by omega)]; exact e14
                          have e28 : n_25 2 = nI kc2 := by rw [en_25, pk_un (by omega)]; exact e15
                          have e29 : n_25 7 = nI kc7 := by rw [en_25, pk_un (by omega)]; exact e16
                          have e30 : n_25 6 = nI k6 := by rw [en_25, pk_un (by omega)]; exact e17
                          have e31 : n_25 (6 * i5 + 1771) = x9 := by rw [en_25, pk_un (by omega)]; exact e18
                          have e32 : n_25 (6 * i5 + 1770) = nI 999999 := by rw [en_25, pk_un (by omega)]; exact e19
                          have e33 : n_25 (6 * i5 + 1772) = x20 := by rw [en_25, pk_un (by omega)]; exact ex20
                          have e34 : n_25 9 = x22 := by rw [en_25, pk_un (by omega)]; exact ex22
                          have e35 : n_25 (6 * i5 + 1773) = x24 + (nI 1) := by rw [en_25, pk_us]
                          refine pm_aloadn hG dX12_quarter_330 rfl ?_
                          refine pm_getf hG dX12_quarter_331 (flX12_7 _ rfl) rfl rfl ?_
                          refine pm_iloadn hG dX12_quarter_334 rfl ?_
                          refine pm_iconst (v := nI 3) hG dX12_quarter_335 (by decide) ?_
                          refine pm_iaddN (c := 6 * i5 + 1773) hG dX12_quarter_336 (by omega) ?_
                          refine pm_ialdN hG dX12_quarter_337 rfl (by decide) (by omega) ?_
                          refine pm_top (v := x24 + (nI 1)) e35 ?_
                          refine pm_iconst (v := nI 2) hG dX12_quarter_338 (by decide) ?_
                          refine pm_icmp_ne (tgt := 363) hG dX12_quarter_339 rfl (fun c36 => ?_) (fun c36 => ?_)
                          · refine pm_iincX (v := nI (i5 + 1)) (loc' := [some (.ref (B + 54)), some (.int (nI (i5 + 1))), some (.int (nI (6 * i5 + 1770))), some (.int (x8 + x10)), some (.int x20)]) hG dX12_quarter_363 rfl (nI_1 _) (by decide) (pm_c1b rfl) rfl ?_
                            refine pm_goto (tgt := 180) hG dX12_quarter_366 rfl ?_
                            refine pm_fg 2 (loc' := [some (.ref (B + 54)), some (.int (nI (i5 + 1))), none, some (.int (x8 + x10)), some (.int x20)]) rfl ?_
                            refine pm_fg 3 (loc' := [some (.ref (B + 54)), some (.int (nI (i5 + 1))), none, none, some (.int x20)]) rfl ?_
                            refine pm_fg 4 (loc' := [some (.ref (B + 54)), some (.int (nI (i5 + 1))), none, none, none]) rfl ?_
                            exact ih5 n_25 (i5 + 1) hnn_25 ksn_25 hrn_25 (e26.trans (congrArg nI (by omega))) (e27.trans (congrArg nI (by omega))) (e28.trans (congrArg nI (by omega))) (e29.trans (congrArg nI (by omega))) (by omega) (by omega)
                          · refine pm_aloadn hG dX12_quarter_342 rfl ?_
                            refine pm_getf hG dX12_quarter_343 (flX12_7 _ rfl) rfl rfl ?_
                            refine pm_bipush (v := nI 20) hG dX12_quarter_346 (by decide) ?_
                            refine pm_iconst (v := nI 3) hG dX12_quarter_348 (by decide) ?_
                            refine pm_aloadn hG dX12_quarter_349 rfl ?_
                            refine pm_getf hG dX12_quarter_350 (flX12_7 _ rfl) rfl rfl ?_
                            refine pm_iloadn hG dX12_quarter_353 rfl ?_
                            refine pm_iconst (v := nI 4) hG dX12_quarter_354 (by decide) ?_
                            refine pm_iaddN (c := 6 * i5 + 1774) hG dX12_quarter_355 (by omega) ?_
                            refine pm_ialdN hG dX12_quarter_356 rfl (by decide) (by omega) ?_
                            obtain ⟨k37, hk37, ek37⟩ := KI.nat hnn_25 (show kd (6 * i5 + 1774) = (1, 10, false) from (kd_D (k := i5) (c := 4) (by omega) (by omega) (by decide)))
                            refine pm_top (v := nI k37) ek37 ?_
                            refine pm_imulN (c := 3 * k37) hG dX12_quarter_357 (by omega) ?_
                            refine pm_iaddN (c := 3 * k37 + 20) hG dX12_quarter_358 (by omega) ?_
                            refine pm_iconst (v := nI 2) hG dX12_quarter_359 (by decide) ?_
                            refine pm_iaddN (c := 3 * k37 + 22) hG dX12_quarter_360 (by omega) ?_
                            refine pm_iconst (v := nI 1) hG dX12_quarter_361 (by decide) ?_
                            refine pm_iastN hG dX12_quarter_362 rfl (by decide) (by omega) ?_
                            refine mdn_now (fun n_38 en_38 => ?_)
                            have hnn_38 := KI.w en_38 hnn_25 (okv_f (show kd (3 * k37 + 22) = (0, 0, false) from (kd_T (k := k37) (c := 2) (by omega) (by omega) (by decide))))
                            have hrn_38 := NRx.w en_38 hrn_25 (by rw [(show kd (3 * k37 + 22) = (0, 0, false) from (kd_T (k := k37) (c := 2) (by omega) (by omega) (by decide)))])
                            have ksn_38 := KS.w en_38 ksn_25 (by unfold tS; omega)
                            have e39 : n_38 8 = nI kc8 := by rw [en_38, pk_un (by omega)]; exact e26
                            have e40 : n_38 0 = nI kc0 := by rw [en_38, pk_un (by omega)]; exact e27
                            have e41 : n_38 2 = nI kc2 := by rw [en_38, pk_un (by omega)]; exact e28
                            have e42 : n_38 7 = nI kc7 := by rw [en_38, pk_un (by omega)]; exact e29
                            have e43 : n_38 6 = nI k6 := by rw [en_38, pk_un (by omega)]; exact e30
                            have e44 : n_38 (6 * i5 + 1771) = x9 := by rw [en_38, pk_un (by omega)]; exact e31
                            have e45 : n_38 (6 * i5 + 1770) = nI 999999 := by rw [en_38, pk_un (by omega)]; exact e32
                            have e46 : n_38 (6 * i5 + 1772) = x20 := by rw [en_38, pk_un (by omega)]; exact e33
                            have e47 : n_38 9 = x22 := by rw [en_38, pk_un (by omega)]; exact e34
                            have e48 : n_38 (6 * i5 + 1773) = x24 + (nI 1) := by rw [en_38, pk_un (by omega)]; exact e35
                            have e49 : n_38 (6 * i5 + 1774) = nI k37 := by rw [en_38, pk_un (by omega)]; exact ek37
                            have e50 : n_38 (3 * k37 + 22) = nI 1 := by rw [en_38, pk_us]
                            refine pm_iincX (v := nI (i5 + 1)) (loc' := [some (.ref (B + 54)), some (.int (nI (i5 + 1))), some (.int (nI (6 * i5 + 1770))), some (.int (x8 + x10)), some (.int x20)]) hG dX12_quarter_363 rfl (nI_1 _) (by decide) (pm_c1b rfl) rfl ?_
                            refine pm_goto (tgt := 180) hG dX12_quarter_366 rfl ?_
                            refine pm_fg 2 (loc' := [some (.ref (B + 54)), some (.int (nI (i5 + 1))), none, some (.int (x8 + x10)), some (.int x20)]) rfl ?_
                            refine pm_fg 3 (loc' := [some (.ref (B + 54)), some (.int (nI (i5 + 1))), none, none, some (.int x20)]) rfl ?_
                            refine pm_fg 4 (loc' := [some (.ref (B + 54)), some (.int (nI (i5 + 1))), none, none, none]) rfl ?_
                            exact ih5 n_38 (i5 + 1) hnn_38 ksn_38 hrn_38 (e39.trans (congrArg nI (by omega))) (e40.trans (congrArg nI (by omega))) (e41.trans (congrArg nI (by omega))) (e42.trans (congrArg nI (by omega))) (by omega) (by omega)
                        · refine pm_aloadn hG dX12_quarter_292 rfl ?_
                          refine pm_getf hG dX12_quarter_293 (flX12_7 _ rfl) rfl rfl ?_
                          refine pm_bipush (v := nI 9) hG dX12_quarter_296 (by decide) ?_
                          refine pm_dup2 hG dX12_quarter_298 rfl rfl ?_
                          refine pm_ialdN hG dX12_quarter_299 rfl (by decide) (by omega) ?_
                          refine pm_top (v := x22) ex22 ?_
                          refine pm_iloadi hG dX12_quarter_300 rfl ?_
                          refine pm_isub hG dX12_quarter_302 ?_
                          refine pm_iastN hG dX12_quarter_303 rfl (by decide) (by omega) ?_
                          refine mdn_now (fun n_51 en_51 => ?_)
                          have hnn_51 := KI.w en_51 hnn_12 (okv_f (show kd 9 = (0, 0, false) by decide))
                          have hrn_51 := NRx.w en_51 hrn_12 (by rw [(show kd 9 = (0, 0, false) by decide)])
                          have ksn_51 := KS.w en_51 ksn_12 (by unfold tS; omega)
                          have e52 : n_51 8 = nI kc8 := by rw [en_51, pk_un (by omega)]; exact e13
                          have e53 : n_51 0 = nI kc0 := by rw [en_51, pk_un (by omega)]; exact e14
                          have e54 : n_51 2 = nI kc2 := by rw [en_51, pk_un (by omega)]; exact e15
                          have e55 : n_51 7 = nI kc7 := by rw [en_51, pk_un (by omega)]; exact e16
                          have e56 : n_51 6 = nI k6 := by rw [en_51, pk_un (by omega)]; exact e17
                          have e57 : n_51 (6 * i5 + 1771) = x9 := by rw [en_51, pk_un (by omega)]; exact e18
                          have e58 : n_51 (6 * i5 + 1770) = nI 999999 := by rw [en_51, pk_un (by omega)]; exact e19
                          have e59 : n_51 (6 * i5 + 1772) = x20 := by rw [en_51, pk_un (by omega)]; exact ex20
                          have e60 : n_51 9 = x22 - x20 := by rw [en_51, pk_us]
                          refine pm_aloadn hG dX12_quarter_304 rfl ?_
                          refine pm_getf hG dX12_quarter_305 (flX12_7 _ rfl) rfl rfl ?_
                          refine pm_iloadn hG dX12_quarter_308 rfl ?_
                          refine pm_dup2 hG dX12_quarter_309 rfl rfl ?_
                          refine pm_ialdN hG dX12_quarter_310 rfl (by decide) (by omega) ?_
                          refine pm_top (v := nI 999999) e58 ?_
                          refine pm_iloadi hG dX12_quarter_311 rfl ?_
                          refine pm_isub hG dX12_quarter_313 ?_
                          refine pm_iastN hG dX12_quarter_314 rfl (by decide) (by omega) ?_
                          refine mdn_now (fun n_61 en_61 => ?_)
                          have hnn_61 := KI.w en_61 hnn_51 (okv_f (show kd (6 * i5 + 1770) = (0, 0, false) from (kd_D (k := i5) (c := 0) (by omega) (by omega) (by decide))))
                          have hrn_61 := NRx.w en_61 hrn_51 (by rw [(show kd (6 * i5 + 1770) = (0, 0, false) from (kd_D (k := i5) (c := 0) (by omega) (by omega) (by decide)))])
                          have ksn_61 := KS.w en_61 ksn_51 (by unfold tS; omega)
                          have e62 : n_61 8 = nI kc8 := by rw [en_61, pk_un (by omega)]; exact e52
                          have e63 : n_61 0 = nI kc0 := by rw [en_61, pk_un (by omega)]; exact e53
                          have e64 : n_61 2 = nI kc2 := by rw [en_61, pk_un (by omega)]; exact e54
                          have e65 : n_61 7 = nI kc7 := by rw [en_61, pk_un (by omega)]; exact e55
                          have e66 : n_61 6 = nI k6 := by rw [en_61, pk_un (by omega)]; exact e56
                          have e67 : n_61 (6 * i5 + 1771) = x9 := by rw [en_61, pk_un (by omega)]; exact e57
                          have e68 : n_61 (6 * i5 + 1772) = x20 := by rw [en_61, pk_un (by omega)]; exact e59
                          have e69 : n_61 9 = x22 - x20 := by rw [en_61, pk_un (by omega)]; exact e60
                          have e70 : n_61 (6 * i5 + 1770) = (nI 999999) - x20 := by rw [en_61, pk_us]
                          refine pm_goto (tgt := 363) hG dX12_quarter_315 rfl ?_
                          refine pm_iincX (v := nI (i5 + 1)) (loc' := [some (.ref (B + 54)), some (.int (nI (i5 + 1))), some (.int (nI (6 * i5 + 1770))), some (.int (x8 + x10)), some (.int x20)]) hG dX12_quarter_363 rfl (nI_1 _) (by decide) (pm_c1b rfl) rfl ?_
                          refine pm_goto (tgt := 180) hG dX12_quarter_366 rfl ?_
                          refine pm_fg 2 (loc' := [some (.ref (B + 54)), some (.int (nI (i5 + 1))), none, some (.int (x8 + x10)), some (.int x20)]) rfl ?_
                          refine pm_fg 3 (loc' := [some (.ref (B + 54)), some (.int (nI (i5 + 1))), none, none, some (.int x20)]) rfl ?_
                          refine pm_fg 4 (loc' := [some (.ref (B + 54)), some (.int (nI (i5 + 1))), none, none, none]) rfl ?_
                          exact ih5 n_61 (i5 + 1) hnn_61 ksn_61 hrn_61 (e62.trans (congrArg nI (by omega))) (e63.trans (congrArg nI (by omega))) (e64.trans (congrArg nI (by omega))) (e65.trans (congrArg nI (by omega))) (by omega) (by omega)
                      · refine pm_aloadn hG dX12_quarter_261 rfl ?_
                        refine pm_getf hG dX12_quarter_262 (flX12_7 _ rfl) rfl rfl ?_
                        refine pm_iloadn hG dX12_quarter_265 rfl ?_
                        refine pm_ialdN hG dX12_quarter_266 rfl (by decide) (by omega) ?_
                        refine pm_top (v := nI 999999) e19 ?_
                        refine pm_goto (tgt := 278) hG dX12_quarter_267 rfl ?_
                        refine pm_istoreXi (loc' := [some (.ref (B + 54)), some (.int (nI i5)), some (.int (nI (6 * i5 + 1770))), some (.int (x8 + x10)), some (.int (nI 999999))]) hG dX12_quarter_278 (by decide) (pm_c1b rfl) rfl ?_
                        refine pm_aloadn hG dX12_quarter_280 rfl ?_
                        refine pm_getf hG dX12_quarter_281 (flX12_7 _ rfl) rfl rfl ?_
                        refine pm_bipush (v := nI 9) hG dX12_quarter_284 (by decide) ?_
                        refine pm_ialdN hG dX12_quarter_286 rfl (by decide) (by omega) ?_
                        refine pm_gen (fun x71 ex71 => ?_)
                        refine pm_iloadi hG dX12_quarter_287 rfl ?_
                        refine pm_icmp_lt (tgt := 318) hG dX12_quarter_289 rfl (fun c72 => ?_) (fun c72 => ?_)
                        · refine pm_aloadn hG dX12_quarter_318 rfl ?_
                          refine pm_getf hG dX12_quarter_319 (flX12_7 _ rfl) rfl rfl ?_
                          refine pm_iloadn hG dX12_quarter_322 rfl ?_
                          refine pm_iconst (v := nI 3) hG dX12_quarter_323 (by decide) ?_
                          refine pm_iaddN (c := 6 * i5 + 1773) hG dX12_quarter_324 (by omega) ?_
                          refine pm_dup2 hG dX12_quarter_325 rfl rfl ?_
                          refine pm_ialdN hG dX12_quarter_326 rfl (by decide) (by omega) ?_
                          refine pm_gen (fun x73 ex73 => ?_)
                          refine pm_iconst (v := nI 1) hG dX12_quarter_327 (by decide) ?_
                          refine pm_iadd hG dX12_quarter_328 ?_
                          refine pm_iastN hG dX12_quarter_329 rfl (by decide) (by omega) ?_
                          refine mdn_now (fun n_74 en_74 => ?_)
                          have hnn_74 := KI.w en_74 hnn_12 (okv_f (show kd (6 * i5 + 1773) = (0, 0, false) from (kd_D (k := i5) (c := 3) (by omega) (by omega) (by decide))))
                          have hrn_74 := NRx.w en_74 hrn_12 (by rw [(show kd (6 * i5 + 1773) = (0, 0, false) from (kd_D (k := i5) (c := 3) (by omega) (by omega) (by decide)))])
                          have ksn_74 := KS.w en_74 ksn_12 (by unfold tS; omega)
                          have e75 : n_74 8 = nI kc8 := by rw [en_74, pk_un (by omega)]; exact e13
                          have e76 : n_74 0 = nI kc0 := by rw [en_74, pk_un (by omega)]; exact e14
                          have e77 : n_74 2 = nI kc2 := by rw [en_74, pk_un (by omega)]; exact e15
                          have e78 : n_74 7 = nI kc7 := by rw [en_74, pk_un (by omega)]; exact e16
                          have e79 : n_74 6 = nI k6 := by rw [en_74, pk_un (by omega)]; exact e17
                          have e80 : n_74 (6 * i5 + 1771) = x9 := by rw [en_74, pk_un (by omega)]; exact e18
                          have e81 : n_74 (6 * i5 + 1770) = nI 999999 := by rw [en_74, pk_un (by omega)]; exact e19
                          have e82 : n_74 (6 * i5 + 1772) = x20 := by rw [en_74, pk_un (by omega)]; exact ex20
                          have e83 : n_74 9 = x71 := by rw [en_74, pk_un (by omega)]; exact ex71
                          have e84 : n_74 (6 * i5 + 1773) = x73 + (nI 1) := by rw [en_74, pk_us]
                          refine pm_aloadn hG dX12_quarter_330 rfl ?_
                          refine pm_getf hG dX12_quarter_331 (flX12_7 _ rfl) rfl rfl ?_
                          refine pm_iloadn hG dX12_quarter_334 rfl ?_
                          refine pm_iconst (v := nI 3) hG dX12_quarter_335 (by decide) ?_
                          refine pm_iaddN (c := 6 * i5 + 1773) hG dX12_quarter_336 (by omega) ?_
                          refine pm_ialdN hG dX12_quarter_337 rfl (by decide) (by omega) ?_
                          refine pm_top (v := x73 + (nI 1)) e84 ?_
                          refine pm_iconst (v := nI 2) hG dX12_quarter_338 (by decide) ?_
                          refine pm_icmp_ne (tgt := 363) hG dX12_quarter_339 rfl (fun c85 => ?_) (fun c85 => ?_)
                          · refine pm_iincX (v := nI (i5 + 1)) (loc' := [some (.ref (B + 54)), some (.int (nI (i5 + 1))), some (.int (nI (6 * i5 + 1770))), some (.int (x8 + x10)), some (.int (nI 999999))]) hG dX12_quarter_363 rfl (nI_1 _) (by decide) (pm_c1b rfl) rfl ?_
                            refine pm_goto (tgt := 180) hG dX12_quarter_366 rfl ?_
                            refine pm_fg 2 (loc' := [some (.ref (B + 54)), some (.int (nI (i5 + 1))), none, some (.int (x8 + x10)), some (.int (nI 999999))]) rfl ?_
                            refine pm_fg 3 (loc' := [some (.ref (B + 54)), some (.int (nI (i5 + 1))), none, none, some (.int (nI 999999))]) rfl ?_
                            refine pm_fg 4 (loc' := [some (.ref (B + 54)), some (.int (nI (i5 + 1))), none, none, none]) rfl ?_
                            exact ih5 n_74 (i5 + 1) hnn_74 ksn_74 hrn_74 (e75.trans (congrArg nI (by omega))) (e76.trans (congrArg nI (by omega))) (e77.trans (congrArg nI (by omega))) (e78.trans (congrArg nI (by omega))) (by omega) (by omega)
                          · refine pm_aloadn hG dX12_quarter_342 rfl ?_
                            refine pm_getf hG dX12_quarter_343 (flX12_7 _ rfl) rfl rfl ?_
                            refine pm_bipush (v := nI 20) hG dX12_quarter_346 (by decide) ?_
                            refine pm_iconst (v := nI 3) hG dX12_quarter_348 (by decide) ?_
                            refine pm_aloadn hG dX12_quarter_349 rfl ?_
                            refine pm_getf hG dX12_quarter_350 (flX12_7 _ rfl) rfl rfl ?_
                            refine pm_iloadn hG dX12_quarter_353 rfl ?_
                            refine pm_iconst (v := nI 4) hG dX12_quarter_354 (by decide) ?_
                            refine pm_iaddN (c := 6 * i5 + 1774) hG dX12_quarter_355 (by omega) ?_
                            refine pm_ialdN hG dX12_quarter_356 rfl (by decide) (by omega) ?_
                            obtain ⟨k86, hk86, ek86⟩ := KI.nat hnn_74 (show kd (6 * i5 + 1774) = (1, 10, false) from (kd_D (k := i5) (c := 4) (by omega) (by omega) (by decide)))
                            refine pm_top (v := nI k86) ek86 ?_
                            refine pm_imulN (c := 3 * k86) hG dX12_quarter_357 (by omega) ?_
                            refine pm_iaddN (c := 3 * k86 + 20) hG dX12_quarter_358 (by omega) ?_
                            refine pm_iconst (v := nI 2) hG dX12_quarter_359 (by decide) ?_
                            refine pm_iaddN (c := 3 * k86 + 22) hG dX12_quarter_360 (by omega) ?_
                            refine pm_iconst (v := nI 1) hG dX12_quarter_361 (by decide) ?_
                            refine pm_iastN hG dX12_quarter_362 rfl (by decide) (by omega) ?_
                            refine mdn_now (fun n_87 en_87 => ?_)
                            have hnn_87 := KI.w en_87 hnn_74 (okv_f (show kd (3 * k86 + 22) = (0, 0, false) from (kd_T (k := k86) (c := 2) (by omega) (by omega) (by decide))))
                            have hrn_87 := NRx.w en_87 hrn_74 (by rw [(show kd (3 * k86 + 22) = (0, 0, false) from (kd_T (k := k86) (c := 2) (by omega) (by omega) (by decide)))])
                            have ksn_87 := KS.w en_87 ksn_74 (by unfold tS; omega)
                            have e88 : n_87 8 = nI kc8 := by rw [en_87, pk_un (by omega)]; exact e75
                            have e89 : n_87 0 = nI kc0 := by rw [en_87, pk_un (by omega)]; exact e76
                            have e90 : n_87 2 = nI kc2 := by rw [en_87, pk_un (by omega)]; exact e77
                            have e91 : n_87 7 = nI kc7 := by rw [en_87, pk_un (by omega)]; exact e78
                            have e92 : n_87 6 = nI k6 := by rw [en_87, pk_un (by omega)]; exact e79
                            have e93 : n_87 (6 * i5 + 1771) = x9 := by rw [en_87, pk_un (by omega)]; exact e80
                            have e94 : n_87 (6 * i5 + 1770) = nI 999999 := by rw [en_87, pk_un (by omega)]; exact e81
                            have e95 : n_87 (6 * i5 + 1772) = x20 := by rw [en_87, pk_un (by omega)]; exact e82
                            have e96 : n_87 9 = x71 := by rw [en_87, pk_un (by omega)]; exact e83
                            have e97 : n_87 (6 * i5 + 1773) = x73 + (nI 1) := by rw [en_87, pk_un (by omega)]; exact e84
                            have e98 : n_87 (6 * i5 + 1774) = nI k86 := by rw [en_87, pk_un (by omega)]; exact ek86
                            have e99 : n_87 (3 * k86 + 22) = nI 1 := by rw [en_87, pk_us]
                            refine pm_iincX (v := nI (i5 + 1)) (loc' := [some (.ref (B + 54)), some (.int (nI (i5 + 1))), some (.int (nI (6 * i5 + 1770))), some (.int (x8 + x10)), some (.int (nI 999999))]) hG dX12_quarter_363 rfl (nI_1 _) (by decide) (pm_c1b rfl) rfl ?_
                            refine pm_goto (tgt := 180) hG dX12_quarter_366 rfl ?_
                            refine pm_fg 2 (loc' := [some (.ref (B + 54)), some (.int (nI (i5 + 1))), none, some (.int (x8 + x10)), some (.int (nI 999999))]) rfl ?_
                            refine pm_fg 3 (loc' := [some (.ref (B + 54)), some (.int (nI (i5 + 1))), none, none, some (.int (nI 999999))]) rfl ?_
                            refine pm_fg 4 (loc' := [some (.ref (B + 54)), some (.int (nI (i5 + 1))), none, none, none]) rfl ?_
                            exact ih5 n_87 (i5 + 1) hnn_87 ksn_87 hrn_87 (e88.trans (congrArg nI (by omega))) (e89.trans (congrArg nI (by omega))) (e90.trans (congrArg nI (by omega))) (e91.trans (congrArg nI (by omega))) (by omega) (by omega)
                        · refine pm_aloadn hG dX12_quarter_292 rfl ?_
                          refine pm_getf hG dX12_quarter_293 (flX12_7 _ rfl) rfl rfl ?_
                          refine pm_bipush (v := nI 9) hG dX12_quarter_296 (by decide) ?_
                          refine pm_dup2 hG dX12_quarter_298 rfl rfl ?_
                          refine pm_ialdN hG dX12_quarter_299 rfl (by decide) (by omega) ?_
                          refine pm_top (v := x71) ex71 ?_
                          refine pm_iloadi hG dX12_quarter_300 rfl ?_
                          refine pm_isub hG dX12_quarter_302 ?_
                          refine pm_iastN hG dX12_quarter_303 rfl (by decide) (by omega) ?_
                          refine mdn_now (fun n_100 en_100 => ?_)
                          have hnn_100 := KI.w en_100 hnn_12 (okv_f (show kd 9 = (0, 0, false) by decide))
                          have hrn_100 := NRx.w en_100 hrn_12 (by rw [(show kd 9 = (0, 0, false) by decide)])
                          have ksn_100 := KS.w en_100 ksn_12 (by unfold tS; omega)
                          have e101 : n_100 8 = nI kc8 := by rw [en_100, pk_un (by omega)]; exact e13
                          have e102 : n_100 0 = nI kc0 := by rw [en_100, pk_un (by omega)]; exact e14
                          have e103 : n_100 2 = nI kc2 := by rw [en_100, pk_un (by omega)]; exact e15
                          have e104 : n_100 7 = nI kc7 := by rw [en_100, pk_un (by omega)]; exact e16
                          have e105 : n_100 6 = nI k6 := by rw [en_100, pk_un (by omega)]; exact e17
                          have e106 : n_100 (6 * i5 + 1771) = x9 := by rw [en_100, pk_un (by omega)]; exact e18
                          have e107 : n_100 (6 * i5 + 1770) = nI 999999 := by rw [en_100, pk_un (by omega)]; exact e19
                          have e108 : n_100 (6 * i5 + 1772) = x20 := by rw [en_100, pk_un (by omega)]; exact ex20
                          have e109 : n_100 9 = x71 - (nI 999999) := by rw [en_100, pk_us]
                          refine pm_aloadn hG dX12_quarter_304 rfl ?_
                          refine pm_getf hG dX12_quarter_305 (flX12_7 _ rfl) rfl rfl ?_
                          refine pm_iloadn hG dX12_quarter_308 rfl ?_
                          refine pm_dup2 hG dX12_quarter_309 rfl rfl ?_
                          refine pm_ialdN hG dX12_quarter_310 rfl (by decide) (by omega) ?_
                          refine pm_top (v := nI 999999) e107 ?_
                          refine pm_iloadi hG dX12_quarter_311 rfl ?_
                          refine pm_isubN (c := 0) hG dX12_quarter_313 (by omega) ?_
                          refine pm_iastN hG dX12_quarter_314 rfl (by decide) (by omega) ?_
                          refine mdn_now (fun n_110 en_110 => ?_)
                          have hnn_110 := KI.w en_110 hnn_100 (okv_f (show kd (6 * i5 + 1770) = (0, 0, false) from (kd_D (k := i5) (c := 0) (by omega) (by omega) (by decide))))
                          have hrn_110 := NRx.w en_110 hrn_100 (by rw [(show kd (6 * i5 + 1770) = (0, 0, false) from (kd_D (k := i5) (c := 0) (by omega) (by omega) (by decide)))])
                          have ksn_110 := KS.w en_110 ksn_100 (by unfold tS; omega)
                          have e111 : n_110 8 = nI kc8 := by rw [en_110, pk_un (by omega)]; exact e101
                          have e112 : n_110 0 = nI kc0 := by rw [en_110, pk_un (by omega)]; exact e102
                          have e113 : n_110 2 = nI kc2 := by rw [en_110, pk_un (by omega)]; exact e103
                          have e114 : n_110 7 = nI kc7 := by rw [en_110, pk_un (by omega)]; exact e104
                          have e115 : n_110 6 = nI k6 := by rw [en_110, pk_un (by omega)]; exact e105
                          have e116 : n_110 (6 * i5 + 1771) = x9 := by rw [en_110, pk_un (by omega)]; exact e106
                          have e117 : n_110 (6 * i5 + 1772) = x20 := by rw [en_110, pk_un (by omega)]; exact e108
                          have e118 : n_110 9 = x71 - (nI 999999) := by rw [en_110, pk_un (by omega)]; exact e109
                          have e119 : n_110 (6 * i5 + 1770) = nI 0 := by rw [en_110, pk_us]
                          refine pm_goto (tgt := 363) hG dX12_quarter_315 rfl ?_
                          refine pm_iincX (v := nI (i5 + 1)) (loc' := [some (.ref (B + 54)), some (.int (nI (i5 + 1))), some (.int (nI (6 * i5 + 1770))), some (.int (x8 + x10)), some (.int (nI 999999))]) hG dX12_quarter_363 rfl (nI_1 _) (by decide) (pm_c1b rfl) rfl ?_
                          refine pm_goto (tgt := 180) hG dX12_quarter_366 rfl ?_
                          refine pm_fg 2 (loc' := [some (.ref (B + 54)), some (.int (nI (i5 + 1))), none, some (.int (x8 + x10)), some (.int (nI 999999))]) rfl ?_
                          refine pm_fg 3 (loc' := [some (.ref (B + 54)), some (.int (nI (i5 + 1))), none, none, some (.int (nI 999999))]) rfl ?_
                          refine pm_fg 4 (loc' := [some (.ref (B + 54)), some (.int (nI (i5 + 1))), none, none, none]) rfl ?_
                          exact ih5 n_110 (i5 + 1) hnn_110 ksn_110 hrn_110 (e111.trans (congrArg nI (by omega))) (e112.trans (congrArg nI (by omega))) (e113.trans (congrArg nI (by omega))) (e114.trans (congrArg nI (by omega))) (by omega) (by omega)
                    · refine pm_iloadn hG dX12_quarter_237 rfl ?_
                      refine pm_goto (tgt := 243) hG dX12_quarter_238 rfl ?_
                      refine pm_iastN hG dX12_quarter_243 rfl (by decide) (by omega) ?_
                      refine mdn_now (fun n_120 en_120 => ?_)
                      have hnn_120 := KI.w en_120 hnn_5 (okv_f (show kd (6 * i5 + 1770) = (0, 0, false) from (kd_D (k := i5) (c := 0) (by omega) (by omega) (by decide))))
                      have hrn_120 := NRx.w en_120 hrn_5 (by rw [(show kd (6 * i5 + 1770) = (0, 0, false) from (kd_D (k := i5) (c := 0) (by omega) (by omega) (by decide)))])
                      have ksn_120 := KS.w en_120 ksn_5 (by unfold tS; omega)
                      have e121 : n_120 8 = nI kc8 := by rw [en_120, pk_un (by omega)]; exact kc5_8
                      have e122 : n_120 0 = nI kc0 := by rw [en_120, pk_un (by omega)]; exact kc5_0
                      have e123 : n_120 2 = nI kc2 := by rw [en_120, pk_un (by omega)]; exact kc5_2
                      have e124 : n_120 7 = nI kc7 := by rw [en_120, pk_un (by omega)]; exact kc5_7
                      have e125 : n_120 6 = nI k6 := by rw [en_120, pk_un (by omega)]; exact ek6
                      have e126 : n_120 (6 * i5 + 1771) = x9 := by rw [en_120, pk_un (by omega)]; exact ex9
                      have e127 : n_120 (6 * i5 + 1770) = x8 + x10 := by rw [en_120, pk_us]
                      refine pm_aloadn hG dX12_quarter_244 rfl ?_
                      refine pm_getf hG dX12_quarter_245 (flX12_7 _ rfl) rfl rfl ?_
                      refine pm_iloadn hG dX12_quarter_248 rfl ?_
                      refine pm_ialdN hG dX12_quarter_249 rfl (by decide) (by omega) ?_
                      refine pm_top (v := x8 + x10) e127 ?_
                      refine pm_aloadn hG dX12_quarter_250 rfl ?_
                      refine pm_getf hG dX12_quarter_251 (flX12_7 _ rfl) rfl rfl ?_
                      refine pm_iloadn hG dX12_quarter_254 rfl ?_
                      refine pm_iconst (v := nI 2) hG dX12_quarter_255 (by decide) ?_
                      refine pm_iaddN (c := 6 * i5 + 1772) hG dX12_quarter_256 (by omega) ?_
                      refine pm_ialdN hG dX12_quarter_257 rfl (by decide) (by omega) ?_
                      refine pm_gen (fun x128 ex128 => ?_)
                      refine pm_icmp_ge (tgt := 270) hG dX12_quarter_258 rfl (fun c129 => ?_) (fun c129 => ?_)
                      · refine pm_aloadn hG dX12_quarter_270 rfl ?_
                        refine pm_getf hG dX12_quarter_271 (flX12_7 _ rfl) rfl rfl ?_
                        refine pm_iloadn hG dX12_quarter_274 rfl ?_
                        refine pm_iconst (v := nI 2) hG dX12_quarter_275 (by decide) ?_
                        refine pm_iaddN (c := 6 * i5 + 1772) hG dX12_quarter_276 (by omega) ?_
                        refine pm_ialdN hG dX12_quarter_277 rfl (by decide) (by omega) ?_
                        refine pm_top (v := x128) ex128 ?_
                        refine pm_istoreXi (loc' := [some (.ref (B + 54)), some (.int (nI i5)), some (.int (nI (6 * i5 + 1770))), some (.int (x8 + x10)), some (.int x128)]) hG dX12_quarter_278 (by decide) (pm_c1b rfl) rfl ?_
                        refine pm_aloadn hG dX12_quarter_280 rfl ?_
                        refine pm_getf hG dX12_quarter_281 (flX12_7 _ rfl) rfl rfl ?_
                        refine pm_bipush (v := nI 9) hG dX12_quarter_284 (by decide) ?_
                        refine pm_ialdN hG dX12_quarter_286 rfl (by decide) (by omega) ?_
                        refine pm_gen (fun x130 ex130 => ?_)
                        refine pm_iloadi hG dX12_quarter_287 rfl ?_
                        refine pm_icmp_lt (tgt := 318) hG dX12_quarter_289 rfl (fun c131 => ?_) (fun c131 => ?_)
                        · refine pm_aloadn hG dX12_quarter_318 rfl ?_
                          refine pm_getf hG dX12_quarter_319 (flX12_7 _ rfl) rfl rfl ?_
                          refine pm_iloadn hG dX12_quarter_322 rfl ?_
                          refine pm_iconst (v := nI 3) hG dX12_quarter_323 (by decide) ?_
                          refine pm_iaddN (c := 6 * i5 + 1773) hG dX12_quarter_324 (by omega) ?_
                          refine pm_dup2 hG dX12_quarter_325 rfl rfl ?_
                          refine pm_ialdN hG dX12_quarter_326 rfl (by decide) (by omega) ?_
                          refine pm_gen (fun x132 ex132 => ?_)
                          refine pm_iconst (v := nI 1) hG dX12_quarter_327 (by decide) ?_
                          refine pm_iadd hG dX12_quarter_328 ?_
                          refine pm_iastN hG dX12_quarter_329 rfl (by decide) (by omega) ?_
                          refine mdn_now (fun n_133 en_133 => ?_)
                          have hnn_133 := KI.w en_133 hnn_120 (okv_f (show kd (6 * i5 + 1773) = (0, 0, false) from (kd_D (k := i5) (c := 3) (by omega) (by omega) (by decide))))
                          have hrn_133 := NRx.w en_133 hrn_120 (by rw [(show kd (6 * i5 + 1773) = (0, 0, false) from (kd_D (k := i5) (c := 3) (by omega) (by omega) (by decide)))])
                          have ksn_133 := KS.w en_133 ksn_120 (by unfold tS; omega)
                          have e134 : n_133 8 = nI kc8 := by rw [en_133, pk_un (by omega)]; exact e121
                          have e135 : n_133 0 = nI kc0 := by rw [en_133, pk_un (by omega)]; exact e122
                          have e136 : n_133 2 = nI kc2 := by rw [en_133, pk_un (by omega)]; exact e123
                          have e137 : n_133 7 = nI kc7 := by rw [en_133, pk_un (by omega)]; exact e124
                          have e138 : n_133 6 = nI k6 := by rw [en_133, pk_un (by omega)]; exact e125
                          have e139 : n_133 (6 * i5 + 1771) = x9 := by rw [en_133, pk_un (by omega)]; exact e126
                          have e140 : n_133 (6 * i5 + 1770) = x8 + x10 := by rw [en_133, pk_un (by omega)]; exact e127
                          have e141 : n_133 (6 * i5 + 1772) = x128 := by rw [en_133, pk_un (by omega)]; exact ex128
                          have e142 : n_133 9 = x130 := by rw [en_133, pk_un (by omega)]; exact ex130
                          have e143 : n_133 (6 * i5 + 1773) = x132 + (nI 1) := by rw [en_133, pk_us]
                          refine pm_aloadn hG dX12_quarter_330 rfl ?_
                          refine pm_getf hG dX12_quarter_331 (flX12_7 _ rfl) rfl rfl ?_
                          refine pm_iloadn hG dX12_quarter_334 rfl ?_
                          refine pm_iconst (v := nI 3) hG dX12_quarter_335 (by decide) ?_
                          refine pm_iaddN (c := 6 * i5 + 1773) hG dX12_quarter_336 (by omega) ?_
                          refine pm_ialdN hG dX12_quarter_337 rfl (by decide) (by omega) ?_
                          refine pm_top (v := x132 + (nI 1)) e143 ?_
                          refine pm_iconst (v := nI 2) hG dX12_quarter_338 (by decide) ?_
                          refine pm_icmp_ne (tgt := 363) hG dX12_quarter_339 rfl (fun c144 => ?_) (fun c144 => ?_)
                          · refine pm_iincX (v := nI (i5 + 1)) (loc' := [some (.ref (B + 54)), some (.int (nI (i5 + 1))), some (.int (nI (6 * i5 + 1770))), some (.int (x8 + x10)), some (.int x128)]) hG dX12_quarter_363 rfl (nI_1 _) (by decide) (pm_c1b rfl) rfl ?_
                            refine pm_goto (tgt := 180) hG dX12_quarter_366 rfl ?_
                            refine pm_fg 2 (loc' := [some (.ref (B + 54)), some (.int (nI (i5 + 1))), none, some (.int (x8 + x10)), some (.int x128)]) rfl ?_
                            refine pm_fg 3 (loc' := [some (.ref (B + 54)), some (.int (nI (i5 + 1))), none, none, some (.int x128)]) rfl ?_
                            refine pm_fg 4 (loc' := [some (.ref (B + 54)), some (.int (nI (i5 + 1))), none, none, none]) rfl ?_
                            exact ih5 n_133 (i5 + 1) hnn_133 ksn_133 hrn_133 (e134.trans (congrArg nI (by omega))) (e135.trans (congrArg nI (by omega))) (e136.trans (congrArg nI (by omega))) (e137.trans (congrArg nI (by omega))) (by omega) (by omega)
                          · refine pm_aloadn hG dX12_quarter_342 rfl ?_
                            refine pm_getf hG dX12_quarter_343 (flX12_7 _ rfl) rfl rfl ?_
                            refine pm_bipush (v := nI 20) hG dX12_quarter_346 (by decide) ?_
                            refine pm_iconst (v := nI 3) hG dX12_quarter_348 (by decide) ?_
                            refine pm_aloadn hG dX12_quarter_349 rfl ?_
                            refine pm_getf hG dX12_quarter_350 (flX12_7 _ rfl) rfl rfl ?_
                            refine pm_iloadn hG dX12_quarter_353 rfl ?_
                            refine pm_iconst (v := nI 4) hG dX12_quarter_354 (by decide) ?_
                            refine pm_iaddN (c := 6 * i5 + 1774) hG dX12_quarter_355 (by omega) ?_
                            refine pm_ialdN hG dX12_quarter_356 rfl (by decide) (by omega) ?_
                            obtain ⟨k145, hk145, ek145⟩ := KI.nat hnn_133 (show kd (6 * i5 + 1774) = (1, 10, false) from (kd_D (k := i5) (c := 4) (by omega) (by omega) (by decide)))
                            refine pm_top (v := nI k145) ek145 ?_
                            refine pm_imulN (c := 3 * k145) hG dX12_quarter_357 (by omega) ?_
                            refine pm_iaddN (c := 3 * k145 + 20) hG dX12_quarter_358 (by omega) ?_
                            refine pm_iconst (v := nI 2) hG dX12_quarter_359 (by decide) ?_
                            refine pm_iaddN (c := 3 * k145 + 22) hG dX12_quarter_360 (by omega) ?_
                            refine pm_iconst (v := nI 1) hG dX12_quarter_361 (by decide) ?_
                            refine pm_iastN hG dX12_quarter_362 rfl (by decide) (by omega) ?_
                            refine mdn_now (fun n_146 en_146 => ?_)
                            have hnn_146 := KI.w en_146 hnn_133 (okv_f (show kd (3 * k145 + 22) = (0, 0, false) from (kd_T (k := k145) (c := 2) (by omega) (by omega) (by decide))))
                            have hrn_146 := NRx.w en_146 hrn_133 (by rw [(show kd (3 * k145 + 22) = (0, 0, false) from (kd_T (k := k145) (c := 2) (by omega) (by omega) (by decide)))])
                            have ksn_146 := KS.w en_146 ksn_133 (by unfold tS; omega)
                            have e147 : n_146 8 = nI kc8 := by rw [en_146, pk_un (by omega)]; exact e134
                            have e148 : n_146 0 = nI kc0 := by rw [en_146, pk_un (by omega)]; exact e135
                            have e149 : n_146 2 = nI kc2 := by rw [en_146, pk_un (by omega)]; exact e136
                            have e150 : n_146 7 = nI kc7 := by rw [en_146, pk_un (by omega)]; exact e137
                            have e151 : n_146 6 = nI k6 := by rw [en_146, pk_un (by omega)]; exact e138
                            have e152 : n_146 (6 * i5 + 1771) = x9 := by rw [en_146, pk_un (by omega)]; exact e139
                            have e153 : n_146 (6 * i5 + 1770) = x8 + x10 := by rw [en_146, pk_un (by omega)]; exact e140
                            have e154 : n_146 (6 * i5 + 1772) = x128 := by rw [en_146, pk_un (by omega)]; exact e141
                            have e155 : n_146 9 = x130 := by rw [en_146, pk_un (by omega)]; exact e142
                            have e156 : n_146 (6 * i5 + 1773) = x132 + (nI 1) := by rw [en_146, pk_un (by omega)]; exact e143
                            have e157 : n_146 (6 * i5 + 1774) = nI k145 := by rw [en_146, pk_un (by omega)]; exact ek145
                            have e158 : n_146 (3 * k145 + 22) = nI 1 := by rw [en_146, pk_us]
                            refine pm_iincX (v := nI (i5 + 1)) (loc' := [some (.ref (B + 54)), some (.int (nI (i5 + 1))), some (.int (nI (6 * i5 + 1770))), some (.int (x8 + x10)), some (.int x128)]) hG dX12_quarter_363 rfl (nI_1 _) (by decide) (pm_c1b rfl) rfl ?_
                            refine pm_goto (tgt := 180) hG dX12_quarter_366 rfl ?_
                            refine pm_fg 2 (loc' := [some (.ref (B + 54)), some (.int (nI (i5 + 1))), none, some (.int (x8 + x10)), some (.int x128)]) rfl ?_
                            refine pm_fg 3 (loc' := [some (.ref (B + 54)), some (.int (nI (i5 + 1))), none, none, some (.int x128)]) rfl ?_
                            refine pm_fg 4 (loc' := [some (.ref (B + 54)), some (.int (nI (i5 + 1))), none, none, none]) rfl ?_
                            exact ih5 n_146 (i5 + 1) hnn_146 ksn_146 hrn_146 (e147.trans (congrArg nI (by omega))) (e148.trans (congrArg nI (by omega))) (e149.trans (congrArg nI (by omega))) (e150.trans (congrArg nI (by omega))) (by omega) (by omega)
                        · refine pm_aloadn hG dX12_quarter_292 rfl ?_
                          refine pm_getf hG dX12_quarter_293 (flX12_7 _ rfl) rfl rfl ?_
                          refine pm_bipush (v := nI 9) hG dX12_quarter_296 (by decide) ?_
                          refine pm_dup2 hG dX12_quarter_298 rfl rfl ?_
                          refine pm_ialdN hG dX12_quarter_299 rfl (by decide) (by omega) ?_
                          refine pm_top (v := x130) ex130 ?_
                          refine pm_iloadi hG dX12_quarter_300 rfl ?_
                          refine pm_isub hG dX12_quarter_302 ?_
                          refine pm_iastN hG dX12_quarter_303 rfl (by decide) (by omega) ?_
                          refine mdn_now (fun n_159 en_159 => ?_)
                          have hnn_159 := KI.w en_159 hnn_120 (okv_f (show kd 9 = (0, 0, false) by decide))
                          have hrn_159 := NRx.w en_159 hrn_120 (by rw [(show kd 9 = (0, 0, false) by decide)])
                          have ksn_159 := KS.w en_159 ksn_120 (by unfold tS; omega)
                          have e160 : n_159 8 = nI kc8 := by rw [en_159, pk_un (by omega)]; exact e121
                          have e161 : n_159 0 = nI kc0 := by rw [en_159, pk_un (by omega)]; exact e122
                          have e162 : n_159 2 = nI kc2 := by rw [en_159, pk_un (by omega)]; exact e123
                          have e163 : n_159 7 = nI kc7 := by rw [en_159, pk_un (by omega)]; exact e124
                          have e164 : n_159 6 = nI k6 := by rw [en_159, pk_un (by omega)]; exact e125
                          have e165 : n_159 (6 * i5 + 1771) = x9 := by rw [en_159, pk_un (by omega)]; exact e126
                          have e166 : n_159 (6 * i5 + 1770) = x8 + x10 := by rw [en_159, pk_un (by omega)]; exact e127
                          have e167 : n_159 (6 * i5 + 1772) = x128 := by rw [en_159, pk_un (by omega)]; exact ex128
                          have e168 : n_159 9 = x130 - x128 := by rw [en_159, pk_us]
                          refine pm_aloadn hG dX12_quarter_304 rfl ?_
                          refine pm_getf hG dX12_quarter_305 (flX12_7 _ rfl) rfl rfl ?_
                          refine pm_iloadn hG dX12_quarter_308 rfl ?_
                          refine pm_dup2 hG dX12_quarter_309 rfl rfl ?_
                          refine pm_ialdN hG dX12_quarter_310 rfl (by decide) (by omega) ?_
                          refine pm_top (v := x8 + x10) e166 ?_
                          refine pm_iloadi hG dX12_quarter_311 rfl ?_
                          refine pm_isub hG dX12_quarter_313 ?_
                          refine pm_iastN hG dX12_quarter_314 rfl (by decide) (by omega) ?_
                          refine mdn_now (fun n_169 en_169 => ?_)
                          have hnn_169 := KI.w en_169 hnn_159 (okv_f (show kd (6 * i5 + 1770) = (0, 0, false) from (kd_D (k := i5) (c := 0) (by omega) (by omega) (by decide))))
                          have hrn_169 := NRx.w en_169 hrn_159 (by rw [(show kd (6 * i5 + 1770) = (0, 0, false) from (kd_D (k := i5) (c := 0) (by omega) (by omega) (by decide)))])
                          have ksn_169 := KS.w en_169 ksn_159 (by unfold tS; omega)
                          have e170 : n_169 8 = nI kc8 := by rw [en_169, pk_un (by omega)]; exact e160
                          have e171 : n_169 0 = nI kc0 := by rw [en_169, pk_un (by omega)]; exact e161
                          have e172 : n_169 2 = nI kc2 := by rw [en_169, pk_un (by omega)]; exact e162
                          have e173 : n_169 7 = nI kc7 := by rw [en_169, pk_un (by omega)]; exact e163
                          have e174 : n_169 6 = nI k6 := by rw [en_169, pk_un (by omega)]; exact e164
                          have e175 : n_169 (6 * i5 + 1771) = x9 := by rw [en_169, pk_un (by omega)]; exact e165
                          have e176 : n_169 (6 * i5 + 1772) = x128 := by rw [en_169, pk_un (by omega)]; exact e167
                          have e177 : n_169 9 = x130 - x128 := by rw [en_169, pk_un (by omega)]; exact e168
                          have e178 : n_169 (6 * i5 + 1770) = (x8 + x10) - x128 := by rw [en_169, pk_us]
                          refine pm_goto (tgt := 363) hG dX12_quarter_315 rfl ?_
                          refine pm_iincX (v := nI (i5 + 1)) (loc' := [some (.ref (B + 54)), some (.int (nI (i5 + 1))), some (.int (nI (6 * i5 + 1770))), some (.int (x8 + x10)), some (.int x128)]) hG dX12_quarter_363 rfl (nI_1 _) (by decide) (pm_c1b rfl) rfl ?_
                          refine pm_goto (tgt := 180) hG dX12_quarter_366 rfl ?_
                          refine pm_fg 2 (loc' := [some (.ref (B + 54)), some (.int (nI (i5 + 1))), none, some (.int (x8 + x10)), some (.int x128)]) rfl ?_
                          refine pm_fg 3 (loc' := [some (.ref (B + 54)), some (.int (nI (i5 + 1))), none, none, some (.int x128)]) rfl ?_
                          refine pm_fg 4 (loc' := [some (.ref (B + 54)), some (.int (nI (i5 + 1))), none, none, none]) rfl ?_
                          exact ih5 n_169 (i5 + 1) hnn_169 ksn_169 hrn_169 (e170.trans (congrArg nI (by omega))) (e171.trans (congrArg nI (by omega))) (e172.trans (congrArg nI (by omega))) (e173.trans (congrArg nI (by omega))) (by omega) (by omega)
                      · refine pm_aloadn hG dX12_quarter_261 rfl ?_
                        refine pm_getf hG dX12_quarter_262 (flX12_7 _ rfl) rfl rfl ?_
                        refine pm_iloadn hG dX12_quarter_265 rfl ?_
                        refine pm_ialdN hG dX12_quarter_266 rfl (by decide) (by omega) ?_
                        refine pm_top (v := x8 + x10) e127 ?_
                        refine pm_goto (tgt := 278) hG dX12_quarter_267 rfl ?_
                        refine pm_istoreXi (loc' := [some (.ref (B + 54)), some (.int (nI i5)), some (.int (nI (6 * i5 + 1770))), some (.int (x8 + x10)), some (.int (x8 + x10))]) hG dX12_quarter_278 (by decide) (pm_c1b rfl) rfl ?_
                        refine pm_aloadn hG dX12_quarter_280 rfl ?_
                        refine pm_getf hG dX12_quarter_281 (flX12_7 _ rfl) rfl rfl ?_
                        refine pm_bipush (v := nI 9) hG dX12_quarter_284 (by decide) ?_
                        refine pm_ialdN hG dX12_quarter_286 rfl (by decide) (by omega) ?_
                        refine pm_gen (fun x179 ex179 => ?_)
                        refine pm_iloadi hG dX12_quarter_287 rfl ?_
                        refine pm_icmp_lt (tgt := 318) hG dX12_quarter_289 rfl (fun c180 => ?_) (fun c180 => ?_)
                        · refine pm_aloadn hG dX12_quarter_318 rfl ?_
                          refine pm_getf hG dX12_quarter_319 (flX12_7 _ rfl) rfl rfl ?_
                          refine pm_iloadn hG dX12_quarter_322 rfl ?_
                          refine pm_iconst (v := nI 3) hG dX12_quarter_323 (by decide) ?_
                          refine pm_iaddN (c := 6 * i5 + 1773) hG dX12_quarter_324 (by omega) ?_
                          refine pm_dup2 hG dX12_quarter_325 rfl rfl ?_
                          refine pm_ialdN hG dX12_quarter_326 rfl (by decide) (by omega) ?_
                          refine pm_gen (fun x181 ex181 => ?_)
                          refine pm_iconst (v := nI 1) hG dX12_quarter_327 (by decide) ?_
                          refine pm_iadd hG dX12_quarter_328 ?_
                          refine pm_iastN hG dX12_quarter_329 rfl (by decide) (by omega) ?_
                          refine mdn_now (fun n_182 en_182 => ?_)
                          have hnn_182 := KI.w en_182 hnn_120 (okv_f (show kd (6 * i5 + 1773) = (0, 0, false) from (kd_D (k := i5) (c := 3) (by omega) (by omega) (by decide))))
                          have hrn_182 := NRx.w en_182 hrn_120 (by rw [(show kd (6 * i5 + 1773) = (0, 0, false) from (kd_D (k := i5) (c := 3) (by omega) (by omega) (by decide)))])
                          have ksn_182 := KS.w en_182 ksn_120 (by unfold tS; omega)
                          have e183 : n_182 8 = nI kc8 := by rw [en_182, pk_un (by omega)]; exact e121
                          have e184 : n_182 0 = nI kc0 := by rw [en_182, pk_un (by omega)]; exact e122
                          have e185 : n_182 2 = nI kc2 := by rw [en_182, pk_un (by omega)]; exact e123
                          have e186 : n_182 7 = nI kc7 := by rw [en_182, pk_un (by omega)]; exact e124
                          have e187 : n_182 6 = nI k6 := by rw [en_182, pk_un (by omega)]; exact e125
                          have e188 : n_182 (6 * i5 + 1771) = x9 := by rw [en_182, pk_un (by omega)]; exact e126
                          have e189 : n_182 (6 * i5 + 1770) = x8 + x10 := by rw [en_182, pk_un (by omega)]; exact e127
                          have e190 : n_182 (6 * i5 + 1772) = x128 := by rw [en_182, pk_un (by omega)]; exact ex128
                          have e191 : n_182 9 = x179 := by rw [en_182, pk_un (by omega)]; exact ex179
                          have e192 : n_182 (6 * i5 + 1773) = x181 + (nI 1) := by rw [en_182, pk_us]
                          refine pm_aloadn hG dX12_quarter_330 rfl ?_
                          refine pm_getf hG dX12_quarter_331 (flX12_7 _ rfl) rfl rfl ?_
                          refine pm_iloadn hG dX12_quarter_334 rfl ?_
                          refine pm_iconst (v := nI 3) hG dX12_quarter_335 (by decide) ?_
                          refine pm_iaddN (c := 6 * i5 + 1773) hG dX12_quarter_336 (by omega) ?_
                          refine pm_ialdN hG dX12_quarter_337 rfl (by decide) (by omega) ?_
                          refine pm_top (v := x181 + (nI 1)) e192 ?_
                          refine pm_iconst (v := nI 2) hG dX12_quarter_338 (by decide) ?_
                          refine pm_icmp_ne (tgt := 363) hG dX12_quarter_339 rfl (fun c193 => ?_) (fun c193 => ?_)
                          · refine pm_iincX (v := nI (i5 + 1)) (loc' := [some (.ref (B + 54)), some (.int (nI (i5 + 1))), some (.int (nI (6 * i5 + 1770))), some (.int (x8 + x10)), some (.int (x8 + x10))]) hG dX12_quarter_363 rfl (nI_1 _) (by decide) (pm_c1b rfl) rfl ?_
                            refine pm_goto (tgt := 180) hG dX12_quarter_366 rfl ?_
                            refine pm_fg 2 (loc' := [some (.ref (B + 54)), some (.int (nI (i5 + 1))), none, some (.int (x8 + x10)), some (.int (x8 + x10))]) rfl ?_
                            refine pm_fg 3 (loc' := [some (.ref (B + 54)), some (.int (nI (i5 + 1))), none, none, some (.int (x8 + x10))]) rfl ?_
                            refine pm_fg 4 (loc' := [some (.ref (B + 54)), some (.int (nI (i5 + 1))), none, none, none]) rfl ?_
                            exact ih5 n_182 (i5 + 1) hnn_182 ksn_182 hrn_182 (e183.trans (congrArg nI (by omega))) (e184.trans (congrArg nI (by omega))) (e185.trans (congrArg nI (by omega))) (e186.trans (congrArg nI (by omega))) (by omega) (by omega)
                          · refine pm_aloadn hG dX12_quarter_342 rfl ?_
                            refine pm_getf hG dX12_quarter_343 (flX12_7 _ rfl) rfl rfl ?_
                            refine pm_bipush (v := nI 20) hG dX12_quarter_346 (by decide) ?_
                            refine pm_iconst (v := nI 3) hG dX12_quarter_348 (by decide) ?_
                            refine pm_aloadn hG dX12_quarter_349 rfl ?_
                            refine pm_getf hG dX12_quarter_350 (flX12_7 _ rfl) rfl rfl ?_
                            refine pm_iloadn hG dX12_quarter_353 rfl ?_
                            refine pm_iconst (v := nI 4) hG dX12_quarter_354 (by decide) ?_
                            refine pm_iaddN (c := 6 * i5 + 1774) hG dX12_quarter_355 (by omega) ?_
                            refine pm_ialdN hG dX12_quarter_356 rfl (by decide) (by omega) ?_
                            obtain ⟨k194, hk194, ek194⟩ := KI.nat hnn_182 (show kd (6 * i5 + 1774) = (1, 10, false) from (kd_D (k := i5) (c := 4) (by omega) (by omega) (by decide)))
                            refine pm_top (v := nI k194) ek194 ?_
                            refine pm_imulN (c := 3 * k194) hG dX12_quarter_357 (by omega) ?_
                            refine pm_iaddN (c := 3 * k194 + 20) hG dX12_quarter_358 (by omega) ?_
                            refine pm_iconst (v := nI 2) hG dX12_quarter_359 (by decide) ?_
                            refine pm_iaddN (c := 3 * k194 + 22) hG dX12_quarter_360 (by omega) ?_
                            refine pm_iconst (v := nI 1) hG dX12_quarter_361 (by decide) ?_
                            refine pm_iastN hG dX12_quarter_362 rfl (by decide) (by omega) ?_
                            refine mdn_now (fun n_195 en_195 => ?_)
                            have hnn_195 := KI.w en_195 hnn_182 (okv_f (show kd (3 * k194 + 22) = (0, 0, false) from (kd_T (k := k194) (c := 2) (by omega) (by omega) (by decide))))
                            have hrn_195 := NRx.w en_195 hrn_182 (by rw [(show kd (3 * k194 + 22) = (0, 0, false) from (kd_T (k := k194) (c := 2) (by omega) (by omega) (by decide)))])
                            have ksn_195 := KS.w en_195 ksn_182 (by unfold tS; omega)
                            have e196 : n_195 8 = nI kc8 := by rw [en_195, pk_un (by omega)]; exact e183
                            have e197 : n_195 0 = nI kc0 := by rw [en_195, pk_un (by omega)]; exact e184
                            have e198 : n_195 2 = nI kc2 := by rw [en_195, pk_un (by omega)]; exact e185
                            have e199 : n_195 7 = nI kc7 := by rw [en_195, pk_un (by omega)]; exact e186
                            have e200 : n_195 6 = nI k6 := by rw [en_195, pk_un (by omega)]; exact e187
                            have e201 : n_195 (6 * i5 + 1771) = x9 := by rw [en_195, pk_un (by omega)]; exact e188
                            have e202 : n_195 (6 * i5 + 1770) = x8 + x10 := by rw [en_195, pk_un (by omega)]; exact e189
                            have e203 : n_195 (6 * i5 + 1772) = x128 := by rw [en_195, pk_un (by omega)]; exact e190
                            have e204 : n_195 9 = x179 := by rw [en_195, pk_un (by omega)]; exact e191
                            have e205 : n_195 (6 * i5 + 1773) = x181 + (nI 1) := by rw [en_195, pk_un (by omega)]; exact e192
                            have e206 : n_195 (6 * i5 + 1774) = nI k194 := by rw [en_195, pk_un (by omega)]; exact ek194
                            have e207 : n_195 (3 * k194 + 22) = nI 1 := by rw [en_195, pk_us]
                            refine pm_iincX (v := nI (i5 + 1)) (loc' := [some (.ref (B + 54)), some (.int (nI (i5 + 1))), some (.int (nI (6 * i5 + 1770))), some (.int (x8 + x10)), some (.int (x8 + x10))]) hG dX12_quarter_363 rfl (nI_1 _) (by decide) (pm_c1b rfl) rfl ?_
                            refine pm_goto (tgt := 180) hG dX12_quarter_366 rfl ?_
                            refine pm_fg 2 (loc' := [some (.ref (B + 54)), some (.int (nI (i5 + 1))), none, some (.int (x8 + x10)), some (.int (x8 + x10))]) rfl ?_
                            refine pm_fg 3 (loc' := [some (.ref (B + 54)), some (.int (nI (i5 + 1))), none, none, some (.int (x8 + x10))]) rfl ?_
                            refine pm_fg 4 (loc' := [some (.ref (B + 54)), some (.int (nI (i5 + 1))), none, none, none]) rfl ?_
                            exact ih5 n_195 (i5 + 1) hnn_195 ksn_195 hrn_195 (e196.trans (congrArg nI (by omega))) (e197.trans (congrArg nI (by omega))) (e198.trans (congrArg nI (by omega))) (e199.trans (congrArg nI (by omega))) (by omega) (by omega)
                        · refine pm_aloadn hG dX12_quarter_292 rfl ?_
                          refine pm_getf hG dX12_quarter_293 (flX12_7 _ rfl) rfl rfl ?_
                          refine pm_bipush (v := nI 9) hG dX12_quarter_296 (by decide) ?_
                          refine pm_dup2 hG dX12_quarter_298 rfl rfl ?_
                          refine pm_ialdN hG dX12_quarter_299 rfl (by decide) (by omega) ?_
                          refine pm_top (v := x179) ex179 ?_
                          refine pm_iloadi hG dX12_quarter_300 rfl ?_
                          refine pm_isub hG dX12_quarter_302 ?_
                          refine pm_iastN hG dX12_quarter_303 rfl (by decide) (by omega) ?_
                          refine mdn_now (fun n_208 en_208 => ?_)
                          have hnn_208 := KI.w en_208 hnn_120 (okv_f (show kd 9 = (0, 0, false) by decide))
                          have hrn_208 := NRx.w en_208 hrn_120 (by rw [(show kd 9 = (0, 0, false) by decide)])
                          have ksn_208 := KS.w en_208 ksn_120 (by unfold tS; omega)
                          have e209 : n_208 8 = nI kc8 := by rw [en_208, pk_un (by omega)]; exact e121
                          have e210 : n_208 0 = nI kc0 := by rw [en_208, pk_un (by omega)]; exact e122
                          have e211 : n_208 2 = nI kc2 := by rw [en_208, pk_un (by omega)]; exact e123
                          have e212 : n_208 7 = nI kc7 := by rw [en_208, pk_un (by omega)]; exact e124
                          have e213 : n_208 6 = nI k6 := by rw [en_208, pk_un (by omega)]; exact e125
                          have e214 : n_208 (6 * i5 + 1771) = x9 := by rw [en_208, pk_un (by omega)]; exact e126
                          have e215 : n_208 (6 * i5 + 1770) = x8 + x10 := by rw [en_208, pk_un (by omega)]; exact e127
                          have e216 : n_208 (6 * i5 + 1772) = x128 := by rw [en_208, pk_un (by omega)]; exact ex128
                          have e217 : n_208 9 = x179 - (x8 + x10) := by rw [en_208, pk_us]
                          refine pm_aloadn hG dX12_quarter_304 rfl ?_
                          refine pm_getf hG dX12_quarter_305 (flX12_7 _ rfl) rfl rfl ?_
                          refine pm_iloadn hG dX12_quarter_308 rfl ?_
                          refine pm_dup2 hG dX12_quarter_309 rfl rfl ?_
                          refine pm_ialdN hG dX12_quarter_310 rfl (by decide) (by omega) ?_
                          refine pm_top (v := x8 + x10) e215 ?_
                          refine pm_iloadi hG dX12_quarter_311 rfl ?_
                          refine pm_isub hG dX12_quarter_313 ?_
                          refine pm_iastN hG dX12_quarter_314 rfl (by decide) (by omega) ?_
                          refine mdn_now (fun n_218 en_218 => ?_)
                          have hnn_218 := KI.w en_218 hnn_208 (okv_f (show kd (6 * i5 + 1770) = (0, 0, false) from (kd_D (k := i5) (c := 0) (by omega) (by omega) (by decide))))
                          have hrn_218 := NRx.w en_218 hrn_208 (by rw [(show kd (6 * i5 + 1770) = (0, 0, false) from (kd_D (k := i5) (c := 0) (by omega) (by omega) (by decide)))])
                          have ksn_218 := KS.w en_218 ksn_208 (by unfold tS; omega)
                          have e219 : n_218 8 = nI kc8 := by rw [en_218, pk_un (by omega)]; exact e209
                          have e220 : n_218 0 = nI kc0 := by rw [en_218, pk_un (by omega)]; exact e210
                          have e221 : n_218 2 = nI kc2 := by rw [en_218, pk_un (by omega)]; exact e211
                          have e222 : n_218 7 = nI kc7 := by rw [en_218, pk_un (by omega)]; exact e212
                          have e223 : n_218 6 = nI k6 := by rw [en_218, pk_un (by omega)]; exact e213
                          have e224 : n_218 (6 * i5 + 1771) = x9 := by rw [en_218, pk_un (by omega)]; exact e214
                          have e225 : n_218 (6 * i5 + 1772) = x128 := by rw [en_218, pk_un (by omega)]; exact e216
                          have e226 : n_218 9 = x179 - (x8 + x10) := by rw [en_218, pk_un (by omega)]; exact e217
                          have e227 : n_218 (6 * i5 + 1770) = (x8 + x10) - (x8 + x10) := by rw [en_218, pk_us]
                          refine pm_goto (tgt := 363) hG dX12_quarter_315 rfl ?_
                          refine pm_iincX (v := nI (i5 + 1)) (loc' := [some (.ref (B + 54)), some (.int (nI (i5 + 1))), some (.int (nI (6 * i5 + 1770))), some (.int (x8 + x10)), some (.int (x8 + x10))]) hG dX12_quarter_363 rfl (nI_1 _) (by decide) (pm_c1b rfl) rfl ?_
                          refine pm_goto (tgt := 180) hG dX12_quarter_366 rfl ?_
                          refine pm_fg 2 (loc' := [some (.ref (B + 54)), some (.int (nI (i5 + 1))), none, some (.int (x8 + x10)), some (.int (x8 + x10))]) rfl ?_
                          refine pm_fg 3 (loc' := [some (.ref (B + 54)), some (.int (nI (i5 + 1))), none, none, some (.int (x8 + x10))]) rfl ?_
                          refine pm_fg 4 (loc' := [some (.ref (B + 54)), some (.int (nI (i5 + 1))), none, none, none]) rfl ?_
                          exact ih5 n_218 (i5 + 1) hnn_218 ksn_218 hrn_218 (e219.trans (congrArg nI (by omega))) (e220.trans (congrArg nI (by omega))) (e221.trans (congrArg nI (by omega))) (e222.trans (congrArg nI (by omega))) (by omega) (by omega)
              exact loop180_5 _ n_3 0 hnn_3 ksn_3 hrn_3 (kc3_8.trans (congrArg nI (by omega))) (kc3_0.trans (congrArg nI (by omega))) (kc3_2.trans (congrArg nI (by omega))) (kc3_7.trans (congrArg nI (by omega))) (by omega) (Nat.lt_succ_self _)
            · refine pm_aloadn hG dX12_quarter_113 rfl ?_
              refine pm_iloadn hG dX12_quarter_114 rfl ?_
              refine pm_bipush (v := nI 7) hG dX12_quarter_115 (by decide) ?_
              refine pm_callV (As := [.int (nI i3), .int (nI 7)]) (rest := []) hG hR dX12_quarter_117 (lkX12_72 _ rfl) okV_X12_man rfl rfl (m_man (d := 1) (e := 14 * i3 + 117) (by omega) (by omega) (by omega)) rfl rfl hdd (Nat.le_refl _) (Nat.le_refl _) (by decide) (pm_ki (fun v228 σ' cnt' hq => ?_))
              obtain ⟨rfl, rfl, rfl⟩ := hq
              refine pm_gen (fun x229 ex229 => ?_)
              refine pm_aloadn hG dX12_quarter_120 rfl ?_
              refine pm_iloadn hG dX12_quarter_121 rfl ?_
              refine pm_bipush (v := nI 8) hG dX12_quarter_122 (by decide) ?_
              refine pm_callV (As := [.int (nI i3), .int (nI 8)]) (rest := [.int x229]) hG hR dX12_quarter_124 (lkX12_72 _ rfl) okV_X12_man rfl rfl (m_man (d := 1) (e := 14 * i3 + 118) (by omega) (by omega) (by omega)) rfl rfl hdd (Nat.le_refl _) (Nat.le_refl _) (Nat.le_of_ble_eq_true rfl) (pm_ki (fun v230 σ' cnt' hq => ?_))
              obtain ⟨rfl, rfl, rfl⟩ := hq
              refine pm_gen (fun x231 ex231 => ?_)
              refine pm_icmp_ge (tgt := 140) hG dX12_quarter_127 rfl (fun c232 => ?_) (fun c232 => ?_)
              · refine pm_aloadn hG dX12_quarter_140 rfl ?_
                refine pm_iloadn hG dX12_quarter_141 rfl ?_
                refine pm_bipush (v := nI 8) hG dX12_quarter_142 (by decide) ?_
                refine pm_callV (As := [.int (nI i3), .int (nI 8)]) (rest := []) hG hR dX12_quarter_144 (lkX12_72 _ rfl) okV_X12_man rfl rfl (m_man (d := 1) (e := 14 * i3 + 118) (by omega) (by omega) (by omega)) rfl rfl hdd (Nat.le_refl _) (Nat.le_refl _) (by decide) (pm_ki (fun v233 σ' cnt' hq => ?_))
                obtain ⟨rfl, rfl, rfl⟩ := hq
                refine pm_top (v := x231) ex231 ?_
                refine pm_istoreXn (loc' := [some (.ref (B + 54)), some (.int (nI i3)), some (.int x231), none, none]) hG dX12_quarter_147 (by decide) (pm_c1b rfl) rfl ?_
                refine pm_aloadn hG dX12_quarter_148 rfl ?_
                refine pm_iloadn hG dX12_quarter_149 rfl ?_
                refine pm_bipush (v := nI 7) hG dX12_quarter_150 (by decide) ?_
                refine pm_aloadn hG dX12_quarter_152 rfl ?_
                refine pm_iloadn hG dX12_quarter_153 rfl ?_
                refine pm_bipush (v := nI 7) hG dX12_quarter_154 (by decide) ?_
                refine pm_callV (As := [.int (nI i3), .int (nI 7)]) (rest := [.int (nI 7), .int (nI i3), .ref (B + 54)]) hG hR dX12_quarter_156 (lkX12_72 _ rfl) okV_X12_man rfl rfl (m_man (d := 1) (e := 14 * i3 + 117) (by omega) (by omega) (by omega)) rfl rfl hdd (Nat.le_refl _) (Nat.le_refl _) (Nat.le_of_ble_eq_true rfl) (pm_ki (fun v234 σ' cnt' hq => ?_))
                obtain ⟨rfl, rfl, rfl⟩ := hq
                refine pm_top (v := x229) ex229 ?_
                refine pm_iloadn hG dX12_quarter_159 rfl ?_
                refine pm_isub hG dX12_quarter_160 ?_
                refine pm_callV (As := [.int (nI i3), .int (nI 7), .int (x229 - x231)]) (rest := []) hG hR dX12_quarter_161 (lkX12_97 _ rfl) okV_X12_sets rfl rfl (m_sets (d := 1) (e := 14 * i3 + 117) (by omega) (by omega) (by omega)) rfl rfl hdd (Nat.le_refl _) (Nat.le_refl _) (by decide) (pm_kv (fun σ' cnt' hq => ?_))
                obtain ⟨rfl, rfl⟩ := hq
                obtain ⟨n_235, en_235⟩ : ∃ f : Nat → Int32, f = upd n_3 (14 * i3 + 117) (x229 - x231) := ⟨_, rfl⟩
                rw [← en_235]
                have hnn_235 := KI.w en_235 hnn_3 (okv_f (show kd (14 * i3 + 117) = (0, 0, false) from (kd_P (k := i3) (c := 7) (by omega) (by omega) (by decide))))
                have hrn_235 := NRx.w en_235 hrn_3 (by rw [(show kd (14 * i3 + 117) = (0, 0, false) from (kd_P (k := i3) (c := 7) (by omega) (by omega) (by decide)))])
                have ksn_235 := KS.w en_235 ksn_3 (by unfold tS; omega)
                have e236 : n_235 8 = nI kc8 := by rw [en_235, pk_un (by omega)]; exact kc3_8
                have e237 : n_235 0 = nI kc0 := by rw [en_235, pk_un (by omega)]; exact kc3_0
                have e238 : n_235 2 = nI kc2 := by rw [en_235, pk_un (by omega)]; exact kc3_2
                have e239 : n_235 7 = nI kc7 := by rw [en_235, pk_un (by omega)]; exact kc3_7
                have e240 : n_235 (14 * i3 + 118) = x231 := by rw [en_235, pk_un (by omega)]; exact ex231
                have e241 : n_235 (14 * i3 + 117) = x229 - x231 := by rw [en_235, pk_us]
                refine pm_aloadn hG dX12_quarter_164 rfl ?_
                refine pm_iloadn hG dX12_quarter_165 rfl ?_
                refine pm_bipush (v := nI 8) hG dX12_quarter_166 (by decide) ?_
                refine pm_iloadn hG dX12_quarter_168 rfl ?_
                refine pm_callV (As := [.int (nI i3), .int (nI 8), .int x231]) (rest := []) hG hR dX12_quarter_169 (lkX12_97 _ rfl) okV_X12_sets rfl rfl (m_sets (d := 1) (e := 14 * i3 + 118) (by omega) (by omega) (by omega)) rfl rfl hdd (Nat.le_refl _) (Nat.le_refl _) (by decide) (pm_kv (fun σ' cnt' hq => ?_))
                obtain ⟨rfl, rfl⟩ := hq
                obtain ⟨n_242, en_242⟩ : ∃ f : Nat → Int32, f = upd n_235 (14 * i3 + 118) x231 := ⟨_, rfl⟩
                rw [← en_242]
                have hnn_242 := KI.w en_242 hnn_235 (okv_f (show kd (14 * i3 + 118) = (0, 0, false) from (kd_P (k := i3) (c := 8) (by omega) (by omega) (by decide))))
                have hrn_242 := NRx.w en_242 hrn_235 (by rw [(show kd (14 * i3 + 118) = (0, 0, false) from (kd_P (k := i3) (c := 8) (by omega) (by omega) (by decide)))])
                have ksn_242 := KS.w en_242 ksn_235 (by unfold tS; omega)
                have e243 : n_242 8 = nI kc8 := by rw [en_242, pk_un (by omega)]; exact e236
                have e244 : n_242 0 = nI kc0 := by rw [en_242, pk_un (by omega)]; exact e237
                have e245 : n_242 2 = nI kc2 := by rw [en_242, pk_un (by omega)]; exact e238
                have e246 : n_242 7 = nI kc7 := by rw [en_242, pk_un (by omega)]; exact e239
                have e247 : n_242 (14 * i3 + 117) = x229 - x231 := by rw [en_242, pk_un (by omega)]; exact e241
                have e248 : n_242 (14 * i3 + 118) = x231 := by rw [en_242, pk_us]
                refine pm_iincX (v := nI (i3 + 1)) (loc' := [some (.ref (B + 54)), some (.int (nI (i3 + 1))), some (.int x231), none, none]) hG dX12_quarter_172 rfl (nI_1 _) (by decide) (pm_c1b rfl) rfl ?_
                refine pm_goto (tgt := 103) hG dX12_quarter_175 rfl ?_
                refine pm_fg 2 (loc' := [some (.ref (B + 54)), some (.int (nI (i3 + 1))), none, none, none]) rfl ?_
                exact ih3 n_242 (i3 + 1) hnn_242 ksn_242 hrn_242 (e243.trans (congrArg nI (by omega))) (e244.trans (congrArg nI (by omega))) (e245.trans (congrArg nI (by omega))) (e246.trans (congrArg nI (by omega))) (by omega) (by omega)
              · refine pm_aloadn hG dX12_quarter_130 rfl ?_
                refine pm_iloadn hG dX12_quarter_131 rfl ?_
                refine pm_bipush (v := nI 7) hG dX12_quarter_132 (by decide) ?_
                refine pm_callV (As := [.int (nI i3), .int (nI 7)]) (rest := []) hG hR dX12_quarter_134 (lkX12_72 _ rfl) okV_X12_man rfl rfl (m_man (d := 1) (e := 14 * i3 + 117) (by omega) (by omega) (by omega)) rfl rfl hdd (Nat.le_refl _) (Nat.le_refl _) (by decide) (pm_ki (fun v249 σ' cnt' hq => ?_))
                obtain ⟨rfl, rfl, rfl⟩ := hq
                refine pm_top (v := x229) ex229 ?_
                refine pm_goto (tgt := 147) hG dX12_quarter_137 rfl ?_
                refine pm_istoreXn (loc' := [some (.ref (B + 54)), some (.int (nI i3)), some (.int x229), none, none]) hG dX12_quarter_147 (by decide) (pm_c1b rfl) rfl ?_
                refine pm_aloadn hG dX12_quarter_148 rfl ?_
                refine pm_iloadn hG dX12_quarter_149 rfl ?_
                refine pm_bipush (v := nI 7) hG dX12_quarter_150 (by decide) ?_
                refine pm_aloadn hG dX12_quarter_152 rfl ?_
                refine pm_iloadn hG dX12_quarter_153 rfl ?_
                refine pm_bipush (v := nI 7) hG dX12_quarter_154 (by decide) ?_
                refine pm_callV (As := [.int (nI i3), .int (nI 7)]) (rest := [.int (nI 7), .int (nI i3), .ref (B + 54)]) hG hR dX12_quarter_156 (lkX12_72 _ rfl) okV_X12_man rfl rfl (m_man (d := 1) (e := 14 * i3 + 117) (by omega) (by omega) (by omega)) rfl rfl hdd (Nat.le_refl _) (Nat.le_refl _) (Nat.le_of_ble_eq_true rfl) (pm_ki (fun v250 σ' cnt' hq => ?_))
                obtain ⟨rfl, rfl, rfl⟩ := hq
                refine pm_top (v := x229) ex229 ?_
                refine pm_iloadn hG dX12_quarter_159 rfl ?_
                refine pm_isub hG dX12_quarter_160 ?_
                refine pm_callV (As := [.int (nI i3), .int (nI 7), .int (x229 - x229)]) (rest := []) hG hR dX12_quarter_161 (lkX12_97 _ rfl) okV_X12_sets rfl rfl (m_sets (d := 1) (e := 14 * i3 + 117) (by omega) (by omega) (by omega)) rfl rfl hdd (Nat.le_refl _) (Nat.le_refl _) (by decide) (pm_kv (fun σ' cnt' hq => ?_))
                obtain ⟨rfl, rfl⟩ := hq
                obtain ⟨n_251, en_251⟩ : ∃ f : Nat → Int32, f = upd n_3 (14 * i3 + 117) (x229 - x229) := ⟨_, rfl⟩
                rw [← en_251]
                have hnn_251 := KI.w en_251 hnn_3 (okv_f (show kd (14 * i3 + 117) = (0, 0, false) from (kd_P (k := i3) (c := 7) (by omega) (by omega) (by decide))))
                have hrn_251 := NRx.w en_251 hrn_3 (by rw [(show kd (14 * i3 + 117) = (0, 0, false) from (kd_P (k := i3) (c := 7) (by omega) (by omega) (by decide)))])
                have ksn_251 := KS.w en_251 ksn_3 (by unfold tS; omega)
                have e252 : n_251 8 = nI kc8 := by rw [en_251, pk_un (by omega)]; exact kc3_8
                have e253 : n_251 0 = nI kc0 := by rw [en_251, pk_un (by omega)]; exact kc3_0
                have e254 : n_251 2 = nI kc2 := by rw [en_251, pk_un (by omega)]; exact kc3_2
                have e255 : n_251 7 = nI kc7 := by rw [en_251, pk_un (by omega)]; exact kc3_7
                have e256 : n_251 (14 * i3 + 118) = x231 := by rw [en_251, pk_un (by omega)]; exact ex231
                have e257 : n_251 (14 * i3 + 117) = x229 - x229 := by rw [en_251, pk_us]
                refine pm_aloadn hG dX12_quarter_164 rfl ?_
                refine pm_iloadn hG dX12_quarter_165 rfl ?_
                refine pm_bipush (v := nI 8) hG dX12_quarter_166 (by decide) ?_
                refine pm_iloadn hG dX12_quarter_168 rfl ?_
                refine pm_callV (As := [.int (nI i3), .int (nI 8), .int x229]) (rest := []) hG hR dX12_quarter_169 (lkX12_97 _ rfl) okV_X12_sets rfl rfl (m_sets (d := 1) (e := 14 * i3 + 118) (by omega) (by omega) (by omega)) rfl rfl hdd (Nat.le_refl _) (Nat.le_refl _) (by decide) (pm_kv (fun σ' cnt' hq => ?_))
                obtain ⟨rfl, rfl⟩ := hq
                obtain ⟨n_258, en_258⟩ : ∃ f : Nat → Int32, f = upd n_251 (14 * i3 + 118) x229 := ⟨_, rfl⟩
                rw [← en_258]
                have hnn_258 := KI.w en_258 hnn_251 (okv_f (show kd (14 * i3 + 118) = (0, 0, false) from (kd_P (k := i3) (c := 8) (by omega) (by omega) (by decide))))
                have hrn_258 := NRx.w en_258 hrn_251 (by rw [(show kd (14 * i3 + 118) = (0, 0, false) from (kd_P (k := i3) (c := 8) (by omega) (by omega) (by decide)))])
                have ksn_258 := KS.w en_258 ksn_251 (by unfold tS; omega)
                have e259 : n_258 8 = nI kc8 := by rw [en_258, pk_un (by omega)]; exact e252
                have e260 : n_258 0 = nI kc0 := by rw [en_258, pk_un (by omega)]; exact e253
                have e261 : n_258 2 = nI kc2 := by rw [en_258, pk_un (by omega)]; exact e254
                have e262 : n_258 7 = nI kc7 := by rw [en_258, pk_un (by omega)]; exact e255
                have e263 : n_258 (14 * i3 + 117) = x229 - x229 := by rw [en_258, pk_un (by omega)]; exact e257
                have e264 : n_258 (14 * i3 + 118) = x229 := by rw [en_258, pk_us]
                refine pm_iincX (v := nI (i3 + 1)) (loc' := [some (.ref (B + 54)), some (.int (nI (i3 + 1))), some (.int x229), none, none]) hG dX12_quarter_172 rfl (nI_1 _) (by decide) (pm_c1b rfl) rfl ?_
                refine pm_goto (tgt := 103) hG dX12_quarter_175 rfl ?_
                refine pm_fg 2 (loc' := [some (.ref (B + 54)), some (.int (nI (i3 + 1))), none, none, none]) rfl ?_
                exact ih3 n_258 (i3 + 1) hnn_258 ksn_258 hrn_258 (e259.trans (congrArg nI (by omega))) (e260.trans (congrArg nI (by omega))) (e261.trans (congrArg nI (by omega))) (e262.trans (congrArg nI (by omega))) (by omega) (by omega)
        exact loop103_3 _ n_1 0 hnn_1 ksn_1 hrn_1 (kc1_8.trans (congrArg nI (by omega))) (kc1_0.trans (congrArg nI (by omega))) (kc1_2.trans (congrArg nI (by omega))) (kc1_7.trans (congrArg nI (by omega))) (by omega) (Nat.lt_succ_self _)
      · refine pm_bipush (v := nI 20) hG dX12_quarter_12 (by decide) ?_
        refine pm_iconst (v := nI 3) hG dX12_quarter_14 (by decide) ?_
        refine pm_iloadn hG dX12_quarter_15 rfl ?_
        refine pm_imulN (c := 3 * i1) hG dX12_quarter_16 (by omega) ?_
        refine pm_iaddN (c := 3 * i1 + 20) hG dX12_quarter_17 (by omega) ?_
        refine pm_istoreXn (loc' := [some (.ref (B + 54)), some (.int (nI i1)), some (.int (nI (3 * i1 + 20))), none, none]) hG dX12_quarter_18 (by decide) (pm_c1b rfl) rfl ?_
        refine pm_aloadn hG dX12_quarter_19 rfl ?_
        refine pm_getf hG dX12_quarter_20 (flX12_7 _ rfl) rfl rfl ?_
        refine pm_iloadn hG dX12_quarter_23 rfl ?_
        refine pm_iconst (v := nI 1) hG dX12_quarter_24 (by decide) ?_
        refine pm_iaddN (c := 3 * i1 + 21) hG dX12_quarter_25 (by omega) ?_
        refine pm_ialdN hG dX12_quarter_26 rfl (by decide) (by omega) ?_
        rcases KI.opt hnn_1 (show kd (3 * i1 + 21) = (2, 20, false) from (kd_T (k := i1) (c := 1) (by omega) (by omega) (by decide))) with ek265 | ⟨k265, hk265, ek265⟩
        · refine pm_top (v := (-1)) ek265 ?_
          refine pm_istoreXn (loc' := [some (.ref (B + 54)), some (.int (nI i1)), some (.int (nI (3 * i1 + 20))), some (.int (-1)), none]) hG dX12_quarter_27 (by decide) (pm_c1b rfl) rfl ?_
          refine pm_aloadn hG dX12_quarter_28 rfl ?_
          refine pm_getf hG dX12_quarter_29 (flX12_7 _ rfl) rfl rfl ?_
          refine pm_iloadn hG dX12_quarter_32 rfl ?_
          refine pm_iconst (v := nI 2) hG dX12_quarter_33 (by decide) ?_
          refine pm_iaddN (c := 3 * i1 + 22) hG dX12_quarter_34 (by omega) ?_
          refine pm_ialdN hG dX12_quarter_35 rfl (by decide) (by omega) ?_
          refine pm_gen (fun x266 ex266 => ?_)
          refine pm_iconst (v := nI 1) hG dX12_quarter_36 (by decide) ?_
          refine pm_icmp_ne (tgt := 43) hG dX12_quarter_37 rfl (fun c267 => ?_) (fun c267 => ?_)
          · refine pm_iloadn hG dX12_quarter_43 rfl ?_
            refine pm_if_lt (tgt := 79) hG dX12_quarter_44 rfl (fun _ => ?_) (fun q => absurd q (by decide))
            refine pm_aloadn hG dX12_quarter_79 rfl ?_
            refine pm_getf hG dX12_quarter_80 (flX12_7 _ rfl) rfl rfl ?_
            refine pm_bipush (v := nI 9) hG dX12_quarter_83 (by decide) ?_
            refine pm_dup2 hG dX12_quarter_85 rfl rfl ?_
            refine pm_ialdN hG dX12_quarter_86 rfl (by decide) (by omega) ?_
            refine pm_gen (fun x268 ex268 => ?_)
            refine pm_aloadn hG dX12_quarter_87 rfl ?_
            refine pm_getf hG dX12_quarter_88 (flX12_7 _ rfl) rfl rfl ?_
            refine pm_iloadn hG dX12_quarter_91 rfl ?_
            refine pm_ialdN hG dX12_quarter_92 rfl (by decide) (by omega) ?_
            refine pm_gen (fun x269 ex269 => ?_)
            refine pm_iadd hG dX12_quarter_93 ?_
            refine pm_iastN hG dX12_quarter_94 rfl (by decide) (by omega) ?_
            refine mdn_now (fun n_270 en_270 => ?_)
            have hnn_270 := KI.w en_270 hnn_1 (okv_f (show kd 9 = (0, 0, false) by decide))
            have hrn_270 := NRx.w en_270 hrn_1 (by rw [(show kd 9 = (0, 0, false) by decide)])
            have ksn_270 := KS.w en_270 ksn_1 (by unfold tS; omega)
            have e271 : n_270 8 = nI kc8 := by rw [en_270, pk_un (by omega)]; exact kc1_8
            have e272 : n_270 0 = nI kc0 := by rw [en_270, pk_un (by omega)]; exact kc1_0
            have e273 : n_270 2 = nI kc2 := by rw [en_270, pk_un (by omega)]; exact kc1_2
            have e274 : n_270 7 = nI kc7 := by rw [en_270, pk_un (by omega)]; exact kc1_7
            have e275 : n_270 (3 * i1 + 21) = (-1) := by rw [en_270, pk_un (by omega)]; exact ek265
            have e276 : n_270 (3 * i1 + 22) = x266 := by rw [en_270, pk_un (by omega)]; exact ex266
            have e277 : n_270 (3 * i1 + 20) = x269 := by rw [en_270, pk_un (by omega)]; exact ex269
            have e278 : n_270 9 = x268 + x269 := by rw [en_270, pk_us]
            refine pm_iincX (v := nI (i1 + 1)) (loc' := [some (.ref (B + 54)), some (.int (nI (i1 + 1))), some (.int (nI (3 * i1 + 20))), some (.int (-1)), none]) hG dX12_quarter_95 rfl (nI_1 _) (by decide) (pm_c1b rfl) rfl ?_
            refine pm_goto (tgt := 2) hG dX12_quarter_98 rfl ?_
            refine pm_fg 2 (loc' := [some (.ref (B + 54)), some (.int (nI (i1 + 1))), none, some (.int (-1)), none]) rfl ?_
            refine pm_fg 3 (loc' := [some (.ref (B + 54)), some (.int (nI (i1 + 1))), none, none, none]) rfl ?_
            exact ih1 n_270 (i1 + 1) hnn_270 ksn_270 hrn_270 (e271.trans (congrArg nI (by omega))) (e272.trans (congrArg nI (by omega))) (e273.trans (congrArg nI (by omega))) (e274.trans (congrArg nI (by omega))) (by omega) (by omega)
          · refine pm_goto (tgt := 95) hG dX12_quarter_40 rfl ?_
            refine pm_iincX (v := nI (i1 + 1)) (loc' := [some (.ref (B + 54)), some (.int (nI (i1 + 1))), some (.int (nI (3 * i1 + 20))), some (.int (-1)), none]) hG dX12_quarter_95 rfl (nI_1 _) (by decide) (pm_c1b rfl) rfl ?_
            refine pm_goto (tgt := 2) hG dX12_quarter_98 rfl ?_
            refine pm_fg 2 (loc' := [some (.ref (B + 54)), some (.int (nI (i1 + 1))), none, some (.int (-1)), none]) rfl ?_
            refine pm_fg 3 (loc' := [some (.ref (B + 54)), some (.int (nI (i1 + 1))), none, none, none]) rfl ?_
            exact ih1 n_1 (i1 + 1) hnn_1 ksn_1 hrn_1 (kc1_8.trans (congrArg nI (by omega))) (kc1_0.trans (congrArg nI (by omega))) (kc1_2.trans (congrArg nI (by omega))) (kc1_7.trans (congrArg nI (by omega))) (by omega) (by omega)
        · refine pm_top (v := nI k265) ek265 ?_
          refine pm_istoreXn (loc' := [some (.ref (B + 54)), some (.int (nI i1)), some (.int (nI (3 * i1 + 20))), some (.int (nI k265)), none]) hG dX12_quarter_27 (by decide) (pm_c1b rfl) rfl ?_
          refine pm_aloadn hG dX12_quarter_28 rfl ?_
          refine pm_getf hG dX12_quarter_29 (flX12_7 _ rfl) rfl rfl ?_
          refine pm_iloadn hG dX12_quarter_32 rfl ?_
          refine pm_iconst (v := nI 2) hG dX12_quarter_33 (by decide) ?_
          refine pm_iaddN (c := 3 * i1 + 22) hG dX12_quarter_34 (by omega) ?_
          refine pm_ialdN hG dX12_quarter_35 rfl (by decide) (by omega) ?_
          refine pm_gen (fun x279 ex279 => ?_)
          refine pm_iconst (v := nI 1) hG dX12_quarter_36 (by decide) ?_
          refine pm_icmp_ne (tgt := 43) hG dX12_quarter_37 rfl (fun c280 => ?_) (fun c280 => ?_)
          · refine pm_iloadn hG dX12_quarter_43 rfl ?_
            refine pm_ifN_lt hG dX12_quarter_44 rfl (by omega) ?_
            refine pm_aloadn hG dX12_quarter_47 rfl ?_
            refine pm_iloadn hG dX12_quarter_48 rfl ?_
            rcases KI.opt hnn_1 (show kd (14 * k265 + 119) = (2, 2001, false) from (kd_P (k := k265) (c := 9) (by omega) (by omega) (by decide))) with ek281 | ⟨k281, hk281, ek281⟩
            · refine pm_callV (As := [.int (nI k265)]) (rest := []) hG hR dX12_quarter_49 (lkX12_101 _ rfl) okV_X12_lives rfl rfl (m_lives1 (d := 1) (by decide) (by omega) (by omega : 14 * k265 + 119 = 14 * k265 + 119) ek281) rfl rfl hdd (Nat.le_refl _) (Nat.le_refl _) (by decide) (pm_ki (fun v282 σ' cnt' hq => ?_))
              obtain ⟨rfl, rfl, rfl⟩ := hq
              refine pm_ifN_eq (tgt := 79) hG dX12_quarter_52 rfl (by omega) (fun q => absurd q (by omega)) (fun _ => ?_)
              refine pm_aloadn hG dX12_quarter_55 rfl ?_
              refine pm_iloadn hG dX12_quarter_56 rfl ?_
              refine pm_bipush (v := nI 7) hG dX12_quarter_57 (by decide) ?_
              refine pm_aloadn hG dX12_quarter_59 rfl ?_
              refine pm_iloadn hG dX12_quarter_60 rfl ?_
              refine pm_bipush (v := nI 7) hG dX12_quarter_61 (by decide) ?_
              refine pm_callV (As := [.int (nI k265), .int (nI 7)]) (rest := [.int (nI 7), .int (nI k265), .ref (B + 54)]) hG hR dX12_quarter_63 (lkX12_72 _ rfl) okV_X12_man rfl rfl (m_man (d := 1) (e := 14 * k265 + 117) (by omega) (by omega) (by omega)) rfl rfl hdd (Nat.le_refl _) (Nat.le_refl _) (Nat.le_of_ble_eq_true rfl) (pm_ki (fun v283 σ' cnt' hq => ?_))
              obtain ⟨rfl, rfl, rfl⟩ := hq
              refine pm_gen (fun x284 ex284 => ?_)
              refine pm_aloadn hG dX12_quarter_66 rfl ?_
              refine pm_getf hG dX12_quarter_67 (flX12_7 _ rfl) rfl rfl ?_
              refine pm_iloadn hG dX12_quarter_70 rfl ?_
              refine pm_ialdN hG dX12_quarter_71 rfl (by decide) (by omega) ?_
              refine pm_gen (fun x285 ex285 => ?_)
              refine pm_iadd hG dX12_quarter_72 ?_
              refine pm_callV (As := [.int (nI k265), .int (nI 7), .int (x284 + x285)]) (rest := []) hG hR dX12_quarter_73 (lkX12_97 _ rfl) okV_X12_sets rfl rfl (m_sets (d := 1) (e := 14 * k265 + 117) (by omega) (by omega) (by omega)) rfl rfl hdd (Nat.le_refl _) (Nat.le_refl _) (by decide) (pm_kv (fun σ' cnt' hq => ?_))
              obtain ⟨rfl, rfl⟩ := hq
              obtain ⟨n_286, en_286⟩ : ∃ f : Nat → Int32, f = upd n_1 (14 * k265 + 117) (x284 + x285) := ⟨_, rfl⟩
              rw [← en_286]
              have hnn_286 := KI.w en_286 hnn_1 (okv_f (show kd (14 * k265 + 117) = (0, 0, false) from (kd_P (k := k265) (c := 7) (by omega) (by omega) (by decide))))
              have hrn_286 := NRx.w en_286 hrn_1 (by rw [(show kd (14 * k265 + 117) = (0, 0, false) from (kd_P (k := k265) (c := 7) (by omega) (by omega) (by decide)))])
              have ksn_286 := KS.w en_286 ksn_1 (by unfold tS; omega)
              have e287 : n_286 8 = nI kc8 := by rw [en_286, pk_un (by omega)]; exact kc1_8
              have e288 : n_286 0 = nI kc0 := by rw [en_286, pk_un (by omega)]; exact kc1_0
              have e289 : n_286 2 = nI kc2 := by rw [en_286, pk_un (by omega)]; exact kc1_2
              have e290 : n_286 7 = nI kc7 := by rw [en_286, pk_un (by omega)]; exact kc1_7
              have e291 : n_286 (3 * i1 + 21) = nI k265 := by rw [en_286, pk_un (by omega)]; exact ek265
              have e292 : n_286 (3 * i1 + 22) = x279 := by rw [en_286, pk_un (by omega)]; exact ex279
              have e293 : n_286 (14 * k265 + 119) = (-1) := by rw [en_286, pk_un (by omega)]; exact ek281
              have e294 : n_286 (3 * i1 + 20) = x285 := by rw [en_286, pk_un (by omega)]; exact ex285
              have e295 : n_286 (14 * k265 + 117) = x284 + x285 := by rw [en_286, pk_us]
              refine pm_goto (tgt := 95) hG dX12_quarter_76 rfl ?_
              refine pm_iincX (v := nI (i1 + 1)) (loc' := [some (.ref (B + 54)), some (.int (nI (i1 + 1))), some (.int (nI (3 * i1 + 20))), some (.int (nI k265)), none]) hG dX12_quarter_95 rfl (nI_1 _) (by decide) (pm_c1b rfl) rfl ?_
              refine pm_goto (tgt := 2) hG dX12_quarter_98 rfl ?_
              refine pm_fg 2 (loc' := [some (.ref (B + 54)), some (.int (nI (i1 + 1))), none, some (.int (nI k265)), none]) rfl ?_
              refine pm_fg 3 (loc' := [some (.ref (B + 54)), some (.int (nI (i1 + 1))), none, none, none]) rfl ?_
              exact ih1 n_286 (i1 + 1) hnn_286 ksn_286 hrn_286 (e287.trans (congrArg nI (by omega))) (e288.trans (congrArg nI (by omega))) (e289.trans (congrArg nI (by omega))) (e290.trans (congrArg nI (by omega))) (by omega) (by omega)
            · refine pm_callV (As := [.int (nI k265)]) (rest := []) hG hR dX12_quarter_49 (lkX12_101 _ rfl) okV_X12_lives rfl rfl (m_lives0 (d := 1) (by decide) (by omega) (by omega : 14 * k265 + 119 = 14 * k265 + 119) ek281 (by omega)) rfl rfl hdd (Nat.le_refl _) (Nat.le_refl _) (by decide) (pm_ki (fun v296 σ' cnt' hq => ?_))
              obtain ⟨rfl, rfl, rfl⟩ := hq
              refine pm_ifN_eq (tgt := 79) hG dX12_quarter_52 rfl (by omega) (fun _ => ?_) (fun q => absurd q (by omega))
              refine pm_aloadn hG dX12_quarter_79 rfl ?_
              refine pm_getf hG dX12_quarter_80 (flX12_7 _ rfl) rfl rfl ?_
              refine pm_bipush (v := nI 9) hG dX12_quarter_83 (by decide) ?_
              refine pm_dup2 hG dX12_quarter_85 rfl rfl ?_
              refine pm_ialdN hG dX12_quarter_86 rfl (by decide) (by omega) ?_
              refine pm_gen (fun x297 ex297 => ?_)
              refine pm_aloadn hG dX12_quarter_87 rfl ?_
              refine pm_getf hG dX12_quarter_88 (flX12_7 _ rfl) rfl rfl ?_
              refine pm_iloadn hG dX12_quarter_91 rfl ?_
              refine pm_ialdN hG dX12_quarter_92 rfl (by decide) (by omega) ?_
              refine pm_gen (fun x298 ex298 => ?_)
              refine pm_iadd hG dX12_quarter_93 ?_
              refine pm_iastN hG dX12_quarter_94 rfl (by decide) (by omega) ?_
              refine mdn_now (fun n_299 en_299 => ?_)
              have hnn_299 := KI.w en_299 hnn_1 (okv_f (show kd 9 = (0, 0, false) by decide))
              have hrn_299 := NRx.w en_299 hrn_1 (by rw [(show kd 9 = (0, 0, false) by decide)])
              have ksn_299 := KS.w en_299 ksn_1 (by unfold tS; omega)
              have e300 : n_299 8 = nI kc8 := by rw [en_299, pk_un (by omega)]; exact kc1_8
              have e301 : n_299 0 = nI kc0 := by rw [en_299, pk_un (by omega)]; exact kc1_0
              have e302 : n_299 2 = nI kc2 := by rw [en_299, pk_un (by omega)]; exact kc1_2
              have e303 : n_299 7 = nI kc7 := by rw [en_299, pk_un (by omega)]; exact kc1_7
              have e304 : n_299 (3 * i1 + 21) = nI k265 := by rw [en_299, pk_un (by omega)]; exact ek265
              have e305 : n_299 (3 * i1 + 22) = x279 := by rw [en_299, pk_un (by omega)]; exact ex279
              have e306 : n_299 (14 * k265 + 119) = nI k281 := by rw [en_299, pk_un (by omega)]; exact ek281
              have e307 : n_299 (3 * i1 + 20) = x298 := by rw [en_299, pk_un (by omega)]; exact ex298
              have e308 : n_299 9 = x297 + x298 := by rw [en_299, pk_us]
              refine pm_iincX (v := nI (i1 + 1)) (loc' := [some (.ref (B + 54)), some (.int (nI (i1 + 1))), some (.int (nI (3 * i1 + 20))), some (.int (nI k265)), none]) hG dX12_quarter_95 rfl (nI_1 _) (by decide) (pm_c1b rfl) rfl ?_
              refine pm_goto (tgt := 2) hG dX12_quarter_98 rfl ?_
              refine pm_fg 2 (loc' := [some (.ref (B + 54)), some (.int (nI (i1 + 1))), none, some (.int (nI k265)), none]) rfl ?_
              refine pm_fg 3 (loc' := [some (.ref (B + 54)), some (.int (nI (i1 + 1))), none, none, none]) rfl ?_
              exact ih1 n_299 (i1 + 1) hnn_299 ksn_299 hrn_299 (e300.trans (congrArg nI (by omega))) (e301.trans (congrArg nI (by omega))) (e302.trans (congrArg nI (by omega))) (e303.trans (congrArg nI (by omega))) (by omega) (by omega)
          · refine pm_goto (tgt := 95) hG dX12_quarter_40 rfl ?_
            refine pm_iincX (v := nI (i1 + 1)) (loc' := [some (.ref (B + 54)), some (.int (nI (i1 + 1))), some (.int (nI (3 * i1 + 20))), some (.int (nI k265)), none]) hG dX12_quarter_95 rfl (nI_1 _) (by decide) (pm_c1b rfl) rfl ?_
            refine pm_goto (tgt := 2) hG dX12_quarter_98 rfl ?_
            refine pm_fg 2 (loc' := [some (.ref (B + 54)), some (.int (nI (i1 + 1))), none, some (.int (nI k265)), none]) rfl ?_
            refine pm_fg 3 (loc' := [some (.ref (B + 54)), some (.int (nI (i1 + 1))), none, none, none]) rfl ?_
            exact ih1 n_1 (i1 + 1) hnn_1 ksn_1 hrn_1 (kc1_8.trans (congrArg nI (by omega))) (kc1_0.trans (congrArg nI (by omega))) (kc1_2.trans (congrArg nI (by omega))) (kc1_7.trans (congrArg nI (by omega))) (by omega) (by omega)
  exact loop2_1 _ n 0 hn KS.rf hr (ekc8.trans (congrArg nI (by omega))) (ekc0.trans (congrArg nI (by omega))) (ekc2.trans (congrArg nI (by omega))) (ekc7.trans (congrArg nI (by omega))) (by omega) (Nat.lt_succ_self _)
