set_option maxRecDepth 100000 in
set_option maxHeartbeats 4000000 in
theorem m_quarter {d B cnt p0 t0 : Nat} {σ : pm_S} {I : Nat → Int32} {A : Nat → Nat → Int32} {n k z : Nat → Int32} {ac wt pl im : Int32} (hdd : 2 ≤ d) (hn : KI n) (hr : NR n) (hz : SZ z)  : pm_met mX12_quarter d 0 0 B [.ref (B + 54)] cnt (pm_mid σ (md_L B I A n k z ac wt pl (nI p0) (nI t0) im)) (pm_Qv (fun σ' cnt' => (∃ (n' : Nat → Int32), σ' = pm_mid σ (md_L B I A n' k z ac wt pl (nI p0) (nI t0) im) ∧ KI n' ∧ NR n' ∧ n' 0 = n 0 ∧ n' 2 = n 2 ∧ n' 8 = n 8 ∧ KS n' n) ∧ cnt = cnt')) := by
  obtain ⟨kc0, hkc0, ekc0⟩ := KI.nat hn (show kd 0 = (1, 11, true) by decide)
  obtain ⟨kc2, hkc2, ekc2⟩ := KI.nat hn (show kd 2 = (1, 21, true) by decide)
  obtain ⟨kc8, hkc8, ekc8⟩ := KI.nat hn (show kd 8 = (1, 2001, false) by decide)
  refine pm_enter 4 (by decide) (Nat.le_of_ble_eq_true rfl) rfl (fun G hG hR hF => ?_)
  refine pm_iconst (v := nI 0) hG dX12_quarter_0 (by decide) ?_
  refine pm_istoreXn (loc' := [some (.ref (B + 54)), some (.int (nI 0)), none, none, none]) hG dX12_quarter_1 (by decide) (pm_c1b rfl) rfl ?_
  have loop2_1 : ∀ (m1 : Nat) (n_1 : Nat → Int32) (i1 : Nat), KI n_1 → KS n_1 n → NRx 40 n_1 → n_1 8 = nI kc8 → n_1 0 = nI kc0 → n_1 2 = nI kc2 → i1 ≤ 10 → 10 - i1 < m1 → pm_wp mX12_quarter G B 2 [some (.ref (B + 54)), some (.int (nI i1)), none, none, none] [] 0 0 cnt (pm_mid σ (md_L B I A n_1 k z ac wt pl (nI p0) (nI t0) im)) := by
    intro m1
    induction m1 with
    | zero => intro n_1 i1 _ _ _ _ _ _ _ hm; exact absurd hm (Nat.not_lt_zero _)
    | succ m1 ih1 =>
      intro n_1 i1 hnn_1 ksn_1 hrn_1 kc1_8 kc1_0 kc1_2 hi1 hm1
      refine pm_iloadn hG dX12_quarter_2 rfl ?_
      refine pm_aloadn hG dX12_quarter_3 rfl ?_
      refine pm_getf hG dX12_quarter_4 (flX12_7 _ rfl) rfl rfl ?_
      refine pm_iconst (v := nI 0) hG dX12_quarter_7 (by decide) ?_
      refine pm_ialdN hG dX12_quarter_8 rfl (by decide) (by omega) ?_
      refine pm_top (v := nI kc0) kc1_0 ?_
      refine pm_icmpN_ge (tgt := 101) hG dX12_quarter_9 rfl (by omega) (by omega) (fun c2 => ?_) (fun c2 => ?_)
      · refine pm_iconst (v := nI 0) hG dX12_quarter_101 (by decide) ?_
        refine pm_istoreXn (loc' := [some (.ref (B + 54)), some (.int (nI 0)), none, none, none]) hG dX12_quarter_102 (by decide) (pm_c1b rfl) rfl ?_
        have loop103_3 : ∀ (m3 : Nat) (n_3 : Nat → Int32) (i3 : Nat), KI n_3 → KS n_3 n → NRx 40 n_3 → n_3 8 = nI kc8 → n_3 0 = nI kc0 → n_3 2 = nI kc2 → i3 ≤ 20 → 20 - i3 < m3 → pm_wp mX12_quarter G B 103 [some (.ref (B + 54)), some (.int (nI i3)), none, none, none] [] 0 0 cnt (pm_mid σ (md_L B I A n_3 k z ac wt pl (nI p0) (nI t0) im)) := by
          intro m3
          induction m3 with
          | zero => intro n_3 i3 _ _ _ _ _ _ _ hm; exact absurd hm (Nat.not_lt_zero _)
          | succ m3 ih3 =>
            intro n_3 i3 hnn_3 ksn_3 hrn_3 kc3_8 kc3_0 kc3_2 hi3 hm3
            refine pm_iloadn hG dX12_quarter_103 rfl ?_
            refine pm_aloadn hG dX12_quarter_104 rfl ?_
            refine pm_getf hG dX12_quarter_105 (flX12_7 _ rfl) rfl rfl ?_
            refine pm_iconst (v := nI 2) hG dX12_quarter_108 (by decide) ?_
            refine pm_ialdN hG dX12_quarter_109 rfl (by decide) (by omega) ?_
            refine pm_top (v := nI kc2) kc3_2 ?_
            refine pm_icmpN_ge (tgt := 178) hG dX12_quarter_110 rfl (by omega) (by omega) (fun c4 => ?_) (fun c4 => ?_)
            · refine pm_iconst (v := nI 0) hG dX12_quarter_178 (by decide) ?_
              refine pm_istoreXn (loc' := [some (.ref (B + 54)), some (.int (nI 0)), none, none, none]) hG dX12_quarter_179 (by decide) (pm_c1b rfl) rfl ?_
              have loop180_5 : ∀ (m5 : Nat) (n_5 : Nat → Int32) (i5 : Nat), KI n_5 → KS n_5 n → NRx 40 n_5 → n_5 8 = nI kc8 → n_5 0 = nI kc0 → n_5 2 = nI kc2 → i5 ≤ 6 → 6 - i5 < m5 → pm_wp mX12_quarter G B 180 [some (.ref (B + 54)), some (.int (nI i5)), none, none, none] [] 0 0 cnt (pm_mid σ (md_L B I A n_5 k z ac wt pl (nI p0) (nI t0) im)) := by
                intro m5
                induction m5 with
                | zero => intro n_5 i5 _ _ _ _ _ _ _ hm; exact absurd hm (Nat.not_lt_zero _)
                | succ m5 ih5 =>
                  intro n_5 i5 hnn_5 ksn_5 hrn_5 kc5_8 kc5_0 kc5_2 hi5 hm5
                  refine pm_iloadn hG dX12_quarter_180 rfl ?_
                  refine pm_aloadn hG dX12_quarter_181 rfl ?_
                  refine pm_getf hG dX12_quarter_182 (flX12_7 _ rfl) rfl rfl ?_
                  refine pm_bipush (v := nI 6) hG dX12_quarter_185 (by decide) ?_
                  refine pm_ialdN hG dX12_quarter_187 rfl (by decide) (by omega) ?_
                  obtain ⟨k6, hk6, ek6⟩ := KI.nat hnn_5 (show kd 6 = (1, 7, false) by decide)
                  refine pm_top (v := nI k6) ek6 ?_
                  refine pm_icmpN_ge (tgt := 369) hG dX12_quarter_188 rfl (by omega) (by omega) (fun c7 => ?_) (fun c7 => ?_)
                  · exact pm_vret hG hF dX12_quarter_369 rfl (Nat.le_refl _) (Nat.le_refl _) ⟨rfl, ⟨_, rfl, hnn_5, hrn_5, kc5_0.trans ekc0.symm, kc5_2.trans ekc2.symm, kc5_8.trans ekc8.symm, ksn_5⟩, rfl⟩
                  · refine pm_sipush (v := nI 1770) hG dX12_quarter_191 (by decide) ?_
                    refine pm_bipush (v := nI 6) hG dX12_quarter_194 (by decide) ?_
                    refine pm_iloadn hG dX12_quarter_196 rfl ?_
                    refine pm_imulN (c := 6 * i5) hG dX12_quarter_197 (by omega) ?_
                    refine pm_iaddN (c := 6 * i5 + 1770) hG dX12_quarter_198 (by omega) ?_
                    refine pm_istoreXn (loc' := [some (.ref (B + 54)), some (.int (nI i5)), some (.int (nI (6 * i5 + 1770))), none, none]) hG dX12_quarter_199 (by decide) (pm_c1b rfl) rfl ?_
                    refine pm_aloadn hG dX12_quarter_200 rfl ?_
                    refine pm_getf hG dX12_quarter_201 (flX12_7 _ rfl) rfl rfl ?_
                    refine pm_iloadn hG dX12_quarter_204 rfl ?_
                    refine pm_ialdN hG dX12_quarter_205 rfl (by decide) (by omega) ?_
                    refine pm_gen (fun x8 ex8 => ?_)
                    refine pm_aloadn hG dX12_quarter_206 rfl ?_
                    refine pm_getf hG dX12_quarter_207 (flX12_7 _ rfl) rfl rfl ?_
                    refine pm_iloadn hG dX12_quarter_210 rfl ?_
                    refine pm_ialdN hG dX12_quarter_211 rfl (by decide) (by omega) ?_
                    refine pm_top (v := x8) ex8 ?_
                    refine pm_aloadn hG dX12_quarter_212 rfl ?_
                    refine pm_getf hG dX12_quarter_213 (flX12_7 _ rfl) rfl rfl ?_
                    refine pm_iloadn hG dX12_quarter_216 rfl ?_
                    refine pm_iconst (v := nI 1) hG dX12_quarter_217 (by decide) ?_
                    refine pm_iaddN (c := 6 * i5 + 1771) hG dX12_quarter_218 (by omega) ?_
                    refine pm_ialdN hG dX12_quarter_219 rfl (by decide) (by omega) ?_
                    refine pm_gen (fun x9 ex9 => ?_)
                    refine pm_imul hG dX12_quarter_220 ?_
                    refine pm_bipush (v := nI 100) hG dX12_quarter_221 (by decide) ?_
                    refine pm_idiv hG dX12_quarter_223 (by decide) ?_
                    refine pm_any (fun x10 => ?_)
                    refine pm_iadd hG dX12_quarter_224 ?_
                    refine pm_istoreXn (loc' := [some (.ref (B + 54)), some (.int (nI i5)), some (.int (nI (6 * i5 + 1770))), some (.int (x8 + x10)), none]) hG dX12_quarter_225 (by decide) (pm_c1b rfl) rfl ?_
                    refine pm_aloadn hG dX12_quarter_226 rfl ?_
                    refine pm_getf hG dX12_quarter_227 (flX12_7 _ rfl) rfl rfl ?_
                    refine pm_iloadn hG dX12_quarter_230 rfl ?_
                    refine pm_iloadn hG dX12_quarter_231 rfl ?_
                    refine pm_ldc hG dX12_quarter_232 (ctX12_235 _ rfl) ?_
                    refine pm_top (v := nI 999999) (by decide) ?_
                    refine pm_icmp_ge (tgt := 241) hG dX12_quarter_234 rfl (fun c11 => ?_) (fun c11 => ?_)
                    · refine pm_ldc hG dX12_quarter_241 (ctX12_235 _ rfl) ?_
                      refine pm_top (v := nI 999999) (by decide) ?_
                      refine pm_iastN hG dX12_quarter_243 rfl (by decide) (by omega) ?_
                      refine mdn_now (fun n_12 en_12 => ?_)
                      have hnn_12 := KI.w en_12 hnn_5 (okv_f (show kd (6 * i5 + 1770) = (0, 0, false) from (kd_D (k := i5) (c := 0) (by omega) (by omega) (by decide))))
                      have hrn_12 := NRx.w en_12 hrn_5 (by rw [(show kd (6 * i5 + 1770) = (0, 0, false) from (kd_D (k := i5) (c := 0) (by omega) (by omega) (by decide)))])
                      have ksn_12 := KS.w en_12 ksn_5 (by unfold tS; omega)
                      have e13 : n_12 8 = nI kc8 := by rw [en_12, pk_un (by omega)]; exact kc5_8
                      have e14 : n_12 0 = nI kc0 := by rw [en_12, pk_un (by omega)]; exact kc5_0
                      have e15 : n_12 2 = nI kc2 := by rw [en_12, pk_un (by omega)]; exact kc5_2
                      have e16 : n_12 6 = nI k6 := by rw [en_12, pk_un (by omega)]; exact ek6
                      have e17 : n_12 (6 * i5 + 1771) = x9 := by rw [en_12, pk_un (by omega)]; exact ex9
                      have e18 : n_12 (6 * i5 + 1770) = nI 999999 := by rw [en_12, pk_us]
                      refine pm_aloadn hG dX12_quarter_244 rfl ?_
                      refine pm_getf hG dX12_quarter_245 (flX12_7 _ rfl) rfl rfl ?_
                      refine pm_iloadn hG dX12_quarter_248 rfl ?_
                      refine pm_ialdN hG dX12_quarter_249 rfl (by decide) (by omega) ?_
                      refine pm_top (v := nI 999999) e18 ?_
                      refine pm_aloadn hG dX12_quarter_250 rfl ?_
                      refine pm_getf hG dX12_quarter_251 (flX12_7 _ rfl) rfl rfl ?_
                      refine pm_iloadn hG dX12_quarter_254 rfl ?_
                      refine pm_iconst (v := nI 2) hG dX12_quarter_255 (by decide) ?_
                      refine pm_iaddN (c := 6 * i5 + 1772) hG dX12_quarter_256 (by omega) ?_
                      refine pm_ialdN hG dX12_quarter_257 rfl (by decide) (by omega) ?_
                      refine pm_gen (fun x19 ex19 => ?_)
                      refine pm_icmp_ge (tgt := 270) hG dX12_quarter_258 rfl (fun c20 => ?_) (fun c20 => ?_)
                      · refine pm_aloadn hG dX12_quarter_270 rfl ?_
                        refine pm_getf hG dX12_quarter_271 (flX12_7 _ rfl) rfl rfl ?_
                        refine pm_iloadn hG dX12_quarter_274 rfl ?_
                        refine pm_iconst (v := nI 2) hG dX12_quarter_275 (by decide) ?_
                        refine pm_iaddN (c := 6 * i5 + 1772) hG dX12_quarter_276 (by omega) ?_
                        refine pm_ialdN hG dX12_quarter_277 rfl (by decide) (by omega) ?_
                        refine pm_top (v := x19) ex19 ?_
                        refine pm_istoreXi (loc' := [some (.ref (B + 54)), some (.int (nI i5)), some (.int (nI (6 * i5 + 1770))), some (.int (x8 + x10)), some (.int x19)]) hG dX12_quarter_278 (by decide) (pm_c1b rfl) rfl ?_
                        refine pm_aloadn hG dX12_quarter_280 rfl ?_
                        refine pm_getf hG dX12_quarter_281 (flX12_7 _ rfl) rfl rfl ?_
                        refine pm_bipush (v := nI 9) hG dX12_quarter_284 (by decide) ?_
                        refine pm_ialdN hG dX12_quarter_286 rfl (by decide) (by omega) ?_
                        refine pm_gen (fun x21 ex21 => ?_)
                        refine pm_iloadi hG dX12_quarter_287 rfl ?_
                        refine pm_icmp_lt (tgt := 318) hG dX12_quarter_289 rfl (fun c22 => ?_) (fun c22 => ?_)
                        · refine pm_aloadn hG dX12_quarter_318 rfl ?_
                          refine pm_getf hG dX12_quarter_319 (flX12_7 _ rfl) rfl rfl ?_
                          refine pm_iloadn hG dX12_quarter_322 rfl ?_
                          refine pm_iconst (v := nI 3) hG dX12_quarter_323 (by decide) ?_
                          refine pm_iaddN (c := 6 * i5 + 1773) hG dX12_quarter_324 (by omega) ?_
                          refine pm_dup2 hG dX12_quarter_325 rfl rfl ?_
                          refine pm_ialdN hG dX12_quarter_326 rfl (by decide) (by omega) ?_
                          refine pm_gen (fun x23 ex23 => ?_)
                          refine pm_iconst (v := nI 1) hG dX12_quarter_327 (by decide) ?_
                          refine pm_iadd hG dX12_quarter_328 ?_
                          refine pm_iastN hG dX12_quarter_329 rfl (by decide) (by omega) ?_
                          refine mdn_now (fun n_24 en_24 => ?_)
                          have hnn_24 := KI.w en_24 hnn_12 (okv_f (show kd (6 * i5 + 1773) = (0, 0, false) from (kd_D (k := i5) (c := 3) (by omega) (by omega) (by decide))))
                          have hrn_24 := NRx.w en_24 hrn_12 (by rw [(show kd (6 * i5 + 1773) = (0, 0, false) from (kd_D (k := i5) (c := 3) (by omega) (by omega) (by decide)))])
                          have ksn_24 := KS.w en_24 ksn_12 (by unfold tS; omega)
                          have e25 : n_24 8 = nI kc8 := by rw [en_24, pk_un (by omega)]; exact e13
                          have e26 : n_24 0 = nI kc0 := by rw [en_24, pk_un (by omega)]; exact e14
                          have e27 : n_24 2 = nI kc2 := by rw [en_24, pk_un (by omega)]; exact e15
                          have e28 : n_24 6 = nI k6 := by rw [en_24, pk_un (by omega)]; exact e16
                          have e29 : n_24 (6 * i5 + 1771) = x9 := by rw [en_24, pk_un (by omega)]; exact e17
                          have e30 : n_24 (6 * i5 + 1770) = nI 999999 := by rw [en_24, pk_un (by omega)]; exact e18
                          have e31 : n_24 (6 * i5 + 1772) = x19 := by rw [en_24, pk_un (by omega)]; exact ex19
                          have e32 : n_24 9 = x21 := by rw [en_24, pk_un (by omega)]; exact ex21
                          have e33 : n_24 (6 * i5 + 1773) = x23 + (nI 1) := by rw [en_24, pk_us]
                          refine pm_aloadn hG dX12_quarter_330 rfl ?_
                          refine pm_getf hG dX12_quarter_331 (flX12_7 _ rfl) rfl rfl ?_
                          refine pm_iloadn hG dX12_quarter_334 rfl ?_
                          refine pm_iconst (v := nI 3) hG dX12_quarter_335 (by decide) ?_
                          refine pm_iaddN (c := 6 * i5 + 1773) hG dX12_quarter_336 (by omega) ?_
                          refine pm_ialdN hG dX12_quarter_337 rfl (by decide) (by omega) ?_
                          refine pm_top (v := x23 + (nI 1)) e33 ?_
                          refine pm_iconst (v := nI 2) hG dX12_quarter_338 (by decide) ?_
                          refine pm_icmp_ne (tgt := 363) hG dX12_quarter_339 rfl (fun c34 => ?_) (fun c34 => ?_)
                          · refine pm_iincX (v := nI (i5 + 1)) (loc' := [some (.ref (B + 54)), some (.int (nI (i5 + 1))), some (.int (nI (6 * i5 + 1770))), some (.int (x8 + x10)), some (.int x19)]) hG dX12_quarter_363 rfl (nI_1 _) (by decide) (pm_c1b rfl) rfl ?_
                            refine pm_goto (tgt := 180) hG dX12_quarter_366 rfl ?_
                            refine pm_fg 2 (loc' := [some (.ref (B + 54)), some (.int (nI (i5 + 1))), none, some (.int (x8 + x10)), some (.int x19)]) rfl ?_
                            refine pm_fg 3 (loc' := [some (.ref (B + 54)), some (.int (nI (i5 + 1))), none, none, some (.int x19)]) rfl ?_
                            refine pm_fg 4 (loc' := [some (.ref (B + 54)), some (.int (nI (i5 + 1))), none, none, none]) rfl ?_
                            exact ih5 n_24 (i5 + 1) hnn_24 ksn_24 hrn_24 (e25.trans (congrArg nI (by omega))) (e26.trans (congrArg nI (by omega))) (e27.trans (congrArg nI (by omega))) (by omega) (by omega)
                          · refine pm_aloadn hG dX12_quarter_342 rfl ?_
                            refine pm_getf hG dX12_quarter_343 (flX12_7 _ rfl) rfl rfl ?_
                            refine pm_bipush (v := nI 20) hG dX12_quarter_346 (by decide) ?_
                            refine pm_iconst (v := nI 3) hG dX12_quarter_348 (by decide) ?_
                            refine pm_aloadn hG dX12_quarter_349 rfl ?_
                            refine pm_getf hG dX12_quarter_350 (flX12_7 _ rfl) rfl rfl ?_
                            refine pm_iloadn hG dX12_quarter_353 rfl ?_
                            refine pm_iconst (v := nI 4) hG dX12_quarter_354 (by decide) ?_
                            refine pm_iaddN (c := 6 * i5 + 1774) hG dX12_quarter_355 (by omega) ?_
                            refine pm_ialdN hG dX12_quarter_356 rfl (by decide) (by omega) ?_
                            obtain ⟨k35, hk35, ek35⟩ := KI.nat hnn_24 (show kd (6 * i5 + 1774) = (1, 10, false) from (kd_D (k := i5) (c := 4) (by omega) (by omega) (by decide)))
                            refine pm_top (v := nI k35) ek35 ?_
                            refine pm_imulN (c := 3 * k35) hG dX12_quarter_357 (by omega) ?_
                            refine pm_iaddN (c := 3 * k35 + 20) hG dX12_quarter_358 (by omega) ?_
                            refine pm_iconst (v := nI 2) hG dX12_quarter_359 (by decide) ?_
                            refine pm_iaddN (c := 3 * k35 + 22) hG dX12_quarter_360 (by omega) ?_
                            refine pm_iconst (v := nI 1) hG dX12_quarter_361 (by decide) ?_
                            refine pm_iastN hG dX12_quarter_362 rfl (by decide) (by omega) ?_
                            refine mdn_now (fun n_36 en_36 => ?_)
                            have hnn_36 := KI.w en_36 hnn_24 (okv_f (show kd (3 * k35 + 22) = (0, 0, false) from (kd_T (k := k35) (c := 2) (by omega) (by omega) (by decide))))
                            have hrn_36 := NRx.w en_36 hrn_24 (by rw [(show kd (3 * k35 + 22) = (0, 0, false) from (kd_T (k := k35) (c := 2) (by omega) (by omega) (by decide)))])
                            have ksn_36 := KS.w en_36 ksn_24 (by unfold tS; omega)
                            have e37 : n_36 8 = nI kc8 := by rw [en_36, pk_un (by omega)]; exact e25
                            have e38 : n_36 0 = nI kc0 := by rw [en_36, pk_un (by omega)]; exact e26
                            have e39 : n_36 2 = nI kc2 := by rw [en_36, pk_un (by omega)]; exact e27
                            have e40 : n_36 6 = nI k6 := by rw [en_36, pk_un (by omega)]; exact e28
                            have e41 : n_36 (6 * i5 + 1771) = x9 := by rw [en_36, pk_un (by omega)]; exact e29
                            have e42 : n_36 (6 * i5 + 1770) = nI 999999 := by rw [en_36, pk_un (by omega)]; exact e30
                            have e43 : n_36 (6 * i5 + 1772) = x19 := by rw [en_36, pk_un (by omega)]; exact e31
                            have e44 : n_36 9 = x21 := by rw [en_36, pk_un (by omega)]; exact e32
                            have e45 : n_36 (6 * i5 + 1773) = x23 + (nI 1) := by rw [en_36, pk_un (by omega)]; exact e33
                            have e46 : n_36 (6 * i5 + 1774) = nI k35 := by rw [en_36, pk_un (by omega)]; exact ek35
                            have e47 : n_36 (3 * k35 + 22) = nI 1 := by rw [en_36, pk_us]
                            refine pm_iincX (v := nI (i5 + 1)) (loc' := [some (.ref (B + 54)), some (.int (nI (i5 + 1))), some (.int (nI (6 * i5 + 1770))), some (.int (x8 + x10)), some (.int x19)]) hG dX12_quarter_363 rfl (nI_1 _) (by decide) (pm_c1b rfl) rfl ?_
                            refine pm_goto (tgt := 180) hG dX12_quarter_366 rfl ?_
                            refine pm_fg 2 (loc' := [some (.ref (B + 54)), some (.int (nI (i5 + 1))), none, some (.int (x8 + x10)), some (.int x19)]) rfl ?_
                            refine pm_fg 3 (loc' := [some (.ref (B + 54)), some (.int (nI (i5 + 1))), none, none, some (.int x19)]) rfl ?_
                            refine pm_fg 4 (loc' := [some (.ref (B + 54)), some (.int (nI (i5 + 1))), none, none, none]) rfl ?_
                            exact ih5 n_36 (i5 + 1) hnn_36 ksn_36 hrn_36 (e37.trans (congrArg nI (by omega))) (e38.trans (congrArg nI (by omega))) (e39.trans (congrArg nI (by omega))) (by omega) (by omega)
                        · refine pm_aloadn hG dX12_quarter_292 rfl ?_
                          refine pm_getf hG dX12_quarter_293 (flX12_7 _ rfl) rfl rfl ?_
                          refine pm_bipush (v := nI 9) hG dX12_quarter_296 (by decide) ?_
                          refine pm_dup2 hG dX12_quarter_298 rfl rfl ?_
                          refine pm_ialdN hG dX12_quarter_299 rfl (by decide) (by omega) ?_
                          refine pm_top (v := x21) ex21 ?_
                          refine pm_iloadi hG dX12_quarter_300 rfl ?_
                          refine pm_isub hG dX12_quarter_302 ?_
                          refine pm_iastN hG dX12_quarter_303 rfl (by decide) (by omega) ?_
                          refine mdn_now (fun n_48 en_48 => ?_)
                          have hnn_48 := KI.w en_48 hnn_12 (okv_f (show kd 9 = (0, 0, false) by decide))
                          have hrn_48 := NRx.w en_48 hrn_12 (by rw [(show kd 9 = (0, 0, false) by decide)])
                          have ksn_48 := KS.w en_48 ksn_12 (by unfold tS; omega)
                          have e49 : n_48 8 = nI kc8 := by rw [en_48, pk_un (by omega)]; exact e13
                          have e50 : n_48 0 = nI kc0 := by rw [en_48, pk_un (by omega)]; exact e14
                          have e51 : n_48 2 = nI kc2 := by rw [en_48, pk_un (by omega)]; exact e15
                          have e52 : n_48 6 = nI k6 := by rw [en_48, pk_un (by omega)]; exact e16
                          have e53 : n_48 (6 * i5 + 1771) = x9 := by rw [en_48, pk_un (by omega)]; exact e17
                          have e54 : n_48 (6 * i5 + 1770) = nI 999999 := by rw [en_48, pk_un (by omega)]; exact e18
                          have e55 : n_48 (6 * i5 + 1772) = x19 := by rw [en_48, pk_un (by omega)]; exact ex19
                          have e56 : n_48 9 = x21 - x19 := by rw [en_48, pk_us]
                          refine pm_aloadn hG dX12_quarter_304 rfl ?_
                          refine pm_getf hG dX12_quarter_305 (flX12_7 _ rfl) rfl rfl ?_
                          refine pm_iloadn hG dX12_quarter_308 rfl ?_
                          refine pm_dup2 hG dX12_quarter_309 rfl rfl ?_
                          refine pm_ialdN hG dX12_quarter_310 rfl (by decide) (by omega) ?_
                          refine pm_top (v := nI 999999) e54 ?_
                          refine pm_iloadi hG dX12_quarter_311 rfl ?_
                          refine pm_isub hG dX12_quarter_313 ?_
                          refine pm_iastN hG dX12_quarter_314 rfl (by decide) (by omega) ?_
                          refine mdn_now (fun n_57 en_57 => ?_)
                          have hnn_57 := KI.w en_57 hnn_48 (okv_f (show kd (6 * i5 + 1770) = (0, 0, false) from (kd_D (k := i5) (c := 0) (by omega) (by omega) (by decide))))
                          have hrn_57 := NRx.w en_57 hrn_48 (by rw [(show kd (6 * i5 + 1770) = (0, 0, false) from (kd_D (k := i5) (c := 0) (by omega) (by omega) (by decide)))])
                          have ksn_57 := KS.w en_57 ksn_48 (by unfold tS; omega)
                          have e58 : n_57 8 = nI kc8 := by rw [en_57, pk_un (by omega)]; exact e49
                          have e59 : n_57 0 = nI kc0 := by rw [en_57, pk_un (by omega)]; exact e50
                          have e60 : n_57 2 = nI kc2 := by rw [en_57, pk_un (by omega)]; exact e51
                          have e61 : n_57 6 = nI k6 := by rw [en_57, pk_un (by omega)]; exact e52
                          have e62 : n_57 (6 * i5 + 1771) = x9 := by rw [en_57, pk_un (by omega)]; exact e53
                          have e63 : n_57 (6 * i5 + 1772) = x19 := by rw [en_57, pk_un (by omega)]; exact e55
                          have e64 : n_57 9 = x21 - x19 := by rw [en_57, pk_un (by omega)]; exact e56
                          have e65 : n_57 (6 * i5 + 1770) = (nI 999999) - x19 := by rw [en_57, pk_us]
                          refine pm_goto (tgt := 363) hG dX12_quarter_315 rfl ?_
                          refine pm_iincX (v := nI (i5 + 1)) (loc' := [some (.ref (B + 54)), some (.int (nI (i5 + 1))), some (.int (nI (6 * i5 + 1770))), some (.int (x8 + x10)), some (.int x19)]) hG dX12_quarter_363 rfl (nI_1 _) (by decide) (pm_c1b rfl) rfl ?_
                          refine pm_goto (tgt := 180) hG dX12_quarter_366 rfl ?_
                          refine pm_fg 2 (loc' := [some (.ref (B + 54)), some (.int (nI (i5 + 1))), none, some (.int (x8 + x10)), some (.int x19)]) rfl ?_
                          refine pm_fg 3 (loc' := [some (.ref (B + 54)), some (.int (nI (i5 + 1))), none, none, some (.int x19)]) rfl ?_
                          refine pm_fg 4 (loc' := [some (.ref (B + 54)), some (.int (nI (i5 + 1))), none, none, none]) rfl ?_
                          exact ih5 n_57 (i5 + 1) hnn_57 ksn_57 hrn_57 (e58.trans (congrArg nI (by omega))) (e59.trans (congrArg nI (by omega))) (e60.trans (congrArg nI (by omega))) (by omega) (by omega)
                      · refine pm_aloadn hG dX12_quarter_261 rfl ?_
                        refine pm_getf hG dX12_quarter_262 (flX12_7 _ rfl) rfl rfl ?_
                        refine pm_iloadn hG dX12_quarter_265 rfl ?_
                        refine pm_ialdN hG dX12_quarter_266 rfl (by decide) (by omega) ?_
                        refine pm_top (v := nI 999999) e18 ?_
                        refine pm_goto (tgt := 278) hG dX12_quarter_267 rfl ?_
                        refine pm_istoreXi (loc' := [some (.ref (B + 54)), some (.int (nI i5)), some (.int (nI (6 * i5 + 1770))), some (.int (x8 + x10)), some (.int (nI 999999))]) hG dX12_quarter_278 (by decide) (pm_c1b rfl) rfl ?_
                        refine pm_aloadn hG dX12_quarter_280 rfl ?_
                        refine pm_getf hG dX12_quarter_281 (flX12_7 _ rfl) rfl rfl ?_
                        refine pm_bipush (v := nI 9) hG dX12_quarter_284 (by decide) ?_
                        refine pm_ialdN hG dX12_quarter_286 rfl (by decide) (by omega) ?_
                        refine pm_gen (fun x66 ex66 => ?_)
                        refine pm_iloadi hG dX12_quarter_287 rfl ?_
                        refine pm_icmp_lt (tgt := 318) hG dX12_quarter_289 rfl (fun c67 => ?_) (fun c67 => ?_)
                        · refine pm_aloadn hG dX12_quarter_318 rfl ?_
                          refine pm_getf hG dX12_quarter_319 (flX12_7 _ rfl) rfl rfl ?_
                          refine pm_iloadn hG dX12_quarter_322 rfl ?_
                          refine pm_iconst (v := nI 3) hG dX12_quarter_323 (by decide) ?_
                          refine pm_iaddN (c := 6 * i5 + 1773) hG dX12_quarter_324 (by omega) ?_
                          refine pm_dup2 hG dX12_quarter_325 rfl rfl ?_
                          refine pm_ialdN hG dX12_quarter_326 rfl (by decide) (by omega) ?_
                          refine pm_gen (fun x68 ex68 => ?_)
                          refine pm_iconst (v := nI 1) hG dX12_quarter_327 (by decide) ?_
                          refine pm_iadd hG dX12_quarter_328 ?_
                          refine pm_iastN hG dX12_quarter_329 rfl (by decide) (by omega) ?_
                          refine mdn_now (fun n_69 en_69 => ?_)
                          have hnn_69 := KI.w en_69 hnn_12 (okv_f (show kd (6 * i5 + 1773) = (0, 0, false) from (kd_D (k := i5) (c := 3) (by omega) (by omega) (by decide))))
                          have hrn_69 := NRx.w en_69 hrn_12 (by rw [(show kd (6 * i5 + 1773) = (0, 0, false) from (kd_D (k := i5) (c := 3) (by omega) (by omega) (by decide)))])
                          have ksn_69 := KS.w en_69 ksn_12 (by unfold tS; omega)
                          have e70 : n_69 8 = nI kc8 := by rw [en_69, pk_un (by omega)]; exact e13
                          have e71 : n_69 0 = nI kc0 := by rw [en_69, pk_un (by omega)]; exact e14
                          have e72 : n_69 2 = nI kc2 := by rw [en_69, pk_un (by omega)]; exact e15
                          have e73 : n_69 6 = nI k6 := by rw [en_69, pk_un (by omega)]; exact e16
                          have e74 : n_69 (6 * i5 + 1771) = x9 := by rw [en_69, pk_un (by omega)]; exact e17
                          have e75 : n_69 (6 * i5 + 1770) = nI 999999 := by rw [en_69, pk_un (by omega)]; exact e18
                          have e76 : n_69 (6 * i5 + 1772) = x19 := by rw [en_69, pk_un (by omega)]; exact ex19
                          have e77 : n_69 9 = x66 := by rw [en_69, pk_un (by omega)]; exact ex66
                          have e78 : n_69 (6 * i5 + 1773) = x68 + (nI 1) := by rw [en_69, pk_us]
                          refine pm_aloadn hG dX12_quarter_330 rfl ?_
                          refine pm_getf hG dX12_quarter_331 (flX12_7 _ rfl) rfl rfl ?_
                          refine pm_iloadn hG dX12_quarter_334 rfl ?_
                          refine pm_iconst (v := nI 3) hG dX12_quarter_335 (by decide) ?_
                          refine pm_iaddN (c := 6 * i5 + 1773) hG dX12_quarter_336 (by omega) ?_
                          refine pm_ialdN hG dX12_quarter_337 rfl (by decide) (by omega) ?_
                          refine pm_top (v := x68 + (nI 1)) e78 ?_
                          refine pm_iconst (v := nI 2) hG dX12_quarter_338 (by decide) ?_
                          refine pm_icmp_ne (tgt := 363) hG dX12_quarter_339 rfl (fun c79 => ?_) (fun c79 => ?_)
                          · refine pm_iincX (v := nI (i5 + 1)) (loc' := [some (.ref (B + 54)), some (.int (nI (i5 + 1))), some (.int (nI (6 * i5 + 1770))), some (.int (x8 + x10)), some (.int (nI 999999))]) hG dX12_quarter_363 rfl (nI_1 _) (by decide) (pm_c1b rfl) rfl ?_
                            refine pm_goto (tgt := 180) hG dX12_quarter_366 rfl ?_
                            refine pm_fg 2 (loc' := [some (.ref (B + 54)), some (.int (nI (i5 + 1))), none, some (.int (x8 + x10)), some (.int (nI 999999))]) rfl ?_
                            refine pm_fg 3 (loc' := [some (.ref (B + 54)), some (.int (nI (i5 + 1))), none, none, some (.int (nI 999999))]) rfl ?_
                            refine pm_fg 4 (loc' := [some (.ref (B + 54)), some (.int (nI (i5 + 1))), none, none, none]) rfl ?_
                            exact ih5 n_69 (i5 + 1) hnn_69 ksn_69 hrn_69 (e70.trans (congrArg nI (by omega))) (e71.trans (congrArg nI (by omega))) (e72.trans (congrArg nI (by omega))) (by omega) (by omega)
                          · refine pm_aloadn hG dX12_quarter_342 rfl ?_
                            refine pm_getf hG dX12_quarter_343 (flX12_7 _ rfl) rfl rfl ?_
                            refine pm_bipush (v := nI 20) hG dX12_quarter_346 (by decide) ?_
                            refine pm_iconst (v := nI 3) hG dX12_quarter_348 (by decide) ?_
                            refine pm_aloadn hG dX12_quarter_349 rfl ?_
                            refine pm_getf hG dX12_quarter_350 (flX12_7 _ rfl) rfl rfl ?_
                            refine pm_iloadn hG dX12_quarter_353 rfl ?_
                            refine pm_iconst (v := nI 4) hG dX12_quarter_354 (by decide) ?_
                            refine pm_iaddN (c := 6 * i5 + 1774) hG dX12_quarter_355 (by omega) ?_
                            refine pm_ialdN hG dX12_quarter_356 rfl (by decide) (by omega) ?_
                            obtain ⟨k80, hk80, ek80⟩ := KI.nat hnn_69 (show kd (6 * i5 + 1774) = (1, 10, false) from (kd_D (k := i5) (c := 4) (by omega) (by omega) (by decide)))
                            refine pm_top (v := nI k80) ek80 ?_
                            refine pm_imulN (c := 3 * k80) hG dX12_quarter_357 (by omega) ?_
                            refine pm_iaddN (c := 3 * k80 + 20) hG dX12_quarter_358 (by omega) ?_
                            refine pm_iconst (v := nI 2) hG dX12_quarter_359 (by decide) ?_
                            refine pm_iaddN (c := 3 * k80 + 22) hG dX12_quarter_360 (by omega) ?_
                            refine pm_iconst (v := nI 1) hG dX12_quarter_361 (by decide) ?_
                            refine pm_iastN hG dX12_quarter_362 rfl (by decide) (by omega) ?_
                            refine mdn_now (fun n_81 en_81 => ?_)
                            have hnn_81 := KI.w en_81 hnn_69 (okv_f (show kd (3 * k80 + 22) = (0, 0, false) from (kd_T (k := k80) (c := 2) (by omega) (by omega) (by decide))))
                            have hrn_81 := NRx.w en_81 hrn_69 (by rw [(show kd (3 * k80 + 22) = (0, 0, false) from (kd_T (k := k80) (c := 2) (by omega) (by omega) (by decide)))])
                            have ksn_81 := KS.w en_81 ksn_69 (by unfold tS; omega)
                            have e82 : n_81 8 = nI kc8 := by rw [en_81, pk_un (by omega)]; exact e70
                            have e83 : n_81 0 = nI kc0 := by rw [en_81, pk_un (by omega)]; exact e71
                            have e84 : n_81 2 = nI kc2 := by rw [en_81, pk_un (by omega)]; exact e72
                            have e85 : n_81 6 = nI k6 := by rw [en_81, pk_un (by omega)]; exact e73
                            have e86 : n_81 (6 * i5 + 1771) = x9 := by rw [en_81, pk_un (by omega)]; exact e74
                            have e87 : n_81 (6 * i5 + 1770) = nI 999999 := by rw [en_81, pk_un (by omega)]; exact e75
                            have e88 : n_81 (6 * i5 + 1772) = x19 := by rw [en_81, pk_un (by omega)]; exact e76
                            have e89 : n_81 9 = x66 := by rw [en_81, pk_un (by omega)]; exact e77
                            have e90 : n_81 (6 * i5 + 1773) = x68 + (nI 1) := by rw [en_81, pk_un (by omega)]; exact e78
                            have e91 : n_81 (6 * i5 + 1774) = nI k80 := by rw [en_81, pk_un (by omega)]; exact ek80
                            have e92 : n_81 (3 * k80 + 22) = nI 1 := by rw [en_81, pk_us]
                            refine pm_iincX (v := nI (i5 + 1)) (loc' := [some (.ref (B + 54)), some (.int (nI (i5 + 1))), some (.int (nI (6 * i5 + 1770))), some (.int (x8 + x10)), some (.int (nI 999999))]) hG dX12_quarter_363 rfl (nI_1 _) (by decide) (pm_c1b rfl) rfl ?_
                            refine pm_goto (tgt := 180) hG dX12_quarter_366 rfl ?_
                            refine pm_fg 2 (loc' := [some (.ref (B + 54)), some (.int (nI (i5 + 1))), none, some (.int (x8 + x10)), some (.int (nI 999999))]) rfl ?_
                            refine pm_fg 3 (loc' := [some (.ref (B + 54)), some (.int (nI (i5 + 1))), none, none, some (.int (nI 999999))]) rfl ?_
                            refine pm_fg 4 (loc' := [some (.ref (B + 54)), some (.int (nI (i5 + 1))), none, none, none]) rfl ?_
                            exact ih5 n_81 (i5 + 1) hnn_81 ksn_81 hrn_81 (e82.trans (congrArg nI (by omega))) (e83.trans (congrArg nI (by omega))) (e84.trans (congrArg nI (by omega))) (by omega) (by omega)
                        · refine pm_aloadn hG dX12_quarter_292 rfl ?_
                          refine pm_getf hG dX12_quarter_293 (flX12_7 _ rfl) rfl rfl ?_
                          refine pm_bipush (v := nI 9) hG dX12_quarter_296 (by decide) ?_
                          refine pm_dup2 hG dX12_quarter_298 rfl rfl ?_
                          refine pm_ialdN hG dX12_quarter_299 rfl (by decide) (by omega) ?_
                          refine pm_top (v := x66) ex66 ?_
                          refine pm_iloadi hG dX12_quarter_300 rfl ?_
                          refine pm_isub hG dX12_quarter_302 ?_
                          refine pm_iastN hG dX12_quarter_303 rfl (by decide) (by omega) ?_
                          refine mdn_now (fun n_93 en_93 => ?_)
                          have hnn_93 := KI.w en_93 hnn_12 (okv_f (show kd 9 = (0, 0, false) by decide))
                          have hrn_93 := NRx.w en_93 hrn_12 (by rw [(show kd 9 = (0, 0, false) by decide)])
                          have ksn_93 := KS.w en_93 ksn_12 (by unfold tS; omega)
                          have e94 : n_93 8 = nI kc8 := by rw [en_93, pk_un (by omega)]; exact e13
                          have e95 : n_93 0 = nI kc0 := by rw [en_93, pk_un (by omega)]; exact e14
                          have e96 : n_93 2 = nI kc2 := by rw [en_93, pk_un (by omega)]; exact e15
                          have e97 : n_93 6 = nI k6 := by rw [en_93, pk_un (by omega)]; exact e16
                          have e98 : n_93 (6 * i5 + 1771) = x9 := by rw [en_93, pk_un (by omega)]; exact e17
                          have e99 : n_93 (6 * i5 + 1770) = nI 999999 := by rw [en_93, pk_un (by omega)]; exact e18
                          have e100 : n_93 (6 * i5 + 1772) = x19 := by rw [en_93, pk_un (by omega)]; exact ex19
                          have e101 : n_93 9 = x66 - (nI 999999) := by rw [en_93, pk_us]
                          refine pm_aloadn hG dX12_quarter_304 rfl ?_
                          refine pm_getf hG dX12_quarter_305 (flX12_7 _ rfl) rfl rfl ?_
                          refine pm_iloadn hG dX12_quarter_308 rfl ?_
                          refine pm_dup2 hG dX12_quarter_309 rfl rfl ?_
                          refine pm_ialdN hG dX12_quarter_310 rfl (by decide) (by omega) ?_
                          refine pm_top (v := nI 999999) e99 ?_
                          refine pm_iloadi hG dX12_quarter_311 rfl ?_
                          refine pm_isubN (c := 0) hG dX12_quarter_313 (by omega) ?_
                          refine pm_iastN hG dX12_quarter_314 rfl (by decide) (by omega) ?_
                          refine mdn_now (fun n_102 en_102 => ?_)
                          have hnn_102 := KI.w en_102 hnn_93 (okv_f (show kd (6 * i5 + 1770) = (0, 0, false) from (kd_D (k := i5) (c := 0) (by omega) (by omega) (by decide))))
                          have hrn_102 := NRx.w en_102 hrn_93 (by rw [(show kd (6 * i5 + 1770) = (0, 0, false) from (kd_D (k := i5) (c := 0) (by omega) (by omega) (by decide)))])
                          have ksn_102 := KS.w en_102 ksn_93 (by unfold tS; omega)
                          have e103 : n_102 8 = nI kc8 := by rw [en_102, pk_un (by omega)]; exact e94
                          have e104 : n_102 0 = nI kc0 := by rw [en_102, pk_un (by omega)]; exact e95
                          have e105 : n_102 2 = nI kc2 := by rw [en_102, pk_un (by omega)]; exact e96
                          have e106 : n_102 6 = nI k6 := by rw [en_102, pk_un (by omega)]; exact e97
                          have e107 : n_102 (6 * i5 + 1771) = x9 := by rw [en_102, pk_un (by omega)]; exact e98
                          have e108 : n_102 (6 * i5 + 1772) = x19 := by rw [en_102, pk_un (by omega)]; exact e100
                          have e109 : n_102 9 = x66 - (nI 999999) := by rw [en_102, pk_un (by omega)]; exact e101
                          have e110 : n_102 (6 * i5 + 1770) = nI 0 := by rw [en_102, pk_us]
                          refine pm_goto (tgt := 363) hG dX12_quarter_315 rfl ?_
                          refine pm_iincX (v := nI (i5 + 1)) (loc' := [some (.ref (B + 54)), some (.int (nI (i5 + 1))), some (.int (nI (6 * i5 + 1770))), some (.int (x8 + x10)), some (.int (nI 999999))]) hG dX12_quarter_363 rfl (nI_1 _) (by decide) (pm_c1b rfl) rfl ?_
                          refine pm_goto (tgt := 180) hG dX12_quarter_366 rfl ?_
                          refine pm_fg 2 (loc' := [some (.ref (B + 54)), some (.int (nI (i5 + 1))), none, some (.int (x8 + x10)), some (.int (nI 999999))]) rfl ?_
                          refine pm_fg 3 (loc' := [some (.ref (B + 54)), some (.int (nI (i5 + 1))), none, none, some (.int (nI 999999))]) rfl ?_
                          refine pm_fg 4 (loc' := [some (.ref (B + 54)), some (.int (nI (i5 + 1))), none, none, none]) rfl ?_
                          exact ih5 n_102 (i5 + 1) hnn_102 ksn_102 hrn_102 (e103.trans (congrArg nI (by omega))) (e104.trans (congrArg nI (by omega))) (e105.trans (congrArg nI (by omega))) (by omega) (by omega)
                    · refine pm_iloadn hG dX12_quarter_237 rfl ?_
                      refine pm_goto (tgt := 243) hG dX12_quarter_238 rfl ?_
                      refine pm_iastN hG dX12_quarter_243 rfl (by decide) (by omega) ?_
                      refine mdn_now (fun n_111 en_111 => ?_)
                      have hnn_111 := KI.w en_111 hnn_5 (okv_f (show kd (6 * i5 + 1770) = (0, 0, false) from (kd_D (k := i5) (c := 0) (by omega) (by omega) (by decide))))
                      have hrn_111 := NRx.w en_111 hrn_5 (by rw [(show kd (6 * i5 + 1770) = (0, 0, false) from (kd_D (k := i5) (c := 0) (by omega) (by omega) (by decide)))])
                      have ksn_111 := KS.w en_111 ksn_5 (by unfold tS; omega)
                      have e112 : n_111 8 = nI kc8 := by rw [en_111, pk_un (by omega)]; exact kc5_8
                      have e113 : n_111 0 = nI kc0 := by rw [en_111, pk_un (by omega)]; exact kc5_0
                      have e114 : n_111 2 = nI kc2 := by rw [en_111, pk_un (by omega)]; exact kc5_2
                      have e115 : n_111 6 = nI k6 := by rw [en_111, pk_un (by omega)]; exact ek6
                      have e116 : n_111 (6 * i5 + 1771) = x9 := by rw [en_111, pk_un (by omega)]; exact ex9
                      have e117 : n_111 (6 * i5 + 1770) = x8 + x10 := by rw [en_111, pk_us]
                      refine pm_aloadn hG dX12_quarter_244 rfl ?_
                      refine pm_getf hG dX12_quarter_245 (flX12_7 _ rfl) rfl rfl ?_
                      refine pm_iloadn hG dX12_quarter_248 rfl ?_
                      refine pm_ialdN hG dX12_quarter_249 rfl (by decide) (by omega) ?_
                      refine pm_top (v := x8 + x10) e117 ?_
                      refine pm_aloadn hG dX12_quarter_250 rfl ?_
                      refine pm_getf hG dX12_quarter_251 (flX12_7 _ rfl) rfl rfl ?_
                      refine pm_iloadn hG dX12_quarter_254 rfl ?_
                      refine pm_iconst (v := nI 2) hG dX12_quarter_255 (by decide) ?_
                      refine pm_iaddN (c := 6 * i5 + 1772) hG dX12_quarter_256 (by omega) ?_
                      refine pm_ialdN hG dX12_quarter_257 rfl (by decide) (by omega) ?_
                      refine pm_gen (fun x118 ex118 => ?_)
                      refine pm_icmp_ge (tgt := 270) hG dX12_quarter_258 rfl (fun c119 => ?_) (fun c119 => ?_)
                      · refine pm_aloadn hG dX12_quarter_270 rfl ?_
                        refine pm_getf hG dX12_quarter_271 (flX12_7 _ rfl) rfl rfl ?_
                        refine pm_iloadn hG dX12_quarter_274 rfl ?_
                        refine pm_iconst (v := nI 2) hG dX12_quarter_275 (by decide) ?_
                        refine pm_iaddN (c := 6 * i5 + 1772) hG dX12_quarter_276 (by omega) ?_
                        refine pm_ialdN hG dX12_quarter_277 rfl (by decide) (by omega) ?_
                        refine pm_top (v := x118) ex118 ?_
                        refine pm_istoreXi (loc' := [some (.ref (B + 54)), some (.int (nI i5)), some (.int (nI (6 * i5 + 1770))), some (.int (x8 + x10)), some (.int x118)]) hG dX12_quarter_278 (by decide) (pm_c1b rfl) rfl ?_
                        refine pm_aloadn hG dX12_quarter_280 rfl ?_
                        refine pm_getf hG dX12_quarter_281 (flX12_7 _ rfl) rfl rfl ?_
                        refine pm_bipush (v := nI 9) hG dX12_quarter_284 (by decide) ?_
                        refine pm_ialdN hG dX12_quarter_286 rfl (by decide) (by omega) ?_
                        refine pm_gen (fun x120 ex120 => ?_)
                        refine pm_iloadi hG dX12_quarter_287 rfl ?_
                        refine pm_icmp_lt (tgt := 318) hG dX12_quarter_289 rfl (fun c121 => ?_) (fun c121 => ?_)
                        · refine pm_aloadn hG dX12_quarter_318 rfl ?_
                          refine pm_getf hG dX12_quarter_319 (flX12_7 _ rfl) rfl rfl ?_
                          refine pm_iloadn hG dX12_quarter_322 rfl ?_
                          refine pm_iconst (v := nI 3) hG dX12_quarter_323 (by decide) ?_
                          refine pm_iaddN (c := 6 * i5 + 1773) hG dX12_quarter_324 (by omega) ?_
                          refine pm_dup2 hG dX12_quarter_325 rfl rfl ?_
                          refine pm_ialdN hG dX12_quarter_326 rfl (by decide) (by omega) ?_
                          refine pm_gen (fun x122 ex122 => ?_)
                          refine pm_iconst (v := nI 1) hG dX12_quarter_327 (by decide) ?_
                          refine pm_iadd hG dX12_quarter_328 ?_
                          refine pm_iastN hG dX12_quarter_329 rfl (by decide) (by omega) ?_
                          refine mdn_now (fun n_123 en_123 => ?_)
                          have hnn_123 := KI.w en_123 hnn_111 (okv_f (show kd (6 * i5 + 1773) = (0, 0, false) from (kd_D (k := i5) (c := 3) (by omega) (by omega) (by decide))))
                          have hrn_123 := NRx.w en_123 hrn_111 (by rw [(show kd (6 * i5 + 1773) = (0, 0, false) from (kd_D (k := i5) (c := 3) (by omega) (by omega) (by decide)))])
                          have ksn_123 := KS.w en_123 ksn_111 (by unfold tS; omega)
                          have e124 : n_123 8 = nI kc8 := by rw [en_123, pk_un (by omega)]; exact e112
                          have e125 : n_123 0 = nI kc0 := by rw [en_123, pk_un (by omega)]; exact e113
                          have e126 : n_123 2 = nI kc2 := by rw [en_123, pk_un (by omega)]; exact e114
                          have e127 : n_123 6 = nI k6 := by rw [en_123, pk_un (by omega)]; exact e115
                          have e128 : n_123 (6 * i5 + 1771) = x9 := by rw [en_123, pk_un (by omega)]; exact e116
                          have e129 : n_123 (6 * i5 + 1770) = x8 + x10 := by rw [en_123, pk_un (by omega)]; exact e117
                          have e130 : n_123 (6 * i5 + 1772) = x118 := by rw [en_123, pk_un (by omega)]; exact ex118
                          have e131 : n_123 9 = x120 := by rw [en_123, pk_un (by omega)]; exact ex120
                          have e132 : n_123 (6 * i5 + 1773) = x122 + (nI 1) := by rw [en_123, pk_us]
                          refine pm_aloadn hG dX12_quarter_330 rfl ?_
                          refine pm_getf hG dX12_quarter_331 (flX12_7 _ rfl) rfl rfl ?_
                          refine pm_iloadn hG dX12_quarter_334 rfl ?_
                          refine pm_iconst (v := nI 3) hG dX12_quarter_335 (by decide) ?_
                          refine pm_iaddN (c := 6 * i5 + 1773) hG dX12_quarter_336 (by omega) ?_
                          refine pm_ialdN hG dX12_quarter_337 rfl (by decide) (by omega) ?_
                          refine pm_top (v := x122 + (nI 1)) e132 ?_
                          refine pm_iconst (v := nI 2) hG dX12_quarter_338 (by decide) ?_
                          refine pm_icmp_ne (tgt := 363) hG dX12_quarter_339 rfl (fun c133 => ?_) (fun c133 => ?_)
                          · refine pm_iincX (v := nI (i5 + 1)) (loc' := [some (.ref (B + 54)), some (.int (nI (i5 + 1))), some (.int (nI (6 * i5 + 1770))), some (.int (x8 + x10)), some (.int x118)]) hG dX12_quarter_363 rfl (nI_1 _) (by decide) (pm_c1b rfl) rfl ?_
                            refine pm_goto (tgt := 180) hG dX12_quarter_366 rfl ?_
                            refine pm_fg 2 (loc' := [some (.ref (B + 54)), some (.int (nI (i5 + 1))), none, some (.int (x8 + x10)), some (.int x118)]) rfl ?_
                            refine pm_fg 3 (loc' := [some (.ref (B + 54)), some (.int (nI (i5 + 1))), none, none, some (.int x118)]) rfl ?_
                            refine pm_fg 4 (loc' := [some (.ref (B + 54)), some (.int (nI (i5 + 1))), none, none, none]) rfl ?_
                            exact ih5 n_123 (i5 + 1) hnn_123 ksn_123 hrn_123 (e124.trans (congrArg nI (by omega))) (e125.trans (congrArg nI (by omega))) (e126.trans (congrArg nI (by omega))) (by omega) (by omega)
                          · refine pm_aloadn hG dX12_quarter_342 rfl ?_
                            refine pm_getf hG dX12_quarter_343 (flX12_7 _ rfl) rfl rfl ?_
                            refine pm_bipush (v := nI 20) hG dX12_quarter_346 (by decide) ?_
                            refine pm_iconst (v := nI 3) hG dX12_quarter_348 (by decide) ?_
                            refine pm_aloadn hG dX12_quarter_349 rfl ?_
                            refine pm_getf hG dX12_quarter_350 (flX12_7 _ rfl) rfl rfl ?_
                            refine pm_iloadn hG dX12_quarter_353 rfl ?_
                            refine pm_iconst (v := nI 4) hG dX12_quarter_354 (by decide) ?_
                            refine pm_iaddN (c := 6 * i5 + 1774) hG dX12_quarter_355 (by omega) ?_
                            refine pm_ialdN hG dX12_quarter_356 rfl (by decide) (by omega) ?_
                            obtain ⟨k134, hk134, ek134⟩ := KI.nat hnn_123 (show kd (6 * i5 + 1774) = (1, 10, false) from (kd_D (k := i5) (c := 4) (by omega) (by omega) (by decide)))
                            refine pm_top (v := nI k134) ek134 ?_
                            refine pm_imulN (c := 3 * k134) hG dX12_quarter_357 (by omega) ?_
                            refine pm_iaddN (c := 3 * k134 + 20) hG dX12_quarter_358 (by omega) ?_
                            refine pm_iconst (v := nI 2) hG dX12_quarter_359 (by decide) ?_
                            refine pm_iaddN (c := 3 * k134 + 22) hG dX12_quarter_360 (by omega) ?_
                            refine pm_iconst (v := nI 1) hG dX12_quarter_361 (by decide) ?_
                            refine pm_iastN hG dX12_quarter_362 rfl (by decide) (by omega) ?_
                            refine mdn_now (fun n_135 en_135 => ?_)
                            have hnn_135 := KI.w en_135 hnn_123 (okv_f (show kd (3 * k134 + 22) = (0, 0, false) from (kd_T (k := k134) (c := 2) (by omega) (by omega) (by decide))))
                            have hrn_135 := NRx.w en_135 hrn_123 (by rw [(show kd (3 * k134 + 22) = (0, 0, false) from (kd_T (k := k134) (c := 2) (by omega) (by omega) (by decide)))])
                            have ksn_135 := KS.w en_135 ksn_123 (by unfold tS; omega)
                            have e136 : n_135 8 = nI kc8 := by rw [en_135, pk_un (by omega)]; exact e124
                            have e137 : n_135 0 = nI kc0 := by rw [en_135, pk_un (by omega)]; exact e125
                            have e138 : n_135 2 = nI kc2 := by rw [en_135, pk_un (by omega)]; exact e126
                            have e139 : n_135 6 = nI k6 := by rw [en_135, pk_un (by omega)]; exact e127
                            have e140 : n_135 (6 * i5 + 1771) = x9 := by rw [en_135, pk_un (by omega)]; exact e128
                            have e141 : n_135 (6 * i5 + 1770) = x8 + x10 := by rw [en_135, pk_un (by omega)]; exact e129
                            have e142 : n_135 (6 * i5 + 1772) = x118 := by rw [en_135, pk_un (by omega)]; exact e130
                            have e143 : n_135 9 = x120 := by rw [en_135, pk_un (by omega)]; exact e131
                            have e144 : n_135 (6 * i5 + 1773) = x122 + (nI 1) := by rw [en_135, pk_un (by omega)]; exact e132
                            have e145 : n_135 (6 * i5 + 1774) = nI k134 := by rw [en_135, pk_un (by omega)]; exact ek134
                            have e146 : n_135 (3 * k134 + 22) = nI 1 := by rw [en_135, pk_us]
                            refine pm_iincX (v := nI (i5 + 1)) (loc' := [some (.ref (B + 54)), some (.int (nI (i5 + 1))), some (.int (nI (6 * i5 + 1770))), some (.int (x8 + x10)), some (.int x118)]) hG dX12_quarter_363 rfl (nI_1 _) (by decide) (pm_c1b rfl) rfl ?_
                            refine pm_goto (tgt := 180) hG dX12_quarter_366 rfl ?_
                            refine pm_fg 2 (loc' := [some (.ref (B + 54)), some (.int (nI (i5 + 1))), none, some (.int (x8 + x10)), some (.int x118)]) rfl ?_
                            refine pm_fg 3 (loc' := [some (.ref (B + 54)), some (.int (nI (i5 + 1))), none, none, some (.int x118)]) rfl ?_
                            refine pm_fg 4 (loc' := [some (.ref (B + 54)), some (.int (nI (i5 + 1))), none, none, none]) rfl ?_
                            exact ih5 n_135 (i5 + 1) hnn_135 ksn_135 hrn_135 (e136.trans (congrArg nI (by omega))) (e137.trans (congrArg nI (by omega))) (e138.trans (congrArg nI (by omega))) (by omega) (by omega)
                        · refine pm_aloadn hG dX12_quarter_292 rfl ?_
                          refine pm_getf hG dX12_quarter_293 (flX12_7 _ rfl) rfl rfl ?_
                          refine pm_bipush (v := nI 9) hG dX12_quarter_296 (by decide) ?_
                          refine pm_dup2 hG dX12_quarter_298 rfl rfl ?_
                          refine pm_ialdN hG dX12_quarter_299 rfl (by decide) (by omega) ?_
                          refine pm_top (v := x120) ex120 ?_
                          refine pm_iloadi hG dX12_quarter_300 rfl ?_
                          refine pm_isub hG dX12_quarter_302 ?_
                          refine pm_iastN hG dX12_quarter_303 rfl (by decide) (by omega) ?_
                          refine mdn_now (fun n_147 en_147 => ?_)
                          have hnn_147 := KI.w en_147 hnn_111 (okv_f (show kd 9 = (0, 0, false) by decide))
                          have hrn_147 := NRx.w en_147 hrn_111 (by rw [(show kd 9 = (0, 0, false) by decide)])
                          have ksn_147 := KS.w en_147 ksn_111 (by unfold tS; omega)
                          have e148 : n_147 8 = nI kc8 := by rw [en_147, pk_un (by omega)]; exact e112
                          have e149 : n_147 0 = nI kc0 := by rw [en_147, pk_un (by omega)]; exact e113
                          have e150 : n_147 2 = nI kc2 := by rw [en_147, pk_un (by omega)]; exact e114
                          have e151 : n_147 6 = nI k6 := by rw [en_147, pk_un (by omega)]; exact e115
                          have e152 : n_147 (6 * i5 + 1771) = x9 := by rw [en_147, pk_un (by omega)]; exact e116
                          have e153 : n_147 (6 * i5 + 1770) = x8 + x10 := by rw [en_147, pk_un (by omega)]; exact e117
                          have e154 : n_147 (6 * i5 + 1772) = x118 := by rw [en_147, pk_un (by omega)]; exact ex118
                          have e155 : n_147 9 = x120 - x118 := by rw [en_147, pk_us]
                          refine pm_aloadn hG dX12_quarter_304 rfl ?_
                          refine pm_getf hG dX12_quarter_305 (flX12_7 _ rfl) rfl rfl ?_
                          refine pm_iloadn hG dX12_quarter_308 rfl ?_
                          refine pm_dup2 hG dX12_quarter_309 rfl rfl ?_
                          refine pm_ialdN hG dX12_quarter_310 rfl (by decide) (by omega) ?_
                          refine pm_top (v := x8 + x10) e153 ?_
                          refine pm_iloadi hG dX12_quarter_311 rfl ?_
                          refine pm_isub hG dX12_quarter_313 ?_
                          refine pm_iastN hG dX12_quarter_314 rfl (by decide) (by omega) ?_
                          refine mdn_now (fun n_156 en_156 => ?_)
                          have hnn_156 := KI.w en_156 hnn_147 (okv_f (show kd (6 * i5 + 1770) = (0, 0, false) from (kd_D (k := i5) (c := 0) (by omega) (by omega) (by decide))))
                          have hrn_156 := NRx.w en_156 hrn_147 (by rw [(show kd (6 * i5 + 1770) = (0, 0, false) from (kd_D (k := i5) (c := 0) (by omega) (by omega) (by decide)))])
                          have ksn_156 := KS.w en_156 ksn_147 (by unfold tS; omega)
                          have e157 : n_156 8 = nI kc8 := by rw [en_156, pk_un (by omega)]; exact e148
                          have e158 : n_156 0 = nI kc0 := by rw [en_156, pk_un (by omega)]; exact e149
                          have e159 : n_156 2 = nI kc2 := by rw [en_156, pk_un (by omega)]; exact e150
                          have e160 : n_156 6 = nI k6 := by rw [en_156, pk_un (by omega)]; exact e151
                          have e161 : n_156 (6 * i5 + 1771) = x9 := by rw [en_156, pk_un (by omega)]; exact e152
                          have e162 : n_156 (6 * i5 + 1772) = x118 := by rw [en_156, pk_un (by omega)]; exact e154
                          have e163 : n_156 9 = x120 - x118 := by rw [en_156, pk_un (by omega)]; exact e155
                          have e164 : n_156 (6 * i5 + 1770) = (x8 + x10) - x118 := by rw [en_156, pk_us]
                          refine pm_goto (tgt := 363) hG dX12_quarter_315 rfl ?_
                          refine pm_iincX (v := nI (i5 + 1)) (loc' := [some (.ref (B + 54)), some (.int (nI (i5 + 1))), some (.int (nI (6 * i5 + 1770))), some (.int (x8 + x10)), some (.int x118)]) hG dX12_quarter_363 rfl (nI_1 _) (by decide) (pm_c1b rfl) rfl ?_
                          refine pm_goto (tgt := 180) hG dX12_quarter_366 rfl ?_
                          refine pm_fg 2 (loc' := [some (.ref (B + 54)), some (.int (nI (i5 + 1))), none, some (.int (x8 + x10)), some (.int x118)]) rfl ?_
                          refine pm_fg 3 (loc' := [some (.ref (B + 54)), some (.int (nI (i5 + 1))), none, none, some (.int x118)]) rfl ?_
                          refine pm_fg 4 (loc' := [some (.ref (B + 54)), some (.int (nI (i5 + 1))), none, none, none]) rfl ?_
                          exact ih5 n_156 (i5 + 1) hnn_156 ksn_156 hrn_156 (e157.trans (congrArg nI (by omega))) (e158.trans (congrArg nI (by omega))) (e159.trans (congrArg nI (by omega))) (by omega) (by omega)
                      · refine pm_aloadn hG dX12_quarter_261 rfl ?_
                        refine pm_getf hG dX12_quarter_262 (flX12_7 _ rfl) rfl rfl ?_
                        refine pm_iloadn hG dX12_quarter_265 rfl ?_
                        refine pm_ialdN hG dX12_quarter_266 rfl (by decide) (by omega) ?_
                        refine pm_top (v := x8 + x10) e117 ?_
                        refine pm_goto (tgt := 278) hG dX12_quarter_267 rfl ?_
                        refine pm_istoreXi (loc' := [some (.ref (B + 54)), some (.int (nI i5)), some (.int (nI (6 * i5 + 1770))), some (.int (x8 + x10)), some (.int (x8 + x10))]) hG dX12_quarter_278 (by decide) (pm_c1b rfl) rfl ?_
                        refine pm_aloadn hG dX12_quarter_280 rfl ?_
                        refine pm_getf hG dX12_quarter_281 (flX12_7 _ rfl) rfl rfl ?_
                        refine pm_bipush (v := nI 9) hG dX12_quarter_284 (by decide) ?_
                        refine pm_ialdN hG dX12_quarter_286 rfl (by decide) (by omega) ?_
                        refine pm_gen (fun x165 ex165 => ?_)
                        refine pm_iloadi hG dX12_quarter_287 rfl ?_
                        refine pm_icmp_lt (tgt := 318) hG dX12_quarter_289 rfl (fun c166 => ?_) (fun c166 => ?_)
                        · refine pm_aloadn hG dX12_quarter_318 rfl ?_
                          refine pm_getf hG dX12_quarter_319 (flX12_7 _ rfl) rfl rfl ?_
                          refine pm_iloadn hG dX12_quarter_322 rfl ?_
                          refine pm_iconst (v := nI 3) hG dX12_quarter_323 (by decide) ?_
                          refine pm_iaddN (c := 6 * i5 + 1773) hG dX12_quarter_324 (by omega) ?_
                          refine pm_dup2 hG dX12_quarter_325 rfl rfl ?_
                          refine pm_ialdN hG dX12_quarter_326 rfl (by decide) (by omega) ?_
                          refine pm_gen (fun x167 ex167 => ?_)
                          refine pm_iconst (v := nI 1) hG dX12_quarter_327 (by decide) ?_
                          refine pm_iadd hG dX12_quarter_328 ?_
                          refine pm_iastN hG dX12_quarter_329 rfl (by decide) (by omega) ?_
                          refine mdn_now (fun n_168 en_168 => ?_)
                          have hnn_168 := KI.w en_168 hnn_111 (okv_f (show kd (6 * i5 + 1773) = (0, 0, false) from (kd_D (k := i5) (c := 3) (by omega) (by omega) (by decide))))
                          have hrn_168 := NRx.w en_168 hrn_111 (by rw [(show kd (6 * i5 + 1773) = (0, 0, false) from (kd_D (k := i5) (c := 3) (by omega) (by omega) (by decide)))])
                          have ksn_168 := KS.w en_168 ksn_111 (by unfold tS; omega)
                          have e169 : n_168 8 = nI kc8 := by rw [en_168, pk_un (by omega)]; exact e112
                          have e170 : n_168 0 = nI kc0 := by rw [en_168, pk_un (by omega)]; exact e113
                          have e171 : n_168 2 = nI kc2 := by rw [en_168, pk_un (by omega)]; exact e114
                          have e172 : n_168 6 = nI k6 := by rw [en_168, pk_un (by omega)]; exact e115
                          have e173 : n_168 (6 * i5 + 1771) = x9 := by rw [en_168, pk_un (by omega)]; exact e116
                          have e174 : n_168 (6 * i5 + 1770) = x8 + x10 := by rw [en_168, pk_un (by omega)]; exact e117
                          have e175 : n_168 (6 * i5 + 1772) = x118 := by rw [en_168, pk_un (by omega)]; exact ex118
                          have e176 : n_168 9 = x165 := by rw [en_168, pk_un (by omega)]; exact ex165
                          have e177 : n_168 (6 * i5 + 1773) = x167 + (nI 1) := by rw [en_168, pk_us]
                          refine pm_aloadn hG dX12_quarter_330 rfl ?_
                          refine pm_getf hG dX12_quarter_331 (flX12_7 _ rfl) rfl rfl ?_
                          refine pm_iloadn hG dX12_quarter_334 rfl ?_
                          refine pm_iconst (v := nI 3) hG dX12_quarter_335 (by decide) ?_
                          refine pm_iaddN (c := 6 * i5 + 1773) hG dX12_quarter_336 (by omega) ?_
                          refine pm_ialdN hG dX12_quarter_337 rfl (by decide) (by omega) ?_
                          refine pm_top (v := x167 + (nI 1)) e177 ?_
                          refine pm_iconst (v := nI 2) hG dX12_quarter_338 (by decide) ?_
                          refine pm_icmp_ne (tgt := 363) hG dX12_quarter_339 rfl (fun c178 => ?_) (fun c178 => ?_)
                          · refine pm_iincX (v := nI (i5 + 1)) (loc' := [some (.ref (B + 54)), some (.int (nI (i5 + 1))), some (.int (nI (6 * i5 + 1770))), some (.int (x8 + x10)), some (.int (x8 + x10))]) hG dX12_quarter_363 rfl (nI_1 _) (by decide) (pm_c1b rfl) rfl ?_
                            refine pm_goto (tgt := 180) hG dX12_quarter_366 rfl ?_
                            refine pm_fg 2 (loc' := [some (.ref (B + 54)), some (.int (nI (i5 + 1))), none, some (.int (x8 + x10)), some (.int (x8 + x10))]) rfl ?_
                            refine pm_fg 3 (loc' := [some (.ref (B + 54)), some (.int (nI (i5 + 1))), none, none, some (.int (x8 + x10))]) rfl ?_
                            refine pm_fg 4 (loc' := [some (.ref (B + 54)), some (.int (nI (i5 + 1))), none, none, none]) rfl ?_
                            exact ih5 n_168 (i5 + 1) hnn_168 ksn_168 hrn_168 (e169.trans (congrArg nI (by omega))) (e170.trans (congrArg nI (by omega))) (e171.trans (congrArg nI (by omega))) (by omega) (by omega)
                          · refine pm_aloadn hG dX12_quarter_342 rfl ?_
                            refine pm_getf hG dX12_quarter_343 (flX12_7 _ rfl) rfl rfl ?_
                            refine pm_bipush (v := nI 20) hG dX12_quarter_346 (by decide) ?_
                            refine pm_iconst (v := nI 3) hG dX12_quarter_348 (by decide) ?_
                            refine pm_aloadn hG dX12_quarter_349 rfl ?_
                            refine pm_getf hG dX12_quarter_350 (flX12_7 _ rfl) rfl rfl ?_
                            refine pm_iloadn hG dX12_quarter_353 rfl ?_
                            refine pm_iconst (v := nI 4) hG dX12_quarter_354 (by decide) ?_
                            refine pm_iaddN (c := 6 * i5 + 1774) hG dX12_quarter_355 (by omega) ?_
                            refine pm_ialdN hG dX12_quarter_356 rfl (by decide) (by omega) ?_
                            obtain ⟨k179, hk179, ek179⟩ := KI.nat hnn_168 (show kd (6 * i5 + 1774) = (1, 10, false) from (kd_D (k := i5) (c := 4) (by omega) (by omega) (by decide)))
                            refine pm_top (v := nI k179) ek179 ?_
                            refine pm_imulN (c := 3 * k179) hG dX12_quarter_357 (by omega) ?_
                            refine pm_iaddN (c := 3 * k179 + 20) hG dX12_quarter_358 (by omega) ?_
                            refine pm_iconst (v := nI 2) hG dX12_quarter_359 (by decide) ?_
                            refine pm_iaddN (c := 3 * k179 + 22) hG dX12_quarter_360 (by omega) ?_
                            refine pm_iconst (v := nI 1) hG dX12_quarter_361 (by decide) ?_
                            refine pm_iastN hG dX12_quarter_362 rfl (by decide) (by omega) ?_
                            refine mdn_now (fun n_180 en_180 => ?_)
                            have hnn_180 := KI.w en_180 hnn_168 (okv_f (show kd (3 * k179 + 22) = (0, 0, false) from (kd_T (k := k179) (c := 2) (by omega) (by omega) (by decide))))
                            have hrn_180 := NRx.w en_180 hrn_168 (by rw [(show kd (3 * k179 + 22) = (0, 0, false) from (kd_T (k := k179) (c := 2) (by omega) (by omega) (by decide)))])
                            have ksn_180 := KS.w en_180 ksn_168 (by unfold tS; omega)
                            have e181 : n_180 8 = nI kc8 := by rw [en_180, pk_un (by omega)]; exact e169
                            have e182 : n_180 0 = nI kc0 := by rw [en_180, pk_un (by omega)]; exact e170
                            have e183 : n_180 2 = nI kc2 := by rw [en_180, pk_un (by omega)]; exact e171
                            have e184 : n_180 6 = nI k6 := by rw [en_180, pk_un (by omega)]; exact e172
                            have e185 : n_180 (6 * i5 + 1771) = x9 := by rw [en_180, pk_un (by omega)]; exact e173
                            have e186 : n_180 (6 * i5 + 1770) = x8 + x10 := by rw [en_180, pk_un (by omega)]; exact e174
                            have e187 : n_180 (6 * i5 + 1772) = x118 := by rw [en_180, pk_un (by omega)]; exact e175
                            have e188 : n_180 9 = x165 := by rw [en_180, pk_un (by omega)]; exact e176
                            have e189 : n_180 (6 * i5 + 1773) = x167 + (nI 1) := by rw [en_180, pk_un (by omega)]; exact e177
                            have e190 : n_180 (6 * i5 + 1774) = nI k179 := by rw [en_180, pk_un (by omega)]; exact ek179
                            have e191 : n_180 (3 * k179 + 22) = nI 1 := by rw [en_180, pk_us]
                            refine pm_iincX (v := nI (i5 + 1)) (loc' := [some (.ref (B + 54)), some (.int (nI (i5 + 1))), some (.int (nI (6 * i5 + 1770))), some (.int (x8 + x10)), some (.int (x8 + x10))]) hG dX12_quarter_363 rfl (nI_1 _) (by decide) (pm_c1b rfl) rfl ?_
                            refine pm_goto (tgt := 180) hG dX12_quarter_366 rfl ?_
                            refine pm_fg 2 (loc' := [some (.ref (B + 54)), some (.int (nI (i5 + 1))), none, some (.int (x8 + x10)), some (.int (x8 + x10))]) rfl ?_
                            refine pm_fg 3 (loc' := [some (.ref (B + 54)), some (.int (nI (i5 + 1))), none, none, some (.int (x8 + x10))]) rfl ?_
                            refine pm_fg 4 (loc' := [some (.ref (B + 54)), some (.int (nI (i5 + 1))), none, none, none]) rfl ?_
                            exact ih5 n_180 (i5 + 1) hnn_180 ksn_180 hrn_180 (e181.trans (congrArg nI (by omega))) (e182.trans (congrArg nI (by omega))) (e183.trans (congrArg nI (by omega))) (by omega) (by omega)
                        · refine pm_aloadn hG dX12_quarter_292 rfl ?_
                          refine pm_getf hG dX12_quarter_293 (flX12_7 _ rfl) rfl rfl ?_
                          refine pm_bipush (v := nI 9) hG dX12_quarter_296 (by decide) ?_
                          refine pm_dup2 hG dX12_quarter_298 rfl rfl ?_
                          refine pm_ialdN hG dX12_quarter_299 rfl (by decide) (by omega) ?_
                          refine pm_top (v := x165) ex165 ?_
                          refine pm_iloadi hG dX12_quarter_300 rfl ?_
                          refine pm_isub hG dX12_quarter_302 ?_
                          refine pm_iastN hG dX12_quarter_303 rfl (by decide) (by omega) ?_
                          refine mdn_now (fun n_192 en_192 => ?_)
                          have hnn_192 := KI.w en_192 hnn_111 (okv_f (show kd 9 = (0, 0, false) by decide))
                          have hrn_192 := NRx.w en_192 hrn_111 (by rw [(show kd 9 = (0, 0, false) by decide)])
                          have ksn_192 := KS.w en_192 ksn_111 (by unfold tS; omega)
                          have e193 : n_192 8 = nI kc8 := by rw [en_192, pk_un (by omega)]; exact e112
                          have e194 : n_192 0 = nI kc0 := by rw [en_192, pk_un (by omega)]; exact e113
                          have e195 : n_192 2 = nI kc2 := by rw [en_192, pk_un (by omega)]; exact e114
                          have e196 : n_192 6 = nI k6 := by rw [en_192, pk_un (by omega)]; exact e115
                          have e197 : n_192 (6 * i5 + 1771) = x9 := by rw [en_192, pk_un (by omega)]; exact e116
                          have e198 : n_192 (6 * i5 + 1770) = x8 + x10 := by rw [en_192, pk_un (by omega)]; exact e117
                          have e199 : n_192 (6 * i5 + 1772) = x118 := by rw [en_192, pk_un (by omega)]; exact ex118
                          have e200 : n_192 9 = x165 - (x8 + x10) := by rw [en_192, pk_us]
                          refine pm_aloadn hG dX12_quarter_304 rfl ?_
                          refine pm_getf hG dX12_quarter_305 (flX12_7 _ rfl) rfl rfl ?_
                          refine pm_iloadn hG dX12_quarter_308 rfl ?_
                          refine pm_dup2 hG dX12_quarter_309 rfl rfl ?_
                          refine pm_ialdN hG dX12_quarter_310 rfl (by decide) (by omega) ?_
                          refine pm_top (v := x8 + x10) e198 ?_
                          refine pm_iloadi hG dX12_quarter_311 rfl ?_
                          refine pm_isub hG dX12_quarter_313 ?_
                          refine pm_iastN hG dX12_quarter_314 rfl (by decide) (by omega) ?_
                          refine mdn_now (fun n_201 en_201 => ?_)
                          have hnn_201 := KI.w en_201 hnn_192 (okv_f (show kd (6 * i5 + 1770) = (0, 0, false) from (kd_D (k := i5) (c := 0) (by omega) (by omega) (by decide))))
                          have hrn_201 := NRx.w en_201 hrn_192 (by rw [(show kd (6 * i5 + 1770) = (0, 0, false) from (kd_D (k := i5) (c := 0) (by omega) (by omega) (by decide)))])
                          have ksn_201 := KS.w en_201 ksn_192 (by unfold tS; omega)
                          have e202 : n_201 8 = nI kc8 := by rw [en_201, pk_un (by omega)]; exact e193
                          have e203 : n_201 0 = nI kc0 := by rw [en_201, pk_un (by omega)]; exact e194
                          have e204 : n_201 2 = nI kc2 := by rw [en_201, pk_un (by omega)]; exact e195
                          have e205 : n_201 6 = nI k6 := by rw [en_201, pk_un (by omega)]; exact e196
                          have e206 : n_201 (6 * i5 + 1771) = x9 := by rw [en_201, pk_un (by omega)]; exact e197
                          have e207 : n_201 (6 * i5 + 1772) = x118 := by rw [en_201, pk_un (by omega)]; exact e199
                          have e208 : n_201 9 = x165 - (x8 + x10) := by rw [en_201, pk_un (by omega)]; exact e200
                          have e209 : n_201 (6 * i5 + 1770) = (x8 + x10) - (x8 + x10) := by rw [en_201, pk_us]
                          refine pm_goto (tgt := 363) hG dX12_quarter_315 rfl ?_
                          refine pm_iincX (v := nI (i5 + 1)) (loc' := [some (.ref (B + 54)), some (.int (nI (i5 + 1))), some (.int (nI (6 * i5 + 1770))), some (.int (x8 + x10)), some (.int (x8 + x10))]) hG dX12_quarter_363 rfl (nI_1 _) (by decide) (pm_c1b rfl) rfl ?_
                          refine pm_goto (tgt := 180) hG dX12_quarter_366 rfl ?_
                          refine pm_fg 2 (loc' := [some (.ref (B + 54)), some (.int (nI (i5 + 1))), none, some (.int (x8 + x10)), some (.int (x8 + x10))]) rfl ?_
                          refine pm_fg 3 (loc' := [some (.ref (B + 54)), some (.int (nI (i5 + 1))), none, none, some (.int (x8 + x10))]) rfl ?_
                          refine pm_fg 4 (loc' := [some (.ref (B + 54)), some (.int (nI (i5 + 1))), none, none, none]) rfl ?_
                          exact ih5 n_201 (i5 + 1) hnn_201 ksn_201 hrn_201 (e202.trans (congrArg nI (by omega))) (e203.trans (congrArg nI (by omega))) (e204.trans (congrArg nI (by omega))) (by omega) (by omega)
              exact loop180_5 _ n_3 0 hnn_3 ksn_3 hrn_3 (kc3_8.trans (congrArg nI (by omega))) (kc3_0.trans (congrArg nI (by omega))) (kc3_2.trans (congrArg nI (by omega))) (by omega) (Nat.lt_succ_self _)
            · refine pm_aloadn hG dX12_quarter_113 rfl ?_
              refine pm_iloadn hG dX12_quarter_114 rfl ?_
              refine pm_bipush (v := nI 7) hG dX12_quarter_115 (by decide) ?_
              refine pm_callV (As := [.int (nI i3), .int (nI 7)]) (rest := []) hG hR dX12_quarter_117 (lkX12_72 _ rfl) okV_X12_man rfl rfl (m_man (d := 1) (e := 14 * i3 + 117) (by omega) (by omega) (by omega)) rfl rfl hdd (Nat.le_refl _) (Nat.le_refl _) (by decide) (pm_ki (fun v210 σ' cnt' hq => ?_))
              obtain ⟨rfl, rfl, rfl⟩ := hq
              refine pm_gen (fun x211 ex211 => ?_)
              refine pm_aloadn hG dX12_quarter_120 rfl ?_
              refine pm_iloadn hG dX12_quarter_121 rfl ?_
              refine pm_bipush (v := nI 8) hG dX12_quarter_122 (by decide) ?_
              refine pm_callV (As := [.int (nI i3), .int (nI 8)]) (rest := [.int x211]) hG hR dX12_quarter_124 (lkX12_72 _ rfl) okV_X12_man rfl rfl (m_man (d := 1) (e := 14 * i3 + 118) (by omega) (by omega) (by omega)) rfl rfl hdd (Nat.le_refl _) (Nat.le_refl _) (Nat.le_of_ble_eq_true rfl) (pm_ki (fun v212 σ' cnt' hq => ?_))
              obtain ⟨rfl, rfl, rfl⟩ := hq
              refine pm_gen (fun x213 ex213 => ?_)
              refine pm_icmp_ge (tgt := 140) hG dX12_quarter_127 rfl (fun c214 => ?_) (fun c214 => ?_)
              · refine pm_aloadn hG dX12_quarter_140 rfl ?_
                refine pm_iloadn hG dX12_quarter_141 rfl ?_
                refine pm_bipush (v := nI 8) hG dX12_quarter_142 (by decide) ?_
                refine pm_callV (As := [.int (nI i3), .int (nI 8)]) (rest := []) hG hR dX12_quarter_144 (lkX12_72 _ rfl) okV_X12_man rfl rfl (m_man (d := 1) (e := 14 * i3 + 118) (by omega) (by omega) (by omega)) rfl rfl hdd (Nat.le_refl _) (Nat.le_refl _) (by decide) (pm_ki (fun v215 σ' cnt' hq => ?_))
                obtain ⟨rfl, rfl, rfl⟩ := hq
                refine pm_top (v := x213) ex213 ?_
                refine pm_istoreXn (loc' := [some (.ref (B + 54)), some (.int (nI i3)), some (.int x213), none, none]) hG dX12_quarter_147 (by decide) (pm_c1b rfl) rfl ?_
                refine pm_aloadn hG dX12_quarter_148 rfl ?_
                refine pm_iloadn hG dX12_quarter_149 rfl ?_
                refine pm_bipush (v := nI 7) hG dX12_quarter_150 (by decide) ?_
                refine pm_aloadn hG dX12_quarter_152 rfl ?_
                refine pm_iloadn hG dX12_quarter_153 rfl ?_
                refine pm_bipush (v := nI 7) hG dX12_quarter_154 (by decide) ?_
                refine pm_callV (As := [.int (nI i3), .int (nI 7)]) (rest := [.int (nI 7), .int (nI i3), .ref (B + 54)]) hG hR dX12_quarter_156 (lkX12_72 _ rfl) okV_X12_man rfl rfl (m_man (d := 1) (e := 14 * i3 + 117) (by omega) (by omega) (by omega)) rfl rfl hdd (Nat.le_refl _) (Nat.le_refl _) (Nat.le_of_ble_eq_true rfl) (pm_ki (fun v216 σ' cnt' hq => ?_))
                obtain ⟨rfl, rfl, rfl⟩ := hq
                refine pm_top (v := x211) ex211 ?_
                refine pm_iloadn hG dX12_quarter_159 rfl ?_
                refine pm_isub hG dX12_quarter_160 ?_
                refine pm_callV (As := [.int (nI i3), .int (nI 7), .int (x211 - x213)]) (rest := []) hG hR dX12_quarter_161 (lkX12_97 _ rfl) okV_X12_sets rfl rfl (m_sets (d := 1) (e := 14 * i3 + 117) (by omega) (by omega) (by omega)) rfl rfl hdd (Nat.le_refl _) (Nat.le_refl _) (by decide) (pm_kv (fun σ' cnt' hq => ?_))
                obtain ⟨rfl, rfl⟩ := hq
                obtain ⟨n_217, en_217⟩ : ∃ f : Nat → Int32, f = upd n_3 (14 * i3 + 117) (x211 - x213) := ⟨_, rfl⟩
                rw [← en_217]
                have hnn_217 := KI.w en_217 hnn_3 (okv_f (show kd (14 * i3 + 117) = (0, 0, false) from (kd_P (k := i3) (c := 7) (by omega) (by omega) (by decide))))
                have hrn_217 := NRx.w en_217 hrn_3 (by rw [(show kd (14 * i3 + 117) = (0, 0, false) from (kd_P (k := i3) (c := 7) (by omega) (by omega) (by decide)))])
                have ksn_217 := KS.w en_217 ksn_3 (by unfold tS; omega)
                have e218 : n_217 8 = nI kc8 := by rw [en_217, pk_un (by omega)]; exact kc3_8
                have e219 : n_217 0 = nI kc0 := by rw [en_217, pk_un (by omega)]; exact kc3_0
                have e220 : n_217 2 = nI kc2 := by rw [en_217, pk_un (by omega)]; exact kc3_2
                have e221 : n_217 (14 * i3 + 118) = x213 := by rw [en_217, pk_un (by omega)]; exact ex213
                have e222 : n_217 (14 * i3 + 117) = x211 - x213 := by rw [en_217, pk_us]
                refine pm_aloadn hG dX12_quarter_164 rfl ?_
                refine pm_iloadn hG dX12_quarter_165 rfl ?_
                refine pm_bipush (v := nI 8) hG dX12_quarter_166 (by decide) ?_
                refine pm_iloadn hG dX12_quarter_168 rfl ?_
                refine pm_callV (As := [.int (nI i3), .int (nI 8), .int x213]) (rest := []) hG hR dX12_quarter_169 (lkX12_97 _ rfl) okV_X12_sets rfl rfl (m_sets (d := 1) (e := 14 * i3 + 118) (by omega) (by omega) (by omega)) rfl rfl hdd (Nat.le_refl _) (Nat.le_refl _) (by decide) (pm_kv (fun σ' cnt' hq => ?_))
                obtain ⟨rfl, rfl⟩ := hq
                obtain ⟨n_223, en_223⟩ : ∃ f : Nat → Int32, f = upd n_217 (14 * i3 + 118) x213 := ⟨_, rfl⟩
                rw [← en_223]
                have hnn_223 := KI.w en_223 hnn_217 (okv_f (show kd (14 * i3 + 118) = (0, 0, false) from (kd_P (k := i3) (c := 8) (by omega) (by omega) (by decide))))
                have hrn_223 := NRx.w en_223 hrn_217 (by rw [(show kd (14 * i3 + 118) = (0, 0, false) from (kd_P (k := i3) (c := 8) (by omega) (by omega) (by decide)))])
                have ksn_223 := KS.w en_223 ksn_217 (by unfold tS; omega)
                have e224 : n_223 8 = nI kc8 := by rw [en_223, pk_un (by omega)]; exact e218
                have e225 : n_223 0 = nI kc0 := by rw [en_223, pk_un (by omega)]; exact e219
                have e226 : n_223 2 = nI kc2 := by rw [en_223, pk_un (by omega)]; exact e220
                have e227 : n_223 (14 * i3 + 117) = x211 - x213 := by rw [en_223, pk_un (by omega)]; exact e222
                have e228 : n_223 (14 * i3 + 118) = x213 := by rw [en_223, pk_us]
                refine pm_iincX (v := nI (i3 + 1)) (loc' := [some (.ref (B + 54)), some (.int (nI (i3 + 1))), some (.int x213), none, none]) hG dX12_quarter_172 rfl (nI_1 _) (by decide) (pm_c1b rfl) rfl ?_
                refine pm_goto (tgt := 103) hG dX12_quarter_175 rfl ?_
                refine pm_fg 2 (loc' := [some (.ref (B + 54)), some (.int (nI (i3 + 1))), none, none, none]) rfl ?_
                exact ih3 n_223 (i3 + 1) hnn_223 ksn_223 hrn_223 (e224.trans (congrArg nI (by omega))) (e225.trans (congrArg nI (by omega))) (e226.trans (congrArg nI (by omega))) (by omega) (by omega)
              · refine pm_aloadn hG dX12_quarter_130 rfl ?_
                refine pm_iloadn hG dX12_quarter_131 rfl ?_
                refine pm_bipush (v := nI 7) hG dX12_quarter_132 (by decide) ?_
                refine pm_callV (As := [.int (nI i3), .int (nI 7)]) (rest := []) hG hR dX12_quarter_134 (lkX12_72 _ rfl) okV_X12_man rfl rfl (m_man (d := 1) (e := 14 * i3 + 117) (by omega) (by omega) (by omega)) rfl rfl hdd (Nat.le_refl _) (Nat.le_refl _) (by decide) (pm_ki (fun v229 σ' cnt' hq => ?_))
                obtain ⟨rfl, rfl, rfl⟩ := hq
                refine pm_top (v := x211) ex211 ?_
                refine pm_goto (tgt := 147) hG dX12_quarter_137 rfl ?_
                refine pm_istoreXn (loc' := [some (.ref (B + 54)), some (.int (nI i3)), some (.int x211), none, none]) hG dX12_quarter_147 (by decide) (pm_c1b rfl) rfl ?_
                refine pm_aloadn hG dX12_quarter_148 rfl ?_
                refine pm_iloadn hG dX12_quarter_149 rfl ?_
                refine pm_bipush (v := nI 7) hG dX12_quarter_150 (by decide) ?_
                refine pm_aloadn hG dX12_quarter_152 rfl ?_
                refine pm_iloadn hG dX12_quarter_153 rfl ?_
                refine pm_bipush (v := nI 7) hG dX12_quarter_154 (by decide) ?_
                refine pm_callV (As := [.int (nI i3), .int (nI 7)]) (rest := [.int (nI 7), .int (nI i3), .ref (B + 54)]) hG hR dX12_quarter_156 (lkX12_72 _ rfl) okV_X12_man rfl rfl (m_man (d := 1) (e := 14 * i3 + 117) (by omega) (by omega) (by omega)) rfl rfl hdd (Nat.le_refl _) (Nat.le_refl _) (Nat.le_of_ble_eq_true rfl) (pm_ki (fun v230 σ' cnt' hq => ?_))
                obtain ⟨rfl, rfl, rfl⟩ := hq
                refine pm_top (v := x211) ex211 ?_
                refine pm_iloadn hG dX12_quarter_159 rfl ?_
                refine pm_isub hG dX12_quarter_160 ?_
                refine pm_callV (As := [.int (nI i3), .int (nI 7), .int (x211 - x211)]) (rest := []) hG hR dX12_quarter_161 (lkX12_97 _ rfl) okV_X12_sets rfl rfl (m_sets (d := 1) (e := 14 * i3 + 117) (by omega) (by omega) (by omega)) rfl rfl hdd (Nat.le_refl _) (Nat.le_refl _) (by decide) (pm_kv (fun σ' cnt' hq => ?_))
                obtain ⟨rfl, rfl⟩ := hq
                obtain ⟨n_231, en_231⟩ : ∃ f : Nat → Int32, f = upd n_3 (14 * i3 + 117) (x211 - x211) := ⟨_, rfl⟩
                rw [← en_231]
                have hnn_231 := KI.w en_231 hnn_3 (okv_f (show kd (14 * i3 + 117) = (0, 0, false) from (kd_P (k := i3) (c := 7) (by omega) (by omega) (by decide))))
                have hrn_231 := NRx.w en_231 hrn_3 (by rw [(show kd (14 * i3 + 117) = (0, 0, false) from (kd_P (k := i3) (c := 7) (by omega) (by omega) (by decide)))])
                have ksn_231 := KS.w en_231 ksn_3 (by unfold tS; omega)
                have e232 : n_231 8 = nI kc8 := by rw [en_231, pk_un (by omega)]; exact kc3_8
                have e233 : n_231 0 = nI kc0 := by rw [en_231, pk_un (by omega)]; exact kc3_0
                have e234 : n_231 2 = nI kc2 := by rw [en_231, pk_un (by omega)]; exact kc3_2
                have e235 : n_231 (14 * i3 + 118) = x213 := by rw [en_231, pk_un (by omega)]; exact ex213
                have e236 : n_231 (14 * i3 + 117) = x211 - x211 := by rw [en_231, pk_us]
                refine pm_aloadn hG dX12_quarter_164 rfl ?_
                refine pm_iloadn hG dX12_quarter_165 rfl ?_
                refine pm_bipush (v := nI 8) hG dX12_quarter_166 (by decide) ?_
                refine pm_iloadn hG dX12_quarter_168 rfl ?_
                refine pm_callV (As := [.int (nI i3), .int (nI 8), .int x211]) (rest := []) hG hR dX12_quarter_169 (lkX12_97 _ rfl) okV_X12_sets rfl rfl (m_sets (d := 1) (e := 14 * i3 + 118) (by omega) (by omega) (by omega)) rfl rfl hdd (Nat.le_refl _) (Nat.le_refl _) (by decide) (pm_kv (fun σ' cnt' hq => ?_))
                obtain ⟨rfl, rfl⟩ := hq
                obtain ⟨n_237, en_237⟩ : ∃ f : Nat → Int32, f = upd n_231 (14 * i3 + 118) x211 := ⟨_, rfl⟩
                rw [← en_237]
                have hnn_237 := KI.w en_237 hnn_231 (okv_f (show kd (14 * i3 + 118) = (0, 0, false) from (kd_P (k := i3) (c := 8) (by omega) (by omega) (by decide))))
                have hrn_237 := NRx.w en_237 hrn_231 (by rw [(show kd (14 * i3 + 118) = (0, 0, false) from (kd_P (k := i3) (c := 8) (by omega) (by omega) (by decide)))])
                have ksn_237 := KS.w en_237 ksn_231 (by unfold tS; omega)
                have e238 : n_237 8 = nI kc8 := by rw [en_237, pk_un (by omega)]; exact e232
                have e239 : n_237 0 = nI kc0 := by rw [en_237, pk_un (by omega)]; exact e233
                have e240 : n_237 2 = nI kc2 := by rw [en_237, pk_un (by omega)]; exact e234
                have e241 : n_237 (14 * i3 + 117) = x211 - x211 := by rw [en_237, pk_un (by omega)]; exact e236
                have e242 : n_237 (14 * i3 + 118) = x211 := by rw [en_237, pk_us]
                refine pm_iincX (v := nI (i3 + 1)) (loc' := [some (.ref (B + 54)), some (.int (nI (i3 + 1))), some (.int x211), none, none]) hG dX12_quarter_172 rfl (nI_1 _) (by decide) (pm_c1b rfl) rfl ?_
                refine pm_goto (tgt := 103) hG dX12_quarter_175 rfl ?_
                refine pm_fg 2 (loc' := [some (.ref (B + 54)), some (.int (nI (i3 + 1))), none, none, none]) rfl ?_
                exact ih3 n_237 (i3 + 1) hnn_237 ksn_237 hrn_237 (e238.trans (congrArg nI (by omega))) (e239.trans (congrArg nI (by omega))) (e240.trans (congrArg nI (by omega))) (by omega) (by omega)
        exact loop103_3 _ n_1 0 hnn_1 ksn_1 hrn_1 (kc1_8.trans (congrArg nI (by omega))) (kc1_0.trans (congrArg nI (by omega))) (kc1_2.trans (congrArg nI (by omega))) (by omega) (Nat.lt_succ_self _)
      · refine pm_bipush (v := nI 20) hG dX12_quarter_12 (by decide) ?_
        refine pm_iconst (v := nI 3) hG dX12_quarter_14 (by decide) ?_
        refine pm_iloadn hG dX12_quarter_15 rfl ?_
        refine pm_imulN (c := 3 * i1) hG dX12_quarter_16 (by omega) ?_
        refine pm_iaddN (c := 3 * i1 + 20) hG dX12_quarter_17 (by omega) ?_
        refine pm_istoreXn (loc' := [some (.ref (B + 54)), some (.int (nI i1)), some (.int (nI (3 * i1 + 20))), none, none]) hG dX12_quarter_18 (by decide) (pm_c1b rfl) rfl ?_
        refine pm_aloadn hG dX12_quarter_19 rfl ?_
        refine pm_getf hG dX12_quarter_20 (flX12_7 _ rfl) rfl rfl ?_
        refine pm_iloadn hG dX12_quarter_23 rfl ?_
        refine pm_iconst (v := nI 1) hG dX12_quarter_24 (by decide) ?_
        refine pm_iaddN (c := 3 * i1 + 21) hG dX12_quarter_25 (by omega) ?_
        refine pm_ialdN hG dX12_quarter_26 rfl (by decide) (by omega) ?_
        rcases KI.opt hnn_1 (show kd (3 * i1 + 21) = (2, 20, false) from (kd_T (k := i1) (c := 1) (by omega) (by omega) (by decide))) with ek243 | ⟨k243, hk243, ek243⟩
        · refine pm_top (v := (-1)) ek243 ?_
          refine pm_istoreXn (loc' := [some (.ref (B + 54)), some (.int (nI i1)), some (.int (nI (3 * i1 + 20))), some (.int (-1)), none]) hG dX12_quarter_27 (by decide) (pm_c1b rfl) rfl ?_
          refine pm_aloadn hG dX12_quarter_28 rfl ?_
          refine pm_getf hG dX12_quarter_29 (flX12_7 _ rfl) rfl rfl ?_
          refine pm_iloadn hG dX12_quarter_32 rfl ?_
          refine pm_iconst (v := nI 2) hG dX12_quarter_33 (by decide) ?_
          refine pm_iaddN (c := 3 * i1 + 22) hG dX12_quarter_34 (by omega) ?_
          refine pm_ialdN hG dX12_quarter_35 rfl (by decide) (by omega) ?_
          refine pm_gen (fun x244 ex244 => ?_)
          refine pm_iconst (v := nI 1) hG dX12_quarter_36 (by decide) ?_
          refine pm_icmp_ne (tgt := 43) hG dX12_quarter_37 rfl (fun c245 => ?_) (fun c245 => ?_)
          · refine pm_iloadn hG dX12_quarter_43 rfl ?_
            refine pm_if_lt (tgt := 79) hG dX12_quarter_44 rfl (fun _ => ?_) (fun q => absurd q (by decide))
            refine pm_aloadn hG dX12_quarter_79 rfl ?_
            refine pm_getf hG dX12_quarter_80 (flX12_7 _ rfl) rfl rfl ?_
            refine pm_bipush (v := nI 9) hG dX12_quarter_83 (by decide) ?_
            refine pm_dup2 hG dX12_quarter_85 rfl rfl ?_
            refine pm_ialdN hG dX12_quarter_86 rfl (by decide) (by omega) ?_
            refine pm_gen (fun x246 ex246 => ?_)
            refine pm_aloadn hG dX12_quarter_87 rfl ?_
            refine pm_getf hG dX12_quarter_88 (flX12_7 _ rfl) rfl rfl ?_
            refine pm_iloadn hG dX12_quarter_91 rfl ?_
            refine pm_ialdN hG dX12_quarter_92 rfl (by decide) (by omega) ?_
            refine pm_gen (fun x247 ex247 => ?_)
            refine pm_iadd hG dX12_quarter_93 ?_
            refine pm_iastN hG dX12_quarter_94 rfl (by decide) (by omega) ?_
            refine mdn_now (fun n_248 en_248 => ?_)
            have hnn_248 := KI.w en_248 hnn_1 (okv_f (show kd 9 = (0, 0, false) by decide))
            have hrn_248 := NRx.w en_248 hrn_1 (by rw [(show kd 9 = (0, 0, false) by decide)])
            have ksn_248 := KS.w en_248 ksn_1 (by unfold tS; omega)
            have e249 : n_248 8 = nI kc8 := by rw [en_248, pk_un (by omega)]; exact kc1_8
            have e250 : n_248 0 = nI kc0 := by rw [en_248, pk_un (by omega)]; exact kc1_0
            have e251 : n_248 2 = nI kc2 := by rw [en_248, pk_un (by omega)]; exact kc1_2
            have e252 : n_248 (3 * i1 + 21) = (-1) := by rw [en_248, pk_un (by omega)]; exact ek243
            have e253 : n_248 (3 * i1 + 22) = x244 := by rw [en_248, pk_un (by omega)]; exact ex244
            have e254 : n_248 (3 * i1 + 20) = x247 := by rw [en_248, pk_un (by omega)]; exact ex247
            have e255 : n_248 9 = x246 + x247 := by rw [en_248, pk_us]
            refine pm_iincX (v := nI (i1 + 1)) (loc' := [some (.ref (B + 54)), some (.int (nI (i1 + 1))), some (.int (nI (3 * i1 + 20))), some (.int (-1)), none]) hG dX12_quarter_95 rfl (nI_1 _) (by decide) (pm_c1b rfl) rfl ?_
            refine pm_goto (tgt := 2) hG dX12_quarter_98 rfl ?_
            refine pm_fg 2 (loc' := [some (.ref (B + 54)), some (.int (nI (i1 + 1))), none, some (.int (-1)), none]) rfl ?_
            refine pm_fg 3 (loc' := [some (.ref (B + 54)), some (.int (nI (i1 + 1))), none, none, none]) rfl ?_
            exact ih1 n_248 (i1 + 1) hnn_248 ksn_248 hrn_248 (e249.trans (congrArg nI (by omega))) (e250.trans (congrArg nI (by omega))) (e251.trans (congrArg nI (by omega))) (by omega) (by omega)
          · refine pm_goto (tgt := 95) hG dX12_quarter_40 rfl ?_
            refine pm_iincX (v := nI (i1 + 1)) (loc' := [some (.ref (B + 54)), some (.int (nI (i1 + 1))), some (.int (nI (3 * i1 + 20))), some (.int (-1)), none]) hG dX12_quarter_95 rfl (nI_1 _) (by decide) (pm_c1b rfl) rfl ?_
            refine pm_goto (tgt := 2) hG dX12_quarter_98 rfl ?_
            refine pm_fg 2 (loc' := [some (.ref (B + 54)), some (.int (nI (i1 + 1))), none, some (.int (-1)), none]) rfl ?_
            refine pm_fg 3 (loc' := [some (.ref (B + 54)), some (.int (nI (i1 + 1))), none, none, none]) rfl ?_
            exact ih1 n_1 (i1 + 1) hnn_1 ksn_1 hrn_1 (kc1_8.trans (congrArg nI (by omega))) (kc1_0.trans (congrArg nI (by omega))) (kc1_2.trans (congrArg nI (by omega))) (by omega) (by omega)
        · refine pm_top (v := nI k243) ek243 ?_
          refine pm_istoreXn (loc' := [some (.ref (B + 54)), some (.int (nI i1)), some (.int (nI (3 * i1 + 20))), some (.int (nI k243)), none]) hG dX12_quarter_27 (by decide) (pm_c1b rfl) rfl ?_
          refine pm_aloadn hG dX12_quarter_28 rfl ?_
          refine pm_getf hG dX12_quarter_29 (flX12_7 _ rfl) rfl rfl ?_
          refine pm_iloadn hG dX12_quarter_32 rfl ?_
          refine pm_iconst (v := nI 2) hG dX12_quarter_33 (by decide) ?_
          refine pm_iaddN (c := 3 * i1 + 22) hG dX12_quarter_34 (by omega) ?_
          refine pm_ialdN hG dX12_quarter_35 rfl (by decide) (by omega) ?_
          refine pm_gen (fun x256 ex256 => ?_)
          refine pm_iconst (v := nI 1) hG dX12_quarter_36 (by decide) ?_
          refine pm_icmp_ne (tgt := 43) hG dX12_quarter_37 rfl (fun c257 => ?_) (fun c257 => ?_)
          · refine pm_iloadn hG dX12_quarter_43 rfl ?_
            refine pm_ifN_lt hG dX12_quarter_44 rfl (by omega) ?_
            refine pm_aloadn hG dX12_quarter_47 rfl ?_
            refine pm_iloadn hG dX12_quarter_48 rfl ?_
            rcases KI.opt hnn_1 (show kd (14 * k243 + 119) = (2, 2001, false) from (kd_P (k := k243) (c := 9) (by omega) (by omega) (by decide))) with ek258 | ⟨k258, hk258, ek258⟩
            · refine pm_callV (As := [.int (nI k243)]) (rest := []) hG hR dX12_quarter_49 (lkX12_101 _ rfl) okV_X12_lives rfl rfl (m_lives1 (d := 1) (by decide) (by omega) (by omega : 14 * k243 + 119 = 14 * k243 + 119) ek258) rfl rfl hdd (Nat.le_refl _) (Nat.le_refl _) (by decide) (pm_ki (fun v259 σ' cnt' hq => ?_))
              obtain ⟨rfl, rfl, rfl⟩ := hq
              refine pm_ifN_eq (tgt := 79) hG dX12_quarter_52 rfl (by omega) (fun q => absurd q (by omega)) (fun _ => ?_)
              refine pm_aloadn hG dX12_quarter_55 rfl ?_
              refine pm_iloadn hG dX12_quarter_56 rfl ?_
              refine pm_bipush (v := nI 7) hG dX12_quarter_57 (by decide) ?_
              refine pm_aloadn hG dX12_quarter_59 rfl ?_
              refine pm_iloadn hG dX12_quarter_60 rfl ?_
              refine pm_bipush (v := nI 7) hG dX12_quarter_61 (by decide) ?_
              refine pm_callV (As := [.int (nI k243), .int (nI 7)]) (rest := [.int (nI 7), .int (nI k243), .ref (B + 54)]) hG hR dX12_quarter_63 (lkX12_72 _ rfl) okV_X12_man rfl rfl (m_man (d := 1) (e := 14 * k243 + 117) (by omega) (by omega) (by omega)) rfl rfl hdd (Nat.le_refl _) (Nat.le_refl _) (Nat.le_of_ble_eq_true rfl) (pm_ki (fun v260 σ' cnt' hq => ?_))
              obtain ⟨rfl, rfl, rfl⟩ := hq
              refine pm_gen (fun x261 ex261 => ?_)
              refine pm_aloadn hG dX12_quarter_66 rfl ?_
              refine pm_getf hG dX12_quarter_67 (flX12_7 _ rfl) rfl rfl ?_
              refine pm_iloadn hG dX12_quarter_70 rfl ?_
              refine pm_ialdN hG dX12_quarter_71 rfl (by decide) (by omega) ?_
              refine pm_gen (fun x262 ex262 => ?_)
              refine pm_iadd hG dX12_quarter_72 ?_
              refine pm_callV (As := [.int (nI k243), .int (nI 7), .int (x261 + x262)]) (rest := []) hG hR dX12_quarter_73 (lkX12_97 _ rfl) okV_X12_sets rfl rfl (m_sets (d := 1) (e := 14 * k243 + 117) (by omega) (by omega) (by omega)) rfl rfl hdd (Nat.le_refl _) (Nat.le_refl _) (by decide) (pm_kv (fun σ' cnt' hq => ?_))
              obtain ⟨rfl, rfl⟩ := hq
              obtain ⟨n_263, en_263⟩ : ∃ f : Nat → Int32, f = upd n_1 (14 * k243 + 117) (x261 + x262) := ⟨_, rfl⟩
              rw [← en_263]
              have hnn_263 := KI.w en_263 hnn_1 (okv_f (show kd (14 * k243 + 117) = (0, 0, false) from (kd_P (k := k243) (c := 7) (by omega) (by omega) (by decide))))
              have hrn_263 := NRx.w en_263 hrn_1 (by rw [(show kd (14 * k243 + 117) = (0, 0, false) from (kd_P (k := k243) (c := 7) (by omega) (by omega) (by decide)))])
              have ksn_263 := KS.w en_263 ksn_1 (by unfold tS; omega)
              have e264 : n_263 8 = nI kc8 := by rw [en_263, pk_un (by omega)]; exact kc1_8
              have e265 : n_263 0 = nI kc0 := by rw [en_263, pk_un (by omega)]; exact kc1_0
              have e266 : n_263 2 = nI kc2 := by rw [en_263, pk_un (by omega)]; exact kc1_2
              have e267 : n_263 (3 * i1 + 21) = nI k243 := by rw [en_263, pk_un (by omega)]; exact ek243
              have e268 : n_263 (3 * i1 + 22) = x256 := by rw [en_263, pk_un (by omega)]; exact ex256
              have e269 : n_263 (14 * k243 + 119) = (-1) := by rw [en_263, pk_un (by omega)]; exact ek258
              have e270 : n_263 (3 * i1 + 20) = x262 := by rw [en_263, pk_un (by omega)]; exact ex262
              have e271 : n_263 (14 * k243 + 117) = x261 + x262 := by rw [en_263, pk_us]
              refine pm_goto (tgt := 95) hG dX12_quarter_76 rfl ?_
              refine pm_iincX (v := nI (i1 + 1)) (loc' := [some (.ref (B + 54)), some (.int (nI (i1 + 1))), some (.int (nI (3 * i1 + 20))), some (.int (nI k243)), none]) hG dX12_quarter_95 rfl (nI_1 _) (by decide) (pm_c1b rfl) rfl ?_
              refine pm_goto (tgt := 2) hG dX12_quarter_98 rfl ?_
              refine pm_fg 2 (loc' := [some (.ref (B + 54)), some (.int (nI (i1 + 1))), none, some (.int (nI k243)), none]) rfl ?_
              refine pm_fg 3 (loc' := [some (.ref (B + 54)), some (.int (nI (i1 + 1))), none, none, none]) rfl ?_
              exact ih1 n_263 (i1 + 1) hnn_263 ksn_263 hrn_263 (e264.trans (congrArg nI (by omega))) (e265.trans (congrArg nI (by omega))) (e266.trans (congrArg nI (by omega))) (by omega) (by omega)
            · refine pm_callV (As := [.int (nI k243)]) (rest := []) hG hR dX12_quarter_49 (lkX12_101 _ rfl) okV_X12_lives rfl rfl (m_lives0 (d := 1) (by decide) (by omega) (by omega : 14 * k243 + 119 = 14 * k243 + 119) ek258 (by omega)) rfl rfl hdd (Nat.le_refl _) (Nat.le_refl _) (by decide) (pm_ki (fun v272 σ' cnt' hq => ?_))
              obtain ⟨rfl, rfl, rfl⟩ := hq
              refine pm_ifN_eq (tgt := 79) hG dX12_quarter_52 rfl (by omega) (fun _ => ?_) (fun q => absurd q (by omega))
              refine pm_aloadn hG dX12_quarter_79 rfl ?_
              refine pm_getf hG dX12_quarter_80 (flX12_7 _ rfl) rfl rfl ?_
              refine pm_bipush (v := nI 9) hG dX12_quarter_83 (by decide) ?_
              refine pm_dup2 hG dX12_quarter_85 rfl rfl ?_
              refine pm_ialdN hG dX12_quarter_86 rfl (by decide) (by omega) ?_
              refine pm_gen (fun x273 ex273 => ?_)
              refine pm_aloadn hG dX12_quarter_87 rfl ?_
              refine pm_getf hG dX12_quarter_88 (flX12_7 _ rfl) rfl rfl ?_
              refine pm_iloadn hG dX12_quarter_91 rfl ?_
              refine pm_ialdN hG dX12_quarter_92 rfl (by decide) (by omega) ?_
              refine pm_gen (fun x274 ex274 => ?_)
              refine pm_iadd hG dX12_quarter_93 ?_
              refine pm_iastN hG dX12_quarter_94 rfl (by decide) (by omega) ?_
              refine mdn_now (fun n_275 en_275 => ?_)
              have hnn_275 := KI.w en_275 hnn_1 (okv_f (show kd 9 = (0, 0, false) by decide))
              have hrn_275 := NRx.w en_275 hrn_1 (by rw [(show kd 9 = (0, 0, false) by decide)])
              have ksn_275 := KS.w en_275 ksn_1 (by unfold tS; omega)
              have e276 : n_275 8 = nI kc8 := by rw [en_275, pk_un (by omega)]; exact kc1_8
              have e277 : n_275 0 = nI kc0 := by rw [en_275, pk_un (by omega)]; exact kc1_0
              have e278 : n_275 2 = nI kc2 := by rw [en_275, pk_un (by omega)]; exact kc1_2
              have e279 : n_275 (3 * i1 + 21) = nI k243 := by rw [en_275, pk_un (by omega)]; exact ek243
              have e280 : n_275 (3 * i1 + 22) = x256 := by rw [en_275, pk_un (by omega)]; exact ex256
              have e281 : n_275 (14 * k243 + 119) = nI k258 := by rw [en_275, pk_un (by omega)]; exact ek258
              have e282 : n_275 (3 * i1 + 20) = x274 := by rw [en_275, pk_un (by omega)]; exact ex274
              have e283 : n_275 9 = x273 + x274 := by rw [en_275, pk_us]
              refine pm_iincX (v := nI (i1 + 1)) (loc' := [some (.ref (B + 54)), some (.int (nI (i1 + 1))), some (.int (nI (3 * i1 + 20))), some (.int (nI k243)), none]) hG dX12_quarter_95 rfl (nI_1 _) (by decide) (pm_c1b rfl) rfl ?_
              refine pm_goto (tgt := 2) hG dX12_quarter_98 rfl ?_
              refine pm_fg 2 (loc' := [some (.ref (B + 54)), some (.int (nI (i1 + 1))), none, some (.int (nI k243)), none]) rfl ?_
              refine pm_fg 3 (loc' := [some (.ref (B + 54)), some (.int (nI (i1 + 1))), none, none, none]) rfl ?_
              exact ih1 n_275 (i1 + 1) hnn_275 ksn_275 hrn_275 (e276.trans (congrArg nI (by omega))) (e277.trans (congrArg nI (by omega))) (e278.trans (congrArg nI (by omega))) (by omega) (by omega)
          · refine pm_goto (tgt := 95) hG dX12_quarter_40 rfl ?_
            refine pm_iincX (v := nI (i1 + 1)) (loc' := [some (.ref (B + 54)), some (.int (nI (i1 + 1))), some (.int (nI (3 * i1 + 20))), some (.int (nI k243)), none]) hG dX12_quarter_95 rfl (nI_1 _) (by decide) (pm_c1b rfl) rfl ?_
            refine pm_goto (tgt := 2) hG dX12_quarter_98 rfl ?_
            refine pm_fg 2 (loc' := [some (.ref (B + 54)), some (.int (nI (i1 + 1))), none, some (.int (nI k243)), none]) rfl ?_
            refine pm_fg 3 (loc' := [some (.ref (B + 54)), some (.int (nI (i1 + 1))), none, none, none]) rfl ?_
            exact ih1 n_1 (i1 + 1) hnn_1 ksn_1 hrn_1 (kc1_8.trans (congrArg nI (by omega))) (kc1_0.trans (congrArg nI (by omega))) (kc1_2.trans (congrArg nI (by omega))) (by omega) (by omega)
  exact loop2_1 _ n 0 hn KS.rf hr (ekc8.trans (congrArg nI (by omega))) (ekc0.trans (congrArg nI (by omega))) (ekc2.trans (congrArg nI (by omega))) (by omega) (Nat.lt_succ_self _)
