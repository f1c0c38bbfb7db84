set_option maxRecDepth 100000 in
set_option maxHeartbeats 4000000 in
theorem m_quarter {d B cnt p0 t0 : Nat} {σ : pm_S} {I : Nat → Int32} {A : Nat → Nat → Int32} {n k z : Nat → Int32} {ac wt pl im : Int32} (hdd : 2 ≤ d) (hn : KI n) (hr : NR n) (hz : SZ z)  : pm_met mX12_quarter d 0 0 B [.ref (B + 54)] cnt (pm_mid σ (md_L B I A n k z ac wt pl (nI p0) (nI t0) im)) (pm_Qv (fun σ' cnt' => (∃ (n' : Nat → Int32), σ' = pm_mid σ (md_L B I A n' k z ac wt pl (nI p0) (nI t0) im) ∧ KI n' ∧ NR n' ∧ n' 0 = n 0 ∧ n' 6 = n 6 ∧ n' 8 = n 8) ∧ cnt = cnt')) := by
  obtain ⟨kc0, hkc0, ekc0⟩ := KI.nat hn (show kd 0 = (1, 11, true) by decide)
  obtain ⟨kc6, hkc6, ekc6⟩ := KI.nat hn (show kd 6 = (1, 7, false) by decide)
  obtain ⟨kc8, hkc8, ekc8⟩ := KI.nat hn (show kd 8 = (1, 2001, false) by decide)
  refine pm_enter 4 (by decide) (Nat.le_of_ble_eq_true rfl) rfl (fun G hG hR hF => ?_)
  refine pm_iconst (v := nI 0) hG dX12_quarter_0 (by decide) ?_
  refine pm_istoreXn (loc' := [some (.ref (B + 54)), some (.int (nI 0)), none, none, none]) hG dX12_quarter_1 (by decide) (pm_c1b rfl) rfl ?_
  have loop2_1 : ∀ (m1 : Nat) (n_1 : Nat → Int32) (i1 : Nat), KI n_1 → NRx 40 n_1 → n_1 8 = nI kc8 → n_1 0 = nI kc0 → n_1 6 = nI kc6 → i1 ≤ 10 → 10 - i1 < m1 → pm_wp mX12_quarter G B 2 [some (.ref (B + 54)), some (.int (nI i1)), none, none, none] [] 0 0 cnt (pm_mid σ (md_L B I A n_1 k z ac wt pl (nI p0) (nI t0) im)) := by
    intro m1
    induction m1 with
    | zero => intro n_1 i1 _ _ _ _ _ _ hm; exact absurd hm (Nat.not_lt_zero _)
    | succ m1 ih1 =>
      intro n_1 i1 hnn_1 hrn_1 kc1_8 kc1_0 kc1_6 hi1 hm1
      refine pm_iloadn hG dX12_quarter_2 rfl ?_
      refine pm_aloadn hG dX12_quarter_3 rfl ?_
      refine pm_getf hG dX12_quarter_4 (flX12_7 _ rfl) rfl rfl ?_
      refine pm_iconst (v := nI 0) hG dX12_quarter_7 (by decide) ?_
      refine pm_ialdN hG dX12_quarter_8 rfl (by decide) (by omega) ?_
      refine pm_top (v := nI kc0) kc1_0 ?_
      refine pm_icmpN_ge (tgt := 101) hG dX12_quarter_9 rfl (by omega) (by omega) (fun c2 => ?_) (fun c2 => ?_)
      · refine pm_iconst (v := nI 0) hG dX12_quarter_101 (by decide) ?_
        refine pm_istoreXn (loc' := [some (.ref (B + 54)), some (.int (nI 0)), none, none, none]) hG dX12_quarter_102 (by decide) (pm_c1b rfl) rfl ?_
        have loop103_3 : ∀ (m3 : Nat) (n_3 : Nat → Int32) (i3 : Nat), KI n_3 → NRx 40 n_3 → n_3 8 = nI kc8 → n_3 0 = nI kc0 → n_3 6 = nI kc6 → i3 ≤ 20 → 20 - i3 < m3 → pm_wp mX12_quarter G B 103 [some (.ref (B + 54)), some (.int (nI i3)), none, none, none] [] 0 0 cnt (pm_mid σ (md_L B I A n_3 k z ac wt pl (nI p0) (nI t0) im)) := by
          intro m3
          induction m3 with
          | zero => intro n_3 i3 _ _ _ _ _ _ hm; exact absurd hm (Nat.not_lt_zero _)
          | succ m3 ih3 =>
            intro n_3 i3 hnn_3 hrn_3 kc3_8 kc3_0 kc3_6 hi3 hm3
            refine pm_iloadn hG dX12_quarter_103 rfl ?_
            refine pm_aloadn hG dX12_quarter_104 rfl ?_
            refine pm_getf hG dX12_quarter_105 (flX12_7 _ rfl) rfl rfl ?_
            refine pm_iconst (v := nI 2) hG dX12_quarter_108 (by decide) ?_
            refine pm_ialdN hG dX12_quarter_109 rfl (by decide) (by omega) ?_
            obtain ⟨k4, hk4, ek4⟩ := KI.nat hnn_3 (show kd 2 = (1, 21, true) by decide)
            refine pm_top (v := nI k4) ek4 ?_
            refine pm_icmpN_ge (tgt := 178) hG dX12_quarter_110 rfl (by omega) (by omega) (fun c5 => ?_) (fun c5 => ?_)
            · refine pm_iconst (v := nI 0) hG dX12_quarter_178 (by decide) ?_
              refine pm_istoreXn (loc' := [some (.ref (B + 54)), some (.int (nI 0)), none, none, none]) hG dX12_quarter_179 (by decide) (pm_c1b rfl) rfl ?_
              have loop180_6 : ∀ (m6 : Nat) (n_6 : Nat → Int32) (i6 : Nat), KI n_6 → NRx 40 n_6 → n_6 8 = nI kc8 → n_6 0 = nI kc0 → n_6 6 = nI kc6 → i6 ≤ 6 → 6 - i6 < m6 → pm_wp mX12_quarter G B 180 [some (.ref (B + 54)), some (.int (nI i6)), none, none, none] [] 0 0 cnt (pm_mid σ (md_L B I A n_6 k z ac wt pl (nI p0) (nI t0) im)) := by
                intro m6
                induction m6 with
                | zero => intro n_6 i6 _ _ _ _ _ _ hm; exact absurd hm (Nat.not_lt_zero _)
                | succ m6 ih6 =>
                  intro n_6 i6 hnn_6 hrn_6 kc6_8 kc6_0 kc6_6 hi6 hm6
                  refine pm_iloadn hG dX12_quarter_180 rfl ?_
                  refine pm_aloadn hG dX12_quarter_181 rfl ?_
                  refine pm_getf hG dX12_quarter_182 (flX12_7 _ rfl) rfl rfl ?_
                  refine pm_bipush (v := nI 6) hG dX12_quarter_185 (by decide) ?_
                  refine pm_ialdN hG dX12_quarter_187 rfl (by decide) (by omega) ?_
                  refine pm_top (v := nI kc6) kc6_6 ?_
                  refine pm_icmpN_ge (tgt := 369) hG dX12_quarter_188 rfl (by omega) (by omega) (fun c7 => ?_) (fun c7 => ?_)
                  · exact pm_vret hG hF dX12_quarter_369 rfl (Nat.le_refl _) (Nat.le_refl _) ⟨rfl, ⟨_, rfl, hnn_6, hrn_6, kc6_0.trans ekc0.symm, kc6_6.trans ekc6.symm, kc6_8.trans ekc8.symm⟩, rfl⟩
                  · refine pm_sipush (v := nI 1770) hG dX12_quarter_191 (by decide) ?_
                    refine pm_bipush (v := nI 6) hG dX12_quarter_194 (by decide) ?_
                    refine pm_iloadn hG dX12_quarter_196 rfl ?_
                    refine pm_imulN (c := 6 * i6) hG dX12_quarter_197 (by omega) ?_
                    refine pm_iaddN (c := 6 * i6 + 1770) hG dX12_quarter_198 (by omega) ?_
                    refine pm_istoreXn (loc' := [some (.ref (B + 54)), some (.int (nI i6)), some (.int (nI (6 * i6 + 1770))), none, none]) hG dX12_quarter_199 (by decide) (pm_c1b rfl) rfl ?_
                    refine pm_aloadn hG dX12_quarter_200 rfl ?_
                    refine pm_getf hG dX12_quarter_201 (flX12_7 _ rfl) rfl rfl ?_
                    refine pm_iloadn hG dX12_quarter_204 rfl ?_
                    refine pm_ialdN hG dX12_quarter_205 rfl (by decide) (by omega) ?_
                    refine pm_gen (fun x8 ex8 => ?_)
                    refine pm_aloadn hG dX12_quarter_206 rfl ?_
                    refine pm_getf hG dX12_quarter_207 (flX12_7 _ rfl) rfl rfl ?_
                    refine pm_iloadn hG dX12_quarter_210 rfl ?_
                    refine pm_ialdN hG dX12_quarter_211 rfl (by decide) (by omega) ?_
                    refine pm_top (v := x8) ex8 ?_
                    refine pm_aloadn hG dX12_quarter_212 rfl ?_
                    refine pm_getf hG dX12_quarter_213 (flX12_7 _ rfl) rfl rfl ?_
                    refine pm_iloadn hG dX12_quarter_216 rfl ?_
                    refine pm_iconst (v := nI 1) hG dX12_quarter_217 (by decide) ?_
                    refine pm_iaddN (c := 6 * i6 + 1771) hG dX12_quarter_218 (by omega) ?_
                    refine pm_ialdN hG dX12_quarter_219 rfl (by decide) (by omega) ?_
                    refine pm_gen (fun x9 ex9 => ?_)
                    refine pm_imul hG dX12_quarter_220 ?_
                    refine pm_bipush (v := nI 100) hG dX12_quarter_221 (by decide) ?_
                    refine pm_idiv hG dX12_quarter_223 (by decide) ?_
                    refine pm_any (fun x10 => ?_)
                    refine pm_iadd hG dX12_quarter_224 ?_
                    refine pm_istoreXn (loc' := [some (.ref (B + 54)), some (.int (nI i6)), some (.int (nI (6 * i6 + 1770))), some (.int (x8 + x10)), none]) hG dX12_quarter_225 (by decide) (pm_c1b rfl) rfl ?_
                    refine pm_aloadn hG dX12_quarter_226 rfl ?_
                    refine pm_getf hG dX12_quarter_227 (flX12_7 _ rfl) rfl rfl ?_
                    refine pm_iloadn hG dX12_quarter_230 rfl ?_
                    refine pm_iloadn hG dX12_quarter_231 rfl ?_
                    refine pm_ldc hG dX12_quarter_232 (ctX12_235 _ rfl) ?_
                    refine pm_top (v := nI 999999) (by decide) ?_
                    refine pm_icmp_ge (tgt := 241) hG dX12_quarter_234 rfl (fun c11 => ?_) (fun c11 => ?_)
                    · refine pm_ldc hG dX12_quarter_241 (ctX12_235 _ rfl) ?_
                      refine pm_top (v := nI 999999) (by decide) ?_
                      refine pm_iastN hG dX12_quarter_243 rfl (by decide) (by omega) ?_
                      refine mdn_now (fun n_12 en_12 => ?_)
                      have hnn_12 := KI.w en_12 hnn_6 (okv_f (show kd (6 * i6 + 1770) = (0, 0, false) from (kd_D (k := i6) (c := 0) (by omega) (by omega) (by decide))))
                      have hrn_12 := NRx.w en_12 hrn_6 (by rw [(show kd (6 * i6 + 1770) = (0, 0, false) from (kd_D (k := i6) (c := 0) (by omega) (by omega) (by decide)))])
                      have e13 : n_12 8 = nI kc8 := by rw [en_12, pk_un (by omega)]; exact kc6_8
                      have e14 : n_12 0 = nI kc0 := by rw [en_12, pk_un (by omega)]; exact kc6_0
                      have e15 : n_12 6 = nI kc6 := by rw [en_12, pk_un (by omega)]; exact kc6_6
                      have e16 : n_12 (6 * i6 + 1771) = x9 := by rw [en_12, pk_un (by omega)]; exact ex9
                      have e17 : n_12 (6 * i6 + 1770) = nI 999999 := by rw [en_12, pk_us]
                      refine pm_aloadn hG dX12_quarter_244 rfl ?_
                      refine pm_getf hG dX12_quarter_245 (flX12_7 _ rfl) rfl rfl ?_
                      refine pm_iloadn hG dX12_quarter_248 rfl ?_
                      refine pm_ialdN hG dX12_quarter_249 rfl (by decide) (by omega) ?_
                      refine pm_top (v := nI 999999) e17 ?_
                      refine pm_aloadn hG dX12_quarter_250 rfl ?_
                      refine pm_getf hG dX12_quarter_251 (flX12_7 _ rfl) rfl rfl ?_
                      refine pm_iloadn hG dX12_quarter_254 rfl ?_
                      refine pm_iconst (v := nI 2) hG dX12_quarter_255 (by decide) ?_
                      refine pm_iaddN (c := 6 * i6 + 1772) hG dX12_quarter_256 (by omega) ?_
                      refine pm_ialdN hG dX12_quarter_257 rfl (by decide) (by omega) ?_
                      refine pm_gen (fun x18 ex18 => ?_)
                      refine pm_icmp_ge (tgt := 270) hG dX12_quarter_258 rfl (fun c19 => ?_) (fun c19 => ?_)
                      · refine pm_aloadn hG dX12_quarter_270 rfl ?_
                        refine pm_getf hG dX12_quarter_271 (flX12_7 _ rfl) rfl rfl ?_
                        refine pm_iloadn hG dX12_quarter_274 rfl ?_
                        refine pm_iconst (v := nI 2) hG dX12_quarter_275 (by decide) ?_
                        refine pm_iaddN (c := 6 * i6 + 1772) hG dX12_quarter_276 (by omega) ?_
                        refine pm_ialdN hG dX12_quarter_277 rfl (by decide) (by omega) ?_
                        refine pm_top (v := x18) ex18 ?_
                        refine pm_istoreXi (loc' := [some (.ref (B + 54)), some (.int (nI i6)), some (.int (nI (6 * i6 + 1770))), some (.int (x8 + x10)), some (.int x18)]) hG dX12_quarter_278 (by decide) (pm_c1b rfl) rfl ?_
                        refine pm_aloadn hG dX12_quarter_280 rfl ?_
                        refine pm_getf hG dX12_quarter_281 (flX12_7 _ rfl) rfl rfl ?_
                        refine pm_bipush (v := nI 9) hG dX12_quarter_284 (by decide) ?_
                        refine pm_ialdN hG dX12_quarter_286 rfl (by decide) (by omega) ?_
                        refine pm_gen (fun x20 ex20 => ?_)
                        refine pm_iloadi hG dX12_quarter_287 rfl ?_
                        refine pm_icmp_lt (tgt := 318) hG dX12_quarter_289 rfl (fun c21 => ?_) (fun c21 => ?_)
                        · refine pm_aloadn hG dX12_quarter_318 rfl ?_
                          refine pm_getf hG dX12_quarter_319 (flX12_7 _ rfl) rfl rfl ?_
                          refine pm_iloadn hG dX12_quarter_322 rfl ?_
                          refine pm_iconst (v := nI 3) hG dX12_quarter_323 (by decide) ?_
                          refine pm_iaddN (c := 6 * i6 + 1773) hG dX12_quarter_324 (by omega) ?_
                          refine pm_dup2 hG dX12_quarter_325 rfl rfl ?_
                          refine pm_ialdN hG dX12_quarter_326 rfl (by decide) (by omega) ?_
                          refine pm_gen (fun x22 ex22 => ?_)
                          refine pm_iconst (v := nI 1) hG dX12_quarter_327 (by decide) ?_
                          refine pm_iadd hG dX12_quarter_328 ?_
                          refine pm_iastN hG dX12_quarter_329 rfl (by decide) (by omega) ?_
                          refine mdn_now (fun n_23 en_23 => ?_)
                          have hnn_23 := KI.w en_23 hnn_12 (okv_f (show kd (6 * i6 + 1773) = (0, 0, false) from (kd_D (k := i6) (c := 3) (by omega) (by omega) (by decide))))
                          have hrn_23 := NRx.w en_23 hrn_12 (by rw [(show kd (6 * i6 + 1773) = (0, 0, false) from (kd_D (k := i6) (c := 3) (by omega) (by omega) (by decide)))])
                          have e24 : n_23 8 = nI kc8 := by rw [en_23, pk_un (by omega)]; exact e13
                          have e25 : n_23 0 = nI kc0 := by rw [en_23, pk_un (by omega)]; exact e14
                          have e26 : n_23 6 = nI kc6 := by rw [en_23, pk_un (by omega)]; exact e15
                          have e27 : n_23 (6 * i6 + 1771) = x9 := by rw [en_23, pk_un (by omega)]; exact e16
                          have e28 : n_23 (6 * i6 + 1770) = nI 999999 := by rw [en_23, pk_un (by omega)]; exact e17
                          have e29 : n_23 (6 * i6 + 1772) = x18 := by rw [en_23, pk_un (by omega)]; exact ex18
                          have e30 : n_23 9 = x20 := by rw [en_23, pk_un (by omega)]; exact ex20
                          have e31 : n_23 (6 * i6 + 1773) = x22 + (nI 1) := by rw [en_23, pk_us]
                          refine pm_aloadn hG dX12_quarter_330 rfl ?_
                          refine pm_getf hG dX12_quarter_331 (flX12_7 _ rfl) rfl rfl ?_
                          refine pm_iloadn hG dX12_quarter_334 rfl ?_
                          refine pm_iconst (v := nI 3) hG dX12_quarter_335 (by decide) ?_
                          refine pm_iaddN (c := 6 * i6 + 1773) hG dX12_quarter_336 (by omega) ?_
                          refine pm_ialdN hG dX12_quarter_337 rfl (by decide) (by omega) ?_
                          refine pm_top (v := x22 + (nI 1)) e31 ?_
                          refine pm_iconst (v := nI 2) hG dX12_quarter_338 (by decide) ?_
                          refine pm_icmp_ne (tgt := 363) hG dX12_quarter_339 rfl (fun c32 => ?_) (fun c32 => ?_)
                          · refine pm_iincX (v := nI (i6 + 1)) (loc' := [some (.ref (B + 54)), some (.int (nI (i6 + 1))), some (.int (nI (6 * i6 + 1770))), some (.int (x8 + x10)), some (.int x18)]) hG dX12_quarter_363 rfl (nI_1 _) (by decide) (pm_c1b rfl) rfl ?_
                            refine pm_goto (tgt := 180) hG dX12_quarter_366 rfl ?_
                            refine pm_fg 2 (loc' := [some (.ref (B + 54)), some (.int (nI (i6 + 1))), none, some (.int (x8 + x10)), some (.int x18)]) rfl ?_
                            refine pm_fg 3 (loc' := [some (.ref (B + 54)), some (.int (nI (i6 + 1))), none, none, some (.int x18)]) rfl ?_
                            refine pm_fg 4 (loc' := [some (.ref (B + 54)), some (.int (nI (i6 + 1))), none, none, none]) rfl ?_
                            exact ih6 n_23 (i6 + 1) hnn_23 hrn_23 (e24.trans (congrArg nI (by omega))) (e25.trans (congrArg nI (by omega))) (e26.trans (congrArg nI (by omega))) (by omega) (by omega)
                          · refine pm_aloadn hG dX12_quarter_342 rfl ?_
                            refine pm_getf hG dX12_quarter_343 (flX12_7 _ rfl) rfl rfl ?_
                            refine pm_bipush (v := nI 20) hG dX12_quarter_346 (by decide) ?_
                            refine pm_iconst (v := nI 3) hG dX12_quarter_348 (by decide) ?_
                            refine pm_aloadn hG dX12_quarter_349 rfl ?_
                            refine pm_getf hG dX12_quarter_350 (flX12_7 _ rfl) rfl rfl ?_
                            refine pm_iloadn hG dX12_quarter_353 rfl ?_
                            refine pm_iconst (v := nI 4) hG dX12_quarter_354 (by decide) ?_
                            refine pm_iaddN (c := 6 * i6 + 1774) hG dX12_quarter_355 (by omega) ?_
                            refine pm_ialdN hG dX12_quarter_356 rfl (by decide) (by omega) ?_
                            obtain ⟨k33, hk33, ek33⟩ := KI.nat hnn_23 (show kd (6 * i6 + 1774) = (1, 10, false) from (kd_D (k := i6) (c := 4) (by omega) (by omega) (by decide)))
                            refine pm_top (v := nI k33) ek33 ?_
                            refine pm_imulN (c := 3 * k33) hG dX12_quarter_357 (by omega) ?_
                            refine pm_iaddN (c := 3 * k33 + 20) hG dX12_quarter_358 (by omega) ?_
                            refine pm_iconst (v := nI 2) hG dX12_quarter_359 (by decide) ?_
                            refine pm_iaddN (c := 3 * k33 + 22) hG dX12_quarter_360 (by omega) ?_
                            refine pm_iconst (v := nI 1) hG dX12_quarter_361 (by decide) ?_
                            refine pm_iastN hG dX12_quarter_362 rfl (by decide) (by omega) ?_
                            refine mdn_now (fun n_34 en_34 => ?_)
                            have hnn_34 := KI.w en_34 hnn_23 (okv_f (show kd (3 * k33 + 22) = (0, 0, false) from (kd_T (k := k33) (c := 2) (by omega) (by omega) (by decide))))
                            have hrn_34 := NRx.w en_34 hrn_23 (by rw [(show kd (3 * k33 + 22) = (0, 0, false) from (kd_T (k := k33) (c := 2) (by omega) (by omega) (by decide)))])
                            have e35 : n_34 8 = nI kc8 := by rw [en_34, pk_un (by omega)]; exact e24
                            have e36 : n_34 0 = nI kc0 := by rw [en_34, pk_un (by omega)]; exact e25
                            have e37 : n_34 6 = nI kc6 := by rw [en_34, pk_un (by omega)]; exact e26
                            have e38 : n_34 (6 * i6 + 1771) = x9 := by rw [en_34, pk_un (by omega)]; exact e27
                            have e39 : n_34 (6 * i6 + 1770) = nI 999999 := by rw [en_34, pk_un (by omega)]; exact e28
                            have e40 : n_34 (6 * i6 + 1772) = x18 := by rw [en_34, pk_un (by omega)]; exact e29
                            have e41 : n_34 9 = x20 := by rw [en_34, pk_un (by omega)]; exact e30
                            have e42 : n_34 (6 * i6 + 1773) = x22 + (nI 1) := by rw [en_34, pk_un (by omega)]; exact e31
                            have e43 : n_34 (6 * i6 + 1774) = nI k33 := by rw [en_34, pk_un (by omega)]; exact ek33
                            have e44 : n_34 (3 * k33 + 22) = nI 1 := by rw [en_34, pk_us]
                            refine pm_iincX (v := nI (i6 + 1)) (loc' := [some (.ref (B + 54)), some (.int (nI (i6 + 1))), some (.int (nI (6 * i6 + 1770))), some (.int (x8 + x10)), some (.int x18)]) hG dX12_quarter_363 rfl (nI_1 _) (by decide) (pm_c1b rfl) rfl ?_
                            refine pm_goto (tgt := 180) hG dX12_quarter_366 rfl ?_
                            refine pm_fg 2 (loc' := [some (.ref (B + 54)), some (.int (nI (i6 + 1))), none, some (.int (x8 + x10)), some (.int x18)]) rfl ?_
                            refine pm_fg 3 (loc' := [some (.ref (B + 54)), some (.int (nI (i6 + 1))), none, none, some (.int x18)]) rfl ?_
                            refine pm_fg 4 (loc' := [some (.ref (B + 54)), some (.int (nI (i6 + 1))), none, none, none]) rfl ?_
                            exact ih6 n_34 (i6 + 1) hnn_34 hrn_34 (e35.trans (congrArg nI (by omega))) (e36.trans (congrArg nI (by omega))) (e37.trans (congrArg nI (by omega))) (by omega) (by omega)
                        · refine pm_aloadn hG dX12_quarter_292 rfl ?_
                          refine pm_getf hG dX12_quarter_293 (flX12_7 _ rfl) rfl rfl ?_
                          refine pm_bipush (v := nI 9) hG dX12_quarter_296 (by decide) ?_
                          refine pm_dup2 hG dX12_quarter_298 rfl rfl ?_
                          refine pm_ialdN hG dX12_quarter_299 rfl (by decide) (by omega) ?_
                          refine pm_top (v := x20) ex20 ?_
                          refine pm_iloadi hG dX12_quarter_300 rfl ?_
                          refine pm_isub hG dX12_quarter_302 ?_
                          refine pm_iastN hG dX12_quarter_303 rfl (by decide) (by omega) ?_
                          refine mdn_now (fun n_45 en_45 => ?_)
                          have hnn_45 := KI.w en_45 hnn_12 (okv_f (show kd 9 = (0, 0, false) by decide))
                          have hrn_45 := NRx.w en_45 hrn_12 (by rw [(show kd 9 = (0, 0, false) by decide)])
                          have e46 : n_45 8 = nI kc8 := by rw [en_45, pk_un (by omega)]; exact e13
                          have e47 : n_45 0 = nI kc0 := by rw [en_45, pk_un (by omega)]; exact e14
                          have e48 : n_45 6 = nI kc6 := by rw [en_45, pk_un (by omega)]; exact e15
                          have e49 : n_45 (6 * i6 + 1771) = x9 := by rw [en_45, pk_un (by omega)]; exact e16
                          have e50 : n_45 (6 * i6 + 1770) = nI 999999 := by rw [en_45, pk_un (by omega)]; exact e17
                          have e51 : n_45 (6 * i6 + 1772) = x18 := by rw [en_45, pk_un (by omega)]; exact ex18
                          have e52 : n_45 9 = x20 - x18 := by rw [en_45, pk_us]
                          refine pm_aloadn hG dX12_quarter_304 rfl ?_
                          refine pm_getf hG dX12_quarter_305 (flX12_7 _ rfl) rfl rfl ?_
                          refine pm_iloadn hG dX12_quarter_308 rfl ?_
                          refine pm_dup2 hG dX12_quarter_309 rfl rfl ?_
                          refine pm_ialdN hG dX12_quarter_310 rfl (by decide) (by omega) ?_
                          refine pm_top (v := nI 999999) e50 ?_
                          refine pm_iloadi hG dX12_quarter_311 rfl ?_
                          refine pm_isub hG dX12_quarter_313 ?_
                          refine pm_iastN hG dX12_quarter_314 rfl (by decide) (by omega) ?_
                          refine mdn_now (fun n_53 en_53 => ?_)
                          have hnn_53 := KI.w en_53 hnn_45 (okv_f (show kd (6 * i6 + 1770) = (0, 0, false) from (kd_D (k := i6) (c := 0) (by omega) (by omega) (by decide))))
                          have hrn_53 := NRx.w en_53 hrn_45 (by rw [(show kd (6 * i6 + 1770) = (0, 0, false) from (kd_D (k := i6) (c := 0) (by omega) (by omega) (by decide)))])
                          have e54 : n_53 8 = nI kc8 := by rw [en_53, pk_un (by omega)]; exact e46
                          have e55 : n_53 0 = nI kc0 := by rw [en_53, pk_un (by omega)]; exact e47
                          have e56 : n_53 6 = nI kc6 := by rw [en_53, pk_un (by omega)]; exact e48
                          have e57 : n_53 (6 * i6 + 1771) = x9 := by rw [en_53, pk_un (by omega)]; exact e49
                          have e58 : n_53 (6 * i6 + 1772) = x18 := by rw [en_53, pk_un (by omega)]; exact e51
                          have e59 : n_53 9 = x20 - x18 := by rw [en_53, pk_un (by omega)]; exact e52
                          have e60 : n_53 (6 * i6 + 1770) = (nI 999999) - x18 := by rw [en_53, pk_us]
                          refine pm_goto (tgt := 363) hG dX12_quarter_315 rfl ?_
                          refine pm_iincX (v := nI (i6 + 1)) (loc' := [some (.ref (B + 54)), some (.int (nI (i6 + 1))), some (.int (nI (6 * i6 + 1770))), some (.int (x8 + x10)), some (.int x18)]) hG dX12_quarter_363 rfl (nI_1 _) (by decide) (pm_c1b rfl) rfl ?_
                          refine pm_goto (tgt := 180) hG dX12_quarter_366 rfl ?_
                          refine pm_fg 2 (loc' := [some (.ref (B + 54)), some (.int (nI (i6 + 1))), none, some (.int (x8 + x10)), some (.int x18)]) rfl ?_
                          refine pm_fg 3 (loc' := [some (.ref (B + 54)), some (.int (nI (i6 + 1))), none, none, some (.int x18)]) rfl ?_
                          refine pm_fg 4 (loc' := [some (.ref (B + 54)), some (.int (nI (i6 + 1))), none, none, none]) rfl ?_
                          exact ih6 n_53 (i6 + 1) hnn_53 hrn_53 (e54.trans (congrArg nI (by omega))) (e55.trans (congrArg nI (by omega))) (e56.trans (congrArg nI (by omega))) (by omega) (by omega)
                      · refine pm_aloadn hG dX12_quarter_261 rfl ?_
                        refine pm_getf hG dX12_quarter_262 (flX12_7 _ rfl) rfl rfl ?_
                        refine pm_iloadn hG dX12_quarter_265 rfl ?_
                        refine pm_ialdN hG dX12_quarter_266 rfl (by decide) (by omega) ?_
                        refine pm_top (v := nI 999999) e17 ?_
                        refine pm_goto (tgt := 278) hG dX12_quarter_267 rfl ?_
                        refine pm_istoreXi (loc' := [some (.ref (B + 54)), some (.int (nI i6)), some (.int (nI (6 * i6 + 1770))), some (.int (x8 + x10)), some (.int (nI 999999))]) hG dX12_quarter_278 (by decide) (pm_c1b rfl) rfl ?_
                        refine pm_aloadn hG dX12_quarter_280 rfl ?_
                        refine pm_getf hG dX12_quarter_281 (flX12_7 _ rfl) rfl rfl ?_
                        refine pm_bipush (v := nI 9) hG dX12_quarter_284 (by decide) ?_
                        refine pm_ialdN hG dX12_quarter_286 rfl (by decide) (by omega) ?_
                        refine pm_gen (fun x61 ex61 => ?_)
                        refine pm_iloadi hG dX12_quarter_287 rfl ?_
                        refine pm_icmp_lt (tgt := 318) hG dX12_quarter_289 rfl (fun c62 => ?_) (fun c62 => ?_)
                        · refine pm_aloadn hG dX12_quarter_318 rfl ?_
                          refine pm_getf hG dX12_quarter_319 (flX12_7 _ rfl) rfl rfl ?_
                          refine pm_iloadn hG dX12_quarter_322 rfl ?_
                          refine pm_iconst (v := nI 3) hG dX12_quarter_323 (by decide) ?_
                          refine pm_iaddN (c := 6 * i6 + 1773) hG dX12_quarter_324 (by omega) ?_
                          refine pm_dup2 hG dX12_quarter_325 rfl rfl ?_
                          refine pm_ialdN hG dX12_quarter_326 rfl (by decide) (by omega) ?_
                          refine pm_gen (fun x63 ex63 => ?_)
                          refine pm_iconst (v := nI 1) hG dX12_quarter_327 (by decide) ?_
                          refine pm_iadd hG dX12_quarter_328 ?_
                          refine pm_iastN hG dX12_quarter_329 rfl (by decide) (by omega) ?_
                          refine mdn_now (fun n_64 en_64 => ?_)
                          have hnn_64 := KI.w en_64 hnn_12 (okv_f (show kd (6 * i6 + 1773) = (0, 0, false) from (kd_D (k := i6) (c := 3) (by omega) (by omega) (by decide))))
                          have hrn_64 := NRx.w en_64 hrn_12 (by rw [(show kd (6 * i6 + 1773) = (0, 0, false) from (kd_D (k := i6) (c := 3) (by omega) (by omega) (by decide)))])
                          have e65 : n_64 8 = nI kc8 := by rw [en_64, pk_un (by omega)]; exact e13
                          have e66 : n_64 0 = nI kc0 := by rw [en_64, pk_un (by omega)]; exact e14
                          have e67 : n_64 6 = nI kc6 := by rw [en_64, pk_un (by omega)]; exact e15
                          have e68 : n_64 (6 * i6 + 1771) = x9 := by rw [en_64, pk_un (by omega)]; exact e16
                          have e69 : n_64 (6 * i6 + 1770) = nI 999999 := by rw [en_64, pk_un (by omega)]; exact e17
                          have e70 : n_64 (6 * i6 + 1772) = x18 := by rw [en_64, pk_un (by omega)]; exact ex18
                          have e71 : n_64 9 = x61 := by rw [en_64, pk_un (by omega)]; exact ex61
                          have e72 : n_64 (6 * i6 + 1773) = x63 + (nI 1) := by rw [en_64, pk_us]
                          refine pm_aloadn hG dX12_quarter_330 rfl ?_
                          refine pm_getf hG dX12_quarter_331 (flX12_7 _ rfl) rfl rfl ?_
                          refine pm_iloadn hG dX12_quarter_334 rfl ?_
                          refine pm_iconst (v := nI 3) hG dX12_quarter_335 (by decide) ?_
                          refine pm_iaddN (c := 6 * i6 + 1773) hG dX12_quarter_336 (by omega) ?_
                          refine pm_ialdN hG dX12_quarter_337 rfl (by decide) (by omega) ?_
                          refine pm_top (v := x63 + (nI 1)) e72 ?_
                          refine pm_iconst (v := nI 2) hG dX12_quarter_338 (by decide) ?_
                          refine pm_icmp_ne (tgt := 363) hG dX12_quarter_339 rfl (fun c73 => ?_) (fun c73 => ?_)
                          · refine pm_iincX (v := nI (i6 + 1)) (loc' := [some (.ref (B + 54)), some (.int (nI (i6 + 1))), some (.int (nI (6 * i6 + 1770))), some (.int (x8 + x10)), some (.int (nI 999999))]) hG dX12_quarter_363 rfl (nI_1 _) (by decide) (pm_c1b rfl) rfl ?_
                            refine pm_goto (tgt := 180) hG dX12_quarter_366 rfl ?_
                            refine pm_fg 2 (loc' := [some (.ref (B + 54)), some (.int (nI (i6 + 1))), none, some (.int (x8 + x10)), some (.int (nI 999999))]) rfl ?_
                            refine pm_fg 3 (loc' := [some (.ref (B + 54)), some (.int (nI (i6 + 1))), none, none, some (.int (nI 999999))]) rfl ?_
                            refine pm_fg 4 (loc' := [some (.ref (B + 54)), some (.int (nI (i6 + 1))), none, none, none]) rfl ?_
                            exact ih6 n_64 (i6 + 1) hnn_64 hrn_64 (e65.trans (congrArg nI (by omega))) (e66.trans (congrArg nI (by omega))) (e67.trans (congrArg nI (by omega))) (by omega) (by omega)
                          · refine pm_aloadn hG dX12_quarter_342 rfl ?_
                            refine pm_getf hG dX12_quarter_343 (flX12_7 _ rfl) rfl rfl ?_
                            refine pm_bipush (v := nI 20) hG dX12_quarter_346 (by decide) ?_
                            refine pm_iconst (v := nI 3) hG dX12_quarter_348 (by decide) ?_
                            refine pm_aloadn hG dX12_quarter_349 rfl ?_
                            refine pm_getf hG dX12_quarter_350 (flX12_7 _ rfl) rfl rfl ?_
                            refine pm_iloadn hG dX12_quarter_353 rfl ?_
                            refine pm_iconst (v := nI 4) hG dX12_quarter_354 (by decide) ?_
                            refine pm_iaddN (c := 6 * i6 + 1774) hG dX12_quarter_355 (by omega) ?_
                            refine pm_ialdN hG dX12_quarter_356 rfl (by decide) (by omega) ?_
                            obtain ⟨k74, hk74, ek74⟩ := KI.nat hnn_64 (show kd (6 * i6 + 1774) = (1, 10, false) from (kd_D (k := i6) (c := 4) (by omega) (by omega) (by decide)))
                            refine pm_top (v := nI k74) ek74 ?_
                            refine pm_imulN (c := 3 * k74) hG dX12_quarter_357 (by omega) ?_
                            refine pm_iaddN (c := 3 * k74 + 20) hG dX12_quarter_358 (by omega) ?_
                            refine pm_iconst (v := nI 2) hG dX12_quarter_359 (by decide) ?_
                            refine pm_iaddN (c := 3 * k74 + 22) hG dX12_quarter_360 (by omega) ?_
                            refine pm_iconst (v := nI 1) hG dX12_quarter_361 (by decide) ?_
                            refine pm_iastN hG dX12_quarter_362 rfl (by decide) (by omega) ?_
                            refine mdn_now (fun n_75 en_75 => ?_)
                            have hnn_75 := KI.w en_75 hnn_64 (okv_f (show kd (3 * k74 + 22) = (0, 0, false) from (kd_T (k := k74) (c := 2) (by omega) (by omega) (by decide))))
                            have hrn_75 := NRx.w en_75 hrn_64 (by rw [(show kd (3 * k74 + 22) = (0, 0, false) from (kd_T (k := k74) (c := 2) (by omega) (by omega) (by decide)))])
                            have e76 : n_75 8 = nI kc8 := by rw [en_75, pk_un (by omega)]; exact e65
                            have e77 : n_75 0 = nI kc0 := by rw [en_75, pk_un (by omega)]; exact e66
                            have e78 : n_75 6 = nI kc6 := by rw [en_75, pk_un (by omega)]; exact e67
                            have e79 : n_75 (6 * i6 + 1771) = x9 := by rw [en_75, pk_un (by omega)]; exact e68
                            have e80 : n_75 (6 * i6 + 1770) = nI 999999 := by rw [en_75, pk_un (by omega)]; exact e69
                            have e81 : n_75 (6 * i6 + 1772) = x18 := by rw [en_75, pk_un (by omega)]; exact e70
                            have e82 : n_75 9 = x61 := by rw [en_75, pk_un (by omega)]; exact e71
                            have e83 : n_75 (6 * i6 + 1773) = x63 + (nI 1) := by rw [en_75, pk_un (by omega)]; exact e72
                            have e84 : n_75 (6 * i6 + 1774) = nI k74 := by rw [en_75, pk_un (by omega)]; exact ek74
                            have e85 : n_75 (3 * k74 + 22) = nI 1 := by rw [en_75, pk_us]
                            refine pm_iincX (v := nI (i6 + 1)) (loc' := [some (.ref (B + 54)), some (.int (nI (i6 + 1))), some (.int (nI (6 * i6 + 1770))), some (.int (x8 + x10)), some (.int (nI 999999))]) hG dX12_quarter_363 rfl (nI_1 _) (by decide) (pm_c1b rfl) rfl ?_
                            refine pm_goto (tgt := 180) hG dX12_quarter_366 rfl ?_
                            refine pm_fg 2 (loc' := [some (.ref (B + 54)), some (.int (nI (i6 + 1))), none, some (.int (x8 + x10)), some (.int (nI 999999))]) rfl ?_
                            refine pm_fg 3 (loc' := [some (.ref (B + 54)), some (.int (nI (i6 + 1))), none, none, some (.int (nI 999999))]) rfl ?_
                            refine pm_fg 4 (loc' := [some (.ref (B + 54)), some (.int (nI (i6 + 1))), none, none, none]) rfl ?_
                            exact ih6 n_75 (i6 + 1) hnn_75 hrn_75 (e76.trans (congrArg nI (by omega))) (e77.trans (congrArg nI (by omega))) (e78.trans (congrArg nI (by omega))) (by omega) (by omega)
                        · refine pm_aloadn hG dX12_quarter_292 rfl ?_
                          refine pm_getf hG dX12_quarter_293 (flX12_7 _ rfl) rfl rfl ?_
                          refine pm_bipush (v := nI 9) hG dX12_quarter_296 (by decide) ?_
                          refine pm_dup2 hG dX12_quarter_298 rfl rfl ?_
                          refine pm_ialdN hG dX12_quarter_299 rfl (by decide) (by omega) ?_
                          refine pm_top (v := x61) ex61 ?_
                          refine pm_iloadi hG dX12_quarter_300 rfl ?_
                          refine pm_isub hG dX12_quarter_302 ?_
                          refine pm_iastN hG dX12_quarter_303 rfl (by decide) (by omega) ?_
                          refine mdn_now (fun n_86 en_86 => ?_)
                          have hnn_86 := KI.w en_86 hnn_12 (okv_f (show kd 9 = (0, 0, false) by decide))
                          have hrn_86 := NRx.w en_86 hrn_12 (by rw [(show kd 9 = (0, 0, false) by decide)])
                          have e87 : n_86 8 = nI kc8 := by rw [en_86, pk_un (by omega)]; exact e13
                          have e88 : n_86 0 = nI kc0 := by rw [en_86, pk_un (by omega)]; exact e14
                          have e89 : n_86 6 = nI kc6 := by rw [en_86, pk_un (by omega)]; exact e15
                          have e90 : n_86 (6 * i6 + 1771) = x9 := by rw [en_86, pk_un (by omega)]; exact e16
                          have e91 : n_86 (6 * i6 + 1770) = nI 999999 := by rw [en_86, pk_un (by omega)]; exact e17
                          have e92 : n_86 (6 * i6 + 1772) = x18 := by rw [en_86, pk_un (by omega)]; exact ex18
                          have e93 : n_86 9 = x61 - (nI 999999) := by rw [en_86, pk_us]
                          refine pm_aloadn hG dX12_quarter_304 rfl ?_
                          refine pm_getf hG dX12_quarter_305 (flX12_7 _ rfl) rfl rfl ?_
                          refine pm_iloadn hG dX12_quarter_308 rfl ?_
                          refine pm_dup2 hG dX12_quarter_309 rfl rfl ?_
                          refine pm_ialdN hG dX12_quarter_310 rfl (by decide) (by omega) ?_
                          refine pm_top (v := nI 999999) e91 ?_
                          refine pm_iloadi hG dX12_quarter_311 rfl ?_
                          refine pm_isubN (c := 0) hG dX12_quarter_313 (by omega) ?_
                          refine pm_iastN hG dX12_quarter_314 rfl (by decide) (by omega) ?_
                          refine mdn_now (fun n_94 en_94 => ?_)
                          have hnn_94 := KI.w en_94 hnn_86 (okv_f (show kd (6 * i6 + 1770) = (0, 0, false) from (kd_D (k := i6) (c := 0) (by omega) (by omega) (by decide))))
                          have hrn_94 := NRx.w en_94 hrn_86 (by rw [(show kd (6 * i6 + 1770) = (0, 0, false) from (kd_D (k := i6) (c := 0) (by omega) (by omega) (by decide)))])
                          have e95 : n_94 8 = nI kc8 := by rw [en_94, pk_un (by omega)]; exact e87
                          have e96 : n_94 0 = nI kc0 := by rw [en_94, pk_un (by omega)]; exact e88
                          have e97 : n_94 6 = nI kc6 := by rw [en_94, pk_un (by omega)]; exact e89
                          have e98 : n_94 (6 * i6 + 1771) = x9 := by rw [en_94, pk_un (by omega)]; exact e90
                          have e99 : n_94 (6 * i6 + 1772) = x18 := by rw [en_94, pk_un (by omega)]; exact e92
                          have e100 : n_94 9 = x61 - (nI 999999) := by rw [en_94, pk_un (by omega)]; exact e93
                          have e101 : n_94 (6 * i6 + 1770) = nI 0 := by rw [en_94, pk_us]
                          refine pm_goto (tgt := 363) hG dX12_quarter_315 rfl ?_
                          refine pm_iincX (v := nI (i6 + 1)) (loc' := [some (.ref (B + 54)), some (.int (nI (i6 + 1))), some (.int (nI (6 * i6 + 1770))), some (.int (x8 + x10)), some (.int (nI 999999))]) hG dX12_quarter_363 rfl (nI_1 _) (by decide) (pm_c1b rfl) rfl ?_
                          refine pm_goto (tgt := 180) hG dX12_quarter_366 rfl ?_
                          refine pm_fg 2 (loc' := [some (.ref (B + 54)), some (.int (nI (i6 + 1))), none, some (.int (x8 + x10)), some (.int (nI 999999))]) rfl ?_
                          refine pm_fg 3 (loc' := [some (.ref (B + 54)), some (.int (nI (i6 + 1))), none, none, some (.int (nI 999999))]) rfl ?_
                          refine pm_fg 4 (loc' := [some (.ref (B + 54)), some (.int (nI (i6 + 1))), none, none, none]) rfl ?_
                          exact ih6 n_94 (i6 + 1) hnn_94 hrn_94 (e95.trans (congrArg nI (by omega))) (e96.trans (congrArg nI (by omega))) (e97.trans (congrArg nI (by omega))) (by omega) (by omega)
                    · refine pm_iloadn hG dX12_quarter_237 rfl ?_
                      refine pm_goto (tgt := 243) hG dX12_quarter_238 rfl ?_
                      refine pm_iastN hG dX12_quarter_243 rfl (by decide) (by omega) ?_
                      refine mdn_now (fun n_102 en_102 => ?_)
                      have hnn_102 := KI.w en_102 hnn_6 (okv_f (show kd (6 * i6 + 1770) = (0, 0, false) from (kd_D (k := i6) (c := 0) (by omega) (by omega) (by decide))))
                      have hrn_102 := NRx.w en_102 hrn_6 (by rw [(show kd (6 * i6 + 1770) = (0, 0, false) from (kd_D (k := i6) (c := 0) (by omega) (by omega) (by decide)))])
                      have e103 : n_102 8 = nI kc8 := by rw [en_102, pk_un (by omega)]; exact kc6_8
                      have e104 : n_102 0 = nI kc0 := by rw [en_102, pk_un (by omega)]; exact kc6_0
                      have e105 : n_102 6 = nI kc6 := by rw [en_102, pk_un (by omega)]; exact kc6_6
                      have e106 : n_102 (6 * i6 + 1771) = x9 := by rw [en_102, pk_un (by omega)]; exact ex9
                      have e107 : n_102 (6 * i6 + 1770) = x8 + x10 := by rw [en_102, pk_us]
                      refine pm_aloadn hG dX12_quarter_244 rfl ?_
                      refine pm_getf hG dX12_quarter_245 (flX12_7 _ rfl) rfl rfl ?_
                      refine pm_iloadn hG dX12_quarter_248 rfl ?_
                      refine pm_ialdN hG dX12_quarter_249 rfl (by decide) (by omega) ?_
                      refine pm_top (v := x8 + x10) e107 ?_
                      refine pm_aloadn hG dX12_quarter_250 rfl ?_
                      refine pm_getf hG dX12_quarter_251 (flX12_7 _ rfl) rfl rfl ?_
                      refine pm_iloadn hG dX12_quarter_254 rfl ?_
                      refine pm_iconst (v := nI 2) hG dX12_quarter_255 (by decide) ?_
                      refine pm_iaddN (c := 6 * i6 + 1772) hG dX12_quarter_256 (by omega) ?_
                      refine pm_ialdN hG dX12_quarter_257 rfl (by decide) (by omega) ?_
                      refine pm_gen (fun x108 ex108 => ?_)
                      refine pm_icmp_ge (tgt := 270) hG dX12_quarter_258 rfl (fun c109 => ?_) (fun c109 => ?_)
                      · refine pm_aloadn hG dX12_quarter_270 rfl ?_
                        refine pm_getf hG dX12_quarter_271 (flX12_7 _ rfl) rfl rfl ?_
                        refine pm_iloadn hG dX12_quarter_274 rfl ?_
                        refine pm_iconst (v := nI 2) hG dX12_quarter_275 (by decide) ?_
                        refine pm_iaddN (c := 6 * i6 + 1772) hG dX12_quarter_276 (by omega) ?_
                        refine pm_ialdN hG dX12_quarter_277 rfl (by decide) (by omega) ?_
                        refine pm_top (v := x108) ex108 ?_
                        refine pm_istoreXi (loc' := [some (.ref (B + 54)), some (.int (nI i6)), some (.int (nI (6 * i6 + 1770))), some (.int (x8 + x10)), some (.int x108)]) hG dX12_quarter_278 (by decide) (pm_c1b rfl) rfl ?_
                        refine pm_aloadn hG dX12_quarter_280 rfl ?_
                        refine pm_getf hG dX12_quarter_281 (flX12_7 _ rfl) rfl rfl ?_
                        refine pm_bipush (v := nI 9) hG dX12_quarter_284 (by decide) ?_
                        refine pm_ialdN hG dX12_quarter_286 rfl (by decide) (by omega) ?_
                        refine pm_gen (fun x110 ex110 => ?_)
                        refine pm_iloadi hG dX12_quarter_287 rfl ?_
                        refine pm_icmp_lt (tgt := 318) hG dX12_quarter_289 rfl (fun c111 => ?_) (fun c111 => ?_)
                        · refine pm_aloadn hG dX12_quarter_318 rfl ?_
                          refine pm_getf hG dX12_quarter_319 (flX12_7 _ rfl) rfl rfl ?_
                          refine pm_iloadn hG dX12_quarter_322 rfl ?_
                          refine pm_iconst (v := nI 3) hG dX12_quarter_323 (by decide) ?_
                          refine pm_iaddN (c := 6 * i6 + 1773) hG dX12_quarter_324 (by omega) ?_
                          refine pm_dup2 hG dX12_quarter_325 rfl rfl ?_
                          refine pm_ialdN hG dX12_quarter_326 rfl (by decide) (by omega) ?_
                          refine pm_gen (fun x112 ex112 => ?_)
                          refine pm_iconst (v := nI 1) hG dX12_quarter_327 (by decide) ?_
                          refine pm_iadd hG dX12_quarter_328 ?_
                          refine pm_iastN hG dX12_quarter_329 rfl (by decide) (by omega) ?_
                          refine mdn_now (fun n_113 en_113 => ?_)
                          have hnn_113 := KI.w en_113 hnn_102 (okv_f (show kd (6 * i6 + 1773) = (0, 0, false) from (kd_D (k := i6) (c := 3) (by omega) (by omega) (by decide))))
                          have hrn_113 := NRx.w en_113 hrn_102 (by rw [(show kd (6 * i6 + 1773) = (0, 0, false) from (kd_D (k := i6) (c := 3) (by omega) (by omega) (by decide)))])
                          have e114 : n_113 8 = nI kc8 := by rw [en_113, pk_un (by omega)]; exact e103
                          have e115 : n_113 0 = nI kc0 := by rw [en_113, pk_un (by omega)]; exact e104
                          have e116 : n_113 6 = nI kc6 := by rw [en_113, pk_un (by omega)]; exact e105
                          have e117 : n_113 (6 * i6 + 1771) = x9 := by rw [en_113, pk_un (by omega)]; exact e106
                          have e118 : n_113 (6 * i6 + 1770) = x8 + x10 := by rw [en_113, pk_un (by omega)]; exact e107
                          have e119 : n_113 (6 * i6 + 1772) = x108 := by rw [en_113, pk_un (by omega)]; exact ex108
                          have e120 : n_113 9 = x110 := by rw [en_113, pk_un (by omega)]; exact ex110
                          have e121 : n_113 (6 * i6 + 1773) = x112 + (nI 1) := by rw [en_113, pk_us]
                          refine pm_aloadn hG dX12_quarter_330 rfl ?_
                          refine pm_getf hG dX12_quarter_331 (flX12_7 _ rfl) rfl rfl ?_
                          refine pm_iloadn hG dX12_quarter_334 rfl ?_
                          refine pm_iconst (v := nI 3) hG dX12_quarter_335 (by decide) ?_
                          refine pm_iaddN (c := 6 * i6 + 1773) hG dX12_quarter_336 (by omega) ?_
                          refine pm_ialdN hG dX12_quarter_337 rfl (by decide) (by omega) ?_
                          refine pm_top (v := x112 + (nI 1)) e121 ?_
                          refine pm_iconst (v := nI 2) hG dX12_quarter_338 (by decide) ?_
                          refine pm_icmp_ne (tgt := 363) hG dX12_quarter_339 rfl (fun c122 => ?_) (fun c122 => ?_)
                          · refine pm_iincX (v := nI (i6 + 1)) (loc' := [some (.ref (B + 54)), some (.int (nI (i6 + 1))), some (.int (nI (6 * i6 + 1770))), some (.int (x8 + x10)), some (.int x108)]) hG dX12_quarter_363 rfl (nI_1 _) (by decide) (pm_c1b rfl) rfl ?_
                            refine pm_goto (tgt := 180) hG dX12_quarter_366 rfl ?_
                            refine pm_fg 2 (loc' := [some (.ref (B + 54)), some (.int (nI (i6 + 1))), none, some (.int (x8 + x10)), some (.int x108)]) rfl ?_
                            refine pm_fg 3 (loc' := [some (.ref (B + 54)), some (.int (nI (i6 + 1))), none, none, some (.int x108)]) rfl ?_
                            refine pm_fg 4 (loc' := [some (.ref (B + 54)), some (.int (nI (i6 + 1))), none, none, none]) rfl ?_
                            exact ih6 n_113 (i6 + 1) hnn_113 hrn_113 (e114.trans (congrArg nI (by omega))) (e115.trans (congrArg nI (by omega))) (e116.trans (congrArg nI (by omega))) (by omega) (by omega)
                          · refine pm_aloadn hG dX12_quarter_342 rfl ?_
                            refine pm_getf hG dX12_quarter_343 (flX12_7 _ rfl) rfl rfl ?_
                            refine pm_bipush (v := nI 20) hG dX12_quarter_346 (by decide) ?_
                            refine pm_iconst (v := nI 3) hG dX12_quarter_348 (by decide) ?_
                            refine pm_aloadn hG dX12_quarter_349 rfl ?_
                            refine pm_getf hG dX12_quarter_350 (flX12_7 _ rfl) rfl rfl ?_
                            refine pm_iloadn hG dX12_quarter_353 rfl ?_
                            refine pm_iconst (v := nI 4) hG dX12_quarter_354 (by decide) ?_
                            refine pm_iaddN (c := 6 * i6 + 1774) hG dX12_quarter_355 (by omega) ?_
                            refine pm_ialdN hG dX12_quarter_356 rfl (by decide) (by omega) ?_
                            obtain ⟨k123, hk123, ek123⟩ := KI.nat hnn_113 (show kd (6 * i6 + 1774) = (1, 10, false) from (kd_D (k := i6) (c := 4) (by omega) (by omega) (by decide)))
                            refine pm_top (v := nI k123) ek123 ?_
                            refine pm_imulN (c := 3 * k123) hG dX12_quarter_357 (by omega) ?_
                            refine pm_iaddN (c := 3 * k123 + 20) hG dX12_quarter_358 (by omega) ?_
                            refine pm_iconst (v := nI 2) hG dX12_quarter_359 (by decide) ?_
                            refine pm_iaddN (c := 3 * k123 + 22) hG dX12_quarter_360 (by omega) ?_
                            refine pm_iconst (v := nI 1) hG dX12_quarter_361 (by decide) ?_
                            refine pm_iastN hG dX12_quarter_362 rfl (by decide) (by omega) ?_
                            refine mdn_now (fun n_124 en_124 => ?_)
                            have hnn_124 := KI.w en_124 hnn_113 (okv_f (show kd (3 * k123 + 22) = (0, 0, false) from (kd_T (k := k123) (c := 2) (by omega) (by omega) (by decide))))
                            have hrn_124 := NRx.w en_124 hrn_113 (by rw [(show kd (3 * k123 + 22) = (0, 0, false) from (kd_T (k := k123) (c := 2) (by omega) (by omega) (by decide)))])
                            have e125 : n_124 8 = nI kc8 := by rw [en_124, pk_un (by omega)]; exact e114
                            have e126 : n_124 0 = nI kc0 := by rw [en_124, pk_un (by omega)]; exact e115
                            have e127 : n_124 6 = nI kc6 := by rw [en_124, pk_un (by omega)]; exact e116
                            have e128 : n_124 (6 * i6 + 1771) = x9 := by rw [en_124, pk_un (by omega)]; exact e117
                            have e129 : n_124 (6 * i6 + 1770) = x8 + x10 := by rw [en_124, pk_un (by omega)]; exact e118
                            have e130 : n_124 (6 * i6 + 1772) = x108 := by rw [en_124, pk_un (by omega)]; exact e119
                            have e131 : n_124 9 = x110 := by rw [en_124, pk_un (by omega)]; exact e120
                            have e132 : n_124 (6 * i6 + 1773) = x112 + (nI 1) := by rw [en_124, pk_un (by omega)]; exact e121
                            have e133 : n_124 (6 * i6 + 1774) = nI k123 := by rw [en_124, pk_un (by omega)]; exact ek123
                            have e134 : n_124 (3 * k123 + 22) = nI 1 := by rw [en_124, pk_us]
                            refine pm_iincX (v := nI (i6 + 1)) (loc' := [some (.ref (B + 54)), some (.int (nI (i6 + 1))), some (.int (nI (6 * i6 + 1770))), some (.int (x8 + x10)), some (.int x108)]) hG dX12_quarter_363 rfl (nI_1 _) (by decide) (pm_c1b rfl) rfl ?_
                            refine pm_goto (tgt := 180) hG dX12_quarter_366 rfl ?_
                            refine pm_fg 2 (loc' := [some (.ref (B + 54)), some (.int (nI (i6 + 1))), none, some (.int (x8 + x10)), some (.int x108)]) rfl ?_
                            refine pm_fg 3 (loc' := [some (.ref (B + 54)), some (.int (nI (i6 + 1))), none, none, some (.int x108)]) rfl ?_
                            refine pm_fg 4 (loc' := [some (.ref (B + 54)), some (.int (nI (i6 + 1))), none, none, none]) rfl ?_
                            exact ih6 n_124 (i6 + 1) hnn_124 hrn_124 (e125.trans (congrArg nI (by omega))) (e126.trans (congrArg nI (by omega))) (e127.trans (congrArg nI (by omega))) (by omega) (by omega)
                        · refine pm_aloadn hG dX12_quarter_292 rfl ?_
                          refine pm_getf hG dX12_quarter_293 (flX12_7 _ rfl) rfl rfl ?_
                          refine pm_bipush (v := nI 9) hG dX12_quarter_296 (by decide) ?_
                          refine pm_dup2 hG dX12_quarter_298 rfl rfl ?_
                          refine pm_ialdN hG dX12_quarter_299 rfl (by decide) (by omega) ?_
                          refine pm_top (v := x110) ex110 ?_
                          refine pm_iloadi hG dX12_quarter_300 rfl ?_
                          refine pm_isub hG dX12_quarter_302 ?_
                          refine pm_iastN hG dX12_quarter_303 rfl (by decide) (by omega) ?_
                          refine mdn_now (fun n_135 en_135 => ?_)
                          have hnn_135 := KI.w en_135 hnn_102 (okv_f (show kd 9 = (0, 0, false) by decide))
                          have hrn_135 := NRx.w en_135 hrn_102 (by rw [(show kd 9 = (0, 0, false) by decide)])
                          have e136 : n_135 8 = nI kc8 := by rw [en_135, pk_un (by omega)]; exact e103
                          have e137 : n_135 0 = nI kc0 := by rw [en_135, pk_un (by omega)]; exact e104
                          have e138 : n_135 6 = nI kc6 := by rw [en_135, pk_un (by omega)]; exact e105
                          have e139 : n_135 (6 * i6 + 1771) = x9 := by rw [en_135, pk_un (by omega)]; exact e106
                          have e140 : n_135 (6 * i6 + 1770) = x8 + x10 := by rw [en_135, pk_un (by omega)]; exact e107
                          have e141 : n_135 (6 * i6 + 1772) = x108 := by rw [en_135, pk_un (by omega)]; exact ex108
                          have e142 : n_135 9 = x110 - x108 := by rw [en_135, pk_us]
                          refine pm_aloadn hG dX12_quarter_304 rfl ?_
                          refine pm_getf hG dX12_quarter_305 (flX12_7 _ rfl) rfl rfl ?_
                          refine pm_iloadn hG dX12_quarter_308 rfl ?_
                          refine pm_dup2 hG dX12_quarter_309 rfl rfl ?_
                          refine pm_ialdN hG dX12_quarter_310 rfl (by decide) (by omega) ?_
                          refine pm_top (v := x8 + x10) e140 ?_
                          refine pm_iloadi hG dX12_quarter_311 rfl ?_
                          refine pm_isub hG dX12_quarter_313 ?_
                          refine pm_iastN hG dX12_quarter_314 rfl (by decide) (by omega) ?_
                          refine mdn_now (fun n_143 en_143 => ?_)
                          have hnn_143 := KI.w en_143 hnn_135 (okv_f (show kd (6 * i6 + 1770) = (0, 0, false) from (kd_D (k := i6) (c := 0) (by omega) (by omega) (by decide))))
                          have hrn_143 := NRx.w en_143 hrn_135 (by rw [(show kd (6 * i6 + 1770) = (0, 0, false) from (kd_D (k := i6) (c := 0) (by omega) (by omega) (by decide)))])
                          have e144 : n_143 8 = nI kc8 := by rw [en_143, pk_un (by omega)]; exact e136
                          have e145 : n_143 0 = nI kc0 := by rw [en_143, pk_un (by omega)]; exact e137
                          have e146 : n_143 6 = nI kc6 := by rw [en_143, pk_un (by omega)]; exact e138
                          have e147 : n_143 (6 * i6 + 1771) = x9 := by rw [en_143, pk_un (by omega)]; exact e139
                          have e148 : n_143 (6 * i6 + 1772) = x108 := by rw [en_143, pk_un (by omega)]; exact e141
                          have e149 : n_143 9 = x110 - x108 := by rw [en_143, pk_un (by omega)]; exact e142
                          have e150 : n_143 (6 * i6 + 1770) = (x8 + x10) - x108 := by rw [en_143, pk_us]
                          refine pm_goto (tgt := 363) hG dX12_quarter_315 rfl ?_
                          refine pm_iincX (v := nI (i6 + 1)) (loc' := [some (.ref (B + 54)), some (.int (nI (i6 + 1))), some (.int (nI (6 * i6 + 1770))), some (.int (x8 + x10)), some (.int x108)]) hG dX12_quarter_363 rfl (nI_1 _) (by decide) (pm_c1b rfl) rfl ?_
                          refine pm_goto (tgt := 180) hG dX12_quarter_366 rfl ?_
                          refine pm_fg 2 (loc' := [some (.ref (B + 54)), some (.int (nI (i6 + 1))), none, some (.int (x8 + x10)), some (.int x108)]) rfl ?_
                          refine pm_fg 3 (loc' := [some (.ref (B + 54)), some (.int (nI (i6 + 1))), none, none, some (.int x108)]) rfl ?_
                          refine pm_fg 4 (loc' := [some (.ref (B + 54)), some (.int (nI (i6 + 1))), none, none, none]) rfl ?_
                          exact ih6 n_143 (i6 + 1) hnn_143 hrn_143 (e144.trans (congrArg nI (by omega))) (e145.trans (congrArg nI (by omega))) (e146.trans (congrArg nI (by omega))) (by omega) (by omega)
                      · refine pm_aloadn hG dX12_quarter_261 rfl ?_
                        refine pm_getf hG dX12_quarter_262 (flX12_7 _ rfl) rfl rfl ?_
                        refine pm_iloadn hG dX12_quarter_265 rfl ?_
                        refine pm_ialdN hG dX12_quarter_266 rfl (by decide) (by omega) ?_
                        refine pm_top (v := x8 + x10) e107 ?_
                        refine pm_goto (tgt := 278) hG dX12_quarter_267 rfl ?_
                        refine pm_istoreXi (loc' := [some (.ref (B + 54)), some (.int (nI i6)), some (.int (nI (6 * i6 + 1770))), some (.int (x8 + x10)), some (.int (x8 + x10))]) hG dX12_quarter_278 (by decide) (pm_c1b rfl) rfl ?_
                        refine pm_aloadn hG dX12_quarter_280 rfl ?_
                        refine pm_getf hG dX12_quarter_281 (flX12_7 _ rfl) rfl rfl ?_
                        refine pm_bipush (v := nI 9) hG dX12_quarter_284 (by decide) ?_
                        refine pm_ialdN hG dX12_quarter_286 rfl (by decide) (by omega) ?_
                        refine pm_gen (fun x151 ex151 => ?_)
                        refine pm_iloadi hG dX12_quarter_287 rfl ?_
                        refine pm_icmp_lt (tgt := 318) hG dX12_quarter_289 rfl (fun c152 => ?_) (fun c152 => ?_)
                        · refine pm_aloadn hG dX12_quarter_318 rfl ?_
                          refine pm_getf hG dX12_quarter_319 (flX12_7 _ rfl) rfl rfl ?_
                          refine pm_iloadn hG dX12_quarter_322 rfl ?_
                          refine pm_iconst (v := nI 3) hG dX12_quarter_323 (by decide) ?_
                          refine pm_iaddN (c := 6 * i6 + 1773) hG dX12_quarter_324 (by omega) ?_
                          refine pm_dup2 hG dX12_quarter_325 rfl rfl ?_
                          refine pm_ialdN hG dX12_quarter_326 rfl (by decide) (by omega) ?_
                          refine pm_gen (fun x153 ex153 => ?_)
                          refine pm_iconst (v := nI 1) hG dX12_quarter_327 (by decide) ?_
                          refine pm_iadd hG dX12_quarter_328 ?_
                          refine pm_iastN hG dX12_quarter_329 rfl (by decide) (by omega) ?_
                          refine mdn_now (fun n_154 en_154 => ?_)
                          have hnn_154 := KI.w en_154 hnn_102 (okv_f (show kd (6 * i6 + 1773) = (0, 0, false) from (kd_D (k := i6) (c := 3) (by omega) (by omega) (by decide))))
                          have hrn_154 := NRx.w en_154 hrn_102 (by rw [(show kd (6 * i6 + 1773) = (0, 0, false) from (kd_D (k := i6) (c := 3) (by omega) (by omega) (by decide)))])
                          have e155 : n_154 8 = nI kc8 := by rw [en_154, pk_un (by omega)]; exact e103
                          have e156 : n_154 0 = nI kc0 := by rw [en_154, pk_un (by omega)]; exact e104
                          have e157 : n_154 6 = nI kc6 := by rw [en_154, pk_un (by omega)]; exact e105
                          have e158 : n_154 (6 * i6 + 1771) = x9 := by rw [en_154, pk_un (by omega)]; exact e106
                          have e159 : n_154 (6 * i6 + 1770) = x8 + x10 := by rw [en_154, pk_un (by omega)]; exact e107
                          have e160 : n_154 (6 * i6 + 1772) = x108 := by rw [en_154, pk_un (by omega)]; exact ex108
                          have e161 : n_154 9 = x151 := by rw [en_154, pk_un (by omega)]; exact ex151
                          have e162 : n_154 (6 * i6 + 1773) = x153 + (nI 1) := by rw [en_154, pk_us]
                          refine pm_aloadn hG dX12_quarter_330 rfl ?_
                          refine pm_getf hG dX12_quarter_331 (flX12_7 _ rfl) rfl rfl ?_
                          refine pm_iloadn hG dX12_quarter_334 rfl ?_
                          refine pm_iconst (v := nI 3) hG dX12_quarter_335 (by decide) ?_
                          refine pm_iaddN (c := 6 * i6 + 1773) hG dX12_quarter_336 (by omega) ?_
                          refine pm_ialdN hG dX12_quarter_337 rfl (by decide) (by omega) ?_
                          refine pm_top (v := x153 + (nI 1)) e162 ?_
                          refine pm_iconst (v := nI 2) hG dX12_quarter_338 (by decide) ?_
                          refine pm_icmp_ne (tgt := 363) hG dX12_quarter_339 rfl (fun c163 => ?_) (fun c163 => ?_)
                          · refine pm_iincX (v := nI (i6 + 1)) (loc' := [some (.ref (B + 54)), some (.int (nI (i6 + 1))), some (.int (nI (6 * i6 + 1770))), some (.int (x8 + x10)), some (.int (x8 + x10))]) hG dX12_quarter_363 rfl (nI_1 _) (by decide) (pm_c1b rfl) rfl ?_
                            refine pm_goto (tgt := 180) hG dX12_quarter_366 rfl ?_
                            refine pm_fg 2 (loc' := [some (.ref (B + 54)), some (.int (nI (i6 + 1))), none, some (.int (x8 + x10)), some (.int (x8 + x10))]) rfl ?_
                            refine pm_fg 3 (loc' := [some (.ref (B + 54)), some (.int (nI (i6 + 1))), none, none, some (.int (x8 + x10))]) rfl ?_
                            refine pm_fg 4 (loc' := [some (.ref (B + 54)), some (.int (nI (i6 + 1))), none, none, none]) rfl ?_
                            exact ih6 n_154 (i6 + 1) hnn_154 hrn_154 (e155.trans (congrArg nI (by omega))) (e156.trans (congrArg nI (by omega))) (e157.trans (congrArg nI (by omega))) (by omega) (by omega)
                          · refine pm_aloadn hG dX12_quarter_342 rfl ?_
                            refine pm_getf hG dX12_quarter_343 (flX12_7 _ rfl) rfl rfl ?_
                            refine pm_bipush (v := nI 20) hG dX12_quarter_346 (by decide) ?_
                            refine pm_iconst (v := nI 3) hG dX12_quarter_348 (by decide) ?_
                            refine pm_aloadn hG dX12_quarter_349 rfl ?_
                            refine pm_getf hG dX12_quarter_350 (flX12_7 _ rfl) rfl rfl ?_
                            refine pm_iloadn hG dX12_quarter_353 rfl ?_
                            refine pm_iconst (v := nI 4) hG dX12_quarter_354 (by decide) ?_
                            refine pm_iaddN (c := 6 * i6 + 1774) hG dX12_quarter_355 (by omega) ?_
                            refine pm_ialdN hG dX12_quarter_356 rfl (by decide) (by omega) ?_
                            obtain ⟨k164, hk164, ek164⟩ := KI.nat hnn_154 (show kd (6 * i6 + 1774) = (1, 10, false) from (kd_D (k := i6) (c := 4) (by omega) (by omega) (by decide)))
                            refine pm_top (v := nI k164) ek164 ?_
                            refine pm_imulN (c := 3 * k164) hG dX12_quarter_357 (by omega) ?_
                            refine pm_iaddN (c := 3 * k164 + 20) hG dX12_quarter_358 (by omega) ?_
                            refine pm_iconst (v := nI 2) hG dX12_quarter_359 (by decide) ?_
                            refine pm_iaddN (c := 3 * k164 + 22) hG dX12_quarter_360 (by omega) ?_
                            refine pm_iconst (v := nI 1) hG dX12_quarter_361 (by decide) ?_
                            refine pm_iastN hG dX12_quarter_362 rfl (by decide) (by omega) ?_
                            refine mdn_now (fun n_165 en_165 => ?_)
                            have hnn_165 := KI.w en_165 hnn_154 (okv_f (show kd (3 * k164 + 22) = (0, 0, false) from (kd_T (k := k164) (c := 2) (by omega) (by omega) (by decide))))
                            have hrn_165 := NRx.w en_165 hrn_154 (by rw [(show kd (3 * k164 + 22) = (0, 0, false) from (kd_T (k := k164) (c := 2) (by omega) (by omega) (by decide)))])
                            have e166 : n_165 8 = nI kc8 := by rw [en_165, pk_un (by omega)]; exact e155
                            have e167 : n_165 0 = nI kc0 := by rw [en_165, pk_un (by omega)]; exact e156
                            have e168 : n_165 6 = nI kc6 := by rw [en_165, pk_un (by omega)]; exact e157
                            have e169 : n_165 (6 * i6 + 1771) = x9 := by rw [en_165, pk_un (by omega)]; exact e158
                            have e170 : n_165 (6 * i6 + 1770) = x8 + x10 := by rw [en_165, pk_un (by omega)]; exact e159
                            have e171 : n_165 (6 * i6 + 1772) = x108 := by rw [en_165, pk_un (by omega)]; exact e160
                            have e172 : n_165 9 = x151 := by rw [en_165, pk_un (by omega)]; exact e161
                            have e173 : n_165 (6 * i6 + 1773) = x153 + (nI 1) := by rw [en_165, pk_un (by omega)]; exact e162
                            have e174 : n_165 (6 * i6 + 1774) = nI k164 := by rw [en_165, pk_un (by omega)]; exact ek164
                            have e175 : n_165 (3 * k164 + 22) = nI 1 := by rw [en_165, pk_us]
                            refine pm_iincX (v := nI (i6 + 1)) (loc' := [some (.ref (B + 54)), some (.int (nI (i6 + 1))), some (.int (nI (6 * i6 + 1770))), some (.int (x8 + x10)), some (.int (x8 + x10))]) hG dX12_quarter_363 rfl (nI_1 _) (by decide) (pm_c1b rfl) rfl ?_
                            refine pm_goto (tgt := 180) hG dX12_quarter_366 rfl ?_
                            refine pm_fg 2 (loc' := [some (.ref (B + 54)), some (.int (nI (i6 + 1))), none, some (.int (x8 + x10)), some (.int (x8 + x10))]) rfl ?_
                            refine pm_fg 3 (loc' := [some (.ref (B + 54)), some (.int (nI (i6 + 1))), none, none, some (.int (x8 + x10))]) rfl ?_
                            refine pm_fg 4 (loc' := [some (.ref (B + 54)), some (.int (nI (i6 + 1))), none, none, none]) rfl ?_
                            exact ih6 n_165 (i6 + 1) hnn_165 hrn_165 (e166.trans (congrArg nI (by omega))) (e167.trans (congrArg nI (by omega))) (e168.trans (congrArg nI (by omega))) (by omega) (by omega)
                        · refine pm_aloadn hG dX12_quarter_292 rfl ?_
                          refine pm_getf hG dX12_quarter_293 (flX12_7 _ rfl) rfl rfl ?_
                          refine pm_bipush (v := nI 9) hG dX12_quarter_296 (by decide) ?_
                          refine pm_dup2 hG dX12_quarter_298 rfl rfl ?_
                          refine pm_ialdN hG dX12_quarter_299 rfl (by decide) (by omega) ?_
                          refine pm_top (v := x151) ex151 ?_
                          refine pm_iloadi hG dX12_quarter_300 rfl ?_
                          refine pm_isub hG dX12_quarter_302 ?_
                          refine pm_iastN hG dX12_quarter_303 rfl (by decide) (by omega) ?_
                          refine mdn_now (fun n_176 en_176 => ?_)
                          have hnn_176 := KI.w en_176 hnn_102 (okv_f (show kd 9 = (0, 0, false) by decide))
                          have hrn_176 := NRx.w en_176 hrn_102 (by rw [(show kd 9 = (0, 0, false) by decide)])
                          have e177 : n_176 8 = nI kc8 := by rw [en_176, pk_un (by omega)]; exact e103
                          have e178 : n_176 0 = nI kc0 := by rw [en_176, pk_un (by omega)]; exact e104
                          have e179 : n_176 6 = nI kc6 := by rw [en_176, pk_un (by omega)]; exact e105
                          have e180 : n_176 (6 * i6 + 1771) = x9 := by rw [en_176, pk_un (by omega)]; exact e106
                          have e181 : n_176 (6 * i6 + 1770) = x8 + x10 := by rw [en_176, pk_un (by omega)]; exact e107
                          have e182 : n_176 (6 * i6 + 1772) = x108 := by rw [en_176, pk_un (by omega)]; exact ex108
                          have e183 : n_176 9 = x151 - (x8 + x10) := by rw [en_176, pk_us]
                          refine pm_aloadn hG dX12_quarter_304 rfl ?_
                          refine pm_getf hG dX12_quarter_305 (flX12_7 _ rfl) rfl rfl ?_
                          refine pm_iloadn hG dX12_quarter_308 rfl ?_
                          refine pm_dup2 hG dX12_quarter_309 rfl rfl ?_
                          refine pm_ialdN hG dX12_quarter_310 rfl (by decide) (by omega) ?_
                          refine pm_top (v := x8 + x10) e181 ?_
                          refine pm_iloadi hG dX12_quarter_311 rfl ?_
                          refine pm_isub hG dX12_quarter_313 ?_
                          refine pm_iastN hG dX12_quarter_314 rfl (by decide) (by omega) ?_
                          refine mdn_now (fun n_184 en_184 => ?_)
                          have hnn_184 := KI.w en_184 hnn_176 (okv_f (show kd (6 * i6 + 1770) = (0, 0, false) from (kd_D (k := i6) (c := 0) (by omega) (by omega) (by decide))))
                          have hrn_184 := NRx.w en_184 hrn_176 (by rw [(show kd (6 * i6 + 1770) = (0, 0, false) from (kd_D (k := i6) (c := 0) (by omega) (by omega) (by decide)))])
                          have e185 : n_184 8 = nI kc8 := by rw [en_184, pk_un (by omega)]; exact e177
                          have e186 : n_184 0 = nI kc0 := by rw [en_184, pk_un (by omega)]; exact e178
                          have e187 : n_184 6 = nI kc6 := by rw [en_184, pk_un (by omega)]; exact e179
                          have e188 : n_184 (6 * i6 + 1771) = x9 := by rw [en_184, pk_un (by omega)]; exact e180
                          have e189 : n_184 (6 * i6 + 1772) = x108 := by rw [en_184, pk_un (by omega)]; exact e182
                          have e190 : n_184 9 = x151 - (x8 + x10) := by rw [en_184, pk_un (by omega)]; exact e183
                          have e191 : n_184 (6 * i6 + 1770) = (x8 + x10) - (x8 + x10) := by rw [en_184, pk_us]
                          refine pm_goto (tgt := 363) hG dX12_quarter_315 rfl ?_
                          refine pm_iincX (v := nI (i6 + 1)) (loc' := [some (.ref (B + 54)), some (.int (nI (i6 + 1))), some (.int (nI (6 * i6 + 1770))), some (.int (x8 + x10)), some (.int (x8 + x10))]) hG dX12_quarter_363 rfl (nI_1 _) (by decide) (pm_c1b rfl) rfl ?_
                          refine pm_goto (tgt := 180) hG dX12_quarter_366 rfl ?_
                          refine pm_fg 2 (loc' := [some (.ref (B + 54)), some (.int (nI (i6 + 1))), none, some (.int (x8 + x10)), some (.int (x8 + x10))]) rfl ?_
                          refine pm_fg 3 (loc' := [some (.ref (B + 54)), some (.int (nI (i6 + 1))), none, none, some (.int (x8 + x10))]) rfl ?_
                          refine pm_fg 4 (loc' := [some (.ref (B + 54)), some (.int (nI (i6 + 1))), none, none, none]) rfl ?_
                          exact ih6 n_184 (i6 + 1) hnn_184 hrn_184 (e185.trans (congrArg nI (by omega))) (e186.trans (congrArg nI (by omega))) (e187.trans (congrArg nI (by omega))) (by omega) (by omega)
              exact loop180_6 _ n_3 0 hnn_3 hrn_3 (kc3_8.trans (congrArg nI (by omega))) (kc3_0.trans (congrArg nI (by omega))) (kc3_6.trans (congrArg nI (by omega))) (by omega) (Nat.lt_succ_self _)
            · refine pm_aloadn hG dX12_quarter_113 rfl ?_
              refine pm_iloadn hG dX12_quarter_114 rfl ?_
              refine pm_bipush (v := nI 7) hG dX12_quarter_115 (by decide) ?_
              refine pm_callV (As := [.int (nI i3), .int (nI 7)]) (rest := []) hG hR dX12_quarter_117 (lkX12_72 _ rfl) okV_X12_man rfl rfl (m_man (d := 1) (e := 14 * i3 + 117) (by omega) (by omega) (by omega)) rfl rfl hdd (Nat.le_refl _) (Nat.le_refl _) (by decide) (pm_ki (fun v192 σ' cnt' hq => ?_))
              obtain ⟨rfl, rfl, rfl⟩ := hq
              refine pm_gen (fun x193 ex193 => ?_)
              refine pm_aloadn hG dX12_quarter_120 rfl ?_
              refine pm_iloadn hG dX12_quarter_121 rfl ?_
              refine pm_bipush (v := nI 8) hG dX12_quarter_122 (by decide) ?_
              refine pm_callV (As := [.int (nI i3), .int (nI 8)]) (rest := [.int x193]) hG hR dX12_quarter_124 (lkX12_72 _ rfl) okV_X12_man rfl rfl (m_man (d := 1) (e := 14 * i3 + 118) (by omega) (by omega) (by omega)) rfl rfl hdd (Nat.le_refl _) (Nat.le_refl _) (Nat.le_of_ble_eq_true rfl) (pm_ki (fun v194 σ' cnt' hq => ?_))
              obtain ⟨rfl, rfl, rfl⟩ := hq
              refine pm_gen (fun x195 ex195 => ?_)
              refine pm_icmp_ge (tgt := 140) hG dX12_quarter_127 rfl (fun c196 => ?_) (fun c196 => ?_)
              · refine pm_aloadn hG dX12_quarter_140 rfl ?_
                refine pm_iloadn hG dX12_quarter_141 rfl ?_
                refine pm_bipush (v := nI 8) hG dX12_quarter_142 (by decide) ?_
                refine pm_callV (As := [.int (nI i3), .int (nI 8)]) (rest := []) hG hR dX12_quarter_144 (lkX12_72 _ rfl) okV_X12_man rfl rfl (m_man (d := 1) (e := 14 * i3 + 118) (by omega) (by omega) (by omega)) rfl rfl hdd (Nat.le_refl _) (Nat.le_refl _) (by decide) (pm_ki (fun v197 σ' cnt' hq => ?_))
                obtain ⟨rfl, rfl, rfl⟩ := hq
                refine pm_top (v := x195) ex195 ?_
                refine pm_istoreXn (loc' := [some (.ref (B + 54)), some (.int (nI i3)), some (.int x195), none, none]) hG dX12_quarter_147 (by decide) (pm_c1b rfl) rfl ?_
                refine pm_aloadn hG dX12_quarter_148 rfl ?_
                refine pm_iloadn hG dX12_quarter_149 rfl ?_
                refine pm_bipush (v := nI 7) hG dX12_quarter_150 (by decide) ?_
                refine pm_aloadn hG dX12_quarter_152 rfl ?_
                refine pm_iloadn hG dX12_quarter_153 rfl ?_
                refine pm_bipush (v := nI 7) hG dX12_quarter_154 (by decide) ?_
                refine pm_callV (As := [.int (nI i3), .int (nI 7)]) (rest := [.int (nI 7), .int (nI i3), .ref (B + 54)]) hG hR dX12_quarter_156 (lkX12_72 _ rfl) okV_X12_man rfl rfl (m_man (d := 1) (e := 14 * i3 + 117) (by omega) (by omega) (by omega)) rfl rfl hdd (Nat.le_refl _) (Nat.le_refl _) (Nat.le_of_ble_eq_true rfl) (pm_ki (fun v198 σ' cnt' hq => ?_))
                obtain ⟨rfl, rfl, rfl⟩ := hq
                refine pm_top (v := x193) ex193 ?_
                refine pm_iloadn hG dX12_quarter_159 rfl ?_
                refine pm_isub hG dX12_quarter_160 ?_
                refine pm_callV (As := [.int (nI i3), .int (nI 7), .int (x193 - x195)]) (rest := []) hG hR dX12_quarter_161 (lkX12_97 _ rfl) okV_X12_sets rfl rfl (m_sets (d := 1) (e := 14 * i3 + 117) (by omega) (by omega) (by omega)) rfl rfl hdd (Nat.le_refl _) (Nat.le_refl _) (by decide) (pm_kv (fun σ' cnt' hq => ?_))
                obtain ⟨rfl, rfl⟩ := hq
                obtain ⟨n_199, en_199⟩ : ∃ f : Nat → Int32, f = upd n_3 (14 * i3 + 117) (x193 - x195) := ⟨_, rfl⟩
                rw [← en_199]
                have hnn_199 := KI.w en_199 hnn_3 (okv_f (show kd (14 * i3 + 117) = (0, 0, false) from (kd_P (k := i3) (c := 7) (by omega) (by omega) (by decide))))
                have hrn_199 := NRx.w en_199 hrn_3 (by rw [(show kd (14 * i3 + 117) = (0, 0, false) from (kd_P (k := i3) (c := 7) (by omega) (by omega) (by decide)))])
                have e200 : n_199 8 = nI kc8 := by rw [en_199, pk_un (by omega)]; exact kc3_8
                have e201 : n_199 0 = nI kc0 := by rw [en_199, pk_un (by omega)]; exact kc3_0
                have e202 : n_199 6 = nI kc6 := by rw [en_199, pk_un (by omega)]; exact kc3_6
                have e203 : n_199 2 = nI k4 := by rw [en_199, pk_un (by omega)]; exact ek4
                have e204 : n_199 (14 * i3 + 118) = x195 := by rw [en_199, pk_un (by omega)]; exact ex195
                have e205 : n_199 (14 * i3 + 117) = x193 - x195 := by rw [en_199, pk_us]
                refine pm_aloadn hG dX12_quarter_164 rfl ?_
                refine pm_iloadn hG dX12_quarter_165 rfl ?_
                refine pm_bipush (v := nI 8) hG dX12_quarter_166 (by decide) ?_
                refine pm_iloadn hG dX12_quarter_168 rfl ?_
                refine pm_callV (As := [.int (nI i3), .int (nI 8), .int x195]) (rest := []) hG hR dX12_quarter_169 (lkX12_97 _ rfl) okV_X12_sets rfl rfl (m_sets (d := 1) (e := 14 * i3 + 118) (by omega) (by omega) (by omega)) rfl rfl hdd (Nat.le_refl _) (Nat.le_refl _) (by decide) (pm_kv (fun σ' cnt' hq => ?_))
                obtain ⟨rfl, rfl⟩ := hq
                obtain ⟨n_206, en_206⟩ : ∃ f : Nat → Int32, f = upd n_199 (14 * i3 + 118) x195 := ⟨_, rfl⟩
                rw [← en_206]
                have hnn_206 := KI.w en_206 hnn_199 (okv_f (show kd (14 * i3 + 118) = (0, 0, false) from (kd_P (k := i3) (c := 8) (by omega) (by omega) (by decide))))
                have hrn_206 := NRx.w en_206 hrn_199 (by rw [(show kd (14 * i3 + 118) = (0, 0, false) from (kd_P (k := i3) (c := 8) (by omega) (by omega) (by decide)))])
                have e207 : n_206 8 = nI kc8 := by rw [en_206, pk_un (by omega)]; exact e200
                have e208 : n_206 0 = nI kc0 := by rw [en_206, pk_un (by omega)]; exact e201
                have e209 : n_206 6 = nI kc6 := by rw [en_206, pk_un (by omega)]; exact e202
                have e210 : n_206 2 = nI k4 := by rw [en_206, pk_un (by omega)]; exact e203
                have e211 : n_206 (14 * i3 + 117) = x193 - x195 := by rw [en_206, pk_un (by omega)]; exact e205
                have e212 : n_206 (14 * i3 + 118) = x195 := by rw [en_206, pk_us]
                refine pm_iincX (v := nI (i3 + 1)) (loc' := [some (.ref (B + 54)), some (.int (nI (i3 + 1))), some (.int x195), none, none]) hG dX12_quarter_172 rfl (nI_1 _) (by decide) (pm_c1b rfl) rfl ?_
                refine pm_goto (tgt := 103) hG dX12_quarter_175 rfl ?_
                refine pm_fg 2 (loc' := [some (.ref (B + 54)), some (.int (nI (i3 + 1))), none, none, none]) rfl ?_
                exact ih3 n_206 (i3 + 1) hnn_206 hrn_206 (e207.trans (congrArg nI (by omega))) (e208.trans (congrArg nI (by omega))) (e209.trans (congrArg nI (by omega))) (by omega) (by omega)
              · refine pm_aloadn hG dX12_quarter_130 rfl ?_
                refine pm_iloadn hG dX12_quarter_131 rfl ?_
                refine pm_bipush (v := nI 7) hG dX12_quarter_132 (by decide) ?_
                refine pm_callV (As := [.int (nI i3), .int (nI 7)]) (rest := []) hG hR dX12_quarter_134 (lkX12_72 _ rfl) okV_X12_man rfl rfl (m_man (d := 1) (e := 14 * i3 + 117) (by omega) (by omega) (by omega)) rfl rfl hdd (Nat.le_refl _) (Nat.le_refl _) (by decide) (pm_ki (fun v213 σ' cnt' hq => ?_))
                obtain ⟨rfl, rfl, rfl⟩ := hq
                refine pm_top (v := x193) ex193 ?_
                refine pm_goto (tgt := 147) hG dX12_quarter_137 rfl ?_
                refine pm_istoreXn (loc' := [some (.ref (B + 54)), some (.int (nI i3)), some (.int x193), none, none]) hG dX12_quarter_147 (by decide) (pm_c1b rfl) rfl ?_
                refine pm_aloadn hG dX12_quarter_148 rfl ?_
                refine pm_iloadn hG dX12_quarter_149 rfl ?_
                refine pm_bipush (v := nI 7) hG dX12_quarter_150 (by decide) ?_
                refine pm_aloadn hG dX12_quarter_152 rfl ?_
                refine pm_iloadn hG dX12_quarter_153 rfl ?_
                refine pm_bipush (v := nI 7) hG dX12_quarter_154 (by decide) ?_
                refine pm_callV (As := [.int (nI i3), .int (nI 7)]) (rest := [.int (nI 7), .int (nI i3), .ref (B + 54)]) hG hR dX12_quarter_156 (lkX12_72 _ rfl) okV_X12_man rfl rfl (m_man (d := 1) (e := 14 * i3 + 117) (by omega) (by omega) (by omega)) rfl rfl hdd (Nat.le_refl _) (Nat.le_refl _) (Nat.le_of_ble_eq_true rfl) (pm_ki (fun v214 σ' cnt' hq => ?_))
                obtain ⟨rfl, rfl, rfl⟩ := hq
                refine pm_top (v := x193) ex193 ?_
                refine pm_iloadn hG dX12_quarter_159 rfl ?_
                refine pm_isub hG dX12_quarter_160 ?_
                refine pm_callV (As := [.int (nI i3), .int (nI 7), .int (x193 - x193)]) (rest := []) hG hR dX12_quarter_161 (lkX12_97 _ rfl) okV_X12_sets rfl rfl (m_sets (d := 1) (e := 14 * i3 + 117) (by omega) (by omega) (by omega)) rfl rfl hdd (Nat.le_refl _) (Nat.le_refl _) (by decide) (pm_kv (fun σ' cnt' hq => ?_))
                obtain ⟨rfl, rfl⟩ := hq
                obtain ⟨n_215, en_215⟩ : ∃ f : Nat → Int32, f = upd n_3 (14 * i3 + 117) (x193 - x193) := ⟨_, rfl⟩
                rw [← en_215]
                have hnn_215 := KI.w en_215 hnn_3 (okv_f (show kd (14 * i3 + 117) = (0, 0, false) from (kd_P (k := i3) (c := 7) (by omega) (by omega) (by decide))))
                have hrn_215 := NRx.w en_215 hrn_3 (by rw [(show kd (14 * i3 + 117) = (0, 0, false) from (kd_P (k := i3) (c := 7) (by omega) (by omega) (by decide)))])
                have e216 : n_215 8 = nI kc8 := by rw [en_215, pk_un (by omega)]; exact kc3_8
                have e217 : n_215 0 = nI kc0 := by rw [en_215, pk_un (by omega)]; exact kc3_0
                have e218 : n_215 6 = nI kc6 := by rw [en_215, pk_un (by omega)]; exact kc3_6
                have e219 : n_215 2 = nI k4 := by rw [en_215, pk_un (by omega)]; exact ek4
                have e220 : n_215 (14 * i3 + 118) = x195 := by rw [en_215, pk_un (by omega)]; exact ex195
                have e221 : n_215 (14 * i3 + 117) = x193 - x193 := by rw [en_215, pk_us]
                refine pm_aloadn hG dX12_quarter_164 rfl ?_
                refine pm_iloadn hG dX12_quarter_165 rfl ?_
                refine pm_bipush (v := nI 8) hG dX12_quarter_166 (by decide) ?_
                refine pm_iloadn hG dX12_quarter_168 rfl ?_
                refine pm_callV (As := [.int (nI i3), .int (nI 8), .int x193]) (rest := []) hG hR dX12_quarter_169 (lkX12_97 _ rfl) okV_X12_sets rfl rfl (m_sets (d := 1) (e := 14 * i3 + 118) (by omega) (by omega) (by omega)) rfl rfl hdd (Nat.le_refl _) (Nat.le_refl _) (by decide) (pm_kv (fun σ' cnt' hq => ?_))
                obtain ⟨rfl, rfl⟩ := hq
                obtain ⟨n_222, en_222⟩ : ∃ f : Nat → Int32, f = upd n_215 (14 * i3 + 118) x193 := ⟨_, rfl⟩
                rw [← en_222]
                have hnn_222 := KI.w en_222 hnn_215 (okv_f (show kd (14 * i3 + 118) = (0, 0, false) from (kd_P (k := i3) (c := 8) (by omega) (by omega) (by decide))))
                have hrn_222 := NRx.w en_222 hrn_215 (by rw [(show kd (14 * i3 + 118) = (0, 0, false) from (kd_P (k := i3) (c := 8) (by omega) (by omega) (by decide)))])
                have e223 : n_222 8 = nI kc8 := by rw [en_222, pk_un (by omega)]; exact e216
                have e224 : n_222 0 = nI kc0 := by rw [en_222, pk_un (by omega)]; exact e217
                have e225 : n_222 6 = nI kc6 := by rw [en_222, pk_un (by omega)]; exact e218
                have e226 : n_222 2 = nI k4 := by rw [en_222, pk_un (by omega)]; exact e219
                have e227 : n_222 (14 * i3 + 117) = x193 - x193 := by rw [en_222, pk_un (by omega)]; exact e221
                have e228 : n_222 (14 * i3 + 118) = x193 := by rw [en_222, pk_us]
                refine pm_iincX (v := nI (i3 + 1)) (loc' := [some (.ref (B + 54)), some (.int (nI (i3 + 1))), some (.int x193), none, none]) hG dX12_quarter_172 rfl (nI_1 _) (by decide) (pm_c1b rfl) rfl ?_
                refine pm_goto (tgt := 103) hG dX12_quarter_175 rfl ?_
                refine pm_fg 2 (loc' := [some (.ref (B + 54)), some (.int (nI (i3 + 1))), none, none, none]) rfl ?_
                exact ih3 n_222 (i3 + 1) hnn_222 hrn_222 (e223.trans (congrArg nI (by omega))) (e224.trans (congrArg nI (by omega))) (e225.trans (congrArg nI (by omega))) (by omega) (by omega)
        exact loop103_3 _ n_1 0 hnn_1 hrn_1 (kc1_8.trans (congrArg nI (by omega))) (kc1_0.trans (congrArg nI (by omega))) (kc1_6.trans (congrArg nI (by omega))) (by omega) (Nat.lt_succ_self _)
      · refine pm_bipush (v := nI 20) hG dX12_quarter_12 (by decide) ?_
        refine pm_iconst (v := nI 3) hG dX12_quarter_14 (by decide) ?_
        refine pm_iloadn hG dX12_quarter_15 rfl ?_
        refine pm_imulN (c := 3 * i1) hG dX12_quarter_16 (by omega) ?_
        refine pm_iaddN (c := 3 * i1 + 20) hG dX12_quarter_17 (by omega) ?_
        refine pm_istoreXn (loc' := [some (.ref (B + 54)), some (.int (nI i1)), some (.int (nI (3 * i1 + 20))), none, none]) hG dX12_quarter_18 (by decide) (pm_c1b rfl) rfl ?_
        refine pm_aloadn hG dX12_quarter_19 rfl ?_
        refine pm_getf hG dX12_quarter_20 (flX12_7 _ rfl) rfl rfl ?_
        refine pm_iloadn hG dX12_quarter_23 rfl ?_
        refine pm_iconst (v := nI 1) hG dX12_quarter_24 (by decide) ?_
        refine pm_iaddN (c := 3 * i1 + 21) hG dX12_quarter_25 (by omega) ?_
        refine pm_ialdN hG dX12_quarter_26 rfl (by decide) (by omega) ?_
        rcases KI.opt hnn_1 (show kd (3 * i1 + 21) = (2, 20, false) from (kd_T (k := i1) (c := 1) (by omega) (by omega) (by decide))) with ek229 | ⟨k229, hk229, ek229⟩
        · refine pm_top (v := (-1)) ek229 ?_
          refine pm_istoreXn (loc' := [some (.ref (B + 54)), some (.int (nI i1)), some (.int (nI (3 * i1 + 20))), some (.int (-1)), none]) hG dX12_quarter_27 (by decide) (pm_c1b rfl) rfl ?_
          refine pm_aloadn hG dX12_quarter_28 rfl ?_
          refine pm_getf hG dX12_quarter_29 (flX12_7 _ rfl) rfl rfl ?_
          refine pm_iloadn hG dX12_quarter_32 rfl ?_
          refine pm_iconst (v := nI 2) hG dX12_quarter_33 (by decide) ?_
          refine pm_iaddN (c := 3 * i1 + 22) hG dX12_quarter_34 (by omega) ?_
          refine pm_ialdN hG dX12_quarter_35 rfl (by decide) (by omega) ?_
          refine pm_gen (fun x230 ex230 => ?_)
          refine pm_iconst (v := nI 1) hG dX12_quarter_36 (by decide) ?_
          refine pm_icmp_ne (tgt := 43) hG dX12_quarter_37 rfl (fun c231 => ?_) (fun c231 => ?_)
          · refine pm_iloadn hG dX12_quarter_43 rfl ?_
            refine pm_if_lt (tgt := 79) hG dX12_quarter_44 rfl (fun _ => ?_) (fun q => absurd q (by decide))
            refine pm_aloadn hG dX12_quarter_79 rfl ?_
            refine pm_getf hG dX12_quarter_80 (flX12_7 _ rfl) rfl rfl ?_
            refine pm_bipush (v := nI 9) hG dX12_quarter_83 (by decide) ?_
            refine pm_dup2 hG dX12_quarter_85 rfl rfl ?_
            refine pm_ialdN hG dX12_quarter_86 rfl (by decide) (by omega) ?_
            refine pm_gen (fun x232 ex232 => ?_)
            refine pm_aloadn hG dX12_quarter_87 rfl ?_
            refine pm_getf hG dX12_quarter_88 (flX12_7 _ rfl) rfl rfl ?_
            refine pm_iloadn hG dX12_quarter_91 rfl ?_
            refine pm_ialdN hG dX12_quarter_92 rfl (by decide) (by omega) ?_
            refine pm_gen (fun x233 ex233 => ?_)
            refine pm_iadd hG dX12_quarter_93 ?_
            refine pm_iastN hG dX12_quarter_94 rfl (by decide) (by omega) ?_
            refine mdn_now (fun n_234 en_234 => ?_)
            have hnn_234 := KI.w en_234 hnn_1 (okv_f (show kd 9 = (0, 0, false) by decide))
            have hrn_234 := NRx.w en_234 hrn_1 (by rw [(show kd 9 = (0, 0, false) by decide)])
            have e235 : n_234 8 = nI kc8 := by rw [en_234, pk_un (by omega)]; exact kc1_8
            have e236 : n_234 0 = nI kc0 := by rw [en_234, pk_un (by omega)]; exact kc1_0
            have e237 : n_234 6 = nI kc6 := by rw [en_234, pk_un (by omega)]; exact kc1_6
            have e238 : n_234 (3 * i1 + 21) = (-1) := by rw [en_234, pk_un (by omega)]; exact ek229
            have e239 : n_234 (3 * i1 + 22) = x230 := by rw [en_234, pk_un (by omega)]; exact ex230
            have e240 : n_234 (3 * i1 + 20) = x233 := by rw [en_234, pk_un (by omega)]; exact ex233
            have e241 : n_234 9 = x232 + x233 := by rw [en_234, pk_us]
            refine pm_iincX (v := nI (i1 + 1)) (loc' := [some (.ref (B + 54)), some (.int (nI (i1 + 1))), some (.int (nI (3 * i1 + 20))), some (.int (-1)), none]) hG dX12_quarter_95 rfl (nI_1 _) (by decide) (pm_c1b rfl) rfl ?_
            refine pm_goto (tgt := 2) hG dX12_quarter_98 rfl ?_
            refine pm_fg 2 (loc' := [some (.ref (B + 54)), some (.int (nI (i1 + 1))), none, some (.int (-1)), none]) rfl ?_
            refine pm_fg 3 (loc' := [some (.ref (B + 54)), some (.int (nI (i1 + 1))), none, none, none]) rfl ?_
            exact ih1 n_234 (i1 + 1) hnn_234 hrn_234 (e235.trans (congrArg nI (by omega))) (e236.trans (congrArg nI (by omega))) (e237.trans (congrArg nI (by omega))) (by omega) (by omega)
          · refine pm_goto (tgt := 95) hG dX12_quarter_40 rfl ?_
            refine pm_iincX (v := nI (i1 + 1)) (loc' := [some (.ref (B + 54)), some (.int (nI (i1 + 1))), some (.int (nI (3 * i1 + 20))), some (.int (-1)), none]) hG dX12_quarter_95 rfl (nI_1 _) (by decide) (pm_c1b rfl) rfl ?_
            refine pm_goto (tgt := 2) hG dX12_quarter_98 rfl ?_
            refine pm_fg 2 (loc' := [some (.ref (B + 54)), some (.int (nI (i1 + 1))), none, some (.int (-1)), none]) rfl ?_
            refine pm_fg 3 (loc' := [some (.ref (B + 54)), some (.int (nI (i1 + 1))), none, none, none]) rfl ?_
            exact ih1 n_1 (i1 + 1) hnn_1 hrn_1 (kc1_8.trans (congrArg nI (by omega))) (kc1_0.trans (congrArg nI (by omega))) (kc1_6.trans (congrArg nI (by omega))) (by omega) (by omega)
        · refine pm_top (v := nI k229) ek229 ?_
          refine pm_istoreXn (loc' := [some (.ref (B + 54)), some (.int (nI i1)), some (.int (nI (3 * i1 + 20))), some (.int (nI k229)), none]) hG dX12_quarter_27 (by decide) (pm_c1b rfl) rfl ?_
          refine pm_aloadn hG dX12_quarter_28 rfl ?_
          refine pm_getf hG dX12_quarter_29 (flX12_7 _ rfl) rfl rfl ?_
          refine pm_iloadn hG dX12_quarter_32 rfl ?_
          refine pm_iconst (v := nI 2) hG dX12_quarter_33 (by decide) ?_
          refine pm_iaddN (c := 3 * i1 + 22) hG dX12_quarter_34 (by omega) ?_
          refine pm_ialdN hG dX12_quarter_35 rfl (by decide) (by omega) ?_
          refine pm_gen (fun x242 ex242 => ?_)
          refine pm_iconst (v := nI 1) hG dX12_quarter_36 (by decide) ?_
          refine pm_icmp_ne (tgt := 43) hG dX12_quarter_37 rfl (fun c243 => ?_) (fun c243 => ?_)
          · refine pm_iloadn hG dX12_quarter_43 rfl ?_
            refine pm_ifN_lt hG dX12_quarter_44 rfl (by omega) ?_
            refine pm_aloadn hG dX12_quarter_47 rfl ?_
            refine pm_iloadn hG dX12_quarter_48 rfl ?_
            rcases KI.opt hnn_1 (show kd (14 * k229 + 119) = (2, 2001, false) from (kd_P (k := k229) (c := 9) (by omega) (by omega) (by decide))) with ek244 | ⟨k244, hk244, ek244⟩
            · refine pm_callV (As := [.int (nI k229)]) (rest := []) hG hR dX12_quarter_49 (lkX12_101 _ rfl) okV_X12_lives rfl rfl (m_lives1 (d := 1) (by decide) (by omega) (by omega : 14 * k229 + 119 = 14 * k229 + 119) ek244) rfl rfl hdd (Nat.le_refl _) (Nat.le_refl _) (by decide) (pm_ki (fun v245 σ' cnt' hq => ?_))
              obtain ⟨rfl, rfl, rfl⟩ := hq
              refine pm_ifN_eq (tgt := 79) hG dX12_quarter_52 rfl (by omega) (fun q => absurd q (by omega)) (fun _ => ?_)
              refine pm_aloadn hG dX12_quarter_55 rfl ?_
              refine pm_iloadn hG dX12_quarter_56 rfl ?_
              refine pm_bipush (v := nI 7) hG dX12_quarter_57 (by decide) ?_
              refine pm_aloadn hG dX12_quarter_59 rfl ?_
              refine pm_iloadn hG dX12_quarter_60 rfl ?_
              refine pm_bipush (v := nI 7) hG dX12_quarter_61 (by decide) ?_
              refine pm_callV (As := [.int (nI k229), .int (nI 7)]) (rest := [.int (nI 7), .int (nI k229), .ref (B + 54)]) hG hR dX12_quarter_63 (lkX12_72 _ rfl) okV_X12_man rfl rfl (m_man (d := 1) (e := 14 * k229 + 117) (by omega) (by omega) (by omega)) rfl rfl hdd (Nat.le_refl _) (Nat.le_refl _) (Nat.le_of_ble_eq_true rfl) (pm_ki (fun v246 σ' cnt' hq => ?_))
              obtain ⟨rfl, rfl, rfl⟩ := hq
              refine pm_gen (fun x247 ex247 => ?_)
              refine pm_aloadn hG dX12_quarter_66 rfl ?_
              refine pm_getf hG dX12_quarter_67 (flX12_7 _ rfl) rfl rfl ?_
              refine pm_iloadn hG dX12_quarter_70 rfl ?_
              refine pm_ialdN hG dX12_quarter_71 rfl (by decide) (by omega) ?_
              refine pm_gen (fun x248 ex248 => ?_)
              refine pm_iadd hG dX12_quarter_72 ?_
              refine pm_callV (As := [.int (nI k229), .int (nI 7), .int (x247 + x248)]) (rest := []) hG hR dX12_quarter_73 (lkX12_97 _ rfl) okV_X12_sets rfl rfl (m_sets (d := 1) (e := 14 * k229 + 117) (by omega) (by omega) (by omega)) rfl rfl hdd (Nat.le_refl _) (Nat.le_refl _) (by decide) (pm_kv (fun σ' cnt' hq => ?_))
              obtain ⟨rfl, rfl⟩ := hq
              obtain ⟨n_249, en_249⟩ : ∃ f : Nat → Int32, f = upd n_1 (14 * k229 + 117) (x247 + x248) := ⟨_, rfl⟩
              rw [← en_249]
              have hnn_249 := KI.w en_249 hnn_1 (okv_f (show kd (14 * k229 + 117) = (0, 0, false) from (kd_P (k := k229) (c := 7) (by omega) (by omega) (by decide))))
              have hrn_249 := NRx.w en_249 hrn_1 (by rw [(show kd (14 * k229 + 117) = (0, 0, false) from (kd_P (k := k229) (c := 7) (by omega) (by omega) (by decide)))])
              have e250 : n_249 8 = nI kc8 := by rw [en_249, pk_un (by omega)]; exact kc1_8
              have e251 : n_249 0 = nI kc0 := by rw [en_249, pk_un (by omega)]; exact kc1_0
              have e252 : n_249 6 = nI kc6 := by rw [en_249, pk_un (by omega)]; exact kc1_6
              have e253 : n_249 (3 * i1 + 21) = nI k229 := by rw [en_249, pk_un (by omega)]; exact ek229
              have e254 : n_249 (3 * i1 + 22) = x242 := by rw [en_249, pk_un (by omega)]; exact ex242
              have e255 : n_249 (14 * k229 + 119) = (-1) := by rw [en_249, pk_un (by omega)]; exact ek244
              have e256 : n_249 (3 * i1 + 20) = x248 := by rw [en_249, pk_un (by omega)]; exact ex248
              have e257 : n_249 (14 * k229 + 117) = x247 + x248 := by rw [en_249, pk_us]
              refine pm_goto (tgt := 95) hG dX12_quarter_76 rfl ?_
              refine pm_iincX (v := nI (i1 + 1)) (loc' := [some (.ref (B + 54)), some (.int (nI (i1 + 1))), some (.int (nI (3 * i1 + 20))), some (.int (nI k229)), none]) hG dX12_quarter_95 rfl (nI_1 _) (by decide) (pm_c1b rfl) rfl ?_
              refine pm_goto (tgt := 2) hG dX12_quarter_98 rfl ?_
              refine pm_fg 2 (loc' := [some (.ref (B + 54)), some (.int (nI (i1 + 1))), none, some (.int (nI k229)), none]) rfl ?_
              refine pm_fg 3 (loc' := [some (.ref (B + 54)), some (.int (nI (i1 + 1))), none, none, none]) rfl ?_
              exact ih1 n_249 (i1 + 1) hnn_249 hrn_249 (e250.trans (congrArg nI (by omega))) (e251.trans (congrArg nI (by omega))) (e252.trans (congrArg nI (by omega))) (by omega) (by omega)
            · refine pm_callV (As := [.int (nI k229)]) (rest := []) hG hR dX12_quarter_49 (lkX12_101 _ rfl) okV_X12_lives rfl rfl (m_lives0 (d := 1) (by decide) (by omega) (by omega : 14 * k229 + 119 = 14 * k229 + 119) ek244 (by omega)) rfl rfl hdd (Nat.le_refl _) (Nat.le_refl _) (by decide) (pm_ki (fun v258 σ' cnt' hq => ?_))
              obtain ⟨rfl, rfl, rfl⟩ := hq
              refine pm_ifN_eq (tgt := 79) hG dX12_quarter_52 rfl (by omega) (fun _ => ?_) (fun q => absurd q (by omega))
              refine pm_aloadn hG dX12_quarter_79 rfl ?_
              refine pm_getf hG dX12_quarter_80 (flX12_7 _ rfl) rfl rfl ?_
              refine pm_bipush (v := nI 9) hG dX12_quarter_83 (by decide) ?_
              refine pm_dup2 hG dX12_quarter_85 rfl rfl ?_
              refine pm_ialdN hG dX12_quarter_86 rfl (by decide) (by omega) ?_
              refine pm_gen (fun x259 ex259 => ?_)
              refine pm_aloadn hG dX12_quarter_87 rfl ?_
              refine pm_getf hG dX12_quarter_88 (flX12_7 _ rfl) rfl rfl ?_
              refine pm_iloadn hG dX12_quarter_91 rfl ?_
              refine pm_ialdN hG dX12_quarter_92 rfl (by decide) (by omega) ?_
              refine pm_gen (fun x260 ex260 => ?_)
              refine pm_iadd hG dX12_quarter_93 ?_
              refine pm_iastN hG dX12_quarter_94 rfl (by decide) (by omega) ?_
              refine mdn_now (fun n_261 en_261 => ?_)
              have hnn_261 := KI.w en_261 hnn_1 (okv_f (show kd 9 = (0, 0, false) by decide))
              have hrn_261 := NRx.w en_261 hrn_1 (by rw [(show kd 9 = (0, 0, false) by decide)])
              have e262 : n_261 8 = nI kc8 := by rw [en_261, pk_un (by omega)]; exact kc1_8
              have e263 : n_261 0 = nI kc0 := by rw [en_261, pk_un (by omega)]; exact kc1_0
              have e264 : n_261 6 = nI kc6 := by rw [en_261, pk_un (by omega)]; exact kc1_6
              have e265 : n_261 (3 * i1 + 21) = nI k229 := by rw [en_261, pk_un (by omega)]; exact ek229
              have e266 : n_261 (3 * i1 + 22) = x242 := by rw [en_261, pk_un (by omega)]; exact ex242
              have e267 : n_261 (14 * k229 + 119) = nI k244 := by rw [en_261, pk_un (by omega)]; exact ek244
              have e268 : n_261 (3 * i1 + 20) = x260 := by rw [en_261, pk_un (by omega)]; exact ex260
              have e269 : n_261 9 = x259 + x260 := by rw [en_261, pk_us]
              refine pm_iincX (v := nI (i1 + 1)) (loc' := [some (.ref (B + 54)), some (.int (nI (i1 + 1))), some (.int (nI (3 * i1 + 20))), some (.int (nI k229)), none]) hG dX12_quarter_95 rfl (nI_1 _) (by decide) (pm_c1b rfl) rfl ?_
              refine pm_goto (tgt := 2) hG dX12_quarter_98 rfl ?_
              refine pm_fg 2 (loc' := [some (.ref (B + 54)), some (.int (nI (i1 + 1))), none, some (.int (nI k229)), none]) rfl ?_
              refine pm_fg 3 (loc' := [some (.ref (B + 54)), some (.int (nI (i1 + 1))), none, none, none]) rfl ?_
              exact ih1 n_261 (i1 + 1) hnn_261 hrn_261 (e262.trans (congrArg nI (by omega))) (e263.trans (congrArg nI (by omega))) (e264.trans (congrArg nI (by omega))) (by omega) (by omega)
          · refine pm_goto (tgt := 95) hG dX12_quarter_40 rfl ?_
            refine pm_iincX (v := nI (i1 + 1)) (loc' := [some (.ref (B + 54)), some (.int (nI (i1 + 1))), some (.int (nI (3 * i1 + 20))), some (.int (nI k229)), none]) hG dX12_quarter_95 rfl (nI_1 _) (by decide) (pm_c1b rfl) rfl ?_
            refine pm_goto (tgt := 2) hG dX12_quarter_98 rfl ?_
            refine pm_fg 2 (loc' := [some (.ref (B + 54)), some (.int (nI (i1 + 1))), none, some (.int (nI k229)), none]) rfl ?_
            refine pm_fg 3 (loc' := [some (.ref (B + 54)), some (.int (nI (i1 + 1))), none, none, none]) rfl ?_
            exact ih1 n_1 (i1 + 1) hnn_1 hrn_1 (kc1_8.trans (congrArg nI (by omega))) (kc1_0.trans (congrArg nI (by omega))) (kc1_6.trans (congrArg nI (by omega))) (by omega) (by omega)
  exact loop2_1 _ n 0 hn hr (ekc8.trans (congrArg nI (by omega))) (ekc0.trans (congrArg nI (by omega))) (ekc6.trans (congrArg nI (by omega))) (by omega) (Nat.lt_succ_self _)
