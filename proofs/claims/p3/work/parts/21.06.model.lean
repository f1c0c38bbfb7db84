set_option maxRecDepth 100000 in
set_option maxHeartbeats 4000000 in
theorem m_quarter {d B cnt p0 t0 : Nat} {σ : pm_S} {I : Nat → Int32} {A : Nat → Nat → Int32} {n k z : Nat → Int32} {ac wt pl im : Int32} (hdd : 2 ≤ d) (hn : KI n) (hr : NR n) (hz : SZ z)  : pm_met mX12_quarter d 0 0 B [.ref (B + 54)] cnt (pm_mid σ (md_L B I A n k z ac wt pl (nI p0) (nI t0) im)) (pm_Qv (fun σ' cnt' => (∃ (n' : Nat → Int32), σ' = pm_mid σ (md_L B I A n' k z ac wt pl (nI p0) (nI t0) im) ∧ KI n' ∧ NR n' ∧ n' 0 = n 0 ∧ n' 1 = n 1 ∧ n' 8 = n 8) ∧ cnt = cnt')) := by
  obtain ⟨kc0, hkc0, ekc0⟩ := KI.nat hn (show kd 0 = (1, 11, true) by decide)
  obtain ⟨kc1, hkc1, ekc1⟩ := KI.nat hn (show kd 1 = (1, 21, false) by decide)
  obtain ⟨kc8, hkc8, ekc8⟩ := KI.nat hn (show kd 8 = (1, 2001, false) by decide)
  refine pm_enter 4 (by decide) (Nat.le_of_ble_eq_true rfl) rfl (fun G hG hR hF => ?_)
  refine pm_iconst (v := nI 0) hG dX12_quarter_0 (by decide) ?_
  refine pm_istoreXn (loc' := [some (.ref (B + 54)), some (.int (nI 0)), none, none, none]) hG dX12_quarter_1 (by decide) (pm_c1b rfl) rfl ?_
  have loop2_1 : ∀ (m1 : Nat) (n_1 : Nat → Int32) (i1 : Nat), KI n_1 → NRx 40 n_1 → n_1 8 = nI kc8 → n_1 0 = nI kc0 → n_1 1 = nI kc1 → i1 ≤ 10 → 10 - i1 < m1 → pm_wp mX12_quarter G B 2 [some (.ref (B + 54)), some (.int (nI i1)), none, none, none] [] 0 0 cnt (pm_mid σ (md_L B I A n_1 k z ac wt pl (nI p0) (nI t0) im)) := by
    intro m1
    induction m1 with
    | zero => intro n_1 i1 _ _ _ _ _ _ hm; exact absurd hm (Nat.not_lt_zero _)
    | succ m1 ih1 =>
      intro n_1 i1 hnn_1 hrn_1 kc1_8 kc1_0 kc1_1 hi1 hm1
      refine pm_iloadn hG dX12_quarter_2 rfl ?_
      refine pm_aloadn hG dX12_quarter_3 rfl ?_
      refine pm_getf hG dX12_quarter_4 (flX12_7 _ rfl) rfl rfl ?_
      refine pm_iconst (v := nI 0) hG dX12_quarter_7 (by decide) ?_
      refine pm_ialdN hG dX12_quarter_8 rfl (by decide) (by omega) ?_
      refine pm_top (v := nI kc0) kc1_0 ?_
      refine pm_icmpN_ge (tgt := 101) hG dX12_quarter_9 rfl (by omega) (by omega) (fun c2 => ?_) (fun c2 => ?_)
      · refine pm_iconst (v := nI 0) hG dX12_quarter_101 (by decide) ?_
        refine pm_istoreXn (loc' := [some (.ref (B + 54)), some (.int (nI 0)), none, none, none]) hG dX12_quarter_102 (by decide) (pm_c1b rfl) rfl ?_
        have loop103_3 : ∀ (m3 : Nat) (n_3 : Nat → Int32) (i3 : Nat), KI n_3 → NRx 40 n_3 → n_3 8 = nI kc8 → n_3 0 = nI kc0 → n_3 1 = nI kc1 → i3 ≤ 20 → 20 - i3 < m3 → pm_wp mX12_quarter G B 103 [some (.ref (B + 54)), some (.int (nI i3)), none, none, none] [] 0 0 cnt (pm_mid σ (md_L B I A n_3 k z ac wt pl (nI p0) (nI t0) im)) := by
          intro m3
          induction m3 with
          | zero => intro n_3 i3 _ _ _ _ _ _ hm; exact absurd hm (Nat.not_lt_zero _)
          | succ m3 ih3 =>
            intro n_3 i3 hnn_3 hrn_3 kc3_8 kc3_0 kc3_1 hi3 hm3
            refine pm_iloadn hG dX12_quarter_103 rfl ?_
            refine pm_aloadn hG dX12_quarter_104 rfl ?_
            refine pm_getf hG dX12_quarter_105 (flX12_7 _ rfl) rfl rfl ?_
            refine pm_iconst (v := nI 2) hG dX12_quarter_108 (by decide) ?_
            refine pm_ialdN hG dX12_quarter_109 rfl (by decide) (by omega) ?_
            obtain ⟨k4, hk4, ek4⟩ := KI.nat hnn_3 (show kd 2 = (1, 21, true) by decide)
            refine pm_top (v := nI k4) ek4 ?_
            refine pm_icmpN_ge (tgt := 178) hG dX12_quarter_110 rfl (by omega) (by omega) (fun c5 => ?_) (fun c5 => ?_)
            · refine pm_iconst (v := nI 0) hG dX12_quarter_178 (by decide) ?_
              refine pm_istoreXn (loc' := [some (.ref (B + 54)), some (.int (nI 0)), none, none, none]) hG dX12_quarter_179 (by decide) (pm_c1b rfl) rfl ?_
              have loop180_6 : ∀ (m6 : Nat) (n_6 : Nat → Int32) (i6 : Nat), KI n_6 → NRx 40 n_6 → n_6 8 = nI kc8 → n_6 0 = nI kc0 → n_6 1 = nI kc1 → i6 ≤ 6 → 6 - i6 < m6 → pm_wp mX12_quarter G B 180 [some (.ref (B + 54)), some (.int (nI i6)), none, none, none] [] 0 0 cnt (pm_mid σ (md_L B I A n_6 k z ac wt pl (nI p0) (nI t0) im)) := by
                intro m6
                induction m6 with
                | zero => intro n_6 i6 _ _ _ _ _ _ hm; exact absurd hm (Nat.not_lt_zero _)
                | succ m6 ih6 =>
                  intro n_6 i6 hnn_6 hrn_6 kc6_8 kc6_0 kc6_1 hi6 hm6
                  refine pm_iloadn hG dX12_quarter_180 rfl ?_
                  refine pm_aloadn hG dX12_quarter_181 rfl ?_
                  refine pm_getf hG dX12_quarter_182 (flX12_7 _ rfl) rfl rfl ?_
                  refine pm_bipush (v := nI 6) hG dX12_quarter_185 (by decide) ?_
                  refine pm_ialdN hG dX12_quarter_187 rfl (by decide) (by omega) ?_
                  obtain ⟨k7, hk7, ek7⟩ := KI.nat hnn_6 (show kd 6 = (1, 7, false) by decide)
                  refine pm_top (v := nI k7) ek7 ?_
                  refine pm_icmpN_ge (tgt := 369) hG dX12_quarter_188 rfl (by omega) (by omega) (fun c8 => ?_) (fun c8 => ?_)
                  · exact pm_vret hG hF dX12_quarter_369 rfl (Nat.le_refl _) (Nat.le_refl _) ⟨rfl, ⟨_, rfl, hnn_6, hrn_6, kc6_0.trans ekc0.symm, kc6_1.trans ekc1.symm, kc6_8.trans ekc8.symm⟩, rfl⟩
                  · refine pm_sipush (v := nI 1770) hG dX12_quarter_191 (by decide) ?_
                    refine pm_bipush (v := nI 6) hG dX12_quarter_194 (by decide) ?_
                    refine pm_iloadn hG dX12_quarter_196 rfl ?_
                    refine pm_imulN (c := 6 * i6) hG dX12_quarter_197 (by omega) ?_
                    refine pm_iaddN (c := 6 * i6 + 1770) hG dX12_quarter_198 (by omega) ?_
                    refine pm_istoreXn (loc' := [some (.ref (B + 54)), some (.int (nI i6)), some (.int (nI (6 * i6 + 1770))), none, none]) hG dX12_quarter_199 (by decide) (pm_c1b rfl) rfl ?_
                    refine pm_aloadn hG dX12_quarter_200 rfl ?_
                    refine pm_getf hG dX12_quarter_201 (flX12_7 _ rfl) rfl rfl ?_
                    refine pm_iloadn hG dX12_quarter_204 rfl ?_
                    refine pm_ialdN hG dX12_quarter_205 rfl (by decide) (by omega) ?_
                    refine pm_gen (fun x9 ex9 => ?_)
                    refine pm_aloadn hG dX12_quarter_206 rfl ?_
                    refine pm_getf hG dX12_quarter_207 (flX12_7 _ rfl) rfl rfl ?_
                    refine pm_iloadn hG dX12_quarter_210 rfl ?_
                    refine pm_ialdN hG dX12_quarter_211 rfl (by decide) (by omega) ?_
                    refine pm_top (v := x9) ex9 ?_
                    refine pm_aloadn hG dX12_quarter_212 rfl ?_
                    refine pm_getf hG dX12_quarter_213 (flX12_7 _ rfl) rfl rfl ?_
                    refine pm_iloadn hG dX12_quarter_216 rfl ?_
                    refine pm_iconst (v := nI 1) hG dX12_quarter_217 (by decide) ?_
                    refine pm_iaddN (c := 6 * i6 + 1771) hG dX12_quarter_218 (by omega) ?_
                    refine pm_ialdN hG dX12_quarter_219 rfl (by decide) (by omega) ?_
                    refine pm_gen (fun x10 ex10 => ?_)
                    refine pm_imul hG dX12_quarter_220 ?_
                    refine pm_bipush (v := nI 100) hG dX12_quarter_221 (by decide) ?_
                    refine pm_idiv hG dX12_quarter_223 (by decide) ?_
                    refine pm_any (fun x11 => ?_)
                    refine pm_iadd hG dX12_quarter_224 ?_
                    refine pm_istoreXn (loc' := [some (.ref (B + 54)), some (.int (nI i6)), some (.int (nI (6 * i6 + 1770))), some (.int (x9 + x11)), none]) hG dX12_quarter_225 (by decide) (pm_c1b rfl) rfl ?_
                    refine pm_aloadn hG dX12_quarter_226 rfl ?_
                    refine pm_getf hG dX12_quarter_227 (flX12_7 _ rfl) rfl rfl ?_
                    refine pm_iloadn hG dX12_quarter_230 rfl ?_
                    refine pm_iloadn hG dX12_quarter_231 rfl ?_
                    refine pm_ldc hG dX12_quarter_232 (ctX12_235 _ rfl) ?_
                    refine pm_top (v := nI 999999) (by decide) ?_
                    refine pm_icmp_ge (tgt := 241) hG dX12_quarter_234 rfl (fun c12 => ?_) (fun c12 => ?_)
                    · refine pm_ldc hG dX12_quarter_241 (ctX12_235 _ rfl) ?_
                      refine pm_top (v := nI 999999) (by decide) ?_
                      refine pm_iastN hG dX12_quarter_243 rfl (by decide) (by omega) ?_
                      refine mdn_now (fun n_13 en_13 => ?_)
                      have hnn_13 := KI.w en_13 hnn_6 (okv_f (show kd (6 * i6 + 1770) = (0, 0, false) from (kd_D (k := i6) (c := 0) (by omega) (by omega) (by decide))))
                      have hrn_13 := NRx.w en_13 hrn_6 (by rw [(show kd (6 * i6 + 1770) = (0, 0, false) from (kd_D (k := i6) (c := 0) (by omega) (by omega) (by decide)))])
                      have e14 : n_13 8 = nI kc8 := by rw [en_13, pk_un (by omega)]; exact kc6_8
                      have e15 : n_13 0 = nI kc0 := by rw [en_13, pk_un (by omega)]; exact kc6_0
                      have e16 : n_13 1 = nI kc1 := by rw [en_13, pk_un (by omega)]; exact kc6_1
                      have e17 : n_13 6 = nI k7 := by rw [en_13, pk_un (by omega)]; exact ek7
                      have e18 : n_13 (6 * i6 + 1771) = x10 := by rw [en_13, pk_un (by omega)]; exact ex10
                      have e19 : n_13 (6 * i6 + 1770) = nI 999999 := by rw [en_13, pk_us]
                      refine pm_aloadn hG dX12_quarter_244 rfl ?_
                      refine pm_getf hG dX12_quarter_245 (flX12_7 _ rfl) rfl rfl ?_
                      refine pm_iloadn hG dX12_quarter_248 rfl ?_
                      refine pm_ialdN hG dX12_quarter_249 rfl (by decide) (by omega) ?_
                      refine pm_top (v := nI 999999) e19 ?_
                      refine pm_aloadn hG dX12_quarter_250 rfl ?_
                      refine pm_getf hG dX12_quarter_251 (flX12_7 _ rfl) rfl rfl ?_
                      refine pm_iloadn hG dX12_quarter_254 rfl ?_
                      refine pm_iconst (v := nI 2) hG dX12_quarter_255 (by decide) ?_
                      refine pm_iaddN (c := 6 * i6 + 1772) hG dX12_quarter_256 (by omega) ?_
                      refine pm_ialdN hG dX12_quarter_257 rfl (by decide) (by omega) ?_
                      refine pm_gen (fun x20 ex20 => ?_)
                      refine pm_icmp_ge (tgt := 270) hG dX12_quarter_258 rfl (fun c21 => ?_) (fun c21 => ?_)
                      · refine pm_aloadn hG dX12_quarter_270 rfl ?_
                        refine pm_getf hG dX12_quarter_271 (flX12_7 _ rfl) rfl rfl ?_
                        refine pm_iloadn hG dX12_quarter_274 rfl ?_
                        refine pm_iconst (v := nI 2) hG dX12_quarter_275 (by decide) ?_
                        refine pm_iaddN (c := 6 * i6 + 1772) hG dX12_quarter_276 (by omega) ?_
                        refine pm_ialdN hG dX12_quarter_277 rfl (by decide) (by omega) ?_
                        refine pm_top (v := x20) ex20 ?_
                        refine pm_istoreXi (loc' := [some (.ref (B + 54)), some (.int (nI i6)), some (.int (nI (6 * i6 + 1770))), some (.int (x9 + x11)), some (.int x20)]) hG dX12_quarter_278 (by decide) (pm_c1b rfl) rfl ?_
                        refine pm_aloadn hG dX12_quarter_280 rfl ?_
                        refine pm_getf hG dX12_quarter_281 (flX12_7 _ rfl) rfl rfl ?_
                        refine pm_bipush (v := nI 9) hG dX12_quarter_284 (by decide) ?_
                        refine pm_ialdN hG dX12_quarter_286 rfl (by decide) (by omega) ?_
                        refine pm_gen (fun x22 ex22 => ?_)
                        refine pm_iloadi hG dX12_quarter_287 rfl ?_
                        refine pm_icmp_lt (tgt := 318) hG dX12_quarter_289 rfl (fun c23 => ?_) (fun c23 => ?_)
                        · refine pm_aloadn hG dX12_quarter_318 rfl ?_
                          refine pm_getf hG dX12_quarter_319 (flX12_7 _ rfl) rfl rfl ?_
                          refine pm_iloadn hG dX12_quarter_322 rfl ?_
                          refine pm_iconst (v := nI 3) hG dX12_quarter_323 (by decide) ?_
                          refine pm_iaddN (c := 6 * i6 + 1773) hG dX12_quarter_324 (by omega) ?_
                          refine pm_dup2 hG dX12_quarter_325 rfl rfl ?_
                          refine pm_ialdN hG dX12_quarter_326 rfl (by decide) (by omega) ?_
                          refine pm_gen (fun x24 ex24 => ?_)
                          refine pm_iconst (v := nI 1) hG dX12_quarter_327 (by decide) ?_
                          refine pm_iadd hG dX12_quarter_328 ?_
                          refine pm_iastN hG dX12_quarter_329 rfl (by decide) (by omega) ?_
                          refine mdn_now (fun n_25 en_25 => ?_)
                          have hnn_25 := KI.w en_25 hnn_13 (okv_f (show kd (6 * i6 + 1773) = (0, 0, false) from (kd_D (k := i6) (c := 3) (by omega) (by omega) (by decide))))
                          have hrn_25 := NRx.w en_25 hrn_13 (by rw [(show kd (6 * i6 + 1773) = (0, 0, false) from (kd_D (k := i6) (c := 3) (by omega) (by omega) (by decide)))])
                          have e26 : n_25 8 = nI kc8 := by rw [en_25, pk_un (by omega)]; exact e14
                          have e27 : n_25 0 = nI kc0 := by rw [en_25, pk_un (by omega)]; exact e15
                          have e28 : n_25 1 = nI kc1 := by rw [en_25, pk_un (by omega)]; exact e16
                          have e29 : n_25 6 = nI k7 := by rw [en_25, pk_un (by omega)]; exact e17
                          have e30 : n_25 (6 * i6 + 1771) = x10 := by rw [en_25, pk_un (by omega)]; exact e18
                          have e31 : n_25 (6 * i6 + 1770) = nI 999999 := by rw [en_25, pk_un (by omega)]; exact e19
                          have e32 : n_25 (6 * i6 + 1772) = x20 := by rw [en_25, pk_un (by omega)]; exact ex20
                          have e33 : n_25 9 = x22 := by rw [en_25, pk_un (by omega)]; exact ex22
                          have e34 : n_25 (6 * i6 + 1773) = x24 + (nI 1) := by rw [en_25, pk_us]
                          refine pm_aloadn hG dX12_quarter_330 rfl ?_
                          refine pm_getf hG dX12_quarter_331 (flX12_7 _ rfl) rfl rfl ?_
                          refine pm_iloadn hG dX12_quarter_334 rfl ?_
                          refine pm_iconst (v := nI 3) hG dX12_quarter_335 (by decide) ?_
                          refine pm_iaddN (c := 6 * i6 + 1773) hG dX12_quarter_336 (by omega) ?_
                          refine pm_ialdN hG dX12_quarter_337 rfl (by decide) (by omega) ?_
                          refine pm_top (v := x24 + (nI 1)) e34 ?_
                          refine pm_iconst (v := nI 2) hG dX12_quarter_338 (by decide) ?_
                          refine pm_icmp_ne (tgt := 363) hG dX12_quarter_339 rfl (fun c35 => ?_) (fun c35 => ?_)
                          · refine pm_iincX (v := nI (i6 + 1)) (loc' := [some (.ref (B + 54)), some (.int (nI (i6 + 1))), some (.int (nI (6 * i6 + 1770))), some (.int (x9 + x11)), some (.int x20)]) hG dX12_quarter_363 rfl (nI_1 _) (by decide) (pm_c1b rfl) rfl ?_
                            refine pm_goto (tgt := 180) hG dX12_quarter_366 rfl ?_
                            refine pm_fg 2 (loc' := [some (.ref (B + 54)), some (.int (nI (i6 + 1))), none, some (.int (x9 + x11)), some (.int x20)]) rfl ?_
                            refine pm_fg 3 (loc' := [some (.ref (B + 54)), some (.int (nI (i6 + 1))), none, none, some (.int x20)]) rfl ?_
                            refine pm_fg 4 (loc' := [some (.ref (B + 54)), some (.int (nI (i6 + 1))), none, none, none]) rfl ?_
                            exact ih6 n_25 (i6 + 1) hnn_25 hrn_25 (e26.trans (congrArg nI (by omega))) (e27.trans (congrArg nI (by omega))) (e28.trans (congrArg nI (by omega))) (by omega) (by omega)
                          · refine pm_aloadn hG dX12_quarter_342 rfl ?_
                            refine pm_getf hG dX12_quarter_343 (flX12_7 _ rfl) rfl rfl ?_
                            refine pm_bipush (v := nI 20) hG dX12_quarter_346 (by decide) ?_
                            refine pm_iconst (v := nI 3) hG dX12_quarter_348 (by decide) ?_
                            refine pm_aloadn hG dX12_quarter_349 rfl ?_
                            refine pm_getf hG dX12_quarter_350 (flX12_7 _ rfl) rfl rfl ?_
                            refine pm_iloadn hG dX12_quarter_353 rfl ?_
                            refine pm_iconst (v := nI 4) hG dX12_quarter_354 (by decide) ?_
                            refine pm_iaddN (c := 6 * i6 + 1774) hG dX12_quarter_355 (by omega) ?_
                            refine pm_ialdN hG dX12_quarter_356 rfl (by decide) (by omega) ?_
                            obtain ⟨k36, hk36, ek36⟩ := KI.nat hnn_25 (show kd (6 * i6 + 1774) = (1, 10, false) from (kd_D (k := i6) (c := 4) (by omega) (by omega) (by decide)))
                            refine pm_top (v := nI k36) ek36 ?_
                            refine pm_imulN (c := 3 * k36) hG dX12_quarter_357 (by omega) ?_
                            refine pm_iaddN (c := 3 * k36 + 20) hG dX12_quarter_358 (by omega) ?_
                            refine pm_iconst (v := nI 2) hG dX12_quarter_359 (by decide) ?_
                            refine pm_iaddN (c := 3 * k36 + 22) hG dX12_quarter_360 (by omega) ?_
                            refine pm_iconst (v := nI 1) hG dX12_quarter_361 (by decide) ?_
                            refine pm_iastN hG dX12_quarter_362 rfl (by decide) (by omega) ?_
                            refine mdn_now (fun n_37 en_37 => ?_)
                            have hnn_37 := KI.w en_37 hnn_25 (okv_f (show kd (3 * k36 + 22) = (0, 0, false) from (kd_T (k := k36) (c := 2) (by omega) (by omega) (by decide))))
                            have hrn_37 := NRx.w en_37 hrn_25 (by rw [(show kd (3 * k36 + 22) = (0, 0, false) from (kd_T (k := k36) (c := 2) (by omega) (by omega) (by decide)))])
                            have e38 : n_37 8 = nI kc8 := by rw [en_37, pk_un (by omega)]; exact e26
                            have e39 : n_37 0 = nI kc0 := by rw [en_37, pk_un (by omega)]; exact e27
                            have e40 : n_37 1 = nI kc1 := by rw [en_37, pk_un (by omega)]; exact e28
                            have e41 : n_37 6 = nI k7 := by rw [en_37, pk_un (by omega)]; exact e29
                            have e42 : n_37 (6 * i6 + 1771) = x10 := by rw [en_37, pk_un (by omega)]; exact e30
                            have e43 : n_37 (6 * i6 + 1770) = nI 999999 := by rw [en_37, pk_un (by omega)]; exact e31
                            have e44 : n_37 (6 * i6 + 1772) = x20 := by rw [en_37, pk_un (by omega)]; exact e32
                            have e45 : n_37 9 = x22 := by rw [en_37, pk_un (by omega)]; exact e33
                            have e46 : n_37 (6 * i6 + 1773) = x24 + (nI 1) := by rw [en_37, pk_un (by omega)]; exact e34
                            have e47 : n_37 (6 * i6 + 1774) = nI k36 := by rw [en_37, pk_un (by omega)]; exact ek36
                            have e48 : n_37 (3 * k36 + 22) = nI 1 := by rw [en_37, pk_us]
                            refine pm_iincX (v := nI (i6 + 1)) (loc' := [some (.ref (B + 54)), some (.int (nI (i6 + 1))), some (.int (nI (6 * i6 + 1770))), some (.int (x9 + x11)), some (.int x20)]) hG dX12_quarter_363 rfl (nI_1 _) (by decide) (pm_c1b rfl) rfl ?_
                            refine pm_goto (tgt := 180) hG dX12_quarter_366 rfl ?_
                            refine pm_fg 2 (loc' := [some (.ref (B + 54)), some (.int (nI (i6 + 1))), none, some (.int (x9 + x11)), some (.int x20)]) rfl ?_
                            refine pm_fg 3 (loc' := [some (.ref (B + 54)), some (.int (nI (i6 + 1))), none, none, some (.int x20)]) rfl ?_
                            refine pm_fg 4 (loc' := [some (.ref (B + 54)), some (.int (nI (i6 + 1))), none, none, none]) rfl ?_
                            exact ih6 n_37 (i6 + 1) hnn_37 hrn_37 (e38.trans (congrArg nI (by omega))) (e39.trans (congrArg nI (by omega))) (e40.trans (congrArg nI (by omega))) (by omega) (by omega)
                        · refine pm_aloadn hG dX12_quarter_292 rfl ?_
                          refine pm_getf hG dX12_quarter_293 (flX12_7 _ rfl) rfl rfl ?_
                          refine pm_bipush (v := nI 9) hG dX12_quarter_296 (by decide) ?_
                          refine pm_dup2 hG dX12_quarter_298 rfl rfl ?_
                          refine pm_ialdN hG dX12_quarter_299 rfl (by decide) (by omega) ?_
                          refine pm_top (v := x22) ex22 ?_
                          refine pm_iloadi hG dX12_quarter_300 rfl ?_
                          refine pm_isub hG dX12_quarter_302 ?_
                          refine pm_iastN hG dX12_quarter_303 rfl (by decide) (by omega) ?_
                          refine mdn_now (fun n_49 en_49 => ?_)
                          have hnn_49 := KI.w en_49 hnn_13 (okv_f (show kd 9 = (0, 0, false) by decide))
                          have hrn_49 := NRx.w en_49 hrn_13 (by rw [(show kd 9 = (0, 0, false) by decide)])
                          have e50 : n_49 8 = nI kc8 := by rw [en_49, pk_un (by omega)]; exact e14
                          have e51 : n_49 0 = nI kc0 := by rw [en_49, pk_un (by omega)]; exact e15
                          have e52 : n_49 1 = nI kc1 := by rw [en_49, pk_un (by omega)]; exact e16
                          have e53 : n_49 6 = nI k7 := by rw [en_49, pk_un (by omega)]; exact e17
                          have e54 : n_49 (6 * i6 + 1771) = x10 := by rw [en_49, pk_un (by omega)]; exact e18
                          have e55 : n_49 (6 * i6 + 1770) = nI 999999 := by rw [en_49, pk_un (by omega)]; exact e19
                          have e56 : n_49 (6 * i6 + 1772) = x20 := by rw [en_49, pk_un (by omega)]; exact ex20
                          have e57 : n_49 9 = x22 - x20 := by rw [en_49, pk_us]
                          refine pm_aloadn hG dX12_quarter_304 rfl ?_
                          refine pm_getf hG dX12_quarter_305 (flX12_7 _ rfl) rfl rfl ?_
                          refine pm_iloadn hG dX12_quarter_308 rfl ?_
                          refine pm_dup2 hG dX12_quarter_309 rfl rfl ?_
                          refine pm_ialdN hG dX12_quarter_310 rfl (by decide) (by omega) ?_
                          refine pm_top (v := nI 999999) e55 ?_
                          refine pm_iloadi hG dX12_quarter_311 rfl ?_
                          refine pm_isub hG dX12_quarter_313 ?_
                          refine pm_iastN hG dX12_quarter_314 rfl (by decide) (by omega) ?_
                          refine mdn_now (fun n_58 en_58 => ?_)
                          have hnn_58 := KI.w en_58 hnn_49 (okv_f (show kd (6 * i6 + 1770) = (0, 0, false) from (kd_D (k := i6) (c := 0) (by omega) (by omega) (by decide))))
                          have hrn_58 := NRx.w en_58 hrn_49 (by rw [(show kd (6 * i6 + 1770) = (0, 0, false) from (kd_D (k := i6) (c := 0) (by omega) (by omega) (by decide)))])
                          have e59 : n_58 8 = nI kc8 := by rw [en_58, pk_un (by omega)]; exact e50
                          have e60 : n_58 0 = nI kc0 := by rw [en_58, pk_un (by omega)]; exact e51
                          have e61 : n_58 1 = nI kc1 := by rw [en_58, pk_un (by omega)]; exact e52
                          have e62 : n_58 6 = nI k7 := by rw [en_58, pk_un (by omega)]; exact e53
                          have e63 : n_58 (6 * i6 + 1771) = x10 := by rw [en_58, pk_un (by omega)]; exact e54
                          have e64 : n_58 (6 * i6 + 1772) = x20 := by rw [en_58, pk_un (by omega)]; exact e56
                          have e65 : n_58 9 = x22 - x20 := by rw [en_58, pk_un (by omega)]; exact e57
                          have e66 : n_58 (6 * i6 + 1770) = (nI 999999) - x20 := by rw [en_58, pk_us]
                          refine pm_goto (tgt := 363) hG dX12_quarter_315 rfl ?_
                          refine pm_iincX (v := nI (i6 + 1)) (loc' := [some (.ref (B + 54)), some (.int (nI (i6 + 1))), some (.int (nI (6 * i6 + 1770))), some (.int (x9 + x11)), some (.int x20)]) hG dX12_quarter_363 rfl (nI_1 _) (by decide) (pm_c1b rfl) rfl ?_
                          refine pm_goto (tgt := 180) hG dX12_quarter_366 rfl ?_
                          refine pm_fg 2 (loc' := [some (.ref (B + 54)), some (.int (nI (i6 + 1))), none, some (.int (x9 + x11)), some (.int x20)]) rfl ?_
                          refine pm_fg 3 (loc' := [some (.ref (B + 54)), some (.int (nI (i6 + 1))), none, none, some (.int x20)]) rfl ?_
                          refine pm_fg 4 (loc' := [some (.ref (B + 54)), some (.int (nI (i6 + 1))), none, none, none]) rfl ?_
                          exact ih6 n_58 (i6 + 1) hnn_58 hrn_58 (e59.trans (congrArg nI (by omega))) (e60.trans (congrArg nI (by omega))) (e61.trans (congrArg nI (by omega))) (by omega) (by omega)
                      · refine pm_aloadn hG dX12_quarter_261 rfl ?_
                        refine pm_getf hG dX12_quarter_262 (flX12_7 _ rfl) rfl rfl ?_
                        refine pm_iloadn hG dX12_quarter_265 rfl ?_
                        refine pm_ialdN hG dX12_quarter_266 rfl (by decide) (by omega) ?_
                        refine pm_top (v := nI 999999) e19 ?_
                        refine pm_goto (tgt := 278) hG dX12_quarter_267 rfl ?_
                        refine pm_istoreXi (loc' := [some (.ref (B + 54)), some (.int (nI i6)), some (.int (nI (6 * i6 + 1770))), some (.int (x9 + x11)), some (.int (nI 999999))]) hG dX12_quarter_278 (by decide) (pm_c1b rfl) rfl ?_
                        refine pm_aloadn hG dX12_quarter_280 rfl ?_
                        refine pm_getf hG dX12_quarter_281 (flX12_7 _ rfl) rfl rfl ?_
                        refine pm_bipush (v := nI 9) hG dX12_quarter_284 (by decide) ?_
                        refine pm_ialdN hG dX12_quarter_286 rfl (by decide) (by omega) ?_
                        refine pm_gen (fun x67 ex67 => ?_)
                        refine pm_iloadi hG dX12_quarter_287 rfl ?_
                        refine pm_icmp_lt (tgt := 318) hG dX12_quarter_289 rfl (fun c68 => ?_) (fun c68 => ?_)
                        · refine pm_aloadn hG dX12_quarter_318 rfl ?_
                          refine pm_getf hG dX12_quarter_319 (flX12_7 _ rfl) rfl rfl ?_
                          refine pm_iloadn hG dX12_quarter_322 rfl ?_
                          refine pm_iconst (v := nI 3) hG dX12_quarter_323 (by decide) ?_
                          refine pm_iaddN (c := 6 * i6 + 1773) hG dX12_quarter_324 (by omega) ?_
                          refine pm_dup2 hG dX12_quarter_325 rfl rfl ?_
                          refine pm_ialdN hG dX12_quarter_326 rfl (by decide) (by omega) ?_
                          refine pm_gen (fun x69 ex69 => ?_)
                          refine pm_iconst (v := nI 1) hG dX12_quarter_327 (by decide) ?_
                          refine pm_iadd hG dX12_quarter_328 ?_
                          refine pm_iastN hG dX12_quarter_329 rfl (by decide) (by omega) ?_
                          refine mdn_now (fun n_70 en_70 => ?_)
                          have hnn_70 := KI.w en_70 hnn_13 (okv_f (show kd (6 * i6 + 1773) = (0, 0, false) from (kd_D (k := i6) (c := 3) (by omega) (by omega) (by decide))))
                          have hrn_70 := NRx.w en_70 hrn_13 (by rw [(show kd (6 * i6 + 1773) = (0, 0, false) from (kd_D (k := i6) (c := 3) (by omega) (by omega) (by decide)))])
                          have e71 : n_70 8 = nI kc8 := by rw [en_70, pk_un (by omega)]; exact e14
                          have e72 : n_70 0 = nI kc0 := by rw [en_70, pk_un (by omega)]; exact e15
                          have e73 : n_70 1 = nI kc1 := by rw [en_70, pk_un (by omega)]; exact e16
                          have e74 : n_70 6 = nI k7 := by rw [en_70, pk_un (by omega)]; exact e17
                          have e75 : n_70 (6 * i6 + 1771) = x10 := by rw [en_70, pk_un (by omega)]; exact e18
                          have e76 : n_70 (6 * i6 + 1770) = nI 999999 := by rw [en_70, pk_un (by omega)]; exact e19
                          have e77 : n_70 (6 * i6 + 1772) = x20 := by rw [en_70, pk_un (by omega)]; exact ex20
                          have e78 : n_70 9 = x67 := by rw [en_70, pk_un (by omega)]; exact ex67
                          have e79 : n_70 (6 * i6 + 1773) = x69 + (nI 1) := by rw [en_70, pk_us]
                          refine pm_aloadn hG dX12_quarter_330 rfl ?_
                          refine pm_getf hG dX12_quarter_331 (flX12_7 _ rfl) rfl rfl ?_
                          refine pm_iloadn hG dX12_quarter_334 rfl ?_
                          refine pm_iconst (v := nI 3) hG dX12_quarter_335 (by decide) ?_
                          refine pm_iaddN (c := 6 * i6 + 1773) hG dX12_quarter_336 (by omega) ?_
                          refine pm_ialdN hG dX12_quarter_337 rfl (by decide) (by omega) ?_
                          refine pm_top (v := x69 + (nI 1)) e79 ?_
                          refine pm_iconst (v := nI 2) hG dX12_quarter_338 (by decide) ?_
                          refine pm_icmp_ne (tgt := 363) hG dX12_quarter_339 rfl (fun c80 => ?_) (fun c80 => ?_)
                          · refine pm_iincX (v := nI (i6 + 1)) (loc' := [some (.ref (B + 54)), some (.int (nI (i6 + 1))), some (.int (nI (6 * i6 + 1770))), some (.int (x9 + x11)), some (.int (nI 999999))]) hG dX12_quarter_363 rfl (nI_1 _) (by decide) (pm_c1b rfl) rfl ?_
                            refine pm_goto (tgt := 180) hG dX12_quarter_366 rfl ?_
                            refine pm_fg 2 (loc' := [some (.ref (B + 54)), some (.int (nI (i6 + 1))), none, some (.int (x9 + x11)), some (.int (nI 999999))]) rfl ?_
                            refine pm_fg 3 (loc' := [some (.ref (B + 54)), some (.int (nI (i6 + 1))), none, none, some (.int (nI 999999))]) rfl ?_
                            refine pm_fg 4 (loc' := [some (.ref (B + 54)), some (.int (nI (i6 + 1))), none, none, none]) rfl ?_
                            exact ih6 n_70 (i6 + 1) hnn_70 hrn_70 (e71.trans (congrArg nI (by omega))) (e72.trans (congrArg nI (by omega))) (e73.trans (congrArg nI (by omega))) (by omega) (by omega)
                          · refine pm_aloadn hG dX12_quarter_342 rfl ?_
                            refine pm_getf hG dX12_quarter_343 (flX12_7 _ rfl) rfl rfl ?_
                            refine pm_bipush (v := nI 20) hG dX12_quarter_346 (by decide) ?_
                            refine pm_iconst (v := nI 3) hG dX12_quarter_348 (by decide) ?_
                            refine pm_aloadn hG dX12_quarter_349 rfl ?_
                            refine pm_getf hG dX12_quarter_350 (flX12_7 _ rfl) rfl rfl ?_
                            refine pm_iloadn hG dX12_quarter_353 rfl ?_
                            refine pm_iconst (v := nI 4) hG dX12_quarter_354 (by decide) ?_
                            refine pm_iaddN (c := 6 * i6 + 1774) hG dX12_quarter_355 (by omega) ?_
                            refine pm_ialdN hG dX12_quarter_356 rfl (by decide) (by omega) ?_
                            obtain ⟨k81, hk81, ek81⟩ := KI.nat hnn_70 (show kd (6 * i6 + 1774) = (1, 10, false) from (kd_D (k := i6) (c := 4) (by omega) (by omega) (by decide)))
                            refine pm_top (v := nI k81) ek81 ?_
                            refine pm_imulN (c := 3 * k81) hG dX12_quarter_357 (by omega) ?_
                            refine pm_iaddN (c := 3 * k81 + 20) hG dX12_quarter_358 (by omega) ?_
                            refine pm_iconst (v := nI 2) hG dX12_quarter_359 (by decide) ?_
                            refine pm_iaddN (c := 3 * k81 + 22) hG dX12_quarter_360 (by omega) ?_
                            refine pm_iconst (v := nI 1) hG dX12_quarter_361 (by decide) ?_
                            refine pm_iastN hG dX12_quarter_362 rfl (by decide) (by omega) ?_
                            refine mdn_now (fun n_82 en_82 => ?_)
                            have hnn_82 := KI.w en_82 hnn_70 (okv_f (show kd (3 * k81 + 22) = (0, 0, false) from (kd_T (k := k81) (c := 2) (by omega) (by omega) (by decide))))
                            have hrn_82 := NRx.w en_82 hrn_70 (by rw [(show kd (3 * k81 + 22) = (0, 0, false) from (kd_T (k := k81) (c := 2) (by omega) (by omega) (by decide)))])
                            have e83 : n_82 8 = nI kc8 := by rw [en_82, pk_un (by omega)]; exact e71
                            have e84 : n_82 0 = nI kc0 := by rw [en_82, pk_un (by omega)]; exact e72
                            have e85 : n_82 1 = nI kc1 := by rw [en_82, pk_un (by omega)]; exact e73
                            have e86 : n_82 6 = nI k7 := by rw [en_82, pk_un (by omega)]; exact e74
                            have e87 : n_82 (6 * i6 + 1771) = x10 := by rw [en_82, pk_un (by omega)]; exact e75
                            have e88 : n_82 (6 * i6 + 1770) = nI 999999 := by rw [en_82, pk_un (by omega)]; exact e76
                            have e89 : n_82 (6 * i6 + 1772) = x20 := by rw [en_82, pk_un (by omega)]; exact e77
                            have e90 : n_82 9 = x67 := by rw [en_82, pk_un (by omega)]; exact e78
                            have e91 : n_82 (6 * i6 + 1773) = x69 + (nI 1) := by rw [en_82, pk_un (by omega)]; exact e79
                            have e92 : n_82 (6 * i6 + 1774) = nI k81 := by rw [en_82, pk_un (by omega)]; exact ek81
                            have e93 : n_82 (3 * k81 + 22) = nI 1 := by rw [en_82, pk_us]
                            refine pm_iincX (v := nI (i6 + 1)) (loc' := [some (.ref (B + 54)), some (.int (nI (i6 + 1))), some (.int (nI (6 * i6 + 1770))), some (.int (x9 + x11)), some (.int (nI 999999))]) hG dX12_quarter_363 rfl (nI_1 _) (by decide) (pm_c1b rfl) rfl ?_
                            refine pm_goto (tgt := 180) hG dX12_quarter_366 rfl ?_
                            refine pm_fg 2 (loc' := [some (.ref (B + 54)), some (.int (nI (i6 + 1))), none, some (.int (x9 + x11)), some (.int (nI 999999))]) rfl ?_
                            refine pm_fg 3 (loc' := [some (.ref (B + 54)), some (.int (nI (i6 + 1))), none, none, some (.int (nI 999999))]) rfl ?_
                            refine pm_fg 4 (loc' := [some (.ref (B + 54)), some (.int (nI (i6 + 1))), none, none, none]) rfl ?_
                            exact ih6 n_82 (i6 + 1) hnn_82 hrn_82 (e83.trans (congrArg nI (by omega))) (e84.trans (congrArg nI (by omega))) (e85.trans (congrArg nI (by omega))) (by omega) (by omega)
                        · refine pm_aloadn hG dX12_quarter_292 rfl ?_
                          refine pm_getf hG dX12_quarter_293 (flX12_7 _ rfl) rfl rfl ?_
                          refine pm_bipush (v := nI 9) hG dX12_quarter_296 (by decide) ?_
                          refine pm_dup2 hG dX12_quarter_298 rfl rfl ?_
                          refine pm_ialdN hG dX12_quarter_299 rfl (by decide) (by omega) ?_
                          refine pm_top (v := x67) ex67 ?_
                          refine pm_iloadi hG dX12_quarter_300 rfl ?_
                          refine pm_isub hG dX12_quarter_302 ?_
                          refine pm_iastN hG dX12_quarter_303 rfl (by decide) (by omega) ?_
                          refine mdn_now (fun n_94 en_94 => ?_)
                          have hnn_94 := KI.w en_94 hnn_13 (okv_f (show kd 9 = (0, 0, false) by decide))
                          have hrn_94 := NRx.w en_94 hrn_13 (by rw [(show kd 9 = (0, 0, false) by decide)])
                          have e95 : n_94 8 = nI kc8 := by rw [en_94, pk_un (by omega)]; exact e14
                          have e96 : n_94 0 = nI kc0 := by rw [en_94, pk_un (by omega)]; exact e15
                          have e97 : n_94 1 = nI kc1 := by rw [en_94, pk_un (by omega)]; exact e16
                          have e98 : n_94 6 = nI k7 := by rw [en_94, pk_un (by omega)]; exact e17
                          have e99 : n_94 (6 * i6 + 1771) = x10 := by rw [en_94, pk_un (by omega)]; exact e18
                          have e100 : n_94 (6 * i6 + 1770) = nI 999999 := by rw [en_94, pk_un (by omega)]; exact e19
                          have e101 : n_94 (6 * i6 + 1772) = x20 := by rw [en_94, pk_un (by omega)]; exact ex20
                          have e102 : n_94 9 = x67 - (nI 999999) := by rw [en_94, pk_us]
                          refine pm_aloadn hG dX12_quarter_304 rfl ?_
                          refine pm_getf hG dX12_quarter_305 (flX12_7 _ rfl) rfl rfl ?_
                          refine pm_iloadn hG dX12_quarter_308 rfl ?_
                          refine pm_dup2 hG dX12_quarter_309 rfl rfl ?_
                          refine pm_ialdN hG dX12_quarter_310 rfl (by decide) (by omega) ?_
                          refine pm_top (v := nI 999999) e100 ?_
                          refine pm_iloadi hG dX12_quarter_311 rfl ?_
                          refine pm_isubN (c := 0) hG dX12_quarter_313 (by omega) ?_
                          refine pm_iastN hG dX12_quarter_314 rfl (by decide) (by omega) ?_
                          refine mdn_now (fun n_103 en_103 => ?_)
                          have hnn_103 := KI.w en_103 hnn_94 (okv_f (show kd (6 * i6 + 1770) = (0, 0, false) from (kd_D (k := i6) (c := 0) (by omega) (by omega) (by decide))))
                          have hrn_103 := NRx.w en_103 hrn_94 (by rw [(show kd (6 * i6 + 1770) = (0, 0, false) from (kd_D (k := i6) (c := 0) (by omega) (by omega) (by decide)))])
                          have e104 : n_103 8 = nI kc8 := by rw [en_103, pk_un (by omega)]; exact e95
                          have e105 : n_103 0 = nI kc0 := by rw [en_103, pk_un (by omega)]; exact e96
                          have e106 : n_103 1 = nI kc1 := by rw [en_103, pk_un (by omega)]; exact e97
                          have e107 : n_103 6 = nI k7 := by rw [en_103, pk_un (by omega)]; exact e98
                          have e108 : n_103 (6 * i6 + 1771) = x10 := by rw [en_103, pk_un (by omega)]; exact e99
                          have e109 : n_103 (6 * i6 + 1772) = x20 := by rw [en_103, pk_un (by omega)]; exact e101
                          have e110 : n_103 9 = x67 - (nI 999999) := by rw [en_103, pk_un (by omega)]; exact e102
                          have e111 : n_103 (6 * i6 + 1770) = nI 0 := by rw [en_103, pk_us]
                          refine pm_goto (tgt := 363) hG dX12_quarter_315 rfl ?_
                          refine pm_iincX (v := nI (i6 + 1)) (loc' := [some (.ref (B + 54)), some (.int (nI (i6 + 1))), some (.int (nI (6 * i6 + 1770))), some (.int (x9 + x11)), some (.int (nI 999999))]) hG dX12_quarter_363 rfl (nI_1 _) (by decide) (pm_c1b rfl) rfl ?_
                          refine pm_goto (tgt := 180) hG dX12_quarter_366 rfl ?_
                          refine pm_fg 2 (loc' := [some (.ref (B + 54)), some (.int (nI (i6 + 1))), none, some (.int (x9 + x11)), some (.int (nI 999999))]) rfl ?_
                          refine pm_fg 3 (loc' := [some (.ref (B + 54)), some (.int (nI (i6 + 1))), none, none, some (.int (nI 999999))]) rfl ?_
                          refine pm_fg 4 (loc' := [some (.ref (B + 54)), some (.int (nI (i6 + 1))), none, none, none]) rfl ?_
                          exact ih6 n_103 (i6 + 1) hnn_103 hrn_103 (e104.trans (congrArg nI (by omega))) (e105.trans (congrArg nI (by omega))) (e106.trans (congrArg nI (by omega))) (by omega) (by omega)
                    · refine pm_iloadn hG dX12_quarter_237 rfl ?_
                      refine pm_goto (tgt := 243) hG dX12_quarter_238 rfl ?_
                      refine pm_iastN hG dX12_quarter_243 rfl (by decide) (by omega) ?_
                      refine mdn_now (fun n_112 en_112 => ?_)
                      have hnn_112 := KI.w en_112 hnn_6 (okv_f (show kd (6 * i6 + 1770) = (0, 0, false) from (kd_D (k := i6) (c := 0) (by omega) (by omega) (by decide))))
                      have hrn_112 := NRx.w en_112 hrn_6 (by rw [(show kd (6 * i6 + 1770) = (0, 0, false) from (kd_D (k := i6) (c := 0) (by omega) (by omega) (by decide)))])
                      have e113 : n_112 8 = nI kc8 := by rw [en_112, pk_un (by omega)]; exact kc6_8
                      have e114 : n_112 0 = nI kc0 := by rw [en_112, pk_un (by omega)]; exact kc6_0
                      have e115 : n_112 1 = nI kc1 := by rw [en_112, pk_un (by omega)]; exact kc6_1
                      have e116 : n_112 6 = nI k7 := by rw [en_112, pk_un (by omega)]; exact ek7
                      have e117 : n_112 (6 * i6 + 1771) = x10 := by rw [en_112, pk_un (by omega)]; exact ex10
                      have e118 : n_112 (6 * i6 + 1770) = x9 + x11 := by rw [en_112, pk_us]
                      refine pm_aloadn hG dX12_quarter_244 rfl ?_
                      refine pm_getf hG dX12_quarter_245 (flX12_7 _ rfl) rfl rfl ?_
                      refine pm_iloadn hG dX12_quarter_248 rfl ?_
                      refine pm_ialdN hG dX12_quarter_249 rfl (by decide) (by omega) ?_
                      refine pm_top (v := x9 + x11) e118 ?_
                      refine pm_aloadn hG dX12_quarter_250 rfl ?_
                      refine pm_getf hG dX12_quarter_251 (flX12_7 _ rfl) rfl rfl ?_
                      refine pm_iloadn hG dX12_quarter_254 rfl ?_
                      refine pm_iconst (v := nI 2) hG dX12_quarter_255 (by decide) ?_
                      refine pm_iaddN (c := 6 * i6 + 1772) hG dX12_quarter_256 (by omega) ?_
                      refine pm_ialdN hG dX12_quarter_257 rfl (by decide) (by omega) ?_
                      refine pm_gen (fun x119 ex119 => ?_)
                      refine pm_icmp_ge (tgt := 270) hG dX12_quarter_258 rfl (fun c120 => ?_) (fun c120 => ?_)
                      · refine pm_aloadn hG dX12_quarter_270 rfl ?_
                        refine pm_getf hG dX12_quarter_271 (flX12_7 _ rfl) rfl rfl ?_
                        refine pm_iloadn hG dX12_quarter_274 rfl ?_
                        refine pm_iconst (v := nI 2) hG dX12_quarter_275 (by decide) ?_
                        refine pm_iaddN (c := 6 * i6 + 1772) hG dX12_quarter_276 (by omega) ?_
                        refine pm_ialdN hG dX12_quarter_277 rfl (by decide) (by omega) ?_
                        refine pm_top (v := x119) ex119 ?_
                        refine pm_istoreXi (loc' := [some (.ref (B + 54)), some (.int (nI i6)), some (.int (nI (6 * i6 + 1770))), some (.int (x9 + x11)), some (.int x119)]) hG dX12_quarter_278 (by decide) (pm_c1b rfl) rfl ?_
                        refine pm_aloadn hG dX12_quarter_280 rfl ?_
                        refine pm_getf hG dX12_quarter_281 (flX12_7 _ rfl) rfl rfl ?_
                        refine pm_bipush (v := nI 9) hG dX12_quarter_284 (by decide) ?_
                        refine pm_ialdN hG dX12_quarter_286 rfl (by decide) (by omega) ?_
                        refine pm_gen (fun x121 ex121 => ?_)
                        refine pm_iloadi hG dX12_quarter_287 rfl ?_
                        refine pm_icmp_lt (tgt := 318) hG dX12_quarter_289 rfl (fun c122 => ?_) (fun c122 => ?_)
                        · refine pm_aloadn hG dX12_quarter_318 rfl ?_
                          refine pm_getf hG dX12_quarter_319 (flX12_7 _ rfl) rfl rfl ?_
                          refine pm_iloadn hG dX12_quarter_322 rfl ?_
                          refine pm_iconst (v := nI 3) hG dX12_quarter_323 (by decide) ?_
                          refine pm_iaddN (c := 6 * i6 + 1773) hG dX12_quarter_324 (by omega) ?_
                          refine pm_dup2 hG dX12_quarter_325 rfl rfl ?_
                          refine pm_ialdN hG dX12_quarter_326 rfl (by decide) (by omega) ?_
                          refine pm_gen (fun x123 ex123 => ?_)
                          refine pm_iconst (v := nI 1) hG dX12_quarter_327 (by decide) ?_
                          refine pm_iadd hG dX12_quarter_328 ?_
                          refine pm_iastN hG dX12_quarter_329 rfl (by decide) (by omega) ?_
                          refine mdn_now (fun n_124 en_124 => ?_)
                          have hnn_124 := KI.w en_124 hnn_112 (okv_f (show kd (6 * i6 + 1773) = (0, 0, false) from (kd_D (k := i6) (c := 3) (by omega) (by omega) (by decide))))
                          have hrn_124 := NRx.w en_124 hrn_112 (by rw [(show kd (6 * i6 + 1773) = (0, 0, false) from (kd_D (k := i6) (c := 3) (by omega) (by omega) (by decide)))])
                          have e125 : n_124 8 = nI kc8 := by rw [en_124, pk_un (by omega)]; exact e113
                          have e126 : n_124 0 = nI kc0 := by rw [en_124, pk_un (by omega)]; exact e114
                          have e127 : n_124 1 = nI kc1 := by rw [en_124, pk_un (by omega)]; exact e115
                          have e128 : n_124 6 = nI k7 := by rw [en_124, pk_un (by omega)]; exact e116
                          have e129 : n_124 (6 * i6 + 1771) = x10 := by rw [en_124, pk_un (by omega)]; exact e117
                          have e130 : n_124 (6 * i6 + 1770) = x9 + x11 := by rw [en_124, pk_un (by omega)]; exact e118
                          have e131 : n_124 (6 * i6 + 1772) = x119 := by rw [en_124, pk_un (by omega)]; exact ex119
                          have e132 : n_124 9 = x121 := by rw [en_124, pk_un (by omega)]; exact ex121
                          have e133 : n_124 (6 * i6 + 1773) = x123 + (nI 1) := by rw [en_124, pk_us]
                          refine pm_aloadn hG dX12_quarter_330 rfl ?_
                          refine pm_getf hG dX12_quarter_331 (flX12_7 _ rfl) rfl rfl ?_
                          refine pm_iloadn hG dX12_quarter_334 rfl ?_
                          refine pm_iconst (v := nI 3) hG dX12_quarter_335 (by decide) ?_
                          refine pm_iaddN (c := 6 * i6 + 1773) hG dX12_quarter_336 (by omega) ?_
                          refine pm_ialdN hG dX12_quarter_337 rfl (by decide) (by omega) ?_
                          refine pm_top (v := x123 + (nI 1)) e133 ?_
                          refine pm_iconst (v := nI 2) hG dX12_quarter_338 (by decide) ?_
                          refine pm_icmp_ne (tgt := 363) hG dX12_quarter_339 rfl (fun c134 => ?_) (fun c134 => ?_)
                          · refine pm_iincX (v := nI (i6 + 1)) (loc' := [some (.ref (B + 54)), some (.int (nI (i6 + 1))), some (.int (nI (6 * i6 + 1770))), some (.int (x9 + x11)), some (.int x119)]) hG dX12_quarter_363 rfl (nI_1 _) (by decide) (pm_c1b rfl) rfl ?_
                            refine pm_goto (tgt := 180) hG dX12_quarter_366 rfl ?_
                            refine pm_fg 2 (loc' := [some (.ref (B + 54)), some (.int (nI (i6 + 1))), none, some (.int (x9 + x11)), some (.int x119)]) rfl ?_
                            refine pm_fg 3 (loc' := [some (.ref (B + 54)), some (.int (nI (i6 + 1))), none, none, some (.int x119)]) rfl ?_
                            refine pm_fg 4 (loc' := [some (.ref (B + 54)), some (.int (nI (i6 + 1))), none, none, none]) rfl ?_
                            exact ih6 n_124 (i6 + 1) hnn_124 hrn_124 (e125.trans (congrArg nI (by omega))) (e126.trans (congrArg nI (by omega))) (e127.trans (congrArg nI (by omega))) (by omega) (by omega)
                          · refine pm_aloadn hG dX12_quarter_342 rfl ?_
                            refine pm_getf hG dX12_quarter_343 (flX12_7 _ rfl) rfl rfl ?_
                            refine pm_bipush (v := nI 20) hG dX12_quarter_346 (by decide) ?_
                            refine pm_iconst (v := nI 3) hG dX12_quarter_348 (by decide) ?_
                            refine pm_aloadn hG dX12_quarter_349 rfl ?_
                            refine pm_getf hG dX12_quarter_350 (flX12_7 _ rfl) rfl rfl ?_
                            refine pm_iloadn hG dX12_quarter_353 rfl ?_
                            refine pm_iconst (v := nI 4) hG dX12_quarter_354 (by decide) ?_
                            refine pm_iaddN (c := 6 * i6 + 1774) hG dX12_quarter_355 (by omega) ?_
                            refine pm_ialdN hG dX12_quarter_356 rfl (by decide) (by omega) ?_
                            obtain ⟨k135, hk135, ek135⟩ := KI.nat hnn_124 (show kd (6 * i6 + 1774) = (1, 10, false) from (kd_D (k := i6) (c := 4) (by omega) (by omega) (by decide)))
                            refine pm_top (v := nI k135) ek135 ?_
                            refine pm_imulN (c := 3 * k135) hG dX12_quarter_357 (by omega) ?_
                            refine pm_iaddN (c := 3 * k135 + 20) hG dX12_quarter_358 (by omega) ?_
                            refine pm_iconst (v := nI 2) hG dX12_quarter_359 (by decide) ?_
                            refine pm_iaddN (c := 3 * k135 + 22) hG dX12_quarter_360 (by omega) ?_
                            refine pm_iconst (v := nI 1) hG dX12_quarter_361 (by decide) ?_
                            refine pm_iastN hG dX12_quarter_362 rfl (by decide) (by omega) ?_
                            refine mdn_now (fun n_136 en_136 => ?_)
                            have hnn_136 := KI.w en_136 hnn_124 (okv_f (show kd (3 * k135 + 22) = (0, 0, false) from (kd_T (k := k135) (c := 2) (by omega) (by omega) (by decide))))
                            have hrn_136 := NRx.w en_136 hrn_124 (by rw [(show kd (3 * k135 + 22) = (0, 0, false) from (kd_T (k := k135) (c := 2) (by omega) (by omega) (by decide)))])
                            have e137 : n_136 8 = nI kc8 := by rw [en_136, pk_un (by omega)]; exact e125
                            have e138 : n_136 0 = nI kc0 := by rw [en_136, pk_un (by omega)]; exact e126
                            have e139 : n_136 1 = nI kc1 := by rw [en_136, pk_un (by omega)]; exact e127
                            have e140 : n_136 6 = nI k7 := by rw [en_136, pk_un (by omega)]; exact e128
                            have e141 : n_136 (6 * i6 + 1771) = x10 := by rw [en_136, pk_un (by omega)]; exact e129
                            have e142 : n_136 (6 * i6 + 1770) = x9 + x11 := by rw [en_136, pk_un (by omega)]; exact e130
                            have e143 : n_136 (6 * i6 + 1772) = x119 := by rw [en_136, pk_un (by omega)]; exact e131
                            have e144 : n_136 9 = x121 := by rw [en_136, pk_un (by omega)]; exact e132
                            have e145 : n_136 (6 * i6 + 1773) = x123 + (nI 1) := by rw [en_136, pk_un (by omega)]; exact e133
                            have e146 : n_136 (6 * i6 + 1774) = nI k135 := by rw [en_136, pk_un (by omega)]; exact ek135
                            have e147 : n_136 (3 * k135 + 22) = nI 1 := by rw [en_136, pk_us]
                            refine pm_iincX (v := nI (i6 + 1)) (loc' := [some (.ref (B + 54)), some (.int (nI (i6 + 1))), some (.int (nI (6 * i6 + 1770))), some (.int (x9 + x11)), some (.int x119)]) hG dX12_quarter_363 rfl (nI_1 _) (by decide) (pm_c1b rfl) rfl ?_
                            refine pm_goto (tgt := 180) hG dX12_quarter_366 rfl ?_
                            refine pm_fg 2 (loc' := [some (.ref (B + 54)), some (.int (nI (i6 + 1))), none, some (.int (x9 + x11)), some (.int x119)]) rfl ?_
                            refine pm_fg 3 (loc' := [some (.ref (B + 54)), some (.int (nI (i6 + 1))), none, none, some (.int x119)]) rfl ?_
                            refine pm_fg 4 (loc' := [some (.ref (B + 54)), some (.int (nI (i6 + 1))), none, none, none]) rfl ?_
                            exact ih6 n_136 (i6 + 1) hnn_136 hrn_136 (e137.trans (congrArg nI (by omega))) (e138.trans (congrArg nI (by omega))) (e139.trans (congrArg nI (by omega))) (by omega) (by omega)
                        · refine pm_aloadn hG dX12_quarter_292 rfl ?_
                          refine pm_getf hG dX12_quarter_293 (flX12_7 _ rfl) rfl rfl ?_
                          refine pm_bipush (v := nI 9) hG dX12_quarter_296 (by decide) ?_
                          refine pm_dup2 hG dX12_quarter_298 rfl rfl ?_
                          refine pm_ialdN hG dX12_quarter_299 rfl (by decide) (by omega) ?_
                          refine pm_top (v := x121) ex121 ?_
                          refine pm_iloadi hG dX12_quarter_300 rfl ?_
                          refine pm_isub hG dX12_quarter_302 ?_
                          refine pm_iastN hG dX12_quarter_303 rfl (by decide) (by omega) ?_
                          refine mdn_now (fun n_148 en_148 => ?_)
                          have hnn_148 := KI.w en_148 hnn_112 (okv_f (show kd 9 = (0, 0, false) by decide))
                          have hrn_148 := NRx.w en_148 hrn_112 (by rw [(show kd 9 = (0, 0, false) by decide)])
                          have e149 : n_148 8 = nI kc8 := by rw [en_148, pk_un (by omega)]; exact e113
                          have e150 : n_148 0 = nI kc0 := by rw [en_148, pk_un (by omega)]; exact e114
                          have e151 : n_148 1 = nI kc1 := by rw [en_148, pk_un (by omega)]; exact e115
                          have e152 : n_148 6 = nI k7 := by rw [en_148, pk_un (by omega)]; exact e116
                          have e153 : n_148 (6 * i6 + 1771) = x10 := by rw [en_148, pk_un (by omega)]; exact e117
                          have e154 : n_148 (6 * i6 + 1770) = x9 + x11 := by rw [en_148, pk_un (by omega)]; exact e118
                          have e155 : n_148 (6 * i6 + 1772) = x119 := by rw [en_148, pk_un (by omega)]; exact ex119
                          have e156 : n_148 9 = x121 - x119 := by rw [en_148, pk_us]
                          refine pm_aloadn hG dX12_quarter_304 rfl ?_
                          refine pm_getf hG dX12_quarter_305 (flX12_7 _ rfl) rfl rfl ?_
                          refine pm_iloadn hG dX12_quarter_308 rfl ?_
                          refine pm_dup2 hG dX12_quarter_309 rfl rfl ?_
                          refine pm_ialdN hG dX12_quarter_310 rfl (by decide) (by omega) ?_
                          refine pm_top (v := x9 + x11) e154 ?_
                          refine pm_iloadi hG dX12_quarter_311 rfl ?_
                          refine pm_isub hG dX12_quarter_313 ?_
                          refine pm_iastN hG dX12_quarter_314 rfl (by decide) (by omega) ?_
                          refine mdn_now (fun n_157 en_157 => ?_)
                          have hnn_157 := KI.w en_157 hnn_148 (okv_f (show kd (6 * i6 + 1770) = (0, 0, false) from (kd_D (k := i6) (c := 0) (by omega) (by omega) (by decide))))
                          have hrn_157 := NRx.w en_157 hrn_148 (by rw [(show kd (6 * i6 + 1770) = (0, 0, false) from (kd_D (k := i6) (c := 0) (by omega) (by omega) (by decide)))])
                          have e158 : n_157 8 = nI kc8 := by rw [en_157, pk_un (by omega)]; exact e149
                          have e159 : n_157 0 = nI kc0 := by rw [en_157, pk_un (by omega)]; exact e150
                          have e160 : n_157 1 = nI kc1 := by rw [en_157, pk_un (by omega)]; exact e151
                          have e161 : n_157 6 = nI k7 := by rw [en_157, pk_un (by omega)]; exact e152
                          have e162 : n_157 (6 * i6 + 1771) = x10 := by rw [en_157, pk_un (by omega)]; exact e153
                          have e163 : n_157 (6 * i6 + 1772) = x119 := by rw [en_157, pk_un (by omega)]; exact e155
                          have e164 : n_157 9 = x121 - x119 := by rw [en_157, pk_un (by omega)]; exact e156
                          have e165 : n_157 (6 * i6 + 1770) = (x9 + x11) - x119 := by rw [en_157, pk_us]
                          refine pm_goto (tgt := 363) hG dX12_quarter_315 rfl ?_
                          refine pm_iincX (v := nI (i6 + 1)) (loc' := [some (.ref (B + 54)), some (.int (nI (i6 + 1))), some (.int (nI (6 * i6 + 1770))), some (.int (x9 + x11)), some (.int x119)]) hG dX12_quarter_363 rfl (nI_1 _) (by decide) (pm_c1b rfl) rfl ?_
                          refine pm_goto (tgt := 180) hG dX12_quarter_366 rfl ?_
                          refine pm_fg 2 (loc' := [some (.ref (B + 54)), some (.int (nI (i6 + 1))), none, some (.int (x9 + x11)), some (.int x119)]) rfl ?_
                          refine pm_fg 3 (loc' := [some (.ref (B + 54)), some (.int (nI (i6 + 1))), none, none, some (.int x119)]) rfl ?_
                          refine pm_fg 4 (loc' := [some (.ref (B + 54)), some (.int (nI (i6 + 1))), none, none, none]) rfl ?_
                          exact ih6 n_157 (i6 + 1) hnn_157 hrn_157 (e158.trans (congrArg nI (by omega))) (e159.trans (congrArg nI (by omega))) (e160.trans (congrArg nI (by omega))) (by omega) (by omega)
                      · refine pm_aloadn hG dX12_quarter_261 rfl ?_
                        refine pm_getf hG dX12_quarter_262 (flX12_7 _ rfl) rfl rfl ?_
                        refine pm_iloadn hG dX12_quarter_265 rfl ?_
                        refine pm_ialdN hG dX12_quarter_266 rfl (by decide) (by omega) ?_
                        refine pm_top (v := x9 + x11) e118 ?_
                        refine pm_goto (tgt := 278) hG dX12_quarter_267 rfl ?_
                        refine pm_istoreXi (loc' := [some (.ref (B + 54)), some (.int (nI i6)), some (.int (nI (6 * i6 + 1770))), some (.int (x9 + x11)), some (.int (x9 + x11))]) hG dX12_quarter_278 (by decide) (pm_c1b rfl) rfl ?_
                        refine pm_aloadn hG dX12_quarter_280 rfl ?_
                        refine pm_getf hG dX12_quarter_281 (flX12_7 _ rfl) rfl rfl ?_
                        refine pm_bipush (v := nI 9) hG dX12_quarter_284 (by decide) ?_
                        refine pm_ialdN hG dX12_quarter_286 rfl (by decide) (by omega) ?_
                        refine pm_gen (fun x166 ex166 => ?_)
                        refine pm_iloadi hG dX12_quarter_287 rfl ?_
                        refine pm_icmp_lt (tgt := 318) hG dX12_quarter_289 rfl (fun c167 => ?_) (fun c167 => ?_)
                        · refine pm_aloadn hG dX12_quarter_318 rfl ?_
                          refine pm_getf hG dX12_quarter_319 (flX12_7 _ rfl) rfl rfl ?_
                          refine pm_iloadn hG dX12_quarter_322 rfl ?_
                          refine pm_iconst (v := nI 3) hG dX12_quarter_323 (by decide) ?_
                          refine pm_iaddN (c := 6 * i6 + 1773) hG dX12_quarter_324 (by omega) ?_
                          refine pm_dup2 hG dX12_quarter_325 rfl rfl ?_
                          refine pm_ialdN hG dX12_quarter_326 rfl (by decide) (by omega) ?_
                          refine pm_gen (fun x168 ex168 => ?_)
                          refine pm_iconst (v := nI 1) hG dX12_quarter_327 (by decide) ?_
                          refine pm_iadd hG dX12_quarter_328 ?_
                          refine pm_iastN hG dX12_quarter_329 rfl (by decide) (by omega) ?_
                          refine mdn_now (fun n_169 en_169 => ?_)
                          have hnn_169 := KI.w en_169 hnn_112 (okv_f (show kd (6 * i6 + 1773) = (0, 0, false) from (kd_D (k := i6) (c := 3) (by omega) (by omega) (by decide))))
                          have hrn_169 := NRx.w en_169 hrn_112 (by rw [(show kd (6 * i6 + 1773) = (0, 0, false) from (kd_D (k := i6) (c := 3) (by omega) (by omega) (by decide)))])
                          have e170 : n_169 8 = nI kc8 := by rw [en_169, pk_un (by omega)]; exact e113
                          have e171 : n_169 0 = nI kc0 := by rw [en_169, pk_un (by omega)]; exact e114
                          have e172 : n_169 1 = nI kc1 := by rw [en_169, pk_un (by omega)]; exact e115
                          have e173 : n_169 6 = nI k7 := by rw [en_169, pk_un (by omega)]; exact e116
                          have e174 : n_169 (6 * i6 + 1771) = x10 := by rw [en_169, pk_un (by omega)]; exact e117
                          have e175 : n_169 (6 * i6 + 1770) = x9 + x11 := by rw [en_169, pk_un (by omega)]; exact e118
                          have e176 : n_169 (6 * i6 + 1772) = x119 := by rw [en_169, pk_un (by omega)]; exact ex119
                          have e177 : n_169 9 = x166 := by rw [en_169, pk_un (by omega)]; exact ex166
                          have e178 : n_169 (6 * i6 + 1773) = x168 + (nI 1) := by rw [en_169, pk_us]
                          refine pm_aloadn hG dX12_quarter_330 rfl ?_
                          refine pm_getf hG dX12_quarter_331 (flX12_7 _ rfl) rfl rfl ?_
                          refine pm_iloadn hG dX12_quarter_334 rfl ?_
                          refine pm_iconst (v := nI 3) hG dX12_quarter_335 (by decide) ?_
                          refine pm_iaddN (c := 6 * i6 + 1773) hG dX12_quarter_336 (by omega) ?_
                          refine pm_ialdN hG dX12_quarter_337 rfl (by decide) (by omega) ?_
                          refine pm_top (v := x168 + (nI 1)) e178 ?_
                          refine pm_iconst (v := nI 2) hG dX12_quarter_338 (by decide) ?_
                          refine pm_icmp_ne (tgt := 363) hG dX12_quarter_339 rfl (fun c179 => ?_) (fun c179 => ?_)
                          · refine pm_iincX (v := nI (i6 + 1)) (loc' := [some (.ref (B + 54)), some (.int (nI (i6 + 1))), some (.int (nI (6 * i6 + 1770))), some (.int (x9 + x11)), some (.int (x9 + x11))]) hG dX12_quarter_363 rfl (nI_1 _) (by decide) (pm_c1b rfl) rfl ?_
                            refine pm_goto (tgt := 180) hG dX12_quarter_366 rfl ?_
                            refine pm_fg 2 (loc' := [some (.ref (B + 54)), some (.int (nI (i6 + 1))), none, some (.int (x9 + x11)), some (.int (x9 + x11))]) rfl ?_
                            refine pm_fg 3 (loc' := [some (.ref (B + 54)), some (.int (nI (i6 + 1))), none, none, some (.int (x9 + x11))]) rfl ?_
                            refine pm_fg 4 (loc' := [some (.ref (B + 54)), some (.int (nI (i6 + 1))), none, none, none]) rfl ?_
                            exact ih6 n_169 (i6 + 1) hnn_169 hrn_169 (e170.trans (congrArg nI (by omega))) (e171.trans (congrArg nI (by omega))) (e172.trans (congrArg nI (by omega))) (by omega) (by omega)
                          · refine pm_aloadn hG dX12_quarter_342 rfl ?_
                            refine pm_getf hG dX12_quarter_343 (flX12_7 _ rfl) rfl rfl ?_
                            refine pm_bipush (v := nI 20) hG dX12_quarter_346 (by decide) ?_
                            refine pm_iconst (v := nI 3) hG dX12_quarter_348 (by decide) ?_
                            refine pm_aloadn hG dX12_quarter_349 rfl ?_
                            refine pm_getf hG dX12_quarter_350 (flX12_7 _ rfl) rfl rfl ?_
                            refine pm_iloadn hG dX12_quarter_353 rfl ?_
                            refine pm_iconst (v := nI 4) hG dX12_quarter_354 (by decide) ?_
                            refine pm_iaddN (c := 6 * i6 + 1774) hG dX12_quarter_355 (by omega) ?_
                            refine pm_ialdN hG dX12_quarter_356 rfl (by decide) (by omega) ?_
                            obtain ⟨k180, hk180, ek180⟩ := KI.nat hnn_169 (show kd (6 * i6 + 1774) = (1, 10, false) from (kd_D (k := i6) (c := 4) (by omega) (by omega) (by decide)))
                            refine pm_top (v := nI k180) ek180 ?_
                            refine pm_imulN (c := 3 * k180) hG dX12_quarter_357 (by omega) ?_
                            refine pm_iaddN (c := 3 * k180 + 20) hG dX12_quarter_358 (by omega) ?_
                            refine pm_iconst (v := nI 2) hG dX12_quarter_359 (by decide) ?_
                            refine pm_iaddN (c := 3 * k180 + 22) hG dX12_quarter_360 (by omega) ?_
                            refine pm_iconst (v := nI 1) hG dX12_quarter_361 (by decide) ?_
                            refine pm_iastN hG dX12_quarter_362 rfl (by decide) (by omega) ?_
                            refine mdn_now (fun n_181 en_181 => ?_)
                            have hnn_181 := KI.w en_181 hnn_169 (okv_f (show kd (3 * k180 + 22) = (0, 0, false) from (kd_T (k := k180) (c := 2) (by omega) (by omega) (by decide))))
                            have hrn_181 := NRx.w en_181 hrn_169 (by rw [(show kd (3 * k180 + 22) = (0, 0, false) from (kd_T (k := k180) (c := 2) (by omega) (by omega) (by decide)))])
                            have e182 : n_181 8 = nI kc8 := by rw [en_181, pk_un (by omega)]; exact e170
                            have e183 : n_181 0 = nI kc0 := by rw [en_181, pk_un (by omega)]; exact e171
                            have e184 : n_181 1 = nI kc1 := by rw [en_181, pk_un (by omega)]; exact e172
                            have e185 : n_181 6 = nI k7 := by rw [en_181, pk_un (by omega)]; exact e173
                            have e186 : n_181 (6 * i6 + 1771) = x10 := by rw [en_181, pk_un (by omega)]; exact e174
                            have e187 : n_181 (6 * i6 + 1770) = x9 + x11 := by rw [en_181, pk_un (by omega)]; exact e175
                            have e188 : n_181 (6 * i6 + 1772) = x119 := by rw [en_181, pk_un (by omega)]; exact e176
                            have e189 : n_181 9 = x166 := by rw [en_181, pk_un (by omega)]; exact e177
                            have e190 : n_181 (6 * i6 + 1773) = x168 + (nI 1) := by rw [en_181, pk_un (by omega)]; exact e178
                            have e191 : n_181 (6 * i6 + 1774) = nI k180 := by rw [en_181, pk_un (by omega)]; exact ek180
                            have e192 : n_181 (3 * k180 + 22) = nI 1 := by rw [en_181, pk_us]
                            refine pm_iincX (v := nI (i6 + 1)) (loc' := [some (.ref (B + 54)), some (.int (nI (i6 + 1))), some (.int (nI (6 * i6 + 1770))), some (.int (x9 + x11)), some (.int (x9 + x11))]) hG dX12_quarter_363 rfl (nI_1 _) (by decide) (pm_c1b rfl) rfl ?_
                            refine pm_goto (tgt := 180) hG dX12_quarter_366 rfl ?_
                            refine pm_fg 2 (loc' := [some (.ref (B + 54)), some (.int (nI (i6 + 1))), none, some (.int (x9 + x11)), some (.int (x9 + x11))]) rfl ?_
                            refine pm_fg 3 (loc' := [some (.ref (B + 54)), some (.int (nI (i6 + 1))), none, none, some (.int (x9 + x11))]) rfl ?_
                            refine pm_fg 4 (loc' := [some (.ref (B + 54)), some (.int (nI (i6 + 1))), none, none, none]) rfl ?_
                            exact ih6 n_181 (i6 + 1) hnn_181 hrn_181 (e182.trans (congrArg nI (by omega))) (e183.trans (congrArg nI (by omega))) (e184.trans (congrArg nI (by omega))) (by omega) (by omega)
                        · refine pm_aloadn hG dX12_quarter_292 rfl ?_
                          refine pm_getf hG dX12_quarter_293 (flX12_7 _ rfl) rfl rfl ?_
                          refine pm_bipush (v := nI 9) hG dX12_quarter_296 (by decide) ?_
                          refine pm_dup2 hG dX12_quarter_298 rfl rfl ?_
                          refine pm_ialdN hG dX12_quarter_299 rfl (by decide) (by omega) ?_
                          refine pm_top (v := x166) ex166 ?_
                          refine pm_iloadi hG dX12_quarter_300 rfl ?_
                          refine pm_isub hG dX12_quarter_302 ?_
                          refine pm_iastN hG dX12_quarter_303 rfl (by decide) (by omega) ?_
                          refine mdn_now (fun n_193 en_193 => ?_)
                          have hnn_193 := KI.w en_193 hnn_112 (okv_f (show kd 9 = (0, 0, false) by decide))
                          have hrn_193 := NRx.w en_193 hrn_112 (by rw [(show kd 9 = (0, 0, false) by decide)])
                          have e194 : n_193 8 = nI kc8 := by rw [en_193, pk_un (by omega)]; exact e113
                          have e195 : n_193 0 = nI kc0 := by rw [en_193, pk_un (by omega)]; exact e114
                          have e196 : n_193 1 = nI kc1 := by rw [en_193, pk_un (by omega)]; exact e115
                          have e197 : n_193 6 = nI k7 := by rw [en_193, pk_un (by omega)]; exact e116
                          have e198 : n_193 (6 * i6 + 1771) = x10 := by rw [en_193, pk_un (by omega)]; exact e117
                          have e199 : n_193 (6 * i6 + 1770) = x9 + x11 := by rw [en_193, pk_un (by omega)]; exact e118
                          have e200 : n_193 (6 * i6 + 1772) = x119 := by rw [en_193, pk_un (by omega)]; exact ex119
                          have e201 : n_193 9 = x166 - (x9 + x11) := by rw [en_193, pk_us]
                          refine pm_aloadn hG dX12_quarter_304 rfl ?_
                          refine pm_getf hG dX12_quarter_305 (flX12_7 _ rfl) rfl rfl ?_
                          refine pm_iloadn hG dX12_quarter_308 rfl ?_
                          refine pm_dup2 hG dX12_quarter_309 rfl rfl ?_
                          refine pm_ialdN hG dX12_quarter_310 rfl (by decide) (by omega) ?_
                          refine pm_top (v := x9 + x11) e199 ?_
                          refine pm_iloadi hG dX12_quarter_311 rfl ?_
                          refine pm_isub hG dX12_quarter_313 ?_
                          refine pm_iastN hG dX12_quarter_314 rfl (by decide) (by omega) ?_
                          refine mdn_now (fun n_202 en_202 => ?_)
                          have hnn_202 := KI.w en_202 hnn_193 (okv_f (show kd (6 * i6 + 1770) = (0, 0, false) from (kd_D (k := i6) (c := 0) (by omega) (by omega) (by decide))))
                          have hrn_202 := NRx.w en_202 hrn_193 (by rw [(show kd (6 * i6 + 1770) = (0, 0, false) from (kd_D (k := i6) (c := 0) (by omega) (by omega) (by decide)))])
                          have e203 : n_202 8 = nI kc8 := by rw [en_202, pk_un (by omega)]; exact e194
                          have e204 : n_202 0 = nI kc0 := by rw [en_202, pk_un (by omega)]; exact e195
                          have e205 : n_202 1 = nI kc1 := by rw [en_202, pk_un (by omega)]; exact e196
                          have e206 : n_202 6 = nI k7 := by rw [en_202, pk_un (by omega)]; exact e197
                          have e207 : n_202 (6 * i6 + 1771) = x10 := by rw [en_202, pk_un (by omega)]; exact e198
                          have e208 : n_202 (6 * i6 + 1772) = x119 := by rw [en_202, pk_un (by omega)]; exact e200
                          have e209 : n_202 9 = x166 - (x9 + x11) := by rw [en_202, pk_un (by omega)]; exact e201
                          have e210 : n_202 (6 * i6 + 1770) = (x9 + x11) - (x9 + x11) := by rw [en_202, pk_us]
                          refine pm_goto (tgt := 363) hG dX12_quarter_315 rfl ?_
                          refine pm_iincX (v := nI (i6 + 1)) (loc' := [some (.ref (B + 54)), some (.int (nI (i6 + 1))), some (.int (nI (6 * i6 + 1770))), some (.int (x9 + x11)), some (.int (x9 + x11))]) hG dX12_quarter_363 rfl (nI_1 _) (by decide) (pm_c1b rfl) rfl ?_
                          refine pm_goto (tgt := 180) hG dX12_quarter_366 rfl ?_
                          refine pm_fg 2 (loc' := [some (.ref (B + 54)), some (.int (nI (i6 + 1))), none, some (.int (x9 + x11)), some (.int (x9 + x11))]) rfl ?_
                          refine pm_fg 3 (loc' := [some (.ref (B + 54)), some (.int (nI (i6 + 1))), none, none, some (.int (x9 + x11))]) rfl ?_
                          refine pm_fg 4 (loc' := [some (.ref (B + 54)), some (.int (nI (i6 + 1))), none, none, none]) rfl ?_
                          exact ih6 n_202 (i6 + 1) hnn_202 hrn_202 (e203.trans (congrArg nI (by omega))) (e204.trans (congrArg nI (by omega))) (e205.trans (congrArg nI (by omega))) (by omega) (by omega)
              exact loop180_6 _ n_3 0 hnn_3 hrn_3 (kc3_8.trans (congrArg nI (by omega))) (kc3_0.trans (congrArg nI (by omega))) (kc3_1.trans (congrArg nI (by omega))) (by omega) (Nat.lt_succ_self _)
            · refine pm_aloadn hG dX12_quarter_113 rfl ?_
              refine pm_iloadn hG dX12_quarter_114 rfl ?_
              refine pm_bipush (v := nI 7) hG dX12_quarter_115 (by decide) ?_
              refine pm_callV (As := [.int (nI i3), .int (nI 7)]) (rest := []) hG hR dX12_quarter_117 (lkX12_72 _ rfl) okV_X12_man rfl rfl (m_man (d := 1) (e := 14 * i3 + 117) (by omega) (by omega) (by omega)) rfl rfl hdd (Nat.le_refl _) (Nat.le_refl _) (by decide) (pm_ki (fun v211 σ' cnt' hq => ?_))
              obtain ⟨rfl, rfl, rfl⟩ := hq
              refine pm_gen (fun x212 ex212 => ?_)
              refine pm_aloadn hG dX12_quarter_120 rfl ?_
              refine pm_iloadn hG dX12_quarter_121 rfl ?_
              refine pm_bipush (v := nI 8) hG dX12_quarter_122 (by decide) ?_
              refine pm_callV (As := [.int (nI i3), .int (nI 8)]) (rest := [.int x212]) hG hR dX12_quarter_124 (lkX12_72 _ rfl) okV_X12_man rfl rfl (m_man (d := 1) (e := 14 * i3 + 118) (by omega) (by omega) (by omega)) rfl rfl hdd (Nat.le_refl _) (Nat.le_refl _) (Nat.le_of_ble_eq_true rfl) (pm_ki (fun v213 σ' cnt' hq => ?_))
              obtain ⟨rfl, rfl, rfl⟩ := hq
              refine pm_gen (fun x214 ex214 => ?_)
              refine pm_icmp_ge (tgt := 140) hG dX12_quarter_127 rfl (fun c215 => ?_) (fun c215 => ?_)
              · refine pm_aloadn hG dX12_quarter_140 rfl ?_
                refine pm_iloadn hG dX12_quarter_141 rfl ?_
                refine pm_bipush (v := nI 8) hG dX12_quarter_142 (by decide) ?_
                refine pm_callV (As := [.int (nI i3), .int (nI 8)]) (rest := []) hG hR dX12_quarter_144 (lkX12_72 _ rfl) okV_X12_man rfl rfl (m_man (d := 1) (e := 14 * i3 + 118) (by omega) (by omega) (by omega)) rfl rfl hdd (Nat.le_refl _) (Nat.le_refl _) (by decide) (pm_ki (fun v216 σ' cnt' hq => ?_))
                obtain ⟨rfl, rfl, rfl⟩ := hq
                refine pm_top (v := x214) ex214 ?_
                refine pm_istoreXn (loc' := [some (.ref (B + 54)), some (.int (nI i3)), some (.int x214), none, none]) hG dX12_quarter_147 (by decide) (pm_c1b rfl) rfl ?_
                refine pm_aloadn hG dX12_quarter_148 rfl ?_
                refine pm_iloadn hG dX12_quarter_149 rfl ?_
                refine pm_bipush (v := nI 7) hG dX12_quarter_150 (by decide) ?_
                refine pm_aloadn hG dX12_quarter_152 rfl ?_
                refine pm_iloadn hG dX12_quarter_153 rfl ?_
                refine pm_bipush (v := nI 7) hG dX12_quarter_154 (by decide) ?_
                refine pm_callV (As := [.int (nI i3), .int (nI 7)]) (rest := [.int (nI 7), .int (nI i3), .ref (B + 54)]) hG hR dX12_quarter_156 (lkX12_72 _ rfl) okV_X12_man rfl rfl (m_man (d := 1) (e := 14 * i3 + 117) (by omega) (by omega) (by omega)) rfl rfl hdd (Nat.le_refl _) (Nat.le_refl _) (Nat.le_of_ble_eq_true rfl) (pm_ki (fun v217 σ' cnt' hq => ?_))
                obtain ⟨rfl, rfl, rfl⟩ := hq
                refine pm_top (v := x212) ex212 ?_
                refine pm_iloadn hG dX12_quarter_159 rfl ?_
                refine pm_isub hG dX12_quarter_160 ?_
                refine pm_callV (As := [.int (nI i3), .int (nI 7), .int (x212 - x214)]) (rest := []) hG hR dX12_quarter_161 (lkX12_97 _ rfl) okV_X12_sets rfl rfl (m_sets (d := 1) (e := 14 * i3 + 117) (by omega) (by omega) (by omega)) rfl rfl hdd (Nat.le_refl _) (Nat.le_refl _) (by decide) (pm_kv (fun σ' cnt' hq => ?_))
                obtain ⟨rfl, rfl⟩ := hq
                obtain ⟨n_218, en_218⟩ : ∃ f : Nat → Int32, f = upd n_3 (14 * i3 + 117) (x212 - x214) := ⟨_, rfl⟩
                rw [← en_218]
                have hnn_218 := KI.w en_218 hnn_3 (okv_f (show kd (14 * i3 + 117) = (0, 0, false) from (kd_P (k := i3) (c := 7) (by omega) (by omega) (by decide))))
                have hrn_218 := NRx.w en_218 hrn_3 (by rw [(show kd (14 * i3 + 117) = (0, 0, false) from (kd_P (k := i3) (c := 7) (by omega) (by omega) (by decide)))])
                have e219 : n_218 8 = nI kc8 := by rw [en_218, pk_un (by omega)]; exact kc3_8
                have e220 : n_218 0 = nI kc0 := by rw [en_218, pk_un (by omega)]; exact kc3_0
                have e221 : n_218 1 = nI kc1 := by rw [en_218, pk_un (by omega)]; exact kc3_1
                have e222 : n_218 2 = nI k4 := by rw [en_218, pk_un (by omega)]; exact ek4
                have e223 : n_218 (14 * i3 + 118) = x214 := by rw [en_218, pk_un (by omega)]; exact ex214
                have e224 : n_218 (14 * i3 + 117) = x212 - x214 := by rw [en_218, pk_us]
                refine pm_aloadn hG dX12_quarter_164 rfl ?_
                refine pm_iloadn hG dX12_quarter_165 rfl ?_
                refine pm_bipush (v := nI 8) hG dX12_quarter_166 (by decide) ?_
                refine pm_iloadn hG dX12_quarter_168 rfl ?_
                refine pm_callV (As := [.int (nI i3), .int (nI 8), .int x214]) (rest := []) hG hR dX12_quarter_169 (lkX12_97 _ rfl) okV_X12_sets rfl rfl (m_sets (d := 1) (e := 14 * i3 + 118) (by omega) (by omega) (by omega)) rfl rfl hdd (Nat.le_refl _) (Nat.le_refl _) (by decide) (pm_kv (fun σ' cnt' hq => ?_))
                obtain ⟨rfl, rfl⟩ := hq
                obtain ⟨n_225, en_225⟩ : ∃ f : Nat → Int32, f = upd n_218 (14 * i3 + 118) x214 := ⟨_, rfl⟩
                rw [← en_225]
                have hnn_225 := KI.w en_225 hnn_218 (okv_f (show kd (14 * i3 + 118) = (0, 0, false) from (kd_P (k := i3) (c := 8) (by omega) (by omega) (by decide))))
                have hrn_225 := NRx.w en_225 hrn_218 (by rw [(show kd (14 * i3 + 118) = (0, 0, false) from (kd_P (k := i3) (c := 8) (by omega) (by omega) (by decide)))])
                have e226 : n_225 8 = nI kc8 := by rw [en_225, pk_un (by omega)]; exact e219
                have e227 : n_225 0 = nI kc0 := by rw [en_225, pk_un (by omega)]; exact e220
                have e228 : n_225 1 = nI kc1 := by rw [en_225, pk_un (by omega)]; exact e221
                have e229 : n_225 2 = nI k4 := by rw [en_225, pk_un (by omega)]; exact e222
                have e230 : n_225 (14 * i3 + 117) = x212 - x214 := by rw [en_225, pk_un (by omega)]; exact e224
                have e231 : n_225 (14 * i3 + 118) = x214 := by rw [en_225, pk_us]
                refine pm_iincX (v := nI (i3 + 1)) (loc' := [some (.ref (B + 54)), some (.int (nI (i3 + 1))), some (.int x214), none, none]) hG dX12_quarter_172 rfl (nI_1 _) (by decide) (pm_c1b rfl) rfl ?_
                refine pm_goto (tgt := 103) hG dX12_quarter_175 rfl ?_
                refine pm_fg 2 (loc' := [some (.ref (B + 54)), some (.int (nI (i3 + 1))), none, none, none]) rfl ?_
                exact ih3 n_225 (i3 + 1) hnn_225 hrn_225 (e226.trans (congrArg nI (by omega))) (e227.trans (congrArg nI (by omega))) (e228.trans (congrArg nI (by omega))) (by omega) (by omega)
              · refine pm_aloadn hG dX12_quarter_130 rfl ?_
                refine pm_iloadn hG dX12_quarter_131 rfl ?_
                refine pm_bipush (v := nI 7) hG dX12_quarter_132 (by decide) ?_
                refine pm_callV (As := [.int (nI i3), .int (nI 7)]) (rest := []) hG hR dX12_quarter_134 (lkX12_72 _ rfl) okV_X12_man rfl rfl (m_man (d := 1) (e := 14 * i3 + 117) (by omega) (by omega) (by omega)) rfl rfl hdd (Nat.le_refl _) (Nat.le_refl _) (by decide) (pm_ki (fun v232 σ' cnt' hq => ?_))
                obtain ⟨rfl, rfl, rfl⟩ := hq
                refine pm_top (v := x212) ex212 ?_
                refine pm_goto (tgt := 147) hG dX12_quarter_137 rfl ?_
                refine pm_istoreXn (loc' := [some (.ref (B + 54)), some (.int (nI i3)), some (.int x212), none, none]) hG dX12_quarter_147 (by decide) (pm_c1b rfl) rfl ?_
                refine pm_aloadn hG dX12_quarter_148 rfl ?_
                refine pm_iloadn hG dX12_quarter_149 rfl ?_
                refine pm_bipush (v := nI 7) hG dX12_quarter_150 (by decide) ?_
                refine pm_aloadn hG dX12_quarter_152 rfl ?_
                refine pm_iloadn hG dX12_quarter_153 rfl ?_
                refine pm_bipush (v := nI 7) hG dX12_quarter_154 (by decide) ?_
                refine pm_callV (As := [.int (nI i3), .int (nI 7)]) (rest := [.int (nI 7), .int (nI i3), .ref (B + 54)]) hG hR dX12_quarter_156 (lkX12_72 _ rfl) okV_X12_man rfl rfl (m_man (d := 1) (e := 14 * i3 + 117) (by omega) (by omega) (by omega)) rfl rfl hdd (Nat.le_refl _) (Nat.le_refl _) (Nat.le_of_ble_eq_true rfl) (pm_ki (fun v233 σ' cnt' hq => ?_))
                obtain ⟨rfl, rfl, rfl⟩ := hq
                refine pm_top (v := x212) ex212 ?_
                refine pm_iloadn hG dX12_quarter_159 rfl ?_
                refine pm_isub hG dX12_quarter_160 ?_
                refine pm_callV (As := [.int (nI i3), .int (nI 7), .int (x212 - x212)]) (rest := []) hG hR dX12_quarter_161 (lkX12_97 _ rfl) okV_X12_sets rfl rfl (m_sets (d := 1) (e := 14 * i3 + 117) (by omega) (by omega) (by omega)) rfl rfl hdd (Nat.le_refl _) (Nat.le_refl _) (by decide) (pm_kv (fun σ' cnt' hq => ?_))
                obtain ⟨rfl, rfl⟩ := hq
                obtain ⟨n_234, en_234⟩ : ∃ f : Nat → Int32, f = upd n_3 (14 * i3 + 117) (x212 - x212) := ⟨_, rfl⟩
                rw [← en_234]
                have hnn_234 := KI.w en_234 hnn_3 (okv_f (show kd (14 * i3 + 117) = (0, 0, false) from (kd_P (k := i3) (c := 7) (by omega) (by omega) (by decide))))
                have hrn_234 := NRx.w en_234 hrn_3 (by rw [(show kd (14 * i3 + 117) = (0, 0, false) from (kd_P (k := i3) (c := 7) (by omega) (by omega) (by decide)))])
                have e235 : n_234 8 = nI kc8 := by rw [en_234, pk_un (by omega)]; exact kc3_8
                have e236 : n_234 0 = nI kc0 := by rw [en_234, pk_un (by omega)]; exact kc3_0
                have e237 : n_234 1 = nI kc1 := by rw [en_234, pk_un (by omega)]; exact kc3_1
                have e238 : n_234 2 = nI k4 := by rw [en_234, pk_un (by omega)]; exact ek4
                have e239 : n_234 (14 * i3 + 118) = x214 := by rw [en_234, pk_un (by omega)]; exact ex214
                have e240 : n_234 (14 * i3 + 117) = x212 - x212 := by rw [en_234, pk_us]
                refine pm_aloadn hG dX12_quarter_164 rfl ?_
                refine pm_iloadn hG dX12_quarter_165 rfl ?_
                refine pm_bipush (v := nI 8) hG dX12_quarter_166 (by decide) ?_
                refine pm_iloadn hG dX12_quarter_168 rfl ?_
                refine pm_callV (As := [.int (nI i3), .int (nI 8), .int x212]) (rest := []) hG hR dX12_quarter_169 (lkX12_97 _ rfl) okV_X12_sets rfl rfl (m_sets (d := 1) (e := 14 * i3 + 118) (by omega) (by omega) (by omega)) rfl rfl hdd (Nat.le_refl _) (Nat.le_refl _) (by decide) (pm_kv (fun σ' cnt' hq => ?_))
                obtain ⟨rfl, rfl⟩ := hq
                obtain ⟨n_241, en_241⟩ : ∃ f : Nat → Int32, f = upd n_234 (14 * i3 + 118) x212 := ⟨_, rfl⟩
                rw [← en_241]
                have hnn_241 := KI.w en_241 hnn_234 (okv_f (show kd (14 * i3 + 118) = (0, 0, false) from (kd_P (k := i3) (c := 8) (by omega) (by omega) (by decide))))
                have hrn_241 := NRx.w en_241 hrn_234 (by rw [(show kd (14 * i3 + 118) = (0, 0, false) from (kd_P (k := i3) (c := 8) (by omega) (by omega) (by decide)))])
                have e242 : n_241 8 = nI kc8 := by rw [en_241, pk_un (by omega)]; exact e235
                have e243 : n_241 0 = nI kc0 := by rw [en_241, pk_un (by omega)]; exact e236
                have e244 : n_241 1 = nI kc1 := by rw [en_241, pk_un (by omega)]; exact e237
                have e245 : n_241 2 = nI k4 := by rw [en_241, pk_un (by omega)]; exact e238
                have e246 : n_241 (14 * i3 + 117) = x212 - x212 := by rw [en_241, pk_un (by omega)]; exact e240
                have e247 : n_241 (14 * i3 + 118) = x212 := by rw [en_241, pk_us]
                refine pm_iincX (v := nI (i3 + 1)) (loc' := [some (.ref (B + 54)), some (.int (nI (i3 + 1))), some (.int x212), none, none]) hG dX12_quarter_172 rfl (nI_1 _) (by decide) (pm_c1b rfl) rfl ?_
                refine pm_goto (tgt := 103) hG dX12_quarter_175 rfl ?_
                refine pm_fg 2 (loc' := [some (.ref (B + 54)), some (.int (nI (i3 + 1))), none, none, none]) rfl ?_
                exact ih3 n_241 (i3 + 1) hnn_241 hrn_241 (e242.trans (congrArg nI (by omega))) (e243.trans (congrArg nI (by omega))) (e244.trans (congrArg nI (by omega))) (by omega) (by omega)
        exact loop103_3 _ n_1 0 hnn_1 hrn_1 (kc1_8.trans (congrArg nI (by omega))) (kc1_0.trans (congrArg nI (by omega))) (kc1_1.trans (congrArg nI (by omega))) (by omega) (Nat.lt_succ_self _)
      · refine pm_bipush (v := nI 20) hG dX12_quarter_12 (by decide) ?_
        refine pm_iconst (v := nI 3) hG dX12_quarter_14 (by decide) ?_
        refine pm_iloadn hG dX12_quarter_15 rfl ?_
        refine pm_imulN (c := 3 * i1) hG dX12_quarter_16 (by omega) ?_
        refine pm_iaddN (c := 3 * i1 + 20) hG dX12_quarter_17 (by omega) ?_
        refine pm_istoreXn (loc' := [some (.ref (B + 54)), some (.int (nI i1)), some (.int (nI (3 * i1 + 20))), none, none]) hG dX12_quarter_18 (by decide) (pm_c1b rfl) rfl ?_
        refine pm_aloadn hG dX12_quarter_19 rfl ?_
        refine pm_getf hG dX12_quarter_20 (flX12_7 _ rfl) rfl rfl ?_
        refine pm_iloadn hG dX12_quarter_23 rfl ?_
        refine pm_iconst (v := nI 1) hG dX12_quarter_24 (by decide) ?_
        refine pm_iaddN (c := 3 * i1 + 21) hG dX12_quarter_25 (by omega) ?_
        refine pm_ialdN hG dX12_quarter_26 rfl (by decide) (by omega) ?_
        rcases KI.opt hnn_1 (show kd (3 * i1 + 21) = (2, 20, false) from (kd_T (k := i1) (c := 1) (by omega) (by omega) (by decide))) with ek248 | ⟨k248, hk248, ek248⟩
        · refine pm_top (v := (-1)) ek248 ?_
          refine pm_istoreXn (loc' := [some (.ref (B + 54)), some (.int (nI i1)), some (.int (nI (3 * i1 + 20))), some (.int (-1)), none]) hG dX12_quarter_27 (by decide) (pm_c1b rfl) rfl ?_
          refine pm_aloadn hG dX12_quarter_28 rfl ?_
          refine pm_getf hG dX12_quarter_29 (flX12_7 _ rfl) rfl rfl ?_
          refine pm_iloadn hG dX12_quarter_32 rfl ?_
          refine pm_iconst (v := nI 2) hG dX12_quarter_33 (by decide) ?_
          refine pm_iaddN (c := 3 * i1 + 22) hG dX12_quarter_34 (by omega) ?_
          refine pm_ialdN hG dX12_quarter_35 rfl (by decide) (by omega) ?_
          refine pm_gen (fun x249 ex249 => ?_)
          refine pm_iconst (v := nI 1) hG dX12_quarter_36 (by decide) ?_
          refine pm_icmp_ne (tgt := 43) hG dX12_quarter_37 rfl (fun c250 => ?_) (fun c250 => ?_)
          · refine pm_iloadn hG dX12_quarter_43 rfl ?_
            refine pm_if_lt (tgt := 79) hG dX12_quarter_44 rfl (fun _ => ?_) (fun q => absurd q (by decide))
            refine pm_aloadn hG dX12_quarter_79 rfl ?_
            refine pm_getf hG dX12_quarter_80 (flX12_7 _ rfl) rfl rfl ?_
            refine pm_bipush (v := nI 9) hG dX12_quarter_83 (by decide) ?_
            refine pm_dup2 hG dX12_quarter_85 rfl rfl ?_
            refine pm_ialdN hG dX12_quarter_86 rfl (by decide) (by omega) ?_
            refine pm_gen (fun x251 ex251 => ?_)
            refine pm_aloadn hG dX12_quarter_87 rfl ?_
            refine pm_getf hG dX12_quarter_88 (flX12_7 _ rfl) rfl rfl ?_
            refine pm_iloadn hG dX12_quarter_91 rfl ?_
            refine pm_ialdN hG dX12_quarter_92 rfl (by decide) (by omega) ?_
            refine pm_gen (fun x252 ex252 => ?_)
            refine pm_iadd hG dX12_quarter_93 ?_
            refine pm_iastN hG dX12_quarter_94 rfl (by decide) (by omega) ?_
            refine mdn_now (fun n_253 en_253 => ?_)
            have hnn_253 := KI.w en_253 hnn_1 (okv_f (show kd 9 = (0, 0, false) by decide))
            have hrn_253 := NRx.w en_253 hrn_1 (by rw [(show kd 9 = (0, 0, false) by decide)])
            have e254 : n_253 8 = nI kc8 := by rw [en_253, pk_un (by omega)]; exact kc1_8
            have e255 : n_253 0 = nI kc0 := by rw [en_253, pk_un (by omega)]; exact kc1_0
            have e256 : n_253 1 = nI kc1 := by rw [en_253, pk_un (by omega)]; exact kc1_1
            have e257 : n_253 (3 * i1 + 21) = (-1) := by rw [en_253, pk_un (by omega)]; exact ek248
            have e258 : n_253 (3 * i1 + 22) = x249 := by rw [en_253, pk_un (by omega)]; exact ex249
            have e259 : n_253 (3 * i1 + 20) = x252 := by rw [en_253, pk_un (by omega)]; exact ex252
            have e260 : n_253 9 = x251 + x252 := by rw [en_253, pk_us]
            refine pm_iincX (v := nI (i1 + 1)) (loc' := [some (.ref (B + 54)), some (.int (nI (i1 + 1))), some (.int (nI (3 * i1 + 20))), some (.int (-1)), none]) hG dX12_quarter_95 rfl (nI_1 _) (by decide) (pm_c1b rfl) rfl ?_
            refine pm_goto (tgt := 2) hG dX12_quarter_98 rfl ?_
            refine pm_fg 2 (loc' := [some (.ref (B + 54)), some (.int (nI (i1 + 1))), none, some (.int (-1)), none]) rfl ?_
            refine pm_fg 3 (loc' := [some (.ref (B + 54)), some (.int (nI (i1 + 1))), none, none, none]) rfl ?_
            exact ih1 n_253 (i1 + 1) hnn_253 hrn_253 (e254.trans (congrArg nI (by omega))) (e255.trans (congrArg nI (by omega))) (e256.trans (congrArg nI (by omega))) (by omega) (by omega)
          · refine pm_goto (tgt := 95) hG dX12_quarter_40 rfl ?_
            refine pm_iincX (v := nI (i1 + 1)) (loc' := [some (.ref (B + 54)), some (.int (nI (i1 + 1))), some (.int (nI (3 * i1 + 20))), some (.int (-1)), none]) hG dX12_quarter_95 rfl (nI_1 _) (by decide) (pm_c1b rfl) rfl ?_
            refine pm_goto (tgt := 2) hG dX12_quarter_98 rfl ?_
            refine pm_fg 2 (loc' := [some (.ref (B + 54)), some (.int (nI (i1 + 1))), none, some (.int (-1)), none]) rfl ?_
            refine pm_fg 3 (loc' := [some (.ref (B + 54)), some (.int (nI (i1 + 1))), none, none, none]) rfl ?_
            exact ih1 n_1 (i1 + 1) hnn_1 hrn_1 (kc1_8.trans (congrArg nI (by omega))) (kc1_0.trans (congrArg nI (by omega))) (kc1_1.trans (congrArg nI (by omega))) (by omega) (by omega)
        · refine pm_top (v := nI k248) ek248 ?_
          refine pm_istoreXn (loc' := [some (.ref (B + 54)), some (.int (nI i1)), some (.int (nI (3 * i1 + 20))), some (.int (nI k248)), none]) hG dX12_quarter_27 (by decide) (pm_c1b rfl) rfl ?_
          refine pm_aloadn hG dX12_quarter_28 rfl ?_
          refine pm_getf hG dX12_quarter_29 (flX12_7 _ rfl) rfl rfl ?_
          refine pm_iloadn hG dX12_quarter_32 rfl ?_
          refine pm_iconst (v := nI 2) hG dX12_quarter_33 (by decide) ?_
          refine pm_iaddN (c := 3 * i1 + 22) hG dX12_quarter_34 (by omega) ?_
          refine pm_ialdN hG dX12_quarter_35 rfl (by decide) (by omega) ?_
          refine pm_gen (fun x261 ex261 => ?_)
          refine pm_iconst (v := nI 1) hG dX12_quarter_36 (by decide) ?_
          refine pm_icmp_ne (tgt := 43) hG dX12_quarter_37 rfl (fun c262 => ?_) (fun c262 => ?_)
          · refine pm_iloadn hG dX12_quarter_43 rfl ?_
            refine pm_ifN_lt hG dX12_quarter_44 rfl (by omega) ?_
            refine pm_aloadn hG dX12_quarter_47 rfl ?_
            refine pm_iloadn hG dX12_quarter_48 rfl ?_
            rcases KI.opt hnn_1 (show kd (14 * k248 + 119) = (2, 2001, false) from (kd_P (k := k248) (c := 9) (by omega) (by omega) (by decide))) with ek263 | ⟨k263, hk263, ek263⟩
            · refine pm_callV (As := [.int (nI k248)]) (rest := []) hG hR dX12_quarter_49 (lkX12_101 _ rfl) okV_X12_lives rfl rfl (m_lives1 (d := 1) (by decide) (by omega) (by omega : 14 * k248 + 119 = 14 * k248 + 119) ek263) rfl rfl hdd (Nat.le_refl _) (Nat.le_refl _) (by decide) (pm_ki (fun v264 σ' cnt' hq => ?_))
              obtain ⟨rfl, rfl, rfl⟩ := hq
              refine pm_ifN_eq (tgt := 79) hG dX12_quarter_52 rfl (by omega) (fun q => absurd q (by omega)) (fun _ => ?_)
              refine pm_aloadn hG dX12_quarter_55 rfl ?_
              refine pm_iloadn hG dX12_quarter_56 rfl ?_
              refine pm_bipush (v := nI 7) hG dX12_quarter_57 (by decide) ?_
              refine pm_aloadn hG dX12_quarter_59 rfl ?_
              refine pm_iloadn hG dX12_quarter_60 rfl ?_
              refine pm_bipush (v := nI 7) hG dX12_quarter_61 (by decide) ?_
              refine pm_callV (As := [.int (nI k248), .int (nI 7)]) (rest := [.int (nI 7), .int (nI k248), .ref (B + 54)]) hG hR dX12_quarter_63 (lkX12_72 _ rfl) okV_X12_man rfl rfl (m_man (d := 1) (e := 14 * k248 + 117) (by omega) (by omega) (by omega)) rfl rfl hdd (Nat.le_refl _) (Nat.le_refl _) (Nat.le_of_ble_eq_true rfl) (pm_ki (fun v265 σ' cnt' hq => ?_))
              obtain ⟨rfl, rfl, rfl⟩ := hq
              refine pm_gen (fun x266 ex266 => ?_)
              refine pm_aloadn hG dX12_quarter_66 rfl ?_
              refine pm_getf hG dX12_quarter_67 (flX12_7 _ rfl) rfl rfl ?_
              refine pm_iloadn hG dX12_quarter_70 rfl ?_
              refine pm_ialdN hG dX12_quarter_71 rfl (by decide) (by omega) ?_
              refine pm_gen (fun x267 ex267 => ?_)
              refine pm_iadd hG dX12_quarter_72 ?_
              refine pm_callV (As := [.int (nI k248), .int (nI 7), .int (x266 + x267)]) (rest := []) hG hR dX12_quarter_73 (lkX12_97 _ rfl) okV_X12_sets rfl rfl (m_sets (d := 1) (e := 14 * k248 + 117) (by omega) (by omega) (by omega)) rfl rfl hdd (Nat.le_refl _) (Nat.le_refl _) (by decide) (pm_kv (fun σ' cnt' hq => ?_))
              obtain ⟨rfl, rfl⟩ := hq
              obtain ⟨n_268, en_268⟩ : ∃ f : Nat → Int32, f = upd n_1 (14 * k248 + 117) (x266 + x267) := ⟨_, rfl⟩
              rw [← en_268]
              have hnn_268 := KI.w en_268 hnn_1 (okv_f (show kd (14 * k248 + 117) = (0, 0, false) from (kd_P (k := k248) (c := 7) (by omega) (by omega) (by decide))))
              have hrn_268 := NRx.w en_268 hrn_1 (by rw [(show kd (14 * k248 + 117) = (0, 0, false) from (kd_P (k := k248) (c := 7) (by omega) (by omega) (by decide)))])
              have e269 : n_268 8 = nI kc8 := by rw [en_268, pk_un (by omega)]; exact kc1_8
              have e270 : n_268 0 = nI kc0 := by rw [en_268, pk_un (by omega)]; exact kc1_0
              have e271 : n_268 1 = nI kc1 := by rw [en_268, pk_un (by omega)]; exact kc1_1
              have e272 : n_268 (3 * i1 + 21) = nI k248 := by rw [en_268, pk_un (by omega)]; exact ek248
              have e273 : n_268 (3 * i1 + 22) = x261 := by rw [en_268, pk_un (by omega)]; exact ex261
              have e274 : n_268 (14 * k248 + 119) = (-1) := by rw [en_268, pk_un (by omega)]; exact ek263
              have e275 : n_268 (3 * i1 + 20) = x267 := by rw [en_268, pk_un (by omega)]; exact ex267
              have e276 : n_268 (14 * k248 + 117) = x266 + x267 := by rw [en_268, pk_us]
              refine pm_goto (tgt := 95) hG dX12_quarter_76 rfl ?_
              refine pm_iincX (v := nI (i1 + 1)) (loc' := [some (.ref (B + 54)), some (.int (nI (i1 + 1))), some (.int (nI (3 * i1 + 20))), some (.int (nI k248)), none]) hG dX12_quarter_95 rfl (nI_1 _) (by decide) (pm_c1b rfl) rfl ?_
              refine pm_goto (tgt := 2) hG dX12_quarter_98 rfl ?_
              refine pm_fg 2 (loc' := [some (.ref (B + 54)), some (.int (nI (i1 + 1))), none, some (.int (nI k248)), none]) rfl ?_
              refine pm_fg 3 (loc' := [some (.ref (B + 54)), some (.int (nI (i1 + 1))), none, none, none]) rfl ?_
              exact ih1 n_268 (i1 + 1) hnn_268 hrn_268 (e269.trans (congrArg nI (by omega))) (e270.trans (congrArg nI (by omega))) (e271.trans (congrArg nI (by omega))) (by omega) (by omega)
            · refine pm_callV (As := [.int (nI k248)]) (rest := []) hG hR dX12_quarter_49 (lkX12_101 _ rfl) okV_X12_lives rfl rfl (m_lives0 (d := 1) (by decide) (by omega) (by omega : 14 * k248 + 119 = 14 * k248 + 119) ek263 (by omega)) rfl rfl hdd (Nat.le_refl _) (Nat.le_refl _) (by decide) (pm_ki (fun v277 σ' cnt' hq => ?_))
              obtain ⟨rfl, rfl, rfl⟩ := hq
              refine pm_ifN_eq (tgt := 79) hG dX12_quarter_52 rfl (by omega) (fun _ => ?_) (fun q => absurd q (by omega))
              refine pm_aloadn hG dX12_quarter_79 rfl ?_
              refine pm_getf hG dX12_quarter_80 (flX12_7 _ rfl) rfl rfl ?_
              refine pm_bipush (v := nI 9) hG dX12_quarter_83 (by decide) ?_
              refine pm_dup2 hG dX12_quarter_85 rfl rfl ?_
              refine pm_ialdN hG dX12_quarter_86 rfl (by decide) (by omega) ?_
              refine pm_gen (fun x278 ex278 => ?_)
              refine pm_aloadn hG dX12_quarter_87 rfl ?_
              refine pm_getf hG dX12_quarter_88 (flX12_7 _ rfl) rfl rfl ?_
              refine pm_iloadn hG dX12_quarter_91 rfl ?_
              refine pm_ialdN hG dX12_quarter_92 rfl (by decide) (by omega) ?_
              refine pm_gen (fun x279 ex279 => ?_)
              refine pm_iadd hG dX12_quarter_93 ?_
              refine pm_iastN hG dX12_quarter_94 rfl (by decide) (by omega) ?_
              refine mdn_now (fun n_280 en_280 => ?_)
              have hnn_280 := KI.w en_280 hnn_1 (okv_f (show kd 9 = (0, 0, false) by decide))
              have hrn_280 := NRx.w en_280 hrn_1 (by rw [(show kd 9 = (0, 0, false) by decide)])
              have e281 : n_280 8 = nI kc8 := by rw [en_280, pk_un (by omega)]; exact kc1_8
              have e282 : n_280 0 = nI kc0 := by rw [en_280, pk_un (by omega)]; exact kc1_0
              have e283 : n_280 1 = nI kc1 := by rw [en_280, pk_un (by omega)]; exact kc1_1
              have e284 : n_280 (3 * i1 + 21) = nI k248 := by rw [en_280, pk_un (by omega)]; exact ek248
              have e285 : n_280 (3 * i1 + 22) = x261 := by rw [en_280, pk_un (by omega)]; exact ex261
              have e286 : n_280 (14 * k248 + 119) = nI k263 := by rw [en_280, pk_un (by omega)]; exact ek263
              have e287 : n_280 (3 * i1 + 20) = x279 := by rw [en_280, pk_un (by omega)]; exact ex279
              have e288 : n_280 9 = x278 + x279 := by rw [en_280, pk_us]
              refine pm_iincX (v := nI (i1 + 1)) (loc' := [some (.ref (B + 54)), some (.int (nI (i1 + 1))), some (.int (nI (3 * i1 + 20))), some (.int (nI k248)), none]) hG dX12_quarter_95 rfl (nI_1 _) (by decide) (pm_c1b rfl) rfl ?_
              refine pm_goto (tgt := 2) hG dX12_quarter_98 rfl ?_
              refine pm_fg 2 (loc' := [some (.ref (B + 54)), some (.int (nI (i1 + 1))), none, some (.int (nI k248)), none]) rfl ?_
              refine pm_fg 3 (loc' := [some (.ref (B + 54)), some (.int (nI (i1 + 1))), none, none, none]) rfl ?_
              exact ih1 n_280 (i1 + 1) hnn_280 hrn_280 (e281.trans (congrArg nI (by omega))) (e282.trans (congrArg nI (by omega))) (e283.trans (congrArg nI (by omega))) (by omega) (by omega)
          · refine pm_goto (tgt := 95) hG dX12_quarter_40 rfl ?_
            refine pm_iincX (v := nI (i1 + 1)) (loc' := [some (.ref (B + 54)), some (.int (nI (i1 + 1))), some (.int (nI (3 * i1 + 20))), some (.int (nI k248)), none]) hG dX12_quarter_95 rfl (nI_1 _) (by decide) (pm_c1b rfl) rfl ?_
            refine pm_goto (tgt := 2) hG dX12_quarter_98 rfl ?_
            refine pm_fg 2 (loc' := [some (.ref (B + 54)), some (.int (nI (i1 + 1))), none, some (.int (nI k248)), none]) rfl ?_
            refine pm_fg 3 (loc' := [some (.ref (B + 54)), some (.int (nI (i1 + 1))), none, none, none]) rfl ?_
            exact ih1 n_1 (i1 + 1) hnn_1 hrn_1 (kc1_8.trans (congrArg nI (by omega))) (kc1_0.trans (congrArg nI (by omega))) (kc1_1.trans (congrArg nI (by omega))) (by omega) (by omega)
  exact loop2_1 _ n 0 hn hr (ekc8.trans (congrArg nI (by omega))) (ekc0.trans (congrArg nI (by omega))) (ekc1.trans (congrArg nI (by omega))) (by omega) (Nat.lt_succ_self _)
