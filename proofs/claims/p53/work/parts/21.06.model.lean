set_option maxRecDepth 100000 in
set_option maxHeartbeats 4000000 in
theorem m_quarter {d B cnt p0 t0 : Nat} {σ : pm_S} {I : Nat → Int32} {A : Nat → Nat → Int32} {n k z : Nat → Int32} {ac wt pl im : Int32} (hdd : 2 ≤ d) (hn : KI n) (hr : NR n) (hz : SZ z)  : pm_met mX12_quarter d 0 0 B [.ref (B + 54)] cnt (pm_mid σ (md_L B I A n k z ac wt pl (nI p0) (nI t0) im)) (pm_Qv (fun σ' cnt' => (∃ (n' : Nat → Int32), σ' = pm_mid σ (md_L B I A n' k z ac wt pl (nI p0) (nI t0) im) ∧ KI n' ∧ NR n' ∧ n' 8 = n 8 ∧ n' 11 = n 11) ∧ cnt = cnt')) := by
  obtain ⟨kc8, hkc8, ekc8⟩ := KI.nat hn (show kd 8 = (1, 2001, false) by decide)
  obtain ⟨kc11, hkc11, ekc11⟩ := KI.nat hn (show kd 11 = (1, 21, false) by decide)
  refine pm_enter 4 (by decide) (Nat.le_of_ble_eq_true rfl) rfl (fun G hG hR hF => ?_)
  refine pm_iconst (v := nI 0) hG dX12_quarter_0 (by decide) ?_
  refine pm_istoreXn (loc' := [some (.ref (B + 54)), some (.int (nI 0)), none, none, none]) hG dX12_quarter_1 (by decide) (pm_c1b rfl) rfl ?_
  have loop2_1 : ∀ (m1 : Nat) (n_1 : Nat → Int32) (i1 : Nat), KI n_1 → NRx 40 n_1 → n_1 8 = nI kc8 → n_1 11 = nI kc11 → i1 ≤ 10 → 10 - i1 < m1 → pm_wp mX12_quarter G B 2 [some (.ref (B + 54)), some (.int (nI i1)), none, none, none] [] 0 0 cnt (pm_mid σ (md_L B I A n_1 k z ac wt pl (nI p0) (nI t0) im)) := by
    intro m1
    induction m1 with
    | zero => intro n_1 i1 _ _ _ _ _ hm; exact absurd hm (Nat.not_lt_zero _)
    | succ m1 ih1 =>
      intro n_1 i1 hnn_1 hrn_1 kc1_8 kc1_11 hi1 hm1
      refine pm_iloadn hG dX12_quarter_2 rfl ?_
      refine pm_aloadn hG dX12_quarter_3 rfl ?_
      refine pm_getf hG dX12_quarter_4 (flX12_7 _ rfl) rfl rfl ?_
      refine pm_iconst (v := nI 0) hG dX12_quarter_7 (by decide) ?_
      refine pm_ialdN hG dX12_quarter_8 rfl (by decide) (by omega) ?_
      obtain ⟨k2, hk2, ek2⟩ := KI.nat hnn_1 (show kd 0 = (1, 11, true) by decide)
      refine pm_top (v := nI k2) ek2 ?_
      refine pm_icmpN_ge (tgt := 101) hG dX12_quarter_9 rfl (by omega) (by omega) (fun c3 => ?_) (fun c3 => ?_)
      · refine pm_iconst (v := nI 0) hG dX12_quarter_101 (by decide) ?_
        refine pm_istoreXn (loc' := [some (.ref (B + 54)), some (.int (nI 0)), none, none, none]) hG dX12_quarter_102 (by decide) (pm_c1b rfl) rfl ?_
        have loop103_4 : ∀ (m4 : Nat) (n_4 : Nat → Int32) (i4 : Nat), KI n_4 → NRx 40 n_4 → n_4 8 = nI kc8 → n_4 11 = nI kc11 → i4 ≤ 20 → 20 - i4 < m4 → pm_wp mX12_quarter G B 103 [some (.ref (B + 54)), some (.int (nI i4)), none, none, none] [] 0 0 cnt (pm_mid σ (md_L B I A n_4 k z ac wt pl (nI p0) (nI t0) im)) := by
          intro m4
          induction m4 with
          | zero => intro n_4 i4 _ _ _ _ _ hm; exact absurd hm (Nat.not_lt_zero _)
          | succ m4 ih4 =>
            intro n_4 i4 hnn_4 hrn_4 kc4_8 kc4_11 hi4 hm4
            refine pm_iloadn hG dX12_quarter_103 rfl ?_
            refine pm_aloadn hG dX12_quarter_104 rfl ?_
            refine pm_getf hG dX12_quarter_105 (flX12_7 _ rfl) rfl rfl ?_
            refine pm_iconst (v := nI 2) hG dX12_quarter_108 (by decide) ?_
            refine pm_ialdN hG dX12_quarter_109 rfl (by decide) (by omega) ?_
            obtain ⟨k5, hk5, ek5⟩ := KI.nat hnn_4 (show kd 2 = (1, 21, true) by decide)
            refine pm_top (v := nI k5) ek5 ?_
            refine pm_icmpN_ge (tgt := 178) hG dX12_quarter_110 rfl (by omega) (by omega) (fun c6 => ?_) (fun c6 => ?_)
            · refine pm_iconst (v := nI 0) hG dX12_quarter_178 (by decide) ?_
              refine pm_istoreXn (loc' := [some (.ref (B + 54)), some (.int (nI 0)), none, none, none]) hG dX12_quarter_179 (by decide) (pm_c1b rfl) rfl ?_
              have loop180_7 : ∀ (m7 : Nat) (n_7 : Nat → Int32) (i7 : Nat), KI n_7 → NRx 40 n_7 → n_7 8 = nI kc8 → n_7 11 = nI kc11 → i7 ≤ 6 → 6 - i7 < m7 → pm_wp mX12_quarter G B 180 [some (.ref (B + 54)), some (.int (nI i7)), none, none, none] [] 0 0 cnt (pm_mid σ (md_L B I A n_7 k z ac wt pl (nI p0) (nI t0) im)) := by
                intro m7
                induction m7 with
                | zero => intro n_7 i7 _ _ _ _ _ hm; exact absurd hm (Nat.not_lt_zero _)
                | succ m7 ih7 =>
                  intro n_7 i7 hnn_7 hrn_7 kc7_8 kc7_11 hi7 hm7
                  refine pm_iloadn hG dX12_quarter_180 rfl ?_
                  refine pm_aloadn hG dX12_quarter_181 rfl ?_
                  refine pm_getf hG dX12_quarter_182 (flX12_7 _ rfl) rfl rfl ?_
                  refine pm_bipush (v := nI 6) hG dX12_quarter_185 (by decide) ?_
                  refine pm_ialdN hG dX12_quarter_187 rfl (by decide) (by omega) ?_
                  obtain ⟨k8, hk8, ek8⟩ := KI.nat hnn_7 (show kd 6 = (1, 7, false) by decide)
                  refine pm_top (v := nI k8) ek8 ?_
                  refine pm_icmpN_ge (tgt := 369) hG dX12_quarter_188 rfl (by omega) (by omega) (fun c9 => ?_) (fun c9 => ?_)
                  · exact pm_vret hG hF dX12_quarter_369 rfl (Nat.le_refl _) (Nat.le_refl _) ⟨rfl, ⟨_, rfl, hnn_7, hrn_7, kc7_8.trans ekc8.symm, kc7_11.trans ekc11.symm⟩, rfl⟩
                  · refine pm_sipush (v := nI 1770) hG dX12_quarter_191 (by decide) ?_
                    refine pm_bipush (v := nI 6) hG dX12_quarter_194 (by decide) ?_
                    refine pm_iloadn hG dX12_quarter_196 rfl ?_
                    refine pm_imulN (c := 6 * i7) hG dX12_quarter_197 (by omega) ?_
                    refine pm_iaddN (c := 6 * i7 + 1770) hG dX12_quarter_198 (by omega) ?_
                    refine pm_istoreXn (loc' := [some (.ref (B + 54)), some (.int (nI i7)), some (.int (nI (6 * i7 + 1770))), none, none]) hG dX12_quarter_199 (by decide) (pm_c1b rfl) rfl ?_
                    refine pm_aloadn hG dX12_quarter_200 rfl ?_
                    refine pm_getf hG dX12_quarter_201 (flX12_7 _ rfl) rfl rfl ?_
                    refine pm_iloadn hG dX12_quarter_204 rfl ?_
                    refine pm_ialdN hG dX12_quarter_205 rfl (by decide) (by omega) ?_
                    refine pm_gen (fun x10 ex10 => ?_)
                    refine pm_aloadn hG dX12_quarter_206 rfl ?_
                    refine pm_getf hG dX12_quarter_207 (flX12_7 _ rfl) rfl rfl ?_
                    refine pm_iloadn hG dX12_quarter_210 rfl ?_
                    refine pm_ialdN hG dX12_quarter_211 rfl (by decide) (by omega) ?_
                    refine pm_top (v := x10) ex10 ?_
                    refine pm_aloadn hG dX12_quarter_212 rfl ?_
                    refine pm_getf hG dX12_quarter_213 (flX12_7 _ rfl) rfl rfl ?_
                    refine pm_iloadn hG dX12_quarter_216 rfl ?_
                    refine pm_iconst (v := nI 1) hG dX12_quarter_217 (by decide) ?_
                    refine pm_iaddN (c := 6 * i7 + 1771) hG dX12_quarter_218 (by omega) ?_
                    refine pm_ialdN hG dX12_quarter_219 rfl (by decide) (by omega) ?_
                    refine pm_gen (fun x11 ex11 => ?_)
                    refine pm_imul hG dX12_quarter_220 ?_
                    refine pm_bipush (v := nI 100) hG dX12_quarter_221 (by decide) ?_
                    refine pm_idiv hG dX12_quarter_223 (by decide) ?_
                    refine pm_any (fun x12 => ?_)
                    refine pm_iadd hG dX12_quarter_224 ?_
                    refine pm_istoreXn (loc' := [some (.ref (B + 54)), some (.int (nI i7)), some (.int (nI (6 * i7 + 1770))), some (.int (x10 + x12)), none]) hG dX12_quarter_225 (by decide) (pm_c1b rfl) rfl ?_
                    refine pm_aloadn hG dX12_quarter_226 rfl ?_
                    refine pm_getf hG dX12_quarter_227 (flX12_7 _ rfl) rfl rfl ?_
                    refine pm_iloadn hG dX12_quarter_230 rfl ?_
                    refine pm_iloadn hG dX12_quarter_231 rfl ?_
                    refine pm_ldc hG dX12_quarter_232 (ctX12_235 _ rfl) ?_
                    refine pm_top (v := nI 999999) (by decide) ?_
                    refine pm_icmp_ge (tgt := 241) hG dX12_quarter_234 rfl (fun c13 => ?_) (fun c13 => ?_)
                    · refine pm_ldc hG dX12_quarter_241 (ctX12_235 _ rfl) ?_
                      refine pm_top (v := nI 999999) (by decide) ?_
                      refine pm_iastN hG dX12_quarter_243 rfl (by decide) (by omega) ?_
                      refine mdn_now (fun n_14 en_14 => ?_)
                      have hnn_14 := KI.w en_14 hnn_7 (okv_f (show kd (6 * i7 + 1770) = (0, 0, false) from (kd_D (k := i7) (c := 0) (by omega) (by omega) (by decide))))
                      have hrn_14 := NRx.w en_14 hrn_7 (by rw [(show kd (6 * i7 + 1770) = (0, 0, false) from (kd_D (k := i7) (c := 0) (by omega) (by omega) (by decide)))])
                      have e15 : n_14 8 = nI kc8 := by rw [en_14, pk_un (by omega)]; exact kc7_8
                      have e16 : n_14 11 = nI kc11 := by rw [en_14, pk_un (by omega)]; exact kc7_11
                      have e17 : n_14 6 = nI k8 := by rw [en_14, pk_un (by omega)]; exact ek8
                      have e18 : n_14 (6 * i7 + 1771) = x11 := by rw [en_14, pk_un (by omega)]; exact ex11
                      have e19 : n_14 (6 * i7 + 1770) = nI 999999 := by rw [en_14, pk_us]
                      refine pm_aloadn hG dX12_quarter_244 rfl ?_
                      refine pm_getf hG dX12_quarter_245 (flX12_7 _ rfl) rfl rfl ?_
                      refine pm_iloadn hG dX12_quarter_248 rfl ?_
                      refine pm_ialdN hG dX12_quarter_249 rfl (by decide) (by omega) ?_
                      refine pm_top (v := nI 999999) e19 ?_
                      refine pm_aloadn hG dX12_quarter_250 rfl ?_
                      refine pm_getf hG dX12_quarter_251 (flX12_7 _ rfl) rfl rfl ?_
                      refine pm_iloadn hG dX12_quarter_254 rfl ?_
                      refine pm_iconst (v := nI 2) hG dX12_quarter_255 (by decide) ?_
                      refine pm_iaddN (c := 6 * i7 + 1772) hG dX12_quarter_256 (by omega) ?_
                      refine pm_ialdN hG dX12_quarter_257 rfl (by decide) (by omega) ?_
                      refine pm_gen (fun x20 ex20 => ?_)
                      refine pm_icmp_ge (tgt := 270) hG dX12_quarter_258 rfl (fun c21 => ?_) (fun c21 => ?_)
                      · refine pm_aloadn hG dX12_quarter_270 rfl ?_
                        refine pm_getf hG dX12_quarter_271 (flX12_7 _ rfl) rfl rfl ?_
                        refine pm_iloadn hG dX12_quarter_274 rfl ?_
                        refine pm_iconst (v := nI 2) hG dX12_quarter_275 (by decide) ?_
                        refine pm_iaddN (c := 6 * i7 + 1772) hG dX12_quarter_276 (by omega) ?_
                        refine pm_ialdN hG dX12_quarter_277 rfl (by decide) (by omega) ?_
                        refine pm_top (v := x20) ex20 ?_
                        refine pm_istoreXi (loc' := [some (.ref (B + 54)), some (.int (nI i7)), some (.int (nI (6 * i7 + 1770))), some (.int (x10 + x12)), some (.int x20)]) hG dX12_quarter_278 (by decide) (pm_c1b rfl) rfl ?_
                        refine pm_aloadn hG dX12_quarter_280 rfl ?_
                        refine pm_getf hG dX12_quarter_281 (flX12_7 _ rfl) rfl rfl ?_
                        refine pm_bipush (v := nI 9) hG dX12_quarter_284 (by decide) ?_
                        refine pm_ialdN hG dX12_quarter_286 rfl (by decide) (by omega) ?_
                        refine pm_gen (fun x22 ex22 => ?_)
                        refine pm_iloadi hG dX12_quarter_287 rfl ?_
                        refine pm_icmp_lt (tgt := 318) hG dX12_quarter_289 rfl (fun c23 => ?_) (fun c23 => ?_)
                        · refine pm_aloadn hG dX12_quarter_318 rfl ?_
                          refine pm_getf hG dX12_quarter_319 (flX12_7 _ rfl) rfl rfl ?_
                          refine pm_iloadn hG dX12_quarter_322 rfl ?_
                          refine pm_iconst (v := nI 3) hG dX12_quarter_323 (by decide) ?_
                          refine pm_iaddN (c := 6 * i7 + 1773) hG dX12_quarter_324 (by omega) ?_
                          refine pm_dup2 hG dX12_quarter_325 rfl rfl ?_
                          refine pm_ialdN hG dX12_quarter_326 rfl (by decide) (by omega) ?_
                          refine pm_gen (fun x24 ex24 => ?_)
                          refine pm_iconst (v := nI 1) hG dX12_quarter_327 (by decide) ?_
                          refine pm_iadd hG dX12_quarter_328 ?_
                          refine pm_iastN hG dX12_quarter_329 rfl (by decide) (by omega) ?_
                          refine mdn_now (fun n_25 en_25 => ?_)
                          have hnn_25 := KI.w en_25 hnn_14 (okv_f (show kd (6 * i7 + 1773) = (0, 0, false) from (kd_D (k := i7) (c := 3) (by omega) (by omega) (by decide))))
                          have hrn_25 := NRx.w en_25 hrn_14 (by rw [(show kd (6 * i7 + 1773) = (0, 0, false) from (kd_D (k := i7) (c := 3) (by omega) (by omega) (by decide)))])
                          have e26 : n_25 8 = nI kc8 := by rw [en_25, pk_un (by omega)]; exact e15
                          have e27 : n_25 11 = nI kc11 := by rw [en_25, pk_un (by omega)]; exact e16
                          have e28 : n_25 6 = nI k8 := by rw [en_25, pk_un (by omega)]; exact e17
                          have e29 : n_25 (6 * i7 + 1771) = x11 := by rw [en_25, pk_un (by omega)]; exact e18
                          have e30 : n_25 (6 * i7 + 1770) = nI 999999 := by rw [en_25, pk_un (by omega)]; exact e19
                          have e31 : n_25 (6 * i7 + 1772) = x20 := by rw [en_25, pk_un (by omega)]; exact ex20
                          have e32 : n_25 9 = x22 := by rw [en_25, pk_un (by omega)]; exact ex22
                          have e33 : n_25 (6 * i7 + 1773) = x24 + (nI 1) := by rw [en_25, pk_us]
                          refine pm_aloadn hG dX12_quarter_330 rfl ?_
                          refine pm_getf hG dX12_quarter_331 (flX12_7 _ rfl) rfl rfl ?_
                          refine pm_iloadn hG dX12_quarter_334 rfl ?_
                          refine pm_iconst (v := nI 3) hG dX12_quarter_335 (by decide) ?_
                          refine pm_iaddN (c := 6 * i7 + 1773) hG dX12_quarter_336 (by omega) ?_
                          refine pm_ialdN hG dX12_quarter_337 rfl (by decide) (by omega) ?_
                          refine pm_top (v := x24 + (nI 1)) e33 ?_
                          refine pm_iconst (v := nI 2) hG dX12_quarter_338 (by decide) ?_
                          refine pm_icmp_ne (tgt := 363) hG dX12_quarter_339 rfl (fun c34 => ?_) (fun c34 => ?_)
                          · refine pm_iincX (v := nI (i7 + 1)) (loc' := [some (.ref (B + 54)), some (.int (nI (i7 + 1))), some (.int (nI (6 * i7 + 1770))), some (.int (x10 + x12)), some (.int x20)]) hG dX12_quarter_363 rfl (nI_1 _) (by decide) (pm_c1b rfl) rfl ?_
                            refine pm_goto (tgt := 180) hG dX12_quarter_366 rfl ?_
                            refine pm_fg 2 (loc' := [some (.ref (B + 54)), some (.int (nI (i7 + 1))), none, some (.int (x10 + x12)), some (.int x20)]) rfl ?_
                            refine pm_fg 3 (loc' := [some (.ref (B + 54)), some (.int (nI (i7 + 1))), none, none, some (.int x20)]) rfl ?_
                            refine pm_fg 4 (loc' := [some (.ref (B + 54)), some (.int (nI (i7 + 1))), none, none, none]) rfl ?_
                            exact ih7 n_25 (i7 + 1) hnn_25 hrn_25 (e26.trans (congrArg nI (by omega))) (e27.trans (congrArg nI (by omega))) (by omega) (by omega)
                          · refine pm_aloadn hG dX12_quarter_342 rfl ?_
                            refine pm_getf hG dX12_quarter_343 (flX12_7 _ rfl) rfl rfl ?_
                            refine pm_bipush (v := nI 20) hG dX12_quarter_346 (by decide) ?_
                            refine pm_iconst (v := nI 3) hG dX12_quarter_348 (by decide) ?_
                            refine pm_aloadn hG dX12_quarter_349 rfl ?_
                            refine pm_getf hG dX12_quarter_350 (flX12_7 _ rfl) rfl rfl ?_
                            refine pm_iloadn hG dX12_quarter_353 rfl ?_
                            refine pm_iconst (v := nI 4) hG dX12_quarter_354 (by decide) ?_
                            refine pm_iaddN (c := 6 * i7 + 1774) hG dX12_quarter_355 (by omega) ?_
                            refine pm_ialdN hG dX12_quarter_356 rfl (by decide) (by omega) ?_
                            obtain ⟨k35, hk35, ek35⟩ := KI.nat hnn_25 (show kd (6 * i7 + 1774) = (1, 10, false) from (kd_D (k := i7) (c := 4) (by omega) (by omega) (by decide)))
                            refine pm_top (v := nI k35) ek35 ?_
                            refine pm_imulN (c := 3 * k35) hG dX12_quarter_357 (by omega) ?_
                            refine pm_iaddN (c := 3 * k35 + 20) hG dX12_quarter_358 (by omega) ?_
                            refine pm_iconst (v := nI 2) hG dX12_quarter_359 (by decide) ?_
                            refine pm_iaddN (c := 3 * k35 + 22) hG dX12_quarter_360 (by omega) ?_
                            refine pm_iconst (v := nI 1) hG dX12_quarter_361 (by decide) ?_
                            refine pm_iastN hG dX12_quarter_362 rfl (by decide) (by omega) ?_
                            refine mdn_now (fun n_36 en_36 => ?_)
                            have hnn_36 := KI.w en_36 hnn_25 (okv_f (show kd (3 * k35 + 22) = (0, 0, false) from (kd_T (k := k35) (c := 2) (by omega) (by omega) (by decide))))
                            have hrn_36 := NRx.w en_36 hrn_25 (by rw [(show kd (3 * k35 + 22) = (0, 0, false) from (kd_T (k := k35) (c := 2) (by omega) (by omega) (by decide)))])
                            have e37 : n_36 8 = nI kc8 := by rw [en_36, pk_un (by omega)]; exact e26
                            have e38 : n_36 11 = nI kc11 := by rw [en_36, pk_un (by omega)]; exact e27
                            have e39 : n_36 6 = nI k8 := by rw [en_36, pk_un (by omega)]; exact e28
                            have e40 : n_36 (6 * i7 + 1771) = x11 := by rw [en_36, pk_un (by omega)]; exact e29
                            have e41 : n_36 (6 * i7 + 1770) = nI 999999 := by rw [en_36, pk_un (by omega)]; exact e30
                            have e42 : n_36 (6 * i7 + 1772) = x20 := by rw [en_36, pk_un (by omega)]; exact e31
                            have e43 : n_36 9 = x22 := by rw [en_36, pk_un (by omega)]; exact e32
                            have e44 : n_36 (6 * i7 + 1773) = x24 + (nI 1) := by rw [en_36, pk_un (by omega)]; exact e33
                            have e45 : n_36 (6 * i7 + 1774) = nI k35 := by rw [en_36, pk_un (by omega)]; exact ek35
                            have e46 : n_36 (3 * k35 + 22) = nI 1 := by rw [en_36, pk_us]
                            refine pm_iincX (v := nI (i7 + 1)) (loc' := [some (.ref (B + 54)), some (.int (nI (i7 + 1))), some (.int (nI (6 * i7 + 1770))), some (.int (x10 + x12)), some (.int x20)]) hG dX12_quarter_363 rfl (nI_1 _) (by decide) (pm_c1b rfl) rfl ?_
                            refine pm_goto (tgt := 180) hG dX12_quarter_366 rfl ?_
                            refine pm_fg 2 (loc' := [some (.ref (B + 54)), some (.int (nI (i7 + 1))), none, some (.int (x10 + x12)), some (.int x20)]) rfl ?_
                            refine pm_fg 3 (loc' := [some (.ref (B + 54)), some (.int (nI (i7 + 1))), none, none, some (.int x20)]) rfl ?_
                            refine pm_fg 4 (loc' := [some (.ref (B + 54)), some (.int (nI (i7 + 1))), none, none, none]) rfl ?_
                            exact ih7 n_36 (i7 + 1) hnn_36 hrn_36 (e37.trans (congrArg nI (by omega))) (e38.trans (congrArg nI (by omega))) (by omega) (by omega)
                        · refine pm_aloadn hG dX12_quarter_292 rfl ?_
                          refine pm_getf hG dX12_quarter_293 (flX12_7 _ rfl) rfl rfl ?_
                          refine pm_bipush (v := nI 9) hG dX12_quarter_296 (by decide) ?_
                          refine pm_dup2 hG dX12_quarter_298 rfl rfl ?_
                          refine pm_ialdN hG dX12_quarter_299 rfl (by decide) (by omega) ?_
                          refine pm_top (v := x22) ex22 ?_
                          refine pm_iloadi hG dX12_quarter_300 rfl ?_
                          refine pm_isub hG dX12_quarter_302 ?_
                          refine pm_iastN hG dX12_quarter_303 rfl (by decide) (by omega) ?_
                          refine mdn_now (fun n_47 en_47 => ?_)
                          have hnn_47 := KI.w en_47 hnn_14 (okv_f (show kd 9 = (0, 0, false) by decide))
                          have hrn_47 := NRx.w en_47 hrn_14 (by rw [(show kd 9 = (0, 0, false) by decide)])
                          have e48 : n_47 8 = nI kc8 := by rw [en_47, pk_un (by omega)]; exact e15
                          have e49 : n_47 11 = nI kc11 := by rw [en_47, pk_un (by omega)]; exact e16
                          have e50 : n_47 6 = nI k8 := by rw [en_47, pk_un (by omega)]; exact e17
                          have e51 : n_47 (6 * i7 + 1771) = x11 := by rw [en_47, pk_un (by omega)]; exact e18
                          have e52 : n_47 (6 * i7 + 1770) = nI 999999 := by rw [en_47, pk_un (by omega)]; exact e19
                          have e53 : n_47 (6 * i7 + 1772) = x20 := by rw [en_47, pk_un (by omega)]; exact ex20
                          have e54 : n_47 9 = x22 - x20 := by rw [en_47, pk_us]
                          refine pm_aloadn hG dX12_quarter_304 rfl ?_
                          refine pm_getf hG dX12_quarter_305 (flX12_7 _ rfl) rfl rfl ?_
                          refine pm_iloadn hG dX12_quarter_308 rfl ?_
                          refine pm_dup2 hG dX12_quarter_309 rfl rfl ?_
                          refine pm_ialdN hG dX12_quarter_310 rfl (by decide) (by omega) ?_
                          refine pm_top (v := nI 999999) e52 ?_
                          refine pm_iloadi hG dX12_quarter_311 rfl ?_
                          refine pm_isub hG dX12_quarter_313 ?_
                          refine pm_iastN hG dX12_quarter_314 rfl (by decide) (by omega) ?_
                          refine mdn_now (fun n_55 en_55 => ?_)
                          have hnn_55 := KI.w en_55 hnn_47 (okv_f (show kd (6 * i7 + 1770) = (0, 0, false) from (kd_D (k := i7) (c := 0) (by omega) (by omega) (by decide))))
                          have hrn_55 := NRx.w en_55 hrn_47 (by rw [(show kd (6 * i7 + 1770) = (0, 0, false) from (kd_D (k := i7) (c := 0) (by omega) (by omega) (by decide)))])
                          have e56 : n_55 8 = nI kc8 := by rw [en_55, pk_un (by omega)]; exact e48
                          have e57 : n_55 11 = nI kc11 := by rw [en_55, pk_un (by omega)]; exact e49
                          have e58 : n_55 6 = nI k8 := by rw [en_55, pk_un (by omega)]; exact e50
                          have e59 : n_55 (6 * i7 + 1771) = x11 := by rw [en_55, pk_un (by omega)]; exact e51
                          have e60 : n_55 (6 * i7 + 1772) = x20 := by rw [en_55, pk_un (by omega)]; exact e53
                          have e61 : n_55 9 = x22 - x20 := by rw [en_55, pk_un (by omega)]; exact e54
                          have e62 : n_55 (6 * i7 + 1770) = (nI 999999) - x20 := by rw [en_55, pk_us]
                          refine pm_goto (tgt := 363) hG dX12_quarter_315 rfl ?_
                          refine pm_iincX (v := nI (i7 + 1)) (loc' := [some (.ref (B + 54)), some (.int (nI (i7 + 1))), some (.int (nI (6 * i7 + 1770))), some (.int (x10 + x12)), some (.int x20)]) hG dX12_quarter_363 rfl (nI_1 _) (by decide) (pm_c1b rfl) rfl ?_
                          refine pm_goto (tgt := 180) hG dX12_quarter_366 rfl ?_
                          refine pm_fg 2 (loc' := [some (.ref (B + 54)), some (.int (nI (i7 + 1))), none, some (.int (x10 + x12)), some (.int x20)]) rfl ?_
                          refine pm_fg 3 (loc' := [some (.ref (B + 54)), some (.int (nI (i7 + 1))), none, none, some (.int x20)]) rfl ?_
                          refine pm_fg 4 (loc' := [some (.ref (B + 54)), some (.int (nI (i7 + 1))), none, none, none]) rfl ?_
                          exact ih7 n_55 (i7 + 1) hnn_55 hrn_55 (e56.trans (congrArg nI (by omega))) (e57.trans (congrArg nI (by omega))) (by omega) (by omega)
                      · refine pm_aloadn hG dX12_quarter_261 rfl ?_
                        refine pm_getf hG dX12_quarter_262 (flX12_7 _ rfl) rfl rfl ?_
                        refine pm_iloadn hG dX12_quarter_265 rfl ?_
                        refine pm_ialdN hG dX12_quarter_266 rfl (by decide) (by omega) ?_
                        refine pm_top (v := nI 999999) e19 ?_
                        refine pm_goto (tgt := 278) hG dX12_quarter_267 rfl ?_
                        refine pm_istoreXi (loc' := [some (.ref (B + 54)), some (.int (nI i7)), some (.int (nI (6 * i7 + 1770))), some (.int (x10 + x12)), some (.int (nI 999999))]) hG dX12_quarter_278 (by decide) (pm_c1b rfl) rfl ?_
                        refine pm_aloadn hG dX12_quarter_280 rfl ?_
                        refine pm_getf hG dX12_quarter_281 (flX12_7 _ rfl) rfl rfl ?_
                        refine pm_bipush (v := nI 9) hG dX12_quarter_284 (by decide) ?_
                        refine pm_ialdN hG dX12_quarter_286 rfl (by decide) (by omega) ?_
                        refine pm_gen (fun x63 ex63 => ?_)
                        refine pm_iloadi hG dX12_quarter_287 rfl ?_
                        refine pm_icmp_lt (tgt := 318) hG dX12_quarter_289 rfl (fun c64 => ?_) (fun c64 => ?_)
                        · refine pm_aloadn hG dX12_quarter_318 rfl ?_
                          refine pm_getf hG dX12_quarter_319 (flX12_7 _ rfl) rfl rfl ?_
                          refine pm_iloadn hG dX12_quarter_322 rfl ?_
                          refine pm_iconst (v := nI 3) hG dX12_quarter_323 (by decide) ?_
                          refine pm_iaddN (c := 6 * i7 + 1773) hG dX12_quarter_324 (by omega) ?_
                          refine pm_dup2 hG dX12_quarter_325 rfl rfl ?_
                          refine pm_ialdN hG dX12_quarter_326 rfl (by decide) (by omega) ?_
                          refine pm_gen (fun x65 ex65 => ?_)
                          refine pm_iconst (v := nI 1) hG dX12_quarter_327 (by decide) ?_
                          refine pm_iadd hG dX12_quarter_328 ?_
                          refine pm_iastN hG dX12_quarter_329 rfl (by decide) (by omega) ?_
                          refine mdn_now (fun n_66 en_66 => ?_)
                          have hnn_66 := KI.w en_66 hnn_14 (okv_f (show kd (6 * i7 + 1773) = (0, 0, false) from (kd_D (k := i7) (c := 3) (by omega) (by omega) (by decide))))
                          have hrn_66 := NRx.w en_66 hrn_14 (by rw [(show kd (6 * i7 + 1773) = (0, 0, false) from (kd_D (k := i7) (c := 3) (by omega) (by omega) (by decide)))])
                          have e67 : n_66 8 = nI kc8 := by rw [en_66, pk_un (by omega)]; exact e15
                          have e68 : n_66 11 = nI kc11 := by rw [en_66, pk_un (by omega)]; exact e16
                          have e69 : n_66 6 = nI k8 := by rw [en_66, pk_un (by omega)]; exact e17
                          have e70 : n_66 (6 * i7 + 1771) = x11 := by rw [en_66, pk_un (by omega)]; exact e18
                          have e71 : n_66 (6 * i7 + 1770) = nI 999999 := by rw [en_66, pk_un (by omega)]; exact e19
                          have e72 : n_66 (6 * i7 + 1772) = x20 := by rw [en_66, pk_un (by omega)]; exact ex20
                          have e73 : n_66 9 = x63 := by rw [en_66, pk_un (by omega)]; exact ex63
                          have e74 : n_66 (6 * i7 + 1773) = x65 + (nI 1) := by rw [en_66, pk_us]
                          refine pm_aloadn hG dX12_quarter_330 rfl ?_
                          refine pm_getf hG dX12_quarter_331 (flX12_7 _ rfl) rfl rfl ?_
                          refine pm_iloadn hG dX12_quarter_334 rfl ?_
                          refine pm_iconst (v := nI 3) hG dX12_quarter_335 (by decide) ?_
                          refine pm_iaddN (c := 6 * i7 + 1773) hG dX12_quarter_336 (by omega) ?_
                          refine pm_ialdN hG dX12_quarter_337 rfl (by decide) (by omega) ?_
                          refine pm_top (v := x65 + (nI 1)) e74 ?_
                          refine pm_iconst (v := nI 2) hG dX12_quarter_338 (by decide) ?_
                          refine pm_icmp_ne (tgt := 363) hG dX12_quarter_339 rfl (fun c75 => ?_) (fun c75 => ?_)
                          · refine pm_iincX (v := nI (i7 + 1)) (loc' := [some (.ref (B + 54)), some (.int (nI (i7 + 1))), some (.int (nI (6 * i7 + 1770))), some (.int (x10 + x12)), some (.int (nI 999999))]) hG dX12_quarter_363 rfl (nI_1 _) (by decide) (pm_c1b rfl) rfl ?_
                            refine pm_goto (tgt := 180) hG dX12_quarter_366 rfl ?_
                            refine pm_fg 2 (loc' := [some (.ref (B + 54)), some (.int (nI (i7 + 1))), none, some (.int (x10 + x12)), some (.int (nI 999999))]) rfl ?_
                            refine pm_fg 3 (loc' := [some (.ref (B + 54)), some (.int (nI (i7 + 1))), none, none, some (.int (nI 999999))]) rfl ?_
                            refine pm_fg 4 (loc' := [some (.ref (B + 54)), some (.int (nI (i7 + 1))), none, none, none]) rfl ?_
                            exact ih7 n_66 (i7 + 1) hnn_66 hrn_66 (e67.trans (congrArg nI (by omega))) (e68.trans (congrArg nI (by omega))) (by omega) (by omega)
                          · refine pm_aloadn hG dX12_quarter_342 rfl ?_
                            refine pm_getf hG dX12_quarter_343 (flX12_7 _ rfl) rfl rfl ?_
                            refine pm_bipush (v := nI 20) hG dX12_quarter_346 (by decide) ?_
                            refine pm_iconst (v := nI 3) hG dX12_quarter_348 (by decide) ?_
                            refine pm_aloadn hG dX12_quarter_349 rfl ?_
                            refine pm_getf hG dX12_quarter_350 (flX12_7 _ rfl) rfl rfl ?_
                            refine pm_iloadn hG dX12_quarter_353 rfl ?_
                            refine pm_iconst (v := nI 4) hG dX12_quarter_354 (by decide) ?_
                            refine pm_iaddN (c := 6 * i7 + 1774) hG dX12_quarter_355 (by omega) ?_
                            refine pm_ialdN hG dX12_quarter_356 rfl (by decide) (by omega) ?_
                            obtain ⟨k76, hk76, ek76⟩ := KI.nat hnn_66 (show kd (6 * i7 + 1774) = (1, 10, false) from (kd_D (k := i7) (c := 4) (by omega) (by omega) (by decide)))
                            refine pm_top (v := nI k76) ek76 ?_
                            refine pm_imulN (c := 3 * k76) hG dX12_quarter_357 (by omega) ?_
                            refine pm_iaddN (c := 3 * k76 + 20) hG dX12_quarter_358 (by omega) ?_
                            refine pm_iconst (v := nI 2) hG dX12_quarter_359 (by decide) ?_
                            refine pm_iaddN (c := 3 * k76 + 22) hG dX12_quarter_360 (by omega) ?_
                            refine pm_iconst (v := nI 1) hG dX12_quarter_361 (by decide) ?_
                            refine pm_iastN hG dX12_quarter_362 rfl (by decide) (by omega) ?_
                            refine mdn_now (fun n_77 en_77 => ?_)
                            have hnn_77 := KI.w en_77 hnn_66 (okv_f (show kd (3 * k76 + 22) = (0, 0, false) from (kd_T (k := k76) (c := 2) (by omega) (by omega) (by decide))))
                            have hrn_77 := NRx.w en_77 hrn_66 (by rw [(show kd (3 * k76 + 22) = (0, 0, false) from (kd_T (k := k76) (c := 2) (by omega) (by omega) (by decide)))])
                            have e78 : n_77 8 = nI kc8 := by rw [en_77, pk_un (by omega)]; exact e67
                            have e79 : n_77 11 = nI kc11 := by rw [en_77, pk_un (by omega)]; exact e68
                            have e80 : n_77 6 = nI k8 := by rw [en_77, pk_un (by omega)]; exact e69
                            have e81 : n_77 (6 * i7 + 1771) = x11 := by rw [en_77, pk_un (by omega)]; exact e70
                            have e82 : n_77 (6 * i7 + 1770) = nI 999999 := by rw [en_77, pk_un (by omega)]; exact e71
                            have e83 : n_77 (6 * i7 + 1772) = x20 := by rw [en_77, pk_un (by omega)]; exact e72
                            have e84 : n_77 9 = x63 := by rw [en_77, pk_un (by omega)]; exact e73
                            have e85 : n_77 (6 * i7 + 1773) = x65 + (nI 1) := by rw [en_77, pk_un (by omega)]; exact e74
                            have e86 : n_77 (6 * i7 + 1774) = nI k76 := by rw [en_77, pk_un (by omega)]; exact ek76
                            have e87 : n_77 (3 * k76 + 22) = nI 1 := by rw [en_77, pk_us]
                            refine pm_iincX (v := nI (i7 + 1)) (loc' := [some (.ref (B + 54)), some (.int (nI (i7 + 1))), some (.int (nI (6 * i7 + 1770))), some (.int (x10 + x12)), some (.int (nI 999999))]) hG dX12_quarter_363 rfl (nI_1 _) (by decide) (pm_c1b rfl) rfl ?_
                            refine pm_goto (tgt := 180) hG dX12_quarter_366 rfl ?_
                            refine pm_fg 2 (loc' := [some (.ref (B + 54)), some (.int (nI (i7 + 1))), none, some (.int (x10 + x12)), some (.int (nI 999999))]) rfl ?_
                            refine pm_fg 3 (loc' := [some (.ref (B + 54)), some (.int (nI (i7 + 1))), none, none, some (.int (nI 999999))]) rfl ?_
                            refine pm_fg 4 (loc' := [some (.ref (B + 54)), some (.int (nI (i7 + 1))), none, none, none]) rfl ?_
                            exact ih7 n_77 (i7 + 1) hnn_77 hrn_77 (e78.trans (congrArg nI (by omega))) (e79.trans (congrArg nI (by omega))) (by omega) (by omega)
                        · refine pm_aloadn hG dX12_quarter_292 rfl ?_
                          refine pm_getf hG dX12_quarter_293 (flX12_7 _ rfl) rfl rfl ?_
                          refine pm_bipush (v := nI 9) hG dX12_quarter_296 (by decide) ?_
                          refine pm_dup2 hG dX12_quarter_298 rfl rfl ?_
                          refine pm_ialdN hG dX12_quarter_299 rfl (by decide) (by omega) ?_
                          refine pm_top (v := x63) ex63 ?_
                          refine pm_iloadi hG dX12_quarter_300 rfl ?_
                          refine pm_isub hG dX12_quarter_302 ?_
                          refine pm_iastN hG dX12_quarter_303 rfl (by decide) (by omega) ?_
                          refine mdn_now (fun n_88 en_88 => ?_)
                          have hnn_88 := KI.w en_88 hnn_14 (okv_f (show kd 9 = (0, 0, false) by decide))
                          have hrn_88 := NRx.w en_88 hrn_14 (by rw [(show kd 9 = (0, 0, false) by decide)])
                          have e89 : n_88 8 = nI kc8 := by rw [en_88, pk_un (by omega)]; exact e15
                          have e90 : n_88 11 = nI kc11 := by rw [en_88, pk_un (by omega)]; exact e16
                          have e91 : n_88 6 = nI k8 := by rw [en_88, pk_un (by omega)]; exact e17
                          have e92 : n_88 (6 * i7 + 1771) = x11 := by rw [en_88, pk_un (by omega)]; exact e18
                          have e93 : n_88 (6 * i7 + 1770) = nI 999999 := by rw [en_88, pk_un (by omega)]; exact e19
                          have e94 : n_88 (6 * i7 + 1772) = x20 := by rw [en_88, pk_un (by omega)]; exact ex20
                          have e95 : n_88 9 = x63 - (nI 999999) := by rw [en_88, pk_us]
                          refine pm_aloadn hG dX12_quarter_304 rfl ?_
                          refine pm_getf hG dX12_quarter_305 (flX12_7 _ rfl) rfl rfl ?_
                          refine pm_iloadn hG dX12_quarter_308 rfl ?_
                          refine pm_dup2 hG dX12_quarter_309 rfl rfl ?_
                          refine pm_ialdN hG dX12_quarter_310 rfl (by decide) (by omega) ?_
                          refine pm_top (v := nI 999999) e93 ?_
                          refine pm_iloadi hG dX12_quarter_311 rfl ?_
                          refine pm_isubN (c := 0) hG dX12_quarter_313 (by omega) ?_
                          refine pm_iastN hG dX12_quarter_314 rfl (by decide) (by omega) ?_
                          refine mdn_now (fun n_96 en_96 => ?_)
                          have hnn_96 := KI.w en_96 hnn_88 (okv_f (show kd (6 * i7 + 1770) = (0, 0, false) from (kd_D (k := i7) (c := 0) (by omega) (by omega) (by decide))))
                          have hrn_96 := NRx.w en_96 hrn_88 (by rw [(show kd (6 * i7 + 1770) = (0, 0, false) from (kd_D (k := i7) (c := 0) (by omega) (by omega) (by decide)))])
                          have e97 : n_96 8 = nI kc8 := by rw [en_96, pk_un (by omega)]; exact e89
                          have e98 : n_96 11 = nI kc11 := by rw [en_96, pk_un (by omega)]; exact e90
                          have e99 : n_96 6 = nI k8 := by rw [en_96, pk_un (by omega)]; exact e91
                          have e100 : n_96 (6 * i7 + 1771) = x11 := by rw [en_96, pk_un (by omega)]; exact e92
                          have e101 : n_96 (6 * i7 + 1772) = x20 := by rw [en_96, pk_un (by omega)]; exact e94
                          have e102 : n_96 9 = x63 - (nI 999999) := by rw [en_96, pk_un (by omega)]; exact e95
                          have e103 : n_96 (6 * i7 + 1770) = nI 0 := by rw [en_96, pk_us]
                          refine pm_goto (tgt := 363) hG dX12_quarter_315 rfl ?_
                          refine pm_iincX (v := nI (i7 + 1)) (loc' := [some (.ref (B + 54)), some (.int (nI (i7 + 1))), some (.int (nI (6 * i7 + 1770))), some (.int (x10 + x12)), some (.int (nI 999999))]) hG dX12_quarter_363 rfl (nI_1 _) (by decide) (pm_c1b rfl) rfl ?_
                          refine pm_goto (tgt := 180) hG dX12_quarter_366 rfl ?_
                          refine pm_fg 2 (loc' := [some (.ref (B + 54)), some (.int (nI (i7 + 1))), none, some (.int (x10 + x12)), some (.int (nI 999999))]) rfl ?_
                          refine pm_fg 3 (loc' := [some (.ref (B + 54)), some (.int (nI (i7 + 1))), none, none, some (.int (nI 999999))]) rfl ?_
                          refine pm_fg 4 (loc' := [some (.ref (B + 54)), some (.int (nI (i7 + 1))), none, none, none]) rfl ?_
                          exact ih7 n_96 (i7 + 1) hnn_96 hrn_96 (e97.trans (congrArg nI (by omega))) (e98.trans (congrArg nI (by omega))) (by omega) (by omega)
                    · refine pm_iloadn hG dX12_quarter_237 rfl ?_
                      refine pm_goto (tgt := 243) hG dX12_quarter_238 rfl ?_
                      refine pm_iastN hG dX12_quarter_243 rfl (by decide) (by omega) ?_
                      refine mdn_now (fun n_104 en_104 => ?_)
                      have hnn_104 := KI.w en_104 hnn_7 (okv_f (show kd (6 * i7 + 1770) = (0, 0, false) from (kd_D (k := i7) (c := 0) (by omega) (by omega) (by decide))))
                      have hrn_104 := NRx.w en_104 hrn_7 (by rw [(show kd (6 * i7 + 1770) = (0, 0, false) from (kd_D (k := i7) (c := 0) (by omega) (by omega) (by decide)))])
                      have e105 : n_104 8 = nI kc8 := by rw [en_104, pk_un (by omega)]; exact kc7_8
                      have e106 : n_104 11 = nI kc11 := by rw [en_104, pk_un (by omega)]; exact kc7_11
                      have e107 : n_104 6 = nI k8 := by rw [en_104, pk_un (by omega)]; exact ek8
                      have e108 : n_104 (6 * i7 + 1771) = x11 := by rw [en_104, pk_un (by omega)]; exact ex11
                      have e109 : n_104 (6 * i7 + 1770) = x10 + x12 := by rw [en_104, pk_us]
                      refine pm_aloadn hG dX12_quarter_244 rfl ?_
                      refine pm_getf hG dX12_quarter_245 (flX12_7 _ rfl) rfl rfl ?_
                      refine pm_iloadn hG dX12_quarter_248 rfl ?_
                      refine pm_ialdN hG dX12_quarter_249 rfl (by decide) (by omega) ?_
                      refine pm_top (v := x10 + x12) e109 ?_
                      refine pm_aloadn hG dX12_quarter_250 rfl ?_
                      refine pm_getf hG dX12_quarter_251 (flX12_7 _ rfl) rfl rfl ?_
                      refine pm_iloadn hG dX12_quarter_254 rfl ?_
                      refine pm_iconst (v := nI 2) hG dX12_quarter_255 (by decide) ?_
                      refine pm_iaddN (c := 6 * i7 + 1772) hG dX12_quarter_256 (by omega) ?_
                      refine pm_ialdN hG dX12_quarter_257 rfl (by decide) (by omega) ?_
                      refine pm_gen (fun x110 ex110 => ?_)
                      refine pm_icmp_ge (tgt := 270) hG dX12_quarter_258 rfl (fun c111 => ?_) (fun c111 => ?_)
                      · refine pm_aloadn hG dX12_quarter_270 rfl ?_
                        refine pm_getf hG dX12_quarter_271 (flX12_7 _ rfl) rfl rfl ?_
                        refine pm_iloadn hG dX12_quarter_274 rfl ?_
                        refine pm_iconst (v := nI 2) hG dX12_quarter_275 (by decide) ?_
                        refine pm_iaddN (c := 6 * i7 + 1772) hG dX12_quarter_276 (by omega) ?_
                        refine pm_ialdN hG dX12_quarter_277 rfl (by decide) (by omega) ?_
                        refine pm_top (v := x110) ex110 ?_
                        refine pm_istoreXi (loc' := [some (.ref (B + 54)), some (.int (nI i7)), some (.int (nI (6 * i7 + 1770))), some (.int (x10 + x12)), some (.int x110)]) hG dX12_quarter_278 (by decide) (pm_c1b rfl) rfl ?_
                        refine pm_aloadn hG dX12_quarter_280 rfl ?_
                        refine pm_getf hG dX12_quarter_281 (flX12_7 _ rfl) rfl rfl ?_
                        refine pm_bipush (v := nI 9) hG dX12_quarter_284 (by decide) ?_
                        refine pm_ialdN hG dX12_quarter_286 rfl (by decide) (by omega) ?_
                        refine pm_gen (fun x112 ex112 => ?_)
                        refine pm_iloadi hG dX12_quarter_287 rfl ?_
                        refine pm_icmp_lt (tgt := 318) hG dX12_quarter_289 rfl (fun c113 => ?_) (fun c113 => ?_)
                        · refine pm_aloadn hG dX12_quarter_318 rfl ?_
                          refine pm_getf hG dX12_quarter_319 (flX12_7 _ rfl) rfl rfl ?_
                          refine pm_iloadn hG dX12_quarter_322 rfl ?_
                          refine pm_iconst (v := nI 3) hG dX12_quarter_323 (by decide) ?_
                          refine pm_iaddN (c := 6 * i7 + 1773) hG dX12_quarter_324 (by omega) ?_
                          refine pm_dup2 hG dX12_quarter_325 rfl rfl ?_
                          refine pm_ialdN hG dX12_quarter_326 rfl (by decide) (by omega) ?_
                          refine pm_gen (fun x114 ex114 => ?_)
                          refine pm_iconst (v := nI 1) hG dX12_quarter_327 (by decide) ?_
                          refine pm_iadd hG dX12_quarter_328 ?_
                          refine pm_iastN hG dX12_quarter_329 rfl (by decide) (by omega) ?_
                          refine mdn_now (fun n_115 en_115 => ?_)
                          have hnn_115 := KI.w en_115 hnn_104 (okv_f (show kd (6 * i7 + 1773) = (0, 0, false) from (kd_D (k := i7) (c := 3) (by omega) (by omega) (by decide))))
                          have hrn_115 := NRx.w en_115 hrn_104 (by rw [(show kd (6 * i7 + 1773) = (0, 0, false) from (kd_D (k := i7) (c := 3) (by omega) (by omega) (by decide)))])
                          have e116 : n_115 8 = nI kc8 := by rw [en_115, pk_un (by omega)]; exact e105
                          have e117 : n_115 11 = nI kc11 := by rw [en_115, pk_un (by omega)]; exact e106
                          have e118 : n_115 6 = nI k8 := by rw [en_115, pk_un (by omega)]; exact e107
                          have e119 : n_115 (6 * i7 + 1771) = x11 := by rw [en_115, pk_un (by omega)]; exact e108
                          have e120 : n_115 (6 * i7 + 1770) = x10 + x12 := by rw [en_115, pk_un (by omega)]; exact e109
                          have e121 : n_115 (6 * i7 + 1772) = x110 := by rw [en_115, pk_un (by omega)]; exact ex110
                          have e122 : n_115 9 = x112 := by rw [en_115, pk_un (by omega)]; exact ex112
                          have e123 : n_115 (6 * i7 + 1773) = x114 + (nI 1) := by rw [en_115, pk_us]
                          refine pm_aloadn hG dX12_quarter_330 rfl ?_
                          refine pm_getf hG dX12_quarter_331 (flX12_7 _ rfl) rfl rfl ?_
                          refine pm_iloadn hG dX12_quarter_334 rfl ?_
                          refine pm_iconst (v := nI 3) hG dX12_quarter_335 (by decide) ?_
                          refine pm_iaddN (c := 6 * i7 + 1773) hG dX12_quarter_336 (by omega) ?_
                          refine pm_ialdN hG dX12_quarter_337 rfl (by decide) (by omega) ?_
                          refine pm_top (v := x114 + (nI 1)) e123 ?_
                          refine pm_iconst (v := nI 2) hG dX12_quarter_338 (by decide) ?_
                          refine pm_icmp_ne (tgt := 363) hG dX12_quarter_339 rfl (fun c124 => ?_) (fun c124 => ?_)
                          · refine pm_iincX (v := nI (i7 + 1)) (loc' := [some (.ref (B + 54)), some (.int (nI (i7 + 1))), some (.int (nI (6 * i7 + 1770))), some (.int (x10 + x12)), some (.int x110)]) hG dX12_quarter_363 rfl (nI_1 _) (by decide) (pm_c1b rfl) rfl ?_
                            refine pm_goto (tgt := 180) hG dX12_quarter_366 rfl ?_
                            refine pm_fg 2 (loc' := [some (.ref (B + 54)), some (.int (nI (i7 + 1))), none, some (.int (x10 + x12)), some (.int x110)]) rfl ?_
                            refine pm_fg 3 (loc' := [some (.ref (B + 54)), some (.int (nI (i7 + 1))), none, none, some (.int x110)]) rfl ?_
                            refine pm_fg 4 (loc' := [some (.ref (B + 54)), some (.int (nI (i7 + 1))), none, none, none]) rfl ?_
                            exact ih7 n_115 (i7 + 1) hnn_115 hrn_115 (e116.trans (congrArg nI (by omega))) (e117.trans (congrArg nI (by omega))) (by omega) (by omega)
                          · refine pm_aloadn hG dX12_quarter_342 rfl ?_
                            refine pm_getf hG dX12_quarter_343 (flX12_7 _ rfl) rfl rfl ?_
                            refine pm_bipush (v := nI 20) hG dX12_quarter_346 (by decide) ?_
                            refine pm_iconst (v := nI 3) hG dX12_quarter_348 (by decide) ?_
                            refine pm_aloadn hG dX12_quarter_349 rfl ?_
                            refine pm_getf hG dX12_quarter_350 (flX12_7 _ rfl) rfl rfl ?_
                            refine pm_iloadn hG dX12_quarter_353 rfl ?_
                            refine pm_iconst (v := nI 4) hG dX12_quarter_354 (by decide) ?_
                            refine pm_iaddN (c := 6 * i7 + 1774) hG dX12_quarter_355 (by omega) ?_
                            refine pm_ialdN hG dX12_quarter_356 rfl (by decide) (by omega) ?_
                            obtain ⟨k125, hk125, ek125⟩ := KI.nat hnn_115 (show kd (6 * i7 + 1774) = (1, 10, false) from (kd_D (k := i7) (c := 4) (by omega) (by omega) (by decide)))
                            refine pm_top (v := nI k125) ek125 ?_
                            refine pm_imulN (c := 3 * k125) hG dX12_quarter_357 (by omega) ?_
                            refine pm_iaddN (c := 3 * k125 + 20) hG dX12_quarter_358 (by omega) ?_
                            refine pm_iconst (v := nI 2) hG dX12_quarter_359 (by decide) ?_
                            refine pm_iaddN (c := 3 * k125 + 22) hG dX12_quarter_360 (by omega) ?_
                            refine pm_iconst (v := nI 1) hG dX12_quarter_361 (by decide) ?_
                            refine pm_iastN hG dX12_quarter_362 rfl (by decide) (by omega) ?_
                            refine mdn_now (fun n_126 en_126 => ?_)
                            have hnn_126 := KI.w en_126 hnn_115 (okv_f (show kd (3 * k125 + 22) = (0, 0, false) from (kd_T (k := k125) (c := 2) (by omega) (by omega) (by decide))))
                            have hrn_126 := NRx.w en_126 hrn_115 (by rw [(show kd (3 * k125 + 22) = (0, 0, false) from (kd_T (k := k125) (c := 2) (by omega) (by omega) (by decide)))])
                            have e127 : n_126 8 = nI kc8 := by rw [en_126, pk_un (by omega)]; exact e116
                            have e128 : n_126 11 = nI kc11 := by rw [en_126, pk_un (by omega)]; exact e117
                            have e129 : n_126 6 = nI k8 := by rw [en_126, pk_un (by omega)]; exact e118
                            have e130 : n_126 (6 * i7 + 1771) = x11 := by rw [en_126, pk_un (by omega)]; exact e119
                            have e131 : n_126 (6 * i7 + 1770) = x10 + x12 := by rw [en_126, pk_un (by omega)]; exact e120
                            have e132 : n_126 (6 * i7 + 1772) = x110 := by rw [en_126, pk_un (by omega)]; exact e121
                            have e133 : n_126 9 = x112 := by rw [en_126, pk_un (by omega)]; exact e122
                            have e134 : n_126 (6 * i7 + 1773) = x114 + (nI 1) := by rw [en_126, pk_un (by omega)]; exact e123
                            have e135 : n_126 (6 * i7 + 1774) = nI k125 := by rw [en_126, pk_un (by omega)]; exact ek125
                            have e136 : n_126 (3 * k125 + 22) = nI 1 := by rw [en_126, pk_us]
                            refine pm_iincX (v := nI (i7 + 1)) (loc' := [some (.ref (B + 54)), some (.int (nI (i7 + 1))), some (.int (nI (6 * i7 + 1770))), some (.int (x10 + x12)), some (.int x110)]) hG dX12_quarter_363 rfl (nI_1 _) (by decide) (pm_c1b rfl) rfl ?_
                            refine pm_goto (tgt := 180) hG dX12_quarter_366 rfl ?_
                            refine pm_fg 2 (loc' := [some (.ref (B + 54)), some (.int (nI (i7 + 1))), none, some (.int (x10 + x12)), some (.int x110)]) rfl ?_
                            refine pm_fg 3 (loc' := [some (.ref (B + 54)), some (.int (nI (i7 + 1))), none, none, some (.int x110)]) rfl ?_
                            refine pm_fg 4 (loc' := [some (.ref (B + 54)), some (.int (nI (i7 + 1))), none, none, none]) rfl ?_
                            exact ih7 n_126 (i7 + 1) hnn_126 hrn_126 (e127.trans (congrArg nI (by omega))) (e128.trans (congrArg nI (by omega))) (by omega) (by omega)
                        · refine pm_aloadn hG dX12_quarter_292 rfl ?_
                          refine pm_getf hG dX12_quarter_293 (flX12_7 _ rfl) rfl rfl ?_
                          refine pm_bipush (v := nI 9) hG dX12_quarter_296 (by decide) ?_
                          refine pm_dup2 hG dX12_quarter_298 rfl rfl ?_
                          refine pm_ialdN hG dX12_quarter_299 rfl (by decide) (by omega) ?_
                          refine pm_top (v := x112) ex112 ?_
                          refine pm_iloadi hG dX12_quarter_300 rfl ?_
                          refine pm_isub hG dX12_quarter_302 ?_
                          refine pm_iastN hG dX12_quarter_303 rfl (by decide) (by omega) ?_
                          refine mdn_now (fun n_137 en_137 => ?_)
                          have hnn_137 := KI.w en_137 hnn_104 (okv_f (show kd 9 = (0, 0, false) by decide))
                          have hrn_137 := NRx.w en_137 hrn_104 (by rw [(show kd 9 = (0, 0, false) by decide)])
                          have e138 : n_137 8 = nI kc8 := by rw [en_137, pk_un (by omega)]; exact e105
                          have e139 : n_137 11 = nI kc11 := by rw [en_137, pk_un (by omega)]; exact e106
                          have e140 : n_137 6 = nI k8 := by rw [en_137, pk_un (by omega)]; exact e107
                          have e141 : n_137 (6 * i7 + 1771) = x11 := by rw [en_137, pk_un (by omega)]; exact e108
                          have e142 : n_137 (6 * i7 + 1770) = x10 + x12 := by rw [en_137, pk_un (by omega)]; exact e109
                          have e143 : n_137 (6 * i7 + 1772) = x110 := by rw [en_137, pk_un (by omega)]; exact ex110
                          have e144 : n_137 9 = x112 - x110 := by rw [en_137, pk_us]
                          refine pm_aloadn hG dX12_quarter_304 rfl ?_
                          refine pm_getf hG dX12_quarter_305 (flX12_7 _ rfl) rfl rfl ?_
                          refine pm_iloadn hG dX12_quarter_308 rfl ?_
                          refine pm_dup2 hG dX12_quarter_309 rfl rfl ?_
                          refine pm_ialdN hG dX12_quarter_310 rfl (by decide) (by omega) ?_
                          refine pm_top (v := x10 + x12) e142 ?_
                          refine pm_iloadi hG dX12_quarter_311 rfl ?_
                          refine pm_isub hG dX12_quarter_313 ?_
                          refine pm_iastN hG dX12_quarter_314 rfl (by decide) (by omega) ?_
                          refine mdn_now (fun n_145 en_145 => ?_)
                          have hnn_145 := KI.w en_145 hnn_137 (okv_f (show kd (6 * i7 + 1770) = (0, 0, false) from (kd_D (k := i7) (c := 0) (by omega) (by omega) (by decide))))
                          have hrn_145 := NRx.w en_145 hrn_137 (by rw [(show kd (6 * i7 + 1770) = (0, 0, false) from (kd_D (k := i7) (c := 0) (by omega) (by omega) (by decide)))])
                          have e146 : n_145 8 = nI kc8 := by rw [en_145, pk_un (by omega)]; exact e138
                          have e147 : n_145 11 = nI kc11 := by rw [en_145, pk_un (by omega)]; exact e139
                          have e148 : n_145 6 = nI k8 := by rw [en_145, pk_un (by omega)]; exact e140
                          have e149 : n_145 (6 * i7 + 1771) = x11 := by rw [en_145, pk_un (by omega)]; exact e141
                          have e150 : n_145 (6 * i7 + 1772) = x110 := by rw [en_145, pk_un (by omega)]; exact e143
                          have e151 : n_145 9 = x112 - x110 := by rw [en_145, pk_un (by omega)]; exact e144
                          have e152 : n_145 (6 * i7 + 1770) = (x10 + x12) - x110 := by rw [en_145, pk_us]
                          refine pm_goto (tgt := 363) hG dX12_quarter_315 rfl ?_
                          refine pm_iincX (v := nI (i7 + 1)) (loc' := [some (.ref (B + 54)), some (.int (nI (i7 + 1))), some (.int (nI (6 * i7 + 1770))), some (.int (x10 + x12)), some (.int x110)]) hG dX12_quarter_363 rfl (nI_1 _) (by decide) (pm_c1b rfl) rfl ?_
                          refine pm_goto (tgt := 180) hG dX12_quarter_366 rfl ?_
                          refine pm_fg 2 (loc' := [some (.ref (B + 54)), some (.int (nI (i7 + 1))), none, some (.int (x10 + x12)), some (.int x110)]) rfl ?_
                          refine pm_fg 3 (loc' := [some (.ref (B + 54)), some (.int (nI (i7 + 1))), none, none, some (.int x110)]) rfl ?_
                          refine pm_fg 4 (loc' := [some (.ref (B + 54)), some (.int (nI (i7 + 1))), none, none, none]) rfl ?_
                          exact ih7 n_145 (i7 + 1) hnn_145 hrn_145 (e146.trans (congrArg nI (by omega))) (e147.trans (congrArg nI (by omega))) (by omega) (by omega)
                      · refine pm_aloadn hG dX12_quarter_261 rfl ?_
                        refine pm_getf hG dX12_quarter_262 (flX12_7 _ rfl) rfl rfl ?_
                        refine pm_iloadn hG dX12_quarter_265 rfl ?_
                        refine pm_ialdN hG dX12_quarter_266 rfl (by decide) (by omega) ?_
                        refine pm_top (v := x10 + x12) e109 ?_
                        refine pm_goto (tgt := 278) hG dX12_quarter_267 rfl ?_
                        refine pm_istoreXi (loc' := [some (.ref (B + 54)), some (.int (nI i7)), some (.int (nI (6 * i7 + 1770))), some (.int (x10 + x12)), some (.int (x10 + x12))]) hG dX12_quarter_278 (by decide) (pm_c1b rfl) rfl ?_
                        refine pm_aloadn hG dX12_quarter_280 rfl ?_
                        refine pm_getf hG dX12_quarter_281 (flX12_7 _ rfl) rfl rfl ?_
                        refine pm_bipush (v := nI 9) hG dX12_quarter_284 (by decide) ?_
                        refine pm_ialdN hG dX12_quarter_286 rfl (by decide) (by omega) ?_
                        refine pm_gen (fun x153 ex153 => ?_)
                        refine pm_iloadi hG dX12_quarter_287 rfl ?_
                        refine pm_icmp_lt (tgt := 318) hG dX12_quarter_289 rfl (fun c154 => ?_) (fun c154 => ?_)
                        · refine pm_aloadn hG dX12_quarter_318 rfl ?_
                          refine pm_getf hG dX12_quarter_319 (flX12_7 _ rfl) rfl rfl ?_
                          refine pm_iloadn hG dX12_quarter_322 rfl ?_
                          refine pm_iconst (v := nI 3) hG dX12_quarter_323 (by decide) ?_
                          refine pm_iaddN (c := 6 * i7 + 1773) hG dX12_quarter_324 (by omega) ?_
                          refine pm_dup2 hG dX12_quarter_325 rfl rfl ?_
                          refine pm_ialdN hG dX12_quarter_326 rfl (by decide) (by omega) ?_
                          refine pm_gen (fun x155 ex155 => ?_)
                          refine pm_iconst (v := nI 1) hG dX12_quarter_327 (by decide) ?_
                          refine pm_iadd hG dX12_quarter_328 ?_
                          refine pm_iastN hG dX12_quarter_329 rfl (by decide) (by omega) ?_
                          refine mdn_now (fun n_156 en_156 => ?_)
                          have hnn_156 := KI.w en_156 hnn_104 (okv_f (show kd (6 * i7 + 1773) = (0, 0, false) from (kd_D (k := i7) (c := 3) (by omega) (by omega) (by decide))))
                          have hrn_156 := NRx.w en_156 hrn_104 (by rw [(show kd (6 * i7 + 1773) = (0, 0, false) from (kd_D (k := i7) (c := 3) (by omega) (by omega) (by decide)))])
                          have e157 : n_156 8 = nI kc8 := by rw [en_156, pk_un (by omega)]; exact e105
                          have e158 : n_156 11 = nI kc11 := by rw [en_156, pk_un (by omega)]; exact e106
                          have e159 : n_156 6 = nI k8 := by rw [en_156, pk_un (by omega)]; exact e107
                          have e160 : n_156 (6 * i7 + 1771) = x11 := by rw [en_156, pk_un (by omega)]; exact e108
                          have e161 : n_156 (6 * i7 + 1770) = x10 + x12 := by rw [en_156, pk_un (by omega)]; exact e109
                          have e162 : n_156 (6 * i7 + 1772) = x110 := by rw [en_156, pk_un (by omega)]; exact ex110
                          have e163 : n_156 9 = x153 := by rw [en_156, pk_un (by omega)]; exact ex153
                          have e164 : n_156 (6 * i7 + 1773) = x155 + (nI 1) := by rw [en_156, pk_us]
                          refine pm_aloadn hG dX12_quarter_330 rfl ?_
                          refine pm_getf hG dX12_quarter_331 (flX12_7 _ rfl) rfl rfl ?_
                          refine pm_iloadn hG dX12_quarter_334 rfl ?_
                          refine pm_iconst (v := nI 3) hG dX12_quarter_335 (by decide) ?_
                          refine pm_iaddN (c := 6 * i7 + 1773) hG dX12_quarter_336 (by omega) ?_
                          refine pm_ialdN hG dX12_quarter_337 rfl (by decide) (by omega) ?_
                          refine pm_top (v := x155 + (nI 1)) e164 ?_
                          refine pm_iconst (v := nI 2) hG dX12_quarter_338 (by decide) ?_
                          refine pm_icmp_ne (tgt := 363) hG dX12_quarter_339 rfl (fun c165 => ?_) (fun c165 => ?_)
                          · refine pm_iincX (v := nI (i7 + 1)) (loc' := [some (.ref (B + 54)), some (.int (nI (i7 + 1))), some (.int (nI (6 * i7 + 1770))), some (.int (x10 + x12)), some (.int (x10 + x12))]) hG dX12_quarter_363 rfl (nI_1 _) (by decide) (pm_c1b rfl) rfl ?_
                            refine pm_goto (tgt := 180) hG dX12_quarter_366 rfl ?_
                            refine pm_fg 2 (loc' := [some (.ref (B + 54)), some (.int (nI (i7 + 1))), none, some (.int (x10 + x12)), some (.int (x10 + x12))]) rfl ?_
                            refine pm_fg 3 (loc' := [some (.ref (B + 54)), some (.int (nI (i7 + 1))), none, none, some (.int (x10 + x12))]) rfl ?_
                            refine pm_fg 4 (loc' := [some (.ref (B + 54)), some (.int (nI (i7 + 1))), none, none, none]) rfl ?_
                            exact ih7 n_156 (i7 + 1) hnn_156 hrn_156 (e157.trans (congrArg nI (by omega))) (e158.trans (congrArg nI (by omega))) (by omega) (by omega)
                          · refine pm_aloadn hG dX12_quarter_342 rfl ?_
                            refine pm_getf hG dX12_quarter_343 (flX12_7 _ rfl) rfl rfl ?_
                            refine pm_bipush (v := nI 20) hG dX12_quarter_346 (by decide) ?_
                            refine pm_iconst (v := nI 3) hG dX12_quarter_348 (by decide) ?_
                            refine pm_aloadn hG dX12_quarter_349 rfl ?_
                            refine pm_getf hG dX12_quarter_350 (flX12_7 _ rfl) rfl rfl ?_
                            refine pm_iloadn hG dX12_quarter_353 rfl ?_
                            refine pm_iconst (v := nI 4) hG dX12_quarter_354 (by decide) ?_
                            refine pm_iaddN (c := 6 * i7 + 1774) hG dX12_quarter_355 (by omega) ?_
                            refine pm_ialdN hG dX12_quarter_356 rfl (by decide) (by omega) ?_
                            obtain ⟨k166, hk166, ek166⟩ := KI.nat hnn_156 (show kd (6 * i7 + 1774) = (1, 10, false) from (kd_D (k := i7) (c := 4) (by omega) (by omega) (by decide)))
                            refine pm_top (v := nI k166) ek166 ?_
                            refine pm_imulN (c := 3 * k166) hG dX12_quarter_357 (by omega) ?_
                            refine pm_iaddN (c := 3 * k166 + 20) hG dX12_quarter_358 (by omega) ?_
                            refine pm_iconst (v := nI 2) hG dX12_quarter_359 (by decide) ?_
                            refine pm_iaddN (c := 3 * k166 + 22) hG dX12_quarter_360 (by omega) ?_
                            refine pm_iconst (v := nI 1) hG dX12_quarter_361 (by decide) ?_
                            refine pm_iastN hG dX12_quarter_362 rfl (by decide) (by omega) ?_
                            refine mdn_now (fun n_167 en_167 => ?_)
                            have hnn_167 := KI.w en_167 hnn_156 (okv_f (show kd (3 * k166 + 22) = (0, 0, false) from (kd_T (k := k166) (c := 2) (by omega) (by omega) (by decide))))
                            have hrn_167 := NRx.w en_167 hrn_156 (by rw [(show kd (3 * k166 + 22) = (0, 0, false) from (kd_T (k := k166) (c := 2) (by omega) (by omega) (by decide)))])
                            have e168 : n_167 8 = nI kc8 := by rw [en_167, pk_un (by omega)]; exact e157
                            have e169 : n_167 11 = nI kc11 := by rw [en_167, pk_un (by omega)]; exact e158
                            have e170 : n_167 6 = nI k8 := by rw [en_167, pk_un (by omega)]; exact e159
                            have e171 : n_167 (6 * i7 + 1771) = x11 := by rw [en_167, pk_un (by omega)]; exact e160
                            have e172 : n_167 (6 * i7 + 1770) = x10 + x12 := by rw [en_167, pk_un (by omega)]; exact e161
                            have e173 : n_167 (6 * i7 + 1772) = x110 := by rw [en_167, pk_un (by omega)]; exact e162
                            have e174 : n_167 9 = x153 := by rw [en_167, pk_un (by omega)]; exact e163
                            have e175 : n_167 (6 * i7 + 1773) = x155 + (nI 1) := by rw [en_167, pk_un (by omega)]; exact e164
                            have e176 : n_167 (6 * i7 + 1774) = nI k166 := by rw [en_167, pk_un (by omega)]; exact ek166
                            have e177 : n_167 (3 * k166 + 22) = nI 1 := by rw [en_167, pk_us]
                            refine pm_iincX (v := nI (i7 + 1)) (loc' := [some (.ref (B + 54)), some (.int (nI (i7 + 1))), some (.int (nI (6 * i7 + 1770))), some (.int (x10 + x12)), some (.int (x10 + x12))]) hG dX12_quarter_363 rfl (nI_1 _) (by decide) (pm_c1b rfl) rfl ?_
                            refine pm_goto (tgt := 180) hG dX12_quarter_366 rfl ?_
                            refine pm_fg 2 (loc' := [some (.ref (B + 54)), some (.int (nI (i7 + 1))), none, some (.int (x10 + x12)), some (.int (x10 + x12))]) rfl ?_
                            refine pm_fg 3 (loc' := [some (.ref (B + 54)), some (.int (nI (i7 + 1))), none, none, some (.int (x10 + x12))]) rfl ?_
                            refine pm_fg 4 (loc' := [some (.ref (B + 54)), some (.int (nI (i7 + 1))), none, none, none]) rfl ?_
                            exact ih7 n_167 (i7 + 1) hnn_167 hrn_167 (e168.trans (congrArg nI (by omega))) (e169.trans (congrArg nI (by omega))) (by omega) (by omega)
                        · refine pm_aloadn hG dX12_quarter_292 rfl ?_
                          refine pm_getf hG dX12_quarter_293 (flX12_7 _ rfl) rfl rfl ?_
                          refine pm_bipush (v := nI 9) hG dX12_quarter_296 (by decide) ?_
                          refine pm_dup2 hG dX12_quarter_298 rfl rfl ?_
                          refine pm_ialdN hG dX12_quarter_299 rfl (by decide) (by omega) ?_
                          refine pm_top (v := x153) ex153 ?_
                          refine pm_iloadi hG dX12_quarter_300 rfl ?_
                          refine pm_isub hG dX12_quarter_302 ?_
                          refine pm_iastN hG dX12_quarter_303 rfl (by decide) (by omega) ?_
                          refine mdn_now (fun n_178 en_178 => ?_)
                          have hnn_178 := KI.w en_178 hnn_104 (okv_f (show kd 9 = (0, 0, false) by decide))
                          have hrn_178 := NRx.w en_178 hrn_104 (by rw [(show kd 9 = (0, 0, false) by decide)])
                          have e179 : n_178 8 = nI kc8 := by rw [en_178, pk_un (by omega)]; exact e105
                          have e180 : n_178 11 = nI kc11 := by rw [en_178, pk_un (by omega)]; exact e106
                          have e181 : n_178 6 = nI k8 := by rw [en_178, pk_un (by omega)]; exact e107
                          have e182 : n_178 (6 * i7 + 1771) = x11 := by rw [en_178, pk_un (by omega)]; exact e108
                          have e183 : n_178 (6 * i7 + 1770) = x10 + x12 := by rw [en_178, pk_un (by omega)]; exact e109
                          have e184 : n_178 (6 * i7 + 1772) = x110 := by rw [en_178, pk_un (by omega)]; exact ex110
                          have e185 : n_178 9 = x153 - (x10 + x12) := by rw [en_178, pk_us]
                          refine pm_aloadn hG dX12_quarter_304 rfl ?_
                          refine pm_getf hG dX12_quarter_305 (flX12_7 _ rfl) rfl rfl ?_
                          refine pm_iloadn hG dX12_quarter_308 rfl ?_
                          refine pm_dup2 hG dX12_quarter_309 rfl rfl ?_
                          refine pm_ialdN hG dX12_quarter_310 rfl (by decide) (by omega) ?_
                          refine pm_top (v := x10 + x12) e183 ?_
                          refine pm_iloadi hG dX12_quarter_311 rfl ?_
                          refine pm_isub hG dX12_quarter_313 ?_
                          refine pm_iastN hG dX12_quarter_314 rfl (by decide) (by omega) ?_
                          refine mdn_now (fun n_186 en_186 => ?_)
                          have hnn_186 := KI.w en_186 hnn_178 (okv_f (show kd (6 * i7 + 1770) = (0, 0, false) from (kd_D (k := i7) (c := 0) (by omega) (by omega) (by decide))))
                          have hrn_186 := NRx.w en_186 hrn_178 (by rw [(show kd (6 * i7 + 1770) = (0, 0, false) from (kd_D (k := i7) (c := 0) (by omega) (by omega) (by decide)))])
                          have e187 : n_186 8 = nI kc8 := by rw [en_186, pk_un (by omega)]; exact e179
                          have e188 : n_186 11 = nI kc11 := by rw [en_186, pk_un (by omega)]; exact e180
                          have e189 : n_186 6 = nI k8 := by rw [en_186, pk_un (by omega)]; exact e181
                          have e190 : n_186 (6 * i7 + 1771) = x11 := by rw [en_186, pk_un (by omega)]; exact e182
                          have e191 : n_186 (6 * i7 + 1772) = x110 := by rw [en_186, pk_un (by omega)]; exact e184
                          have e192 : n_186 9 = x153 - (x10 + x12) := by rw [en_186, pk_un (by omega)]; exact e185
                          have e193 : n_186 (6 * i7 + 1770) = (x10 + x12) - (x10 + x12) := by rw [en_186, pk_us]
                          refine pm_goto (tgt := 363) hG dX12_quarter_315 rfl ?_
                          refine pm_iincX (v := nI (i7 + 1)) (loc' := [some (.ref (B + 54)), some (.int (nI (i7 + 1))), some (.int (nI (6 * i7 + 1770))), some (.int (x10 + x12)), some (.int (x10 + x12))]) hG dX12_quarter_363 rfl (nI_1 _) (by decide) (pm_c1b rfl) rfl ?_
                          refine pm_goto (tgt := 180) hG dX12_quarter_366 rfl ?_
                          refine pm_fg 2 (loc' := [some (.ref (B + 54)), some (.int (nI (i7 + 1))), none, some (.int (x10 + x12)), some (.int (x10 + x12))]) rfl ?_
                          refine pm_fg 3 (loc' := [some (.ref (B + 54)), some (.int (nI (i7 + 1))), none, none, some (.int (x10 + x12))]) rfl ?_
                          refine pm_fg 4 (loc' := [some (.ref (B + 54)), some (.int (nI (i7 + 1))), none, none, none]) rfl ?_
                          exact ih7 n_186 (i7 + 1) hnn_186 hrn_186 (e187.trans (congrArg nI (by omega))) (e188.trans (congrArg nI (by omega))) (by omega) (by omega)
              exact loop180_7 _ n_4 0 hnn_4 hrn_4 (kc4_8.trans (congrArg nI (by omega))) (kc4_11.trans (congrArg nI (by omega))) (by omega) (Nat.lt_succ_self _)
            · refine pm_aloadn hG dX12_quarter_113 rfl ?_
              refine pm_iloadn hG dX12_quarter_114 rfl ?_
              refine pm_bipush (v := nI 7) hG dX12_quarter_115 (by decide) ?_
              refine pm_callV (As := [.int (nI i4), .int (nI 7)]) (rest := []) hG hR dX12_quarter_117 (lkX12_72 _ rfl) okV_X12_man rfl rfl (m_man (d := 1) (e := 14 * i4 + 117) (by omega) (by omega) (by omega)) rfl rfl hdd (Nat.le_refl _) (Nat.le_refl _) (by decide) (pm_ki (fun v194 σ' cnt' hq => ?_))
              obtain ⟨rfl, rfl, rfl⟩ := hq
              refine pm_gen (fun x195 ex195 => ?_)
              refine pm_aloadn hG dX12_quarter_120 rfl ?_
              refine pm_iloadn hG dX12_quarter_121 rfl ?_
              refine pm_bipush (v := nI 8) hG dX12_quarter_122 (by decide) ?_
              refine pm_callV (As := [.int (nI i4), .int (nI 8)]) (rest := [.int x195]) hG hR dX12_quarter_124 (lkX12_72 _ rfl) okV_X12_man rfl rfl (m_man (d := 1) (e := 14 * i4 + 118) (by omega) (by omega) (by omega)) rfl rfl hdd (Nat.le_refl _) (Nat.le_refl _) (Nat.le_of_ble_eq_true rfl) (pm_ki (fun v196 σ' cnt' hq => ?_))
              obtain ⟨rfl, rfl, rfl⟩ := hq
              refine pm_gen (fun x197 ex197 => ?_)
              refine pm_icmp_ge (tgt := 140) hG dX12_quarter_127 rfl (fun c198 => ?_) (fun c198 => ?_)
              · refine pm_aloadn hG dX12_quarter_140 rfl ?_
                refine pm_iloadn hG dX12_quarter_141 rfl ?_
                refine pm_bipush (v := nI 8) hG dX12_quarter_142 (by decide) ?_
                refine pm_callV (As := [.int (nI i4), .int (nI 8)]) (rest := []) hG hR dX12_quarter_144 (lkX12_72 _ rfl) okV_X12_man rfl rfl (m_man (d := 1) (e := 14 * i4 + 118) (by omega) (by omega) (by omega)) rfl rfl hdd (Nat.le_refl _) (Nat.le_refl _) (by decide) (pm_ki (fun v199 σ' cnt' hq => ?_))
                obtain ⟨rfl, rfl, rfl⟩ := hq
                refine pm_top (v := x197) ex197 ?_
                refine pm_istoreXn (loc' := [some (.ref (B + 54)), some (.int (nI i4)), some (.int x197), none, none]) hG dX12_quarter_147 (by decide) (pm_c1b rfl) rfl ?_
                refine pm_aloadn hG dX12_quarter_148 rfl ?_
                refine pm_iloadn hG dX12_quarter_149 rfl ?_
                refine pm_bipush (v := nI 7) hG dX12_quarter_150 (by decide) ?_
                refine pm_aloadn hG dX12_quarter_152 rfl ?_
                refine pm_iloadn hG dX12_quarter_153 rfl ?_
                refine pm_bipush (v := nI 7) hG dX12_quarter_154 (by decide) ?_
                refine pm_callV (As := [.int (nI i4), .int (nI 7)]) (rest := [.int (nI 7), .int (nI i4), .ref (B + 54)]) hG hR dX12_quarter_156 (lkX12_72 _ rfl) okV_X12_man rfl rfl (m_man (d := 1) (e := 14 * i4 + 117) (by omega) (by omega) (by omega)) rfl rfl hdd (Nat.le_refl _) (Nat.le_refl _) (Nat.le_of_ble_eq_true rfl) (pm_ki (fun v200 σ' cnt' hq => ?_))
                obtain ⟨rfl, rfl, rfl⟩ := hq
                refine pm_top (v := x195) ex195 ?_
                refine pm_iloadn hG dX12_quarter_159 rfl ?_
                refine pm_isub hG dX12_quarter_160 ?_
                refine pm_callV (As := [.int (nI i4), .int (nI 7), .int (x195 - x197)]) (rest := []) hG hR dX12_quarter_161 (lkX12_97 _ rfl) okV_X12_sets rfl rfl (m_sets (d := 1) (e := 14 * i4 + 117) (by omega) (by omega) (by omega)) rfl rfl hdd (Nat.le_refl _) (Nat.le_refl _) (by decide) (pm_kv (fun σ' cnt' hq => ?_))
                obtain ⟨rfl, rfl⟩ := hq
                obtain ⟨n_201, en_201⟩ : ∃ f : Nat → Int32, f = upd n_4 (14 * i4 + 117) (x195 - x197) := ⟨_, rfl⟩
                rw [← en_201]
                have hnn_201 := KI.w en_201 hnn_4 (okv_f (show kd (14 * i4 + 117) = (0, 0, false) from (kd_P (k := i4) (c := 7) (by omega) (by omega) (by decide))))
                have hrn_201 := NRx.w en_201 hrn_4 (by rw [(show kd (14 * i4 + 117) = (0, 0, false) from (kd_P (k := i4) (c := 7) (by omega) (by omega) (by decide)))])
                have e202 : n_201 8 = nI kc8 := by rw [en_201, pk_un (by omega)]; exact kc4_8
                have e203 : n_201 11 = nI kc11 := by rw [en_201, pk_un (by omega)]; exact kc4_11
                have e204 : n_201 2 = nI k5 := by rw [en_201, pk_un (by omega)]; exact ek5
                have e205 : n_201 (14 * i4 + 118) = x197 := by rw [en_201, pk_un (by omega)]; exact ex197
                have e206 : n_201 (14 * i4 + 117) = x195 - x197 := by rw [en_201, pk_us]
                refine pm_aloadn hG dX12_quarter_164 rfl ?_
                refine pm_iloadn hG dX12_quarter_165 rfl ?_
                refine pm_bipush (v := nI 8) hG dX12_quarter_166 (by decide) ?_
                refine pm_iloadn hG dX12_quarter_168 rfl ?_
                refine pm_callV (As := [.int (nI i4), .int (nI 8), .int x197]) (rest := []) hG hR dX12_quarter_169 (lkX12_97 _ rfl) okV_X12_sets rfl rfl (m_sets (d := 1) (e := 14 * i4 + 118) (by omega) (by omega) (by omega)) rfl rfl hdd (Nat.le_refl _) (Nat.le_refl _) (by decide) (pm_kv (fun σ' cnt' hq => ?_))
                obtain ⟨rfl, rfl⟩ := hq
                obtain ⟨n_207, en_207⟩ : ∃ f : Nat → Int32, f = upd n_201 (14 * i4 + 118) x197 := ⟨_, rfl⟩
                rw [← en_207]
                have hnn_207 := KI.w en_207 hnn_201 (okv_f (show kd (14 * i4 + 118) = (0, 0, false) from (kd_P (k := i4) (c := 8) (by omega) (by omega) (by decide))))
                have hrn_207 := NRx.w en_207 hrn_201 (by rw [(show kd (14 * i4 + 118) = (0, 0, false) from (kd_P (k := i4) (c := 8) (by omega) (by omega) (by decide)))])
                have e208 : n_207 8 = nI kc8 := by rw [en_207, pk_un (by omega)]; exact e202
                have e209 : n_207 11 = nI kc11 := by rw [en_207, pk_un (by omega)]; exact e203
                have e210 : n_207 2 = nI k5 := by rw [en_207, pk_un (by omega)]; exact e204
                have e211 : n_207 (14 * i4 + 117) = x195 - x197 := by rw [en_207, pk_un (by omega)]; exact e206
                have e212 : n_207 (14 * i4 + 118) = x197 := by rw [en_207, pk_us]
                refine pm_iincX (v := nI (i4 + 1)) (loc' := [some (.ref (B + 54)), some (.int (nI (i4 + 1))), some (.int x197), none, none]) hG dX12_quarter_172 rfl (nI_1 _) (by decide) (pm_c1b rfl) rfl ?_
                refine pm_goto (tgt := 103) hG dX12_quarter_175 rfl ?_
                refine pm_fg 2 (loc' := [some (.ref (B + 54)), some (.int (nI (i4 + 1))), none, none, none]) rfl ?_
                exact ih4 n_207 (i4 + 1) hnn_207 hrn_207 (e208.trans (congrArg nI (by omega))) (e209.trans (congrArg nI (by omega))) (by omega) (by omega)
              · refine pm_aloadn hG dX12_quarter_130 rfl ?_
                refine pm_iloadn hG dX12_quarter_131 rfl ?_
                refine pm_bipush (v := nI 7) hG dX12_quarter_132 (by decide) ?_
                refine pm_callV (As := [.int (nI i4), .int (nI 7)]) (rest := []) hG hR dX12_quarter_134 (lkX12_72 _ rfl) okV_X12_man rfl rfl (m_man (d := 1) (e := 14 * i4 + 117) (by omega) (by omega) (by omega)) rfl rfl hdd (Nat.le_refl _) (Nat.le_refl _) (by decide) (pm_ki (fun v213 σ' cnt' hq => ?_))
                obtain ⟨rfl, rfl, rfl⟩ := hq
                refine pm_top (v := x195) ex195 ?_
                refine pm_goto (tgt := 147) hG dX12_quarter_137 rfl ?_
                refine pm_istoreXn (loc' := [some (.ref (B + 54)), some (.int (nI i4)), some (.int x195), none, none]) hG dX12_quarter_147 (by decide) (pm_c1b rfl) rfl ?_
                refine pm_aloadn hG dX12_quarter_148 rfl ?_
                refine pm_iloadn hG dX12_quarter_149 rfl ?_
                refine pm_bipush (v := nI 7) hG dX12_quarter_150 (by decide) ?_
                refine pm_aloadn hG dX12_quarter_152 rfl ?_
                refine pm_iloadn hG dX12_quarter_153 rfl ?_
                refine pm_bipush (v := nI 7) hG dX12_quarter_154 (by decide) ?_
                refine pm_callV (As := [.int (nI i4), .int (nI 7)]) (rest := [.int (nI 7), .int (nI i4), .ref (B + 54)]) hG hR dX12_quarter_156 (lkX12_72 _ rfl) okV_X12_man rfl rfl (m_man (d := 1) (e := 14 * i4 + 117) (by omega) (by omega) (by omega)) rfl rfl hdd (Nat.le_refl _) (Nat.le_refl _) (Nat.le_of_ble_eq_true rfl) (pm_ki (fun v214 σ' cnt' hq => ?_))
                obtain ⟨rfl, rfl, rfl⟩ := hq
                refine pm_top (v := x195) ex195 ?_
                refine pm_iloadn hG dX12_quarter_159 rfl ?_
                refine pm_isub hG dX12_quarter_160 ?_
                refine pm_callV (As := [.int (nI i4), .int (nI 7), .int (x195 - x195)]) (rest := []) hG hR dX12_quarter_161 (lkX12_97 _ rfl) okV_X12_sets rfl rfl (m_sets (d := 1) (e := 14 * i4 + 117) (by omega) (by omega) (by omega)) rfl rfl hdd (Nat.le_refl _) (Nat.le_refl _) (by decide) (pm_kv (fun σ' cnt' hq => ?_))
                obtain ⟨rfl, rfl⟩ := hq
                obtain ⟨n_215, en_215⟩ : ∃ f : Nat → Int32, f = upd n_4 (14 * i4 + 117) (x195 - x195) := ⟨_, rfl⟩
                rw [← en_215]
                have hnn_215 := KI.w en_215 hnn_4 (okv_f (show kd (14 * i4 + 117) = (0, 0, false) from (kd_P (k := i4) (c := 7) (by omega) (by omega) (by decide))))
                have hrn_215 := NRx.w en_215 hrn_4 (by rw [(show kd (14 * i4 + 117) = (0, 0, false) from (kd_P (k := i4) (c := 7) (by omega) (by omega) (by decide)))])
                have e216 : n_215 8 = nI kc8 := by rw [en_215, pk_un (by omega)]; exact kc4_8
                have e217 : n_215 11 = nI kc11 := by rw [en_215, pk_un (by omega)]; exact kc4_11
                have e218 : n_215 2 = nI k5 := by rw [en_215, pk_un (by omega)]; exact ek5
                have e219 : n_215 (14 * i4 + 118) = x197 := by rw [en_215, pk_un (by omega)]; exact ex197
                have e220 : n_215 (14 * i4 + 117) = x195 - x195 := by rw [en_215, pk_us]
                refine pm_aloadn hG dX12_quarter_164 rfl ?_
                refine pm_iloadn hG dX12_quarter_165 rfl ?_
                refine pm_bipush (v := nI 8) hG dX12_quarter_166 (by decide) ?_
                refine pm_iloadn hG dX12_quarter_168 rfl ?_
                refine pm_callV (As := [.int (nI i4), .int (nI 8), .int x195]) (rest := []) hG hR dX12_quarter_169 (lkX12_97 _ rfl) okV_X12_sets rfl rfl (m_sets (d := 1) (e := 14 * i4 + 118) (by omega) (by omega) (by omega)) rfl rfl hdd (Nat.le_refl _) (Nat.le_refl _) (by decide) (pm_kv (fun σ' cnt' hq => ?_))
                obtain ⟨rfl, rfl⟩ := hq
                obtain ⟨n_221, en_221⟩ : ∃ f : Nat → Int32, f = upd n_215 (14 * i4 + 118) x195 := ⟨_, rfl⟩
                rw [← en_221]
                have hnn_221 := KI.w en_221 hnn_215 (okv_f (show kd (14 * i4 + 118) = (0, 0, false) from (kd_P (k := i4) (c := 8) (by omega) (by omega) (by decide))))
                have hrn_221 := NRx.w en_221 hrn_215 (by rw [(show kd (14 * i4 + 118) = (0, 0, false) from (kd_P (k := i4) (c := 8) (by omega) (by omega) (by decide)))])
                have e222 : n_221 8 = nI kc8 := by rw [en_221, pk_un (by omega)]; exact e216
                have e223 : n_221 11 = nI kc11 := by rw [en_221, pk_un (by omega)]; exact e217
                have e224 : n_221 2 = nI k5 := by rw [en_221, pk_un (by omega)]; exact e218
                have e225 : n_221 (14 * i4 + 117) = x195 - x195 := by rw [en_221, pk_un (by omega)]; exact e220
                have e226 : n_221 (14 * i4 + 118) = x195 := by rw [en_221, pk_us]
                refine pm_iincX (v := nI (i4 + 1)) (loc' := [some (.ref (B + 54)), some (.int (nI (i4 + 1))), some (.int x195), none, none]) hG dX12_quarter_172 rfl (nI_1 _) (by decide) (pm_c1b rfl) rfl ?_
                refine pm_goto (tgt := 103) hG dX12_quarter_175 rfl ?_
                refine pm_fg 2 (loc' := [some (.ref (B + 54)), some (.int (nI (i4 + 1))), none, none, none]) rfl ?_
                exact ih4 n_221 (i4 + 1) hnn_221 hrn_221 (e222.trans (congrArg nI (by omega))) (e223.trans (congrArg nI (by omega))) (by omega) (by omega)
        exact loop103_4 _ n_1 0 hnn_1 hrn_1 (kc1_8.trans (congrArg nI (by omega))) (kc1_11.trans (congrArg nI (by omega))) (by omega) (Nat.lt_succ_self _)
      · refine pm_bipush (v := nI 20) hG dX12_quarter_12 (by decide) ?_
        refine pm_iconst (v := nI 3) hG dX12_quarter_14 (by decide) ?_
        refine pm_iloadn hG dX12_quarter_15 rfl ?_
        refine pm_imulN (c := 3 * i1) hG dX12_quarter_16 (by omega) ?_
        refine pm_iaddN (c := 3 * i1 + 20) hG dX12_quarter_17 (by omega) ?_
        refine pm_istoreXn (loc' := [some (.ref (B + 54)), some (.int (nI i1)), some (.int (nI (3 * i1 + 20))), none, none]) hG dX12_quarter_18 (by decide) (pm_c1b rfl) rfl ?_
        refine pm_aloadn hG dX12_quarter_19 rfl ?_
        refine pm_getf hG dX12_quarter_20 (flX12_7 _ rfl) rfl rfl ?_
        refine pm_iloadn hG dX12_quarter_23 rfl ?_
        refine pm_iconst (v := nI 1) hG dX12_quarter_24 (by decide) ?_
        refine pm_iaddN (c := 3 * i1 + 21) hG dX12_quarter_25 (by omega) ?_
        refine pm_ialdN hG dX12_quarter_26 rfl (by decide) (by omega) ?_
        rcases KI.opt hnn_1 (show kd (3 * i1 + 21) = (2, 20, false) from (kd_T (k := i1) (c := 1) (by omega) (by omega) (by decide))) with ek227 | ⟨k227, hk227, ek227⟩
        · refine pm_top (v := (-1)) ek227 ?_
          refine pm_istoreXn (loc' := [some (.ref (B + 54)), some (.int (nI i1)), some (.int (nI (3 * i1 + 20))), some (.int (-1)), none]) hG dX12_quarter_27 (by decide) (pm_c1b rfl) rfl ?_
          refine pm_aloadn hG dX12_quarter_28 rfl ?_
          refine pm_getf hG dX12_quarter_29 (flX12_7 _ rfl) rfl rfl ?_
          refine pm_iloadn hG dX12_quarter_32 rfl ?_
          refine pm_iconst (v := nI 2) hG dX12_quarter_33 (by decide) ?_
          refine pm_iaddN (c := 3 * i1 + 22) hG dX12_quarter_34 (by omega) ?_
          refine pm_ialdN hG dX12_quarter_35 rfl (by decide) (by omega) ?_
          refine pm_gen (fun x228 ex228 => ?_)
          refine pm_iconst (v := nI 1) hG dX12_quarter_36 (by decide) ?_
          refine pm_icmp_ne (tgt := 43) hG dX12_quarter_37 rfl (fun c229 => ?_) (fun c229 => ?_)
          · refine pm_iloadn hG dX12_quarter_43 rfl ?_
            refine pm_if_lt (tgt := 79) hG dX12_quarter_44 rfl (fun _ => ?_) (fun q => absurd q (by decide))
            refine pm_aloadn hG dX12_quarter_79 rfl ?_
            refine pm_getf hG dX12_quarter_80 (flX12_7 _ rfl) rfl rfl ?_
            refine pm_bipush (v := nI 9) hG dX12_quarter_83 (by decide) ?_
            refine pm_dup2 hG dX12_quarter_85 rfl rfl ?_
            refine pm_ialdN hG dX12_quarter_86 rfl (by decide) (by omega) ?_
            refine pm_gen (fun x230 ex230 => ?_)
            refine pm_aloadn hG dX12_quarter_87 rfl ?_
            refine pm_getf hG dX12_quarter_88 (flX12_7 _ rfl) rfl rfl ?_
            refine pm_iloadn hG dX12_quarter_91 rfl ?_
            refine pm_ialdN hG dX12_quarter_92 rfl (by decide) (by omega) ?_
            refine pm_gen (fun x231 ex231 => ?_)
            refine pm_iadd hG dX12_quarter_93 ?_
            refine pm_iastN hG dX12_quarter_94 rfl (by decide) (by omega) ?_
            refine mdn_now (fun n_232 en_232 => ?_)
            have hnn_232 := KI.w en_232 hnn_1 (okv_f (show kd 9 = (0, 0, false) by decide))
            have hrn_232 := NRx.w en_232 hrn_1 (by rw [(show kd 9 = (0, 0, false) by decide)])
            have e233 : n_232 8 = nI kc8 := by rw [en_232, pk_un (by omega)]; exact kc1_8
            have e234 : n_232 11 = nI kc11 := by rw [en_232, pk_un (by omega)]; exact kc1_11
            have e235 : n_232 0 = nI k2 := by rw [en_232, pk_un (by omega)]; exact ek2
            have e236 : n_232 (3 * i1 + 21) = (-1) := by rw [en_232, pk_un (by omega)]; exact ek227
            have e237 : n_232 (3 * i1 + 22) = x228 := by rw [en_232, pk_un (by omega)]; exact ex228
            have e238 : n_232 (3 * i1 + 20) = x231 := by rw [en_232, pk_un (by omega)]; exact ex231
            have e239 : n_232 9 = x230 + x231 := by rw [en_232, pk_us]
            refine pm_iincX (v := nI (i1 + 1)) (loc' := [some (.ref (B + 54)), some (.int (nI (i1 + 1))), some (.int (nI (3 * i1 + 20))), some (.int (-1)), none]) hG dX12_quarter_95 rfl (nI_1 _) (by decide) (pm_c1b rfl) rfl ?_
            refine pm_goto (tgt := 2) hG dX12_quarter_98 rfl ?_
            refine pm_fg 2 (loc' := [some (.ref (B + 54)), some (.int (nI (i1 + 1))), none, some (.int (-1)), none]) rfl ?_
            refine pm_fg 3 (loc' := [some (.ref (B + 54)), some (.int (nI (i1 + 1))), none, none, none]) rfl ?_
            exact ih1 n_232 (i1 + 1) hnn_232 hrn_232 (e233.trans (congrArg nI (by omega))) (e234.trans (congrArg nI (by omega))) (by omega) (by omega)
          · refine pm_goto (tgt := 95) hG dX12_quarter_40 rfl ?_
            refine pm_iincX (v := nI (i1 + 1)) (loc' := [some (.ref (B + 54)), some (.int (nI (i1 + 1))), some (.int (nI (3 * i1 + 20))), some (.int (-1)), none]) hG dX12_quarter_95 rfl (nI_1 _) (by decide) (pm_c1b rfl) rfl ?_
            refine pm_goto (tgt := 2) hG dX12_quarter_98 rfl ?_
            refine pm_fg 2 (loc' := [some (.ref (B + 54)), some (.int (nI (i1 + 1))), none, some (.int (-1)), none]) rfl ?_
            refine pm_fg 3 (loc' := [some (.ref (B + 54)), some (.int (nI (i1 + 1))), none, none, none]) rfl ?_
            exact ih1 n_1 (i1 + 1) hnn_1 hrn_1 (kc1_8.trans (congrArg nI (by omega))) (kc1_11.trans (congrArg nI (by omega))) (by omega) (by omega)
        · refine pm_top (v := nI k227) ek227 ?_
          refine pm_istoreXn (loc' := [some (.ref (B + 54)), some (.int (nI i1)), some (.int (nI (3 * i1 + 20))), some (.int (nI k227)), none]) hG dX12_quarter_27 (by decide) (pm_c1b rfl) rfl ?_
          refine pm_aloadn hG dX12_quarter_28 rfl ?_
          refine pm_getf hG dX12_quarter_29 (flX12_7 _ rfl) rfl rfl ?_
          refine pm_iloadn hG dX12_quarter_32 rfl ?_
          refine pm_iconst (v := nI 2) hG dX12_quarter_33 (by decide) ?_
          refine pm_iaddN (c := 3 * i1 + 22) hG dX12_quarter_34 (by omega) ?_
          refine pm_ialdN hG dX12_quarter_35 rfl (by decide) (by omega) ?_
          refine pm_gen (fun x240 ex240 => ?_)
          refine pm_iconst (v := nI 1) hG dX12_quarter_36 (by decide) ?_
          refine pm_icmp_ne (tgt := 43) hG dX12_quarter_37 rfl (fun c241 => ?_) (fun c241 => ?_)
          · refine pm_iloadn hG dX12_quarter_43 rfl ?_
            refine pm_ifN_lt hG dX12_quarter_44 rfl (by omega) ?_
            refine pm_aloadn hG dX12_quarter_47 rfl ?_
            refine pm_iloadn hG dX12_quarter_48 rfl ?_
            rcases KI.opt hnn_1 (show kd (14 * k227 + 119) = (2, 2001, false) from (kd_P (k := k227) (c := 9) (by omega) (by omega) (by decide))) with ek242 | ⟨k242, hk242, ek242⟩
            · refine pm_callV (As := [.int (nI k227)]) (rest := []) hG hR dX12_quarter_49 (lkX12_101 _ rfl) okV_X12_lives rfl rfl (m_lives1 (d := 1) (by decide) (by omega) (by omega : 14 * k227 + 119 = 14 * k227 + 119) ek242) rfl rfl hdd (Nat.le_refl _) (Nat.le_refl _) (by decide) (pm_ki (fun v243 σ' cnt' hq => ?_))
              obtain ⟨rfl, rfl, rfl⟩ := hq
              refine pm_ifN_eq (tgt := 79) hG dX12_quarter_52 rfl (by omega) (fun q => absurd q (by omega)) (fun _ => ?_)
              refine pm_aloadn hG dX12_quarter_55 rfl ?_
              refine pm_iloadn hG dX12_quarter_56 rfl ?_
              refine pm_bipush (v := nI 7) hG dX12_quarter_57 (by decide) ?_
              refine pm_aloadn hG dX12_quarter_59 rfl ?_
              refine pm_iloadn hG dX12_quarter_60 rfl ?_
              refine pm_bipush (v := nI 7) hG dX12_quarter_61 (by decide) ?_
              refine pm_callV (As := [.int (nI k227), .int (nI 7)]) (rest := [.int (nI 7), .int (nI k227), .ref (B + 54)]) hG hR dX12_quarter_63 (lkX12_72 _ rfl) okV_X12_man rfl rfl (m_man (d := 1) (e := 14 * k227 + 117) (by omega) (by omega) (by omega)) rfl rfl hdd (Nat.le_refl _) (Nat.le_refl _) (Nat.le_of_ble_eq_true rfl) (pm_ki (fun v244 σ' cnt' hq => ?_))
              obtain ⟨rfl, rfl, rfl⟩ := hq
              refine pm_gen (fun x245 ex245 => ?_)
              refine pm_aloadn hG dX12_quarter_66 rfl ?_
              refine pm_getf hG dX12_quarter_67 (flX12_7 _ rfl) rfl rfl ?_
              refine pm_iloadn hG dX12_quarter_70 rfl ?_
              refine pm_ialdN hG dX12_quarter_71 rfl (by decide) (by omega) ?_
              refine pm_gen (fun x246 ex246 => ?_)
              refine pm_iadd hG dX12_quarter_72 ?_
              refine pm_callV (As := [.int (nI k227), .int (nI 7), .int (x245 + x246)]) (rest := []) hG hR dX12_quarter_73 (lkX12_97 _ rfl) okV_X12_sets rfl rfl (m_sets (d := 1) (e := 14 * k227 + 117) (by omega) (by omega) (by omega)) rfl rfl hdd (Nat.le_refl _) (Nat.le_refl _) (by decide) (pm_kv (fun σ' cnt' hq => ?_))
              obtain ⟨rfl, rfl⟩ := hq
              obtain ⟨n_247, en_247⟩ : ∃ f : Nat → Int32, f = upd n_1 (14 * k227 + 117) (x245 + x246) := ⟨_, rfl⟩
              rw [← en_247]
              have hnn_247 := KI.w en_247 hnn_1 (okv_f (show kd (14 * k227 + 117) = (0, 0, false) from (kd_P (k := k227) (c := 7) (by omega) (by omega) (by decide))))
              have hrn_247 := NRx.w en_247 hrn_1 (by rw [(show kd (14 * k227 + 117) = (0, 0, false) from (kd_P (k := k227) (c := 7) (by omega) (by omega) (by decide)))])
              have e248 : n_247 8 = nI kc8 := by rw [en_247, pk_un (by omega)]; exact kc1_8
              have e249 : n_247 11 = nI kc11 := by rw [en_247, pk_un (by omega)]; exact kc1_11
              have e250 : n_247 0 = nI k2 := by rw [en_247, pk_un (by omega)]; exact ek2
              have e251 : n_247 (3 * i1 + 21) = nI k227 := by rw [en_247, pk_un (by omega)]; exact ek227
              have e252 : n_247 (3 * i1 + 22) = x240 := by rw [en_247, pk_un (by omega)]; exact ex240
              have e253 : n_247 (14 * k227 + 119) = (-1) := by rw [en_247, pk_un (by omega)]; exact ek242
              have e254 : n_247 (3 * i1 + 20) = x246 := by rw [en_247, pk_un (by omega)]; exact ex246
              have e255 : n_247 (14 * k227 + 117) = x245 + x246 := by rw [en_247, pk_us]
              refine pm_goto (tgt := 95) hG dX12_quarter_76 rfl ?_
              refine pm_iincX (v := nI (i1 + 1)) (loc' := [some (.ref (B + 54)), some (.int (nI (i1 + 1))), some (.int (nI (3 * i1 + 20))), some (.int (nI k227)), none]) hG dX12_quarter_95 rfl (nI_1 _) (by decide) (pm_c1b rfl) rfl ?_
              refine pm_goto (tgt := 2) hG dX12_quarter_98 rfl ?_
              refine pm_fg 2 (loc' := [some (.ref (B + 54)), some (.int (nI (i1 + 1))), none, some (.int (nI k227)), none]) rfl ?_
              refine pm_fg 3 (loc' := [some (.ref (B + 54)), some (.int (nI (i1 + 1))), none, none, none]) rfl ?_
              exact ih1 n_247 (i1 + 1) hnn_247 hrn_247 (e248.trans (congrArg nI (by omega))) (e249.trans (congrArg nI (by omega))) (by omega) (by omega)
            · refine pm_callV (As := [.int (nI k227)]) (rest := []) hG hR dX12_quarter_49 (lkX12_101 _ rfl) okV_X12_lives rfl rfl (m_lives0 (d := 1) (by decide) (by omega) (by omega : 14 * k227 + 119 = 14 * k227 + 119) ek242 (by omega)) rfl rfl hdd (Nat.le_refl _) (Nat.le_refl _) (by decide) (pm_ki (fun v256 σ' cnt' hq => ?_))
              obtain ⟨rfl, rfl, rfl⟩ := hq
              refine pm_ifN_eq (tgt := 79) hG dX12_quarter_52 rfl (by omega) (fun _ => ?_) (fun q => absurd q (by omega))
              refine pm_aloadn hG dX12_quarter_79 rfl ?_
              refine pm_getf hG dX12_quarter_80 (flX12_7 _ rfl) rfl rfl ?_
              refine pm_bipush (v := nI 9) hG dX12_quarter_83 (by decide) ?_
              refine pm_dup2 hG dX12_quarter_85 rfl rfl ?_
              refine pm_ialdN hG dX12_quarter_86 rfl (by decide) (by omega) ?_
              refine pm_gen (fun x257 ex257 => ?_)
              refine pm_aloadn hG dX12_quarter_87 rfl ?_
              refine pm_getf hG dX12_quarter_88 (flX12_7 _ rfl) rfl rfl ?_
              refine pm_iloadn hG dX12_quarter_91 rfl ?_
              refine pm_ialdN hG dX12_quarter_92 rfl (by decide) (by omega) ?_
              refine pm_gen (fun x258 ex258 => ?_)
              refine pm_iadd hG dX12_quarter_93 ?_
              refine pm_iastN hG dX12_quarter_94 rfl (by decide) (by omega) ?_
              refine mdn_now (fun n_259 en_259 => ?_)
              have hnn_259 := KI.w en_259 hnn_1 (okv_f (show kd 9 = (0, 0, false) by decide))
              have hrn_259 := NRx.w en_259 hrn_1 (by rw [(show kd 9 = (0, 0, false) by decide)])
              have e260 : n_259 8 = nI kc8 := by rw [en_259, pk_un (by omega)]; exact kc1_8
              have e261 : n_259 11 = nI kc11 := by rw [en_259, pk_un (by omega)]; exact kc1_11
              have e262 : n_259 0 = nI k2 := by rw [en_259, pk_un (by omega)]; exact ek2
              have e263 : n_259 (3 * i1 + 21) = nI k227 := by rw [en_259, pk_un (by omega)]; exact ek227
              have e264 : n_259 (3 * i1 + 22) = x240 := by rw [en_259, pk_un (by omega)]; exact ex240
              have e265 : n_259 (14 * k227 + 119) = nI k242 := by rw [en_259, pk_un (by omega)]; exact ek242
              have e266 : n_259 (3 * i1 + 20) = x258 := by rw [en_259, pk_un (by omega)]; exact ex258
              have e267 : n_259 9 = x257 + x258 := by rw [en_259, pk_us]
              refine pm_iincX (v := nI (i1 + 1)) (loc' := [some (.ref (B + 54)), some (.int (nI (i1 + 1))), some (.int (nI (3 * i1 + 20))), some (.int (nI k227)), none]) hG dX12_quarter_95 rfl (nI_1 _) (by decide) (pm_c1b rfl) rfl ?_
              refine pm_goto (tgt := 2) hG dX12_quarter_98 rfl ?_
              refine pm_fg 2 (loc' := [some (.ref (B + 54)), some (.int (nI (i1 + 1))), none, some (.int (nI k227)), none]) rfl ?_
              refine pm_fg 3 (loc' := [some (.ref (B + 54)), some (.int (nI (i1 + 1))), none, none, none]) rfl ?_
              exact ih1 n_259 (i1 + 1) hnn_259 hrn_259 (e260.trans (congrArg nI (by omega))) (e261.trans (congrArg nI (by omega))) (by omega) (by omega)
          · refine pm_goto (tgt := 95) hG dX12_quarter_40 rfl ?_
            refine pm_iincX (v := nI (i1 + 1)) (loc' := [some (.ref (B + 54)), some (.int (nI (i1 + 1))), some (.int (nI (3 * i1 + 20))), some (.int (nI k227)), none]) hG dX12_quarter_95 rfl (nI_1 _) (by decide) (pm_c1b rfl) rfl ?_
            refine pm_goto (tgt := 2) hG dX12_quarter_98 rfl ?_
            refine pm_fg 2 (loc' := [some (.ref (B + 54)), some (.int (nI (i1 + 1))), none, some (.int (nI k227)), none]) rfl ?_
            refine pm_fg 3 (loc' := [some (.ref (B + 54)), some (.int (nI (i1 + 1))), none, none, none]) rfl ?_
            exact ih1 n_1 (i1 + 1) hnn_1 hrn_1 (kc1_8.trans (congrArg nI (by omega))) (kc1_11.trans (congrArg nI (by omega))) (by omega) (by omega)
  exact loop2_1 _ n 0 hn hr (ekc8.trans (congrArg nI (by omega))) (ekc11.trans (congrArg nI (by omega))) (by omega) (Nat.lt_succ_self _)
