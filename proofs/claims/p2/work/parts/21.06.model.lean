set_option maxRecDepth 100000 in
set_option maxHeartbeats 4000000 in
theorem m_quarter {d B cnt p0 t0 : Nat} {σ : pm_S} {I : Nat → Int32} {A : Nat → Nat → Int32} {n k z : Nat → Int32} {ac wt pl im : Int32} (hdd : 2 ≤ d) (hn : KI n) (hr : NR n) (hz : SZ z)  : pm_met mX12_quarter d 0 0 B [.ref (B + 54)] cnt (pm_mid σ (md_L B I A n k z ac wt pl (nI p0) (nI t0) im)) (pm_Qv (fun σ' cnt' => (∃ (n' : Nat → Int32), σ' = pm_mid σ (md_L B I A n' k z ac wt pl (nI p0) (nI t0) im) ∧ KI n' ∧ NR n' ∧ n' 0 = n 0 ∧ n' 8 = n 8) ∧ cnt = cnt')) := by
  obtain ⟨kc0, hkc0, ekc0⟩ := KI.nat hn (show kd 0 = (1, 11, true) by decide)
  obtain ⟨kc8, hkc8, ekc8⟩ := KI.nat hn (show kd 8 = (1, 2001, false) by decide)
  refine pm_enter 4 (by decide) (Nat.le_of_ble_eq_true rfl) rfl (fun G hG hR hF => ?_)
  refine pm_iconst (v := nI 0) hG dX12_quarter_0 (by decide) ?_
  refine pm_istoreXn (loc' := [some (.ref (B + 54)), some (.int (nI 0)), none, none, none]) hG dX12_quarter_1 (by decide) (pm_c1b rfl) rfl ?_
  have loop2_1 : ∀ (m1 : Nat) (n_1 : Nat → Int32) (i1 : Nat), KI n_1 → NRx 40 n_1 → n_1 8 = nI kc8 → n_1 0 = nI kc0 → i1 ≤ 10 → 10 - i1 < m1 → pm_wp mX12_quarter G B 2 [some (.ref (B + 54)), some (.int (nI i1)), none, none, none] [] 0 0 cnt (pm_mid σ (md_L B I A n_1 k z ac wt pl (nI p0) (nI t0) im)) := by
    intro m1
    induction m1 with
    | zero => intro n_1 i1 _ _ _ _ _ hm; exact absurd hm (Nat.not_lt_zero _)
    | succ m1 ih1 =>
      intro n_1 i1 hnn_1 hrn_1 kc1_8 kc1_0 hi1 hm1
      refine pm_iloadn hG dX12_quarter_2 rfl ?_
      refine pm_aloadn hG dX12_quarter_3 rfl ?_
      refine pm_getf hG dX12_quarter_4 (flX12_7 _ rfl) rfl rfl ?_
      refine pm_iconst (v := nI 0) hG dX12_quarter_7 (by decide) ?_
      refine pm_ialdN hG dX12_quarter_8 rfl (by decide) (by omega) ?_
      refine pm_top (v := nI kc0) kc1_0 ?_
      refine pm_icmpN_ge (tgt := 101) hG dX12_quarter_9 rfl (by omega) (by omega) (fun c2 => ?_) (fun c2 => ?_)
      · refine pm_iconst (v := nI 0) hG dX12_quarter_101 (by decide) ?_
        refine pm_istoreXn (loc' := [some (.ref (B + 54)), some (.int (nI 0)), none, none, none]) hG dX12_quarter_102 (by decide) (pm_c1b rfl) rfl ?_
        have loop103_3 : ∀ (m3 : Nat) (n_3 : Nat → Int32) (i3 : Nat), KI n_3 → NRx 40 n_3 → n_3 8 = nI kc8 → n_3 0 = nI kc0 → i3 ≤ 20 → 20 - i3 < m3 → pm_wp mX12_quarter G B 103 [some (.ref (B + 54)), some (.int (nI i3)), none, none, none] [] 0 0 cnt (pm_mid σ (md_L B I A n_3 k z ac wt pl (nI p0) (nI t0) im)) := by
          intro m3
          induction m3 with
          | zero => intro n_3 i3 _ _ _ _ _ hm; exact absurd hm (Nat.not_lt_zero _)
          | succ m3 ih3 =>
            intro n_3 i3 hnn_3 hrn_3 kc3_8 kc3_0 hi3 hm3
            refine pm_iloadn hG dX12_quarter_103 rfl ?_
            refine pm_aloadn hG dX12_quarter_104 rfl ?_
            refine pm_getf hG dX12_quarter_105 (flX12_7 _ rfl) rfl rfl ?_
            refine pm_iconst (v := nI 2) hG dX12_quarter_108 (by decide) ?_
            refine pm_ialdN hG dX12_quarter_109 rfl (by decide) (by omega) ?_
            obtain ⟨k4, hk4, ek4⟩ := KI.nat hnn_3 (show kd 2 = (1, 21, true) by decide)
            refine pm_top (v := nI k4) ek4 ?_
            refine pm_icmpN_ge (tgt := 178) hG dX12_quarter_110 rfl (by omega) (by omega) (fun c5 => ?_) (fun c5 => ?_)
            · refine pm_iconst (v := nI 0) hG dX12_quarter_178 (by decide) ?_
              refine pm_istoreXn (loc' := [some (.ref (B + 54)), some (.int (nI 0)), none, none, none]) hG dX12_quarter_179 (by decide) (pm_c1b rfl) rfl ?_
              have loop180_6 : ∀ (m6 : Nat) (n_6 : Nat → Int32) (i6 : Nat), KI n_6 → NRx 40 n_6 → n_6 8 = nI kc8 → n_6 0 = nI kc0 → i6 ≤ 6 → 6 - i6 < m6 → pm_wp mX12_quarter G B 180 [some (.ref (B + 54)), some (.int (nI i6)), none, none, none] [] 0 0 cnt (pm_mid σ (md_L B I A n_6 k z ac wt pl (nI p0) (nI t0) im)) := by
                intro m6
                induction m6 with
                | zero => intro n_6 i6 _ _ _ _ _ hm; exact absurd hm (Nat.not_lt_zero _)
                | succ m6 ih6 =>
                  intro n_6 i6 hnn_6 hrn_6 kc6_8 kc6_0 hi6 hm6
                  refine pm_iloadn hG dX12_quarter_180 rfl ?_
                  refine pm_aloadn hG dX12_quarter_181 rfl ?_
                  refine pm_getf hG dX12_quarter_182 (flX12_7 _ rfl) rfl rfl ?_
                  refine pm_bipush (v := nI 6) hG dX12_quarter_185 (by decide) ?_
                  refine pm_ialdN hG dX12_quarter_187 rfl (by decide) (by omega) ?_
                  obtain ⟨k7, hk7, ek7⟩ := KI.nat hnn_6 (show kd 6 = (1, 7, false) by decide)
                  refine pm_top (v := nI k7) ek7 ?_
                  refine pm_icmpN_ge (tgt := 369) hG dX12_quarter_188 rfl (by omega) (by omega) (fun c8 => ?_) (fun c8 => ?_)
                  · exact pm_vret hG hF dX12_quarter_369 rfl (Nat.le_refl _) (Nat.le_refl _) ⟨rfl, ⟨_, rfl, hnn_6, hrn_6, kc6_0.trans ekc0.symm, kc6_8.trans ekc8.symm⟩, rfl⟩
                  · refine pm_sipush (v := nI 1770) hG dX12_quarter_191 (by decide) ?_
                    refine pm_bipush (v := nI 6) hG dX12_quarter_194 (by decide) ?_
                    refine pm_iloadn hG dX12_quarter_196 rfl ?_
                    refine pm_imulN (c := 6 * i6) hG dX12_quarter_197 (by omega) ?_
                    refine pm_iaddN (c := 6 * i6 + 1770) hG dX12_quarter_198 (by omega) ?_
                    refine pm_istoreXn (loc' := [some (.ref (B + 54)), some (.int (nI i6)), some (.int (nI (6 * i6 + 1770))), none, none]) hG dX12_quarter_199 (by decide) (pm_c1b rfl) rfl ?_
                    refine pm_aloadn hG dX12_quarter_200 rfl ?_
                    refine pm_getf hG dX12_quarter_201 (flX12_7 _ rfl) rfl rfl ?_
                    refine pm_iloadn hG dX12_quarter_204 rfl ?_
                    refine pm_ialdN hG dX12_quarter_205 rfl (by decide) (by omega) ?_
                    refine pm_gen (fun x9 ex9 => ?_)
                    refine pm_aloadn hG dX12_quarter_206 rfl ?_
                    refine pm_getf hG dX12_quarter_207 (flX12_7 _ rfl) rfl rfl ?_
                    refine pm_iloadn hG dX12_quarter_210 rfl ?_
                    refine pm_ialdN hG dX12_quarter_211 rfl (by decide) (by omega) ?_
                    refine pm_top (v := x9) ex9 ?_
                    refine pm_aloadn hG dX12_quarter_212 rfl ?_
                    refine pm_getf hG dX12_quarter_213 (flX12_7 _ rfl) rfl rfl ?_
                    refine pm_iloadn hG dX12_quarter_216 rfl ?_
                    refine pm_iconst (v := nI 1) hG dX12_quarter_217 (by decide) ?_
                    refine pm_iaddN (c := 6 * i6 + 1771) hG dX12_quarter_218 (by omega) ?_
                    refine pm_ialdN hG dX12_quarter_219 rfl (by decide) (by omega) ?_
                    refine pm_gen (fun x10 ex10 => ?_)
                    refine pm_imul hG dX12_quarter_220 ?_
                    refine pm_bipush (v := nI 100) hG dX12_quarter_221 (by decide) ?_
                    refine pm_idiv hG dX12_quarter_223 (by decide) ?_
                    refine pm_any (fun x11 => ?_)
                    refine pm_iadd hG dX12_quarter_224 ?_
                    refine pm_istoreXn (loc' := [some (.ref (B + 54)), some (.int (nI i6)), some (.int (nI (6 * i6 + 1770))), some (.int (x9 + x11)), none]) hG dX12_quarter_225 (by decide) (pm_c1b rfl) rfl ?_
                    refine pm_aloadn hG dX12_quarter_226 rfl ?_
                    refine pm_getf hG dX12_quarter_227 (flX12_7 _ rfl) rfl rfl ?_
                    refine pm_iloadn hG dX12_quarter_230 rfl ?_
                    refine pm_iloadn hG dX12_quarter_231 rfl ?_
                    refine pm_ldc hG dX12_quarter_232 (ctX12_235 _ rfl) ?_
                    refine pm_top (v := nI 999999) (by decide) ?_
                    refine pm_icmp_ge (tgt := 241) hG dX12_quarter_234 rfl (fun c12 => ?_) (fun c12 => ?_)
                    · refine pm_ldc hG dX12_quarter_241 (ctX12_235 _ rfl) ?_
                      refine pm_top (v := nI 999999) (by decide) ?_
                      refine pm_iastN hG dX12_quarter_243 rfl (by decide) (by omega) ?_
                      refine mdn_now (fun n_13 en_13 => ?_)
                      have hnn_13 := KI.w en_13 hnn_6 (okv_f (show kd (6 * i6 + 1770) = (0, 0, false) from (kd_D (k := i6) (c := 0) (by omega) (by omega) (by decide))))
                      have hrn_13 := NRx.w en_13 hrn_6 (by rw [(show kd (6 * i6 + 1770) = (0, 0, false) from (kd_D (k := i6) (c := 0) (by omega) (by omega) (by decide)))])
                      have e14 : n_13 8 = nI kc8 := by rw [en_13, pk_un (by omega)]; exact kc6_8
                      have e15 : n_13 0 = nI kc0 := by rw [en_13, pk_un (by omega)]; exact kc6_0
                      have e16 : n_13 6 = nI k7 := by rw [en_13, pk_un (by omega)]; exact ek7
                      have e17 : n_13 (6 * i6 + 1771) = x10 := by rw [en_13, pk_un (by omega)]; exact ex10
                      have e18 : n_13 (6 * i6 + 1770) = nI 999999 := by rw [en_13, pk_us]
                      refine pm_aloadn hG dX12_quarter_244 rfl ?_
                      refine pm_getf hG dX12_quarter_245 (flX12_7 _ rfl) rfl rfl ?_
                      refine pm_iloadn hG dX12_quarter_248 rfl ?_
                      refine pm_ialdN hG dX12_quarter_249 rfl (by decide) (by omega) ?_
                      refine pm_top (v := nI 999999) e18 ?_
                      refine pm_aloadn hG dX12_quarter_250 rfl ?_
                      refine pm_getf hG dX12_quarter_251 (flX12_7 _ rfl) rfl rfl ?_
                      refine pm_iloadn hG dX12_quarter_254 rfl ?_
                      refine pm_iconst (v := nI 2) hG dX12_quarter_255 (by decide) ?_
                      refine pm_iaddN (c := 6 * i6 + 1772) hG dX12_quarter_256 (by omega) ?_
                      refine pm_ialdN hG dX12_quarter_257 rfl (by decide) (by omega) ?_
                      refine pm_gen (fun x19 ex19 => ?_)
                      refine pm_icmp_ge (tgt := 270) hG dX12_quarter_258 rfl (fun c20 => ?_) (fun c20 => ?_)
                      · refine pm_aloadn hG dX12_quarter_270 rfl ?_
                        refine pm_getf hG dX12_quarter_271 (flX12_7 _ rfl) rfl rfl ?_
                        refine pm_iloadn hG dX12_quarter_274 rfl ?_
                        refine pm_iconst (v := nI 2) hG dX12_quarter_275 (by decide) ?_
                        refine pm_iaddN (c := 6 * i6 + 1772) hG dX12_quarter_276 (by omega) ?_
                        refine pm_ialdN hG dX12_quarter_277 rfl (by decide) (by omega) ?_
                        refine pm_top (v := x19) ex19 ?_
                        refine pm_istoreXi (loc' := [some (.ref (B + 54)), some (.int (nI i6)), some (.int (nI (6 * i6 + 1770))), some (.int (x9 + x11)), some (.int x19)]) hG dX12_quarter_278 (by decide) (pm_c1b rfl) rfl ?_
                        refine pm_aloadn hG dX12_quarter_280 rfl ?_
                        refine pm_getf hG dX12_quarter_281 (flX12_7 _ rfl) rfl rfl ?_
                        refine pm_bipush (v := nI 9) hG dX12_quarter_284 (by decide) ?_
                        refine pm_ialdN hG dX12_quarter_286 rfl (by decide) (by omega) ?_
                        refine pm_gen (fun x21 ex21 => ?_)
                        refine pm_iloadi hG dX12_quarter_287 rfl ?_
                        refine pm_icmp_lt (tgt := 318) hG dX12_quarter_289 rfl (fun c22 => ?_) (fun c22 => ?_)
                        · refine pm_aloadn hG dX12_quarter_318 rfl ?_
                          refine pm_getf hG dX12_quarter_319 (flX12_7 _ rfl) rfl rfl ?_
                          refine pm_iloadn hG dX12_quarter_322 rfl ?_
                          refine pm_iconst (v := nI 3) hG dX12_quarter_323 (by decide) ?_
                          refine pm_iaddN (c := 6 * i6 + 1773) hG dX12_quarter_324 (by omega) ?_
                          refine pm_dup2 hG dX12_quarter_325 rfl rfl ?_
                          refine pm_ialdN hG dX12_quarter_326 rfl (by decide) (by omega) ?_
                          refine pm_gen (fun x23 ex23 => ?_)
                          refine pm_iconst (v := nI 1) hG dX12_quarter_327 (by decide) ?_
                          refine pm_iadd hG dX12_quarter_328 ?_
                          refine pm_iastN hG dX12_quarter_329 rfl (by decide) (by omega) ?_
                          refine mdn_now (fun n_24 en_24 => ?_)
                          have hnn_24 := KI.w en_24 hnn_13 (okv_f (show kd (6 * i6 + 1773) = (0, 0, false) from (kd_D (k := i6) (c := 3) (by omega) (by omega) (by decide))))
                          have hrn_24 := NRx.w en_24 hrn_13 (by rw [(show kd (6 * i6 + 1773) = (0, 0, false) from (kd_D (k := i6) (c := 3) (by omega) (by omega) (by decide)))])
                          have e25 : n_24 8 = nI kc8 := by rw [en_24, pk_un (by omega)]; exact e14
                          have e26 : n_24 0 = nI kc0 := by rw [en_24, pk_un (by omega)]; exact e15
                          have e27 : n_24 6 = nI k7 := by rw [en_24, pk_un (by omega)]; exact e16
                          have e28 : n_24 (6 * i6 + 1771) = x10 := by rw [en_24, pk_un (by omega)]; exact e17
                          have e29 : n_24 (6 * i6 + 1770) = nI 999999 := by rw [en_24, pk_un (by omega)]; exact e18
                          have e30 : n_24 (6 * i6 + 1772) = x19 := by rw [en_24, pk_un (by omega)]; exact ex19
                          have e31 : n_24 9 = x21 := by rw [en_24, pk_un (by omega)]; exact ex21
                          have e32 : n_24 (6 * i6 + 1773) = x23 + (nI 1) := by rw [en_24, pk_us]
                          refine pm_aloadn hG dX12_quarter_330 rfl ?_
                          refine pm_getf hG dX12_quarter_331 (flX12_7 _ rfl) rfl rfl ?_
                          refine pm_iloadn hG dX12_quarter_334 rfl ?_
                          refine pm_iconst (v := nI 3) hG dX12_quarter_335 (by decide) ?_
                          refine pm_iaddN (c := 6 * i6 + 1773) hG dX12_quarter_336 (by omega) ?_
                          refine pm_ialdN hG dX12_quarter_337 rfl (by decide) (by omega) ?_
                          refine pm_top (v := x23 + (nI 1)) e32 ?_
                          refine pm_iconst (v := nI 2) hG dX12_quarter_338 (by decide) ?_
                          refine pm_icmp_ne (tgt := 363) hG dX12_quarter_339 rfl (fun c33 => ?_) (fun c33 => ?_)
                          · refine pm_iincX (v := nI (i6 + 1)) (loc' := [some (.ref (B + 54)), some (.int (nI (i6 + 1))), some (.int (nI (6 * i6 + 1770))), some (.int (x9 + x11)), some (.int x19)]) hG dX12_quarter_363 rfl (nI_1 _) (by decide) (pm_c1b rfl) rfl ?_
                            refine pm_goto (tgt := 180) hG dX12_quarter_366 rfl ?_
                            refine pm_fg 2 (loc' := [some (.ref (B + 54)), some (.int (nI (i6 + 1))), none, some (.int (x9 + x11)), some (.int x19)]) rfl ?_
                            refine pm_fg 3 (loc' := [some (.ref (B + 54)), some (.int (nI (i6 + 1))), none, none, some (.int x19)]) rfl ?_
                            refine pm_fg 4 (loc' := [some (.ref (B + 54)), some (.int (nI (i6 + 1))), none, none, none]) rfl ?_
                            exact ih6 n_24 (i6 + 1) hnn_24 hrn_24 (e25.trans (congrArg nI (by omega))) (e26.trans (congrArg nI (by omega))) (by omega) (by omega)
                          · refine pm_aloadn hG dX12_quarter_342 rfl ?_
                            refine pm_getf hG dX12_quarter_343 (flX12_7 _ rfl) rfl rfl ?_
                            refine pm_bipush (v := nI 20) hG dX12_quarter_346 (by decide) ?_
                            refine pm_iconst (v := nI 3) hG dX12_quarter_348 (by decide) ?_
                            refine pm_aloadn hG dX12_quarter_349 rfl ?_
                            refine pm_getf hG dX12_quarter_350 (flX12_7 _ rfl) rfl rfl ?_
                            refine pm_iloadn hG dX12_quarter_353 rfl ?_
                            refine pm_iconst (v := nI 4) hG dX12_quarter_354 (by decide) ?_
                            refine pm_iaddN (c := 6 * i6 + 1774) hG dX12_quarter_355 (by omega) ?_
                            refine pm_ialdN hG dX12_quarter_356 rfl (by decide) (by omega) ?_
                            obtain ⟨k34, hk34, ek34⟩ := KI.nat hnn_24 (show kd (6 * i6 + 1774) = (1, 10, false) from (kd_D (k := i6) (c := 4) (by omega) (by omega) (by decide)))
                            refine pm_top (v := nI k34) ek34 ?_
                            refine pm_imulN (c := 3 * k34) hG dX12_quarter_357 (by omega) ?_
                            refine pm_iaddN (c := 3 * k34 + 20) hG dX12_quarter_358 (by omega) ?_
                            refine pm_iconst (v := nI 2) hG dX12_quarter_359 (by decide) ?_
                            refine pm_iaddN (c := 3 * k34 + 22) hG dX12_quarter_360 (by omega) ?_
                            refine pm_iconst (v := nI 1) hG dX12_quarter_361 (by decide) ?_
                            refine pm_iastN hG dX12_quarter_362 rfl (by decide) (by omega) ?_
                            refine mdn_now (fun n_35 en_35 => ?_)
                            have hnn_35 := KI.w en_35 hnn_24 (okv_f (show kd (3 * k34 + 22) = (0, 0, false) from (kd_T (k := k34) (c := 2) (by omega) (by omega) (by decide))))
                            have hrn_35 := NRx.w en_35 hrn_24 (by rw [(show kd (3 * k34 + 22) = (0, 0, false) from (kd_T (k := k34) (c := 2) (by omega) (by omega) (by decide)))])
                            have e36 : n_35 8 = nI kc8 := by rw [en_35, pk_un (by omega)]; exact e25
                            have e37 : n_35 0 = nI kc0 := by rw [en_35, pk_un (by omega)]; exact e26
                            have e38 : n_35 6 = nI k7 := by rw [en_35, pk_un (by omega)]; exact e27
                            have e39 : n_35 (6 * i6 + 1771) = x10 := by rw [en_35, pk_un (by omega)]; exact e28
                            have e40 : n_35 (6 * i6 + 1770) = nI 999999 := by rw [en_35, pk_un (by omega)]; exact e29
                            have e41 : n_35 (6 * i6 + 1772) = x19 := by rw [en_35, pk_un (by omega)]; exact e30
                            have e42 : n_35 9 = x21 := by rw [en_35, pk_un (by omega)]; exact e31
                            have e43 : n_35 (6 * i6 + 1773) = x23 + (nI 1) := by rw [en_35, pk_un (by omega)]; exact e32
                            have e44 : n_35 (6 * i6 + 1774) = nI k34 := by rw [en_35, pk_un (by omega)]; exact ek34
                            have e45 : n_35 (3 * k34 + 22) = nI 1 := by rw [en_35, pk_us]
                            refine pm_iincX (v := nI (i6 + 1)) (loc' := [some (.ref (B + 54)), some (.int (nI (i6 + 1))), some (.int (nI (6 * i6 + 1770))), some (.int (x9 + x11)), some (.int x19)]) hG dX12_quarter_363 rfl (nI_1 _) (by decide) (pm_c1b rfl) rfl ?_
                            refine pm_goto (tgt := 180) hG dX12_quarter_366 rfl ?_
                            refine pm_fg 2 (loc' := [some (.ref (B + 54)), some (.int (nI (i6 + 1))), none, some (.int (x9 + x11)), some (.int x19)]) rfl ?_
                            refine pm_fg 3 (loc' := [some (.ref (B + 54)), some (.int (nI (i6 + 1))), none, none, some (.int x19)]) rfl ?_
                            refine pm_fg 4 (loc' := [some (.ref (B + 54)), some (.int (nI (i6 + 1))), none, none, none]) rfl ?_
                            exact ih6 n_35 (i6 + 1) hnn_35 hrn_35 (e36.trans (congrArg nI (by omega))) (e37.trans (congrArg nI (by omega))) (by omega) (by omega)
                        · refine pm_aloadn hG dX12_quarter_292 rfl ?_
                          refine pm_getf hG dX12_quarter_293 (flX12_7 _ rfl) rfl rfl ?_
                          refine pm_bipush (v := nI 9) hG dX12_quarter_296 (by decide) ?_
                          refine pm_dup2 hG dX12_quarter_298 rfl rfl ?_
                          refine pm_ialdN hG dX12_quarter_299 rfl (by decide) (by omega) ?_
                          refine pm_top (v := x21) ex21 ?_
                          refine pm_iloadi hG dX12_quarter_300 rfl ?_
                          refine pm_isub hG dX12_quarter_302 ?_
                          refine pm_iastN hG dX12_quarter_303 rfl (by decide) (by omega) ?_
                          refine mdn_now (fun n_46 en_46 => ?_)
                          have hnn_46 := KI.w en_46 hnn_13 (okv_f (show kd 9 = (0, 0, false) by decide))
                          have hrn_46 := NRx.w en_46 hrn_13 (by rw [(show kd 9 = (0, 0, false) by decide)])
                          have e47 : n_46 8 = nI kc8 := by rw [en_46, pk_un (by omega)]; exact e14
                          have e48 : n_46 0 = nI kc0 := by rw [en_46, pk_un (by omega)]; exact e15
                          have e49 : n_46 6 = nI k7 := by rw [en_46, pk_un (by omega)]; exact e16
                          have e50 : n_46 (6 * i6 + 1771) = x10 := by rw [en_46, pk_un (by omega)]; exact e17
                          have e51 : n_46 (6 * i6 + 1770) = nI 999999 := by rw [en_46, pk_un (by omega)]; exact e18
                          have e52 : n_46 (6 * i6 + 1772) = x19 := by rw [en_46, pk_un (by omega)]; exact ex19
                          have e53 : n_46 9 = x21 - x19 := by rw [en_46, pk_us]
                          refine pm_aloadn hG dX12_quarter_304 rfl ?_
                          refine pm_getf hG dX12_quarter_305 (flX12_7 _ rfl) rfl rfl ?_
                          refine pm_iloadn hG dX12_quarter_308 rfl ?_
                          refine pm_dup2 hG dX12_quarter_309 rfl rfl ?_
                          refine pm_ialdN hG dX12_quarter_310 rfl (by decide) (by omega) ?_
                          refine pm_top (v := nI 999999) e51 ?_
                          refine pm_iloadi hG dX12_quarter_311 rfl ?_
                          refine pm_isub hG dX12_quarter_313 ?_
                          refine pm_iastN hG dX12_quarter_314 rfl (by decide) (by omega) ?_
                          refine mdn_now (fun n_54 en_54 => ?_)
                          have hnn_54 := KI.w en_54 hnn_46 (okv_f (show kd (6 * i6 + 1770) = (0, 0, false) from (kd_D (k := i6) (c := 0) (by omega) (by omega) (by decide))))
                          have hrn_54 := NRx.w en_54 hrn_46 (by rw [(show kd (6 * i6 + 1770) = (0, 0, false) from (kd_D (k := i6) (c := 0) (by omega) (by omega) (by decide)))])
                          have e55 : n_54 8 = nI kc8 := by rw [en_54, pk_un (by omega)]; exact e47
                          have e56 : n_54 0 = nI kc0 := by rw [en_54, pk_un (by omega)]; exact e48
                          have e57 : n_54 6 = nI k7 := by rw [en_54, pk_un (by omega)]; exact e49
                          have e58 : n_54 (6 * i6 + 1771) = x10 := by rw [en_54, pk_un (by omega)]; exact e50
                          have e59 : n_54 (6 * i6 + 1772) = x19 := by rw [en_54, pk_un (by omega)]; exact e52
                          have e60 : n_54 9 = x21 - x19 := by rw [en_54, pk_un (by omega)]; exact e53
                          have e61 : n_54 (6 * i6 + 1770) = (nI 999999) - x19 := by rw [en_54, pk_us]
                          refine pm_goto (tgt := 363) hG dX12_quarter_315 rfl ?_
                          refine pm_iincX (v := nI (i6 + 1)) (loc' := [some (.ref (B + 54)), some (.int (nI (i6 + 1))), some (.int (nI (6 * i6 + 1770))), some (.int (x9 + x11)), some (.int x19)]) hG dX12_quarter_363 rfl (nI_1 _) (by decide) (pm_c1b rfl) rfl ?_
                          refine pm_goto (tgt := 180) hG dX12_quarter_366 rfl ?_
                          refine pm_fg 2 (loc' := [some (.ref (B + 54)), some (.int (nI (i6 + 1))), none, some (.int (x9 + x11)), some (.int x19)]) rfl ?_
                          refine pm_fg 3 (loc' := [some (.ref (B + 54)), some (.int (nI (i6 + 1))), none, none, some (.int x19)]) rfl ?_
                          refine pm_fg 4 (loc' := [some (.ref (B + 54)), some (.int (nI (i6 + 1))), none, none, none]) rfl ?_
                          exact ih6 n_54 (i6 + 1) hnn_54 hrn_54 (e55.trans (congrArg nI (by omega))) (e56.trans (congrArg nI (by omega))) (by omega) (by omega)
                      · refine pm_aloadn hG dX12_quarter_261 rfl ?_
                        refine pm_getf hG dX12_quarter_262 (flX12_7 _ rfl) rfl rfl ?_
                        refine pm_iloadn hG dX12_quarter_265 rfl ?_
                        refine pm_ialdN hG dX12_quarter_266 rfl (by decide) (by omega) ?_
                        refine pm_top (v := nI 999999) e18 ?_
                        refine pm_goto (tgt := 278) hG dX12_quarter_267 rfl ?_
                        refine pm_istoreXi (loc' := [some (.ref (B + 54)), some (.int (nI i6)), some (.int (nI (6 * i6 + 1770))), some (.int (x9 + x11)), some (.int (nI 999999))]) hG dX12_quarter_278 (by decide) (pm_c1b rfl) rfl ?_
                        refine pm_aloadn hG dX12_quarter_280 rfl ?_
                        refine pm_getf hG dX12_quarter_281 (flX12_7 _ rfl) rfl rfl ?_
                        refine pm_bipush (v := nI 9) hG dX12_quarter_284 (by decide) ?_
                        refine pm_ialdN hG dX12_quarter_286 rfl (by decide) (by omega) ?_
                        refine pm_gen (fun x62 ex62 => ?_)
                        refine pm_iloadi hG dX12_quarter_287 rfl ?_
                        refine pm_icmp_lt (tgt := 318) hG dX12_quarter_289 rfl (fun c63 => ?_) (fun c63 => ?_)
                        · refine pm_aloadn hG dX12_quarter_318 rfl ?_
                          refine pm_getf hG dX12_quarter_319 (flX12_7 _ rfl) rfl rfl ?_
                          refine pm_iloadn hG dX12_quarter_322 rfl ?_
                          refine pm_iconst (v := nI 3) hG dX12_quarter_323 (by decide) ?_
                          refine pm_iaddN (c := 6 * i6 + 1773) hG dX12_quarter_324 (by omega) ?_
                          refine pm_dup2 hG dX12_quarter_325 rfl rfl ?_
                          refine pm_ialdN hG dX12_quarter_326 rfl (by decide) (by omega) ?_
                          refine pm_gen (fun x64 ex64 => ?_)
                          refine pm_iconst (v := nI 1) hG dX12_quarter_327 (by decide) ?_
                          refine pm_iadd hG dX12_quarter_328 ?_
                          refine pm_iastN hG dX12_quarter_329 rfl (by decide) (by omega) ?_
                          refine mdn_now (fun n_65 en_65 => ?_)
                          have hnn_65 := KI.w en_65 hnn_13 (okv_f (show kd (6 * i6 + 1773) = (0, 0, false) from (kd_D (k := i6) (c := 3) (by omega) (by omega) (by decide))))
                          have hrn_65 := NRx.w en_65 hrn_13 (by rw [(show kd (6 * i6 + 1773) = (0, 0, false) from (kd_D (k := i6) (c := 3) (by omega) (by omega) (by decide)))])
                          have e66 : n_65 8 = nI kc8 := by rw [en_65, pk_un (by omega)]; exact e14
                          have e67 : n_65 0 = nI kc0 := by rw [en_65, pk_un (by omega)]; exact e15
                          have e68 : n_65 6 = nI k7 := by rw [en_65, pk_un (by omega)]; exact e16
                          have e69 : n_65 (6 * i6 + 1771) = x10 := by rw [en_65, pk_un (by omega)]; exact e17
                          have e70 : n_65 (6 * i6 + 1770) = nI 999999 := by rw [en_65, pk_un (by omega)]; exact e18
                          have e71 : n_65 (6 * i6 + 1772) = x19 := by rw [en_65, pk_un (by omega)]; exact ex19
                          have e72 : n_65 9 = x62 := by rw [en_65, pk_un (by omega)]; exact ex62
                          have e73 : n_65 (6 * i6 + 1773) = x64 + (nI 1) := by rw [en_65, pk_us]
                          refine pm_aloadn hG dX12_quarter_330 rfl ?_
                          refine pm_getf hG dX12_quarter_331 (flX12_7 _ rfl) rfl rfl ?_
                          refine pm_iloadn hG dX12_quarter_334 rfl ?_
                          refine pm_iconst (v := nI 3) hG dX12_quarter_335 (by decide) ?_
                          refine pm_iaddN (c := 6 * i6 + 1773) hG dX12_quarter_336 (by omega) ?_
                          refine pm_ialdN hG dX12_quarter_337 rfl (by decide) (by omega) ?_
                          refine pm_top (v := x64 + (nI 1)) e73 ?_
                          refine pm_iconst (v := nI 2) hG dX12_quarter_338 (by decide) ?_
                          refine pm_icmp_ne (tgt := 363) hG dX12_quarter_339 rfl (fun c74 => ?_) (fun c74 => ?_)
                          · refine pm_iincX (v := nI (i6 + 1)) (loc' := [some (.ref (B + 54)), some (.int (nI (i6 + 1))), some (.int (nI (6 * i6 + 1770))), some (.int (x9 + x11)), some (.int (nI 999999))]) hG dX12_quarter_363 rfl (nI_1 _) (by decide) (pm_c1b rfl) rfl ?_
                            refine pm_goto (tgt := 180) hG dX12_quarter_366 rfl ?_
                            refine pm_fg 2 (loc' := [some (.ref (B + 54)), some (.int (nI (i6 + 1))), none, some (.int (x9 + x11)), some (.int (nI 999999))]) rfl ?_
                            refine pm_fg 3 (loc' := [some (.ref (B + 54)), some (.int (nI (i6 + 1))), none, none, some (.int (nI 999999))]) rfl ?_
                            refine pm_fg 4 (loc' := [some (.ref (B + 54)), some (.int (nI (i6 + 1))), none, none, none]) rfl ?_
                            exact ih6 n_65 (i6 + 1) hnn_65 hrn_65 (e66.trans (congrArg nI (by omega))) (e67.trans (congrArg nI (by omega))) (by omega) (by omega)
                          · refine pm_aloadn hG dX12_quarter_342 rfl ?_
                            refine pm_getf hG dX12_quarter_343 (flX12_7 _ rfl) rfl rfl ?_
                            refine pm_bipush (v := nI 20) hG dX12_quarter_346 (by decide) ?_
                            refine pm_iconst (v := nI 3) hG dX12_quarter_348 (by decide) ?_
                            refine pm_aloadn hG dX12_quarter_349 rfl ?_
                            refine pm_getf hG dX12_quarter_350 (flX12_7 _ rfl) rfl rfl ?_
                            refine pm_iloadn hG dX12_quarter_353 rfl ?_
                            refine pm_iconst (v := nI 4) hG dX12_quarter_354 (by decide) ?_
                            refine pm_iaddN (c := 6 * i6 + 1774) hG dX12_quarter_355 (by omega) ?_
                            refine pm_ialdN hG dX12_quarter_356 rfl (by decide) (by omega) ?_
                            obtain ⟨k75, hk75, ek75⟩ := KI.nat hnn_65 (show kd (6 * i6 + 1774) = (1, 10, false) from (kd_D (k := i6) (c := 4) (by omega) (by omega) (by decide)))
                            refine pm_top (v := nI k75) ek75 ?_
                            refine pm_imulN (c := 3 * k75) hG dX12_quarter_357 (by omega) ?_
                            refine pm_iaddN (c := 3 * k75 + 20) hG dX12_quarter_358 (by omega) ?_
                            refine pm_iconst (v := nI 2) hG dX12_quarter_359 (by decide) ?_
                            refine pm_iaddN (c := 3 * k75 + 22) hG dX12_quarter_360 (by omega) ?_
                            refine pm_iconst (v := nI 1) hG dX12_quarter_361 (by decide) ?_
                            refine pm_iastN hG dX12_quarter_362 rfl (by decide) (by omega) ?_
                            refine mdn_now (fun n_76 en_76 => ?_)
                            have hnn_76 := KI.w en_76 hnn_65 (okv_f (show kd (3 * k75 + 22) = (0, 0, false) from (kd_T (k := k75) (c := 2) (by omega) (by omega) (by decide))))
                            have hrn_76 := NRx.w en_76 hrn_65 (by rw [(show kd (3 * k75 + 22) = (0, 0, false) from (kd_T (k := k75) (c := 2) (by omega) (by omega) (by decide)))])
                            have e77 : n_76 8 = nI kc8 := by rw [en_76, pk_un (by omega)]; exact e66
                            have e78 : n_76 0 = nI kc0 := by rw [en_76, pk_un (by omega)]; exact e67
                            have e79 : n_76 6 = nI k7 := by rw [en_76, pk_un (by omega)]; exact e68
                            have e80 : n_76 (6 * i6 + 1771) = x10 := by rw [en_76, pk_un (by omega)]; exact e69
                            have e81 : n_76 (6 * i6 + 1770) = nI 999999 := by rw [en_76, pk_un (by omega)]; exact e70
                            have e82 : n_76 (6 * i6 + 1772) = x19 := by rw [en_76, pk_un (by omega)]; exact e71
                            have e83 : n_76 9 = x62 := by rw [en_76, pk_un (by omega)]; exact e72
                            have e84 : n_76 (6 * i6 + 1773) = x64 + (nI 1) := by rw [en_76, pk_un (by omega)]; exact e73
                            have e85 : n_76 (6 * i6 + 1774) = nI k75 := by rw [en_76, pk_un (by omega)]; exact ek75
                            have e86 : n_76 (3 * k75 + 22) = nI 1 := by rw [en_76, pk_us]
                            refine pm_iincX (v := nI (i6 + 1)) (loc' := [some (.ref (B + 54)), some (.int (nI (i6 + 1))), some (.int (nI (6 * i6 + 1770))), some (.int (x9 + x11)), some (.int (nI 999999))]) hG dX12_quarter_363 rfl (nI_1 _) (by decide) (pm_c1b rfl) rfl ?_
                            refine pm_goto (tgt := 180) hG dX12_quarter_366 rfl ?_
                            refine pm_fg 2 (loc' := [some (.ref (B + 54)), some (.int (nI (i6 + 1))), none, some (.int (x9 + x11)), some (.int (nI 999999))]) rfl ?_
                            refine pm_fg 3 (loc' := [some (.ref (B + 54)), some (.int (nI (i6 + 1))), none, none, some (.int (nI 999999))]) rfl ?_
                            refine pm_fg 4 (loc' := [some (.ref (B + 54)), some (.int (nI (i6 + 1))), none, none, none]) rfl ?_
                            exact ih6 n_76 (i6 + 1) hnn_76 hrn_76 (e77.trans (congrArg nI (by omega))) (e78.trans (congrArg nI (by omega))) (by omega) (by omega)
                        · refine pm_aloadn hG dX12_quarter_292 rfl ?_
                          refine pm_getf hG dX12_quarter_293 (flX12_7 _ rfl) rfl rfl ?_
                          refine pm_bipush (v := nI 9) hG dX12_quarter_296 (by decide) ?_
                          refine pm_dup2 hG dX12_quarter_298 rfl rfl ?_
                          refine pm_ialdN hG dX12_quarter_299 rfl (by decide) (by omega) ?_
                          refine pm_top (v := x62) ex62 ?_
                          refine pm_iloadi hG dX12_quarter_300 rfl ?_
                          refine pm_isub hG dX12_quarter_302 ?_
                          refine pm_iastN hG dX12_quarter_303 rfl (by decide) (by omega) ?_
                          refine mdn_now (fun n_87 en_87 => ?_)
                          have hnn_87 := KI.w en_87 hnn_13 (okv_f (show kd 9 = (0, 0, false) by decide))
                          have hrn_87 := NRx.w en_87 hrn_13 (by rw [(show kd 9 = (0, 0, false) by decide)])
                          have e88 : n_87 8 = nI kc8 := by rw [en_87, pk_un (by omega)]; exact e14
                          have e89 : n_87 0 = nI kc0 := by rw [en_87, pk_un (by omega)]; exact e15
                          have e90 : n_87 6 = nI k7 := by rw [en_87, pk_un (by omega)]; exact e16
                          have e91 : n_87 (6 * i6 + 1771) = x10 := by rw [en_87, pk_un (by omega)]; exact e17
                          have e92 : n_87 (6 * i6 + 1770) = nI 999999 := by rw [en_87, pk_un (by omega)]; exact e18
                          have e93 : n_87 (6 * i6 + 1772) = x19 := by rw [en_87, pk_un (by omega)]; exact ex19
                          have e94 : n_87 9 = x62 - (nI 999999) := by rw [en_87, pk_us]
                          refine pm_aloadn hG dX12_quarter_304 rfl ?_
                          refine pm_getf hG dX12_quarter_305 (flX12_7 _ rfl) rfl rfl ?_
                          refine pm_iloadn hG dX12_quarter_308 rfl ?_
                          refine pm_dup2 hG dX12_quarter_309 rfl rfl ?_
                          refine pm_ialdN hG dX12_quarter_310 rfl (by decide) (by omega) ?_
                          refine pm_top (v := nI 999999) e92 ?_
                          refine pm_iloadi hG dX12_quarter_311 rfl ?_
                          refine pm_isubN (c := 0) hG dX12_quarter_313 (by omega) ?_
                          refine pm_iastN hG dX12_quarter_314 rfl (by decide) (by omega) ?_
                          refine mdn_now (fun n_95 en_95 => ?_)
                          have hnn_95 := KI.w en_95 hnn_87 (okv_f (show kd (6 * i6 + 1770) = (0, 0, false) from (kd_D (k := i6) (c := 0) (by omega) (by omega) (by decide))))
                          have hrn_95 := NRx.w en_95 hrn_87 (by rw [(show kd (6 * i6 + 1770) = (0, 0, false) from (kd_D (k := i6) (c := 0) (by omega) (by omega) (by decide)))])
                          have e96 : n_95 8 = nI kc8 := by rw [en_95, pk_un (by omega)]; exact e88
                          have e97 : n_95 0 = nI kc0 := by rw [en_95, pk_un (by omega)]; exact e89
                          have e98 : n_95 6 = nI k7 := by rw [en_95, pk_un (by omega)]; exact e90
                          have e99 : n_95 (6 * i6 + 1771) = x10 := by rw [en_95, pk_un (by omega)]; exact e91
                          have e100 : n_95 (6 * i6 + 1772) = x19 := by rw [en_95, pk_un (by omega)]; exact e93
                          have e101 : n_95 9 = x62 - (nI 999999) := by rw [en_95, pk_un (by omega)]; exact e94
                          have e102 : n_95 (6 * i6 + 1770) = nI 0 := by rw [en_95, pk_us]
                          refine pm_goto (tgt := 363) hG dX12_quarter_315 rfl ?_
                          refine pm_iincX (v := nI (i6 + 1)) (loc' := [some (.ref (B + 54)), some (.int (nI (i6 + 1))), some (.int (nI (6 * i6 + 1770))), some (.int (x9 + x11)), some (.int (nI 999999))]) hG dX12_quarter_363 rfl (nI_1 _) (by decide) (pm_c1b rfl) rfl ?_
                          refine pm_goto (tgt := 180) hG dX12_quarter_366 rfl ?_
                          refine pm_fg 2 (loc' := [some (.ref (B + 54)), some (.int (nI (i6 + 1))), none, some (.int (x9 + x11)), some (.int (nI 999999))]) rfl ?_
                          refine pm_fg 3 (loc' := [some (.ref (B + 54)), some (.int (nI (i6 + 1))), none, none, some (.int (nI 999999))]) rfl ?_
                          refine pm_fg 4 (loc' := [some (.ref (B + 54)), some (.int (nI (i6 + 1))), none, none, none]) rfl ?_
                          exact ih6 n_95 (i6 + 1) hnn_95 hrn_95 (e96.trans (congrArg nI (by omega))) (e97.trans (congrArg nI (by omega))) (by omega) (by omega)
                    · refine pm_iloadn hG dX12_quarter_237 rfl ?_
                      refine pm_goto (tgt := 243) hG dX12_quarter_238 rfl ?_
                      refine pm_iastN hG dX12_quarter_243 rfl (by decide) (by omega) ?_
                      refine mdn_now (fun n_103 en_103 => ?_)
                      have hnn_103 := KI.w en_103 hnn_6 (okv_f (show kd (6 * i6 + 1770) = (0, 0, false) from (kd_D (k := i6) (c := 0) (by omega) (by omega) (by decide))))
                      have hrn_103 := NRx.w en_103 hrn_6 (by rw [(show kd (6 * i6 + 1770) = (0, 0, false) from (kd_D (k := i6) (c := 0) (by omega) (by omega) (by decide)))])
                      have e104 : n_103 8 = nI kc8 := by rw [en_103, pk_un (by omega)]; exact kc6_8
                      have e105 : n_103 0 = nI kc0 := by rw [en_103, pk_un (by omega)]; exact kc6_0
                      have e106 : n_103 6 = nI k7 := by rw [en_103, pk_un (by omega)]; exact ek7
                      have e107 : n_103 (6 * i6 + 1771) = x10 := by rw [en_103, pk_un (by omega)]; exact ex10
                      have e108 : n_103 (6 * i6 + 1770) = x9 + x11 := by rw [en_103, pk_us]
                      refine pm_aloadn hG dX12_quarter_244 rfl ?_
                      refine pm_getf hG dX12_quarter_245 (flX12_7 _ rfl) rfl rfl ?_
                      refine pm_iloadn hG dX12_quarter_248 rfl ?_
                      refine pm_ialdN hG dX12_quarter_249 rfl (by decide) (by omega) ?_
                      refine pm_top (v := x9 + x11) e108 ?_
                      refine pm_aloadn hG dX12_quarter_250 rfl ?_
                      refine pm_getf hG dX12_quarter_251 (flX12_7 _ rfl) rfl rfl ?_
                      refine pm_iloadn hG dX12_quarter_254 rfl ?_
                      refine pm_iconst (v := nI 2) hG dX12_quarter_255 (by decide) ?_
                      refine pm_iaddN (c := 6 * i6 + 1772) hG dX12_quarter_256 (by omega) ?_
                      refine pm_ialdN hG dX12_quarter_257 rfl (by decide) (by omega) ?_
                      refine pm_gen (fun x109 ex109 => ?_)
                      refine pm_icmp_ge (tgt := 270) hG dX12_quarter_258 rfl (fun c110 => ?_) (fun c110 => ?_)
                      · refine pm_aloadn hG dX12_quarter_270 rfl ?_
                        refine pm_getf hG dX12_quarter_271 (flX12_7 _ rfl) rfl rfl ?_
                        refine pm_iloadn hG dX12_quarter_274 rfl ?_
                        refine pm_iconst (v := nI 2) hG dX12_quarter_275 (by decide) ?_
                        refine pm_iaddN (c := 6 * i6 + 1772) hG dX12_quarter_276 (by omega) ?_
                        refine pm_ialdN hG dX12_quarter_277 rfl (by decide) (by omega) ?_
                        refine pm_top (v := x109) ex109 ?_
                        refine pm_istoreXi (loc' := [some (.ref (B + 54)), some (.int (nI i6)), some (.int (nI (6 * i6 + 1770))), some (.int (x9 + x11)), some (.int x109)]) hG dX12_quarter_278 (by decide) (pm_c1b rfl) rfl ?_
                        refine pm_aloadn hG dX12_quarter_280 rfl ?_
                        refine pm_getf hG dX12_quarter_281 (flX12_7 _ rfl) rfl rfl ?_
                        refine pm_bipush (v := nI 9) hG dX12_quarter_284 (by decide) ?_
                        refine pm_ialdN hG dX12_quarter_286 rfl (by decide) (by omega) ?_
                        refine pm_gen (fun x111 ex111 => ?_)
                        refine pm_iloadi hG dX12_quarter_287 rfl ?_
                        refine pm_icmp_lt (tgt := 318) hG dX12_quarter_289 rfl (fun c112 => ?_) (fun c112 => ?_)
                        · refine pm_aloadn hG dX12_quarter_318 rfl ?_
                          refine pm_getf hG dX12_quarter_319 (flX12_7 _ rfl) rfl rfl ?_
                          refine pm_iloadn hG dX12_quarter_322 rfl ?_
                          refine pm_iconst (v := nI 3) hG dX12_quarter_323 (by decide) ?_
                          refine pm_iaddN (c := 6 * i6 + 1773) hG dX12_quarter_324 (by omega) ?_
                          refine pm_dup2 hG dX12_quarter_325 rfl rfl ?_
                          refine pm_ialdN hG dX12_quarter_326 rfl (by decide) (by omega) ?_
                          refine pm_gen (fun x113 ex113 => ?_)
                          refine pm_iconst (v := nI 1) hG dX12_quarter_327 (by decide) ?_
                          refine pm_iadd hG dX12_quarter_328 ?_
                          refine pm_iastN hG dX12_quarter_329 rfl (by decide) (by omega) ?_
                          refine mdn_now (fun n_114 en_114 => ?_)
                          have hnn_114 := KI.w en_114 hnn_103 (okv_f (show kd (6 * i6 + 1773) = (0, 0, false) from (kd_D (k := i6) (c := 3) (by omega) (by omega) (by decide))))
                          have hrn_114 := NRx.w en_114 hrn_103 (by rw [(show kd (6 * i6 + 1773) = (0, 0, false) from (kd_D (k := i6) (c := 3) (by omega) (by omega) (by decide)))])
                          have e115 : n_114 8 = nI kc8 := by rw [en_114, pk_un (by omega)]; exact e104
                          have e116 : n_114 0 = nI kc0 := by rw [en_114, pk_un (by omega)]; exact e105
                          have e117 : n_114 6 = nI k7 := by rw [en_114, pk_un (by omega)]; exact e106
                          have e118 : n_114 (6 * i6 + 1771) = x10 := by rw [en_114, pk_un (by omega)]; exact e107
                          have e119 : n_114 (6 * i6 + 1770) = x9 + x11 := by rw [en_114, pk_un (by omega)]; exact e108
                          have e120 : n_114 (6 * i6 + 1772) = x109 := by rw [en_114, pk_un (by omega)]; exact ex109
                          have e121 : n_114 9 = x111 := by rw [en_114, pk_un (by omega)]; exact ex111
                          have e122 : n_114 (6 * i6 + 1773) = x113 + (nI 1) := by rw [en_114, pk_us]
                          refine pm_aloadn hG dX12_quarter_330 rfl ?_
                          refine pm_getf hG dX12_quarter_331 (flX12_7 _ rfl) rfl rfl ?_
                          refine pm_iloadn hG dX12_quarter_334 rfl ?_
                          refine pm_iconst (v := nI 3) hG dX12_quarter_335 (by decide) ?_
                          refine pm_iaddN (c := 6 * i6 + 1773) hG dX12_quarter_336 (by omega) ?_
                          refine pm_ialdN hG dX12_quarter_337 rfl (by decide) (by omega) ?_
                          refine pm_top (v := x113 + (nI 1)) e122 ?_
                          refine pm_iconst (v := nI 2) hG dX12_quarter_338 (by decide) ?_
                          refine pm_icmp_ne (tgt := 363) hG dX12_quarter_339 rfl (fun c123 => ?_) (fun c123 => ?_)
                          · refine pm_iincX (v := nI (i6 + 1)) (loc' := [some (.ref (B + 54)), some (.int (nI (i6 + 1))), some (.int (nI (6 * i6 + 1770))), some (.int (x9 + x11)), some (.int x109)]) hG dX12_quarter_363 rfl (nI_1 _) (by decide) (pm_c1b rfl) rfl ?_
                            refine pm_goto (tgt := 180) hG dX12_quarter_366 rfl ?_
                            refine pm_fg 2 (loc' := [some (.ref (B + 54)), some (.int (nI (i6 + 1))), none, some (.int (x9 + x11)), some (.int x109)]) rfl ?_
                            refine pm_fg 3 (loc' := [some (.ref (B + 54)), some (.int (nI (i6 + 1))), none, none, some (.int x109)]) rfl ?_
                            refine pm_fg 4 (loc' := [some (.ref (B + 54)), some (.int (nI (i6 + 1))), none, none, none]) rfl ?_
                            exact ih6 n_114 (i6 + 1) hnn_114 hrn_114 (e115.trans (congrArg nI (by omega))) (e116.trans (congrArg nI (by omega))) (by omega) (by omega)
                          · refine pm_aloadn hG dX12_quarter_342 rfl ?_
                            refine pm_getf hG dX12_quarter_343 (flX12_7 _ rfl) rfl rfl ?_
                            refine pm_bipush (v := nI 20) hG dX12_quarter_346 (by decide) ?_
                            refine pm_iconst (v := nI 3) hG dX12_quarter_348 (by decide) ?_
                            refine pm_aloadn hG dX12_quarter_349 rfl ?_
                            refine pm_getf hG dX12_quarter_350 (flX12_7 _ rfl) rfl rfl ?_
                            refine pm_iloadn hG dX12_quarter_353 rfl ?_
                            refine pm_iconst (v := nI 4) hG dX12_quarter_354 (by decide) ?_
                            refine pm_iaddN (c := 6 * i6 + 1774) hG dX12_quarter_355 (by omega) ?_
                            refine pm_ialdN hG dX12_quarter_356 rfl (by decide) (by omega) ?_
                            obtain ⟨k124, hk124, ek124⟩ := KI.nat hnn_114 (show kd (6 * i6 + 1774) = (1, 10, false) from (kd_D (k := i6) (c := 4) (by omega) (by omega) (by decide)))
                            refine pm_top (v := nI k124) ek124 ?_
                            refine pm_imulN (c := 3 * k124) hG dX12_quarter_357 (by omega) ?_
                            refine pm_iaddN (c := 3 * k124 + 20) hG dX12_quarter_358 (by omega) ?_
                            refine pm_iconst (v := nI 2) hG dX12_quarter_359 (by decide) ?_
                            refine pm_iaddN (c := 3 * k124 + 22) hG dX12_quarter_360 (by omega) ?_
                            refine pm_iconst (v := nI 1) hG dX12_quarter_361 (by decide) ?_
                            refine pm_iastN hG dX12_quarter_362 rfl (by decide) (by omega) ?_
                            refine mdn_now (fun n_125 en_125 => ?_)
                            have hnn_125 := KI.w en_125 hnn_114 (okv_f (show kd (3 * k124 + 22) = (0, 0, false) from (kd_T (k := k124) (c := 2) (by omega) (by omega) (by decide))))
                            have hrn_125 := NRx.w en_125 hrn_114 (by rw [(show kd (3 * k124 + 22) = (0, 0, false) from (kd_T (k := k124) (c := 2) (by omega) (by omega) (by decide)))])
                            have e126 : n_125 8 = nI kc8 := by rw [en_125, pk_un (by omega)]; exact e115
                            have e127 : n_125 0 = nI kc0 := by rw [en_125, pk_un (by omega)]; exact e116
                            have e128 : n_125 6 = nI k7 := by rw [en_125, pk_un (by omega)]; exact e117
                            have e129 : n_125 (6 * i6 + 1771) = x10 := by rw [en_125, pk_un (by omega)]; exact e118
                            have e130 : n_125 (6 * i6 + 1770) = x9 + x11 := by rw [en_125, pk_un (by omega)]; exact e119
                            have e131 : n_125 (6 * i6 + 1772) = x109 := by rw [en_125, pk_un (by omega)]; exact e120
                            have e132 : n_125 9 = x111 := by rw [en_125, pk_un (by omega)]; exact e121
                            have e133 : n_125 (6 * i6 + 1773) = x113 + (nI 1) := by rw [en_125, pk_un (by omega)]; exact e122
                            have e134 : n_125 (6 * i6 + 1774) = nI k124 := by rw [en_125, pk_un (by omega)]; exact ek124
                            have e135 : n_125 (3 * k124 + 22) = nI 1 := by rw [en_125, pk_us]
                            refine pm_iincX (v := nI (i6 + 1)) (loc' := [some (.ref (B + 54)), some (.int (nI (i6 + 1))), some (.int (nI (6 * i6 + 1770))), some (.int (x9 + x11)), some (.int x109)]) hG dX12_quarter_363 rfl (nI_1 _) (by decide) (pm_c1b rfl) rfl ?_
                            refine pm_goto (tgt := 180) hG dX12_quarter_366 rfl ?_
                            refine pm_fg 2 (loc' := [some (.ref (B + 54)), some (.int (nI (i6 + 1))), none, some (.int (x9 + x11)), some (.int x109)]) rfl ?_
                            refine pm_fg 3 (loc' := [some (.ref (B + 54)), some (.int (nI (i6 + 1))), none, none, some (.int x109)]) rfl ?_
                            refine pm_fg 4 (loc' := [some (.ref (B + 54)), some (.int (nI (i6 + 1))), none, none, none]) rfl ?_
                            exact ih6 n_125 (i6 + 1) hnn_125 hrn_125 (e126.trans (congrArg nI (by omega))) (e127.trans (congrArg nI (by omega))) (by omega) (by omega)
                        · refine pm_aloadn hG dX12_quarter_292 rfl ?_
                          refine pm_getf hG dX12_quarter_293 (flX12_7 _ rfl) rfl rfl ?_
                          refine pm_bipush (v := nI 9) hG dX12_quarter_296 (by decide) ?_
                          refine pm_dup2 hG dX12_quarter_298 rfl rfl ?_
                          refine pm_ialdN hG dX12_quarter_299 rfl (by decide) (by omega) ?_
                          refine pm_top (v := x111) ex111 ?_
                          refine pm_iloadi hG dX12_quarter_300 rfl ?_
                          refine pm_isub hG dX12_quarter_302 ?_
                          refine pm_iastN hG dX12_quarter_303 rfl (by decide) (by omega) ?_
                          refine mdn_now (fun n_136 en_136 => ?_)
                          have hnn_136 := KI.w en_136 hnn_103 (okv_f (show kd 9 = (0, 0, false) by decide))
                          have hrn_136 := NRx.w en_136 hrn_103 (by rw [(show kd 9 = (0, 0, false) by decide)])
                          have e137 : n_136 8 = nI kc8 := by rw [en_136, pk_un (by omega)]; exact e104
                          have e138 : n_136 0 = nI kc0 := by rw [en_136, pk_un (by omega)]; exact e105
                          have e139 : n_136 6 = nI k7 := by rw [en_136, pk_un (by omega)]; exact e106
                          have e140 : n_136 (6 * i6 + 1771) = x10 := by rw [en_136, pk_un (by omega)]; exact e107
                          have e141 : n_136 (6 * i6 + 1770) = x9 + x11 := by rw [en_136, pk_un (by omega)]; exact e108
                          have e142 : n_136 (6 * i6 + 1772) = x109 := by rw [en_136, pk_un (by omega)]; exact ex109
                          have e143 : n_136 9 = x111 - x109 := by rw [en_136, pk_us]
                          refine pm_aloadn hG dX12_quarter_304 rfl ?_
                          refine pm_getf hG dX12_quarter_305 (flX12_7 _ rfl) rfl rfl ?_
                          refine pm_iloadn hG dX12_quarter_308 rfl ?_
                          refine pm_dup2 hG dX12_quarter_309 rfl rfl ?_
                          refine pm_ialdN hG dX12_quarter_310 rfl (by decide) (by omega) ?_
                          refine pm_top (v := x9 + x11) e141 ?_
                          refine pm_iloadi hG dX12_quarter_311 rfl ?_
                          refine pm_isub hG dX12_quarter_313 ?_
                          refine pm_iastN hG dX12_quarter_314 rfl (by decide) (by omega) ?_
                          refine mdn_now (fun n_144 en_144 => ?_)
                          have hnn_144 := KI.w en_144 hnn_136 (okv_f (show kd (6 * i6 + 1770) = (0, 0, false) from (kd_D (k := i6) (c := 0) (by omega) (by omega) (by decide))))
                          have hrn_144 := NRx.w en_144 hrn_136 (by rw [(show kd (6 * i6 + 1770) = (0, 0, false) from (kd_D (k := i6) (c := 0) (by omega) (by omega) (by decide)))])
                          have e145 : n_144 8 = nI kc8 := by rw [en_144, pk_un (by omega)]; exact e137
                          have e146 : n_144 0 = nI kc0 := by rw [en_144, pk_un (by omega)]; exact e138
                          have e147 : n_144 6 = nI k7 := by rw [en_144, pk_un (by omega)]; exact e139
                          have e148 : n_144 (6 * i6 + 1771) = x10 := by rw [en_144, pk_un (by omega)]; exact e140
                          have e149 : n_144 (6 * i6 + 1772) = x109 := by rw [en_144, pk_un (by omega)]; exact e142
                          have e150 : n_144 9 = x111 - x109 := by rw [en_144, pk_un (by omega)]; exact e143
                          have e151 : n_144 (6 * i6 + 1770) = (x9 + x11) - x109 := by rw [en_144, pk_us]
                          refine pm_goto (tgt := 363) hG dX12_quarter_315 rfl ?_
                          refine pm_iincX (v := nI (i6 + 1)) (loc' := [some (.ref (B + 54)), some (.int (nI (i6 + 1))), some (.int (nI (6 * i6 + 1770))), some (.int (x9 + x11)), some (.int x109)]) hG dX12_quarter_363 rfl (nI_1 _) (by decide) (pm_c1b rfl) rfl ?_
                          refine pm_goto (tgt := 180) hG dX12_quarter_366 rfl ?_
                          refine pm_fg 2 (loc' := [some (.ref (B + 54)), some (.int (nI (i6 + 1))), none, some (.int (x9 + x11)), some (.int x109)]) rfl ?_
                          refine pm_fg 3 (loc' := [some (.ref (B + 54)), some (.int (nI (i6 + 1))), none, none, some (.int x109)]) rfl ?_
                          refine pm_fg 4 (loc' := [some (.ref (B + 54)), some (.int (nI (i6 + 1))), none, none, none]) rfl ?_
                          exact ih6 n_144 (i6 + 1) hnn_144 hrn_144 (e145.trans (congrArg nI (by omega))) (e146.trans (congrArg nI (by omega))) (by omega) (by omega)
                      · refine pm_aloadn hG dX12_quarter_261 rfl ?_
                        refine pm_getf hG dX12_quarter_262 (flX12_7 _ rfl) rfl rfl ?_
                        refine pm_iloadn hG dX12_quarter_265 rfl ?_
                        refine pm_ialdN hG dX12_quarter_266 rfl (by decide) (by omega) ?_
                        refine pm_top (v := x9 + x11) e108 ?_
                        refine pm_goto (tgt := 278) hG dX12_quarter_267 rfl ?_
                        refine pm_istoreXi (loc' := [some (.ref (B + 54)), some (.int (nI i6)), some (.int (nI (6 * i6 + 1770))), some (.int (x9 + x11)), some (.int (x9 + x11))]) hG dX12_quarter_278 (by decide) (pm_c1b rfl) rfl ?_
                        refine pm_aloadn hG dX12_quarter_280 rfl ?_
                        refine pm_getf hG dX12_quarter_281 (flX12_7 _ rfl) rfl rfl ?_
                        refine pm_bipush (v := nI 9) hG dX12_quarter_284 (by decide) ?_
                        refine pm_ialdN hG dX12_quarter_286 rfl (by decide) (by omega) ?_
                        refine pm_gen (fun x152 ex152 => ?_)
                        refine pm_iloadi hG dX12_quarter_287 rfl ?_
                        refine pm_icmp_lt (tgt := 318) hG dX12_quarter_289 rfl (fun c153 => ?_) (fun c153 => ?_)
                        · refine pm_aloadn hG dX12_quarter_318 rfl ?_
                          refine pm_getf hG dX12_quarter_319 (flX12_7 _ rfl) rfl rfl ?_
                          refine pm_iloadn hG dX12_quarter_322 rfl ?_
                          refine pm_iconst (v := nI 3) hG dX12_quarter_323 (by decide) ?_
                          refine pm_iaddN (c := 6 * i6 + 1773) hG dX12_quarter_324 (by omega) ?_
                          refine pm_dup2 hG dX12_quarter_325 rfl rfl ?_
                          refine pm_ialdN hG dX12_quarter_326 rfl (by decide) (by omega) ?_
                          refine pm_gen (fun x154 ex154 => ?_)
                          refine pm_iconst (v := nI 1) hG dX12_quarter_327 (by decide) ?_
                          refine pm_iadd hG dX12_quarter_328 ?_
                          refine pm_iastN hG dX12_quarter_329 rfl (by decide) (by omega) ?_
                          refine mdn_now (fun n_155 en_155 => ?_)
                          have hnn_155 := KI.w en_155 hnn_103 (okv_f (show kd (6 * i6 + 1773) = (0, 0, false) from (kd_D (k := i6) (c := 3) (by omega) (by omega) (by decide))))
                          have hrn_155 := NRx.w en_155 hrn_103 (by rw [(show kd (6 * i6 + 1773) = (0, 0, false) from (kd_D (k := i6) (c := 3) (by omega) (by omega) (by decide)))])
                          have e156 : n_155 8 = nI kc8 := by rw [en_155, pk_un (by omega)]; exact e104
                          have e157 : n_155 0 = nI kc0 := by rw [en_155, pk_un (by omega)]; exact e105
                          have e158 : n_155 6 = nI k7 := by rw [en_155, pk_un (by omega)]; exact e106
                          have e159 : n_155 (6 * i6 + 1771) = x10 := by rw [en_155, pk_un (by omega)]; exact e107
                          have e160 : n_155 (6 * i6 + 1770) = x9 + x11 := by rw [en_155, pk_un (by omega)]; exact e108
                          have e161 : n_155 (6 * i6 + 1772) = x109 := by rw [en_155, pk_un (by omega)]; exact ex109
                          have e162 : n_155 9 = x152 := by rw [en_155, pk_un (by omega)]; exact ex152
                          have e163 : n_155 (6 * i6 + 1773) = x154 + (nI 1) := by rw [en_155, pk_us]
                          refine pm_aloadn hG dX12_quarter_330 rfl ?_
                          refine pm_getf hG dX12_quarter_331 (flX12_7 _ rfl) rfl rfl ?_
                          refine pm_iloadn hG dX12_quarter_334 rfl ?_
                          refine pm_iconst (v := nI 3) hG dX12_quarter_335 (by decide) ?_
                          refine pm_iaddN (c := 6 * i6 + 1773) hG dX12_quarter_336 (by omega) ?_
                          refine pm_ialdN hG dX12_quarter_337 rfl (by decide) (by omega) ?_
                          refine pm_top (v := x154 + (nI 1)) e163 ?_
                          refine pm_iconst (v := nI 2) hG dX12_quarter_338 (by decide) ?_
                          refine pm_icmp_ne (tgt := 363) hG dX12_quarter_339 rfl (fun c164 => ?_) (fun c164 => ?_)
                          · refine pm_iincX (v := nI (i6 + 1)) (loc' := [some (.ref (B + 54)), some (.int (nI (i6 + 1))), some (.int (nI (6 * i6 + 1770))), some (.int (x9 + x11)), some (.int (x9 + x11))]) hG dX12_quarter_363 rfl (nI_1 _) (by decide) (pm_c1b rfl) rfl ?_
                            refine pm_goto (tgt := 180) hG dX12_quarter_366 rfl ?_
                            refine pm_fg 2 (loc' := [some (.ref (B + 54)), some (.int (nI (i6 + 1))), none, some (.int (x9 + x11)), some (.int (x9 + x11))]) rfl ?_
                            refine pm_fg 3 (loc' := [some (.ref (B + 54)), some (.int (nI (i6 + 1))), none, none, some (.int (x9 + x11))]) rfl ?_
                            refine pm_fg 4 (loc' := [some (.ref (B + 54)), some (.int (nI (i6 + 1))), none, none, none]) rfl ?_
                            exact ih6 n_155 (i6 + 1) hnn_155 hrn_155 (e156.trans (congrArg nI (by omega))) (e157.trans (congrArg nI (by omega))) (by omega) (by omega)
                          · refine pm_aloadn hG dX12_quarter_342 rfl ?_
                            refine pm_getf hG dX12_quarter_343 (flX12_7 _ rfl) rfl rfl ?_
                            refine pm_bipush (v := nI 20) hG dX12_quarter_346 (by decide) ?_
                            refine pm_iconst (v := nI 3) hG dX12_quarter_348 (by decide) ?_
                            refine pm_aloadn hG dX12_quarter_349 rfl ?_
                            refine pm_getf hG dX12_quarter_350 (flX12_7 _ rfl) rfl rfl ?_
                            refine pm_iloadn hG dX12_quarter_353 rfl ?_
                            refine pm_iconst (v := nI 4) hG dX12_quarter_354 (by decide) ?_
                            refine pm_iaddN (c := 6 * i6 + 1774) hG dX12_quarter_355 (by omega) ?_
                            refine pm_ialdN hG dX12_quarter_356 rfl (by decide) (by omega) ?_
                            obtain ⟨k165, hk165, ek165⟩ := KI.nat hnn_155 (show kd (6 * i6 + 1774) = (1, 10, false) from (kd_D (k := i6) (c := 4) (by omega) (by omega) (by decide)))
                            refine pm_top (v := nI k165) ek165 ?_
                            refine pm_imulN (c := 3 * k165) hG dX12_quarter_357 (by omega) ?_
                            refine pm_iaddN (c := 3 * k165 + 20) hG dX12_quarter_358 (by omega) ?_
                            refine pm_iconst (v := nI 2) hG dX12_quarter_359 (by decide) ?_
                            refine pm_iaddN (c := 3 * k165 + 22) hG dX12_quarter_360 (by omega) ?_
                            refine pm_iconst (v := nI 1) hG dX12_quarter_361 (by decide) ?_
                            refine pm_iastN hG dX12_quarter_362 rfl (by decide) (by omega) ?_
                            refine mdn_now (fun n_166 en_166 => ?_)
                            have hnn_166 := KI.w en_166 hnn_155 (okv_f (show kd (3 * k165 + 22) = (0, 0, false) from (kd_T (k := k165) (c := 2) (by omega) (by omega) (by decide))))
                            have hrn_166 := NRx.w en_166 hrn_155 (by rw [(show kd (3 * k165 + 22) = (0, 0, false) from (kd_T (k := k165) (c := 2) (by omega) (by omega) (by decide)))])
                            have e167 : n_166 8 = nI kc8 := by rw [en_166, pk_un (by omega)]; exact e156
                            have e168 : n_166 0 = nI kc0 := by rw [en_166, pk_un (by omega)]; exact e157
                            have e169 : n_166 6 = nI k7 := by rw [en_166, pk_un (by omega)]; exact e158
                            have e170 : n_166 (6 * i6 + 1771) = x10 := by rw [en_166, pk_un (by omega)]; exact e159
                            have e171 : n_166 (6 * i6 + 1770) = x9 + x11 := by rw [en_166, pk_un (by omega)]; exact e160
                            have e172 : n_166 (6 * i6 + 1772) = x109 := by rw [en_166, pk_un (by omega)]; exact e161
                            have e173 : n_166 9 = x152 := by rw [en_166, pk_un (by omega)]; exact e162
                            have e174 : n_166 (6 * i6 + 1773) = x154 + (nI 1) := by rw [en_166, pk_un (by omega)]; exact e163
                            have e175 : n_166 (6 * i6 + 1774) = nI k165 := by rw [en_166, pk_un (by omega)]; exact ek165
                            have e176 : n_166 (3 * k165 + 22) = nI 1 := by rw [en_166, pk_us]
                            refine pm_iincX (v := nI (i6 + 1)) (loc' := [some (.ref (B + 54)), some (.int (nI (i6 + 1))), some (.int (nI (6 * i6 + 1770))), some (.int (x9 + x11)), some (.int (x9 + x11))]) hG dX12_quarter_363 rfl (nI_1 _) (by decide) (pm_c1b rfl) rfl ?_
                            refine pm_goto (tgt := 180) hG dX12_quarter_366 rfl ?_
                            refine pm_fg 2 (loc' := [some (.ref (B + 54)), some (.int (nI (i6 + 1))), none, some (.int (x9 + x11)), some (.int (x9 + x11))]) rfl ?_
                            refine pm_fg 3 (loc' := [some (.ref (B + 54)), some (.int (nI (i6 + 1))), none, none, some (.int (x9 + x11))]) rfl ?_
                            refine pm_fg 4 (loc' := [some (.ref (B + 54)), some (.int (nI (i6 + 1))), none, none, none]) rfl ?_
                            exact ih6 n_166 (i6 + 1) hnn_166 hrn_166 (e167.trans (congrArg nI (by omega))) (e168.trans (congrArg nI (by omega))) (by omega) (by omega)
                        · refine pm_aloadn hG dX12_quarter_292 rfl ?_
                          refine pm_getf hG dX12_quarter_293 (flX12_7 _ rfl) rfl rfl ?_
                          refine pm_bipush (v := nI 9) hG dX12_quarter_296 (by decide) ?_
                          refine pm_dup2 hG dX12_quarter_298 rfl rfl ?_
                          refine pm_ialdN hG dX12_quarter_299 rfl (by decide) (by omega) ?_
                          refine pm_top (v := x152) ex152 ?_
                          refine pm_iloadi hG dX12_quarter_300 rfl ?_
                          refine pm_isub hG dX12_quarter_302 ?_
                          refine pm_iastN hG dX12_quarter_303 rfl (by decide) (by omega) ?_
                          refine mdn_now (fun n_177 en_177 => ?_)
                          have hnn_177 := KI.w en_177 hnn_103 (okv_f (show kd 9 = (0, 0, false) by decide))
                          have hrn_177 := NRx.w en_177 hrn_103 (by rw [(show kd 9 = (0, 0, false) by decide)])
                          have e178 : n_177 8 = nI kc8 := by rw [en_177, pk_un (by omega)]; exact e104
                          have e179 : n_177 0 = nI kc0 := by rw [en_177, pk_un (by omega)]; exact e105
                          have e180 : n_177 6 = nI k7 := by rw [en_177, pk_un (by omega)]; exact e106
                          have e181 : n_177 (6 * i6 + 1771) = x10 := by rw [en_177, pk_un (by omega)]; exact e107
                          have e182 : n_177 (6 * i6 + 1770) = x9 + x11 := by rw [en_177, pk_un (by omega)]; exact e108
                          have e183 : n_177 (6 * i6 + 1772) = x109 := by rw [en_177, pk_un (by omega)]; exact ex109
                          have e184 : n_177 9 = x152 - (x9 + x11) := by rw [en_177, pk_us]
                          refine pm_aloadn hG dX12_quarter_304 rfl ?_
                          refine pm_getf hG dX12_quarter_305 (flX12_7 _ rfl) rfl rfl ?_
                          refine pm_iloadn hG dX12_quarter_308 rfl ?_
                          refine pm_dup2 hG dX12_quarter_309 rfl rfl ?_
                          refine pm_ialdN hG dX12_quarter_310 rfl (by decide) (by omega) ?_
                          refine pm_top (v := x9 + x11) e182 ?_
                          refine pm_iloadi hG dX12_quarter_311 rfl ?_
                          refine pm_isub hG dX12_quarter_313 ?_
                          refine pm_iastN hG dX12_quarter_314 rfl (by decide) (by omega) ?_
                          refine mdn_now (fun n_185 en_185 => ?_)
                          have hnn_185 := KI.w en_185 hnn_177 (okv_f (show kd (6 * i6 + 1770) = (0, 0, false) from (kd_D (k := i6) (c := 0) (by omega) (by omega) (by decide))))
                          have hrn_185 := NRx.w en_185 hrn_177 (by rw [(show kd (6 * i6 + 1770) = (0, 0, false) from (kd_D (k := i6) (c := 0) (by omega) (by omega) (by decide)))])
                          have e186 : n_185 8 = nI kc8 := by rw [en_185, pk_un (by omega)]; exact e178
                          have e187 : n_185 0 = nI kc0 := by rw [en_185, pk_un (by omega)]; exact e179
                          have e188 : n_185 6 = nI k7 := by rw [en_185, pk_un (by omega)]; exact e180
                          have e189 : n_185 (6 * i6 + 1771) = x10 := by rw [en_185, pk_un (by omega)]; exact e181
                          have e190 : n_185 (6 * i6 + 1772) = x109 := by rw [en_185, pk_un (by omega)]; exact e183
                          have e191 : n_185 9 = x152 - (x9 + x11) := by rw [en_185, pk_un (by omega)]; exact e184
                          have e192 : n_185 (6 * i6 + 1770) = (x9 + x11) - (x9 + x11) := by rw [en_185, pk_us]
                          refine pm_goto (tgt := 363) hG dX12_quarter_315 rfl ?_
                          refine pm_iincX (v := nI (i6 + 1)) (loc' := [some (.ref (B + 54)), some (.int (nI (i6 + 1))), some (.int (nI (6 * i6 + 1770))), some (.int (x9 + x11)), some (.int (x9 + x11))]) hG dX12_quarter_363 rfl (nI_1 _) (by decide) (pm_c1b rfl) rfl ?_
                          refine pm_goto (tgt := 180) hG dX12_quarter_366 rfl ?_
                          refine pm_fg 2 (loc' := [some (.ref (B + 54)), some (.int (nI (i6 + 1))), none, some (.int (x9 + x11)), some (.int (x9 + x11))]) rfl ?_
                          refine pm_fg 3 (loc' := [some (.ref (B + 54)), some (.int (nI (i6 + 1))), none, none, some (.int (x9 + x11))]) rfl ?_
                          refine pm_fg 4 (loc' := [some (.ref (B + 54)), some (.int (nI (i6 + 1))), none, none, none]) rfl ?_
                          exact ih6 n_185 (i6 + 1) hnn_185 hrn_185 (e186.trans (congrArg nI (by omega))) (e187.trans (congrArg nI (by omega))) (by omega) (by omega)
              exact loop180_6 _ n_3 0 hnn_3 hrn_3 (kc3_8.trans (congrArg nI (by omega))) (kc3_0.trans (congrArg nI (by omega))) (by omega) (Nat.lt_succ_self _)
            · refine pm_aloadn hG dX12_quarter_113 rfl ?_
              refine pm_iloadn hG dX12_quarter_114 rfl ?_
              refine pm_bipush (v := nI 7) hG dX12_quarter_115 (by decide) ?_
              refine pm_callV (As := [.int (nI i3), .int (nI 7)]) (rest := []) hG hR dX12_quarter_117 (lkX12_72 _ rfl) okV_X12_man rfl rfl (m_man (d := 1) (e := 14 * i3 + 117) (by omega) (by omega) (by omega)) rfl rfl hdd (Nat.le_refl _) (Nat.le_refl _) (by decide) (pm_ki (fun v193 σ' cnt' hq => ?_))
              obtain ⟨rfl, rfl, rfl⟩ := hq
              refine pm_gen (fun x194 ex194 => ?_)
              refine pm_aloadn hG dX12_quarter_120 rfl ?_
              refine pm_iloadn hG dX12_quarter_121 rfl ?_
              refine pm_bipush (v := nI 8) hG dX12_quarter_122 (by decide) ?_
              refine pm_callV (As := [.int (nI i3), .int (nI 8)]) (rest := [.int x194]) hG hR dX12_quarter_124 (lkX12_72 _ rfl) okV_X12_man rfl rfl (m_man (d := 1) (e := 14 * i3 + 118) (by omega) (by omega) (by omega)) rfl rfl hdd (Nat.le_refl _) (Nat.le_refl _) (Nat.le_of_ble_eq_true rfl) (pm_ki (fun v195 σ' cnt' hq => ?_))
              obtain ⟨rfl, rfl, rfl⟩ := hq
              refine pm_gen (fun x196 ex196 => ?_)
              refine pm_icmp_ge (tgt := 140) hG dX12_quarter_127 rfl (fun c197 => ?_) (fun c197 => ?_)
              · refine pm_aloadn hG dX12_quarter_140 rfl ?_
                refine pm_iloadn hG dX12_quarter_141 rfl ?_
                refine pm_bipush (v := nI 8) hG dX12_quarter_142 (by decide) ?_
                refine pm_callV (As := [.int (nI i3), .int (nI 8)]) (rest := []) hG hR dX12_quarter_144 (lkX12_72 _ rfl) okV_X12_man rfl rfl (m_man (d := 1) (e := 14 * i3 + 118) (by omega) (by omega) (by omega)) rfl rfl hdd (Nat.le_refl _) (Nat.le_refl _) (by decide) (pm_ki (fun v198 σ' cnt' hq => ?_))
                obtain ⟨rfl, rfl, rfl⟩ := hq
                refine pm_top (v := x196) ex196 ?_
                refine pm_istoreXn (loc' := [some (.ref (B + 54)), some (.int (nI i3)), some (.int x196), none, none]) hG dX12_quarter_147 (by decide) (pm_c1b rfl) rfl ?_
                refine pm_aloadn hG dX12_quarter_148 rfl ?_
                refine pm_iloadn hG dX12_quarter_149 rfl ?_
                refine pm_bipush (v := nI 7) hG dX12_quarter_150 (by decide) ?_
                refine pm_aloadn hG dX12_quarter_152 rfl ?_
                refine pm_iloadn hG dX12_quarter_153 rfl ?_
                refine pm_bipush (v := nI 7) hG dX12_quarter_154 (by decide) ?_
                refine pm_callV (As := [.int (nI i3), .int (nI 7)]) (rest := [.int (nI 7), .int (nI i3), .ref (B + 54)]) hG hR dX12_quarter_156 (lkX12_72 _ rfl) okV_X12_man rfl rfl (m_man (d := 1) (e := 14 * i3 + 117) (by omega) (by omega) (by omega)) rfl rfl hdd (Nat.le_refl _) (Nat.le_refl _) (Nat.le_of_ble_eq_true rfl) (pm_ki (fun v199 σ' cnt' hq => ?_))
                obtain ⟨rfl, rfl, rfl⟩ := hq
                refine pm_top (v := x194) ex194 ?_
                refine pm_iloadn hG dX12_quarter_159 rfl ?_
                refine pm_isub hG dX12_quarter_160 ?_
                refine pm_callV (As := [.int (nI i3), .int (nI 7), .int (x194 - x196)]) (rest := []) hG hR dX12_quarter_161 (lkX12_97 _ rfl) okV_X12_sets rfl rfl (m_sets (d := 1) (e := 14 * i3 + 117) (by omega) (by omega) (by omega)) rfl rfl hdd (Nat.le_refl _) (Nat.le_refl _) (by decide) (pm_kv (fun σ' cnt' hq => ?_))
                obtain ⟨rfl, rfl⟩ := hq
                obtain ⟨n_200, en_200⟩ : ∃ f : Nat → Int32, f = upd n_3 (14 * i3 + 117) (x194 - x196) := ⟨_, rfl⟩
                rw [← en_200]
                have hnn_200 := KI.w en_200 hnn_3 (okv_f (show kd (14 * i3 + 117) = (0, 0, false) from (kd_P (k := i3) (c := 7) (by omega) (by omega) (by decide))))
                have hrn_200 := NRx.w en_200 hrn_3 (by rw [(show kd (14 * i3 + 117) = (0, 0, false) from (kd_P (k := i3) (c := 7) (by omega) (by omega) (by decide)))])
                have e201 : n_200 8 = nI kc8 := by rw [en_200, pk_un (by omega)]; exact kc3_8
                have e202 : n_200 0 = nI kc0 := by rw [en_200, pk_un (by omega)]; exact kc3_0
                have e203 : n_200 2 = nI k4 := by rw [en_200, pk_un (by omega)]; exact ek4
                have e204 : n_200 (14 * i3 + 118) = x196 := by rw [en_200, pk_un (by omega)]; exact ex196
                have e205 : n_200 (14 * i3 + 117) = x194 - x196 := by rw [en_200, pk_us]
                refine pm_aloadn hG dX12_quarter_164 rfl ?_
                refine pm_iloadn hG dX12_quarter_165 rfl ?_
                refine pm_bipush (v := nI 8) hG dX12_quarter_166 (by decide) ?_
                refine pm_iloadn hG dX12_quarter_168 rfl ?_
                refine pm_callV (As := [.int (nI i3), .int (nI 8), .int x196]) (rest := []) hG hR dX12_quarter_169 (lkX12_97 _ rfl) okV_X12_sets rfl rfl (m_sets (d := 1) (e := 14 * i3 + 118) (by omega) (by omega) (by omega)) rfl rfl hdd (Nat.le_refl _) (Nat.le_refl _) (by decide) (pm_kv (fun σ' cnt' hq => ?_))
                obtain ⟨rfl, rfl⟩ := hq
                obtain ⟨n_206, en_206⟩ : ∃ f : Nat → Int32, f = upd n_200 (14 * i3 + 118) x196 := ⟨_, rfl⟩
                rw [← en_206]
                have hnn_206 := KI.w en_206 hnn_200 (okv_f (show kd (14 * i3 + 118) = (0, 0, false) from (kd_P (k := i3) (c := 8) (by omega) (by omega) (by decide))))
                have hrn_206 := NRx.w en_206 hrn_200 (by rw [(show kd (14 * i3 + 118) = (0, 0, false) from (kd_P (k := i3) (c := 8) (by omega) (by omega) (by decide)))])
                have e207 : n_206 8 = nI kc8 := by rw [en_206, pk_un (by omega)]; exact e201
                have e208 : n_206 0 = nI kc0 := by rw [en_206, pk_un (by omega)]; exact e202
                have e209 : n_206 2 = nI k4 := by rw [en_206, pk_un (by omega)]; exact e203
                have e210 : n_206 (14 * i3 + 117) = x194 - x196 := by rw [en_206, pk_un (by omega)]; exact e205
                have e211 : n_206 (14 * i3 + 118) = x196 := by rw [en_206, pk_us]
                refine pm_iincX (v := nI (i3 + 1)) (loc' := [some (.ref (B + 54)), some (.int (nI (i3 + 1))), some (.int x196), none, none]) hG dX12_quarter_172 rfl (nI_1 _) (by decide) (pm_c1b rfl) rfl ?_
                refine pm_goto (tgt := 103) hG dX12_quarter_175 rfl ?_
                refine pm_fg 2 (loc' := [some (.ref (B + 54)), some (.int (nI (i3 + 1))), none, none, none]) rfl ?_
                exact ih3 n_206 (i3 + 1) hnn_206 hrn_206 (e207.trans (congrArg nI (by omega))) (e208.trans (congrArg nI (by omega))) (by omega) (by omega)
              · refine pm_aloadn hG dX12_quarter_130 rfl ?_
                refine pm_iloadn hG dX12_quarter_131 rfl ?_
                refine pm_bipush (v := nI 7) hG dX12_quarter_132 (by decide) ?_
                refine pm_callV (As := [.int (nI i3), .int (nI 7)]) (rest := []) hG hR dX12_quarter_134 (lkX12_72 _ rfl) okV_X12_man rfl rfl (m_man (d := 1) (e := 14 * i3 + 117) (by omega) (by omega) (by omega)) rfl rfl hdd (Nat.le_refl _) (Nat.le_refl _) (by decide) (pm_ki (fun v212 σ' cnt' hq => ?_))
                obtain ⟨rfl, rfl, rfl⟩ := hq
                refine pm_top (v := x194) ex194 ?_
                refine pm_goto (tgt := 147) hG dX12_quarter_137 rfl ?_
                refine pm_istoreXn (loc' := [some (.ref (B + 54)), some (.int (nI i3)), some (.int x194), none, none]) hG dX12_quarter_147 (by decide) (pm_c1b rfl) rfl ?_
                refine pm_aloadn hG dX12_quarter_148 rfl ?_
                refine pm_iloadn hG dX12_quarter_149 rfl ?_
                refine pm_bipush (v := nI 7) hG dX12_quarter_150 (by decide) ?_
                refine pm_aloadn hG dX12_quarter_152 rfl ?_
                refine pm_iloadn hG dX12_quarter_153 rfl ?_
                refine pm_bipush (v := nI 7) hG dX12_quarter_154 (by decide) ?_
                refine pm_callV (As := [.int (nI i3), .int (nI 7)]) (rest := [.int (nI 7), .int (nI i3), .ref (B + 54)]) hG hR dX12_quarter_156 (lkX12_72 _ rfl) okV_X12_man rfl rfl (m_man (d := 1) (e := 14 * i3 + 117) (by omega) (by omega) (by omega)) rfl rfl hdd (Nat.le_refl _) (Nat.le_refl _) (Nat.le_of_ble_eq_true rfl) (pm_ki (fun v213 σ' cnt' hq => ?_))
                obtain ⟨rfl, rfl, rfl⟩ := hq
                refine pm_top (v := x194) ex194 ?_
                refine pm_iloadn hG dX12_quarter_159 rfl ?_
                refine pm_isub hG dX12_quarter_160 ?_
                refine pm_callV (As := [.int (nI i3), .int (nI 7), .int (x194 - x194)]) (rest := []) hG hR dX12_quarter_161 (lkX12_97 _ rfl) okV_X12_sets rfl rfl (m_sets (d := 1) (e := 14 * i3 + 117) (by omega) (by omega) (by omega)) rfl rfl hdd (Nat.le_refl _) (Nat.le_refl _) (by decide) (pm_kv (fun σ' cnt' hq => ?_))
                obtain ⟨rfl, rfl⟩ := hq
                obtain ⟨n_214, en_214⟩ : ∃ f : Nat → Int32, f = upd n_3 (14 * i3 + 117) (x194 - x194) := ⟨_, rfl⟩
                rw [← en_214]
                have hnn_214 := KI.w en_214 hnn_3 (okv_f (show kd (14 * i3 + 117) = (0, 0, false) from (kd_P (k := i3) (c := 7) (by omega) (by omega) (by decide))))
                have hrn_214 := NRx.w en_214 hrn_3 (by rw [(show kd (14 * i3 + 117) = (0, 0, false) from (kd_P (k := i3) (c := 7) (by omega) (by omega) (by decide)))])
                have e215 : n_214 8 = nI kc8 := by rw [en_214, pk_un (by omega)]; exact kc3_8
                have e216 : n_214 0 = nI kc0 := by rw [en_214, pk_un (by omega)]; exact kc3_0
                have e217 : n_214 2 = nI k4 := by rw [en_214, pk_un (by omega)]; exact ek4
                have e218 : n_214 (14 * i3 + 118) = x196 := by rw [en_214, pk_un (by omega)]; exact ex196
                have e219 : n_214 (14 * i3 + 117) = x194 - x194 := by rw [en_214, pk_us]
                refine pm_aloadn hG dX12_quarter_164 rfl ?_
                refine pm_iloadn hG dX12_quarter_165 rfl ?_
                refine pm_bipush (v := nI 8) hG dX12_quarter_166 (by decide) ?_
                refine pm_iloadn hG dX12_quarter_168 rfl ?_
                refine pm_callV (As := [.int (nI i3), .int (nI 8), .int x194]) (rest := []) hG hR dX12_quarter_169 (lkX12_97 _ rfl) okV_X12_sets rfl rfl (m_sets (d := 1) (e := 14 * i3 + 118) (by omega) (by omega) (by omega)) rfl rfl hdd (Nat.le_refl _) (Nat.le_refl _) (by decide) (pm_kv (fun σ' cnt' hq => ?_))
                obtain ⟨rfl, rfl⟩ := hq
                obtain ⟨n_220, en_220⟩ : ∃ f : Nat → Int32, f = upd n_214 (14 * i3 + 118) x194 := ⟨_, rfl⟩
                rw [← en_220]
                have hnn_220 := KI.w en_220 hnn_214 (okv_f (show kd (14 * i3 + 118) = (0, 0, false) from (kd_P (k := i3) (c := 8) (by omega) (by omega) (by decide))))
                have hrn_220 := NRx.w en_220 hrn_214 (by rw [(show kd (14 * i3 + 118) = (0, 0, false) from (kd_P (k := i3) (c := 8) (by omega) (by omega) (by decide)))])
                have e221 : n_220 8 = nI kc8 := by rw [en_220, pk_un (by omega)]; exact e215
                have e222 : n_220 0 = nI kc0 := by rw [en_220, pk_un (by omega)]; exact e216
                have e223 : n_220 2 = nI k4 := by rw [en_220, pk_un (by omega)]; exact e217
                have e224 : n_220 (14 * i3 + 117) = x194 - x194 := by rw [en_220, pk_un (by omega)]; exact e219
                have e225 : n_220 (14 * i3 + 118) = x194 := by rw [en_220, pk_us]
                refine pm_iincX (v := nI (i3 + 1)) (loc' := [some (.ref (B + 54)), some (.int (nI (i3 + 1))), some (.int x194), none, none]) hG dX12_quarter_172 rfl (nI_1 _) (by decide) (pm_c1b rfl) rfl ?_
                refine pm_goto (tgt := 103) hG dX12_quarter_175 rfl ?_
                refine pm_fg 2 (loc' := [some (.ref (B + 54)), some (.int (nI (i3 + 1))), none, none, none]) rfl ?_
                exact ih3 n_220 (i3 + 1) hnn_220 hrn_220 (e221.trans (congrArg nI (by omega))) (e222.trans (congrArg nI (by omega))) (by omega) (by omega)
        exact loop103_3 _ n_1 0 hnn_1 hrn_1 (kc1_8.trans (congrArg nI (by omega))) (kc1_0.trans (congrArg nI (by omega))) (by omega) (Nat.lt_succ_self _)
      · refine pm_bipush (v := nI 20) hG dX12_quarter_12 (by decide) ?_
        refine pm_iconst (v := nI 3) hG dX12_quarter_14 (by decide) ?_
        refine pm_iloadn hG dX12_quarter_15 rfl ?_
        refine pm_imulN (c := 3 * i1) hG dX12_quarter_16 (by omega) ?_
        refine pm_iaddN (c := 3 * i1 + 20) hG dX12_quarter_17 (by omega) ?_
        refine pm_istoreXn (loc' := [some (.ref (B + 54)), some (.int (nI i1)), some (.int (nI (3 * i1 + 20))), none, none]) hG dX12_quarter_18 (by decide) (pm_c1b rfl) rfl ?_
        refine pm_aloadn hG dX12_quarter_19 rfl ?_
        refine pm_getf hG dX12_quarter_20 (flX12_7 _ rfl) rfl rfl ?_
        refine pm_iloadn hG dX12_quarter_23 rfl ?_
        refine pm_iconst (v := nI 1) hG dX12_quarter_24 (by decide) ?_
        refine pm_iaddN (c := 3 * i1 + 21) hG dX12_quarter_25 (by omega) ?_
        refine pm_ialdN hG dX12_quarter_26 rfl (by decide) (by omega) ?_
        rcases KI.opt hnn_1 (show kd (3 * i1 + 21) = (2, 20, false) from (kd_T (k := i1) (c := 1) (by omega) (by omega) (by decide))) with ek226 | ⟨k226, hk226, ek226⟩
        · refine pm_top (v := (-1)) ek226 ?_
          refine pm_istoreXn (loc' := [some (.ref (B + 54)), some (.int (nI i1)), some (.int (nI (3 * i1 + 20))), some (.int (-1)), none]) hG dX12_quarter_27 (by decide) (pm_c1b rfl) rfl ?_
          refine pm_aloadn hG dX12_quarter_28 rfl ?_
          refine pm_getf hG dX12_quarter_29 (flX12_7 _ rfl) rfl rfl ?_
          refine pm_iloadn hG dX12_quarter_32 rfl ?_
          refine pm_iconst (v := nI 2) hG dX12_quarter_33 (by decide) ?_
          refine pm_iaddN (c := 3 * i1 + 22) hG dX12_quarter_34 (by omega) ?_
          refine pm_ialdN hG dX12_quarter_35 rfl (by decide) (by omega) ?_
          refine pm_gen (fun x227 ex227 => ?_)
          refine pm_iconst (v := nI 1) hG dX12_quarter_36 (by decide) ?_
          refine pm_icmp_ne (tgt := 43) hG dX12_quarter_37 rfl (fun c228 => ?_) (fun c228 => ?_)
          · refine pm_iloadn hG dX12_quarter_43 rfl ?_
            refine pm_if_lt (tgt := 79) hG dX12_quarter_44 rfl (fun _ => ?_) (fun q => absurd q (by decide))
            refine pm_aloadn hG dX12_quarter_79 rfl ?_
            refine pm_getf hG dX12_quarter_80 (flX12_7 _ rfl) rfl rfl ?_
            refine pm_bipush (v := nI 9) hG dX12_quarter_83 (by decide) ?_
            refine pm_dup2 hG dX12_quarter_85 rfl rfl ?_
            refine pm_ialdN hG dX12_quarter_86 rfl (by decide) (by omega) ?_
            refine pm_gen (fun x229 ex229 => ?_)
            refine pm_aloadn hG dX12_quarter_87 rfl ?_
            refine pm_getf hG dX12_quarter_88 (flX12_7 _ rfl) rfl rfl ?_
            refine pm_iloadn hG dX12_quarter_91 rfl ?_
            refine pm_ialdN hG dX12_quarter_92 rfl (by decide) (by omega) ?_
            refine pm_gen (fun x230 ex230 => ?_)
            refine pm_iadd hG dX12_quarter_93 ?_
            refine pm_iastN hG dX12_quarter_94 rfl (by decide) (by omega) ?_
            refine mdn_now (fun n_231 en_231 => ?_)
            have hnn_231 := KI.w en_231 hnn_1 (okv_f (show kd 9 = (0, 0, false) by decide))
            have hrn_231 := NRx.w en_231 hrn_1 (by rw [(show kd 9 = (0, 0, false) by decide)])
            have e232 : n_231 8 = nI kc8 := by rw [en_231, pk_un (by omega)]; exact kc1_8
            have e233 : n_231 0 = nI kc0 := by rw [en_231, pk_un (by omega)]; exact kc1_0
            have e234 : n_231 (3 * i1 + 21) = (-1) := by rw [en_231, pk_un (by omega)]; exact ek226
            have e235 : n_231 (3 * i1 + 22) = x227 := by rw [en_231, pk_un (by omega)]; exact ex227
            have e236 : n_231 (3 * i1 + 20) = x230 := by rw [en_231, pk_un (by omega)]; exact ex230
            have e237 : n_231 9 = x229 + x230 := by rw [en_231, pk_us]
            refine pm_iincX (v := nI (i1 + 1)) (loc' := [some (.ref (B + 54)), some (.int (nI (i1 + 1))), some (.int (nI (3 * i1 + 20))), some (.int (-1)), none]) hG dX12_quarter_95 rfl (nI_1 _) (by decide) (pm_c1b rfl) rfl ?_
            refine pm_goto (tgt := 2) hG dX12_quarter_98 rfl ?_
            refine pm_fg 2 (loc' := [some (.ref (B + 54)), some (.int (nI (i1 + 1))), none, some (.int (-1)), none]) rfl ?_
            refine pm_fg 3 (loc' := [some (.ref (B + 54)), some (.int (nI (i1 + 1))), none, none, none]) rfl ?_
            exact ih1 n_231 (i1 + 1) hnn_231 hrn_231 (e232.trans (congrArg nI (by omega))) (e233.trans (congrArg nI (by omega))) (by omega) (by omega)
          · refine pm_goto (tgt := 95) hG dX12_quarter_40 rfl ?_
            refine pm_iincX (v := nI (i1 + 1)) (loc' := [some (.ref (B + 54)), some (.int (nI (i1 + 1))), some (.int (nI (3 * i1 + 20))), some (.int (-1)), none]) hG dX12_quarter_95 rfl (nI_1 _) (by decide) (pm_c1b rfl) rfl ?_
            refine pm_goto (tgt := 2) hG dX12_quarter_98 rfl ?_
            refine pm_fg 2 (loc' := [some (.ref (B + 54)), some (.int (nI (i1 + 1))), none, some (.int (-1)), none]) rfl ?_
            refine pm_fg 3 (loc' := [some (.ref (B + 54)), some (.int (nI (i1 + 1))), none, none, none]) rfl ?_
            exact ih1 n_1 (i1 + 1) hnn_1 hrn_1 (kc1_8.trans (congrArg nI (by omega))) (kc1_0.trans (congrArg nI (by omega))) (by omega) (by omega)
        · refine pm_top (v := nI k226) ek226 ?_
          refine pm_istoreXn (loc' := [some (.ref (B + 54)), some (.int (nI i1)), some (.int (nI (3 * i1 + 20))), some (.int (nI k226)), none]) hG dX12_quarter_27 (by decide) (pm_c1b rfl) rfl ?_
          refine pm_aloadn hG dX12_quarter_28 rfl ?_
          refine pm_getf hG dX12_quarter_29 (flX12_7 _ rfl) rfl rfl ?_
          refine pm_iloadn hG dX12_quarter_32 rfl ?_
          refine pm_iconst (v := nI 2) hG dX12_quarter_33 (by decide) ?_
          refine pm_iaddN (c := 3 * i1 + 22) hG dX12_quarter_34 (by omega) ?_
          refine pm_ialdN hG dX12_quarter_35 rfl (by decide) (by omega) ?_
          refine pm_gen (fun x238 ex238 => ?_)
          refine pm_iconst (v := nI 1) hG dX12_quarter_36 (by decide) ?_
          refine pm_icmp_ne (tgt := 43) hG dX12_quarter_37 rfl (fun c239 => ?_) (fun c239 => ?_)
          · refine pm_iloadn hG dX12_quarter_43 rfl ?_
            refine pm_ifN_lt hG dX12_quarter_44 rfl (by omega) ?_
            refine pm_aloadn hG dX12_quarter_47 rfl ?_
            refine pm_iloadn hG dX12_quarter_48 rfl ?_
            rcases KI.opt hnn_1 (show kd (14 * k226 + 119) = (2, 2001, false) from (kd_P (k := k226) (c := 9) (by omega) (by omega) (by decide))) with ek240 | ⟨k240, hk240, ek240⟩
            · refine pm_callV (As := [.int (nI k226)]) (rest := []) hG hR dX12_quarter_49 (lkX12_101 _ rfl) okV_X12_lives rfl rfl (m_lives1 (d := 1) (by decide) (by omega) (by omega : 14 * k226 + 119 = 14 * k226 + 119) ek240) rfl rfl hdd (Nat.le_refl _) (Nat.le_refl _) (by decide) (pm_ki (fun v241 σ' cnt' hq => ?_))
              obtain ⟨rfl, rfl, rfl⟩ := hq
              refine pm_ifN_eq (tgt := 79) hG dX12_quarter_52 rfl (by omega) (fun q => absurd q (by omega)) (fun _ => ?_)
              refine pm_aloadn hG dX12_quarter_55 rfl ?_
              refine pm_iloadn hG dX12_quarter_56 rfl ?_
              refine pm_bipush (v := nI 7) hG dX12_quarter_57 (by decide) ?_
              refine pm_aloadn hG dX12_quarter_59 rfl ?_
              refine pm_iloadn hG dX12_quarter_60 rfl ?_
              refine pm_bipush (v := nI 7) hG dX12_quarter_61 (by decide) ?_
              refine pm_callV (As := [.int (nI k226), .int (nI 7)]) (rest := [.int (nI 7), .int (nI k226), .ref (B + 54)]) hG hR dX12_quarter_63 (lkX12_72 _ rfl) okV_X12_man rfl rfl (m_man (d := 1) (e := 14 * k226 + 117) (by omega) (by omega) (by omega)) rfl rfl hdd (Nat.le_refl _) (Nat.le_refl _) (Nat.le_of_ble_eq_true rfl) (pm_ki (fun v242 σ' cnt' hq => ?_))
              obtain ⟨rfl, rfl, rfl⟩ := hq
              refine pm_gen (fun x243 ex243 => ?_)
              refine pm_aloadn hG dX12_quarter_66 rfl ?_
              refine pm_getf hG dX12_quarter_67 (flX12_7 _ rfl) rfl rfl ?_
              refine pm_iloadn hG dX12_quarter_70 rfl ?_
              refine pm_ialdN hG dX12_quarter_71 rfl (by decide) (by omega) ?_
              refine pm_gen (fun x244 ex244 => ?_)
              refine pm_iadd hG dX12_quarter_72 ?_
              refine pm_callV (As := [.int (nI k226), .int (nI 7), .int (x243 + x244)]) (rest := []) hG hR dX12_quarter_73 (lkX12_97 _ rfl) okV_X12_sets rfl rfl (m_sets (d := 1) (e := 14 * k226 + 117) (by omega) (by omega) (by omega)) rfl rfl hdd (Nat.le_refl _) (Nat.le_refl _) (by decide) (pm_kv (fun σ' cnt' hq => ?_))
              obtain ⟨rfl, rfl⟩ := hq
              obtain ⟨n_245, en_245⟩ : ∃ f : Nat → Int32, f = upd n_1 (14 * k226 + 117) (x243 + x244) := ⟨_, rfl⟩
              rw [← en_245]
              have hnn_245 := KI.w en_245 hnn_1 (okv_f (show kd (14 * k226 + 117) = (0, 0, false) from (kd_P (k := k226) (c := 7) (by omega) (by omega) (by decide))))
              have hrn_245 := NRx.w en_245 hrn_1 (by rw [(show kd (14 * k226 + 117) = (0, 0, false) from (kd_P (k := k226) (c := 7) (by omega) (by omega) (by decide)))])
              have e246 : n_245 8 = nI kc8 := by rw [en_245, pk_un (by omega)]; exact kc1_8
              have e247 : n_245 0 = nI kc0 := by rw [en_245, pk_un (by omega)]; exact kc1_0
              have e248 : n_245 (3 * i1 + 21) = nI k226 := by rw [en_245, pk_un (by omega)]; exact ek226
              have e249 : n_245 (3 * i1 + 22) = x238 := by rw [en_245, pk_un (by omega)]; exact ex238
              have e250 : n_245 (14 * k226 + 119) = (-1) := by rw [en_245, pk_un (by omega)]; exact ek240
              have e251 : n_245 (3 * i1 + 20) = x244 := by rw [en_245, pk_un (by omega)]; exact ex244
              have e252 : n_245 (14 * k226 + 117) = x243 + x244 := by rw [en_245, pk_us]
              refine pm_goto (tgt := 95) hG dX12_quarter_76 rfl ?_
              refine pm_iincX (v := nI (i1 + 1)) (loc' := [some (.ref (B + 54)), some (.int (nI (i1 + 1))), some (.int (nI (3 * i1 + 20))), some (.int (nI k226)), none]) hG dX12_quarter_95 rfl (nI_1 _) (by decide) (pm_c1b rfl) rfl ?_
              refine pm_goto (tgt := 2) hG dX12_quarter_98 rfl ?_
              refine pm_fg 2 (loc' := [some (.ref (B + 54)), some (.int (nI (i1 + 1))), none, some (.int (nI k226)), none]) rfl ?_
              refine pm_fg 3 (loc' := [some (.ref (B + 54)), some (.int (nI (i1 + 1))), none, none, none]) rfl ?_
              exact ih1 n_245 (i1 + 1) hnn_245 hrn_245 (e246.trans (congrArg nI (by omega))) (e247.trans (congrArg nI (by omega))) (by omega) (by omega)
            · refine pm_callV (As := [.int (nI k226)]) (rest := []) hG hR dX12_quarter_49 (lkX12_101 _ rfl) okV_X12_lives rfl rfl (m_lives0 (d := 1) (by decide) (by omega) (by omega : 14 * k226 + 119 = 14 * k226 + 119) ek240 (by omega)) rfl rfl hdd (Nat.le_refl _) (Nat.le_refl _) (by decide) (pm_ki (fun v253 σ' cnt' hq => ?_))
              obtain ⟨rfl, rfl, rfl⟩ := hq
              refine pm_ifN_eq (tgt := 79) hG dX12_quarter_52 rfl (by omega) (fun _ => ?_) (fun q => absurd q (by omega))
              refine pm_aloadn hG dX12_quarter_79 rfl ?_
              refine pm_getf hG dX12_quarter_80 (flX12_7 _ rfl) rfl rfl ?_
              refine pm_bipush (v := nI 9) hG dX12_quarter_83 (by decide) ?_
              refine pm_dup2 hG dX12_quarter_85 rfl rfl ?_
              refine pm_ialdN hG dX12_quarter_86 rfl (by decide) (by omega) ?_
              refine pm_gen (fun x254 ex254 => ?_)
              refine pm_aloadn hG dX12_quarter_87 rfl ?_
              refine pm_getf hG dX12_quarter_88 (flX12_7 _ rfl) rfl rfl ?_
              refine pm_iloadn hG dX12_quarter_91 rfl ?_
              refine pm_ialdN hG dX12_quarter_92 rfl (by decide) (by omega) ?_
              refine pm_gen (fun x255 ex255 => ?_)
              refine pm_iadd hG dX12_quarter_93 ?_
              refine pm_iastN hG dX12_quarter_94 rfl (by decide) (by omega) ?_
              refine mdn_now (fun n_256 en_256 => ?_)
              have hnn_256 := KI.w en_256 hnn_1 (okv_f (show kd 9 = (0, 0, false) by decide))
              have hrn_256 := NRx.w en_256 hrn_1 (by rw [(show kd 9 = (0, 0, false) by decide)])
              have e257 : n_256 8 = nI kc8 := by rw [en_256, pk_un (by omega)]; exact kc1_8
              have e258 : n_256 0 = nI kc0 := by rw [en_256, pk_un (by omega)]; exact kc1_0
              have e259 : n_256 (3 * i1 + 21) = nI k226 := by rw [en_256, pk_un (by omega)]; exact ek226
              have e260 : n_256 (3 * i1 + 22) = x238 := by rw [en_256, pk_un (by omega)]; exact ex238
              have e261 : n_256 (14 * k226 + 119) = nI k240 := by rw [en_256, pk_un (by omega)]; exact ek240
              have e262 : n_256 (3 * i1 + 20) = x255 := by rw [en_256, pk_un (by omega)]; exact ex255
              have e263 : n_256 9 = x254 + x255 := by rw [en_256, pk_us]
              refine pm_iincX (v := nI (i1 + 1)) (loc' := [some (.ref (B + 54)), some (.int (nI (i1 + 1))), some (.int (nI (3 * i1 + 20))), some (.int (nI k226)), none]) hG dX12_quarter_95 rfl (nI_1 _) (by decide) (pm_c1b rfl) rfl ?_
              refine pm_goto (tgt := 2) hG dX12_quarter_98 rfl ?_
              refine pm_fg 2 (loc' := [some (.ref (B + 54)), some (.int (nI (i1 + 1))), none, some (.int (nI k226)), none]) rfl ?_
              refine pm_fg 3 (loc' := [some (.ref (B + 54)), some (.int (nI (i1 + 1))), none, none, none]) rfl ?_
              exact ih1 n_256 (i1 + 1) hnn_256 hrn_256 (e257.trans (congrArg nI (by omega))) (e258.trans (congrArg nI (by omega))) (by omega) (by omega)
          · refine pm_goto (tgt := 95) hG dX12_quarter_40 rfl ?_
            refine pm_iincX (v := nI (i1 + 1)) (loc' := [some (.ref (B + 54)), some (.int (nI (i1 + 1))), some (.int (nI (3 * i1 + 20))), some (.int (nI k226)), none]) hG dX12_quarter_95 rfl (nI_1 _) (by decide) (pm_c1b rfl) rfl ?_
            refine pm_goto (tgt := 2) hG dX12_quarter_98 rfl ?_
            refine pm_fg 2 (loc' := [some (.ref (B + 54)), some (.int (nI (i1 + 1))), none, some (.int (nI k226)), none]) rfl ?_
            refine pm_fg 3 (loc' := [some (.ref (B + 54)), some (.int (nI (i1 + 1))), none, none, none]) rfl ?_
            exact ih1 n_1 (i1 + 1) hnn_1 hrn_1 (kc1_8.trans (congrArg nI (by omega))) (kc1_0.trans (congrArg nI (by omega))) (by omega) (by omega)
  exact loop2_1 _ n 0 hn hr (ekc8.trans (congrArg nI (by omega))) (ekc0.trans (congrArg nI (by omega))) (by omega) (Nat.lt_succ_self _)
