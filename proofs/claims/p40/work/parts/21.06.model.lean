set_option maxRecDepth 100000 in
set_option maxHeartbeats 4000000 in
theorem m_quarter {d B cnt p0 t0 : Nat} {σ : pm_S} {I : Nat → Int32} {A : Nat → Nat → Int32} {n k z : Nat → Int32} {ac wt pl im : Int32} (hdd : 2 ≤ d) (hn : KI n) (hr : NR n) (hz : SZ z)  : pm_met mX12_quarter d 0 0 B [.ref (B + 54)] cnt (pm_mid σ (md_L B I A n k z ac wt pl (nI p0) (nI t0) im)) (pm_Qv (fun σ' cnt' => (∃ (n' : Nat → Int32), σ' = pm_mid σ (md_L B I A n' k z ac wt pl (nI p0) (nI t0) im) ∧ KI n' ∧ NR n' ∧ n' 8 = n 8 ∧ KS n' n) ∧ cnt = cnt')) := by
  obtain ⟨kc8, hkc8, ekc8⟩ := KI.nat hn (show kd 8 = (1, 2001, false) by decide)
  refine pm_enter 4 (by decide) (Nat.le_of_ble_eq_true rfl) rfl (fun G hG hR hF => ?_)
  refine pm_iconst (v := nI 0) hG dX12_quarter_0 (by decide) ?_
  refine pm_istoreXn (loc' := [some (.ref (B + 54)), some (.int (nI 0)), none, none, none]) hG dX12_quarter_1 (by decide) (pm_c1b rfl) rfl ?_
  have loop2_1 : ∀ (m1 : Nat) (n_1 : Nat → Int32) (i1 : Nat), KI n_1 → KS n_1 n → NRx 40 n_1 → n_1 8 = nI kc8 → i1 ≤ 10 → 10 - i1 < m1 → pm_wp mX12_quarter G B 2 [some (.ref (B + 54)), some (.int (nI i1)), none, none, none] [] 0 0 cnt (pm_mid σ (md_L B I A n_1 k z ac wt pl (nI p0) (nI t0) im)) := by
    intro m1
    induction m1 with
    | zero => intro n_1 i1 _ _ _ _ _ hm; exact absurd hm (Nat.not_lt_zero _)
    | succ m1 ih1 =>
      intro n_1 i1 hnn_1 ksn_1 hrn_1 kc1_8 hi1 hm1
      refine pm_iloadn hG dX12_quarter_2 rfl ?_
      refine pm_aloadn hG dX12_quarter_3 rfl ?_
      refine pm_getf hG dX12_quarter_4 (flX12_7 _ rfl) rfl rfl ?_
      refine pm_iconst (v := nI 0) hG dX12_quarter_7 (by decide) ?_
      refine pm_ialdN hG dX12_quarter_8 rfl (by decide) (by omega) ?_
      obtain ⟨k2, hk2, ek2⟩ := KI.nat hnn_1 (show kd 0 = (1, 11, true) by decide)
      refine pm_top (v := nI k2) ek2 ?_
      refine pm_icmpN_ge (tgt := 101) hG dX12_quarter_9 rfl (by omega) (by omega) (fun c3 => ?_) (fun c3 => ?_)
      · refine pm_iconst (v := nI 0) hG dX12_quarter_101 (by decide) ?_
        refine pm_istoreXn (loc' := [some (.ref (B + 54)), some (.int (nI 0)), none, none, none]) hG dX12_quarter_102 (by decide) (pm_c1b rfl) rfl ?_
        have loop103_4 : ∀ (m4 : Nat) (n_4 : Nat → Int32) (i4 : Nat), KI n_4 → KS n_4 n → NRx 40 n_4 → n_4 8 = nI kc8 → i4 ≤ 20 → 20 - i4 < m4 → pm_wp mX12_quarter G B 103 [some (.ref (B + 54)), some (.int (nI i4)), none, none, none] [] 0 0 cnt (pm_mid σ (md_L B I A n_4 k z ac wt pl (nI p0) (nI t0) im)) := by
          intro m4
          induction m4 with
          | zero => intro n_4 i4 _ _ _ _ _ hm; exact absurd hm (Nat.not_lt_zero _)
          | succ m4 ih4 =>
            intro n_4 i4 hnn_4 ksn_4 hrn_4 kc4_8 hi4 hm4
            refine pm_iloadn hG dX12_quarter_103 rfl ?_
            refine pm_aloadn hG dX12_quarter_104 rfl ?_
            refine pm_getf hG dX12_quarter_105 (flX12_7 _ rfl) rfl rfl ?_
            refine pm_iconst (v := nI 2) hG dX12_quarter_108 (by decide) ?_
            refine pm_ialdN hG dX12_quarter_109 rfl (by decide) (by omega) ?_
            obtain ⟨k5, hk5, ek5⟩ := KI.nat hnn_4 (show kd 2 = (1, 21, true) by decide)
            refine pm_top (v := nI k5) ek5 ?_
            refine pm_icmpN_ge (tgt := 178) hG dX12_quarter_110 rfl (by omega) (by omega) (fun c6 => ?_) (fun c6 => ?_)
            · refine pm_iconst (v := nI 0) hG dX12_quarter_178 (by decide) ?_
              refine pm_istoreXn (loc' := [some (.ref (B + 54)), some (.int (nI 0)), none, none, none]) hG dX12_quarter_179 (by decide) (pm_c1b rfl) rfl ?_
              have loop180_7 : ∀ (m7 : Nat) (n_7 : Nat → Int32) (i7 : Nat), KI n_7 → KS n_7 n → NRx 40 n_7 → n_7 8 = nI kc8 → i7 ≤ 6 → 6 - i7 < m7 → pm_wp mX12_quarter G B 180 [some (.ref (B + 54)), some (.int (nI i7)), none, none, none] [] 0 0 cnt (pm_mid σ (md_L B I A n_7 k z ac wt pl (nI p0) (nI t0) im)) := by
                intro m7
                induction m7 with
                | zero => intro n_7 i7 _ _ _ _ _ hm; exact absurd hm (Nat.not_lt_zero _)
                | succ m7 ih7 =>
                  intro n_7 i7 hnn_7 ksn_7 hrn_7 kc7_8 hi7 hm7
                  refine pm_iloadn hG dX12_quarter_180 rfl ?_
                  refine pm_aloadn hG dX12_quarter_181 rfl ?_
                  refine pm_getf hG dX12_quarter_182 (flX12_7 _ rfl) rfl rfl ?_
                  refine pm_bipush (v := nI 6) hG dX12_quarter_185 (by decide) ?_
                  refine pm_ialdN hG dX12_quarter_187 rfl (by decide) (by omega) ?_
                  obtain ⟨k8, hk8, ek8⟩ := KI.nat hnn_7 (show kd 6 = (1, 7, false) by decide)
                  refine pm_top (v := nI k8) ek8 ?_
                  refine pm_icmpN_ge (tgt := 369) hG dX12_quarter_188 rfl (by omega) (by omega) (fun c9 => ?_) (fun c9 => ?_)
                  · exact pm_vret hG hF dX12_quarter_369 rfl (Nat.le_refl _) (Nat.le_refl _) ⟨rfl, ⟨_, rfl, hnn_7, hrn_7, kc7_8.trans ekc8.symm, ksn_7⟩, rfl⟩
                  · refine pm_sipush (v := nI 1770) hG dX12_quarter_191 (by decide) ?_
                    refine pm_bipush (v := nI 6) hG dX12_quarter_194 (by decide) ?_
                    refine pm_iloadn hG dX12_quarter_196 rfl ?_
                    refine pm_imulN (c := 6 * i7) hG dX12_quarter_197 (by omega) ?_
                    refine pm_iaddN (c := 6 * i7 + 1770) hG dX12_quarter_198 (by omega) ?_
                    refine pm_istoreXn (loc' := [some (.ref (B + 54)), some (.int (nI i7)), some (.int (nI (6 * i7 + 1770))), none, none]) hG dX12_quarter_199 (by decide) (pm_c1b rfl) rfl ?_
                    refine pm_aloadn hG dX12_quarter_200 rfl ?_
                    refine pm_getf hG dX12_quarter_201 (flX12_7 _ rfl) rfl rfl ?_
                    refine pm_iloadn hG dX12_quarter_204 rfl ?_
                    refine pm_ialdN hG dX12_quarter_205 rfl (by decide) (by omega) ?_
                    refine pm_gen (fun x10 ex10 => ?_)
                    refine pm_aloadn hG dX12_quarter_206 rfl ?_
                    refine pm_getf hG dX12_quarter_207 (flX12_7 _ rfl) rfl rfl ?_
                    refine pm_iloadn hG dX12_quarter_210 rfl ?_
                    refine pm_ialdN hG dX12_quarter_211 rfl (by decide) (by omega) ?_
                    refine pm_top (v := x10) ex10 ?_
                    refine pm_aloadn hG dX12_quarter_212 rfl ?_
                    refine pm_getf hG dX12_quarter_213 (flX12_7 _ rfl) rfl rfl ?_
                    refine pm_iloadn hG dX12_quarter_216 rfl ?_
                    refine pm_iconst (v := nI 1) hG dX12_quarter_217 (by decide) ?_
                    refine pm_iaddN (c := 6 * i7 + 1771) hG dX12_quarter_218 (by omega) ?_
                    refine pm_ialdN hG dX12_quarter_219 rfl (by decide) (by omega) ?_
                    refine pm_gen (fun x11 ex11 => ?_)
                    refine pm_imul hG dX12_quarter_220 ?_
                    refine pm_bipush (v := nI 100) hG dX12_quarter_221 (by decide) ?_
                    refine pm_idiv hG dX12_quarter_223 (by decide) ?_
                    refine pm_any (fun x12 => ?_)
                    refine pm_iadd hG dX12_quarter_224 ?_
                    refine pm_istoreXn (loc' := [some (.ref (B + 54)), some (.int (nI i7)), some (.int (nI (6 * i7 + 1770))), some (.int (x10 + x12)), none]) hG dX12_quarter_225 (by decide) (pm_c1b rfl) rfl ?_
                    refine pm_aloadn hG dX12_quarter_226 rfl ?_
                    refine pm_getf hG dX12_quarter_227 (flX12_7 _ rfl) rfl rfl ?_
                    refine pm_iloadn hG dX12_quarter_230 rfl ?_
                    refine pm_iloadn hG dX12_quarter_231 rfl ?_
                    refine pm_ldc hG dX12_quarter_232 (ctX12_235 _ rfl) ?_
                    refine pm_top (v := nI 999999) (by decide) ?_
                    refine pm_icmp_ge (tgt := 241) hG dX12_quarter_234 rfl (fun c13 => ?_) (fun c13 => ?_)
                    · refine pm_ldc hG dX12_quarter_241 (ctX12_235 _ rfl) ?_
                      refine pm_top (v := nI 999999) (by decide) ?_
                      refine pm_iastN hG dX12_quarter_243 rfl (by decide) (by omega) ?_
                      refine mdn_now (fun n_14 en_14 => ?_)
                      have hnn_14 := KI.w en_14 hnn_7 (okv_f (show kd (6 * i7 + 1770) = (0, 0, false) from (kd_D (k := i7) (c := 0) (by omega) (by omega) (by decide))))
                      have hrn_14 := NRx.w en_14 hrn_7 (by rw [(show kd (6 * i7 + 1770) = (0, 0, false) from (kd_D (k := i7) (c := 0) (by omega) (by omega) (by decide)))])
                      have ksn_14 := KS.w en_14 ksn_7 (by unfold tS; omega)
                      have e15 : n_14 8 = nI kc8 := by rw [en_14, pk_un (by omega)]; exact kc7_8
                      have e16 : n_14 6 = nI k8 := by rw [en_14, pk_un (by omega)]; exact ek8
                      have e17 : n_14 (6 * i7 + 1771) = x11 := by rw [en_14, pk_un (by omega)]; exact ex11
                      have e18 : n_14 (6 * i7 + 1770) = nI 999999 := by rw [en_14, pk_us]
                      refine pm_aloadn hG dX12_quarter_244 rfl ?_
                      refine pm_getf hG dX12_quarter_245 (flX12_7 _ rfl) rfl rfl ?_
                      refine pm_iloadn hG dX12_quarter_248 rfl ?_
                      refine pm_ialdN hG dX12_quarter_249 rfl (by decide) (by omega) ?_
                      refine pm_top (v := nI 999999) e18 ?_
                      refine pm_aloadn hG dX12_quarter_250 rfl ?_
                      refine pm_getf hG dX12_quarter_251 (flX12_7 _ rfl) rfl rfl ?_
                      refine pm_iloadn hG dX12_quarter_254 rfl ?_
                      refine pm_iconst (v := nI 2) hG dX12_quarter_255 (by decide) ?_
                      refine pm_iaddN (c := 6 * i7 + 1772) hG dX12_quarter_256 (by omega) ?_
                      refine pm_ialdN hG dX12_quarter_257 rfl (by decide) (by omega) ?_
                      refine pm_gen (fun x19 ex19 => ?_)
                      refine pm_icmp_ge (tgt := 270) hG dX12_quarter_258 rfl (fun c20 => ?_) (fun c20 => ?_)
                      · refine pm_aloadn hG dX12_quarter_270 rfl ?_
                        refine pm_getf hG dX12_quarter_271 (flX12_7 _ rfl) rfl rfl ?_
                        refine pm_iloadn hG dX12_quarter_274 rfl ?_
                        refine pm_iconst (v := nI 2) hG dX12_quarter_275 (by decide) ?_
                        refine pm_iaddN (c := 6 * i7 + 1772) hG dX12_quarter_276 (by omega) ?_
                        refine pm_ialdN hG dX12_quarter_277 rfl (by decide) (by omega) ?_
                        refine pm_top (v := x19) ex19 ?_
                        refine pm_istoreXi (loc' := [some (.ref (B + 54)), some (.int (nI i7)), some (.int (nI (6 * i7 + 1770))), some (.int (x10 + x12)), some (.int x19)]) hG dX12_quarter_278 (by decide) (pm_c1b rfl) rfl ?_
                        refine pm_aloadn hG dX12_quarter_280 rfl ?_
                        refine pm_getf hG dX12_quarter_281 (flX12_7 _ rfl) rfl rfl ?_
                        refine pm_bipush (v := nI 9) hG dX12_quarter_284 (by decide) ?_
                        refine pm_ialdN hG dX12_quarter_286 rfl (by decide) (by omega) ?_
                        refine pm_gen (fun x21 ex21 => ?_)
                        refine pm_iloadi hG dX12_quarter_287 rfl ?_
                        refine pm_icmp_lt (tgt := 318) hG dX12_quarter_289 rfl (fun c22 => ?_) (fun c22 => ?_)
                        · refine pm_aloadn hG dX12_quarter_318 rfl ?_
                          refine pm_getf hG dX12_quarter_319 (flX12_7 _ rfl) rfl rfl ?_
                          refine pm_iloadn hG dX12_quarter_322 rfl ?_
                          refine pm_iconst (v := nI 3) hG dX12_quarter_323 (by decide) ?_
                          refine pm_iaddN (c := 6 * i7 + 1773) hG dX12_quarter_324 (by omega) ?_
                          refine pm_dup2 hG dX12_quarter_325 rfl rfl ?_
                          refine pm_ialdN hG dX12_quarter_326 rfl (by decide) (by omega) ?_
                          refine pm_gen (fun x23 ex23 => ?_)
                          refine pm_iconst (v := nI 1) hG dX12_quarter_327 (by decide) ?_
                          refine pm_iadd hG dX12_quarter_328 ?_
                          refine pm_iastN hG dX12_quarter_329 rfl (by decide) (by omega) ?_
                          refine mdn_now (fun n_24 en_24 => ?_)
                          have hnn_24 := KI.w en_24 hnn_14 (okv_f (show kd (6 * i7 + 1773) = (0, 0, false) from (kd_D (k := i7) (c := 3) (by omega) (by omega) (by decide))))
                          have hrn_24 := NRx.w en_24 hrn_14 (by rw [(show kd (6 * i7 + 1773) = (0, 0, false) from (kd_D (k := i7) (c := 3) (by omega) (by omega) (by decide)))])
                          have ksn_24 := KS.w en_24 ksn_14 (by unfold tS; omega)
                          have e25 : n_24 8 = nI kc8 := by rw [en_24, pk_un (by omega)]; exact e15
                          have e26 : n_24 6 = nI k8 := by rw [en_24, pk_un (by omega)]; exact e16
                          have e27 : n_24 (6 * i7 + 1771) = x11 := by rw [en_24, pk_un (by omega)]; exact e17
                          have e28 : n_24 (6 * i7 + 1770) = nI 999999 := by rw [en_24, pk_un (by omega)]; exact e18
                          have e29 : n_24 (6 * i7 + 1772) = x19 := by rw [en_24, pk_un (by omega)]; exact ex19
                          have e30 : n_24 9 = x21 := by rw [en_24, pk_un (by omega)]; exact ex21
                          have e31 : n_24 (6 * i7 + 1773) = x23 + (nI 1) := by rw [en_24, pk_us]
                          refine pm_aloadn hG dX12_quarter_330 rfl ?_
                          refine pm_getf hG dX12_quarter_331 (flX12_7 _ rfl) rfl rfl ?_
                          refine pm_iloadn hG dX12_quarter_334 rfl ?_
                          refine pm_iconst (v := nI 3) hG dX12_quarter_335 (by decide) ?_
                          refine pm_iaddN (c := 6 * i7 + 1773) hG dX12_quarter_336 (by omega) ?_
                          refine pm_ialdN hG dX12_quarter_337 rfl (by decide) (by omega) ?_
                          refine pm_top (v := x23 + (nI 1)) e31 ?_
                          refine pm_iconst (v := nI 2) hG dX12_quarter_338 (by decide) ?_
                          refine pm_icmp_ne (tgt := 363) hG dX12_quarter_339 rfl (fun c32 => ?_) (fun c32 => ?_)
                          · refine pm_iincX (v := nI (i7 + 1)) (loc' := [some (.ref (B + 54)), some (.int (nI (i7 + 1))), some (.int (nI (6 * i7 + 1770))), some (.int (x10 + x12)), some (.int x19)]) hG dX12_quarter_363 rfl (nI_1 _) (by decide) (pm_c1b rfl) rfl ?_
                            refine pm_goto (tgt := 180) hG dX12_quarter_366 rfl ?_
                            refine pm_fg 2 (loc' := [some (.ref (B + 54)), some (.int (nI (i7 + 1))), none, some (.int (x10 + x12)), some (.int x19)]) rfl ?_
                            refine pm_fg 3 (loc' := [some (.ref (B + 54)), some (.int (nI (i7 + 1))), none, none, some (.int x19)]) rfl ?_
                            refine pm_fg 4 (loc' := [some (.ref (B + 54)), some (.int (nI (i7 + 1))), none, none, none]) rfl ?_
                            exact ih7 n_24 (i7 + 1) hnn_24 ksn_24 hrn_24 (e25.trans (congrArg nI (by omega))) (by omega) (by omega)
                          · refine pm_aloadn hG dX12_quarter_342 rfl ?_
                            refine pm_getf hG dX12_quarter_343 (flX12_7 _ rfl) rfl rfl ?_
                            refine pm_bipush (v := nI 20) hG dX12_quarter_346 (by decide) ?_
                            refine pm_iconst (v := nI 3) hG dX12_quarter_348 (by decide) ?_
                            refine pm_aloadn hG dX12_quarter_349 rfl ?_
                            refine pm_getf hG dX12_quarter_350 (flX12_7 _ rfl) rfl rfl ?_
                            refine pm_iloadn hG dX12_quarter_353 rfl ?_
                            refine pm_iconst (v := nI 4) hG dX12_quarter_354 (by decide) ?_
                            refine pm_iaddN (c := 6 * i7 + 1774) hG dX12_quarter_355 (by omega) ?_
                            refine pm_ialdN hG dX12_quarter_356 rfl (by decide) (by omega) ?_
                            obtain ⟨k33, hk33, ek33⟩ := KI.nat hnn_24 (show kd (6 * i7 + 1774) = (1, 10, false) from (kd_D (k := i7) (c := 4) (by omega) (by omega) (by decide)))
                            refine pm_top (v := nI k33) ek33 ?_
                            refine pm_imulN (c := 3 * k33) hG dX12_quarter_357 (by omega) ?_
                            refine pm_iaddN (c := 3 * k33 + 20) hG dX12_quarter_358 (by omega) ?_
                            refine pm_iconst (v := nI 2) hG dX12_quarter_359 (by decide) ?_
                            refine pm_iaddN (c := 3 * k33 + 22) hG dX12_quarter_360 (by omega) ?_
                            refine pm_iconst (v := nI 1) hG dX12_quarter_361 (by decide) ?_
                            refine pm_iastN hG dX12_quarter_362 rfl (by decide) (by omega) ?_
                            refine mdn_now (fun n_34 en_34 => ?_)
                            have hnn_34 := KI.w en_34 hnn_24 (okv_f (show kd (3 * k33 + 22) = (0, 0, false) from (kd_T (k := k33) (c := 2) (by omega) (by omega) (by decide))))
                            have hrn_34 := NRx.w en_34 hrn_24 (by rw [(show kd (3 * k33 + 22) = (0, 0, false) from (kd_T (k := k33) (c := 2) (by omega) (by omega) (by decide)))])
                            have ksn_34 := KS.w en_34 ksn_24 (by unfold tS; omega)
                            have e35 : n_34 8 = nI kc8 := by rw [en_34, pk_un (by omega)]; exact e25
                            have e36 : n_34 6 = nI k8 := by rw [en_34, pk_un (by omega)]; exact e26
                            have e37 : n_34 (6 * i7 + 1771) = x11 := by rw [en_34, pk_un (by omega)]; exact e27
                            have e38 : n_34 (6 * i7 + 1770) = nI 999999 := by rw [en_34, pk_un (by omega)]; exact e28
                            have e39 : n_34 (6 * i7 + 1772) = x19 := by rw [en_34, pk_un (by omega)]; exact e29
                            have e40 : n_34 9 = x21 := by rw [en_34, pk_un (by omega)]; exact e30
                            have e41 : n_34 (6 * i7 + 1773) = x23 + (nI 1) := by rw [en_34, pk_un (by omega)]; exact e31
                            have e42 : n_34 (6 * i7 + 1774) = nI k33 := by rw [en_34, pk_un (by omega)]; exact ek33
                            have e43 : n_34 (3 * k33 + 22) = nI 1 := by rw [en_34, pk_us]
                            refine pm_iincX (v := nI (i7 + 1)) (loc' := [some (.ref (B + 54)), some (.int (nI (i7 + 1))), some (.int (nI (6 * i7 + 1770))), some (.int (x10 + x12)), some (.int x19)]) hG dX12_quarter_363 rfl (nI_1 _) (by decide) (pm_c1b rfl) rfl ?_
                            refine pm_goto (tgt := 180) hG dX12_quarter_366 rfl ?_
                            refine pm_fg 2 (loc' := [some (.ref (B + 54)), some (.int (nI (i7 + 1))), none, some (.int (x10 + x12)), some (.int x19)]) rfl ?_
                            refine pm_fg 3 (loc' := [some (.ref (B + 54)), some (.int (nI (i7 + 1))), none, none, some (.int x19)]) rfl ?_
                            refine pm_fg 4 (loc' := [some (.ref (B + 54)), some (.int (nI (i7 + 1))), none, none, none]) rfl ?_
                            exact ih7 n_34 (i7 + 1) hnn_34 ksn_34 hrn_34 (e35.trans (congrArg nI (by omega))) (by omega) (by omega)
                        · refine pm_aloadn hG dX12_quarter_292 rfl ?_
                          refine pm_getf hG dX12_quarter_293 (flX12_7 _ rfl) rfl rfl ?_
                          refine pm_bipush (v := nI 9) hG dX12_quarter_296 (by decide) ?_
                          refine pm_dup2 hG dX12_quarter_298 rfl rfl ?_
                          refine pm_ialdN hG dX12_quarter_299 rfl (by decide) (by omega) ?_
                          refine pm_top (v := x21) ex21 ?_
                          refine pm_iloadi hG dX12_quarter_300 rfl ?_
                          refine pm_isub hG dX12_quarter_302 ?_
                          refine pm_iastN hG dX12_quarter_303 rfl (by decide) (by omega) ?_
                          refine mdn_now (fun n_44 en_44 => ?_)
                          have hnn_44 := KI.w en_44 hnn_14 (okv_f (show kd 9 = (0, 0, false) by decide))
                          have hrn_44 := NRx.w en_44 hrn_14 (by rw [(show kd 9 = (0, 0, false) by decide)])
                          have ksn_44 := KS.w en_44 ksn_14 (by unfold tS; omega)
                          have e45 : n_44 8 = nI kc8 := by rw [en_44, pk_un (by omega)]; exact e15
                          have e46 : n_44 6 = nI k8 := by rw [en_44, pk_un (by omega)]; exact e16
                          have e47 : n_44 (6 * i7 + 1771) = x11 := by rw [en_44, pk_un (by omega)]; exact e17
                          have e48 : n_44 (6 * i7 + 1770) = nI 999999 := by rw [en_44, pk_un (by omega)]; exact e18
                          have e49 : n_44 (6 * i7 + 1772) = x19 := by rw [en_44, pk_un (by omega)]; exact ex19
                          have e50 : n_44 9 = x21 - x19 := by rw [en_44, pk_us]
                          refine pm_aloadn hG dX12_quarter_304 rfl ?_
                          refine pm_getf hG dX12_quarter_305 (flX12_7 _ rfl) rfl rfl ?_
                          refine pm_iloadn hG dX12_quarter_308 rfl ?_
                          refine pm_dup2 hG dX12_quarter_309 rfl rfl ?_
                          refine pm_ialdN hG dX12_quarter_310 rfl (by decide) (by omega) ?_
                          refine pm_top (v := nI 999999) e48 ?_
                          refine pm_iloadi hG dX12_quarter_311 rfl ?_
                          refine pm_isub hG dX12_quarter_313 ?_
                          refine pm_iastN hG dX12_quarter_314 rfl (by decide) (by omega) ?_
                          refine mdn_now (fun n_51 en_51 => ?_)
                          have hnn_51 := KI.w en_51 hnn_44 (okv_f (show kd (6 * i7 + 1770) = (0, 0, false) from (kd_D (k := i7) (c := 0) (by omega) (by omega) (by decide))))
                          have hrn_51 := NRx.w en_51 hrn_44 (by rw [(show kd (6 * i7 + 1770) = (0, 0, false) from (kd_D (k := i7) (c := 0) (by omega) (by omega) (by decide)))])
                          have ksn_51 := KS.w en_51 ksn_44 (by unfold tS; omega)
                          have e52 : n_51 8 = nI kc8 := by rw [en_51, pk_un (by omega)]; exact e45
                          have e53 : n_51 6 = nI k8 := by rw [en_51, pk_un (by omega)]; exact e46
                          have e54 : n_51 (6 * i7 + 1771) = x11 := by rw [en_51, pk_un (by omega)]; exact e47
                          have e55 : n_51 (6 * i7 + 1772) = x19 := by rw [en_51, pk_un (by omega)]; exact e49
                          have e56 : n_51 9 = x21 - x19 := by rw [en_51, pk_un (by omega)]; exact e50
                          have e57 : n_51 (6 * i7 + 1770) = (nI 999999) - x19 := by rw [en_51, pk_us]
                          refine pm_goto (tgt := 363) hG dX12_quarter_315 rfl ?_
                          refine pm_iincX (v := nI (i7 + 1)) (loc' := [some (.ref (B + 54)), some (.int (nI (i7 + 1))), some (.int (nI (6 * i7 + 1770))), some (.int (x10 + x12)), some (.int x19)]) hG dX12_quarter_363 rfl (nI_1 _) (by decide) (pm_c1b rfl) rfl ?_
                          refine pm_goto (tgt := 180) hG dX12_quarter_366 rfl ?_
                          refine pm_fg 2 (loc' := [some (.ref (B + 54)), some (.int (nI (i7 + 1))), none, some (.int (x10 + x12)), some (.int x19)]) rfl ?_
                          refine pm_fg 3 (loc' := [some (.ref (B + 54)), some (.int (nI (i7 + 1))), none, none, some (.int x19)]) rfl ?_
                          refine pm_fg 4 (loc' := [some (.ref (B + 54)), some (.int (nI (i7 + 1))), none, none, none]) rfl ?_
                          exact ih7 n_51 (i7 + 1) hnn_51 ksn_51 hrn_51 (e52.trans (congrArg nI (by omega))) (by omega) (by omega)
                      · refine pm_aloadn hG dX12_quarter_261 rfl ?_
                        refine pm_getf hG dX12_quarter_262 (flX12_7 _ rfl) rfl rfl ?_
                        refine pm_iloadn hG dX12_quarter_265 rfl ?_
                        refine pm_ialdN hG dX12_quarter_266 rfl (by decide) (by omega) ?_
                        refine pm_top (v := nI 999999) e18 ?_
                        refine pm_goto (tgt := 278) hG dX12_quarter_267 rfl ?_
                        refine pm_istoreXi (loc' := [some (.ref (B + 54)), some (.int (nI i7)), some (.int (nI (6 * i7 + 1770))), some (.int (x10 + x12)), some (.int (nI 999999))]) hG dX12_quarter_278 (by decide) (pm_c1b rfl) rfl ?_
                        refine pm_aloadn hG dX12_quarter_280 rfl ?_
                        refine pm_getf hG dX12_quarter_281 (flX12_7 _ rfl) rfl rfl ?_
                        refine pm_bipush (v := nI 9) hG dX12_quarter_284 (by decide) ?_
                        refine pm_ialdN hG dX12_quarter_286 rfl (by decide) (by omega) ?_
                        refine pm_gen (fun x58 ex58 => ?_)
                        refine pm_iloadi hG dX12_quarter_287 rfl ?_
                        refine pm_icmp_lt (tgt := 318) hG dX12_quarter_289 rfl (fun c59 => ?_) (fun c59 => ?_)
                        · refine pm_aloadn hG dX12_quarter_318 rfl ?_
                          refine pm_getf hG dX12_quarter_319 (flX12_7 _ rfl) rfl rfl ?_
                          refine pm_iloadn hG dX12_quarter_322 rfl ?_
                          refine pm_iconst (v := nI 3) hG dX12_quarter_323 (by decide) ?_
                          refine pm_iaddN (c := 6 * i7 + 1773) hG dX12_quarter_324 (by omega) ?_
                          refine pm_dup2 hG dX12_quarter_325 rfl rfl ?_
                          refine pm_ialdN hG dX12_quarter_326 rfl (by decide) (by omega) ?_
                          refine pm_gen (fun x60 ex60 => ?_)
                          refine pm_iconst (v := nI 1) hG dX12_quarter_327 (by decide) ?_
                          refine pm_iadd hG dX12_quarter_328 ?_
                          refine pm_iastN hG dX12_quarter_329 rfl (by decide) (by omega) ?_
                          refine mdn_now (fun n_61 en_61 => ?_)
                          have hnn_61 := KI.w en_61 hnn_14 (okv_f (show kd (6 * i7 + 1773) = (0, 0, false) from (kd_D (k := i7) (c := 3) (by omega) (by omega) (by decide))))
                          have hrn_61 := NRx.w en_61 hrn_14 (by rw [(show kd (6 * i7 + 1773) = (0, 0, false) from (kd_D (k := i7) (c := 3) (by omega) (by omega) (by decide)))])
                          have ksn_61 := KS.w en_61 ksn_14 (by unfold tS; omega)
                          have e62 : n_61 8 = nI kc8 := by rw [en_61, pk_un (by omega)]; exact e15
                          have e63 : n_61 6 = nI k8 := by rw [en_61, pk_un (by omega)]; exact e16
                          have e64 : n_61 (6 * i7 + 1771) = x11 := by rw [en_61, pk_un (by omega)]; exact e17
                          have e65 : n_61 (6 * i7 + 1770) = nI 999999 := by rw [en_61, pk_un (by omega)]; exact e18
                          have e66 : n_61 (6 * i7 + 1772) = x19 := by rw [en_61, pk_un (by omega)]; exact ex19
                          have e67 : n_61 9 = x58 := by rw [en_61, pk_un (by omega)]; exact ex58
                          have e68 : n_61 (6 * i7 + 1773) = x60 + (nI 1) := by rw [en_61, pk_us]
                          refine pm_aloadn hG dX12_quarter_330 rfl ?_
                          refine pm_getf hG dX12_quarter_331 (flX12_7 _ rfl) rfl rfl ?_
                          refine pm_iloadn hG dX12_quarter_334 rfl ?_
                          refine pm_iconst (v := nI 3) hG dX12_quarter_335 (by decide) ?_
                          refine pm_iaddN (c := 6 * i7 + 1773) hG dX12_quarter_336 (by omega) ?_
                          refine pm_ialdN hG dX12_quarter_337 rfl (by decide) (by omega) ?_
                          refine pm_top (v := x60 + (nI 1)) e68 ?_
                          refine pm_iconst (v := nI 2) hG dX12_quarter_338 (by decide) ?_
                          refine pm_icmp_ne (tgt := 363) hG dX12_quarter_339 rfl (fun c69 => ?_) (fun c69 => ?_)
                          · refine pm_iincX (v := nI (i7 + 1)) (loc' := [some (.ref (B + 54)), some (.int (nI (i7 + 1))), some (.int (nI (6 * i7 + 1770))), some (.int (x10 + x12)), some (.int (nI 999999))]) hG dX12_quarter_363 rfl (nI_1 _) (by decide) (pm_c1b rfl) rfl ?_
                            refine pm_goto (tgt := 180) hG dX12_quarter_366 rfl ?_
                            refine pm_fg 2 (loc' := [some (.ref (B + 54)), some (.int (nI (i7 + 1))), none, some (.int (x10 + x12)), some (.int (nI 999999))]) rfl ?_
                            refine pm_fg 3 (loc' := [some (.ref (B + 54)), some (.int (nI (i7 + 1))), none, none, some (.int (nI 999999))]) rfl ?_
                            refine pm_fg 4 (loc' := [some (.ref (B + 54)), some (.int (nI (i7 + 1))), none, none, none]) rfl ?_
                            exact ih7 n_61 (i7 + 1) hnn_61 ksn_61 hrn_61 (e62.trans (congrArg nI (by omega))) (by omega) (by omega)
                          · refine pm_aloadn hG dX12_quarter_342 rfl ?_
                            refine pm_getf hG dX12_quarter_343 (flX12_7 _ rfl) rfl rfl ?_
                            refine pm_bipush (v := nI 20) hG dX12_quarter_346 (by decide) ?_
                            refine pm_iconst (v := nI 3) hG dX12_quarter_348 (by decide) ?_
                            refine pm_aloadn hG dX12_quarter_349 rfl ?_
                            refine pm_getf hG dX12_quarter_350 (flX12_7 _ rfl) rfl rfl ?_
                            refine pm_iloadn hG dX12_quarter_353 rfl ?_
                            refine pm_iconst (v := nI 4) hG dX12_quarter_354 (by decide) ?_
                            refine pm_iaddN (c := 6 * i7 + 1774) hG dX12_quarter_355 (by omega) ?_
                            refine pm_ialdN hG dX12_quarter_356 rfl (by decide) (by omega) ?_
                            obtain ⟨k70, hk70, ek70⟩ := KI.nat hnn_61 (show kd (6 * i7 + 1774) = (1, 10, false) from (kd_D (k := i7) (c := 4) (by omega) (by omega) (by decide)))
                            refine pm_top (v := nI k70) ek70 ?_
                            refine pm_imulN (c := 3 * k70) hG dX12_quarter_357 (by omega) ?_
                            refine pm_iaddN (c := 3 * k70 + 20) hG dX12_quarter_358 (by omega) ?_
                            refine pm_iconst (v := nI 2) hG dX12_quarter_359 (by decide) ?_
                            refine pm_iaddN (c := 3 * k70 + 22) hG dX12_quarter_360 (by omega) ?_
                            refine pm_iconst (v := nI 1) hG dX12_quarter_361 (by decide) ?_
                            refine pm_iastN hG dX12_quarter_362 rfl (by decide) (by omega) ?_
                            refine mdn_now (fun n_71 en_71 => ?_)
                            have hnn_71 := KI.w en_71 hnn_61 (okv_f (show kd (3 * k70 + 22) = (0, 0, false) from (kd_T (k := k70) (c := 2) (by omega) (by omega) (by decide))))
                            have hrn_71 := NRx.w en_71 hrn_61 (by rw [(show kd (3 * k70 + 22) = (0, 0, false) from (kd_T (k := k70) (c := 2) (by omega) (by omega) (by decide)))])
                            have ksn_71 := KS.w en_71 ksn_61 (by unfold tS; omega)
                            have e72 : n_71 8 = nI kc8 := by rw [en_71, pk_un (by omega)]; exact e62
                            have e73 : n_71 6 = nI k8 := by rw [en_71, pk_un (by omega)]; exact e63
                            have e74 : n_71 (6 * i7 + 1771) = x11 := by rw [en_71, pk_un (by omega)]; exact e64
                            have e75 : n_71 (6 * i7 + 1770) = nI 999999 := by rw [en_71, pk_un (by omega)]; exact e65
                            have e76 : n_71 (6 * i7 + 1772) = x19 := by rw [en_71, pk_un (by omega)]; exact e66
                            have e77 : n_71 9 = x58 := by rw [en_71, pk_un (by omega)]; exact e67
                            have e78 : n_71 (6 * i7 + 1773) = x60 + (nI 1) := by rw [en_71, pk_un (by omega)]; exact e68
                            have e79 : n_71 (6 * i7 + 1774) = nI k70 := by rw [en_71, pk_un (by omega)]; exact ek70
                            have e80 : n_71 (3 * k70 + 22) = nI 1 := by rw [en_71, pk_us]
                            refine pm_iincX (v := nI (i7 + 1)) (loc' := [some (.ref (B + 54)), some (.int (nI (i7 + 1))), some (.int (nI (6 * i7 + 1770))), some (.int (x10 + x12)), some (.int (nI 999999))]) hG dX12_quarter_363 rfl (nI_1 _) (by decide) (pm_c1b rfl) rfl ?_
                            refine pm_goto (tgt := 180) hG dX12_quarter_366 rfl ?_
                            refine pm_fg 2 (loc' := [some (.ref (B + 54)), some (.int (nI (i7 + 1))), none, some (.int (x10 + x12)), some (.int (nI 999999))]) rfl ?_
                            refine pm_fg 3 (loc' := [some (.ref (B + 54)), some (.int (nI (i7 + 1))), none, none, some (.int (nI 999999))]) rfl ?_
                            refine pm_fg 4 (loc' := [some (.ref (B + 54)), some (.int (nI (i7 + 1))), none, none, none]) rfl ?_
                            exact ih7 n_71 (i7 + 1) hnn_71 ksn_71 hrn_71 (e72.trans (congrArg nI (by omega))) (by omega) (by omega)
                        · refine pm_aloadn hG dX12_quarter_292 rfl ?_
                          refine pm_getf hG dX12_quarter_293 (flX12_7 _ rfl) rfl rfl ?_
                          refine pm_bipush (v := nI 9) hG dX12_quarter_296 (by decide) ?_
                          refine pm_dup2 hG dX12_quarter_298 rfl rfl ?_
                          refine pm_ialdN hG dX12_quarter_299 rfl (by decide) (by omega) ?_
                          refine pm_top (v := x58) ex58 ?_
                          refine pm_iloadi hG dX12_quarter_300 rfl ?_
                          refine pm_isub hG dX12_quarter_302 ?_
                          refine pm_iastN hG dX12_quarter_303 rfl (by decide) (by omega) ?_
                          refine mdn_now (fun n_81 en_81 => ?_)
                          have hnn_81 := KI.w en_81 hnn_14 (okv_f (show kd 9 = (0, 0, false) by decide))
                          have hrn_81 := NRx.w en_81 hrn_14 (by rw [(show kd 9 = (0, 0, false) by decide)])
                          have ksn_81 := KS.w en_81 ksn_14 (by unfold tS; omega)
                          have e82 : n_81 8 = nI kc8 := by rw [en_81, pk_un (by omega)]; exact e15
                          have e83 : n_81 6 = nI k8 := by rw [en_81, pk_un (by omega)]; exact e16
                          have e84 : n_81 (6 * i7 + 1771) = x11 := by rw [en_81, pk_un (by omega)]; exact e17
                          have e85 : n_81 (6 * i7 + 1770) = nI 999999 := by rw [en_81, pk_un (by omega)]; exact e18
                          have e86 : n_81 (6 * i7 + 1772) = x19 := by rw [en_81, pk_un (by omega)]; exact ex19
                          have e87 : n_81 9 = x58 - (nI 999999) := by rw [en_81, pk_us]
                          refine pm_aloadn hG dX12_quarter_304 rfl ?_
                          refine pm_getf hG dX12_quarter_305 (flX12_7 _ rfl) rfl rfl ?_
                          refine pm_iloadn hG dX12_quarter_308 rfl ?_
                          refine pm_dup2 hG dX12_quarter_309 rfl rfl ?_
                          refine pm_ialdN hG dX12_quarter_310 rfl (by decide) (by omega) ?_
                          refine pm_top (v := nI 999999) e85 ?_
                          refine pm_iloadi hG dX12_quarter_311 rfl ?_
                          refine pm_isubN (c := 0) hG dX12_quarter_313 (by omega) ?_
                          refine pm_iastN hG dX12_quarter_314 rfl (by decide) (by omega) ?_
                          refine mdn_now (fun n_88 en_88 => ?_)
                          have hnn_88 := KI.w en_88 hnn_81 (okv_f (show kd (6 * i7 + 1770) = (0, 0, false) from (kd_D (k := i7) (c := 0) (by omega) (by omega) (by decide))))
                          have hrn_88 := NRx.w en_88 hrn_81 (by rw [(show kd (6 * i7 + 1770) = (0, 0, false) from (kd_D (k := i7) (c := 0) (by omega) (by omega) (by decide)))])
                          have ksn_88 := KS.w en_88 ksn_81 (by unfold tS; omega)
                          have e89 : n_88 8 = nI kc8 := by rw [en_88, pk_un (by omega)]; exact e82
                          have e90 : n_88 6 = nI k8 := by rw [en_88, pk_un (by omega)]; exact e83
                          have e91 : n_88 (6 * i7 + 1771) = x11 := by rw [en_88, pk_un (by omega)]; exact e84
                          have e92 : n_88 (6 * i7 + 1772) = x19 := by rw [en_88, pk_un (by omega)]; exact e86
                          have e93 : n_88 9 = x58 - (nI 999999) := by rw [en_88, pk_un (by omega)]; exact e87
                          have e94 : n_88 (6 * i7 + 1770) = nI 0 := by rw [en_88, pk_us]
                          refine pm_goto (tgt := 363) hG dX12_quarter_315 rfl ?_
                          refine pm_iincX (v := nI (i7 + 1)) (loc' := [some (.ref (B + 54)), some (.int (nI (i7 + 1))), some (.int (nI (6 * i7 + 1770))), some (.int (x10 + x12)), some (.int (nI 999999))]) hG dX12_quarter_363 rfl (nI_1 _) (by decide) (pm_c1b rfl) rfl ?_
                          refine pm_goto (tgt := 180) hG dX12_quarter_366 rfl ?_
                          refine pm_fg 2 (loc' := [some (.ref (B + 54)), some (.int (nI (i7 + 1))), none, some (.int (x10 + x12)), some (.int (nI 999999))]) rfl ?_
                          refine pm_fg 3 (loc' := [some (.ref (B + 54)), some (.int (nI (i7 + 1))), none, none, some (.int (nI 999999))]) rfl ?_
                          refine pm_fg 4 (loc' := [some (.ref (B + 54)), some (.int (nI (i7 + 1))), none, none, none]) rfl ?_
                          exact ih7 n_88 (i7 + 1) hnn_88 ksn_88 hrn_88 (e89.trans (congrArg nI (by omega))) (by omega) (by omega)
                    · refine pm_iloadn hG dX12_quarter_237 rfl ?_
                      refine pm_goto (tgt := 243) hG dX12_quarter_238 rfl ?_
                      refine pm_iastN hG dX12_quarter_243 rfl (by decide) (by omega) ?_
                      refine mdn_now (fun n_95 en_95 => ?_)
                      have hnn_95 := KI.w en_95 hnn_7 (okv_f (show kd (6 * i7 + 1770) = (0, 0, false) from (kd_D (k := i7) (c := 0) (by omega) (by omega) (by decide))))
                      have hrn_95 := NRx.w en_95 hrn_7 (by rw [(show kd (6 * i7 + 1770) = (0, 0, false) from (kd_D (k := i7) (c := 0) (by omega) (by omega) (by decide)))])
                      have ksn_95 := KS.w en_95 ksn_7 (by unfold tS; omega)
                      have e96 : n_95 8 = nI kc8 := by rw [en_95, pk_un (by omega)]; exact kc7_8
                      have e97 : n_95 6 = nI k8 := by rw [en_95, pk_un (by omega)]; exact ek8
                      have e98 : n_95 (6 * i7 + 1771) = x11 := by rw [en_95, pk_un (by omega)]; exact ex11
                      have e99 : n_95 (6 * i7 + 1770) = x10 + x12 := by rw [en_95, pk_us]
                      refine pm_aloadn hG dX12_quarter_244 rfl ?_
                      refine pm_getf hG dX12_quarter_245 (flX12_7 _ rfl) rfl rfl ?_
                      refine pm_iloadn hG dX12_quarter_248 rfl ?_
                      refine pm_ialdN hG dX12_quarter_249 rfl (by decide) (by omega) ?_
                      refine pm_top (v := x10 + x12) e99 ?_
                      refine pm_aloadn hG dX12_quarter_250 rfl ?_
                      refine pm_getf hG dX12_quarter_251 (flX12_7 _ rfl) rfl rfl ?_
                      refine pm_iloadn hG dX12_quarter_254 rfl ?_
                      refine pm_iconst (v := nI 2) hG dX12_quarter_255 (by decide) ?_
                      refine pm_iaddN (c := 6 * i7 + 1772) hG dX12_quarter_256 (by omega) ?_
                      refine pm_ialdN hG dX12_quarter_257 rfl (by decide) (by omega) ?_
                      refine pm_gen (fun x100 ex100 => ?_)
                      refine pm_icmp_ge (tgt := 270) hG dX12_quarter_258 rfl (fun c101 => ?_) (fun c101 => ?_)
                      · refine pm_aloadn hG dX12_quarter_270 rfl ?_
                        refine pm_getf hG dX12_quarter_271 (flX12_7 _ rfl) rfl rfl ?_
                        refine pm_iloadn hG dX12_quarter_274 rfl ?_
                        refine pm_iconst (v := nI 2) hG dX12_quarter_275 (by decide) ?_
                        refine pm_iaddN (c := 6 * i7 + 1772) hG dX12_quarter_276 (by omega) ?_
                        refine pm_ialdN hG dX12_quarter_277 rfl (by decide) (by omega) ?_
                        refine pm_top (v := x100) ex100 ?_
                        refine pm_istoreXi (loc' := [some (.ref (B + 54)), some (.int (nI i7)), some (.int (nI (6 * i7 + 1770))), some (.int (x10 + x12)), some (.int x100)]) hG dX12_quarter_278 (by decide) (pm_c1b rfl) rfl ?_
                        refine pm_aloadn hG dX12_quarter_280 rfl ?_
                        refine pm_getf hG dX12_quarter_281 (flX12_7 _ rfl) rfl rfl ?_
                        refine pm_bipush (v := nI 9) hG dX12_quarter_284 (by decide) ?_
                        refine pm_ialdN hG dX12_quarter_286 rfl (by decide) (by omega) ?_
                        refine pm_gen (fun x102 ex102 => ?_)
                        refine pm_iloadi hG dX12_quarter_287 rfl ?_
                        refine pm_icmp_lt (tgt := 318) hG dX12_quarter_289 rfl (fun c103 => ?_) (fun c103 => ?_)
                        · refine pm_aloadn hG dX12_quarter_318 rfl ?_
                          refine pm_getf hG dX12_quarter_319 (flX12_7 _ rfl) rfl rfl ?_
                          refine pm_iloadn hG dX12_quarter_322 rfl ?_
                          refine pm_iconst (v := nI 3) hG dX12_quarter_323 (by decide) ?_
                          refine pm_iaddN (c := 6 * i7 + 1773) hG dX12_quarter_324 (by omega) ?_
                          refine pm_dup2 hG dX12_quarter_325 rfl rfl ?_
                          refine pm_ialdN hG dX12_quarter_326 rfl (by decide) (by omega) ?_
                          refine pm_gen (fun x104 ex104 => ?_)
                          refine pm_iconst (v := nI 1) hG dX12_quarter_327 (by decide) ?_
                          refine pm_iadd hG dX12_quarter_328 ?_
                          refine pm_iastN hG dX12_quarter_329 rfl (by decide) (by omega) ?_
                          refine mdn_now (fun n_105 en_105 => ?_)
                          have hnn_105 := KI.w en_105 hnn_95 (okv_f (show kd (6 * i7 + 1773) = (0, 0, false) from (kd_D (k := i7) (c := 3) (by omega) (by omega) (by decide))))
                          have hrn_105 := NRx.w en_105 hrn_95 (by rw [(show kd (6 * i7 + 1773) = (0, 0, false) from (kd_D (k := i7) (c := 3) (by omega) (by omega) (by decide)))])
                          have ksn_105 := KS.w en_105 ksn_95 (by unfold tS; omega)
                          have e106 : n_105 8 = nI kc8 := by rw [en_105, pk_un (by omega)]; exact e96
                          have e107 : n_105 6 = nI k8 := by rw [en_105, pk_un (by omega)]; exact e97
                          have e108 : n_105 (6 * i7 + 1771) = x11 := by rw [en_105, pk_un (by omega)]; exact e98
                          have e109 : n_105 (6 * i7 + 1770) = x10 + x12 := by rw [en_105, pk_un (by omega)]; exact e99
                          have e110 : n_105 (6 * i7 + 1772) = x100 := by rw [en_105, pk_un (by omega)]; exact ex100
                          have e111 : n_105 9 = x102 := by rw [en_105, pk_un (by omega)]; exact ex102
                          have e112 : n_105 (6 * i7 + 1773) = x104 + (nI 1) := by rw [en_105, pk_us]
                          refine pm_aloadn hG dX12_quarter_330 rfl ?_
                          refine pm_getf hG dX12_quarter_331 (flX12_7 _ rfl) rfl rfl ?_
                          refine pm_iloadn hG dX12_quarter_334 rfl ?_
                          refine pm_iconst (v := nI 3) hG dX12_quarter_335 (by decide) ?_
                          refine pm_iaddN (c := 6 * i7 + 1773) hG dX12_quarter_336 (by omega) ?_
                          refine pm_ialdN hG dX12_quarter_337 rfl (by decide) (by omega) ?_
                          refine pm_top (v := x104 + (nI 1)) e112 ?_
                          refine pm_iconst (v := nI 2) hG dX12_quarter_338 (by decide) ?_
                          refine pm_icmp_ne (tgt := 363) hG dX12_quarter_339 rfl (fun c113 => ?_) (fun c113 => ?_)
                          · refine pm_iincX (v := nI (i7 + 1)) (loc' := [some (.ref (B + 54)), some (.int (nI (i7 + 1))), some (.int (nI (6 * i7 + 1770))), some (.int (x10 + x12)), some (.int x100)]) hG dX12_quarter_363 rfl (nI_1 _) (by decide) (pm_c1b rfl) rfl ?_
                            refine pm_goto (tgt := 180) hG dX12_quarter_366 rfl ?_
                            refine pm_fg 2 (loc' := [some (.ref (B + 54)), some (.int (nI (i7 + 1))), none, some (.int (x10 + x12)), some (.int x100)]) rfl ?_
                            refine pm_fg 3 (loc' := [some (.ref (B + 54)), some (.int (nI (i7 + 1))), none, none, some (.int x100)]) rfl ?_
                            refine pm_fg 4 (loc' := [some (.ref (B + 54)), some (.int (nI (i7 + 1))), none, none, none]) rfl ?_
                            exact ih7 n_105 (i7 + 1) hnn_105 ksn_105 hrn_105 (e106.trans (congrArg nI (by omega))) (by omega) (by omega)
                          · refine pm_aloadn hG dX12_quarter_342 rfl ?_
                            refine pm_getf hG dX12_quarter_343 (flX12_7 _ rfl) rfl rfl ?_
                            refine pm_bipush (v := nI 20) hG dX12_quarter_346 (by decide) ?_
                            refine pm_iconst (v := nI 3) hG dX12_quarter_348 (by decide) ?_
                            refine pm_aloadn hG dX12_quarter_349 rfl ?_
                            refine pm_getf hG dX12_quarter_350 (flX12_7 _ rfl) rfl rfl ?_
                            refine pm_iloadn hG dX12_quarter_353 rfl ?_
                            refine pm_iconst (v := nI 4) hG dX12_quarter_354 (by decide) ?_
                            refine pm_iaddN (c := 6 * i7 + 1774) hG dX12_quarter_355 (by omega) ?_
                            refine pm_ialdN hG dX12_quarter_356 rfl (by decide) (by omega) ?_
                            obtain ⟨k114, hk114, ek114⟩ := KI.nat hnn_105 (show kd (6 * i7 + 1774) = (1, 10, false) from (kd_D (k := i7) (c := 4) (by omega) (by omega) (by decide)))
                            refine pm_top (v := nI k114) ek114 ?_
                            refine pm_imulN (c := 3 * k114) hG dX12_quarter_357 (by omega) ?_
                            refine pm_iaddN (c := 3 * k114 + 20) hG dX12_quarter_358 (by omega) ?_
                            refine pm_iconst (v := nI 2) hG dX12_quarter_359 (by decide) ?_
                            refine pm_iaddN (c := 3 * k114 + 22) hG dX12_quarter_360 (by omega) ?_
                            refine pm_iconst (v := nI 1) hG dX12_quarter_361 (by decide) ?_
                            refine pm_iastN hG dX12_quarter_362 rfl (by decide) (by omega) ?_
                            refine mdn_now (fun n_115 en_115 => ?_)
                            have hnn_115 := KI.w en_115 hnn_105 (okv_f (show kd (3 * k114 + 22) = (0, 0, false) from (kd_T (k := k114) (c := 2) (by omega) (by omega) (by decide))))
                            have hrn_115 := NRx.w en_115 hrn_105 (by rw [(show kd (3 * k114 + 22) = (0, 0, false) from (kd_T (k := k114) (c := 2) (by omega) (by omega) (by decide)))])
                            have ksn_115 := KS.w en_115 ksn_105 (by unfold tS; omega)
                            have e116 : n_115 8 = nI kc8 := by rw [en_115, pk_un (by omega)]; exact e106
                            have e117 : n_115 6 = nI k8 := by rw [en_115, pk_un (by omega)]; exact e107
                            have e118 : n_115 (6 * i7 + 1771) = x11 := by rw [en_115, pk_un (by omega)]; exact e108
                            have e119 : n_115 (6 * i7 + 1770) = x10 + x12 := by rw [en_115, pk_un (by omega)]; exact e109
                            have e120 : n_115 (6 * i7 + 1772) = x100 := by rw [en_115, pk_un (by omega)]; exact e110
                            have e121 : n_115 9 = x102 := by rw [en_115, pk_un (by omega)]; exact e111
                            have e122 : n_115 (6 * i7 + 1773) = x104 + (nI 1) := by rw [en_115, pk_un (by omega)]; exact e112
                            have e123 : n_115 (6 * i7 + 1774) = nI k114 := by rw [en_115, pk_un (by omega)]; exact ek114
                            have e124 : n_115 (3 * k114 + 22) = nI 1 := by rw [en_115, pk_us]
                            refine pm_iincX (v := nI (i7 + 1)) (loc' := [some (.ref (B + 54)), some (.int (nI (i7 + 1))), some (.int (nI (6 * i7 + 1770))), some (.int (x10 + x12)), some (.int x100)]) hG dX12_quarter_363 rfl (nI_1 _) (by decide) (pm_c1b rfl) rfl ?_
                            refine pm_goto (tgt := 180) hG dX12_quarter_366 rfl ?_
                            refine pm_fg 2 (loc' := [some (.ref (B + 54)), some (.int (nI (i7 + 1))), none, some (.int (x10 + x12)), some (.int x100)]) rfl ?_
                            refine pm_fg 3 (loc' := [some (.ref (B + 54)), some (.int (nI (i7 + 1))), none, none, some (.int x100)]) rfl ?_
                            refine pm_fg 4 (loc' := [some (.ref (B + 54)), some (.int (nI (i7 + 1))), none, none, none]) rfl ?_
                            exact ih7 n_115 (i7 + 1) hnn_115 ksn_115 hrn_115 (e116.trans (congrArg nI (by omega))) (by omega) (by omega)
                        · refine pm_aloadn hG dX12_quarter_292 rfl ?_
                          refine pm_getf hG dX12_quarter_293 (flX12_7 _ rfl) rfl rfl ?_
                          refine pm_bipush (v := nI 9) hG dX12_quarter_296 (by decide) ?_
                          refine pm_dup2 hG dX12_quarter_298 rfl rfl ?_
                          refine pm_ialdN hG dX12_quarter_299 rfl (by decide) (by omega) ?_
                          refine pm_top (v := x102) ex102 ?_
                          refine pm_iloadi hG dX12_quarter_300 rfl ?_
                          refine pm_isub hG dX12_quarter_302 ?_
                          refine pm_iastN hG dX12_quarter_303 rfl (by decide) (by omega) ?_
                          refine mdn_now (fun n_125 en_125 => ?_)
                          have hnn_125 := KI.w en_125 hnn_95 (okv_f (show kd 9 = (0, 0, false) by decide))
                          have hrn_125 := NRx.w en_125 hrn_95 (by rw [(show kd 9 = (0, 0, false) by decide)])
                          have ksn_125 := KS.w en_125 ksn_95 (by unfold tS; omega)
                          have e126 : n_125 8 = nI kc8 := by rw [en_125, pk_un (by omega)]; exact e96
                          have e127 : n_125 6 = nI k8 := by rw [en_125, pk_un (by omega)]; exact e97
                          have e128 : n_125 (6 * i7 + 1771) = x11 := by rw [en_125, pk_un (by omega)]; exact e98
                          have e129 : n_125 (6 * i7 + 1770) = x10 + x12 := by rw [en_125, pk_un (by omega)]; exact e99
                          have e130 : n_125 (6 * i7 + 1772) = x100 := by rw [en_125, pk_un (by omega)]; exact ex100
                          have e131 : n_125 9 = x102 - x100 := by rw [en_125, pk_us]
                          refine pm_aloadn hG dX12_quarter_304 rfl ?_
                          refine pm_getf hG dX12_quarter_305 (flX12_7 _ rfl) rfl rfl ?_
                          refine pm_iloadn hG dX12_quarter_308 rfl ?_
                          refine pm_dup2 hG dX12_quarter_309 rfl rfl ?_
                          refine pm_ialdN hG dX12_quarter_310 rfl (by decide) (by omega) ?_
                          refine pm_top (v := x10 + x12) e129 ?_
                          refine pm_iloadi hG dX12_quarter_311 rfl ?_
                          refine pm_isub hG dX12_quarter_313 ?_
                          refine pm_iastN hG dX12_quarter_314 rfl (by decide) (by omega) ?_
                          refine mdn_now (fun n_132 en_132 => ?_)
                          have hnn_132 := KI.w en_132 hnn_125 (okv_f (show kd (6 * i7 + 1770) = (0, 0, false) from (kd_D (k := i7) (c := 0) (by omega) (by omega) (by decide))))
                          have hrn_132 := NRx.w en_132 hrn_125 (by rw [(show kd (6 * i7 + 1770) = (0, 0, false) from (kd_D (k := i7) (c := 0) (by omega) (by omega) (by decide)))])
                          have ksn_132 := KS.w en_132 ksn_125 (by unfold tS; omega)
                          have e133 : n_132 8 = nI kc8 := by rw [en_132, pk_un (by omega)]; exact e126
                          have e134 : n_132 6 = nI k8 := by rw [en_132, pk_un (by omega)]; exact e127
                          have e135 : n_132 (6 * i7 + 1771) = x11 := by rw [en_132, pk_un (by omega)]; exact e128
                          have e136 : n_132 (6 * i7 + 1772) = x100 := by rw [en_132, pk_un (by omega)]; exact e130
                          have e137 : n_132 9 = x102 - x100 := by rw [en_132, pk_un (by omega)]; exact e131
                          have e138 : n_132 (6 * i7 + 1770) = (x10 + x12) - x100 := by rw [en_132, pk_us]
                          refine pm_goto (tgt := 363) hG dX12_quarter_315 rfl ?_
                          refine pm_iincX (v := nI (i7 + 1)) (loc' := [some (.ref (B + 54)), some (.int (nI (i7 + 1))), some (.int (nI (6 * i7 + 1770))), some (.int (x10 + x12)), some (.int x100)]) hG dX12_quarter_363 rfl (nI_1 _) (by decide) (pm_c1b rfl) rfl ?_
                          refine pm_goto (tgt := 180) hG dX12_quarter_366 rfl ?_
                          refine pm_fg 2 (loc' := [some (.ref (B + 54)), some (.int (nI (i7 + 1))), none, some (.int (x10 + x12)), some (.int x100)]) rfl ?_
                          refine pm_fg 3 (loc' := [some (.ref (B + 54)), some (.int (nI (i7 + 1))), none, none, some (.int x100)]) rfl ?_
                          refine pm_fg 4 (loc' := [some (.ref (B + 54)), some (.int (nI (i7 + 1))), none, none, none]) rfl ?_
                          exact ih7 n_132 (i7 + 1) hnn_132 ksn_132 hrn_132 (e133.trans (congrArg nI (by omega))) (by omega) (by omega)
                      · refine pm_aloadn hG dX12_quarter_261 rfl ?_
                        refine pm_getf hG dX12_quarter_262 (flX12_7 _ rfl) rfl rfl ?_
                        refine pm_iloadn hG dX12_quarter_265 rfl ?_
                        refine pm_ialdN hG dX12_quarter_266 rfl (by decide) (by omega) ?_
                        refine pm_top (v := x10 + x12) e99 ?_
                        refine pm_goto (tgt := 278) hG dX12_quarter_267 rfl ?_
                        refine pm_istoreXi (loc' := [some (.ref (B + 54)), some (.int (nI i7)), some (.int (nI (6 * i7 + 1770))), some (.int (x10 + x12)), some (.int (x10 + x12))]) hG dX12_quarter_278 (by decide) (pm_c1b rfl) rfl ?_
                        refine pm_aloadn hG dX12_quarter_280 rfl ?_
                        refine pm_getf hG dX12_quarter_281 (flX12_7 _ rfl) rfl rfl ?_
                        refine pm_bipush (v := nI 9) hG dX12_quarter_284 (by decide) ?_
                        refine pm_ialdN hG dX12_quarter_286 rfl (by decide) (by omega) ?_
                        refine pm_gen (fun x139 ex139 => ?_)
                        refine pm_iloadi hG dX12_quarter_287 rfl ?_
                        refine pm_icmp_lt (tgt := 318) hG dX12_quarter_289 rfl (fun c140 => ?_) (fun c140 => ?_)
                        · refine pm_aloadn hG dX12_quarter_318 rfl ?_
                          refine pm_getf hG dX12_quarter_319 (flX12_7 _ rfl) rfl rfl ?_
                          refine pm_iloadn hG dX12_quarter_322 rfl ?_
                          refine pm_iconst (v := nI 3) hG dX12_quarter_323 (by decide) ?_
                          refine pm_iaddN (c := 6 * i7 + 1773) hG dX12_quarter_324 (by omega) ?_
                          refine pm_dup2 hG dX12_quarter_325 rfl rfl ?_
                          refine pm_ialdN hG dX12_quarter_326 rfl (by decide) (by omega) ?_
                          refine pm_gen (fun x141 ex141 => ?_)
                          refine pm_iconst (v := nI 1) hG dX12_quarter_327 (by decide) ?_
                          refine pm_iadd hG dX12_quarter_328 ?_
                          refine pm_iastN hG dX12_quarter_329 rfl (by decide) (by omega) ?_
                          refine mdn_now (fun n_142 en_142 => ?_)
                          have hnn_142 := KI.w en_142 hnn_95 (okv_f (show kd (6 * i7 + 1773) = (0, 0, false) from (kd_D (k := i7) (c := 3) (by omega) (by omega) (by decide))))
                          have hrn_142 := NRx.w en_142 hrn_95 (by rw [(show kd (6 * i7 + 1773) = (0, 0, false) from (kd_D (k := i7) (c := 3) (by omega) (by omega) (by decide)))])
                          have ksn_142 := KS.w en_142 ksn_95 (by unfold tS; omega)
                          have e143 : n_142 8 = nI kc8 := by rw [en_142, pk_un (by omega)]; exact e96
                          have e144 : n_142 6 = nI k8 := by rw [en_142, pk_un (by omega)]; exact e97
                          have e145 : n_142 (6 * i7 + 1771) = x11 := by rw [en_142, pk_un (by omega)]; exact e98
                          have e146 : n_142 (6 * i7 + 1770) = x10 + x12 := by rw [en_142, pk_un (by omega)]; exact e99
                          have e147 : n_142 (6 * i7 + 1772) = x100 := by rw [en_142, pk_un (by omega)]; exact ex100
                          have e148 : n_142 9 = x139 := by rw [en_142, pk_un (by omega)]; exact ex139
                          have e149 : n_142 (6 * i7 + 1773) = x141 + (nI 1) := by rw [en_142, pk_us]
                          refine pm_aloadn hG dX12_quarter_330 rfl ?_
                          refine pm_getf hG dX12_quarter_331 (flX12_7 _ rfl) rfl rfl ?_
                          refine pm_iloadn hG dX12_quarter_334 rfl ?_
                          refine pm_iconst (v := nI 3) hG dX12_quarter_335 (by decide) ?_
                          refine pm_iaddN (c := 6 * i7 + 1773) hG dX12_quarter_336 (by omega) ?_
                          refine pm_ialdN hG dX12_quarter_337 rfl (by decide) (by omega) ?_
                          refine pm_top (v := x141 + (nI 1)) e149 ?_
                          refine pm_iconst (v := nI 2) hG dX12_quarter_338 (by decide) ?_
                          refine pm_icmp_ne (tgt := 363) hG dX12_quarter_339 rfl (fun c150 => ?_) (fun c150 => ?_)
                          · refine pm_iincX (v := nI (i7 + 1)) (loc' := [some (.ref (B + 54)), some (.int (nI (i7 + 1))), some (.int (nI (6 * i7 + 1770))), some (.int (x10 + x12)), some (.int (x10 + x12))]) hG dX12_quarter_363 rfl (nI_1 _) (by decide) (pm_c1b rfl) rfl ?_
                            refine pm_goto (tgt := 180) hG dX12_quarter_366 rfl ?_
                            refine pm_fg 2 (loc' := [some (.ref (B + 54)), some (.int (nI (i7 + 1))), none, some (.int (x10 + x12)), some (.int (x10 + x12))]) rfl ?_
                            refine pm_fg 3 (loc' := [some (.ref (B + 54)), some (.int (nI (i7 + 1))), none, none, some (.int (x10 + x12))]) rfl ?_
                            refine pm_fg 4 (loc' := [some (.ref (B + 54)), some (.int (nI (i7 + 1))), none, none, none]) rfl ?_
                            exact ih7 n_142 (i7 + 1) hnn_142 ksn_142 hrn_142 (e143.trans (congrArg nI (by omega))) (by omega) (by omega)
                          · refine pm_aloadn hG dX12_quarter_342 rfl ?_
                            refine pm_getf hG dX12_quarter_343 (flX12_7 _ rfl) rfl rfl ?_
                            refine pm_bipush (v := nI 20) hG dX12_quarter_346 (by decide) ?_
                            refine pm_iconst (v := nI 3) hG dX12_quarter_348 (by decide) ?_
                            refine pm_aloadn hG dX12_quarter_349 rfl ?_
                            refine pm_getf hG dX12_quarter_350 (flX12_7 _ rfl) rfl rfl ?_
                            refine pm_iloadn hG dX12_quarter_353 rfl ?_
                            refine pm_iconst (v := nI 4) hG dX12_quarter_354 (by decide) ?_
                            refine pm_iaddN (c := 6 * i7 + 1774) hG dX12_quarter_355 (by omega) ?_
                            refine pm_ialdN hG dX12_quarter_356 rfl (by decide) (by omega) ?_
                            obtain ⟨k151, hk151, ek151⟩ := KI.nat hnn_142 (show kd (6 * i7 + 1774) = (1, 10, false) from (kd_D (k := i7) (c := 4) (by omega) (by omega) (by decide)))
                            refine pm_top (v := nI k151) ek151 ?_
                            refine pm_imulN (c := 3 * k151) hG dX12_quarter_357 (by omega) ?_
                            refine pm_iaddN (c := 3 * k151 + 20) hG dX12_quarter_358 (by omega) ?_
                            refine pm_iconst (v := nI 2) hG dX12_quarter_359 (by decide) ?_
                            refine pm_iaddN (c := 3 * k151 + 22) hG dX12_quarter_360 (by omega) ?_
                            refine pm_iconst (v := nI 1) hG dX12_quarter_361 (by decide) ?_
                            refine pm_iastN hG dX12_quarter_362 rfl (by decide) (by omega) ?_
                            refine mdn_now (fun n_152 en_152 => ?_)
                            have hnn_152 := KI.w en_152 hnn_142 (okv_f (show kd (3 * k151 + 22) = (0, 0, false) from (kd_T (k := k151) (c := 2) (by omega) (by omega) (by decide))))
                            have hrn_152 := NRx.w en_152 hrn_142 (by rw [(show kd (3 * k151 + 22) = (0, 0, false) from (kd_T (k := k151) (c := 2) (by omega) (by omega) (by decide)))])
                            have ksn_152 := KS.w en_152 ksn_142 (by unfold tS; omega)
                            have e153 : n_152 8 = nI kc8 := by rw [en_152, pk_un (by omega)]; exact e143
                            have e154 : n_152 6 = nI k8 := by rw [en_152, pk_un (by omega)]; exact e144
                            have e155 : n_152 (6 * i7 + 1771) = x11 := by rw [en_152, pk_un (by omega)]; exact e145
                            have e156 : n_152 (6 * i7 + 1770) = x10 + x12 := by rw [en_152, pk_un (by omega)]; exact e146
                            have e157 : n_152 (6 * i7 + 1772) = x100 := by rw [en_152, pk_un (by omega)]; exact e147
                            have e158 : n_152 9 = x139 := by rw [en_152, pk_un (by omega)]; exact e148
                            have e159 : n_152 (6 * i7 + 1773) = x141 + (nI 1) := by rw [en_152, pk_un (by omega)]; exact e149
                            have e160 : n_152 (6 * i7 + 1774) = nI k151 := by rw [en_152, pk_un (by omega)]; exact ek151
                            have e161 : n_152 (3 * k151 + 22) = nI 1 := by rw [en_152, pk_us]
                            refine pm_iincX (v := nI (i7 + 1)) (loc' := [some (.ref (B + 54)), some (.int (nI (i7 + 1))), some (.int (nI (6 * i7 + 1770))), some (.int (x10 + x12)), some (.int (x10 + x12))]) hG dX12_quarter_363 rfl (nI_1 _) (by decide) (pm_c1b rfl) rfl ?_
                            refine pm_goto (tgt := 180) hG dX12_quarter_366 rfl ?_
                            refine pm_fg 2 (loc' := [some (.ref (B + 54)), some (.int (nI (i7 + 1))), none, some (.int (x10 + x12)), some (.int (x10 + x12))]) rfl ?_
                            refine pm_fg 3 (loc' := [some (.ref (B + 54)), some (.int (nI (i7 + 1))), none, none, some (.int (x10 + x12))]) rfl ?_
                            refine pm_fg 4 (loc' := [some (.ref (B + 54)), some (.int (nI (i7 + 1))), none, none, none]) rfl ?_
                            exact ih7 n_152 (i7 + 1) hnn_152 ksn_152 hrn_152 (e153.trans (congrArg nI (by omega))) (by omega) (by omega)
                        · refine pm_aloadn hG dX12_quarter_292 rfl ?_
                          refine pm_getf hG dX12_quarter_293 (flX12_7 _ rfl) rfl rfl ?_
                          refine pm_bipush (v := nI 9) hG dX12_quarter_296 (by decide) ?_
                          refine pm_dup2 hG dX12_quarter_298 rfl rfl ?_
                          refine pm_ialdN hG dX12_quarter_299 rfl (by decide) (by omega) ?_
                          refine pm_top (v := x139) ex139 ?_
                          refine pm_iloadi hG dX12_quarter_300 rfl ?_
                          refine pm_isub hG dX12_quarter_302 ?_
                          refine pm_iastN hG dX12_quarter_303 rfl (by decide) (by omega) ?_
                          refine mdn_now (fun n_162 en_162 => ?_)
                          have hnn_162 := KI.w en_162 hnn_95 (okv_f (show kd 9 = (0, 0, false) by decide))
                          have hrn_162 := NRx.w en_162 hrn_95 (by rw [(show kd 9 = (0, 0, false) by decide)])
                          have ksn_162 := KS.w en_162 ksn_95 (by unfold tS; omega)
                          have e163 : n_162 8 = nI kc8 := by rw [en_162, pk_un (by omega)]; exact e96
                          have e164 : n_162 6 = nI k8 := by rw [en_162, pk_un (by omega)]; exact e97
                          have e165 : n_162 (6 * i7 + 1771) = x11 := by rw [en_162, pk_un (by omega)]; exact e98
                          have e166 : n_162 (6 * i7 + 1770) = x10 + x12 := by rw [en_162, pk_un (by omega)]; exact e99
                          have e167 : n_162 (6 * i7 + 1772) = x100 := by rw [en_162, pk_un (by omega)]; exact ex100
                          have e168 : n_162 9 = x139 - (x10 + x12) := by rw [en_162, pk_us]
                          refine pm_aloadn hG dX12_quarter_304 rfl ?_
                          refine pm_getf hG dX12_quarter_305 (flX12_7 _ rfl) rfl rfl ?_
                          refine pm_iloadn hG dX12_quarter_308 rfl ?_
                          refine pm_dup2 hG dX12_quarter_309 rfl rfl ?_
                          refine pm_ialdN hG dX12_quarter_310 rfl (by decide) (by omega) ?_
                          refine pm_top (v := x10 + x12) e166 ?_
                          refine pm_iloadi hG dX12_quarter_311 rfl ?_
                          refine pm_isub hG dX12_quarter_313 ?_
                          refine pm_iastN hG dX12_quarter_314 rfl (by decide) (by omega) ?_
                          refine mdn_now (fun n_169 en_169 => ?_)
                          have hnn_169 := KI.w en_169 hnn_162 (okv_f (show kd (6 * i7 + 1770) = (0, 0, false) from (kd_D (k := i7) (c := 0) (by omega) (by omega) (by decide))))
                          have hrn_169 := NRx.w en_169 hrn_162 (by rw [(show kd (6 * i7 + 1770) = (0, 0, false) from (kd_D (k := i7) (c := 0) (by omega) (by omega) (by decide)))])
                          have ksn_169 := KS.w en_169 ksn_162 (by unfold tS; omega)
                          have e170 : n_169 8 = nI kc8 := by rw [en_169, pk_un (by omega)]; exact e163
                          have e171 : n_169 6 = nI k8 := by rw [en_169, pk_un (by omega)]; exact e164
                          have e172 : n_169 (6 * i7 + 1771) = x11 := by rw [en_169, pk_un (by omega)]; exact e165
                          have e173 : n_169 (6 * i7 + 1772) = x100 := by rw [en_169, pk_un (by omega)]; exact e167
                          have e174 : n_169 9 = x139 - (x10 + x12) := by rw [en_169, pk_un (by omega)]; exact e168
                          have e175 : n_169 (6 * i7 + 1770) = (x10 + x12) - (x10 + x12) := by rw [en_169, pk_us]
                          refine pm_goto (tgt := 363) hG dX12_quarter_315 rfl ?_
                          refine pm_iincX (v := nI (i7 + 1)) (loc' := [some (.ref (B + 54)), some (.int (nI (i7 + 1))), some (.int (nI (6 * i7 + 1770))), some (.int (x10 + x12)), some (.int (x10 + x12))]) hG dX12_quarter_363 rfl (nI_1 _) (by decide) (pm_c1b rfl) rfl ?_
                          refine pm_goto (tgt := 180) hG dX12_quarter_366 rfl ?_
                          refine pm_fg 2 (loc' := [some (.ref (B + 54)), some (.int (nI (i7 + 1))), none, some (.int (x10 + x12)), some (.int (x10 + x12))]) rfl ?_
                          refine pm_fg 3 (loc' := [some (.ref (B + 54)), some (.int (nI (i7 + 1))), none, none, some (.int (x10 + x12))]) rfl ?_
                          refine pm_fg 4 (loc' := [some (.ref (B + 54)), some (.int (nI (i7 + 1))), none, none, none]) rfl ?_
                          exact ih7 n_169 (i7 + 1) hnn_169 ksn_169 hrn_169 (e170.trans (congrArg nI (by omega))) (by omega) (by omega)
              exact loop180_7 _ n_4 0 hnn_4 ksn_4 hrn_4 (kc4_8.trans (congrArg nI (by omega))) (by omega) (Nat.lt_succ_self _)
            · refine pm_aloadn hG dX12_quarter_113 rfl ?_
              refine pm_iloadn hG dX12_quarter_114 rfl ?_
              refine pm_bipush (v := nI 7) hG dX12_quarter_115 (by decide) ?_
              refine pm_callV (As := [.int (nI i4), .int (nI 7)]) (rest := []) hG hR dX12_quarter_117 (lkX12_72 _ rfl) okV_X12_man rfl rfl (m_man (d := 1) (e := 14 * i4 + 117) (by omega) (by omega) (by omega)) rfl rfl hdd (Nat.le_refl _) (Nat.le_refl _) (by decide) (pm_ki (fun v176 σ' cnt' hq => ?_))
              obtain ⟨rfl, rfl, rfl⟩ := hq
              refine pm_gen (fun x177 ex177 => ?_)
              refine pm_aloadn hG dX12_quarter_120 rfl ?_
              refine pm_iloadn hG dX12_quarter_121 rfl ?_
              refine pm_bipush (v := nI 8) hG dX12_quarter_122 (by decide) ?_
              refine pm_callV (As := [.int (nI i4), .int (nI 8)]) (rest := [.int x177]) hG hR dX12_quarter_124 (lkX12_72 _ rfl) okV_X12_man rfl rfl (m_man (d := 1) (e := 14 * i4 + 118) (by omega) (by omega) (by omega)) rfl rfl hdd (Nat.le_refl _) (Nat.le_refl _) (Nat.le_of_ble_eq_true rfl) (pm_ki (fun v178 σ' cnt' hq => ?_))
              obtain ⟨rfl, rfl, rfl⟩ := hq
              refine pm_gen (fun x179 ex179 => ?_)
              refine pm_icmp_ge (tgt := 140) hG dX12_quarter_127 rfl (fun c180 => ?_) (fun c180 => ?_)
              · refine pm_aloadn hG dX12_quarter_140 rfl ?_
                refine pm_iloadn hG dX12_quarter_141 rfl ?_
                refine pm_bipush (v := nI 8) hG dX12_quarter_142 (by decide) ?_
                refine pm_callV (As := [.int (nI i4), .int (nI 8)]) (rest := []) hG hR dX12_quarter_144 (lkX12_72 _ rfl) okV_X12_man rfl rfl (m_man (d := 1) (e := 14 * i4 + 118) (by omega) (by omega) (by omega)) rfl rfl hdd (Nat.le_refl _) (Nat.le_refl _) (by decide) (pm_ki (fun v181 σ' cnt' hq => ?_))
                obtain ⟨rfl, rfl, rfl⟩ := hq
                refine pm_top (v := x179) ex179 ?_
                refine pm_istoreXn (loc' := [some (.ref (B + 54)), some (.int (nI i4)), some (.int x179), none, none]) hG dX12_quarter_147 (by decide) (pm_c1b rfl) rfl ?_
                refine pm_aloadn hG dX12_quarter_148 rfl ?_
                refine pm_iloadn hG dX12_quarter_149 rfl ?_
                refine pm_bipush (v := nI 7) hG dX12_quarter_150 (by decide) ?_
                refine pm_aloadn hG dX12_quarter_152 rfl ?_
                refine pm_iloadn hG dX12_quarter_153 rfl ?_
                refine pm_bipush (v := nI 7) hG dX12_quarter_154 (by decide) ?_
                refine pm_callV (As := [.int (nI i4), .int (nI 7)]) (rest := [.int (nI 7), .int (nI i4), .ref (B + 54)]) hG hR dX12_quarter_156 (lkX12_72 _ rfl) okV_X12_man rfl rfl (m_man (d := 1) (e := 14 * i4 + 117) (by omega) (by omega) (by omega)) rfl rfl hdd (Nat.le_refl _) (Nat.le_refl _) (Nat.le_of_ble_eq_true rfl) (pm_ki (fun v182 σ' cnt' hq => ?_))
                obtain ⟨rfl, rfl, rfl⟩ := hq
                refine pm_top (v := x177) ex177 ?_
                refine pm_iloadn hG dX12_quarter_159 rfl ?_
                refine pm_isub hG dX12_quarter_160 ?_
                refine pm_callV (As := [.int (nI i4), .int (nI 7), .int (x177 - x179)]) (rest := []) hG hR dX12_quarter_161 (lkX12_97 _ rfl) okV_X12_sets rfl rfl (m_sets (d := 1) (e := 14 * i4 + 117) (by omega) (by omega) (by omega)) rfl rfl hdd (Nat.le_refl _) (Nat.le_refl _) (by decide) (pm_kv (fun σ' cnt' hq => ?_))
                obtain ⟨rfl, rfl⟩ := hq
                obtain ⟨n_183, en_183⟩ : ∃ f : Nat → Int32, f = upd n_4 (14 * i4 + 117) (x177 - x179) := ⟨_, rfl⟩
                rw [← en_183]
                have hnn_183 := KI.w en_183 hnn_4 (okv_f (show kd (14 * i4 + 117) = (0, 0, false) from (kd_P (k := i4) (c := 7) (by omega) (by omega) (by decide))))
                have hrn_183 := NRx.w en_183 hrn_4 (by rw [(show kd (14 * i4 + 117) = (0, 0, false) from (kd_P (k := i4) (c := 7) (by omega) (by omega) (by decide)))])
                have ksn_183 := KS.w en_183 ksn_4 (by unfold tS; omega)
                have e184 : n_183 8 = nI kc8 := by rw [en_183, pk_un (by omega)]; exact kc4_8
                have e185 : n_183 2 = nI k5 := by rw [en_183, pk_un (by omega)]; exact ek5
                have e186 : n_183 (14 * i4 + 118) = x179 := by rw [en_183, pk_un (by omega)]; exact ex179
                have e187 : n_183 (14 * i4 + 117) = x177 - x179 := by rw [en_183, pk_us]
                refine pm_aloadn hG dX12_quarter_164 rfl ?_
                refine pm_iloadn hG dX12_quarter_165 rfl ?_
                refine pm_bipush (v := nI 8) hG dX12_quarter_166 (by decide) ?_
                refine pm_iloadn hG dX12_quarter_168 rfl ?_
                refine pm_callV (As := [.int (nI i4), .int (nI 8), .int x179]) (rest := []) hG hR dX12_quarter_169 (lkX12_97 _ rfl) okV_X12_sets rfl rfl (m_sets (d := 1) (e := 14 * i4 + 118) (by omega) (by omega) (by omega)) rfl rfl hdd (Nat.le_refl _) (Nat.le_refl _) (by decide) (pm_kv (fun σ' cnt' hq => ?_))
                obtain ⟨rfl, rfl⟩ := hq
                obtain ⟨n_188, en_188⟩ : ∃ f : Nat → Int32, f = upd n_183 (14 * i4 + 118) x179 := ⟨_, rfl⟩
                rw [← en_188]
                have hnn_188 := KI.w en_188 hnn_183 (okv_f (show kd (14 * i4 + 118) = (0, 0, false) from (kd_P (k := i4) (c := 8) (by omega) (by omega) (by decide))))
                have hrn_188 := NRx.w en_188 hrn_183 (by rw [(show kd (14 * i4 + 118) = (0, 0, false) from (kd_P (k := i4) (c := 8) (by omega) (by omega) (by decide)))])
                have ksn_188 := KS.w en_188 ksn_183 (by unfold tS; omega)
                have e189 : n_188 8 = nI kc8 := by rw [en_188, pk_un (by omega)]; exact e184
                have e190 : n_188 2 = nI k5 := by rw [en_188, pk_un (by omega)]; exact e185
                have e191 : n_188 (14 * i4 + 117) = x177 - x179 := by rw [en_188, pk_un (by omega)]; exact e187
                have e192 : n_188 (14 * i4 + 118) = x179 := by rw [en_188, pk_us]
                refine pm_iincX (v := nI (i4 + 1)) (loc' := [some (.ref (B + 54)), some (.int (nI (i4 + 1))), some (.int x179), none, none]) hG dX12_quarter_172 rfl (nI_1 _) (by decide) (pm_c1b rfl) rfl ?_
                refine pm_goto (tgt := 103) hG dX12_quarter_175 rfl ?_
                refine pm_fg 2 (loc' := [some (.ref (B + 54)), some (.int (nI (i4 + 1))), none, none, none]) rfl ?_
                exact ih4 n_188 (i4 + 1) hnn_188 ksn_188 hrn_188 (e189.trans (congrArg nI (by omega))) (by omega) (by omega)
              · refine pm_aloadn hG dX12_quarter_130 rfl ?_
                refine pm_iloadn hG dX12_quarter_131 rfl ?_
                refine pm_bipush (v := nI 7) hG dX12_quarter_132 (by decide) ?_
                refine pm_callV (As := [.int (nI i4), .int (nI 7)]) (rest := []) hG hR dX12_quarter_134 (lkX12_72 _ rfl) okV_X12_man rfl rfl (m_man (d := 1) (e := 14 * i4 + 117) (by omega) (by omega) (by omega)) rfl rfl hdd (Nat.le_refl _) (Nat.le_refl _) (by decide) (pm_ki (fun v193 σ' cnt' hq => ?_))
                obtain ⟨rfl, rfl, rfl⟩ := hq
                refine pm_top (v := x177) ex177 ?_
                refine pm_goto (tgt := 147) hG dX12_quarter_137 rfl ?_
                refine pm_istoreXn (loc' := [some (.ref (B + 54)), some (.int (nI i4)), some (.int x177), none, none]) hG dX12_quarter_147 (by decide) (pm_c1b rfl) rfl ?_
                refine pm_aloadn hG dX12_quarter_148 rfl ?_
                refine pm_iloadn hG dX12_quarter_149 rfl ?_
                refine pm_bipush (v := nI 7) hG dX12_quarter_150 (by decide) ?_
                refine pm_aloadn hG dX12_quarter_152 rfl ?_
                refine pm_iloadn hG dX12_quarter_153 rfl ?_
                refine pm_bipush (v := nI 7) hG dX12_quarter_154 (by decide) ?_
                refine pm_callV (As := [.int (nI i4), .int (nI 7)]) (rest := [.int (nI 7), .int (nI i4), .ref (B + 54)]) hG hR dX12_quarter_156 (lkX12_72 _ rfl) okV_X12_man rfl rfl (m_man (d := 1) (e := 14 * i4 + 117) (by omega) (by omega) (by omega)) rfl rfl hdd (Nat.le_refl _) (Nat.le_refl _) (Nat.le_of_ble_eq_true rfl) (pm_ki (fun v194 σ' cnt' hq => ?_))
                obtain ⟨rfl, rfl, rfl⟩ := hq
                refine pm_top (v := x177) ex177 ?_
                refine pm_iloadn hG dX12_quarter_159 rfl ?_
                refine pm_isub hG dX12_quarter_160 ?_
                refine pm_callV (As := [.int (nI i4), .int (nI 7), .int (x177 - x177)]) (rest := []) hG hR dX12_quarter_161 (lkX12_97 _ rfl) okV_X12_sets rfl rfl (m_sets (d := 1) (e := 14 * i4 + 117) (by omega) (by omega) (by omega)) rfl rfl hdd (Nat.le_refl _) (Nat.le_refl _) (by decide) (pm_kv (fun σ' cnt' hq => ?_))
                obtain ⟨rfl, rfl⟩ := hq
                obtain ⟨n_195, en_195⟩ : ∃ f : Nat → Int32, f = upd n_4 (14 * i4 + 117) (x177 - x177) := ⟨_, rfl⟩
                rw [← en_195]
                have hnn_195 := KI.w en_195 hnn_4 (okv_f (show kd (14 * i4 + 117) = (0, 0, false) from (kd_P (k := i4) (c := 7) (by omega) (by omega) (by decide))))
                have hrn_195 := NRx.w en_195 hrn_4 (by rw [(show kd (14 * i4 + 117) = (0, 0, false) from (kd_P (k := i4) (c := 7) (by omega) (by omega) (by decide)))])
                have ksn_195 := KS.w en_195 ksn_4 (by unfold tS; omega)
                have e196 : n_195 8 = nI kc8 := by rw [en_195, pk_un (by omega)]; exact kc4_8
                have e197 : n_195 2 = nI k5 := by rw [en_195, pk_un (by omega)]; exact ek5
                have e198 : n_195 (14 * i4 + 118) = x179 := by rw [en_195, pk_un (by omega)]; exact ex179
                have e199 : n_195 (14 * i4 + 117) = x177 - x177 := by rw [en_195, pk_us]
                refine pm_aloadn hG dX12_quarter_164 rfl ?_
                refine pm_iloadn hG dX12_quarter_165 rfl ?_
                refine pm_bipush (v := nI 8) hG dX12_quarter_166 (by decide) ?_
                refine pm_iloadn hG dX12_quarter_168 rfl ?_
                refine pm_callV (As := [.int (nI i4), .int (nI 8), .int x177]) (rest := []) hG hR dX12_quarter_169 (lkX12_97 _ rfl) okV_X12_sets rfl rfl (m_sets (d := 1) (e := 14 * i4 + 118) (by omega) (by omega) (by omega)) rfl rfl hdd (Nat.le_refl _) (Nat.le_refl _) (by decide) (pm_kv (fun σ' cnt' hq => ?_))
                obtain ⟨rfl, rfl⟩ := hq
                obtain ⟨n_200, en_200⟩ : ∃ f : Nat → Int32, f = upd n_195 (14 * i4 + 118) x177 := ⟨_, rfl⟩
                rw [← en_200]
                have hnn_200 := KI.w en_200 hnn_195 (okv_f (show kd (14 * i4 + 118) = (0, 0, false) from (kd_P (k := i4) (c := 8) (by omega) (by omega) (by decide))))
                have hrn_200 := NRx.w en_200 hrn_195 (by rw [(show kd (14 * i4 + 118) = (0, 0, false) from (kd_P (k := i4) (c := 8) (by omega) (by omega) (by decide)))])
                have ksn_200 := KS.w en_200 ksn_195 (by unfold tS; omega)
                have e201 : n_200 8 = nI kc8 := by rw [en_200, pk_un (by omega)]; exact e196
                have e202 : n_200 2 = nI k5 := by rw [en_200, pk_un (by omega)]; exact e197
                have e203 : n_200 (14 * i4 + 117) = x177 - x177 := by rw [en_200, pk_un (by omega)]; exact e199
                have e204 : n_200 (14 * i4 + 118) = x177 := by rw [en_200, pk_us]
                refine pm_iincX (v := nI (i4 + 1)) (loc' := [some (.ref (B + 54)), some (.int (nI (i4 + 1))), some (.int x177), none, none]) hG dX12_quarter_172 rfl (nI_1 _) (by decide) (pm_c1b rfl) rfl ?_
                refine pm_goto (tgt := 103) hG dX12_quarter_175 rfl ?_
                refine pm_fg 2 (loc' := [some (.ref (B + 54)), some (.int (nI (i4 + 1))), none, none, none]) rfl ?_
                exact ih4 n_200 (i4 + 1) hnn_200 ksn_200 hrn_200 (e201.trans (congrArg nI (by omega))) (by omega) (by omega)
        exact loop103_4 _ n_1 0 hnn_1 ksn_1 hrn_1 (kc1_8.trans (congrArg nI (by omega))) (by omega) (Nat.lt_succ_self _)
      · refine pm_bipush (v := nI 20) hG dX12_quarter_12 (by decide) ?_
        refine pm_iconst (v := nI 3) hG dX12_quarter_14 (by decide) ?_
        refine pm_iloadn hG dX12_quarter_15 rfl ?_
        refine pm_imulN (c := 3 * i1) hG dX12_quarter_16 (by omega) ?_
        refine pm_iaddN (c := 3 * i1 + 20) hG dX12_quarter_17 (by omega) ?_
        refine pm_istoreXn (loc' := [some (.ref (B + 54)), some (.int (nI i1)), some (.int (nI (3 * i1 + 20))), none, none]) hG dX12_quarter_18 (by decide) (pm_c1b rfl) rfl ?_
        refine pm_aloadn hG dX12_quarter_19 rfl ?_
        refine pm_getf hG dX12_quarter_20 (flX12_7 _ rfl) rfl rfl ?_
        refine pm_iloadn hG dX12_quarter_23 rfl ?_
        refine pm_iconst (v := nI 1) hG dX12_quarter_24 (by decide) ?_
        refine pm_iaddN (c := 3 * i1 + 21) hG dX12_quarter_25 (by omega) ?_
        refine pm_ialdN hG dX12_quarter_26 rfl (by decide) (by omega) ?_
        rcases KI.opt hnn_1 (show kd (3 * i1 + 21) = (2, 20, false) from (kd_T (k := i1) (c := 1) (by omega) (by omega) (by decide))) with ek205 | ⟨k205, hk205, ek205⟩
        · refine pm_top (v := (-1)) ek205 ?_
          refine pm_istoreXn (loc' := [some (.ref (B + 54)), some (.int (nI i1)), some (.int (nI (3 * i1 + 20))), some (.int (-1)), none]) hG dX12_quarter_27 (by decide) (pm_c1b rfl) rfl ?_
          refine pm_aloadn hG dX12_quarter_28 rfl ?_
          refine pm_getf hG dX12_quarter_29 (flX12_7 _ rfl) rfl rfl ?_
          refine pm_iloadn hG dX12_quarter_32 rfl ?_
          refine pm_iconst (v := nI 2) hG dX12_quarter_33 (by decide) ?_
          refine pm_iaddN (c := 3 * i1 + 22) hG dX12_quarter_34 (by omega) ?_
          refine pm_ialdN hG dX12_quarter_35 rfl (by decide) (by omega) ?_
          refine pm_gen (fun x206 ex206 => ?_)
          refine pm_iconst (v := nI 1) hG dX12_quarter_36 (by decide) ?_
          refine pm_icmp_ne (tgt := 43) hG dX12_quarter_37 rfl (fun c207 => ?_) (fun c207 => ?_)
          · refine pm_iloadn hG dX12_quarter_43 rfl ?_
            refine pm_if_lt (tgt := 79) hG dX12_quarter_44 rfl (fun _ => ?_) (fun q => absurd q (by decide))
            refine pm_aloadn hG dX12_quarter_79 rfl ?_
            refine pm_getf hG dX12_quarter_80 (flX12_7 _ rfl) rfl rfl ?_
            refine pm_bipush (v := nI 9) hG dX12_quarter_83 (by decide) ?_
            refine pm_dup2 hG dX12_quarter_85 rfl rfl ?_
            refine pm_ialdN hG dX12_quarter_86 rfl (by decide) (by omega) ?_
            refine pm_gen (fun x208 ex208 => ?_)
            refine pm_aloadn hG dX12_quarter_87 rfl ?_
            refine pm_getf hG dX12_quarter_88 (flX12_7 _ rfl) rfl rfl ?_
            refine pm_iloadn hG dX12_quarter_91 rfl ?_
            refine pm_ialdN hG dX12_quarter_92 rfl (by decide) (by omega) ?_
            refine pm_gen (fun x209 ex209 => ?_)
            refine pm_iadd hG dX12_quarter_93 ?_
            refine pm_iastN hG dX12_quarter_94 rfl (by decide) (by omega) ?_
            refine mdn_now (fun n_210 en_210 => ?_)
            have hnn_210 := KI.w en_210 hnn_1 (okv_f (show kd 9 = (0, 0, false) by decide))
            have hrn_210 := NRx.w en_210 hrn_1 (by rw [(show kd 9 = (0, 0, false) by decide)])
            have ksn_210 := KS.w en_210 ksn_1 (by unfold tS; omega)
            have e211 : n_210 8 = nI kc8 := by rw [en_210, pk_un (by omega)]; exact kc1_8
            have e212 : n_210 0 = nI k2 := by rw [en_210, pk_un (by omega)]; exact ek2
            have e213 : n_210 (3 * i1 + 21) = (-1) := by rw [en_210, pk_un (by omega)]; exact ek205
            have e214 : n_210 (3 * i1 + 22) = x206 := by rw [en_210, pk_un (by omega)]; exact ex206
            have e215 : n_210 (3 * i1 + 20) = x209 := by rw [en_210, pk_un (by omega)]; exact ex209
            have e216 : n_210 9 = x208 + x209 := by rw [en_210, pk_us]
            refine pm_iincX (v := nI (i1 + 1)) (loc' := [some (.ref (B + 54)), some (.int (nI (i1 + 1))), some (.int (nI (3 * i1 + 20))), some (.int (-1)), none]) hG dX12_quarter_95 rfl (nI_1 _) (by decide) (pm_c1b rfl) rfl ?_
            refine pm_goto (tgt := 2) hG dX12_quarter_98 rfl ?_
            refine pm_fg 2 (loc' := [some (.ref (B + 54)), some (.int (nI (i1 + 1))), none, some (.int (-1)), none]) rfl ?_
            refine pm_fg 3 (loc' := [some (.ref (B + 54)), some (.int (nI (i1 + 1))), none, none, none]) rfl ?_
            exact ih1 n_210 (i1 + 1) hnn_210 ksn_210 hrn_210 (e211.trans (congrArg nI (by omega))) (by omega) (by omega)
          · refine pm_goto (tgt := 95) hG dX12_quarter_40 rfl ?_
            refine pm_iincX (v := nI (i1 + 1)) (loc' := [some (.ref (B + 54)), some (.int (nI (i1 + 1))), some (.int (nI (3 * i1 + 20))), some (.int (-1)), none]) hG dX12_quarter_95 rfl (nI_1 _) (by decide) (pm_c1b rfl) rfl ?_
            refine pm_goto (tgt := 2) hG dX12_quarter_98 rfl ?_
            refine pm_fg 2 (loc' := [some (.ref (B + 54)), some (.int (nI (i1 + 1))), none, some (.int (-1)), none]) rfl ?_
            refine pm_fg 3 (loc' := [some (.ref (B + 54)), some (.int (nI (i1 + 1))), none, none, none]) rfl ?_
            exact ih1 n_1 (i1 + 1) hnn_1 ksn_1 hrn_1 (kc1_8.trans (congrArg nI (by omega))) (by omega) (by omega)
        · refine pm_top (v := nI k205) ek205 ?_
          refine pm_istoreXn (loc' := [some (.ref (B + 54)), some (.int (nI i1)), some (.int (nI (3 * i1 + 20))), some (.int (nI k205)), none]) hG dX12_quarter_27 (by decide) (pm_c1b rfl) rfl ?_
          refine pm_aloadn hG dX12_quarter_28 rfl ?_
          refine pm_getf hG dX12_quarter_29 (flX12_7 _ rfl) rfl rfl ?_
          refine pm_iloadn hG dX12_quarter_32 rfl ?_
          refine pm_iconst (v := nI 2) hG dX12_quarter_33 (by decide) ?_
          refine pm_iaddN (c := 3 * i1 + 22) hG dX12_quarter_34 (by omega) ?_
          refine pm_ialdN hG dX12_quarter_35 rfl (by decide) (by omega) ?_
          refine pm_gen (fun x217 ex217 => ?_)
          refine pm_iconst (v := nI 1) hG dX12_quarter_36 (by decide) ?_
          refine pm_icmp_ne (tgt := 43) hG dX12_quarter_37 rfl (fun c218 => ?_) (fun c218 => ?_)
          · refine pm_iloadn hG dX12_quarter_43 rfl ?_
            refine pm_ifN_lt hG dX12_quarter_44 rfl (by omega) ?_
            refine pm_aloadn hG dX12_quarter_47 rfl ?_
            refine pm_iloadn hG dX12_quarter_48 rfl ?_
            rcases KI.opt hnn_1 (show kd (14 * k205 + 119) = (2, 2001, false) from (kd_P (k := k205) (c := 9) (by omega) (by omega) (by decide))) with ek219 | ⟨k219, hk219, ek219⟩
            · refine pm_callV (As := [.int (nI k205)]) (rest := []) hG hR dX12_quarter_49 (lkX12_101 _ rfl) okV_X12_lives rfl rfl (m_lives1 (d := 1) (by decide) (by omega) (by omega : 14 * k205 + 119 = 14 * k205 + 119) ek219) rfl rfl hdd (Nat.le_refl _) (Nat.le_refl _) (by decide) (pm_ki (fun v220 σ' cnt' hq => ?_))
              obtain ⟨rfl, rfl, rfl⟩ := hq
              refine pm_ifN_eq (tgt := 79) hG dX12_quarter_52 rfl (by omega) (fun q => absurd q (by omega)) (fun _ => ?_)
              refine pm_aloadn hG dX12_quarter_55 rfl ?_
              refine pm_iloadn hG dX12_quarter_56 rfl ?_
              refine pm_bipush (v := nI 7) hG dX12_quarter_57 (by decide) ?_
              refine pm_aloadn hG dX12_quarter_59 rfl ?_
              refine pm_iloadn hG dX12_quarter_60 rfl ?_
              refine pm_bipush (v := nI 7) hG dX12_quarter_61 (by decide) ?_
              refine pm_callV (As := [.int (nI k205), .int (nI 7)]) (rest := [.int (nI 7), .int (nI k205), .ref (B + 54)]) hG hR dX12_quarter_63 (lkX12_72 _ rfl) okV_X12_man rfl rfl (m_man (d := 1) (e := 14 * k205 + 117) (by omega) (by omega) (by omega)) rfl rfl hdd (Nat.le_refl _) (Nat.le_refl _) (Nat.le_of_ble_eq_true rfl) (pm_ki (fun v221 σ' cnt' hq => ?_))
              obtain ⟨rfl, rfl, rfl⟩ := hq
              refine pm_gen (fun x222 ex222 => ?_)
              refine pm_aloadn hG dX12_quarter_66 rfl ?_
              refine pm_getf hG dX12_quarter_67 (flX12_7 _ rfl) rfl rfl ?_
              refine pm_iloadn hG dX12_quarter_70 rfl ?_
              refine pm_ialdN hG dX12_quarter_71 rfl (by decide) (by omega) ?_
              refine pm_gen (fun x223 ex223 => ?_)
              refine pm_iadd hG dX12_quarter_72 ?_
              refine pm_callV (As := [.int (nI k205), .int (nI 7), .int (x222 + x223)]) (rest := []) hG hR dX12_quarter_73 (lkX12_97 _ rfl) okV_X12_sets rfl rfl (m_sets (d := 1) (e := 14 * k205 + 117) (by omega) (by omega) (by omega)) rfl rfl hdd (Nat.le_refl _) (Nat.le_refl _) (by decide) (pm_kv (fun σ' cnt' hq => ?_))
              obtain ⟨rfl, rfl⟩ := hq
              obtain ⟨n_224, en_224⟩ : ∃ f : Nat → Int32, f = upd n_1 (14 * k205 + 117) (x222 + x223) := ⟨_, rfl⟩
              rw [← en_224]
              have hnn_224 := KI.w en_224 hnn_1 (okv_f (show kd (14 * k205 + 117) = (0, 0, false) from (kd_P (k := k205) (c := 7) (by omega) (by omega) (by decide))))
              have hrn_224 := NRx.w en_224 hrn_1 (by rw [(show kd (14 * k205 + 117) = (0, 0, false) from (kd_P (k := k205) (c := 7) (by omega) (by omega) (by decide)))])
              have ksn_224 := KS.w en_224 ksn_1 (by unfold tS; omega)
              have e225 : n_224 8 = nI kc8 := by rw [en_224, pk_un (by omega)]; exact kc1_8
              have e226 : n_224 0 = nI k2 := by rw [en_224, pk_un (by omega)]; exact ek2
              have e227 : n_224 (3 * i1 + 21) = nI k205 := by rw [en_224, pk_un (by omega)]; exact ek205
              have e228 : n_224 (3 * i1 + 22) = x217 := by rw [en_224, pk_un (by omega)]; exact ex217
              have e229 : n_224 (14 * k205 + 119) = (-1) := by rw [en_224, pk_un (by omega)]; exact ek219
              have e230 : n_224 (3 * i1 + 20) = x223 := by rw [en_224, pk_un (by omega)]; exact ex223
              have e231 : n_224 (14 * k205 + 117) = x222 + x223 := by rw [en_224, pk_us]
              refine pm_goto (tgt := 95) hG dX12_quarter_76 rfl ?_
              refine pm_iincX (v := nI (i1 + 1)) (loc' := [some (.ref (B + 54)), some (.int (nI (i1 + 1))), some (.int (nI (3 * i1 + 20))), some (.int (nI k205)), none]) hG dX12_quarter_95 rfl (nI_1 _) (by decide) (pm_c1b rfl) rfl ?_
              refine pm_goto (tgt := 2) hG dX12_quarter_98 rfl ?_
              refine pm_fg 2 (loc' := [some (.ref (B + 54)), some (.int (nI (i1 + 1))), none, some (.int (nI k205)), none]) rfl ?_
              refine pm_fg 3 (loc' := [some (.ref (B + 54)), some (.int (nI (i1 + 1))), none, none, none]) rfl ?_
              exact ih1 n_224 (i1 + 1) hnn_224 ksn_224 hrn_224 (e225.trans (congrArg nI (by omega))) (by omega) (by omega)
            · refine pm_callV (As := [.int (nI k205)]) (rest := []) hG hR dX12_quarter_49 (lkX12_101 _ rfl) okV_X12_lives rfl rfl (m_lives0 (d := 1) (by decide) (by omega) (by omega : 14 * k205 + 119 = 14 * k205 + 119) ek219 (by omega)) rfl rfl hdd (Nat.le_refl _) (Nat.le_refl _) (by decide) (pm_ki (fun v232 σ' cnt' hq => ?_))
              obtain ⟨rfl, rfl, rfl⟩ := hq
              refine pm_ifN_eq (tgt := 79) hG dX12_quarter_52 rfl (by omega) (fun _ => ?_) (fun q => absurd q (by omega))
              refine pm_aloadn hG dX12_quarter_79 rfl ?_
              refine pm_getf hG dX12_quarter_80 (flX12_7 _ rfl) rfl rfl ?_
              refine pm_bipush (v := nI 9) hG dX12_quarter_83 (by decide) ?_
              refine pm_dup2 hG dX12_quarter_85 rfl rfl ?_
              refine pm_ialdN hG dX12_quarter_86 rfl (by decide) (by omega) ?_
              refine pm_gen (fun x233 ex233 => ?_)
              refine pm_aloadn hG dX12_quarter_87 rfl ?_
              refine pm_getf hG dX12_quarter_88 (flX12_7 _ rfl) rfl rfl ?_
              refine pm_iloadn hG dX12_quarter_91 rfl ?_
              refine pm_ialdN hG dX12_quarter_92 rfl (by decide) (by omega) ?_
              refine pm_gen (fun x234 ex234 => ?_)
              refine pm_iadd hG dX12_quarter_93 ?_
              refine pm_iastN hG dX12_quarter_94 rfl (by decide) (by omega) ?_
              refine mdn_now (fun n_235 en_235 => ?_)
              have hnn_235 := KI.w en_235 hnn_1 (okv_f (show kd 9 = (0, 0, false) by decide))
              have hrn_235 := NRx.w en_235 hrn_1 (by rw [(show kd 9 = (0, 0, false) by decide)])
              have ksn_235 := KS.w en_235 ksn_1 (by unfold tS; omega)
              have e236 : n_235 8 = nI kc8 := by rw [en_235, pk_un (by omega)]; exact kc1_8
              have e237 : n_235 0 = nI k2 := by rw [en_235, pk_un (by omega)]; exact ek2
              have e238 : n_235 (3 * i1 + 21) = nI k205 := by rw [en_235, pk_un (by omega)]; exact ek205
              have e239 : n_235 (3 * i1 + 22) = x217 := by rw [en_235, pk_un (by omega)]; exact ex217
              have e240 : n_235 (14 * k205 + 119) = nI k219 := by rw [en_235, pk_un (by omega)]; exact ek219
              have e241 : n_235 (3 * i1 + 20) = x234 := by rw [en_235, pk_un (by omega)]; exact ex234
              have e242 : n_235 9 = x233 + x234 := by rw [en_235, pk_us]
              refine pm_iincX (v := nI (i1 + 1)) (loc' := [some (.ref (B + 54)), some (.int (nI (i1 + 1))), some (.int (nI (3 * i1 + 20))), some (.int (nI k205)), none]) hG dX12_quarter_95 rfl (nI_1 _) (by decide) (pm_c1b rfl) rfl ?_
              refine pm_goto (tgt := 2) hG dX12_quarter_98 rfl ?_
              refine pm_fg 2 (loc' := [some (.ref (B + 54)), some (.int (nI (i1 + 1))), none, some (.int (nI k205)), none]) rfl ?_
              refine pm_fg 3 (loc' := [some (.ref (B + 54)), some (.int (nI (i1 + 1))), none, none, none]) rfl ?_
              exact ih1 n_235 (i1 + 1) hnn_235 ksn_235 hrn_235 (e236.trans (congrArg nI (by omega))) (by omega) (by omega)
          · refine pm_goto (tgt := 95) hG dX12_quarter_40 rfl ?_
            refine pm_iincX (v := nI (i1 + 1)) (loc' := [some (.ref (B + 54)), some (.int (nI (i1 + 1))), some (.int (nI (3 * i1 + 20))), some (.int (nI k205)), none]) hG dX12_quarter_95 rfl (nI_1 _) (by decide) (pm_c1b rfl) rfl ?_
            refine pm_goto (tgt := 2) hG dX12_quarter_98 rfl ?_
            refine pm_fg 2 (loc' := [some (.ref (B + 54)), some (.int (nI (i1 + 1))), none, some (.int (nI k205)), none]) rfl ?_
            refine pm_fg 3 (loc' := [some (.ref (B + 54)), some (.int (nI (i1 + 1))), none, none, none]) rfl ?_
            exact ih1 n_1 (i1 + 1) hnn_1 ksn_1 hrn_1 (kc1_8.trans (congrArg nI (by omega))) (by omega) (by omega)
  exact loop2_1 _ n 0 hn KS.rf hr (ekc8.trans (congrArg nI (by omega))) (by omega) (Nat.lt_succ_self _)
