set_option maxRecDepth 100000 in
set_option maxHeartbeats 4000000 in
theorem m_plans_c3 {d B cnt p0 t0 : Nat} {σ : pm_S} {I : Nat → Int32} {A : Nat → Nat → Int32} {n k z : Nat → Int32} {ac wt pl im : Int32} {zb zc : Int32} {cz : Nat} (hdd : 6 ≤ d) (hn : KI n) (hz : SZ z) (hp0 : p0 < 4) (ez : z p0 = nI cz) (hcz : 3 ≤ cz ∧ cz ≤ 8) : pm_met mX12_plans d 0 0 B [.ref (B + 54), .int (nI 3), .int zb, .int zc] cnt (pm_mid σ (md_L B I A n k z ac wt pl (nI p0) (nI t0) im)) (pm_Qv (fun σ' cnt' => (∃ (I' : Nat → Int32) (A' : Nat → Nat → Int32), σ' = pm_mid σ (md_L B I' A' n k z ac wt pl (nI p0) (nI t0) im)) ∧ cnt = cnt')) := by
  refine pm_enter 3 (by decide) (Nat.le_of_ble_eq_true rfl) rfl (fun G hG hR hF => ?_)
  refine pm_iloadn hG dX12_plans_0 rfl ?_
  refine pm_aloadn hG dX12_plans_1 rfl ?_
  refine pm_getf hG dX12_plans_2 (flX12_58 _ rfl) rfl rfl ?_
  refine pm_aloadn hG dX12_plans_5 rfl ?_
  refine pm_getf hG dX12_plans_6 (flX12_270 _ rfl) rfl rfl ?_
  refine pm_ialdN hG dX12_plans_9 rfl (by decide) (by omega) ?_
  refine pm_top (v := nI cz) ez ?_
  refine pm_icmpN_ne (tgt := 124) hG dX12_plans_10 rfl (by omega) (by omega) (fun c1 => ?_) (fun c1 => ?_)
  · refine pm_iloadn hG dX12_plans_124 rfl ?_
    refine pm_istoreXi (loc' := [some (.ref (B + 54)), some (.int (nI 3)), some (.int zb), some (.int zc), some (.int zc), none, none]) hG dX12_plans_125 (by decide) (pm_c1b rfl) rfl ?_
    refine pm_iconst (v := nI 0) hG dX12_plans_127 (by decide) ?_
    refine pm_istoreXi (loc' := [some (.ref (B + 54)), some (.int (nI 3)), some (.int zb), some (.int zc), some (.int zc), some (.int (nI 0)), none]) hG dX12_plans_128 (by decide) (pm_c1b rfl) rfl ?_
    have loop130_2 : ∀ (m2 : Nat) (I2 : Nat → Int32) (A2 : Nat → Nat → Int32) (x2_4 : Int32) (i2 : Nat), i2 ≤ 6 → 6 - i2 < m2 → pm_wp mX12_plans G B 130 [some (.ref (B + 54)), some (.int (nI 3)), some (.int zb), some (.int zc), some (.int x2_4), some (.int (nI i2)), none] [] 0 0 cnt (pm_mid σ (md_L B I2 A2 n k z ac wt pl (nI p0) (nI t0) im)) := by
      intro m2
      induction m2 with
      | zero => intro I2 A2 x2_4 i2 _ hm; exact absurd hm (Nat.not_lt_zero _)
      | succ m2 ih2 =>
        intro I2 A2 x2_4 i2 hi2 hm2
        refine pm_iloadi hG dX12_plans_130 rfl ?_
        refine pm_bipush (v := nI 6) hG dX12_plans_132 (by decide) ?_
        refine pm_icmpN_ge (tgt := 174) hG dX12_plans_134 rfl (by omega) (by omega) (fun c3 => ?_) (fun c3 => ?_)
        · refine pm_iconst (v := (-1)) hG dX12_plans_174 (by decide) ?_
          refine pm_istoreXi (loc' := [some (.ref (B + 54)), some (.int (nI 3)), some (.int zb), some (.int zc), some (.int x2_4), some (.int (-1)), none]) hG dX12_plans_175 (by decide) (pm_c1b rfl) rfl ?_
          have loop177_4 : ∀ (m4 : Nat) (I4 : Nat → Int32) (A4 : Nat → Nat → Int32) (i4 : Nat), i4 ≤ 7 → 7 - i4 < m4 → pm_wp mX12_plans G B 177 [some (.ref (B + 54)), some (.int (nI 3)), some (.int zb), some (.int zc), some (.int x2_4), some (.int (nI i4 - nI 1)), none] [] 0 0 cnt (pm_mid σ (md_L B I4 A4 n k z ac wt pl (nI p0) (nI t0) im)) := by
            intro m4
            induction m4 with
            | zero => intro I4 A4 i4 _ hm; exact absurd hm (Nat.not_lt_zero _)
            | succ m4 ih4 =>
              intro I4 A4 i4 hi4 hm4
              rcases i4 with _ | i4
              · refine pm_le (loc' := [some (.ref (B + 54)), some (.int (nI 3)), some (.int zb), some (.int zc), some (.int x2_4), some (.int (-1)), none]) rfl ?_
                refine pm_iloadi hG dX12_plans_177 rfl ?_
                refine pm_bipush (v := nI 6) hG dX12_plans_179 (by decide) ?_
                refine pm_icmp_ge (tgt := 292) hG dX12_plans_181 rfl (fun q => absurd q (by decide)) (fun _ => ?_)
                refine pm_iloadi hG dX12_plans_184 rfl ?_
                refine pm_if_lt (tgt := 201) hG dX12_plans_186 rfl (fun _ => ?_) (fun q => absurd q (by decide))
                refine pm_iloadi hG dX12_plans_201 rfl ?_
                refine pm_aloadn hG dX12_plans_203 rfl ?_
                refine pm_getf hG dX12_plans_204 (flX12_61 _ rfl) rfl rfl ?_
                refine pm_bipush (v := nI 24) hG dX12_plans_207 (by decide) ?_
                refine pm_aloadn hG dX12_plans_209 rfl ?_
                refine pm_getf hG dX12_plans_210 (flX12_270 _ rfl) rfl rfl ?_
                refine pm_imulN (c := 24 * p0) hG dX12_plans_213 (by omega) ?_
                refine pm_iloadn hG dX12_plans_214 rfl ?_
                refine pm_iaddN (c := 24 * p0 + 3) hG dX12_plans_215 (by omega) ?_
                refine pm_ialdN hG dX12_plans_216 rfl (by decide) (by omega) ?_
                refine pm_any (fun x5 => ?_)
                refine pm_isub hG dX12_plans_217 ?_
                refine pm_iloadi hG dX12_plans_218 rfl ?_
                refine pm_if_ge (tgt := 227) hG dX12_plans_220 rfl (fun q => absurd q (by decide)) (fun _ => ?_)
                refine pm_iconst (v := nI 0) hG dX12_plans_223 (by decide) ?_
                refine pm_goto (tgt := 241) hG dX12_plans_224 rfl ?_
                refine pm_iadd hG dX12_plans_241 ?_
                refine pm_istoreXi (loc' := [some (.ref (B + 54)), some (.int (nI 3)), some (.int zb), some (.int zc), some (.int x2_4), some (.int (-1)), some (.int ((x2_4 - x5) + (nI 0)))]) hG dX12_plans_242 (by decide) (pm_c1b rfl) rfl ?_
                refine pm_iloadi hG dX12_plans_244 rfl ?_
                refine pm_if_ge (tgt := 252) hG dX12_plans_246 rfl (fun c6 => ?_) (fun c6 => ?_)
                · obtain ⟨k7, hk7, ek7⟩ := nI_of (Int32.not_lt.mpr c6)
                  refine pm_aloadn hG dX12_plans_252 rfl ?_
                  refine pm_getf hG dX12_plans_253 (flX12_46 _ rfl) rfl rfl ?_
                  refine pm_iloadn hG dX12_plans_256 rfl ?_
                  refine pm_iloadi hG dX12_plans_257 rfl ?_
                  refine pm_iastN hG dX12_plans_259 rfl (by decide) (by omega) ?_
                  refine mdn_pledges (fun A_8 => ?_)
                  refine pm_aloadn hG dX12_plans_260 rfl ?_
                  refine pm_iloadn hG dX12_plans_261 rfl ?_
                  refine pm_iconst (v := nI 1) hG dX12_plans_262 (by decide) ?_
                  refine pm_iaddN (c := 4) hG dX12_plans_263 (by omega) ?_
                  refine pm_iloadi hG dX12_plans_264 rfl ?_
                  refine pm_if_ge (tgt := 273) hG dX12_plans_266 rfl (fun q => absurd q (by decide)) (fun _ => ?_)
                  refine pm_iloadn hG dX12_plans_269 rfl ?_
                  refine pm_goto (tgt := 281) hG dX12_plans_270 rfl ?_
                  refine pm_iloadi hG dX12_plans_281 rfl ?_
                  refine pm_top (v := nI k7) ek7 ?_
                  refine pm_callV (As := [.int (nI 4), .int zb, .int (nI k7)]) (rest := []) hG hR dX12_plans_283 (lkX12_280 _ rfl) okV_X12_plans rfl rfl (m_plans_c4 (d := 5) (by decide) hn hz (by omega) ez (by omega)) rfl rfl hdd (Nat.le_refl _) (Nat.le_refl _) (by decide) (pm_kv (fun σ' cnt' hq => ?_))
                  obtain ⟨⟨I10, A10, rfl⟩, rfl⟩ := hq
                  refine pm_iincX (v := nI 0) (loc' := [some (.ref (B + 54)), some (.int (nI 3)), some (.int zb), some (.int zc), some (.int x2_4), some (.int (nI 0)), some (.int ((x2_4 - x5) + (nI 0)))]) hG dX12_plans_286 rfl (by decide) (by decide) (pm_c1b rfl) rfl ?_
                  refine pm_goto (tgt := 177) hG dX12_plans_289 rfl ?_
                  refine pm_fg 6 (loc' := [some (.ref (B + 54)), some (.int (nI 3)), some (.int zb), some (.int zc), some (.int x2_4), some (.int (nI 0)), none]) rfl ?_
                  refine pm_le (loc' := [some (.ref (B + 54)), some (.int (nI 3)), some (.int zb), some (.int zc), some (.int x2_4), some (.int (nI (1) - nI 1)), none]) (by rw [show nI (0 + 1) - nI 1 = nI 0 from nI_pred _]) ?_
                  exact ih4 I10 A10 1 (by omega) (by omega)
                · refine pm_goto (tgt := 286) hG dX12_plans_249 rfl ?_
                  refine pm_iincX (v := nI 0) (loc' := [some (.ref (B + 54)), some (.int (nI 3)), some (.int zb), some (.int zc), some (.int x2_4), some (.int (nI 0)), some (.int ((x2_4 - x5) + (nI 0)))]) hG dX12_plans_286 rfl (by decide) (by decide) (pm_c1b rfl) rfl ?_
                  refine pm_goto (tgt := 177) hG dX12_plans_289 rfl ?_
                  refine pm_fg 6 (loc' := [some (.ref (B + 54)), some (.int (nI 3)), some (.int zb), some (.int zc), some (.int x2_4), some (.int (nI 0)), none]) rfl ?_
                  refine pm_le (loc' := [some (.ref (B + 54)), some (.int (nI 3)), some (.int zb), some (.int zc), some (.int x2_4), some (.int (nI (1) - nI 1)), none]) (by rw [show nI (0 + 1) - nI 1 = nI 0 from nI_pred _]) ?_
                  exact ih4 I4 A4 1 (by omega) (by omega)
              · refine pm_le (loc' := [some (.ref (B + 54)), some (.int (nI 3)), some (.int zb), some (.int zc), some (.int x2_4), some (.int (nI i4)), none]) (by rw [show nI (i4 + 1) - nI 1 = nI i4 from nI_pred i4]) ?_
                refine pm_iloadi hG dX12_plans_177 rfl ?_
                refine pm_bipush (v := nI 6) hG dX12_plans_179 (by decide) ?_
                refine pm_icmpN_ge (tgt := 292) hG dX12_plans_181 rfl (by omega) (by omega) (fun c11 => ?_) (fun c11 => ?_)
                · exact pm_vret hG hF dX12_plans_292 rfl (Nat.le_refl _) (Nat.le_refl _) ⟨rfl, ⟨_, _, rfl⟩, rfl⟩
                · refine pm_iloadi hG dX12_plans_184 rfl ?_
                  refine pm_ifN_lt hG dX12_plans_186 rfl (by omega) ?_
                  refine pm_iloadn hG dX12_plans_189 rfl ?_
                  refine pm_iloadi hG dX12_plans_190 rfl ?_
                  refine pm_ishr hG dX12_plans_192 ?_
                  refine pm_any (fun x12 => ?_)
                  refine pm_iconst (v := nI 1) hG dX12_plans_193 (by decide) ?_
                  refine pm_iand hG dX12_plans_194 ?_
                  refine pm_any (fun x13 => ?_)
                  refine pm_if_ne (tgt := 201) hG dX12_plans_195 rfl (fun c14 => ?_) (fun c14 => ?_)
                  · refine pm_iloadi hG dX12_plans_201 rfl ?_
                    refine pm_aloadn hG dX12_plans_203 rfl ?_
                    refine pm_getf hG dX12_plans_204 (flX12_61 _ rfl) rfl rfl ?_
                    refine pm_bipush (v := nI 24) hG dX12_plans_207 (by decide) ?_
                    refine pm_aloadn hG dX12_plans_209 rfl ?_
                    refine pm_getf hG dX12_plans_210 (flX12_270 _ rfl) rfl rfl ?_
                    refine pm_imulN (c := 24 * p0) hG dX12_plans_213 (by omega) ?_
                    refine pm_iloadn hG dX12_plans_214 rfl ?_
                    refine pm_iaddN (c := 24 * p0 + 3) hG dX12_plans_215 (by omega) ?_
                    refine pm_ialdN hG dX12_plans_216 rfl (by decide) (by omega) ?_
                    refine pm_any (fun x15 => ?_)
                    refine pm_isub hG dX12_plans_217 ?_
                    refine pm_iloadi hG dX12_plans_218 rfl ?_
                    refine pm_ifN_ge (tgt := 227) hG dX12_plans_220 rfl (by omega) ?_
                    refine pm_iconst (v := nI 4) hG dX12_plans_227 (by decide) ?_
                    refine pm_aloadn hG dX12_plans_228 rfl ?_
                    refine pm_getf hG dX12_plans_229 (flX12_7 _ rfl) rfl rfl ?_
                    refine pm_bipush (v := nI 20) hG dX12_plans_232 (by decide) ?_
                    refine pm_iconst (v := nI 3) hG dX12_plans_234 (by decide) ?_
                    refine pm_iloadi hG dX12_plans_235 rfl ?_
                    refine pm_imulN (c := 3 * i4) hG dX12_plans_237 (by omega) ?_
                    refine pm_iaddN (c := 3 * i4 + 20) hG dX12_plans_238 (by omega) ?_
                    refine pm_ialdN hG dX12_plans_239 rfl (by decide) (by omega) ?_
                    refine pm_gen (fun x16 ex16 => ?_)
                    refine pm_imul hG dX12_plans_240 ?_
                    refine pm_iadd hG dX12_plans_241 ?_
                    refine pm_istoreXi (loc' := [some (.ref (B + 54)), some (.int (nI 3)), some (.int zb), some (.int zc), some (.int x2_4), some (.int (nI i4)), some (.int ((x2_4 - x15) + ((nI 4) * x16)))]) hG dX12_plans_242 (by decide) (pm_c1b rfl) rfl ?_
                    refine pm_iloadi hG dX12_plans_244 rfl ?_
                    refine pm_if_ge (tgt := 252) hG dX12_plans_246 rfl (fun c17 => ?_) (fun c17 => ?_)
                    · obtain ⟨k18, hk18, ek18⟩ := nI_of (Int32.not_lt.mpr c17)
                      refine pm_aloadn hG dX12_plans_252 rfl ?_
                      refine pm_getf hG dX12_plans_253 (flX12_46 _ rfl) rfl rfl ?_
                      refine pm_iloadn hG dX12_plans_256 rfl ?_
                      refine pm_iloadi hG dX12_plans_257 rfl ?_
                      refine pm_iastN hG dX12_plans_259 rfl (by decide) (by omega) ?_
                      refine mdn_pledges (fun A_19 => ?_)
                      refine pm_aloadn hG dX12_plans_260 rfl ?_
                      refine pm_iloadn hG dX12_plans_261 rfl ?_
                      refine pm_iconst (v := nI 1) hG dX12_plans_262 (by decide) ?_
                      refine pm_iaddN (c := 4) hG dX12_plans_263 (by omega) ?_
                      refine pm_iloadi hG dX12_plans_264 rfl ?_
                      refine pm_ifN_ge (tgt := 273) hG dX12_plans_266 rfl (by omega) ?_
                      refine pm_iloadn hG dX12_plans_273 rfl ?_
                      refine pm_iconst (v := nI 1) hG dX12_plans_274 (by decide) ?_
                      refine pm_iloadi hG dX12_plans_275 rfl ?_
                      refine pm_ishl hG dX12_plans_277 ?_
                      refine pm_any (fun x20 => ?_)
                      refine pm_iconst (v := (-1)) hG dX12_plans_278 (by decide) ?_
                      refine pm_ixor hG dX12_plans_279 ?_
                      refine pm_any (fun x21 => ?_)
                      refine pm_iand hG dX12_plans_280 ?_
                      refine pm_any (fun x22 => ?_)
                      refine pm_iloadi hG dX12_plans_281 rfl ?_
                      refine pm_top (v := nI k18) ek18 ?_
                      refine pm_callV (As := [.int (nI 4), .int x22, .int (nI k18)]) (rest := []) hG hR dX12_plans_283 (lkX12_280 _ rfl) okV_X12_plans rfl rfl (m_plans_c4 (d := 5) (by decide) hn hz (by omega) ez (by omega)) rfl rfl hdd (Nat.le_refl _) (Nat.le_refl _) (by decide) (pm_kv (fun σ' cnt' hq => ?_))
                      obtain ⟨⟨I24, A24, rfl⟩, rfl⟩ := hq
                      refine pm_iincX (v := nI (i4 + 1)) (loc' := [some (.ref (B + 54)), some (.int (nI 3)), some (.int zb), some (.int zc), some (.int x2_4), some (.int (nI (i4 + 1))), some (.int ((x2_4 - x15) + ((nI 4) * x16)))]) hG dX12_plans_286 rfl (nI_1 _) (by decide) (pm_c1b rfl) rfl ?_
                      refine pm_goto (tgt := 177) hG dX12_plans_289 rfl ?_
                      refine pm_fg 6 (loc' := [some (.ref (B + 54)), some (.int (nI 3)), some (.int zb), some (.int zc), some (.int x2_4), some (.int (nI (i4 + 1))), none]) rfl ?_
                      refine pm_le (loc' := [some (.ref (B + 54)), some (.int (nI 3)), some (.int zb), some (.int zc), some (.int x2_4), some (.int (nI (i4 + 2) - nI 1)), none]) (by rw [show nI (i4 + 2) - nI 1 = nI (i4 + 1) from nI_pred _]) ?_
                      exact ih4 I24 A24 (i4 + 2) (by omega) (by omega)
                    · refine pm_goto (tgt := 286) hG dX12_plans_249 rfl ?_
                      refine pm_iincX (v := nI (i4 + 1)) (loc' := [some (.ref (B + 54)), some (.int (nI 3)), some (.int zb), some (.int zc), some (.int x2_4), some (.int (nI (i4 + 1))), some (.int ((x2_4 - x15) + ((nI 4) * x16)))]) hG dX12_plans_286 rfl (nI_1 _) (by decide) (pm_c1b rfl) rfl ?_
                      refine pm_goto (tgt := 177) hG dX12_plans_289 rfl ?_
                      refine pm_fg 6 (loc' := [some (.ref (B + 54)), some (.int (nI 3)), some (.int zb), some (.int zc), some (.int x2_4), some (.int (nI (i4 + 1))), none]) rfl ?_
                      refine pm_le (loc' := [some (.ref (B + 54)), some (.int (nI 3)), some (.int zb), some (.int zc), some (.int x2_4), some (.int (nI (i4 + 2) - nI 1)), none]) (by rw [show nI (i4 + 2) - nI 1 = nI (i4 + 1) from nI_pred _]) ?_
                      exact ih4 I4 A4 (i4 + 2) (by omega) (by omega)
                  · refine pm_goto (tgt := 286) hG dX12_plans_198 rfl ?_
                    refine pm_iincX (v := nI (i4 + 1)) (loc' := [some (.ref (B + 54)), some (.int (nI 3)), some (.int zb), some (.int zc), some (.int x2_4), some (.int (nI (i4 + 1))), none]) hG dX12_plans_286 rfl (nI_1 _) (by decide) (pm_c1b rfl) rfl ?_
                    refine pm_goto (tgt := 177) hG dX12_plans_289 rfl ?_
                    refine pm_le (loc' := [some (.ref (B + 54)), some (.int (nI 3)), some (.int zb), some (.int zc), some (.int x2_4), some (.int (nI (i4 + 2) - nI 1)), none]) (by rw [show nI (i4 + 2) - nI 1 = nI (i4 + 1) from nI_pred _]) ?_
                    exact ih4 I4 A4 (i4 + 2) (by omega) (by omega)
          exact loop177_4 _ I2 A2 0 (by omega) (Nat.lt_succ_self _)
        · refine pm_iloadi hG dX12_plans_137 rfl ?_
          refine pm_iloadn hG dX12_plans_139 rfl ?_
          refine pm_iloadi hG dX12_plans_140 rfl ?_
          refine pm_ishr hG dX12_plans_142 ?_
          refine pm_any (fun x25 => ?_)
          refine pm_iconst (v := nI 1) hG dX12_plans_143 (by decide) ?_
          refine pm_iand hG dX12_plans_144 ?_
          refine pm_any (fun x26 => ?_)
          refine pm_iconst (v := nI 1) hG dX12_plans_145 (by decide) ?_
          refine pm_icmp_ne (tgt := 164) hG dX12_plans_146 rfl (fun c27 => ?_) (fun c27 => ?_)
          · refine pm_iconst (v := nI 0) hG dX12_plans_164 (by decide) ?_
            refine pm_iadd hG dX12_plans_165 ?_
            refine pm_istoreXi (loc' := [some (.ref (B + 54)), some (.int (nI 3)), some (.int zb), some (.int zc), some (.int (x2_4 + (nI 0))), some (.int (nI i2)), none]) hG dX12_plans_166 (by decide) (pm_c1b rfl) rfl ?_
            refine pm_iincX (v := nI (i2 + 1)) (loc' := [some (.ref (B + 54)), some (.int (nI 3)), some (.int zb), some (.int zc), some (.int (x2_4 + (nI 0))), some (.int (nI (i2 + 1))), none]) hG dX12_plans_168 rfl (nI_1 _) (by decide) (pm_c1b rfl) rfl ?_
            refine pm_goto (tgt := 130) hG dX12_plans_171 rfl ?_
            exact ih2 I2 A2 (x2_4 + (nI 0)) (i2 + 1) (by omega) (by omega)
          · refine pm_aloadn hG dX12_plans_149 rfl ?_
            refine pm_getf hG dX12_plans_150 (flX12_7 _ rfl) rfl rfl ?_
            refine pm_bipush (v := nI 20) hG dX12_plans_153 (by decide) ?_
            refine pm_iconst (v := nI 3) hG dX12_plans_155 (by decide) ?_
            refine pm_iloadi hG dX12_plans_156 rfl ?_
            refine pm_imulN (c := 3 * i2) hG dX12_plans_158 (by omega) ?_
            refine pm_iaddN (c := 3 * i2 + 20) hG dX12_plans_159 (by omega) ?_
            refine pm_ialdN hG dX12_plans_160 rfl (by decide) (by omega) ?_
            refine pm_gen (fun x28 ex28 => ?_)
            refine pm_goto (tgt := 165) hG dX12_plans_161 rfl ?_
            refine pm_iadd hG dX12_plans_165 ?_
            refine pm_istoreXi (loc' := [some (.ref (B + 54)), some (.int (nI 3)), some (.int zb), some (.int zc), some (.int (x2_4 + x28)), some (.int (nI i2)), none]) hG dX12_plans_166 (by decide) (pm_c1b rfl) rfl ?_
            refine pm_iincX (v := nI (i2 + 1)) (loc' := [some (.ref (B + 54)), some (.int (nI 3)), some (.int zb), some (.int zc), some (.int (x2_4 + x28)), some (.int (nI (i2 + 1))), none]) hG dX12_plans_168 rfl (nI_1 _) (by decide) (pm_c1b rfl) rfl ?_
            refine pm_goto (tgt := 130) hG dX12_plans_171 rfl ?_
            exact ih2 I2 A2 (x2_4 + x28) (i2 + 1) (by omega) (by omega)
    exact loop130_2 _ I A zc 0 (by omega) (Nat.lt_succ_self _)
  · refine pm_iloadn hG dX12_plans_13 rfl ?_
    refine pm_istoreXi (loc' := [some (.ref (B + 54)), some (.int (nI 3)), some (.int zb), some (.int zc), some (.int zc), none, none]) hG dX12_plans_14 (by decide) (pm_c1b rfl) rfl ?_
    refine pm_iconst (v := nI 0) hG dX12_plans_16 (by decide) ?_
    refine pm_istoreXi (loc' := [some (.ref (B + 54)), some (.int (nI 3)), some (.int zb), some (.int zc), some (.int zc), some (.int (nI 0)), none]) hG dX12_plans_17 (by decide) (pm_c1b rfl) rfl ?_
    have loop19_29 : ∀ (m29 : Nat) (I29 : Nat → Int32) (A29 : Nat → Nat → Int32) (x29_4 : Int32) (i29 : Nat), i29 ≤ 6 → 6 - i29 < m29 → pm_wp mX12_plans G B 19 [some (.ref (B + 54)), some (.int (nI 3)), some (.int zb), some (.int zc), some (.int x29_4), some (.int (nI i29)), none] [] 0 0 cnt (pm_mid σ (md_L B I29 A29 n k z ac wt pl (nI p0) (nI t0) im)) := by
      intro m29
      induction m29 with
      | zero => intro I29 A29 x29_4 i29 _ hm; exact absurd hm (Nat.not_lt_zero _)
      | succ m29 ih29 =>
        intro I29 A29 x29_4 i29 hi29 hm29
        refine pm_iloadi hG dX12_plans_19 rfl ?_
        refine pm_bipush (v := nI 6) hG dX12_plans_21 (by decide) ?_
        refine pm_icmpN_ge (tgt := 66) hG dX12_plans_23 rfl (by omega) (by omega) (fun c30 => ?_) (fun c30 => ?_)
        · refine pm_aloadn hG dX12_plans_66 rfl ?_
          refine pm_getf hG dX12_plans_67 (flX12_273 _ rfl) rfl rfl ?_
          refine pm_any (fun x31 => ?_)
          refine pm_if_eq (tgt := 83) hG dX12_plans_70 rfl (fun c32 => ?_) (fun c32 => ?_)
          · refine pm_aloadn hG dX12_plans_83 rfl ?_
            refine pm_iconst (v := nI 1) hG dX12_plans_84 (by decide) ?_
            refine pm_putf hG dX12_plans_85 (fwX12_273 _ rfl) rfl (by decide) (by decide) ?_
            refine mdn_hasPlan (fun I_33 => ?_)
            refine pm_aloadn hG dX12_plans_88 rfl ?_
            refine pm_iloadi hG dX12_plans_89 rfl ?_
            refine pm_putf hG dX12_plans_91 (fwX12_277 _ rfl) rfl rfl rfl ?_
            refine mdn_planMost (fun I_34 => ?_)
            refine pm_iconst (v := nI 0) hG dX12_plans_94 (by decide) ?_
            refine pm_istoreXi (loc' := [some (.ref (B + 54)), some (.int (nI 3)), some (.int zb), some (.int zc), some (.int x29_4), some (.int (nI 0)), none]) hG dX12_plans_95 (by decide) (pm_c1b rfl) rfl ?_
            have loop97_35 : ∀ (m35 : Nat) (I35 : Nat → Int32) (A35 : Nat → Nat → Int32) (i35 : Nat), i35 ≤ 3 → 3 - i35 < m35 → pm_wp mX12_plans G B 97 [some (.ref (B + 54)), some (.int (nI 3)), some (.int zb), some (.int zc), some (.int x29_4), some (.int (nI i35)), none] [] 0 0 cnt (pm_mid σ (md_L B I35 A35 n k z ac wt pl (nI p0) (nI t0) im)) := by
              intro m35
              induction m35 with
              | zero => intro I35 A35 i35 _ hm; exact absurd hm (Nat.not_lt_zero _)
              | succ m35 ih35 =>
                intro I35 A35 i35 hi35 hm35
                refine pm_iloadi hG dX12_plans_97 rfl ?_
                refine pm_iloadn hG dX12_plans_99 rfl ?_
                refine pm_icmpN_ge (tgt := 123) hG dX12_plans_100 rfl (by omega) (by omega) (fun c36 => ?_) (fun c36 => ?_)
                · exact pm_vret hG hF dX12_plans_123 rfl (Nat.le_refl _) (Nat.le_refl _) ⟨rfl, ⟨_, _, rfl⟩, rfl⟩
                · refine pm_aloadn hG dX12_plans_103 rfl ?_
                  refine pm_getf hG dX12_plans_104 (flX12_49 _ rfl) rfl rfl ?_
                  refine pm_iloadi hG dX12_plans_107 rfl ?_
                  refine pm_aloadn hG dX12_plans_109 rfl ?_
                  refine pm_getf hG dX12_plans_110 (flX12_46 _ rfl) rfl rfl ?_
                  refine pm_iloadi hG dX12_plans_113 rfl ?_
                  refine pm_ialdN hG dX12_plans_115 rfl (by decide) (by omega) ?_
                  refine pm_any (fun x37 => ?_)
                  refine pm_iastN hG dX12_plans_116 rfl (by decide) (by omega) ?_
                  refine mdn_bestPledges (fun A_38 => ?_)
                  refine pm_iincX (v := nI (i35 + 1)) (loc' := [some (.ref (B + 54)), some (.int (nI 3)), some (.int zb), some (.int zc), some (.int x29_4), some (.int (nI (i35 + 1))), none]) hG dX12_plans_117 rfl (nI_1 _) (by decide) (pm_c1b rfl) rfl ?_
                  refine pm_goto (tgt := 97) hG dX12_plans_120 rfl ?_
                  exact ih35 I35 A_38 (i35 + 1) (by omega) (by omega)
            exact loop97_35 _ I_34 A29 0 (by omega) (Nat.lt_succ_self _)
          · refine pm_iloadi hG dX12_plans_73 rfl ?_
            refine pm_aloadn hG dX12_plans_75 rfl ?_
            refine pm_getf hG dX12_plans_76 (flX12_277 _ rfl) rfl rfl ?_
            refine pm_any (fun x39 => ?_)
            refine pm_icmp_gt (tgt := 83) hG dX12_plans_79 rfl (fun c40 => ?_) (fun c40 => ?_)
            · refine pm_aloadn hG dX12_plans_83 rfl ?_
              refine pm_iconst (v := nI 1) hG dX12_plans_84 (by decide) ?_
              refine pm_putf hG dX12_plans_85 (fwX12_273 _ rfl) rfl (by decide) (by decide) ?_
              refine mdn_hasPlan (fun I_41 => ?_)
              refine pm_aloadn hG dX12_plans_88 rfl ?_
              refine pm_iloadi hG dX12_plans_89 rfl ?_
              refine pm_putf hG dX12_plans_91 (fwX12_277 _ rfl) rfl rfl rfl ?_
              refine mdn_planMost (fun I_42 => ?_)
              refine pm_iconst (v := nI 0) hG dX12_plans_94 (by decide) ?_
              refine pm_istoreXi (loc' := [some (.ref (B + 54)), some (.int (nI 3)), some (.int zb), some (.int zc), some (.int x29_4), some (.int (nI 0)), none]) hG dX12_plans_95 (by decide) (pm_c1b rfl) rfl ?_
              have loop97_43 : ∀ (m43 : Nat) (I43 : Nat → Int32) (A43 : Nat → Nat → Int32) (i43 : Nat), i43 ≤ 3 → 3 - i43 < m43 → pm_wp mX12_plans G B 97 [some (.ref (B + 54)), some (.int (nI 3)), some (.int zb), some (.int zc), some (.int x29_4), some (.int (nI i43)), none] [] 0 0 cnt (pm_mid σ (md_L B I43 A43 n k z ac wt pl (nI p0) (nI t0) im)) := by
                intro m43
                induction m43 with
                | zero => intro I43 A43 i43 _ hm; exact absurd hm (Nat.not_lt_zero _)
                | succ m43 ih43 =>
                  intro I43 A43 i43 hi43 hm43
                  refine pm_iloadi hG dX12_plans_97 rfl ?_
                  refine pm_iloadn hG dX12_plans_99 rfl ?_
                  refine pm_icmpN_ge (tgt := 123) hG dX12_plans_100 rfl (by omega) (by omega) (fun c44 => ?_) (fun c44 => ?_)
                  · exact pm_vret hG hF dX12_plans_123 rfl (Nat.le_refl _) (Nat.le_refl _) ⟨rfl, ⟨_, _, rfl⟩, rfl⟩
                  · refine pm_aloadn hG dX12_plans_103 rfl ?_
                    refine pm_getf hG dX12_plans_104 (flX12_49 _ rfl) rfl rfl ?_
                    refine pm_iloadi hG dX12_plans_107 rfl ?_
                    refine pm_aloadn hG dX12_plans_109 rfl ?_
                    refine pm_getf hG dX12_plans_110 (flX12_46 _ rfl) rfl rfl ?_
                    refine pm_iloadi hG dX12_plans_113 rfl ?_
                    refine pm_ialdN hG dX12_plans_115 rfl (by decide) (by omega) ?_
                    refine pm_any (fun x45 => ?_)
                    refine pm_iastN hG dX12_plans_116 rfl (by decide) (by omega) ?_
                    refine mdn_bestPledges (fun A_46 => ?_)
                    refine pm_iincX (v := nI (i43 + 1)) (loc' := [some (.ref (B + 54)), some (.int (nI 3)), some (.int zb), some (.int zc), some (.int x29_4), some (.int (nI (i43 + 1))), none]) hG dX12_plans_117 rfl (nI_1 _) (by decide) (pm_c1b rfl) rfl ?_
                    refine pm_goto (tgt := 97) hG dX12_plans_120 rfl ?_
                    exact ih43 I43 A_46 (i43 + 1) (by omega) (by omega)
              exact loop97_43 _ I_42 A29 0 (by omega) (Nat.lt_succ_self _)
            · exact pm_vret hG hF dX12_plans_82 rfl (Nat.le_refl _) (Nat.le_refl _) ⟨rfl, ⟨_, _, rfl⟩, rfl⟩
        · refine pm_iloadi hG dX12_plans_26 rfl ?_
          refine pm_iloadn hG dX12_plans_28 rfl ?_
          refine pm_iloadi hG dX12_plans_29 rfl ?_
          refine pm_ishr hG dX12_plans_31 ?_
          refine pm_any (fun x47 => ?_)
          refine pm_iconst (v := nI 1) hG dX12_plans_32 (by decide) ?_
          refine pm_iand hG dX12_plans_33 ?_
          refine pm_any (fun x48 => ?_)
          refine pm_iconst (v := nI 1) hG dX12_plans_34 (by decide) ?_
          refine pm_icmp_ne (tgt := 56) hG dX12_plans_35 rfl (fun c49 => ?_) (fun c49 => ?_)
          · refine pm_iconst (v := nI 0) hG dX12_plans_56 (by decide) ?_
            refine pm_iadd hG dX12_plans_57 ?_
            refine pm_istoreXi (loc' := [some (.ref (B + 54)), some (.int (nI 3)), some (.int zb), some (.int zc), some (.int (x29_4 + (nI 0))), some (.int (nI i29)), none]) hG dX12_plans_58 (by decide) (pm_c1b rfl) rfl ?_
            refine pm_iincX (v := nI (i29 + 1)) (loc' := [some (.ref (B + 54)), some (.int (nI 3)), some (.int zb), some (.int zc), some (.int (x29_4 + (nI 0))), some (.int (nI (i29 + 1))), none]) hG dX12_plans_60 rfl (nI_1 _) (by decide) (pm_c1b rfl) rfl ?_
            refine pm_goto (tgt := 19) hG dX12_plans_63 rfl ?_
            exact ih29 I29 A29 (x29_4 + (nI 0)) (i29 + 1) (by omega) (by omega)
          · refine pm_bipush (v := nI 8) hG dX12_plans_38 (by decide) ?_
            refine pm_aloadn hG dX12_plans_40 rfl ?_
            refine pm_getf hG dX12_plans_41 (flX12_7 _ rfl) rfl rfl ?_
            refine pm_bipush (v := nI 20) hG dX12_plans_44 (by decide) ?_
            refine pm_iconst (v := nI 3) hG dX12_plans_46 (by decide) ?_
            refine pm_iloadi hG dX12_plans_47 rfl ?_
            refine pm_imulN (c := 3 * i29) hG dX12_plans_49 (by omega) ?_
            refine pm_iaddN (c := 3 * i29 + 20) hG dX12_plans_50 (by omega) ?_
            refine pm_ialdN hG dX12_plans_51 rfl (by decide) (by omega) ?_
            refine pm_gen (fun x50 ex50 => ?_)
            refine pm_imul hG dX12_plans_52 ?_
            refine pm_goto (tgt := 57) hG dX12_plans_53 rfl ?_
            refine pm_iadd hG dX12_plans_57 ?_
            refine pm_istoreXi (loc' := [some (.ref (B + 54)), some (.int (nI 3)), some (.int zb), some (.int zc), some (.int (x29_4 + ((nI 8) * x50))), some (.int (nI i29)), none]) hG dX12_plans_58 (by decide) (pm_c1b rfl) rfl ?_
            refine pm_iincX (v := nI (i29 + 1)) (loc' := [some (.ref (B + 54)), some (.int (nI 3)), some (.int zb), some (.int zc), some (.int (x29_4 + ((nI 8) * x50))), some (.int (nI (i29 + 1))), none]) hG dX12_plans_60 rfl (nI_1 _) (by decide) (pm_c1b rfl) rfl ?_
            refine pm_goto (tgt := 19) hG dX12_plans_63 rfl ?_
            exact ih29 I29 A29 (x29_4 + ((nI 8) * x50)) (i29 + 1) (by omega) (by omega)
    exact loop19_29 _ I A zc 0 (by omega) (Nat.lt_succ_self _)

set_option maxRecDepth 100000 in
set_option maxHeartbeats 4000000 in
theorem m_plans_c2 {d B cnt p0 t0 : Nat} {σ : pm_S} {I : Nat → Int32} {A : Nat → Nat → Int32} {n k z : Nat → Int32} {ac wt pl im : Int32} {zb zc : Int32} {cz : Nat} (hdd : 7 ≤ d) (hn : KI n) (hz : SZ z) (hp0 : p0 < 4) (ez : z p0 = nI cz) (hcz : 2 ≤ cz ∧ cz ≤ 8) : pm_met mX12_plans d 0 0 B [.ref (B + 54), .int (nI 2), .int zb, .int zc] cnt (pm_mid σ (md_L B I A n k z ac wt pl (nI p0) (nI t0) im)) (pm_Qv (fun σ' cnt' => (∃ (I' : Nat → Int32) (A' : Nat → Nat → Int32), σ' = pm_mid σ (md_L B I' A' n k z ac wt pl (nI p0) (nI t0) im)) ∧ cnt = cnt')) := by
  refine pm_enter 3 (by decide) (Nat.le_of_ble_eq_true rfl) rfl (fun G hG hR hF => ?_)
  refine pm_iloadn hG dX12_plans_0 rfl ?_
  refine pm_aloadn hG dX12_plans_1 rfl ?_
  refine pm_getf hG dX12_plans_2 (flX12_58 _ rfl) rfl rfl ?_
  refine pm_aloadn hG dX12_plans_5 rfl ?_
  refine pm_getf hG dX12_plans_6 (flX12_270 _ rfl) rfl rfl ?_
  refine pm_ialdN hG dX12_plans_9 rfl (by decide) (by omega) ?_
  refine pm_top (v := nI cz) ez ?_
  refine pm_icmpN_ne (tgt := 124) hG dX12_plans_10 rfl (by omega) (by omega) (fun c1 => ?_) (fun c1 => ?_)
  · refine pm_iloadn hG dX12_plans_124 rfl ?_
    refine pm_istoreXi (loc' := [some (.ref (B + 54)), some (.int (nI 2)), some (.int zb), some (.int zc), some (.int zc), none, none]) hG dX12_plans_125 (by decide) (pm_c1b rfl) rfl ?_
    refine pm_iconst (v := nI 0) hG dX12_plans_127 (by decide) ?_
    refine pm_istoreXi (loc' := [some (.ref (B + 54)), some (.int (nI 2)), some (.int zb), some (.int zc), some (.int zc), some (.int (nI 0)), none]) hG dX12_plans_128 (by decide) (pm_c1b rfl) rfl ?_
    have loop130_2 : ∀ (m2 : Nat) (I2 : Nat → Int32) (A2 : Nat → Nat → Int32) (x2_4 : Int32) (i2 : Nat), i2 ≤ 6 → 6 - i2 < m2 → pm_wp mX12_plans G B 130 [some (.ref (B + 54)), some (.int (nI 2)), some (.int zb), some (.int zc), some (.int x2_4), some (.int (nI i2)), none] [] 0 0 cnt (pm_mid σ (md_L B I2 A2 n k z ac wt pl (nI p0) (nI t0) im)) := by
      intro m2
      induction m2 with
      | zero => intro I2 A2 x2_4 i2 _ hm; exact absurd hm (Nat.not_lt_zero _)
      | succ m2 ih2 =>
        intro I2 A2 x2_4 i2 hi2 hm2
        refine pm_iloadi hG dX12_plans_130 rfl ?_
        refine pm_bipush (v := nI 6) hG dX12_plans_132 (by decide) ?_
        refine pm_icmpN_ge (tgt := 174) hG dX12_plans_134 rfl (by omega) (by omega) (fun c3 => ?_) (fun c3 => ?_)
        · refine pm_iconst (v := (-1)) hG dX12_plans_174 (by decide) ?_
          refine pm_istoreXi (loc' := [some (.ref (B + 54)), some (.int (nI 2)), some (.int zb), some (.int zc), some (.int x2_4), some (.int (-1)), none]) hG dX12_plans_175 (by decide) (pm_c1b rfl) rfl ?_
          have loop177_4 : ∀ (m4 : Nat) (I4 : Nat → Int32) (A4 : Nat → Nat → Int32) (i4 : Nat), i4 ≤ 7 → 7 - i4 < m4 → pm_wp mX12_plans G B 177 [some (.ref (B + 54)), some (.int (nI 2)), some (.int zb), some (.int zc), some (.int x2_4), some (.int (nI i4 - nI 1)), none] [] 0 0 cnt (pm_mid σ (md_L B I4 A4 n k z ac wt pl (nI p0) (nI t0) im)) := by
            intro m4
            induction m4 with
            | zero => intro I4 A4 i4 _ hm; exact absurd hm (Nat.not_lt_zero _)
            | succ m4 ih4 =>
              intro I4 A4 i4 hi4 hm4
              rcases i4 with _ | i4
              · refine pm_le (loc' := [some (.ref (B + 54)), some (.int (nI 2)), some (.int zb), some (.int zc), some (.int x2_4), some (.int (-1)), none]) rfl ?_
                refine pm_iloadi hG dX12_plans_177 rfl ?_
                refine pm_bipush (v := nI 6) hG dX12_plans_179 (by decide) ?_
                refine pm_icmp_ge (tgt := 292) hG dX12_plans_181 rfl (fun q => absurd q (by decide)) (fun _ => ?_)
                refine pm_iloadi hG dX12_plans_184 rfl ?_
                refine pm_if_lt (tgt := 201) hG dX12_plans_186 rfl (fun _ => ?_) (fun q => absurd q (by decide))
                refine pm_iloadi hG dX12_plans_201 rfl ?_
                refine pm_aloadn hG dX12_plans_203 rfl ?_
                refine pm_getf hG dX12_plans_204 (flX12_61 _ rfl) rfl rfl ?_
                refine pm_bipush (v := nI 24) hG dX12_plans_207 (by decide) ?_
                refine pm_aloadn hG dX12_plans_209 rfl ?_
                refine pm_getf hG dX12_plans_210 (flX12_270 _ rfl) rfl rfl ?_
                refine pm_imulN (c := 24 * p0) hG dX12_plans_213 (by omega) ?_
                refine pm_iloadn hG dX12_plans_214 rfl ?_
                refine pm_iaddN (c := 24 * p0 + 2) hG dX12_plans_215 (by omega) ?_
                refine pm_ialdN hG dX12_plans_216 rfl (by decide) (by omega) ?_
                refine pm_any (fun x5 => ?_)
                refine pm_isub hG dX12_plans_217 ?_
                refine pm_iloadi hG dX12_plans_218 rfl ?_
                refine pm_if_ge (tgt := 227) hG dX12_plans_220 rfl (fun q => absurd q (by decide)) (fun _ => ?_)
                refine pm_iconst (v := nI 0) hG dX12_plans_223 (by decide) ?_
                refine pm_goto (tgt := 241) hG dX12_plans_224 rfl ?_
                refine pm_iadd hG dX12_plans_241 ?_
                refine pm_istoreXi (loc' := [some (.ref (B + 54)), some (.int (nI 2)), some (.int zb), some (.int zc), some (.int x2_4), some (.int (-1)), some (.int ((x2_4 - x5) + (nI 0)))]) hG dX12_plans_242 (by decide) (pm_c1b rfl) rfl ?_
                refine pm_iloadi hG dX12_plans_244 rfl ?_
                refine pm_if_ge (tgt := 252) hG dX12_plans_246 rfl (fun c6 => ?_) (fun c6 => ?_)
                · obtain ⟨k7, hk7, ek7⟩ := nI_of (Int32.not_lt.mpr c6)
                  refine pm_aloadn hG dX12_plans_252 rfl ?_
                  refine pm_getf hG dX12_plans_253 (flX12_46 _ rfl) rfl rfl ?_
                  refine pm_iloadn hG dX12_plans_256 rfl ?_
                  refine pm_iloadi hG dX12_plans_257 rfl ?_
                  refine pm_iastN hG dX12_plans_259 rfl (by decide) (by omega) ?_
                  refine mdn_pledges (fun A_8 => ?_)
                  refine pm_aloadn hG dX12_plans_260 rfl ?_
                  refine pm_iloadn hG dX12_plans_261 rfl ?_
                  refine pm_iconst (v := nI 1) hG dX12_plans_262 (by decide) ?_
                  refine pm_iaddN (c := 3) hG dX12_plans_263 (by omega) ?_
                  refine pm_iloadi hG dX12_plans_264 rfl ?_
                  refine pm_if_ge (tgt := 273) hG dX12_plans_266 rfl (fun q => absurd q (by decide)) (fun _ => ?_)
                  refine pm_iloadn hG dX12_plans_269 rfl ?_
                  refine pm_goto (tgt := 281) hG dX12_plans_270 rfl ?_
                  refine pm_iloadi hG dX12_plans_281 rfl ?_
                  refine pm_top (v := nI k7) ek7 ?_
                  refine pm_callV (As := [.int (nI 3), .int zb, .int (nI k7)]) (rest := []) hG hR dX12_plans_283 (lkX12_280 _ rfl) okV_X12_plans rfl rfl (m_plans_c3 (d := 6) (by decide) hn hz (by omega) ez (by omega)) rfl rfl hdd (Nat.le_refl _) (Nat.le_refl _) (by decide) (pm_kv (fun σ' cnt' hq => ?_))
                  obtain ⟨⟨I10, A10, rfl⟩, rfl⟩ := hq
                  refine pm_iincX (v := nI 0) (loc' := [some (.ref (B + 54)), some (.int (nI 2)), some (.int zb), some (.int zc), some (.int x2_4), some (.int (nI 0)), some (.int ((x2_4 - x5) + (nI 0)))]) hG dX12_plans_286 rfl (by decide) (by decide) (pm_c1b rfl) rfl ?_
                  refine pm_goto (tgt := 177) hG dX12_plans_289 rfl ?_
                  refine pm_fg 6 (loc' := [some (.ref (B + 54)), some (.int (nI 2)), some (.int zb), some (.int zc), some (.int x2_4), some (.int (nI 0)), none]) rfl ?_
                  refine pm_le (loc' := [some (.ref (B + 54)), some (.int (nI 2)), some (.int zb), some (.int zc), some (.int x2_4), some (.int (nI (1) - nI 1)), none]) (by rw [show nI (0 + 1) - nI 1 = nI 0 from nI_pred _]) ?_
                  exact ih4 I10 A10 1 (by omega) (by omega)
                · refine pm_goto (tgt := 286) hG dX12_plans_249 rfl ?_
                  refine pm_iincX (v := nI 0) (loc' := [some (.ref (B + 54)), some (.int (nI 2)), some (.int zb), some (.int zc), some (.int x2_4), some (.int (nI 0)), some (.int ((x2_4 - x5) + (nI 0)))]) hG dX12_plans_286 rfl (by decide) (by decide) (pm_c1b rfl) rfl ?_
                  refine pm_goto (tgt := 177) hG dX12_plans_289 rfl ?_
                  refine pm_fg 6 (loc' := [some (.ref (B + 54)), some (.int (nI 2)), some (.int zb), some (.int zc), some (.int x2_4), some (.int (nI 0)), none]) rfl ?_
                  refine pm_le (loc' := [some (.ref (B + 54)), some (.int (nI 2)), some (.int zb), some (.int zc), some (.int x2_4), some (.int (nI (1) - nI 1)), none]) (by rw [show nI (0 + 1) - nI 1 = nI 0 from nI_pred _]) ?_
                  exact ih4 I4 A4 1 (by omega) (by omega)
              · refine pm_le (loc' := [some (.ref (B + 54)), some (.int (nI 2)), some (.int zb), some (.int zc), some (.int x2_4), some (.int (nI i4)), none]) (by rw [show nI (i4 + 1) - nI 1 = nI i4 from nI_pred i4]) ?_
                refine pm_iloadi hG dX12_plans_177 rfl ?_
                refine pm_bipush (v := nI 6) hG dX12_plans_179 (by decide) ?_
                refine pm_icmpN_ge (tgt := 292) hG dX12_plans_181 rfl (by omega) (by omega) (fun c11 => ?_) (fun c11 => ?_)
                · exact pm_vret hG hF dX12_plans_292 rfl (Nat.le_refl _) (Nat.le_refl _) ⟨rfl, ⟨_, _, rfl⟩, rfl⟩
                · refine pm_iloadi hG dX12_plans_184 rfl ?_
                  refine pm_ifN_lt hG dX12_plans_186 rfl (by omega) ?_
                  refine pm_iloadn hG dX12_plans_189 rfl ?_
                  refine pm_iloadi hG dX12_plans_190 rfl ?_
                  refine pm_ishr hG dX12_plans_192 ?_
                  refine pm_any (fun x12 => ?_)
                  refine pm_iconst (v := nI 1) hG dX12_plans_193 (by decide) ?_
                  refine pm_iand hG dX12_plans_194 ?_
                  refine pm_any (fun x13 => ?_)
                  refine pm_if_ne (tgt := 201) hG dX12_plans_195 rfl (fun c14 => ?_) (fun c14 => ?_)
                  · refine pm_iloadi hG dX12_plans_201 rfl ?_
                    refine pm_aloadn hG dX12_plans_203 rfl ?_
                    refine pm_getf hG dX12_plans_204 (flX12_61 _ rfl) rfl rfl ?_
                    refine pm_bipush (v := nI 24) hG dX12_plans_207 (by decide) ?_
                    refine pm_aloadn hG dX12_plans_209 rfl ?_
                    refine pm_getf hG dX12_plans_210 (flX12_270 _ rfl) rfl rfl ?_
                    refine pm_imulN (c := 24 * p0) hG dX12_plans_213 (by omega) ?_
                    refine pm_iloadn hG dX12_plans_214 rfl ?_
                    refine pm_iaddN (c := 24 * p0 + 2) hG dX12_plans_215 (by omega) ?_
                    refine pm_ialdN hG dX12_plans_216 rfl (by decide) (by omega) ?_
                    refine pm_any (fun x15 => ?_)
                    refine pm_isub hG dX12_plans_217 ?_
                    refine pm_iloadi hG dX12_plans_218 rfl ?_
                    refine pm_ifN_ge (tgt := 227) hG dX12_plans_220 rfl (by omega) ?_
                    refine pm_iconst (v := nI 4) hG dX12_plans_227 (by decide) ?_
                    refine pm_aloadn hG dX12_plans_228 rfl ?_
                    refine pm_getf hG dX12_plans_229 (flX12_7 _ rfl) rfl rfl ?_
                    refine pm_bipush (v := nI 20) hG dX12_plans_232 (by decide) ?_
                    refine pm_iconst (v := nI 3) hG dX12_plans_234 (by decide) ?_
                    refine pm_iloadi hG dX12_plans_235 rfl ?_
                    refine pm_imulN (c := 3 * i4) hG dX12_plans_237 (by omega) ?_
                    refine pm_iaddN (c := 3 * i4 + 20) hG dX12_plans_238 (by omega) ?_
                    refine pm_ialdN hG dX12_plans_239 rfl (by decide) (by omega) ?_
                    refine pm_gen (fun x16 ex16 => ?_)
                    refine pm_imul hG dX12_plans_240 ?_
                    refine pm_iadd hG dX12_plans_241 ?_
                    refine pm_istoreXi (loc' := [some (.ref (B + 54)), some (.int (nI 2)), some (.int zb), some (.int zc), some (.int x2_4), some (.int (nI i4)), some (.int ((x2_4 - x15) + ((nI 4) * x16)))]) hG dX12_plans_242 (by decide) (pm_c1b rfl) rfl ?_
                    refine pm_iloadi hG dX12_plans_244 rfl ?_
                    refine pm_if_ge (tgt := 252) hG dX12_plans_246 rfl (fun c17 => ?_) (fun c17 => ?_)
                    · obtain ⟨k18, hk18, ek18⟩ := nI_of (Int32.not_lt.mpr c17)
                      refine pm_aloadn hG dX12_plans_252 rfl ?_
                      refine pm_getf hG dX12_plans_253 (flX12_46 _ rfl) rfl rfl ?_
                      refine pm_iloadn hG dX12_plans_256 rfl ?_
                      refine pm_iloadi hG dX12_plans_257 rfl ?_
                      refine pm_iastN hG dX12_plans_259 rfl (by decide) (by omega) ?_
                      refine mdn_pledges (fun A_19 => ?_)
                      refine pm_aloadn hG dX12_plans_260 rfl ?_
                      refine pm_iloadn hG dX12_plans_261 rfl ?_
                      refine pm_iconst (v := nI 1) hG dX12_plans_262 (by decide) ?_
                      refine pm_iaddN (c := 3) hG dX12_plans_263 (by omega) ?_
                      refine pm_iloadi hG dX12_plans_264 rfl ?_
                      refine pm_ifN_ge (tgt := 273) hG dX12_plans_266 rfl (by omega) ?_
                      refine pm_iloadn hG dX12_plans_273 rfl ?_
                      refine pm_iconst (v := nI 1) hG dX12_plans_274 (by decide) ?_
                      refine pm_iloadi hG dX12_plans_275 rfl ?_
                      refine pm_ishl hG dX12_plans_277 ?_
                      refine pm_any (fun x20 => ?_)
                      refine pm_iconst (v := (-1)) hG dX12_plans_278 (by decide) ?_
                      refine pm_ixor hG dX12_plans_279 ?_
                      refine pm_any (fun x21 => ?_)
                      refine pm_iand hG dX12_plans_280 ?_
                      refine pm_any (fun x22 => ?_)
                      refine pm_iloadi hG dX12_plans_281 rfl ?_
                      refine pm_top (v := nI k18) ek18 ?_
                      refine pm_callV (As := [.int (nI 3), .int x22, .int (nI k18)]) (rest := []) hG hR dX12_plans_283 (lkX12_280 _ rfl) okV_X12_plans rfl rfl (m_plans_c3 (d := 6) (by decide) hn hz (by omega) ez (by omega)) rfl rfl hdd (Nat.le_refl _) (Nat.le_refl _) (by decide) (pm_kv (fun σ' cnt' hq => ?_))
                      obtain ⟨⟨I24, A24, rfl⟩, rfl⟩ := hq
                      refine pm_iincX (v := nI (i4 + 1)) (loc' := [some (.ref (B + 54)), some (.int (nI 2)), some (.int zb), some (.int zc), some (.int x2_4), some (.int (nI (i4 + 1))), some (.int ((x2_4 - x15) + ((nI 4) * x16)))]) hG dX12_plans_286 rfl (nI_1 _) (by decide) (pm_c1b rfl) rfl ?_
                      refine pm_goto (tgt := 177) hG dX12_plans_289 rfl ?_
                      refine pm_fg 6 (loc' := [some (.ref (B + 54)), some (.int (nI 2)), some (.int zb), some (.int zc), some (.int x2_4), some (.int (nI (i4 + 1))), none]) rfl ?_
                      refine pm_le (loc' := [some (.ref (B + 54)), some (.int (nI 2)), some (.int zb), some (.int zc), some (.int x2_4), some (.int (nI (i4 + 2) - nI 1)), none]) (by rw [show nI (i4 + 2) - nI 1 = nI (i4 + 1) from nI_pred _]) ?_
                      exact ih4 I24 A24 (i4 + 2) (by omega) (by omega)
                    · refine pm_goto (tgt := 286) hG dX12_plans_249 rfl ?_
                      refine pm_iincX (v := nI (i4 + 1)) (loc' := [some (.ref (B + 54)), some (.int (nI 2)), some (.int zb), some (.int zc), some (.int x2_4), some (.int (nI (i4 + 1))), some (.int ((x2_4 - x15) + ((nI 4) * x16)))]) hG dX12_plans_286 rfl (nI_1 _) (by decide) (pm_c1b rfl) rfl ?_
                      refine pm_goto (tgt := 177) hG dX12_plans_289 rfl ?_
                      refine pm_fg 6 (loc' := [some (.ref (B + 54)), some (.int (nI 2)), some (.int zb), some (.int zc), some (.int x2_4), some (.int (nI (i4 + 1))), none]) rfl ?_
                      refine pm_le (loc' := [some (.ref (B + 54)), some (.int (nI 2)), some (.int zb), some (.int zc), some (.int x2_4), some (.int (nI (i4 + 2) - nI 1)), none]) (by rw [show nI (i4 + 2) - nI 1 = nI (i4 + 1) from nI_pred _]) ?_
                      exact ih4 I4 A4 (i4 + 2) (by omega) (by omega)
                  · refine pm_goto (tgt := 286) hG dX12_plans_198 rfl ?_
                    refine pm_iincX (v := nI (i4 + 1)) (loc' := [some (.ref (B + 54)), some (.int (nI 2)), some (.int zb), some (.int zc), some (.int x2_4), some (.int (nI (i4 + 1))), none]) hG dX12_plans_286 rfl (nI_1 _) (by decide) (pm_c1b rfl) rfl ?_
                    refine pm_goto (tgt := 177) hG dX12_plans_289 rfl ?_
                    refine pm_le (loc' := [some (.ref (B + 54)), some (.int (nI 2)), some (.int zb), some (.int zc), some (.int x2_4), some (.int (nI (i4 + 2) - nI 1)), none]) (by rw [show nI (i4 + 2) - nI 1 = nI (i4 + 1) from nI_pred _]) ?_
                    exact ih4 I4 A4 (i4 + 2) (by omega) (by omega)
          exact loop177_4 _ I2 A2 0 (by omega) (Nat.lt_succ_self _)
        · refine pm_iloadi hG dX12_plans_137 rfl ?_
          refine pm_iloadn hG dX12_plans_139 rfl ?_
          refine pm_iloadi hG dX12_plans_140 rfl ?_
          refine pm_ishr hG dX12_plans_142 ?_
          refine pm_any (fun x25 => ?_)
          refine pm_iconst (v := nI 1) hG dX12_plans_143 (by decide) ?_
          refine pm_iand hG dX12_plans_144 ?_
          refine pm_any (fun x26 => ?_)
          refine pm_iconst (v := nI 1) hG dX12_plans_145 (by decide) ?_
          refine pm_icmp_ne (tgt := 164) hG dX12_plans_146 rfl (fun c27 => ?_) (fun c27 => ?_)
          · refine pm_iconst (v := nI 0) hG dX12_plans_164 (by decide) ?_
            refine pm_iadd hG dX12_plans_165 ?_
            refine pm_istoreXi (loc' := [some (.ref (B + 54)), some (.int (nI 2)), some (.int zb), some (.int zc), some (.int (x2_4 + (nI 0))), some (.int (nI i2)), none]) hG dX12_plans_166 (by decide) (pm_c1b rfl) rfl ?_
            refine pm_iincX (v := nI (i2 + 1)) (loc' := [some (.ref (B + 54)), some (.int (nI 2)), some (.int zb), some (.int zc), some (.int (x2_4 + (nI 0))), some (.int (nI (i2 + 1))), none]) hG dX12_plans_168 rfl (nI_1 _) (by decide) (pm_c1b rfl) rfl ?_
            refine pm_goto (tgt := 130) hG dX12_plans_171 rfl ?_
            exact ih2 I2 A2 (x2_4 + (nI 0)) (i2 + 1) (by omega) (by omega)
          · refine pm_aloadn hG dX12_plans_149 rfl ?_
            refine pm_getf hG dX12_plans_150 (flX12_7 _ rfl) rfl rfl ?_
            refine pm_bipush (v := nI 20) hG dX12_plans_153 (by decide) ?_
            refine pm_iconst (v := nI 3) hG dX12_plans_155 (by decide) ?_
            refine pm_iloadi hG dX12_plans_156 rfl ?_
            refine pm_imulN (c := 3 * i2) hG dX12_plans_158 (by omega) ?_
            refine pm_iaddN (c := 3 * i2 + 20) hG dX12_plans_159 (by omega) ?_
            refine pm_ialdN hG dX12_plans_160 rfl (by decide) (by omega) ?_
            refine pm_gen (fun x28 ex28 => ?_)
            refine pm_goto (tgt := 165) hG dX12_plans_161 rfl ?_
            refine pm_iadd hG dX12_plans_165 ?_
            refine pm_istoreXi (loc' := [some (.ref (B + 54)), some (.int (nI 2)), some (.int zb), some (.int zc), some (.int (x2_4 + x28)), some (.int (nI i2)), none]) hG dX12_plans_166 (by decide) (pm_c1b rfl) rfl ?_
            refine pm_iincX (v := nI (i2 + 1)) (loc' := [some (.ref (B + 54)), some (.int (nI 2)), some (.int zb), some (.int zc), some (.int (x2_4 + x28)), some (.int (nI (i2 + 1))), none]) hG dX12_plans_168 rfl (nI_1 _) (by decide) (pm_c1b rfl) rfl ?_
            refine pm_goto (tgt := 130) hG dX12_plans_171 rfl ?_
            exact ih2 I2 A2 (x2_4 + x28) (i2 + 1) (by omega) (by omega)
    exact loop130_2 _ I A zc 0 (by omega) (Nat.lt_succ_self _)
  · refine pm_iloadn hG dX12_plans_13 rfl ?_
    refine pm_istoreXi (loc' := [some (.ref (B + 54)), some (.int (nI 2)), some (.int zb), some (.int zc), some (.int zc), none, none]) hG dX12_plans_14 (by decide) (pm_c1b rfl) rfl ?_
    refine pm_iconst (v := nI 0) hG dX12_plans_16 (by decide) ?_
    refine pm_istoreXi (loc' := [some (.ref (B + 54)), some (.int (nI 2)), some (.int zb), some (.int zc), some (.int zc), some (.int (nI 0)), none]) hG dX12_plans_17 (by decide) (pm_c1b rfl) rfl ?_
    have loop19_29 : ∀ (m29 : Nat) (I29 : Nat → Int32) (A29 : Nat → Nat → Int32) (x29_4 : Int32) (i29 : Nat), i29 ≤ 6 → 6 - i29 < m29 → pm_wp mX12_plans G B 19 [some (.ref (B + 54)), some (.int (nI 2)), some (.int zb), some (.int zc), some (.int x29_4), some (.int (nI i29)), none] [] 0 0 cnt (pm_mid σ (md_L B I29 A29 n k z ac wt pl (nI p0) (nI t0) im)) := by
      intro m29
      induction m29 with
      | zero => intro I29 A29 x29_4 i29 _ hm; exact absurd hm (Nat.not_lt_zero _)
      | succ m29 ih29 =>
        intro I29 A29 x29_4 i29 hi29 hm29
        refine pm_iloadi hG dX12_plans_19 rfl ?_
        refine pm_bipush (v := nI 6) hG dX12_plans_21 (by decide) ?_
        refine pm_icmpN_ge (tgt := 66) hG dX12_plans_23 rfl (by omega) (by omega) (fun c30 => ?_) (fun c30 => ?_)
        · refine pm_aloadn hG dX12_plans_66 rfl ?_
          refine pm_getf hG dX12_plans_67 (flX12_273 _ rfl) rfl rfl ?_
          refine pm_any (fun x31 => ?_)
          refine pm_if_eq (tgt := 83) hG dX12_plans_70 rfl (fun c32 => ?_) (fun c32 => ?_)
          · refine pm_aloadn hG dX12_plans_83 rfl ?_
            refine pm_iconst (v := nI 1) hG dX12_plans_84 (by decide) ?_
            refine pm_putf hG dX12_plans_85 (fwX12_273 _ rfl) rfl (by decide) (by decide) ?_
            refine mdn_hasPlan (fun I_33 => ?_)
            refine pm_aloadn hG dX12_plans_88 rfl ?_
            refine pm_iloadi hG dX12_plans_89 rfl ?_
            refine pm_putf hG dX12_plans_91 (fwX12_277 _ rfl) rfl rfl rfl ?_
            refine mdn_planMost (fun I_34 => ?_)
            refine pm_iconst (v := nI 0) hG dX12_plans_94 (by decide) ?_
            refine pm_istoreXi (loc' := [some (.ref (B + 54)), some (.int (nI 2)), some (.int zb), some (.int zc), some (.int x29_4), some (.int (nI 0)), none]) hG dX12_plans_95 (by decide) (pm_c1b rfl) rfl ?_
            have loop97_35 : ∀ (m35 : Nat) (I35 : Nat → Int32) (A35 : Nat → Nat → Int32) (i35 : Nat), i35 ≤ 2 → 2 - i35 < m35 → pm_wp mX12_plans G B 97 [some (.ref (B + 54)), some (.int (nI 2)), some (.int zb), some (.int zc), some (.int x29_4), some (.int (nI i35)), none] [] 0 0 cnt (pm_mid σ (md_L B I35 A35 n k z ac wt pl (nI p0) (nI t0) im)) := by
              intro m35
              induction m35 with
              | zero => intro I35 A35 i35 _ hm; exact absurd hm (Nat.not_lt_zero _)
              | succ m35 ih35 =>
                intro I35 A35 i35 hi35 hm35
                refine pm_iloadi hG dX12_plans_97 rfl ?_
                refine pm_iloadn hG dX12_plans_99 rfl ?_
                refine pm_icmpN_ge (tgt := 123) hG dX12_plans_100 rfl (by omega) (by omega) (fun c36 => ?_) (fun c36 => ?_)
                · exact pm_vret hG hF dX12_plans_123 rfl (Nat.le_refl _) (Nat.le_refl _) ⟨rfl, ⟨_, _, rfl⟩, rfl⟩
                · refine pm_aloadn hG dX12_plans_103 rfl ?_
                  refine pm_getf hG dX12_plans_104 (flX12_49 _ rfl) rfl rfl ?_
                  refine pm_iloadi hG dX12_plans_107 rfl ?_
                  refine pm_aloadn hG dX12_plans_109 rfl ?_
                  refine pm_getf hG dX12_plans_110 (flX12_46 _ rfl) rfl rfl ?_
                  refine pm_iloadi hG dX12_plans_113 rfl ?_
                  refine pm_ialdN hG dX12_plans_115 rfl (by decide) (by omega) ?_
                  refine pm_any (fun x37 => ?_)
                  refine pm_iastN hG dX12_plans_116 rfl (by decide) (by omega) ?_
                  refine mdn_bestPledges (fun A_38 => ?_)
                  refine pm_iincX (v := nI (i35 + 1)) (loc' := [some (.ref (B + 54)), some (.int (nI 2)), some (.int zb), some (.int zc), some (.int x29_4), some (.int (nI (i35 + 1))), none]) hG dX12_plans_117 rfl (nI_1 _) (by decide) (pm_c1b rfl) rfl ?_
                  refine pm_goto (tgt := 97) hG dX12_plans_120 rfl ?_
                  exact ih35 I35 A_38 (i35 + 1) (by omega) (by omega)
            exact loop97_35 _ I_34 A29 0 (by omega) (Nat.lt_succ_self _)
          · refine pm_iloadi hG dX12_plans_73 rfl ?_
            refine pm_aloadn hG dX12_plans_75 rfl ?_
            refine pm_getf hG dX12_plans_76 (flX12_277 _ rfl) rfl rfl ?_
            refine pm_any (fun x39 => ?_)
            refine pm_icmp_gt (tgt := 83) hG dX12_plans_79 rfl (fun c40 => ?_) (fun c40 => ?_)
            · refine pm_aloadn hG dX12_plans_83 rfl ?_
              refine pm_iconst (v := nI 1) hG dX12_plans_84 (by decide) ?_
              refine pm_putf hG dX12_plans_85 (fwX12_273 _ rfl) rfl (by decide) (by decide) ?_
              refine mdn_hasPlan (fun I_41 => ?_)
              refine pm_aloadn hG dX12_plans_88 rfl ?_
              refine pm_iloadi hG dX12_plans_89 rfl ?_
              refine pm_putf hG dX12_plans_91 (fwX12_277 _ rfl) rfl rfl rfl ?_
              refine mdn_planMost (fun I_42 => ?_)
              refine pm_iconst (v := nI 0) hG dX12_plans_94 (by decide) ?_
              refine pm_istoreXi (loc' := [some (.ref (B + 54)), some (.int (nI 2)), some (.int zb), some (.int zc), some (.int x29_4), some (.int (nI 0)), none]) hG dX12_plans_95 (by decide) (pm_c1b rfl) rfl ?_
              have loop97_43 : ∀ (m43 : Nat) (I43 : Nat → Int32) (A43 : Nat → Nat → Int32) (i43 : Nat), i43 ≤ 2 → 2 - i43 < m43 → pm_wp mX12_plans G B 97 [some (.ref (B + 54)), some (.int (nI 2)), some (.int zb), some (.int zc), some (.int x29_4), some (.int (nI i43)), none] [] 0 0 cnt (pm_mid σ (md_L B I43 A43 n k z ac wt pl (nI p0) (nI t0) im)) := by
                intro m43
                induction m43 with
                | zero => intro I43 A43 i43 _ hm; exact absurd hm (Nat.not_lt_zero _)
                | succ m43 ih43 =>
                  intro I43 A43 i43 hi43 hm43
                  refine pm_iloadi hG dX12_plans_97 rfl ?_
                  refine pm_iloadn hG dX12_plans_99 rfl ?_
                  refine pm_icmpN_ge (tgt := 123) hG dX12_plans_100 rfl (by omega) (by omega) (fun c44 => ?_) (fun c44 => ?_)
                  · exact pm_vret hG hF dX12_plans_123 rfl (Nat.le_refl _) (Nat.le_refl _) ⟨rfl, ⟨_, _, rfl⟩, rfl⟩
                  · refine pm_aloadn hG dX12_plans_103 rfl ?_
                    refine pm_getf hG dX12_plans_104 (flX12_49 _ rfl) rfl rfl ?_
                    refine pm_iloadi hG dX12_plans_107 rfl ?_
                    refine pm_aloadn hG dX12_plans_109 rfl ?_
                    refine pm_getf hG dX12_plans_110 (flX12_46 _ rfl) rfl rfl ?_
                    refine pm_iloadi hG dX12_plans_113 rfl ?_
                    refine pm_ialdN hG dX12_plans_115 rfl (by decide) (by omega) ?_
                    refine pm_any (fun x45 => ?_)
                    refine pm_iastN hG dX12_plans_116 rfl (by decide) (by omega) ?_
                    refine mdn_bestPledges (fun A_46 => ?_)
                    refine pm_iincX (v := nI (i43 + 1)) (loc' := [some (.ref (B + 54)), some (.int (nI 2)), some (.int zb), some (.int zc), some (.int x29_4), some (.int (nI (i43 + 1))), none]) hG dX12_plans_117 rfl (nI_1 _) (by decide) (pm_c1b rfl) rfl ?_
                    refine pm_goto (tgt := 97) hG dX12_plans_120 rfl ?_
                    exact ih43 I43 A_46 (i43 + 1) (by omega) (by omega)
              exact loop97_43 _ I_42 A29 0 (by omega) (Nat.lt_succ_self _)
            · exact pm_vret hG hF dX12_plans_82 rfl (Nat.le_refl _) (Nat.le_refl _) ⟨rfl, ⟨_, _, rfl⟩, rfl⟩
        · refine pm_iloadi hG dX12_plans_26 rfl ?_
          refine pm_iloadn hG dX12_plans_28 rfl ?_
          refine pm_iloadi hG dX12_plans_29 rfl ?_
          refine pm_ishr hG dX12_plans_31 ?_
          refine pm_any (fun x47 => ?_)
          refine pm_iconst (v := nI 1) hG dX12_plans_32 (by decide) ?_
          refine pm_iand hG dX12_plans_33 ?_
          refine pm_any (fun x48 => ?_)
          refine pm_iconst (v := nI 1) hG dX12_plans_34 (by decide) ?_
          refine pm_icmp_ne (tgt := 56) hG dX12_plans_35 rfl (fun c49 => ?_) (fun c49 => ?_)
          · refine pm_iconst (v := nI 0) hG dX12_plans_56 (by decide) ?_
            refine pm_iadd hG dX12_plans_57 ?_
            refine pm_istoreXi (loc' := [some (.ref (B + 54)), some (.int (nI 2)), some (.int zb), some (.int zc), some (.int (x29_4 + (nI 0))), some (.int (nI i29)), none]) hG dX12_plans_58 (by decide) (pm_c1b rfl) rfl ?_
            refine pm_iincX (v := nI (i29 + 1)) (loc' := [some (.ref (B + 54)), some (.int (nI 2)), some (.int zb), some (.int zc), some (.int (x29_4 + (nI 0))), some (.int (nI (i29 + 1))), none]) hG dX12_plans_60 rfl (nI_1 _) (by decide) (pm_c1b rfl) rfl ?_
            refine pm_goto (tgt := 19) hG dX12_plans_63 rfl ?_
            exact ih29 I29 A29 (x29_4 + (nI 0)) (i29 + 1) (by omega) (by omega)
          · refine pm_bipush (v := nI 8) hG dX12_plans_38 (by decide) ?_
            refine pm_aloadn hG dX12_plans_40 rfl ?_
            refine pm_getf hG dX12_plans_41 (flX12_7 _ rfl) rfl rfl ?_
            refine pm_bipush (v := nI 20) hG dX12_plans_44 (by decide) ?_
            refine pm_iconst (v := nI 3) hG dX12_plans_46 (by decide) ?_
            refine pm_iloadi hG dX12_plans_47 rfl ?_
            refine pm_imulN (c := 3 * i29) hG dX12_plans_49 (by omega) ?_
            refine pm_iaddN (c := 3 * i29 + 20) hG dX12_plans_50 (by omega) ?_
            refine pm_ialdN hG dX12_plans_51 rfl (by decide) (by omega) ?_
            refine pm_gen (fun x50 ex50 => ?_)
            refine pm_imul hG dX12_plans_52 ?_
            refine pm_goto (tgt := 57) hG dX12_plans_53 rfl ?_
            refine pm_iadd hG dX12_plans_57 ?_
            refine pm_istoreXi (loc' := [some (.ref (B + 54)), some (.int (nI 2)), some (.int zb), some (.int zc), some (.int (x29_4 + ((nI 8) * x50))), some (.int (nI i29)), none]) hG dX12_plans_58 (by decide) (pm_c1b rfl) rfl ?_
            refine pm_iincX (v := nI (i29 + 1)) (loc' := [some (.ref (B + 54)), some (.int (nI 2)), some (.int zb), some (.int zc), some (.int (x29_4 + ((nI 8) * x50))), some (.int (nI (i29 + 1))), none]) hG dX12_plans_60 rfl (nI_1 _) (by decide) (pm_c1b rfl) rfl ?_
            refine pm_goto (tgt := 19) hG dX12_plans_63 rfl ?_
            exact ih29 I29 A29 (x29_4 + ((nI 8) * x50)) (i29 + 1) (by omega) (by omega)
    exact loop19_29 _ I A zc 0 (by omega) (Nat.lt_succ_self _)
