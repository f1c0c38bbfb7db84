set_option maxRecDepth 100000 in
set_option maxHeartbeats 4000000 in
theorem c_X12_plans_k3 {d : Nat} {B cnt : Nat} {σ : pm_S} {S : FS} {zb : Int32} {zc : Int32} {R : Int32 × FS} (hdd : 6 ≤ d) (hE : f_X12_plans_k3 S zb zc = some R) : pm_met mX12_plans d 0 0 B [.ref (B + 54), .int 3, .int zb, .int zc] cnt (mst B S σ) (pm_Qv (fun σ' cnt' => σ' = (mst B R.2 σ) ∧ cnt' = cnt)) := by
  refine pm_enter 3 (by decide) (Nat.le_of_ble_eq_true rfl) rfl (fun G hG hR hF => ?_)
  unfold f_X12_plans_k3 at hE
  refine pm_iloadn hG dX12_plans_0 rfl ?_
  refine pm_aloadn hG dX12_plans_1 rfl ?_
  refine pm_getf hG dX12_plans_2 (flX12_58 _ rfl) rfl rfl ?_
  refine pm_aloadn hG dX12_plans_5 rfl ?_
  refine pm_getf hG dX12_plans_6 (flX12_270 _ rfl) rfl rfl ?_
  obtain ⟨j1, hj1, hE⟩ := fb_some hE
  refine fx_iald hG dX12_plans_9 rfl hj1 ?_
  refine pm_icmp_ne (tgt := 124) hG dX12_plans_10 rfl (fun c2 => ?_) (fun c2 => ?_)
  · replace hE := fx_f c2 hE
    refine pm_iloadn hG dX12_plans_124 rfl ?_
    refine pm_istoreXi (loc' := [some (.ref (B + 54)), some (.int 3), some (.int zb), some (.int zc), some (.int zc), none, none]) hG dX12_plans_125 (by decide) (pm_c1b rfl) rfl ?_
    refine pm_iconst (v := 0) hG dX12_plans_127 (by decide) ?_
    refine pm_istoreXi (loc' := [some (.ref (B + 54)), some (.int 3), some (.int zb), some (.int zc), some (.int zc), some (.int 0), none]) hG dX12_plans_128 (by decide) (pm_c1b rfl) rfl ?_
    have loop130 : ∀ (k130 : FS → Int32 → Int32 → Option (Int32 × FS)), (∀ (S3 : FS) (x3_4 : Int32) (x3_5 : Int32), k130 S3  x3_4 x3_5 = some R → pm_wp mX12_plans G B 174 [some (.ref (B + 54)), some (.int 3), some (.int zb), some (.int zc), some (.int x3_4), some (.int x3_5), none] [] 0 0 cnt (mst B S3 σ)) → ∀ (m130 : Nat) (S3 : FS) (x3_4 : Int32) (x3_5 : Int32), l_X12_plans_k3_130 zb k130 m130 S3  x3_4 x3_5 = some R → pm_wp mX12_plans G B 130 [some (.ref (B + 54)), some (.int 3), some (.int zb), some (.int zc), some (.int x3_4), some (.int x3_5), none] [] 0 0 cnt (mst B S3 σ) := by
      intro k130 hk130 m130
      induction m130 with
      | zero => intro S3  x3_4 x3_5 hE; exact fx_no hE
      | succ m130 ih130 =>
        intro S3  x3_4 x3_5 hE
        rw [l_X12_plans_k3_130] at hE
        refine pm_iloadi hG dX12_plans_130 rfl ?_
        refine pm_bipush (v := 6) hG dX12_plans_132 (by decide) ?_
        refine pm_icmp_ge (tgt := 174) hG dX12_plans_134 rfl (fun c4 => ?_) (fun c4 => ?_)
        · replace c4 := Int32.not_lt.mpr c4
          replace hE := fx_f c4 hE
          exact hk130 _ _ _ hE
        · replace c4 := Int32.not_le.mp c4
          replace hE := fx_t c4 hE
          refine pm_iloadi hG dX12_plans_137 rfl ?_
          refine pm_iloadn hG dX12_plans_139 rfl ?_
          refine pm_iloadi hG dX12_plans_140 rfl ?_
          refine pm_ishr hG dX12_plans_142 ?_
          refine pm_iconst (v := 1) hG dX12_plans_143 (by decide) ?_
          refine pm_iand hG dX12_plans_144 ?_
          refine pm_iconst (v := 1) hG dX12_plans_145 (by decide) ?_
          refine pm_icmp_ne (tgt := 164) hG dX12_plans_146 rfl (fun c5 => ?_) (fun c5 => ?_)
          · replace hE := fx_f c5 hE
            refine pm_iconst (v := 0) hG dX12_plans_164 (by decide) ?_
            refine pm_iadd hG dX12_plans_165 ?_
            refine fx_letv hE (fun x6 hE => ?_)
            refine pm_istoreXi (loc' := [some (.ref (B + 54)), some (.int 3), some (.int zb), some (.int zc), some (.int x6), some (.int x3_5), none]) hG dX12_plans_166 (by decide) (pm_c1b rfl) rfl ?_
            refine pm_iincX (v := x3_5 + 1) (loc' := [some (.ref (B + 54)), some (.int 3), some (.int zb), some (.int zc), some (.int x6), some (.int (x3_5 + 1)), none]) hG dX12_plans_168 rfl (by rfl) (by decide) (pm_c1b rfl) rfl ?_
            refine pm_goto (tgt := 130) hG dX12_plans_171 rfl ?_
            exact ih130 _ _ _ hE
          · replace hE := fx_t c5 hE
            refine pm_aloadn hG dX12_plans_149 rfl ?_
            refine pm_getf hG dX12_plans_150 (flX12_7 _ rfl) rfl rfl ?_
            refine pm_bipush (v := 20) hG dX12_plans_153 (by decide) ?_
            refine pm_iconst (v := 3) hG dX12_plans_155 (by decide) ?_
            refine pm_iloadi hG dX12_plans_156 rfl ?_
            refine pm_imul hG dX12_plans_158 ?_
            refine pm_iadd hG dX12_plans_159 ?_
            obtain ⟨j7, hj7, hE⟩ := fb_some hE
            refine fx_iald hG dX12_plans_160 rfl hj7 ?_
            refine pm_goto (tgt := 165) hG dX12_plans_161 rfl ?_
            refine pm_iadd hG dX12_plans_165 ?_
            refine fx_letv hE (fun x8 hE => ?_)
            refine pm_istoreXi (loc' := [some (.ref (B + 54)), some (.int 3), some (.int zb), some (.int zc), some (.int x8), some (.int x3_5), none]) hG dX12_plans_166 (by decide) (pm_c1b rfl) rfl ?_
            refine pm_iincX (v := x3_5 + 1) (loc' := [some (.ref (B + 54)), some (.int 3), some (.int zb), some (.int zc), some (.int x8), some (.int (x3_5 + 1)), none]) hG dX12_plans_168 rfl (by rfl) (by decide) (pm_c1b rfl) rfl ?_
            refine pm_goto (tgt := 130) hG dX12_plans_171 rfl ?_
            exact ih130 _ _ _ hE
    refine loop130 _ (fun S9 x9_4 x9_5 hE => ?_) _ _ _ _ hE
    refine pm_iconst (v := (-1)) hG dX12_plans_174 (by decide) ?_
    refine pm_istoreXi (loc' := [some (.ref (B + 54)), some (.int 3), some (.int zb), some (.int zc), some (.int x9_4), some (.int (-1)), none]) hG dX12_plans_175 (by decide) (pm_c1b rfl) rfl ?_
    have loop177 : ∀ (k177 : FS → Int32 → Option (Int32 × FS)), (∀ (S10 : FS) (x10_5 : Int32), k177 S10  x10_5 = some R → pm_wp mX12_plans G B 292 [some (.ref (B + 54)), some (.int 3), some (.int zb), some (.int zc), some (.int x9_4), some (.int x10_5), none] [] 0 0 cnt (mst B S10 σ)) → ∀ (m177 : Nat) (S10 : FS) (x10_5 : Int32), l_X12_plans_k3_177 zb x9_4 k177 m177 S10  x10_5 = some R → pm_wp mX12_plans G B 177 [some (.ref (B + 54)), some (.int 3), some (.int zb), some (.int zc), some (.int x9_4), some (.int x10_5), none] [] 0 0 cnt (mst B S10 σ) := by
      intro k177 hk177 m177
      induction m177 with
      | zero => intro S10  x10_5 hE; exact fx_no hE
      | succ m177 ih177 =>
        intro S10  x10_5 hE
        rw [l_X12_plans_k3_177] at hE
        refine pm_iloadi hG dX12_plans_177 rfl ?_
        refine pm_bipush (v := 6) hG dX12_plans_179 (by decide) ?_
        refine pm_icmp_ge (tgt := 292) hG dX12_plans_181 rfl (fun c11 => ?_) (fun c11 => ?_)
        · replace c11 := Int32.not_lt.mpr c11
          replace hE := fx_f c11 hE
          exact hk177 _ _ hE
        · replace c11 := Int32.not_le.mp c11
          replace hE := fx_t c11 hE
          refine pm_iloadi hG dX12_plans_184 rfl ?_
          refine pm_if_lt (tgt := 201) hG dX12_plans_186 rfl (fun c12 => ?_) (fun c12 => ?_)
          · replace hE := fx_t c12 hE
            refine pm_iloadi hG dX12_plans_201 rfl ?_
            refine pm_aloadn hG dX12_plans_203 rfl ?_
            refine pm_getf hG dX12_plans_204 (flX12_61 _ rfl) rfl rfl ?_
            refine pm_bipush (v := 24) hG dX12_plans_207 (by decide) ?_
            refine pm_aloadn hG dX12_plans_209 rfl ?_
            refine pm_getf hG dX12_plans_210 (flX12_270 _ rfl) rfl rfl ?_
            refine pm_imul hG dX12_plans_213 ?_
            refine pm_iloadn hG dX12_plans_214 rfl ?_
            refine pm_iadd hG dX12_plans_215 ?_
            obtain ⟨j13, hj13, hE⟩ := fb_some hE
            refine fx_iald hG dX12_plans_216 rfl hj13 ?_
            refine pm_isub hG dX12_plans_217 ?_
            refine pm_iloadi hG dX12_plans_218 rfl ?_
            refine pm_if_ge (tgt := 227) hG dX12_plans_220 rfl (fun q => absurd c12 (Int32.not_lt.mpr q)) (fun _ => ?_)
            refine pm_iconst (v := 0) hG dX12_plans_223 (by decide) ?_
            refine pm_goto (tgt := 241) hG dX12_plans_224 rfl ?_
            refine pm_iadd hG dX12_plans_241 ?_
            refine fx_letv hE (fun x14 hE => ?_)
            refine pm_istoreXi (loc' := [some (.ref (B + 54)), some (.int 3), some (.int zb), some (.int zc), some (.int x9_4), some (.int x10_5), some (.int x14)]) hG dX12_plans_242 (by decide) (pm_c1b rfl) rfl ?_
            refine pm_iloadi hG dX12_plans_244 rfl ?_
            refine pm_if_ge (tgt := 252) hG dX12_plans_246 rfl (fun c15 => ?_) (fun c15 => ?_)
            · replace c15 := Int32.not_lt.mpr c15
              replace hE := fx_f c15 hE
              refine pm_aloadn hG dX12_plans_252 rfl ?_
              refine pm_getf hG dX12_plans_253 (flX12_46 _ rfl) rfl rfl ?_
              refine pm_iloadn hG dX12_plans_256 rfl ?_
              refine pm_iloadi hG dX12_plans_257 rfl ?_
              refine fx_iast hG dX12_plans_259 rfl (ix_lit (by decide) rfl) ?_
              refine ma_67 ?_
              refine fx_letm hE (fun S16 hE => ?_)
              refine pm_aloadn hG dX12_plans_260 rfl ?_
              refine pm_iloadn hG dX12_plans_261 rfl ?_
              refine pm_iconst (v := 1) hG dX12_plans_262 (by decide) ?_
              refine pm_iadd hG dX12_plans_263 ?_
              refine pm_top (v := 4) (by decide) ?_
              refine pm_iloadi hG dX12_plans_264 rfl ?_
              refine pm_if_ge (tgt := 273) hG dX12_plans_266 rfl (fun q => absurd c12 (Int32.not_lt.mpr q)) (fun _ => ?_)
              refine pm_iloadn hG dX12_plans_269 rfl ?_
              refine pm_goto (tgt := 281) hG dX12_plans_270 rfl ?_
              refine pm_iloadi hG dX12_plans_281 rfl ?_
              obtain ⟨r18, h17, hE⟩ := fb_some hE
              refine pm_callV (As := [.int 4, .int zb, .int x14]) (rest := []) hG hR dX12_plans_283 (lkX12_280 _ rfl) okV_X12_plans rfl rfl (c_X12_plans_k4 (d := 5) (by decide) h17) rfl rfl hdd (Nat.le_refl _) (Nat.le_refl _) (by decide) (fx_kv ?_)
              refine pm_iincX (v := x10_5 + 1) (loc' := [some (.ref (B + 54)), some (.int 3), some (.int zb), some (.int zc), some (.int x9_4), some (.int (x10_5 + 1)), some (.int x14)]) hG dX12_plans_286 rfl (by rfl) (by decide) (pm_c1b rfl) rfl ?_
              refine pm_goto (tgt := 177) hG dX12_plans_289 rfl ?_
              refine pm_fg 6 (loc' := [some (.ref (B + 54)), some (.int 3), some (.int zb), some (.int zc), some (.int x9_4), some (.int (x10_5 + 1)), none]) rfl ?_
              exact ih177 _ _ hE
            · replace c15 := Int32.not_le.mp c15
              replace hE := fx_t c15 hE
              refine pm_goto (tgt := 286) hG dX12_plans_249 rfl ?_
              refine pm_iincX (v := x10_5 + 1) (loc' := [some (.ref (B + 54)), some (.int 3), some (.int zb), some (.int zc), some (.int x9_4), some (.int (x10_5 + 1)), some (.int x14)]) hG dX12_plans_286 rfl (by rfl) (by decide) (pm_c1b rfl) rfl ?_
              refine pm_goto (tgt := 177) hG dX12_plans_289 rfl ?_
              refine pm_fg 6 (loc' := [some (.ref (B + 54)), some (.int 3), some (.int zb), some (.int zc), some (.int x9_4), some (.int (x10_5 + 1)), none]) rfl ?_
              exact ih177 _ _ hE
          · replace hE := fx_f c12 hE
            refine pm_iloadn hG dX12_plans_189 rfl ?_
            refine pm_iloadi hG dX12_plans_190 rfl ?_
            refine pm_ishr hG dX12_plans_192 ?_
            refine pm_iconst (v := 1) hG dX12_plans_193 (by decide) ?_
            refine pm_iand hG dX12_plans_194 ?_
            refine pm_if_ne (tgt := 201) hG dX12_plans_195 rfl (fun c19 => ?_) (fun c19 => ?_)
            · replace hE := fx_f c19 hE
              refine pm_iloadi hG dX12_plans_201 rfl ?_
              refine pm_aloadn hG dX12_plans_203 rfl ?_
              refine pm_getf hG dX12_plans_204 (flX12_61 _ rfl) rfl rfl ?_
              refine pm_bipush (v := 24) hG dX12_plans_207 (by decide) ?_
              refine pm_aloadn hG dX12_plans_209 rfl ?_
              refine pm_getf hG dX12_plans_210 (flX12_270 _ rfl) rfl rfl ?_
              refine pm_imul hG dX12_plans_213 ?_
              refine pm_iloadn hG dX12_plans_214 rfl ?_
              refine pm_iadd hG dX12_plans_215 ?_
              obtain ⟨j20, hj20, hE⟩ := fb_some hE
              refine fx_iald hG dX12_plans_216 rfl hj20 ?_
              refine pm_isub hG dX12_plans_217 ?_
              refine pm_iloadi hG dX12_plans_218 rfl ?_
              refine pm_if_ge (tgt := 227) hG dX12_plans_220 rfl (fun _ => ?_) (fun q => absurd (Int32.not_le.mp q) c12)
              refine pm_iconst (v := 4) hG dX12_plans_227 (by decide) ?_
              refine pm_aloadn hG dX12_plans_228 rfl ?_
              refine pm_getf hG dX12_plans_229 (flX12_7 _ rfl) rfl rfl ?_
              refine pm_bipush (v := 20) hG dX12_plans_232 (by decide) ?_
              refine pm_iconst (v := 3) hG dX12_plans_234 (by decide) ?_
              refine pm_iloadi hG dX12_plans_235 rfl ?_
              refine pm_imul hG dX12_plans_237 ?_
              refine pm_iadd hG dX12_plans_238 ?_
              obtain ⟨j21, hj21, hE⟩ := fb_some hE
              refine fx_iald hG dX12_plans_239 rfl hj21 ?_
              refine pm_imul hG dX12_plans_240 ?_
              refine pm_iadd hG dX12_plans_241 ?_
              refine fx_letv hE (fun x22 hE => ?_)
              refine pm_istoreXi (loc' := [some (.ref (B + 54)), some (.int 3), some (.int zb), some (.int zc), some (.int x9_4), some (.int x10_5), some (.int x22)]) hG dX12_plans_242 (by decide) (pm_c1b rfl) rfl ?_
              refine pm_iloadi hG dX12_plans_244 rfl ?_
              refine pm_if_ge (tgt := 252) hG dX12_plans_246 rfl (fun c23 => ?_) (fun c23 => ?_)
              · replace c23 := Int32.not_lt.mpr c23
                replace hE := fx_f c23 hE
                refine pm_aloadn hG dX12_plans_252 rfl ?_
                refine pm_getf hG dX12_plans_253 (flX12_46 _ rfl) rfl rfl ?_
                refine pm_iloadn hG dX12_plans_256 rfl ?_
                refine pm_iloadi hG dX12_plans_257 rfl ?_
                refine fx_iast hG dX12_plans_259 rfl (ix_lit (by decide) rfl) ?_
                refine ma_67 ?_
                refine fx_letm hE (fun S24 hE => ?_)
                refine pm_aloadn hG dX12_plans_260 rfl ?_
                refine pm_iloadn hG dX12_plans_261 rfl ?_
                refine pm_iconst (v := 1) hG dX12_plans_262 (by decide) ?_
                refine pm_iadd hG dX12_plans_263 ?_
                refine pm_top (v := 4) (by decide) ?_
                refine pm_iloadi hG dX12_plans_264 rfl ?_
                refine pm_if_ge (tgt := 273) hG dX12_plans_266 rfl (fun _ => ?_) (fun q => absurd (Int32.not_le.mp q) c12)
                refine pm_iloadn hG dX12_plans_273 rfl ?_
                refine pm_iconst (v := 1) hG dX12_plans_274 (by decide) ?_
                refine pm_iloadi hG dX12_plans_275 rfl ?_
                refine pm_ishl hG dX12_plans_277 ?_
                refine pm_iconst (v := (-1)) hG dX12_plans_278 (by decide) ?_
                refine pm_ixor hG dX12_plans_279 ?_
                refine pm_iand hG dX12_plans_280 ?_
                refine pm_iloadi hG dX12_plans_281 rfl ?_
                obtain ⟨r26, h25, hE⟩ := fb_some hE
                refine pm_callV (As := [.int 4, .int (zb &&& (((1 : Int32) <<< (x10_5 &&& 31)) ^^^ (-1))), .int x22]) (rest := []) hG hR dX12_plans_283 (lkX12_280 _ rfl) okV_X12_plans rfl rfl (c_X12_plans_k4 (d := 5) (by decide) h25) rfl rfl hdd (Nat.le_refl _) (Nat.le_refl _) (by decide) (fx_kv ?_)
                refine pm_iincX (v := x10_5 + 1) (loc' := [some (.ref (B + 54)), some (.int 3), some (.int zb), some (.int zc), some (.int x9_4), some (.int (x10_5 + 1)), some (.int x22)]) hG dX12_plans_286 rfl (by rfl) (by decide) (pm_c1b rfl) rfl ?_
                refine pm_goto (tgt := 177) hG dX12_plans_289 rfl ?_
                refine pm_fg 6 (loc' := [some (.ref (B + 54)), some (.int 3), some (.int zb), some (.int zc), some (.int x9_4), some (.int (x10_5 + 1)), none]) rfl ?_
                exact ih177 _ _ hE
              · replace c23 := Int32.not_le.mp c23
                replace hE := fx_t c23 hE
                refine pm_goto (tgt := 286) hG dX12_plans_249 rfl ?_
                refine pm_iincX (v := x10_5 + 1) (loc' := [some (.ref (B + 54)), some (.int 3), some (.int zb), some (.int zc), some (.int x9_4), some (.int (x10_5 + 1)), some (.int x22)]) hG dX12_plans_286 rfl (by rfl) (by decide) (pm_c1b rfl) rfl ?_
                refine pm_goto (tgt := 177) hG dX12_plans_289 rfl ?_
                refine pm_fg 6 (loc' := [some (.ref (B + 54)), some (.int 3), some (.int zb), some (.int zc), some (.int x9_4), some (.int (x10_5 + 1)), none]) rfl ?_
                exact ih177 _ _ hE
            · replace hE := fx_t c19 hE
              refine pm_goto (tgt := 286) hG dX12_plans_198 rfl ?_
              refine pm_iincX (v := x10_5 + 1) (loc' := [some (.ref (B + 54)), some (.int 3), some (.int zb), some (.int zc), some (.int x9_4), some (.int (x10_5 + 1)), none]) hG dX12_plans_286 rfl (by rfl) (by decide) (pm_c1b rfl) rfl ?_
              refine pm_goto (tgt := 177) hG dX12_plans_289 rfl ?_
              exact ih177 _ _ hE
    refine loop177 _ (fun S27 x27_5 hE => ?_) _ _ _ hE
    exact pm_vret hG hF dX12_plans_292 rfl (Nat.le_refl _) (Nat.le_refl _) (fx_rvm hE)
  · replace hE := fx_t c2 hE
    refine pm_iloadn hG dX12_plans_13 rfl ?_
    refine pm_istoreXi (loc' := [some (.ref (B + 54)), some (.int 3), some (.int zb), some (.int zc), some (.int zc), none, none]) hG dX12_plans_14 (by decide) (pm_c1b rfl) rfl ?_
    refine pm_iconst (v := 0) hG dX12_plans_16 (by decide) ?_
    refine pm_istoreXi (loc' := [some (.ref (B + 54)), some (.int 3), some (.int zb), some (.int zc), some (.int zc), some (.int 0), none]) hG dX12_plans_17 (by decide) (pm_c1b rfl) rfl ?_
    have loop19 : ∀ (k19 : FS → Int32 → Int32 → Option (Int32 × FS)), (∀ (S28 : FS) (x28_4 : Int32) (x28_5 : Int32), k19 S28  x28_4 x28_5 = some R → pm_wp mX12_plans G B 66 [some (.ref (B + 54)), some (.int 3), some (.int zb), some (.int zc), some (.int x28_4), some (.int x28_5), none] [] 0 0 cnt (mst B S28 σ)) → ∀ (m19 : Nat) (S28 : FS) (x28_4 : Int32) (x28_5 : Int32), l_X12_plans_k3_19 zb k19 m19 S28  x28_4 x28_5 = some R → pm_wp mX12_plans G B 19 [some (.ref (B + 54)), some (.int 3), some (.int zb), some (.int zc), some (.int x28_4), some (.int x28_5), none] [] 0 0 cnt (mst B S28 σ) := by
      intro k19 hk19 m19
      induction m19 with
      | zero => intro S28  x28_4 x28_5 hE; exact fx_no hE
      | succ m19 ih19 =>
        intro S28  x28_4 x28_5 hE
        rw [l_X12_plans_k3_19] at hE
        refine pm_iloadi hG dX12_plans_19 rfl ?_
        refine pm_bipush (v := 6) hG dX12_plans_21 (by decide) ?_
        refine pm_icmp_ge (tgt := 66) hG dX12_plans_23 rfl (fun c29 => ?_) (fun c29 => ?_)
        · replace c29 := Int32.not_lt.mpr c29
          replace hE := fx_f c29 hE
          exact hk19 _ _ _ hE
        · replace c29 := Int32.not_le.mp c29
          replace hE := fx_t c29 hE
          refine pm_iloadi hG dX12_plans_26 rfl ?_
          refine pm_iloadn hG dX12_plans_28 rfl ?_
          refine pm_iloadi hG dX12_plans_29 rfl ?_
          refine pm_ishr hG dX12_plans_31 ?_
          refine pm_iconst (v := 1) hG dX12_plans_32 (by decide) ?_
          refine pm_iand hG dX12_plans_33 ?_
          refine pm_iconst (v := 1) hG dX12_plans_34 (by decide) ?_
          refine pm_icmp_ne (tgt := 56) hG dX12_plans_35 rfl (fun c30 => ?_) (fun c30 => ?_)
          · replace hE := fx_f c30 hE
            refine pm_iconst (v := 0) hG dX12_plans_56 (by decide) ?_
            refine pm_iadd hG dX12_plans_57 ?_
            refine fx_letv hE (fun x31 hE => ?_)
            refine pm_istoreXi (loc' := [some (.ref (B + 54)), some (.int 3), some (.int zb), some (.int zc), some (.int x31), some (.int x28_5), none]) hG dX12_plans_58 (by decide) (pm_c1b rfl) rfl ?_
            refine pm_iincX (v := x28_5 + 1) (loc' := [some (.ref (B + 54)), some (.int 3), some (.int zb), some (.int zc), some (.int x31), some (.int (x28_5 + 1)), none]) hG dX12_plans_60 rfl (by rfl) (by decide) (pm_c1b rfl) rfl ?_
            refine pm_goto (tgt := 19) hG dX12_plans_63 rfl ?_
            exact ih19 _ _ _ hE
          · replace hE := fx_t c30 hE
            refine pm_bipush (v := 8) hG dX12_plans_38 (by decide) ?_
            refine pm_aloadn hG dX12_plans_40 rfl ?_
            refine pm_getf hG dX12_plans_41 (flX12_7 _ rfl) rfl rfl ?_
            refine pm_bipush (v := 20) hG dX12_plans_44 (by decide) ?_
            refine pm_iconst (v := 3) hG dX12_plans_46 (by decide) ?_
            refine pm_iloadi hG dX12_plans_47 rfl ?_
            refine pm_imul hG dX12_plans_49 ?_
            refine pm_iadd hG dX12_plans_50 ?_
            obtain ⟨j32, hj32, hE⟩ := fb_some hE
            refine fx_iald hG dX12_plans_51 rfl hj32 ?_
            refine pm_imul hG dX12_plans_52 ?_
            refine pm_goto (tgt := 57) hG dX12_plans_53 rfl ?_
            refine pm_iadd hG dX12_plans_57 ?_
            refine fx_letv hE (fun x33 hE => ?_)
            refine pm_istoreXi (loc' := [some (.ref (B + 54)), some (.int 3), some (.int zb), some (.int zc), some (.int x33), some (.int x28_5), none]) hG dX12_plans_58 (by decide) (pm_c1b rfl) rfl ?_
            refine pm_iincX (v := x28_5 + 1) (loc' := [some (.ref (B + 54)), some (.int 3), some (.int zb), some (.int zc), some (.int x33), some (.int (x28_5 + 1)), none]) hG dX12_plans_60 rfl (by rfl) (by decide) (pm_c1b rfl) rfl ?_
            refine pm_goto (tgt := 19) hG dX12_plans_63 rfl ?_
            exact ih19 _ _ _ hE
    refine loop19 _ (fun S34 x34_4 x34_5 hE => ?_) _ _ _ _ hE
    have join83 : ∀ (S35 : FS), j_X12_plans_k3_83 x34_4 S35 = some R → pm_wp mX12_plans G B 83 [some (.ref (B + 54)), some (.int 3), some (.int zb), some (.int zc), some (.int x34_4), some (.int x34_5), none] [] 0 0 cnt (mst B S35 σ) := by
      intro S35 hE
      unfold j_X12_plans_k3_83 at hE
      refine pm_aloadn hG dX12_plans_83 rfl ?_
      refine pm_iconst (v := 1) hG dX12_plans_84 (by decide) ?_
      refine pm_putf hG dX12_plans_85 (fwX12_273 _ rfl) rfl (by decide) (by decide) ?_
      refine mi_20 ?_
      refine fx_letm hE (fun S36 hE => ?_)
      refine pm_aloadn hG dX12_plans_88 rfl ?_
      refine pm_iloadi hG dX12_plans_89 rfl ?_
      refine pm_putf hG dX12_plans_91 (fwX12_277 _ rfl) rfl rfl rfl ?_
      refine mi_19 ?_
      refine fx_letm hE (fun S37 hE => ?_)
      refine pm_iconst (v := 0) hG dX12_plans_94 (by decide) ?_
      refine pm_istoreXi (loc' := [some (.ref (B + 54)), some (.int 3), some (.int zb), some (.int zc), some (.int x34_4), some (.int 0), none]) hG dX12_plans_95 (by decide) (pm_c1b rfl) rfl ?_
      have loop97 : ∀ (k97 : FS → Int32 → Option (Int32 × FS)), (∀ (S38 : FS) (x38_5 : Int32), k97 S38  x38_5 = some R → pm_wp mX12_plans G B 123 [some (.ref (B + 54)), some (.int 3), some (.int zb), some (.int zc), some (.int x34_4), some (.int x38_5), none] [] 0 0 cnt (mst B S38 σ)) → ∀ (m97 : Nat) (S38 : FS) (x38_5 : Int32), l_X12_plans_k3_97 k97 m97 S38  x38_5 = some R → pm_wp mX12_plans G B 97 [some (.ref (B + 54)), some (.int 3), some (.int zb), some (.int zc), some (.int x34_4), some (.int x38_5), none] [] 0 0 cnt (mst B S38 σ) := by
        intro k97 hk97 m97
        induction m97 with
        | zero => intro S38  x38_5 hE; exact fx_no hE
        | succ m97 ih97 =>
          intro S38  x38_5 hE
          rw [l_X12_plans_k3_97] at hE
          refine pm_iloadi hG dX12_plans_97 rfl ?_
          refine pm_iloadn hG dX12_plans_99 rfl ?_
          refine pm_icmp_ge (tgt := 123) hG dX12_plans_100 rfl (fun c39 => ?_) (fun c39 => ?_)
          · replace c39 := Int32.not_lt.mpr c39
            replace hE := fx_f c39 hE
            exact hk97 _ _ hE
          · replace c39 := Int32.not_le.mp c39
            replace hE := fx_t c39 hE
            refine pm_aloadn hG dX12_plans_103 rfl ?_
            refine pm_getf hG dX12_plans_104 (flX12_49 _ rfl) rfl rfl ?_
            refine pm_iloadi hG dX12_plans_107 rfl ?_
            refine pm_aloadn hG dX12_plans_109 rfl ?_
            refine pm_getf hG dX12_plans_110 (flX12_46 _ rfl) rfl rfl ?_
            refine pm_iloadi hG dX12_plans_113 rfl ?_
            obtain ⟨j40, hj40, hE⟩ := fb_some hE
            refine fx_iald hG dX12_plans_115 rfl hj40 ?_
            refine fx_iast hG dX12_plans_116 rfl hj40 ?_
            refine ma_68 ?_
            refine fx_letm hE (fun S41 hE => ?_)
            refine pm_iincX (v := x38_5 + 1) (loc' := [some (.ref (B + 54)), some (.int 3), some (.int zb), some (.int zc), some (.int x34_4), some (.int (x38_5 + 1)), none]) hG dX12_plans_117 rfl (by rfl) (by decide) (pm_c1b rfl) rfl ?_
            refine pm_goto (tgt := 97) hG dX12_plans_120 rfl ?_
            exact ih97 _ _ hE
      refine loop97 _ (fun S42 x42_5 hE => ?_) _ _ _ hE
      exact pm_vret hG hF dX12_plans_123 rfl (Nat.le_refl _) (Nat.le_refl _) (fx_rvm hE)
    refine pm_aloadn hG dX12_plans_66 rfl ?_
    refine pm_getf hG dX12_plans_67 (flX12_273 _ rfl) rfl rfl ?_
    refine pm_if_eq (tgt := 83) hG dX12_plans_70 rfl (fun c43 => ?_) (fun c43 => ?_)
    · replace hE := fx_t c43 hE
      exact join83 _ hE
    · replace hE := fx_f c43 hE
      refine pm_iloadi hG dX12_plans_73 rfl ?_
      refine pm_aloadn hG dX12_plans_75 rfl ?_
      refine pm_getf hG dX12_plans_76 (flX12_277 _ rfl) rfl rfl ?_
      refine pm_icmp_gt (tgt := 83) hG dX12_plans_79 rfl (fun c44 => ?_) (fun c44 => ?_)
      · replace hE := fx_t c44 hE
        exact join83 _ hE
      · replace hE := fx_f c44 hE
        exact pm_vret hG hF dX12_plans_82 rfl (Nat.le_refl _) (Nat.le_refl _) (fx_rvm hE)

set_option maxRecDepth 100000 in
set_option maxHeartbeats 4000000 in
theorem c_X12_plans_k2 {d : Nat} {B cnt : Nat} {σ : pm_S} {S : FS} {zb : Int32} {zc : Int32} {R : Int32 × FS} (hdd : 7 ≤ d) (hE : f_X12_plans_k2 S zb zc = some R) : pm_met mX12_plans d 0 0 B [.ref (B + 54), .int 2, .int zb, .int zc] cnt (mst B S σ) (pm_Qv (fun σ' cnt' => σ' = (mst B R.2 σ) ∧ cnt' = cnt)) := by
  refine pm_enter 3 (by decide) (Nat.le_of_ble_eq_true rfl) rfl (fun G hG hR hF => ?_)
  unfold f_X12_plans_k2 at hE
  refine pm_iloadn hG dX12_plans_0 rfl ?_
  refine pm_aloadn hG dX12_plans_1 rfl ?_
  refine pm_getf hG dX12_plans_2 (flX12_58 _ rfl) rfl rfl ?_
  refine pm_aloadn hG dX12_plans_5 rfl ?_
  refine pm_getf hG dX12_plans_6 (flX12_270 _ rfl) rfl rfl ?_
  obtain ⟨j1, hj1, hE⟩ := fb_some hE
  refine fx_iald hG dX12_plans_9 rfl hj1 ?_
  refine pm_icmp_ne (tgt := 124) hG dX12_plans_10 rfl (fun c2 => ?_) (fun c2 => ?_)
  · replace hE := fx_f c2 hE
    refine pm_iloadn hG dX12_plans_124 rfl ?_
    refine pm_istoreXi (loc' := [some (.ref (B + 54)), some (.int 2), some (.int zb), some (.int zc), some (.int zc), none, none]) hG dX12_plans_125 (by decide) (pm_c1b rfl) rfl ?_
    refine pm_iconst (v := 0) hG dX12_plans_127 (by decide) ?_
    refine pm_istoreXi (loc' := [some (.ref (B + 54)), some (.int 2), some (.int zb), some (.int zc), some (.int zc), some (.int 0), none]) hG dX12_plans_128 (by decide) (pm_c1b rfl) rfl ?_
    have loop130 : ∀ (k130 : FS → Int32 → Int32 → Option (Int32 × FS)), (∀ (S3 : FS) (x3_4 : Int32) (x3_5 : Int32), k130 S3  x3_4 x3_5 = some R → pm_wp mX12_plans G B 174 [some (.ref (B + 54)), some (.int 2), some (.int zb), some (.int zc), some (.int x3_4), some (.int x3_5), none] [] 0 0 cnt (mst B S3 σ)) → ∀ (m130 : Nat) (S3 : FS) (x3_4 : Int32) (x3_5 : Int32), l_X12_plans_k2_130 zb k130 m130 S3  x3_4 x3_5 = some R → pm_wp mX12_plans G B 130 [some (.ref (B + 54)), some (.int 2), some (.int zb), some (.int zc), some (.int x3_4), some (.int x3_5), none] [] 0 0 cnt (mst B S3 σ) := by
      intro k130 hk130 m130
      induction m130 with
      | zero => intro S3  x3_4 x3_5 hE; exact fx_no hE
      | succ m130 ih130 =>
        intro S3  x3_4 x3_5 hE
        rw [l_X12_plans_k2_130] at hE
        refine pm_iloadi hG dX12_plans_130 rfl ?_
        refine pm_bipush (v := 6) hG dX12_plans_132 (by decide) ?_
        refine pm_icmp_ge (tgt := 174) hG dX12_plans_134 rfl (fun c4 => ?_) (fun c4 => ?_)
        · replace c4 := Int32.not_lt.mpr c4
          replace hE := fx_f c4 hE
          exact hk130 _ _ _ hE
        · replace c4 := Int32.not_le.mp c4
          replace hE := fx_t c4 hE
          refine pm_iloadi hG dX12_plans_137 rfl ?_
          refine pm_iloadn hG dX12_plans_139 rfl ?_
          refine pm_iloadi hG dX12_plans_140 rfl ?_
          refine pm_ishr hG dX12_plans_142 ?_
          refine pm_iconst (v := 1) hG dX12_plans_143 (by decide) ?_
          refine pm_iand hG dX12_plans_144 ?_
          refine pm_iconst (v := 1) hG dX12_plans_145 (by decide) ?_
          refine pm_icmp_ne (tgt := 164) hG dX12_plans_146 rfl (fun c5 => ?_) (fun c5 => ?_)
          · replace hE := fx_f c5 hE
            refine pm_iconst (v := 0) hG dX12_plans_164 (by decide) ?_
            refine pm_iadd hG dX12_plans_165 ?_
            refine fx_letv hE (fun x6 hE => ?_)
            refine pm_istoreXi (loc' := [some (.ref (B + 54)), some (.int 2), some (.int zb), some (.int zc), some (.int x6), some (.int x3_5), none]) hG dX12_plans_166 (by decide) (pm_c1b rfl) rfl ?_
            refine pm_iincX (v := x3_5 + 1) (loc' := [some (.ref (B + 54)), some (.int 2), some (.int zb), some (.int zc), some (.int x6), some (.int (x3_5 + 1)), none]) hG dX12_plans_168 rfl (by rfl) (by decide) (pm_c1b rfl) rfl ?_
            refine pm_goto (tgt := 130) hG dX12_plans_171 rfl ?_
            exact ih130 _ _ _ hE
          · replace hE := fx_t c5 hE
            refine pm_aloadn hG dX12_plans_149 rfl ?_
            refine pm_getf hG dX12_plans_150 (flX12_7 _ rfl) rfl rfl ?_
            refine pm_bipush (v := 20) hG dX12_plans_153 (by decide) ?_
            refine pm_iconst (v := 3) hG dX12_plans_155 (by decide) ?_
            refine pm_iloadi hG dX12_plans_156 rfl ?_
            refine pm_imul hG dX12_plans_158 ?_
            refine pm_iadd hG dX12_plans_159 ?_
            obtain ⟨j7, hj7, hE⟩ := fb_some hE
            refine fx_iald hG dX12_plans_160 rfl hj7 ?_
            refine pm_goto (tgt := 165) hG dX12_plans_161 rfl ?_
            refine pm_iadd hG dX12_plans_165 ?_
            refine fx_letv hE (fun x8 hE => ?_)
            refine pm_istoreXi (loc' := [some (.ref (B + 54)), some (.int 2), some (.int zb), some (.int zc), some (.int x8), some (.int x3_5), none]) hG dX12_plans_166 (by decide) (pm_c1b rfl) rfl ?_
            refine pm_iincX (v := x3_5 + 1) (loc' := [some (.ref (B + 54)), some (.int 2), some (.int zb), some (.int zc), some (.int x8), some (.int (x3_5 + 1)), none]) hG dX12_plans_168 rfl (by rfl) (by decide) (pm_c1b rfl) rfl ?_
            refine pm_goto (tgt := 130) hG dX12_plans_171 rfl ?_
            exact ih130 _ _ _ hE
    refine loop130 _ (fun S9 x9_4 x9_5 hE => ?_) _ _ _ _ hE
    refine pm_iconst (v := (-1)) hG dX12_plans_174 (by decide) ?_
    refine pm_istoreXi (loc' := [some (.ref (B + 54)), some (.int 2), some (.int zb), some (.int zc), some (.int x9_4), some (.int (-1)), none]) hG dX12_plans_175 (by decide) (pm_c1b rfl) rfl ?_
    have loop177 : ∀ (k177 : FS → Int32 → Option (Int32 × FS)), (∀ (S10 : FS) (x10_5 : Int32), k177 S10  x10_5 = some R → pm_wp mX12_plans G B 292 [some (.ref (B + 54)), some (.int 2), some (.int zb), some (.int zc), some (.int x9_4), some (.int x10_5), none] [] 0 0 cnt (mst B S10 σ)) → ∀ (m177 : Nat) (S10 : FS) (x10_5 : Int32), l_X12_plans_k2_177 zb x9_4 k177 m177 S10  x10_5 = some R → pm_wp mX12_plans G B 177 [some (.ref (B + 54)), some (.int 2), some (.int zb), some (.int zc), some (.int x9_4), some (.int x10_5), none] [] 0 0 cnt (mst B S10 σ) := by
      intro k177 hk177 m177
      induction m177 with
      | zero => intro S10  x10_5 hE; exact fx_no hE
      | succ m177 ih177 =>
        intro S10  x10_5 hE
        rw [l_X12_plans_k2_177] at hE
        refine pm_iloadi hG dX12_plans_177 rfl ?_
        refine pm_bipush (v := 6) hG dX12_plans_179 (by decide) ?_
        refine pm_icmp_ge (tgt := 292) hG dX12_plans_181 rfl (fun c11 => ?_) (fun c11 => ?_)
        · replace c11 := Int32.not_lt.mpr c11
          replace hE := fx_f c11 hE
          exact hk177 _ _ hE
        · replace c11 := Int32.not_le.mp c11
          replace hE := fx_t c11 hE
          refine pm_iloadi hG dX12_plans_184 rfl ?_
          refine pm_if_lt (tgt := 201) hG dX12_plans_186 rfl (fun c12 => ?_) (fun c12 => ?_)
          · replace hE := fx_t c12 hE
            refine pm_iloadi hG dX12_plans_201 rfl ?_
            refine pm_aloadn hG dX12_plans_203 rfl ?_
            refine pm_getf hG dX12_plans_204 (flX12_61 _ rfl) rfl rfl ?_
            refine pm_bipush (v := 24) hG dX12_plans_207 (by decide) ?_
            refine pm_aloadn hG dX12_plans_209 rfl ?_
            refine pm_getf hG dX12_plans_210 (flX12_270 _ rfl) rfl rfl ?_
            refine pm_imul hG dX12_plans_213 ?_
            refine pm_iloadn hG dX12_plans_214 rfl ?_
            refine pm_iadd hG dX12_plans_215 ?_
            obtain ⟨j13, hj13, hE⟩ := fb_some hE
            refine fx_iald hG dX12_plans_216 rfl hj13 ?_
            refine pm_isub hG dX12_plans_217 ?_
            refine pm_iloadi hG dX12_plans_218 rfl ?_
            refine pm_if_ge (tgt := 227) hG dX12_plans_220 rfl (fun q => absurd c12 (Int32.not_lt.mpr q)) (fun _ => ?_)
            refine pm_iconst (v := 0) hG dX12_plans_223 (by decide) ?_
            refine pm_goto (tgt := 241) hG dX12_plans_224 rfl ?_
            refine pm_iadd hG dX12_plans_241 ?_
            refine fx_letv hE (fun x14 hE => ?_)
            refine pm_istoreXi (loc' := [some (.ref (B + 54)), some (.int 2), some (.int zb), some (.int zc), some (.int x9_4), some (.int x10_5), some (.int x14)]) hG dX12_plans_242 (by decide) (pm_c1b rfl) rfl ?_
            refine pm_iloadi hG dX12_plans_244 rfl ?_
            refine pm_if_ge (tgt := 252) hG dX12_plans_246 rfl (fun c15 => ?_) (fun c15 => ?_)
            · replace c15 := Int32.not_lt.mpr c15
              replace hE := fx_f c15 hE
              refine pm_aloadn hG dX12_plans_252 rfl ?_
              refine pm_getf hG dX12_plans_253 (flX12_46 _ rfl) rfl rfl ?_
              refine pm_iloadn hG dX12_plans_256 rfl ?_
              refine pm_iloadi hG dX12_plans_257 rfl ?_
              refine fx_iast hG dX12_plans_259 rfl (ix_lit (by decide) rfl) ?_
              refine ma_67 ?_
              refine fx_letm hE (fun S16 hE => ?_)
              refine pm_aloadn hG dX12_plans_260 rfl ?_
              refine pm_iloadn hG dX12_plans_261 rfl ?_
              refine pm_iconst (v := 1) hG dX12_plans_262 (by decide) ?_
              refine pm_iadd hG dX12_plans_263 ?_
              refine pm_top (v := 3) (by decide) ?_
              refine pm_iloadi hG dX12_plans_264 rfl ?_
              refine pm_if_ge (tgt := 273) hG dX12_plans_266 rfl (fun q => absurd c12 (Int32.not_lt.mpr q)) (fun _ => ?_)
              refine pm_iloadn hG dX12_plans_269 rfl ?_
              refine pm_goto (tgt := 281) hG dX12_plans_270 rfl ?_
              refine pm_iloadi hG dX12_plans_281 rfl ?_
              obtain ⟨r18, h17, hE⟩ := fb_some hE
              refine pm_callV (As := [.int 3, .int zb, .int x14]) (rest := []) hG hR dX12_plans_283 (lkX12_280 _ rfl) okV_X12_plans rfl rfl (c_X12_plans_k3 (d := 6) (by decide) h17) rfl rfl hdd (Nat.le_refl _) (Nat.le_refl _) (by decide) (fx_kv ?_)
              refine pm_iincX (v := x10_5 + 1) (loc' := [some (.ref (B + 54)), some (.int 2), some (.int zb), some (.int zc), some (.int x9_4), some (.int (x10_5 + 1)), some (.int x14)]) hG dX12_plans_286 rfl (by rfl) (by decide) (pm_c1b rfl) rfl ?_
              refine pm_goto (tgt := 177) hG dX12_plans_289 rfl ?_
              refine pm_fg 6 (loc' := [some (.ref (B + 54)), some (.int 2), some (.int zb), some (.int zc), some (.int x9_4), some (.int (x10_5 + 1)), none]) rfl ?_
              exact ih177 _ _ hE
            · replace c15 := Int32.not_le.mp c15
              replace hE := fx_t c15 hE
              refine pm_goto (tgt := 286) hG dX12_plans_249 rfl ?_
              refine pm_iincX (v := x10_5 + 1) (loc' := [some (.ref (B + 54)), some (.int 2), some (.int zb), some (.int zc), some (.int x9_4), some (.int (x10_5 + 1)), some (.int x14)]) hG dX12_plans_286 rfl (by rfl) (by decide) (pm_c1b rfl) rfl ?_
              refine pm_goto (tgt := 177) hG dX12_plans_289 rfl ?_
              refine pm_fg 6 (loc' := [some (.ref (B + 54)), some (.int 2), some (.int zb), some (.int zc), some (.int x9_4), some (.int (x10_5 + 1)), none]) rfl ?_
              exact ih177 _ _ hE
          · replace hE := fx_f c12 hE
            refine pm_iloadn hG dX12_plans_189 rfl ?_
            refine pm_iloadi hG dX12_plans_190 rfl ?_
            refine pm_ishr hG dX12_plans_192 ?_
            refine pm_iconst (v := 1) hG dX12_plans_193 (by decide) ?_
            refine pm_iand hG dX12_plans_194 ?_
            refine pm_if_ne (tgt := 201) hG dX12_plans_195 rfl (fun c19 => ?_) (fun c19 => ?_)
            · replace hE := fx_f c19 hE
              refine pm_iloadi hG dX12_plans_201 rfl ?_
              refine pm_aloadn hG dX12_plans_203 rfl ?_
              refine pm_getf hG dX12_plans_204 (flX12_61 _ rfl) rfl rfl ?_
              refine pm_bipush (v := 24) hG dX12_plans_207 (by decide) ?_
              refine pm_aloadn hG dX12_plans_209 rfl ?_
              refine pm_getf hG dX12_plans_210 (flX12_270 _ rfl) rfl rfl ?_
              refine pm_imul hG dX12_plans_213 ?_
              refine pm_iloadn hG dX12_plans_214 rfl ?_
              refine pm_iadd hG dX12_plans_215 ?_
              obtain ⟨j20, hj20, hE⟩ := fb_some hE
              refine fx_iald hG dX12_plans_216 rfl hj20 ?_
              refine pm_isub hG dX12_plans_217 ?_
              refine pm_iloadi hG dX12_plans_218 rfl ?_
              refine pm_if_ge (tgt := 227) hG dX12_plans_220 rfl (fun _ => ?_) (fun q => absurd (Int32.not_le.mp q) c12)
              refine pm_iconst (v := 4) hG dX12_plans_227 (by decide) ?_
              refine pm_aloadn hG dX12_plans_228 rfl ?_
              refine pm_getf hG dX12_plans_229 (flX12_7 _ rfl) rfl rfl ?_
              refine pm_bipush (v := 20) hG dX12_plans_232 (by decide) ?_
              refine pm_iconst (v := 3) hG dX12_plans_234 (by decide) ?_
              refine pm_iloadi hG dX12_plans_235 rfl ?_
              refine pm_imul hG dX12_plans_237 ?_
              refine pm_iadd hG dX12_plans_238 ?_
              obtain ⟨j21, hj21, hE⟩ := fb_some hE
              refine fx_iald hG dX12_plans_239 rfl hj21 ?_
              refine pm_imul hG dX12_plans_240 ?_
              refine pm_iadd hG dX12_plans_241 ?_
              refine fx_letv hE (fun x22 hE => ?_)
              refine pm_istoreXi (loc' := [some (.ref (B + 54)), some (.int 2), some (.int zb), some (.int zc), some (.int x9_4), some (.int x10_5), some (.int x22)]) hG dX12_plans_242 (by decide) (pm_c1b rfl) rfl ?_
              refine pm_iloadi hG dX12_plans_244 rfl ?_
              refine pm_if_ge (tgt := 252) hG dX12_plans_246 rfl (fun c23 => ?_) (fun c23 => ?_)
              · replace c23 := Int32.not_lt.mpr c23
                replace hE := fx_f c23 hE
                refine pm_aloadn hG dX12_plans_252 rfl ?_
                refine pm_getf hG dX12_plans_253 (flX12_46 _ rfl) rfl rfl ?_
                refine pm_iloadn hG dX12_plans_256 rfl ?_
                refine pm_iloadi hG dX12_plans_257 rfl ?_
                refine fx_iast hG dX12_plans_259 rfl (ix_lit (by decide) rfl) ?_
                refine ma_67 ?_
                refine fx_letm hE (fun S24 hE => ?_)
                refine pm_aloadn hG dX12_plans_260 rfl ?_
                refine pm_iloadn hG dX12_plans_261 rfl ?_
                refine pm_iconst (v := 1) hG dX12_plans_262 (by decide) ?_
                refine pm_iadd hG dX12_plans_263 ?_
                refine pm_top (v := 3) (by decide) ?_
                refine pm_iloadi hG dX12_plans_264 rfl ?_
                refine pm_if_ge (tgt := 273) hG dX12_plans_266 rfl (fun _ => ?_) (fun q => absurd (Int32.not_le.mp q) c12)
                refine pm_iloadn hG dX12_plans_273 rfl ?_
                refine pm_iconst (v := 1) hG dX12_plans_274 (by decide) ?_
                refine pm_iloadi hG dX12_plans_275 rfl ?_
                refine pm_ishl hG dX12_plans_277 ?_
                refine pm_iconst (v := (-1)) hG dX12_plans_278 (by decide) ?_
                refine pm_ixor hG dX12_plans_279 ?_
                refine pm_iand hG dX12_plans_280 ?_
                refine pm_iloadi hG dX12_plans_281 rfl ?_
                obtain ⟨r26, h25, hE⟩ := fb_some hE
                refine pm_callV (As := [.int 3, .int (zb &&& (((1 : Int32) <<< (x10_5 &&& 31)) ^^^ (-1))), .int x22]) (rest := []) hG hR dX12_plans_283 (lkX12_280 _ rfl) okV_X12_plans rfl rfl (c_X12_plans_k3 (d := 6) (by decide) h25) rfl rfl hdd (Nat.le_refl _) (Nat.le_refl _) (by decide) (fx_kv ?_)
                refine pm_iincX (v := x10_5 + 1) (loc' := [some (.ref (B + 54)), some (.int 2), some (.int zb), some (.int zc), some (.int x9_4), some (.int (x10_5 + 1)), some (.int x22)]) hG dX12_plans_286 rfl (by rfl) (by decide) (pm_c1b rfl) rfl ?_
                refine pm_goto (tgt := 177) hG dX12_plans_289 rfl ?_
                refine pm_fg 6 (loc' := [some (.ref (B + 54)), some (.int 2), some (.int zb), some (.int zc), some (.int x9_4), some (.int (x10_5 + 1)), none]) rfl ?_
                exact ih177 _ _ hE
              · replace c23 := Int32.not_le.mp c23
                replace hE := fx_t c23 hE
                refine pm_goto (tgt := 286) hG dX12_plans_249 rfl ?_
                refine pm_iincX (v := x10_5 + 1) (loc' := [some (.ref (B + 54)), some (.int 2), some (.int zb), some (.int zc), some (.int x9_4), some (.int (x10_5 + 1)), some (.int x22)]) hG dX12_plans_286 rfl (by rfl) (by decide) (pm_c1b rfl) rfl ?_
                refine pm_goto (tgt := 177) hG dX12_plans_289 rfl ?_
                refine pm_fg 6 (loc' := [some (.ref (B + 54)), some (.int 2), some (.int zb), some (.int zc), some (.int x9_4), some (.int (x10_5 + 1)), none]) rfl ?_
                exact ih177 _ _ hE
            · replace hE := fx_t c19 hE
              refine pm_goto (tgt := 286) hG dX12_plans_198 rfl ?_
              refine pm_iincX (v := x10_5 + 1) (loc' := [some (.ref (B + 54)), some (.int 2), some (.int zb), some (.int zc), some (.int x9_4), some (.int (x10_5 + 1)), none]) hG dX12_plans_286 rfl (by rfl) (by decide) (pm_c1b rfl) rfl ?_
              refine pm_goto (tgt := 177) hG dX12_plans_289 rfl ?_
              exact ih177 _ _ hE
    refine loop177 _ (fun S27 x27_5 hE => ?_) _ _ _ hE
    exact pm_vret hG hF dX12_plans_292 rfl (Nat.le_refl _) (Nat.le_refl _) (fx_rvm hE)
  · replace hE := fx_t c2 hE
    refine pm_iloadn hG dX12_plans_13 rfl ?_
    refine pm_istoreXi (loc' := [some (.ref (B + 54)), some (.int 2), some (.int zb), some (.int zc), some (.int zc), none, none]) hG dX12_plans_14 (by decide) (pm_c1b rfl) rfl ?_
    refine pm_iconst (v := 0) hG dX12_plans_16 (by decide) ?_
    refine pm_istoreXi (loc' := [some (.ref (B + 54)), some (.int 2), some (.int zb), some (.int zc), some (.int zc), some (.int 0), none]) hG dX12_plans_17 (by decide) (pm_c1b rfl) rfl ?_
    have loop19 : ∀ (k19 : FS → Int32 → Int32 → Option (Int32 × FS)), (∀ (S28 : FS) (x28_4 : Int32) (x28_5 : Int32), k19 S28  x28_4 x28_5 = some R → pm_wp mX12_plans G B 66 [some (.ref (B + 54)), some (.int 2), some (.int zb), some (.int zc), some (.int x28_4), some (.int x28_5), none] [] 0 0 cnt (mst B S28 σ)) → ∀ (m19 : Nat) (S28 : FS) (x28_4 : Int32) (x28_5 : Int32), l_X12_plans_k2_19 zb k19 m19 S28  x28_4 x28_5 = some R → pm_wp mX12_plans G B 19 [some (.ref (B + 54)), some (.int 2), some (.int zb), some (.int zc), some (.int x28_4), some (.int x28_5), none] [] 0 0 cnt (mst B S28 σ) := by
      intro k19 hk19 m19
      induction m19 with
      | zero => intro S28  x28_4 x28_5 hE; exact fx_no hE
      | succ m19 ih19 =>
        intro S28  x28_4 x28_5 hE
        rw [l_X12_plans_k2_19] at hE
        refine pm_iloadi hG dX12_plans_19 rfl ?_
        refine pm_bipush (v := 6) hG dX12_plans_21 (by decide) ?_
        refine pm_icmp_ge (tgt := 66) hG dX12_plans_23 rfl (fun c29 => ?_) (fun c29 => ?_)
        · replace c29 := Int32.not_lt.mpr c29
          replace hE := fx_f c29 hE
          exact hk19 _ _ _ hE
        · replace c29 := Int32.not_le.mp c29
          replace hE := fx_t c29 hE
          refine pm_iloadi hG dX12_plans_26 rfl ?_
          refine pm_iloadn hG dX12_plans_28 rfl ?_
          refine pm_iloadi hG dX12_plans_29 rfl ?_
          refine pm_ishr hG dX12_plans_31 ?_
          refine pm_iconst (v := 1) hG dX12_plans_32 (by decide) ?_
          refine pm_iand hG dX12_plans_33 ?_
          refine pm_iconst (v := 1) hG dX12_plans_34 (by decide) ?_
          refine pm_icmp_ne (tgt := 56) hG dX12_plans_35 rfl (fun c30 => ?_) (fun c30 => ?_)
          · replace hE := fx_f c30 hE
            refine pm_iconst (v := 0) hG dX12_plans_56 (by decide) ?_
            refine pm_iadd hG dX12_plans_57 ?_
            refine fx_letv hE (fun x31 hE => ?_)
            refine pm_istoreXi (loc' := [some (.ref (B + 54)), some (.int 2), some (.int zb), some (.int zc), some (.int x31), some (.int x28_5), none]) hG dX12_plans_58 (by decide) (pm_c1b rfl) rfl ?_
            refine pm_iincX (v := x28_5 + 1) (loc' := [some (.ref (B + 54)), some (.int 2), some (.int zb), some (.int zc), some (.int x31), some (.int (x28_5 + 1)), none]) hG dX12_plans_60 rfl (by rfl) (by decide) (pm_c1b rfl) rfl ?_
            refine pm_goto (tgt := 19) hG dX12_plans_63 rfl ?_
            exact ih19 _ _ _ hE
          · replace hE := fx_t c30 hE
            refine pm_bipush (v := 8) hG dX12_plans_38 (by decide) ?_
            refine pm_aloadn hG dX12_plans_40 rfl ?_
            refine pm_getf hG dX12_plans_41 (flX12_7 _ rfl) rfl rfl ?_
            refine pm_bipush (v := 20) hG dX12_plans_44 (by decide) ?_
            refine pm_iconst (v := 3) hG dX12_plans_46 (by decide) ?_
            refine pm_iloadi hG dX12_plans_47 rfl ?_
            refine pm_imul hG dX12_plans_49 ?_
            refine pm_iadd hG dX12_plans_50 ?_
            obtain ⟨j32, hj32, hE⟩ := fb_some hE
            refine fx_iald hG dX12_plans_51 rfl hj32 ?_
            refine pm_imul hG dX12_plans_52 ?_
            refine pm_goto (tgt := 57) hG dX12_plans_53 rfl ?_
            refine pm_iadd hG dX12_plans_57 ?_
            refine fx_letv hE (fun x33 hE => ?_)
            refine pm_istoreXi (loc' := [some (.ref (B + 54)), some (.int 2), some (.int zb), some (.int zc), some (.int x33), some (.int x28_5), none]) hG dX12_plans_58 (by decide) (pm_c1b rfl) rfl ?_
            refine pm_iincX (v := x28_5 + 1) (loc' := [some (.ref (B + 54)), some (.int 2), some (.int zb), some (.int zc), some (.int x33), some (.int (x28_5 + 1)), none]) hG dX12_plans_60 rfl (by rfl) (by decide) (pm_c1b rfl) rfl ?_
            refine pm_goto (tgt := 19) hG dX12_plans_63 rfl ?_
            exact ih19 _ _ _ hE
    refine loop19 _ (fun S34 x34_4 x34_5 hE => ?_) _ _ _ _ hE
    have join83 : ∀ (S35 : FS), j_X12_plans_k2_83 x34_4 S35 = some R → pm_wp mX12_plans G B 83 [some (.ref (B + 54)), some (.int 2), some (.int zb), some (.int zc), some (.int x34_4), some (.int x34_5), none] [] 0 0 cnt (mst B S35 σ) := by
      intro S35 hE
      unfold j_X12_plans_k2_83 at hE
      refine pm_aloadn hG dX12_plans_83 rfl ?_
      refine pm_iconst (v := 1) hG dX12_plans_84 (by decide) ?_
      refine pm_putf hG dX12_plans_85 (fwX12_273 _ rfl) rfl (by decide) (by decide) ?_
      refine mi_20 ?_
      refine fx_letm hE (fun S36 hE => ?_)
      refine pm_aloadn hG dX12_plans_88 rfl ?_
      refine pm_iloadi hG dX12_plans_89 rfl ?_
      refine pm_putf hG dX12_plans_91 (fwX12_277 _ rfl) rfl rfl rfl ?_
      refine mi_19 ?_
      refine fx_letm hE (fun S37 hE => ?_)
      refine pm_iconst (v := 0) hG dX12_plans_94 (by decide) ?_
      refine pm_istoreXi (loc' := [some (.ref (B + 54)), some (.int 2), some (.int zb), some (.int zc), some (.int x34_4), some (.int 0), none]) hG dX12_plans_95 (by decide) (pm_c1b rfl) rfl ?_
      have loop97 : ∀ (k97 : FS → Int32 → Option (Int32 × FS)), (∀ (S38 : FS) (x38_5 : Int32), k97 S38  x38_5 = some R → pm_wp mX12_plans G B 123 [some (.ref (B + 54)), some (.int 2), some (.int zb), some (.int zc), some (.int x34_4), some (.int x38_5), none] [] 0 0 cnt (mst B S38 σ)) → ∀ (m97 : Nat) (S38 : FS) (x38_5 : Int32), l_X12_plans_k2_97 k97 m97 S38  x38_5 = some R → pm_wp mX12_plans G B 97 [some (.ref (B + 54)), some (.int 2), some (.int zb), some (.int zc), some (.int x34_4), some (.int x38_5), none] [] 0 0 cnt (mst B S38 σ) := by
        intro k97 hk97 m97
        induction m97 with
        | zero => intro S38  x38_5 hE; exact fx_no hE
        | succ m97 ih97 =>
          intro S38  x38_5 hE
          rw [l_X12_plans_k2_97] at hE
          refine pm_iloadi hG dX12_plans_97 rfl ?_
          refine pm_iloadn hG dX12_plans_99 rfl ?_
          refine pm_icmp_ge (tgt := 123) hG dX12_plans_100 rfl (fun c39 => ?_) (fun c39 => ?_)
          · replace c39 := Int32.not_lt.mpr c39
            replace hE := fx_f c39 hE
            exact hk97 _ _ hE
          · replace c39 := Int32.not_le.mp c39
            replace hE := fx_t c39 hE
            refine pm_aloadn hG dX12_plans_103 rfl ?_
            refine pm_getf hG dX12_plans_104 (flX12_49 _ rfl) rfl rfl ?_
            refine pm_iloadi hG dX12_plans_107 rfl ?_
            refine pm_aloadn hG dX12_plans_109 rfl ?_
            refine pm_getf hG dX12_plans_110 (flX12_46 _ rfl) rfl rfl ?_
            refine pm_iloadi hG dX12_plans_113 rfl ?_
            obtain ⟨j40, hj40, hE⟩ := fb_some hE
            refine fx_iald hG dX12_plans_115 rfl hj40 ?_
            refine fx_iast hG dX12_plans_116 rfl hj40 ?_
            refine ma_68 ?_
            refine fx_letm hE (fun S41 hE => ?_)
            refine pm_iincX (v := x38_5 + 1) (loc' := [some (.ref (B + 54)), some (.int 2), some (.int zb), some (.int zc), some (.int x34_4), some (.int (x38_5 + 1)), none]) hG dX12_plans_117 rfl (by rfl) (by decide) (pm_c1b rfl) rfl ?_
            refine pm_goto (tgt := 97) hG dX12_plans_120 rfl ?_
            exact ih97 _ _ hE
      refine loop97 _ (fun S42 x42_5 hE => ?_) _ _ _ hE
      exact pm_vret hG hF dX12_plans_123 rfl (Nat.le_refl _) (Nat.le_refl _) (fx_rvm hE)
    refine pm_aloadn hG dX12_plans_66 rfl ?_
    refine pm_getf hG dX12_plans_67 (flX12_273 _ rfl) rfl rfl ?_
    refine pm_if_eq (tgt := 83) hG dX12_plans_70 rfl (fun c43 => ?_) (fun c43 => ?_)
    · replace hE := fx_t c43 hE
      exact join83 _ hE
    · replace hE := fx_f c43 hE
      refine pm_iloadi hG dX12_plans_73 rfl ?_
      refine pm_aloadn hG dX12_plans_75 rfl ?_
      refine pm_getf hG dX12_plans_76 (flX12_277 _ rfl) rfl rfl ?_
      refine pm_icmp_gt (tgt := 83) hG dX12_plans_79 rfl (fun c44 => ?_) (fun c44 => ?_)
      · replace hE := fx_t c44 hE
        exact join83 _ hE
      · replace hE := fx_f c44 hE
        exact pm_vret hG hF dX12_plans_82 rfl (Nat.le_refl _) (Nat.le_refl _) (fx_rvm hE)

set_option maxRecDepth 100000 in
set_option maxHeartbeats 4000000 in
theorem c_X12_plans_k1 {d : Nat} {B cnt : Nat} {σ : pm_S} {S : FS} {zb : Int32} {zc : Int32} {R : Int32 × FS} (hdd : 8 ≤ d) (hE : f_X12_plans_k1 S zb zc = some R) : pm_met mX12_plans d 0 0 B [.ref (B + 54), .int 1, .int zb, .int zc] cnt (mst B S σ) (pm_Qv (fun σ' cnt' => σ' = (mst B R.2 σ) ∧ cnt' = cnt)) := by
  refine pm_enter 3 (by decide) (Nat.le_of_ble_eq_true rfl) rfl (fun G hG hR hF => ?_)
  unfold f_X12_plans_k1 at hE
  refine pm_iloadn hG dX12_plans_0 rfl ?_
  refine pm_aloadn hG dX12_plans_1 rfl ?_
  refine pm_getf hG dX12_plans_2 (flX12_58 _ rfl) rfl rfl ?_
  refine pm_aloadn hG dX12_plans_5 rfl ?_
  refine pm_getf hG dX12_plans_6 (flX12_270 _ rfl) rfl rfl ?_
  obtain ⟨j1, hj1, hE⟩ := fb_some hE
  refine fx_iald hG dX12_plans_9 rfl hj1 ?_
  refine pm_icmp_ne (tgt := 124) hG dX12_plans_10 rfl (fun c2 => ?_) (fun c2 => ?_)
  · replace hE := fx_f c2 hE
    refine pm_iloadn hG dX12_plans_124 rfl ?_
    refine pm_istoreXi (loc' := [some (.ref (B + 54)), some (.int 1), some (.int zb), some (.int zc), some (.int zc), none, none]) hG dX12_plans_125 (by decide) (pm_c1b rfl) rfl ?_
    refine pm_iconst (v := 0) hG dX12_plans_127 (by decide) ?_
    refine pm_istoreXi (loc' := [some (.ref (B + 54)), some (.int 1), some (.int zb), some (.int zc), some (.int zc), some (.int 0), none]) hG dX12_plans_128 (by decide) (pm_c1b rfl) rfl ?_
    have loop130 : ∀ (k130 : FS → Int32 → Int32 → Option (Int32 × FS)), (∀ (S3 : FS) (x3_4 : Int32) (x3_5 : Int32), k130 S3  x3_4 x3_5 = some R → pm_wp mX12_plans G B 174 [some (.ref (B + 54)), some (.int 1), some (.int zb), some (.int zc), some (.int x3_4), some (.int x3_5), none] [] 0 0 cnt (mst B S3 σ)) → ∀ (m130 : Nat) (S3 : FS) (x3_4 : Int32) (x3_5 : Int32), l_X12_plans_k1_130 zb k130 m130 S3  x3_4 x3_5 = some R → pm_wp mX12_plans G B 130 [some (.ref (B + 54)), some (.int 1), some (.int zb), some (.int zc), some (.int x3_4), some (.int x3_5), none] [] 0 0 cnt (mst B S3 σ) := by
      intro k130 hk130 m130
      induction m130 with
      | zero => intro S3  x3_4 x3_5 hE; exact fx_no hE
      | succ m130 ih130 =>
        intro S3  x3_4 x3_5 hE
        rw [l_X12_plans_k1_130] at hE
        refine pm_iloadi hG dX12_plans_130 rfl ?_
        refine pm_bipush (v := 6) hG dX12_plans_132 (by decide) ?_
        refine pm_icmp_ge (tgt := 174) hG dX12_plans_134 rfl (fun c4 => ?_) (fun c4 => ?_)
        · replace c4 := Int32.not_lt.mpr c4
          replace hE := fx_f c4 hE
          exact hk130 _ _ _ hE
        · replace c4 := Int32.not_le.mp c4
          replace hE := fx_t c4 hE
          refine pm_iloadi hG dX12_plans_137 rfl ?_
          refine pm_iloadn hG dX12_plans_139 rfl ?_
          refine pm_iloadi hG dX12_plans_140 rfl ?_
          refine pm_ishr hG dX12_plans_142 ?_
          refine pm_iconst (v := 1) hG dX12_plans_143 (by decide) ?_
          refine pm_iand hG dX12_plans_144 ?_
          refine pm_iconst (v := 1) hG dX12_plans_145 (by decide) ?_
          refine pm_icmp_ne (tgt := 164) hG dX12_plans_146 rfl (fun c5 => ?_) (fun c5 => ?_)
          · replace hE := fx_f c5 hE
            refine pm_iconst (v := 0) hG dX12_plans_164 (by decide) ?_
            refine pm_iadd hG dX12_plans_165 ?_
            refine fx_letv hE (fun x6 hE => ?_)
            refine pm_istoreXi (loc' := [some (.ref (B + 54)), some (.int 1), some (.int zb), some (.int zc), some (.int x6), some (.int x3_5), none]) hG dX12_plans_166 (by decide) (pm_c1b rfl) rfl ?_
            refine pm_iincX (v := x3_5 + 1) (loc' := [some (.ref (B + 54)), some (.int 1), some (.int zb), some (.int zc), some (.int x6), some (.int (x3_5 + 1)), none]) hG dX12_plans_168 rfl (by rfl) (by decide) (pm_c1b rfl) rfl ?_
            refine pm_goto (tgt := 130) hG dX12_plans_171 rfl ?_
            exact ih130 _ _ _ hE
          · replace hE := fx_t c5 hE
            refine pm_aloadn hG dX12_plans_149 rfl ?_
            refine pm_getf hG dX12_plans_150 (flX12_7 _ rfl) rfl rfl ?_
            refine pm_bipush (v := 20) hG dX12_plans_153 (by decide) ?_
            refine pm_iconst (v := 3) hG dX12_plans_155 (by decide) ?_
            refine pm_iloadi hG dX12_plans_156 rfl ?_
            refine pm_imul hG dX12_plans_158 ?_
            refine pm_iadd hG dX12_plans_159 ?_
            obtain ⟨j7, hj7, hE⟩ := fb_some hE
            refine fx_iald hG dX12_plans_160 rfl hj7 ?_
            refine pm_goto (tgt := 165) hG dX12_plans_161 rfl ?_
            refine pm_iadd hG dX12_plans_165 ?_
            refine fx_letv hE (fun x8 hE => ?_)
            refine pm_istoreXi (loc' := [some (.ref (B + 54)), some (.int 1), some (.int zb), some (.int zc), some (.int x8), some (.int x3_5), none]) hG dX12_plans_166 (by decide) (pm_c1b rfl) rfl ?_
            refine pm_iincX (v := x3_5 + 1) (loc' := [some (.ref (B + 54)), some (.int 1), some (.int zb), some (.int zc), some (.int x8), some (.int (x3_5 + 1)), none]) hG dX12_plans_168 rfl (by rfl) (by decide) (pm_c1b rfl) rfl ?_
            refine pm_goto (tgt := 130) hG dX12_plans_171 rfl ?_
            exact ih130 _ _ _ hE
    refine loop130 _ (fun S9 x9_4 x9_5 hE => ?_) _ _ _ _ hE
    refine pm_iconst (v := (-1)) hG dX12_plans_174 (by decide) ?_
    refine pm_istoreXi (loc' := [some (.ref (B + 54)), some (.int 1), some (.int zb), some (.int zc), some (.int x9_4), some (.int (-1)), none]) hG dX12_plans_175 (by decide) (pm_c1b rfl) rfl ?_
    have loop177 : ∀ (k177 : FS → Int32 → Option (Int32 × FS)), (∀ (S10 : FS) (x10_5 : Int32), k177 S10  x10_5 = some R → pm_wp mX12_plans G B 292 [some (.ref (B + 54)), some (.int 1), some (.int zb), some (.int zc), some (.int x9_4), some (.int x10_5), none] [] 0 0 cnt (mst B S10 σ)) → ∀ (m177 : Nat) (S10 : FS) (x10_5 : Int32), l_X12_plans_k1_177 zb x9_4 k177 m177 S10  x10_5 = some R → pm_wp mX12_plans G B 177 [some (.ref (B + 54)), some (.int 1), some (.int zb), some (.int zc), some (.int x9_4), some (.int x10_5), none] [] 0 0 cnt (mst B S10 σ) := by
      intro k177 hk177 m177
      induction m177 with
      | zero => intro S10  x10_5 hE; exact fx_no hE
      | succ m177 ih177 =>
        intro S10  x10_5 hE
        rw [l_X12_plans_k1_177] at hE
        refine pm_iloadi hG dX12_plans_177 rfl ?_
        refine pm_bipush (v := 6) hG dX12_plans_179 (by decide) ?_
        refine pm_icmp_ge (tgt := 292) hG dX12_plans_181 rfl (fun c11 => ?_) (fun c11 => ?_)
        · replace c11 := Int32.not_lt.mpr c11
          replace hE := fx_f c11 hE
          exact hk177 _ _ hE
        · replace c11 := Int32.not_le.mp c11
          replace hE := fx_t c11 hE
          refine pm_iloadi hG dX12_plans_184 rfl ?_
          refine pm_if_lt (tgt := 201) hG dX12_plans_186 rfl (fun c12 => ?_) (fun c12 => ?_)
          · replace hE := fx_t c12 hE
            refine pm_iloadi hG dX12_plans_201 rfl ?_
            refine pm_aloadn hG dX12_plans_203 rfl ?_
            refine pm_getf hG dX12_plans_204 (flX12_61 _ rfl) rfl rfl ?_
            refine pm_bipush (v := 24) hG dX12_plans_207 (by decide) ?_
            refine pm_aloadn hG dX12_plans_209 rfl ?_
            refine pm_getf hG dX12_plans_210 (flX12_270 _ rfl) rfl rfl ?_
            refine pm_imul hG dX12_plans_213 ?_
            refine pm_iloadn hG dX12_plans_214 rfl ?_
            refine pm_iadd hG dX12_plans_215 ?_
            obtain ⟨j13, hj13, hE⟩ := fb_some hE
            refine fx_iald hG dX12_plans_216 rfl hj13 ?_
            refine pm_isub hG dX12_plans_217 ?_
            refine pm_iloadi hG dX12_plans_218 rfl ?_
            refine pm_if_ge (tgt := 227) hG dX12_plans_220 rfl (fun q => absurd c12 (Int32.not_lt.mpr q)) (fun _ => ?_)
            refine pm_iconst (v := 0) hG dX12_plans_223 (by decide) ?_
            refine pm_goto (tgt := 241) hG dX12_plans_224 rfl ?_
            refine pm_iadd hG dX12_plans_241 ?_
            refine fx_letv hE (fun x14 hE => ?_)
            refine pm_istoreXi (loc' := [some (.ref (B + 54)), some (.int 1), some (.int zb), some (.int zc), some (.int x9_4), some (.int x10_5), some (.int x14)]) hG dX12_plans_242 (by decide) (pm_c1b rfl) rfl ?_
            refine pm_iloadi hG dX12_plans_244 rfl ?_
            refine pm_if_ge (tgt := 252) hG dX12_plans_246 rfl (fun c15 => ?_) (fun c15 => ?_)
            · replace c15 := Int32.not_lt.mpr c15
              replace hE := fx_f c15 hE
              refine pm_aloadn hG dX12_plans_252 rfl ?_
              refine pm_getf hG dX12_plans_253 (flX12_46 _ rfl) rfl rfl ?_
              refine pm_iloadn hG dX12_plans_256 rfl ?_
              refine pm_iloadi hG dX12_plans_257 rfl ?_
              refine fx_iast hG dX12_plans_259 rfl (ix_lit (by decide) rfl) ?_
              refine ma_67 ?_
              refine fx_letm hE (fun S16 hE => ?_)
              refine pm_aloadn hG dX12_plans_260 rfl ?_
              refine pm_iloadn hG dX12_plans_261 rfl ?_
              refine pm_iconst (v := 1) hG dX12_plans_262 (by decide) ?_
              refine pm_iadd hG dX12_plans_263 ?_
              refine pm_top (v := 2) (by decide) ?_
              refine pm_iloadi hG dX12_plans_264 rfl ?_
              refine pm_if_ge (tgt := 273) hG dX12_plans_266 rfl (fun q => absurd c12 (Int32.not_lt.mpr q)) (fun _ => ?_)
              refine pm_iloadn hG dX12_plans_269 rfl ?_
              refine pm_goto (tgt := 281) hG dX12_plans_270 rfl ?_
              refine pm_iloadi hG dX12_plans_281 rfl ?_
              obtain ⟨r18, h17, hE⟩ := fb_some hE
              refine pm_callV (As := [.int 2, .int zb, .int x14]) (rest := []) hG hR dX12_plans_283 (lkX12_280 _ rfl) okV_X12_plans rfl rfl (c_X12_plans_k2 (d := 7) (by decide) h17) rfl rfl hdd (Nat.le_refl _) (Nat.le_refl _) (by decide) (fx_kv ?_)
              refine pm_iincX (v := x10_5 + 1) (loc' := [some (.ref (B + 54)), some (.int 1), some (.int zb), some (.int zc), some (.int x9_4), some (.int (x10_5 + 1)), some (.int x14)]) hG dX12_plans_286 rfl (by rfl) (by decide) (pm_c1b rfl) rfl ?_
              refine pm_goto (tgt := 177) hG dX12_plans_289 rfl ?_
              refine pm_fg 6 (loc' := [some (.ref (B + 54)), some (.int 1), some (.int zb), some (.int zc), some (.int x9_4), some (.int (x10_5 + 1)), none]) rfl ?_
              exact ih177 _ _ hE
            · replace c15 := Int32.not_le.mp c15
              replace hE := fx_t c15 hE
              refine pm_goto (tgt := 286) hG dX12_plans_249 rfl ?_
              refine pm_iincX (v := x10_5 + 1) (loc' := [some (.ref (B + 54)), some (.int 1), some (.int zb), some (.int zc), some (.int x9_4), some (.int (x10_5 + 1)), some (.int x14)]) hG dX12_plans_286 rfl (by rfl) (by decide) (pm_c1b rfl) rfl ?_
              refine pm_goto (tgt := 177) hG dX12_plans_289 rfl ?_
              refine pm_fg 6 (loc' := [some (.ref (B + 54)), some (.int 1), some (.int zb), some (.int zc), some (.int x9_4), some (.int (x10_5 + 1)), none]) rfl ?_
              exact ih177 _ _ hE
          · replace hE := fx_f c12 hE
            refine pm_iloadn hG dX12_plans_189 rfl ?_
            refine pm_iloadi hG dX12_plans_190 rfl ?_
            refine pm_ishr hG dX12_plans_192 ?_
            refine pm_iconst (v := 1) hG dX12_plans_193 (by decide) ?_
            refine pm_iand hG dX12_plans_194 ?_
            refine pm_if_ne (tgt := 201) hG dX12_plans_195 rfl (fun c19 => ?_) (fun c19 => ?_)
            · replace hE := fx_f c19 hE
              refine pm_iloadi hG dX12_plans_201 rfl ?_
              refine pm_aloadn hG dX12_plans_203 rfl ?_
              refine pm_getf hG dX12_plans_204 (flX12_61 _ rfl) rfl rfl ?_
              refine pm_bipush (v := 24) hG dX12_plans_207 (by decide) ?_
              refine pm_aloadn hG dX12_plans_209 rfl ?_
              refine pm_getf hG dX12_plans_210 (flX12_270 _ rfl) rfl rfl ?_
              refine pm_imul hG dX12_plans_213 ?_
              refine pm_iloadn hG dX12_plans_214 rfl ?_
              refine pm_iadd hG dX12_plans_215 ?_
              obtain ⟨j20, hj20, hE⟩ := fb_some hE
              refine fx_iald hG dX12_plans_216 rfl hj20 ?_
              refine pm_isub hG dX12_plans_217 ?_
              refine pm_iloadi hG dX12_plans_218 rfl ?_
              refine pm_if_ge (tgt := 227) hG dX12_plans_220 rfl (fun _ => ?_) (fun q => absurd (Int32.not_le.mp q) c12)
              refine pm_iconst (v := 4) hG dX12_plans_227 (by decide) ?_
              refine pm_aloadn hG dX12_plans_228 rfl ?_
              refine pm_getf hG dX12_plans_229 (flX12_7 _ rfl) rfl rfl ?_
              refine pm_bipush (v := 20) hG dX12_plans_232 (by decide) ?_
              refine pm_iconst (v := 3) hG dX12_plans_234 (by decide) ?_
              refine pm_iloadi hG dX12_plans_235 rfl ?_
              refine pm_imul hG dX12_plans_237 ?_
              refine pm_iadd hG dX12_plans_238 ?_
              obtain ⟨j21, hj21, hE⟩ := fb_some hE
              refine fx_iald hG dX12_plans_239 rfl hj21 ?_
              refine pm_imul hG dX12_plans_240 ?_
              refine pm_iadd hG dX12_plans_241 ?_
              refine fx_letv hE (fun x22 hE => ?_)
              refine pm_istoreXi (loc' := [some (.ref (B + 54)), some (.int 1), some (.int zb), some (.int zc), some (.int x9_4), some (.int x10_5), some (.int x22)]) hG dX12_plans_242 (by decide) (pm_c1b rfl) rfl ?_
              refine pm_iloadi hG dX12_plans_244 rfl ?_
              refine pm_if_ge (tgt := 252) hG dX12_plans_246 rfl (fun c23 => ?_) (fun c23 => ?_)
              · replace c23 := Int32.not_lt.mpr c23
                replace hE := fx_f c23 hE
                refine pm_aloadn hG dX12_plans_252 rfl ?_
                refine pm_getf hG dX12_plans_253 (flX12_46 _ rfl) rfl rfl ?_
                refine pm_iloadn hG dX12_plans_256 rfl ?_
                refine pm_iloadi hG dX12_plans_257 rfl ?_
                refine fx_iast hG dX12_plans_259 rfl (ix_lit (by decide) rfl) ?_
                refine ma_67 ?_
                refine fx_letm hE (fun S24 hE => ?_)
                refine pm_aloadn hG dX12_plans_260 rfl ?_
                refine pm_iloadn hG dX12_plans_261 rfl ?_
                refine pm_iconst (v := 1) hG dX12_plans_262 (by decide) ?_
                refine pm_iadd hG dX12_plans_263 ?_
                refine pm_top (v := 2) (by decide) ?_
                refine pm_iloadi hG dX12_plans_264 rfl ?_
                refine pm_if_ge (tgt := 273) hG dX12_plans_266 rfl (fun _ => ?_) (fun q => absurd (Int32.not_le.mp q) c12)
                refine pm_iloadn hG dX12_plans_273 rfl ?_
                refine pm_iconst (v := 1) hG dX12_plans_274 (by decide) ?_
                refine pm_iloadi hG dX12_plans_275 rfl ?_
                refine pm_ishl hG dX12_plans_277 ?_
                refine pm_iconst (v := (-1)) hG dX12_plans_278 (by decide) ?_
                refine pm_ixor hG dX12_plans_279 ?_
                refine pm_iand hG dX12_plans_280 ?_
                refine pm_iloadi hG dX12_plans_281 rfl ?_
                obtain ⟨r26, h25, hE⟩ := fb_some hE
                refine pm_callV (As := [.int 2, .int (zb &&& (((1 : Int32) <<< (x10_5 &&& 31)) ^^^ (-1))), .int x22]) (rest := []) hG hR dX12_plans_283 (lkX12_280 _ rfl) okV_X12_plans rfl rfl (c_X12_plans_k2 (d := 7) (by decide) h25) rfl rfl hdd (Nat.le_refl _) (Nat.le_refl _) (by decide) (fx_kv ?_)
                refine pm_iincX (v := x10_5 + 1) (loc' := [some (.ref (B + 54)), some (.int 1), some (.int zb), some (.int zc), some (.int x9_4), some (.int (x10_5 + 1)), some (.int x22)]) hG dX12_plans_286 rfl (by rfl) (by decide) (pm_c1b rfl) rfl ?_
                refine pm_goto (tgt := 177) hG dX12_plans_289 rfl ?_
                refine pm_fg 6 (loc' := [some (.ref (B + 54)), some (.int 1), some (.int zb), some (.int zc), some (.int x9_4), some (.int (x10_5 + 1)), none]) rfl ?_
                exact ih177 _ _ hE
              · replace c23 := Int32.not_le.mp c23
                replace hE := fx_t c23 hE
                refine pm_goto (tgt := 286) hG dX12_plans_249 rfl ?_
                refine pm_iincX (v := x10_5 + 1) (loc' := [some (.ref (B + 54)), some (.int 1), some (.int zb), some (.int zc), some (.int x9_4), some (.int (x10_5 + 1)), some (.int x22)]) hG dX12_plans_286 rfl (by rfl) (by decide) (pm_c1b rfl) rfl ?_
                refine pm_goto (tgt := 177) hG dX12_plans_289 rfl ?_
                refine pm_fg 6 (loc' := [some (.ref (B + 54)), some (.int 1), some (.int zb), some (.int zc), some (.int x9_4), some (.int (x10_5 + 1)), none]) rfl ?_
                exact ih177 _ _ hE
            · replace hE := fx_t c19 hE
              refine pm_goto (tgt := 286) hG dX12_plans_198 rfl ?_
              refine pm_iincX (v := x10_5 + 1) (loc' := [some (.ref (B + 54)), some (.int 1), some (.int zb), some (.int zc), some (.int x9_4), some (.int (x10_5 + 1)), none]) hG dX12_plans_286 rfl (by rfl) (by decide) (pm_c1b rfl) rfl ?_
              refine pm_goto (tgt := 177) hG dX12_plans_289 rfl ?_
              exact ih177 _ _ hE
    refine loop177 _ (fun S27 x27_5 hE => ?_) _ _ _ hE
    exact pm_vret hG hF dX12_plans_292 rfl (Nat.le_refl _) (Nat.le_refl _) (fx_rvm hE)
  · replace hE := fx_t c2 hE
    refine pm_iloadn hG dX12_plans_13 rfl ?_
    refine pm_istoreXi (loc' := [some (.ref (B + 54)), some (.int 1), some (.int zb), some (.int zc), some (.int zc), none, none]) hG dX12_plans_14 (by decide) (pm_c1b rfl) rfl ?_
    refine pm_iconst (v := 0) hG dX12_plans_16 (by decide) ?_
    refine pm_istoreXi (loc' := [some (.ref (B + 54)), some (.int 1), some (.int zb), some (.int zc), some (.int zc), some (.int 0), none]) hG dX12_plans_17 (by decide) (pm_c1b rfl) rfl ?_
    have loop19 : ∀ (k19 : FS → Int32 → Int32 → Option (Int32 × FS)), (∀ (S28 : FS) (x28_4 : Int32) (x28_5 : Int32), k19 S28  x28_4 x28_5 = some R → pm_wp mX12_plans G B 66 [some (.ref (B + 54)), some (.int 1), some (.int zb), some (.int zc), some (.int x28_4), some (.int x28_5), none] [] 0 0 cnt (mst B S28 σ)) → ∀ (m19 : Nat) (S28 : FS) (x28_4 : Int32) (x28_5 : Int32), l_X12_plans_k1_19 zb k19 m19 S28  x28_4 x28_5 = some R → pm_wp mX12_plans G B 19 [some (.ref (B + 54)), some (.int 1), some (.int zb), some (.int zc), some (.int x28_4), some (.int x28_5), none] [] 0 0 cnt (mst B S28 σ) := by
      intro k19 hk19 m19
      induction m19 with
      | zero => intro S28  x28_4 x28_5 hE; exact fx_no hE
      | succ m19 ih19 =>
        intro S28  x28_4 x28_5 hE
        rw [l_X12_plans_k1_19] at hE
        refine pm_iloadi hG dX12_plans_19 rfl ?_
        refine pm_bipush (v := 6) hG dX12_plans_21 (by decide) ?_
        refine pm_icmp_ge (tgt := 66) hG dX12_plans_23 rfl (fun c29 => ?_) (fun c29 => ?_)
        · replace c29 := Int32.not_lt.mpr c29
          replace hE := fx_f c29 hE
          exact hk19 _ _ _ hE
        · replace c29 := Int32.not_le.mp c29
          replace hE := fx_t c29 hE
          refine pm_iloadi hG dX12_plans_26 rfl ?_
          refine pm_iloadn hG dX12_plans_28 rfl ?_
          refine pm_iloadi hG dX12_plans_29 rfl ?_
          refine pm_ishr hG dX12_plans_31 ?_
          refine pm_iconst (v := 1) hG dX12_plans_32 (by decide) ?_
          refine pm_iand hG dX12_plans_33 ?_
          refine pm_iconst (v := 1) hG dX12_plans_34 (by decide) ?_
          refine pm_icmp_ne (tgt := 56) hG dX12_plans_35 rfl (fun c30 => ?_) (fun c30 => ?_)
          · replace hE := fx_f c30 hE
            refine pm_iconst (v := 0) hG dX12_plans_56 (by decide) ?_
            refine pm_iadd hG dX12_plans_57 ?_
            refine fx_letv hE (fun x31 hE => ?_)
            refine pm_istoreXi (loc' := [some (.ref (B + 54)), some (.int 1), some (.int zb), some (.int zc), some (.int x31), some (.int x28_5), none]) hG dX12_plans_58 (by decide) (pm_c1b rfl) rfl ?_
            refine pm_iincX (v := x28_5 + 1) (loc' := [some (.ref (B + 54)), some (.int 1), some (.int zb), some (.int zc), some (.int x31), some (.int (x28_5 + 1)), none]) hG dX12_plans_60 rfl (by rfl) (by decide) (pm_c1b rfl) rfl ?_
            refine pm_goto (tgt := 19) hG dX12_plans_63 rfl ?_
            exact ih19 _ _ _ hE
          · replace hE := fx_t c30 hE
            refine pm_bipush (v := 8) hG dX12_plans_38 (by decide) ?_
            refine pm_aloadn hG dX12_plans_40 rfl ?_
            refine pm_getf hG dX12_plans_41 (flX12_7 _ rfl) rfl rfl ?_
            refine pm_bipush (v := 20) hG dX12_plans_44 (by decide) ?_
            refine pm_iconst (v := 3) hG dX12_plans_46 (by decide) ?_
            refine pm_iloadi hG dX12_plans_47 rfl ?_
            refine pm_imul hG dX12_plans_49 ?_
            refine pm_iadd hG dX12_plans_50 ?_
            obtain ⟨j32, hj32, hE⟩ := fb_some hE
            refine fx_iald hG dX12_plans_51 rfl hj32 ?_
            refine pm_imul hG dX12_plans_52 ?_
            refine pm_goto (tgt := 57) hG dX12_plans_53 rfl ?_
            refine pm_iadd hG dX12_plans_57 ?_
            refine fx_letv hE (fun x33 hE => ?_)
            refine pm_istoreXi (loc' := [some (.ref (B + 54)), some (.int 1), some (.int zb), some (.int zc), some (.int x33), some (.int x28_5), none]) hG dX12_plans_58 (by decide) (pm_c1b rfl) rfl ?_
            refine pm_iincX (v := x28_5 + 1) (loc' := [some (.ref (B + 54)), some (.int 1), some (.int zb), some (.int zc), some (.int x33), some (.int (x28_5 + 1)), none]) hG dX12_plans_60 rfl (by rfl) (by decide) (pm_c1b rfl) rfl ?_
            refine pm_goto (tgt := 19) hG dX12_plans_63 rfl ?_
            exact ih19 _ _ _ hE
    refine loop19 _ (fun S34 x34_4 x34_5 hE => ?_) _ _ _ _ hE
    have join83 : ∀ (S35 : FS), j_X12_plans_k1_83 x34_4 S35 = some R → pm_wp mX12_plans G B 83 [some (.ref (B + 54)), some (.int 1), some (.int zb), some (.int zc), some (.int x34_4), some (.int x34_5), none] [] 0 0 cnt (mst B S35 σ) := by
      intro S35 hE
      unfold j_X12_plans_k1_83 at hE
      refine pm_aloadn hG dX12_plans_83 rfl ?_
      refine pm_iconst (v := 1) hG dX12_plans_84 (by decide) ?_
      refine pm_putf hG dX12_plans_85 (fwX12_273 _ rfl) rfl (by decide) (by decide) ?_
      refine mi_20 ?_
      refine fx_letm hE (fun S36 hE => ?_)
      refine pm_aloadn hG dX12_plans_88 rfl ?_
      refine pm_iloadi hG dX12_plans_89 rfl ?_
      refine pm_putf hG dX12_plans_91 (fwX12_277 _ rfl) rfl rfl rfl ?_
      refine mi_19 ?_
      refine fx_letm hE (fun S37 hE => ?_)
      refine pm_iconst (v := 0) hG dX12_plans_94 (by decide) ?_
      refine pm_istoreXi (loc' := [some (.ref (B + 54)), some (.int 1), some (.int zb), some (.int zc), some (.int x34_4), some (.int 0), none]) hG dX12_plans_95 (by decide) (pm_c1b rfl) rfl ?_
      have loop97 : ∀ (k97 : FS → Int32 → Option (Int32 × FS)), (∀ (S38 : FS) (x38_5 : Int32), k97 S38  x38_5 = some R → pm_wp mX12_plans G B 123 [some (.ref (B + 54)), some (.int 1), some (.int zb), some (.int zc), some (.int x34_4), some (.int x38_5), none] [] 0 0 cnt (mst B S38 σ)) → ∀ (m97 : Nat) (S38 : FS) (x38_5 : Int32), l_X12_plans_k1_97 k97 m97 S38  x38_5 = some R → pm_wp mX12_plans G B 97 [some (.ref (B + 54)), some (.int 1), some (.int zb), some (.int zc), some (.int x34_4), some (.int x38_5), none] [] 0 0 cnt (mst B S38 σ) := by
        intro k97 hk97 m97
        induction m97 with
        | zero => intro S38  x38_5 hE; exact fx_no hE
        | succ m97 ih97 =>
          intro S38  x38_5 hE
          rw [l_X12_plans_k1_97] at hE
          refine pm_iloadi hG dX12_plans_97 rfl ?_
          refine pm_iloadn hG dX12_plans_99 rfl ?_
          refine pm_icmp_ge (tgt := 123) hG dX12_plans_100 rfl (fun c39 => ?_) (fun c39 => ?_)
          · replace c39 := Int32.not_lt.mpr c39
            replace hE := fx_f c39 hE
            exact hk97 _ _ hE
          · replace c39 := Int32.not_le.mp c39
            replace hE := fx_t c39 hE
            refine pm_aloadn hG dX12_plans_103 rfl ?_
            refine pm_getf hG dX12_plans_104 (flX12_49 _ rfl) rfl rfl ?_
            refine pm_iloadi hG dX12_plans_107 rfl ?_
            refine pm_aloadn hG dX12_plans_109 rfl ?_
            refine pm_getf hG dX12_plans_110 (flX12_46 _ rfl) rfl rfl ?_
            refine pm_iloadi hG dX12_plans_113 rfl ?_
            obtain ⟨j40, hj40, hE⟩ := fb_some hE
            refine fx_iald hG dX12_plans_115 rfl hj40 ?_
            refine fx_iast hG dX12_plans_116 rfl hj40 ?_
            refine ma_68 ?_
            refine fx_letm hE (fun S41 hE => ?_)
            refine pm_iincX (v := x38_5 + 1) (loc' := [some (.ref (B + 54)), some (.int 1), some (.int zb), some (.int zc), some (.int x34_4), some (.int (x38_5 + 1)), none]) hG dX12_plans_117 rfl (by rfl) (by decide) (pm_c1b rfl) rfl ?_
            refine pm_goto (tgt := 97) hG dX12_plans_120 rfl ?_
            exact ih97 _ _ hE
      refine loop97 _ (fun S42 x42_5 hE => ?_) _ _ _ hE
      exact pm_vret hG hF dX12_plans_123 rfl (Nat.le_refl _) (Nat.le_refl _) (fx_rvm hE)
    refine pm_aloadn hG dX12_plans_66 rfl ?_
    refine pm_getf hG dX12_plans_67 (flX12_273 _ rfl) rfl rfl ?_
    refine pm_if_eq (tgt := 83) hG dX12_plans_70 rfl (fun c43 => ?_) (fun c43 => ?_)
    · replace hE := fx_t c43 hE
      exact join83 _ hE
    · replace hE := fx_f c43 hE
      refine pm_iloadi hG dX12_plans_73 rfl ?_
      refine pm_aloadn hG dX12_plans_75 rfl ?_
      refine pm_getf hG dX12_plans_76 (flX12_277 _ rfl) rfl rfl ?_
      refine pm_icmp_gt (tgt := 83) hG dX12_plans_79 rfl (fun c44 => ?_) (fun c44 => ?_)
      · replace hE := fx_t c44 hE
        exact join83 _ hE
      · replace hE := fx_f c44 hE
        exact pm_vret hG hF dX12_plans_82 rfl (Nat.le_refl _) (Nat.le_refl _) (fx_rvm hE)
