section
set_option maxRecDepth 100000 in
set_option maxHeartbeats 4000000 in
theorem c_X12_plans_k3 {d : Nat} {B cnt : Nat} {σ : pm_S} {S : FS} {zb : Int32} {zc : Int32} {R : Int32 × FS} (hdd : 6 ≤ d) (hE : f_X12_plans_k3 S zb zc = some R) : pm_met mX12_plans d 0 0 B [.ref (B + 54), .int 3, .int zb, .int zc] cnt (mst B S σ) (pm_Qv (fun σ' cnt' => σ' = (mst B R.2 σ) ∧ cnt' = cnt)) := by
  refine pm_enter 3 (by decide) (Nat.le_of_ble_eq_true rfl) rfl (fun G hG hR hF => ?_)
  unfold f_X12_plans_k3 at hE
  refine pm_iloadn hG dX12_plans_0 rfl ?_
  refine pm_aloadn hG dX12_plans_1 rfl ?_
  refine pm_getf hG dX12_plans_2 (flX12_58 _ rfl) rfl rfl ?_
  refine pm_aloadn hG dX12_plans_5 rfl ?_
  refine pm_getf hG dX12_plans_6 (flX12_270 _ rfl) rfl rfl ?_
  obtain ⟨j1, hj1, hE⟩ := fb_some hE
  refine fx_iald hG dX12_plans_9 rfl hj1 ?_
  refine pm_icmp_ne (tgt := 124) hG dX12_plans_10 rfl (fun c2 => ?_) (fun c2 => ?_)
  · replace hE := fx_f c2 hE
    refine pm_iloadn hG dX12_plans_124 rfl ?_
    refine pm_istoreXi (loc' := [some (.ref (B + 54)), some (.int 3), some (.int zb), some (.int zc), some (.int zc), none, none]) hG dX12_plans_125 (by decide) (pm_c1b rfl) rfl ?_
    refine pm_iconst (v := 0) hG dX12_plans_127 (by decide) ?_
    refine pm_istoreXi (loc' := [some (.ref (B + 54)), some (.int 3), some (.int zb), some (.int zc), some (.int zc), some (.int 0), none]) hG dX12_plans_128 (by decide) (pm_c1b rfl) rfl ?_
    have loop130 : ∀ (k130 : FS → Int32 → Int32 → Option (Int32 × FS)), (∀ (S3 : FS) (x3_4 : Int32) (x3_5 : Int32), k130 S3  x3_4 x3_5 = some R → pm_wp mX12_plans G B 174 [some (.ref (B + 54)), some (.int 3), some (.int zb), some (.int zc), some (.int x3_4), some (.int x3_5), none] [] 0 0 cnt (mst B S3 σ)) → ∀ (m130 : Nat) (S3 : FS) (x3_4 : Int32) (x3_5 : Int32), l_X12_plans_k3_130 zb k130 m130 S3  x3_4 x3_5 = some R → pm_wp mX12_plans G B 130 [some (.ref (B + 54)), some (.int 3), some (.int zb), some (.int zc), some (.int x3_4), some (.int x3_5), none] [] 0 0 cnt (mst B S3 σ) := by
      intro k130 hk130 m130
      induction m130 with
      | zero => intro S3  x3_4 x3_5 hE; exact fx_no hE
      | succ m130 ih130 =>
        intro S3  x3_4 x3_5 hE
        rw [l_X12_plans_k3_130] at hE
        refine pm_iloadi hG dX12_plans_130 rfl ?_
        refine pm_bipush (v := 6) hG dX12_plans_132 (by decide) ?_
        refine pm_icmp_ge (tgt := 174) hG dX12_plans_134 rfl (fun c4 => ?_) (fun c4 => ?_)
        · replace c4 := Int32.not_lt.mpr c4
          replace hE := fx_f c4 hE
          exact hk130 _ _ _ hE
        · replace c4 := Int32.not_le.mp c4
          replace hE := fx_t c4 hE
          refine pm_iloadi hG dX12_plans_137 rfl ?_
          refine pm_iloadn hG dX12_plans_139 rfl ?_
          refine pm_iloadi hG dX12_plans_140 rfl ?_
          refine pm_ishr hG dX12_plans_142 ?_
          refine pm_iconst (v := 1) hG dX12_plans_143 (by decide) ?_
          refine pm_iand hG dX12_plans_144 ?_
          refine pm_iconst (v := 1) hG dX12_plans_145 (by decide) ?_
          refine pm_icmp_ne (tgt := 164) hG dX12_plans_146 rfl (fun c5 => ?_) (fun c5 => ?_)
          · replace hE := fx_f c5 hE
            refine pm_iconst (v := 0) hG dX12_plans_164 (by decide) ?_
            refine pm_iadd hG dX12_plans_165 ?_
            refine fx_letv hE (fun x6 hE => ?_)
            refine pm_istoreXi (loc' := [some (.ref (B + 54)), some (.int 3), some (.int zb), some (.int zc), some (.int x6), some (.int x3_5), none]) hG dX12_plans_166 (by decide) (pm_c1b rfl) rfl ?_
            refine pm_iincX (v := x3_5 + 1) (loc' := [some (.ref (B + 54)), some (.int 3), some (.int zb), some (.int zc), some (.int x6), some (.int (x3_5 + 1)), none]) hG dX12_plans_168 rfl (by rfl) (by decide) (pm_c1b rfl) rfl ?_
            refine pm_goto (tgt := 130) hG dX12_plans_171 rfl ?_
            exact ih130 _ _ _ hE
          · replace hE := fx_t c5 hE
            refine pm_aloadn hG dX12_plans_149 rfl ?_
            refine pm_getf hG dX12_plans_150 (flX12_7 _ rfl) rfl rfl ?_
            refine pm_bipush (v := 20) hG dX12_plans_153 (by decide) ?_
            refine pm_iconst (v := 3) hG dX12_plans_155 (by decide) ?_
            refine pm_iloadi hG dX12_plans_156 rfl ?_
            refine pm_imul hG dX12_plans_158 ?_
            refine pm_iadd hG dX12_plans_159 ?_
            obtain ⟨j7, hj7, hE⟩ := fb_some hE
            refine fx_iald hG dX12_plans_160 rfl hj7 ?_
            refine pm_goto (tgt := 165) hG dX12_plans_161 rfl ?_
            refine pm_iadd hG dX12_plans_165 ?_
            refine fx_letv hE (fun x8 hE => ?_)
            refine pm_istoreXi (loc' := [some (.ref (B + 54)), some (.int 3), some (.int zb), some (.int zc), some (.int x8), some (.int x3_5), none]) hG dX12_plans_166 (by decide) (pm_c1b rfl) rfl ?_
            refine pm_iincX (v := x3_5 + 1) (loc' := [some (.ref (B + 54)), some (.int 3), some (.int zb), some (.int zc), some (.int x8), some (.int (x3_5 + 1)), none]) hG dX12_plans_168 rfl (by rfl) (by decide) (pm_c1b rfl) rfl ?_
            refine pm_goto (tgt := 130) hG dX12_plans_171 rfl ?_
            exact ih130 _ _ _ hE
    refine loop130 _ (fun S9 x9_4 x9_5 hE => ?_) _ _ _ _ hE
    refine pm_iconst (v := (-1)) hG dX12_plans_174 (by decide) ?_
    refine pm_istoreXi (loc' := [some (.ref (B + 54)), some (.int 3), some (.int zb), some (.int zc), some (.int x9_4), some (.int (-1)), none]) hG dX12_plans_175 (by decide) (pm_c1b rfl) rfl ?_
    have loop177 : ∀ (k177 : FS → Int32 → Option (Int32 × FS)), (∀ (S10 : FS) (x10_5 : Int32), k177 S10  x10_5 = some R → pm_wp mX12_plans G B 292 [some (.ref (B + 54)), some (.int 3), some (.int zb), some (.int zc), some (.int x9_4), some (.int x10_5), none] [] 0 0 cnt (mst B S10 σ)) → ∀ (m177 : Nat) (S10 : FS) (x10_5 : Int32), l_X12_plans_k3_177 zb x9_4 k177 m177 S10  x10_5 = some R → pm_wp mX12_plans G B 177 [some (.ref (B + 54)), some (.int 3), some (.int zb), some (.int zc), some (.int x9_4), some (.int x10_5), none] [] 0 0 cnt (mst B S10 σ) := by
      intro k177 hk177 m177
      induction m177 with
      | zero => intro S10  x10_5 hE; exact fx_no hE
      | succ m177 ih177 =>
        intro S10  x10_5 hE
        rw [l_X12_plans_k3_177] at hE
        refine pm_iloadi hG dX12_plans_177 rfl ?_
        refine pm_bipush (v := 6) hG dX12_plans_179 (by decide) ?_
        refine pm_icmp_ge (tgt := 292) hG dX12_plans_181 rfl (fun c11 => ?_) (fun c11 => ?_)
        · replace c11 := Int32.not_lt.mpr c11
          replace hE := fx_f c11 hE
          exact hk177 _ _ hE
        · replace c11 := Int32.not_le.mp c11
          replace hE := fx_t c11 hE
          refine pm_iloadi hG dX12_plans_184 rfl ?_
          refine pm_if_lt (tgt := 201) hG dX12_plans_186 rfl (fun c12 => ?_) (fun c12 => ?_)
          · replace hE := fx_t c12 hE
            refine pm_iloadi hG dX12_plans_201 rfl ?_
            refine pm_aloadn hG dX12_plans_203 rfl ?_
            refine pm_getf hG dX12_plans_204 (flX12_61 _ rfl) rfl rfl ?_
            refine pm_bipush (v := 24) hG dX12_plans_207 (by decide) ?_
            refine pm_aloadn hG dX12_plans_209 rfl ?_
            refine pm_getf hG dX12_plans_210 (flX12_270 _ rfl) rfl rfl ?_
            refine pm_imul hG dX12_plans_213 ?_
            refine pm_iloadn hG dX12_plans_214 rfl ?_
            refine pm_iadd hG dX12_plans_215 ?_
            obtain ⟨j13, hj13, hE⟩ := fb_some hE
            refine fx_iald hG dX12_plans_216 rfl hj13 ?_
            refine pm_isub hG dX12_plans_217 ?_
            refine pm_iloadi hG dX12_plans_218 rfl ?_
            refine pm_if_ge (tgt := 227) hG dX12_plans_220 rfl (fun q => absurd c12 (Int32.not_lt.mpr q)) (fun _ => ?_)
            refine pm_iconst (v := 0) hG dX12_plans_223 (by decide) ?_
            refine pm_goto (tgt := 241) hG dX12_plans_224 rfl ?_
            refine pm_iadd hG dX12_plans_241 ?_
            refine fx_letv hE (fun x14 hE => ?_)
            refine pm_istoreXi (loc' := [some (.ref (B + 54)), some (.int 3), some (.int zb), some (.int zc), some (.int x9_4), some (.int x10_5), some (.int x14)]) hG dX12_plans_242 (by decide) (pm_c1b rfl) rfl ?_
            refine pm_iloadi hG dX12_plans_244 rfl ?_
            refine pm_if_ge (tgt := 252) hG dX12_plans_246 rfl (fun c15 => ?_) (fun c15 => ?_)
            · replace c15 := Int32.not_lt.mpr c15
              replace hE := fx_f c15 hE
              refine pm_aloadn hG dX12_plans_252 rfl ?_
              refine pm_getf hG dX12_plans_253 (flX12_46 _ rfl) rfl rfl ?_
              refine pm_iloadn hG dX12_plans_256 rfl ?_
              refine pm_iloadi hG dX12_plans_257 rfl ?_
              refine fx_iast hG dX12_plans_259 rfl (ix_lit (by decide) rfl) ?_
              refine ma_67 ?_
              refine fx_letm hE (fun S16 hE => ?_)
              refine pm_aloadn hG dX12_plans_260 rfl ?_
              refine pm_iloadn hG dX12_plans_261 rfl ?_
              refine pm_iconst (v := 1) hG dX12_plans_262 (by decide) ?_
              refine pm_iadd hG dX12_plans_263 ?_
              refine pm_top (v := 4) (by decide) ?_
              refine pm_iloadi hG dX12_plans_264 rfl ?_
              refine pm_if_ge (tgt := 273) hG dX12_plans_266 rfl (fun q => absurd c12 (Int32.not_lt.mpr q)) (fun _ => ?_)
              refine pm_iloadn hG dX12_plans_269 rfl ?_
              refine pm_goto (tgt := 281) hG dX12_plans_270 rfl ?_
              refine pm_iloadi hG dX12_plans_281 rfl ?_
              obtain ⟨r18, h17, hE⟩ := fb_some hE
              refine pm_callV (As := [.int 4, .int zb, .int x14]) (rest := []) hG hR dX12_plans_283 (lkX12_280 _ rfl) okV_X12_plans rfl rfl (c_X12_plans_k4 (d := 5) (by decide) h17) rfl rfl hdd (Nat.le_refl _) (Nat.le_refl _) (by decide) (fx_kv ?_)
              refine pm_iincX (v := x10_5 + 1) (loc' := [some (.ref (B + 54)), some (.int 3), some (.int zb), some (.int zc), some (.int x9_4), some (.int (x10_5 + 1)), some (.int x14)]) hG dX12_plans_286 rfl (by rfl) (by decide) (pm_c1b rfl) rfl ?_
              refine pm_goto (tgt := 177) hG dX12_plans_289 rfl ?_
              refine pm_fg 6 (loc' := [some (.ref (B + 54)), some (.int 3), some (.int zb), some (.int zc), some (.int x9_4), some (.int (x10_5 + 1)), none]) rfl ?_
              exact ih177 _ _ hE
            · replace c15 := Int32.not_le.mp c15
              replace hE := fx_t c15 hE
              refine pm_goto (tgt := 286) hG dX12_plans_249 rfl ?_
              refine pm_iincX (v := x10_5 + 1) (loc' := [some (.ref (B + 54)), some (.int 3), some (.int zb), some (.int zc), some (.int x9_4), some (.int (x10_5 + 1)), some (.int x14)]) hG dX12_plans_286 rfl (by rfl) (by decide) (pm_c1b rfl) rfl ?_
              refine pm_goto (tgt := 177) hG dX12_plans_289 rfl ?_
              refine pm_fg 6 (loc' := [some (.ref (B + 54)), some (.int 3), some (.int zb), some (.int zc), some (.int x9_4), some (.int (x10_5 + 1)), none]) rfl ?_
              exact ih177 _ _ hE
          · replace hE := fx_f c12 hE
            refine pm_iloadn hG dX12_plans_189 rfl ?_
            refine pm_iloadi hG dX12_plans_190 rfl ?_
            refine pm_ishr hG dX12_plans_192 ?_
            refine pm_iconst (v := 1) hG dX12_plans_193 (by decide) ?_
            refine pm_iand hG dX12_plans_194 ?_
            refine pm_if_ne (tgt := 201) hG dX12_plans_195 rfl (fun c19 => ?_) (fun c19 => ?_)
            · replace hE := fx_f c19 hE
              refine pm_iloadi hG dX12_plans_201 rfl ?_
              refine pm_aloadn hG dX12_plans_203 rfl ?_
              refine pm_getf hG dX12_plans_204 (flX12_61 _ rfl) rfl rfl ?_
              refine pm_bipush (v := 24) hG dX12_plans_207 (by decide) ?_
              refine pm_aloadn hG dX12_plans_209 rfl ?_
              refine pm_getf hG dX12_plans_210 (flX12_270 _ rfl) rfl rfl ?_
              refine pm_imul hG dX12_plans_213 ?_
              refine pm_iloadn hG dX12_plans_214 rfl ?_
              refine pm_iadd hG dX12_plans_215 ?_
              obtain ⟨j20, hj20, hE⟩ := fb_some hE
              refine fx_iald hG dX12_plans_216 rfl hj20 ?_
              refine pm_isub hG dX12_plans_217 ?_
              refine pm_iloadi hG dX12_plans_218 rfl ?_
              refine pm_if_ge (tgt := 227) hG dX12_plans_220 rfl (fun _ => ?_) (fun q => absurd (Int32.not_le.mp q) c12)
              refine pm_iconst (v := 4) hG dX12_plans_227 (by decide) ?_
              refine pm_aloadn hG dX12_plans_228 rfl ?_
              refine pm_getf hG dX12_plans_229 (flX12_7 _ rfl) rfl rfl ?_
              refine pm_bipush (v := 20) hG dX12_plans_232 (by decide) ?_
              refine pm_iconst (v := 3) hG dX12_plans_234 (by decide) ?_
              refine pm_iloadi hG dX12_plans_235 rfl ?_
              refine pm_imul hG dX12_plans_237 ?_
              refine pm_iadd hG dX12_plans_238 ?_
              obtain ⟨j21, hj21, hE⟩ := fb_some hE
              refine fx_iald hG dX12_plans_239 rfl hj21 ?_
              refine pm_imul hG dX12_plans_240 ?_
              refine pm_iadd hG dX12_plans_241 ?_
              refine fx_letv hE (fun x22 hE => ?_)
              refine pm_istoreXi (loc' := [some (.ref (B + 54)), some (.int 3), some (.int zb), some (.int zc), some (.int x9_4), some (.int x10_5), some (.int x22)]) hG dX12_plans_242 (by decide) (pm_c1b rfl) rfl ?_
              refine pm_iloadi hG dX12_plans_244 rfl ?_
              refine pm_if_ge (tgt := 252) hG dX12_plans_246 rfl (fun c23 => ?_) (fun c23 => ?_)
              · replace c23 := Int32.not_lt.mpr c23
                replace hE := fx_f c23 hE
                refine pm_aloadn hG dX12_plans_252 rfl ?_
                refine pm_getf hG dX12_plans_253 (flX12_46 _ rfl) rfl rfl ?_
                refine pm_iloadn hG dX12_plans_256 rfl ?_
                refine pm_iloadi hG dX12_plans_257 rfl ?_
                refine fx_iast hG dX12_plans_259 rfl (ix_lit (by decide) rfl) ?_
                refine ma_67 ?_
                refine fx_letm hE (fun S24 hE => ?_)
                refine pm_aloadn hG dX12_plans_260 rfl ?_
                refine pm_iloadn hG dX12_plans_261 rfl ?_
                refine pm_iconst (v := 1) hG dX12_plans_262 (by decide) ?_
                refine pm_iadd hG dX12_plans_263 ?_
                refine pm_top (v := 4) (by decide) ?_
                refine pm_iloadi hG dX12_plans_264 rfl ?_
                refine pm_if_ge (tgt := 273) hG dX12_plans_266 rfl (fun _ => ?_) (fun q => absurd (Int32.not_le.mp q) c12)
                refine pm_iloadn hG dX12_plans_273 rfl ?_
                refine pm_iconst (v := 1) hG dX12_plans_274 (by decide) ?_
                refine pm_iloadi hG dX12_plans_275 rfl ?_
                refine pm_ishl hG dX12_plans_277 ?_
                refine pm_iconst (v := (-1)) hG dX12_plans_278 (by decide) ?_
                refine pm_ixor hG dX12_plans_279 ?_
                refine pm_iand hG dX12_plans_280 ?_
                refine pm_iloadi hG dX12_plans_281 rfl ?_
                obtain ⟨r26, h25, hE⟩ := fb_some hE
                refine pm_callV (As := [.int 4, .int (zb &&& (((1 : Int32) <<< (x10_5 &&& 31)) ^^^ (-1))), .int x22]) (rest := []) hG hR dX12_plans_283 (lkX12_280 _ rfl) okV_X12_plans rfl rfl (c_X12_plans_k4 (d := 5) (by decide) h25) rfl rfl hdd (Nat.le_refl _) (Nat.le_refl _) (by decide) (fx_kv ?_)
                refine pm_iincX (v := x10_5 + 1) (loc' := [some (.ref (B + 54)), some (.int 3), some (.int zb), some (.int zc), some (.int x9_4), some (.int (x10_5 + 1)), some (.int x22)]) hG dX12_plans_286 rfl (by rfl) (by decide) (pm_c1b rfl) rfl ?_
                refine pm_goto (tgt := 177) hG dX12_plans_289 rfl ?_
                refine pm_fg 6 (loc' := [some (.ref (B + 54)), some (.int 3), some (.int zb), some (.int zc), some (.int x9_4), some (.int (x10_5 + 1)), none]) rfl ?_
                exact ih177 _ _ hE
              · replace c23 := Int32.not_le.mp c23
                replace hE := fx_t c23 hE
                refine pm_goto (tgt := 286) hG dX12_plans_249 rfl ?_
                refine pm_iincX (v := x10_5 + 1) (loc' := [some (.ref (B + 54)), some (.int 3), some (.int zb), some (.int zc), some (.int x9_4), some (.int (x10_5 + 1)), some (.int x22)]) hG dX12_plans_286 rfl (by rfl) (by decide) (pm_c1b rfl) rfl ?_
                refine pm_goto (tgt := 177) hG dX12_plans_289 rfl ?_
                refine pm_fg 6 (loc' := [some (.ref (B + 54)), some (.int 3), some (.int zb), some (.int zc), some (.int x9_4), some (.int (x10_5 + 1)), none]) rfl ?_
                exact ih177 _ _ hE
            · replace hE := fx_t c19 hE
              refine pm_goto (tgt := 286) hG dX12_plans_198 rfl ?_
              refine pm_iincX (v := x10_5 + 1) (loc' := [some (.ref (B + 54)), some (.int 3), some (.int zb), some (.int zc), some (.int x9_4), some (.int (x10_5 + 1)), none]) hG dX12_plans_286 rfl (by rfl) (by decide) (pm_c1b rfl) rfl ?_
              refine pm_goto (tgt := 177) hG dX12_plans_289 rfl ?_
              exact ih177 _ _ hE
    refine loop177 _ (fun S27 x27_5 hE => ?_) _ _ _ hE
    exact pm_vret hG hF dX12_plans_292 rfl (Nat.le_refl _) (Nat.le_refl _) (fx_rvm hE)
  · replace hE := fx_t c2 hE
    refine pm_iloadn hG dX12_plans_13 rfl ?_
    refine pm_istoreXi (loc' := [some (.ref (B + 54)), some (.int 3), some (.int zb), some (.int zc), some (.int zc), none, none]) hG dX12_plans_14 (by decide) (pm_c1b rfl) rfl ?_
    refine pm_iconst (v := 0) hG dX12_plans_16 (by decide) ?_
    refine pm_istoreXi (loc' := [some (.ref (B + 54)), some (.int 3), some (.int zb), some (.int zc), some (.int zc), some (.int 0), none]) hG dX12_plans_17 (by decide) (pm_c1b rfl) rfl ?_
    have loop19 : ∀ (k19 : FS → Int32 → Int32 → Option (Int32 × FS)), (∀ (S28 : FS) (x28_4 : Int32) (x28_5 : Int32), k19 S28  x28_4 x28_5 = some R → pm_wp mX12_plans G B 66 [some (.ref (B + 54)), some (.int 3), some (.int zb), some (.int zc), some (.int x28_4), some (.int x28_5), none] [] 0 0 cnt (mst B S28 σ)) → ∀ (m19 : Nat) (S28 : FS) (x28_4 : Int32) (x28_5 : Int32), l_X12_plans_k3_19 zb k19 m19 S28  x28_4 x28_5 = some R → pm_wp mX12_plans G B 19 [some (.ref (B + 54)), some (.int 3), some (.int zb), some (.int zc), some (.int x28_4), some (.int x28_5), none] [] 0 0 cnt (mst B S28 σ) := by
      intro k19 hk19 m19
      induction m19 with
      | zero => intro S28  x28_4 x28_5 hE; exact fx_no hE
      | succ m19 ih19 =>
        intro S28  x28_4 x28_5 hE
        rw [l_X12_plans_k3_19] at hE
        refine pm_iloadi hG dX12_plans_19 rfl ?_
        refine pm_bipush (v := 6) hG dX12_plans_21 (by decide) ?_
        refine pm_icmp_ge (tgt := 66) hG dX12_plans_23 rfl (fun c29 => ?_) (fun c29 => ?_)
        · replace c29 := Int32.not_lt.mpr c29
          replace hE := fx_f c29 hE
          exact hk19 _ _ _ hE
        · replace c29 := Int32.not_le.mp c29
          replace hE := fx_t c29 hE
          refine pm_iloadi hG dX12_plans_26 rfl ?_
          refine pm_iloadn hG dX12_plans_28 rfl ?_
          refine pm_iloadi hG dX12_plans_29 rfl ?_
          refine pm_ishr hG dX12_plans_31 ?_
          refine pm_iconst (v := 1) hG dX12_plans_32 (by decide) ?_
          refine pm_iand hG dX12_plans_33 ?_
          refine pm_iconst (v := 1) hG dX12_plans_34 (by decide) ?_
          refine pm_icmp_ne (tgt := 56) hG dX12_plans_35 rfl (fun c30 => ?_) (fun c30 => ?_)
          · replace hE := fx_f c30 hE
            refine pm_iconst (v := 0) hG dX12_plans_56 (by decide) ?_
            refine pm_iadd hG dX12_plans_57 ?_
            refine fx_letv hE (fun x31 hE => ?_)
            refine pm_istoreXi (loc' := [some (.ref (B + 54)), some (.int 3), some (.int zb), some (.int zc), some (.int x31), some (.int x28_5), none]) hG dX12_plans_58 (by decide) (pm_c1b rfl) rfl ?_
            refine pm_iincX (v := x28_5 + 1) (loc' := [some (.ref (B + 54)), some (.int 3), some (.int zb), some (.int zc), some (.int x31), some (.int (x28_5 + 1)), none]) hG dX12_plans_60 rfl (by rfl) (by decide) (pm_c1b rfl) rfl ?_
            refine pm_goto (tgt := 19) hG dX12_plans_63 rfl ?_
            exact ih19 _ _ _ hE
          · replace hE := fx_t c30 hE
            refine pm_bipush (v := 8) hG dX12_plans_38 (by decide) ?_
            refine pm_aloadn hG dX12_plans_40 rfl ?_
            refine pm_getf hG dX12_plans_41 (flX12_7 _ rfl) rfl rfl ?_
            refine pm_bipush (v := 20) hG dX12_plans_44 (by decide) ?_
            refine pm_iconst (v := 3) hG dX12_plans_46 (by decide) ?_
            refine pm_iloadi hG dX12_plans_47 rfl ?_
            refine pm_imul hG dX12_plans_49 ?_
            refine pm_iadd hG dX12_plans_50 ?_
            obtain ⟨j32, hj32, hE⟩ := fb_some hE
            refine fx_iald hG dX12_plans_51 rfl hj32 ?_
            refine pm_imul hG dX12_plans_52 ?_
            refine pm_goto (tgt := 57) hG dX12_plans_53 rfl ?_
            refine pm_iadd hG dX12_plans_57 ?_
            refine fx_letv hE (fun x33 hE => ?_)
            refine pm_istoreXi (loc' := [some (.ref (B + 54)), some (.int 3), some (.int zb), some (.int zc), some (.int x33), some (.int x28_5), none]) hG dX12_plans_58 (by decide) (pm_c1b rfl) rfl ?_
            refine pm_iincX (v := x28_5 + 1) (loc' := [some (.ref (B + 54)), some (.int 3), some (.int zb), some (.int zc), some (.int x33), some (.int (x28_5 + 1)), none]) hG dX12_plans_60 rfl (by rfl) (by decide) (pm_c1b rfl) rfl ?_
            refine pm_goto (tgt := 19) hG dX12_plans_63 rfl ?_
            exact ih19 _ _ _ hE
    refine loop19 _ (fun S34 x34_4 x34_5 hE => ?_) _ _ _ _ hE
    have join83 : ∀ (S35 : FS), j_X12_plans_k3_83 x34_4 S35 = some R → pm_wp mX12_plans G B 83 [some (.ref (B + 54)), some (.int 3), some (.int zb), some (.int zc), some (.int x34_4), some (.int x34_5), none] [] 0 0 cnt (mst B S35 σ) := by
      intro S35 hE
      unfold j_X12_plans_k3_83 at hE
      refine pm_aloadn hG dX12_plans_83 rfl ?_
      refine pm_iconst (v := 1) hG dX12_plans_84 (by decide) ?_
      refine pm_putf hG dX12_plans_85 (fwX12_273 _ rfl) rfl (by decide) (by decide) ?_
      refine mi_20 ?_
      refine fx_letm hE (fun S36 hE => ?_)
      refine pm_aloadn hG dX12_plans_88 rfl ?_
      refine pm_iloadi hG dX12_plans_89 rfl ?_
      refine pm_putf hG dX12_plans_91 (fwX12_277 _ rfl) rfl rfl rfl ?_
      refine mi_19 ?_
      refine fx_letm hE (fun S37 hE => ?_)
      refine pm_iconst (v := 0) hG dX12_plans_94 (by decide) ?_
      refine pm_istoreXi (loc' := [some (.ref (B + 54)), some (.int 3), some (.int zb), some (.int zc), some (.int x34_4), some (.int 0), none]) hG dX12_plans_95 (by decide) (pm_c1b rfl) rfl ?_
      have loop97 : ∀ (k97 : FS → Int32 → Option (Int32 × FS)), (∀ (S38 : FS) (x38_5 : Int32), k97 S38  x38_5 = some R → pm_wp mX12_plans G B 123 [some (.ref (B + 54)), some (.int 3), some (.int zb), some (.int zc), some (.int x34_4), some (.int x38_5), none] [] 0 0 cnt (mst B S38 σ)) → ∀ (m97 : Nat) (S38 : FS) (x38_5 : Int32), l_X12_plans_k3_97 k97 m97 S38  x38_5 = some R → pm_wp mX12_plans G B 97 [some (.ref (B + 54)), some (.int 3), some (.int zb), some (.int zc), some (.int x34_4), some (.int x38_5), none] [] 0 0 cnt (mst B S38 σ) := by
        intro k97 hk97 m97
        induction m97 with
        | zero => intro S38  x38_5 hE; exact fx_no hE
        | succ m97 ih97 =>
          intro S38  x38_5 hE
          rw [l_X12_plans_k3_97] at hE
          refine pm_iloadi hG dX12_plans_97 rfl ?_
          refine pm_iloadn hG dX12_plans_99 rfl ?_
          refine pm_icmp_ge (tgt := 123) hG dX12_plans_100 rfl (fun c39 => ?_) (fun c39 => ?_)
          · replace c39 := Int32.not_lt.mpr c39
            replace hE := fx_f c39 hE
            exact hk97 _ _ hE
          · replace c39 := Int32.not_le.mp c39
            replace hE := fx_t c39 hE
            refine pm_aloadn hG dX12_plans_103 rfl ?_
            refine pm_getf hG dX12_plans_104 (flX12_49 _ rfl) rfl rfl ?_
            refine pm_iloadi hG dX12_plans_107 rfl ?_
            refine pm_aloadn hG dX12_plans_109 rfl ?_
            refine pm_getf hG dX12_plans_110 (flX12_46 _ rfl) rfl rfl ?_
            refine pm_iloadi hG dX12_plans_113 rfl ?_
            obtain ⟨j40, hj40, hE⟩ := fb_some hE
            refine fx_iald hG dX12_plans_115 rfl hj40 ?_
            refine fx_iast hG dX12_plans_116 rfl hj40 ?_
            refine ma_68 ?_
            refine fx_letm hE (fun S41 hE => ?_)
            refine pm_iincX (v := x38_5 + 1) (loc' := [some (.ref (B + 54)), some (.int 3), some (.int zb), some (.int zc), some (.int x34_4), some (.int (x38_5 + 1)), none]) hG dX12_plans_117 rfl (by rfl) (by decide) (pm_c1b rfl) rfl ?_
            refine pm_goto (tgt := 97) hG dX12_plans_120 rfl ?_
            exact ih97 _ _ hE
      refine loop97 _ (fun S42 x42_5 hE => ?_) _ _ _ hE
      exact pm_vret hG hF dX12_plans_123 rfl (Nat.le_refl _) (Nat.le_refl _) (fx_rvm hE)
    refine pm_aloadn hG dX12_plans_66 rfl ?_
    refine pm_getf hG dX12_plans_67 (flX12_273 _ rfl) rfl rfl ?_
    refine pm_if_eq (tgt := 83) hG dX12_plans_70 rfl (fun c43 => ?_) (fun c43 => ?_)
    · replace hE := fx_t c43 hE
      exact join83 _ hE
    · replace hE := fx_f c43 hE
      refine pm_iloadi hG dX12_plans_73 rfl ?_
      refine pm_aloadn hG dX12_plans_75 rfl ?_
      refine pm_getf hG dX12_plans_76 (flX12_277 _ rfl) rfl rfl ?_
      refine pm_icmp_gt (tgt := 83) hG dX12_plans_79 rfl (fun c44 => ?_) (fun c44 => ?_)
      · replace hE := fx_t c44 hE
        exact join83 _ hE
      · replace hE := fx_f c44 hE
        exact pm_vret hG hF dX12_plans_82 rfl (Nat.le_refl _) (Nat.le_refl _) (fx_rvm hE)

set_option maxRecDepth 100000 in
set_option maxHeartbeats 4000000 in
theorem c_X12_plans_k2 {d : Nat} {B cnt : Nat} {σ : pm_S} {S : FS} {zb : Int32} {zc : Int32} {R : Int32 × FS} (hdd : 7 ≤ d) (hE : f_X12_plans_k2 S zb zc = some R) : pm_met mX12_plans d 0 0 B [.ref (B + 54), .int 2, .int zb, .int zc] cnt (mst B S σ) (pm_Qv (fun σ' cnt' => σ' = (mst B R.2 σ) ∧ cnt' = cnt)) := by
  refine pm_enter 3 (by decide) (Nat.le_of_ble_eq_true rfl) rfl (fun G hG hR hF => ?_)
  unfold f_X12_plans_k2 at hE
  refine pm_iloadn hG dX12_plans_0 rfl ?_
  refine pm_aloadn hG dX12_plans_1 rfl ?_
  refine pm_getf hG dX12_plans_2 (flX12_58 _ rfl) rfl rfl ?_
  refine pm_aloadn hG dX12_plans_5 rfl ?_
  refine pm_getf hG dX12_plans_6 (flX12_270 _ rfl) rfl rfl ?_
  obtain ⟨j1, hj1, hE⟩ := fb_some hE
  refine fx_iald hG dX12_plans_9 rfl hj1 ?_
  refine pm_icmp_ne (tgt := 124) hG dX12_plans_10 rfl (fun c2 => ?_) (fun c2 => ?_)
  · replace hE := fx_f c2 hE
    refine pm_iloadn hG dX12_plans_124 rfl ?_
    refine pm_istoreXi (loc' := [some (.ref (B + 54)), some (.int 2), some (.int zb), some (.int zc), some (.int zc), none, none]) hG dX12_plans_125 (by decide) (pm_c1b rfl) rfl ?_
    refine pm_iconst (v := 0) hG dX12_plans_127 (by decide) ?_
    refine pm_istoreXi (loc' := [some (.ref (B + 54)), some (.int 2), some (.int zb), some (.int zc), some (.int zc), some (.int 0), none]) hG dX12_plans_128 (by decide) (pm_c1b rfl) rfl ?_
    have loop130 : ∀ (k130 : FS → Int32 → Int32 → Option (Int32 × FS)), (∀ (S3 : FS) (x3_4 : Int32) (x3_5 : Int32), k130 S3  x3_4 x3_5 = some R → pm_wp mX12_plans G B 174 [some (.ref (B + 54)), some (.int 2), some (.int zb), some (.int zc), some (.int x3_4), some (.int x3_5), none] [] 0 0 cnt (mst B S3 σ)) → ∀ (m130 : Nat) (S3 : FS) (x3_4 : Int32) (x3_5 : Int32), l_X12_plans_k2_130 zb k130 m130 S3  x3_4 x3_5 = some R → pm_wp mX12_plans G B 130 [some (.ref (B + 54)), some (.int 2), some (.int zb), some (.int zc), some (.int x3_4), some (.int x3_5), none] [] 0 0 cnt (mst B S3 σ) := by
      intro k130 hk130 m130
      induction m130 with
      | zero => intro S3  x3_4 x3_5 hE; exact fx_no hE
      | succ m130 ih130 =>
        intro S3  x3_4 x3_5 hE
        rw [l_X12_plans_k2_130] at hE
        refine pm_iloadi hG dX12_plans_130 rfl ?_
        refine pm_bipush (v := 6) hG dX12_plans_132 (by decide) ?_
        refine pm_icmp_ge (tgt := 174) hG dX12_plans_134 rfl (fun c4 => ?_) (fun c4 => ?_)
        · replace c4 := Int32.not_lt.mpr c4
          replace hE := fx_f c4 hE
          exact hk130 _ _ _ hE
        · replace c4 := Int32.not_le.mp c4
          replace hE := fx_t c4 hE
          refine pm_iloadi hG dX12_plans_137 rfl ?_
          refine pm_iloadn hG dX12_plans_139 rfl ?_
          refine pm_iloadi hG dX12_plans_140 rfl ?_
          refine pm_ishr hG dX12_plans_142 ?_
          refine pm_iconst (v := 1) hG dX12_plans_143 (by decide) ?_
          refine pm_iand hG dX12_plans_144 ?_
          refine pm_iconst (v := 1) hG dX12_plans_145 (by decide) ?_
          refine pm_icmp_ne (tgt := 164) hG dX12_plans_146 rfl (fun c5 => ?_) (fun c5 => ?_)
          · replace hE := fx_f c5 hE
            refine pm_iconst (v := 0) hG dX12_plans_164 (by decide) ?_
            refine pm_iadd hG dX12_plans_165 ?_
            refine fx_letv hE (fun x6 hE => ?_)
            refine pm_istoreXi (loc' := [some (.ref (B + 54)), some (.int 2), some (.int zb), some (.int zc), some (.int x6), some (.int x3_5), none]) hG dX12_plans_166 (by decide) (pm_c1b rfl) rfl ?_
            refine pm_iincX (v := x3_5 + 1) (loc' := [some (.ref (B + 54)), some (.int 2), some (.int zb), some (.int zc), some (.int x6), some (.int (x3_5 + 1)), none]) hG dX12_plans_168 rfl (by rfl) (by decide) (pm_c1b rfl) rfl ?_
            refine pm_goto (tgt := 130) hG dX12_plans_171 rfl ?_
            exact ih130 _ _ _ hE
          · replace hE := fx_t c5 hE
            refine pm_aloadn hG dX12_plans_149 rfl ?_
            refine pm_getf hG dX12_plans_150 (flX12_7 _ rfl) rfl rfl ?_
            refine pm_bipush (v := 20) hG dX12_plans_153 (by decide) ?_
            refine pm_iconst (v := 3) hG dX12_plans_155 (by decide) ?_
            refine pm_iloadi hG dX12_plans_156 rfl ?_
            refine pm_imul hG dX12_plans_158 ?_
            refine pm_iadd hG dX12_plans_159 ?_
            obtain ⟨j7, hj7, hE⟩ := fb_some hE
            refine fx_iald hG dX12_plans_160 rfl hj7 ?_
            refine pm_goto (tgt := 165) hG dX12_plans_161 rfl ?_
            refine pm_iadd hG dX12_plans_165 ?_
            refine fx_letv hE (fun x8 hE => ?_)
            refine pm_istoreXi (loc' := [some (.ref (B + 54)), some (.int 2), some (.int zb), some (.int zc), some (.int x8), some (.int x3_5), none]) hG dX12_plans_166 (by decide) (pm_c1b rfl) rfl ?_
            refine pm_iincX (v := x3_5 + 1) (loc' := [some (.ref (B + 54)), some (.int 2), some (.int zb), some (.int zc), some (.int x8), some (.int (x3_5 + 1)), none]) hG dX12_plans_168 rfl (by rfl) (by decide) (pm_c1b rfl) rfl ?_
            refine pm_goto (tgt := 130) hG dX12_plans_171 rfl ?_
            exact ih130 _ _ _ hE
    refine loop130 _ (fun S9 x9_4 x9_5 hE => ?_) _ _ _ _ hE
    refine pm_iconst (v := (-1)) hG dX12_plans_174 (by decide) ?_
    refine pm_istoreXi (loc' := [some (.ref (B + 54)), some (.int 2), some (.int zb), some (.int zc), some (.int x9_4), some (.int (-1)), none]) hG dX12_plans_175 (by decide) (pm_c1b rfl) rfl ?_
    have loop177 : ∀ (k177 : FS → Int32 → Option (Int32 × FS)), (∀ (S10 : FS) (x10_5 : Int32), k177 S10  x10_5 = some R → pm_wp mX12_plans G B 292 [some (.ref (B + 54)), some (.int 2), some (.int zb), some (.int zc), some (.int x9_4), some (.int x10_5), none] [] 0 0 cnt (mst B S10 σ)) → ∀ (m177 : Nat) (S10 : FS) (x10_5 : Int32), l_X12_plans_k2_177 zb x9_4 k177 m177 S10  x10_5 = some R → pm_wp mX12_plans G B 177 [some (.ref (B + 54)), some (.int 2), some (.int zb), some (.int zc), some (.int x9_4), some (.int x10_5), none] [] 0 0 cnt (mst B S10 σ) := by
      intro k177 hk177 m177
      induction m177 with
      | zero => intro S10  x10_5 hE; exact fx_no hE
      | succ m177 ih177 =>
        intro S10  x10_5 hE
        rw [l_X12_plans_k2_177] at hE
        refine pm_iloadi hG dX12_plans_177 rfl ?_
        refine pm_bipush (v := 6) hG dX12_plans_179 (by decide) ?_
        refine pm_icmp_ge (tgt := 292) hG dX12_plans_181 rfl (fun c11 => ?_) (fun c11 => ?_)
        · replace c11 := Int32.not_lt.mpr c11
          replace hE := fx_f c11 hE
          exact hk177 _ _ hE
        · replace c11 := Int32.not_le.mp c11
          replace hE := fx_t c11 hE
          refine pm_iloadi hG dX12_plans_184 rfl ?_
          refine pm_if_lt (tgt := 201) hG dX12_plans_186 rfl (fun c12 => ?_) (fun c12 => ?_)
          · replace hE := fx_t c12 hE
            refine pm_iloadi hG dX12_plans_201 rfl ?_
            refine pm_aloadn hG dX12_plans_203 rfl ?_
            refine pm_getf hG dX12_plans_204 (flX12_61 _ rfl) rfl rfl ?_
            refine pm_bipush (v := 24) hG dX12_plans_207 (by decide) ?_
            refine pm_aloadn hG dX12_plans_209 rfl ?_
            refine pm_getf hG dX12_plans_210 (flX12_270 _ rfl) rfl rfl ?_
            refine pm_imul hG dX12_plans_213 ?_
            refine pm_iloadn hG dX12_plans_214 rfl ?_
            refine pm_iadd hG dX12_plans_215 ?_
            obtain ⟨j13, hj13, hE⟩ := fb_some hE
            refine fx_iald hG dX12_plans_216 rfl hj13 ?_
            refine pm_isub hG dX12_plans_217 ?_
            refine pm_iloadi hG dX12_plans_218 rfl ?_
            refine pm_if_ge (tgt := 227) hG dX12_plans_220 rfl (fun q => absurd c12 (Int32.not_lt.mpr q)) (fun _ => ?_)
            refine pm_iconst (v := 0) hG dX12_plans_223 (by decide) ?_
            refine pm_goto (tgt := 241) hG dX12_plans_224 rfl ?_
            refine pm_iadd hG dX12_plans_241 ?_
            refine fx_letv hE (fun x14 hE => ?_)
            refine pm_istoreXi (loc' := [some (.ref (B + 54)), some (.int 2), some (.int zb), some (.int zc), some (.int x9_4), some (.int x10_5), some (.int x14)]) hG dX12_plans_242 (by decide) (pm_c1b rfl) rfl ?_
            refine pm_iloadi hG dX12_plans_244 rfl ?_
            refine pm_if_ge (tgt := 252) hG dX12_plans_246 rfl (fun c15 => ?_) (fun c15 => ?_)
            · replace c15 := Int32.not_lt.mpr c15
              replace hE := fx_f c15 hE
              refine pm_aloadn hG dX12_plans_252 rfl ?_
              refine pm_getf hG dX12_plans_253 (flX12_46 _ rfl) rfl rfl ?_
              refine pm_iloadn hG dX12_plans_256 rfl ?_
              refine pm_iloadi hG dX12_plans_257 rfl ?_
              refine fx_iast hG dX12_plans_259 rfl (ix_lit (by decide) rfl) ?_
              refine ma_67 ?_
              refine fx_letm hE (fun S16 hE => ?_)
              refine pm_aloadn hG dX12_plans_260 rfl ?_
              refine pm_iloadn hG dX12_plans_261 rfl ?_
              refine pm_iconst (v := 1) hG dX12_plans_262 (by decide) ?_
              refine pm_iadd hG dX12_plans_263 ?_
              refine pm_top (v := 3) (by decide) ?_
              refine pm_iloadi hG dX12_plans_264 rfl ?_
              refine pm_if_ge (tgt := 273) hG dX12_plans_266 rfl (fun q => absurd c12 (Int32.not_lt.mpr q)) (fun _ => ?_)
              refine pm_iloadn hG dX12_plans_269 rfl ?_
              refine pm_goto (tgt := 281) hG dX12_plans_270 rfl ?_
              refine pm_iloadi hG dX12_plans_281 rfl ?_
              obtain ⟨r18, h17, hE⟩ := fb_some hE
              refine pm_callV (As := [.int 3, .int zb, .int x14]) (rest := []) hG hR dX12_plans_283 (lkX12_280 _ rfl) okV_X12_plans rfl rfl (c_X12_plans_k3 (d := 6) (by decide) h17) rfl rfl hdd (Nat.le_refl _) (Nat.le_refl _) (by decide) (fx_kv ?_)
              refine pm_iincX (v := x10_5 + 1) (loc' := [some (.ref (B + 54)), some (.int 2), some (.int zb), some (.int zc), some (.int x9_4), some (.int (x10_5 + 1)), some (.int x14)]) hG dX12_plans_286 rfl (by rfl) (by decide) (pm_c1b rfl) rfl ?_
              refine pm_goto (tgt := 177) hG dX12_plans_289 rfl ?_
              refine pm_fg 6 (loc' := [some (.ref (B + 54)), some (.int 2), some (.int zb), some (.int zc), some (.int x9_4), some (.int (x10_5 + 1)), none]) rfl ?_
              exact ih177 _ _ hE
            · replace c15 := Int32.not_le.mp c15
              replace hE := fx_t c15 hE
              refine pm_goto (tgt := 286) hG dX12_plans_249 rfl ?_
              refine pm_iincX (v := x10_5 + 1) (loc' := [some (.ref (B + 54)), some (.int 2), some (.int zb), some (.int zc), some (.int x9_4), some (.int (x10_5 + 1)), some (.int x14)]) hG dX12_plans_286 rfl (by rfl) (by decide) (pm_c1b rfl) rfl ?_
              refine pm_goto (tgt := 177) hG dX12_plans_289 rfl ?_
              refine pm_fg 6 (loc' := [some (.ref (B + 54)), some (.int 2), some (.int zb), some (.int zc), some (.int x9_4), some (.int (x10_5 + 1)), none]) rfl ?_
              exact ih177 _ _ hE
          · replace hE := fx_f c12 hE
            refine pm_iloadn hG dX12_plans_189 rfl ?_
            refine pm_iloadi hG dX12_plans_190 rfl ?_
            refine pm_ishr hG dX12_plans_192 ?_
            refine pm_iconst (v := 1) hG dX12_plans_193 (by decide) ?_
            refine pm_iand hG dX12_plans_194 ?_
            refine pm_if_ne (tgt := 201) hG dX12_plans_195 rfl (fun c19 => ?_) (fun c19 => ?_)
            · replace hE := fx_f c19 hE
              refine pm_iloadi hG dX12_plans_201 rfl ?_
              refine pm_aloadn hG dX12_plans_203 rfl ?_
              refine pm_getf hG dX12_plans_204 (flX12_61 _ rfl) rfl rfl ?_
              refine pm_bipush (v := 24) hG dX12_plans_207 (by decide) ?_
              refine pm_aloadn hG dX12_plans_209 rfl ?_
              refine pm_getf hG dX12_plans_210 (flX12_270 _ rfl) rfl rfl ?_
              refine pm_imul hG dX12_plans_213 ?_
              refine pm_iloadn hG dX12_plans_214 rfl ?_
              refine pm_iadd hG dX12_plans_215 ?_
              obtain ⟨j20, hj20, hE⟩ := fb_some hE
              refine fx_iald hG dX12_plans_216 rfl hj20 ?_
              refine pm_isub hG dX12_plans_217 ?_
              refine pm_iloadi hG dX12_plans_218 rfl ?_
              refine pm_if_ge (tgt := 227) hG dX12_plans_220 rfl (fun _ => ?_) (fun q => absurd (Int32.not_le.mp q) c12)
              refine pm_iconst (v := 4) hG dX12_plans_227 (by decide) ?_
              refine pm_aloadn hG dX12_plans_228 rfl ?_
              refine pm_getf hG dX12_plans_229 (flX12_7 _ rfl) rfl rfl ?_
              refine pm_bipush (v := 20) hG dX12_plans_232 (by decide) ?_
              refine pm_iconst (v := 3) hG dX12_plans_234 (by decide) ?_
              refine pm_iloadi hG dX12_plans_235 rfl ?_
              refine pm_imul hG dX12_plans_237 ?_
              refine pm_iadd hG dX12_plans_238 ?_
              obtain ⟨j21, hj21, hE⟩ := fb_some hE
              refine fx_iald hG dX12_plans_239 rfl hj21 ?_
              refine pm_imul hG dX12_plans_240 ?_
              refine pm_iadd hG dX12_plans_241 ?_
              refine fx_letv hE (fun x22 hE => ?_)
              refine pm_istoreXi (loc' := [some (.ref (B + 54)), some (.int 2), some (.int zb), some (.int zc), some (.int x9_4), some (.int x10_5), some (.int x22)]) hG dX12_plans_242 (by decide) (pm_c1b rfl) rfl ?_
              refine pm_iloadi hG dX12_plans_244 rfl ?_
              refine pm_if_ge (tgt := 252) hG dX12_plans_246 rfl (fun c23 => ?_) (fun c23 => ?_)
              · replace c23 := Int32.not_lt.mpr c23
                replace hE := fx_f c23 hE
                refine pm_aloadn hG dX12_plans_252 rfl ?_
                refine pm_getf hG dX12_plans_253 (flX12_46 _ rfl) rfl rfl ?_
                refine pm_iloadn hG dX12_plans_256 rfl ?_
                refine pm_iloadi hG dX12_plans_257 rfl ?_
                refine fx_iast hG dX12_plans_259 rfl (ix_lit (by decide) rfl) ?_
                refine ma_67 ?_
                refine fx_letm hE (fun S24 hE => ?_)
                refine pm_aloadn hG dX12_plans_260 rfl ?_
                refine pm_iloadn hG dX12_plans_261 rfl ?_
                refine pm_iconst (v := 1) hG dX12_plans_262 (by decide) ?_
                refine pm_iadd hG dX12_plans_263 ?_
                refine pm_top (v := 3) (by decide) ?_
                refine pm_iloadi hG dX12_plans_264 rfl ?_
                refine pm_if_ge (tgt := 273) hG dX12_plans_266 rfl (fun _ => ?_) (fun q => absurd (Int32.not_le.mp q) c12)
                refine pm_iloadn hG dX12_plans_273 rfl ?_
                refine pm_iconst (v := 1) hG dX12_plans_274 (by decide) ?_
                refine pm_iloadi hG dX12_plans_275 rfl ?_
                refine pm_ishl hG dX12_plans_277 ?_
                refine pm_iconst (v := (-1)) hG dX12_plans_278 (by decide) ?_
                refine pm_ixor hG dX12_plans_279 ?_
                refine pm_iand hG dX12_plans_280 ?_
                refine pm_iloadi hG dX12_plans_281 rfl ?_
                obtain ⟨r26, h25, hE⟩ := fb_some hE
                refine pm_callV (As := [.int 3, .int (zb &&& (((1 : Int32) <<< (x10_5 &&& 31)) ^^^ (-1))), .int x22]) (rest := []) hG hR dX12_plans_283 (lkX12_280 _ rfl) okV_X12_plans rfl rfl (c_X12_plans_k3 (d := 6) (by decide) h25) rfl rfl hdd (Nat.le_refl _) (Nat.le_refl _) (by decide) (fx_kv ?_)
                refine pm_iincX (v := x10_5 + 1) (loc' := [some (.ref (B + 54)), some (.int 2), some (.int zb), some (.int zc), some (.int x9_4), some (.int (x10_5 + 1)), some (.int x22)]) hG dX12_plans_286 rfl (by rfl) (by decide) (pm_c1b rfl) rfl ?_
                refine pm_goto (tgt := 177) hG dX12_plans_289 rfl ?_
                refine pm_fg 6 (loc' := [some (.ref (B + 54)), some (.int 2), some (.int zb), some (.int zc), some (.int x9_4), some (.int (x10_5 + 1)), none]) rfl ?_
                exact ih177 _ _ hE
              · replace c23 := Int32.not_le.mp c23
                replace hE := fx_t c23 hE
                refine pm_goto (tgt := 286) hG dX12_plans_249 rfl ?_
                refine pm_iincX (v := x10_5 + 1) (loc' := [some (.ref (B + 54)), some (.int 2), some (.int zb), some (.int zc), some (.int x9_4), some (.int (x10_5 + 1)), some (.int x22)]) hG dX12_plans_286 rfl (by rfl) (by decide) (pm_c1b rfl) rfl ?_
                refine pm_goto (tgt := 177) hG dX12_plans_289 rfl ?_
                refine pm_fg 6 (loc' := [some (.ref (B + 54)), some (.int 2), some (.int zb), some (.int zc), some (.int x9_4), some (.int (x10_5 + 1)), none]) rfl ?_
                exact ih177 _ _ hE
            · replace hE := fx_t c19 hE
              refine pm_goto (tgt := 286) hG dX12_plans_198 rfl ?_
              refine pm_iincX (v := x10_5 + 1) (loc' := [some (.ref (B + 54)), some (.int 2), some (.int zb), some (.int zc), some (.int x9_4), some (.int (x10_5 + 1)), none]) hG dX12_plans_286 rfl (by rfl) (by decide) (pm_c1b rfl) rfl ?_
              refine pm_goto (tgt := 177) hG dX12_plans_289 rfl ?_
              exact ih177 _ _ hE
    refine loop177 _ (fun S27 x27_5 hE => ?_) _ _ _ hE
    exact pm_vret hG hF dX12_plans_292 rfl (Nat.le_refl _) (Nat.le_refl _) (fx_rvm hE)
  · replace hE := fx_t c2 hE
    refine pm_iloadn hG dX12_plans_13 rfl ?_
    refine pm_istoreXi (loc' := [some (.ref (B + 54)), some (.int 2), some (.int zb), some (.int zc), some (.int zc), none, none]) hG dX12_plans_14 (by decide) (pm_c1b rfl) rfl ?_
    refine pm_iconst (v := 0) hG dX12_plans_16 (by decide) ?_
    refine pm_istoreXi (loc' := [some (.ref (B + 54)), some (.int 2), some (.int zb), some (.int zc), some (.int zc), some (.int 0), none]) hG dX12_plans_17 (by decide) (pm_c1b rfl) rfl ?_
    have loop19 : ∀ (k19 : FS → Int32 → Int32 → Option (Int32 × FS)), (∀ (S28 : FS) (x28_4 : Int32) (x28_5 : Int32), k19 S28  x28_4 x28_5 = some R → pm_wp mX12_plans G B 66 [some (.ref (B + 54)), some (.int 2), some (.int zb), some (.int zc), some (.int x28_4), some (.int x28_5), none] [] 0 0 cnt (mst B S28 σ)) → ∀ (m19 : Nat) (S28 : FS) (x28_4 : Int32) (x28_5 : Int32), l_X12_plans_k2_19 zb k19 m19 S28  x28_4 x28_5 = some R → pm_wp mX12_plans G B 19 [some (.ref (B + 54)), some (.int 2), some (.int zb), some (.int zc), some (.int x28_4), some (.int x28_5), none] [] 0 0 cnt (mst B S28 σ) := by
      intro k19 hk19 m19
      induction m19 with
      | zero => intro S28  x28_4 x28_5 hE; exact fx_no hE
      | succ m19 ih19 =>
        intro S28  x28_4 x28_5 hE
        rw [l_X12_plans_k2_19] at hE
        refine pm_iloadi hG dX12_plans_19 rfl ?_
        refine pm_bipush (v := 6) hG dX12_plans_21 (by decide) ?_
        refine pm_icmp_ge (tgt := 66) hG dX12_plans_23 rfl (fun c29 => ?_) (fun c29 => ?_)
        · replace c29 := Int32.not_lt.mpr c29
          replace hE := fx_f c29 hE
          exact hk19 _ _ _ hE
        · replace c29 := Int32.not_le.mp c29
          replace hE := fx_t c29 hE
          refine pm_iloadi hG dX12_plans_26 rfl ?_
          refine pm_iloadn hG dX12_plans_28 rfl ?_
          refine pm_iloadi hG dX12_plans_29 rfl ?_
          refine pm_ishr hG dX12_plans_31 ?_
          refine pm_iconst (v := 1) hG dX12_plans_32 (by decide) ?_
          refine pm_iand hG dX12_plans_33 ?_
          refine pm_iconst (v := 1) hG dX12_plans_34 (by decide) ?_
          refine pm_icmp_ne (tgt := 56) hG dX12_plans_35 rfl (fun c30 => ?_) (fun c30 => ?_)
          · replace hE := fx_f c30 hE
            refine pm_iconst (v := 0) hG dX12_plans_56 (by decide) ?_
            refine pm_iadd hG dX12_plans_57 ?_
            refine fx_letv hE (fun x31 hE => ?_)
            refine pm_istoreXi (loc' := [some (.ref (B + 54)), some (.int 2), some (.int zb), some (.int zc), some (.int x31), some (.int x28_5), none]) hG dX12_plans_58 (by decide) (pm_c1b rfl) rfl ?_
            refine pm_iincX (v := x28_5 + 1) (loc' := [some (.ref (B + 54)), some (.int 2), some (.int zb), some (.int zc), some (.int x31), some (.int (x28_5 + 1)), none]) hG dX12_plans_60 rfl (by rfl) (by decide) (pm_c1b rfl) rfl ?_
            refine pm_goto (tgt := 19) hG dX12_plans_63 rfl ?_
            exact ih19 _ _ _ hE
          · replace hE := fx_t c30 hE
            refine pm_bipush (v := 8) hG dX12_plans_38 (by decide) ?_
            refine pm_aloadn hG dX12_plans_40 rfl ?_
            refine pm_getf hG dX12_plans_41 (flX12_7 _ rfl) rfl rfl ?_
            refine pm_bipush (v := 20) hG dX12_plans_44 (by decide) ?_
            refine pm_iconst (v := 3) hG dX12_plans_46 (by decide) ?_
            refine pm_iloadi hG dX12_plans_47 rfl ?_
            refine pm_imul hG dX12_plans_49 ?_
            refine pm_iadd hG dX12_plans_50 ?_
            obtain ⟨j32, hj32, hE⟩ := fb_some hE
            refine fx_iald hG dX12_plans_51 rfl hj32 ?_
            refine pm_imul hG dX12_plans_52 ?_
            refine pm_goto (tgt := 57) hG dX12_plans_53 rfl ?_
            refine pm_iadd hG dX12_plans_57 ?_
            refine fx_letv hE (fun x33 hE => ?_)
            refine pm_istoreXi (loc' := [some (.ref (B + 54)), some (.int 2), some (.int zb), some (.int zc), some (.int x33), some (.int x28_5), none]) hG dX12_plans_58 (by decide) (pm_c1b rfl) rfl ?_
            refine pm_iincX (v := x28_5 + 1) (loc' := [some (.ref (B + 54)), some (.int 2), some (.int zb), some (.int zc), some (.int x33), some (.int (x28_5 + 1)), none]) hG dX12_plans_60 rfl (by rfl) (by decide) (pm_c1b rfl) rfl ?_
            refine pm_goto (tgt := 19) hG dX12_plans_63 rfl ?_
            exact ih19 _ _ _ hE
    refine loop19 _ (fun S34 x34_4 x34_5 hE => ?_) _ _ _ _ hE
    have join83 : ∀ (S35 : FS), j_X12_plans_k2_83 x34_4 S35 = some R → pm_wp mX12_plans G B 83 [some (.ref (B + 54)), some (.int 2), some (.int zb), some (.int zc), some (.int x34_4), some (.int x34_5), none] [] 0 0 cnt (mst B S35 σ) := by
      intro S35 hE
      unfold j_X12_plans_k2_83 at hE
      refine pm_aloadn hG dX12_plans_83 rfl ?_
      refine pm_iconst (v := 1) hG dX12_plans_84 (by decide) ?_
      refine pm_putf hG dX12_plans_85 (fwX12_273 _ rfl) rfl (by decide) (by decide) ?_
      refine mi_20 ?_
      refine fx_letm hE (fun S36 hE => ?_)
      refine pm_aloadn hG dX12_plans_88 rfl ?_
      refine pm_iloadi hG dX12_plans_89 rfl ?_
      refine pm_putf hG dX12_plans_91 (fwX12_277 _ rfl) rfl rfl rfl ?_
      refine mi_19 ?_
      refine fx_letm hE (fun S37 hE => ?_)
      refine pm_iconst (v := 0) hG dX12_plans_94 (by decide) ?_
      refine pm_istoreXi (loc' := [some (.ref (B + 54)), some (.int 2), some (.int zb), some (.int zc), some (.int x34_4), some (.int 0), none]) hG dX12_plans_95 (by decide) (pm_c1b rfl) rfl ?_
      have loop97 : ∀ (k97 : FS → Int32 → Option (Int32 × FS)), (∀ (S38 : FS) (x38_5 : Int32), k97 S38  x38_5 = some R → pm_wp mX12_plans G B 123 [some (.ref (B + 54)), some (.int 2), some (.int zb), some (.int zc), some (.int x34_4), some (.int x38_5), none] [] 0 0 cnt (mst B S38 σ)) → ∀ (m97 : Nat) (S38 : FS) (x38_5 : Int32), l_X12_plans_k2_97 k97 m97 S38  x38_5 = some R → pm_wp mX12_plans G B 97 [some (.ref (B + 54)), some (.int 2), some (.int zb), some (.int zc), some (.int x34_4), some (.int x38_5), none] [] 0 0 cnt (mst B S38 σ) := by
        intro k97 hk97 m97
        induction m97 with
        | zero => intro S38  x38_5 hE; exact fx_no hE
        | succ m97 ih97 =>
          intro S38  x38_5 hE
          rw [l_X12_plans_k2_97] at hE
          refine pm_iloadi hG dX12_plans_97 rfl ?_
          refine pm_iloadn hG dX12_plans_99 rfl ?_
          refine pm_icmp_ge (tgt := 123) hG dX12_plans_100 rfl (fun c39 => ?_) (fun c39 => ?_)
          · replace c39 := Int32.not_lt.mpr c39
            replace hE := fx_f c39 hE
            exact hk97 _ _ hE
          · replace c39 := Int32.not_le.mp c39
            replace hE := fx_t c39 hE
            refine pm_aloadn hG dX12_plans_103 rfl ?_
            refine pm_getf hG dX12_plans_104 (flX12_49 _ rfl) rfl rfl ?_
            refine pm_iloadi hG dX12_plans_107 rfl ?_
            refine pm_aloadn hG dX12_plans_109 rfl ?_
            refine pm_getf hG dX12_plans_110 (flX12_46 _ rfl) rfl rfl ?_
            refine pm_iloadi hG dX12_plans_113 rfl ?_
            obtain ⟨j40, hj40, hE⟩ := fb_some hE
            refine fx_iald hG dX12_plans_115 rfl hj40 ?_
            refine fx_iast hG dX12_plans_116 rfl hj40 ?_
            refine ma_68 ?_
            refine fx_letm hE (fun S41 hE => ?_)
            refine pm_iincX (v := x38_5 + 1) (loc' := [some (.ref (B + 54)), some (.int 2), some (.int zb), some (.int zc), some (.int x34_4), some (.int (x38_5 + 1)), none]) hG dX12_plans_117 rfl (by rfl) (by decide) (pm_c1b rfl) rfl ?_
            refine pm_goto (tgt := 97) hG dX12_plans_120 rfl ?_
            exact ih97 _ _ hE
      refine loop97 _ (fun S42 x42_5 hE => ?_) _ _ _ hE
      exact pm_vret hG hF dX12_plans_123 rfl (Nat.le_refl _) (Nat.le_refl _) (fx_rvm hE)
    refine pm_aloadn hG dX12_plans_66 rfl ?_
    refine pm_getf hG dX12_plans_67 (flX12_273 _ rfl) rfl rfl ?_
    refine pm_if_eq (tgt := 83) hG dX12_plans_70 rfl (fun c43 => ?_) (fun c43 => ?_)
    · replace hE := fx_t c43 hE
      exact join83 _ hE
    · replace hE := fx_f c43 hE
      refine pm_iloadi hG dX12_plans_73 rfl ?_
      refine pm_aloadn hG dX12_plans_75 rfl ?_
      refine pm_getf hG dX12_plans_76 (flX12_277 _ rfl) rfl rfl ?_
      refine pm_icmp_gt (tgt := 83) hG dX12_plans_79 rfl (fun c44 => ?_) (fun c44 => ?_)
      · replace hE := fx_t c44 hE
        exact join83 _ hE
      · replace hE := fx_f c44 hE
        exact pm_vret hG hF dX12_plans_82 rfl (Nat.le_refl _) (Nat.le_refl _) (fx_rvm hE)

set_option maxRecDepth 100000 in
set_option maxHeartbeats 4000000 in
theorem c_X12_plans_k1 {d : Nat} {B cnt : Nat} {σ : pm_S} {S : FS} {zb : Int32} {zc : Int32} {R : Int32 × FS} (hdd : 8 ≤ d) (hE : f_X12_plans_k1 S zb zc = some R) : pm_met mX12_plans d 0 0 B [.ref (B + 54), .int 1, .int zb, .int zc] cnt (mst B S σ) (pm_Qv (fun σ' cnt' => σ' = (mst B R.2 σ) ∧ cnt' = cnt)) := by
  refine pm_enter 3 (by decide) (Nat.le_of_ble_eq_true rfl) rfl (fun G hG hR hF => ?_)
  unfold f_X12_plans_k1 at hE
  refine pm_iloadn hG dX12_plans_0 rfl ?_
  refine pm_aloadn hG dX12_plans_1 rfl ?_
  refine pm_getf hG dX12_plans_2 (flX12_58 _ rfl) rfl rfl ?_
  refine pm_aloadn hG dX12_plans_5 rfl ?_
  refine pm_getf hG dX12_plans_6 (flX12_270 _ rfl) rfl rfl ?_
  obtain ⟨j1, hj1, hE⟩ := fb_some hE
  refine fx_iald hG dX12_plans_9 rfl hj1 ?_
  refine pm_icmp_ne (tgt := 124) hG dX12_plans_10 rfl (fun c2 => ?_) (fun c2 => ?_)
  · replace hE := fx_f c2 hE
    refine pm_iloadn hG dX12_plans_124 rfl ?_
    refine pm_istoreXi (loc' := [some (.ref (B + 54)), some (.int 1), some (.int zb), some (.int zc), some (.int zc), none, none]) hG dX12_plans_125 (by decide) (pm_c1b rfl) rfl ?_
    refine pm_iconst (v := 0) hG dX12_plans_127 (by decide) ?_
    refine pm_istoreXi (loc' := [some (.ref (B + 54)), some (.int 1), some (.int zb), some (.int zc), some (.int zc), some (.int 0), none]) hG dX12_plans_128 (by decide) (pm_c1b rfl) rfl ?_
    have loop130 : ∀ (k130 : FS → Int32 → Int32 → Option (Int32 × FS)), (∀ (S3 : FS) (x3_4 : Int32) (x3_5 : Int32), k130 S3  x3_4 x3_5 = some R → pm_wp mX12_plans G B 174 [some (.ref (B + 54)), some (.int 1), some (.int zb), some (.int zc), some (.int x3_4), some (.int x3_5), none] [] 0 0 cnt (mst B S3 σ)) → ∀ (m130 : Nat) (S3 : FS) (x3_4 : Int32) (x3_5 : Int32), l_X12_plans_k1_130 zb k130 m130 S3  x3_4 x3_5 = some R → pm_wp mX12_plans G B 130 [some (.ref (B + 54)), some (.int 1), some (.int zb), some (.int zc), some (.int x3_4), some (.int x3_5), none] [] 0 0 cnt (mst B S3 σ) := by
      intro k130 hk130 m130
      induction m130 with
      | zero => intro S3  x3_4 x3_5 hE; exact fx_no hE
      | succ m130 ih130 =>
        intro S3  x3_4 x3_5 hE
        rw [l_X12_plans_k1_130] at hE
        refine pm_iloadi hG dX12_plans_130 rfl ?_
        refine pm_bipush (v := 6) hG dX12_plans_132 (by decide) ?_
        refine pm_icmp_ge (tgt := 174) hG dX12_plans_134 rfl (fun c4 => ?_) (fun c4 => ?_)
        · replace c4 := Int32.not_lt.mpr c4
          replace hE := fx_f c4 hE
          exact hk130 _ _ _ hE
        · replace c4 := Int32.not_le.mp c4
          replace hE := fx_t c4 hE
          refine pm_iloadi hG dX12_plans_137 rfl ?_
          refine pm_iloadn hG dX12_plans_139 rfl ?_
          refine pm_iloadi hG dX12_plans_140 rfl ?_
          refine pm_ishr hG dX12_plans_142 ?_
          refine pm_iconst (v := 1) hG dX12_plans_143 (by decide) ?_
          refine pm_iand hG dX12_plans_144 ?_
          refine pm_iconst (v := 1) hG dX12_plans_145 (by decide) ?_
          refine pm_icmp_ne (tgt := 164) hG dX12_plans_146 rfl (fun c5 => ?_) (fun c5 => ?_)
          · replace hE := fx_f c5 hE
            refine pm_iconst (v := 0) hG dX12_plans_164 (by decide) ?_
            refine pm_iadd hG dX12_plans_165 ?_
            refine fx_letv hE (fun x6 hE => ?_)
            refine pm_istoreXi (loc' := [some (.ref (B + 54)), some (.int 1), some (.int zb), some (.int zc), some (.int x6), some (.int x3_5), none]) hG dX12_plans_166 (by decide) (pm_c1b rfl) rfl ?_
            refine pm_iincX (v := x3_5 + 1) (loc' := [some (.ref (B + 54)), some (.int 1), some (.int zb), some (.int zc), some (.int x6), some (.int (x3_5 + 1)), none]) hG dX12_plans_168 rfl (by rfl) (by decide) (pm_c1b rfl) rfl ?_
            refine pm_goto (tgt := 130) hG dX12_plans_171 rfl ?_
            exact ih130 _ _ _ hE
          · replace hE := fx_t c5 hE
            refine pm_aloadn hG dX12_plans_149 rfl ?_
            refine pm_getf hG dX12_plans_150 (flX12_7 _ rfl) rfl rfl ?_
            refine pm_bipush (v := 20) hG dX12_plans_153 (by decide) ?_
            refine pm_iconst (v := 3) hG dX12_plans_155 (by decide) ?_
            refine pm_iloadi hG dX12_plans_156 rfl ?_
            refine pm_imul hG dX12_plans_158 ?_
            refine pm_iadd hG dX12_plans_159 ?_
            obtain ⟨j7, hj7, hE⟩ := fb_some hE
            refine fx_iald hG dX12_plans_160 rfl hj7 ?_
            refine pm_goto (tgt := 165) hG dX12_plans_161 rfl ?_
            refine pm_iadd hG dX12_plans_165 ?_
            refine fx_letv hE (fun x8 hE => ?_)
            refine pm_istoreXi (loc' := [some (.ref (B + 54)), some (.int 1), some (.int zb), some (.int zc), some (.int x8), some (.int x3_5), none]) hG dX12_plans_166 (by decide) (pm_c1b rfl) rfl ?_
            refine pm_iincX (v := x3_5 + 1) (loc' := [some (.ref (B + 54)), some (.int 1), some (.int zb), some (.int zc), some (.int x8), some (.int (x3_5 + 1)), none]) hG dX12_plans_168 rfl (by rfl) (by decide) (pm_c1b rfl) rfl ?_
            refine pm_goto (tgt := 130) hG dX12_plans_171 rfl ?_
            exact ih130 _ _ _ hE
    refine loop130 _ (fun S9 x9_4 x9_5 hE => ?_) _ _ _ _ hE
    refine pm_iconst (v := (-1)) hG dX12_plans_174 (by decide) ?_
    refine pm_istoreXi (loc' := [some (.ref (B + 54)), some (.int 1), some (.int zb), some (.int zc), some (.int x9_4), some (.int (-1)), none]) hG dX12_plans_175 (by decide) (pm_c1b rfl) rfl ?_
    have loop177 : ∀ (k177 : FS → Int32 → Option (Int32 × FS)), (∀ (S10 : FS) (x10_5 : Int32), k177 S10  x10_5 = some R → pm_wp mX12_plans G B 292 [some (.ref (B + 54)), some (.int 1), some (.int zb), some (.int zc), some (.int x9_4), some (.int x10_5), none] [] 0 0 cnt (mst B S10 σ)) → ∀ (m177 : Nat) (S10 : FS) (x10_5 : Int32), l_X12_plans_k1_177 zb x9_4 k177 m177 S10  x10_5 = some R → pm_wp mX12_plans G B 177 [some (.ref (B + 54)), some (.int 1), some (.int zb), some (.int zc), some (.int x9_4), some (.int x10_5), none] [] 0 0 cnt (mst B S10 σ) := by
      intro k177 hk177 m177
      induction m177 with
      | zero => intro S10  x10_5 hE; exact fx_no hE
      | succ m177 ih177 =>
        intro S10  x10_5 hE
        rw [l_X12_plans_k1_177] at hE
        refine pm_iloadi hG dX12_plans_177 rfl ?_
        refine pm_bipush (v := 6) hG dX12_plans_179 (by decide) ?_
        refine pm_icmp_ge (tgt := 292) hG dX12_plans_181 rfl (fun c11 => ?_) (fun c11 => ?_)
        · replace c11 := Int32.not_lt.mpr c11
          replace hE := fx_f c11 hE
          exact hk177 _ _ hE
        · replace c11 := Int32.not_le.mp c11
          replace hE := fx_t c11 hE
          refine pm_iloadi hG dX12_plans_184 rfl ?_
          refine pm_if_lt (tgt := 201) hG dX12_plans_186 rfl (fun c12 => ?_) (fun c12 => ?_)
          · replace hE := fx_t c12 hE
            refine pm_iloadi hG dX12_plans_201 rfl ?_
            refine pm_aloadn hG dX12_plans_203 rfl ?_
            refine pm_getf hG dX12_plans_204 (flX12_61 _ rfl) rfl rfl ?_
            refine pm_bipush (v := 24) hG dX12_plans_207 (by decide) ?_
            refine pm_aloadn hG dX12_plans_209 rfl ?_
            refine pm_getf hG dX12_plans_210 (flX12_270 _ rfl) rfl rfl ?_
            refine pm_imul hG dX12_plans_213 ?_
            refine pm_iloadn hG dX12_plans_214 rfl ?_
            refine pm_iadd hG dX12_plans_215 ?_
            obtain ⟨j13, hj13, hE⟩ := fb_some hE
            refine fx_iald hG dX12_plans_216 rfl hj13 ?_
            refine pm_isub hG dX12_plans_217 ?_
            refine pm_iloadi hG dX12_plans_218 rfl ?_
            refine pm_if_ge (tgt := 227) hG dX12_plans_220 rfl (fun q => absurd c12 (Int32.not_lt.mpr q)) (fun _ => ?_)
            refine pm_iconst (v := 0) hG dX12_plans_223 (by decide) ?_
            refine pm_goto (tgt := 241) hG dX12_plans_224 rfl ?_
            refine pm_iadd hG dX12_plans_241 ?_
            refine fx_letv hE (fun x14 hE => ?_)
            refine pm_istoreXi (loc' := [some (.ref (B + 54)), some (.int 1), some (.int zb), some (.int zc), some (.int x9_4), some (.int x10_5), some (.int x14)]) hG dX12_plans_242 (by decide) (pm_c1b rfl) rfl ?_
            refine pm_iloadi hG dX12_plans_244 rfl ?_
            refine pm_if_ge (tgt := 252) hG dX12_plans_246 rfl (fun c15 => ?_) (fun c15 => ?_)
            · replace c15 := Int32.not_lt.mpr c15
              replace hE := fx_f c15 hE
              refine pm_aloadn hG dX12_plans_252 rfl ?_
              refine pm_getf hG dX12_plans_253 (flX12_46 _ rfl) rfl rfl ?_
              refine pm_iloadn hG dX12_plans_256 rfl ?_
              refine pm_iloadi hG dX12_plans_257 rfl ?_
              refine fx_iast hG dX12_plans_259 rfl (ix_lit (by decide) rfl) ?_
              refine ma_67 ?_
              refine fx_letm hE (fun S16 hE => ?_)
              refine pm_aloadn hG dX12_plans_260 rfl ?_
              refine pm_iloadn hG dX12_plans_261 rfl ?_
              refine pm_iconst (v := 1) hG dX12_plans_262 (by decide) ?_
              refine pm_iadd hG dX12_plans_263 ?_
              refine pm_top (v := 2) (by decide) ?_
              refine pm_iloadi hG dX12_plans_264 rfl ?_
              refine pm_if_ge (tgt := 273) hG dX12_plans_266 rfl (fun q => absurd c12 (Int32.not_lt.mpr q)) (fun _ => ?_)
              refine pm_iloadn hG dX12_plans_269 rfl ?_
              refine pm_goto (tgt := 281) hG dX12_plans_270 rfl ?_
              refine pm_iloadi hG dX12_plans_281 rfl ?_
              obtain ⟨r18, h17, hE⟩ := fb_some hE
              refine pm_callV (As := [.int 2, .int zb, .int x14]) (rest := []) hG hR dX12_plans_283 (lkX12_280 _ rfl) okV_X12_plans rfl rfl (c_X12_plans_k2 (d := 7) (by decide) h17) rfl rfl hdd (Nat.le_refl _) (Nat.le_refl _) (by decide) (fx_kv ?_)
              refine pm_iincX (v := x10_5 + 1) (loc' := [some (.ref (B + 54)), some (.int 1), some (.int zb), some (.int zc), some (.int x9_4), some (.int (x10_5 + 1)), some (.int x14)]) hG dX12_plans_286 rfl (by rfl) (by decide) (pm_c1b rfl) rfl ?_
              refine pm_goto (tgt := 177) hG dX12_plans_289 rfl ?_
              refine pm_fg 6 (loc' := [some (.ref (B + 54)), some (.int 1), some (.int zb), some (.int zc), some (.int x9_4), some (.int (x10_5 + 1)), none]) rfl ?_
              exact ih177 _ _ hE
            · replace c15 := Int32.not_le.mp c15
              replace hE := fx_t c15 hE
              refine pm_goto (tgt := 286) hG dX12_plans_249 rfl ?_
              refine pm_iincX (v := x10_5 + 1) (loc' := [some (.ref (B + 54)), some (.int 1), some (.int zb), some (.int zc), some (.int x9_4), some (.int (x10_5 + 1)), some (.int x14)]) hG dX12_plans_286 rfl (by rfl) (by decide) (pm_c1b rfl) rfl ?_
              refine pm_goto (tgt := 177) hG dX12_plans_289 rfl ?_
              refine pm_fg 6 (loc' := [some (.ref (B + 54)), some (.int 1), some (.int zb), some (.int zc), some (.int x9_4), some (.int (x10_5 + 1)), none]) rfl ?_
              exact ih177 _ _ hE
          · replace hE := fx_f c12 hE
            refine pm_iloadn hG dX12_plans_189 rfl ?_
            refine pm_iloadi hG dX12_plans_190 rfl ?_
            refine pm_ishr hG dX12_plans_192 ?_
            refine pm_iconst (v := 1) hG dX12_plans_193 (by decide) ?_
            refine pm_iand hG dX12_plans_194 ?_
            refine pm_if_ne (tgt := 201) hG dX12_plans_195 rfl (fun c19 => ?_) (fun c19 => ?_)
            · replace hE := fx_f c19 hE
              refine pm_iloadi hG dX12_plans_201 rfl ?_
              refine pm_aloadn hG dX12_plans_203 rfl ?_
              refine pm_getf hG dX12_plans_204 (flX12_61 _ rfl) rfl rfl ?_
              refine pm_bipush (v := 24) hG dX12_plans_207 (by decide) ?_
              refine pm_aloadn hG dX12_plans_209 rfl ?_
              refine pm_getf hG dX12_plans_210 (flX12_270 _ rfl) rfl rfl ?_
              refine pm_imul hG dX12_plans_213 ?_
              refine pm_iloadn hG dX12_plans_214 rfl ?_
              refine pm_iadd hG dX12_plans_215 ?_
              obtain ⟨j20, hj20, hE⟩ := fb_some hE
              refine fx_iald hG dX12_plans_216 rfl hj20 ?_
              refine pm_isub hG dX12_plans_217 ?_
              refine pm_iloadi hG dX12_plans_218 rfl ?_
              refine pm_if_ge (tgt := 227) hG dX12_plans_220 rfl (fun _ => ?_) (fun q => absurd (Int32.not_le.mp q) c12)
              refine pm_iconst (v := 4) hG dX12_plans_227 (by decide) ?_
              refine pm_aloadn hG dX12_plans_228 rfl ?_
              refine pm_getf hG dX12_plans_229 (flX12_7 _ rfl) rfl rfl ?_
              refine pm_bipush (v := 20) hG dX12_plans_232 (by decide) ?_
              refine pm_iconst (v := 3) hG dX12_plans_234 (by decide) ?_
              refine pm_iloadi hG dX12_plans_235 rfl ?_
              refine pm_imul hG dX12_plans_237 ?_
              refine pm_iadd hG dX12_plans_238 ?_
              obtain ⟨j21, hj21, hE⟩ := fb_some hE
              refine fx_iald hG dX12_plans_239 rfl hj21 ?_
              refine pm_imul hG dX12_plans_240 ?_
              refine pm_iadd hG dX12_plans_241 ?_
              refine fx_letv hE (fun x22 hE => ?_)
              refine pm_istoreXi (loc' := [some (.ref (B + 54)), some (.int 1), some (.int zb), some (.int zc), some (.int x9_4), some (.int x10_5), some (.int x22)]) hG dX12_plans_242 (by decide) (pm_c1b rfl) rfl ?_
              refine pm_iloadi hG dX12_plans_244 rfl ?_
              refine pm_if_ge (tgt := 252) hG dX12_plans_246 rfl (fun c23 => ?_) (fun c23 => ?_)
              · replace c23 := Int32.not_lt.mpr c23
                replace hE := fx_f c23 hE
                refine pm_aloadn hG dX12_plans_252 rfl ?_
                refine pm_getf hG dX12_plans_253 (flX12_46 _ rfl) rfl rfl ?_
                refine pm_iloadn hG dX12_plans_256 rfl ?_
                refine pm_iloadi hG dX12_plans_257 rfl ?_
                refine fx_iast hG dX12_plans_259 rfl (ix_lit (by decide) rfl) ?_
                refine ma_67 ?_
                refine fx_letm hE (fun S24 hE => ?_)
                refine pm_aloadn hG dX12_plans_260 rfl ?_
                refine pm_iloadn hG dX12_plans_261 rfl ?_
                refine pm_iconst (v := 1) hG dX12_plans_262 (by decide) ?_
                refine pm_iadd hG dX12_plans_263 ?_
                refine pm_top (v := 2) (by decide) ?_
                refine pm_iloadi hG dX12_plans_264 rfl ?_
                refine pm_if_ge (tgt := 273) hG dX12_plans_266 rfl (fun _ => ?_) (fun q => absurd (Int32.not_le.mp q) c12)
                refine pm_iloadn hG dX12_plans_273 rfl ?_
                refine pm_iconst (v := 1) hG dX12_plans_274 (by decide) ?_
                refine pm_iloadi hG dX12_plans_275 rfl ?_
                refine pm_ishl hG dX12_plans_277 ?_
                refine pm_iconst (v := (-1)) hG dX12_plans_278 (by decide) ?_
                refine pm_ixor hG dX12_plans_279 ?_
                refine pm_iand hG dX12_plans_280 ?_
                refine pm_iloadi hG dX12_plans_281 rfl ?_
                obtain ⟨r26, h25, hE⟩ := fb_some hE
                refine pm_callV (As := [.int 2, .int (zb &&& (((1 : Int32) <<< (x10_5 &&& 31)) ^^^ (-1))), .int x22]) (rest := []) hG hR dX12_plans_283 (lkX12_280 _ rfl) okV_X12_plans rfl rfl (c_X12_plans_k2 (d := 7) (by decide) h25) rfl rfl hdd (Nat.le_refl _) (Nat.le_refl _) (by decide) (fx_kv ?_)
                refine pm_iincX (v := x10_5 + 1) (loc' := [some (.ref (B + 54)), some (.int 1), some (.int zb), some (.int zc), some (.int x9_4), some (.int (x10_5 + 1)), some (.int x22)]) hG dX12_plans_286 rfl (by rfl) (by decide) (pm_c1b rfl) rfl ?_
                refine pm_goto (tgt := 177) hG dX12_plans_289 rfl ?_
                refine pm_fg 6 (loc' := [some (.ref (B + 54)), some (.int 1), some (.int zb), some (.int zc), some (.int x9_4), some (.int (x10_5 + 1)), none]) rfl ?_
                exact ih177 _ _ hE
              · replace c23 := Int32.not_le.mp c23
                replace hE := fx_t c23 hE
                refine pm_goto (tgt := 286) hG dX12_plans_249 rfl ?_
                refine pm_iincX (v := x10_5 + 1) (loc' := [some (.ref (B + 54)), some (.int 1), some (.int zb), some (.int zc), some (.int x9_4), some (.int (x10_5 + 1)), some (.int x22)]) hG dX12_plans_286 rfl (by rfl) (by decide) (pm_c1b rfl) rfl ?_
                refine pm_goto (tgt := 177) hG dX12_plans_289 rfl ?_
                refine pm_fg 6 (loc' := [some (.ref (B + 54)), some (.int 1), some (.int zb), some (.int zc), some (.int x9_4), some (.int (x10_5 + 1)), none]) rfl ?_
                exact ih177 _ _ hE
            · replace hE := fx_t c19 hE
              refine pm_goto (tgt := 286) hG dX12_plans_198 rfl ?_
              refine pm_iincX (v := x10_5 + 1) (loc' := [some (.ref (B + 54)), some (.int 1), some (.int zb), some (.int zc), some (.int x9_4), some (.int (x10_5 + 1)), none]) hG dX12_plans_286 rfl (by rfl) (by decide) (pm_c1b rfl) rfl ?_
              refine pm_goto (tgt := 177) hG dX12_plans_289 rfl ?_
              exact ih177 _ _ hE
    refine loop177 _ (fun S27 x27_5 hE => ?_) _ _ _ hE
    exact pm_vret hG hF dX12_plans_292 rfl (Nat.le_refl _) (Nat.le_refl _) (fx_rvm hE)
  · replace hE := fx_t c2 hE
    refine pm_iloadn hG dX12_plans_13 rfl ?_
    refine pm_istoreXi (loc' := [some (.ref (B + 54)), some (.int 1), some (.int zb), some (.int zc), some (.int zc), none, none]) hG dX12_plans_14 (by decide) (pm_c1b rfl) rfl ?_
    refine pm_iconst (v := 0) hG dX12_plans_16 (by decide) ?_
    refine pm_istoreXi (loc' := [some (.ref (B + 54)), some (.int 1), some (.int zb), some (.int zc), some (.int zc), some (.int 0), none]) hG dX12_plans_17 (by decide) (pm_c1b rfl) rfl ?_
    have loop19 : ∀ (k19 : FS → Int32 → Int32 → Option (Int32 × FS)), (∀ (S28 : FS) (x28_4 : Int32) (x28_5 : Int32), k19 S28  x28_4 x28_5 = some R → pm_wp mX12_plans G B 66 [some (.ref (B + 54)), some (.int 1), some (.int zb), some (.int zc), some (.int x28_4), some (.int x28_5), none] [] 0 0 cnt (mst B S28 σ)) → ∀ (m19 : Nat) (S28 : FS) (x28_4 : Int32) (x28_5 : Int32), l_X12_plans_k1_19 zb k19 m19 S28  x28_4 x28_5 = some R → pm_wp mX12_plans G B 19 [some (.ref (B + 54)), some (.int 1), some (.int zb), some (.int zc), some (.int x28_4), some (.int x28_5), none] [] 0 0 cnt (mst B S28 σ) := by
      intro k19 hk19 m19
      induction m19 with
      | zero => intro S28  x28_4 x28_5 hE; exact fx_no hE
      | succ m19 ih19 =>
        intro S28  x28_4 x28_5 hE
        rw [l_X12_plans_k1_19] at hE
        refine pm_iloadi hG dX12_plans_19 rfl ?_
        refine pm_bipush (v := 6) hG dX12_plans_21 (by decide) ?_
        refine pm_icmp_ge (tgt := 66) hG dX12_plans_23 rfl (fun c29 => ?_) (fun c29 => ?_)
        · replace c29 := Int32.not_lt.mpr c29
          replace hE := fx_f c29 hE
          exact hk19 _ _ _ hE
        · replace c29 := Int32.not_le.mp c29
          replace hE := fx_t c29 hE
          refine pm_iloadi hG dX12_plans_26 rfl ?_
          refine pm_iloadn hG dX12_plans_28 rfl ?_
          refine pm_iloadi hG dX12_plans_29 rfl ?_
          refine pm_ishr hG dX12_plans_31 ?_
          refine pm_iconst (v := 1) hG dX12_plans_32 (by decide) ?_
          refine pm_iand hG dX12_plans_33 ?_
          refine pm_iconst (v := 1) hG dX12_plans_34 (by decide) ?_
          refine pm_icmp_ne (tgt := 56) hG dX12_plans_35 rfl (fun c30 => ?_) (fun c30 => ?_)
          · replace hE := fx_f c30 hE
            refine pm_iconst (v := 0) hG dX12_plans_56 (by decide) ?_
            refine pm_iadd hG dX12_plans_57 ?_
            refine fx_letv hE (fun x31 hE => ?_)
            refine pm_istoreXi (loc' := [some (.ref (B + 54)), some (.int 1), some (.int zb), some (.int zc), some (.int x31), some (.int x28_5), none]) hG dX12_plans_58 (by decide) (pm_c1b rfl) rfl ?_
            refine pm_iincX (v := x28_5 + 1) (loc' := [some (.ref (B + 54)), some (.int 1), some (.int zb), some (.int zc), some (.int x31), some (.int (x28_5 + 1)), none]) hG dX12_plans_60 rfl (by rfl) (by decide) (pm_c1b rfl) rfl ?_
            refine pm_goto (tgt := 19) hG dX12_plans_63 rfl ?_
            exact ih19 _ _ _ hE
          · replace hE := fx_t c30 hE
            refine pm_bipush (v := 8) hG dX12_plans_38 (by decide) ?_
            refine pm_aloadn hG dX12_plans_40 rfl ?_
            refine pm_getf hG dX12_plans_41 (flX12_7 _ rfl) rfl rfl ?_
            refine pm_bipush (v := 20) hG dX12_plans_44 (by decide) ?_
            refine pm_iconst (v := 3) hG dX12_plans_46 (by decide) ?_
            refine pm_iloadi hG dX12_plans_47 rfl ?_
            refine pm_imul hG dX12_plans_49 ?_
            refine pm_iadd hG dX12_plans_50 ?_
            obtain ⟨j32, hj32, hE⟩ := fb_some hE
            refine fx_iald hG dX12_plans_51 rfl hj32 ?_
            refine pm_imul hG dX12_plans_52 ?_
            refine pm_goto (tgt := 57) hG dX12_plans_53 rfl ?_
            refine pm_iadd hG dX12_plans_57 ?_
            refine fx_letv hE (fun x33 hE => ?_)
            refine pm_istoreXi (loc' := [some (.ref (B + 54)), some (.int 1), some (.int zb), some (.int zc), some (.int x33), some (.int x28_5), none]) hG dX12_plans_58 (by decide) (pm_c1b rfl) rfl ?_
            refine pm_iincX (v := x28_5 + 1) (loc' := [some (.ref (B + 54)), some (.int 1), some (.int zb), some (.int zc), some (.int x33), some (.int (x28_5 + 1)), none]) hG dX12_plans_60 rfl (by rfl) (by decide) (pm_c1b rfl) rfl ?_
            refine pm_goto (tgt := 19) hG dX12_plans_63 rfl ?_
            exact ih19 _ _ _ hE
    refine loop19 _ (fun S34 x34_4 x34_5 hE => ?_) _ _ _ _ hE
    have join83 : ∀ (S35 : FS), j_X12_plans_k1_83 x34_4 S35 = some R → pm_wp mX12_plans G B 83 [some (.ref (B + 54)), some (.int 1), some (.int zb), some (.int zc), some (.int x34_4), some (.int x34_5), none] [] 0 0 cnt (mst B S35 σ) := by
      intro S35 hE
      unfold j_X12_plans_k1_83 at hE
      refine pm_aloadn hG dX12_plans_83 rfl ?_
      refine pm_iconst (v := 1) hG dX12_plans_84 (by decide) ?_
      refine pm_putf hG dX12_plans_85 (fwX12_273 _ rfl) rfl (by decide) (by decide) ?_
      refine mi_20 ?_
      refine fx_letm hE (fun S36 hE => ?_)
      refine pm_aloadn hG dX12_plans_88 rfl ?_
      refine pm_iloadi hG dX12_plans_89 rfl ?_
      refine pm_putf hG dX12_plans_91 (fwX12_277 _ rfl) rfl rfl rfl ?_
      refine mi_19 ?_
      refine fx_letm hE (fun S37 hE => ?_)
      refine pm_iconst (v := 0) hG dX12_plans_94 (by decide) ?_
      refine pm_istoreXi (loc' := [some (.ref (B + 54)), some (.int 1), some (.int zb), some (.int zc), some (.int x34_4), some (.int 0), none]) hG dX12_plans_95 (by decide) (pm_c1b rfl) rfl ?_
      have loop97 : ∀ (k97 : FS → Int32 → Option (Int32 × FS)), (∀ (S38 : FS) (x38_5 : Int32), k97 S38  x38_5 = some R → pm_wp mX12_plans G B 123 [some (.ref (B + 54)), some (.int 1), some (.int zb), some (.int zc), some (.int x34_4), some (.int x38_5), none] [] 0 0 cnt (mst B S38 σ)) → ∀ (m97 : Nat) (S38 : FS) (x38_5 : Int32), l_X12_plans_k1_97 k97 m97 S38  x38_5 = some R → pm_wp mX12_plans G B 97 [some (.ref (B + 54)), some (.int 1), some (.int zb), some (.int zc), some (.int x34_4), some (.int x38_5), none] [] 0 0 cnt (mst B S38 σ) := by
        intro k97 hk97 m97
        induction m97 with
        | zero => intro S38  x38_5 hE; exact fx_no hE
        | succ m97 ih97 =>
          intro S38  x38_5 hE
          rw [l_X12_plans_k1_97] at hE
          refine pm_iloadi hG dX12_plans_97 rfl ?_
          refine pm_iloadn hG dX12_plans_99 rfl ?_
          refine pm_icmp_ge (tgt := 123) hG dX12_plans_100 rfl (fun c39 => ?_) (fun c39 => ?_)
          · replace c39 := Int32.not_lt.mpr c39
            replace hE := fx_f c39 hE
            exact hk97 _ _ hE
          · replace c39 := Int32.not_le.mp c39
            replace hE := fx_t c39 hE
            refine pm_aloadn hG dX12_plans_103 rfl ?_
            refine pm_getf hG dX12_plans_104 (flX12_49 _ rfl) rfl rfl ?_
            refine pm_iloadi hG dX12_plans_107 rfl ?_
            refine pm_aloadn hG dX12_plans_109 rfl ?_
            refine pm_getf hG dX12_plans_110 (flX12_46 _ rfl) rfl rfl ?_
            refine pm_iloadi hG dX12_plans_113 rfl ?_
            obtain ⟨j40, hj40, hE⟩ := fb_some hE
            refine fx_iald hG dX12_plans_115 rfl hj40 ?_
            refine fx_iast hG dX12_plans_116 rfl hj40 ?_
            refine ma_68 ?_
            refine fx_letm hE (fun S41 hE => ?_)
            refine pm_iincX (v := x38_5 + 1) (loc' := [some (.ref (B + 54)), some (.int 1), some (.int zb), some (.int zc), some (.int x34_4), some (.int (x38_5 + 1)), none]) hG dX12_plans_117 rfl (by rfl) (by decide) (pm_c1b rfl) rfl ?_
            refine pm_goto (tgt := 97) hG dX12_plans_120 rfl ?_
            exact ih97 _ _ hE
      refine loop97 _ (fun S42 x42_5 hE => ?_) _ _ _ hE
      exact pm_vret hG hF dX12_plans_123 rfl (Nat.le_refl _) (Nat.le_refl _) (fx_rvm hE)
    refine pm_aloadn hG dX12_plans_66 rfl ?_
    refine pm_getf hG dX12_plans_67 (flX12_273 _ rfl) rfl rfl ?_
    refine pm_if_eq (tgt := 83) hG dX12_plans_70 rfl (fun c43 => ?_) (fun c43 => ?_)
    · replace hE := fx_t c43 hE
      exact join83 _ hE
    · replace hE := fx_f c43 hE
      refine pm_iloadi hG dX12_plans_73 rfl ?_
      refine pm_aloadn hG dX12_plans_75 rfl ?_
      refine pm_getf hG dX12_plans_76 (flX12_277 _ rfl) rfl rfl ?_
      refine pm_icmp_gt (tgt := 83) hG dX12_plans_79 rfl (fun c44 => ?_) (fun c44 => ?_)
      · replace hE := fx_t c44 hE
        exact join83 _ hE
      · replace hE := fx_f c44 hE
        exact pm_vret hG hF dX12_plans_82 rfl (Nat.le_refl _) (Nat.le_refl _) (fx_rvm hE)
end
section
set_option maxRecDepth 100000 in
set_option maxHeartbeats 4000000 in
theorem c_X12_plans_k0 {d : Nat} {B cnt : Nat} {σ : pm_S} {S : FS} {zb : Int32} {zc : Int32} {R : Int32 × FS} (hdd : 9 ≤ d) (hE : f_X12_plans_k0 S zb zc = some R) : pm_met mX12_plans d 0 0 B [.ref (B + 54), .int 0, .int zb, .int zc] cnt (mst B S σ) (pm_Qv (fun σ' cnt' => σ' = (mst B R.2 σ) ∧ cnt' = cnt)) := by
  refine pm_enter 3 (by decide) (Nat.le_of_ble_eq_true rfl) rfl (fun G hG hR hF => ?_)
  unfold f_X12_plans_k0 at hE
  refine pm_iloadn hG dX12_plans_0 rfl ?_
  refine pm_aloadn hG dX12_plans_1 rfl ?_
  refine pm_getf hG dX12_plans_2 (flX12_58 _ rfl) rfl rfl ?_
  refine pm_aloadn hG dX12_plans_5 rfl ?_
  refine pm_getf hG dX12_plans_6 (flX12_270 _ rfl) rfl rfl ?_
  obtain ⟨j1, hj1, hE⟩ := fb_some hE
  refine fx_iald hG dX12_plans_9 rfl hj1 ?_
  refine pm_icmp_ne (tgt := 124) hG dX12_plans_10 rfl (fun c2 => ?_) (fun c2 => ?_)
  · replace hE := fx_f c2 hE
    refine pm_iloadn hG dX12_plans_124 rfl ?_
    refine pm_istoreXi (loc' := [some (.ref (B + 54)), some (.int 0), some (.int zb), some (.int zc), some (.int zc), none, none]) hG dX12_plans_125 (by decide) (pm_c1b rfl) rfl ?_
    refine pm_iconst (v := 0) hG dX12_plans_127 (by decide) ?_
    refine pm_istoreXi (loc' := [some (.ref (B + 54)), some (.int 0), some (.int zb), some (.int zc), some (.int zc), some (.int 0), none]) hG dX12_plans_128 (by decide) (pm_c1b rfl) rfl ?_
    have loop130 : ∀ (k130 : FS → Int32 → Int32 → Option (Int32 × FS)), (∀ (S3 : FS) (x3_4 : Int32) (x3_5 : Int32), k130 S3  x3_4 x3_5 = some R → pm_wp mX12_plans G B 174 [some (.ref (B + 54)), some (.int 0), some (.int zb), some (.int zc), some (.int x3_4), some (.int x3_5), none] [] 0 0 cnt (mst B S3 σ)) → ∀ (m130 : Nat) (S3 : FS) (x3_4 : Int32) (x3_5 : Int32), l_X12_plans_k0_130 zb k130 m130 S3  x3_4 x3_5 = some R → pm_wp mX12_plans G B 130 [some (.ref (B + 54)), some (.int 0), some (.int zb), some (.int zc), some (.int x3_4), some (.int x3_5), none] [] 0 0 cnt (mst B S3 σ) := by
      intro k130 hk130 m130
      induction m130 with
      | zero => intro S3  x3_4 x3_5 hE; exact fx_no hE
      | succ m130 ih130 =>
        intro S3  x3_4 x3_5 hE
        rw [l_X12_plans_k0_130] at hE
        refine pm_iloadi hG dX12_plans_130 rfl ?_
        refine pm_bipush (v := 6) hG dX12_plans_132 (by decide) ?_
        refine pm_icmp_ge (tgt := 174) hG dX12_plans_134 rfl (fun c4 => ?_) (fun c4 => ?_)
        · replace c4 := Int32.not_lt.mpr c4
          replace hE := fx_f c4 hE
          exact hk130 _ _ _ hE
        · replace c4 := Int32.not_le.mp c4
          replace hE := fx_t c4 hE
          refine pm_iloadi hG dX12_plans_137 rfl ?_
          refine pm_iloadn hG dX12_plans_139 rfl ?_
          refine pm_iloadi hG dX12_plans_140 rfl ?_
          refine pm_ishr hG dX12_plans_142 ?_
          refine pm_iconst (v := 1) hG dX12_plans_143 (by decide) ?_
          refine pm_iand hG dX12_plans_144 ?_
          refine pm_iconst (v := 1) hG dX12_plans_145 (by decide) ?_
          refine pm_icmp_ne (tgt := 164) hG dX12_plans_146 rfl (fun c5 => ?_) (fun c5 => ?_)
          · replace hE := fx_f c5 hE
            refine pm_iconst (v := 0) hG dX12_plans_164 (by decide) ?_
            refine pm_iadd hG dX12_plans_165 ?_
            refine fx_letv hE (fun x6 hE => ?_)
            refine pm_istoreXi (loc' := [some (.ref (B + 54)), some (.int 0), some (.int zb), some (.int zc), some (.int x6), some (.int x3_5), none]) hG dX12_plans_166 (by decide) (pm_c1b rfl) rfl ?_
            refine pm_iincX (v := x3_5 + 1) (loc' := [some (.ref (B + 54)), some (.int 0), some (.int zb), some (.int zc), some (.int x6), some (.int (x3_5 + 1)), none]) hG dX12_plans_168 rfl (by rfl) (by decide) (pm_c1b rfl) rfl ?_
            refine pm_goto (tgt := 130) hG dX12_plans_171 rfl ?_
            exact ih130 _ _ _ hE
          · replace hE := fx_t c5 hE
            refine pm_aloadn hG dX12_plans_149 rfl ?_
            refine pm_getf hG dX12_plans_150 (flX12_7 _ rfl) rfl rfl ?_
            refine pm_bipush (v := 20) hG dX12_plans_153 (by decide) ?_
            refine pm_iconst (v := 3) hG dX12_plans_155 (by decide) ?_
            refine pm_iloadi hG dX12_plans_156 rfl ?_
            refine pm_imul hG dX12_plans_158 ?_
            refine pm_iadd hG dX12_plans_159 ?_
            obtain ⟨j7, hj7, hE⟩ := fb_some hE
            refine fx_iald hG dX12_plans_160 rfl hj7 ?_
            refine pm_goto (tgt := 165) hG dX12_plans_161 rfl ?_
            refine pm_iadd hG dX12_plans_165 ?_
            refine fx_letv hE (fun x8 hE => ?_)
            refine pm_istoreXi (loc' := [some (.ref (B + 54)), some (.int 0), some (.int zb), some (.int zc), some (.int x8), some (.int x3_5), none]) hG dX12_plans_166 (by decide) (pm_c1b rfl) rfl ?_
            refine pm_iincX (v := x3_5 + 1) (loc' := [some (.ref (B + 54)), some (.int 0), some (.int zb), some (.int zc), some (.int x8), some (.int (x3_5 + 1)), none]) hG dX12_plans_168 rfl (by rfl) (by decide) (pm_c1b rfl) rfl ?_
            refine pm_goto (tgt := 130) hG dX12_plans_171 rfl ?_
            exact ih130 _ _ _ hE
    refine loop130 _ (fun S9 x9_4 x9_5 hE => ?_) _ _ _ _ hE
    refine pm_iconst (v := (-1)) hG dX12_plans_174 (by decide) ?_
    refine pm_istoreXi (loc' := [some (.ref (B + 54)), some (.int 0), some (.int zb), some (.int zc), some (.int x9_4), some (.int (-1)), none]) hG dX12_plans_175 (by decide) (pm_c1b rfl) rfl ?_
    have loop177 : ∀ (k177 : FS → Int32 → Option (Int32 × FS)), (∀ (S10 : FS) (x10_5 : Int32), k177 S10  x10_5 = some R → pm_wp mX12_plans G B 292 [some (.ref (B + 54)), some (.int 0), some (.int zb), some (.int zc), some (.int x9_4), some (.int x10_5), none] [] 0 0 cnt (mst B S10 σ)) → ∀ (m177 : Nat) (S10 : FS) (x10_5 : Int32), l_X12_plans_k0_177 zb x9_4 k177 m177 S10  x10_5 = some R → pm_wp mX12_plans G B 177 [some (.ref (B + 54)), some (.int 0), some (.int zb), some (.int zc), some (.int x9_4), some (.int x10_5), none] [] 0 0 cnt (mst B S10 σ) := by
      intro k177 hk177 m177
      induction m177 with
      | zero => intro S10  x10_5 hE; exact fx_no hE
      | succ m177 ih177 =>
        intro S10  x10_5 hE
        rw [l_X12_plans_k0_177] at hE
        refine pm_iloadi hG dX12_plans_177 rfl ?_
        refine pm_bipush (v := 6) hG dX12_plans_179 (by decide) ?_
        refine pm_icmp_ge (tgt := 292) hG dX12_plans_181 rfl (fun c11 => ?_) (fun c11 => ?_)
        · replace c11 := Int32.not_lt.mpr c11
          replace hE := fx_f c11 hE
          exact hk177 _ _ hE
        · replace c11 := Int32.not_le.mp c11
          replace hE := fx_t c11 hE
          refine pm_iloadi hG dX12_plans_184 rfl ?_
          refine pm_if_lt (tgt := 201) hG dX12_plans_186 rfl (fun c12 => ?_) (fun c12 => ?_)
          · replace hE := fx_t c12 hE
            refine pm_iloadi hG dX12_plans_201 rfl ?_
            refine pm_aloadn hG dX12_plans_203 rfl ?_
            refine pm_getf hG dX12_plans_204 (flX12_61 _ rfl) rfl rfl ?_
            refine pm_bipush (v := 24) hG dX12_plans_207 (by decide) ?_
            refine pm_aloadn hG dX12_plans_209 rfl ?_
            refine pm_getf hG dX12_plans_210 (flX12_270 _ rfl) rfl rfl ?_
            refine pm_imul hG dX12_plans_213 ?_
            refine pm_iloadn hG dX12_plans_214 rfl ?_
            refine pm_iadd hG dX12_plans_215 ?_
            obtain ⟨j13, hj13, hE⟩ := fb_some hE
            refine fx_iald hG dX12_plans_216 rfl hj13 ?_
            refine pm_isub hG dX12_plans_217 ?_
            refine pm_iloadi hG dX12_plans_218 rfl ?_
            refine pm_if_ge (tgt := 227) hG dX12_plans_220 rfl (fun q => absurd c12 (Int32.not_lt.mpr q)) (fun _ => ?_)
            refine pm_iconst (v := 0) hG dX12_plans_223 (by decide) ?_
            refine pm_goto (tgt := 241) hG dX12_plans_224 rfl ?_
            refine pm_iadd hG dX12_plans_241 ?_
            refine fx_letv hE (fun x14 hE => ?_)
            refine pm_istoreXi (loc' := [some (.ref (B + 54)), some (.int 0), some (.int zb), some (.int zc), some (.int x9_4), some (.int x10_5), some (.int x14)]) hG dX12_plans_242 (by decide) (pm_c1b rfl) rfl ?_
            refine pm_iloadi hG dX12_plans_244 rfl ?_
            refine pm_if_ge (tgt := 252) hG dX12_plans_246 rfl (fun c15 => ?_) (fun c15 => ?_)
            · replace c15 := Int32.not_lt.mpr c15
              replace hE := fx_f c15 hE
              refine pm_aloadn hG dX12_plans_252 rfl ?_
              refine pm_getf hG dX12_plans_253 (flX12_46 _ rfl) rfl rfl ?_
              refine pm_iloadn hG dX12_plans_256 rfl ?_
              refine pm_iloadi hG dX12_plans_257 rfl ?_
              refine fx_iast hG dX12_plans_259 rfl (ix_lit (by decide) rfl) ?_
              refine ma_67 ?_
              refine fx_letm hE (fun S16 hE => ?_)
              refine pm_aloadn hG dX12_plans_260 rfl ?_
              refine pm_iloadn hG dX12_plans_261 rfl ?_
              refine pm_iconst (v := 1) hG dX12_plans_262 (by decide) ?_
              refine pm_iadd hG dX12_plans_263 ?_
              refine pm_top (v := 1) (by decide) ?_
              refine pm_iloadi hG dX12_plans_264 rfl ?_
              refine pm_if_ge (tgt := 273) hG dX12_plans_266 rfl (fun q => absurd c12 (Int32.not_lt.mpr q)) (fun _ => ?_)
              refine pm_iloadn hG dX12_plans_269 rfl ?_
              refine pm_goto (tgt := 281) hG dX12_plans_270 rfl ?_
              refine pm_iloadi hG dX12_plans_281 rfl ?_
              obtain ⟨r18, h17, hE⟩ := fb_some hE
              refine pm_callV (As := [.int 1, .int zb, .int x14]) (rest := []) hG hR dX12_plans_283 (lkX12_280 _ rfl) okV_X12_plans rfl rfl (c_X12_plans_k1 (d := 8) (by decide) h17) rfl rfl hdd (Nat.le_refl _) (Nat.le_refl _) (by decide) (fx_kv ?_)
              refine pm_iincX (v := x10_5 + 1) (loc' := [some (.ref (B + 54)), some (.int 0), some (.int zb), some (.int zc), some (.int x9_4), some (.int (x10_5 + 1)), some (.int x14)]) hG dX12_plans_286 rfl (by rfl) (by decide) (pm_c1b rfl) rfl ?_
              refine pm_goto (tgt := 177) hG dX12_plans_289 rfl ?_
              refine pm_fg 6 (loc' := [some (.ref (B + 54)), some (.int 0), some (.int zb), some (.int zc), some (.int x9_4), some (.int (x10_5 + 1)), none]) rfl ?_
              exact ih177 _ _ hE
            · replace c15 := Int32.not_le.mp c15
              replace hE := fx_t c15 hE
              refine pm_goto (tgt := 286) hG dX12_plans_249 rfl ?_
              refine pm_iincX (v := x10_5 + 1) (loc' := [some (.ref (B + 54)), some (.int 0), some (.int zb), some (.int zc), some (.int x9_4), some (.int (x10_5 + 1)), some (.int x14)]) hG dX12_plans_286 rfl (by rfl) (by decide) (pm_c1b rfl) rfl ?_
              refine pm_goto (tgt := 177) hG dX12_plans_289 rfl ?_
              refine pm_fg 6 (loc' := [some (.ref (B + 54)), some (.int 0), some (.int zb), some (.int zc), some (.int x9_4), some (.int (x10_5 + 1)), none]) rfl ?_
              exact ih177 _ _ hE
          · replace hE := fx_f c12 hE
            refine pm_iloadn hG dX12_plans_189 rfl ?_
            refine pm_iloadi hG dX12_plans_190 rfl ?_
            refine pm_ishr hG dX12_plans_192 ?_
            refine pm_iconst (v := 1) hG dX12_plans_193 (by decide) ?_
            refine pm_iand hG dX12_plans_194 ?_
            refine pm_if_ne (tgt := 201) hG dX12_plans_195 rfl (fun c19 => ?_) (fun c19 => ?_)
            · replace hE := fx_f c19 hE
              refine pm_iloadi hG dX12_plans_201 rfl ?_
              refine pm_aloadn hG dX12_plans_203 rfl ?_
              refine pm_getf hG dX12_plans_204 (flX12_61 _ rfl) rfl rfl ?_
              refine pm_bipush (v := 24) hG dX12_plans_207 (by decide) ?_
              refine pm_aloadn hG dX12_plans_209 rfl ?_
              refine pm_getf hG dX12_plans_210 (flX12_270 _ rfl) rfl rfl ?_
              refine pm_imul hG dX12_plans_213 ?_
              refine pm_iloadn hG dX12_plans_214 rfl ?_
              refine pm_iadd hG dX12_plans_215 ?_
              obtain ⟨j20, hj20, hE⟩ := fb_some hE
              refine fx_iald hG dX12_plans_216 rfl hj20 ?_
              refine pm_isub hG dX12_plans_217 ?_
              refine pm_iloadi hG dX12_plans_218 rfl ?_
              refine pm_if_ge (tgt := 227) hG dX12_plans_220 rfl (fun _ => ?_) (fun q => absurd (Int32.not_le.mp q) c12)
              refine pm_iconst (v := 4) hG dX12_plans_227 (by decide) ?_
              refine pm_aloadn hG dX12_plans_228 rfl ?_
              refine pm_getf hG dX12_plans_229 (flX12_7 _ rfl) rfl rfl ?_
              refine pm_bipush (v := 20) hG dX12_plans_232 (by decide) ?_
              refine pm_iconst (v := 3) hG dX12_plans_234 (by decide) ?_
              refine pm_iloadi hG dX12_plans_235 rfl ?_
              refine pm_imul hG dX12_plans_237 ?_
              refine pm_iadd hG dX12_plans_238 ?_
              obtain ⟨j21, hj21, hE⟩ := fb_some hE
              refine fx_iald hG dX12_plans_239 rfl hj21 ?_
              refine pm_imul hG dX12_plans_240 ?_
              refine pm_iadd hG dX12_plans_241 ?_
              refine fx_letv hE (fun x22 hE => ?_)
              refine pm_istoreXi (loc' := [some (.ref (B + 54)), some (.int 0), some (.int zb), some (.int zc), some (.int x9_4), some (.int x10_5), some (.int x22)]) hG dX12_plans_242 (by decide) (pm_c1b rfl) rfl ?_
              refine pm_iloadi hG dX12_plans_244 rfl ?_
              refine pm_if_ge (tgt := 252) hG dX12_plans_246 rfl (fun c23 => ?_) (fun c23 => ?_)
              · replace c23 := Int32.not_lt.mpr c23
                replace hE := fx_f c23 hE
                refine pm_aloadn hG dX12_plans_252 rfl ?_
                refine pm_getf hG dX12_plans_253 (flX12_46 _ rfl) rfl rfl ?_
                refine pm_iloadn hG dX12_plans_256 rfl ?_
                refine pm_iloadi hG dX12_plans_257 rfl ?_
                refine fx_iast hG dX12_plans_259 rfl (ix_lit (by decide) rfl) ?_
                refine ma_67 ?_
                refine fx_letm hE (fun S24 hE => ?_)
                refine pm_aloadn hG dX12_plans_260 rfl ?_
                refine pm_iloadn hG dX12_plans_261 rfl ?_
                refine pm_iconst (v := 1) hG dX12_plans_262 (by decide) ?_
                refine pm_iadd hG dX12_plans_263 ?_
                refine pm_top (v := 1) (by decide) ?_
                refine pm_iloadi hG dX12_plans_264 rfl ?_
                refine pm_if_ge (tgt := 273) hG dX12_plans_266 rfl (fun _ => ?_) (fun q => absurd (Int32.not_le.mp q) c12)
                refine pm_iloadn hG dX12_plans_273 rfl ?_
                refine pm_iconst (v := 1) hG dX12_plans_274 (by decide) ?_
                refine pm_iloadi hG dX12_plans_275 rfl ?_
                refine pm_ishl hG dX12_plans_277 ?_
                refine pm_iconst (v := (-1)) hG dX12_plans_278 (by decide) ?_
                refine pm_ixor hG dX12_plans_279 ?_
                refine pm_iand hG dX12_plans_280 ?_
                refine pm_iloadi hG dX12_plans_281 rfl ?_
                obtain ⟨r26, h25, hE⟩ := fb_some hE
                refine pm_callV (As := [.int 1, .int (zb &&& (((1 : Int32) <<< (x10_5 &&& 31)) ^^^ (-1))), .int x22]) (rest := []) hG hR dX12_plans_283 (lkX12_280 _ rfl) okV_X12_plans rfl rfl (c_X12_plans_k1 (d := 8) (by decide) h25) rfl rfl hdd (Nat.le_refl _) (Nat.le_refl _) (by decide) (fx_kv ?_)
                refine pm_iincX (v := x10_5 + 1) (loc' := [some (.ref (B + 54)), some (.int 0), some (.int zb), some (.int zc), some (.int x9_4), some (.int (x10_5 + 1)), some (.int x22)]) hG dX12_plans_286 rfl (by rfl) (by decide) (pm_c1b rfl) rfl ?_
                refine pm_goto (tgt := 177) hG dX12_plans_289 rfl ?_
                refine pm_fg 6 (loc' := [some (.ref (B + 54)), some (.int 0), some (.int zb), some (.int zc), some (.int x9_4), some (.int (x10_5 + 1)), none]) rfl ?_
                exact ih177 _ _ hE
              · replace c23 := Int32.not_le.mp c23
                replace hE := fx_t c23 hE
                refine pm_goto (tgt := 286) hG dX12_plans_249 rfl ?_
                refine pm_iincX (v := x10_5 + 1) (loc' := [some (.ref (B + 54)), some (.int 0), some (.int zb), some (.int zc), some (.int x9_4), some (.int (x10_5 + 1)), some (.int x22)]) hG dX12_plans_286 rfl (by rfl) (by decide) (pm_c1b rfl) rfl ?_
                refine pm_goto (tgt := 177) hG dX12_plans_289 rfl ?_
                refine pm_fg 6 (loc' := [some (.ref (B + 54)), some (.int 0), some (.int zb), some (.int zc), some (.int x9_4), some (.int (x10_5 + 1)), none]) rfl ?_
                exact ih177 _ _ hE
            · replace hE := fx_t c19 hE
              refine pm_goto (tgt := 286) hG dX12_plans_198 rfl ?_
              refine pm_iincX (v := x10_5 + 1) (loc' := [some (.ref (B + 54)), some (.int 0), some (.int zb), some (.int zc), some (.int x9_4), some (.int (x10_5 + 1)), none]) hG dX12_plans_286 rfl (by rfl) (by decide) (pm_c1b rfl) rfl ?_
              refine pm_goto (tgt := 177) hG dX12_plans_289 rfl ?_
              exact ih177 _ _ hE
    refine loop177 _ (fun S27 x27_5 hE => ?_) _ _ _ hE
    exact pm_vret hG hF dX12_plans_292 rfl (Nat.le_refl _) (Nat.le_refl _) (fx_rvm hE)
  · replace hE := fx_t c2 hE
    refine pm_iloadn hG dX12_plans_13 rfl ?_
    refine pm_istoreXi (loc' := [some (.ref (B + 54)), some (.int 0), some (.int zb), some (.int zc), some (.int zc), none, none]) hG dX12_plans_14 (by decide) (pm_c1b rfl) rfl ?_
    refine pm_iconst (v := 0) hG dX12_plans_16 (by decide) ?_
    refine pm_istoreXi (loc' := [some (.ref (B + 54)), some (.int 0), some (.int zb), some (.int zc), some (.int zc), some (.int 0), none]) hG dX12_plans_17 (by decide) (pm_c1b rfl) rfl ?_
    have loop19 : ∀ (k19 : FS → Int32 → Int32 → Option (Int32 × FS)), (∀ (S28 : FS) (x28_4 : Int32) (x28_5 : Int32), k19 S28  x28_4 x28_5 = some R → pm_wp mX12_plans G B 66 [some (.ref (B + 54)), some (.int 0), some (.int zb), some (.int zc), some (.int x28_4), some (.int x28_5), none] [] 0 0 cnt (mst B S28 σ)) → ∀ (m19 : Nat) (S28 : FS) (x28_4 : Int32) (x28_5 : Int32), l_X12_plans_k0_19 zb k19 m19 S28  x28_4 x28_5 = some R → pm_wp mX12_plans G B 19 [some (.ref (B + 54)), some (.int 0), some (.int zb), some (.int zc), some (.int x28_4), some (.int x28_5), none] [] 0 0 cnt (mst B S28 σ) := by
      intro k19 hk19 m19
      induction m19 with
      | zero => intro S28  x28_4 x28_5 hE; exact fx_no hE
      | succ m19 ih19 =>
        intro S28  x28_4 x28_5 hE
        rw [l_X12_plans_k0_19] at hE
        refine pm_iloadi hG dX12_plans_19 rfl ?_
        refine pm_bipush (v := 6) hG dX12_plans_21 (by decide) ?_
        refine pm_icmp_ge (tgt := 66) hG dX12_plans_23 rfl (fun c29 => ?_) (fun c29 => ?_)
        · replace c29 := Int32.not_lt.mpr c29
          replace hE := fx_f c29 hE
          exact hk19 _ _ _ hE
        · replace c29 := Int32.not_le.mp c29
          replace hE := fx_t c29 hE
          refine pm_iloadi hG dX12_plans_26 rfl ?_
          refine pm_iloadn hG dX12_plans_28 rfl ?_
          refine pm_iloadi hG dX12_plans_29 rfl ?_
          refine pm_ishr hG dX12_plans_31 ?_
          refine pm_iconst (v := 1) hG dX12_plans_32 (by decide) ?_
          refine pm_iand hG dX12_plans_33 ?_
          refine pm_iconst (v := 1) hG dX12_plans_34 (by decide) ?_
          refine pm_icmp_ne (tgt := 56) hG dX12_plans_35 rfl (fun c30 => ?_) (fun c30 => ?_)
          · replace hE := fx_f c30 hE
            refine pm_iconst (v := 0) hG dX12_plans_56 (by decide) ?_
            refine pm_iadd hG dX12_plans_57 ?_
            refine fx_letv hE (fun x31 hE => ?_)
            refine pm_istoreXi (loc' := [some (.ref (B + 54)), some (.int 0), some (.int zb), some (.int zc), some (.int x31), some (.int x28_5), none]) hG dX12_plans_58 (by decide) (pm_c1b rfl) rfl ?_
            refine pm_iincX (v := x28_5 + 1) (loc' := [some (.ref (B + 54)), some (.int 0), some (.int zb), some (.int zc), some (.int x31), some (.int (x28_5 + 1)), none]) hG dX12_plans_60 rfl (by rfl) (by decide) (pm_c1b rfl) rfl ?_
            refine pm_goto (tgt := 19) hG dX12_plans_63 rfl ?_
            exact ih19 _ _ _ hE
          · replace hE := fx_t c30 hE
            refine pm_bipush (v := 8) hG dX12_plans_38 (by decide) ?_
            refine pm_aloadn hG dX12_plans_40 rfl ?_
            refine pm_getf hG dX12_plans_41 (flX12_7 _ rfl) rfl rfl ?_
            refine pm_bipush (v := 20) hG dX12_plans_44 (by decide) ?_
            refine pm_iconst (v := 3) hG dX12_plans_46 (by decide) ?_
            refine pm_iloadi hG dX12_plans_47 rfl ?_
            refine pm_imul hG dX12_plans_49 ?_
            refine pm_iadd hG dX12_plans_50 ?_
            obtain ⟨j32, hj32, hE⟩ := fb_some hE
            refine fx_iald hG dX12_plans_51 rfl hj32 ?_
            refine pm_imul hG dX12_plans_52 ?_
            refine pm_goto (tgt := 57) hG dX12_plans_53 rfl ?_
            refine pm_iadd hG dX12_plans_57 ?_
            refine fx_letv hE (fun x33 hE => ?_)
            refine pm_istoreXi (loc' := [some (.ref (B + 54)), some (.int 0), some (.int zb), some (.int zc), some (.int x33), some (.int x28_5), none]) hG dX12_plans_58 (by decide) (pm_c1b rfl) rfl ?_
            refine pm_iincX (v := x28_5 + 1) (loc' := [some (.ref (B + 54)), some (.int 0), some (.int zb), some (.int zc), some (.int x33), some (.int (x28_5 + 1)), none]) hG dX12_plans_60 rfl (by rfl) (by decide) (pm_c1b rfl) rfl ?_
            refine pm_goto (tgt := 19) hG dX12_plans_63 rfl ?_
            exact ih19 _ _ _ hE
    refine loop19 _ (fun S34 x34_4 x34_5 hE => ?_) _ _ _ _ hE
    have join83 : ∀ (S35 : FS), j_X12_plans_k0_83 x34_4 S35 = some R → pm_wp mX12_plans G B 83 [some (.ref (B + 54)), some (.int 0), some (.int zb), some (.int zc), some (.int x34_4), some (.int x34_5), none] [] 0 0 cnt (mst B S35 σ) := by
      intro S35 hE
      unfold j_X12_plans_k0_83 at hE
      refine pm_aloadn hG dX12_plans_83 rfl ?_
      refine pm_iconst (v := 1) hG dX12_plans_84 (by decide) ?_
      refine pm_putf hG dX12_plans_85 (fwX12_273 _ rfl) rfl (by decide) (by decide) ?_
      refine mi_20 ?_
      refine fx_letm hE (fun S36 hE => ?_)
      refine pm_aloadn hG dX12_plans_88 rfl ?_
      refine pm_iloadi hG dX12_plans_89 rfl ?_
      refine pm_putf hG dX12_plans_91 (fwX12_277 _ rfl) rfl rfl rfl ?_
      refine mi_19 ?_
      refine fx_letm hE (fun S37 hE => ?_)
      refine pm_iconst (v := 0) hG dX12_plans_94 (by decide) ?_
      refine pm_istoreXi (loc' := [some (.ref (B + 54)), some (.int 0), some (.int zb), some (.int zc), some (.int x34_4), some (.int 0), none]) hG dX12_plans_95 (by decide) (pm_c1b rfl) rfl ?_
      have loop97 : ∀ (k97 : FS → Int32 → Option (Int32 × FS)), (∀ (S38 : FS) (x38_5 : Int32), k97 S38  x38_5 = some R → pm_wp mX12_plans G B 123 [some (.ref (B + 54)), some (.int 0), some (.int zb), some (.int zc), some (.int x34_4), some (.int x38_5), none] [] 0 0 cnt (mst B S38 σ)) → ∀ (m97 : Nat) (S38 : FS) (x38_5 : Int32), l_X12_plans_k0_97 k97 m97 S38  x38_5 = some R → pm_wp mX12_plans G B 97 [some (.ref (B + 54)), some (.int 0), some (.int zb), some (.int zc), some (.int x34_4), some (.int x38_5), none] [] 0 0 cnt (mst B S38 σ) := by
        intro k97 hk97 m97
        induction m97 with
        | zero => intro S38  x38_5 hE; exact fx_no hE
        | succ m97 ih97 =>
          intro S38  x38_5 hE
          rw [l_X12_plans_k0_97] at hE
          refine pm_iloadi hG dX12_plans_97 rfl ?_
          refine pm_iloadn hG dX12_plans_99 rfl ?_
          refine pm_icmp_ge (tgt := 123) hG dX12_plans_100 rfl (fun c39 => ?_) (fun c39 => ?_)
          · replace c39 := Int32.not_lt.mpr c39
            replace hE := fx_f c39 hE
            exact hk97 _ _ hE
          · replace c39 := Int32.not_le.mp c39
            replace hE := fx_t c39 hE
            refine pm_aloadn hG dX12_plans_103 rfl ?_
            refine pm_getf hG dX12_plans_104 (flX12_49 _ rfl) rfl rfl ?_
            refine pm_iloadi hG dX12_plans_107 rfl ?_
            refine pm_aloadn hG dX12_plans_109 rfl ?_
            refine pm_getf hG dX12_plans_110 (flX12_46 _ rfl) rfl rfl ?_
            refine pm_iloadi hG dX12_plans_113 rfl ?_
            obtain ⟨j40, hj40, hE⟩ := fb_some hE
            refine fx_iald hG dX12_plans_115 rfl hj40 ?_
            refine fx_iast hG dX12_plans_116 rfl hj40 ?_
            refine ma_68 ?_
            refine fx_letm hE (fun S41 hE => ?_)
            refine pm_iincX (v := x38_5 + 1) (loc' := [some (.ref (B + 54)), some (.int 0), some (.int zb), some (.int zc), some (.int x34_4), some (.int (x38_5 + 1)), none]) hG dX12_plans_117 rfl (by rfl) (by decide) (pm_c1b rfl) rfl ?_
            refine pm_goto (tgt := 97) hG dX12_plans_120 rfl ?_
            exact ih97 _ _ hE
      refine loop97 _ (fun S42 x42_5 hE => ?_) _ _ _ hE
      exact pm_vret hG hF dX12_plans_123 rfl (Nat.le_refl _) (Nat.le_refl _) (fx_rvm hE)
    refine pm_aloadn hG dX12_plans_66 rfl ?_
    refine pm_getf hG dX12_plans_67 (flX12_273 _ rfl) rfl rfl ?_
    refine pm_if_eq (tgt := 83) hG dX12_plans_70 rfl (fun c43 => ?_) (fun c43 => ?_)
    · replace hE := fx_t c43 hE
      exact join83 _ hE
    · replace hE := fx_f c43 hE
      refine pm_iloadi hG dX12_plans_73 rfl ?_
      refine pm_aloadn hG dX12_plans_75 rfl ?_
      refine pm_getf hG dX12_plans_76 (flX12_277 _ rfl) rfl rfl ?_
      refine pm_icmp_gt (tgt := 83) hG dX12_plans_79 rfl (fun c44 => ?_) (fun c44 => ?_)
      · replace hE := fx_t c44 hE
        exact join83 _ hE
      · replace hE := fx_f c44 hE
        exact pm_vret hG hF dX12_plans_82 rfl (Nat.le_refl _) (Nat.le_refl _) (fx_rvm hE)

set_option maxRecDepth 100000 in
set_option maxHeartbeats 4000000 in
theorem c_X12_plan {d : Nat} {B cnt : Nat} {σ : pm_S} {S : FS} {za : Int32} {zb : Int32} {R : Int32 × FS} (hdd : 10 ≤ d) (hE : f_X12_plan S za zb = some R) : pm_met mX12_plan d 0 0 B [.ref (B + 54), .int za, .int zb] cnt (mst B S σ) (pm_Qi (fun v σ' cnt' => v = R.1 ∧ σ' = (mst B R.2 σ) ∧ cnt' = cnt)) := by
  refine pm_enter 3 (by decide) (Nat.le_of_ble_eq_true rfl) rfl (fun G hG hR hF => ?_)
  unfold f_X12_plan at hE
  refine pm_iloadn hG dX12_plan_0 rfl ?_
  refine pm_callS (As := [.int za]) (rest := []) hG hR dX12_plan_1 (lkX12_239 _ rfl) okS_X12_isSheet (c_X12_isSheet (d := 9) (by decide) rfl) rfl rfl hdd (Nat.le_refl _) (Nat.le_refl _) (by decide) (fx_ki ?_)
  refine pm_if_ne (tgt := 13) hG dX12_plan_4 rfl (fun c1 => ?_) (fun c1 => ?_)
  · replace hE := fx_f c1 hE
    refine pm_aloadn hG dX12_plan_13 rfl ?_
    refine pm_getf hG dX12_plan_14 (flX12_55 _ rfl) rfl rfl ?_
    refine pm_iloadn hG dX12_plan_17 rfl ?_
    obtain ⟨j2, hj2, hE⟩ := fb_some hE
    refine fx_iald hG dX12_plan_18 rfl hj2 ?_
    refine pm_if_ne (tgt := 28) hG dX12_plan_19 rfl (fun c3 => ?_) (fun c3 => ?_)
    · replace hE := fx_f c3 hE
      have join65 : ∀ (S4 : FS) (v4_3 : Int32), j_X12_plan_65 za zb S4 v4_3 = some R → pm_wp mX12_plan G B 65 [some (.ref (B + 54)), some (.int za), some (.int zb), some (.int v4_3), none, none] [] 0 0 cnt (mst B S4 σ) := by
        intro S4 v4_3 hE
        unfold j_X12_plan_65 at hE
        refine pm_iconst (v := 0) hG dX12_plan_65 (by decide) ?_
        refine pm_istoreXi (loc' := [some (.ref (B + 54)), some (.int za), some (.int zb), some (.int v4_3), some (.int 0), none]) hG dX12_plan_66 (by decide) (pm_c1b rfl) rfl ?_
        have loop68 : ∀ (k68 : FS → Int32 → Int32 → Option (Int32 × FS)), (∀ (S5 : FS) (x5_3 : Int32) (x5_4 : Int32), k68 S5  x5_3 x5_4 = some R → pm_wp mX12_plan G B 117 [some (.ref (B + 54)), some (.int za), some (.int zb), some (.int x5_3), some (.int x5_4), none] [] 0 0 cnt (mst B S5 σ)) → ∀ (m68 : Nat) (S5 : FS) (x5_3 : Int32) (x5_4 : Int32), l_X12_plan_68 za k68 m68 S5  x5_3 x5_4 = some R → pm_wp mX12_plan G B 68 [some (.ref (B + 54)), some (.int za), some (.int zb), some (.int x5_3), some (.int x5_4), none] [] 0 0 cnt (mst B S5 σ) := by
          intro k68 hk68 m68
          induction m68 with
          | zero => intro S5  x5_3 x5_4 hE; exact fx_no hE
          | succ m68 ih68 =>
            intro S5  x5_3 x5_4 hE
            rw [l_X12_plan_68] at hE
            refine pm_iloadi hG dX12_plan_68 rfl ?_
            refine pm_aloadn hG dX12_plan_70 rfl ?_
            refine pm_getf hG dX12_plan_71 (flX12_58 _ rfl) rfl rfl ?_
            refine pm_iloadn hG dX12_plan_74 rfl ?_
            obtain ⟨j6, hj6, hE⟩ := fb_some hE
            refine fx_iald hG dX12_plan_75 rfl hj6 ?_
            refine pm_icmp_ge (tgt := 117) hG dX12_plan_76 rfl (fun c7 => ?_) (fun c7 => ?_)
            · replace c7 := Int32.not_lt.mpr c7
              replace hE := fx_f c7 hE
              exact hk68 _ _ _ hE
            · replace c7 := Int32.not_le.mp c7
              replace hE := fx_t c7 hE
              refine pm_iloadn hG dX12_plan_79 rfl ?_
              refine pm_if_eq (tgt := 109) hG dX12_plan_80 rfl (fun c8 => ?_) (fun c8 => ?_)
              · replace hE := fx_t c8 hE
                refine pm_iconst (v := 0) hG dX12_plan_109 (by decide) ?_
                refine pm_istoreXn (loc' := [some (.ref (B + 54)), some (.int za), some (.int zb), some (.int 0), some (.int x5_4), none]) hG dX12_plan_110 (by decide) (pm_c1b rfl) rfl ?_
                refine pm_iincX (v := x5_4 + 1) (loc' := [some (.ref (B + 54)), some (.int za), some (.int zb), some (.int 0), some (.int (x5_4 + 1)), none]) hG dX12_plan_111 rfl (by rfl) (by decide) (pm_c1b rfl) rfl ?_
                refine pm_goto (tgt := 68) hG dX12_plan_114 rfl ?_
                exact ih68 _ _ _ hE
              · replace hE := fx_f c8 hE
                refine pm_aloadn hG dX12_plan_83 rfl ?_
                refine pm_getf hG dX12_plan_84 (flX12_61 _ rfl) rfl rfl ?_
                refine pm_bipush (v := 24) hG dX12_plan_87 (by decide) ?_
                refine pm_iloadn hG dX12_plan_89 rfl ?_
                refine pm_imul hG dX12_plan_90 ?_
                refine pm_iloadi hG dX12_plan_91 rfl ?_
                refine pm_iadd hG dX12_plan_93 ?_
                obtain ⟨j9, hj9, hE⟩ := fb_some hE
                refine fx_iald hG dX12_plan_94 rfl hj9 ?_
                refine pm_iconst (v := 0) hG dX12_plan_95 (by decide) ?_
                refine pm_sipush (v := 9999) hG dX12_plan_96 (by decide) ?_
                refine pm_callS (As := [.int (S5.2 72 j9), .int 0, .int 9999]) (rest := []) hG hR dX12_plan_99 (lkX12_68 _ rfl) okS_X12_in (c_X12_in (d := 9) (by decide) rfl) rfl rfl hdd (Nat.le_refl _) (Nat.le_refl _) (by decide) (fx_ki ?_)
                refine pm_if_eq (tgt := 109) hG dX12_plan_102 rfl (fun c10 => ?_) (fun c10 => ?_)
                · replace hE := fx_t c10 hE
                  refine pm_iconst (v := 0) hG dX12_plan_109 (by decide) ?_
                  refine pm_istoreXn (loc' := [some (.ref (B + 54)), some (.int za), some (.int zb), some (.int 0), some (.int x5_4), none]) hG dX12_plan_110 (by decide) (pm_c1b rfl) rfl ?_
                  refine pm_iincX (v := x5_4 + 1) (loc' := [some (.ref (B + 54)), some (.int za), some (.int zb), some (.int 0), some (.int (x5_4 + 1)), none]) hG dX12_plan_111 rfl (by rfl) (by decide) (pm_c1b rfl) rfl ?_
                  refine pm_goto (tgt := 68) hG dX12_plan_114 rfl ?_
                  exact ih68 _ _ _ hE
                · replace hE := fx_f c10 hE
                  refine pm_iconst (v := 1) hG dX12_plan_105 (by decide) ?_
                  refine pm_goto (tgt := 110) hG dX12_plan_106 rfl ?_
                  refine pm_istoreXn (loc' := [some (.ref (B + 54)), some (.int za), some (.int zb), some (.int 1), some (.int x5_4), none]) hG dX12_plan_110 (by decide) (pm_c1b rfl) rfl ?_
                  refine pm_iincX (v := x5_4 + 1) (loc' := [some (.ref (B + 54)), some (.int za), some (.int zb), some (.int 1), some (.int (x5_4 + 1)), none]) hG dX12_plan_111 rfl (by rfl) (by decide) (pm_c1b rfl) rfl ?_
                  refine pm_goto (tgt := 68) hG dX12_plan_114 rfl ?_
                  exact ih68 _ _ _ hE
        refine loop68 _ (fun S11 x11_3 x11_4 hE => ?_) _ _ _ _ hE
        refine pm_iloadn hG dX12_plan_117 rfl ?_
        refine pm_if_ne (tgt := 127) hG dX12_plan_118 rfl (fun c12 => ?_) (fun c12 => ?_)
        · replace hE := fx_f c12 hE
          refine pm_iconst (v := 0) hG dX12_plan_127 (by decide) ?_
          refine pm_istoreXi (loc' := [some (.ref (B + 54)), some (.int za), some (.int zb), some (.int x11_3), some (.int 0), none]) hG dX12_plan_128 (by decide) (pm_c1b rfl) rfl ?_
          refine pm_iconst (v := 0) hG dX12_plan_130 (by decide) ?_
          refine pm_istoreXi (loc' := [some (.ref (B + 54)), some (.int za), some (.int zb), some (.int x11_3), some (.int 0), some (.int 0)]) hG dX12_plan_131 (by decide) (pm_c1b rfl) rfl ?_
          have loop133 : ∀ (k133 : FS → Int32 → Int32 → Option (Int32 × FS)), (∀ (S13 : FS) (x13_4 : Int32) (x13_5 : Int32), k133 S13  x13_4 x13_5 = some R → pm_wp mX12_plan G B 205 [some (.ref (B + 54)), some (.int za), some (.int zb), some (.int x11_3), some (.int x13_4), some (.int x13_5)] [] 0 0 cnt (mst B S13 σ)) → ∀ (m133 : Nat) (S13 : FS) (x13_4 : Int32) (x13_5 : Int32), l_X12_plan_133 k133 m133 S13  x13_4 x13_5 = some R → pm_wp mX12_plan G B 133 [some (.ref (B + 54)), some (.int za), some (.int zb), some (.int x11_3), some (.int x13_4), some (.int x13_5)] [] 0 0 cnt (mst B S13 σ) := by
            intro k133 hk133 m133
            induction m133 with
            | zero => intro S13  x13_4 x13_5 hE; exact fx_no hE
            | succ m133 ih133 =>
              intro S13  x13_4 x13_5 hE
              rw [l_X12_plan_133] at hE
              refine pm_iloadi hG dX12_plan_133 rfl ?_
              refine pm_bipush (v := 6) hG dX12_plan_135 (by decide) ?_
              refine pm_icmp_ge (tgt := 205) hG dX12_plan_137 rfl (fun c14 => ?_) (fun c14 => ?_)
              · replace c14 := Int32.not_lt.mpr c14
                replace hE := fx_f c14 hE
                exact hk133 _ _ _ hE
              · replace c14 := Int32.not_le.mp c14
                replace hE := fx_t c14 hE
                refine pm_iloadi hG dX12_plan_140 rfl ?_
                refine pm_aloadn hG dX12_plan_142 rfl ?_
                refine pm_getf hG dX12_plan_143 (flX12_7 _ rfl) rfl rfl ?_
                refine pm_iconst (v := 0) hG dX12_plan_146 (by decide) ?_
                refine fx_iald hG dX12_plan_147 rfl (ix_lit (by decide) rfl) ?_
                refine pm_icmp_ge (tgt := 205) hG dX12_plan_148 rfl (fun c15 => ?_) (fun c15 => ?_)
                · replace c15 := Int32.not_lt.mpr c15
                  replace hE := fx_f c15 hE
                  exact hk133 _ _ _ hE
                · replace c15 := Int32.not_le.mp c15
                  replace hE := fx_t c15 hE
                  refine pm_iloadi hG dX12_plan_151 rfl ?_
                  refine pm_aloadn hG dX12_plan_153 rfl ?_
                  refine pm_getf hG dX12_plan_154 (flX12_7 _ rfl) rfl rfl ?_
                  refine pm_bipush (v := 20) hG dX12_plan_157 (by decide) ?_
                  refine pm_iconst (v := 3) hG dX12_plan_159 (by decide) ?_
                  refine pm_iloadi hG dX12_plan_160 rfl ?_
                  refine pm_imul hG dX12_plan_162 ?_
                  refine pm_iadd hG dX12_plan_163 ?_
                  refine pm_iconst (v := 1) hG dX12_plan_164 (by decide) ?_
                  refine pm_iadd hG dX12_plan_165 ?_
                  obtain ⟨j16, hj16, hE⟩ := fb_some hE
                  refine fx_iald hG dX12_plan_166 rfl hj16 ?_
                  refine pm_iconst (v := (-1)) hG dX12_plan_167 (by decide) ?_
                  refine pm_icmp_ne (tgt := 195) hG dX12_plan_168 rfl (fun c17 => ?_) (fun c17 => ?_)
                  · replace hE := fx_f c17 hE
                    refine pm_iconst (v := 0) hG dX12_plan_195 (by decide) ?_
                    refine pm_ior hG dX12_plan_196 ?_
                    refine fx_letv hE (fun x18 hE => ?_)
                    refine pm_istoreXi (loc' := [some (.ref (B + 54)), some (.int za), some (.int zb), some (.int x11_3), some (.int x18), some (.int x13_5)]) hG dX12_plan_197 (by decide) (pm_c1b rfl) rfl ?_
                    refine pm_iincX (v := x13_5 + 1) (loc' := [some (.ref (B + 54)), some (.int za), some (.int zb), some (.int x11_3), some (.int x18), some (.int (x13_5 + 1))]) hG dX12_plan_199 rfl (by rfl) (by decide) (pm_c1b rfl) rfl ?_
                    refine pm_goto (tgt := 133) hG dX12_plan_202 rfl ?_
                    exact ih133 _ _ _ hE
                  · replace hE := fx_t c17 hE
                    refine pm_aloadn hG dX12_plan_171 rfl ?_
                    refine pm_getf hG dX12_plan_172 (flX12_7 _ rfl) rfl rfl ?_
                    refine pm_bipush (v := 20) hG dX12_plan_175 (by decide) ?_
                    refine pm_iconst (v := 3) hG dX12_plan_177 (by decide) ?_
                    refine pm_iloadi hG dX12_plan_178 rfl ?_
                    refine pm_imul hG dX12_plan_180 ?_
                    refine pm_iadd hG dX12_plan_181 ?_
                    refine pm_iconst (v := 2) hG dX12_plan_182 (by decide) ?_
                    refine pm_iadd hG dX12_plan_183 ?_
                    obtain ⟨j19, hj19, hE⟩ := fb_some hE
                    refine fx_iald hG dX12_plan_184 rfl hj19 ?_
                    refine pm_if_ne (tgt := 195) hG dX12_plan_185 rfl (fun c20 => ?_) (fun c20 => ?_)
                    · replace hE := fx_f c20 hE
                      refine pm_iconst (v := 0) hG dX12_plan_195 (by decide) ?_
                      refine pm_ior hG dX12_plan_196 ?_
                      refine fx_letv hE (fun x21 hE => ?_)
                      refine pm_istoreXi (loc' := [some (.ref (B + 54)), some (.int za), some (.int zb), some (.int x11_3), some (.int x21), some (.int x13_5)]) hG dX12_plan_197 (by decide) (pm_c1b rfl) rfl ?_
                      refine pm_iincX (v := x13_5 + 1) (loc' := [some (.ref (B + 54)), some (.int za), some (.int zb), some (.int x11_3), some (.int x21), some (.int (x13_5 + 1))]) hG dX12_plan_199 rfl (by rfl) (by decide) (pm_c1b rfl) rfl ?_
                      refine pm_goto (tgt := 133) hG dX12_plan_202 rfl ?_
                      exact ih133 _ _ _ hE
                    · replace hE := fx_t c20 hE
                      refine pm_iconst (v := 1) hG dX12_plan_188 (by decide) ?_
                      refine pm_iloadi hG dX12_plan_189 rfl ?_
                      refine pm_ishl hG dX12_plan_191 ?_
                      refine pm_goto (tgt := 196) hG dX12_plan_192 rfl ?_
                      refine pm_ior hG dX12_plan_196 ?_
                      refine fx_letv hE (fun x22 hE => ?_)
                      refine pm_istoreXi (loc' := [some (.ref (B + 54)), some (.int za), some (.int zb), some (.int x11_3), some (.int x22), some (.int x13_5)]) hG dX12_plan_197 (by decide) (pm_c1b rfl) rfl ?_
                      refine pm_iincX (v := x13_5 + 1) (loc' := [some (.ref (B + 54)), some (.int za), some (.int zb), some (.int x11_3), some (.int x22), some (.int (x13_5 + 1))]) hG dX12_plan_199 rfl (by rfl) (by decide) (pm_c1b rfl) rfl ?_
                      refine pm_goto (tgt := 133) hG dX12_plan_202 rfl ?_
                      exact ih133 _ _ _ hE
          refine loop133 _ (fun S23 x23_4 x23_5 hE => ?_) _ _ _ _ hE
          refine pm_aloadn hG dX12_plan_205 rfl ?_
          refine pm_iloadn hG dX12_plan_206 rfl ?_
          refine pm_putf hG dX12_plan_207 (fwX12_270 _ rfl) rfl rfl rfl ?_
          refine mi_18 ?_
          refine fx_letm hE (fun S24 hE => ?_)
          refine pm_aloadn hG dX12_plan_210 rfl ?_
          refine pm_iconst (v := 0) hG dX12_plan_211 (by decide) ?_
          refine pm_putf hG dX12_plan_212 (fwX12_273 _ rfl) rfl (by decide) (by decide) ?_
          refine mi_20 ?_
          refine fx_letm hE (fun S25 hE => ?_)
          refine pm_aloadn hG dX12_plan_215 rfl ?_
          refine pm_iconst (v := 0) hG dX12_plan_216 (by decide) ?_
          refine pm_iloadi hG dX12_plan_217 rfl ?_
          refine pm_aloadn hG dX12_plan_219 rfl ?_
          refine pm_getf hG dX12_plan_220 (flX12_7 _ rfl) rfl rfl ?_
          refine pm_bipush (v := 9) hG dX12_plan_223 (by decide) ?_
          refine fx_iald hG dX12_plan_225 rfl (ix_lit (by decide) rfl) ?_
          obtain ⟨r27, h26, hE⟩ := fb_some hE
          refine pm_callV (As := [.int 0, .int x23_4, .int (S25.2 55 9)]) (rest := []) hG hR dX12_plan_226 (lkX12_280 _ rfl) okV_X12_plans rfl rfl (c_X12_plans_k0 (d := 9) (by decide) h26) rfl rfl hdd (Nat.le_refl _) (Nat.le_refl _) (by decide) (fx_kv ?_)
          refine pm_aloadn hG dX12_plan_229 rfl ?_
          refine pm_getf hG dX12_plan_230 (flX12_273 _ rfl) rfl rfl ?_
          refine pm_if_ne (tgt := 244) hG dX12_plan_233 rfl (fun c28 => ?_) (fun c28 => ?_)
          · replace hE := fx_f c28 hE
            refine pm_iloadn hG dX12_plan_244 rfl ?_
            refine pm_if_ge (tgt := 255) hG dX12_plan_245 rfl (fun c29 => ?_) (fun c29 => ?_)
            · replace c29 := Int32.not_lt.mpr c29
              replace hE := fx_f c29 hE
              refine pm_aloadn hG dX12_plan_255 rfl ?_
              refine pm_getf hG dX12_plan_256 (flX12_49 _ rfl) rfl rfl ?_
              refine pm_iloadn hG dX12_plan_259 rfl ?_
              obtain ⟨j30, hj30, hE⟩ := fb_some hE
              refine fx_iald hG dX12_plan_260 rfl hj30 ?_
              exact pm_iret hG hF dX12_plan_261 rfl (Nat.le_refl _) (Nat.le_refl _) (fx_rim hE)
            · replace c29 := Int32.not_le.mp c29
              replace hE := fx_t c29 hE
              refine pm_aloadn hG dX12_plan_248 rfl ?_
              refine pm_getf hG dX12_plan_249 (flX12_277 _ rfl) rfl rfl ?_
              refine pm_goto (tgt := 261) hG dX12_plan_252 rfl ?_
              exact pm_iret hG hF dX12_plan_261 rfl (Nat.le_refl _) (Nat.le_refl _) (fx_rim hE)
          · replace hE := fx_t c28 hE
            refine pm_aloadn hG dX12_plan_236 rfl ?_
            refine pm_iconst (v := 3) hG dX12_plan_237 (by decide) ?_
            obtain ⟨r32, h31, hE⟩ := fb_some hE
            refine pm_callV (As := [.int 3]) (rest := []) hG hR dX12_plan_238 (lkX12_80 _ rfl) okV_X12_finds rfl rfl (c_X12_finds (d := 9) (by decide) h31) rfl rfl hdd (Nat.le_refl _) (Nat.le_refl _) (by decide) (fx_ki ?_)
            refine pm_goto (tgt := 261) hG dX12_plan_241 rfl ?_
            exact pm_iret hG hF dX12_plan_261 rfl (Nat.le_refl _) (Nat.le_refl _) (fx_rim hE)
        · replace hE := fx_t c12 hE
          refine pm_aloadn hG dX12_plan_121 rfl ?_
          refine pm_iconst (v := 1) hG dX12_plan_122 (by decide) ?_
          obtain ⟨r34, h33, hE⟩ := fb_some hE
          refine pm_callV (As := [.int 1]) (rest := []) hG hR dX12_plan_123 (lkX12_80 _ rfl) okV_X12_finds rfl rfl (c_X12_finds (d := 9) (by decide) h33) rfl rfl hdd (Nat.le_refl _) (Nat.le_refl _) (by decide) (fx_ki ?_)
          exact pm_iret hG hF dX12_plan_126 rfl (Nat.le_refl _) (Nat.le_refl _) (fx_rim hE)
      refine pm_aloadn hG dX12_plan_28 rfl ?_
      refine pm_getf hG dX12_plan_29 (flX12_58 _ rfl) rfl rfl ?_
      refine pm_iloadn hG dX12_plan_32 rfl ?_
      refine fx_iald hG dX12_plan_33 rfl hj2 ?_
      refine pm_iconst (v := 1) hG dX12_plan_34 (by decide) ?_
      refine pm_bipush (v := 8) hG dX12_plan_35 (by decide) ?_
      refine pm_callS (As := [.int (S.2 71 j2), .int 1, .int 8]) (rest := []) hG hR dX12_plan_37 (lkX12_68 _ rfl) okS_X12_in (c_X12_in (d := 9) (by decide) rfl) rfl rfl hdd (Nat.le_refl _) (Nat.le_refl _) (by decide) (fx_ki ?_)
      refine pm_if_eq (tgt := 63) hG dX12_plan_40 rfl (fun c35 => ?_) (fun c35 => ?_)
      · replace hE := fx_t c35 hE
        refine pm_iconst (v := 0) hG dX12_plan_63 (by decide) ?_
        refine pm_istoreXn (loc' := [some (.ref (B + 54)), some (.int za), some (.int zb), some (.int 0), none, none]) hG dX12_plan_64 (by decide) (pm_c1b rfl) rfl ?_
        exact join65 _ _ hE
      · replace hE := fx_f c35 hE
        refine pm_iloadn hG dX12_plan_43 rfl ?_
        refine pm_iconst (v := (-1)) hG dX12_plan_44 (by decide) ?_
        refine pm_aloadn hG dX12_plan_45 rfl ?_
        refine pm_getf hG dX12_plan_46 (flX12_58 _ rfl) rfl rfl ?_
        refine pm_iloadn hG dX12_plan_49 rfl ?_
        refine fx_iald hG dX12_plan_50 rfl hj2 ?_
        refine pm_iconst (v := 1) hG dX12_plan_51 (by decide) ?_
        refine pm_isub hG dX12_plan_52 ?_
        refine pm_callS (As := [.int zb, .int (-1), .int ((S.2 71 j2) - 1)]) (rest := []) hG hR dX12_plan_53 (lkX12_68 _ rfl) okS_X12_in (c_X12_in (d := 9) (by decide) rfl) rfl rfl hdd (Nat.le_refl _) (Nat.le_refl _) (by decide) (fx_ki ?_)
        refine pm_if_eq (tgt := 63) hG dX12_plan_56 rfl (fun c36 => ?_) (fun c36 => ?_)
        · replace hE := fx_t c36 hE
          refine pm_iconst (v := 0) hG dX12_plan_63 (by decide) ?_
          refine pm_istoreXn (loc' := [some (.ref (B + 54)), some (.int za), some (.int zb), some (.int 0), none, none]) hG dX12_plan_64 (by decide) (pm_c1b rfl) rfl ?_
          exact join65 _ _ hE
        · replace hE := fx_f c36 hE
          refine pm_iconst (v := 1) hG dX12_plan_59 (by decide) ?_
          refine pm_goto (tgt := 64) hG dX12_plan_60 rfl ?_
          refine pm_istoreXn (loc' := [some (.ref (B + 54)), some (.int za), some (.int zb), some (.int 1), none, none]) hG dX12_plan_64 (by decide) (pm_c1b rfl) rfl ?_
          exact join65 _ _ hE
    · replace hE := fx_t c3 hE
      refine pm_aloadn hG dX12_plan_22 rfl ?_
      refine pm_iconst (v := 2) hG dX12_plan_23 (by decide) ?_
      obtain ⟨r38, h37, hE⟩ := fb_some hE
      refine pm_callV (As := [.int 2]) (rest := []) hG hR dX12_plan_24 (lkX12_80 _ rfl) okV_X12_finds rfl rfl (c_X12_finds (d := 9) (by decide) h37) rfl rfl hdd (Nat.le_refl _) (Nat.le_refl _) (by decide) (fx_ki ?_)
      exact pm_iret hG hF dX12_plan_27 rfl (Nat.le_refl _) (Nat.le_refl _) (fx_rim hE)
  · replace hE := fx_t c1 hE
    refine pm_aloadn hG dX12_plan_7 rfl ?_
    refine pm_iconst (v := 1) hG dX12_plan_8 (by decide) ?_
    obtain ⟨r40, h39, hE⟩ := fb_some hE
    refine pm_callV (As := [.int 1]) (rest := []) hG hR dX12_plan_9 (lkX12_80 _ rfl) okV_X12_finds rfl rfl (c_X12_finds (d := 9) (by decide) h39) rfl rfl hdd (Nat.le_refl _) (Nat.le_refl _) (by decide) (fx_ki ?_)
    exact pm_iret hG hF dX12_plan_12 rfl (Nat.le_refl _) (Nat.le_refl _) (fx_rim hE)

set_option maxRecDepth 100000 in
set_option maxHeartbeats 4000000 in
theorem c_X12_power {d : Nat} {B cnt : Nat} {σ : pm_S} {S : FS} {za : Int32} {zb : Int32} {zc : Int32} {R : Int32 × FS} (hdd : 4 ≤ d) (hE : f_X12_power S za zb zc = some R) : pm_met mX12_power d 0 0 B [.ref (B + 54), .int za, .int zb, .int zc] cnt (mst B S σ) (pm_Qi (fun v σ' cnt' => v = R.1 ∧ σ' = (mst B R.2 σ) ∧ cnt' = cnt)) := by
  refine pm_enter 0 (by decide) (Nat.le_of_ble_eq_true rfl) rfl (fun G hG hR hF => ?_)
  unfold f_X12_power at hE
  refine pm_iloadn hG dX12_power_0 rfl ?_
  refine pm_iconst (v := 0) hG dX12_power_1 (by decide) ?_
  refine pm_iconst (v := 5) hG dX12_power_2 (by decide) ?_
  refine pm_callS (As := [.int za, .int 0, .int 5]) (rest := []) hG hR dX12_power_3 (lkX12_68 _ rfl) okS_X12_in (c_X12_in (d := 3) (by decide) rfl) rfl rfl hdd (Nat.le_refl _) (Nat.le_refl _) (by decide) (fx_ki ?_)
  refine pm_if_eq (tgt := 40) hG dX12_power_6 rfl (fun c1 => ?_) (fun c1 => ?_)
  · replace hE := fx_t c1 hE
    refine pm_aloadn hG dX12_power_40 rfl ?_
    refine pm_iconst (v := 1) hG dX12_power_41 (by decide) ?_
    obtain ⟨r3, h2, hE⟩ := fb_some hE
    refine pm_callV (As := [.int 1]) (rest := []) hG hR dX12_power_42 (lkX12_80 _ rfl) okV_X12_finds rfl rfl (c_X12_finds (d := 3) (by decide) h2) rfl rfl hdd (Nat.le_refl _) (Nat.le_refl _) (by decide) (fx_ki ?_)
    exact pm_iret hG hF dX12_power_45 rfl (Nat.le_refl _) (Nat.le_refl _) (fx_rim hE)
  · replace hE := fx_f c1 hE
    refine pm_iloadn hG dX12_power_9 rfl ?_
    refine pm_iconst (v := (-1)) hG dX12_power_10 (by decide) ?_
    refine pm_icmp_eq (tgt := 30) hG dX12_power_11 rfl (fun c4 => ?_) (fun c4 => ?_)
    · replace hE := fx_t c4 hE
      refine pm_iloadn hG dX12_power_30 rfl ?_
      refine pm_iconst (v := 0) hG dX12_power_31 (by decide) ?_
      refine pm_bipush (v := 99) hG dX12_power_32 (by decide) ?_
      refine pm_callS (As := [.int zc, .int 0, .int 99]) (rest := []) hG hR dX12_power_34 (lkX12_68 _ rfl) okS_X12_in (c_X12_in (d := 3) (by decide) rfl) rfl rfl hdd (Nat.le_refl _) (Nat.le_refl _) (by decide) (fx_ki ?_)
      refine pm_if_ne (tgt := 46) hG dX12_power_37 rfl (fun c5 => ?_) (fun c5 => ?_)
      · replace hE := fx_f c5 hE
        refine pm_aloadn hG dX12_power_46 rfl ?_
        refine pm_getf hG dX12_power_47 (flX12_7 _ rfl) rfl rfl ?_
        refine pm_iconst (v := 3) hG dX12_power_50 (by decide) ?_
        refine fx_iald hG dX12_power_51 rfl (ix_lit (by decide) rfl) ?_
        refine pm_bipush (v := 20) hG dX12_power_52 (by decide) ?_
        refine pm_icmp_ne (tgt := 65) hG dX12_power_54 rfl (fun c6 => ?_) (fun c6 => ?_)
        · replace hE := fx_f c6 hE
          refine pm_aloadn hG dX12_power_65 rfl ?_
          refine pm_iloadn hG dX12_power_66 rfl ?_
          refine pm_iloadn hG dX12_power_67 rfl ?_
          refine pm_iloadn hG dX12_power_68 rfl ?_
          refine pm_iconst (v := (-1)) hG dX12_power_69 (by decide) ?_
          obtain ⟨r8, h7, hE⟩ := fb_some hE
          refine pm_callV (As := [.int za, .int zb, .int zc, .int (-1)]) (rest := []) hG hR dX12_power_70 (lkX12_128 _ rfl) okV_X12_newPower rfl rfl (c_X12_newPower (d := 3) (by decide) h7) rfl rfl hdd (Nat.le_refl _) (Nat.le_refl _) (by decide) (fx_ki ?_)
          exact pm_iret hG hF dX12_power_73 rfl (Nat.le_refl _) (Nat.le_refl _) (fx_rim hE)
        · replace hE := fx_t c6 hE
          refine pm_aloadn hG dX12_power_57 rfl ?_
          refine pm_iconst (v := 4) hG dX12_power_58 (by decide) ?_
          obtain ⟨r10, h9, hE⟩ := fb_some hE
          refine pm_callV (As := [.int 4]) (rest := []) hG hR dX12_power_59 (lkX12_80 _ rfl) okV_X12_finds rfl rfl (c_X12_finds (d := 3) (by decide) h9) rfl rfl hdd (Nat.le_refl _) (Nat.le_refl _) (by decide) (fx_ki ?_)
          refine pm_goto (tgt := 73) hG dX12_power_62 rfl ?_
          exact pm_iret hG hF dX12_power_73 rfl (Nat.le_refl _) (Nat.le_refl _) (fx_rim hE)
      · replace hE := fx_t c5 hE
        refine pm_aloadn hG dX12_power_40 rfl ?_
        refine pm_iconst (v := 1) hG dX12_power_41 (by decide) ?_
        obtain ⟨r12, h11, hE⟩ := fb_some hE
        refine pm_callV (As := [.int 1]) (rest := []) hG hR dX12_power_42 (lkX12_80 _ rfl) okV_X12_finds rfl rfl (c_X12_finds (d := 3) (by decide) h11) rfl rfl hdd (Nat.le_refl _) (Nat.le_refl _) (by decide) (fx_ki ?_)
        exact pm_iret hG hF dX12_power_45 rfl (Nat.le_refl _) (Nat.le_refl _) (fx_rim hE)
    · replace hE := fx_f c4 hE
      refine pm_aloadn hG dX12_power_14 rfl ?_
      refine pm_iloadn hG dX12_power_15 rfl ?_
      refine pm_callV (As := [.int zb]) (rest := []) hG hR dX12_power_16 (lkX12_91 _ rfl) okV_X12_isPerson rfl rfl (c_X12_isPerson (d := 3) (by decide) rfl) rfl rfl hdd (Nat.le_refl _) (Nat.le_refl _) (by decide) (fx_ki ?_)
      refine pm_if_eq (tgt := 40) hG dX12_power_19 rfl (fun c13 => ?_) (fun c13 => ?_)
      · replace hE := fx_t c13 hE
        refine pm_aloadn hG dX12_power_40 rfl ?_
        refine pm_iconst (v := 1) hG dX12_power_41 (by decide) ?_
        obtain ⟨r15, h14, hE⟩ := fb_some hE
        refine pm_callV (As := [.int 1]) (rest := []) hG hR dX12_power_42 (lkX12_80 _ rfl) okV_X12_finds rfl rfl (c_X12_finds (d := 3) (by decide) h14) rfl rfl hdd (Nat.le_refl _) (Nat.le_refl _) (by decide) (fx_ki ?_)
        exact pm_iret hG hF dX12_power_45 rfl (Nat.le_refl _) (Nat.le_refl _) (fx_rim hE)
      · replace hE := fx_f c13 hE
        refine pm_aloadn hG dX12_power_22 rfl ?_
        refine pm_iloadn hG dX12_power_23 rfl ?_
        obtain ⟨x17, h16, hE⟩ := fb_some hE
        refine pm_callV (As := [.int zb]) (rest := []) hG hR dX12_power_24 (lkX12_101 _ rfl) okV_X12_lives rfl rfl (c_X12_lives (d := 3) (by decide) h16) rfl rfl hdd (Nat.le_refl _) (Nat.le_refl _) (by decide) (fx_ki ?_)
        refine pm_if_eq (tgt := 40) hG dX12_power_27 rfl (fun c18 => ?_) (fun c18 => ?_)
        · replace hE := fx_t c18 hE
          refine pm_aloadn hG dX12_power_40 rfl ?_
          refine pm_iconst (v := 1) hG dX12_power_41 (by decide) ?_
          obtain ⟨r20, h19, hE⟩ := fb_some hE
          refine pm_callV (As := [.int 1]) (rest := []) hG hR dX12_power_42 (lkX12_80 _ rfl) okV_X12_finds rfl rfl (c_X12_finds (d := 3) (by decide) h19) rfl rfl hdd (Nat.le_refl _) (Nat.le_refl _) (by decide) (fx_ki ?_)
          exact pm_iret hG hF dX12_power_45 rfl (Nat.le_refl _) (Nat.le_refl _) (fx_rim hE)
        · replace hE := fx_f c18 hE
          refine pm_iloadn hG dX12_power_30 rfl ?_
          refine pm_iconst (v := 0) hG dX12_power_31 (by decide) ?_
          refine pm_bipush (v := 99) hG dX12_power_32 (by decide) ?_
          refine pm_callS (As := [.int zc, .int 0, .int 99]) (rest := []) hG hR dX12_power_34 (lkX12_68 _ rfl) okS_X12_in (c_X12_in (d := 3) (by decide) rfl) rfl rfl hdd (Nat.le_refl _) (Nat.le_refl _) (by decide) (fx_ki ?_)
          refine pm_if_ne (tgt := 46) hG dX12_power_37 rfl (fun c21 => ?_) (fun c21 => ?_)
          · replace hE := fx_f c21 hE
            refine pm_aloadn hG dX12_power_46 rfl ?_
            refine pm_getf hG dX12_power_47 (flX12_7 _ rfl) rfl rfl ?_
            refine pm_iconst (v := 3) hG dX12_power_50 (by decide) ?_
            refine fx_iald hG dX12_power_51 rfl (ix_lit (by decide) rfl) ?_
            refine pm_bipush (v := 20) hG dX12_power_52 (by decide) ?_
            refine pm_icmp_ne (tgt := 65) hG dX12_power_54 rfl (fun c22 => ?_) (fun c22 => ?_)
            · replace hE := fx_f c22 hE
              refine pm_aloadn hG dX12_power_65 rfl ?_
              refine pm_iloadn hG dX12_power_66 rfl ?_
              refine pm_iloadn hG dX12_power_67 rfl ?_
              refine pm_iloadn hG dX12_power_68 rfl ?_
              refine pm_iconst (v := (-1)) hG dX12_power_69 (by decide) ?_
              obtain ⟨r24, h23, hE⟩ := fb_some hE
              refine pm_callV (As := [.int za, .int zb, .int zc, .int (-1)]) (rest := []) hG hR dX12_power_70 (lkX12_128 _ rfl) okV_X12_newPower rfl rfl (c_X12_newPower (d := 3) (by decide) h23) rfl rfl hdd (Nat.le_refl _) (Nat.le_refl _) (by decide) (fx_ki ?_)
              exact pm_iret hG hF dX12_power_73 rfl (Nat.le_refl _) (Nat.le_refl _) (fx_rim hE)
            · replace hE := fx_t c22 hE
              refine pm_aloadn hG dX12_power_57 rfl ?_
              refine pm_iconst (v := 4) hG dX12_power_58 (by decide) ?_
              obtain ⟨r26, h25, hE⟩ := fb_some hE
              refine pm_callV (As := [.int 4]) (rest := []) hG hR dX12_power_59 (lkX12_80 _ rfl) okV_X12_finds rfl rfl (c_X12_finds (d := 3) (by decide) h25) rfl rfl hdd (Nat.le_refl _) (Nat.le_refl _) (by decide) (fx_ki ?_)
              refine pm_goto (tgt := 73) hG dX12_power_62 rfl ?_
              exact pm_iret hG hF dX12_power_73 rfl (Nat.le_refl _) (Nat.le_refl _) (fx_rim hE)
          · replace hE := fx_t c21 hE
            refine pm_aloadn hG dX12_power_40 rfl ?_
            refine pm_iconst (v := 1) hG dX12_power_41 (by decide) ?_
            obtain ⟨r28, h27, hE⟩ := fb_some hE
            refine pm_callV (As := [.int 1]) (rest := []) hG hR dX12_power_42 (lkX12_80 _ rfl) okV_X12_finds rfl rfl (c_X12_finds (d := 3) (by decide) h27) rfl rfl hdd (Nat.le_refl _) (Nat.le_refl _) (by decide) (fx_ki ?_)
            exact pm_iret hG hF dX12_power_45 rfl (Nat.le_refl _) (Nat.le_refl _) (fx_rim hE)

set_option maxRecDepth 100000 in
set_option maxHeartbeats 4000000 in
theorem c_X12_press {d : Nat} {B cnt : Nat} {σ : pm_S} {S : FS} {za : Int32} {zb : Int32} {R : Int32 × FS} (hdd : 4 ≤ d) (hE : f_X12_press S za zb = some R) : pm_met mX12_press d 0 0 B [.ref (B + 54), .int za, .int zb] cnt (mst B S σ) (pm_Qi (fun v σ' cnt' => v = R.1 ∧ σ' = (mst B R.2 σ) ∧ cnt' = cnt)) := by
  refine pm_enter 3 (by decide) (Nat.le_of_ble_eq_true rfl) rfl (fun G hG hR hF => ?_)
  unfold f_X12_press at hE
  refine pm_aloadn hG dX12_press_0 rfl ?_
  refine pm_iloadn hG dX12_press_1 rfl ?_
  refine pm_callV (As := [.int za]) (rest := []) hG hR dX12_press_2 (lkX12_211 _ rfl) okV_X12_isLetter rfl rfl (c_X12_isLetter (d := 3) (by decide) rfl) rfl rfl hdd (Nat.le_refl _) (Nat.le_refl _) (by decide) (fx_ki ?_)
  refine pm_if_eq (tgt := 16) hG dX12_press_5 rfl (fun c1 => ?_) (fun c1 => ?_)
  · replace hE := fx_t c1 hE
    refine pm_aloadn hG dX12_press_16 rfl ?_
    refine pm_iconst (v := 1) hG dX12_press_17 (by decide) ?_
    obtain ⟨r3, h2, hE⟩ := fb_some hE
    refine pm_callV (As := [.int 1]) (rest := []) hG hR dX12_press_18 (lkX12_80 _ rfl) okV_X12_finds rfl rfl (c_X12_finds (d := 3) (by decide) h2) rfl rfl hdd (Nat.le_refl _) (Nat.le_refl _) (by decide) (fx_ki ?_)
    exact pm_iret hG hF dX12_press_21 rfl (Nat.le_refl _) (Nat.le_refl _) (fx_rim hE)
  · replace hE := fx_f c1 hE
    refine pm_aloadn hG dX12_press_8 rfl ?_
    refine pm_iloadn hG dX12_press_9 rfl ?_
    refine pm_callV (As := [.int zb]) (rest := []) hG hR dX12_press_10 (lkX12_132 _ rfl) okV_X12_isPower rfl rfl (c_X12_isPower (d := 3) (by decide) rfl) rfl rfl hdd (Nat.le_refl _) (Nat.le_refl _) (by decide) (fx_ki ?_)
    refine pm_if_ne (tgt := 22) hG dX12_press_13 rfl (fun c4 => ?_) (fun c4 => ?_)
    · replace hE := fx_f c4 hE
      refine pm_aloadn hG dX12_press_22 rfl ?_
      refine pm_iloadn hG dX12_press_23 rfl ?_
      refine pm_iconst (v := 0) hG dX12_press_24 (by decide) ?_
      obtain ⟨x6, h5, hE⟩ := fb_some hE
      refine pm_callV (As := [.int zb, .int 0]) (rest := []) hG hR dX12_press_25 (lkX12_110 _ rfl) okV_X12_its rfl rfl (c_X12_its (d := 3) (by decide) h5) rfl rfl hdd (Nat.le_refl _) (Nat.le_refl _) (by decide) (fx_ki ?_)
      refine pm_iconst (v := 2) hG dX12_press_28 (by decide) ?_
      refine pm_icmp_eq (tgt := 38) hG dX12_press_29 rfl (fun c7 => ?_) (fun c7 => ?_)
      · replace hE := fx_t c7 hE
        refine pm_aloadn hG dX12_press_38 rfl ?_
        refine pm_iloadn hG dX12_press_39 rfl ?_
        refine pm_iconst (v := 4) hG dX12_press_40 (by decide) ?_
        obtain ⟨x9, h8, hE⟩ := fb_some hE
        refine pm_callV (As := [.int za, .int 4]) (rest := []) hG hR dX12_press_41 (lkX12_199 _ rfl) okV_X12_of rfl rfl (c_X12_of (d := 3) (by decide) h8) rfl rfl hdd (Nat.le_refl _) (Nat.le_refl _) (by decide) (fx_ki ?_)
        refine pm_if_ge (tgt := 75) hG dX12_press_44 rfl (fun c10 => ?_) (fun c10 => ?_)
        · replace c10 := Int32.not_lt.mpr c10
          replace hE := fx_f c10 hE
          refine pm_aloadn hG dX12_press_75 rfl ?_
          refine pm_iconst (v := 3) hG dX12_press_76 (by decide) ?_
          obtain ⟨r12, h11, hE⟩ := fb_some hE
          refine pm_callV (As := [.int 3]) (rest := []) hG hR dX12_press_77 (lkX12_80 _ rfl) okV_X12_finds rfl rfl (c_X12_finds (d := 3) (by decide) h11) rfl rfl hdd (Nat.le_refl _) (Nat.le_refl _) (by decide) (fx_ki ?_)
          exact pm_iret hG hF dX12_press_80 rfl (Nat.le_refl _) (Nat.le_refl _) (fx_rim hE)
        · replace c10 := Int32.not_le.mp c10
          replace hE := fx_t c10 hE
          refine pm_aloadn hG dX12_press_47 rfl ?_
          refine pm_iloadn hG dX12_press_48 rfl ?_
          obtain ⟨x14, h13, hE⟩ := fb_some hE
          refine pm_callV (As := [.int zb]) (rest := []) hG hR dX12_press_49 (lkX12_139 _ rfl) okV_X12_whoHas rfl rfl (c_X12_whoHas (d := 3) (by decide) h13) rfl rfl hdd (Nat.le_refl _) (Nat.le_refl _) (by decide) (fx_ki ?_)
          refine pm_if_lt (tgt := 75) hG dX12_press_52 rfl (fun c15 => ?_) (fun c15 => ?_)
          · replace hE := fx_t c15 hE
            refine pm_aloadn hG dX12_press_75 rfl ?_
            refine pm_iconst (v := 3) hG dX12_press_76 (by decide) ?_
            obtain ⟨r17, h16, hE⟩ := fb_some hE
            refine pm_callV (As := [.int 3]) (rest := []) hG hR dX12_press_77 (lkX12_80 _ rfl) okV_X12_finds rfl rfl (c_X12_finds (d := 3) (by decide) h16) rfl rfl hdd (Nat.le_refl _) (Nat.le_refl _) (by decide) (fx_ki ?_)
            exact pm_iret hG hF dX12_press_80 rfl (Nat.le_refl _) (Nat.le_refl _) (fx_rim hE)
          · replace hE := fx_f c15 hE
            refine pm_aloadn hG dX12_press_55 rfl ?_
            refine pm_aloadn hG dX12_press_56 rfl ?_
            refine pm_iloadn hG dX12_press_57 rfl ?_
            obtain ⟨x19, h18, hE⟩ := fb_some hE
            refine pm_callV (As := [.int zb]) (rest := [.ref (B + 54)]) hG hR dX12_press_58 (lkX12_139 _ rfl) okV_X12_whoHas rfl rfl (c_X12_whoHas (d := 3) (by decide) h18) rfl rfl hdd (Nat.le_refl _) (Nat.le_refl _) (by first | decide | exact Nat.le_of_ble_eq_true rfl) (fx_ki ?_)
            refine pm_iconst (v := 4) hG dX12_press_61 (by decide) ?_
            obtain ⟨x21, h20, hE⟩ := fb_some hE
            refine pm_callV (As := [.int x19, .int 4]) (rest := []) hG hR dX12_press_62 (lkX12_72 _ rfl) okV_X12_man rfl rfl (c_X12_man (d := 3) (by decide) h20) rfl rfl hdd (Nat.le_refl _) (Nat.le_refl _) (by decide) (fx_ki ?_)
            refine pm_aloadn hG dX12_press_65 rfl ?_
            refine pm_iloadn hG dX12_press_66 rfl ?_
            refine pm_bipush (v := 10) hG dX12_press_67 (by decide) ?_
            obtain ⟨x23, h22, hE⟩ := fb_some hE
            refine pm_callV (As := [.int za, .int 10]) (rest := [.int x21]) hG hR dX12_press_69 (lkX12_199 _ rfl) okV_X12_of rfl rfl (c_X12_of (d := 3) (by decide) h22) rfl rfl hdd (Nat.le_refl _) (Nat.le_refl _) (by first | decide | exact Nat.le_of_ble_eq_true rfl) (fx_ki ?_)
            refine pm_icmp_eq (tgt := 81) hG dX12_press_72 rfl (fun c24 => ?_) (fun c24 => ?_)
            · replace hE := fx_t c24 hE
              refine pm_aloadn hG dX12_press_81 rfl ?_
              refine pm_iloadn hG dX12_press_82 rfl ?_
              refine pm_iconst (v := 5) hG dX12_press_83 (by decide) ?_
              obtain ⟨x26, h25, hE⟩ := fb_some hE
              refine pm_callV (As := [.int zb, .int 5]) (rest := []) hG hR dX12_press_84 (lkX12_110 _ rfl) okV_X12_its rfl rfl (c_X12_its (d := 3) (by decide) h25) rfl rfl hdd (Nat.le_refl _) (Nat.le_refl _) (by decide) (fx_ki ?_)
              refine pm_istoreXn (loc' := [some (.ref (B + 54)), some (.int za), some (.int zb), some (.int x26), none, none]) hG dX12_press_87 (by decide) (pm_c1b rfl) rfl ?_
              refine pm_iconst (v := 0) hG dX12_press_88 (by decide) ?_
              refine pm_istoreXi (loc' := [some (.ref (B + 54)), some (.int za), some (.int zb), some (.int x26), some (.int 0), none]) hG dX12_press_89 (by decide) (pm_c1b rfl) rfl ?_
              refine pm_iconst (v := 0) hG dX12_press_91 (by decide) ?_
              refine pm_istoreXi (loc' := [some (.ref (B + 54)), some (.int za), some (.int zb), some (.int x26), some (.int 0), some (.int 0)]) hG dX12_press_92 (by decide) (pm_c1b rfl) rfl ?_
              have loop94 : ∀ (k94 : FS → Int32 → Int32 → Option (Int32 × FS)), (∀ (S27 : FS) (x27_4 : Int32) (x27_5 : Int32), k94 S27  x27_4 x27_5 = some R → pm_wp mX12_press G B 159 [some (.ref (B + 54)), some (.int za), some (.int zb), some (.int x26), some (.int x27_4), some (.int x27_5)] [] 0 0 cnt (mst B S27 σ)) → ∀ (m94 : Nat) (S27 : FS) (x27_4 : Int32) (x27_5 : Int32), l_X12_press_94 x26 k94 m94 S27  x27_4 x27_5 = some R → pm_wp mX12_press G B 94 [some (.ref (B + 54)), some (.int za), some (.int zb), some (.int x26), some (.int x27_4), some (.int x27_5)] [] 0 0 cnt (mst B S27 σ) := by
                intro k94 hk94 m94
                induction m94 with
                | zero => intro S27  x27_4 x27_5 hE; exact fx_no hE
                | succ m94 ih94 =>
                  intro S27  x27_4 x27_5 hE
                  rw [l_X12_press_94] at hE
                  refine pm_iloadi hG dX12_press_94 rfl ?_
                  refine pm_aloadn hG dX12_press_96 rfl ?_
                  refine pm_getf hG dX12_press_97 (flX12_7 _ rfl) rfl rfl ?_
                  refine pm_iconst (v := 3) hG dX12_press_100 (by decide) ?_
                  refine fx_iald hG dX12_press_101 rfl (ix_lit (by decide) rfl) ?_
                  refine pm_icmp_ge (tgt := 159) hG dX12_press_102 rfl (fun c28 => ?_) (fun c28 => ?_)
                  · replace c28 := Int32.not_lt.mpr c28
                    replace hE := fx_f c28 hE
                    exact hk94 _ _ _ hE
                  · replace c28 := Int32.not_le.mp c28
                    replace hE := fx_t c28 hE
                    refine pm_iloadi hG dX12_press_105 rfl ?_
                    refine pm_aloadn hG dX12_press_107 rfl ?_
                    refine pm_iloadi hG dX12_press_108 rfl ?_
                    refine pm_iconst (v := 0) hG dX12_press_110 (by decide) ?_
                    obtain ⟨x30, h29, hE⟩ := fb_some hE
                    refine pm_callV (As := [.int x27_5, .int 0]) (rest := [.int x27_4]) hG hR dX12_press_111 (lkX12_110 _ rfl) okV_X12_its rfl rfl (c_X12_its (d := 3) (by decide) h29) rfl rfl hdd (Nat.le_refl _) (Nat.le_refl _) (by first | decide | exact Nat.le_of_ble_eq_true rfl) (fx_ki ?_)
                    refine pm_iconst (v := 2) hG dX12_press_114 (by decide) ?_
                    refine pm_icmp_ne (tgt := 149) hG dX12_press_115 rfl (fun c31 => ?_) (fun c31 => ?_)
                    · replace hE := fx_f c31 hE
                      refine pm_iconst (v := 0) hG dX12_press_149 (by decide) ?_
                      refine pm_ior hG dX12_press_150 ?_
                      refine fx_letv hE (fun x32 hE => ?_)
                      refine pm_istoreXi (loc' := [some (.ref (B + 54)), some (.int za), some (.int zb), some (.int x26), some (.int x32), some (.int x27_5)]) hG dX12_press_151 (by decide) (pm_c1b rfl) rfl ?_
                      refine pm_iincX (v := x27_5 + 1) (loc' := [some (.ref (B + 54)), some (.int za), some (.int zb), some (.int x26), some (.int x32), some (.int (x27_5 + 1))]) hG dX12_press_153 rfl (by rfl) (by decide) (pm_c1b rfl) rfl ?_
                      refine pm_goto (tgt := 94) hG dX12_press_156 rfl ?_
                      exact ih94 _ _ _ hE
                    · replace hE := fx_t c31 hE
                      refine pm_aloadn hG dX12_press_118 rfl ?_
                      refine pm_iloadi hG dX12_press_119 rfl ?_
                      refine pm_iconst (v := 5) hG dX12_press_121 (by decide) ?_
                      obtain ⟨x34, h33, hE⟩ := fb_some hE
                      refine pm_callV (As := [.int x27_5, .int 5]) (rest := [.int x27_4]) hG hR dX12_press_122 (lkX12_110 _ rfl) okV_X12_its rfl rfl (c_X12_its (d := 3) (by decide) h33) rfl rfl hdd (Nat.le_refl _) (Nat.le_refl _) (by first | decide | exact Nat.le_of_ble_eq_true rfl) (fx_ki ?_)
                      refine pm_iloadn hG dX12_press_125 rfl ?_
                      refine pm_icmp_ne (tgt := 149) hG dX12_press_126 rfl (fun c35 => ?_) (fun c35 => ?_)
                      · replace hE := fx_f c35 hE
                        refine pm_iconst (v := 0) hG dX12_press_149 (by decide) ?_
                        refine pm_ior hG dX12_press_150 ?_
                        refine fx_letv hE (fun x36 hE => ?_)
                        refine pm_istoreXi (loc' := [some (.ref (B + 54)), some (.int za), some (.int zb), some (.int x26), some (.int x36), some (.int x27_5)]) hG dX12_press_151 (by decide) (pm_c1b rfl) rfl ?_
                        refine pm_iincX (v := x27_5 + 1) (loc' := [some (.ref (B + 54)), some (.int za), some (.int zb), some (.int x26), some (.int x36), some (.int (x27_5 + 1))]) hG dX12_press_153 rfl (by rfl) (by decide) (pm_c1b rfl) rfl ?_
                        refine pm_goto (tgt := 94) hG dX12_press_156 rfl ?_
                        exact ih94 _ _ _ hE
                      · replace hE := fx_t c35 hE
                        refine pm_aloadn hG dX12_press_129 rfl ?_
                        refine pm_iloadi hG dX12_press_130 rfl ?_
                        obtain ⟨x38, h37, hE⟩ := fb_some hE
                        refine pm_callV (As := [.int x27_5]) (rest := [.int x27_4]) hG hR dX12_press_132 (lkX12_139 _ rfl) okV_X12_whoHas rfl rfl (c_X12_whoHas (d := 3) (by decide) h37) rfl rfl hdd (Nat.le_refl _) (Nat.le_refl _) (by first | decide | exact Nat.le_of_ble_eq_true rfl) (fx_ki ?_)
                        refine pm_if_lt (tgt := 149) hG dX12_press_135 rfl (fun c39 => ?_) (fun c39 => ?_)
                        · replace hE := fx_t c39 hE
                          refine pm_iconst (v := 0) hG dX12_press_149 (by decide) ?_
                          refine pm_ior hG dX12_press_150 ?_
                          refine fx_letv hE (fun x40 hE => ?_)
                          refine pm_istoreXi (loc' := [some (.ref (B + 54)), some (.int za), some (.int zb), some (.int x26), some (.int x40), some (.int x27_5)]) hG dX12_press_151 (by decide) (pm_c1b rfl) rfl ?_
                          refine pm_iincX (v := x27_5 + 1) (loc' := [some (.ref (B + 54)), some (.int za), some (.int zb), some (.int x26), some (.int x40), some (.int (x27_5 + 1))]) hG dX12_press_153 rfl (by rfl) (by decide) (pm_c1b rfl) rfl ?_
                          refine pm_goto (tgt := 94) hG dX12_press_156 rfl ?_
                          exact ih94 _ _ _ hE
                        · replace hE := fx_f c39 hE
                          refine pm_iconst (v := 1) hG dX12_press_138 (by decide) ?_
                          refine pm_aloadn hG dX12_press_139 rfl ?_
                          refine pm_iloadi hG dX12_press_140 rfl ?_
                          obtain ⟨x42, h41, hE⟩ := fb_some hE
                          refine pm_callV (As := [.int x27_5]) (rest := [.int 1, .int x27_4]) hG hR dX12_press_142 (lkX12_139 _ rfl) okV_X12_whoHas rfl rfl (c_X12_whoHas (d := 3) (by decide) h41) rfl rfl hdd (Nat.le_refl _) (Nat.le_refl _) (by first | decide | exact Nat.le_of_ble_eq_true rfl) (fx_ki ?_)
                          refine pm_ishl hG dX12_press_145 ?_
                          refine pm_goto (tgt := 150) hG dX12_press_146 rfl ?_
                          refine pm_ior hG dX12_press_150 ?_
                          refine fx_letv hE (fun x43 hE => ?_)
                          refine pm_istoreXi (loc' := [some (.ref (B + 54)), some (.int za), some (.int zb), some (.int x26), some (.int x43), some (.int x27_5)]) hG dX12_press_151 (by decide) (pm_c1b rfl) rfl ?_
                          refine pm_iincX (v := x27_5 + 1) (loc' := [some (.ref (B + 54)), some (.int za), some (.int zb), some (.int x26), some (.int x43), some (.int (x27_5 + 1))]) hG dX12_press_153 rfl (by rfl) (by decide) (pm_c1b rfl) rfl ?_
                          refine pm_goto (tgt := 94) hG dX12_press_156 rfl ?_
                          exact ih94 _ _ _ hE
              refine loop94 _ (fun S44 x44_4 x44_5 hE => ?_) _ _ _ _ hE
              refine pm_aloadn hG dX12_press_159 rfl ?_
              refine pm_aloadn hG dX12_press_160 rfl ?_
              refine pm_iloadn hG dX12_press_161 rfl ?_
              refine pm_bipush (v := 10) hG dX12_press_162 (by decide) ?_
              obtain ⟨x46, h45, hE⟩ := fb_some hE
              refine pm_callV (As := [.int za, .int 10]) (rest := [.ref (B + 54)]) hG hR dX12_press_164 (lkX12_199 _ rfl) okV_X12_of rfl rfl (c_X12_of (d := 3) (by decide) h45) rfl rfl hdd (Nat.le_refl _) (Nat.le_refl _) (by first | decide | exact Nat.le_of_ble_eq_true rfl) (fx_ki ?_)
              obtain ⟨x48, h47, hE⟩ := fb_some hE
              refine pm_callV (As := [.int x46]) (rest := []) hG hR dX12_press_167 (lkX12_220 _ rfl) okV_X12_thoseIn rfl rfl (c_X12_thoseIn (d := 3) (by decide) h47) rfl rfl hdd (Nat.le_refl _) (Nat.le_refl _) (by decide) (fx_ki ?_)
              refine pm_iloadi hG dX12_press_170 rfl ?_
              refine pm_iand hG dX12_press_172 ?_
              refine fx_letv hE (fun x49 hE => ?_)
              refine pm_istoreXi (loc' := [some (.ref (B + 54)), some (.int za), some (.int zb), some (.int x26), some (.int x44_4), some (.int x49)]) hG dX12_press_173 (by decide) (pm_c1b rfl) rfl ?_
              refine pm_aloadn hG dX12_press_175 rfl ?_
              refine pm_iloadn hG dX12_press_176 rfl ?_
              refine pm_bipush (v := 9) hG dX12_press_177 (by decide) ?_
              refine pm_aloadn hG dX12_press_179 rfl ?_
              refine pm_iloadn hG dX12_press_180 rfl ?_
              refine pm_iconst (v := 3) hG dX12_press_181 (by decide) ?_
              obtain ⟨x51, h50, hE⟩ := fb_some hE
              refine pm_callV (As := [.int za, .int 3]) (rest := [.int 9, .int za, .ref (B + 54)]) hG hR dX12_press_182 (lkX12_199 _ rfl) okV_X12_of rfl rfl (c_X12_of (d := 3) (by decide) h50) rfl rfl hdd (Nat.le_refl _) (Nat.le_refl _) (by first | decide | exact Nat.le_of_ble_eq_true rfl) (fx_ki ?_)
              refine pm_if_ne (tgt := 193) hG dX12_press_185 rfl (fun c52 => ?_) (fun c52 => ?_)
              · replace hE := fx_f c52 hE
                refine pm_aloadn hG dX12_press_193 rfl ?_
                refine pm_iloadn hG dX12_press_194 rfl ?_
                refine pm_bipush (v := 9) hG dX12_press_195 (by decide) ?_
                obtain ⟨x54, h53, hE⟩ := fb_some hE
                refine pm_callV (As := [.int za, .int 9]) (rest := [.int 9, .int za, .ref (B + 54)]) hG hR dX12_press_197 (lkX12_199 _ rfl) okV_X12_of rfl rfl (c_X12_of (d := 3) (by decide) h53) rfl rfl hdd (Nat.le_refl _) (Nat.le_refl _) (by first | decide | exact Nat.le_of_ble_eq_true rfl) (fx_ki ?_)
                refine pm_iloadi hG dX12_press_200 rfl ?_
                refine pm_iand hG dX12_press_202 ?_
                obtain ⟨r56, h55, hE⟩ := fb_some hE
                refine pm_callV (As := [.int za, .int 9, .int (x54 &&& x49)]) (rest := []) hG hR dX12_press_203 (lkX12_217 _ rfl) okV_X12_writes rfl rfl (c_X12_writes (d := 3) (by decide) h55) rfl rfl hdd (Nat.le_refl _) (Nat.le_refl _) (by decide) (fx_kv ?_)
                refine pm_aloadn hG dX12_press_206 rfl ?_
                refine pm_iloadn hG dX12_press_207 rfl ?_
                refine pm_iconst (v := 3) hG dX12_press_208 (by decide) ?_
                refine pm_aloadn hG dX12_press_209 rfl ?_
                refine pm_iloadn hG dX12_press_210 rfl ?_
                refine pm_iconst (v := 3) hG dX12_press_211 (by decide) ?_
                obtain ⟨x58, h57, hE⟩ := fb_some hE
                refine pm_callV (As := [.int za, .int 3]) (rest := [.int 3, .int za, .ref (B + 54)]) hG hR dX12_press_212 (lkX12_199 _ rfl) okV_X12_of rfl rfl (c_X12_of (d := 3) (by decide) h57) rfl rfl hdd (Nat.le_refl _) (Nat.le_refl _) (by first | decide | exact Nat.le_of_ble_eq_true rfl) (fx_ki ?_)
                refine pm_iconst (v := 1) hG dX12_press_215 (by decide) ?_
                refine pm_iloadn hG dX12_press_216 rfl ?_
                refine pm_ishl hG dX12_press_217 ?_
                refine pm_ior hG dX12_press_218 ?_
                obtain ⟨r60, h59, hE⟩ := fb_some hE
                refine pm_callV (As := [.int za, .int 3, .int (x58 ||| ((1 : Int32) <<< (x26 &&& 31)))]) (rest := []) hG hR dX12_press_219 (lkX12_217 _ rfl) okV_X12_writes rfl rfl (c_X12_writes (d := 3) (by decide) h59) rfl rfl hdd (Nat.le_refl _) (Nat.le_refl _) (by decide) (fx_kv ?_)
                refine pm_aloadn hG dX12_press_222 rfl ?_
                refine pm_iloadn hG dX12_press_223 rfl ?_
                refine pm_iconst (v := 3) hG dX12_press_224 (by decide) ?_
                obtain ⟨x62, h61, hE⟩ := fb_some hE
                refine pm_callV (As := [.int za, .int 3]) (rest := []) hG hR dX12_press_225 (lkX12_199 _ rfl) okV_X12_of rfl rfl (c_X12_of (d := 3) (by decide) h61) rfl rfl hdd (Nat.le_refl _) (Nat.le_refl _) (by decide) (fx_ki ?_)
                obtain ⟨x64, h63, hE⟩ := fb_some hE
                refine pm_callS (As := [.int x62]) (rest := []) hG hR dX12_press_228 (lkX12_202 _ rfl) okS_X12_bits (c_X12_bits (d := 3) (by decide) h63) rfl rfl hdd (Nat.le_refl _) (Nat.le_refl _) (by decide) (fx_ki ?_)
                exact pm_iret hG hF dX12_press_231 rfl (Nat.le_refl _) (Nat.le_refl _) (fx_rim hE)
              · replace hE := fx_t c52 hE
                refine pm_iloadi hG dX12_press_188 rfl ?_
                refine pm_goto (tgt := 203) hG dX12_press_190 rfl ?_
                obtain ⟨r66, h65, hE⟩ := fb_some hE
                refine pm_callV (As := [.int za, .int 9, .int x49]) (rest := []) hG hR dX12_press_203 (lkX12_217 _ rfl) okV_X12_writes rfl rfl (c_X12_writes (d := 3) (by decide) h65) rfl rfl hdd (Nat.le_refl _) (Nat.le_refl _) (by decide) (fx_kv ?_)
                refine pm_aloadn hG dX12_press_206 rfl ?_
                refine pm_iloadn hG dX12_press_207 rfl ?_
                refine pm_iconst (v := 3) hG dX12_press_208 (by decide) ?_
                refine pm_aloadn hG dX12_press_209 rfl ?_
                refine pm_iloadn hG dX12_press_210 rfl ?_
                refine pm_iconst (v := 3) hG dX12_press_211 (by decide) ?_
                obtain ⟨x68, h67, hE⟩ := fb_some hE
                refine pm_callV (As := [.int za, .int 3]) (rest := [.int 3, .int za, .ref (B + 54)]) hG hR dX12_press_212 (lkX12_199 _ rfl) okV_X12_of rfl rfl (c_X12_of (d := 3) (by decide) h67) rfl rfl hdd (Nat.le_refl _) (Nat.le_refl _) (by first | decide | exact Nat.le_of_ble_eq_true rfl) (fx_ki ?_)
                refine pm_iconst (v := 1) hG dX12_press_215 (by decide) ?_
                refine pm_iloadn hG dX12_press_216 rfl ?_
                refine pm_ishl hG dX12_press_217 ?_
                refine pm_ior hG dX12_press_218 ?_
                obtain ⟨r70, h69, hE⟩ := fb_some hE
                refine pm_callV (As := [.int za, .int 3, .int (x68 ||| ((1 : Int32) <<< (x26 &&& 31)))]) (rest := []) hG hR dX12_press_219 (lkX12_217 _ rfl) okV_X12_writes rfl rfl (c_X12_writes (d := 3) (by decide) h69) rfl rfl hdd (Nat.le_refl _) (Nat.le_refl _) (by decide) (fx_kv ?_)
                refine pm_aloadn hG dX12_press_222 rfl ?_
                refine pm_iloadn hG dX12_press_223 rfl ?_
                refine pm_iconst (v := 3) hG dX12_press_224 (by decide) ?_
                obtain ⟨x72, h71, hE⟩ := fb_some hE
                refine pm_callV (As := [.int za, .int 3]) (rest := []) hG hR dX12_press_225 (lkX12_199 _ rfl) okV_X12_of rfl rfl (c_X12_of (d := 3) (by decide) h71) rfl rfl hdd (Nat.le_refl _) (Nat.le_refl _) (by decide) (fx_ki ?_)
                obtain ⟨x74, h73, hE⟩ := fb_some hE
                refine pm_callS (As := [.int x72]) (rest := []) hG hR dX12_press_228 (lkX12_202 _ rfl) okS_X12_bits (c_X12_bits (d := 3) (by decide) h73) rfl rfl hdd (Nat.le_refl _) (Nat.le_refl _) (by decide) (fx_ki ?_)
                exact pm_iret hG hF dX12_press_231 rfl (Nat.le_refl _) (Nat.le_refl _) (fx_rim hE)
            · replace hE := fx_f c24 hE
              refine pm_aloadn hG dX12_press_75 rfl ?_
              refine pm_iconst (v := 3) hG dX12_press_76 (by decide) ?_
              obtain ⟨r76, h75, hE⟩ := fb_some hE
              refine pm_callV (As := [.int 3]) (rest := []) hG hR dX12_press_77 (lkX12_80 _ rfl) okV_X12_finds rfl rfl (c_X12_finds (d := 3) (by decide) h75) rfl rfl hdd (Nat.le_refl _) (Nat.le_refl _) (by decide) (fx_ki ?_)
              exact pm_iret hG hF dX12_press_80 rfl (Nat.le_refl _) (Nat.le_refl _) (fx_rim hE)
      · replace hE := fx_f c7 hE
        refine pm_aloadn hG dX12_press_32 rfl ?_
        refine pm_iconst (v := 5) hG dX12_press_33 (by decide) ?_
        obtain ⟨r78, h77, hE⟩ := fb_some hE
        refine pm_callV (As := [.int 5]) (rest := []) hG hR dX12_press_34 (lkX12_80 _ rfl) okV_X12_finds rfl rfl (c_X12_finds (d := 3) (by decide) h77) rfl rfl hdd (Nat.le_refl _) (Nat.le_refl _) (by decide) (fx_ki ?_)
        exact pm_iret hG hF dX12_press_37 rfl (Nat.le_refl _) (Nat.le_refl _) (fx_rim hE)
    · replace hE := fx_t c4 hE
      refine pm_aloadn hG dX12_press_16 rfl ?_
      refine pm_iconst (v := 1) hG dX12_press_17 (by decide) ?_
      obtain ⟨r80, h79, hE⟩ := fb_some hE
      refine pm_callV (As := [.int 1]) (rest := []) hG hR dX12_press_18 (lkX12_80 _ rfl) okV_X12_finds rfl rfl (c_X12_finds (d := 3) (by decide) h79) rfl rfl hdd (Nat.le_refl _) (Nat.le_refl _) (by decide) (fx_ki ?_)
      exact pm_iret hG hF dX12_press_21 rfl (Nat.le_refl _) (Nat.le_refl _) (fx_rim hE)
end
section
set_option maxRecDepth 100000 in
set_option maxHeartbeats 4000000 in
theorem c_X12_price {d : Nat} {B cnt : Nat} {σ : pm_S} {S : FS} {za : Int32} {zb : Int32} {R : Int32 × FS} (hdd : 3 ≤ d) (hE : f_X12_price S za zb = some R) : pm_met mX12_price d 0 0 B [.ref (B + 54), .int za, .int zb] cnt (mst B S σ) (pm_Qi (fun v σ' cnt' => v = R.1 ∧ σ' = (mst B R.2 σ) ∧ cnt' = cnt)) := by
  refine pm_enter 1 (by decide) (Nat.le_of_ble_eq_true rfl) rfl (fun G hG hR hF => ?_)
  unfold f_X12_price at hE
  refine pm_aloadn hG dX12_price_0 rfl ?_
  refine pm_iloadn hG dX12_price_1 rfl ?_
  refine pm_callV (As := [.int za]) (rest := []) hG hR dX12_price_2 (lkX12_91 _ rfl) okV_X12_isPerson rfl rfl (c_X12_isPerson (d := 2) (by decide) rfl) rfl rfl hdd (Nat.le_refl _) (Nat.le_refl _) (by decide) (fx_ki ?_)
  refine pm_if_eq (tgt := 19) hG dX12_price_5 rfl (fun c1 => ?_) (fun c1 => ?_)
  · replace hE := fx_t c1 hE
    refine pm_aloadn hG dX12_price_19 rfl ?_
    refine pm_iconst (v := 1) hG dX12_price_20 (by decide) ?_
    obtain ⟨r3, h2, hE⟩ := fb_some hE
    refine pm_callV (As := [.int 1]) (rest := []) hG hR dX12_price_21 (lkX12_80 _ rfl) okV_X12_finds rfl rfl (c_X12_finds (d := 2) (by decide) h2) rfl rfl hdd (Nat.le_refl _) (Nat.le_refl _) (by decide) (fx_ki ?_)
    exact pm_iret hG hF dX12_price_24 rfl (Nat.le_refl _) (Nat.le_refl _) (fx_rim hE)
  · replace hE := fx_f c1 hE
    refine pm_iloadn hG dX12_price_8 rfl ?_
    refine pm_iconst (v := 1) hG dX12_price_9 (by decide) ?_
    refine pm_sipush (v := 999) hG dX12_price_10 (by decide) ?_
    refine pm_callS (As := [.int zb, .int 1, .int 999]) (rest := []) hG hR dX12_price_13 (lkX12_68 _ rfl) okS_X12_in (c_X12_in (d := 2) (by decide) rfl) rfl rfl hdd (Nat.le_refl _) (Nat.le_refl _) (by decide) (fx_ki ?_)
    refine pm_if_ne (tgt := 25) hG dX12_price_16 rfl (fun c4 => ?_) (fun c4 => ?_)
    · replace hE := fx_f c4 hE
      refine pm_aloadn hG dX12_price_25 rfl ?_
      refine pm_iloadn hG dX12_price_26 rfl ?_
      refine pm_bipush (v := 12) hG dX12_price_27 (by decide) ?_
      obtain ⟨x6, h5, hE⟩ := fb_some hE
      refine pm_callV (As := [.int za, .int 12]) (rest := []) hG hR dX12_price_29 (lkX12_72 _ rfl) okV_X12_man rfl rfl (c_X12_man (d := 2) (by decide) h5) rfl rfl hdd (Nat.le_refl _) (Nat.le_refl _) (by decide) (fx_ki ?_)
      refine pm_istoreXn (loc' := [some (.ref (B + 54)), some (.int za), some (.int zb), some (.int x6)]) hG dX12_price_32 (by decide) (pm_c1b rfl) rfl ?_
      refine pm_aloadn hG dX12_price_33 rfl ?_
      refine pm_iloadn hG dX12_price_34 rfl ?_
      refine pm_bipush (v := 12) hG dX12_price_35 (by decide) ?_
      refine pm_iloadn hG dX12_price_37 rfl ?_
      obtain ⟨r8, h7, hE⟩ := fb_some hE
      refine pm_callV (As := [.int za, .int 12, .int zb]) (rest := []) hG hR dX12_price_38 (lkX12_97 _ rfl) okV_X12_sets rfl rfl (c_X12_sets (d := 2) (by decide) h7) rfl rfl hdd (Nat.le_refl _) (Nat.le_refl _) (by decide) (fx_kv ?_)
      refine pm_iloadn hG dX12_price_41 rfl ?_
      exact pm_iret hG hF dX12_price_42 rfl (Nat.le_refl _) (Nat.le_refl _) (fx_rim hE)
    · replace hE := fx_t c4 hE
      refine pm_aloadn hG dX12_price_19 rfl ?_
      refine pm_iconst (v := 1) hG dX12_price_20 (by decide) ?_
      obtain ⟨r10, h9, hE⟩ := fb_some hE
      refine pm_callV (As := [.int 1]) (rest := []) hG hR dX12_price_21 (lkX12_80 _ rfl) okV_X12_finds rfl rfl (c_X12_finds (d := 2) (by decide) h9) rfl rfl hdd (Nat.le_refl _) (Nat.le_refl _) (by decide) (fx_ki ?_)
      exact pm_iret hG hF dX12_price_24 rfl (Nat.le_refl _) (Nat.le_refl _) (fx_rim hE)

set_option maxRecDepth 100000 in
set_option maxHeartbeats 4000000 in
theorem c_X12_promise {d : Nat} {B cnt : Nat} {σ : pm_S} {S : FS} {za : Int32} {zb : Int32} {zc : Int32} {zd : Int32} {R : Int32 × FS} (hdd : 3 ≤ d) (hE : f_X12_promise S za zb zc zd = some R) : pm_met mX12_promise d 0 0 B [.ref (B + 54), .int za, .int zb, .int zc, .int zd] cnt (mst B S σ) (pm_Qi (fun v σ' cnt' => v = R.1 ∧ σ' = (mst B R.2 σ) ∧ cnt' = cnt)) := by
  refine pm_enter 2 (by decide) (Nat.le_of_ble_eq_true rfl) rfl (fun G hG hR hF => ?_)
  unfold f_X12_promise at hE
  refine pm_aloadn hG dX12_promise_0 rfl ?_
  refine pm_iloadn hG dX12_promise_1 rfl ?_
  refine pm_callV (As := [.int za]) (rest := []) hG hR dX12_promise_2 (lkX12_91 _ rfl) okV_X12_isPerson rfl rfl (c_X12_isPerson (d := 2) (by decide) rfl) rfl rfl hdd (Nat.le_refl _) (Nat.le_refl _) (by decide) (fx_ki ?_)
  refine pm_if_eq (tgt := 34) hG dX12_promise_5 rfl (fun c1 => ?_) (fun c1 => ?_)
  · replace hE := fx_t c1 hE
    refine pm_aloadn hG dX12_promise_34 rfl ?_
    refine pm_iconst (v := 1) hG dX12_promise_35 (by decide) ?_
    obtain ⟨r3, h2, hE⟩ := fb_some hE
    refine pm_callV (As := [.int 1]) (rest := []) hG hR dX12_promise_36 (lkX12_80 _ rfl) okV_X12_finds rfl rfl (c_X12_finds (d := 2) (by decide) h2) rfl rfl hdd (Nat.le_refl _) (Nat.le_refl _) (by decide) (fx_ki ?_)
    exact pm_iret hG hF dX12_promise_39 rfl (Nat.le_refl _) (Nat.le_refl _) (fx_rim hE)
  · replace hE := fx_f c1 hE
    refine pm_iloadn hG dX12_promise_8 rfl ?_
    refine pm_iconst (v := 0) hG dX12_promise_9 (by decide) ?_
    refine pm_iconst (v := 5) hG dX12_promise_10 (by decide) ?_
    refine pm_callS (As := [.int zb, .int 0, .int 5]) (rest := []) hG hR dX12_promise_11 (lkX12_68 _ rfl) okS_X12_in (c_X12_in (d := 2) (by decide) rfl) rfl rfl hdd (Nat.le_refl _) (Nat.le_refl _) (by decide) (fx_ki ?_)
    refine pm_if_eq (tgt := 34) hG dX12_promise_14 rfl (fun c4 => ?_) (fun c4 => ?_)
    · replace hE := fx_t c4 hE
      refine pm_aloadn hG dX12_promise_34 rfl ?_
      refine pm_iconst (v := 1) hG dX12_promise_35 (by decide) ?_
      obtain ⟨r6, h5, hE⟩ := fb_some hE
      refine pm_callV (As := [.int 1]) (rest := []) hG hR dX12_promise_36 (lkX12_80 _ rfl) okV_X12_finds rfl rfl (c_X12_finds (d := 2) (by decide) h5) rfl rfl hdd (Nat.le_refl _) (Nat.le_refl _) (by decide) (fx_ki ?_)
      exact pm_iret hG hF dX12_promise_39 rfl (Nat.le_refl _) (Nat.le_refl _) (fx_rim hE)
    · replace hE := fx_f c4 hE
      refine pm_iloadn hG dX12_promise_17 rfl ?_
      refine pm_aloadn hG dX12_promise_18 rfl ?_
      refine pm_getf hG dX12_promise_19 (flX12_7 _ rfl) rfl rfl ?_
      refine pm_bipush (v := 8) hG dX12_promise_22 (by decide) ?_
      refine fx_iald hG dX12_promise_24 rfl (ix_lit (by decide) rfl) ?_
      refine pm_sipush (v := 2000) hG dX12_promise_25 (by decide) ?_
      refine pm_callS (As := [.int zc, .int (S.2 55 8), .int 2000]) (rest := []) hG hR dX12_promise_28 (lkX12_68 _ rfl) okS_X12_in (c_X12_in (d := 2) (by decide) rfl) rfl rfl hdd (Nat.le_refl _) (Nat.le_refl _) (by decide) (fx_ki ?_)
      refine pm_if_ne (tgt := 40) hG dX12_promise_31 rfl (fun c7 => ?_) (fun c7 => ?_)
      · replace hE := fx_f c7 hE
        refine pm_aloadn hG dX12_promise_40 rfl ?_
        refine pm_iloadn hG dX12_promise_41 rfl ?_
        refine pm_bipush (v := 11) hG dX12_promise_42 (by decide) ?_
        obtain ⟨x9, h8, hE⟩ := fb_some hE
        refine pm_callV (As := [.int za, .int 11]) (rest := []) hG hR dX12_promise_44 (lkX12_72 _ rfl) okV_X12_man rfl rfl (c_X12_man (d := 2) (by decide) h8) rfl rfl hdd (Nat.le_refl _) (Nat.le_refl _) (by decide) (fx_ki ?_)
        refine pm_if_ne (tgt := 56) hG dX12_promise_47 rfl (fun c10 => ?_) (fun c10 => ?_)
        · replace hE := fx_f c10 hE
          refine pm_aloadn hG dX12_promise_56 rfl ?_
          refine pm_getf hG dX12_promise_57 (flX12_7 _ rfl) rfl rfl ?_
          refine pm_bipush (v := 7) hG dX12_promise_60 (by decide) ?_
          refine fx_iald hG dX12_promise_62 rfl (ix_lit (by decide) rfl) ?_
          refine fx_letv hE (fun x11 hE => ?_)
          refine pm_istoreXi (loc' := [some (.ref (B + 54)), some (.int za), some (.int zb), some (.int zc), some (.int zd), some (.int x11), none]) hG dX12_promise_63 (by decide) (pm_c1b rfl) rfl ?_
          refine pm_iloadi hG dX12_promise_65 rfl ?_
          refine pm_bipush (v := 30) hG dX12_promise_67 (by decide) ?_
          refine pm_icmp_ne (tgt := 78) hG dX12_promise_69 rfl (fun c12 => ?_) (fun c12 => ?_)
          · replace hE := fx_f c12 hE
            refine pm_iconst (v := 0) hG dX12_promise_78 (by decide) ?_
            refine pm_istoreXi (loc' := [some (.ref (B + 54)), some (.int za), some (.int zb), some (.int zc), some (.int zd), some (.int x11), some (.int 0)]) hG dX12_promise_79 (by decide) (pm_c1b rfl) rfl ?_
            have loop81 : ∀ (k81 : FS → Int32 → Option (Int32 × FS)), (∀ (S13 : FS) (x13_6 : Int32), k81 S13  x13_6 = some R → pm_wp mX12_promise G B 133 [some (.ref (B + 54)), some (.int za), some (.int zb), some (.int zc), some (.int zd), some (.int x11), some (.int x13_6)] [] 0 0 cnt (mst B S13 σ)) → ∀ (m81 : Nat) (S13 : FS) (x13_6 : Int32), l_X12_promise_81 za zb x11 k81 m81 S13  x13_6 = some R → pm_wp mX12_promise G B 81 [some (.ref (B + 54)), some (.int za), some (.int zb), some (.int zc), some (.int zd), some (.int x11), some (.int x13_6)] [] 0 0 cnt (mst B S13 σ) := by
              intro k81 hk81 m81
              induction m81 with
              | zero => intro S13  x13_6 hE; exact fx_no hE
              | succ m81 ih81 =>
                intro S13  x13_6 hE
                rw [l_X12_promise_81] at hE
                refine pm_iloadi hG dX12_promise_81 rfl ?_
                refine pm_iloadi hG dX12_promise_83 rfl ?_
                refine pm_icmp_ge (tgt := 133) hG dX12_promise_85 rfl (fun c14 => ?_) (fun c14 => ?_)
                · replace c14 := Int32.not_lt.mpr c14
                  replace hE := fx_f c14 hE
                  exact hk81 _ _ hE
                · replace c14 := Int32.not_le.mp c14
                  replace hE := fx_t c14 hE
                  refine pm_aloadn hG dX12_promise_88 rfl ?_
                  refine pm_iloadi hG dX12_promise_89 rfl ?_
                  refine pm_iconst (v := 0) hG dX12_promise_91 (by decide) ?_
                  obtain ⟨x16, h15, hE⟩ := fb_some hE
                  refine pm_callV (As := [.int x13_6, .int 0]) (rest := []) hG hR dX12_promise_92 (lkX12_223 _ rfl) okV_X12_promised rfl rfl (c_X12_promised (d := 2) (by decide) h15) rfl rfl hdd (Nat.le_refl _) (Nat.le_refl _) (by decide) (fx_ki ?_)
                  refine pm_iloadn hG dX12_promise_95 rfl ?_
                  refine pm_icmp_ne (tgt := 127) hG dX12_promise_96 rfl (fun c17 => ?_) (fun c17 => ?_)
                  · replace hE := fx_f c17 hE
                    refine pm_iincX (v := x13_6 + 1) (loc' := [some (.ref (B + 54)), some (.int za), some (.int zb), some (.int zc), some (.int zd), some (.int x11), some (.int (x13_6 + 1))]) hG dX12_promise_127 rfl (by rfl) (by decide) (pm_c1b rfl) rfl ?_
                    refine pm_goto (tgt := 81) hG dX12_promise_130 rfl ?_
                    exact ih81 _ _ hE
                  · replace hE := fx_t c17 hE
                    refine pm_aloadn hG dX12_promise_99 rfl ?_
                    refine pm_iloadi hG dX12_promise_100 rfl ?_
                    refine pm_iconst (v := 1) hG dX12_promise_102 (by decide) ?_
                    obtain ⟨x19, h18, hE⟩ := fb_some hE
                    refine pm_callV (As := [.int x13_6, .int 1]) (rest := []) hG hR dX12_promise_103 (lkX12_223 _ rfl) okV_X12_promised rfl rfl (c_X12_promised (d := 2) (by decide) h18) rfl rfl hdd (Nat.le_refl _) (Nat.le_refl _) (by decide) (fx_ki ?_)
                    refine pm_iloadn hG dX12_promise_106 rfl ?_
                    refine pm_icmp_ne (tgt := 127) hG dX12_promise_107 rfl (fun c20 => ?_) (fun c20 => ?_)
                    · replace hE := fx_f c20 hE
                      refine pm_iincX (v := x13_6 + 1) (loc' := [some (.ref (B + 54)), some (.int za), some (.int zb), some (.int zc), some (.int zd), some (.int x11), some (.int (x13_6 + 1))]) hG dX12_promise_127 rfl (by rfl) (by decide) (pm_c1b rfl) rfl ?_
                      refine pm_goto (tgt := 81) hG dX12_promise_130 rfl ?_
                      exact ih81 _ _ hE
                    · replace hE := fx_t c20 hE
                      refine pm_aloadn hG dX12_promise_110 rfl ?_
                      refine pm_getf hG dX12_promise_111 (flX12_7 _ rfl) rfl rfl ?_
                      refine pm_sipush (v := 1806) hG dX12_promise_114 (by decide) ?_
                      refine pm_bipush (v := 6) hG dX12_promise_117 (by decide) ?_
                      refine pm_iloadi hG dX12_promise_119 rfl ?_
                      refine pm_imul hG dX12_promise_121 ?_
                      refine pm_iadd hG dX12_promise_122 ?_
                      refine pm_iconst (v := 5) hG dX12_promise_123 (by decide) ?_
                      refine pm_iadd hG dX12_promise_124 ?_
                      refine pm_iconst (v := 1) hG dX12_promise_125 (by decide) ?_
                      obtain ⟨j21, hj21, hE⟩ := fb_some hE
                      refine fx_iast hG dX12_promise_126 rfl hj21 ?_
                      refine ma_55 ?_
                      refine fx_letm hE (fun S22 hE => ?_)
                      refine pm_iincX (v := x13_6 + 1) (loc' := [some (.ref (B + 54)), some (.int za), some (.int zb), some (.int zc), some (.int zd), some (.int x11), some (.int (x13_6 + 1))]) hG dX12_promise_127 rfl (by rfl) (by decide) (pm_c1b rfl) rfl ?_
                      refine pm_goto (tgt := 81) hG dX12_promise_130 rfl ?_
                      exact ih81 _ _ hE
            refine loop81 _ (fun S23 x23_6 hE => ?_) _ _ _ hE
            refine pm_aloadn hG dX12_promise_133 rfl ?_
            refine pm_getf hG dX12_promise_134 (flX12_7 _ rfl) rfl rfl ?_
            refine pm_bipush (v := 7) hG dX12_promise_137 (by decide) ?_
            refine pm_dup2 hG dX12_promise_139 rfl rfl ?_
            refine fx_iald hG dX12_promise_140 rfl (ix_lit (by decide) rfl) ?_
            refine pm_iconst (v := 1) hG dX12_promise_141 (by decide) ?_
            refine pm_iadd hG dX12_promise_142 ?_
            refine fx_iast hG dX12_promise_143 rfl (ix_lit (by decide) rfl) ?_
            refine ma_55 ?_
            refine fx_letm hE (fun S24 hE => ?_)
            refine pm_aloadn hG dX12_promise_144 rfl ?_
            refine pm_getf hG dX12_promise_145 (flX12_7 _ rfl) rfl rfl ?_
            refine pm_sipush (v := 1806) hG dX12_promise_148 (by decide) ?_
            refine pm_bipush (v := 6) hG dX12_promise_151 (by decide) ?_
            refine pm_iloadi hG dX12_promise_153 rfl ?_
            refine pm_imul hG dX12_promise_155 ?_
            refine pm_iadd hG dX12_promise_156 ?_
            refine pm_iloadn hG dX12_promise_157 rfl ?_
            obtain ⟨j25, hj25, hE⟩ := fb_some hE
            refine fx_iast hG dX12_promise_158 rfl hj25 ?_
            refine ma_55 ?_
            refine fx_letm hE (fun S26 hE => ?_)
            refine pm_aloadn hG dX12_promise_159 rfl ?_
            refine pm_getf hG dX12_promise_160 (flX12_7 _ rfl) rfl rfl ?_
            refine pm_sipush (v := 1806) hG dX12_promise_163 (by decide) ?_
            refine pm_bipush (v := 6) hG dX12_promise_166 (by decide) ?_
            refine pm_iloadi hG dX12_promise_168 rfl ?_
            refine pm_imul hG dX12_promise_170 ?_
            refine pm_iadd hG dX12_promise_171 ?_
            refine pm_iconst (v := 1) hG dX12_promise_172 (by decide) ?_
            refine pm_iadd hG dX12_promise_173 ?_
            refine pm_iloadn hG dX12_promise_174 rfl ?_
            obtain ⟨j27, hj27, hE⟩ := fb_some hE
            refine fx_iast hG dX12_promise_175 rfl hj27 ?_
            refine ma_55 ?_
            refine fx_letm hE (fun S28 hE => ?_)
            refine pm_aloadn hG dX12_promise_176 rfl ?_
            refine pm_getf hG dX12_promise_177 (flX12_7 _ rfl) rfl rfl ?_
            refine pm_sipush (v := 1806) hG dX12_promise_180 (by decide) ?_
            refine pm_bipush (v := 6) hG dX12_promise_183 (by decide) ?_
            refine pm_iloadi hG dX12_promise_185 rfl ?_
            refine pm_imul hG dX12_promise_187 ?_
            refine pm_iadd hG dX12_promise_188 ?_
            refine pm_iconst (v := 2) hG dX12_promise_189 (by decide) ?_
            refine pm_iadd hG dX12_promise_190 ?_
            refine pm_iloadn hG dX12_promise_191 rfl ?_
            obtain ⟨j29, hj29, hE⟩ := fb_some hE
            refine fx_iast hG dX12_promise_192 rfl hj29 ?_
            refine ma_55 ?_
            refine fx_letm hE (fun S30 hE => ?_)
            refine pm_aloadn hG dX12_promise_193 rfl ?_
            refine pm_getf hG dX12_promise_194 (flX12_7 _ rfl) rfl rfl ?_
            refine pm_sipush (v := 1806) hG dX12_promise_197 (by decide) ?_
            refine pm_bipush (v := 6) hG dX12_promise_200 (by decide) ?_
            refine pm_iloadi hG dX12_promise_202 rfl ?_
            refine pm_imul hG dX12_promise_204 ?_
            refine pm_iadd hG dX12_promise_205 ?_
            refine pm_iconst (v := 3) hG dX12_promise_206 (by decide) ?_
            refine pm_iadd hG dX12_promise_207 ?_
            refine pm_iloadi hG dX12_promise_208 rfl ?_
            refine pm_if_eq (tgt := 217) hG dX12_promise_210 rfl (fun c31 => ?_) (fun c31 => ?_)
            · replace hE := fx_t c31 hE
              refine pm_iconst (v := 0) hG dX12_promise_217 (by decide) ?_
              obtain ⟨j32, hj32, hE⟩ := fb_some hE
              refine fx_iast hG dX12_promise_218 rfl hj32 ?_
              refine ma_55 ?_
              refine fx_letm hE (fun S33 hE => ?_)
              refine pm_aloadn hG dX12_promise_219 rfl ?_
              refine pm_getf hG dX12_promise_220 (flX12_7 _ rfl) rfl rfl ?_
              refine pm_sipush (v := 1806) hG dX12_promise_223 (by decide) ?_
              refine pm_bipush (v := 6) hG dX12_promise_226 (by decide) ?_
              refine pm_iloadi hG dX12_promise_228 rfl ?_
              refine pm_imul hG dX12_promise_230 ?_
              refine pm_iadd hG dX12_promise_231 ?_
              refine pm_iconst (v := 4) hG dX12_promise_232 (by decide) ?_
              refine pm_iadd hG dX12_promise_233 ?_
              refine pm_iconst (v := 0) hG dX12_promise_234 (by decide) ?_
              obtain ⟨j34, hj34, hE⟩ := fb_some hE
              refine fx_iast hG dX12_promise_235 rfl hj34 ?_
              refine ma_55 ?_
              refine fx_letm hE (fun S35 hE => ?_)
              refine pm_aloadn hG dX12_promise_236 rfl ?_
              refine pm_getf hG dX12_promise_237 (flX12_7 _ rfl) rfl rfl ?_
              refine pm_sipush (v := 1806) hG dX12_promise_240 (by decide) ?_
              refine pm_bipush (v := 6) hG dX12_promise_243 (by decide) ?_
              refine pm_iloadi hG dX12_promise_245 rfl ?_
              refine pm_imul hG dX12_promise_247 ?_
              refine pm_iadd hG dX12_promise_248 ?_
              refine pm_iconst (v := 5) hG dX12_promise_249 (by decide) ?_
              refine pm_iadd hG dX12_promise_250 ?_
              refine pm_iconst (v := 0) hG dX12_promise_251 (by decide) ?_
              obtain ⟨j36, hj36, hE⟩ := fb_some hE
              refine fx_iast hG dX12_promise_252 rfl hj36 ?_
              refine ma_55 ?_
              refine fx_letm hE (fun S37 hE => ?_)
              refine pm_iloadi hG dX12_promise_253 rfl ?_
              exact pm_iret hG hF dX12_promise_255 rfl (Nat.le_refl _) (Nat.le_refl _) (fx_rim hE)
            · replace hE := fx_f c31 hE
              refine pm_iconst (v := 1) hG dX12_promise_213 (by decide) ?_
              refine pm_goto (tgt := 218) hG dX12_promise_214 rfl ?_
              obtain ⟨j38, hj38, hE⟩ := fb_some hE
              refine fx_iast hG dX12_promise_218 rfl hj38 ?_
              refine ma_55 ?_
              refine fx_letm hE (fun S39 hE => ?_)
              refine pm_aloadn hG dX12_promise_219 rfl ?_
              refine pm_getf hG dX12_promise_220 (flX12_7 _ rfl) rfl rfl ?_
              refine pm_sipush (v := 1806) hG dX12_promise_223 (by decide) ?_
              refine pm_bipush (v := 6) hG dX12_promise_226 (by decide) ?_
              refine pm_iloadi hG dX12_promise_228 rfl ?_
              refine pm_imul hG dX12_promise_230 ?_
              refine pm_iadd hG dX12_promise_231 ?_
              refine pm_iconst (v := 4) hG dX12_promise_232 (by decide) ?_
              refine pm_iadd hG dX12_promise_233 ?_
              refine pm_iconst (v := 0) hG dX12_promise_234 (by decide) ?_
              obtain ⟨j40, hj40, hE⟩ := fb_some hE
              refine fx_iast hG dX12_promise_235 rfl hj40 ?_
              refine ma_55 ?_
              refine fx_letm hE (fun S41 hE => ?_)
              refine pm_aloadn hG dX12_promise_236 rfl ?_
              refine pm_getf hG dX12_promise_237 (flX12_7 _ rfl) rfl rfl ?_
              refine pm_sipush (v := 1806) hG dX12_promise_240 (by decide) ?_
              refine pm_bipush (v := 6) hG dX12_promise_243 (by decide) ?_
              refine pm_iloadi hG dX12_promise_245 rfl ?_
              refine pm_imul hG dX12_promise_247 ?_
              refine pm_iadd hG dX12_promise_248 ?_
              refine pm_iconst (v := 5) hG dX12_promise_249 (by decide) ?_
              refine pm_iadd hG dX12_promise_250 ?_
              refine pm_iconst (v := 0) hG dX12_promise_251 (by decide) ?_
              obtain ⟨j42, hj42, hE⟩ := fb_some hE
              refine fx_iast hG dX12_promise_252 rfl hj42 ?_
              refine ma_55 ?_
              refine fx_letm hE (fun S43 hE => ?_)
              refine pm_iloadi hG dX12_promise_253 rfl ?_
              exact pm_iret hG hF dX12_promise_255 rfl (Nat.le_refl _) (Nat.le_refl _) (fx_rim hE)
          · replace hE := fx_t c12 hE
            refine pm_aloadn hG dX12_promise_72 rfl ?_
            refine pm_iconst (v := 4) hG dX12_promise_73 (by decide) ?_
            obtain ⟨r45, h44, hE⟩ := fb_some hE
            refine pm_callV (As := [.int 4]) (rest := []) hG hR dX12_promise_74 (lkX12_80 _ rfl) okV_X12_finds rfl rfl (c_X12_finds (d := 2) (by decide) h44) rfl rfl hdd (Nat.le_refl _) (Nat.le_refl _) (by decide) (fx_ki ?_)
            exact pm_iret hG hF dX12_promise_77 rfl (Nat.le_refl _) (Nat.le_refl _) (fx_rim hE)
        · replace hE := fx_t c10 hE
          refine pm_aloadn hG dX12_promise_50 rfl ?_
          refine pm_iconst (v := 3) hG dX12_promise_51 (by decide) ?_
          obtain ⟨r47, h46, hE⟩ := fb_some hE
          refine pm_callV (As := [.int 3]) (rest := []) hG hR dX12_promise_52 (lkX12_80 _ rfl) okV_X12_finds rfl rfl (c_X12_finds (d := 2) (by decide) h46) rfl rfl hdd (Nat.le_refl _) (Nat.le_refl _) (by decide) (fx_ki ?_)
          exact pm_iret hG hF dX12_promise_55 rfl (Nat.le_refl _) (Nat.le_refl _) (fx_rim hE)
      · replace hE := fx_t c7 hE
        refine pm_aloadn hG dX12_promise_34 rfl ?_
        refine pm_iconst (v := 1) hG dX12_promise_35 (by decide) ?_
        obtain ⟨r49, h48, hE⟩ := fb_some hE
        refine pm_callV (As := [.int 1]) (rest := []) hG hR dX12_promise_36 (lkX12_80 _ rfl) okV_X12_finds rfl rfl (c_X12_finds (d := 2) (by decide) h48) rfl rfl hdd (Nat.le_refl _) (Nat.le_refl _) (by decide) (fx_ki ?_)
        exact pm_iret hG hF dX12_promise_39 rfl (Nat.le_refl _) (Nat.le_refl _) (fx_rim hE)

set_option maxRecDepth 100000 in
set_option maxHeartbeats 4000000 in
theorem c_X12_put {d : Nat} {B cnt : Nat} {σ : pm_S} {S : FS} {za : Int32} {zb : Int32} {zc : Int32} {R : Int32 × FS} (hdd : 3 ≤ d) (hE : f_X12_put S za zb zc = some R) : pm_met mX12_put d 0 0 B [.ref (B + 54), .int za, .int zb, .int zc] cnt (mst B S σ) (pm_Qi (fun v σ' cnt' => v = R.1 ∧ σ' = (mst B R.2 σ) ∧ cnt' = cnt)) := by
  refine pm_enter 0 (by decide) (Nat.le_of_ble_eq_true rfl) rfl (fun G hG hR hF => ?_)
  unfold f_X12_put at hE
  refine pm_iloadn hG dX12_put_0 rfl ?_
  refine pm_callS (As := [.int za]) (rest := []) hG hR dX12_put_1 (lkX12_239 _ rfl) okS_X12_isSheet (c_X12_isSheet (d := 2) (by decide) rfl) rfl rfl hdd (Nat.le_refl _) (Nat.le_refl _) (by decide) (fx_ki ?_)
  refine pm_if_ne (tgt := 13) hG dX12_put_4 rfl (fun c1 => ?_) (fun c1 => ?_)
  · replace hE := fx_f c1 hE
    refine pm_aloadn hG dX12_put_13 rfl ?_
    refine pm_getf hG dX12_put_14 (flX12_55 _ rfl) rfl rfl ?_
    refine pm_iloadn hG dX12_put_17 rfl ?_
    obtain ⟨j2, hj2, hE⟩ := fb_some hE
    refine fx_iald hG dX12_put_18 rfl hj2 ?_
    refine pm_if_ne (tgt := 28) hG dX12_put_19 rfl (fun c3 => ?_) (fun c3 => ?_)
    · replace hE := fx_f c3 hE
      refine pm_iloadn hG dX12_put_28 rfl ?_
      refine pm_iconst (v := 0) hG dX12_put_29 (by decide) ?_
      refine pm_aloadn hG dX12_put_30 rfl ?_
      refine pm_getf hG dX12_put_31 (flX12_58 _ rfl) rfl rfl ?_
      refine pm_iloadn hG dX12_put_34 rfl ?_
      refine fx_iald hG dX12_put_35 rfl hj2 ?_
      refine pm_iconst (v := 1) hG dX12_put_36 (by decide) ?_
      refine pm_isub hG dX12_put_37 ?_
      refine pm_callS (As := [.int zb, .int 0, .int ((S.2 71 j2) - 1)]) (rest := []) hG hR dX12_put_38 (lkX12_68 _ rfl) okS_X12_in (c_X12_in (d := 2) (by decide) rfl) rfl rfl hdd (Nat.le_refl _) (Nat.le_refl _) (by decide) (fx_ki ?_)
      refine pm_if_ne (tgt := 50) hG dX12_put_41 rfl (fun c4 => ?_) (fun c4 => ?_)
      · replace hE := fx_f c4 hE
        refine pm_aloadn hG dX12_put_50 rfl ?_
        refine pm_getf hG dX12_put_51 (flX12_61 _ rfl) rfl rfl ?_
        refine pm_bipush (v := 24) hG dX12_put_54 (by decide) ?_
        refine pm_iloadn hG dX12_put_56 rfl ?_
        refine pm_imul hG dX12_put_57 ?_
        refine pm_iloadn hG dX12_put_58 rfl ?_
        refine pm_iadd hG dX12_put_59 ?_
        refine pm_aloadn hG dX12_put_60 rfl ?_
        refine pm_getf hG dX12_put_61 (flX12_55 _ rfl) rfl rfl ?_
        refine pm_iloadn hG dX12_put_64 rfl ?_
        refine fx_iald hG dX12_put_65 rfl hj2 ?_
        refine pm_bipush (v := 8) hG dX12_put_66 (by decide) ?_
        refine pm_icmp_ne (tgt := 76) hG dX12_put_68 rfl (fun c5 => ?_) (fun c5 => ?_)
        · replace hE := fx_f c5 hE
          refine pm_aloadn hG dX12_put_76 rfl ?_
          refine pm_getf hG dX12_put_77 (flX12_55 _ rfl) rfl rfl ?_
          refine pm_iloadn hG dX12_put_80 rfl ?_
          refine fx_iald hG dX12_put_81 rfl hj2 ?_
          refine pm_bipush (v := 16) hG dX12_put_82 (by decide) ?_
          refine pm_icmp_ne (tgt := 92) hG dX12_put_84 rfl (fun c6 => ?_) (fun c6 => ?_)
          · replace hE := fx_f c6 hE
            refine pm_iloadn hG dX12_put_92 rfl ?_
            obtain ⟨j7, hj7, hE⟩ := fb_some hE
            refine fx_iast hG dX12_put_93 rfl hj7 ?_
            refine ma_72 ?_
            refine fx_letm hE (fun S8 hE => ?_)
            refine pm_iconst (v := 1) hG dX12_put_94 (by decide) ?_
            exact pm_iret hG hF dX12_put_95 rfl (Nat.le_refl _) (Nat.le_refl _) (fx_rim hE)
          · replace hE := fx_t c6 hE
            refine pm_iloadn hG dX12_put_87 rfl ?_
            refine pm_i2s hG dX12_put_88 rfl ?_
            refine pm_goto (tgt := 93) hG dX12_put_89 rfl ?_
            obtain ⟨j9, hj9, hE⟩ := fb_some hE
            refine fx_iast hG dX12_put_93 rfl hj9 ?_
            refine ma_72 ?_
            refine fx_letm hE (fun S10 hE => ?_)
            refine pm_iconst (v := 1) hG dX12_put_94 (by decide) ?_
            exact pm_iret hG hF dX12_put_95 rfl (Nat.le_refl _) (Nat.le_refl _) (fx_rim hE)
        · replace hE := fx_t c5 hE
          refine pm_iloadn hG dX12_put_71 rfl ?_
          refine pm_i2b hG dX12_put_72 rfl ?_
          refine pm_goto (tgt := 93) hG dX12_put_73 rfl ?_
          obtain ⟨j11, hj11, hE⟩ := fb_some hE
          refine fx_iast hG dX12_put_93 rfl hj11 ?_
          refine ma_72 ?_
          refine fx_letm hE (fun S12 hE => ?_)
          refine pm_iconst (v := 1) hG dX12_put_94 (by decide) ?_
          exact pm_iret hG hF dX12_put_95 rfl (Nat.le_refl _) (Nat.le_refl _) (fx_rim hE)
      · replace hE := fx_t c4 hE
        refine pm_aloadn hG dX12_put_44 rfl ?_
        refine pm_iconst (v := 1) hG dX12_put_45 (by decide) ?_
        obtain ⟨r14, h13, hE⟩ := fb_some hE
        refine pm_callV (As := [.int 1]) (rest := []) hG hR dX12_put_46 (lkX12_80 _ rfl) okV_X12_finds rfl rfl (c_X12_finds (d := 2) (by decide) h13) rfl rfl hdd (Nat.le_refl _) (Nat.le_refl _) (by decide) (fx_ki ?_)
        exact pm_iret hG hF dX12_put_49 rfl (Nat.le_refl _) (Nat.le_refl _) (fx_rim hE)
    · replace hE := fx_t c3 hE
      refine pm_aloadn hG dX12_put_22 rfl ?_
      refine pm_iconst (v := 2) hG dX12_put_23 (by decide) ?_
      obtain ⟨r16, h15, hE⟩ := fb_some hE
      refine pm_callV (As := [.int 2]) (rest := []) hG hR dX12_put_24 (lkX12_80 _ rfl) okV_X12_finds rfl rfl (c_X12_finds (d := 2) (by decide) h15) rfl rfl hdd (Nat.le_refl _) (Nat.le_refl _) (by decide) (fx_ki ?_)
      exact pm_iret hG hF dX12_put_27 rfl (Nat.le_refl _) (Nat.le_refl _) (fx_rim hE)
  · replace hE := fx_t c1 hE
    refine pm_aloadn hG dX12_put_7 rfl ?_
    refine pm_iconst (v := 1) hG dX12_put_8 (by decide) ?_
    obtain ⟨r18, h17, hE⟩ := fb_some hE
    refine pm_callV (As := [.int 1]) (rest := []) hG hR dX12_put_9 (lkX12_80 _ rfl) okV_X12_finds rfl rfl (c_X12_finds (d := 2) (by decide) h17) rfl rfl hdd (Nat.le_refl _) (Nat.le_refl _) (by decide) (fx_ki ?_)
    exact pm_iret hG hF dX12_put_12 rfl (Nat.le_refl _) (Nat.le_refl _) (fx_rim hE)

set_option maxRecDepth 100000 in
set_option maxHeartbeats 4000000 in
theorem c_X12_ranksPower {d : Nat} {B cnt : Nat} {σ : pm_S} {S : FS} {za : Int32} {zb : Int32} {R : Int32 × FS} (hdd : 2 ≤ d) (hE : f_X12_ranksPower S za zb = some R) : pm_met mX12_ranksPower d 0 0 B [.ref (B + 54), .int za, .int zb] cnt (mst B S σ) (pm_Qi (fun v σ' cnt' => v = R.1 ∧ σ' = (mst B R.2 σ) ∧ cnt' = cnt)) := by
  refine pm_enter 0 (by decide) (Nat.le_of_ble_eq_true rfl) rfl (fun G hG hR hF => ?_)
  unfold f_X12_ranksPower at hE
  refine pm_aloadn hG dX12_ranksPower_0 rfl ?_
  refine pm_bipush (v := 12) hG dX12_ranksPower_1 (by decide) ?_
  obtain ⟨r2, h1, hE⟩ := fb_some hE
  refine pm_callV (As := [.int 12]) (rest := []) hG hR dX12_ranksPower_3 (lkX12_286 _ rfl) okV_X12_ran rfl rfl (c_X12_ran (d := 1) (by decide) h1) rfl rfl hdd (Nat.le_refl _) (Nat.le_refl _) (by decide) (fx_kv ?_)
  refine pm_iloadn hG dX12_ranksPower_6 rfl ?_
  refine pm_iloadn hG dX12_ranksPower_7 rfl ?_
  refine pm_isub hG dX12_ranksPower_8 ?_
  exact pm_iret hG hF dX12_ranksPower_9 rfl (Nat.le_refl _) (Nat.le_refl _) (fx_rim hE)

set_option maxRecDepth 100000 in
set_option maxHeartbeats 4000000 in
theorem c_X12_ranksOf {d : Nat} {B cnt : Nat} {σ : pm_S} {S : FS} {za : Int32} {zb : Int32} {R : Int32 × FS} (hdd : 3 ≤ d) (hE : f_X12_ranksOf S za zb = some R) : pm_met mX12_ranksOf d 0 0 B [.ref (B + 54), .int za, .int zb] cnt (mst B S σ) (pm_Qi (fun v σ' cnt' => v = R.1 ∧ σ' = (mst B R.2 σ) ∧ cnt' = cnt)) := by
  refine pm_enter 0 (by decide) (Nat.le_of_ble_eq_true rfl) rfl (fun G hG hR hF => ?_)
  unfold f_X12_ranksOf at hE
  refine pm_aloadn hG dX12_ranksOf_0 rfl ?_
  refine pm_iloadn hG dX12_ranksOf_1 rfl ?_
  refine pm_iconst (v := 0) hG dX12_ranksOf_2 (by decide) ?_
  obtain ⟨x2, h1, hE⟩ := fb_some hE
  refine pm_callV (As := [.int za, .int 0]) (rest := []) hG hR dX12_ranksOf_3 (lkX12_110 _ rfl) okV_X12_its rfl rfl (c_X12_its (d := 2) (by decide) h1) rfl rfl hdd (Nat.le_refl _) (Nat.le_refl _) (by decide) (fx_ki ?_)
  refine pm_iconst (v := 2) hG dX12_ranksOf_6 (by decide) ?_
  refine pm_icmp_eq (tgt := 17) hG dX12_ranksOf_7 rfl (fun c3 => ?_) (fun c3 => ?_)
  · replace hE := fx_t c3 hE
    refine pm_aloadn hG dX12_ranksOf_17 rfl ?_
    refine pm_bipush (v := 30) hG dX12_ranksOf_18 (by decide) ?_
    obtain ⟨r5, h4, hE⟩ := fb_some hE
    refine pm_callV (As := [.int 30]) (rest := []) hG hR dX12_ranksOf_20 (lkX12_286 _ rfl) okV_X12_ran rfl rfl (c_X12_ran (d := 2) (by decide) h4) rfl rfl hdd (Nat.le_refl _) (Nat.le_refl _) (by decide) (fx_kv ?_)
    refine pm_aloadn hG dX12_ranksOf_23 rfl ?_
    refine pm_iloadn hG dX12_ranksOf_24 rfl ?_
    refine pm_iloadn hG dX12_ranksOf_25 rfl ?_
    obtain ⟨r7, h6, hE⟩ := fb_some hE
    refine pm_callV (As := [.int za, .int zb]) (rest := []) hG hR dX12_ranksOf_26 (lkX12_301 _ rfl) okV_X12_ranksPower rfl rfl (c_X12_ranksPower (d := 2) (by decide) h6) rfl rfl hdd (Nat.le_refl _) (Nat.le_refl _) (by decide) (fx_ki ?_)
    refine pm_iconst (v := 3) hG dX12_ranksOf_29 (by decide) ?_
    refine pm_imul hG dX12_ranksOf_30 ?_
    exact pm_iret hG hF dX12_ranksOf_31 rfl (Nat.le_refl _) (Nat.le_refl _) (fx_rim hE)
  · replace hE := fx_f c3 hE
    refine pm_aloadn hG dX12_ranksOf_10 rfl ?_
    refine pm_iloadn hG dX12_ranksOf_11 rfl ?_
    refine pm_iloadn hG dX12_ranksOf_12 rfl ?_
    obtain ⟨r9, h8, hE⟩ := fb_some hE
    refine pm_callV (As := [.int za, .int zb]) (rest := []) hG hR dX12_ranksOf_13 (lkX12_301 _ rfl) okV_X12_ranksPower rfl rfl (c_X12_ranksPower (d := 2) (by decide) h8) rfl rfl hdd (Nat.le_refl _) (Nat.le_refl _) (by decide) (fx_ki ?_)
    exact pm_iret hG hF dX12_ranksOf_16 rfl (Nat.le_refl _) (Nat.le_refl _) (fx_rim hE)

set_option maxRecDepth 100000 in
set_option maxHeartbeats 4000000 in
theorem c_X12_rent {d : Nat} {B cnt : Nat} {σ : pm_S} {S : FS} {za : Int32} {zb : Int32} {R : Int32 × FS} (hdd : 3 ≤ d) (hE : f_X12_rent S za zb = some R) : pm_met mX12_rent d 0 0 B [.ref (B + 54), .int za, .int zb] cnt (mst B S σ) (pm_Qi (fun v σ' cnt' => v = R.1 ∧ σ' = (mst B R.2 σ) ∧ cnt' = cnt)) := by
  refine pm_enter 1 (by decide) (Nat.le_of_ble_eq_true rfl) rfl (fun G hG hR hF => ?_)
  unfold f_X12_rent at hE
  refine pm_aloadn hG dX12_rent_0 rfl ?_
  refine pm_iloadn hG dX12_rent_1 rfl ?_
  refine pm_callV (As := [.int za]) (rest := []) hG hR dX12_rent_2 (lkX12_84 _ rfl) okV_X12_isTown rfl rfl (c_X12_isTown (d := 2) (by decide) rfl) rfl rfl hdd (Nat.le_refl _) (Nat.le_refl _) (by decide) (fx_ki ?_)
  refine pm_if_eq (tgt := 19) hG dX12_rent_5 rfl (fun c1 => ?_) (fun c1 => ?_)
  · replace hE := fx_t c1 hE
    refine pm_aloadn hG dX12_rent_19 rfl ?_
    refine pm_iconst (v := 1) hG dX12_rent_20 (by decide) ?_
    obtain ⟨r3, h2, hE⟩ := fb_some hE
    refine pm_callV (As := [.int 1]) (rest := []) hG hR dX12_rent_21 (lkX12_80 _ rfl) okV_X12_finds rfl rfl (c_X12_finds (d := 2) (by decide) h2) rfl rfl hdd (Nat.le_refl _) (Nat.le_refl _) (by decide) (fx_ki ?_)
    exact pm_iret hG hF dX12_rent_24 rfl (Nat.le_refl _) (Nat.le_refl _) (fx_rim hE)
  · replace hE := fx_f c1 hE
    refine pm_iloadn hG dX12_rent_8 rfl ?_
    refine pm_iconst (v := 0) hG dX12_rent_9 (by decide) ?_
    refine pm_sipush (v := 999) hG dX12_rent_10 (by decide) ?_
    refine pm_callS (As := [.int zb, .int 0, .int 999]) (rest := []) hG hR dX12_rent_13 (lkX12_68 _ rfl) okS_X12_in (c_X12_in (d := 2) (by decide) rfl) rfl rfl hdd (Nat.le_refl _) (Nat.le_refl _) (by decide) (fx_ki ?_)
    refine pm_if_ne (tgt := 25) hG dX12_rent_16 rfl (fun c4 => ?_) (fun c4 => ?_)
    · replace hE := fx_f c4 hE
      refine pm_aloadn hG dX12_rent_25 rfl ?_
      refine pm_getf hG dX12_rent_26 (flX12_7 _ rfl) rfl rfl ?_
      refine pm_bipush (v := 20) hG dX12_rent_29 (by decide) ?_
      refine pm_iconst (v := 3) hG dX12_rent_31 (by decide) ?_
      refine pm_iloadn hG dX12_rent_32 rfl ?_
      refine pm_imul hG dX12_rent_33 ?_
      refine pm_iadd hG dX12_rent_34 ?_
      obtain ⟨j5, hj5, hE⟩ := fb_some hE
      refine fx_iald hG dX12_rent_35 rfl hj5 ?_
      refine fx_letv hE (fun x6 hE => ?_)
      refine pm_istoreXn (loc' := [some (.ref (B + 54)), some (.int za), some (.int zb), some (.int x6)]) hG dX12_rent_36 (by decide) (pm_c1b rfl) rfl ?_
      refine pm_aloadn hG dX12_rent_37 rfl ?_
      refine pm_getf hG dX12_rent_38 (flX12_7 _ rfl) rfl rfl ?_
      refine pm_bipush (v := 20) hG dX12_rent_41 (by decide) ?_
      refine pm_iconst (v := 3) hG dX12_rent_43 (by decide) ?_
      refine pm_iloadn hG dX12_rent_44 rfl ?_
      refine pm_imul hG dX12_rent_45 ?_
      refine pm_iadd hG dX12_rent_46 ?_
      refine pm_iloadn hG dX12_rent_47 rfl ?_
      refine fx_iast hG dX12_rent_48 rfl hj5 ?_
      refine ma_55 ?_
      refine fx_letm hE (fun S7 hE => ?_)
      refine pm_iloadn hG dX12_rent_49 rfl ?_
      exact pm_iret hG hF dX12_rent_50 rfl (Nat.le_refl _) (Nat.le_refl _) (fx_rim hE)
    · replace hE := fx_t c4 hE
      refine pm_aloadn hG dX12_rent_19 rfl ?_
      refine pm_iconst (v := 1) hG dX12_rent_20 (by decide) ?_
      obtain ⟨r9, h8, hE⟩ := fb_some hE
      refine pm_callV (As := [.int 1]) (rest := []) hG hR dX12_rent_21 (lkX12_80 _ rfl) okV_X12_finds rfl rfl (c_X12_finds (d := 2) (by decide) h8) rfl rfl hdd (Nat.le_refl _) (Nat.le_refl _) (by decide) (fx_ki ?_)
      exact pm_iret hG hF dX12_rent_24 rfl (Nat.le_refl _) (Nat.le_refl _) (fx_rim hE)

set_option maxRecDepth 100000 in
set_option maxHeartbeats 4000000 in
theorem c_X12_rents {d : Nat} {B cnt : Nat} {σ : pm_S} {S : FS} {za : Int32} {zb : Int32} {R : Int32 × FS} (hdd : 3 ≤ d) (hE : f_X12_rents S za zb = some R) : pm_met mX12_rents d 0 0 B [.ref (B + 54), .int za, .int zb] cnt (mst B S σ) (pm_Qi (fun v σ' cnt' => v = R.1 ∧ σ' = (mst B R.2 σ) ∧ cnt' = cnt)) := by
  refine pm_enter 2 (by decide) (Nat.le_of_ble_eq_true rfl) rfl (fun G hG hR hF => ?_)
  unfold f_X12_rents at hE
  have join31 : ∀ (S1 : FS), j_X12_rents_31 za zb S1 = some R → pm_wp mX12_rents G B 31 [some (.ref (B + 54)), some (.int za), some (.int zb), none, none] [] 0 0 cnt (mst B S1 σ) := by
    intro S1 hE
    unfold j_X12_rents_31 at hE
    refine pm_aloadn hG dX12_rents_31 rfl ?_
    refine pm_getf hG dX12_rents_32 (flX12_55 _ rfl) rfl rfl ?_
    refine pm_iloadn hG dX12_rents_35 rfl ?_
    obtain ⟨j2, hj2, hE⟩ := fb_some hE
    refine fx_iald hG dX12_rents_36 rfl hj2 ?_
    refine pm_if_ne (tgt := 46) hG dX12_rents_37 rfl (fun c3 => ?_) (fun c3 => ?_)
    · replace hE := fx_f c3 hE
      refine pm_aloadn hG dX12_rents_46 rfl ?_
      refine pm_getf hG dX12_rents_47 (flX12_55 _ rfl) rfl rfl ?_
      refine pm_iloadn hG dX12_rents_50 rfl ?_
      refine fx_iald hG dX12_rents_51 rfl hj2 ?_
      refine pm_iloadn hG dX12_rents_52 rfl ?_
      refine pm_icmp_eq (tgt := 62) hG dX12_rents_53 rfl (fun c4 => ?_) (fun c4 => ?_)
      · replace hE := fx_t c4 hE
        refine pm_aloadn hG dX12_rents_62 rfl ?_
        refine pm_getf hG dX12_rents_63 (flX12_58 _ rfl) rfl rfl ?_
        refine pm_iloadn hG dX12_rents_66 rfl ?_
        refine fx_iald hG dX12_rents_67 rfl hj2 ?_
        refine pm_aloadn hG dX12_rents_68 rfl ?_
        refine pm_getf hG dX12_rents_69 (flX12_7 _ rfl) rfl rfl ?_
        refine pm_iconst (v := 0) hG dX12_rents_72 (by decide) ?_
        refine fx_iald hG dX12_rents_73 rfl (ix_lit (by decide) rfl) ?_
        refine pm_icmp_le (tgt := 83) hG dX12_rents_74 rfl (fun c5 => ?_) (fun c5 => ?_)
        · replace c5 := Int32.not_lt.mpr c5
          replace hE := fx_f c5 hE
          refine pm_iconst (v := 0) hG dX12_rents_83 (by decide) ?_
          refine pm_istoreXn (loc' := [some (.ref (B + 54)), some (.int za), some (.int zb), some (.int 0), none]) hG dX12_rents_84 (by decide) (pm_c1b rfl) rfl ?_
          have loop85 : ∀ (k85 : FS → Int32 → Option (Int32 × FS)), (∀ (S6 : FS) (x6_3 : Int32), k85 S6  x6_3 = some R → pm_wp mX12_rents G B 128 [some (.ref (B + 54)), some (.int za), some (.int zb), some (.int x6_3), none] [] 0 0 cnt (mst B S6 σ)) → ∀ (m85 : Nat) (S6 : FS) (x6_3 : Int32), l_X12_rents_85 za j2 k85 m85 S6  x6_3 = some R → pm_wp mX12_rents G B 85 [some (.ref (B + 54)), some (.int za), some (.int zb), some (.int x6_3), none] [] 0 0 cnt (mst B S6 σ) := by
            intro k85 hk85 m85
            induction m85 with
            | zero => intro S6  x6_3 hE; exact fx_no hE
            | succ m85 ih85 =>
              intro S6  x6_3 hE
              rw [l_X12_rents_85] at hE
              refine pm_iloadn hG dX12_rents_85 rfl ?_
              refine pm_aloadn hG dX12_rents_86 rfl ?_
              refine pm_getf hG dX12_rents_87 (flX12_58 _ rfl) rfl rfl ?_
              refine pm_iloadn hG dX12_rents_90 rfl ?_
              refine fx_iald hG dX12_rents_91 rfl hj2 ?_
              refine pm_icmp_ge (tgt := 128) hG dX12_rents_92 rfl (fun c7 => ?_) (fun c7 => ?_)
              · replace c7 := Int32.not_lt.mpr c7
                replace hE := fx_f c7 hE
                exact hk85 _ _ hE
              · replace c7 := Int32.not_le.mp c7
                replace hE := fx_t c7 hE
                refine pm_aloadn hG dX12_rents_95 rfl ?_
                refine pm_getf hG dX12_rents_96 (flX12_61 _ rfl) rfl rfl ?_
                refine pm_bipush (v := 24) hG dX12_rents_99 (by decide) ?_
                refine pm_iloadn hG dX12_rents_101 rfl ?_
                refine pm_imul hG dX12_rents_102 ?_
                refine pm_iloadn hG dX12_rents_103 rfl ?_
                refine pm_iadd hG dX12_rents_104 ?_
                obtain ⟨j8, hj8, hE⟩ := fb_some hE
                refine fx_iald hG dX12_rents_105 rfl hj8 ?_
                refine pm_iconst (v := (-1)) hG dX12_rents_106 (by decide) ?_
                refine pm_sipush (v := 999) hG dX12_rents_107 (by decide) ?_
                refine pm_callS (As := [.int (S6.2 72 j8), .int (-1), .int 999]) (rest := []) hG hR dX12_rents_110 (lkX12_68 _ rfl) okS_X12_in (c_X12_in (d := 2) (by decide) rfl) rfl rfl hdd (Nat.le_refl _) (Nat.le_refl _) (by decide) (fx_ki ?_)
                refine pm_if_ne (tgt := 122) hG dX12_rents_113 rfl (fun c9 => ?_) (fun c9 => ?_)
                · replace hE := fx_f c9 hE
                  refine pm_iincX (v := x6_3 + 1) (loc' := [some (.ref (B + 54)), some (.int za), some (.int zb), some (.int (x6_3 + 1)), none]) hG dX12_rents_122 rfl (by rfl) (by decide) (pm_c1b rfl) rfl ?_
                  refine pm_goto (tgt := 85) hG dX12_rents_125 rfl ?_
                  exact ih85 _ _ hE
                · replace hE := fx_t c9 hE
                  refine pm_aloadn hG dX12_rents_116 rfl ?_
                  refine pm_iconst (v := 1) hG dX12_rents_117 (by decide) ?_
                  obtain ⟨r11, h10, hE⟩ := fb_some hE
                  refine pm_callV (As := [.int 1]) (rest := []) hG hR dX12_rents_118 (lkX12_80 _ rfl) okV_X12_finds rfl rfl (c_X12_finds (d := 2) (by decide) h10) rfl rfl hdd (Nat.le_refl _) (Nat.le_refl _) (by decide) (fx_ki ?_)
                  exact pm_iret hG hF dX12_rents_121 rfl (Nat.le_refl _) (Nat.le_refl _) (fx_rim hE)
          refine loop85 _ (fun S12 x12_3 hE => ?_) _ _ _ hE
          refine pm_iconst (v := 0) hG dX12_rents_128 (by decide) ?_
          refine pm_istoreXn (loc' := [some (.ref (B + 54)), some (.int za), some (.int zb), some (.int 0), none]) hG dX12_rents_129 (by decide) (pm_c1b rfl) rfl ?_
          refine pm_iconst (v := 0) hG dX12_rents_130 (by decide) ?_
          refine pm_istoreXi (loc' := [some (.ref (B + 54)), some (.int za), some (.int zb), some (.int 0), some (.int 0)]) hG dX12_rents_131 (by decide) (pm_c1b rfl) rfl ?_
          have loop133 : ∀ (k133 : FS → Int32 → Int32 → Option (Int32 × FS)), (∀ (S13 : FS) (x13_3 : Int32) (x13_4 : Int32), k133 S13  x13_3 x13_4 = some R → pm_wp mX12_rents G B 195 [some (.ref (B + 54)), some (.int za), some (.int zb), some (.int x13_3), some (.int x13_4)] [] 0 0 cnt (mst B S13 σ)) → ∀ (m133 : Nat) (S13 : FS) (x13_3 : Int32) (x13_4 : Int32), l_X12_rents_133 za j2 k133 m133 S13  x13_3 x13_4 = some R → pm_wp mX12_rents G B 133 [some (.ref (B + 54)), some (.int za), some (.int zb), some (.int x13_3), some (.int x13_4)] [] 0 0 cnt (mst B S13 σ) := by
            intro k133 hk133 m133
            induction m133 with
            | zero => intro S13  x13_3 x13_4 hE; exact fx_no hE
            | succ m133 ih133 =>
              intro S13  x13_3 x13_4 hE
              rw [l_X12_rents_133] at hE
              refine pm_iloadi hG dX12_rents_133 rfl ?_
              refine pm_aloadn hG dX12_rents_135 rfl ?_
              refine pm_getf hG dX12_rents_136 (flX12_58 _ rfl) rfl rfl ?_
              refine pm_iloadn hG dX12_rents_139 rfl ?_
              refine fx_iald hG dX12_rents_140 rfl hj2 ?_
              refine pm_icmp_ge (tgt := 195) hG dX12_rents_141 rfl (fun c14 => ?_) (fun c14 => ?_)
              · replace c14 := Int32.not_lt.mpr c14
                replace hE := fx_f c14 hE
                exact hk133 _ _ _ hE
              · replace c14 := Int32.not_le.mp c14
                replace hE := fx_t c14 hE
                refine pm_aloadn hG dX12_rents_144 rfl ?_
                refine pm_getf hG dX12_rents_145 (flX12_61 _ rfl) rfl rfl ?_
                refine pm_bipush (v := 24) hG dX12_rents_148 (by decide) ?_
                refine pm_iloadn hG dX12_rents_150 rfl ?_
                refine pm_imul hG dX12_rents_151 ?_
                refine pm_iloadi hG dX12_rents_152 rfl ?_
                refine pm_iadd hG dX12_rents_154 ?_
                obtain ⟨j15, hj15, hE⟩ := fb_some hE
                refine fx_iald hG dX12_rents_155 rfl hj15 ?_
                refine pm_if_ge (tgt := 162) hG dX12_rents_156 rfl (fun c16 => ?_) (fun c16 => ?_)
                · replace c16 := Int32.not_lt.mpr c16
                  replace hE := fx_f c16 hE
                  refine pm_aloadn hG dX12_rents_162 rfl ?_
                  refine pm_getf hG dX12_rents_163 (flX12_7 _ rfl) rfl rfl ?_
                  refine pm_bipush (v := 20) hG dX12_rents_166 (by decide) ?_
                  refine pm_iconst (v := 3) hG dX12_rents_168 (by decide) ?_
                  refine pm_iloadi hG dX12_rents_169 rfl ?_
                  refine pm_imul hG dX12_rents_171 ?_
                  refine pm_iadd hG dX12_rents_172 ?_
                  refine pm_aloadn hG dX12_rents_173 rfl ?_
                  refine pm_getf hG dX12_rents_174 (flX12_61 _ rfl) rfl rfl ?_
                  refine pm_bipush (v := 24) hG dX12_rents_177 (by decide) ?_
                  refine pm_iloadn hG dX12_rents_179 rfl ?_
                  refine pm_imul hG dX12_rents_180 ?_
                  refine pm_iloadi hG dX12_rents_181 rfl ?_
                  refine pm_iadd hG dX12_rents_183 ?_
                  refine fx_iald hG dX12_rents_184 rfl hj15 ?_
                  obtain ⟨j17, hj17, hE⟩ := fb_some hE
                  refine fx_iast hG dX12_rents_185 rfl hj17 ?_
                  refine ma_55 ?_
                  refine fx_letm hE (fun S18 hE => ?_)
                  refine pm_iincX (v := x13_3 + 1) (loc' := [some (.ref (B + 54)), some (.int za), some (.int zb), some (.int (x13_3 + 1)), some (.int x13_4)]) hG dX12_rents_186 rfl (by rfl) (by decide) (pm_c1b rfl) rfl ?_
                  refine pm_iincX (v := x13_4 + 1) (loc' := [some (.ref (B + 54)), some (.int za), some (.int zb), some (.int (x13_3 + 1)), some (.int (x13_4 + 1))]) hG dX12_rents_189 rfl (by rfl) (by decide) (pm_c1b rfl) rfl ?_
                  refine pm_goto (tgt := 133) hG dX12_rents_192 rfl ?_
                  exact ih133 _ _ _ hE
                · replace c16 := Int32.not_le.mp c16
                  replace hE := fx_t c16 hE
                  refine pm_goto (tgt := 189) hG dX12_rents_159 rfl ?_
                  refine pm_iincX (v := x13_4 + 1) (loc' := [some (.ref (B + 54)), some (.int za), some (.int zb), some (.int x13_3), some (.int (x13_4 + 1))]) hG dX12_rents_189 rfl (by rfl) (by decide) (pm_c1b rfl) rfl ?_
                  refine pm_goto (tgt := 133) hG dX12_rents_192 rfl ?_
                  exact ih133 _ _ _ hE
          refine loop133 _ (fun S19 x19_3 x19_4 hE => ?_) _ _ _ _ hE
          refine pm_iloadn hG dX12_rents_195 rfl ?_
          exact pm_iret hG hF dX12_rents_196 rfl (Nat.le_refl _) (Nat.le_refl _) (fx_rim hE)
        · replace c5 := Int32.not_le.mp c5
          replace hE := fx_t c5 hE
          refine pm_aloadn hG dX12_rents_77 rfl ?_
          refine pm_iconst (v := 3) hG dX12_rents_78 (by decide) ?_
          obtain ⟨r21, h20, hE⟩ := fb_some hE
          refine pm_callV (As := [.int 3]) (rest := []) hG hR dX12_rents_79 (lkX12_80 _ rfl) okV_X12_finds rfl rfl (c_X12_finds (d := 2) (by decide) h20) rfl rfl hdd (Nat.le_refl _) (Nat.le_refl _) (by decide) (fx_ki ?_)
          exact pm_iret hG hF dX12_rents_82 rfl (Nat.le_refl _) (Nat.le_refl _) (fx_rim hE)
      · replace hE := fx_f c4 hE
        refine pm_aloadn hG dX12_rents_56 rfl ?_
        refine pm_iconst (v := 5) hG dX12_rents_57 (by decide) ?_
        obtain ⟨r23, h22, hE⟩ := fb_some hE
        refine pm_callV (As := [.int 5]) (rest := []) hG hR dX12_rents_58 (lkX12_80 _ rfl) okV_X12_finds rfl rfl (c_X12_finds (d := 2) (by decide) h22) rfl rfl hdd (Nat.le_refl _) (Nat.le_refl _) (by decide) (fx_ki ?_)
        exact pm_iret hG hF dX12_rents_61 rfl (Nat.le_refl _) (Nat.le_refl _) (fx_rim hE)
    · replace hE := fx_t c3 hE
      refine pm_aloadn hG dX12_rents_40 rfl ?_
      refine pm_iconst (v := 2) hG dX12_rents_41 (by decide) ?_
      obtain ⟨r25, h24, hE⟩ := fb_some hE
      refine pm_callV (As := [.int 2]) (rest := []) hG hR dX12_rents_42 (lkX12_80 _ rfl) okV_X12_finds rfl rfl (c_X12_finds (d := 2) (by decide) h24) rfl rfl hdd (Nat.le_refl _) (Nat.le_refl _) (by decide) (fx_ki ?_)
      exact pm_iret hG hF dX12_rents_45 rfl (Nat.le_refl _) (Nat.le_refl _) (fx_rim hE)
  refine pm_iloadn hG dX12_rents_0 rfl ?_
  refine pm_callS (As := [.int za]) (rest := []) hG hR dX12_rents_1 (lkX12_239 _ rfl) okS_X12_isSheet (c_X12_isSheet (d := 2) (by decide) rfl) rfl rfl hdd (Nat.le_refl _) (Nat.le_refl _) (by decide) (fx_ki ?_)
  refine pm_if_eq (tgt := 25) hG dX12_rents_4 rfl (fun c26 => ?_) (fun c26 => ?_)
  · replace hE := fx_t c26 hE
    refine pm_aloadn hG dX12_rents_25 rfl ?_
    refine pm_iconst (v := 1) hG dX12_rents_26 (by decide) ?_
    obtain ⟨r28, h27, hE⟩ := fb_some hE
    refine pm_callV (As := [.int 1]) (rest := []) hG hR dX12_rents_27 (lkX12_80 _ rfl) okV_X12_finds rfl rfl (c_X12_finds (d := 2) (by decide) h27) rfl rfl hdd (Nat.le_refl _) (Nat.le_refl _) (by decide) (fx_ki ?_)
    exact pm_iret hG hF dX12_rents_30 rfl (Nat.le_refl _) (Nat.le_refl _) (fx_rim hE)
  · replace hE := fx_f c26 hE
    refine pm_iloadn hG dX12_rents_7 rfl ?_
    refine pm_bipush (v := 8) hG dX12_rents_8 (by decide) ?_
    refine pm_icmp_eq (tgt := 31) hG dX12_rents_10 rfl (fun c29 => ?_) (fun c29 => ?_)
    · replace hE := fx_t c29 hE
      exact join31 _ hE
    · replace hE := fx_f c29 hE
      refine pm_iloadn hG dX12_rents_13 rfl ?_
      refine pm_bipush (v := 16) hG dX12_rents_14 (by decide) ?_
      refine pm_icmp_eq (tgt := 31) hG dX12_rents_16 rfl (fun c30 => ?_) (fun c30 => ?_)
      · replace hE := fx_t c30 hE
        exact join31 _ hE
      · replace hE := fx_f c30 hE
        refine pm_iloadn hG dX12_rents_19 rfl ?_
        refine pm_bipush (v := 32) hG dX12_rents_20 (by decide) ?_
        refine pm_icmp_eq (tgt := 31) hG dX12_rents_22 rfl (fun c31 => ?_) (fun c31 => ?_)
        · replace hE := fx_t c31 hE
          exact join31 _ hE
        · replace hE := fx_f c31 hE
          refine pm_aloadn hG dX12_rents_25 rfl ?_
          refine pm_iconst (v := 1) hG dX12_rents_26 (by decide) ?_
          obtain ⟨r33, h32, hE⟩ := fb_some hE
          refine pm_callV (As := [.int 1]) (rest := []) hG hR dX12_rents_27 (lkX12_80 _ rfl) okV_X12_finds rfl rfl (c_X12_finds (d := 2) (by decide) h32) rfl rfl hdd (Nat.le_refl _) (Nat.le_refl _) (by decide) (fx_ki ?_)
          exact pm_iret hG hF dX12_rents_30 rfl (Nat.le_refl _) (Nat.le_refl _) (fx_rim hE)

set_option maxRecDepth 100000 in
set_option maxHeartbeats 4000000 in
theorem c_X12_restore {d : Nat} {B cnt : Nat} {σ : pm_S} {S : FS} {R : Int32 × FS} (hdd : 2 ≤ d) (hE : f_X12_restore S = some R) : pm_met mX12_restore d 0 0 B [.ref (B + 54)] cnt (mst B S σ) (pm_Qi (fun v σ' cnt' => v = R.1 ∧ σ' = (mst B R.2 σ) ∧ cnt' = cnt)) := by
  refine pm_enter 1 (by decide) (Nat.le_of_ble_eq_true rfl) rfl (fun G hG hR hF => ?_)
  unfold f_X12_restore at hE
  refine pm_aloadn hG dX12_restore_0 rfl ?_
  refine pm_getf hG dX12_restore_1 (flX12_319 _ rfl) rfl rfl ?_
  refine pm_if_ne (tgt := 13) hG dX12_restore_4 rfl (fun c1 => ?_) (fun c1 => ?_)
  · replace hE := fx_f c1 hE
    refine pm_iconst (v := 0) hG dX12_restore_13 (by decide) ?_
    refine pm_istoreXn (loc' := [some (.ref (B + 54)), some (.int 0)]) hG dX12_restore_14 (by decide) (pm_c1b rfl) rfl ?_
    have loop15 : ∀ (k15 : FS → Int32 → Option (Int32 × FS)), (∀ (S2 : FS) (x2_1 : Int32), k15 S2  x2_1 = some R → pm_wp mX12_restore G B 40 [some (.ref (B + 54)), some (.int x2_1)] [] 0 0 cnt (mst B S2 σ)) → ∀ (m15 : Nat) (S2 : FS) (x2_1 : Int32), l_X12_restore_15 k15 m15 S2  x2_1 = some R → pm_wp mX12_restore G B 15 [some (.ref (B + 54)), some (.int x2_1)] [] 0 0 cnt (mst B S2 σ) := by
      intro k15 hk15 m15
      induction m15 with
      | zero => intro S2  x2_1 hE; exact fx_no hE
      | succ m15 ih15 =>
        intro S2  x2_1 hE
        rw [l_X12_restore_15] at hE
        refine pm_iloadn hG dX12_restore_15 rfl ?_
        refine pm_sipush (v := 2071) hG dX12_restore_16 (by decide) ?_
        refine pm_icmp_ge (tgt := 40) hG dX12_restore_19 rfl (fun c3 => ?_) (fun c3 => ?_)
        · replace c3 := Int32.not_lt.mpr c3
          replace hE := fx_f c3 hE
          exact hk15 _ _ hE
        · replace c3 := Int32.not_le.mp c3
          replace hE := fx_t c3 hE
          refine pm_aloadn hG dX12_restore_22 rfl ?_
          refine pm_getf hG dX12_restore_23 (flX12_7 _ rfl) rfl rfl ?_
          refine pm_iloadn hG dX12_restore_26 rfl ?_
          refine pm_aloadn hG dX12_restore_27 rfl ?_
          refine pm_getf hG dX12_restore_28 (flX12_13 _ rfl) rfl rfl ?_
          refine pm_iloadn hG dX12_restore_31 rfl ?_
          obtain ⟨j4, hj4, hE⟩ := fb_some hE
          refine fx_iald hG dX12_restore_32 rfl hj4 ?_
          refine fx_iast hG dX12_restore_33 rfl hj4 ?_
          refine ma_55 ?_
          refine fx_letm hE (fun S5 hE => ?_)
          refine pm_iincX (v := x2_1 + 1) (loc' := [some (.ref (B + 54)), some (.int (x2_1 + 1))]) hG dX12_restore_34 rfl (by rfl) (by decide) (pm_c1b rfl) rfl ?_
          refine pm_goto (tgt := 15) hG dX12_restore_37 rfl ?_
          exact ih15 _ _ hE
    refine loop15 _ (fun S6 x6_1 hE => ?_) _ _ _ hE
    refine pm_aloadn hG dX12_restore_40 rfl ?_
    refine pm_getf hG dX12_restore_41 (flX12_7 _ rfl) rfl rfl ?_
    refine pm_bipush (v := 8) hG dX12_restore_44 (by decide) ?_
    refine fx_iald hG dX12_restore_46 rfl (ix_lit (by decide) rfl) ?_
    exact pm_iret hG hF dX12_restore_47 rfl (Nat.le_refl _) (Nat.le_refl _) (fx_rim hE)
  · replace hE := fx_t c1 hE
    refine pm_aloadn hG dX12_restore_7 rfl ?_
    refine pm_iconst (v := 2) hG dX12_restore_8 (by decide) ?_
    obtain ⟨r8, h7, hE⟩ := fb_some hE
    refine pm_callV (As := [.int 2]) (rest := []) hG hR dX12_restore_9 (lkX12_80 _ rfl) okV_X12_finds rfl rfl (c_X12_finds (d := 1) (by decide) h7) rfl rfl hdd (Nat.le_refl _) (Nat.le_refl _) (by decide) (fx_ki ?_)
    exact pm_iret hG hF dX12_restore_12 rfl (Nat.le_refl _) (Nat.le_refl _) (fx_rim hE)

set_option maxRecDepth 100000 in
set_option maxHeartbeats 4000000 in
theorem c_X12_road {d : Nat} {B cnt : Nat} {σ : pm_S} {S : FS} {za : Int32} {zb : Int32} {zc : Int32} {R : Int32 × FS} (hdd : 3 ≤ d) (hE : f_X12_road S za zb zc = some R) : pm_met mX12_road d 0 0 B [.ref (B + 54), .int za, .int zb, .int zc] cnt (mst B S σ) (pm_Qi (fun v σ' cnt' => v = R.1 ∧ σ' = (mst B R.2 σ) ∧ cnt' = cnt)) := by
  refine pm_enter 1 (by decide) (Nat.le_of_ble_eq_true rfl) rfl (fun G hG hR hF => ?_)
  unfold f_X12_road at hE
  refine pm_aloadn hG dX12_road_0 rfl ?_
  refine pm_iloadn hG dX12_road_1 rfl ?_
  refine pm_callV (As := [.int za]) (rest := []) hG hR dX12_road_2 (lkX12_84 _ rfl) okV_X12_isTown rfl rfl (c_X12_isTown (d := 2) (by decide) rfl) rfl rfl hdd (Nat.le_refl _) (Nat.le_refl _) (by decide) (fx_ki ?_)
  refine pm_if_eq (tgt := 31) hG dX12_road_5 rfl (fun c1 => ?_) (fun c1 => ?_)
  · replace hE := fx_t c1 hE
    refine pm_aloadn hG dX12_road_31 rfl ?_
    refine pm_iconst (v := 1) hG dX12_road_32 (by decide) ?_
    obtain ⟨r3, h2, hE⟩ := fb_some hE
    refine pm_callV (As := [.int 1]) (rest := []) hG hR dX12_road_33 (lkX12_80 _ rfl) okV_X12_finds rfl rfl (c_X12_finds (d := 2) (by decide) h2) rfl rfl hdd (Nat.le_refl _) (Nat.le_refl _) (by decide) (fx_ki ?_)
    exact pm_iret hG hF dX12_road_36 rfl (Nat.le_refl _) (Nat.le_refl _) (fx_rim hE)
  · replace hE := fx_f c1 hE
    refine pm_aloadn hG dX12_road_8 rfl ?_
    refine pm_iloadn hG dX12_road_9 rfl ?_
    refine pm_callV (As := [.int zb]) (rest := []) hG hR dX12_road_10 (lkX12_84 _ rfl) okV_X12_isTown rfl rfl (c_X12_isTown (d := 2) (by decide) rfl) rfl rfl hdd (Nat.le_refl _) (Nat.le_refl _) (by decide) (fx_ki ?_)
    refine pm_if_eq (tgt := 31) hG dX12_road_13 rfl (fun c4 => ?_) (fun c4 => ?_)
    · replace hE := fx_t c4 hE
      refine pm_aloadn hG dX12_road_31 rfl ?_
      refine pm_iconst (v := 1) hG dX12_road_32 (by decide) ?_
      obtain ⟨r6, h5, hE⟩ := fb_some hE
      refine pm_callV (As := [.int 1]) (rest := []) hG hR dX12_road_33 (lkX12_80 _ rfl) okV_X12_finds rfl rfl (c_X12_finds (d := 2) (by decide) h5) rfl rfl hdd (Nat.le_refl _) (Nat.le_refl _) (by decide) (fx_ki ?_)
      exact pm_iret hG hF dX12_road_36 rfl (Nat.le_refl _) (Nat.le_refl _) (fx_rim hE)
    · replace hE := fx_f c4 hE
      refine pm_iloadn hG dX12_road_16 rfl ?_
      refine pm_iloadn hG dX12_road_17 rfl ?_
      refine pm_icmp_eq (tgt := 31) hG dX12_road_18 rfl (fun c7 => ?_) (fun c7 => ?_)
      · replace hE := fx_t c7 hE
        refine pm_aloadn hG dX12_road_31 rfl ?_
        refine pm_iconst (v := 1) hG dX12_road_32 (by decide) ?_
        obtain ⟨r9, h8, hE⟩ := fb_some hE
        refine pm_callV (As := [.int 1]) (rest := []) hG hR dX12_road_33 (lkX12_80 _ rfl) okV_X12_finds rfl rfl (c_X12_finds (d := 2) (by decide) h8) rfl rfl hdd (Nat.le_refl _) (Nat.le_refl _) (by decide) (fx_ki ?_)
        exact pm_iret hG hF dX12_road_36 rfl (Nat.le_refl _) (Nat.le_refl _) (fx_rim hE)
      · replace hE := fx_f c7 hE
        refine pm_iloadn hG dX12_road_21 rfl ?_
        refine pm_iconst (v := 1) hG dX12_road_22 (by decide) ?_
        refine pm_bipush (v := 9) hG dX12_road_23 (by decide) ?_
        refine pm_callS (As := [.int zc, .int 1, .int 9]) (rest := []) hG hR dX12_road_25 (lkX12_68 _ rfl) okS_X12_in (c_X12_in (d := 2) (by decide) rfl) rfl rfl hdd (Nat.le_refl _) (Nat.le_refl _) (by decide) (fx_ki ?_)
        refine pm_if_ne (tgt := 37) hG dX12_road_28 rfl (fun c10 => ?_) (fun c10 => ?_)
        · replace hE := fx_f c10 hE
          refine pm_aloadn hG dX12_road_37 rfl ?_
          refine pm_getf hG dX12_road_38 (flX12_7 _ rfl) rfl rfl ?_
          refine pm_iconst (v := 1) hG dX12_road_41 (by decide) ?_
          refine fx_iald hG dX12_road_42 rfl (ix_lit (by decide) rfl) ?_
          refine fx_letv hE (fun x11 hE => ?_)
          refine pm_istoreXi (loc' := [some (.ref (B + 54)), some (.int za), some (.int zb), some (.int zc), some (.int x11)]) hG dX12_road_43 (by decide) (pm_c1b rfl) rfl ?_
          refine pm_iloadi hG dX12_road_45 rfl ?_
          refine pm_bipush (v := 20) hG dX12_road_47 (by decide) ?_
          refine pm_icmp_ne (tgt := 58) hG dX12_road_49 rfl (fun c12 => ?_) (fun c12 => ?_)
          · replace hE := fx_f c12 hE
            refine pm_aloadn hG dX12_road_58 rfl ?_
            refine pm_getf hG dX12_road_59 (flX12_7 _ rfl) rfl rfl ?_
            refine pm_iconst (v := 1) hG dX12_road_62 (by decide) ?_
            refine pm_dup2 hG dX12_road_63 rfl rfl ?_
            refine fx_iald hG dX12_road_64 rfl (ix_lit (by decide) rfl) ?_
            refine pm_iconst (v := 1) hG dX12_road_65 (by decide) ?_
            refine pm_iadd hG dX12_road_66 ?_
            refine fx_iast hG dX12_road_67 rfl (ix_lit (by decide) rfl) ?_
            refine ma_55 ?_
            refine fx_letm hE (fun S13 hE => ?_)
            refine pm_aloadn hG dX12_road_68 rfl ?_
            refine pm_getf hG dX12_road_69 (flX12_7 _ rfl) rfl rfl ?_
            refine pm_bipush (v := 50) hG dX12_road_72 (by decide) ?_
            refine pm_iconst (v := 3) hG dX12_road_74 (by decide) ?_
            refine pm_iloadi hG dX12_road_75 rfl ?_
            refine pm_imul hG dX12_road_77 ?_
            refine pm_iadd hG dX12_road_78 ?_
            refine pm_iloadn hG dX12_road_79 rfl ?_
            obtain ⟨j14, hj14, hE⟩ := fb_some hE
            refine fx_iast hG dX12_road_80 rfl hj14 ?_
            refine ma_55 ?_
            refine fx_letm hE (fun S15 hE => ?_)
            refine pm_aloadn hG dX12_road_81 rfl ?_
            refine pm_getf hG dX12_road_82 (flX12_7 _ rfl) rfl rfl ?_
            refine pm_bipush (v := 50) hG dX12_road_85 (by decide) ?_
            refine pm_iconst (v := 3) hG dX12_road_87 (by decide) ?_
            refine pm_iloadi hG dX12_road_88 rfl ?_
            refine pm_imul hG dX12_road_90 ?_
            refine pm_iadd hG dX12_road_91 ?_
            refine pm_iconst (v := 1) hG dX12_road_92 (by decide) ?_
            refine pm_iadd hG dX12_road_93 ?_
            refine pm_iloadn hG dX12_road_94 rfl ?_
            obtain ⟨j16, hj16, hE⟩ := fb_some hE
            refine fx_iast hG dX12_road_95 rfl hj16 ?_
            refine ma_55 ?_
            refine fx_letm hE (fun S17 hE => ?_)
            refine pm_aloadn hG dX12_road_96 rfl ?_
            refine pm_getf hG dX12_road_97 (flX12_7 _ rfl) rfl rfl ?_
            refine pm_bipush (v := 50) hG dX12_road_100 (by decide) ?_
            refine pm_iconst (v := 3) hG dX12_road_102 (by decide) ?_
            refine pm_iloadi hG dX12_road_103 rfl ?_
            refine pm_imul hG dX12_road_105 ?_
            refine pm_iadd hG dX12_road_106 ?_
            refine pm_iconst (v := 2) hG dX12_road_107 (by decide) ?_
            refine pm_iadd hG dX12_road_108 ?_
            refine pm_iloadn hG dX12_road_109 rfl ?_
            obtain ⟨j18, hj18, hE⟩ := fb_some hE
            refine fx_iast hG dX12_road_110 rfl hj18 ?_
            refine ma_55 ?_
            refine fx_letm hE (fun S19 hE => ?_)
            refine pm_iloadi hG dX12_road_111 rfl ?_
            refine pm_iconst (v := 1) hG dX12_road_113 (by decide) ?_
            refine pm_iadd hG dX12_road_114 ?_
            exact pm_iret hG hF dX12_road_115 rfl (Nat.le_refl _) (Nat.le_refl _) (fx_rim hE)
          · replace hE := fx_t c12 hE
            refine pm_aloadn hG dX12_road_52 rfl ?_
            refine pm_iconst (v := 4) hG dX12_road_53 (by decide) ?_
            obtain ⟨r21, h20, hE⟩ := fb_some hE
            refine pm_callV (As := [.int 4]) (rest := []) hG hR dX12_road_54 (lkX12_80 _ rfl) okV_X12_finds rfl rfl (c_X12_finds (d := 2) (by decide) h20) rfl rfl hdd (Nat.le_refl _) (Nat.le_refl _) (by decide) (fx_ki ?_)
            exact pm_iret hG hF dX12_road_57 rfl (Nat.le_refl _) (Nat.le_refl _) (fx_rim hE)
        · replace hE := fx_t c10 hE
          refine pm_aloadn hG dX12_road_31 rfl ?_
          refine pm_iconst (v := 1) hG dX12_road_32 (by decide) ?_
          obtain ⟨r23, h22, hE⟩ := fb_some hE
          refine pm_callV (As := [.int 1]) (rest := []) hG hR dX12_road_33 (lkX12_80 _ rfl) okV_X12_finds rfl rfl (c_X12_finds (d := 2) (by decide) h22) rfl rfl hdd (Nat.le_refl _) (Nat.le_refl _) (by decide) (fx_ki ?_)
          exact pm_iret hG hF dX12_road_36 rfl (Nat.le_refl _) (Nat.le_refl _) (fx_rim hE)
end
