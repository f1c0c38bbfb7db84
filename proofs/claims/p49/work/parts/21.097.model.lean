set_option maxRecDepth 100000 in
set_option maxHeartbeats 4000000 in
theorem m_promise {d B cnt p0 t0 : Nat} {σ : pm_S} {I : Nat → Int32} {A : Nat → Nat → Int32} {n k z : Nat → Int32} {ac wt pl im : Int32} {y : Nat → Int32} {za zb zc zd : Int32} (hdd : 2 ≤ d) (hn : KI n) (hr : NR n) (hz : SZ z)  : pm_met mX12_promise d 0 0 B [.ref (B + 54), .int za, .int zb, .int zc, .int zd] cnt (pm_mid σ (md_L B I A n k z ac wt pl (nI p0) (nI t0) im y)) (pm_Qi (fun v σ' cnt' => (∃ (I' : Nat → Int32) (A' : Nat → Nat → Int32) (n' : Nat → Int32), σ' = pm_mid σ (md_L B I' A' n' k z ac wt pl (nI p0) (nI t0) im y) ∧ KI n' ∧ NR n') ∧ cnt = cnt')) := by
  refine pm_enter 2 (by decide) (Nat.le_of_ble_eq_true rfl) rfl (fun G hG hR hF => ?_)
  refine pm_aloadn hG dX12_promise_0 rfl ?_
  refine pm_iloadn hG dX12_promise_1 rfl ?_
  obtain ⟨k1, hk1, ek1⟩ := KI.nat hn (show kd 2 = (1, 21, true) by decide)
  refine pm_callV (As := [.int za]) (rest := []) hG hR dX12_promise_2 (lkX12_91 _ rfl) okV_X12_isPerson rfl rfl (m_isPerson (d := 1) (by decide) ek1 (by omega)) rfl rfl hdd (Nat.le_refl _) (Nat.le_refl _) (by decide) (pm_ki (fun v2 σ' cnt' hq => ?_))
  obtain ⟨hq, rfl, rfl⟩ := hq
  rcases hq with ⟨rfl, k4, hk4, ek4⟩ | rfl
  · refine pm_ifN_eq (tgt := 34) hG dX12_promise_5 rfl (by omega) (fun q => absurd q (by omega)) (fun _ => ?_)
    refine pm_iloadn hG dX12_promise_8 rfl ?_
    refine pm_iconst (v := nI 0) hG dX12_promise_9 (by decide) ?_
    refine pm_iconst (v := nI 5) hG dX12_promise_10 (by decide) ?_
    refine pm_callS (As := [.int zb, .int (nI 0), .int (nI 5)]) (rest := []) hG hR dX12_promise_11 (lkX12_68 _ rfl) okS_X12_in (m_in (d := 1)) rfl rfl hdd (Nat.le_refl _) (Nat.le_refl _) (by decide) (pm_ki (fun v5 σ' cnt' hq => ?_))
    obtain ⟨hq, rfl, rfl⟩ := hq
    rcases hq with ⟨rfl, ac6, bc6⟩ | ⟨rfl, c6⟩
    · obtain ⟨k7, hk7, ek7⟩ := in_nat (by omega) (by omega) ac6 bc6
      refine pm_ifN_eq (tgt := 34) hG dX12_promise_14 rfl (by omega) (fun q => absurd q (by omega)) (fun _ => ?_)
      refine pm_iloadn hG dX12_promise_17 rfl ?_
      refine pm_aloadn hG dX12_promise_18 rfl ?_
      refine pm_getf hG dX12_promise_19 (flX12_7 _ rfl) rfl rfl ?_
      refine pm_bipush (v := nI 8) hG dX12_promise_22 (by decide) ?_
      refine pm_ialdN hG dX12_promise_24 rfl (by decide) (by omega) ?_
      obtain ⟨k8, hk8, ek8⟩ := KI.nat hn (show kd 8 = (1, 2001, false) by decide)
      refine pm_top (v := nI k8) ek8 ?_
      refine pm_sipush (v := nI 2000) hG dX12_promise_25 (by decide) ?_
      refine pm_callS (As := [.int zc, .int (nI k8), .int (nI 2000)]) (rest := []) hG hR dX12_promise_28 (lkX12_68 _ rfl) okS_X12_in (m_in (d := 1)) rfl rfl hdd (Nat.le_refl _) (Nat.le_refl _) (by decide) (pm_ki (fun v9 σ' cnt' hq => ?_))
      obtain ⟨hq, rfl, rfl⟩ := hq
      rcases hq with ⟨rfl, ac10, bc10⟩ | ⟨rfl, c10⟩
      · obtain ⟨k11, hk11, ek11⟩ := in_nat (by omega) (by omega) ac10 bc10
        refine pm_ifN_ne (tgt := 40) hG dX12_promise_31 rfl (by omega) (fun _ => ?_) (fun q => absurd q (by omega))
        refine pm_aloadn hG dX12_promise_40 rfl ?_
        refine pm_iloadn hG dX12_promise_41 rfl ?_
        refine pm_top (v := nI k4) ek4 ?_
        refine pm_bipush (v := nI 11) hG dX12_promise_42 (by decide) ?_
        refine pm_callV (As := [.int (nI k4), .int (nI 11)]) (rest := []) hG hR dX12_promise_44 (lkX12_72 _ rfl) okV_X12_man rfl rfl (m_man (d := 1) (e := 14 * k4 + 121) (by omega) (by omega) (by omega)) rfl rfl hdd (Nat.le_refl _) (Nat.le_refl _) (by decide) (pm_ki (fun v12 σ' cnt' hq => ?_))
        obtain ⟨rfl, rfl, rfl⟩ := hq
        obtain ⟨k13, hk13, ek13⟩ := KI.nat hn (show kd (14 * k4 + 121) = (1, 2, true) from (kd_P (k := k4) (c := 11) (by omega) (by omega) (by decide)))
        refine pm_top (v := nI k13) ek13 ?_
        refine pm_ifN_ne (tgt := 56) hG dX12_promise_47 rfl (by omega) (fun c14 => ?_) (fun c14 => ?_)
        · refine pm_aloadn hG dX12_promise_56 rfl ?_
          refine pm_getf hG dX12_promise_57 (flX12_7 _ rfl) rfl rfl ?_
          refine pm_bipush (v := nI 7) hG dX12_promise_60 (by decide) ?_
          refine pm_ialdN hG dX12_promise_62 rfl (by decide) (by omega) ?_
          obtain ⟨k15, hk15, ek15⟩ := KI.nat hn (show kd 7 = (1, 31, false) by decide)
          refine pm_top (v := nI k15) ek15 ?_
          refine pm_istoreXi (loc' := [some (.ref (B + 54)), some (.int za), some (.int zb), some (.int zc), some (.int zd), some (.int (nI k15)), none]) hG dX12_promise_63 (by decide) (pm_c1b rfl) rfl ?_
          refine pm_iloadi hG dX12_promise_65 rfl ?_
          refine pm_bipush (v := nI 30) hG dX12_promise_67 (by decide) ?_
          refine pm_icmpN_ne (tgt := 78) hG dX12_promise_69 rfl (by omega) (by omega) (fun c16 => ?_) (fun c16 => ?_)
          · refine pm_iconst (v := nI 0) hG dX12_promise_78 (by decide) ?_
            refine pm_istoreXi (loc' := [some (.ref (B + 54)), some (.int za), some (.int zb), some (.int zc), some (.int zd), some (.int (nI k15)), some (.int (nI 0))]) hG dX12_promise_79 (by decide) (pm_c1b rfl) rfl ?_
            have loop81_17 : ∀ (m17 : Nat) (I17 : Nat → Int32) (A17 : Nat → Nat → Int32) (n_17 : Nat → Int32) (i17 : Nat), KI n_17 → NRx 40 n_17 → n_17 7 = nI k15 → i17 ≤ 29 → 29 - i17 < m17 → pm_wp mX12_promise G B 81 [some (.ref (B + 54)), some (.int za), some (.int zb), some (.int zc), some (.int zd), some (.int (nI k15)), some (.int (nI i17))] [] 0 0 cnt (pm_mid σ (md_L B I17 A17 n_17 k z ac wt pl (nI p0) (nI t0) im y)) := by
              intro m17
              induction m17 with
              | zero => intro I17 A17 n_17 i17 _ _ _ _ hm; exact absurd hm (Nat.not_lt_zero _)
              | succ m17 ih17 =>
                intro I17 A17 n_17 i17 hnn_17 hrn_17 kc17_7 hi17 hm17
                refine pm_iloadi hG dX12_promise_81 rfl ?_
                refine pm_iloadi hG dX12_promise_83 rfl ?_
                refine pm_icmpN_ge (tgt := 133) hG dX12_promise_85 rfl (by omega) (by omega) (fun c18 => ?_) (fun c18 => ?_)
                · refine pm_aloadn hG dX12_promise_133 rfl ?_
                  refine pm_getf hG dX12_promise_134 (flX12_7 _ rfl) rfl rfl ?_
                  refine pm_bipush (v := nI 7) hG dX12_promise_137 (by decide) ?_
                  refine pm_dup2 hG dX12_promise_139 rfl rfl ?_
                  refine pm_ialdN hG dX12_promise_140 rfl (by decide) (by omega) ?_
                  refine pm_top (v := nI k15) kc17_7 ?_
                  refine pm_iconst (v := nI 1) hG dX12_promise_141 (by decide) ?_
                  refine pm_iaddN (c := k15 + 1) hG dX12_promise_142 (by omega) ?_
                  refine pm_iastN hG dX12_promise_143 rfl (by decide) (by omega) ?_
                  refine mdn_now (fun n_19 en_19 => ?_)
                  have hnn_19 := KI.w en_19 hnn_17 (okv_n (show kd 7 = (1, 31, false) by decide) (by omega))
                  have hrn_19 := NRx.w en_19 hrn_17 (by rw [(show kd 7 = (1, 31, false) by decide)])
                  have e20 : n_19 7 = nI (k15 + 1) := by rw [en_19, pk_us]
                  refine pm_aloadn hG dX12_promise_144 rfl ?_
                  refine pm_getf hG dX12_promise_145 (flX12_7 _ rfl) rfl rfl ?_
                  refine pm_sipush (v := nI 1806) hG dX12_promise_148 (by decide) ?_
                  refine pm_bipush (v := nI 6) hG dX12_promise_151 (by decide) ?_
                  refine pm_iloadi hG dX12_promise_153 rfl ?_
                  refine pm_imulN (c := 6 * k15) hG dX12_promise_155 (by omega) ?_
                  refine pm_iaddN (c := 6 * k15 + 1806) hG dX12_promise_156 (by omega) ?_
                  refine pm_iloadn hG dX12_promise_157 rfl ?_
                  refine pm_top (v := nI k4) ek4 ?_
                  refine pm_iastN hG dX12_promise_158 rfl (by decide) (by omega) ?_
                  refine mdn_now (fun n_21 en_21 => ?_)
                  have hnn_21 := KI.w en_21 hnn_19 (okv_n (show kd (6 * k15 + 1806) = (1, 20, false) from (kd_Q (k := k15) (c := 0) (by omega) (by omega) (by decide))) (by omega))
                  have hrn_21 := NRx.w en_21 hrn_19 (by rw [(show kd (6 * k15 + 1806) = (1, 20, false) from (kd_Q (k := k15) (c := 0) (by omega) (by omega) (by decide)))])
                  have e22 : n_21 7 = nI (k15 + 1) := by rw [en_21, pk_un (by omega)]; exact e20
                  have e23 : n_21 (6 * k15 + 1806) = nI k4 := by rw [en_21, pk_us]
                  refine pm_aloadn hG dX12_promise_159 rfl ?_
                  refine pm_getf hG dX12_promise_160 (flX12_7 _ rfl) rfl rfl ?_
                  refine pm_sipush (v := nI 1806) hG dX12_promise_163 (by decide) ?_
                  refine pm_bipush (v := nI 6) hG dX12_promise_166 (by decide) ?_
                  refine pm_iloadi hG dX12_promise_168 rfl ?_
                  refine pm_imulN (c := 6 * k15) hG dX12_promise_170 (by omega) ?_
                  refine pm_iaddN (c := 6 * k15 + 1806) hG dX12_promise_171 (by omega) ?_
                  refine pm_iconst (v := nI 1) hG dX12_promise_172 (by decide) ?_
                  refine pm_iaddN (c := 6 * k15 + 1807) hG dX12_promise_173 (by omega) ?_
                  refine pm_iloadn hG dX12_promise_174 rfl ?_
                  refine pm_top (v := nI k7) ek7 ?_
                  refine pm_iastN hG dX12_promise_175 rfl (by decide) (by omega) ?_
                  refine mdn_now (fun n_24 en_24 => ?_)
                  have hnn_24 := KI.w en_24 hnn_21 (okv_f (show kd (6 * k15 + 1807) = (0, 0, false) from (kd_Q (k := k15) (c := 1) (by omega) (by omega) (by decide))))
                  have hrn_24 := NRx.w en_24 hrn_21 (by rw [(show kd (6 * k15 + 1807) = (0, 0, false) from (kd_Q (k := k15) (c := 1) (by omega) (by omega) (by decide)))])
                  have e25 : n_24 7 = nI (k15 + 1) := by rw [en_24, pk_un (by omega)]; exact e22
                  have e26 : n_24 (6 * k15 + 1806) = nI k4 := by rw [en_24, pk_un (by omega)]; exact e23
                  have e27 : n_24 (6 * k15 + 1807) = nI k7 := by rw [en_24, pk_us]
                  refine pm_aloadn hG dX12_promise_176 rfl ?_
                  refine pm_getf hG dX12_promise_177 (flX12_7 _ rfl) rfl rfl ?_
                  refine pm_sipush (v := nI 1806) hG dX12_promise_180 (by decide) ?_
                  refine pm_bipush (v := nI 6) hG dX12_promise_183 (by decide) ?_
                  refine pm_iloadi hG dX12_promise_185 rfl ?_
                  refine pm_imulN (c := 6 * k15) hG dX12_promise_187 (by omega) ?_
                  refine pm_iaddN (c := 6 * k15 + 1806) hG dX12_promise_188 (by omega) ?_
                  refine pm_iconst (v := nI 2) hG dX12_promise_189 (by decide) ?_
                  refine pm_iaddN (c := 6 * k15 + 1808) hG dX12_promise_190 (by omega) ?_
                  refine pm_iloadn hG dX12_promise_191 rfl ?_
                  refine pm_top (v := nI k11) ek11 ?_
                  refine pm_iastN hG dX12_promise_192 rfl (by decide) (by omega) ?_
                  refine mdn_now (fun n_28 en_28 => ?_)
                  have hnn_28 := KI.w en_28 hnn_24 (okv_f (show kd (6 * k15 + 1808) = (0, 0, false) from (kd_Q (k := k15) (c := 2) (by omega) (by omega) (by decide))))
                  have hrn_28 := NRx.w en_28 hrn_24 (by rw [(show kd (6 * k15 + 1808) = (0, 0, false) from (kd_Q (k := k15) (c := 2) (by omega) (by omega) (by decide)))])
                  have e29 : n_28 7 = nI (k15 + 1) := by rw [en_28, pk_un (by omega)]; exact e25
                  have e30 : n_28 (6 * k15 + 1806) = nI k4 := by rw [en_28, pk_un (by omega)]; exact e26
                  have e31 : n_28 (6 * k15 + 1807) = nI k7 := by rw [en_28, pk_un (by omega)]; exact e27
                  have e32 : n_28 (6 * k15 + 1808) = nI k11 := by rw [en_28, pk_us]
                  refine pm_aloadn hG dX12_promise_193 rfl ?_
                  refine pm_getf hG dX12_promise_194 (flX12_7 _ rfl) rfl rfl ?_
                  refine pm_sipush (v := nI 1806) hG dX12_promise_197 (by decide) ?_
                  refine pm_bipush (v := nI 6) hG dX12_promise_200 (by decide) ?_
                  refine pm_iloadi hG dX12_promise_202 rfl ?_
                  refine pm_imulN (c := 6 * k15) hG dX12_promise_204 (by omega) ?_
                  refine pm_iaddN (c := 6 * k15 + 1806) hG dX12_promise_205 (by omega) ?_
                  refine pm_iconst (v := nI 3) hG dX12_promise_206 (by decide) ?_
                  refine pm_iaddN (c := 6 * k15 + 1809) hG dX12_promise_207 (by omega) ?_
                  refine pm_iloadi hG dX12_promise_208 rfl ?_
                  refine pm_if_eq (tgt := 217) hG dX12_promise_210 rfl (fun c33 => ?_) (fun c33 => ?_)
                  · refine pm_iconst (v := nI 0) hG dX12_promise_217 (by decide) ?_
                    refine pm_iastN hG dX12_promise_218 rfl (by decide) (by omega) ?_
                    refine mdn_now (fun n_34 en_34 => ?_)
                    have hnn_34 := KI.w en_34 hnn_28 (okv_f (show kd (6 * k15 + 1809) = (0, 0, false) from (kd_Q (k := k15) (c := 3) (by omega) (by omega) (by decide))))
                    have hrn_34 := NRx.w en_34 hrn_28 (by rw [(show kd (6 * k15 + 1809) = (0, 0, false) from (kd_Q (k := k15) (c := 3) (by omega) (by omega) (by decide)))])
                    have e35 : n_34 7 = nI (k15 + 1) := by rw [en_34, pk_un (by omega)]; exact e29
                    have e36 : n_34 (6 * k15 + 1806) = nI k4 := by rw [en_34, pk_un (by omega)]; exact e30
                    have e37 : n_34 (6 * k15 + 1807) = nI k7 := by rw [en_34, pk_un (by omega)]; exact e31
                    have e38 : n_34 (6 * k15 + 1808) = nI k11 := by rw [en_34, pk_un (by omega)]; exact e32
                    have e39 : n_34 (6 * k15 + 1809) = nI 0 := by rw [en_34, pk_us]
                    refine pm_aloadn hG dX12_promise_219 rfl ?_
                    refine pm_getf hG dX12_promise_220 (flX12_7 _ rfl) rfl rfl ?_
                    refine pm_sipush (v := nI 1806) hG dX12_promise_223 (by decide) ?_
                    refine pm_bipush (v := nI 6) hG dX12_promise_226 (by decide) ?_
                    refine pm_iloadi hG dX12_promise_228 rfl ?_
                    refine pm_imulN (c := 6 * k15) hG dX12_promise_230 (by omega) ?_
                    refine pm_iaddN (c := 6 * k15 + 1806) hG dX12_promise_231 (by omega) ?_
                    refine pm_iconst (v := nI 4) hG dX12_promise_232 (by decide) ?_
                    refine pm_iaddN (c := 6 * k15 + 1810) hG dX12_promise_233 (by omega) ?_
                    refine pm_iconst (v := nI 0) hG dX12_promise_234 (by decide) ?_
                    refine pm_iastN hG dX12_promise_235 rfl (by decide) (by omega) ?_
                    refine mdn_now (fun n_40 en_40 => ?_)
                    have hnn_40 := KI.w en_40 hnn_34 (okv_f (show kd (6 * k15 + 1810) = (0, 0, false) from (kd_Q (k := k15) (c := 4) (by omega) (by omega) (by decide))))
                    have hrn_40 := NRx.w en_40 hrn_34 (by rw [(show kd (6 * k15 + 1810) = (0, 0, false) from (kd_Q (k := k15) (c := 4) (by omega) (by omega) (by decide)))])
                    have e41 : n_40 7 = nI (k15 + 1) := by rw [en_40, pk_un (by omega)]; exact e35
                    have e42 : n_40 (6 * k15 + 1806) = nI k4 := by rw [en_40, pk_un (by omega)]; exact e36
                    have e43 : n_40 (6 * k15 + 1807) = nI k7 := by rw [en_40, pk_un (by omega)]; exact e37
                    have e44 : n_40 (6 * k15 + 1808) = nI k11 := by rw [en_40, pk_un (by omega)]; exact e38
                    have e45 : n_40 (6 * k15 + 1809) = nI 0 := by rw [en_40, pk_un (by omega)]; exact e39
                    have e46 : n_40 (6 * k15 + 1810) = nI 0 := by rw [en_40, pk_us]
                    refine pm_aloadn hG dX12_promise_236 rfl ?_
                    refine pm_getf hG dX12_promise_237 (flX12_7 _ rfl) rfl rfl ?_
                    refine pm_sipush (v := nI 1806) hG dX12_promise_240 (by decide) ?_
                    refine pm_bipush (v := nI 6) hG dX12_promise_243 (by decide) ?_
                    refine pm_iloadi hG dX12_promise_245 rfl ?_
                    refine pm_imulN (c := 6 * k15) hG dX12_promise_247 (by omega) ?_
                    refine pm_iaddN (c := 6 * k15 + 1806) hG dX12_promise_248 (by omega) ?_
                    refine pm_iconst (v := nI 5) hG dX12_promise_249 (by decide) ?_
                    refine pm_iaddN (c := 6 * k15 + 1811) hG dX12_promise_250 (by omega) ?_
                    refine pm_iconst (v := nI 0) hG dX12_promise_251 (by decide) ?_
                    refine pm_iastN hG dX12_promise_252 rfl (by decide) (by omega) ?_
                    refine mdn_now (fun n_47 en_47 => ?_)
                    have hnn_47 := KI.w en_47 hnn_40 (okv_f (show kd (6 * k15 + 1811) = (0, 0, false) from (kd_Q (k := k15) (c := 5) (by omega) (by omega) (by decide))))
                    have hrn_47 := NRx.w en_47 hrn_40 (by rw [(show kd (6 * k15 + 1811) = (0, 0, false) from (kd_Q (k := k15) (c := 5) (by omega) (by omega) (by decide)))])
                    have e48 : n_47 7 = nI (k15 + 1) := by rw [en_47, pk_un (by omega)]; exact e41
                    have e49 : n_47 (6 * k15 + 1806) = nI k4 := by rw [en_47, pk_un (by omega)]; exact e42
                    have e50 : n_47 (6 * k15 + 1807) = nI k7 := by rw [en_47, pk_un (by omega)]; exact e43
                    have e51 : n_47 (6 * k15 + 1808) = nI k11 := by rw [en_47, pk_un (by omega)]; exact e44
                    have e52 : n_47 (6 * k15 + 1809) = nI 0 := by rw [en_47, pk_un (by omega)]; exact e45
                    have e53 : n_47 (6 * k15 + 1810) = nI 0 := by rw [en_47, pk_un (by omega)]; exact e46
                    have e54 : n_47 (6 * k15 + 1811) = nI 0 := by rw [en_47, pk_us]
                    refine pm_iloadi hG dX12_promise_253 rfl ?_
                    exact pm_iret hG hF dX12_promise_255 rfl (Nat.le_refl _) (Nat.le_refl _) ⟨_, rfl, ⟨_, _, _, rfl, hnn_47, hrn_47⟩, rfl⟩
                  · refine pm_iconst (v := nI 1) hG dX12_promise_213 (by decide) ?_
                    refine pm_goto (tgt := 218) hG dX12_promise_214 rfl ?_
                    refine pm_iastN hG dX12_promise_218 rfl (by decide) (by omega) ?_
                    refine mdn_now (fun n_55 en_55 => ?_)
                    have hnn_55 := KI.w en_55 hnn_28 (okv_f (show kd (6 * k15 + 1809) = (0, 0, false) from (kd_Q (k := k15) (c := 3) (by omega) (by omega) (by decide))))
                    have hrn_55 := NRx.w en_55 hrn_28 (by rw [(show kd (6 * k15 + 1809) = (0, 0, false) from (kd_Q (k := k15) (c := 3) (by omega) (by omega) (by decide)))])
                    have e56 : n_55 7 = nI (k15 + 1) := by rw [en_55, pk_un (by omega)]; exact e29
                    have e57 : n_55 (6 * k15 + 1806) = nI k4 := by rw [en_55, pk_un (by omega)]; exact e30
                    have e58 : n_55 (6 * k15 + 1807) = nI k7 := by rw [en_55, pk_un (by omega)]; exact e31
                    have e59 : n_55 (6 * k15 + 1808) = nI k11 := by rw [en_55, pk_un (by omega)]; exact e32
                    have e60 : n_55 (6 * k15 + 1809) = nI 1 := by rw [en_55, pk_us]
                    refine pm_aloadn hG dX12_promise_219 rfl ?_
                    refine pm_getf hG dX12_promise_220 (flX12_7 _ rfl) rfl rfl ?_
                    refine pm_sipush (v := nI 1806) hG dX12_promise_223 (by decide) ?_
                    refine pm_bipush (v := nI 6) hG dX12_promise_226 (by decide) ?_
                    refine pm_iloadi hG dX12_promise_228 rfl ?_
                    refine pm_imulN (c := 6 * k15) hG dX12_promise_230 (by omega) ?_
                    refine pm_iaddN (c := 6 * k15 + 1806) hG dX12_promise_231 (by omega) ?_
                    refine pm_iconst (v := nI 4) hG dX12_promise_232 (by decide) ?_
                    refine pm_iaddN (c := 6 * k15 + 1810) hG dX12_promise_233 (by omega) ?_
                    refine pm_iconst (v := nI 0) hG dX12_promise_234 (by decide) ?_
                    refine pm_iastN hG dX12_promise_235 rfl (by decide) (by omega) ?_
                    refine mdn_now (fun n_61 en_61 => ?_)
                    have hnn_61 := KI.w en_61 hnn_55 (okv_f (show kd (6 * k15 + 1810) = (0, 0, false) from (kd_Q (k := k15) (c := 4) (by omega) (by omega) (by decide))))
                    have hrn_61 := NRx.w en_61 hrn_55 (by rw [(show kd (6 * k15 + 1810) = (0, 0, false) from (kd_Q (k := k15) (c := 4) (by omega) (by omega) (by decide)))])
                    have e62 : n_61 7 = nI (k15 + 1) := by rw [en_61, pk_un (by omega)]; exact e56
                    have e63 : n_61 (6 * k15 + 1806) = nI k4 := by rw [en_61, pk_un (by omega)]; exact e57
                    have e64 : n_61 (6 * k15 + 1807) = nI k7 := by rw [en_61, pk_un (by omega)]; exact e58
                    have e65 : n_61 (6 * k15 + 1808) = nI k11 := by rw [en_61, pk_un (by omega)]; exact e59
                    have e66 : n_61 (6 * k15 + 1809) = nI 1 := by rw [en_61, pk_un (by omega)]; exact e60
                    have e67 : n_61 (6 * k15 + 1810) = nI 0 := by rw [en_61, pk_us]
                    refine pm_aloadn hG dX12_promise_236 rfl ?_
                    refine pm_getf hG dX12_promise_237 (flX12_7 _ rfl) rfl rfl ?_
                    refine pm_sipush (v := nI 1806) hG dX12_promise_240 (by decide) ?_
                    refine pm_bipush (v := nI 6) hG dX12_promise_243 (by decide) ?_
                    refine pm_iloadi hG dX12_promise_245 rfl ?_
                    refine pm_imulN (c := 6 * k15) hG dX12_promise_247 (by omega) ?_
                    refine pm_iaddN (c := 6 * k15 + 1806) hG dX12_promise_248 (by omega) ?_
                    refine pm_iconst (v := nI 5) hG dX12_promise_249 (by decide) ?_
                    refine pm_iaddN (c := 6 * k15 + 1811) hG dX12_promise_250 (by omega) ?_
                    refine pm_iconst (v := nI 0) hG dX12_promise_251 (by decide) ?_
                    refine pm_iastN hG dX12_promise_252 rfl (by decide) (by omega) ?_
                    refine mdn_now (fun n_68 en_68 => ?_)
                    have hnn_68 := KI.w en_68 hnn_61 (okv_f (show kd (6 * k15 + 1811) = (0, 0, false) from (kd_Q (k := k15) (c := 5) (by omega) (by omega) (by decide))))
                    have hrn_68 := NRx.w en_68 hrn_61 (by rw [(show kd (6 * k15 + 1811) = (0, 0, false) from (kd_Q (k := k15) (c := 5) (by omega) (by omega) (by decide)))])
                    have e69 : n_68 7 = nI (k15 + 1) := by rw [en_68, pk_un (by omega)]; exact e62
                    have e70 : n_68 (6 * k15 + 1806) = nI k4 := by rw [en_68, pk_un (by omega)]; exact e63
                    have e71 : n_68 (6 * k15 + 1807) = nI k7 := by rw [en_68, pk_un (by omega)]; exact e64
                    have e72 : n_68 (6 * k15 + 1808) = nI k11 := by rw [en_68, pk_un (by omega)]; exact e65
                    have e73 : n_68 (6 * k15 + 1809) = nI 1 := by rw [en_68, pk_un (by omega)]; exact e66
                    have e74 : n_68 (6 * k15 + 1810) = nI 0 := by rw [en_68, pk_un (by omega)]; exact e67
                    have e75 : n_68 (6 * k15 + 1811) = nI 0 := by rw [en_68, pk_us]
                    refine pm_iloadi hG dX12_promise_253 rfl ?_
                    exact pm_iret hG hF dX12_promise_255 rfl (Nat.le_refl _) (Nat.le_refl _) ⟨_, rfl, ⟨_, _, _, rfl, hnn_68, hrn_68⟩, rfl⟩
                · refine pm_aloadn hG dX12_promise_88 rfl ?_
                  refine pm_iloadi hG dX12_promise_89 rfl ?_
                  refine pm_iconst (v := nI 0) hG dX12_promise_91 (by decide) ?_
                  refine pm_callV (As := [.int (nI i17), .int (nI 0)]) (rest := []) hG hR dX12_promise_92 (lkX12_223 _ rfl) okV_X12_promised rfl rfl (m_promised (d := 1) (e := 6 * i17 + 1806) (by omega) (by omega) (by omega)) rfl rfl hdd (Nat.le_refl _) (Nat.le_refl _) (by decide) (pm_ki (fun v76 σ' cnt' hq => ?_))
                  obtain ⟨rfl, rfl, rfl⟩ := hq
                  obtain ⟨k77, hk77, ek77⟩ := KI.nat hnn_17 (show kd (6 * i17 + 1806) = (1, 20, false) from (kd_Q (k := i17) (c := 0) (by omega) (by omega) (by decide)))
                  refine pm_top (v := nI k77) ek77 ?_
                  refine pm_iloadn hG dX12_promise_95 rfl ?_
                  refine pm_top (v := nI k4) ek4 ?_
                  refine pm_icmpN_ne (tgt := 127) hG dX12_promise_96 rfl (by omega) (by omega) (fun c78 => ?_) (fun c78 => ?_)
                  · refine pm_iincX (v := nI (i17 + 1)) (loc' := [some (.ref (B + 54)), some (.int za), some (.int zb), some (.int zc), some (.int zd), some (.int (nI k15)), some (.int (nI (i17 + 1)))]) hG dX12_promise_127 rfl (nI_1 _) (by decide) (pm_c1b rfl) rfl ?_
                    refine pm_goto (tgt := 81) hG dX12_promise_130 rfl ?_
                    exact ih17 I17 A17 n_17 (i17 + 1) hnn_17 hrn_17 (kc17_7.trans (congrArg nI (by omega))) (by omega) (by omega)
                  · refine pm_aloadn hG dX12_promise_99 rfl ?_
                    refine pm_iloadi hG dX12_promise_100 rfl ?_
                    refine pm_iconst (v := nI 1) hG dX12_promise_102 (by decide) ?_
                    refine pm_callV (As := [.int (nI i17), .int (nI 1)]) (rest := []) hG hR dX12_promise_103 (lkX12_223 _ rfl) okV_X12_promised rfl rfl (m_promised (d := 1) (e := 6 * i17 + 1807) (by omega) (by omega) (by omega)) rfl rfl hdd (Nat.le_refl _) (Nat.le_refl _) (by decide) (pm_ki (fun v79 σ' cnt' hq => ?_))
                    obtain ⟨rfl, rfl, rfl⟩ := hq
                    refine pm_gen (fun x80 ex80 => ?_)
                    refine pm_iloadn hG dX12_promise_106 rfl ?_
                    refine pm_top (v := nI k7) ek7 ?_
                    refine pm_icmp_ne (tgt := 127) hG dX12_promise_107 rfl (fun c81 => ?_) (fun c81 => ?_)
                    · refine pm_iincX (v := nI (i17 + 1)) (loc' := [some (.ref (B + 54)), some (.int za), some (.int zb), some (.int zc), some (.int zd), some (.int (nI k15)), some (.int (nI (i17 + 1)))]) hG dX12_promise_127 rfl (nI_1 _) (by decide) (pm_c1b rfl) rfl ?_
                      refine pm_goto (tgt := 81) hG dX12_promise_130 rfl ?_
                      exact ih17 I17 A17 n_17 (i17 + 1) hnn_17 hrn_17 (kc17_7.trans (congrArg nI (by omega))) (by omega) (by omega)
                    · refine pm_aloadn hG dX12_promise_110 rfl ?_
                      refine pm_getf hG dX12_promise_111 (flX12_7 _ rfl) rfl rfl ?_
                      refine pm_sipush (v := nI 1806) hG dX12_promise_114 (by decide) ?_
                      refine pm_bipush (v := nI 6) hG dX12_promise_117 (by decide) ?_
                      refine pm_iloadi hG dX12_promise_119 rfl ?_
                      refine pm_imulN (c := 6 * i17) hG dX12_promise_121 (by omega) ?_
                      refine pm_iaddN (c := 6 * i17 + 1806) hG dX12_promise_122 (by omega) ?_
                      refine pm_iconst (v := nI 5) hG dX12_promise_123 (by decide) ?_
                      refine pm_iaddN (c := 6 * i17 + 1811) hG dX12_promise_124 (by omega) ?_
                      refine pm_iconst (v := nI 1) hG dX12_promise_125 (by decide) ?_
                      refine pm_iastN hG dX12_promise_126 rfl (by decide) (by omega) ?_
                      refine mdn_now (fun n_82 en_82 => ?_)
                      have hnn_82 := KI.w en_82 hnn_17 (okv_f (show kd (6 * i17 + 1811) = (0, 0, false) from (kd_Q (k := i17) (c := 5) (by omega) (by omega) (by decide))))
                      have hrn_82 := NRx.w en_82 hrn_17 (by rw [(show kd (6 * i17 + 1811) = (0, 0, false) from (kd_Q (k := i17) (c := 5) (by omega) (by omega) (by decide)))])
                      have e83 : n_82 7 = nI k15 := by rw [en_82, pk_un (by omega)]; exact kc17_7
                      have e84 : n_82 (6 * i17 + 1806) = nI k77 := by rw [en_82, pk_un (by omega)]; exact ek77
                      have e85 : n_82 (6 * i17 + 1807) = x80 := by rw [en_82, pk_un (by omega)]; exact ex80
                      have e86 : n_82 (6 * i17 + 1811) = nI 1 := by rw [en_82, pk_us]
                      refine pm_iincX (v := nI (i17 + 1)) (loc' := [some (.ref (B + 54)), some (.int za), some (.int zb), some (.int zc), some (.int zd), some (.int (nI k15)), some (.int (nI (i17 + 1)))]) hG dX12_promise_127 rfl (nI_1 _) (by decide) (pm_c1b rfl) rfl ?_
                      refine pm_goto (tgt := 81) hG dX12_promise_130 rfl ?_
                      exact ih17 I17 A17 n_82 (i17 + 1) hnn_82 hrn_82 (e83.trans (congrArg nI (by omega))) (by omega) (by omega)
            exact loop81_17 _ I A n 0 hn hr (ek15.trans (congrArg nI (by omega))) (by omega) (Nat.lt_succ_self _)
          · refine pm_aloadn hG dX12_promise_72 rfl ?_
            refine pm_iconst (v := nI 4) hG dX12_promise_73 (by decide) ?_
            refine pm_callV (As := [.int (nI 4)]) (rest := []) hG hR dX12_promise_74 (lkX12_80 _ rfl) okV_X12_finds rfl rfl (m_finds (d := 1) (by decide) hn hz (by omega)) rfl rfl hdd (Nat.le_refl _) (Nat.le_refl _) (by decide) (pm_ki (fun v87 σ' cnt' hq => ?_))
            obtain ⟨⟨I88, A88, rfl⟩, rfl, fv87⟩ := hq
            exact pm_iret hG hF dX12_promise_77 rfl (Nat.le_refl _) (Nat.le_refl _) ⟨_, rfl, ⟨_, _, _, rfl, hn, hr⟩, rfl⟩
        · refine pm_aloadn hG dX12_promise_50 rfl ?_
          refine pm_iconst (v := nI 3) hG dX12_promise_51 (by decide) ?_
          refine pm_callV (As := [.int (nI 3)]) (rest := []) hG hR dX12_promise_52 (lkX12_80 _ rfl) okV_X12_finds rfl rfl (m_finds (d := 1) (by decide) hn hz (by omega)) rfl rfl hdd (Nat.le_refl _) (Nat.le_refl _) (by decide) (pm_ki (fun v89 σ' cnt' hq => ?_))
          obtain ⟨⟨I90, A90, rfl⟩, rfl, fv89⟩ := hq
          exact pm_iret hG hF dX12_promise_55 rfl (Nat.le_refl _) (Nat.le_refl _) ⟨_, rfl, ⟨_, _, _, rfl, hn, hr⟩, rfl⟩
      · refine pm_ifN_ne (tgt := 40) hG dX12_promise_31 rfl (by omega) (fun q => absurd q (by omega)) (fun _ => ?_)
        refine pm_aloadn hG dX12_promise_34 rfl ?_
        refine pm_iconst (v := nI 1) hG dX12_promise_35 (by decide) ?_
        refine pm_callV (As := [.int (nI 1)]) (rest := []) hG hR dX12_promise_36 (lkX12_80 _ rfl) okV_X12_finds rfl rfl (m_finds (d := 1) (by decide) hn hz (by omega)) rfl rfl hdd (Nat.le_refl _) (Nat.le_refl _) (by decide) (pm_ki (fun v91 σ' cnt' hq => ?_))
        obtain ⟨⟨I92, A92, rfl⟩, rfl, fv91⟩ := hq
        exact pm_iret hG hF dX12_promise_39 rfl (Nat.le_refl _) (Nat.le_refl _) ⟨_, rfl, ⟨_, _, _, rfl, hn, hr⟩, rfl⟩
    · refine pm_ifN_eq (tgt := 34) hG dX12_promise_14 rfl (by omega) (fun _ => ?_) (fun q => absurd q (by omega))
      refine pm_aloadn hG dX12_promise_34 rfl ?_
      refine pm_iconst (v := nI 1) hG dX12_promise_35 (by decide) ?_
      refine pm_callV (As := [.int (nI 1)]) (rest := []) hG hR dX12_promise_36 (lkX12_80 _ rfl) okV_X12_finds rfl rfl (m_finds (d := 1) (by decide) hn hz (by omega)) rfl rfl hdd (Nat.le_refl _) (Nat.le_refl _) (by decide) (pm_ki (fun v93 σ' cnt' hq => ?_))
      obtain ⟨⟨I94, A94, rfl⟩, rfl, fv93⟩ := hq
      exact pm_iret hG hF dX12_promise_39 rfl (Nat.le_refl _) (Nat.le_refl _) ⟨_, rfl, ⟨_, _, _, rfl, hn, hr⟩, rfl⟩
  · refine pm_ifN_eq (tgt := 34) hG dX12_promise_5 rfl (by omega) (fun _ => ?_) (fun q => absurd q (by omega))
    refine pm_aloadn hG dX12_promise_34 rfl ?_
    refine pm_iconst (v := nI 1) hG dX12_promise_35 (by decide) ?_
    refine pm_callV (As := [.int (nI 1)]) (rest := []) hG hR dX12_promise_36 (lkX12_80 _ rfl) okV_X12_finds rfl rfl (m_finds (d := 1) (by decide) hn hz (by omega)) rfl rfl hdd (Nat.le_refl _) (Nat.le_refl _) (by decide) (pm_ki (fun v95 σ' cnt' hq => ?_))
    obtain ⟨⟨I96, A96, rfl⟩, rfl, fv95⟩ := hq
    exact pm_iret hG hF dX12_promise_39 rfl (Nat.le_refl _) (Nat.le_refl _) ⟨_, rfl, ⟨_, _, _, rfl, hn, hr⟩, rfl⟩
