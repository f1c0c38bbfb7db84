set_option maxRecDepth 100000 in
set_option maxHeartbeats 4000000 in
theorem m_press {d B cnt p0 t0 : Nat} {σ : pm_S} {I : Nat → Int32} {A : Nat → Nat → Int32} {n k z : Nat → Int32} {ac wt pl im : Int32} {za zb : Int32} (hdd : 3 ≤ d) (hn : KI n) (hr : NR n) (hz : SZ z)  : pm_met mX12_press d 0 0 B [.ref (B + 54), .int za, .int zb] cnt (pm_mid σ (md_L B I A n k z ac wt pl (nI p0) (nI t0) im)) (pm_Qi (fun v σ' cnt' => (∃ (I' : Nat → Int32) (A' : Nat → Nat → Int32) (n' : Nat → Int32), σ' = pm_mid σ (md_L B I' A' n' k z ac wt pl (nI p0) (nI t0) im) ∧ KI n' ∧ NR n' ∧ KS n' n) ∧ cnt = cnt')) := by
  refine pm_enter 3 (by decide) (Nat.le_of_ble_eq_true rfl) rfl (fun G hG hR hF => ?_)
  refine pm_aloadn hG dX12_press_0 rfl ?_
  refine pm_iloadn hG dX12_press_1 rfl ?_
  obtain ⟨k1, hk1, ek1⟩ := KI.nat hn (show kd 5 = (1, 41, true) by decide)
  refine pm_callV (As := [.int za]) (rest := []) hG hR dX12_press_2 (lkX12_211 _ rfl) okV_X12_isLetter rfl rfl (m_isLetter (d := 2) (by decide) ek1 (by omega)) rfl rfl hdd (Nat.le_refl _) (Nat.le_refl _) (by decide) (pm_ki (fun v2 σ' cnt' hq => ?_))
  obtain ⟨hq, rfl, rfl⟩ := hq
  rcases hq with ⟨rfl, k4, hk4, ek4⟩ | rfl
  · refine pm_ifN_eq (tgt := 16) hG dX12_press_5 rfl (by omega) (fun q => absurd q (by omega)) (fun _ => ?_)
    refine pm_aloadn hG dX12_press_8 rfl ?_
    refine pm_iloadn hG dX12_press_9 rfl ?_
    obtain ⟨k5, hk5, ek5⟩ := KI.nat hn (show kd 3 = (1, 21, false) by decide)
    refine pm_callV (As := [.int zb]) (rest := []) hG hR dX12_press_10 (lkX12_132 _ rfl) okV_X12_isPower rfl rfl (m_isPower (d := 2) (by decide) ek5 (by omega)) rfl rfl hdd (Nat.le_refl _) (Nat.le_refl _) (by decide) (pm_ki (fun v6 σ' cnt' hq => ?_))
    obtain ⟨hq, rfl, rfl⟩ := hq
    rcases hq with ⟨rfl, k8, hk8, ek8⟩ | rfl
    · refine pm_ifN_ne (tgt := 22) hG dX12_press_13 rfl (by omega) (fun _ => ?_) (fun q => absurd q (by omega))
      refine pm_aloadn hG dX12_press_22 rfl ?_
      refine pm_iloadn hG dX12_press_23 rfl ?_
      refine pm_top (v := nI k8) ek8 ?_
      refine pm_iconst (v := nI 0) hG dX12_press_24 (by decide) ?_
      refine pm_callV (As := [.int (nI k8), .int (nI 0)]) (rest := []) hG hR dX12_press_25 (lkX12_110 _ rfl) okV_X12_its rfl rfl (m_its (d := 2) (e := 6 * k8 + 390) (by omega) (by omega) (by omega)) rfl rfl hdd (Nat.le_refl _) (Nat.le_refl _) (by decide) (pm_ki (fun v9 σ' cnt' hq => ?_))
      obtain ⟨rfl, rfl, rfl⟩ := hq
      refine pm_gen (fun x10 ex10 => ?_)
      refine pm_iconst (v := nI 2) hG dX12_press_28 (by decide) ?_
      refine pm_icmp_eq (tgt := 38) hG dX12_press_29 rfl (fun c11 => ?_) (fun c11 => ?_)
      · refine pm_aloadn hG dX12_press_38 rfl ?_
        refine pm_iloadn hG dX12_press_39 rfl ?_
        refine pm_top (v := nI k4) ek4 ?_
        refine pm_iconst (v := nI 4) hG dX12_press_40 (by decide) ?_
        refine pm_callV (As := [.int (nI k4), .int (nI 4)]) (rest := []) hG hR dX12_press_41 (lkX12_199 _ rfl) okV_X12_of rfl rfl (m_of (d := 2) (e := 12 * k4 + 1294) (by omega) (by omega) (by omega)) rfl rfl hdd (Nat.le_refl _) (Nat.le_refl _) (by decide) (pm_ki (fun v12 σ' cnt' hq => ?_))
        obtain ⟨rfl, rfl, rfl⟩ := hq
        rcases KI.opt hn (show kd (12 * k4 + 1294) = (2, 20, true) from (kd_E (k := k4) (c := 4) (by omega) (by omega) (by decide))) with ek13 | ⟨k13, hk13, ek13⟩
        · refine pm_top (v := (-1)) ek13 ?_
          refine pm_if_ge (tgt := 75) hG dX12_press_44 rfl (fun q => absurd q (by decide)) (fun _ => ?_)
          refine pm_aloadn hG dX12_press_47 rfl ?_
          refine pm_iloadn hG dX12_press_48 rfl ?_
          refine pm_top (v := nI k8) ek8 ?_
          rcases KI.opt hn (show kd (6 * k8 + 392) = (2, 20, false) from (kd_W (k := k8) (c := 2) (by omega) (by omega) (by decide))) with ek14 | ⟨k14, hk14, ek14⟩
          · rcases KI.opt hn (show kd (6 * k8 + 391) = (2, 20, false) from (kd_W (k := k8) (c := 1) (by omega) (by omega) (by decide))) with ek15 | ⟨k15, hk15, ek15⟩
            · refine pm_callV (As := [.int (nI k8)]) (rest := []) hG hR dX12_press_49 (lkX12_139 _ rfl) okV_X12_whoHas rfl rfl (m_whoHas0 (d := 2) (e := 6 * k8 + 392) (e2 := 6 * k8 + 391) (by decide) (by omega) (by omega) (by omega) ek14 ek15) rfl rfl hdd (Nat.le_refl _) (Nat.le_refl _) (by decide) (pm_ki (fun v16 σ' cnt' hq => ?_))
              obtain ⟨rfl, rfl, rfl⟩ := hq
              refine pm_if_lt (tgt := 75) hG dX12_press_52 rfl (fun _ => ?_) (fun q => absurd q (by decide))
              refine pm_aloadn hG dX12_press_75 rfl ?_
              refine pm_iconst (v := nI 3) hG dX12_press_76 (by decide) ?_
              refine pm_callV (As := [.int (nI 3)]) (rest := []) hG hR dX12_press_77 (lkX12_80 _ rfl) okV_X12_finds rfl rfl (m_finds (d := 2) (by decide) hn hz (by omega)) rfl rfl hdd (Nat.le_refl _) (Nat.le_refl _) (by decide) (pm_ki (fun v17 σ' cnt' hq => ?_))
              obtain ⟨⟨I18, A18, rfl⟩, rfl, fv17⟩ := hq
              exact pm_iret hG hF dX12_press_80 rfl (Nat.le_refl _) (Nat.le_refl _) ⟨_, rfl, ⟨_, _, _, rfl, hn, hr, KS.rf⟩, rfl⟩
            · refine pm_callV (As := [.int (nI k8)]) (rest := []) hG hR dX12_press_49 (lkX12_139 _ rfl) okV_X12_whoHas rfl rfl (m_whoHas0 (d := 2) (e := 6 * k8 + 392) (e2 := 6 * k8 + 391) (by decide) (by omega) (by omega) (by omega) ek14 ek15) rfl rfl hdd (Nat.le_refl _) (Nat.le_refl _) (by decide) (pm_ki (fun v19 σ' cnt' hq => ?_))
              obtain ⟨rfl, rfl, rfl⟩ := hq
              refine pm_ifN_lt hG dX12_press_52 rfl (by omega) ?_
              refine pm_aloadn hG dX12_press_55 rfl ?_
              refine pm_aloadn hG dX12_press_56 rfl ?_
              refine pm_iloadn hG dX12_press_57 rfl ?_
              refine pm_top (v := nI k8) ek8 ?_
              refine pm_callV (As := [.int (nI k8)]) (rest := [.ref (B + 54)]) hG hR dX12_press_58 (lkX12_139 _ rfl) okV_X12_whoHas rfl rfl (m_whoHas0 (d := 2) (e := 6 * k8 + 392) (e2 := 6 * k8 + 391) (by decide) (by omega) (by omega) (by omega) ek14 ek15) rfl rfl hdd (Nat.le_refl _) (Nat.le_refl _) (Nat.le_of_ble_eq_true rfl) (pm_ki (fun v20 σ' cnt' hq => ?_))
              obtain ⟨rfl, rfl, rfl⟩ := hq
              refine pm_iconst (v := nI 4) hG dX12_press_61 (by decide) ?_
              refine pm_callV (As := [.int (nI k15), .int (nI 4)]) (rest := []) hG hR dX12_press_62 (lkX12_72 _ rfl) okV_X12_man rfl rfl (m_man (d := 2) (e := 14 * k15 + 114) (by omega) (by omega) (by omega)) rfl rfl hdd (Nat.le_refl _) (Nat.le_refl _) (by decide) (pm_ki (fun v21 σ' cnt' hq => ?_))
              obtain ⟨rfl, rfl, rfl⟩ := hq
              rcases KI.opt hn (show kd (14 * k15 + 114) = (2, 10, false) from (kd_P (k := k15) (c := 4) (by omega) (by omega) (by decide))) with ek22 | ⟨k22, hk22, ek22⟩
              · refine pm_top (v := (-1)) ek22 ?_
                refine pm_aloadn hG dX12_press_65 rfl ?_
                refine pm_iloadn hG dX12_press_66 rfl ?_
                refine pm_top (v := nI k4) ek4 ?_
                refine pm_bipush (v := nI 10) hG dX12_press_67 (by decide) ?_
                refine pm_callV (As := [.int (nI k4), .int (nI 10)]) (rest := [.int (-1)]) hG hR dX12_press_69 (lkX12_199 _ rfl) okV_X12_of rfl rfl (m_of (d := 2) (e := 12 * k4 + 1300) (by omega) (by omega) (by omega)) rfl rfl hdd (Nat.le_refl _) (Nat.le_refl _) (Nat.le_of_ble_eq_true rfl) (pm_ki (fun v23 σ' cnt' hq => ?_))
                obtain ⟨rfl, rfl, rfl⟩ := hq
                obtain ⟨k24, hk24, ek24⟩ := KI.nat hn (show kd (12 * k4 + 1300) = (1, 10, false) from (kd_E (k := k4) (c := 10) (by omega) (by omega) (by decide)))
                refine pm_top (v := nI k24) ek24 ?_
                refine pm_icmp_eq (tgt := 81) hG dX12_press_72 rfl (fun q => absurd q ((fun q => nI_m1 (by omega) q.symm))) (fun _ => ?_)
                refine pm_aloadn hG dX12_press_75 rfl ?_
                refine pm_iconst (v := nI 3) hG dX12_press_76 (by decide) ?_
                refine pm_callV (As := [.int (nI 3)]) (rest := []) hG hR dX12_press_77 (lkX12_80 _ rfl) okV_X12_finds rfl rfl (m_finds (d := 2) (by decide) hn hz (by omega)) rfl rfl hdd (Nat.le_refl _) (Nat.le_refl _) (by decide) (pm_ki (fun v25 σ' cnt' hq => ?_))
                obtain ⟨⟨I26, A26, rfl⟩, rfl, fv25⟩ := hq
                exact pm_iret hG hF dX12_press_80 rfl (Nat.le_refl _) (Nat.le_refl _) ⟨_, rfl, ⟨_, _, _, rfl, hn, hr, KS.rf⟩, rfl⟩
              · refine pm_top (v := nI k22) ek22 ?_
                refine pm_aloadn hG dX12_press_65 rfl ?_
                refine pm_iloadn hG dX12_press_66 rfl ?_
                refine pm_top (v := nI k4) ek4 ?_
                refine pm_bipush (v := nI 10) hG dX12_press_67 (by decide) ?_
                refine pm_callV (As := [.int (nI k4), .int (nI 10)]) (rest := [.int (nI k22)]) hG hR dX12_press_69 (lkX12_199 _ rfl) okV_X12_of rfl rfl (m_of (d := 2) (e := 12 * k4 + 1300) (by omega) (by omega) (by omega)) rfl rfl hdd (Nat.le_refl _) (Nat.le_refl _) (Nat.le_of_ble_eq_true rfl) (pm_ki (fun v27 σ' cnt' hq => ?_))
                obtain ⟨rfl, rfl, rfl⟩ := hq
                obtain ⟨k28, hk28, ek28⟩ := KI.nat hn (show kd (12 * k4 + 1300) = (1, 10, false) from (kd_E (k := k4) (c := 10) (by omega) (by omega) (by decide)))
                refine pm_top (v := nI k28) ek28 ?_
                refine pm_icmpN_eq (tgt := 81) hG dX12_press_72 rfl (by omega) (by omega) (fun c29 => ?_) (fun c29 => ?_)
                · refine pm_aloadn hG dX12_press_81 rfl ?_
                  refine pm_iloadn hG dX12_press_82 rfl ?_
                  refine pm_top (v := nI k8) ek8 ?_
                  refine pm_iconst (v := nI 5) hG dX12_press_83 (by decide) ?_
                  refine pm_callV (As := [.int (nI k8), .int (nI 5)]) (rest := []) hG hR dX12_press_84 (lkX12_110 _ rfl) okV_X12_its rfl rfl (m_its (d := 2) (e := 6 * k8 + 395) (by omega) (by omega) (by omega)) rfl rfl hdd (Nat.le_refl _) (Nat.le_refl _) (by decide) (pm_ki (fun v30 σ' cnt' hq => ?_))
                  obtain ⟨rfl, rfl, rfl⟩ := hq
                  refine pm_gen (fun x31 ex31 => ?_)
                  refine pm_istoreXn (loc' := [some (.ref (B + 54)), some (.int za), some (.int zb), some (.int x31), none, none]) hG dX12_press_87 (by decide) (pm_c1b rfl) rfl ?_
                  refine pm_iconst (v := nI 0) hG dX12_press_88 (by decide) ?_
                  refine pm_istoreXi (loc' := [some (.ref (B + 54)), some (.int za), some (.int zb), some (.int x31), some (.int (nI 0)), none]) hG dX12_press_89 (by decide) (pm_c1b rfl) rfl ?_
                  refine pm_iconst (v := nI 0) hG dX12_press_91 (by decide) ?_
                  refine pm_istoreXi (loc' := [some (.ref (B + 54)), some (.int za), some (.int zb), some (.int x31), some (.int (nI 0)), some (.int (nI 0))]) hG dX12_press_92 (by decide) (pm_c1b rfl) rfl ?_
                  have loop94_32 : ∀ (m32 : Nat) (I32 : Nat → Int32) (A32 : Nat → Nat → Int32) (n_32 : Nat → Int32) (x32_4 : Int32) (i32 : Nat), KI n_32 → KS n_32 n → NRx 40 n_32 → i32 ≤ 20 → 20 - i32 < m32 → pm_wp mX12_press G B 94 [some (.ref (B + 54)), some (.int za), some (.int zb), some (.int x31), some (.int x32_4), some (.int (nI i32))] [] 0 0 cnt (pm_mid σ (md_L B I32 A32 n_32 k z ac wt pl (nI p0) (nI t0) im)) := by
                    intro m32
                    induction m32 with
                    | zero => intro I32 A32 n_32 x32_4 i32 _ _ _ _ hm; exact absurd hm (Nat.not_lt_zero _)
                    | succ m32 ih32 =>
                      intro I32 A32 n_32 x32_4 i32 hnn_32 ksn_32 hrn_32 hi32 hm32
                      refine pm_iloadi hG dX12_press_94 rfl ?_
                      refine pm_aloadn hG dX12_press_96 rfl ?_
                      refine pm_getf hG dX12_press_97 (flX12_7 _ rfl) rfl rfl ?_
                      refine pm_iconst (v := nI 3) hG dX12_press_100 (by decide) ?_
                      refine pm_ialdN hG dX12_press_101 rfl (by decide) (by omega) ?_
                      obtain ⟨k33, hk33, ek33⟩ := KI.nat hnn_32 (show kd 3 = (1, 21, false) by decide)
                      refine pm_top (v := nI k33) ek33 ?_
                      refine pm_icmpN_ge (tgt := 159) hG dX12_press_102 rfl (by omega) (by omega) (fun c34 => ?_) (fun c34 => ?_)
                      · refine pm_aloadn hG dX12_press_159 rfl ?_
                        refine pm_aloadn hG dX12_press_160 rfl ?_
                        refine pm_iloadn hG dX12_press_161 rfl ?_
                        refine pm_top (v := nI k4) ek4 ?_
                        refine pm_bipush (v := nI 10) hG dX12_press_162 (by decide) ?_
                        refine pm_callV (As := [.int (nI k4), .int (nI 10)]) (rest := [.ref (B + 54)]) hG hR dX12_press_164 (lkX12_199 _ rfl) okV_X12_of rfl rfl (m_of (d := 2) (e := 12 * k4 + 1300) (by omega) (by omega) (by omega)) rfl rfl hdd (Nat.le_refl _) (Nat.le_refl _) (Nat.le_of_ble_eq_true rfl) (pm_ki (fun v35 σ' cnt' hq => ?_))
                        obtain ⟨rfl, rfl, rfl⟩ := hq
                        obtain ⟨k36, hk36, ek36⟩ := KI.nat hnn_32 (show kd (12 * k4 + 1300) = (1, 10, false) from (kd_E (k := k4) (c := 10) (by omega) (by omega) (by decide)))
                        refine pm_top (v := nI k36) ek36 ?_
                        refine pm_callV (As := [.int (nI k36)]) (rest := []) hG hR dX12_press_167 (lkX12_220 _ rfl) okV_X12_thoseIn rfl rfl (m_thoseIn (d := 2) (by decide) hnn_32 hz) rfl rfl hdd (Nat.le_refl _) (Nat.le_refl _) (by decide) (pm_ki (fun v37 σ' cnt' hq => ?_))
                        obtain ⟨rfl, rfl⟩ := hq
                        refine pm_iloadi hG dX12_press_170 rfl ?_
                        refine pm_iand hG dX12_press_172 ?_
                        refine pm_any (fun x39 => ?_)
                        refine pm_istoreXi (loc' := [some (.ref (B + 54)), some (.int za), some (.int zb), some (.int x31), some (.int x32_4), some (.int x39)]) hG dX12_press_173 (by decide) (pm_c1b rfl) rfl ?_
                        refine pm_aloadn hG dX12_press_175 rfl ?_
                        refine pm_iloadn hG dX12_press_176 rfl ?_
                        refine pm_top (v := nI k4) ek4 ?_
                        refine pm_bipush (v := nI 9) hG dX12_press_177 (by decide) ?_
                        refine pm_aloadn hG dX12_press_179 rfl ?_
                        refine pm_iloadn hG dX12_press_180 rfl ?_
                        refine pm_top (v := nI k4) ek4 ?_
                        refine pm_iconst (v := nI 3) hG dX12_press_181 (by decide) ?_
                        refine pm_callV (As := [.int (nI k4), .int (nI 3)]) (rest := [.int (nI 9), .int (nI k4), .ref (B + 54)]) hG hR dX12_press_182 (lkX12_199 _ rfl) okV_X12_of rfl rfl (m_of (d := 2) (e := 12 * k4 + 1293) (by omega) (by omega) (by omega)) rfl rfl hdd (Nat.le_refl _) (Nat.le_refl _) (Nat.le_of_ble_eq_true rfl) (pm_ki (fun v40 σ' cnt' hq => ?_))
                        obtain ⟨rfl, rfl, rfl⟩ := hq
                        refine pm_gen (fun x41 ex41 => ?_)
                        refine pm_if_ne (tgt := 193) hG dX12_press_185 rfl (fun c42 => ?_) (fun c42 => ?_)
                        · refine pm_aloadn hG dX12_press_193 rfl ?_
                          refine pm_iloadn hG dX12_press_194 rfl ?_
                          refine pm_top (v := nI k4) ek4 ?_
                          refine pm_bipush (v := nI 9) hG dX12_press_195 (by decide) ?_
                          refine pm_callV (As := [.int (nI k4), .int (nI 9)]) (rest := [.int (nI 9), .int (nI k4), .ref (B + 54)]) hG hR dX12_press_197 (lkX12_199 _ rfl) okV_X12_of rfl rfl (m_of (d := 2) (e := 12 * k4 + 1299) (by omega) (by omega) (by omega)) rfl rfl hdd (Nat.le_refl _) (Nat.le_refl _) (Nat.le_of_ble_eq_true rfl) (pm_ki (fun v43 σ' cnt' hq => ?_))
                          obtain ⟨rfl, rfl, rfl⟩ := hq
                          refine pm_gen (fun x44 ex44 => ?_)
                          refine pm_iloadi hG dX12_press_200 rfl ?_
                          refine pm_iand hG dX12_press_202 ?_
                          refine pm_any (fun x45 => ?_)
                          refine pm_callV (As := [.int (nI k4), .int (nI 9), .int x45]) (rest := []) hG hR dX12_press_203 (lkX12_217 _ rfl) okV_X12_writes rfl rfl (m_writes (d := 2) (e := 12 * k4 + 1299) (by omega) (by omega) (by omega)) rfl rfl hdd (Nat.le_refl _) (Nat.le_refl _) (by decide) (pm_kv (fun σ' cnt' hq => ?_))
                          obtain ⟨rfl, rfl⟩ := hq
                          obtain ⟨n_46, en_46⟩ : ∃ f : Nat → Int32, f = upd n_32 (12 * k4 + 1299) x45 := ⟨_, rfl⟩
                          rw [← en_46]
                          have hnn_46 := KI.w en_46 hnn_32 (okv_f (show kd (12 * k4 + 1299) = (0, 0, false) from (kd_E (k := k4) (c := 9) (by omega) (by omega) (by decide))))
                          have hrn_46 := NRx.w en_46 hrn_32 (by rw [(show kd (12 * k4 + 1299) = (0, 0, false) from (kd_E (k := k4) (c := 9) (by omega) (by omega) (by decide)))])
                          have ksn_46 := KS.w en_46 ksn_32 (by unfold tS; omega)
                          have e47 : n_46 3 = nI k33 := by rw [en_46, pk_un (by omega)]; exact ek33
                          have e48 : n_46 (12 * k4 + 1300) = nI k36 := by rw [en_46, pk_un (by omega)]; exact ek36
                          have e49 : n_46 (12 * k4 + 1293) = x41 := by rw [en_46, pk_un (by omega)]; exact ex41
                          have e50 : n_46 (12 * k4 + 1299) = x45 := by rw [en_46, pk_us]
                          refine pm_aloadn hG dX12_press_206 rfl ?_
                          refine pm_iloadn hG dX12_press_207 rfl ?_
                          refine pm_top (v := nI k4) ek4 ?_
                          refine pm_iconst (v := nI 3) hG dX12_press_208 (by decide) ?_
                          refine pm_aloadn hG dX12_press_209 rfl ?_
                          refine pm_iloadn hG dX12_press_210 rfl ?_
                          refine pm_top (v := nI k4) ek4 ?_
                          refine pm_iconst (v := nI 3) hG dX12_press_211 (by decide) ?_
                          refine pm_callV (As := [.int (nI k4), .int (nI 3)]) (rest := [.int (nI 3), .int (nI k4), .ref (B + 54)]) hG hR dX12_press_212 (lkX12_199 _ rfl) okV_X12_of rfl rfl (m_of (d := 2) (e := 12 * k4 + 1293) (by omega) (by omega) (by omega)) rfl rfl hdd (Nat.le_refl _) (Nat.le_refl _) (Nat.le_of_ble_eq_true rfl) (pm_ki (fun v51 σ' cnt' hq => ?_))
                          obtain ⟨rfl, rfl, rfl⟩ := hq
                          refine pm_top (v := x41) e49 ?_
                          refine pm_iconst (v := nI 1) hG dX12_press_215 (by decide) ?_
                          refine pm_iloadn hG dX12_press_216 rfl ?_
                          refine pm_ishl hG dX12_press_217 ?_
                          refine pm_any (fun x52 => ?_)
                          refine pm_ior hG dX12_press_218 ?_
                          refine pm_any (fun x53 => ?_)
                          refine pm_callV (As := [.int (nI k4), .int (nI 3), .int x53]) (rest := []) hG hR dX12_press_219 (lkX12_217 _ rfl) okV_X12_writes rfl rfl (m_writes (d := 2) (e := 12 * k4 + 1293) (by omega) (by omega) (by omega)) rfl rfl hdd (Nat.le_refl _) (Nat.le_refl _) (by decide) (pm_kv (fun σ' cnt' hq => ?_))
                          obtain ⟨rfl, rfl⟩ := hq
                          obtain ⟨n_54, en_54⟩ : ∃ f : Nat → Int32, f = upd n_46 (12 * k4 + 1293) x53 := ⟨_, rfl⟩
                          rw [← en_54]
                          have hnn_54 := KI.w en_54 hnn_46 (okv_f (show kd (12 * k4 + 1293) = (0, 0, false) from (kd_E (k := k4) (c := 3) (by omega) (by omega) (by decide))))
                          have hrn_54 := NRx.w en_54 hrn_46 (by rw [(show kd (12 * k4 + 1293) = (0, 0, false) from (kd_E (k := k4) (c := 3) (by omega) (by omega) (by decide)))])
                          have ksn_54 := KS.w en_54 ksn_46 (by unfold tS; omega)
                          have e55 : n_54 3 = nI k33 := by rw [en_54, pk_un (by omega)]; exact e47
                          have e56 : n_54 (12 * k4 + 1300) = nI k36 := by rw [en_54, pk_un (by omega)]; exact e48
                          have e57 : n_54 (12 * k4 + 1299) = x45 := by rw [en_54, pk_un (by omega)]; exact e50
                          have e58 : n_54 (12 * k4 + 1293) = x53 := by rw [en_54, pk_us]
                          refine pm_aloadn hG dX12_press_222 rfl ?_
                          refine pm_iloadn hG dX12_press_223 rfl ?_
                          refine pm_top (v := nI k4) ek4 ?_
                          refine pm_iconst (v := nI 3) hG dX12_press_224 (by decide) ?_
                          refine pm_callV (As := [.int (nI k4), .int (nI 3)]) (rest := []) hG hR dX12_press_225 (lkX12_199 _ rfl) okV_X12_of rfl rfl (m_of (d := 2) (e := 12 * k4 + 1293) (by omega) (by omega) (by omega)) rfl rfl hdd (Nat.le_refl _) (Nat.le_refl _) (by decide) (pm_ki (fun v59 σ' cnt' hq => ?_))
                          obtain ⟨rfl, rfl, rfl⟩ := hq
                          refine pm_top (v := x53) e58 ?_
                          refine pm_callS (As := [.int x53]) (rest := []) hG hR dX12_press_228 (lkX12_202 _ rfl) okS_X12_bits (m_bits (d := 2) (by decide) hnn_54 hz) rfl rfl hdd (Nat.le_refl _) (Nat.le_refl _) (by decide) (pm_ki (fun v60 σ' cnt' hq => ?_))
                          obtain ⟨rfl, rfl⟩ := hq
                          exact pm_iret hG hF dX12_press_231 rfl (Nat.le_refl _) (Nat.le_refl _) ⟨_, rfl, ⟨_, _, _, rfl, hnn_54, hrn_54, ksn_54⟩, rfl⟩
                        · refine pm_iloadi hG dX12_press_188 rfl ?_
                          refine pm_goto (tgt := 203) hG dX12_press_190 rfl ?_
                          refine pm_callV (As := [.int (nI k4), .int (nI 9), .int x39]) (rest := []) hG hR dX12_press_203 (lkX12_217 _ rfl) okV_X12_writes rfl rfl (m_writes (d := 2) (e := 12 * k4 + 1299) (by omega) (by omega) (by omega)) rfl rfl hdd (Nat.le_refl _) (Nat.le_refl _) (by decide) (pm_kv (fun σ' cnt' hq => ?_))
                          obtain ⟨rfl, rfl⟩ := hq
                          obtain ⟨n_62, en_62⟩ : ∃ f : Nat → Int32, f = upd n_32 (12 * k4 + 1299) x39 := ⟨_, rfl⟩
                          rw [← en_62]
                          have hnn_62 := KI.w en_62 hnn_32 (okv_f (show kd (12 * k4 + 1299) = (0, 0, false) from (kd_E (k := k4) (c := 9) (by omega) (by omega) (by decide))))
                          have hrn_62 := NRx.w en_62 hrn_32 (by rw [(show kd (12 * k4 + 1299) = (0, 0, false) from (kd_E (k := k4) (c := 9) (by omega) (by omega) (by decide)))])
                          have ksn_62 := KS.w en_62 ksn_32 (by unfold tS; omega)
                          have e63 : n_62 3 = nI k33 := by rw [en_62, pk_un (by omega)]; exact ek33
                          have e64 : n_62 (12 * k4 + 1300) = nI k36 := by rw [en_62, pk_un (by omega)]; exact ek36
                          have e65 : n_62 (12 * k4 + 1293) = x41 := by rw [en_62, pk_un (by omega)]; exact ex41
                          have e66 : n_62 (12 * k4 + 1299) = x39 := by rw [en_62, pk_us]
                          refine pm_aloadn hG dX12_press_206 rfl ?_
                          refine pm_iloadn hG dX12_press_207 rfl ?_
                          refine pm_top (v := nI k4) ek4 ?_
                          refine pm_iconst (v := nI 3) hG dX12_press_208 (by decide) ?_
                          refine pm_aloadn hG dX12_press_209 rfl ?_
                          refine pm_iloadn hG dX12_press_210 rfl ?_
                          refine pm_top (v := nI k4) ek4 ?_
                          refine pm_iconst (v := nI 3) hG dX12_press_211 (by decide) ?_
                          refine pm_callV (As := [.int (nI k4), .int (nI 3)]) (rest := [.int (nI 3), .int (nI k4), .ref (B + 54)]) hG hR dX12_press_212 (lkX12_199 _ rfl) okV_X12_of rfl rfl (m_of (d := 2) (e := 12 * k4 + 1293) (by omega) (by omega) (by omega)) rfl rfl hdd (Nat.le_refl _) (Nat.le_refl _) (Nat.le_of_ble_eq_true rfl) (pm_ki (fun v67 σ' cnt' hq => ?_))
                          obtain ⟨rfl, rfl, rfl⟩ := hq
                          refine pm_top (v := x41) e65 ?_
                          refine pm_iconst (v := nI 1) hG dX12_press_215 (by decide) ?_
                          refine pm_iloadn hG dX12_press_216 rfl ?_
                          refine pm_ishl hG dX12_press_217 ?_
                          refine pm_any (fun x68 => ?_)
                          refine pm_ior hG dX12_press_218 ?_
                          refine pm_any (fun x69 => ?_)
                          refine pm_callV (As := [.int (nI k4), .int (nI 3), .int x69]) (rest := []) hG hR dX12_press_219 (lkX12_217 _ rfl) okV_X12_writes rfl rfl (m_writes (d := 2) (e := 12 * k4 + 1293) (by omega) (by omega) (by omega)) rfl rfl hdd (Nat.le_refl _) (Nat.le_refl _) (by decide) (pm_kv (fun σ' cnt' hq => ?_))
                          obtain ⟨rfl, rfl⟩ := hq
                          obtain ⟨n_70, en_70⟩ : ∃ f : Nat → Int32, f = upd n_62 (12 * k4 + 1293) x69 := ⟨_, rfl⟩
                          rw [← en_70]
                          have hnn_70 := KI.w en_70 hnn_62 (okv_f (show kd (12 * k4 + 1293) = (0, 0, false) from (kd_E (k := k4) (c := 3) (by omega) (by omega) (by decide))))
                          have hrn_70 := NRx.w en_70 hrn_62 (by rw [(show kd (12 * k4 + 1293) = (0, 0, false) from (kd_E (k := k4) (c := 3) (by omega) (by omega) (by decide)))])
                          have ksn_70 := KS.w en_70 ksn_62 (by unfold tS; omega)
                          have e71 : n_70 3 = nI k33 := by rw [en_70, pk_un (by omega)]; exact e63
                          have e72 : n_70 (12 * k4 + 1300) = nI k36 := by rw [en_70, pk_un (by omega)]; exact e64
                          have e73 : n_70 (12 * k4 + 1299) = x39 := by rw [en_70, pk_un (by omega)]; exact e66
                          have e74 : n_70 (12 * k4 + 1293) = x69 := by rw [en_70, pk_us]
                          refine pm_aloadn hG dX12_press_222 rfl ?_
                          refine pm_iloadn hG dX12_press_223 rfl ?_
                          refine pm_top (v := nI k4) ek4 ?_
                          refine pm_iconst (v := nI 3) hG dX12_press_224 (by decide) ?_
                          refine pm_callV (As := [.int (nI k4), .int (nI 3)]) (rest := []) hG hR dX12_press_225 (lkX12_199 _ rfl) okV_X12_of rfl rfl (m_of (d := 2) (e := 12 * k4 + 1293) (by omega) (by omega) (by omega)) rfl rfl hdd (Nat.le_refl _) (Nat.le_refl _) (by decide) (pm_ki (fun v75 σ' cnt' hq => ?_))
                          obtain ⟨rfl, rfl, rfl⟩ := hq
                          refine pm_top (v := x69) e74 ?_
                          refine pm_callS (As := [.int x69]) (rest := []) hG hR dX12_press_228 (lkX12_202 _ rfl) okS_X12_bits (m_bits (d := 2) (by decide) hnn_70 hz) rfl rfl hdd (Nat.le_refl _) (Nat.le_refl _) (by decide) (pm_ki (fun v76 σ' cnt' hq => ?_))
                          obtain ⟨rfl, rfl⟩ := hq
                          exact pm_iret hG hF dX12_press_231 rfl (Nat.le_refl _) (Nat.le_refl _) ⟨_, rfl, ⟨_, _, _, rfl, hnn_70, hrn_70, ksn_70⟩, rfl⟩
                      · refine pm_iloadi hG dX12_press_105 rfl ?_
                        refine pm_aloadn hG dX12_press_107 rfl ?_
                        refine pm_iloadi hG dX12_press_108 rfl ?_
                        refine pm_iconst (v := nI 0) hG dX12_press_110 (by decide) ?_
                        refine pm_callV (As := [.int (nI i32), .int (nI 0)]) (rest := [.int x32_4]) hG hR dX12_press_111 (lkX12_110 _ rfl) okV_X12_its rfl rfl (m_its (d := 2) (e := 6 * i32 + 390) (by omega) (by omega) (by omega)) rfl rfl hdd (Nat.le_refl _) (Nat.le_refl _) (Nat.le_of_ble_eq_true rfl) (pm_ki (fun v78 σ' cnt' hq => ?_))
                        obtain ⟨rfl, rfl, rfl⟩ := hq
                        refine pm_gen (fun x79 ex79 => ?_)
                        refine pm_iconst (v := nI 2) hG dX12_press_114 (by decide) ?_
                        refine pm_icmp_ne (tgt := 149) hG dX12_press_115 rfl (fun c80 => ?_) (fun c80 => ?_)
                        · refine pm_iconst (v := nI 0) hG dX12_press_149 (by decide) ?_
                          refine pm_ior hG dX12_press_150 ?_
                          refine pm_any (fun x81 => ?_)
                          refine pm_istoreXi (loc' := [some (.ref (B + 54)), some (.int za), some (.int zb), some (.int x31), some (.int x81), some (.int (nI i32))]) hG dX12_press_151 (by decide) (pm_c1b rfl) rfl ?_
                          refine pm_iincX (v := nI (i32 + 1)) (loc' := [some (.ref (B + 54)), some (.int za), some (.int zb), some (.int x31), some (.int x81), some (.int (nI (i32 + 1)))]) hG dX12_press_153 rfl (nI_1 _) (by decide) (pm_c1b rfl) rfl ?_
                          refine pm_goto (tgt := 94) hG dX12_press_156 rfl ?_
                          exact ih32 I32 A32 n_32 x81 (i32 + 1) hnn_32 ksn_32 hrn_32 (by omega) (by omega)
                        · refine pm_aloadn hG dX12_press_118 rfl ?_
                          refine pm_iloadi hG dX12_press_119 rfl ?_
                          refine pm_iconst (v := nI 5) hG dX12_press_121 (by decide) ?_
                          refine pm_callV (As := [.int (nI i32), .int (nI 5)]) (rest := [.int x32_4]) hG hR dX12_press_122 (lkX12_110 _ rfl) okV_X12_its rfl rfl (m_its (d := 2) (e := 6 * i32 + 395) (by omega) (by omega) (by omega)) rfl rfl hdd (Nat.le_refl _) (Nat.le_refl _) (Nat.le_of_ble_eq_true rfl) (pm_ki (fun v82 σ' cnt' hq => ?_))
                          obtain ⟨rfl, rfl, rfl⟩ := hq
                          refine pm_gen (fun x83 ex83 => ?_)
                          refine pm_iloadn hG dX12_press_125 rfl ?_
                          refine pm_icmp_ne (tgt := 149) hG dX12_press_126 rfl (fun c84 => ?_) (fun c84 => ?_)
                          · refine pm_iconst (v := nI 0) hG dX12_press_149 (by decide) ?_
                            refine pm_ior hG dX12_press_150 ?_
                            refine pm_any (fun x85 => ?_)
                            refine pm_istoreXi (loc' := [some (.ref (B + 54)), some (.int za), some (.int zb), some (.int x31), some (.int x85), some (.int (nI i32))]) hG dX12_press_151 (by decide) (pm_c1b rfl) rfl ?_
                            refine pm_iincX (v := nI (i32 + 1)) (loc' := [some (.ref (B + 54)), some (.int za), some (.int zb), some (.int x31), some (.int x85), some (.int (nI (i32 + 1)))]) hG dX12_press_153 rfl (nI_1 _) (by decide) (pm_c1b rfl) rfl ?_
                            refine pm_goto (tgt := 94) hG dX12_press_156 rfl ?_
                            exact ih32 I32 A32 n_32 x85 (i32 + 1) hnn_32 ksn_32 hrn_32 (by omega) (by omega)
                          · refine pm_aloadn hG dX12_press_129 rfl ?_
                            refine pm_iloadi hG dX12_press_130 rfl ?_
                            rcases KI.opt hnn_32 (show kd (6 * i32 + 392) = (2, 20, false) from (kd_W (k := i32) (c := 2) (by omega) (by omega) (by decide))) with ek86 | ⟨k86, hk86, ek86⟩
                            · rcases KI.opt hnn_32 (show kd (6 * i32 + 391) = (2, 20, false) from (kd_W (k := i32) (c := 1) (by omega) (by omega) (by decide))) with ek87 | ⟨k87, hk87, ek87⟩
                              · refine pm_callV (As := [.int (nI i32)]) (rest := [.int x32_4]) hG hR dX12_press_132 (lkX12_139 _ rfl) okV_X12_whoHas rfl rfl (m_whoHas0 (d := 2) (e := 6 * i32 + 392) (e2 := 6 * i32 + 391) (by decide) (by omega) (by omega) (by omega) ek86 ek87) rfl rfl hdd (Nat.le_refl _) (Nat.le_refl _) (Nat.le_of_ble_eq_true rfl) (pm_ki (fun v88 σ' cnt' hq => ?_))
                                obtain ⟨rfl, rfl, rfl⟩ := hq
                                refine pm_if_lt (tgt := 149) hG dX12_press_135 rfl (fun _ => ?_) (fun q => absurd q (by decide))
                                refine pm_iconst (v := nI 0) hG dX12_press_149 (by decide) ?_
                                refine pm_ior hG dX12_press_150 ?_
                                refine pm_any (fun x89 => ?_)
                                refine pm_istoreXi (loc' := [some (.ref (B + 54)), some (.int za), some (.int zb), some (.int x31), some (.int x89), some (.int (nI i32))]) hG dX12_press_151 (by decide) (pm_c1b rfl) rfl ?_
                                refine pm_iincX (v := nI (i32 + 1)) (loc' := [some (.ref (B + 54)), some (.int za), some (.int zb), some (.int x31), some (.int x89), some (.int (nI (i32 + 1)))]) hG dX12_press_153 rfl (nI_1 _) (by decide) (pm_c1b rfl) rfl ?_
                                refine pm_goto (tgt := 94) hG dX12_press_156 rfl ?_
                                exact ih32 I32 A32 n_32 x89 (i32 + 1) hnn_32 ksn_32 hrn_32 (by omega) (by omega)
                              · refine pm_callV (As := [.int (nI i32)]) (rest := [.int x32_4]) hG hR dX12_press_132 (lkX12_139 _ rfl) okV_X12_whoHas rfl rfl (m_whoHas0 (d := 2) (e := 6 * i32 + 392) (e2 := 6 * i32 + 391) (by decide) (by omega) (by omega) (by omega) ek86 ek87) rfl rfl hdd (Nat.le_refl _) (Nat.le_refl _) (Nat.le_of_ble_eq_true rfl) (pm_ki (fun v90 σ' cnt' hq => ?_))
                                obtain ⟨rfl, rfl, rfl⟩ := hq
                                refine pm_ifN_lt hG dX12_press_135 rfl (by omega) ?_
                                refine pm_iconst (v := nI 1) hG dX12_press_138 (by decide) ?_
                                refine pm_aloadn hG dX12_press_139 rfl ?_
                                refine pm_iloadi hG dX12_press_140 rfl ?_
                                refine pm_callV (As := [.int (nI i32)]) (rest := [.int (nI 1), .int x32_4]) hG hR dX12_press_142 (lkX12_139 _ rfl) okV_X12_whoHas rfl rfl (m_whoHas0 (d := 2) (e := 6 * i32 + 392) (e2 := 6 * i32 + 391) (by decide) (by omega) (by omega) (by omega) ek86 ek87) rfl rfl hdd (Nat.le_refl _) (Nat.le_refl _) (Nat.le_of_ble_eq_true rfl) (pm_ki (fun v91 σ' cnt' hq => ?_))
                                obtain ⟨rfl, rfl, rfl⟩ := hq
                                refine pm_ishl hG dX12_press_145 ?_
                                refine pm_any (fun x92 => ?_)
                                refine pm_goto (tgt := 150) hG dX12_press_146 rfl ?_
                                refine pm_ior hG dX12_press_150 ?_
                                refine pm_any (fun x93 => ?_)
                                refine pm_istoreXi (loc' := [some (.ref (B + 54)), some (.int za), some (.int zb), some (.int x31), some (.int x93), some (.int (nI i32))]) hG dX12_press_151 (by decide) (pm_c1b rfl) rfl ?_
                                refine pm_iincX (v := nI (i32 + 1)) (loc' := [some (.ref (B + 54)), some (.int za), some (.int zb), some (.int x31), some (.int x93), some (.int (nI (i32 + 1)))]) hG dX12_press_153 rfl (nI_1 _) (by decide) (pm_c1b rfl) rfl ?_
                                refine pm_goto (tgt := 94) hG dX12_press_156 rfl ?_
                                exact ih32 I32 A32 n_32 x93 (i32 + 1) hnn_32 ksn_32 hrn_32 (by omega) (by omega)
                            · refine pm_callV (As := [.int (nI i32)]) (rest := [.int x32_4]) hG hR dX12_press_132 (lkX12_139 _ rfl) okV_X12_whoHas rfl rfl (m_whoHas1 (d := 2) (e := 6 * i32 + 392) (by decide) (by omega) (by omega) ek86 (by omega)) rfl rfl hdd (Nat.le_refl _) (Nat.le_refl _) (Nat.le_of_ble_eq_true rfl) (pm_ki (fun v94 σ' cnt' hq => ?_))
                              obtain ⟨rfl, rfl, rfl⟩ := hq
                              refine pm_ifN_lt hG dX12_press_135 rfl (by omega) ?_
                              refine pm_iconst (v := nI 1) hG dX12_press_138 (by decide) ?_
                              refine pm_aloadn hG dX12_press_139 rfl ?_
                              refine pm_iloadi hG dX12_press_140 rfl ?_
                              refine pm_callV (As := [.int (nI i32)]) (rest := [.int (nI 1), .int x32_4]) hG hR dX12_press_142 (lkX12_139 _ rfl) okV_X12_whoHas rfl rfl (m_whoHas1 (d := 2) (e := 6 * i32 + 392) (by decide) (by omega) (by omega) ek86 (by omega)) rfl rfl hdd (Nat.le_refl _) (Nat.le_refl _) (Nat.le_of_ble_eq_true rfl) (pm_ki (fun v95 σ' cnt' hq => ?_))
                              obtain ⟨rfl, rfl, rfl⟩ := hq
                              refine pm_ishl hG dX12_press_145 ?_
                              refine pm_any (fun x96 => ?_)
                              refine pm_goto (tgt := 150) hG dX12_press_146 rfl ?_
                              refine pm_ior hG dX12_press_150 ?_
                              refine pm_any (fun x97 => ?_)
                              refine pm_istoreXi (loc' := [some (.ref (B + 54)), some (.int za), some (.int zb), some (.int x31), some (.int x97), some (.int (nI i32))]) hG dX12_press_151 (by decide) (pm_c1b rfl) rfl ?_
                              refine pm_iincX (v := nI (i32 + 1)) (loc' := [some (.ref (B + 54)), some (.int za), some (.int zb), some (.int x31), some (.int x97), some (.int (nI (i32 + 1)))]) hG dX12_press_153 rfl (nI_1 _) (by decide) (pm_c1b rfl) rfl ?_
                              refine pm_goto (tgt := 94) hG dX12_press_156 rfl ?_
                              exact ih32 I32 A32 n_32 x97 (i32 + 1) hnn_32 ksn_32 hrn_32 (by omega) (by omega)
                  exact loop94_32 _ I A n (nI 0) 0 hn KS.rf hr (by omega) (Nat.lt_succ_self _)
                · refine pm_aloadn hG dX12_press_75 rfl ?_
                  refine pm_iconst (v := nI 3) hG dX12_press_76 (by decide) ?_
                  refine pm_callV (As := [.int (nI 3)]) (rest := []) hG hR dX12_press_77 (lkX12_80 _ rfl) okV_X12_finds rfl rfl (m_finds (d := 2) (by decide) hn hz (by omega)) rfl rfl hdd (Nat.le_refl _) (Nat.le_refl _) (by decide) (pm_ki (fun v98 σ' cnt' hq => ?_))
                  obtain ⟨⟨I99, A99, rfl⟩, rfl, fv98⟩ := hq
                  exact pm_iret hG hF dX12_press_80 rfl (Nat.le_refl _) (Nat.le_refl _) ⟨_, rfl, ⟨_, _, _, rfl, hn, hr, KS.rf⟩, rfl⟩
          · refine pm_callV (As := [.int (nI k8)]) (rest := []) hG hR dX12_press_49 (lkX12_139 _ rfl) okV_X12_whoHas rfl rfl (m_whoHas1 (d := 2) (e := 6 * k8 + 392) (by decide) (by omega) (by omega) ek14 (by omega)) rfl rfl hdd (Nat.le_refl _) (Nat.le_refl _) (by decide) (pm_ki (fun v100 σ' cnt' hq => ?_))
            obtain ⟨rfl, rfl, rfl⟩ := hq
            refine pm_ifN_lt hG dX12_press_52 rfl (by omega) ?_
            refine pm_aloadn hG dX12_press_55 rfl ?_
            refine pm_aloadn hG dX12_press_56 rfl ?_
            refine pm_iloadn hG dX12_press_57 rfl ?_
            refine pm_top (v := nI k8) ek8 ?_
            refine pm_callV (As := [.int (nI k8)]) (rest := [.ref (B + 54)]) hG hR dX12_press_58 (lkX12_139 _ rfl) okV_X12_whoHas rfl rfl (m_whoHas1 (d := 2) (e := 6 * k8 + 392) (by decide) (by omega) (by omega) ek14 (by omega)) rfl rfl hdd (Nat.le_refl _) (Nat.le_refl _) (Nat.le_of_ble_eq_true rfl) (pm_ki (fun v101 σ' cnt' hq => ?_))
            obtain ⟨rfl, rfl, rfl⟩ := hq
            refine pm_iconst (v := nI 4) hG dX12_press_61 (by decide) ?_
            refine pm_callV (As := [.int (nI k14), .int (nI 4)]) (rest := []) hG hR dX12_press_62 (lkX12_72 _ rfl) okV_X12_man rfl rfl (m_man (d := 2) (e := 14 * k14 + 114) (by omega) (by omega) (by omega)) rfl rfl hdd (Nat.le_refl _) (Nat.le_refl _) (by decide) (pm_ki (fun v102 σ' cnt' hq => ?_))
            obtain ⟨rfl, rfl, rfl⟩ := hq
            rcases KI.opt hn (show kd (14 * k14 + 114) = (2, 10, false) from (kd_P (k := k14) (c := 4) (by omega) (by omega) (by decide))) with ek103 | ⟨k103, hk103, ek103⟩
            · refine pm_top (v := (-1)) ek103 ?_
              refine pm_aloadn hG dX12_press_65 rfl ?_
              refine pm_iloadn hG dX12_press_66 rfl ?_
              refine pm_top (v := nI k4) ek4 ?_
              refine pm_bipush (v := nI 10) hG dX12_press_67 (by decide) ?_
              refine pm_callV (As := [.int (nI k4), .int (nI 10)]) (rest := [.int (-1)]) hG hR dX12_press_69 (lkX12_199 _ rfl) okV_X12_of rfl rfl (m_of (d := 2) (e := 12 * k4 + 1300) (by omega) (by omega) (by omega)) rfl rfl hdd (Nat.le_refl _) (Nat.le_refl _) (Nat.le_of_ble_eq_true rfl) (pm_ki (fun v104 σ' cnt' hq => ?_))
              obtain ⟨rfl, rfl, rfl⟩ := hq
              obtain ⟨k105, hk105, ek105⟩ := KI.nat hn (show kd (12 * k4 + 1300) = (1, 10, false) from (kd_E (k := k4) (c := 10) (by omega) (by omega) (by decide)))
              refine pm_top (v := nI k105) ek105 ?_
              refine pm_icmp_eq (tgt := 81) hG dX12_press_72 rfl (fun q => absurd q ((fun q => nI_m1 (by omega) q.symm))) (fun _ => ?_)
              refine pm_aloadn hG dX12_press_75 rfl ?_
              refine pm_iconst (v := nI 3) hG dX12_press_76 (by decide) ?_
              refine pm_callV (As := [.int (nI 3)]) (rest := []) hG hR dX12_press_77 (lkX12_80 _ rfl) okV_X12_finds rfl rfl (m_finds (d := 2) (by decide) hn hz (by omega)) rfl rfl hdd (Nat.le_refl _) (Nat.le_refl _) (by decide) (pm_ki (fun v106 σ' cnt' hq => ?_))
              obtain ⟨⟨I107, A107, rfl⟩, rfl, fv106⟩ := hq
              exact pm_iret hG hF dX12_press_80 rfl (Nat.le_refl _) (Nat.le_refl _) ⟨_, rfl, ⟨_, _, _, rfl, hn, hr, KS.rf⟩, rfl⟩
            · refine pm_top (v := nI k103) ek103 ?_
              refine pm_aloadn hG dX12_press_65 rfl ?_
              refine pm_iloadn hG dX12_press_66 rfl ?_
              refine pm_top (v := nI k4) ek4 ?_
              refine pm_bipush (v := nI 10) hG dX12_press_67 (by decide) ?_
              refine pm_callV (As := [.int (nI k4), .int (nI 10)]) (rest := [.int (nI k103)]) hG hR dX12_press_69 (lkX12_199 _ rfl) okV_X12_of rfl rfl (m_of (d := 2) (e := 12 * k4 + 1300) (by omega) (by omega) (by omega)) rfl rfl hdd (Nat.le_refl _) (Nat.le_refl _) (Nat.le_of_ble_eq_true rfl) (pm_ki (fun v108 σ' cnt' hq => ?_))
              obtain ⟨rfl, rfl, rfl⟩ := hq
              obtain ⟨k109, hk109, ek109⟩ := KI.nat hn (show kd (12 * k4 + 1300) = (1, 10, false) from (kd_E (k := k4) (c := 10) (by omega) (by omega) (by decide)))
              refine pm_top (v := nI k109) ek109 ?_
              refine pm_icmpN_eq (tgt := 81) hG dX12_press_72 rfl (by omega) (by omega) (fun c110 => ?_) (fun c110 => ?_)
              · refine pm_aloadn hG dX12_press_81 rfl ?_
                refine pm_iloadn hG dX12_press_82 rfl ?_
                refine pm_top (v := nI k8) ek8 ?_
                refine pm_iconst (v := nI 5) hG dX12_press_83 (by decide) ?_
                refine pm_callV (As := [.int (nI k8), .int (nI 5)]) (rest := []) hG hR dX12_press_84 (lkX12_110 _ rfl) okV_X12_its rfl rfl (m_its (d := 2) (e := 6 * k8 + 395) (by omega) (by omega) (by omega)) rfl rfl hdd (Nat.le_refl _) (Nat.le_refl _) (by decide) (pm_ki (fun v111 σ' cnt' hq => ?_))
                obtain ⟨rfl, rfl, rfl⟩ := hq
                refine pm_gen (fun x112 ex112 => ?_)
                refine pm_istoreXn (loc' := [some (.ref (B + 54)), some (.int za), some (.int zb), some (.int x112), none, none]) hG dX12_press_87 (by decide) (pm_c1b rfl) rfl ?_
                refine pm_iconst (v := nI 0) hG dX12_press_88 (by decide) ?_
                refine pm_istoreXi (loc' := [some (.ref (B + 54)), some (.int za), some (.int zb), some (.int x112), some (.int (nI 0)), none]) hG dX12_press_89 (by decide) (pm_c1b rfl) rfl ?_
                refine pm_iconst (v := nI 0) hG dX12_press_91 (by decide) ?_
                refine pm_istoreXi (loc' := [some (.ref (B + 54)), some (.int za), some (.int zb), some (.int x112), some (.int (nI 0)), some (.int (nI 0))]) hG dX12_press_92 (by decide) (pm_c1b rfl) rfl ?_
                have loop94_113 : ∀ (m113 : Nat) (I113 : Nat → Int32) (A113 : Nat → Nat → Int32) (n_113 : Nat → Int32) (x113_4 : Int32) (i113 : Nat), KI n_113 → KS n_113 n → NRx 40 n_113 → i113 ≤ 20 → 20 - i113 < m113 → pm_wp mX12_press G B 94 [some (.ref (B + 54)), some (.int za), some (.int zb), some (.int x112), some (.int x113_4), some (.int (nI i113))] [] 0 0 cnt (pm_mid σ (md_L B I113 A113 n_113 k z ac wt pl (nI p0) (nI t0) im)) := by
                  intro m113
                  induction m113 with
                  | zero => intro I113 A113 n_113 x113_4 i113 _ _ _ _ hm; exact absurd hm (Nat.not_lt_zero _)
                  | succ m113 ih113 =>
                    intro I113 A113 n_113 x113_4 i113 hnn_113 ksn_113 hrn_113 hi113 hm113
                    refine pm_iloadi hG dX12_press_94 rfl ?_
                    refine pm_aloadn hG dX12_press_96 rfl ?_
                    refine pm_getf hG dX12_press_97 (flX12_7 _ rfl) rfl rfl ?_
                    refine pm_iconst (v := nI 3) hG dX12_press_100 (by decide) ?_
                    refine pm_ialdN hG dX12_press_101 rfl (by decide) (by omega) ?_
                    obtain ⟨k114, hk114, ek114⟩ := KI.nat hnn_113 (show kd 3 = (1, 21, false) by decide)
                    refine pm_top (v := nI k114) ek114 ?_
                    refine pm_icmpN_ge (tgt := 159) hG dX12_press_102 rfl (by omega) (by omega) (fun c115 => ?_) (fun c115 => ?_)
                    · refine pm_aloadn hG dX12_press_159 rfl ?_
                      refine pm_aloadn hG dX12_press_160 rfl ?_
                      refine pm_iloadn hG dX12_press_161 rfl ?_
                      refine pm_top (v := nI k4) ek4 ?_
                      refine pm_bipush (v := nI 10) hG dX12_press_162 (by decide) ?_
                      refine pm_callV (As := [.int (nI k4), .int (nI 10)]) (rest := [.ref (B + 54)]) hG hR dX12_press_164 (lkX12_199 _ rfl) okV_X12_of rfl rfl (m_of (d := 2) (e := 12 * k4 + 1300) (by omega) (by omega) (by omega)) rfl rfl hdd (Nat.le_refl _) (Nat.le_refl _) (Nat.le_of_ble_eq_true rfl) (pm_ki (fun v116 σ' cnt' hq => ?_))
                      obtain ⟨rfl, rfl, rfl⟩ := hq
                      obtain ⟨k117, hk117, ek117⟩ := KI.nat hnn_113 (show kd (12 * k4 + 1300) = (1, 10, false) from (kd_E (k := k4) (c := 10) (by omega) (by omega) (by decide)))
                      refine pm_top (v := nI k117) ek117 ?_
                      refine pm_callV (As := [.int (nI k117)]) (rest := []) hG hR dX12_press_167 (lkX12_220 _ rfl) okV_X12_thoseIn rfl rfl (m_thoseIn (d := 2) (by decide) hnn_113 hz) rfl rfl hdd (Nat.le_refl _) (Nat.le_refl _) (by decide) (pm_ki (fun v118 σ' cnt' hq => ?_))
                      obtain ⟨rfl, rfl⟩ := hq
                      refine pm_iloadi hG dX12_press_170 rfl ?_
                      refine pm_iand hG dX12_press_172 ?_
                      refine pm_any (fun x120 => ?_)
                      refine pm_istoreXi (loc' := [some (.ref (B + 54)), some (.int za), some (.int zb), some (.int x112), some (.int x113_4), some (.int x120)]) hG dX12_press_173 (by decide) (pm_c1b rfl) rfl ?_
                      refine pm_aloadn hG dX12_press_175 rfl ?_
                      refine pm_iloadn hG dX12_press_176 rfl ?_
                      refine pm_top (v := nI k4) ek4 ?_
                      refine pm_bipush (v := nI 9) hG dX12_press_177 (by decide) ?_
                      refine pm_aloadn hG dX12_press_179 rfl ?_
                      refine pm_iloadn hG dX12_press_180 rfl ?_
                      refine pm_top (v := nI k4) ek4 ?_
                      refine pm_iconst (v := nI 3) hG dX12_press_181 (by decide) ?_
                      refine pm_callV (As := [.int (nI k4), .int (nI 3)]) (rest := [.int (nI 9), .int (nI k4), .ref (B + 54)]) hG hR dX12_press_182 (lkX12_199 _ rfl) okV_X12_of rfl rfl (m_of (d := 2) (e := 12 * k4 + 1293) (by omega) (by omega) (by omega)) rfl rfl hdd (Nat.le_refl _) (Nat.le_refl _) (Nat.le_of_ble_eq_true rfl) (pm_ki (fun v121 σ' cnt' hq => ?_))
                      obtain ⟨rfl, rfl, rfl⟩ := hq
                      refine pm_gen (fun x122 ex122 => ?_)
                      refine pm_if_ne (tgt := 193) hG dX12_press_185 rfl (fun c123 => ?_) (fun c123 => ?_)
                      · refine pm_aloadn hG dX12_press_193 rfl ?_
                        refine pm_iloadn hG dX12_press_194 rfl ?_
                        refine pm_top (v := nI k4) ek4 ?_
                        refine pm_bipush (v := nI 9) hG dX12_press_195 (by decide) ?_
                        refine pm_callV (As := [.int (nI k4), .int (nI 9)]) (rest := [.int (nI 9), .int (nI k4), .ref (B + 54)]) hG hR dX12_press_197 (lkX12_199 _ rfl) okV_X12_of rfl rfl (m_of (d := 2) (e := 12 * k4 + 1299) (by omega) (by omega) (by omega)) rfl rfl hdd (Nat.le_refl _) (Nat.le_refl _) (Nat.le_of_ble_eq_true rfl) (pm_ki (fun v124 σ' cnt' hq => ?_))
                        obtain ⟨rfl, rfl, rfl⟩ := hq
                        refine pm_gen (fun x125 ex125 => ?_)
                        refine pm_iloadi hG dX12_press_200 rfl ?_
                        refine pm_iand hG dX12_press_202 ?_
                        refine pm_any (fun x126 => ?_)
                        refine pm_callV (As := [.int (nI k4), .int (nI 9), .int x126]) (rest := []) hG hR dX12_press_203 (lkX12_217 _ rfl) okV_X12_writes rfl rfl (m_writes (d := 2) (e := 12 * k4 + 1299) (by omega) (by omega) (by omega)) rfl rfl hdd (Nat.le_refl _) (Nat.le_refl _) (by decide) (pm_kv (fun σ' cnt' hq => ?_))
                        obtain ⟨rfl, rfl⟩ := hq
                        obtain ⟨n_127, en_127⟩ : ∃ f : Nat → Int32, f = upd n_113 (12 * k4 + 1299) x126 := ⟨_, rfl⟩
                        rw [← en_127]
                        have hnn_127 := KI.w en_127 hnn_113 (okv_f (show kd (12 * k4 + 1299) = (0, 0, false) from (kd_E (k := k4) (c := 9) (by omega) (by omega) (by decide))))
                        have hrn_127 := NRx.w en_127 hrn_113 (by rw [(show kd (12 * k4 + 1299) = (0, 0, false) from (kd_E (k := k4) (c := 9) (by omega) (by omega) (by decide)))])
                        have ksn_127 := KS.w en_127 ksn_113 (by unfold tS; omega)
                        have e128 : n_127 3 = nI k114 := by rw [en_127, pk_un (by omega)]; exact ek114
                        have e129 : n_127 (12 * k4 + 1300) = nI k117 := by rw [en_127, pk_un (by omega)]; exact ek117
                        have e130 : n_127 (12 * k4 + 1293) = x122 := by rw [en_127, pk_un (by omega)]; exact ex122
                        have e131 : n_127 (12 * k4 + 1299) = x126 := by rw [en_127, pk_us]
                        refine pm_aloadn hG dX12_press_206 rfl ?_
                        refine pm_iloadn hG dX12_press_207 rfl ?_
                        refine pm_top (v := nI k4) ek4 ?_
                        refine pm_iconst (v := nI 3) hG dX12_press_208 (by decide) ?_
                        refine pm_aloadn hG dX12_press_209 rfl ?_
                        refine pm_iloadn hG dX12_press_210 rfl ?_
                        refine pm_top (v := nI k4) ek4 ?_
                        refine pm_iconst (v := nI 3) hG dX12_press_211 (by decide) ?_
                        refine pm_callV (As := [.int (nI k4), .int (nI 3)]) (rest := [.int (nI 3), .int (nI k4), .ref (B + 54)]) hG hR dX12_press_212 (lkX12_199 _ rfl) okV_X12_of rfl rfl (m_of (d := 2) (e := 12 * k4 + 1293) (by omega) (by omega) (by omega)) rfl rfl hdd (Nat.le_refl _) (Nat.le_refl _) (Nat.le_of_ble_eq_true rfl) (pm_ki (fun v132 σ' cnt' hq => ?_))
                        obtain ⟨rfl, rfl, rfl⟩ := hq
                        refine pm_top (v := x122) e130 ?_
                        refine pm_iconst (v := nI 1) hG dX12_press_215 (by decide) ?_
                        refine pm_iloadn hG dX12_press_216 rfl ?_
                        refine pm_ishl hG dX12_press_217 ?_
                        refine pm_any (fun x133 => ?_)
                        refine pm_ior hG dX12_press_218 ?_
                        refine pm_any (fun x134 => ?_)
                        refine pm_callV (As := [.int (nI k4), .int (nI 3), .int x134]) (rest := []) hG hR dX12_press_219 (lkX12_217 _ rfl) okV_X12_writes rfl rfl (m_writes (d := 2) (e := 12 * k4 + 1293) (by omega) (by omega) (by omega)) rfl rfl hdd (Nat.le_refl _) (Nat.le_refl _) (by decide) (pm_kv (fun σ' cnt' hq => ?_))
                        obtain ⟨rfl, rfl⟩ := hq
                        obtain ⟨n_135, en_135⟩ : ∃ f : Nat → Int32, f = upd n_127 (12 * k4 + 1293) x134 := ⟨_, rfl⟩
                        rw [← en_135]
                        have hnn_135 := KI.w en_135 hnn_127 (okv_f (show kd (12 * k4 + 1293) = (0, 0, false) from (kd_E (k := k4) (c := 3) (by omega) (by omega) (by decide))))
                        have hrn_135 := NRx.w en_135 hrn_127 (by rw [(show kd (12 * k4 + 1293) = (0, 0, false) from (kd_E (k := k4) (c := 3) (by omega) (by omega) (by decide)))])
                        have ksn_135 := KS.w en_135 ksn_127 (by unfold tS; omega)
                        have e136 : n_135 3 = nI k114 := by rw [en_135, pk_un (by omega)]; exact e128
                        have e137 : n_135 (12 * k4 + 1300) = nI k117 := by rw [en_135, pk_un (by omega)]; exact e129
                        have e138 : n_135 (12 * k4 + 1299) = x126 := by rw [en_135, pk_un (by omega)]; exact e131
                        have e139 : n_135 (12 * k4 + 1293) = x134 := by rw [en_135, pk_us]
                        refine pm_aloadn hG dX12_press_222 rfl ?_
                        refine pm_iloadn hG dX12_press_223 rfl ?_
                        refine pm_top (v := nI k4) ek4 ?_
                        refine pm_iconst (v := nI 3) hG dX12_press_224 (by decide) ?_
                        refine pm_callV (As := [.int (nI k4), .int (nI 3)]) (rest := []) hG hR dX12_press_225 (lkX12_199 _ rfl) okV_X12_of rfl rfl (m_of (d := 2) (e := 12 * k4 + 1293) (by omega) (by omega) (by omega)) rfl rfl hdd (Nat.le_refl _) (Nat.le_refl _) (by decide) (pm_ki (fun v140 σ' cnt' hq => ?_))
                        obtain ⟨rfl, rfl, rfl⟩ := hq
                        refine pm_top (v := x134) e139 ?_
                        refine pm_callS (As := [.int x134]) (rest := []) hG hR dX12_press_228 (lkX12_202 _ rfl) okS_X12_bits (m_bits (d := 2) (by decide) hnn_135 hz) rfl rfl hdd (Nat.le_refl _) (Nat.le_refl _) (by decide) (pm_ki (fun v141 σ' cnt' hq => ?_))
                        obtain ⟨rfl, rfl⟩ := hq
                        exact pm_iret hG hF dX12_press_231 rfl (Nat.le_refl _) (Nat.le_refl _) ⟨_, rfl, ⟨_, _, _, rfl, hnn_135, hrn_135, ksn_135⟩, rfl⟩
                      · refine pm_iloadi hG dX12_press_188 rfl ?_
                        refine pm_goto (tgt := 203) hG dX12_press_190 rfl ?_
                        refine pm_callV (As := [.int (nI k4), .int (nI 9), .int x120]) (rest := []) hG hR dX12_press_203 (lkX12_217 _ rfl) okV_X12_writes rfl rfl (m_writes (d := 2) (e := 12 * k4 + 1299) (by omega) (by omega) (by omega)) rfl rfl hdd (Nat.le_refl _) (Nat.le_refl _) (by decide) (pm_kv (fun σ' cnt' hq => ?_))
                        obtain ⟨rfl, rfl⟩ := hq
                        obtain ⟨n_143, en_143⟩ : ∃ f : Nat → Int32, f = upd n_113 (12 * k4 + 1299) x120 := ⟨_, rfl⟩
                        rw [← en_143]
                        have hnn_143 := KI.w en_143 hnn_113 (okv_f (show kd (12 * k4 + 1299) = (0, 0, false) from (kd_E (k := k4) (c := 9) (by omega) (by omega) (by decide))))
                        have hrn_143 := NRx.w en_143 hrn_113 (by rw [(show kd (12 * k4 + 1299) = (0, 0, false) from (kd_E (k := k4) (c := 9) (by omega) (by omega) (by decide)))])
                        have ksn_143 := KS.w en_143 ksn_113 (by unfold tS; omega)
                        have e144 : n_143 3 = nI k114 := by rw [en_143, pk_un (by omega)]; exact ek114
                        have e145 : n_143 (12 * k4 + 1300) = nI k117 := by rw [en_143, pk_un (by omega)]; exact ek117
                        have e146 : n_143 (12 * k4 + 1293) = x122 := by rw [en_143, pk_un (by omega)]; exact ex122
                        have e147 : n_143 (12 * k4 + 1299) = x120 := by rw [en_143, pk_us]
                        refine pm_aloadn hG dX12_press_206 rfl ?_
                        refine pm_iloadn hG dX12_press_207 rfl ?_
                        refine pm_top (v := nI k4) ek4 ?_
                        refine pm_iconst (v := nI 3) hG dX12_press_208 (by decide) ?_
                        refine pm_aloadn hG dX12_press_209 rfl ?_
                        refine pm_iloadn hG dX12_press_210 rfl ?_
                        refine pm_top (v := nI k4) ek4 ?_
                        refine pm_iconst (v := nI 3) hG dX12_press_211 (by decide) ?_
                        refine pm_callV (As := [.int (nI k4), .int (nI 3)]) (rest := [.int (nI 3), .int (nI k4), .ref (B + 54)]) hG hR dX12_press_212 (lkX12_199 _ rfl) okV_X12_of rfl rfl (m_of (d := 2) (e := 12 * k4 + 1293) (by omega) (by omega) (by omega)) rfl rfl hdd (Nat.le_refl _) (Nat.le_refl _) (Nat.le_of_ble_eq_true rfl) (pm_ki (fun v148 σ' cnt' hq => ?_))
                        obtain ⟨rfl, rfl, rfl⟩ := hq
                        refine pm_top (v := x122) e146 ?_
                        refine pm_iconst (v := nI 1) hG dX12_press_215 (by decide) ?_
                        refine pm_iloadn hG dX12_press_216 rfl ?_
                        refine pm_ishl hG dX12_press_217 ?_
                        refine pm_any (fun x149 => ?_)
                        refine pm_ior hG dX12_press_218 ?_
                        refine pm_any (fun x150 => ?_)
                        refine pm_callV (As := [.int (nI k4), .int (nI 3), .int x150]) (rest := []) hG hR dX12_press_219 (lkX12_217 _ rfl) okV_X12_writes rfl rfl (m_writes (d := 2) (e := 12 * k4 + 1293) (by omega) (by omega) (by omega)) rfl rfl hdd (Nat.le_refl _) (Nat.le_refl _) (by decide) (pm_kv (fun σ' cnt' hq => ?_))
                        obtain ⟨rfl, rfl⟩ := hq
                        obtain ⟨n_151, en_151⟩ : ∃ f : Nat → Int32, f = upd n_143 (12 * k4 + 1293) x150 := ⟨_, rfl⟩
                        rw [← en_151]
                        have hnn_151 := KI.w en_151 hnn_143 (okv_f (show kd (12 * k4 + 1293) = (0, 0, false) from (kd_E (k := k4) (c := 3) (by omega) (by omega) (by decide))))
                        have hrn_151 := NRx.w en_151 hrn_143 (by rw [(show kd (12 * k4 + 1293) = (0, 0, false) from (kd_E (k := k4) (c := 3) (by omega) (by omega) (by decide)))])
                        have ksn_151 := KS.w en_151 ksn_143 (by unfold tS; omega)
                        have e152 : n_151 3 = nI k114 := by rw [en_151, pk_un (by omega)]; exact e144
                        have e153 : n_151 (12 * k4 + 1300) = nI k117 := by rw [en_151, pk_un (by omega)]; exact e145
                        have e154 : n_151 (12 * k4 + 1299) = x120 := by rw [en_151, pk_un (by omega)]; exact e147
                        have e155 : n_151 (12 * k4 + 1293) = x150 := by rw [en_151, pk_us]
                        refine pm_aloadn hG dX12_press_222 rfl ?_
                        refine pm_iloadn hG dX12_press_223 rfl ?_
                        refine pm_top (v := nI k4) ek4 ?_
                        refine pm_iconst (v := nI 3) hG dX12_press_224 (by decide) ?_
                        refine pm_callV (As := [.int (nI k4), .int (nI 3)]) (rest := []) hG hR dX12_press_225 (lkX12_199 _ rfl) okV_X12_of rfl rfl (m_of (d := 2) (e := 12 * k4 + 1293) (by omega) (by omega) (by omega)) rfl rfl hdd (Nat.le_refl _) (Nat.le_refl _) (by decide) (pm_ki (fun v156 σ' cnt' hq => ?_))
                        obtain ⟨rfl, rfl, rfl⟩ := hq
                        refine pm_top (v := x150) e155 ?_
                        refine pm_callS (As := [.int x150]) (rest := []) hG hR dX12_press_228 (lkX12_202 _ rfl) okS_X12_bits (m_bits (d := 2) (by decide) hnn_151 hz) rfl rfl hdd (Nat.le_refl _) (Nat.le_refl _) (by decide) (pm_ki (fun v157 σ' cnt' hq => ?_))
                        obtain ⟨rfl, rfl⟩ := hq
                        exact pm_iret hG hF dX12_press_231 rfl (Nat.le_refl _) (Nat.le_refl _) ⟨_, rfl, ⟨_, _, _, rfl, hnn_151, hrn_151, ksn_151⟩, rfl⟩
                    · refine pm_iloadi hG dX12_press_105 rfl ?_
                      refine pm_aloadn hG dX12_press_107 rfl ?_
                      refine pm_iloadi hG dX12_press_108 rfl ?_
                      refine pm_iconst (v := nI 0) hG dX12_press_110 (by decide) ?_
                      refine pm_callV (As := [.int (nI i113), .int (nI 0)]) (rest := [.int x113_4]) hG hR dX12_press_111 (lkX12_110 _ rfl) okV_X12_its rfl rfl (m_its (d := 2) (e := 6 * i113 + 390) (by omega) (by omega) (by omega)) rfl rfl hdd (Nat.le_refl _) (Nat.le_refl _) (Nat.le_of_ble_eq_true rfl) (pm_ki (fun v159 σ' cnt' hq => ?_))
                      obtain ⟨rfl, rfl, rfl⟩ := hq
                      refine pm_gen (fun x160 ex160 => ?_)
                      refine pm_iconst (v := nI 2) hG dX12_press_114 (by decide) ?_
                      refine pm_icmp_ne (tgt := 149) hG dX12_press_115 rfl (fun c161 => ?_) (fun c161 => ?_)
                      · refine pm_iconst (v := nI 0) hG dX12_press_149 (by decide) ?_
                        refine pm_ior hG dX12_press_150 ?_
                        refine pm_any (fun x162 => ?_)
                        refine pm_istoreXi (loc' := [some (.ref (B + 54)), some (.int za), some (.int zb), some (.int x112), some (.int x162), some (.int (nI i113))]) hG dX12_press_151 (by decide) (pm_c1b rfl) rfl ?_
                        refine pm_iincX (v := nI (i113 + 1)) (loc' := [some (.ref (B + 54)), some (.int za), some (.int zb), some (.int x112), some (.int x162), some (.int (nI (i113 + 1)))]) hG dX12_press_153 rfl (nI_1 _) (by decide) (pm_c1b rfl) rfl ?_
                        refine pm_goto (tgt := 94) hG dX12_press_156 rfl ?_
                        exact ih113 I113 A113 n_113 x162 (i113 + 1) hnn_113 ksn_113 hrn_113 (by omega) (by omega)
                      · refine pm_aloadn hG dX12_press_118 rfl ?_
                        refine pm_iloadi hG dX12_press_119 rfl ?_
                        refine pm_iconst (v := nI 5) hG dX12_press_121 (by decide) ?_
                        refine pm_callV (As := [.int (nI i113), .int (nI 5)]) (rest := [.int x113_4]) hG hR dX12_press_122 (lkX12_110 _ rfl) okV_X12_its rfl rfl (m_its (d := 2) (e := 6 * i113 + 395) (by omega) (by omega) (by omega)) rfl rfl hdd (Nat.le_refl _) (Nat.le_refl _) (Nat.le_of_ble_eq_true rfl) (pm_ki (fun v163 σ' cnt' hq => ?_))
                        obtain ⟨rfl, rfl, rfl⟩ := hq
                        refine pm_gen (fun x164 ex164 => ?_)
                        refine pm_iloadn hG dX12_press_125 rfl ?_
                        refine pm_icmp_ne (tgt := 149) hG dX12_press_126 rfl (fun c165 => ?_) (fun c165 => ?_)
                        · refine pm_iconst (v := nI 0) hG dX12_press_149 (by decide) ?_
                          refine pm_ior hG dX12_press_150 ?_
                          refine pm_any (fun x166 => ?_)
                          refine pm_istoreXi (loc' := [some (.ref (B + 54)), some (.int za), some (.int zb), some (.int x112), some (.int x166), some (.int (nI i113))]) hG dX12_press_151 (by decide) (pm_c1b rfl) rfl ?_
                          refine pm_iincX (v := nI (i113 + 1)) (loc' := [some (.ref (B + 54)), some (.int za), some (.int zb), some (.int x112), some (.int x166), some (.int (nI (i113 + 1)))]) hG dX12_press_153 rfl (nI_1 _) (by decide) (pm_c1b rfl) rfl ?_
                          refine pm_goto (tgt := 94) hG dX12_press_156 rfl ?_
                          exact ih113 I113 A113 n_113 x166 (i113 + 1) hnn_113 ksn_113 hrn_113 (by omega) (by omega)
                        · refine pm_aloadn hG dX12_press_129 rfl ?_
                          refine pm_iloadi hG dX12_press_130 rfl ?_
                          rcases KI.opt hnn_113 (show kd (6 * i113 + 392) = (2, 20, false) from (kd_W (k := i113) (c := 2) (by omega) (by omega) (by decide))) with ek167 | ⟨k167, hk167, ek167⟩
                          · rcases KI.opt hnn_113 (show kd (6 * i113 + 391) = (2, 20, false) from (kd_W (k := i113) (c := 1) (by omega) (by omega) (by decide))) with ek168 | ⟨k168, hk168, ek168⟩
                            · refine pm_callV (As := [.int (nI i113)]) (rest := [.int x113_4]) hG hR dX12_press_132 (lkX12_139 _ rfl) okV_X12_whoHas rfl rfl (m_whoHas0 (d := 2) (e := 6 * i113 + 392) (e2 := 6 * i113 + 391) (by decide) (by omega) (by omega) (by omega) ek167 ek168) rfl rfl hdd (Nat.le_refl _) (Nat.le_refl _) (Nat.le_of_ble_eq_true rfl) (pm_ki (fun v169 σ' cnt' hq => ?_))
                              obtain ⟨rfl, rfl, rfl⟩ := hq
                              refine pm_if_lt (tgt := 149) hG dX12_press_135 rfl (fun _ => ?_) (fun q => absurd q (by decide))
                              refine pm_iconst (v := nI 0) hG dX12_press_149 (by decide) ?_
                              refine pm_ior hG dX12_press_150 ?_
                              refine pm_any (fun x170 => ?_)
                              refine pm_istoreXi (loc' := [some (.ref (B + 54)), some (.int za), some (.int zb), some (.int x112), some (.int x170), some (.int (nI i113))]) hG dX12_press_151 (by decide) (pm_c1b rfl) rfl ?_
                              refine pm_iincX (v := nI (i113 + 1)) (loc' := [some (.ref (B + 54)), some (.int za), some (.int zb), some (.int x112), some (.int x170), some (.int (nI (i113 + 1)))]) hG dX12_press_153 rfl (nI_1 _) (by decide) (pm_c1b rfl) rfl ?_
                              refine pm_goto (tgt := 94) hG dX12_press_156 rfl ?_
                              exact ih113 I113 A113 n_113 x170 (i113 + 1) hnn_113 ksn_113 hrn_113 (by omega) (by omega)
                            · refine pm_callV (As := [.int (nI i113)]) (rest := [.int x113_4]) hG hR dX12_press_132 (lkX12_139 _ rfl) okV_X12_whoHas rfl rfl (m_whoHas0 (d := 2) (e := 6 * i113 + 392) (e2 := 6 * i113 + 391) (by decide) (by omega) (by omega) (by omega) ek167 ek168) rfl rfl hdd (Nat.le_refl _) (Nat.le_refl _) (Nat.le_of_ble_eq_true rfl) (pm_ki (fun v171 σ' cnt' hq => ?_))
                              obtain ⟨rfl, rfl, rfl⟩ := hq
                              refine pm_ifN_lt hG dX12_press_135 rfl (by omega) ?_
                              refine pm_iconst (v := nI 1) hG dX12_press_138 (by decide) ?_
                              refine pm_aloadn hG dX12_press_139 rfl ?_
                              refine pm_iloadi hG dX12_press_140 rfl ?_
                              refine pm_callV (As := [.int (nI i113)]) (rest := [.int (nI 1), .int x113_4]) hG hR dX12_press_142 (lkX12_139 _ rfl) okV_X12_whoHas rfl rfl (m_whoHas0 (d := 2) (e := 6 * i113 + 392) (e2 := 6 * i113 + 391) (by decide) (by omega) (by omega) (by omega) ek167 ek168) rfl rfl hdd (Nat.le_refl _) (Nat.le_refl _) (Nat.le_of_ble_eq_true rfl) (pm_ki (fun v172 σ' cnt' hq => ?_))
                              obtain ⟨rfl, rfl, rfl⟩ := hq
                              refine pm_ishl hG dX12_press_145 ?_
                              refine pm_any (fun x173 => ?_)
                              refine pm_goto (tgt := 150) hG dX12_press_146 rfl ?_
                              refine pm_ior hG dX12_press_150 ?_
                              refine pm_any (fun x174 => ?_)
                              refine pm_istoreXi (loc' := [some (.ref (B + 54)), some (.int za), some (.int zb), some (.int x112), some (.int x174), some (.int (nI i113))]) hG dX12_press_151 (by decide) (pm_c1b rfl) rfl ?_
                              refine pm_iincX (v := nI (i113 + 1)) (loc' := [some (.ref (B + 54)), some (.int za), some (.int zb), some (.int x112), some (.int x174), some (.int (nI (i113 + 1)))]) hG dX12_press_153 rfl (nI_1 _) (by decide) (pm_c1b rfl) rfl ?_
                              refine pm_goto (tgt := 94) hG dX12_press_156 rfl ?_
                              exact ih113 I113 A113 n_113 x174 (i113 + 1) hnn_113 ksn_113 hrn_113 (by omega) (by omega)
                          · refine pm_callV (As := [.int (nI i113)]) (rest := [.int x113_4]) hG hR dX12_press_132 (lkX12_139 _ rfl) okV_X12_whoHas rfl rfl (m_whoHas1 (d := 2) (e := 6 * i113 + 392) (by decide) (by omega) (by omega) ek167 (by omega)) rfl rfl hdd (Nat.le_refl _) (Nat.le_refl _) (Nat.le_of_ble_eq_true rfl) (pm_ki (fun v175 σ' cnt' hq => ?_))
                            obtain ⟨rfl, rfl, rfl⟩ := hq
                            refine pm_ifN_lt hG dX12_press_135 rfl (by omega) ?_
                            refine pm_iconst (v := nI 1) hG dX12_press_138 (by decide) ?_
                            refine pm_aloadn hG dX12_press_139 rfl ?_
                            refine pm_iloadi hG dX12_press_140 rfl ?_
                            refine pm_callV (As := [.int (nI i113)]) (rest := [.int (nI 1), .int x113_4]) hG hR dX12_press_142 (lkX12_139 _ rfl) okV_X12_whoHas rfl rfl (m_whoHas1 (d := 2) (e := 6 * i113 + 392) (by decide) (by omega) (by omega) ek167 (by omega)) rfl rfl hdd (Nat.le_refl _) (Nat.le_refl _) (Nat.le_of_ble_eq_true rfl) (pm_ki (fun v176 σ' cnt' hq => ?_))
                            obtain ⟨rfl, rfl, rfl⟩ := hq
                            refine pm_ishl hG dX12_press_145 ?_
                            refine pm_any (fun x177 => ?_)
                            refine pm_goto (tgt := 150) hG dX12_press_146 rfl ?_
                            refine pm_ior hG dX12_press_150 ?_
                            refine pm_any (fun x178 => ?_)
                            refine pm_istoreXi (loc' := [some (.ref (B + 54)), some (.int za), some (.int zb), some (.int x112), some (.int x178), some (.int (nI i113))]) hG dX12_press_151 (by decide) (pm_c1b rfl) rfl ?_
                            refine pm_iincX (v := nI (i113 + 1)) (loc' := [some (.ref (B + 54)), some (.int za), some (.int zb), some (.int x112), some (.int x178), some (.int (nI (i113 + 1)))]) hG dX12_press_153 rfl (nI_1 _) (by decide) (pm_c1b rfl) rfl ?_
                            refine pm_goto (tgt := 94) hG dX12_press_156 rfl ?_
                            exact ih113 I113 A113 n_113 x178 (i113 + 1) hnn_113 ksn_113 hrn_113 (by omega) (by omega)
                exact loop94_113 _ I A n (nI 0) 0 hn KS.rf hr (by omega) (Nat.lt_succ_self _)
              · refine pm_aloadn hG dX12_press_75 rfl ?_
                refine pm_iconst (v := nI 3) hG dX12_press_76 (by decide) ?_
                refine pm_callV (As := [.int (nI 3)]) (rest := []) hG hR dX12_press_77 (lkX12_80 _ rfl) okV_X12_finds rfl rfl (m_finds (d := 2) (by decide) hn hz (by omega)) rfl rfl hdd (Nat.le_refl _) (Nat.le_refl _) (by decide) (pm_ki (fun v179 σ' cnt' hq => ?_))
                obtain ⟨⟨I180, A180, rfl⟩, rfl, fv179⟩ := hq
                exact pm_iret hG hF dX12_press_80 rfl (Nat.le_refl _) (Nat.le_refl _) ⟨_, rfl, ⟨_, _, _, rfl, hn, hr, KS.rf⟩, rfl⟩
        · refine pm_top (v := nI k13) ek13 ?_
          refine pm_ifN_ge (tgt := 75) hG dX12_press_44 rfl (by omega) ?_
          refine pm_aloadn hG dX12_press_75 rfl ?_
          refine pm_iconst (v := nI 3) hG dX12_press_76 (by decide) ?_
          refine pm_callV (As := [.int (nI 3)]) (rest := []) hG hR dX12_press_77 (lkX12_80 _ rfl) okV_X12_finds rfl rfl (m_finds (d := 2) (by decide) hn hz (by omega)) rfl rfl hdd (Nat.le_refl _) (Nat.le_refl _) (by decide) (pm_ki (fun v181 σ' cnt' hq => ?_))
          obtain ⟨⟨I182, A182, rfl⟩, rfl, fv181⟩ := hq
          exact pm_iret hG hF dX12_press_80 rfl (Nat.le_refl _) (Nat.le_refl _) ⟨_, rfl, ⟨_, _, _, rfl, hn, hr, KS.rf⟩, rfl⟩
      · refine pm_aloadn hG dX12_press_32 rfl ?_
        refine pm_iconst (v := nI 5) hG dX12_press_33 (by decide) ?_
        refine pm_callV (As := [.int (nI 5)]) (rest := []) hG hR dX12_press_34 (lkX12_80 _ rfl) okV_X12_finds rfl rfl (m_finds (d := 2) (by decide) hn hz (by omega)) rfl rfl hdd (Nat.le_refl _) (Nat.le_refl _) (by decide) (pm_ki (fun v183 σ' cnt' hq => ?_))
        obtain ⟨⟨I184, A184, rfl⟩, rfl, fv183⟩ := hq
        exact pm_iret hG hF dX12_press_37 rfl (Nat.le_refl _) (Nat.le_refl _) ⟨_, rfl, ⟨_, _, _, rfl, hn, hr, KS.rf⟩, rfl⟩
    · refine pm_ifN_ne (tgt := 22) hG dX12_press_13 rfl (by omega) (fun q => absurd q (by omega)) (fun _ => ?_)
      refine pm_aloadn hG dX12_press_16 rfl ?_
      refine pm_iconst (v := nI 1) hG dX12_press_17 (by decide) ?_
      refine pm_callV (As := [.int (nI 1)]) (rest := []) hG hR dX12_press_18 (lkX12_80 _ rfl) okV_X12_finds rfl rfl (m_finds (d := 2) (by decide) hn hz (by omega)) rfl rfl hdd (Nat.le_refl _) (Nat.le_refl _) (by decide) (pm_ki (fun v185 σ' cnt' hq => ?_))
      obtain ⟨⟨I186, A186, rfl⟩, rfl, fv185⟩ := hq
      exact pm_iret hG hF dX12_press_21 rfl (Nat.le_refl _) (Nat.le_refl _) ⟨_, rfl, ⟨_, _, _, rfl, hn, hr, KS.rf⟩, rfl⟩
  · refine pm_ifN_eq (tgt := 16) hG dX12_press_5 rfl (by omega) (fun _ => ?_) (fun q => absurd q (by omega))
    refine pm_aloadn hG dX12_press_16 rfl ?_
    refine pm_iconst (v := nI 1) hG dX12_press_17 (by decide) ?_
    refine pm_callV (As := [.int (nI 1)]) (rest := []) hG hR dX12_press_18 (lkX12_80 _ rfl) okV_X12_finds rfl rfl (m_finds (d := 2) (by decide) hn hz (by omega)) rfl rfl hdd (Nat.le_refl _) (Nat.le_refl _) (by decide) (pm_ki (fun v187 σ' cnt' hq => ?_))
    obtain ⟨⟨I188, A188, rfl⟩, rfl, fv187⟩ := hq
    exact pm_iret hG hF dX12_press_21 rfl (Nat.le_refl _) (Nat.le_refl _) ⟨_, rfl, ⟨_, _, _, rfl, hn, hr, KS.rf⟩, rfl⟩
