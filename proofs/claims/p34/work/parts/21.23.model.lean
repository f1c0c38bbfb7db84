set_option maxRecDepth 100000 in
set_option maxHeartbeats 4000000 in
theorem m_press {d B cnt p0 t0 : Nat} {σ : pm_S} {I : Nat → Int32} {A : Nat → Nat → Int32} {n k z : Nat → Int32} {ac wt pl im : Int32} {za zb : Int32} (hdd : 3 ≤ d) (hn : KI n) (hr : NR n) (hz : SZ z)  : pm_met mX12_press d 0 0 B [.ref (B + 54), .int za, .int zb] cnt (pm_mid σ (md_L B I A n k z ac wt pl (nI p0) (nI t0) im)) (pm_Qi (fun v σ' cnt' => (∃ (I' : Nat → Int32) (A' : Nat → Nat → Int32) (n' : Nat → Int32), σ' = pm_mid σ (md_L B I' A' n' k z ac wt pl (nI p0) (nI t0) im) ∧ KI n' ∧ NR n' ∧ n' 0 = n 0 ∧ n' 2 = n 2 ∧ n' 8 = n 8 ∧ KS n' n) ∧ cnt = cnt')) := by
  obtain ⟨kc0, hkc0, ekc0⟩ := KI.nat hn (show kd 0 = (1, 11, true) by decide)
  obtain ⟨kc2, hkc2, ekc2⟩ := KI.nat hn (show kd 2 = (1, 21, true) by decide)
  obtain ⟨kc8, hkc8, ekc8⟩ := KI.nat hn (show kd 8 = (1, 2001, false) by decide)
  refine pm_enter 3 (by decide) (Nat.le_of_ble_eq_true rfl) rfl (fun G hG hR hF => ?_)
  refine pm_aloadn hG dX12_press_0 rfl ?_
  refine pm_iloadn hG dX12_press_1 rfl ?_
  obtain ⟨k1, hk1, ek1⟩ := KI.nat hn (show kd 5 = (1, 41, true) by decide)
  refine pm_callV (As := [.int za]) (rest := []) hG hR dX12_press_2 (lkX12_211 _ rfl) okV_X12_isLetter rfl rfl (m_isLetter (d := 2) (by decide) ek1 (by omega)) rfl rfl hdd (Nat.le_refl _) (Nat.le_refl _) (by decide) (pm_ki (fun v2 σ' cnt' hq => ?_))
  obtain ⟨hq, rfl, rfl⟩ := hq
  rcases hq with ⟨rfl, k4, hk4, ek4⟩ | rfl
  · refine pm_ifN_eq (tgt := 16) hG dX12_press_5 rfl (by omega) (fun q => absurd q (by omega)) (fun _ => ?_)
    refine pm_aloadn hG dX12_press_8 rfl ?_
    refine pm_iloadn hG dX12_press_9 rfl ?_
    obtain ⟨k5, hk5, ek5⟩ := KI.nat hn (show kd 3 = (1, 21, false) by decide)
    refine pm_callV (As := [.int zb]) (rest := []) hG hR dX12_press_10 (lkX12_132 _ rfl) okV_X12_isPower rfl rfl (m_isPower (d := 2) (by decide) ek5 (by omega)) rfl rfl hdd (Nat.le_refl _) (Nat.le_refl _) (by decide) (pm_ki (fun v6 σ' cnt' hq => ?_))
    obtain ⟨hq, rfl, rfl⟩ := hq
    rcases hq with ⟨rfl, k8, hk8, ek8⟩ | rfl
    · refine pm_ifN_ne (tgt := 22) hG dX12_press_13 rfl (by omega) (fun _ => ?_) (fun q => absurd q (by omega))
      refine pm_aloadn hG dX12_press_22 rfl ?_
      refine pm_iloadn hG dX12_press_23 rfl ?_
      refine pm_top (v := nI k8) ek8 ?_
      refine pm_iconst (v := nI 0) hG dX12_press_24 (by decide) ?_
      refine pm_callV (As := [.int (nI k8), .int (nI 0)]) (rest := []) hG hR dX12_press_25 (lkX12_110 _ rfl) okV_X12_its rfl rfl (m_its (d := 2) (e := 6 * k8 + 390) (by omega) (by omega) (by omega)) rfl rfl hdd (Nat.le_refl _) (Nat.le_refl _) (by decide) (pm_ki (fun v9 σ' cnt' hq => ?_))
      obtain ⟨rfl, rfl, rfl⟩ := hq
      refine pm_gen (fun x10 ex10 => ?_)
      refine pm_iconst (v := nI 2) hG dX12_press_28 (by decide) ?_
      refine pm_icmp_eq (tgt := 38) hG dX12_press_29 rfl (fun c11 => ?_) (fun c11 => ?_)
      · refine pm_aloadn hG dX12_press_38 rfl ?_
        refine pm_iloadn hG dX12_press_39 rfl ?_
        refine pm_top (v := nI k4) ek4 ?_
        refine pm_iconst (v := nI 4) hG dX12_press_40 (by decide) ?_
        refine pm_callV (As := [.int (nI k4), .int (nI 4)]) (rest := []) hG hR dX12_press_41 (lkX12_199 _ rfl) okV_X12_of rfl rfl (m_of (d := 2) (e := 12 * k4 + 1294) (by omega) (by omega) (by omega)) rfl rfl hdd (Nat.le_refl _) (Nat.le_refl _) (by decide) (pm_ki (fun v12 σ' cnt' hq => ?_))
        obtain ⟨rfl, rfl, rfl⟩ := hq
        rcases KI.opt hn (show kd (12 * k4 + 1294) = (2, 20, true) from (kd_E (k := k4) (c := 4) (by omega) (by omega) (by decide))) with ek13 | ⟨k13, hk13, ek13⟩
        · refine pm_top (v := (-1)) ek13 ?_
          refine pm_if_ge (tgt := 75) hG dX12_press_44 rfl (fun q => absurd q (by decide)) (fun _ => ?_)
          refine pm_aloadn hG dX12_press_47 rfl ?_
          refine pm_iloadn hG dX12_press_48 rfl ?_
          refine pm_top (v := nI k8) ek8 ?_
          rcases KI.opt hn (show kd (6 * k8 + 392) = (2, 20, false) from (kd_W (k := k8) (c := 2) (by omega) (by omega) (by decide))) with ek14 | ⟨k14, hk14, ek14⟩
          · rcases KI.opt hn (show kd (6 * k8 + 391) = (2, 20, false) from (kd_W (k := k8) (c := 1) (by omega) (by omega) (by decide))) with ek15 | ⟨k15, hk15, ek15⟩
            · refine pm_callV (As := [.int (nI k8)]) (rest := []) hG hR dX12_press_49 (lkX12_139 _ rfl) okV_X12_whoHas rfl rfl (m_whoHas0 (d := 2) (e := 6 * k8 + 392) (e2 := 6 * k8 + 391) (by decide) (by omega) (by omega) (by omega) ek14 ek15) rfl rfl hdd (Nat.le_refl _) (Nat.le_refl _) (by decide) (pm_ki (fun v16 σ' cnt' hq => ?_))
              obtain ⟨rfl, rfl, rfl⟩ := hq
              refine pm_if_lt (tgt := 75) hG dX12_press_52 rfl (fun _ => ?_) (fun q => absurd q (by decide))
              refine pm_aloadn hG dX12_press_75 rfl ?_
              refine pm_iconst (v := nI 3) hG dX12_press_76 (by decide) ?_
              refine pm_callV (As := [.int (nI 3)]) (rest := []) hG hR dX12_press_77 (lkX12_80 _ rfl) okV_X12_finds rfl rfl (m_finds (d := 2) (by decide) hn hz (by omega)) rfl rfl hdd (Nat.le_refl _) (Nat.le_refl _) (by decide) (pm_ki (fun v17 σ' cnt' hq => ?_))
              obtain ⟨⟨I18, A18, rfl⟩, rfl, fv17⟩ := hq
              exact pm_iret hG hF dX12_press_80 rfl (Nat.le_refl _) (Nat.le_refl _) ⟨_, rfl, ⟨_, _, _, rfl, hn, hr, ekc0.trans ekc0.symm, ekc2.trans ekc2.symm, ekc8.trans ekc8.symm, KS.rf⟩, rfl⟩
            · refine pm_callV (As := [.int (nI k8)]) (rest := []) hG hR dX12_press_49 (lkX12_139 _ rfl) okV_X12_whoHas rfl rfl (m_whoHas0 (d := 2) (e := 6 * k8 + 392) (e2 := 6 * k8 + 391) (by decide) (by omega) (by omega) (by omega) ek14 ek15) rfl rfl hdd (Nat.le_refl _) (Nat.le_refl _) (by decide) (pm_ki (fun v19 σ' cnt' hq => ?_))
              obtain ⟨rfl, rfl, rfl⟩ := hq
              refine pm_ifN_lt hG dX12_press_52 rfl (by omega) ?_
              refine pm_aloadn hG dX12_press_55 rfl ?_
              refine pm_aloadn hG dX12_press_56 rfl ?_
              refine pm_iloadn hG dX12_press_57 rfl ?_
              refine pm_top (v := nI k8) ek8 ?_
              refine pm_callV (As := [.int (nI k8)]) (rest := [.ref (B + 54)]) hG hR dX12_press_58 (lkX12_139 _ rfl) okV_X12_whoHas rfl rfl (m_whoHas0 (d := 2) (e := 6 * k8 + 392) (e2 := 6 * k8 + 391) (by decide) (by omega) (by omega) (by omega) ek14 ek15) rfl rfl hdd (Nat.le_refl _) (Nat.le_refl _) (Nat.le_of_ble_eq_true rfl) (pm_ki (fun v20 σ' cnt' hq => ?_))
              obtain ⟨rfl, rfl, rfl⟩ := hq
              refine pm_iconst (v := nI 4) hG dX12_press_61 (by decide) ?_
              refine pm_callV (As := [.int (nI k15), .int (nI 4)]) (rest := []) hG hR dX12_press_62 (lkX12_72 _ rfl) okV_X12_man rfl rfl (m_man (d := 2) (e := 14 * k15 + 114) (by omega) (by omega) (by omega)) rfl rfl hdd (Nat.le_refl _) (Nat.le_refl _) (by decide) (pm_ki (fun v21 σ' cnt' hq => ?_))
              obtain ⟨rfl, rfl, rfl⟩ := hq
              rcases KI.opt hn (show kd (14 * k15 + 114) = (2, 10, false) from (kd_P (k := k15) (c := 4) (by omega) (by omega) (by decide))) with ek22 | ⟨k22, hk22, ek22⟩
              · refine pm_top (v := (-1)) ek22 ?_
                refine pm_aloadn hG dX12_press_65 rfl ?_
                refine pm_iloadn hG dX12_press_66 rfl ?_
                refine pm_top (v := nI k4) ek4 ?_
                refine pm_bipush (v := nI 10) hG dX12_press_67 (by decide) ?_
                refine pm_callV (As := [.int (nI k4), .int (nI 10)]) (rest := [.int (-1)]) hG hR dX12_press_69 (lkX12_199 _ rfl) okV_X12_of rfl rfl (m_of (d := 2) (e := 12 * k4 + 1300) (by omega) (by omega) (by omega)) rfl rfl hdd (Nat.le_refl _) (Nat.le_refl _) (Nat.le_of_ble_eq_true rfl) (pm_ki (fun v23 σ' cnt' hq => ?_))
                obtain ⟨rfl, rfl, rfl⟩ := hq
                obtain ⟨k24, hk24, ek24⟩ := KI.nat hn (show kd (12 * k4 + 1300) = (1, 10, false) from (kd_E (k := k4) (c := 10) (by omega) (by omega) (by decide)))
                refine pm_top (v := nI k24) ek24 ?_
                refine pm_icmp_eq (tgt := 81) hG dX12_press_72 rfl (fun q => absurd q ((fun q => nI_m1 (by omega) q.symm))) (fun _ => ?_)
                refine pm_aloadn hG dX12_press_75 rfl ?_
                refine pm_iconst (v := nI 3) hG dX12_press_76 (by decide) ?_
                refine pm_callV (As := [.int (nI 3)]) (rest := []) hG hR dX12_press_77 (lkX12_80 _ rfl) okV_X12_finds rfl rfl (m_finds (d := 2) (by decide) hn hz (by omega)) rfl rfl hdd (Nat.le_refl _) (Nat.le_refl _) (by decide) (pm_ki (fun v25 σ' cnt' hq => ?_))
                obtain ⟨⟨I26, A26, rfl⟩, rfl, fv25⟩ := hq
                exact pm_iret hG hF dX12_press_80 rfl (Nat.le_refl _) (Nat.le_refl _) ⟨_, rfl, ⟨_, _, _, rfl, hn, hr, ekc0.trans ekc0.symm, ekc2.trans ekc2.symm, ekc8.trans ekc8.symm, KS.rf⟩, rfl⟩
              · refine pm_top (v := nI k22) ek22 ?_
                refine pm_aloadn hG dX12_press_65 rfl ?_
                refine pm_iloadn hG dX12_press_66 rfl ?_
                refine pm_top (v := nI k4) ek4 ?_
                refine pm_bipush (v := nI 10) hG dX12_press_67 (by decide) ?_
                refine pm_callV (As := [.int (nI k4), .int (nI 10)]) (rest := [.int (nI k22)]) hG hR dX12_press_69 (lkX12_199 _ rfl) okV_X12_of rfl rfl (m_of (d := 2) (e := 12 * k4 + 1300) (by omega) (by omega) (by omega)) rfl rfl hdd (Nat.le_refl _) (Nat.le_refl _) (Nat.le_of_ble_eq_true rfl) (pm_ki (fun v27 σ' cnt' hq => ?_))
                obtain ⟨rfl, rfl, rfl⟩ := hq
                obtain ⟨k28, hk28, ek28⟩ := KI.nat hn (show kd (12 * k4 + 1300) = (1, 10, false) from (kd_E (k := k4) (c := 10) (by omega) (by omega) (by decide)))
                refine pm_top (v := nI k28) ek28 ?_
                refine pm_icmpN_eq (tgt := 81) hG dX12_press_72 rfl (by omega) (by omega) (fun c29 => ?_) (fun c29 => ?_)
                · refine pm_aloadn hG dX12_press_81 rfl ?_
                  refine pm_iloadn hG dX12_press_82 rfl ?_
                  refine pm_top (v := nI k8) ek8 ?_
                  refine pm_iconst (v := nI 5) hG dX12_press_83 (by decide) ?_
                  refine pm_callV (As := [.int (nI k8), .int (nI 5)]) (rest := []) hG hR dX12_press_84 (lkX12_110 _ rfl) okV_X12_its rfl rfl (m_its (d := 2) (e := 6 * k8 + 395) (by omega) (by omega) (by omega)) rfl rfl hdd (Nat.le_refl _) (Nat.le_refl _) (by decide) (pm_ki (fun v30 σ' cnt' hq => ?_))
                  obtain ⟨rfl, rfl, rfl⟩ := hq
                  refine pm_gen (fun x31 ex31 => ?_)
                  refine pm_istoreXn (loc' := [some (.ref (B + 54)), some (.int za), some (.int zb), some (.int x31), none, none]) hG dX12_press_87 (by decide) (pm_c1b rfl) rfl ?_
                  refine pm_iconst (v := nI 0) hG dX12_press_88 (by decide) ?_
                  refine pm_istoreXi (loc' := [some (.ref (B + 54)), some (.int za), some (.int zb), some (.int x31), some (.int (nI 0)), none]) hG dX12_press_89 (by decide) (pm_c1b rfl) rfl ?_
                  refine pm_iconst (v := nI 0) hG dX12_press_91 (by decide) ?_
                  refine pm_istoreXi (loc' := [some (.ref (B + 54)), some (.int za), some (.int zb), some (.int x31), some (.int (nI 0)), some (.int (nI 0))]) hG dX12_press_92 (by decide) (pm_c1b rfl) rfl ?_
                  have loop94_32 : ∀ (m32 : Nat) (I32 : Nat → Int32) (A32 : Nat → Nat → Int32) (n_32 : Nat → Int32) (x32_4 : Int32) (i32 : Nat), KI n_32 → KS n_32 n → NRx 40 n_32 → n_32 0 = nI kc0 → n_32 2 = nI kc2 → n_32 8 = nI kc8 → i32 ≤ 20 → 20 - i32 < m32 → pm_wp mX12_press G B 94 [some (.ref (B + 54)), some (.int za), some (.int zb), some (.int x31), some (.int x32_4), some (.int (nI i32))] [] 0 0 cnt (pm_mid σ (md_L B I32 A32 n_32 k z ac wt pl (nI p0) (nI t0) im)) := by
                    intro m32
                    induction m32 with
                    | zero => intro I32 A32 n_32 x32_4 i32 _ _ _ _ _ _ _ hm; exact absurd hm (Nat.not_lt_zero _)
                    | succ m32 ih32 =>
                      intro I32 A32 n_32 x32_4 i32 hnn_32 ksn_32 hrn_32 kc32_0 kc32_2 kc32_8 hi32 hm32
                      refine pm_iloadi hG dX12_press_94 rfl ?_
                      refine pm_aloadn hG dX12_press_96 rfl ?_
                      refine pm_getf hG dX12_press_97 (flX12_7 _ rfl) rfl rfl ?_
                      refine pm_iconst (v := nI 3) hG dX12_press_100 (by decide) ?_
                      refine pm_ialdN hG dX12_press_101 rfl (by decide) (by omega) ?_
                      obtain ⟨k33, hk33, ek33⟩ := KI.nat hnn_32 (show kd 3 = (1, 21, false) by decide)
                      refine pm_top (v := nI k33) ek33 ?_
                      refine pm_icmpN_ge (tgt := 159) hG dX12_press_102 rfl (by omega) (by omega) (fun c34 => ?_) (fun c34 => ?_)
                      · refine pm_aloadn hG dX12_press_159 rfl ?_
                        refine pm_aloadn hG dX12_press_160 rfl ?_
                        refine pm_iloadn hG dX12_press_161 rfl ?_
                        refine pm_top (v := nI k4) ek4 ?_
                        refine pm_bipush (v := nI 10) hG dX12_press_162 (by decide) ?_
                        refine pm_callV (As := [.int (nI k4), .int (nI 10)]) (rest := [.ref (B + 54)]) hG hR dX12_press_164 (lkX12_199 _ rfl) okV_X12_of rfl rfl (m_of (d := 2) (e := 12 * k4 + 1300) (by omega) (by omega) (by omega)) rfl rfl hdd (Nat.le_refl _) (Nat.le_refl _) (Nat.le_of_ble_eq_true rfl) (pm_ki (fun v35 σ' cnt' hq => ?_))
                        obtain ⟨rfl, rfl, rfl⟩ := hq
                        obtain ⟨k36, hk36, ek36⟩ := KI.nat hnn_32 (show kd (12 * k4 + 1300) = (1, 10, false) from (kd_E (k := k4) (c := 10) (by omega) (by omega) (by decide)))
                        refine pm_top (v := nI k36) ek36 ?_
                        refine pm_callV (As := [.int (nI k36)]) (rest := []) hG hR dX12_press_167 (lkX12_220 _ rfl) okV_X12_thoseIn rfl rfl (m_thoseIn (d := 2) (by decide) hnn_32 hz) rfl rfl hdd (Nat.le_refl _) (Nat.le_refl _) (by decide) (pm_ki (fun v37 σ' cnt' hq => ?_))
                        obtain ⟨rfl, rfl⟩ := hq
                        refine pm_iloadi hG dX12_press_170 rfl ?_
                        refine pm_iand hG dX12_press_172 ?_
                        refine pm_any (fun x39 => ?_)
                        refine pm_istoreXi (loc' := [some (.ref (B + 54)), some (.int za), some (.int zb), some (.int x31), some (.int x32_4), some (.int x39)]) hG dX12_press_173 (by decide) (pm_c1b rfl) rfl ?_
                        refine pm_aloadn hG dX12_press_175 rfl ?_
                        refine pm_iloadn hG dX12_press_176 rfl ?_
                        refine pm_top (v := nI k4) ek4 ?_
                        refine pm_bipush (v := nI 9) hG dX12_press_177 (by decide) ?_
                        refine pm_aloadn hG dX12_press_179 rfl ?_
                        refine pm_iloadn hG dX12_press_180 rfl ?_
                        refine pm_top (v := nI k4) ek4 ?_
                        refine pm_iconst (v := nI 3) hG dX12_press_181 (by decide) ?_
                        refine pm_callV (As := [.int (nI k4), .int (nI 3)]) (rest := [.int (nI 9), .int (nI k4), .ref (B + 54)]) hG hR dX12_press_182 (lkX12_199 _ rfl) okV_X12_of rfl rfl (m_of (d := 2) (e := 12 * k4 + 1293) (by omega) (by omega) (by omega)) rfl rfl hdd (Nat.le_refl _) (Nat.le_refl _) (Nat.le_of_ble_eq_true rfl) (pm_ki (fun v40 σ' cnt' hq => ?_))
                        obtain ⟨rfl, rfl, rfl⟩ := hq
                        refine pm_gen (fun x41 ex41 => ?_)
                        refine pm_if_ne (tgt := 193) hG dX12_press_185 rfl (fun c42 => ?_) (fun c42 => ?_)
                        · refine pm_aloadn hG dX12_press_193 rfl ?_
                          refine pm_iloadn hG dX12_press_194 rfl ?_
                          refine pm_top (v := nI k4) ek4 ?_
                          refine pm_bipush (v := nI 9) hG dX12_press_195 (by decide) ?_
                          refine pm_callV (As := [.int (nI k4), .int (nI 9)]) (rest := [.int (nI 9), .int (nI k4), .ref (B + 54)]) hG hR dX12_press_197 (lkX12_199 _ rfl) okV_X12_of rfl rfl (m_of (d := 2) (e := 12 * k4 + 1299) (by omega) (by omega) (by omega)) rfl rfl hdd (Nat.le_refl _) (Nat.le_refl _) (Nat.le_of_ble_eq_true rfl) (pm_ki (fun v43 σ' cnt' hq => ?_))
                          obtain ⟨rfl, rfl, rfl⟩ := hq
                          refine pm_gen (fun x44 ex44 => ?_)
                          refine pm_iloadi hG dX12_press_200 rfl ?_
                          refine pm_iand hG dX12_press_202 ?_
                          refine pm_any (fun x45 => ?_)
                          refine pm_callV (As := [.int (nI k4), .int (nI 9), .int x45]) (rest := []) hG hR dX12_press_203 (lkX12_217 _ rfl) okV_X12_writes rfl rfl (m_writes (d := 2) (e := 12 * k4 + 1299) (by omega) (by omega) (by omega)) rfl rfl hdd (Nat.le_refl _) (Nat.le_refl _) (by decide) (pm_kv (fun σ' cnt' hq => ?_))
                          obtain ⟨rfl, rfl⟩ := hq
                          obtain ⟨n_46, en_46⟩ : ∃ f : Nat → Int32, f = upd n_32 (12 * k4 + 1299) x45 := ⟨_, rfl⟩
                          rw [← en_46]
                          have hnn_46 := KI.w en_46 hnn_32 (okv_f (show kd (12 * k4 + 1299) = (0, 0, false) from (kd_E (k := k4) (c := 9) (by omega) (by omega) (by decide))))
                          have hrn_46 := NRx.w en_46 hrn_32 (by rw [(show kd (12 * k4 + 1299) = (0, 0, false) from (kd_E (k := k4) (c := 9) (by omega) (by omega) (by decide)))])
                          have ksn_46 := KS.w en_46 ksn_32 (by unfold tS; omega)
                          have e47 : n_46 0 = nI kc0 := by rw [en_46, pk_un (by omega)]; exact kc32_0
                          have e48 : n_46 2 = nI kc2 := by rw [en_46, pk_un (by omega)]; exact kc32_2
                          have e49 : n_46 8 = nI kc8 := by rw [en_46, pk_un (by omega)]; exact kc32_8
                          have e50 : n_46 3 = nI k33 := by rw [en_46, pk_un (by omega)]; exact ek33
                          have e51 : n_46 (12 * k4 + 1300) = nI k36 := by rw [en_46, pk_un (by omega)]; exact ek36
                          have e52 : n_46 (12 * k4 + 1293) = x41 := by rw [en_46, pk_un (by omega)]; exact ex41
                          have e53 : n_46 (12 * k4 + 1299) = x45 := by rw [en_46, pk_us]
                          refine pm_aloadn hG dX12_press_206 rfl ?_
                          refine pm_iloadn hG dX12_press_207 rfl ?_
                          refine pm_top (v := nI k4) ek4 ?_
                          refine pm_iconst (v := nI 3) hG dX12_press_208 (by decide) ?_
                          refine pm_aloadn hG dX12_press_209 rfl ?_
                          refine pm_iloadn hG dX12_press_210 rfl ?_
                          refine pm_top (v := nI k4) ek4 ?_
                          refine pm_iconst (v := nI 3) hG dX12_press_211 (by decide) ?_
                          refine pm_callV (As := [.int (nI k4), .int (nI 3)]) (rest := [.int (nI 3), .int (nI k4), .ref (B + 54)]) hG hR dX12_press_212 (lkX12_199 _ rfl) okV_X12_of rfl rfl (m_of (d := 2) (e := 12 * k4 + 1293) (by omega) (by omega) (by omega)) rfl rfl hdd (Nat.le_refl _) (Nat.le_refl _) (Nat.le_of_ble_eq_true rfl) (pm_ki (fun v54 σ' cnt' hq => ?_))
                          obtain ⟨rfl, rfl, rfl⟩ := hq
                          refine pm_top (v := x41) e52 ?_
                          refine pm_iconst (v := nI 1) hG dX12_press_215 (by decide) ?_
                          refine pm_iloadn hG dX12_press_216 rfl ?_
                          refine pm_ishl hG dX12_press_217 ?_
                          refine pm_any (fun x55 => ?_)
                          refine pm_ior hG dX12_press_218 ?_
                          refine pm_any (fun x56 => ?_)
                          refine pm_callV (As := [.int (nI k4), .int (nI 3), .int x56]) (rest := []) hG hR dX12_press_219 (lkX12_217 _ rfl) okV_X12_writes rfl rfl (m_writes (d := 2) (e := 12 * k4 + 1293) (by omega) (by omega) (by omega)) rfl rfl hdd (Nat.le_refl _) (Nat.le_refl _) (by decide) (pm_kv (fun σ' cnt' hq => ?_))
                          obtain ⟨rfl, rfl⟩ := hq
                          obtain ⟨n_57, en_57⟩ : ∃ f : Nat → Int32, f = upd n_46 (12 * k4 + 1293) x56 := ⟨_, rfl⟩
                          rw [← en_57]
                          have hnn_57 := KI.w en_57 hnn_46 (okv_f (show kd (12 * k4 + 1293) = (0, 0, false) from (kd_E (k := k4) (c := 3) (by omega) (by omega) (by decide))))
                          have hrn_57 := NRx.w en_57 hrn_46 (by rw [(show kd (12 * k4 + 1293) = (0, 0, false) from (kd_E (k := k4) (c := 3) (by omega) (by omega) (by decide)))])
                          have ksn_57 := KS.w en_57 ksn_46 (by unfold tS; omega)
                          have e58 : n_57 0 = nI kc0 := by rw [en_57, pk_un (by omega)]; exact e47
                          have e59 : n_57 2 = nI kc2 := by rw [en_57, pk_un (by omega)]; exact e48
                          have e60 : n_57 8 = nI kc8 := by rw [en_57, pk_un (by omega)]; exact e49
                          have e61 : n_57 3 = nI k33 := by rw [en_57, pk_un (by omega)]; exact e50
                          have e62 : n_57 (12 * k4 + 1300) = nI k36 := by rw [en_57, pk_un (by omega)]; exact e51
                          have e63 : n_57 (12 * k4 + 1299) = x45 := by rw [en_57, pk_un (by omega)]; exact e53
                          have e64 : n_57 (12 * k4 + 1293) = x56 := by rw [en_57, pk_us]
                          refine pm_aloadn hG dX12_press_222 rfl ?_
                          refine pm_iloadn hG dX12_press_223 rfl ?_
                          refine pm_top (v := nI k4) ek4 ?_
                          refine pm_iconst (v := nI 3) hG dX12_press_224 (by decide) ?_
                          refine pm_callV (As := [.int (nI k4), .int (nI 3)]) (rest := []) hG hR dX12_press_225 (lkX12_199 _ rfl) okV_X12_of rfl rfl (m_of (d := 2) (e := 12 * k4 + 1293) (by omega) (by omega) (by omega)) rfl rfl hdd (Nat.le_refl _) (Nat.le_refl _) (by decide) (pm_ki (fun v65 σ' cnt' hq => ?_))
                          obtain ⟨rfl, rfl, rfl⟩ := hq
                          refine pm_top (v := x56) e64 ?_
                          refine pm_callS (As := [.int x56]) (rest := []) hG hR dX12_press_228 (lkX12_202 _ rfl) okS_X12_bits (m_bits (d := 2) (by decide) hnn_57 hz) rfl rfl hdd (Nat.le_refl _) (Nat.le_refl _) (by decide) (pm_ki (fun v66 σ' cnt' hq => ?_))
                          obtain ⟨rfl, rfl⟩ := hq
                          exact pm_iret hG hF dX12_press_231 rfl (Nat.le_refl _) (Nat.le_refl _) ⟨_, rfl, ⟨_, _, _, rfl, hnn_57, hrn_57, e58.trans ekc0.symm, e59.trans ekc2.symm, e60.trans ekc8.symm, ksn_57⟩, rfl⟩
                        · refine pm_iloadi hG dX12_press_188 rfl ?_
                          refine pm_goto (tgt := 203) hG dX12_press_190 rfl ?_
                          refine pm_callV (As := [.int (nI k4), .int (nI 9), .int x39]) (rest := []) hG hR dX12_press_203 (lkX12_217 _ rfl) okV_X12_writes rfl rfl (m_writes (d := 2) (e := 12 * k4 + 1299) (by omega) (by omega) (by omega)) rfl rfl hdd (Nat.le_refl _) (Nat.le_refl _) (by decide) (pm_kv (fun σ' cnt' hq => ?_))
                          obtain ⟨rfl, rfl⟩ := hq
                          obtain ⟨n_68, en_68⟩ : ∃ f : Nat → Int32, f = upd n_32 (12 * k4 + 1299) x39 := ⟨_, rfl⟩
                          rw [← en_68]
                          have hnn_68 := KI.w en_68 hnn_32 (okv_f (show kd (12 * k4 + 1299) = (0, 0, false) from (kd_E (k := k4) (c := 9) (by omega) (by omega) (by decide))))
                          have hrn_68 := NRx.w en_68 hrn_32 (by rw [(show kd (12 * k4 + 1299) = (0, 0, false) from (kd_E (k := k4) (c := 9) (by omega) (by omega) (by decide)))])
                          have ksn_68 := KS.w en_68 ksn_32 (by unfold tS; omega)
                          have e69 : n_68 0 = nI kc0 := by rw [en_68, pk_un (by omega)]; exact kc32_0
                          have e70 : n_68 2 = nI kc2 := by rw [en_68, pk_un (by omega)]; exact kc32_2
                          have e71 : n_68 8 = nI kc8 := by rw [en_68, pk_un (by omega)]; exact kc32_8
                          have e72 : n_68 3 = nI k33 := by rw [en_68, pk_un (by omega)]; exact ek33
                          have e73 : n_68 (12 * k4 + 1300) = nI k36 := by rw [en_68, pk_un (by omega)]; exact ek36
                          have e74 : n_68 (12 * k4 + 1293) = x41 := by rw [en_68, pk_un (by omega)]; exact ex41
                          have e75 : n_68 (12 * k4 + 1299) = x39 := by rw [en_68, pk_us]
                          refine pm_aloadn hG dX12_press_206 rfl ?_
                          refine pm_iloadn hG dX12_press_207 rfl ?_
                          refine pm_top (v := nI k4) ek4 ?_
                          refine pm_iconst (v := nI 3) hG dX12_press_208 (by decide) ?_
                          refine pm_aloadn hG dX12_press_209 rfl ?_
                          refine pm_iloadn hG dX12_press_210 rfl ?_
                          refine pm_top (v := nI k4) ek4 ?_
                          refine pm_iconst (v := nI 3) hG dX12_press_211 (by decide) ?_
                          refine pm_callV (As := [.int (nI k4), .int (nI 3)]) (rest := [.int (nI 3), .int (nI k4), .ref (B + 54)]) hG hR dX12_press_212 (lkX12_199 _ rfl) okV_X12_of rfl rfl (m_of (d := 2) (e := 12 * k4 + 1293) (by omega) (by omega) (by omega)) rfl rfl hdd (Nat.le_refl _) (Nat.le_refl _) (Nat.le_of_ble_eq_true rfl) (pm_ki (fun v76 σ' cnt' hq => ?_))
                          obtain ⟨rfl, rfl, rfl⟩ := hq
                          refine pm_top (v := x41) e74 ?_
                          refine pm_iconst (v := nI 1) hG dX12_press_215 (by decide) ?_
                          refine pm_iloadn hG dX12_press_216 rfl ?_
                          refine pm_ishl hG dX12_press_217 ?_
                          refine pm_any (fun x77 => ?_)
                          refine pm_ior hG dX12_press_218 ?_
                          refine pm_any (fun x78 => ?_)
                          refine pm_callV (As := [.int (nI k4), .int (nI 3), .int x78]) (rest := []) hG hR dX12_press_219 (lkX12_217 _ rfl) okV_X12_writes rfl rfl (m_writes (d := 2) (e := 12 * k4 + 1293) (by omega) (by omega) (by omega)) rfl rfl hdd (Nat.le_refl _) (Nat.le_refl _) (by decide) (pm_kv (fun σ' cnt' hq => ?_))
                          obtain ⟨rfl, rfl⟩ := hq
                          obtain ⟨n_79, en_79⟩ : ∃ f : Nat → Int32, f = upd n_68 (12 * k4 + 1293) x78 := ⟨_, rfl⟩
                          rw [← en_79]
                          have hnn_79 := KI.w en_79 hnn_68 (okv_f (show kd (12 * k4 + 1293) = (0, 0, false) from (kd_E (k := k4) (c := 3) (by omega) (by omega) (by decide))))
                          have hrn_79 := NRx.w en_79 hrn_68 (by rw [(show kd (12 * k4 + 1293) = (0, 0, false) from (kd_E (k := k4) (c := 3) (by omega) (by omega) (by decide)))])
                          have ksn_79 := KS.w en_79 ksn_68 (by unfold tS; omega)
                          have e80 : n_79 0 = nI kc0 := by rw [en_79, pk_un (by omega)]; exact e69
                          have e81 : n_79 2 = nI kc2 := by rw [en_79, pk_un (by omega)]; exact e70
                          have e82 : n_79 8 = nI kc8 := by rw [en_79, pk_un (by omega)]; exact e71
                          have e83 : n_79 3 = nI k33 := by rw [en_79, pk_un (by omega)]; exact e72
                          have e84 : n_79 (12 * k4 + 1300) = nI k36 := by rw [en_79, pk_un (by omega)]; exact e73
                          have e85 : n_79 (12 * k4 + 1299) = x39 := by rw [en_79, pk_un (by omega)]; exact e75
                          have e86 : n_79 (12 * k4 + 1293) = x78 := by rw [en_79, pk_us]
                          refine pm_aloadn hG dX12_press_222 rfl ?_
                          refine pm_iloadn hG dX12_press_223 rfl ?_
                          refine pm_top (v := nI k4) ek4 ?_
                          refine pm_iconst (v := nI 3) hG dX12_press_224 (by decide) ?_
                          refine pm_callV (As := [.int (nI k4), .int (nI 3)]) (rest := []) hG hR dX12_press_225 (lkX12_199 _ rfl) okV_X12_of rfl rfl (m_of (d := 2) (e := 12 * k4 + 1293) (by omega) (by omega) (by omega)) rfl rfl hdd (Nat.le_refl _) (Nat.le_refl _) (by decide) (pm_ki (fun v87 σ' cnt' hq => ?_))
                          obtain ⟨rfl, rfl, rfl⟩ := hq
                          refine pm_top (v := x78) e86 ?_
                          refine pm_callS (As := [.int x78]) (rest := []) hG hR dX12_press_228 (lkX12_202 _ rfl) okS_X12_bits (m_bits (d := 2) (by decide) hnn_79 hz) rfl rfl hdd (Nat.le_refl _) (Nat.le_refl _) (by decide) (pm_ki (fun v88 σ' cnt' hq => ?_))
                          obtain ⟨rfl, rfl⟩ := hq
                          exact pm_iret hG hF dX12_press_231 rfl (Nat.le_refl _) (Nat.le_refl _) ⟨_, rfl, ⟨_, _, _, rfl, hnn_79, hrn_79, e80.trans ekc0.symm, e81.trans ekc2.symm, e82.trans ekc8.symm, ksn_79⟩, rfl⟩
                      · refine pm_iloadi hG dX12_press_105 rfl ?_
                        refine pm_aloadn hG dX12_press_107 rfl ?_
                        refine pm_iloadi hG dX12_press_108 rfl ?_
                        refine pm_iconst (v := nI 0) hG dX12_press_110 (by decide) ?_
                        refine pm_callV (As := [.int (nI i32), .int (nI 0)]) (rest := [.int x32_4]) hG hR dX12_press_111 (lkX12_110 _ rfl) okV_X12_its rfl rfl (m_its (d := 2) (e := 6 * i32 + 390) (by omega) (by omega) (by omega)) rfl rfl hdd (Nat.le_refl _) (Nat.le_refl _) (Nat.le_of_ble_eq_true rfl) (pm_ki (fun v90 σ' cnt' hq => ?_))
                        obtain ⟨rfl, rfl, rfl⟩ := hq
                        refine pm_gen (fun x91 ex91 => ?_)
                        refine pm_iconst (v := nI 2) hG dX12_press_114 (by decide) ?_
                        refine pm_icmp_ne (tgt := 149) hG dX12_press_115 rfl (fun c92 => ?_) (fun c92 => ?_)
                        · refine pm_iconst (v := nI 0) hG dX12_press_149 (by decide) ?_
                          refine pm_ior hG dX12_press_150 ?_
                          refine pm_any (fun x93 => ?_)
                          refine pm_istoreXi (loc' := [some (.ref (B + 54)), some (.int za), some (.int zb), some (.int x31), some (.int x93), some (.int (nI i32))]) hG dX12_press_151 (by decide) (pm_c1b rfl) rfl ?_
                          refine pm_iincX (v := nI (i32 + 1)) (loc' := [some (.ref (B + 54)), some (.int za), some (.int zb), some (.int x31), some (.int x93), some (.int (nI (i32 + 1)))]) hG dX12_press_153 rfl (nI_1 _) (by decide) (pm_c1b rfl) rfl ?_
                          refine pm_goto (tgt := 94) hG dX12_press_156 rfl ?_
                          exact ih32 I32 A32 n_32 x93 (i32 + 1) hnn_32 ksn_32 hrn_32 (kc32_0.trans (congrArg nI (by omega))) (kc32_2.trans (congrArg nI (by omega))) (kc32_8.trans (congrArg nI (by omega))) (by omega) (by omega)
                        · refine pm_aloadn hG dX12_press_118 rfl ?_
                          refine pm_iloadi hG dX12_press_119 rfl ?_
                          refine pm_iconst (v := nI 5) hG dX12_press_121 (by decide) ?_
                          refine pm_callV (As := [.int (nI i32), .int (nI 5)]) (rest := [.int x32_4]) hG hR dX12_press_122 (lkX12_110 _ rfl) okV_X12_its rfl rfl (m_its (d := 2) (e := 6 * i32 + 395) (by omega) (by omega) (by omega)) rfl rfl hdd (Nat.le_refl _) (Nat.le_refl _) (Nat.le_of_ble_eq_true rfl) (pm_ki (fun v94 σ' cnt' hq => ?_))
                          obtain ⟨rfl, rfl, rfl⟩ := hq
                          refine pm_gen (fun x95 ex95 => ?_)
                          refine pm_iloadn hG dX12_press_125 rfl ?_
                          refine pm_icmp_ne (tgt := 149) hG dX12_press_126 rfl (fun c96 => ?_) (fun c96 => ?_)
                          · refine pm_iconst (v := nI 0) hG dX12_press_149 (by decide) ?_
                            refine pm_ior hG dX12_press_150 ?_
                            refine pm_any (fun x97 => ?_)
                            refine pm_istoreXi (loc' := [some (.ref (B + 54)), some (.int za), some (.int zb), some (.int x31), some (.int x97), some (.int (nI i32))]) hG dX12_press_151 (by decide) (pm_c1b rfl) rfl ?_
                            refine pm_iincX (v := nI (i32 + 1)) (loc' := [some (.ref (B + 54)), some (.int za), some (.int zb), some (.int x31), some (.int x97), some (.int (nI (i32 + 1)))]) hG dX12_press_153 rfl (nI_1 _) (by decide) (pm_c1b rfl) rfl ?_
                            refine pm_goto (tgt := 94) hG dX12_press_156 rfl ?_
                            exact ih32 I32 A32 n_32 x97 (i32 + 1) hnn_32 ksn_32 hrn_32 (kc32_0.trans (congrArg nI (by omega))) (kc32_2.trans (congrArg nI (by omega))) (kc32_8.trans (congrArg nI (by omega))) (by omega) (by omega)
                          · refine pm_aloadn hG dX12_press_129 rfl ?_
                            refine pm_iloadi hG dX12_press_130 rfl ?_
                            rcases KI.opt hnn_32 (show kd (6 * i32 + 392) = (2, 20, false) from (kd_W (k := i32) (c := 2) (by omega) (by omega) (by decide))) with ek98 | ⟨k98, hk98, ek98⟩
                            · rcases KI.opt hnn_32 (show kd (6 * i32 + 391) = (2, 20, false) from (kd_W (k := i32) (c := 1) (by omega) (by omega) (by decide))) with ek99 | ⟨k99, hk99, ek99⟩
                              · refine pm_callV (As := [.int (nI i32)]) (rest := [.int x32_4]) hG hR dX12_press_132 (lkX12_139 _ rfl) okV_X12_whoHas rfl rfl (m_whoHas0 (d := 2) (e := 6 * i32 + 392) (e2 := 6 * i32 + 391) (by decide) (by omega) (by omega) (by omega) ek98 ek99) rfl rfl hdd (Nat.le_refl _) (Nat.le_refl _) (Nat.le_of_ble_eq_true rfl) (pm_ki (fun v100 σ' cnt' hq => ?_))
                                obtain ⟨rfl, rfl, rfl⟩ := hq
                                refine pm_if_lt (tgt := 149) hG dX12_press_135 rfl (fun _ => ?_) (fun q => absurd q (by decide))
                                refine pm_iconst (v := nI 0) hG dX12_press_149 (by decide) ?_
                                refine pm_ior hG dX12_press_150 ?_
                                refine pm_any (fun x101 => ?_)
                                refine pm_istoreXi (loc' := [some (.ref (B + 54)), some (.int za), some (.int zb), some (.int x31), some (.int x101), some (.int (nI i32))]) hG dX12_press_151 (by decide) (pm_c1b rfl) rfl ?_
                                refine pm_iincX (v := nI (i32 + 1)) (loc' := [some (.ref (B + 54)), some (.int za), some (.int zb), some (.int x31), some (.int x101), some (.int (nI (i32 + 1)))]) hG dX12_press_153 rfl (nI_1 _) (by decide) (pm_c1b rfl) rfl ?_
                                refine pm_goto (tgt := 94) hG dX12_press_156 rfl ?_
                                exact ih32 I32 A32 n_32 x101 (i32 + 1) hnn_32 ksn_32 hrn_32 (kc32_0.trans (congrArg nI (by omega))) (kc32_2.trans (congrArg nI (by omega))) (kc32_8.trans (congrArg nI (by omega))) (by omega) (by omega)
                              · refine pm_callV (As := [.int (nI i32)]) (rest := [.int x32_4]) hG hR dX12_press_132 (lkX12_139 _ rfl) okV_X12_whoHas rfl rfl (m_whoHas0 (d := 2) (e := 6 * i32 + 392) (e2 := 6 * i32 + 391) (by decide) (by omega) (by omega) (by omega) ek98 ek99) rfl rfl hdd (Nat.le_refl _) (Nat.le_refl _) (Nat.le_of_ble_eq_true rfl) (pm_ki (fun v102 σ' cnt' hq => ?_))
                                obtain ⟨rfl, rfl, rfl⟩ := hq
                                refine pm_ifN_lt hG dX12_press_135 rfl (by omega) ?_
                                refine pm_iconst (v := nI 1) hG dX12_press_138 (by decide) ?_
                                refine pm_aloadn hG dX12_press_139 rfl ?_
                                refine pm_iloadi hG dX12_press_140 rfl ?_
                                refine pm_callV (As := [.int (nI i32)]) (rest := [.int (nI 1), .int x32_4]) hG hR dX12_press_142 (lkX12_139 _ rfl) okV_X12_whoHas rfl rfl (m_whoHas0 (d := 2) (e := 6 * i32 + 392) (e2 := 6 * i32 + 391) (by decide) (by omega) (by omega) (by omega) ek98 ek99) rfl rfl hdd (Nat.le_refl _) (Nat.le_refl _) (Nat.le_of_ble_eq_true rfl) (pm_ki (fun v103 σ' cnt' hq => ?_))
                                obtain ⟨rfl, rfl, rfl⟩ := hq
                                refine pm_ishl hG dX12_press_145 ?_
                                refine pm_any (fun x104 => ?_)
                                refine pm_goto (tgt := 150) hG dX12_press_146 rfl ?_
                                refine pm_ior hG dX12_press_150 ?_
                                refine pm_any (fun x105 => ?_)
                                refine pm_istoreXi (loc' := [some (.ref (B + 54)), some (.int za), some (.int zb), some (.int x31), some (.int x105), some (.int (nI i32))]) hG dX12_press_151 (by decide) (pm_c1b rfl) rfl ?_
                                refine pm_iincX (v := nI (i32 + 1)) (loc' := [some (.ref (B + 54)), some (.int za), some (.int zb), some (.int x31), some (.int x105), some (.int (nI (i32 + 1)))]) hG dX12_press_153 rfl (nI_1 _) (by decide) (pm_c1b rfl) rfl ?_
                                refine pm_goto (tgt := 94) hG dX12_press_156 rfl ?_
                                exact ih32 I32 A32 n_32 x105 (i32 + 1) hnn_32 ksn_32 hrn_32 (kc32_0.trans (congrArg nI (by omega))) (kc32_2.trans (congrArg nI (by omega))) (kc32_8.trans (congrArg nI (by omega))) (by omega) (by omega)
                            · refine pm_callV (As := [.int (nI i32)]) (rest := [.int x32_4]) hG hR dX12_press_132 (lkX12_139 _ rfl) okV_X12_whoHas rfl rfl (m_whoHas1 (d := 2) (e := 6 * i32 + 392) (by decide) (by omega) (by omega) ek98 (by omega)) rfl rfl hdd (Nat.le_refl _) (Nat.le_refl _) (Nat.le_of_ble_eq_true rfl) (pm_ki (fun v106 σ' cnt' hq => ?_))
                              obtain ⟨rfl, rfl, rfl⟩ := hq
                              refine pm_ifN_lt hG dX12_press_135 rfl (by omega) ?_
                              refine pm_iconst (v := nI 1) hG dX12_press_138 (by decide) ?_
                              refine pm_aloadn hG dX12_press_139 rfl ?_
                              refine pm_iloadi hG dX12_press_140 rfl ?_
                              refine pm_callV (As := [.int (nI i32)]) (rest := [.int (nI 1), .int x32_4]) hG hR dX12_press_142 (lkX12_139 _ rfl) okV_X12_whoHas rfl rfl (m_whoHas1 (d := 2) (e := 6 * i32 + 392) (by decide) (by omega) (by omega) ek98 (by omega)) rfl rfl hdd (Nat.le_refl _) (Nat.le_refl _) (Nat.le_of_ble_eq_true rfl) (pm_ki (fun v107 σ' cnt' hq => ?_))
                              obtain ⟨rfl, rfl, rfl⟩ := hq
                              refine pm_ishl hG dX12_press_145 ?_
                              refine pm_any (fun x108 => ?_)
                              refine pm_goto (tgt := 150) hG dX12_press_146 rfl ?_
                              refine pm_ior hG dX12_press_150 ?_
                              refine pm_any (fun x109 => ?_)
                              refine pm_istoreXi (loc' := [some (.ref (B + 54)), some (.int za), some (.int zb), some (.int x31), some (.int x109), some (.int (nI i32))]) hG dX12_press_151 (by decide) (pm_c1b rfl) rfl ?_
                              refine pm_iincX (v := nI (i32 + 1)) (loc' := [some (.ref (B + 54)), some (.int za), some (.int zb), some (.int x31), some (.int x109), some (.int (nI (i32 + 1)))]) hG dX12_press_153 rfl (nI_1 _) (by decide) (pm_c1b rfl) rfl ?_
                              refine pm_goto (tgt := 94) hG dX12_press_156 rfl ?_
                              exact ih32 I32 A32 n_32 x109 (i32 + 1) hnn_32 ksn_32 hrn_32 (kc32_0.trans (congrArg nI (by omega))) (kc32_2.trans (congrArg nI (by omega))) (kc32_8.trans (congrArg nI (by omega))) (by omega) (by omega)
                  exact loop94_32 _ I A n (nI 0) 0 hn KS.rf hr (ekc0.trans (congrArg nI (by omega))) (ekc2.trans (congrArg nI (by omega))) (ekc8.trans (congrArg nI (by omega))) (by omega) (Nat.lt_succ_self _)
                · refine pm_aloadn hG dX12_press_75 rfl ?_
                  refine pm_iconst (v := nI 3) hG dX12_press_76 (by decide) ?_
                  refine pm_callV (As := [.int (nI 3)]) (rest := []) hG hR dX12_press_77 (lkX12_80 _ rfl) okV_X12_finds rfl rfl (m_finds (d := 2) (by decide) hn hz (by omega)) rfl rfl hdd (Nat.le_refl _) (Nat.le_refl _) (by decide) (pm_ki (fun v110 σ' cnt' hq => ?_))
                  obtain ⟨⟨I111, A111, rfl⟩, rfl, fv110⟩ := hq
                  exact pm_iret hG hF dX12_press_80 rfl (Nat.le_refl _) (Nat.le_refl _) ⟨_, rfl, ⟨_, _, _, rfl, hn, hr, ekc0.trans ekc0.symm, ekc2.trans ekc2.symm, ekc8.trans ekc8.symm, KS.rf⟩, rfl⟩
          · refine pm_callV (As := [.int (nI k8)]) (rest := []) hG hR dX12_press_49 (lkX12_139 _ rfl) okV_X12_whoHas rfl rfl (m_whoHas1 (d := 2) (e := 6 * k8 + 392) (by decide) (by omega) (by omega) ek14 (by omega)) rfl rfl hdd (Nat.le_refl _) (Nat.le_refl _) (by decide) (pm_ki (fun v112 σ' cnt' hq => ?_))
            obtain ⟨rfl, rfl, rfl⟩ := hq
            refine pm_ifN_lt hG dX12_press_52 rfl (by omega) ?_
            refine pm_aloadn hG dX12_press_55 rfl ?_
            refine pm_aloadn hG dX12_press_56 rfl ?_
            refine pm_iloadn hG dX12_press_57 rfl ?_
            refine pm_top (v := nI k8) ek8 ?_
            refine pm_callV (As := [.int (nI k8)]) (rest := [.ref (B + 54)]) hG hR dX12_press_58 (lkX12_139 _ rfl) okV_X12_whoHas rfl rfl (m_whoHas1 (d := 2) (e := 6 * k8 + 392) (by decide) (by omega) (by omega) ek14 (by omega)) rfl rfl hdd (Nat.le_refl _) (Nat.le_refl _) (Nat.le_of_ble_eq_true rfl) (pm_ki (fun v113 σ' cnt' hq => ?_))
            obtain ⟨rfl, rfl, rfl⟩ := hq
            refine pm_iconst (v := nI 4) hG dX12_press_61 (by decide) ?_
            refine pm_callV (As := [.int (nI k14), .int (nI 4)]) (rest := []) hG hR dX12_press_62 (lkX12_72 _ rfl) okV_X12_man rfl rfl (m_man (d := 2) (e := 14 * k14 + 114) (by omega) (by omega) (by omega)) rfl rfl hdd (Nat.le_refl _) (Nat.le_refl _) (by decide) (pm_ki (fun v114 σ' cnt' hq => ?_))
            obtain ⟨rfl, rfl, rfl⟩ := hq
            rcases KI.opt hn (show kd (14 * k14 + 114) = (2, 10, false) from (kd_P (k := k14) (c := 4) (by omega) (by omega) (by decide))) with ek115 | ⟨k115, hk115, ek115⟩
            · refine pm_top (v := (-1)) ek115 ?_
              refine pm_aloadn hG dX12_press_65 rfl ?_
              refine pm_iloadn hG dX12_press_66 rfl ?_
              refine pm_top (v := nI k4) ek4 ?_
              refine pm_bipush (v := nI 10) hG dX12_press_67 (by decide) ?_
              refine pm_callV (As := [.int (nI k4), .int (nI 10)]) (rest := [.int (-1)]) hG hR dX12_press_69 (lkX12_199 _ rfl) okV_X12_of rfl rfl (m_of (d := 2) (e := 12 * k4 + 1300) (by omega) (by omega) (by omega)) rfl rfl hdd (Nat.le_refl _) (Nat.le_refl _) (Nat.le_of_ble_eq_true rfl) (pm_ki (fun v116 σ' cnt' hq => ?_))
              obtain ⟨rfl, rfl, rfl⟩ := hq
              obtain ⟨k117, hk117, ek117⟩ := KI.nat hn (show kd (12 * k4 + 1300) = (1, 10, false) from (kd_E (k := k4) (c := 10) (by omega) (by omega) (by decide)))
              refine pm_top (v := nI k117) ek117 ?_
              refine pm_icmp_eq (tgt := 81) hG dX12_press_72 rfl (fun q => absurd q ((fun q => nI_m1 (by omega) q.symm))) (fun _ => ?_)
              refine pm_aloadn hG dX12_press_75 rfl ?_
              refine pm_iconst (v := nI 3) hG dX12_press_76 (by decide) ?_
              refine pm_callV (As := [.int (nI 3)]) (rest := []) hG hR dX12_press_77 (lkX12_80 _ rfl) okV_X12_finds rfl rfl (m_finds (d := 2) (by decide) hn hz (by omega)) rfl rfl hdd (Nat.le_refl _) (Nat.le_refl _) (by decide) (pm_ki (fun v118 σ' cnt' hq => ?_))
              obtain ⟨⟨I119, A119, rfl⟩, rfl, fv118⟩ := hq
              exact pm_iret hG hF dX12_press_80 rfl (Nat.le_refl _) (Nat.le_refl _) ⟨_, rfl, ⟨_, _, _, rfl, hn, hr, ekc0.trans ekc0.symm, ekc2.trans ekc2.symm, ekc8.trans ekc8.symm, KS.rf⟩, rfl⟩
            · refine pm_top (v := nI k115) ek115 ?_
              refine pm_aloadn hG dX12_press_65 rfl ?_
              refine pm_iloadn hG dX12_press_66 rfl ?_
              refine pm_top (v := nI k4) ek4 ?_
              refine pm_bipush (v := nI 10) hG dX12_press_67 (by decide) ?_
              refine pm_callV (As := [.int (nI k4), .int (nI 10)]) (rest := [.int (nI k115)]) hG hR dX12_press_69 (lkX12_199 _ rfl) okV_X12_of rfl rfl (m_of (d := 2) (e := 12 * k4 + 1300) (by omega) (by omega) (by omega)) rfl rfl hdd (Nat.le_refl _) (Nat.le_refl _) (Nat.le_of_ble_eq_true rfl) (pm_ki (fun v120 σ' cnt' hq => ?_))
              obtain ⟨rfl, rfl, rfl⟩ := hq
              obtain ⟨k121, hk121, ek121⟩ := KI.nat hn (show kd (12 * k4 + 1300) = (1, 10, false) from (kd_E (k := k4) (c := 10) (by omega) (by omega) (by decide)))
              refine pm_top (v := nI k121) ek121 ?_
              refine pm_icmpN_eq (tgt := 81) hG dX12_press_72 rfl (by omega) (by omega) (fun c122 => ?_) (fun c122 => ?_)
              · refine pm_aloadn hG dX12_press_81 rfl ?_
                refine pm_iloadn hG dX12_press_82 rfl ?_
                refine pm_top (v := nI k8) ek8 ?_
                refine pm_iconst (v := nI 5) hG dX12_press_83 (by decide) ?_
                refine pm_callV (As := [.int (nI k8), .int (nI 5)]) (rest := []) hG hR dX12_press_84 (lkX12_110 _ rfl) okV_X12_its rfl rfl (m_its (d := 2) (e := 6 * k8 + 395) (by omega) (by omega) (by omega)) rfl rfl hdd (Nat.le_refl _) (Nat.le_refl _) (by decide) (pm_ki (fun v123 σ' cnt' hq => ?_))
                obtain ⟨rfl, rfl, rfl⟩ := hq
                refine pm_gen (fun x124 ex124 => ?_)
                refine pm_istoreXn (loc' := [some (.ref (B + 54)), some (.int za), some (.int zb), some (.int x124), none, none]) hG dX12_press_87 (by decide) (pm_c1b rfl) rfl ?_
                refine pm_iconst (v := nI 0) hG dX12_press_88 (by decide) ?_
                refine pm_istoreXi (loc' := [some (.ref (B + 54)), some (.int za), some (.int zb), some (.int x124), some (.int (nI 0)), none]) hG dX12_press_89 (by decide) (pm_c1b rfl) rfl ?_
                refine pm_iconst (v := nI 0) hG dX12_press_91 (by decide) ?_
                refine pm_istoreXi (loc' := [some (.ref (B + 54)), some (.int za), some (.int zb), some (.int x124), some (.int (nI 0)), some (.int (nI 0))]) hG dX12_press_92 (by decide) (pm_c1b rfl) rfl ?_
                have loop94_125 : ∀ (m125 : Nat) (I125 : Nat → Int32) (A125 : Nat → Nat → Int32) (n_125 : Nat → Int32) (x125_4 : Int32) (i125 : Nat), KI n_125 → KS n_125 n → NRx 40 n_125 → n_125 0 = nI kc0 → n_125 2 = nI kc2 → n_125 8 = nI kc8 → i125 ≤ 20 → 20 - i125 < m125 → pm_wp mX12_press G B 94 [some (.ref (B + 54)), some (.int za), some (.int zb), some (.int x124), some (.int x125_4), some (.int (nI i125))] [] 0 0 cnt (pm_mid σ (md_L B I125 A125 n_125 k z ac wt pl (nI p0) (nI t0) im)) := by
                  intro m125
                  induction m125 with
                  | zero => intro I125 A125 n_125 x125_4 i125 _ _ _ _ _ _ _ hm; exact absurd hm (Nat.not_lt_zero _)
                  | succ m125 ih125 =>
                    intro I125 A125 n_125 x125_4 i125 hnn_125 ksn_125 hrn_125 kc125_0 kc125_2 kc125_8 hi125 hm125
                    refine pm_iloadi hG dX12_press_94 rfl ?_
                    refine pm_aloadn hG dX12_press_96 rfl ?_
                    refine pm_getf hG dX12_press_97 (flX12_7 _ rfl) rfl rfl ?_
                    refine pm_iconst (v := nI 3) hG dX12_press_100 (by decide) ?_
                    refine pm_ialdN hG dX12_press_101 rfl (by decide) (by omega) ?_
                    obtain ⟨k126, hk126, ek126⟩ := KI.nat hnn_125 (show kd 3 = (1, 21, false) by decide)
                    refine pm_top (v := nI k126) ek126 ?_
                    refine pm_icmpN_ge (tgt := 159) hG dX12_press_102 rfl (by omega) (by omega) (fun c127 => ?_) (fun c127 => ?_)
                    · refine pm_aloadn hG dX12_press_159 rfl ?_
                      refine pm_aloadn hG dX12_press_160 rfl ?_
                      refine pm_iloadn hG dX12_press_161 rfl ?_
                      refine pm_top (v := nI k4) ek4 ?_
                      refine pm_bipush (v := nI 10) hG dX12_press_162 (by decide) ?_
                      refine pm_callV (As := [.int (nI k4), .int (nI 10)]) (rest := [.ref (B + 54)]) hG hR dX12_press_164 (lkX12_199 _ rfl) okV_X12_of rfl rfl (m_of (d := 2) (e := 12 * k4 + 1300) (by omega) (by omega) (by omega)) rfl rfl hdd (Nat.le_refl _) (Nat.le_refl _) (Nat.le_of_ble_eq_true rfl) (pm_ki (fun v128 σ' cnt' hq => ?_))
                      obtain ⟨rfl, rfl, rfl⟩ := hq
                      obtain ⟨k129, hk129, ek129⟩ := KI.nat hnn_125 (show kd (12 * k4 + 1300) = (1, 10, false) from (kd_E (k := k4) (c := 10) (by omega) (by omega) (by decide)))
                      refine pm_top (v := nI k129) ek129 ?_
                      refine pm_callV (As := [.int (nI k129)]) (rest := []) hG hR dX12_press_167 (lkX12_220 _ rfl) okV_X12_thoseIn rfl rfl (m_thoseIn (d := 2) (by decide) hnn_125 hz) rfl rfl hdd (Nat.le_refl _) (Nat.le_refl _) (by decide) (pm_ki (fun v130 σ' cnt' hq => ?_))
                      obtain ⟨rfl, rfl⟩ := hq
                      refine pm_iloadi hG dX12_press_170 rfl ?_
                      refine pm_iand hG dX12_press_172 ?_
                      refine pm_any (fun x132 => ?_)
                      refine pm_istoreXi (loc' := [some (.ref (B + 54)), some (.int za), some (.int zb), some (.int x124), some (.int x125_4), some (.int x132)]) hG dX12_press_173 (by decide) (pm_c1b rfl) rfl ?_
                      refine pm_aloadn hG dX12_press_175 rfl ?_
                      refine pm_iloadn hG dX12_press_176 rfl ?_
                      refine pm_top (v := nI k4) ek4 ?_
                      refine pm_bipush (v := nI 9) hG dX12_press_177 (by decide) ?_
                      refine pm_aloadn hG dX12_press_179 rfl ?_
                      refine pm_iloadn hG dX12_press_180 rfl ?_
                      refine pm_top (v := nI k4) ek4 ?_
                      refine pm_iconst (v := nI 3) hG dX12_press_181 (by decide) ?_
                      refine pm_callV (As := [.int (nI k4), .int (nI 3)]) (rest := [.int (nI 9), .int (nI k4), .ref (B + 54)]) hG hR dX12_press_182 (lkX12_199 _ rfl) okV_X12_of rfl rfl (m_of (d := 2) (e := 12 * k4 + 1293) (by omega) (by omega) (by omega)) rfl rfl hdd (Nat.le_refl _) (Nat.le_refl _) (Nat.le_of_ble_eq_true rfl) (pm_ki (fun v133 σ' cnt' hq => ?_))
                      obtain ⟨rfl, rfl, rfl⟩ := hq
                      refine pm_gen (fun x134 ex134 => ?_)
                      refine pm_if_ne (tgt := 193) hG dX12_press_185 rfl (fun c135 => ?_) (fun c135 => ?_)
                      · refine pm_aloadn hG dX12_press_193 rfl ?_
                        refine pm_iloadn hG dX12_press_194 rfl ?_
                        refine pm_top (v := nI k4) ek4 ?_
                        refine pm_bipush (v := nI 9) hG dX12_press_195 (by decide) ?_
                        refine pm_callV (As := [.int (nI k4), .int (nI 9)]) (rest := [.int (nI 9), .int (nI k4), .ref (B + 54)]) hG hR dX12_press_197 (lkX12_199 _ rfl) okV_X12_of rfl rfl (m_of (d := 2) (e := 12 * k4 + 1299) (by omega) (by omega) (by omega)) rfl rfl hdd (Nat.le_refl _) (Nat.le_refl _) (Nat.le_of_ble_eq_true rfl) (pm_ki (fun v136 σ' cnt' hq => ?_))
                        obtain ⟨rfl, rfl, rfl⟩ := hq
                        refine pm_gen (fun x137 ex137 => ?_)
                        refine pm_iloadi hG dX12_press_200 rfl ?_
                        refine pm_iand hG dX12_press_202 ?_
                        refine pm_any (fun x138 => ?_)
                        refine pm_callV (As := [.int (nI k4), .int (nI 9), .int x138]) (rest := []) hG hR dX12_press_203 (lkX12_217 _ rfl) okV_X12_writes rfl rfl (m_writes (d := 2) (e := 12 * k4 + 1299) (by omega) (by omega) (by omega)) rfl rfl hdd (Nat.le_refl _) (Nat.le_refl _) (by decide) (pm_kv (fun σ' cnt' hq => ?_))
                        obtain ⟨rfl, rfl⟩ := hq
                        obtain ⟨n_139, en_139⟩ : ∃ f : Nat → Int32, f = upd n_125 (12 * k4 + 1299) x138 := ⟨_, rfl⟩
                        rw [← en_139]
                        have hnn_139 := KI.w en_139 hnn_125 (okv_f (show kd (12 * k4 + 1299) = (0, 0, false) from (kd_E (k := k4) (c := 9) (by omega) (by omega) (by decide))))
                        have hrn_139 := NRx.w en_139 hrn_125 (by rw [(show kd (12 * k4 + 1299) = (0, 0, false) from (kd_E (k := k4) (c := 9) (by omega) (by omega) (by decide)))])
                        have ksn_139 := KS.w en_139 ksn_125 (by unfold tS; omega)
                        have e140 : n_139 0 = nI kc0 := by rw [en_139, pk_un (by omega)]; exact kc125_0
                        have e141 : n_139 2 = nI kc2 := by rw [en_139, pk_un (by omega)]; exact kc125_2
                        have e142 : n_139 8 = nI kc8 := by rw [en_139, pk_un (by omega)]; exact kc125_8
                        have e143 : n_139 3 = nI k126 := by rw [en_139, pk_un (by omega)]; exact ek126
                        have e144 : n_139 (12 * k4 + 1300) = nI k129 := by rw [en_139, pk_un (by omega)]; exact ek129
                        have e145 : n_139 (12 * k4 + 1293) = x134 := by rw [en_139, pk_un (by omega)]; exact ex134
                        have e146 : n_139 (12 * k4 + 1299) = x138 := by rw [en_139, pk_us]
                        refine pm_aloadn hG dX12_press_206 rfl ?_
                        refine pm_iloadn hG dX12_press_207 rfl ?_
                        refine pm_top (v := nI k4) ek4 ?_
                        refine pm_iconst (v := nI 3) hG dX12_press_208 (by decide) ?_
                        refine pm_aloadn hG dX12_press_209 rfl ?_
                        refine pm_iloadn hG dX12_press_210 rfl ?_
                        refine pm_top (v := nI k4) ek4 ?_
                        refine pm_iconst (v := nI 3) hG dX12_press_211 (by decide) ?_
                        refine pm_callV (As := [.int (nI k4), .int (nI 3)]) (rest := [.int (nI 3), .int (nI k4), .ref (B + 54)]) hG hR dX12_press_212 (lkX12_199 _ rfl) okV_X12_of rfl rfl (m_of (d := 2) (e := 12 * k4 + 1293) (by omega) (by omega) (by omega)) rfl rfl hdd (Nat.le_refl _) (Nat.le_refl _) (Nat.le_of_ble_eq_true rfl) (pm_ki (fun v147 σ' cnt' hq => ?_))
                        obtain ⟨rfl, rfl, rfl⟩ := hq
                        refine pm_top (v := x134) e145 ?_
                        refine pm_iconst (v := nI 1) hG dX12_press_215 (by decide) ?_
                        refine pm_iloadn hG dX12_press_216 rfl ?_
                        refine pm_ishl hG dX12_press_217 ?_
                        refine pm_any (fun x148 => ?_)
                        refine pm_ior hG dX12_press_218 ?_
                        refine pm_any (fun x149 => ?_)
                        refine pm_callV (As := [.int (nI k4), .int (nI 3), .int x149]) (rest := []) hG hR dX12_press_219 (lkX12_217 _ rfl) okV_X12_writes rfl rfl (m_writes (d := 2) (e := 12 * k4 + 1293) (by omega) (by omega) (by omega)) rfl rfl hdd (Nat.le_refl _) (Nat.le_refl _) (by decide) (pm_kv (fun σ' cnt' hq => ?_))
                        obtain ⟨rfl, rfl⟩ := hq
                        obtain ⟨n_150, en_150⟩ : ∃ f : Nat → Int32, f = upd n_139 (12 * k4 + 1293) x149 := ⟨_, rfl⟩
                        rw [← en_150]
                        have hnn_150 := KI.w en_150 hnn_139 (okv_f (show kd (12 * k4 + 1293) = (0, 0, false) from (kd_E (k := k4) (c := 3) (by omega) (by omega) (by decide))))
                        have hrn_150 := NRx.w en_150 hrn_139 (by rw [(show kd (12 * k4 + 1293) = (0, 0, false) from (kd_E (k := k4) (c := 3) (by omega) (by omega) (by decide)))])
                        have ksn_150 := KS.w en_150 ksn_139 (by unfold tS; omega)
                        have e151 : n_150 0 = nI kc0 := by rw [en_150, pk_un (by omega)]; exact e140
                        have e152 : n_150 2 = nI kc2 := by rw [en_150, pk_un (by omega)]; exact e141
                        have e153 : n_150 8 = nI kc8 := by rw [en_150, pk_un (by omega)]; exact e142
                        have e154 : n_150 3 = nI k126 := by rw [en_150, pk_un (by omega)]; exact e143
                        have e155 : n_150 (12 * k4 + 1300) = nI k129 := by rw [en_150, pk_un (by omega)]; exact e144
                        have e156 : n_150 (12 * k4 + 1299) = x138 := by rw [en_150, pk_un (by omega)]; exact e146
                        have e157 : n_150 (12 * k4 + 1293) = x149 := by rw [en_150, pk_us]
                        refine pm_aloadn hG dX12_press_222 rfl ?_
                        refine pm_iloadn hG dX12_press_223 rfl ?_
                        refine pm_top (v := nI k4) ek4 ?_
                        refine pm_iconst (v := nI 3) hG dX12_press_224 (by decide) ?_
                        refine pm_callV (As := [.int (nI k4), .int (nI 3)]) (rest := []) hG hR dX12_press_225 (lkX12_199 _ rfl) okV_X12_of rfl rfl (m_of (d := 2) (e := 12 * k4 + 1293) (by omega) (by omega) (by omega)) rfl rfl hdd (Nat.le_refl _) (Nat.le_refl _) (by decide) (pm_ki (fun v158 σ' cnt' hq => ?_))
                        obtain ⟨rfl, rfl, rfl⟩ := hq
                        refine pm_top (v := x149) e157 ?_
                        refine pm_callS (As := [.int x149]) (rest := []) hG hR dX12_press_228 (lkX12_202 _ rfl) okS_X12_bits (m_bits (d := 2) (by decide) hnn_150 hz) rfl rfl hdd (Nat.le_refl _) (Nat.le_refl _) (by decide) (pm_ki (fun v159 σ' cnt' hq => ?_))
                        obtain ⟨rfl, rfl⟩ := hq
                        exact pm_iret hG hF dX12_press_231 rfl (Nat.le_refl _) (Nat.le_refl _) ⟨_, rfl, ⟨_, _, _, rfl, hnn_150, hrn_150, e151.trans ekc0.symm, e152.trans ekc2.symm, e153.trans ekc8.symm, ksn_150⟩, rfl⟩
                      · refine pm_iloadi hG dX12_press_188 rfl ?_
                        refine pm_goto (tgt := 203) hG dX12_press_190 rfl ?_
                        refine pm_callV (As := [.int (nI k4), .int (nI 9), .int x132]) (rest := []) hG hR dX12_press_203 (lkX12_217 _ rfl) okV_X12_writes rfl rfl (m_writes (d := 2) (e := 12 * k4 + 1299) (by omega) (by omega) (by omega)) rfl rfl hdd (Nat.le_refl _) (Nat.le_refl _) (by decide) (pm_kv (fun σ' cnt' hq => ?_))
                        obtain ⟨rfl, rfl⟩ := hq
                        obtain ⟨n_161, en_161⟩ : ∃ f : Nat → Int32, f = upd n_125 (12 * k4 + 1299) x132 := ⟨_, rfl⟩
                        rw [← en_161]
                        have hnn_161 := KI.w en_161 hnn_125 (okv_f (show kd (12 * k4 + 1299) = (0, 0, false) from (kd_E (k := k4) (c := 9) (by omega) (by omega) (by decide))))
                        have hrn_161 := NRx.w en_161 hrn_125 (by rw [(show kd (12 * k4 + 1299) = (0, 0, false) from (kd_E (k := k4) (c := 9) (by omega) (by omega) (by decide)))])
                        have ksn_161 := KS.w en_161 ksn_125 (by unfold tS; omega)
                        have e162 : n_161 0 = nI kc0 := by rw [en_161, pk_un (by omega)]; exact kc125_0
                        have e163 : n_161 2 = nI kc2 := by rw [en_161, pk_un (by omega)]; exact kc125_2
                        have e164 : n_161 8 = nI kc8 := by rw [en_161, pk_un (by omega)]; exact kc125_8
                        have e165 : n_161 3 = nI k126 := by rw [en_161, pk_un (by omega)]; exact ek126
                        have e166 : n_161 (12 * k4 + 1300) = nI k129 := by rw [en_161, pk_un (by omega)]; exact ek129
                        have e167 : n_161 (12 * k4 + 1293) = x134 := by rw [en_161, pk_un (by omega)]; exact ex134
                        have e168 : n_161 (12 * k4 + 1299) = x132 := by rw [en_161, pk_us]
                        refine pm_aloadn hG dX12_press_206 rfl ?_
                        refine pm_iloadn hG dX12_press_207 rfl ?_
                        refine pm_top (v := nI k4) ek4 ?_
                        refine pm_iconst (v := nI 3) hG dX12_press_208 (by decide) ?_
                        refine pm_aloadn hG dX12_press_209 rfl ?_
                        refine pm_iloadn hG dX12_press_210 rfl ?_
                        refine pm_top (v := nI k4) ek4 ?_
                        refine pm_iconst (v := nI 3) hG dX12_press_211 (by decide) ?_
                        refine pm_callV (As := [.int (nI k4), .int (nI 3)]) (rest := [.int (nI 3), .int (nI k4), .ref (B + 54)]) hG hR dX12_press_212 (lkX12_199 _ rfl) okV_X12_of rfl rfl (m_of (d := 2) (e := 12 * k4 + 1293) (by omega) (by omega) (by omega)) rfl rfl hdd (Nat.le_refl _) (Nat.le_refl _) (Nat.le_of_ble_eq_true rfl) (pm_ki (fun v169 σ' cnt' hq => ?_))
                        obtain ⟨rfl, rfl, rfl⟩ := hq
                        refine pm_top (v := x134) e167 ?_
                        refine pm_iconst (v := nI 1) hG dX12_press_215 (by decide) ?_
                        refine pm_iloadn hG dX12_press_216 rfl ?_
                        refine pm_ishl hG dX12_press_217 ?_
                        refine pm_any (fun x170 => ?_)
                        refine pm_ior hG dX12_press_218 ?_
                        refine pm_any (fun x171 => ?_)
                        refine pm_callV (As := [.int (nI k4), .int (nI 3), .int x171]) (rest := []) hG hR dX12_press_219 (lkX12_217 _ rfl) okV_X12_writes rfl rfl (m_writes (d := 2) (e := 12 * k4 + 1293) (by omega) (by omega) (by omega)) rfl rfl hdd (Nat.le_refl _) (Nat.le_refl _) (by decide) (pm_kv (fun σ' cnt' hq => ?_))
                        obtain ⟨rfl, rfl⟩ := hq
                        obtain ⟨n_172, en_172⟩ : ∃ f : Nat → Int32, f = upd n_161 (12 * k4 + 1293) x171 := ⟨_, rfl⟩
                        rw [← en_172]
                        have hnn_172 := KI.w en_172 hnn_161 (okv_f (show kd (12 * k4 + 1293) = (0, 0, false) from (kd_E (k := k4) (c := 3) (by omega) (by omega) (by decide))))
                        have hrn_172 := NRx.w en_172 hrn_161 (by rw [(show kd (12 * k4 + 1293) = (0, 0, false) from (kd_E (k := k4) (c := 3) (by omega) (by omega) (by decide)))])
                        have ksn_172 := KS.w en_172 ksn_161 (by unfold tS; omega)
                        have e173 : n_172 0 = nI kc0 := by rw [en_172, pk_un (by omega)]; exact e162
                        have e174 : n_172 2 = nI kc2 := by rw [en_172, pk_un (by omega)]; exact e163
                        have e175 : n_172 8 = nI kc8 := by rw [en_172, pk_un (by omega)]; exact e164
                        have e176 : n_172 3 = nI k126 := by rw [en_172, pk_un (by omega)]; exact e165
                        have e177 : n_172 (12 * k4 + 1300) = nI k129 := by rw [en_172, pk_un (by omega)]; exact e166
                        have e178 : n_172 (12 * k4 + 1299) = x132 := by rw [en_172, pk_un (by omega)]; exact e168
                        have e179 : n_172 (12 * k4 + 1293) = x171 := by rw [en_172, pk_us]
                        refine pm_aloadn hG dX12_press_222 rfl ?_
                        refine pm_iloadn hG dX12_press_223 rfl ?_
                        refine pm_top (v := nI k4) ek4 ?_
                        refine pm_iconst (v := nI 3) hG dX12_press_224 (by decide) ?_
                        refine pm_callV (As := [.int (nI k4), .int (nI 3)]) (rest := []) hG hR dX12_press_225 (lkX12_199 _ rfl) okV_X12_of rfl rfl (m_of (d := 2) (e := 12 * k4 + 1293) (by omega) (by omega) (by omega)) rfl rfl hdd (Nat.le_refl _) (Nat.le_refl _) (by decide) (pm_ki (fun v180 σ' cnt' hq => ?_))
                        obtain ⟨rfl, rfl, rfl⟩ := hq
                        refine pm_top (v := x171) e179 ?_
                        refine pm_callS (As := [.int x171]) (rest := []) hG hR dX12_press_228 (lkX12_202 _ rfl) okS_X12_bits (m_bits (d := 2) (by decide) hnn_172 hz) rfl rfl hdd (Nat.le_refl _) (Nat.le_refl _) (by decide) (pm_ki (fun v181 σ' cnt' hq => ?_))
                        obtain ⟨rfl, rfl⟩ := hq
                        exact pm_iret hG hF dX12_press_231 rfl (Nat.le_refl _) (Nat.le_refl _) ⟨_, rfl, ⟨_, _, _, rfl, hnn_172, hrn_172, e173.trans ekc0.symm, e174.trans ekc2.symm, e175.trans ekc8.symm, ksn_172⟩, rfl⟩
                    · refine pm_iloadi hG dX12_press_105 rfl ?_
                      refine pm_aloadn hG dX12_press_107 rfl ?_
                      refine pm_iloadi hG dX12_press_108 rfl ?_
                      refine pm_iconst (v := nI 0) hG dX12_press_110 (by decide) ?_
                      refine pm_callV (As := [.int (nI i125), .int (nI 0)]) (rest := [.int x125_4]) hG hR dX12_press_111 (lkX12_110 _ rfl) okV_X12_its rfl rfl (m_its (d := 2) (e := 6 * i125 + 390) (by omega) (by omega) (by omega)) rfl rfl hdd (Nat.le_refl _) (Nat.le_refl _) (Nat.le_of_ble_eq_true rfl) (pm_ki (fun v183 σ' cnt' hq => ?_))
                      obtain ⟨rfl, rfl, rfl⟩ := hq
                      refine pm_gen (fun x184 ex184 => ?_)
                      refine pm_iconst (v := nI 2) hG dX12_press_114 (by decide) ?_
                      refine pm_icmp_ne (tgt := 149) hG dX12_press_115 rfl (fun c185 => ?_) (fun c185 => ?_)
                      · refine pm_iconst (v := nI 0) hG dX12_press_149 (by decide) ?_
                        refine pm_ior hG dX12_press_150 ?_
                        refine pm_any (fun x186 => ?_)
                        refine pm_istoreXi (loc' := [some (.ref (B + 54)), some (.int za), some (.int zb), some (.int x124), some (.int x186), some (.int (nI i125))]) hG dX12_press_151 (by decide) (pm_c1b rfl) rfl ?_
                        refine pm_iincX (v := nI (i125 + 1)) (loc' := [some (.ref (B + 54)), some (.int za), some (.int zb), some (.int x124), some (.int x186), some (.int (nI (i125 + 1)))]) hG dX12_press_153 rfl (nI_1 _) (by decide) (pm_c1b rfl) rfl ?_
                        refine pm_goto (tgt := 94) hG dX12_press_156 rfl ?_
                        exact ih125 I125 A125 n_125 x186 (i125 + 1) hnn_125 ksn_125 hrn_125 (kc125_0.trans (congrArg nI (by omega))) (kc125_2.trans (congrArg nI (by omega))) (kc125_8.trans (congrArg nI (by omega))) (by omega) (by omega)
                      · refine pm_aloadn hG dX12_press_118 rfl ?_
                        refine pm_iloadi hG dX12_press_119 rfl ?_
                        refine pm_iconst (v := nI 5) hG dX12_press_121 (by decide) ?_
                        refine pm_callV (As := [.int (nI i125), .int (nI 5)]) (rest := [.int x125_4]) hG hR dX12_press_122 (lkX12_110 _ rfl) okV_X12_its rfl rfl (m_its (d := 2) (e := 6 * i125 + 395) (by omega) (by omega) (by omega)) rfl rfl hdd (Nat.le_refl _) (Nat.le_refl _) (Nat.le_of_ble_eq_true rfl) (pm_ki (fun v187 σ' cnt' hq => ?_))
                        obtain ⟨rfl, rfl, rfl⟩ := hq
                        refine pm_gen (fun x188 ex188 => ?_)
                        refine pm_iloadn hG dX12_press_125 rfl ?_
                        refine pm_icmp_ne (tgt := 149) hG dX12_press_126 rfl (fun c189 => ?_) (fun c189 => ?_)
                        · refine pm_iconst (v := nI 0) hG dX12_press_149 (by decide) ?_
                          refine pm_ior hG dX12_press_150 ?_
                          refine pm_any (fun x190 => ?_)
                          refine pm_istoreXi (loc' := [some (.ref (B + 54)), some (.int za), some (.int zb), some (.int x124), some (.int x190), some (.int (nI i125))]) hG dX12_press_151 (by decide) (pm_c1b rfl) rfl ?_
                          refine pm_iincX (v := nI (i125 + 1)) (loc' := [some (.ref (B + 54)), some (.int za), some (.int zb), some (.int x124), some (.int x190), some (.int (nI (i125 + 1)))]) hG dX12_press_153 rfl (nI_1 _) (by decide) (pm_c1b rfl) rfl ?_
                          refine pm_goto (tgt := 94) hG dX12_press_156 rfl ?_
                          exact ih125 I125 A125 n_125 x190 (i125 + 1) hnn_125 ksn_125 hrn_125 (kc125_0.trans (congrArg nI (by omega))) (kc125_2.trans (congrArg nI (by omega))) (kc125_8.trans (congrArg nI (by omega))) (by omega) (by omega)
                        · refine pm_aloadn hG dX12_press_129 rfl ?_
                          refine pm_iloadi hG dX12_press_130 rfl ?_
                          rcases KI.opt hnn_125 (show kd (6 * i125 + 392) = (2, 20, false) from (kd_W (k := i125) (c := 2) (by omega) (by omega) (by decide))) with ek191 | ⟨k191, hk191, ek191⟩
                          · rcases KI.opt hnn_125 (show kd (6 * i125 + 391) = (2, 20, false) from (kd_W (k := i125) (c := 1) (by omega) (by omega) (by decide))) with ek192 | ⟨k192, hk192, ek192⟩
                            · refine pm_callV (As := [.int (nI i125)]) (rest := [.int x125_4]) hG hR dX12_press_132 (lkX12_139 _ rfl) okV_X12_whoHas rfl rfl (m_whoHas0 (d := 2) (e := 6 * i125 + 392) (e2 := 6 * i125 + 391) (by decide) (by omega) (by omega) (by omega) ek191 ek192) rfl rfl hdd (Nat.le_refl _) (Nat.le_refl _) (Nat.le_of_ble_eq_true rfl) (pm_ki (fun v193 σ' cnt' hq => ?_))
                              obtain ⟨rfl, rfl, rfl⟩ := hq
                              refine pm_if_lt (tgt := 149) hG dX12_press_135 rfl (fun _ => ?_) (fun q => absurd q (by decide))
                              refine pm_iconst (v := nI 0) hG dX12_press_149 (by decide) ?_
                              refine pm_ior hG dX12_press_150 ?_
                              refine pm_any (fun x194 => ?_)
                              refine pm_istoreXi (loc' := [some (.ref (B + 54)), some (.int za), some (.int zb), some (.int x124), some (.int x194), some (.int (nI i125))]) hG dX12_press_151 (by decide) (pm_c1b rfl) rfl ?_
                              refine pm_iincX (v := nI (i125 + 1)) (loc' := [some (.ref (B + 54)), some (.int za), some (.int zb), some (.int x124), some (.int x194), some (.int (nI (i125 + 1)))]) hG dX12_press_153 rfl (nI_1 _) (by decide) (pm_c1b rfl) rfl ?_
                              refine pm_goto (tgt := 94) hG dX12_press_156 rfl ?_
                              exact ih125 I125 A125 n_125 x194 (i125 + 1) hnn_125 ksn_125 hrn_125 (kc125_0.trans (congrArg nI (by omega))) (kc125_2.trans (congrArg nI (by omega))) (kc125_8.trans (congrArg nI (by omega))) (by omega) (by omega)
                            · refine pm_callV (As := [.int (nI i125)]) (rest := [.int x125_4]) hG hR dX12_press_132 (lkX12_139 _ rfl) okV_X12_whoHas rfl rfl (m_whoHas0 (d := 2) (e := 6 * i125 + 392) (e2 := 6 * i125 + 391) (by decide) (by omega) (by omega) (by omega) ek191 ek192) rfl rfl hdd (Nat.le_refl _) (Nat.le_refl _) (Nat.le_of_ble_eq_true rfl) (pm_ki (fun v195 σ' cnt' hq => ?_))
                              obtain ⟨rfl, rfl, rfl⟩ := hq
                              refine pm_ifN_lt hG dX12_press_135 rfl (by omega) ?_
                              refine pm_iconst (v := nI 1) hG dX12_press_138 (by decide) ?_
                              refine pm_aloadn hG dX12_press_139 rfl ?_
                              refine pm_iloadi hG dX12_press_140 rfl ?_
                              refine pm_callV (As := [.int (nI i125)]) (rest := [.int (nI 1), .int x125_4]) hG hR dX12_press_142 (lkX12_139 _ rfl) okV_X12_whoHas rfl rfl (m_whoHas0 (d := 2) (e := 6 * i125 + 392) (e2 := 6 * i125 + 391) (by decide) (by omega) (by omega) (by omega) ek191 ek192) rfl rfl hdd (Nat.le_refl _) (Nat.le_refl _) (Nat.le_of_ble_eq_true rfl) (pm_ki (fun v196 σ' cnt' hq => ?_))
                              obtain ⟨rfl, rfl, rfl⟩ := hq
                              refine pm_ishl hG dX12_press_145 ?_
                              refine pm_any (fun x197 => ?_)
                              refine pm_goto (tgt := 150) hG dX12_press_146 rfl ?_
                              refine pm_ior hG dX12_press_150 ?_
                              refine pm_any (fun x198 => ?_)
                              refine pm_istoreXi (loc' := [some (.ref (B + 54)), some (.int za), some (.int zb), some (.int x124), some (.int x198), some (.int (nI i125))]) hG dX12_press_151 (by decide) (pm_c1b rfl) rfl ?_
                              refine pm_iincX (v := nI (i125 + 1)) (loc' := [some (.ref (B + 54)), some (.int za), some (.int zb), some (.int x124), some (.int x198), some (.int (nI (i125 + 1)))]) hG dX12_press_153 rfl (nI_1 _) (by decide) (pm_c1b rfl) rfl ?_
                              refine pm_goto (tgt := 94) hG dX12_press_156 rfl ?_
                              exact ih125 I125 A125 n_125 x198 (i125 + 1) hnn_125 ksn_125 hrn_125 (kc125_0.trans (congrArg nI (by omega))) (kc125_2.trans (congrArg nI (by omega))) (kc125_8.trans (congrArg nI (by omega))) (by omega) (by omega)
                          · refine pm_callV (As := [.int (nI i125)]) (rest := [.int x125_4]) hG hR dX12_press_132 (lkX12_139 _ rfl) okV_X12_whoHas rfl rfl (m_whoHas1 (d := 2) (e := 6 * i125 + 392) (by decide) (by omega) (by omega) ek191 (by omega)) rfl rfl hdd (Nat.le_refl _) (Nat.le_refl _) (Nat.le_of_ble_eq_true rfl) (pm_ki (fun v199 σ' cnt' hq => ?_))
                            obtain ⟨rfl, rfl, rfl⟩ := hq
                            refine pm_ifN_lt hG dX12_press_135 rfl (by omega) ?_
                            refine pm_iconst (v := nI 1) hG dX12_press_138 (by decide) ?_
                            refine pm_aloadn hG dX12_press_139 rfl ?_
                            refine pm_iloadi hG dX12_press_140 rfl ?_
                            refine pm_callV (As := [.int (nI i125)]) (rest := [.int (nI 1), .int x125_4]) hG hR dX12_press_142 (lkX12_139 _ rfl) okV_X12_whoHas rfl rfl (m_whoHas1 (d := 2) (e := 6 * i125 + 392) (by decide) (by omega) (by omega) ek191 (by omega)) rfl rfl hdd (Nat.le_refl _) (Nat.le_refl _) (Nat.le_of_ble_eq_true rfl) (pm_ki (fun v200 σ' cnt' hq => ?_))
                            obtain ⟨rfl, rfl, rfl⟩ := hq
                            refine pm_ishl hG dX12_press_145 ?_
                            refine pm_any (fun x201 => ?_)
                            refine pm_goto (tgt := 150) hG dX12_press_146 rfl ?_
                            refine pm_ior hG dX12_press_150 ?_
                            refine pm_any (fun x202 => ?_)
                            refine pm_istoreXi (loc' := [some (.ref (B + 54)), some (.int za), some (.int zb), some (.int x124), some (.int x202), some (.int (nI i125))]) hG dX12_press_151 (by decide) (pm_c1b rfl) rfl ?_
                            refine pm_iincX (v := nI (i125 + 1)) (loc' := [some (.ref (B + 54)), some (.int za), some (.int zb), some (.int x124), some (.int x202), some (.int (nI (i125 + 1)))]) hG dX12_press_153 rfl (nI_1 _) (by decide) (pm_c1b rfl) rfl ?_
                            refine pm_goto (tgt := 94) hG dX12_press_156 rfl ?_
                            exact ih125 I125 A125 n_125 x202 (i125 + 1) hnn_125 ksn_125 hrn_125 (kc125_0.trans (congrArg nI (by omega))) (kc125_2.trans (congrArg nI (by omega))) (kc125_8.trans (congrArg nI (by omega))) (by omega) (by omega)
                exact loop94_125 _ I A n (nI 0) 0 hn KS.rf hr (ekc0.trans (congrArg nI (by omega))) (ekc2.trans (congrArg nI (by omega))) (ekc8.trans (congrArg nI (by omega))) (by omega) (Nat.lt_succ_self _)
              · refine pm_aloadn hG dX12_press_75 rfl ?_
                refine pm_iconst (v := nI 3) hG dX12_press_76 (by decide) ?_
                refine pm_callV (As := [.int (nI 3)]) (rest := []) hG hR dX12_press_77 (lkX12_80 _ rfl) okV_X12_finds rfl rfl (m_finds (d := 2) (by decide) hn hz (by omega)) rfl rfl hdd (Nat.le_refl _) (Nat.le_refl _) (by decide) (pm_ki (fun v203 σ' cnt' hq => ?_))
                obtain ⟨⟨I204, A204, rfl⟩, rfl, fv203⟩ := hq
                exact pm_iret hG hF dX12_press_80 rfl (Nat.le_refl _) (Nat.le_refl _) ⟨_, rfl, ⟨_, _, _, rfl, hn, hr, ekc0.trans ekc0.symm, ekc2.trans ekc2.symm, ekc8.trans ekc8.symm, KS.rf⟩, rfl⟩
        · refine pm_top (v := nI k13) ek13 ?_
          refine pm_ifN_ge (tgt := 75) hG dX12_press_44 rfl (by omega) ?_
          refine pm_aloadn hG dX12_press_75 rfl ?_
          refine pm_iconst (v := nI 3) hG dX12_press_76 (by decide) ?_
          refine pm_callV (As := [.int (nI 3)]) (rest := []) hG hR dX12_press_77 (lkX12_80 _ rfl) okV_X12_finds rfl rfl (m_finds (d := 2) (by decide) hn hz (by omega)) rfl rfl hdd (Nat.le_refl _) (Nat.le_refl _) (by decide) (pm_ki (fun v205 σ' cnt' hq => ?_))
          obtain ⟨⟨I206, A206, rfl⟩, rfl, fv205⟩ := hq
          exact pm_iret hG hF dX12_press_80 rfl (Nat.le_refl _) (Nat.le_refl _) ⟨_, rfl, ⟨_, _, _, rfl, hn, hr, ekc0.trans ekc0.symm, ekc2.trans ekc2.symm, ekc8.trans ekc8.symm, KS.rf⟩, rfl⟩
      · refine pm_aloadn hG dX12_press_32 rfl ?_
        refine pm_iconst (v := nI 5) hG dX12_press_33 (by decide) ?_
        refine pm_callV (As := [.int (nI 5)]) (rest := []) hG hR dX12_press_34 (lkX12_80 _ rfl) okV_X12_finds rfl rfl (m_finds (d := 2) (by decide) hn hz (by omega)) rfl rfl hdd (Nat.le_refl _) (Nat.le_refl _) (by decide) (pm_ki (fun v207 σ' cnt' hq => ?_))
        obtain ⟨⟨I208, A208, rfl⟩, rfl, fv207⟩ := hq
        exact pm_iret hG hF dX12_press_37 rfl (Nat.le_refl _) (Nat.le_refl _) ⟨_, rfl, ⟨_, _, _, rfl, hn, hr, ekc0.trans ekc0.symm, ekc2.trans ekc2.symm, ekc8.trans ekc8.symm, KS.rf⟩, rfl⟩
    · refine pm_ifN_ne (tgt := 22) hG dX12_press_13 rfl (by omega) (fun q => absurd q (by omega)) (fun _ => ?_)
      refine pm_aloadn hG dX12_press_16 rfl ?_
      refine pm_iconst (v := nI 1) hG dX12_press_17 (by decide) ?_
      refine pm_callV (As := [.int (nI 1)]) (rest := []) hG hR dX12_press_18 (lkX12_80 _ rfl) okV_X12_finds rfl rfl (m_finds (d := 2) (by decide) hn hz (by omega)) rfl rfl hdd (Nat.le_refl _) (Nat.le_refl _) (by decide) (pm_ki (fun v209 σ' cnt' hq => ?_))
      obtain ⟨⟨I210, A210, rfl⟩, rfl, fv209⟩ := hq
      exact pm_iret hG hF dX12_press_21 rfl (Nat.le_refl _) (Nat.le_refl _) ⟨_, rfl, ⟨_, _, _, rfl, hn, hr, ekc0.trans ekc0.symm, ekc2.trans ekc2.symm, ekc8.trans ekc8.symm, KS.rf⟩, rfl⟩
  · refine pm_ifN_eq (tgt := 16) hG dX12_press_5 rfl (by omega) (fun _ => ?_) (fun q => absurd q (by omega))
    refine pm_aloadn hG dX12_press_16 rfl ?_
    refine pm_iconst (v := nI 1) hG dX12_press_17 (by decide) ?_
    refine pm_callV (As := [.int (nI 1)]) (rest := []) hG hR dX12_press_18 (lkX12_80 _ rfl) okV_X12_finds rfl rfl (m_finds (d := 2) (by decide) hn hz (by omega)) rfl rfl hdd (Nat.le_refl _) (Nat.le_refl _) (by decide) (pm_ki (fun v211 σ' cnt' hq => ?_))
    obtain ⟨⟨I212, A212, rfl⟩, rfl, fv211⟩ := hq
    exact pm_iret hG hF dX12_press_21 rfl (Nat.le_refl _) (Nat.le_refl _) ⟨_, rfl, ⟨_, _, _, rfl, hn, hr, ekc0.trans ekc0.symm, ekc2.trans ekc2.symm, ekc8.trans ekc8.symm, KS.rf⟩, rfl⟩
