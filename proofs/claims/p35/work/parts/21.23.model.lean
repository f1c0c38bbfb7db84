set_option maxRecDepth 100000 in
set_option maxHeartbeats 4000000 in
theorem m_press {d B cnt p0 t0 : Nat} {σ : pm_S} {I : Nat → Int32} {A : Nat → Nat → Int32} {n k z : Nat → Int32} {ac wt pl im : Int32} {za zb : Int32} (hdd : 3 ≤ d) (hn : KI n) (hr : NR n) (hz : SZ z)  : pm_met mX12_press d 0 0 B [.ref (B + 54), .int za, .int zb] cnt (pm_mid σ (md_L B I A n k z ac wt pl (nI p0) (nI t0) im)) (pm_Qi (fun v σ' cnt' => (∃ (I' : Nat → Int32) (A' : Nat → Nat → Int32) (n' : Nat → Int32), σ' = pm_mid σ (md_L B I' A' n' k z ac wt pl (nI p0) (nI t0) im) ∧ KI n' ∧ NR n' ∧ n' 0 = n 0 ∧ n' 2 = n 2 ∧ n' 7 = n 7 ∧ n' 8 = n 8 ∧ KS n' n) ∧ cnt = cnt')) := by
  obtain ⟨kc0, hkc0, ekc0⟩ := KI.nat hn (show kd 0 = (1, 11, true) by decide)
  obtain ⟨kc2, hkc2, ekc2⟩ := KI.nat hn (show kd 2 = (1, 21, true) by decide)
  obtain ⟨kc7, hkc7, ekc7⟩ := KI.nat hn (show kd 7 = (1, 31, false) by decide)
  obtain ⟨kc8, hkc8, ekc8⟩ := KI.nat hn (show kd 8 = (1, 2001, false) by decide)
  refine pm_enter 3 (by decide) (Nat.le_of_ble_eq_true rfl) rfl (fun G hG hR hF => ?_)
  refine pm_aloadn hG dX12_press_0 rfl ?_
  refine pm_iloadn hG dX12_press_1 rfl ?_
  obtain ⟨k1, hk1, ek1⟩ := KI.nat hn (show kd 5 = (1, 41, true) by decide)
  refine pm_callV (As := [.int za]) (rest := []) hG hR dX12_press_2 (lkX12_211 _ rfl) okV_X12_isLetter rfl rfl (m_isLetter (d := 2) (by decide) ek1 (by omega)) rfl rfl hdd (Nat.le_refl _) (Nat.le_refl _) (by decide) (pm_ki (fun v2 σ' cnt' hq => ?_))
  obtain ⟨hq, rfl, rfl⟩ := hq
  rcases hq with ⟨rfl, k4, hk4, ek4⟩ | rfl
  · refine pm_ifN_eq (tgt := 16) hG dX12_press_5 rfl (by omega) (fun q => absurd q (by omega)) (fun _ => ?_)
    refine pm_aloadn hG dX12_press_8 rfl ?_
    refine pm_iloadn hG dX12_press_9 rfl ?_
    obtain ⟨k5, hk5, ek5⟩ := KI.nat hn (show kd 3 = (1, 21, false) by decide)
    refine pm_callV (As := [.int zb]) (rest := []) hG hR dX12_press_10 (lkX12_132 _ rfl) okV_X12_isPower rfl rfl (m_isPower (d := 2) (by decide) ek5 (by omega)) rfl rfl hdd (Nat.le_refl _) (Nat.le_refl _) (by decide) (pm_ki (fun v6 σ' cnt' hq => ?_))
    obtain ⟨hq, rfl, rfl⟩ := hq
    rcases hq with ⟨rfl, k8, hk8, ek8⟩ | rfl
    · refine pm_ifN_ne (tgt := 22) hG dX12_press_13 rfl (by omega) (fun _ => ?_) (fun q => absurd q (by omega))
      refine pm_aloadn hG dX12_press_22 rfl ?_
      refine pm_iloadn hG dX12_press_23 rfl ?_
      refine pm_top (v := nI k8) ek8 ?_
      refine pm_iconst (v := nI 0) hG dX12_press_24 (by decide) ?_
      refine pm_callV (As := [.int (nI k8), .int (nI 0)]) (rest := []) hG hR dX12_press_25 (lkX12_110 _ rfl) okV_X12_its rfl rfl (m_its (d := 2) (e := 6 * k8 + 390) (by omega) (by omega) (by omega)) rfl rfl hdd (Nat.le_refl _) (Nat.le_refl _) (by decide) (pm_ki (fun v9 σ' cnt' hq => ?_))
      obtain ⟨rfl, rfl, rfl⟩ := hq
      refine pm_gen (fun x10 ex10 => ?_)
      refine pm_iconst (v := nI 2) hG dX12_press_28 (by decide) ?_
      refine pm_icmp_eq (tgt := 38) hG dX12_press_29 rfl (fun c11 => ?_) (fun c11 => ?_)
      · refine pm_aloadn hG dX12_press_38 rfl ?_
        refine pm_iloadn hG dX12_press_39 rfl ?_
        refine pm_top (v := nI k4) ek4 ?_
        refine pm_iconst (v := nI 4) hG dX12_press_40 (by decide) ?_
        refine pm_callV (As := [.int (nI k4), .int (nI 4)]) (rest := []) hG hR dX12_press_41 (lkX12_199 _ rfl) okV_X12_of rfl rfl (m_of (d := 2) (e := 12 * k4 + 1294) (by omega) (by omega) (by omega)) rfl rfl hdd (Nat.le_refl _) (Nat.le_refl _) (by decide) (pm_ki (fun v12 σ' cnt' hq => ?_))
        obtain ⟨rfl, rfl, rfl⟩ := hq
        rcases KI.opt hn (show kd (12 * k4 + 1294) = (2, 20, true) from (kd_E (k := k4) (c := 4) (by omega) (by omega) (by decide))) with ek13 | ⟨k13, hk13, ek13⟩
        · refine pm_top (v := (-1)) ek13 ?_
          refine pm_if_ge (tgt := 75) hG dX12_press_44 rfl (fun q => absurd q (by decide)) (fun _ => ?_)
          refine pm_aloadn hG dX12_press_47 rfl ?_
          refine pm_iloadn hG dX12_press_48 rfl ?_
          refine pm_top (v := nI k8) ek8 ?_
          rcases KI.opt hn (show kd (6 * k8 + 392) = (2, 20, false) from (kd_W (k := k8) (c := 2) (by omega) (by omega) (by decide))) with ek14 | ⟨k14, hk14, ek14⟩
          · rcases KI.opt hn (show kd (6 * k8 + 391) = (2, 20, false) from (kd_W (k := k8) (c := 1) (by omega) (by omega) (by decide))) with ek15 | ⟨k15, hk15, ek15⟩
            · refine pm_callV (As := [.int (nI k8)]) (rest := []) hG hR dX12_press_49 (lkX12_139 _ rfl) okV_X12_whoHas rfl rfl (m_whoHas0 (d := 2) (e := 6 * k8 + 392) (e2 := 6 * k8 + 391) (by decide) (by omega) (by omega) (by omega) ek14 ek15) rfl rfl hdd (Nat.le_refl _) (Nat.le_refl _) (by decide) (pm_ki (fun v16 σ' cnt' hq => ?_))
              obtain ⟨rfl, rfl, rfl⟩ := hq
              refine pm_if_lt (tgt := 75) hG dX12_press_52 rfl (fun _ => ?_) (fun q => absurd q (by decide))
              refine pm_aloadn hG dX12_press_75 rfl ?_
              refine pm_iconst (v := nI 3) hG dX12_press_76 (by decide) ?_
              refine pm_callV (As := [.int (nI 3)]) (rest := []) hG hR dX12_press_77 (lkX12_80 _ rfl) okV_X12_finds rfl rfl (m_finds (d := 2) (by decide) hn hz (by omega)) rfl rfl hdd (Nat.le_refl _) (Nat.le_refl _) (by decide) (pm_ki (fun v17 σ' cnt' hq => ?_))
              obtain ⟨⟨I18, A18, rfl⟩, rfl, fv17⟩ := hq
              exact pm_iret hG hF dX12_press_80 rfl (Nat.le_refl _) (Nat.le_refl _) ⟨_, rfl, ⟨_, _, _, rfl, hn, hr, ekc0.trans ekc0.symm, ekc2.trans ekc2.symm, ekc7.trans ekc7.symm, ekc8.trans ekc8.symm, KS.rf⟩, rfl⟩
            · refine pm_callV (As := [.int (nI k8)]) (rest := []) hG hR dX12_press_49 (lkX12_139 _ rfl) okV_X12_whoHas rfl rfl (m_whoHas0 (d := 2) (e := 6 * k8 + 392) (e2 := 6 * k8 + 391) (by decide) (by omega) (by omega) (by omega) ek14 ek15) rfl rfl hdd (Nat.le_refl _) (Nat.le_refl _) (by decide) (pm_ki (fun v19 σ' cnt' hq => ?_))
              obtain ⟨rfl, rfl, rfl⟩ := hq
              refine pm_ifN_lt hG dX12_press_52 rfl (by omega) ?_
              refine pm_aloadn hG dX12_press_55 rfl ?_
              refine pm_aloadn hG dX12_press_56 rfl ?_
              refine pm_iloadn hG dX12_press_57 rfl ?_
              refine pm_top (v := nI k8) ek8 ?_
              refine pm_callV (As := [.int (nI k8)]) (rest := [.ref (B + 54)]) hG hR dX12_press_58 (lkX12_139 _ rfl) okV_X12_whoHas rfl rfl (m_whoHas0 (d := 2) (e := 6 * k8 + 392) (e2 := 6 * k8 + 391) (by decide) (by omega) (by omega) (by omega) ek14 ek15) rfl rfl hdd (Nat.le_refl _) (Nat.le_refl _) (Nat.le_of_ble_eq_true rfl) (pm_ki (fun v20 σ' cnt' hq => ?_))
              obtain ⟨rfl, rfl, rfl⟩ := hq
              refine pm_iconst (v := nI 4) hG dX12_press_61 (by decide) ?_
              refine pm_callV (As := [.int (nI k15), .int (nI 4)]) (rest := []) hG hR dX12_press_62 (lkX12_72 _ rfl) okV_X12_man rfl rfl (m_man (d := 2) (e := 14 * k15 + 114) (by omega) (by omega) (by omega)) rfl rfl hdd (Nat.le_refl _) (Nat.le_refl _) (by decide) (pm_ki (fun v21 σ' cnt' hq => ?_))
              obtain ⟨rfl, rfl, rfl⟩ := hq
              rcases KI.opt hn (show kd (14 * k15 + 114) = (2, 10, false) from (kd_P (k := k15) (c := 4) (by omega) (by omega) (by decide))) with ek22 | ⟨k22, hk22, ek22⟩
              · refine pm_top (v := (-1)) ek22 ?_
                refine pm_aloadn hG dX12_press_65 rfl ?_
                refine pm_iloadn hG dX12_press_66 rfl ?_
                refine pm_top (v := nI k4) ek4 ?_
                refine pm_bipush (v := nI 10) hG dX12_press_67 (by decide) ?_
                refine pm_callV (As := [.int (nI k4), .int (nI 10)]) (rest := [.int (-1)]) hG hR dX12_press_69 (lkX12_199 _ rfl) okV_X12_of rfl rfl (m_of (d := 2) (e := 12 * k4 + 1300) (by omega) (by omega) (by omega)) rfl rfl hdd (Nat.le_refl _) (Nat.le_refl _) (Nat.le_of_ble_eq_true rfl) (pm_ki (fun v23 σ' cnt' hq => ?_))
                obtain ⟨rfl, rfl, rfl⟩ := hq
                obtain ⟨k24, hk24, ek24⟩ := KI.nat hn (show kd (12 * k4 + 1300) = (1, 10, false) from (kd_E (k := k4) (c := 10) (by omega) (by omega) (by decide)))
                refine pm_top (v := nI k24) ek24 ?_
                refine pm_icmp_eq (tgt := 81) hG dX12_press_72 rfl (fun q => absurd q ((fun q => nI_m1 (by omega) q.symm))) (fun _ => ?_)
                refine pm_aloadn hG dX12_press_75 rfl ?_
                refine pm_iconst (v := nI 3) hG dX12_press_76 (by decide) ?_
                refine pm_callV (As := [.int (nI 3)]) (rest := []) hG hR dX12_press_77 (lkX12_80 _ rfl) okV_X12_finds rfl rfl (m_finds (d := 2) (by decide) hn hz (by omega)) rfl rfl hdd (Nat.le_refl _) (Nat.le_refl _) (by decide) (pm_ki (fun v25 σ' cnt' hq => ?_))
                obtain ⟨⟨I26, A26, rfl⟩, rfl, fv25⟩ := hq
                exact pm_iret hG hF dX12_press_80 rfl (Nat.le_refl _) (Nat.le_refl _) ⟨_, rfl, ⟨_, _, _, rfl, hn, hr, ekc0.trans ekc0.symm, ekc2.trans ekc2.symm, ekc7.trans ekc7.symm, ekc8.trans ekc8.symm, KS.rf⟩, rfl⟩
              · refine pm_top (v := nI k22) ek22 ?_
                refine pm_aloadn hG dX12_press_65 rfl ?_
                refine pm_iloadn hG dX12_press_66 rfl ?_
                refine pm_top (v := nI k4) ek4 ?_
                refine pm_bipush (v := nI 10) hG dX12_press_67 (by decide) ?_
                refine pm_callV (As := [.int (nI k4), .int (nI 10)]) (rest := [.int (nI k22)]) hG hR dX12_press_69 (lkX12_199 _ rfl) okV_X12_of rfl rfl (m_of (d := 2) (e := 12 * k4 + 1300) (by omega) (by omega) (by omega)) rfl rfl hdd (Nat.le_refl _) (Nat.le_refl _) (Nat.le_of_ble_eq_true rfl) (pm_ki (fun v27 σ' cnt' hq => ?_))
                obtain ⟨rfl, rfl, rfl⟩ := hq
                obtain ⟨k28, hk28, ek28⟩ := KI.nat hn (show kd (12 * k4 + 1300) = (1, 10, false) from (kd_E (k := k4) (c := 10) (by omega) (by omega) (by decide)))
                refine pm_top (v := nI k28) ek28 ?_
                refine pm_icmpN_eq (tgt := 81) hG dX12_press_72 rfl (by omega) (by omega) (fun c29 => ?_) (fun c29 => ?_)
                · refine pm_aloadn hG dX12_press_81 rfl ?_
                  refine pm_iloadn hG dX12_press_82 rfl ?_
                  refine pm_top (v := nI k8) ek8 ?_
                  refine pm_iconst (v := nI 5) hG dX12_press_83 (by decide) ?_
                  refine pm_callV (As := [.int (nI k8), .int (nI 5)]) (rest := []) hG hR dX12_press_84 (lkX12_110 _ rfl) okV_X12_its rfl rfl (m_its (d := 2) (e := 6 * k8 + 395) (by omega) (by omega) (by omega)) rfl rfl hdd (Nat.le_refl _) (Nat.le_refl _) (by decide) (pm_ki (fun v30 σ' cnt' hq => ?_))
                  obtain ⟨rfl, rfl, rfl⟩ := hq
                  refine pm_gen (fun x31 ex31 => ?_)
                  refine pm_istoreXn (loc' := [some (.ref (B + 54)), some (.int za), some (.int zb), some (.int x31), none, none]) hG dX12_press_87 (by decide) (pm_c1b rfl) rfl ?_
                  refine pm_iconst (v := nI 0) hG dX12_press_88 (by decide) ?_
                  refine pm_istoreXi (loc' := [some (.ref (B + 54)), some (.int za), some (.int zb), some (.int x31), some (.int (nI 0)), none]) hG dX12_press_89 (by decide) (pm_c1b rfl) rfl ?_
                  refine pm_iconst (v := nI 0) hG dX12_press_91 (by decide) ?_
                  refine pm_istoreXi (loc' := [some (.ref (B + 54)), some (.int za), some (.int zb), some (.int x31), some (.int (nI 0)), some (.int (nI 0))]) hG dX12_press_92 (by decide) (pm_c1b rfl) rfl ?_
                  have loop94_32 : ∀ (m32 : Nat) (I32 : Nat → Int32) (A32 : Nat → Nat → Int32) (n_32 : Nat → Int32) (x32_4 : Int32) (i32 : Nat), KI n_32 → KS n_32 n → NRx 40 n_32 → n_32 0 = nI kc0 → n_32 2 = nI kc2 → n_32 7 = nI kc7 → n_32 8 = nI kc8 → i32 ≤ 20 → 20 - i32 < m32 → pm_wp mX12_press G B 94 [some (.ref (B + 54)), some (.int za), some (.int zb), some (.int x31), some (.int x32_4), some (.int (nI i32))] [] 0 0 cnt (pm_mid σ (md_L B I32 A32 n_32 k z ac wt pl (nI p0) (nI t0) im)) := by
                    intro m32
                    induction m32 with
                    | zero => intro I32 A32 n_32 x32_4 i32 _ _ _ _ _ _ _ _ hm; exact absurd hm (Nat.not_lt_zero _)
                    | succ m32 ih32 =>
                      intro I32 A32 n_32 x32_4 i32 hnn_32 ksn_32 hrn_32 kc32_0 kc32_2 kc32_7 kc32_8 hi32 hm32
                      refine pm_iloadi hG dX12_press_94 rfl ?_
                      refine pm_aloadn hG dX12_press_96 rfl ?_
                      refine pm_getf hG dX12_press_97 (flX12_7 _ rfl) rfl rfl ?_
                      refine pm_iconst (v := nI 3) hG dX12_press_100 (by decide) ?_
                      refine pm_ialdN hG dX12_press_101 rfl (by decide) (by omega) ?_
                      obtain ⟨k33, hk33, ek33⟩ := KI.nat hnn_32 (show kd 3 = (1, 21, false) by decide)
                      refine pm_top (v := nI k33) ek33 ?_
                      refine pm_icmpN_ge (tgt := 159) hG dX12_press_102 rfl (by omega) (by omega) (fun c34 => ?_) (fun c34 => ?_)
                      · refine pm_aloadn hG dX12_press_159 rfl ?_
                        refine pm_aloadn hG dX12_press_160 rfl ?_
                        refine pm_iloadn hG dX12_press_161 rfl ?_
                        refine pm_top (v := nI k4) ek4 ?_
                        refine pm_bipush (v := nI 10) hG dX12_press_162 (by decide) ?_
                        refine pm_callV (As := [.int (nI k4), .int (nI 10)]) (rest := [.ref (B + 54)]) hG hR dX12_press_164 (lkX12_199 _ rfl) okV_X12_of rfl rfl (m_of (d := 2) (e := 12 * k4 + 1300) (by omega) (by omega) (by omega)) rfl rfl hdd (Nat.le_refl _) (Nat.le_refl _) (Nat.le_of_ble_eq_true rfl) (pm_ki (fun v35 σ' cnt' hq => ?_))
                        obtain ⟨rfl, rfl, rfl⟩ := hq
                        obtain ⟨k36, hk36, ek36⟩ := KI.nat hnn_32 (show kd (12 * k4 + 1300) = (1, 10, false) from (kd_E (k := k4) (c := 10) (by omega) (by omega) (by decide)))
                        refine pm_top (v := nI k36) ek36 ?_
                        refine pm_callV (As := [.int (nI k36)]) (rest := []) hG hR dX12_press_167 (lkX12_220 _ rfl) okV_X12_thoseIn rfl rfl (m_thoseIn (d := 2) (by decide) hnn_32 hz) rfl rfl hdd (Nat.le_refl _) (Nat.le_refl _) (by decide) (pm_ki (fun v37 σ' cnt' hq => ?_))
                        obtain ⟨rfl, rfl⟩ := hq
                        refine pm_iloadi hG dX12_press_170 rfl ?_
                        refine pm_iand hG dX12_press_172 ?_
                        refine pm_any (fun x39 => ?_)
                        refine pm_istoreXi (loc' := [some (.ref (B + 54)), some (.int za), some (.int zb), some (.int x31), some (.int x32_4), some (.int x39)]) hG dX12_press_173 (by decide) (pm_c1b rfl) rfl ?_
                        refine pm_aloadn hG dX12_press_175 rfl ?_
                        refine pm_iloadn hG dX12_press_176 rfl ?_
                        refine pm_top (v := nI k4) ek4 ?_
                        refine pm_bipush (v := nI 9) hG dX12_press_177 (by decide) ?_
                        refine pm_aloadn hG dX12_press_179 rfl ?_
                        refine pm_iloadn hG dX12_press_180 rfl ?_
                        refine pm_top (v := nI k4) ek4 ?_
                        refine pm_iconst (v := nI 3) hG dX12_press_181 (by decide) ?_
                        refine pm_callV (As := [.int (nI k4), .int (nI 3)]) (rest := [.int (nI 9), .int (nI k4), .ref (B + 54)]) hG hR dX12_press_182 (lkX12_199 _ rfl) okV_X12_of rfl rfl (m_of (d := 2) (e := 12 * k4 + 1293) (by omega) (by omega) (by omega)) rfl rfl hdd (Nat.le_refl _) (Nat.le_refl _) (Nat.le_of_ble_eq_true rfl) (pm_ki (fun v40 σ' cnt' hq => ?_))
                        obtain ⟨rfl, rfl, rfl⟩ := hq
                        refine pm_gen (fun x41 ex41 => ?_)
                        refine pm_if_ne (tgt := 193) hG dX12_press_185 rfl (fun c42 => ?_) (fun c42 => ?_)
                        · refine pm_aloadn hG dX12_press_193 rfl ?_
                          refine pm_iloadn hG dX12_press_194 rfl ?_
                          refine pm_top (v := nI k4) ek4 ?_
                          refine pm_bipush (v := nI 9) hG dX12_press_195 (by decide) ?_
                          refine pm_callV (As := [.int (nI k4), .int (nI 9)]) (rest := [.int (nI 9), .int (nI k4), .ref (B + 54)]) hG hR dX12_press_197 (lkX12_199 _ rfl) okV_X12_of rfl rfl (m_of (d := 2) (e := 12 * k4 + 1299) (by omega) (by omega) (by omega)) rfl rfl hdd (Nat.le_refl _) (Nat.le_refl _) (Nat.le_of_ble_eq_true rfl) (pm_ki (fun v43 σ' cnt' hq => ?_))
                          obtain ⟨rfl, rfl, rfl⟩ := hq
                          refine pm_gen (fun x44 ex44 => ?_)
                          refine pm_iloadi hG dX12_press_200 rfl ?_
                          refine pm_iand hG dX12_press_202 ?_
                          refine pm_any (fun x45 => ?_)
                          refine pm_callV (As := [.int (nI k4), .int (nI 9), .int x45]) (rest := []) hG hR dX12_press_203 (lkX12_217 _ rfl) okV_X12_writes rfl rfl (m_writes (d := 2) (e := 12 * k4 + 1299) (by omega) (by omega) (by omega)) rfl rfl hdd (Nat.le_refl _) (Nat.le_refl _) (by decide) (pm_kv (fun σ' cnt' hq => ?_))
                          obtain ⟨rfl, rfl⟩ := hq
                          obtain ⟨n_46, en_46⟩ : ∃ f : Nat → Int32, f = upd n_32 (12 * k4 + 1299) x45 := ⟨_, rfl⟩
                          rw [← en_46]
                          have hnn_46 := KI.w en_46 hnn_32 (okv_f (show kd (12 * k4 + 1299) = (0, 0, false) from (kd_E (k := k4) (c := 9) (by omega) (by omega) (by decide))))
                          have hrn_46 := NRx.w en_46 hrn_32 (by rw [(show kd (12 * k4 + 1299) = (0, 0, false) from (kd_E (k := k4) (c := 9) (by omega) (by omega) (by decide)))])
                          have ksn_46 := KS.w en_46 ksn_32 (by unfold tS; omega)
                          have e47 : n_46 0 = nI kc0 := by rw [en_46, pk_un (by omega)]; exact kc32_0
                          have e48 : n_46 2 = nI kc2 := by rw [en_46, pk_un (by omega)]; exact kc32_2
                          have e49 : n_46 7 = nI kc7 := by rw [en_46, pk_un (by omega)]; exact kc32_7
                          have e50 : n_46 8 = nI kc8 := by rw [en_46, pk_un (by omega)]; exact kc32_8
                          have e51 : n_46 3 = nI k33 := by rw [en_46, pk_un (by omega)]; exact ek33
                          have e52 : n_46 (12 * k4 + 1300) = nI k36 := by rw [en_46, pk_un (by omega)]; exact ek36
                          have e53 : n_46 (12 * k4 + 1293) = x41 := by rw [en_46, pk_un (by omega)]; exact ex41
                          have e54 : n_46 (12 * k4 + 1299) = x45 := by rw [en_46, pk_us]
                          refine pm_aloadn hG dX12_press_206 rfl ?_
                          refine pm_iloadn hG dX12_press_207 rfl ?_
                          refine pm_top (v := nI k4) ek4 ?_
                          refine pm_iconst (v := nI 3) hG dX12_press_208 (by decide) ?_
                          refine pm_aloadn hG dX12_press_209 rfl ?_
                          refine pm_iloadn hG dX12_press_210 rfl ?_
                          refine pm_top (v := nI k4) ek4 ?_
                          refine pm_iconst (v := nI 3) hG dX12_press_211 (by decide) ?_
                          refine pm_callV (As := [.int (nI k4), .int (nI 3)]) (rest := [.int (nI 3), .int (nI k4), .ref (B + 54)]) hG hR dX12_press_212 (lkX12_199 _ rfl) okV_X12_of rfl rfl (m_of (d := 2) (e := 12 * k4 + 1293) (by omega) (by omega) (by omega)) rfl rfl hdd (Nat.le_refl _) (Nat.le_refl _) (Nat.le_of_ble_eq_true rfl) (pm_ki (fun v55 σ' cnt' hq => ?_))
                          obtain ⟨rfl, rfl, rfl⟩ := hq
                          refine pm_top (v := x41) e53 ?_
                          refine pm_iconst (v := nI 1) hG dX12_press_215 (by decide) ?_
                          refine pm_iloadn hG dX12_press_216 rfl ?_
                          refine pm_ishl hG dX12_press_217 ?_
                          refine pm_any (fun x56 => ?_)
                          refine pm_ior hG dX12_press_218 ?_
                          refine pm_any (fun x57 => ?_)
                          refine pm_callV (As := [.int (nI k4), .int (nI 3), .int x57]) (rest := []) hG hR dX12_press_219 (lkX12_217 _ rfl) okV_X12_writes rfl rfl (m_writes (d := 2) (e := 12 * k4 + 1293) (by omega) (by omega) (by omega)) rfl rfl hdd (Nat.le_refl _) (Nat.le_refl _) (by decide) (pm_kv (fun σ' cnt' hq => ?_))
                          obtain ⟨rfl, rfl⟩ := hq
                          obtain ⟨n_58, en_58⟩ : ∃ f : Nat → Int32, f = upd n_46 (12 * k4 + 1293) x57 := ⟨_, rfl⟩
                          rw [← en_58]
                          have hnn_58 := KI.w en_58 hnn_46 (okv_f (show kd (12 * k4 + 1293) = (0, 0, false) from (kd_E (k := k4) (c := 3) (by omega) (by omega) (by decide))))
                          have hrn_58 := NRx.w en_58 hrn_46 (by rw [(show kd (12 * k4 + 1293) = (0, 0, false) from (kd_E (k := k4) (c := 3) (by omega) (by omega) (by decide)))])
                          have ksn_58 := KS.w en_58 ksn_46 (by unfold tS; omega)
                          have e59 : n_58 0 = nI kc0 := by rw [en_58, pk_un (by omega)]; exact e47
                          have e60 : n_58 2 = nI kc2 := by rw [en_58, pk_un (by omega)]; exact e48
                          have e61 : n_58 7 = nI kc7 := by rw [en_58, pk_un (by omega)]; exact e49
                          have e62 : n_58 8 = nI kc8 := by rw [en_58, pk_un (by omega)]; exact e50
                          have e63 : n_58 3 = nI k33 := by rw [en_58, pk_un (by omega)]; exact e51
                          have e64 : n_58 (12 * k4 + 1300) = nI k36 := by rw [en_58, pk_un (by omega)]; exact e52
                          have e65 : n_58 (12 * k4 + 1299) = x45 := by rw [en_58, pk_un (by omega)]; exact e54
                          have e66 : n_58 (12 * k4 + 1293) = x57 := by rw [en_58, pk_us]
                          refine pm_aloadn hG dX12_press_222 rfl ?_
                          refine pm_iloadn hG dX12_press_223 rfl ?_
                          refine pm_top (v := nI k4) ek4 ?_
                          refine pm_iconst (v := nI 3) hG dX12_press_224 (by decide) ?_
                          refine pm_callV (As := [.int (nI k4), .int (nI 3)]) (rest := []) hG hR dX12_press_225 (lkX12_199 _ rfl) okV_X12_of rfl rfl (m_of (d := 2) (e := 12 * k4 + 1293) (by omega) (by omega) (by omega)) rfl rfl hdd (Nat.le_refl _) (Nat.le_refl _) (by decide) (pm_ki (fun v67 σ' cnt' hq => ?_))
                          obtain ⟨rfl, rfl, rfl⟩ := hq
                          refine pm_top (v := x57) e66 ?_
                          refine pm_callS (As := [.int x57]) (rest := []) hG hR dX12_press_228 (lkX12_202 _ rfl) okS_X12_bits (m_bits (d := 2) (by decide) hnn_58 hz) rfl rfl hdd (Nat.le_refl _) (Nat.le_refl _) (by decide) (pm_ki (fun v68 σ' cnt' hq => ?_))
                          obtain ⟨rfl, rfl⟩ := hq
                          exact pm_iret hG hF dX12_press_231 rfl (Nat.le_refl _) (Nat.le_refl _) ⟨_, rfl, ⟨_, _, _, rfl, hnn_58, hrn_58, e59.trans ekc0.symm, e60.trans ekc2.symm, e61.trans ekc7.symm, e62.trans ekc8.symm, ksn_58⟩, rfl⟩
                        · refine pm_iloadi hG dX12_press_188 rfl ?_
                          refine pm_goto (tgt := 203) hG dX12_press_190 rfl ?_
                          refine pm_callV (As := [.int (nI k4), .int (nI 9), .int x39]) (rest := []) hG hR dX12_press_203 (lkX12_217 _ rfl) okV_X12_writes rfl rfl (m_writes (d := 2) (e := 12 * k4 + 1299) (by omega) (by omega) (by omega)) rfl rfl hdd (Nat.le_refl _) (Nat.le_refl _) (by decide) (pm_kv (fun σ' cnt' hq => ?_))
                          obtain ⟨rfl, rfl⟩ := hq
                          obtain ⟨n_70, en_70⟩ : ∃ f : Nat → Int32, f = upd n_32 (12 * k4 + 1299) x39 := ⟨_, rfl⟩
                          rw [← en_70]
                          have hnn_70 := KI.w en_70 hnn_32 (okv_f (show kd (12 * k4 + 1299) = (0, 0, false) from (kd_E (k := k4) (c := 9) (by omega) (by omega) (by decide))))
                          have hrn_70 := NRx.w en_70 hrn_32 (by rw [(show kd (12 * k4 + 1299) = (0, 0, false) from (kd_E (k := k4) (c := 9) (by omega) (by omega) (by decide)))])
                          have ksn_70 := KS.w en_70 ksn_32 (by unfold tS; omega)
                          have e71 : n_70 0 = nI kc0 := by rw [en_70, pk_un (by omega)]; exact kc32_0
                          have e72 : n_70 2 = nI kc2 := by rw [en_70, pk_un (by omega)]; exact kc32_2
                          have e73 : n_70 7 = nI kc7 := by rw [en_70, pk_un (by omega)]; exact kc32_7
                          have e74 : n_70 8 = nI kc8 := by rw [en_70, pk_un (by omega)]; exact kc32_8
                          have e75 : n_70 3 = nI k33 := by rw [en_70, pk_un (by omega)]; exact ek33
                          have e76 : n_70 (12 * k4 + 1300) = nI k36 := by rw [en_70, pk_un (by omega)]; exact ek36
                          have e77 : n_70 (12 * k4 + 1293) = x41 := by rw [en_70, pk_un (by omega)]; exact ex41
                          have e78 : n_70 (12 * k4 + 1299) = x39 := by rw [en_70, pk_us]
                          refine pm_aloadn hG dX12_press_206 rfl ?_
                          refine pm_iloadn hG dX12_press_207 rfl ?_
                          refine pm_top (v := nI k4) ek4 ?_
                          refine pm_iconst (v := nI 3) hG dX12_press_208 (by decide) ?_
                          refine pm_aloadn hG dX12_press_209 rfl ?_
                          refine pm_iloadn hG dX12_press_210 rfl ?_
                          refine pm_top (v := nI k4) ek4 ?_
                          refine pm_iconst (v := nI 3) hG dX12_press_211 (by decide) ?_
                          refine pm_callV (As := [.int (nI k4), .int (nI 3)]) (rest := [.int (nI 3), .int (nI k4), .ref (B + 54)]) hG hR dX12_press_212 (lkX12_199 _ rfl) okV_X12_of rfl rfl (m_of (d := 2) (e := 12 * k4 + 1293) (by omega) (by omega) (by omega)) rfl rfl hdd (Nat.le_refl _) (Nat.le_refl _) (Nat.le_of_ble_eq_true rfl) (pm_ki (fun v79 σ' cnt' hq => ?_))
                          obtain ⟨rfl, rfl, rfl⟩ := hq
                          refine pm_top (v := x41) e77 ?_
                          refine pm_iconst (v := nI 1) hG dX12_press_215 (by decide) ?_
                          refine pm_iloadn hG dX12_press_216 rfl ?_
                          refine pm_ishl hG dX12_press_217 ?_
                          refine pm_any (fun x80 => ?_)
                          refine pm_ior hG dX12_press_218 ?_
                          refine pm_any (fun x81 => ?_)
                          refine pm_callV (As := [.int (nI k4), .int (nI 3), .int x81]) (rest := []) hG hR dX12_press_219 (lkX12_217 _ rfl) okV_X12_writes rfl rfl (m_writes (d := 2) (e := 12 * k4 + 1293) (by omega) (by omega) (by omega)) rfl rfl hdd (Nat.le_refl _) (Nat.le_refl _) (by decide) (pm_kv (fun σ' cnt' hq => ?_))
                          obtain ⟨rfl, rfl⟩ := hq
                          obtain ⟨n_82, en_82⟩ : ∃ f : Nat → Int32, f = upd n_70 (12 * k4 + 1293) x81 := ⟨_, rfl⟩
                          rw [← en_82]
                          have hnn_82 := KI.w en_82 hnn_70 (okv_f (show kd (12 * k4 + 1293) = (0, 0, false) from (kd_E (k := k4) (c := 3) (by omega) (by omega) (by decide))))
                          have hrn_82 := NRx.w en_82 hrn_70 (by rw [(show kd (12 * k4 + 1293) = (0, 0, false) from (kd_E (k := k4) (c := 3) (by omega) (by omega) (by decide)))])
                          have ksn_82 := KS.w en_82 ksn_70 (by unfold tS; omega)
                          have e83 : n_82 0 = nI kc0 := by rw [en_82, pk_un (by omega)]; exact e71
                          have e84 : n_82 2 = nI kc2 := by rw [en_82, pk_un (by omega)]; exact e72
                          have e85 : n_82 7 = nI kc7 := by rw [en_82, pk_un (by omega)]; exact e73
                          have e86 : n_82 8 = nI kc8 := by rw [en_82, pk_un (by omega)]; exact e74
                          have e87 : n_82 3 = nI k33 := by rw [en_82, pk_un (by omega)]; exact e75
                          have e88 : n_82 (12 * k4 + 1300) = nI k36 := by rw [en_82, pk_un (by omega)]; exact e76
                          have e89 : n_82 (12 * k4 + 1299) = x39 := by rw [en_82, pk_un (by omega)]; exact e78
                          have e90 : n_82 (12 * k4 + 1293) = x81 := by rw [en_82, pk_us]
                          refine pm_aloadn hG dX12_press_222 rfl ?_
                          refine pm_iloadn hG dX12_press_223 rfl ?_
                          refine pm_top (v := nI k4) ek4 ?_
                          refine pm_iconst (v := nI 3) hG dX12_press_224 (by decide) ?_
                          refine pm_callV (As := [.int (nI k4), .int (nI 3)]) (rest := []) hG hR dX12_press_225 (lkX12_199 _ rfl) okV_X12_of rfl rfl (m_of (d := 2) (e := 12 * k4 + 1293) (by omega) (by omega) (by omega)) rfl rfl hdd (Nat.le_refl _) (Nat.le_refl _) (by decide) (pm_ki (fun v91 σ' cnt' hq => ?_))
                          obtain ⟨rfl, rfl, rfl⟩ := hq
                          refine pm_top (v := x81) e90 ?_
                          refine pm_callS (As := [.int x81]) (rest := []) hG hR dX12_press_228 (lkX12_202 _ rfl) okS_X12_bits (m_bits (d := 2) (by decide) hnn_82 hz) rfl rfl hdd (Nat.le_refl _) (Nat.le_refl _) (by decide) (pm_ki (fun v92 σ' cnt' hq => ?_))
                          obtain ⟨rfl, rfl⟩ := hq
                          exact pm_iret hG hF dX12_press_231 rfl (Nat.le_refl _) (Nat.le_refl _) ⟨_, rfl, ⟨_, _, _, rfl, hnn_82, hrn_82, e83.trans ekc0.symm, e84.trans ekc2.symm, e85.trans ekc7.symm, e86.trans ekc8.symm, ksn_82⟩, rfl⟩
                      · refine pm_iloadi hG dX12_press_105 rfl ?_
                        refine pm_aloadn hG dX12_press_107 rfl ?_
                        refine pm_iloadi hG dX12_press_108 rfl ?_
                        refine pm_iconst (v := nI 0) hG dX12_press_110 (by decide) ?_
                        refine pm_callV (As := [.int (nI i32), .int (nI 0)]) (rest := [.int x32_4]) hG hR dX12_press_111 (lkX12_110 _ rfl) okV_X12_its rfl rfl (m_its (d := 2) (e := 6 * i32 + 390) (by omega) (by omega) (by omega)) rfl rfl hdd (Nat.le_refl _) (Nat.le_refl _) (Nat.le_of_ble_eq_true rfl) (pm_ki (fun v94 σ' cnt' hq => ?_))
                        obtain ⟨rfl, rfl, rfl⟩ := hq
                        refine pm_gen (fun x95 ex95 => ?_)
                        refine pm_iconst (v := nI 2) hG dX12_press_114 (by decide) ?_
                        refine pm_icmp_ne (tgt := 149) hG dX12_press_115 rfl (fun c96 => ?_) (fun c96 => ?_)
                        · refine pm_iconst (v := nI 0) hG dX12_press_149 (by decide) ?_
                          refine pm_ior hG dX12_press_150 ?_
                          refine pm_any (fun x97 => ?_)
                          refine pm_istoreXi (loc' := [some (.ref (B + 54)), some (.int za), some (.int zb), some (.int x31), some (.int x97), some (.int (nI i32))]) hG dX12_press_151 (by decide) (pm_c1b rfl) rfl ?_
                          refine pm_iincX (v := nI (i32 + 1)) (loc' := [some (.ref (B + 54)), some (.int za), some (.int zb), some (.int x31), some (.int x97), some (.int (nI (i32 + 1)))]) hG dX12_press_153 rfl (nI_1 _) (by decide) (pm_c1b rfl) rfl ?_
                          refine pm_goto (tgt := 94) hG dX12_press_156 rfl ?_
                          exact ih32 I32 A32 n_32 x97 (i32 + 1) hnn_32 ksn_32 hrn_32 (kc32_0.trans (congrArg nI (by omega))) (kc32_2.trans (congrArg nI (by omega))) (kc32_7.trans (congrArg nI (by omega))) (kc32_8.trans (congrArg nI (by omega))) (by omega) (by omega)
                        · refine pm_aloadn hG dX12_press_118 rfl ?_
                          refine pm_iloadi hG dX12_press_119 rfl ?_
                          refine pm_iconst (v := nI 5) hG dX12_press_121 (by decide) ?_
                          refine pm_callV (As := [.int (nI i32), .int (nI 5)]) (rest := [.int x32_4]) hG hR dX12_press_122 (lkX12_110 _ rfl) okV_X12_its rfl rfl (m_its (d := 2) (e := 6 * i32 + 395) (by omega) (by omega) (by omega)) rfl rfl hdd (Nat.le_refl _) (Nat.le_refl _) (Nat.le_of_ble_eq_true rfl) (pm_ki (fun v98 σ' cnt' hq => ?_))
                          obtain ⟨rfl, rfl, rfl⟩ := hq
                          refine pm_gen (fun x99 ex99 => ?_)
                          refine pm_iloadn hG dX12_press_125 rfl ?_
                          refine pm_icmp_ne (tgt := 149) hG dX12_press_126 rfl (fun c100 => ?_) (fun c100 => ?_)
                          · refine pm_iconst (v := nI 0) hG dX12_press_149 (by decide) ?_
                            refine pm_ior hG dX12_press_150 ?_
                            refine pm_any (fun x101 => ?_)
                            refine pm_istoreXi (loc' := [some (.ref (B + 54)), some (.int za), some (.int zb), some (.int x31), some (.int x101), some (.int (nI i32))]) hG dX12_press_151 (by decide) (pm_c1b rfl) rfl ?_
                            refine pm_iincX (v := nI (i32 + 1)) (loc' := [some (.ref (B + 54)), some (.int za), some (.int zb), some (.int x31), some (.int x101), some (.int (nI (i32 + 1)))]) hG dX12_press_153 rfl (nI_1 _) (by decide) (pm_c1b rfl) rfl ?_
                            refine pm_goto (tgt := 94) hG dX12_press_156 rfl ?_
                            exact ih32 I32 A32 n_32 x101 (i32 + 1) hnn_32 ksn_32 hrn_32 (kc32_0.trans (congrArg nI (by omega))) (kc32_2.trans (congrArg nI (by omega))) (kc32_7.trans (congrArg nI (by omega))) (kc32_8.trans (congrArg nI (by omega))) (by omega) (by omega)
                          · refine pm_aloadn hG dX12_press_129 rfl ?_
                            refine pm_iloadi hG dX12_press_130 rfl ?_
                            rcases KI.opt hnn_32 (show kd (6 * i32 + 392) = (2, 20, false) from (kd_W (k := i32) (c := 2) (by omega) (by omega) (by decide))) with ek102 | ⟨k102, hk102, ek102⟩
                            · rcases KI.opt hnn_32 (show kd (6 * i32 + 391) = (2, 20, false) from (kd_W (k := i32) (c := 1) (by omega) (by omega) (by decide))) with ek103 | ⟨k103, hk103, ek103⟩
                              · refine pm_callV (As := [.int (nI i32)]) (rest := [.int x32_4]) hG hR dX12_press_132 (lkX12_139 _ rfl) okV_X12_whoHas rfl rfl (m_whoHas0 (d := 2) (e := 6 * i32 + 392) (e2 := 6 * i32 + 391) (by decide) (by omega) (by omega) (by omega) ek102 ek103) rfl rfl hdd (Nat.le_refl _) (Nat.le_refl _) (Nat.le_of_ble_eq_true rfl) (pm_ki (fun v104 σ' cnt' hq => ?_))
                                obtain ⟨rfl, rfl, rfl⟩ := hq
                                refine pm_if_lt (tgt := 149) hG dX12_press_135 rfl (fun _ => ?_) (fun q => absurd q (by decide))
                                refine pm_iconst (v := nI 0) hG dX12_press_149 (by decide) ?_
                                refine pm_ior hG dX12_press_150 ?_
                                refine pm_any (fun x105 => ?_)
                                refine pm_istoreXi (loc' := [some (.ref (B + 54)), some (.int za), some (.int zb), some (.int x31), some (.int x105), some (.int (nI i32))]) hG dX12_press_151 (by decide) (pm_c1b rfl) rfl ?_
                                refine pm_iincX (v := nI (i32 + 1)) (loc' := [some (.ref (B + 54)), some (.int za), some (.int zb), some (.int x31), some (.int x105), some (.int (nI (i32 + 1)))]) hG dX12_press_153 rfl (nI_1 _) (by decide) (pm_c1b rfl) rfl ?_
                                refine pm_goto (tgt := 94) hG dX12_press_156 rfl ?_
                                exact ih32 I32 A32 n_32 x105 (i32 + 1) hnn_32 ksn_32 hrn_32 (kc32_0.trans (congrArg nI (by omega))) (kc32_2.trans (congrArg nI (by omega))) (kc32_7.trans (congrArg nI (by omega))) (kc32_8.trans (congrArg nI (by omega))) (by omega) (by omega)
                              · refine pm_callV (As := [.int (nI i32)]) (rest := [.int x32_4]) hG hR dX12_press_132 (lkX12_139 _ rfl) okV_X12_whoHas rfl rfl (m_whoHas0 (d := 2) (e := 6 * i32 + 392) (e2 := 6 * i32 + 391) (by decide) (by omega) (by omega) (by omega) ek102 ek103) rfl rfl hdd (Nat.le_refl _) (Nat.le_refl _) (Nat.le_of_ble_eq_true rfl) (pm_ki (fun v106 σ' cnt' hq => ?_))
                                obtain ⟨rfl, rfl, rfl⟩ := hq
                                refine pm_ifN_lt hG dX12_press_135 rfl (by omega) ?_
                                refine pm_iconst (v := nI 1) hG dX12_press_138 (by decide) ?_
                                refine pm_aloadn hG dX12_press_139 rfl ?_
                                refine pm_iloadi hG dX12_press_140 rfl ?_
                                refine pm_callV (As := [.int (nI i32)]) (rest := [.int (nI 1), .int x32_4]) hG hR dX12_press_142 (lkX12_139 _ rfl) okV_X12_whoHas rfl rfl (m_whoHas0 (d := 2) (e := 6 * i32 + 392) (e2 := 6 * i32 + 391) (by decide) (by omega) (by omega) (by omega) ek102 ek103) rfl rfl hdd (Nat.le_refl _) (Nat.le_refl _) (Nat.le_of_ble_eq_true rfl) (pm_ki (fun v107 σ' cnt' hq => ?_))
                                obtain ⟨rfl, rfl, rfl⟩ := hq
                                refine pm_ishl hG dX12_press_145 ?_
                                refine pm_any (fun x108 => ?_)
                                refine pm_goto (tgt := 150) hG dX12_press_146 rfl ?_
                                refine pm_ior hG dX12_press_150 ?_
                                refine pm_any (fun x109 => ?_)
                                refine pm_istoreXi (loc' := [some (.ref (B + 54)), some (.int za), some (.int zb), some (.int x31), some (.int x109), some (.int (nI i32))]) hG dX12_press_151 (by decide) (pm_c1b rfl) rfl ?_
                                refine pm_iincX (v := nI (i32 + 1)) (loc' := [some (.ref (B + 54)), some (.int za), some (.int zb), some (.int x31), some (.int x109), some (.int (nI (i32 + 1)))]) hG dX12_press_153 rfl (nI_1 _) (by decide) (pm_c1b rfl) rfl ?_
                                refine pm_goto (tgt := 94) hG dX12_press_156 rfl ?_
                                exact ih32 I32 A32 n_32 x109 (i32 + 1) hnn_32 ksn_32 hrn_32 (kc32_0.trans (congrArg nI (by omega))) (kc32_2.trans (congrArg nI (by omega))) (kc32_7.trans (congrArg nI (by omega))) (kc32_8.trans (congrArg nI (by omega))) (by omega) (by omega)
                            · refine pm_callV (As := [.int (nI i32)]) (rest := [.int x32_4]) hG hR dX12_press_132 (lkX12_139 _ rfl) okV_X12_whoHas rfl rfl (m_whoHas1 (d := 2) (e := 6 * i32 + 392) (by decide) (by omega) (by omega) ek102 (by omega)) rfl rfl hdd (Nat.le_refl _) (Nat.le_refl _) (Nat.le_of_ble_eq_true rfl) (pm_ki (fun v110 σ' cnt' hq => ?_))
                              obtain ⟨rfl, rfl, rfl⟩ := hq
                              refine pm_ifN_lt hG dX12_press_135 rfl (by omega) ?_
                              refine pm_iconst (v := nI 1) hG dX12_press_138 (by decide) ?_
                              refine pm_aloadn hG dX12_press_139 rfl ?_
                              refine pm_iloadi hG dX12_press_140 rfl ?_
                              refine pm_callV (As := [.int (nI i32)]) (rest := [.int (nI 1), .int x32_4]) hG hR dX12_press_142 (lkX12_139 _ rfl) okV_X12_whoHas rfl rfl (m_whoHas1 (d := 2) (e := 6 * i32 + 392) (by decide) (by omega) (by omega) ek102 (by omega)) rfl rfl hdd (Nat.le_refl _) (Nat.le_refl _) (Nat.le_of_ble_eq_true rfl) (pm_ki (fun v111 σ' cnt' hq => ?_))
                              obtain ⟨rfl, rfl, rfl⟩ := hq
                              refine pm_ishl hG dX12_press_145 ?_
                              refine pm_any (fun x112 => ?_)
                              refine pm_goto (tgt := 150) hG dX12_press_146 rfl ?_
                              refine pm_ior hG dX12_press_150 ?_
                              refine pm_any (fun x113 => ?_)
                              refine pm_istoreXi (loc' := [some (.ref (B + 54)), some (.int za), some (.int zb), some (.int x31), some (.int x113), some (.int (nI i32))]) hG dX12_press_151 (by decide) (pm_c1b rfl) rfl ?_
                              refine pm_iincX (v := nI (i32 + 1)) (loc' := [some (.ref (B + 54)), some (.int za), some (.int zb), some (.int x31), some (.int x113), some (.int (nI (i32 + 1)))]) hG dX12_press_153 rfl (nI_1 _) (by decide) (pm_c1b rfl) rfl ?_
                              refine pm_goto (tgt := 94) hG dX12_press_156 rfl ?_
                              exact ih32 I32 A32 n_32 x113 (i32 + 1) hnn_32 ksn_32 hrn_32 (kc32_0.trans (congrArg nI (by omega))) (kc32_2.trans (congrArg nI (by omega))) (kc32_7.trans (congrArg nI (by omega))) (kc32_8.trans (congrArg nI (by omega))) (by omega) (by omega)
                  exact loop94_32 _ I A n (nI 0) 0 hn KS.rf hr (ekc0.trans (congrArg nI (by omega))) (ekc2.trans (congrArg nI (by omega))) (ekc7.trans (congrArg nI (by omega))) (ekc8.trans (congrArg nI (by omega))) (by omega) (Nat.lt_succ_self _)
                · refine pm_aloadn hG dX12_press_75 rfl ?_
                  refine pm_iconst (v := nI 3) hG dX12_press_76 (by decide) ?_
                  refine pm_callV (As := [.int (nI 3)]) (rest := []) hG hR dX12_press_77 (lkX12_80 _ rfl) okV_X12_finds rfl rfl (m_finds (d := 2) (by decide) hn hz (by omega)) rfl rfl hdd (Nat.le_refl _) (Nat.le_refl _) (by decide) (pm_ki (fun v114 σ' cnt' hq => ?_))
                  obtain ⟨⟨I115, A115, rfl⟩, rfl, fv114⟩ := hq
                  exact pm_iret hG hF dX12_press_80 rfl (Nat.le_refl _) (Nat.le_refl _) ⟨_, rfl, ⟨_, _, _, rfl, hn, hr, ekc0.trans ekc0.symm, ekc2.trans ekc2.symm, ekc7.trans ekc7.symm, ekc8.trans ekc8.symm, KS.rf⟩, rfl⟩
          · refine pm_callV (As := [.int (nI k8)]) (rest := []) hG hR dX12_press_49 (lkX12_139 _ rfl) okV_X12_whoHas rfl rfl (m_whoHas1 (d := 2) (e := 6 * k8 + 392) (by decide) (by omega) (by omega) ek14 (by omega)) rfl rfl hdd (Nat.le_refl _) (Nat.le_refl _) (by decide) (pm_ki (fun v116 σ' cnt' hq => ?_))
            obtain ⟨rfl, rfl, rfl⟩ := hq
            refine pm_ifN_lt hG dX12_press_52 rfl (by omega) ?_
            refine pm_aloadn hG dX12_press_55 rfl ?_
            refine pm_aloadn hG dX12_press_56 rfl ?_
            refine pm_iloadn hG dX12_press_57 rfl ?_
            refine pm_top (v := nI k8) ek8 ?_
            refine pm_callV (As := [.int (nI k8)]) (rest := [.ref (B + 54)]) hG hR dX12_press_58 (lkX12_139 _ rfl) okV_X12_whoHas rfl rfl (m_whoHas1 (d := 2) (e := 6 * k8 + 392) (by decide) (by omega) (by omega) ek14 (by omega)) rfl rfl hdd (Nat.le_refl _) (Nat.le_refl _) (Nat.le_of_ble_eq_true rfl) (pm_ki (fun v117 σ' cnt' hq => ?_))
            obtain ⟨rfl, rfl, rfl⟩ := hq
            refine pm_iconst (v := nI 4) hG dX12_press_61 (by decide) ?_
            refine pm_callV (As := [.int (nI k14), .int (nI 4)]) (rest := []) hG hR dX12_press_62 (lkX12_72 _ rfl) okV_X12_man rfl rfl (m_man (d := 2) (e := 14 * k14 + 114) (by omega) (by omega) (by omega)) rfl rfl hdd (Nat.le_refl _) (Nat.le_refl _) (by decide) (pm_ki (fun v118 σ' cnt' hq => ?_))
            obtain ⟨rfl, rfl, rfl⟩ := hq
            rcases KI.opt hn (show kd (14 * k14 + 114) = (2, 10, false) from (kd_P (k := k14) (c := 4) (by omega) (by omega) (by decide))) with ek119 | ⟨k119, hk119, ek119⟩
            · refine pm_top (v := (-1)) ek119 ?_
              refine pm_aloadn hG dX12_press_65 rfl ?_
              refine pm_iloadn hG dX12_press_66 rfl ?_
              refine pm_top (v := nI k4) ek4 ?_
              refine pm_bipush (v := nI 10) hG dX12_press_67 (by decide) ?_
              refine pm_callV (As := [.int (nI k4), .int (nI 10)]) (rest := [.int (-1)]) hG hR dX12_press_69 (lkX12_199 _ rfl) okV_X12_of rfl rfl (m_of (d := 2) (e := 12 * k4 + 1300) (by omega) (by omega) (by omega)) rfl rfl hdd (Nat.le_refl _) (Nat.le_refl _) (Nat.le_of_ble_eq_true rfl) (pm_ki (fun v120 σ' cnt' hq => ?_))
              obtain ⟨rfl, rfl, rfl⟩ := hq
              obtain ⟨k121, hk121, ek121⟩ := KI.nat hn (show kd (12 * k4 + 1300) = (1, 10, false) from (kd_E (k := k4) (c := 10) (by omega) (by omega) (by decide)))
              refine pm_top (v := nI k121) ek121 ?_
              refine pm_icmp_eq (tgt := 81) hG dX12_press_72 rfl (fun q => absurd q ((fun q => nI_m1 (by omega) q.symm))) (fun _ => ?_)
              refine pm_aloadn hG dX12_press_75 rfl ?_
              refine pm_iconst (v := nI 3) hG dX12_press_76 (by decide) ?_
              refine pm_callV (As := [.int (nI 3)]) (rest := []) hG hR dX12_press_77 (lkX12_80 _ rfl) okV_X12_finds rfl rfl (m_finds (d := 2) (by decide) hn hz (by omega)) rfl rfl hdd (Nat.le_refl _) (Nat.le_refl _) (by decide) (pm_ki (fun v122 σ' cnt' hq => ?_))
              obtain ⟨⟨I123, A123, rfl⟩, rfl, fv122⟩ := hq
              exact pm_iret hG hF dX12_press_80 rfl (Nat.le_refl _) (Nat.le_refl _) ⟨_, rfl, ⟨_, _, _, rfl, hn, hr, ekc0.trans ekc0.symm, ekc2.trans ekc2.symm, ekc7.trans ekc7.symm, ekc8.trans ekc8.symm, KS.rf⟩, rfl⟩
            · refine pm_top (v := nI k119) ek119 ?_
              refine pm_aloadn hG dX12_press_65 rfl ?_
              refine pm_iloadn hG dX12_press_66 rfl ?_
              refine pm_top (v := nI k4) ek4 ?_
              refine pm_bipush (v := nI 10) hG dX12_press_67 (by decide) ?_
              refine pm_callV (As := [.int (nI k4), .int (nI 10)]) (rest := [.int (nI k119)]) hG hR dX12_press_69 (lkX12_199 _ rfl) okV_X12_of rfl rfl (m_of (d := 2) (e := 12 * k4 + 1300) (by omega) (by omega) (by omega)) rfl rfl hdd (Nat.le_refl _) (Nat.le_refl _) (Nat.le_of_ble_eq_true rfl) (pm_ki (fun v124 σ' cnt' hq => ?_))
              obtain ⟨rfl, rfl, rfl⟩ := hq
              obtain ⟨k125, hk125, ek125⟩ := KI.nat hn (show kd (12 * k4 + 1300) = (1, 10, false) from (kd_E (k := k4) (c := 10) (by omega) (by omega) (by decide)))
              refine pm_top (v := nI k125) ek125 ?_
              refine pm_icmpN_eq (tgt := 81) hG dX12_press_72 rfl (by omega) (by omega) (fun c126 => ?_) (fun c126 => ?_)
              · refine pm_aloadn hG dX12_press_81 rfl ?_
                refine pm_iloadn hG dX12_press_82 rfl ?_
                refine pm_top (v := nI k8) ek8 ?_
                refine pm_iconst (v := nI 5) hG dX12_press_83 (by decide) ?_
                refine pm_callV (As := [.int (nI k8), .int (nI 5)]) (rest := []) hG hR dX12_press_84 (lkX12_110 _ rfl) okV_X12_its rfl rfl (m_its (d := 2) (e := 6 * k8 + 395) (by omega) (by omega) (by omega)) rfl rfl hdd (Nat.le_refl _) (Nat.le_refl _) (by decide) (pm_ki (fun v127 σ' cnt' hq => ?_))
                obtain ⟨rfl, rfl, rfl⟩ := hq
                refine pm_gen (fun x128 ex128 => ?_)
                refine pm_istoreXn (loc' := [some (.ref (B + 54)), some (.int za), some (.int zb), some (.int x128), none, none]) hG dX12_press_87 (by decide) (pm_c1b rfl) rfl ?_
                refine pm_iconst (v := nI 0) hG dX12_press_88 (by decide) ?_
                refine pm_istoreXi (loc' := [some (.ref (B + 54)), some (.int za), some (.int zb), some (.int x128), some (.int (nI 0)), none]) hG dX12_press_89 (by decide) (pm_c1b rfl) rfl ?_
                refine pm_iconst (v := nI 0) hG dX12_press_91 (by decide) ?_
                refine pm_istoreXi (loc' := [some (.ref (B + 54)), some (.int za), some (.int zb), some (.int x128), some (.int (nI 0)), some (.int (nI 0))]) hG dX12_press_92 (by decide) (pm_c1b rfl) rfl ?_
                have loop94_129 : ∀ (m129 : Nat) (I129 : Nat → Int32) (A129 : Nat → Nat → Int32) (n_129 : Nat → Int32) (x129_4 : Int32) (i129 : Nat), KI n_129 → KS n_129 n → NRx 40 n_129 → n_129 0 = nI kc0 → n_129 2 = nI kc2 → n_129 7 = nI kc7 → n_129 8 = nI kc8 → i129 ≤ 20 → 20 - i129 < m129 → pm_wp mX12_press G B 94 [some (.ref (B + 54)), some (.int za), some (.int zb), some (.int x128), some (.int x129_4), some (.int (nI i129))] [] 0 0 cnt (pm_mid σ (md_L B I129 A129 n_129 k z ac wt pl (nI p0) (nI t0) im)) := by
                  intro m129
                  induction m129 with
                  | zero => intro I129 A129 n_129 x129_4 i129 _ _ _ _ _ _ _ _ hm; exact absurd hm (Nat.not_lt_zero _)
                  | succ m129 ih129 =>
                    intro I129 A129 n_129 x129_4 i129 hnn_129 ksn_129 hrn_129 kc129_0 kc129_2 kc129_7 kc129_8 hi129 hm129
                    refine pm_iloadi hG dX12_press_94 rfl ?_
                    refine pm_aloadn hG dX12_press_96 rfl ?_
                    refine pm_getf hG dX12_press_97 (flX12_7 _ rfl) rfl rfl ?_
                    refine pm_iconst (v := nI 3) hG dX12_press_100 (by decide) ?_
                    refine pm_ialdN hG dX12_press_101 rfl (by decide) (by omega) ?_
                    obtain ⟨k130, hk130, ek130⟩ := KI.nat hnn_129 (show kd 3 = (1, 21, false) by decide)
                    refine pm_top (v := nI k130) ek130 ?_
                    refine pm_icmpN_ge (tgt := 159) hG dX12_press_102 rfl (by omega) (by omega) (fun c131 => ?_) (fun c131 => ?_)
                    · refine pm_aloadn hG dX12_press_159 rfl ?_
                      refine pm_aloadn hG dX12_press_160 rfl ?_
                      refine pm_iloadn hG dX12_press_161 rfl ?_
                      refine pm_top (v := nI k4) ek4 ?_
                      refine pm_bipush (v := nI 10) hG dX12_press_162 (by decide) ?_
                      refine pm_callV (As := [.int (nI k4), .int (nI 10)]) (rest := [.ref (B + 54)]) hG hR dX12_press_164 (lkX12_199 _ rfl) okV_X12_of rfl rfl (m_of (d := 2) (e := 12 * k4 + 1300) (by omega) (by omega) (by omega)) rfl rfl hdd (Nat.le_refl _) (Nat.le_refl _) (Nat.le_of_ble_eq_true rfl) (pm_ki (fun v132 σ' cnt' hq => ?_))
                      obtain ⟨rfl, rfl, rfl⟩ := hq
                      obtain ⟨k133, hk133, ek133⟩ := KI.nat hnn_129 (show kd (12 * k4 + 1300) = (1, 10, false) from (kd_E (k := k4) (c := 10) (by omega) (by omega) (by decide)))
                      refine pm_top (v := nI k133) ek133 ?_
                      refine pm_callV (As := [.int (nI k133)]) (rest := []) hG hR dX12_press_167 (lkX12_220 _ rfl) okV_X12_thoseIn rfl rfl (m_thoseIn (d := 2) (by decide) hnn_129 hz) rfl rfl hdd (Nat.le_refl _) (Nat.le_refl _) (by decide) (pm_ki (fun v134 σ' cnt' hq => ?_))
                      obtain ⟨rfl, rfl⟩ := hq
                      refine pm_iloadi hG dX12_press_170 rfl ?_
                      refine pm_iand hG dX12_press_172 ?_
                      refine pm_any (fun x136 => ?_)
                      refine pm_istoreXi (loc' := [some (.ref (B + 54)), some (.int za), some (.int zb), some (.int x128), some (.int x129_4), some (.int x136)]) hG dX12_press_173 (by decide) (pm_c1b rfl) rfl ?_
                      refine pm_aloadn hG dX12_press_175 rfl ?_
                      refine pm_iloadn hG dX12_press_176 rfl ?_
                      refine pm_top (v := nI k4) ek4 ?_
                      refine pm_bipush (v := nI 9) hG dX12_press_177 (by decide) ?_
                      refine pm_aloadn hG dX12_press_179 rfl ?_
                      refine pm_iloadn hG dX12_press_180 rfl ?_
                      refine pm_top (v := nI k4) ek4 ?_
                      refine pm_iconst (v := nI 3) hG dX12_press_181 (by decide) ?_
                      refine pm_callV (As := [.int (nI k4), .int (nI 3)]) (rest := [.int (nI 9), .int (nI k4), .ref (B + 54)]) hG hR dX12_press_182 (lkX12_199 _ rfl) okV_X12_of rfl rfl (m_of (d := 2) (e := 12 * k4 + 1293) (by omega) (by omega) (by omega)) rfl rfl hdd (Nat.le_refl _) (Nat.le_refl _) (Nat.le_of_ble_eq_true rfl) (pm_ki (fun v137 σ' cnt' hq => ?_))
                      obtain ⟨rfl, rfl, rfl⟩ := hq
                      refine pm_gen (fun x138 ex138 => ?_)
                      refine pm_if_ne (tgt := 193) hG dX12_press_185 rfl (fun c139 => ?_) (fun c139 => ?_)
                      · refine pm_aloadn hG dX12_press_193 rfl ?_
                        refine pm_iloadn hG dX12_press_194 rfl ?_
                        refine pm_top (v := nI k4) ek4 ?_
                        refine pm_bipush (v := nI 9) hG dX12_press_195 (by decide) ?_
                        refine pm_callV (As := [.int (nI k4), .int (nI 9)]) (rest := [.int (nI 9), .int (nI k4), .ref (B + 54)]) hG hR dX12_press_197 (lkX12_199 _ rfl) okV_X12_of rfl rfl (m_of (d := 2) (e := 12 * k4 + 1299) (by omega) (by omega) (by omega)) rfl rfl hdd (Nat.le_refl _) (Nat.le_refl _) (Nat.le_of_ble_eq_true rfl) (pm_ki (fun v140 σ' cnt' hq => ?_))
                        obtain ⟨rfl, rfl, rfl⟩ := hq
                        refine pm_gen (fun x141 ex141 => ?_)
                        refine pm_iloadi hG dX12_press_200 rfl ?_
                        refine pm_iand hG dX12_press_202 ?_
                        refine pm_any (fun x142 => ?_)
                        refine pm_callV (As := [.int (nI k4), .int (nI 9), .int x142]) (rest := []) hG hR dX12_press_203 (lkX12_217 _ rfl) okV_X12_writes rfl rfl (m_writes (d := 2) (e := 12 * k4 + 1299) (by omega) (by omega) (by omega)) rfl rfl hdd (Nat.le_refl _) (Nat.le_refl _) (by decide) (pm_kv (fun σ' cnt' hq => ?_))
                        obtain ⟨rfl, rfl⟩ := hq
                        obtain ⟨n_143, en_143⟩ : ∃ f : Nat → Int32, f = upd n_129 (12 * k4 + 1299) x142 := ⟨_, rfl⟩
                        rw [← en_143]
                        have hnn_143 := KI.w en_143 hnn_129 (okv_f (show kd (12 * k4 + 1299) = (0, 0, false) from (kd_E (k := k4) (c := 9) (by omega) (by omega) (by decide))))
                        have hrn_143 := NRx.w en_143 hrn_129 (by rw [(show kd (12 * k4 + 1299) = (0, 0, false) from (kd_E (k := k4) (c := 9) (by omega) (by omega) (by decide)))])
                        have ksn_143 := KS.w en_143 ksn_129 (by unfold tS; omega)
                        have e144 : n_143 0 = nI kc0 := by rw [en_143, pk_un (by omega)]; exact kc129_0
                        have e145 : n_143 2 = nI kc2 := by rw [en_143, pk_un (by omega)]; exact kc129_2
                        have e146 : n_143 7 = nI kc7 := by rw [en_143, pk_un (by omega)]; exact kc129_7
                        have e147 : n_143 8 = nI kc8 := by rw [en_143, pk_un (by omega)]; exact kc129_8
                        have e148 : n_143 3 = nI k130 := by rw [en_143, pk_un (by omega)]; exact ek130
                        have e149 : n_143 (12 * k4 + 1300) = nI k133 := by rw [en_143, pk_un (by omega)]; exact ek133
                        have e150 : n_143 (12 * k4 + 1293) = x138 := by rw [en_143, pk_un (by omega)]; exact ex138
                        have e151 : n_143 (12 * k4 + 1299) = x142 := by rw [en_143, pk_us]
                        refine pm_aloadn hG dX12_press_206 rfl ?_
                        refine pm_iloadn hG dX12_press_207 rfl ?_
                        refine pm_top (v := nI k4) ek4 ?_
                        refine pm_iconst (v := nI 3) hG dX12_press_208 (by decide) ?_
                        refine pm_aloadn hG dX12_press_209 rfl ?_
                        refine pm_iloadn hG dX12_press_210 rfl ?_
                        refine pm_top (v := nI k4) ek4 ?_
                        refine pm_iconst (v := nI 3) hG dX12_press_211 (by decide) ?_
                        refine pm_callV (As := [.int (nI k4), .int (nI 3)]) (rest := [.int (nI 3), .int (nI k4), .ref (B + 54)]) hG hR dX12_press_212 (lkX12_199 _ rfl) okV_X12_of rfl rfl (m_of (d := 2) (e := 12 * k4 + 1293) (by omega) (by omega) (by omega)) rfl rfl hdd (Nat.le_refl _) (Nat.le_refl _) (Nat.le_of_ble_eq_true rfl) (pm_ki (fun v152 σ' cnt' hq => ?_))
                        obtain ⟨rfl, rfl, rfl⟩ := hq
                        refine pm_top (v := x138) e150 ?_
                        refine pm_iconst (v := nI 1) hG dX12_press_215 (by decide) ?_
                        refine pm_iloadn hG dX12_press_216 rfl ?_
                        refine pm_ishl hG dX12_press_217 ?_
                        refine pm_any (fun x153 => ?_)
                        refine pm_ior hG dX12_press_218 ?_
                        refine pm_any (fun x154 => ?_)
                        refine pm_callV (As := [.int (nI k4), .int (nI 3), .int x154]) (rest := []) hG hR dX12_press_219 (lkX12_217 _ rfl) okV_X12_writes rfl rfl (m_writes (d := 2) (e := 12 * k4 + 1293) (by omega) (by omega) (by omega)) rfl rfl hdd (Nat.le_refl _) (Nat.le_refl _) (by decide) (pm_kv (fun σ' cnt' hq => ?_))
                        obtain ⟨rfl, rfl⟩ := hq
                        obtain ⟨n_155, en_155⟩ : ∃ f : Nat → Int32, f = upd n_143 (12 * k4 + 1293) x154 := ⟨_, rfl⟩
                        rw [← en_155]
                        have hnn_155 := KI.w en_155 hnn_143 (okv_f (show kd (12 * k4 + 1293) = (0, 0, false) from (kd_E (k := k4) (c := 3) (by omega) (by omega) (by decide))))
                        have hrn_155 := NRx.w en_155 hrn_143 (by rw [(show kd (12 * k4 + 1293) = (0, 0, false) from (kd_E (k := k4) (c := 3) (by omega) (by omega) (by decide)))])
                        have ksn_155 := KS.w en_155 ksn_143 (by unfold tS; omega)
                        have e156 : n_155 0 = nI kc0 := by rw [en_155, pk_un (by omega)]; exact e144
                        have e157 : n_155 2 = nI kc2 := by rw [en_155, pk_un (by omega)]; exact e145
                        have e158 : n_155 7 = nI kc7 := by rw [en_155, pk_un (by omega)]; exact e146
                        have e159 : n_155 8 = nI kc8 := by rw [en_155, pk_un (by omega)]; exact e147
                        have e160 : n_155 3 = nI k130 := by rw [en_155, pk_un (by omega)]; exact e148
                        have e161 : n_155 (12 * k4 + 1300) = nI k133 := by rw [en_155, pk_un (by omega)]; exact e149
                        have e162 : n_155 (12 * k4 + 1299) = x142 := by rw [en_155, pk_un (by omega)]; exact e151
                        have e163 : n_155 (12 * k4 + 1293) = x154 := by rw [en_155, pk_us]
                        refine pm_aloadn hG dX12_press_222 rfl ?_
                        refine pm_iloadn hG dX12_press_223 rfl ?_
                        refine pm_top (v := nI k4) ek4 ?_
                        refine pm_iconst (v := nI 3) hG dX12_press_224 (by decide) ?_
                        refine pm_callV (As := [.int (nI k4), .int (nI 3)]) (rest := []) hG hR dX12_press_225 (lkX12_199 _ rfl) okV_X12_of rfl rfl (m_of (d := 2) (e := 12 * k4 + 1293) (by omega) (by omega) (by omega)) rfl rfl hdd (Nat.le_refl _) (Nat.le_refl _) (by decide) (pm_ki (fun v164 σ' cnt' hq => ?_))
                        obtain ⟨rfl, rfl, rfl⟩ := hq
                        refine pm_top (v := x154) e163 ?_
                        refine pm_callS (As := [.int x154]) (rest := []) hG hR dX12_press_228 (lkX12_202 _ rfl) okS_X12_bits (m_bits (d := 2) (by decide) hnn_155 hz) rfl rfl hdd (Nat.le_refl _) (Nat.le_refl _) (by decide) (pm_ki (fun v165 σ' cnt' hq => ?_))
                        obtain ⟨rfl, rfl⟩ := hq
                        exact pm_iret hG hF dX12_press_231 rfl (Nat.le_refl _) (Nat.le_refl _) ⟨_, rfl, ⟨_, _, _, rfl, hnn_155, hrn_155, e156.trans ekc0.symm, e157.trans ekc2.symm, e158.trans ekc7.symm, e159.trans ekc8.symm, ksn_155⟩, rfl⟩
                      · refine pm_iloadi hG dX12_press_188 rfl ?_
                        refine pm_goto (tgt := 203) hG dX12_press_190 rfl ?_
                        refine pm_callV (As := [.int (nI k4), .int (nI 9), .int x136]) (rest := []) hG hR dX12_press_203 (lkX12_217 _ rfl) okV_X12_writes rfl rfl (m_writes (d := 2) (e := 12 * k4 + 1299) (by omega) (by omega) (by omega)) rfl rfl hdd (Nat.le_refl _) (Nat.le_refl _) (by decide) (pm_kv (fun σ' cnt' hq => ?_))
                        obtain ⟨rfl, rfl⟩ := hq
                        obtain ⟨n_167, en_167⟩ : ∃ f : Nat → Int32, f = upd n_129 (12 * k4 + 1299) x136 := ⟨_, rfl⟩
                        rw [← en_167]
                        have hnn_167 := KI.w en_167 hnn_129 (okv_f (show kd (12 * k4 + 1299) = (0, 0, false) from (kd_E (k := k4) (c := 9) (by omega) (by omega) (by decide))))
                        have hrn_167 := NRx.w en_167 hrn_129 (by rw [(show kd (12 * k4 + 1299) = (0, 0, false) from (kd_E (k := k4) (c := 9) (by omega) (by omega) (by decide)))])
                        have ksn_167 := KS.w en_167 ksn_129 (by unfold tS; omega)
                        have e168 : n_167 0 = nI kc0 := by rw [en_167, pk_un (by omega)]; exact kc129_0
                        have e169 : n_167 2 = nI kc2 := by rw [en_167, pk_un (by omega)]; exact kc129_2
                        have e170 : n_167 7 = nI kc7 := by rw [en_167, pk_un (by omega)]; exact kc129_7
                        have e171 : n_167 8 = nI kc8 := by rw [en_167, pk_un (by omega)]; exact kc129_8
                        have e172 : n_167 3 = nI k130 := by rw [en_167, pk_un (by omega)]; exact ek130
                        have e173 : n_167 (12 * k4 + 1300) = nI k133 := by rw [en_167, pk_un (by omega)]; exact ek133
                        have e174 : n_167 (12 * k4 + 1293) = x138 := by rw [en_167, pk_un (by omega)]; exact ex138
                        have e175 : n_167 (12 * k4 + 1299) = x136 := by rw [en_167, pk_us]
                        refine pm_aloadn hG dX12_press_206 rfl ?_
                        refine pm_iloadn hG dX12_press_207 rfl ?_
                        refine pm_top (v := nI k4) ek4 ?_
                        refine pm_iconst (v := nI 3) hG dX12_press_208 (by decide) ?_
                        refine pm_aloadn hG dX12_press_209 rfl ?_
                        refine pm_iloadn hG dX12_press_210 rfl ?_
                        refine pm_top (v := nI k4) ek4 ?_
                        refine pm_iconst (v := nI 3) hG dX12_press_211 (by decide) ?_
                        refine pm_callV (As := [.int (nI k4), .int (nI 3)]) (rest := [.int (nI 3), .int (nI k4), .ref (B + 54)]) hG hR dX12_press_212 (lkX12_199 _ rfl) okV_X12_of rfl rfl (m_of (d := 2) (e := 12 * k4 + 1293) (by omega) (by omega) (by omega)) rfl rfl hdd (Nat.le_refl _) (Nat.le_refl _) (Nat.le_of_ble_eq_true rfl) (pm_ki (fun v176 σ' cnt' hq => ?_))
                        obtain ⟨rfl, rfl, rfl⟩ := hq
                        refine pm_top (v := x138) e174 ?_
                        refine pm_iconst (v := nI 1) hG dX12_press_215 (by decide) ?_
                        refine pm_iloadn hG dX12_press_216 rfl ?_
                        refine pm_ishl hG dX12_press_217 ?_
                        refine pm_any (fun x177 => ?_)
                        refine pm_ior hG dX12_press_218 ?_
                        refine pm_any (fun x178 => ?_)
                        refine pm_callV (As := [.int (nI k4), .int (nI 3), .int x178]) (rest := []) hG hR dX12_press_219 (lkX12_217 _ rfl) okV_X12_writes rfl rfl (m_writes (d := 2) (e := 12 * k4 + 1293) (by omega) (by omega) (by omega)) rfl rfl hdd (Nat.le_refl _) (Nat.le_refl _) (by decide) (pm_kv (fun σ' cnt' hq => ?_))
                        obtain ⟨rfl, rfl⟩ := hq
                        obtain ⟨n_179, en_179⟩ : ∃ f : Nat → Int32, f = upd n_167 (12 * k4 + 1293) x178 := ⟨_, rfl⟩
                        rw [← en_179]
                        have hnn_179 := KI.w en_179 hnn_167 (okv_f (show kd (12 * k4 + 1293) = (0, 0, false) from (kd_E (k := k4) (c := 3) (by omega) (by omega) (by decide))))
                        have hrn_179 := NRx.w en_179 hrn_167 (by rw [(show kd (12 * k4 + 1293) = (0, 0, false) from (kd_E (k := k4) (c := 3) (by omega) (by omega) (by decide)))])
                        have ksn_179 := KS.w en_179 ksn_167 (by unfold tS; omega)
                        have e180 : n_179 0 = nI kc0 := by rw [en_179, pk_un (by omega)]; exact e168
                        have e181 : n_179 2 = nI kc2 := by rw [en_179, pk_un (by omega)]; exact e169
                        have e182 : n_179 7 = nI kc7 := by rw [en_179, pk_un (by omega)]; exact e170
                        have e183 : n_179 8 = nI kc8 := by rw [en_179, pk_un (by omega)]; exact e171
                        have e184 : n_179 3 = nI k130 := by rw [en_179, pk_un (by omega)]; exact e172
                        have e185 : n_179 (12 * k4 + 1300) = nI k133 := by rw [en_179, pk_un (by omega)]; exact e173
                        have e186 : n_179 (12 * k4 + 1299) = x136 := by rw [en_179, pk_un (by omega)]; exact e175
                        have e187 : n_179 (12 * k4 + 1293) = x178 := by rw [en_179, pk_us]
                        refine pm_aloadn hG dX12_press_222 rfl ?_
                        refine pm_iloadn hG dX12_press_223 rfl ?_
                        refine pm_top (v := nI k4) ek4 ?_
                        refine pm_iconst (v := nI 3) hG dX12_press_224 (by decide) ?_
                        refine pm_callV (As := [.int (nI k4), .int (nI 3)]) (rest := []) hG hR dX12_press_225 (lkX12_199 _ rfl) okV_X12_of rfl rfl (m_of (d := 2) (e := 12 * k4 + 1293) (by omega) (by omega) (by omega)) rfl rfl hdd (Nat.le_refl _) (Nat.le_refl _) (by decide) (pm_ki (fun v188 σ' cnt' hq => ?_))
                        obtain ⟨rfl, rfl, rfl⟩ := hq
                        refine pm_top (v := x178) e187 ?_
                        refine pm_callS (As := [.int x178]) (rest := []) hG hR dX12_press_228 (lkX12_202 _ rfl) okS_X12_bits (m_bits (d := 2) (by decide) hnn_179 hz) rfl rfl hdd (Nat.le_refl _) (Nat.le_refl _) (by decide) (pm_ki (fun v189 σ' cnt' hq => ?_))
                        obtain ⟨rfl, rfl⟩ := hq
                        exact pm_iret hG hF dX12_press_231 rfl (Nat.le_refl _) (Nat.le_refl _) ⟨_, rfl, ⟨_, _, _, rfl, hnn_179, hrn_179, e180.trans ekc0.symm, e181.trans ekc2.symm, e182.trans ekc7.symm, e183.trans ekc8.symm, ksn_179⟩, rfl⟩
                    · refine pm_iloadi hG dX12_press_105 rfl ?_
                      refine pm_aloadn hG dX12_press_107 rfl ?_
                      refine pm_iloadi hG dX12_press_108 rfl ?_
                      refine pm_iconst (v := nI 0) hG dX12_press_110 (by decide) ?_
                      refine pm_callV (As := [.int (nI i129), .int (nI 0)]) (rest := [.int x129_4]) hG hR dX12_press_111 (lkX12_110 _ rfl) okV_X12_its rfl rfl (m_its (d := 2) (e := 6 * i129 + 390) (by omega) (by omega) (by omega)) rfl rfl hdd (Nat.le_refl _) (Nat.le_refl _) (Nat.le_of_ble_eq_true rfl) (pm_ki (fun v191 σ' cnt' hq => ?_))
                      obtain ⟨rfl, rfl, rfl⟩ := hq
                      refine pm_gen (fun x192 ex192 => ?_)
                      refine pm_iconst (v := nI 2) hG dX12_press_114 (by decide) ?_
                      refine pm_icmp_ne (tgt := 149) hG dX12_press_115 rfl (fun c193 => ?_) (fun c193 => ?_)
                      · refine pm_iconst (v := nI 0) hG dX12_press_149 (by decide) ?_
                        refine pm_ior hG dX12_press_150 ?_
                        refine pm_any (fun x194 => ?_)
                        refine pm_istoreXi (loc' := [some (.ref (B + 54)), some (.int za), some (.int zb), some (.int x128), some (.int x194), some (.int (nI i129))]) hG dX12_press_151 (by decide) (pm_c1b rfl) rfl ?_
                        refine pm_iincX (v := nI (i129 + 1)) (loc' := [some (.ref (B + 54)), some (.int za), some (.int zb), some (.int x128), some (.int x194), some (.int (nI (i129 + 1)))]) hG dX12_press_153 rfl (nI_1 _) (by decide) (pm_c1b rfl) rfl ?_
                        refine pm_goto (tgt := 94) hG dX12_press_156 rfl ?_
                        exact ih129 I129 A129 n_129 x194 (i129 + 1) hnn_129 ksn_129 hrn_129 (kc129_0.trans (congrArg nI (by omega))) (kc129_2.trans (congrArg nI (by omega))) (kc129_7.trans (congrArg nI (by omega))) (kc129_8.trans (congrArg nI (by omega))) (by omega) (by omega)
                      · refine pm_aloadn hG dX12_press_118 rfl ?_
                        refine pm_iloadi hG dX12_press_119 rfl ?_
                        refine pm_iconst (v := nI 5) hG dX12_press_121 (by decide) ?_
                        refine pm_callV (As := [.int (nI i129), .int (nI 5)]) (rest := [.int x129_4]) hG hR dX12_press_122 (lkX12_110 _ rfl) okV_X12_its rfl rfl (m_its (d := 2) (e := 6 * i129 + 395) (by omega) (by omega) (by omega)) rfl rfl hdd (Nat.le_refl _) (Nat.le_refl _) (Nat.le_of_ble_eq_true rfl) (pm_ki (fun v195 σ' cnt' hq => ?_))
                        obtain ⟨rfl, rfl, rfl⟩ := hq
                        refine pm_gen (fun x196 ex196 => ?_)
                        refine pm_iloadn hG dX12_press_125 rfl ?_
                        refine pm_icmp_ne (tgt := 149) hG dX12_press_126 rfl (fun c197 => ?_) (fun c197 => ?_)
                        · refine pm_iconst (v := nI 0) hG dX12_press_149 (by decide) ?_
                          refine pm_ior hG dX12_press_150 ?_
                          refine pm_any (fun x198 => ?_)
                          refine pm_istoreXi (loc' := [some (.ref (B + 54)), some (.int za), some (.int zb), some (.int x128), some (.int x198), some (.int (nI i129))]) hG dX12_press_151 (by decide) (pm_c1b rfl) rfl ?_
                          refine pm_iincX (v := nI (i129 + 1)) (loc' := [some (.ref (B + 54)), some (.int za), some (.int zb), some (.int x128), some (.int x198), some (.int (nI (i129 + 1)))]) hG dX12_press_153 rfl (nI_1 _) (by decide) (pm_c1b rfl) rfl ?_
                          refine pm_goto (tgt := 94) hG dX12_press_156 rfl ?_
                          exact ih129 I129 A129 n_129 x198 (i129 + 1) hnn_129 ksn_129 hrn_129 (kc129_0.trans (congrArg nI (by omega))) (kc129_2.trans (congrArg nI (by omega))) (kc129_7.trans (congrArg nI (by omega))) (kc129_8.trans (congrArg nI (by omega))) (by omega) (by omega)
                        · refine pm_aloadn hG dX12_press_129 rfl ?_
                          refine pm_iloadi hG dX12_press_130 rfl ?_
                          rcases KI.opt hnn_129 (show kd (6 * i129 + 392) = (2, 20, false) from (kd_W (k := i129) (c := 2) (by omega) (by omega) (by decide))) with ek199 | ⟨k199, hk199, ek199⟩
                          · rcases KI.opt hnn_129 (show kd (6 * i129 + 391) = (2, 20, false) from (kd_W (k := i129) (c := 1) (by omega) (by omega) (by decide))) with ek200 | ⟨k200, hk200, ek200⟩
                            · refine pm_callV (As := [.int (nI i129)]) (rest := [.int x129_4]) hG hR dX12_press_132 (lkX12_139 _ rfl) okV_X12_whoHas rfl rfl (m_whoHas0 (d := 2) (e := 6 * i129 + 392) (e2 := 6 * i129 + 391) (by decide) (by omega) (by omega) (by omega) ek199 ek200) rfl rfl hdd (Nat.le_refl _) (Nat.le_refl _) (Nat.le_of_ble_eq_true rfl) (pm_ki (fun v201 σ' cnt' hq => ?_))
                              obtain ⟨rfl, rfl, rfl⟩ := hq
                              refine pm_if_lt (tgt := 149) hG dX12_press_135 rfl (fun _ => ?_) (fun q => absurd q (by decide))
                              refine pm_iconst (v := nI 0) hG dX12_press_149 (by decide) ?_
                              refine pm_ior hG dX12_press_150 ?_
                              refine pm_any (fun x202 => ?_)
                              refine pm_istoreXi (loc' := [some (.ref (B + 54)), some (.int za), some (.int zb), some (.int x128), some (.int x202), some (.int (nI i129))]) hG dX12_press_151 (by decide) (pm_c1b rfl) rfl ?_
                              refine pm_iincX (v := nI (i129 + 1)) (loc' := [some (.ref (B + 54)), some (.int za), some (.int zb), some (.int x128), some (.int x202), some (.int (nI (i129 + 1)))]) hG dX12_press_153 rfl (nI_1 _) (by decide) (pm_c1b rfl) rfl ?_
                              refine pm_goto (tgt := 94) hG dX12_press_156 rfl ?_
                              exact ih129 I129 A129 n_129 x202 (i129 + 1) hnn_129 ksn_129 hrn_129 (kc129_0.trans (congrArg nI (by omega))) (kc129_2.trans (congrArg nI (by omega))) (kc129_7.trans (congrArg nI (by omega))) (kc129_8.trans (congrArg nI (by omega))) (by omega) (by omega)
                            · refine pm_callV (As := [.int (nI i129)]) (rest := [.int x129_4]) hG hR dX12_press_132 (lkX12_139 _ rfl) okV_X12_whoHas rfl rfl (m_whoHas0 (d := 2) (e := 6 * i129 + 392) (e2 := 6 * i129 + 391) (by decide) (by omega) (by omega) (by omega) ek199 ek200) rfl rfl hdd (Nat.le_refl _) (Nat.le_refl _) (Nat.le_of_ble_eq_true rfl) (pm_ki (fun v203 σ' cnt' hq => ?_))
                              obtain ⟨rfl, rfl, rfl⟩ := hq
                              refine pm_ifN_lt hG dX12_press_135 rfl (by omega) ?_
                              refine pm_iconst (v := nI 1) hG dX12_press_138 (by decide) ?_
                              refine pm_aloadn hG dX12_press_139 rfl ?_
                              refine pm_iloadi hG dX12_press_140 rfl ?_
                              refine pm_callV (As := [.int (nI i129)]) (rest := [.int (nI 1), .int x129_4]) hG hR dX12_press_142 (lkX12_139 _ rfl) okV_X12_whoHas rfl rfl (m_whoHas0 (d := 2) (e := 6 * i129 + 392) (e2 := 6 * i129 + 391) (by decide) (by omega) (by omega) (by omega) ek199 ek200) rfl rfl hdd (Nat.le_refl _) (Nat.le_refl _) (Nat.le_of_ble_eq_true rfl) (pm_ki (fun v204 σ' cnt' hq => ?_))
                              obtain ⟨rfl, rfl, rfl⟩ := hq
                              refine pm_ishl hG dX12_press_145 ?_
                              refine pm_any (fun x205 => ?_)
                              refine pm_goto (tgt := 150) hG dX12_press_146 rfl ?_
                              refine pm_ior hG dX12_press_150 ?_
                              refine pm_any (fun x206 => ?_)
                              refine pm_istoreXi (loc' := [some (.ref (B + 54)), some (.int za), some (.int zb), some (.int x128), some (.int x206), some (.int (nI i129))]) hG dX12_press_151 (by decide) (pm_c1b rfl) rfl ?_
                              refine pm_iincX (v := nI (i129 + 1)) (loc' := [some (.ref (B + 54)), some (.int za), some (.int zb), some (.int x128), some (.int x206), some (.int (nI (i129 + 1)))]) hG dX12_press_153 rfl (nI_1 _) (by decide) (pm_c1b rfl) rfl ?_
                              refine pm_goto (tgt := 94) hG dX12_press_156 rfl ?_
                              exact ih129 I129 A129 n_129 x206 (i129 + 1) hnn_129 ksn_129 hrn_129 (kc129_0.trans (congrArg nI (by omega))) (kc129_2.trans (congrArg nI (by omega))) (kc129_7.trans (congrArg nI (by omega))) (kc129_8.trans (congrArg nI (by omega))) (by omega) (by omega)
                          · refine pm_callV (As := [.int (nI i129)]) (rest := [.int x129_4]) hG hR dX12_press_132 (lkX12_139 _ rfl) okV_X12_whoHas rfl rfl (m_whoHas1 (d := 2) (e := 6 * i129 + 392) (by decide) (by omega) (by omega) ek199 (by omega)) rfl rfl hdd (Nat.le_refl _) (Nat.le_refl _) (Nat.le_of_ble_eq_true rfl) (pm_ki (fun v207 σ' cnt' hq => ?_))
                            obtain ⟨rfl, rfl, rfl⟩ := hq
                            refine pm_ifN_lt hG dX12_press_135 rfl (by omega) ?_
                            refine pm_iconst (v := nI 1) hG dX12_press_138 (by decide) ?_
                            refine pm_aloadn hG dX12_press_139 rfl ?_
                            refine pm_iloadi hG dX12_press_140 rfl ?_
                            refine pm_callV (As := [.int (nI i129)]) (rest := [.int (nI 1), .int x129_4]) hG hR dX12_press_142 (lkX12_139 _ rfl) okV_X12_whoHas rfl rfl (m_whoHas1 (d := 2) (e := 6 * i129 + 392) (by decide) (by omega) (by omega) ek199 (by omega)) rfl rfl hdd (Nat.le_refl _) (Nat.le_refl _) (Nat.le_of_ble_eq_true rfl) (pm_ki (fun v208 σ' cnt' hq => ?_))
                            obtain ⟨rfl, rfl, rfl⟩ := hq
                            refine pm_ishl hG dX12_press_145 ?_
                            refine pm_any (fun x209 => ?_)
                            refine pm_goto (tgt := 150) hG dX12_press_146 rfl ?_
                            refine pm_ior hG dX12_press_150 ?_
                            refine pm_any (fun x210 => ?_)
                            refine pm_istoreXi (loc' := [some (.ref (B + 54)), some (.int za), some (.int zb), some (.int x128), some (.int x210), some (.int (nI i129))]) hG dX12_press_151 (by decide) (pm_c1b rfl) rfl ?_
                            refine pm_iincX (v := nI (i129 + 1)) (loc' := [some (.ref (B + 54)), some (.int za), some (.int zb), some (.int x128), some (.int x210), some (.int (nI (i129 + 1)))]) hG dX12_press_153 rfl (nI_1 _) (by decide) (pm_c1b rfl) rfl ?_
                            refine pm_goto (tgt := 94) hG dX12_press_156 rfl ?_
                            exact ih129 I129 A129 n_129 x210 (i129 + 1) hnn_129 ksn_129 hrn_129 (kc129_0.trans (congrArg nI (by omega))) (kc129_2.trans (congrArg nI (by omega))) (kc129_7.trans (congrArg nI (by omega))) (kc129_8.trans (congrArg nI (by omega))) (by omega) (by omega)
                exact loop94_129 _ I A n (nI 0) 0 hn KS.rf hr (ekc0.trans (congrArg nI (by omega))) (ekc2.trans (congrArg nI (by omega))) (ekc7.trans (congrArg nI (by omega))) (ekc8.trans (congrArg nI (by omega))) (by omega) (Nat.lt_succ_self _)
              · refine pm_aloadn hG dX12_press_75 rfl ?_
                refine pm_iconst (v := nI 3) hG dX12_press_76 (by decide) ?_
                refine pm_callV (As := [.int (nI 3)]) (rest := []) hG hR dX12_press_77 (lkX12_80 _ rfl) okV_X12_finds rfl rfl (m_finds (d := 2) (by decide) hn hz (by omega)) rfl rfl hdd (Nat.le_refl _) (Nat.le_refl _) (by decide) (pm_ki (fun v211 σ' cnt' hq => ?_))
                obtain ⟨⟨I212, A212, rfl⟩, rfl, fv211⟩ := hq
                exact pm_iret hG hF dX12_press_80 rfl (Nat.le_refl _) (Nat.le_refl _) ⟨_, rfl, ⟨_, _, _, rfl, hn, hr, ekc0.trans ekc0.symm, ekc2.trans ekc2.symm, ekc7.trans ekc7.symm, ekc8.trans ekc8.symm, KS.rf⟩, rfl⟩
        · refine pm_top (v := nI k13) ek13 ?_
          refine pm_ifN_ge (tgt := 75) hG dX12_press_44 rfl (by omega) ?_
          refine pm_aloadn hG dX12_press_75 rfl ?_
          refine pm_iconst (v := nI 3) hG dX12_press_76 (by decide) ?_
          refine pm_callV (As := [.int (nI 3)]) (rest := []) hG hR dX12_press_77 (lkX12_80 _ rfl) okV_X12_finds rfl rfl (m_finds (d := 2) (by decide) hn hz (by omega)) rfl rfl hdd (Nat.le_refl _) (Nat.le_refl _) (by decide) (pm_ki (fun v213 σ' cnt' hq => ?_))
          obtain ⟨⟨I214, A214, rfl⟩, rfl, fv213⟩ := hq
          exact pm_iret hG hF dX12_press_80 rfl (Nat.le_refl _) (Nat.le_refl _) ⟨_, rfl, ⟨_, _, _, rfl, hn, hr, ekc0.trans ekc0.symm, ekc2.trans ekc2.symm, ekc7.trans ekc7.symm, ekc8.trans ekc8.symm, KS.rf⟩, rfl⟩
      · refine pm_aloadn hG dX12_press_32 rfl ?_
        refine pm_iconst (v := nI 5) hG dX12_press_33 (by decide) ?_
        refine pm_callV (As := [.int (nI 5)]) (rest := []) hG hR dX12_press_34 (lkX12_80 _ rfl) okV_X12_finds rfl rfl (m_finds (d := 2) (by decide) hn hz (by omega)) rfl rfl hdd (Nat.le_refl _) (Nat.le_refl _) (by decide) (pm_ki (fun v215 σ' cnt' hq => ?_))
        obtain ⟨⟨I216, A216, rfl⟩, rfl, fv215⟩ := hq
        exact pm_iret hG hF dX12_press_37 rfl (Nat.le_refl _) (Nat.le_refl _) ⟨_, rfl, ⟨_, _, _, rfl, hn, hr, ekc0.trans ekc0.symm, ekc2.trans ekc2.symm, ekc7.trans ekc7.symm, ekc8.trans ekc8.symm, KS.rf⟩, rfl⟩
    · refine pm_ifN_ne (tgt := 22) hG dX12_press_13 rfl (by omega) (fun q => absurd q (by omega)) (fun _ => ?_)
      refine pm_aloadn hG dX12_press_16 rfl ?_
      refine pm_iconst (v := nI 1) hG dX12_press_17 (by decide) ?_
      refine pm_callV (As := [.int (nI 1)]) (rest := []) hG hR dX12_press_18 (lkX12_80 _ rfl) okV_X12_finds rfl rfl (m_finds (d := 2) (by decide) hn hz (by omega)) rfl rfl hdd (Nat.le_refl _) (Nat.le_refl _) (by decide) (pm_ki (fun v217 σ' cnt' hq => ?_))
      obtain ⟨⟨I218, A218, rfl⟩, rfl, fv217⟩ := hq
      exact pm_iret hG hF dX12_press_21 rfl (Nat.le_refl _) (Nat.le_refl _) ⟨_, rfl, ⟨_, _, _, rfl, hn, hr, ekc0.trans ekc0.symm, ekc2.trans ekc2.symm, ekc7.trans ekc7.symm, ekc8.trans ekc8.symm, KS.rf⟩, rfl⟩
  · refine pm_ifN_eq (tgt := 16) hG dX12_press_5 rfl (by omega) (fun _ => ?_) (fun q => absurd q (by omega))
    refine pm_aloadn hG dX12_press_16 rfl ?_
    refine pm_iconst (v := nI 1) hG dX12_press_17 (by decide) ?_
    refine pm_callV (As := [.int (nI 1)]) (rest := []) hG hR dX12_press_18 (lkX12_80 _ rfl) okV_X12_finds rfl rfl (m_finds (d := 2) (by decide) hn hz (by omega)) rfl rfl hdd (Nat.le_refl _) (Nat.le_refl _) (by decide) (pm_ki (fun v219 σ' cnt' hq => ?_))
    obtain ⟨⟨I220, A220, rfl⟩, rfl, fv219⟩ := hq
    exact pm_iret hG hF dX12_press_21 rfl (Nat.le_refl _) (Nat.le_refl _) ⟨_, rfl, ⟨_, _, _, rfl, hn, hr, ekc0.trans ekc0.symm, ekc2.trans ekc2.symm, ekc7.trans ekc7.symm, ekc8.trans ekc8.symm, KS.rf⟩, rfl⟩
