set_option maxRecDepth 100000 in
set_option maxHeartbeats 4000000 in
theorem m_press {d B cnt p0 t0 : Nat} {σ : pm_S} {I : Nat → Int32} {A : Nat → Nat → Int32} {n k z : Nat → Int32} {ac wt pl im : Int32} {za zb : Int32} (hdd : 3 ≤ d) (hn : KI n) (hr : NR n) (hz : SZ z)  : pm_met mX12_press d 0 0 B [.ref (B + 54), .int za, .int zb] cnt (pm_mid σ (md_L B I A n k z ac wt pl (nI p0) (nI t0) im)) (pm_Qi (fun v σ' cnt' => (∃ (I' : Nat → Int32) (A' : Nat → Nat → Int32) (n' : Nat → Int32), σ' = pm_mid σ (md_L B I' A' n' k z ac wt pl (nI p0) (nI t0) im) ∧ KI n' ∧ NR n' ∧ n' 0 = n 0 ∧ n' 6 = n 6) ∧ cnt = cnt')) := by
  obtain ⟨kc0, hkc0, ekc0⟩ := KI.nat hn (show kd 0 = (1, 11, true) by decide)
  obtain ⟨kc6, hkc6, ekc6⟩ := KI.nat hn (show kd 6 = (1, 7, false) by decide)
  refine pm_enter 3 (by decide) (Nat.le_of_ble_eq_true rfl) rfl (fun G hG hR hF => ?_)
  refine pm_aloadn hG dX12_press_0 rfl ?_
  refine pm_iloadn hG dX12_press_1 rfl ?_
  obtain ⟨k1, hk1, ek1⟩ := KI.nat hn (show kd 5 = (1, 41, true) by decide)
  refine pm_callV (As := [.int za]) (rest := []) hG hR dX12_press_2 (lkX12_211 _ rfl) okV_X12_isLetter rfl rfl (m_isLetter (d := 2) (by decide) ek1 (by omega)) rfl rfl hdd (Nat.le_refl _) (Nat.le_refl _) (by decide) (pm_ki (fun v2 σ' cnt' hq => ?_))
  obtain ⟨hq, rfl, rfl⟩ := hq
  rcases hq with ⟨rfl, k4, hk4, ek4⟩ | rfl
  · refine pm_ifN_eq (tgt := 16) hG dX12_press_5 rfl (by omega) (fun q => absurd q (by omega)) (fun _ => ?_)
    refine pm_aloadn hG dX12_press_8 rfl ?_
    refine pm_iloadn hG dX12_press_9 rfl ?_
    obtain ⟨k5, hk5, ek5⟩ := KI.nat hn (show kd 3 = (1, 21, false) by decide)
    refine pm_callV (As := [.int zb]) (rest := []) hG hR dX12_press_10 (lkX12_132 _ rfl) okV_X12_isPower rfl rfl (m_isPower (d := 2) (by decide) ek5 (by omega)) rfl rfl hdd (Nat.le_refl _) (Nat.le_refl _) (by decide) (pm_ki (fun v6 σ' cnt' hq => ?_))
    obtain ⟨hq, rfl, rfl⟩ := hq
    rcases hq with ⟨rfl, k8, hk8, ek8⟩ | rfl
    · refine pm_ifN_ne (tgt := 22) hG dX12_press_13 rfl (by omega) (fun _ => ?_) (fun q => absurd q (by omega))
      refine pm_aloadn hG dX12_press_22 rfl ?_
      refine pm_iloadn hG dX12_press_23 rfl ?_
      refine pm_top (v := nI k8) ek8 ?_
      refine pm_iconst (v := nI 0) hG dX12_press_24 (by decide) ?_
      refine pm_callV (As := [.int (nI k8), .int (nI 0)]) (rest := []) hG hR dX12_press_25 (lkX12_110 _ rfl) okV_X12_its rfl rfl (m_its (d := 2) (e := 6 * k8 + 390) (by omega) (by omega) (by omega)) rfl rfl hdd (Nat.le_refl _) (Nat.le_refl _) (by decide) (pm_ki (fun v9 σ' cnt' hq => ?_))
      obtain ⟨rfl, rfl, rfl⟩ := hq
      refine pm_gen (fun x10 ex10 => ?_)
      refine pm_iconst (v := nI 2) hG dX12_press_28 (by decide) ?_
      refine pm_icmp_eq (tgt := 38) hG dX12_press_29 rfl (fun c11 => ?_) (fun c11 => ?_)
      · refine pm_aloadn hG dX12_press_38 rfl ?_
        refine pm_iloadn hG dX12_press_39 rfl ?_
        refine pm_top (v := nI k4) ek4 ?_
        refine pm_iconst (v := nI 4) hG dX12_press_40 (by decide) ?_
        refine pm_callV (As := [.int (nI k4), .int (nI 4)]) (rest := []) hG hR dX12_press_41 (lkX12_199 _ rfl) okV_X12_of rfl rfl (m_of (d := 2) (e := 12 * k4 + 1294) (by omega) (by omega) (by omega)) rfl rfl hdd (Nat.le_refl _) (Nat.le_refl _) (by decide) (pm_ki (fun v12 σ' cnt' hq => ?_))
        obtain ⟨rfl, rfl, rfl⟩ := hq
        rcases KI.opt hn (show kd (12 * k4 + 1294) = (2, 20, true) from (kd_E (k := k4) (c := 4) (by omega) (by omega) (by decide))) with ek13 | ⟨k13, hk13, ek13⟩
        · refine pm_top (v := (-1)) ek13 ?_
          refine pm_if_ge (tgt := 75) hG dX12_press_44 rfl (fun q => absurd q (by decide)) (fun _ => ?_)
          refine pm_aloadn hG dX12_press_47 rfl ?_
          refine pm_iloadn hG dX12_press_48 rfl ?_
          refine pm_top (v := nI k8) ek8 ?_
          rcases KI.opt hn (show kd (6 * k8 + 392) = (2, 20, false) from (kd_W (k := k8) (c := 2) (by omega) (by omega) (by decide))) with ek14 | ⟨k14, hk14, ek14⟩
          · rcases KI.opt hn (show kd (6 * k8 + 391) = (2, 20, false) from (kd_W (k := k8) (c := 1) (by omega) (by omega) (by decide))) with ek15 | ⟨k15, hk15, ek15⟩
            · refine pm_callV (As := [.int (nI k8)]) (rest := []) hG hR dX12_press_49 (lkX12_139 _ rfl) okV_X12_whoHas rfl rfl (m_whoHas0 (d := 2) (e := 6 * k8 + 392) (e2 := 6 * k8 + 391) (by decide) (by omega) (by omega) (by omega) ek14 ek15) rfl rfl hdd (Nat.le_refl _) (Nat.le_refl _) (by decide) (pm_ki (fun v16 σ' cnt' hq => ?_))
              obtain ⟨rfl, rfl, rfl⟩ := hq
              refine pm_if_lt (tgt := 75) hG dX12_press_52 rfl (fun _ => ?_) (fun q => absurd q (by decide))
              refine pm_aloadn hG dX12_press_75 rfl ?_
              refine pm_iconst (v := nI 3) hG dX12_press_76 (by decide) ?_
              refine pm_callV (As := [.int (nI 3)]) (rest := []) hG hR dX12_press_77 (lkX12_80 _ rfl) okV_X12_finds rfl rfl (m_finds (d := 2) (by decide) hn hz (by omega)) rfl rfl hdd (Nat.le_refl _) (Nat.le_refl _) (by decide) (pm_ki (fun v17 σ' cnt' hq => ?_))
              obtain ⟨⟨I18, A18, rfl⟩, rfl, fv17⟩ := hq
              exact pm_iret hG hF dX12_press_80 rfl (Nat.le_refl _) (Nat.le_refl _) ⟨_, rfl, ⟨_, _, _, rfl, hn, hr, ekc0.trans ekc0.symm, ekc6.trans ekc6.symm⟩, rfl⟩
            · refine pm_callV (As := [.int (nI k8)]) (rest := []) hG hR dX12_press_49 (lkX12_139 _ rfl) okV_X12_whoHas rfl rfl (m_whoHas0 (d := 2) (e := 6 * k8 + 392) (e2 := 6 * k8 + 391) (by decide) (by omega) (by omega) (by omega) ek14 ek15) rfl rfl hdd (Nat.le_refl _) (Nat.le_refl _) (by decide) (pm_ki (fun v19 σ' cnt' hq => ?_))
              obtain ⟨rfl, rfl, rfl⟩ := hq
              refine pm_ifN_lt hG dX12_press_52 rfl (by omega) ?_
              refine pm_aloadn hG dX12_press_55 rfl ?_
              refine pm_aloadn hG dX12_press_56 rfl ?_
              refine pm_iloadn hG dX12_press_57 rfl ?_
              refine pm_top (v := nI k8) ek8 ?_
              refine pm_callV (As := [.int (nI k8)]) (rest := [.ref (B + 54)]) hG hR dX12_press_58 (lkX12_139 _ rfl) okV_X12_whoHas rfl rfl (m_whoHas0 (d := 2) (e := 6 * k8 + 392) (e2 := 6 * k8 + 391) (by decide) (by omega) (by omega) (by omega) ek14 ek15) rfl rfl hdd (Nat.le_refl _) (Nat.le_refl _) (Nat.le_of_ble_eq_true rfl) (pm_ki (fun v20 σ' cnt' hq => ?_))
              obtain ⟨rfl, rfl, rfl⟩ := hq
              refine pm_iconst (v := nI 4) hG dX12_press_61 (by decide) ?_
              refine pm_callV (As := [.int (nI k15), .int (nI 4)]) (rest := []) hG hR dX12_press_62 (lkX12_72 _ rfl) okV_X12_man rfl rfl (m_man (d := 2) (e := 14 * k15 + 114) (by omega) (by omega) (by omega)) rfl rfl hdd (Nat.le_refl _) (Nat.le_refl _) (by decide) (pm_ki (fun v21 σ' cnt' hq => ?_))
              obtain ⟨rfl, rfl, rfl⟩ := hq
              rcases KI.opt hn (show kd (14 * k15 + 114) = (2, 10, false) from (kd_P (k := k15) (c := 4) (by omega) (by omega) (by decide))) with ek22 | ⟨k22, hk22, ek22⟩
              · refine pm_top (v := (-1)) ek22 ?_
                refine pm_aloadn hG dX12_press_65 rfl ?_
                refine pm_iloadn hG dX12_press_66 rfl ?_
                refine pm_top (v := nI k4) ek4 ?_
                refine pm_bipush (v := nI 10) hG dX12_press_67 (by decide) ?_
                refine pm_callV (As := [.int (nI k4), .int (nI 10)]) (rest := [.int (-1)]) hG hR dX12_press_69 (lkX12_199 _ rfl) okV_X12_of rfl rfl (m_of (d := 2) (e := 12 * k4 + 1300) (by omega) (by omega) (by omega)) rfl rfl hdd (Nat.le_refl _) (Nat.le_refl _) (Nat.le_of_ble_eq_true rfl) (pm_ki (fun v23 σ' cnt' hq => ?_))
                obtain ⟨rfl, rfl, rfl⟩ := hq
                obtain ⟨k24, hk24, ek24⟩ := KI.nat hn (show kd (12 * k4 + 1300) = (1, 10, false) from (kd_E (k := k4) (c := 10) (by omega) (by omega) (by decide)))
                refine pm_top (v := nI k24) ek24 ?_
                refine pm_icmp_eq (tgt := 81) hG dX12_press_72 rfl (fun q => absurd q ((fun q => nI_m1 (by omega) q.symm))) (fun _ => ?_)
                refine pm_aloadn hG dX12_press_75 rfl ?_
                refine pm_iconst (v := nI 3) hG dX12_press_76 (by decide) ?_
                refine pm_callV (As := [.int (nI 3)]) (rest := []) hG hR dX12_press_77 (lkX12_80 _ rfl) okV_X12_finds rfl rfl (m_finds (d := 2) (by decide) hn hz (by omega)) rfl rfl hdd (Nat.le_refl _) (Nat.le_refl _) (by decide) (pm_ki (fun v25 σ' cnt' hq => ?_))
                obtain ⟨⟨I26, A26, rfl⟩, rfl, fv25⟩ := hq
                exact pm_iret hG hF dX12_press_80 rfl (Nat.le_refl _) (Nat.le_refl _) ⟨_, rfl, ⟨_, _, _, rfl, hn, hr, ekc0.trans ekc0.symm, ekc6.trans ekc6.symm⟩, rfl⟩
              · refine pm_top (v := nI k22) ek22 ?_
                refine pm_aloadn hG dX12_press_65 rfl ?_
                refine pm_iloadn hG dX12_press_66 rfl ?_
                refine pm_top (v := nI k4) ek4 ?_
                refine pm_bipush (v := nI 10) hG dX12_press_67 (by decide) ?_
                refine pm_callV (As := [.int (nI k4), .int (nI 10)]) (rest := [.int (nI k22)]) hG hR dX12_press_69 (lkX12_199 _ rfl) okV_X12_of rfl rfl (m_of (d := 2) (e := 12 * k4 + 1300) (by omega) (by omega) (by omega)) rfl rfl hdd (Nat.le_refl _) (Nat.le_refl _) (Nat.le_of_ble_eq_true rfl) (pm_ki (fun v27 σ' cnt' hq => ?_))
                obtain ⟨rfl, rfl, rfl⟩ := hq
                obtain ⟨k28, hk28, ek28⟩ := KI.nat hn (show kd (12 * k4 + 1300) = (1, 10, false) from (kd_E (k := k4) (c := 10) (by omega) (by omega) (by decide)))
                refine pm_top (v := nI k28) ek28 ?_
                refine pm_icmpN_eq (tgt := 81) hG dX12_press_72 rfl (by omega) (by omega) (fun c29 => ?_) (fun c29 => ?_)
                · refine pm_aloadn hG dX12_press_81 rfl ?_
                  refine pm_iloadn hG dX12_press_82 rfl ?_
                  refine pm_top (v := nI k8) ek8 ?_
                  refine pm_iconst (v := nI 5) hG dX12_press_83 (by decide) ?_
                  refine pm_callV (As := [.int (nI k8), .int (nI 5)]) (rest := []) hG hR dX12_press_84 (lkX12_110 _ rfl) okV_X12_its rfl rfl (m_its (d := 2) (e := 6 * k8 + 395) (by omega) (by omega) (by omega)) rfl rfl hdd (Nat.le_refl _) (Nat.le_refl _) (by decide) (pm_ki (fun v30 σ' cnt' hq => ?_))
                  obtain ⟨rfl, rfl, rfl⟩ := hq
                  refine pm_gen (fun x31 ex31 => ?_)
                  refine pm_istoreXn (loc' := [some (.ref (B + 54)), some (.int za), some (.int zb), some (.int x31), none, none]) hG dX12_press_87 (by decide) (pm_c1b rfl) rfl ?_
                  refine pm_iconst (v := nI 0) hG dX12_press_88 (by decide) ?_
                  refine pm_istoreXi (loc' := [some (.ref (B + 54)), some (.int za), some (.int zb), some (.int x31), some (.int (nI 0)), none]) hG dX12_press_89 (by decide) (pm_c1b rfl) rfl ?_
                  refine pm_iconst (v := nI 0) hG dX12_press_91 (by decide) ?_
                  refine pm_istoreXi (loc' := [some (.ref (B + 54)), some (.int za), some (.int zb), some (.int x31), some (.int (nI 0)), some (.int (nI 0))]) hG dX12_press_92 (by decide) (pm_c1b rfl) rfl ?_
                  have loop94_32 : ∀ (m32 : Nat) (I32 : Nat → Int32) (A32 : Nat → Nat → Int32) (n_32 : Nat → Int32) (x32_4 : Int32) (i32 : Nat), KI n_32 → NRx 40 n_32 → n_32 0 = nI kc0 → n_32 6 = nI kc6 → i32 ≤ 20 → 20 - i32 < m32 → pm_wp mX12_press G B 94 [some (.ref (B + 54)), some (.int za), some (.int zb), some (.int x31), some (.int x32_4), some (.int (nI i32))] [] 0 0 cnt (pm_mid σ (md_L B I32 A32 n_32 k z ac wt pl (nI p0) (nI t0) im)) := by
                    intro m32
                    induction m32 with
                    | zero => intro I32 A32 n_32 x32_4 i32 _ _ _ _ _ hm; exact absurd hm (Nat.not_lt_zero _)
                    | succ m32 ih32 =>
                      intro I32 A32 n_32 x32_4 i32 hnn_32 hrn_32 kc32_0 kc32_6 hi32 hm32
                      refine pm_iloadi hG dX12_press_94 rfl ?_
                      refine pm_aloadn hG dX12_press_96 rfl ?_
                      refine pm_getf hG dX12_press_97 (flX12_7 _ rfl) rfl rfl ?_
                      refine pm_iconst (v := nI 3) hG dX12_press_100 (by decide) ?_
                      refine pm_ialdN hG dX12_press_101 rfl (by decide) (by omega) ?_
                      obtain ⟨k33, hk33, ek33⟩ := KI.nat hnn_32 (show kd 3 = (1, 21, false) by decide)
                      refine pm_top (v := nI k33) ek33 ?_
                      refine pm_icmpN_ge (tgt := 159) hG dX12_press_102 rfl (by omega) (by omega) (fun c34 => ?_) (fun c34 => ?_)
                      · refine pm_aloadn hG dX12_press_159 rfl ?_
                        refine pm_aloadn hG dX12_press_160 rfl ?_
                        refine pm_iloadn hG dX12_press_161 rfl ?_
                        refine pm_top (v := nI k4) ek4 ?_
                        refine pm_bipush (v := nI 10) hG dX12_press_162 (by decide) ?_
                        refine pm_callV (As := [.int (nI k4), .int (nI 10)]) (rest := [.ref (B + 54)]) hG hR dX12_press_164 (lkX12_199 _ rfl) okV_X12_of rfl rfl (m_of (d := 2) (e := 12 * k4 + 1300) (by omega) (by omega) (by omega)) rfl rfl hdd (Nat.le_refl _) (Nat.le_refl _) (Nat.le_of_ble_eq_true rfl) (pm_ki (fun v35 σ' cnt' hq => ?_))
                        obtain ⟨rfl, rfl, rfl⟩ := hq
                        obtain ⟨k36, hk36, ek36⟩ := KI.nat hnn_32 (show kd (12 * k4 + 1300) = (1, 10, false) from (kd_E (k := k4) (c := 10) (by omega) (by omega) (by decide)))
                        refine pm_top (v := nI k36) ek36 ?_
                        refine pm_callV (As := [.int (nI k36)]) (rest := []) hG hR dX12_press_167 (lkX12_220 _ rfl) okV_X12_thoseIn rfl rfl (m_thoseIn (d := 2) (by decide) hnn_32 hz) rfl rfl hdd (Nat.le_refl _) (Nat.le_refl _) (by decide) (pm_ki (fun v37 σ' cnt' hq => ?_))
                        obtain ⟨rfl, rfl⟩ := hq
                        refine pm_iloadi hG dX12_press_170 rfl ?_
                        refine pm_iand hG dX12_press_172 ?_
                        refine pm_any (fun x39 => ?_)
                        refine pm_istoreXi (loc' := [some (.ref (B + 54)), some (.int za), some (.int zb), some (.int x31), some (.int x32_4), some (.int x39)]) hG dX12_press_173 (by decide) (pm_c1b rfl) rfl ?_
                        refine pm_aloadn hG dX12_press_175 rfl ?_
                        refine pm_iloadn hG dX12_press_176 rfl ?_
                        refine pm_top (v := nI k4) ek4 ?_
                        refine pm_bipush (v := nI 9) hG dX12_press_177 (by decide) ?_
                        refine pm_aloadn hG dX12_press_179 rfl ?_
                        refine pm_iloadn hG dX12_press_180 rfl ?_
                        refine pm_top (v := nI k4) ek4 ?_
                        refine pm_iconst (v := nI 3) hG dX12_press_181 (by decide) ?_
                        refine pm_callV (As := [.int (nI k4), .int (nI 3)]) (rest := [.int (nI 9), .int (nI k4), .ref (B + 54)]) hG hR dX12_press_182 (lkX12_199 _ rfl) okV_X12_of rfl rfl (m_of (d := 2) (e := 12 * k4 + 1293) (by omega) (by omega) (by omega)) rfl rfl hdd (Nat.le_refl _) (Nat.le_refl _) (Nat.le_of_ble_eq_true rfl) (pm_ki (fun v40 σ' cnt' hq => ?_))
                        obtain ⟨rfl, rfl, rfl⟩ := hq
                        refine pm_gen (fun x41 ex41 => ?_)
                        refine pm_if_ne (tgt := 193) hG dX12_press_185 rfl (fun c42 => ?_) (fun c42 => ?_)
                        · refine pm_aloadn hG dX12_press_193 rfl ?_
                          refine pm_iloadn hG dX12_press_194 rfl ?_
                          refine pm_top (v := nI k4) ek4 ?_
                          refine pm_bipush (v := nI 9) hG dX12_press_195 (by decide) ?_
                          refine pm_callV (As := [.int (nI k4), .int (nI 9)]) (rest := [.int (nI 9), .int (nI k4), .ref (B + 54)]) hG hR dX12_press_197 (lkX12_199 _ rfl) okV_X12_of rfl rfl (m_of (d := 2) (e := 12 * k4 + 1299) (by omega) (by omega) (by omega)) rfl rfl hdd (Nat.le_refl _) (Nat.le_refl _) (Nat.le_of_ble_eq_true rfl) (pm_ki (fun v43 σ' cnt' hq => ?_))
                          obtain ⟨rfl, rfl, rfl⟩ := hq
                          refine pm_gen (fun x44 ex44 => ?_)
                          refine pm_iloadi hG dX12_press_200 rfl ?_
                          refine pm_iand hG dX12_press_202 ?_
                          refine pm_any (fun x45 => ?_)
                          refine pm_callV (As := [.int (nI k4), .int (nI 9), .int x45]) (rest := []) hG hR dX12_press_203 (lkX12_217 _ rfl) okV_X12_writes rfl rfl (m_writes (d := 2) (e := 12 * k4 + 1299) (by omega) (by omega) (by omega)) rfl rfl hdd (Nat.le_refl _) (Nat.le_refl _) (by decide) (pm_kv (fun σ' cnt' hq => ?_))
                          obtain ⟨rfl, rfl⟩ := hq
                          obtain ⟨n_46, en_46⟩ : ∃ f : Nat → Int32, f = upd n_32 (12 * k4 + 1299) x45 := ⟨_, rfl⟩
                          rw [← en_46]
                          have hnn_46 := KI.w en_46 hnn_32 (okv_f (show kd (12 * k4 + 1299) = (0, 0, false) from (kd_E (k := k4) (c := 9) (by omega) (by omega) (by decide))))
                          have hrn_46 := NRx.w en_46 hrn_32 (by rw [(show kd (12 * k4 + 1299) = (0, 0, false) from (kd_E (k := k4) (c := 9) (by omega) (by omega) (by decide)))])
                          have e47 : n_46 0 = nI kc0 := by rw [en_46, pk_un (by omega)]; exact kc32_0
                          have e48 : n_46 6 = nI kc6 := by rw [en_46, pk_un (by omega)]; exact kc32_6
                          have e49 : n_46 3 = nI k33 := by rw [en_46, pk_un (by omega)]; exact ek33
                          have e50 : n_46 (12 * k4 + 1300) = nI k36 := by rw [en_46, pk_un (by omega)]; exact ek36
                          have e51 : n_46 (12 * k4 + 1293) = x41 := by rw [en_46, pk_un (by omega)]; exact ex41
                          have e52 : n_46 (12 * k4 + 1299) = x45 := by rw [en_46, pk_us]
                          refine pm_aloadn hG dX12_press_206 rfl ?_
                          refine pm_iloadn hG dX12_press_207 rfl ?_
                          refine pm_top (v := nI k4) ek4 ?_
                          refine pm_iconst (v := nI 3) hG dX12_press_208 (by decide) ?_
                          refine pm_aloadn hG dX12_press_209 rfl ?_
                          refine pm_iloadn hG dX12_press_210 rfl ?_
                          refine pm_top (v := nI k4) ek4 ?_
                          refine pm_iconst (v := nI 3) hG dX12_press_211 (by decide) ?_
                          refine pm_callV (As := [.int (nI k4), .int (nI 3)]) (rest := [.int (nI 3), .int (nI k4), .ref (B + 54)]) hG hR dX12_press_212 (lkX12_199 _ rfl) okV_X12_of rfl rfl (m_of (d := 2) (e := 12 * k4 + 1293) (by omega) (by omega) (by omega)) rfl rfl hdd (Nat.le_refl _) (Nat.le_refl _) (Nat.le_of_ble_eq_true rfl) (pm_ki (fun v53 σ' cnt' hq => ?_))
                          obtain ⟨rfl, rfl, rfl⟩ := hq
                          refine pm_top (v := x41) e51 ?_
                          refine pm_iconst (v := nI 1) hG dX12_press_215 (by decide) ?_
                          refine pm_iloadn hG dX12_press_216 rfl ?_
                          refine pm_ishl hG dX12_press_217 ?_
                          refine pm_any (fun x54 => ?_)
                          refine pm_ior hG dX12_press_218 ?_
                          refine pm_any (fun x55 => ?_)
                          refine pm_callV (As := [.int (nI k4), .int (nI 3), .int x55]) (rest := []) hG hR dX12_press_219 (lkX12_217 _ rfl) okV_X12_writes rfl rfl (m_writes (d := 2) (e := 12 * k4 + 1293) (by omega) (by omega) (by omega)) rfl rfl hdd (Nat.le_refl _) (Nat.le_refl _) (by decide) (pm_kv (fun σ' cnt' hq => ?_))
                          obtain ⟨rfl, rfl⟩ := hq
                          obtain ⟨n_56, en_56⟩ : ∃ f : Nat → Int32, f = upd n_46 (12 * k4 + 1293) x55 := ⟨_, rfl⟩
                          rw [← en_56]
                          have hnn_56 := KI.w en_56 hnn_46 (okv_f (show kd (12 * k4 + 1293) = (0, 0, false) from (kd_E (k := k4) (c := 3) (by omega) (by omega) (by decide))))
                          have hrn_56 := NRx.w en_56 hrn_46 (by rw [(show kd (12 * k4 + 1293) = (0, 0, false) from (kd_E (k := k4) (c := 3) (by omega) (by omega) (by decide)))])
                          have e57 : n_56 0 = nI kc0 := by rw [en_56, pk_un (by omega)]; exact e47
                          have e58 : n_56 6 = nI kc6 := by rw [en_56, pk_un (by omega)]; exact e48
                          have e59 : n_56 3 = nI k33 := by rw [en_56, pk_un (by omega)]; exact e49
                          have e60 : n_56 (12 * k4 + 1300) = nI k36 := by rw [en_56, pk_un (by omega)]; exact e50
                          have e61 : n_56 (12 * k4 + 1299) = x45 := by rw [en_56, pk_un (by omega)]; exact e52
                          have e62 : n_56 (12 * k4 + 1293) = x55 := by rw [en_56, pk_us]
                          refine pm_aloadn hG dX12_press_222 rfl ?_
                          refine pm_iloadn hG dX12_press_223 rfl ?_
                          refine pm_top (v := nI k4) ek4 ?_
                          refine pm_iconst (v := nI 3) hG dX12_press_224 (by decide) ?_
                          refine pm_callV (As := [.int (nI k4), .int (nI 3)]) (rest := []) hG hR dX12_press_225 (lkX12_199 _ rfl) okV_X12_of rfl rfl (m_of (d := 2) (e := 12 * k4 + 1293) (by omega) (by omega) (by omega)) rfl rfl hdd (Nat.le_refl _) (Nat.le_refl _) (by decide) (pm_ki (fun v63 σ' cnt' hq => ?_))
                          obtain ⟨rfl, rfl, rfl⟩ := hq
                          refine pm_top (v := x55) e62 ?_
                          refine pm_callS (As := [.int x55]) (rest := []) hG hR dX12_press_228 (lkX12_202 _ rfl) okS_X12_bits (m_bits (d := 2) (by decide) hnn_56 hz) rfl rfl hdd (Nat.le_refl _) (Nat.le_refl _) (by decide) (pm_ki (fun v64 σ' cnt' hq => ?_))
                          obtain ⟨rfl, rfl⟩ := hq
                          exact pm_iret hG hF dX12_press_231 rfl (Nat.le_refl _) (Nat.le_refl _) ⟨_, rfl, ⟨_, _, _, rfl, hnn_56, hrn_56, e57.trans ekc0.symm, e58.trans ekc6.symm⟩, rfl⟩
                        · refine pm_iloadi hG dX12_press_188 rfl ?_
                          refine pm_goto (tgt := 203) hG dX12_press_190 rfl ?_
                          refine pm_callV (As := [.int (nI k4), .int (nI 9), .int x39]) (rest := []) hG hR dX12_press_203 (lkX12_217 _ rfl) okV_X12_writes rfl rfl (m_writes (d := 2) (e := 12 * k4 + 1299) (by omega) (by omega) (by omega)) rfl rfl hdd (Nat.le_refl _) (Nat.le_refl _) (by decide) (pm_kv (fun σ' cnt' hq => ?_))
                          obtain ⟨rfl, rfl⟩ := hq
                          obtain ⟨n_66, en_66⟩ : ∃ f : Nat → Int32, f = upd n_32 (12 * k4 + 1299) x39 := ⟨_, rfl⟩
                          rw [← en_66]
                          have hnn_66 := KI.w en_66 hnn_32 (okv_f (show kd (12 * k4 + 1299) = (0, 0, false) from (kd_E (k := k4) (c := 9) (by omega) (by omega) (by decide))))
                          have hrn_66 := NRx.w en_66 hrn_32 (by rw [(show kd (12 * k4 + 1299) = (0, 0, false) from (kd_E (k := k4) (c := 9) (by omega) (by omega) (by decide)))])
                          have e67 : n_66 0 = nI kc0 := by rw [en_66, pk_un (by omega)]; exact kc32_0
                          have e68 : n_66 6 = nI kc6 := by rw [en_66, pk_un (by omega)]; exact kc32_6
                          have e69 : n_66 3 = nI k33 := by rw [en_66, pk_un (by omega)]; exact ek33
                          have e70 : n_66 (12 * k4 + 1300) = nI k36 := by rw [en_66, pk_un (by omega)]; exact ek36
                          have e71 : n_66 (12 * k4 + 1293) = x41 := by rw [en_66, pk_un (by omega)]; exact ex41
                          have e72 : n_66 (12 * k4 + 1299) = x39 := by rw [en_66, pk_us]
                          refine pm_aloadn hG dX12_press_206 rfl ?_
                          refine pm_iloadn hG dX12_press_207 rfl ?_
                          refine pm_top (v := nI k4) ek4 ?_
                          refine pm_iconst (v := nI 3) hG dX12_press_208 (by decide) ?_
                          refine pm_aloadn hG dX12_press_209 rfl ?_
                          refine pm_iloadn hG dX12_press_210 rfl ?_
                          refine pm_top (v := nI k4) ek4 ?_
                          refine pm_iconst (v := nI 3) hG dX12_press_211 (by decide) ?_
                          refine pm_callV (As := [.int (nI k4), .int (nI 3)]) (rest := [.int (nI 3), .int (nI k4), .ref (B + 54)]) hG hR dX12_press_212 (lkX12_199 _ rfl) okV_X12_of rfl rfl (m_of (d := 2) (e := 12 * k4 + 1293) (by omega) (by omega) (by omega)) rfl rfl hdd (Nat.le_refl _) (Nat.le_refl _) (Nat.le_of_ble_eq_true rfl) (pm_ki (fun v73 σ' cnt' hq => ?_))
                          obtain ⟨rfl, rfl, rfl⟩ := hq
                          refine pm_top (v := x41) e71 ?_
                          refine pm_iconst (v := nI 1) hG dX12_press_215 (by decide) ?_
                          refine pm_iloadn hG dX12_press_216 rfl ?_
                          refine pm_ishl hG dX12_press_217 ?_
                          refine pm_any (fun x74 => ?_)
                          refine pm_ior hG dX12_press_218 ?_
                          refine pm_any (fun x75 => ?_)
                          refine pm_callV (As := [.int (nI k4), .int (nI 3), .int x75]) (rest := []) hG hR dX12_press_219 (lkX12_217 _ rfl) okV_X12_writes rfl rfl (m_writes (d := 2) (e := 12 * k4 + 1293) (by omega) (by omega) (by omega)) rfl rfl hdd (Nat.le_refl _) (Nat.le_refl _) (by decide) (pm_kv (fun σ' cnt' hq => ?_))
                          obtain ⟨rfl, rfl⟩ := hq
                          obtain ⟨n_76, en_76⟩ : ∃ f : Nat → Int32, f = upd n_66 (12 * k4 + 1293) x75 := ⟨_, rfl⟩
                          rw [← en_76]
                          have hnn_76 := KI.w en_76 hnn_66 (okv_f (show kd (12 * k4 + 1293) = (0, 0, false) from (kd_E (k := k4) (c := 3) (by omega) (by omega) (by decide))))
                          have hrn_76 := NRx.w en_76 hrn_66 (by rw [(show kd (12 * k4 + 1293) = (0, 0, false) from (kd_E (k := k4) (c := 3) (by omega) (by omega) (by decide)))])
                          have e77 : n_76 0 = nI kc0 := by rw [en_76, pk_un (by omega)]; exact e67
                          have e78 : n_76 6 = nI kc6 := by rw [en_76, pk_un (by omega)]; exact e68
                          have e79 : n_76 3 = nI k33 := by rw [en_76, pk_un (by omega)]; exact e69
                          have e80 : n_76 (12 * k4 + 1300) = nI k36 := by rw [en_76, pk_un (by omega)]; exact e70
                          have e81 : n_76 (12 * k4 + 1299) = x39 := by rw [en_76, pk_un (by omega)]; exact e72
                          have e82 : n_76 (12 * k4 + 1293) = x75 := by rw [en_76, pk_us]
                          refine pm_aloadn hG dX12_press_222 rfl ?_
                          refine pm_iloadn hG dX12_press_223 rfl ?_
                          refine pm_top (v := nI k4) ek4 ?_
                          refine pm_iconst (v := nI 3) hG dX12_press_224 (by decide) ?_
                          refine pm_callV (As := [.int (nI k4), .int (nI 3)]) (rest := []) hG hR dX12_press_225 (lkX12_199 _ rfl) okV_X12_of rfl rfl (m_of (d := 2) (e := 12 * k4 + 1293) (by omega) (by omega) (by omega)) rfl rfl hdd (Nat.le_refl _) (Nat.le_refl _) (by decide) (pm_ki (fun v83 σ' cnt' hq => ?_))
                          obtain ⟨rfl, rfl, rfl⟩ := hq
                          refine pm_top (v := x75) e82 ?_
                          refine pm_callS (As := [.int x75]) (rest := []) hG hR dX12_press_228 (lkX12_202 _ rfl) okS_X12_bits (m_bits (d := 2) (by decide) hnn_76 hz) rfl rfl hdd (Nat.le_refl _) (Nat.le_refl _) (by decide) (pm_ki (fun v84 σ' cnt' hq => ?_))
                          obtain ⟨rfl, rfl⟩ := hq
                          exact pm_iret hG hF dX12_press_231 rfl (Nat.le_refl _) (Nat.le_refl _) ⟨_, rfl, ⟨_, _, _, rfl, hnn_76, hrn_76, e77.trans ekc0.symm, e78.trans ekc6.symm⟩, rfl⟩
                      · refine pm_iloadi hG dX12_press_105 rfl ?_
                        refine pm_aloadn hG dX12_press_107 rfl ?_
                        refine pm_iloadi hG dX12_press_108 rfl ?_
                        refine pm_iconst (v := nI 0) hG dX12_press_110 (by decide) ?_
                        refine pm_callV (As := [.int (nI i32), .int (nI 0)]) (rest := [.int x32_4]) hG hR dX12_press_111 (lkX12_110 _ rfl) okV_X12_its rfl rfl (m_its (d := 2) (e := 6 * i32 + 390) (by omega) (by omega) (by omega)) rfl rfl hdd (Nat.le_refl _) (Nat.le_refl _) (Nat.le_of_ble_eq_true rfl) (pm_ki (fun v86 σ' cnt' hq => ?_))
                        obtain ⟨rfl, rfl, rfl⟩ := hq
                        refine pm_gen (fun x87 ex87 => ?_)
                        refine pm_iconst (v := nI 2) hG dX12_press_114 (by decide) ?_
                        refine pm_icmp_ne (tgt := 149) hG dX12_press_115 rfl (fun c88 => ?_) (fun c88 => ?_)
                        · refine pm_iconst (v := nI 0) hG dX12_press_149 (by decide) ?_
                          refine pm_ior hG dX12_press_150 ?_
                          refine pm_any (fun x89 => ?_)
                          refine pm_istoreXi (loc' := [some (.ref (B + 54)), some (.int za), some (.int zb), some (.int x31), some (.int x89), some (.int (nI i32))]) hG dX12_press_151 (by decide) (pm_c1b rfl) rfl ?_
                          refine pm_iincX (v := nI (i32 + 1)) (loc' := [some (.ref (B + 54)), some (.int za), some (.int zb), some (.int x31), some (.int x89), some (.int (nI (i32 + 1)))]) hG dX12_press_153 rfl (nI_1 _) (by decide) (pm_c1b rfl) rfl ?_
                          refine pm_goto (tgt := 94) hG dX12_press_156 rfl ?_
                          exact ih32 I32 A32 n_32 x89 (i32 + 1) hnn_32 hrn_32 (kc32_0.trans (congrArg nI (by omega))) (kc32_6.trans (congrArg nI (by omega))) (by omega) (by omega)
                        · refine pm_aloadn hG dX12_press_118 rfl ?_
                          refine pm_iloadi hG dX12_press_119 rfl ?_
                          refine pm_iconst (v := nI 5) hG dX12_press_121 (by decide) ?_
                          refine pm_callV (As := [.int (nI i32), .int (nI 5)]) (rest := [.int x32_4]) hG hR dX12_press_122 (lkX12_110 _ rfl) okV_X12_its rfl rfl (m_its (d := 2) (e := 6 * i32 + 395) (by omega) (by omega) (by omega)) rfl rfl hdd (Nat.le_refl _) (Nat.le_refl _) (Nat.le_of_ble_eq_true rfl) (pm_ki (fun v90 σ' cnt' hq => ?_))
                          obtain ⟨rfl, rfl, rfl⟩ := hq
                          refine pm_gen (fun x91 ex91 => ?_)
                          refine pm_iloadn hG dX12_press_125 rfl ?_
                          refine pm_icmp_ne (tgt := 149) hG dX12_press_126 rfl (fun c92 => ?_) (fun c92 => ?_)
                          · refine pm_iconst (v := nI 0) hG dX12_press_149 (by decide) ?_
                            refine pm_ior hG dX12_press_150 ?_
                            refine pm_any (fun x93 => ?_)
                            refine pm_istoreXi (loc' := [some (.ref (B + 54)), some (.int za), some (.int zb), some (.int x31), some (.int x93), some (.int (nI i32))]) hG dX12_press_151 (by decide) (pm_c1b rfl) rfl ?_
                            refine pm_iincX (v := nI (i32 + 1)) (loc' := [some (.ref (B + 54)), some (.int za), some (.int zb), some (.int x31), some (.int x93), some (.int (nI (i32 + 1)))]) hG dX12_press_153 rfl (nI_1 _) (by decide) (pm_c1b rfl) rfl ?_
                            refine pm_goto (tgt := 94) hG dX12_press_156 rfl ?_
                            exact ih32 I32 A32 n_32 x93 (i32 + 1) hnn_32 hrn_32 (kc32_0.trans (congrArg nI (by omega))) (kc32_6.trans (congrArg nI (by omega))) (by omega) (by omega)
                          · refine pm_aloadn hG dX12_press_129 rfl ?_
                            refine pm_iloadi hG dX12_press_130 rfl ?_
                            rcases KI.opt hnn_32 (show kd (6 * i32 + 392) = (2, 20, false) from (kd_W (k := i32) (c := 2) (by omega) (by omega) (by decide))) with ek94 | ⟨k94, hk94, ek94⟩
                            · rcases KI.opt hnn_32 (show kd (6 * i32 + 391) = (2, 20, false) from (kd_W (k := i32) (c := 1) (by omega) (by omega) (by decide))) with ek95 | ⟨k95, hk95, ek95⟩
                              · refine pm_callV (As := [.int (nI i32)]) (rest := [.int x32_4]) hG hR dX12_press_132 (lkX12_139 _ rfl) okV_X12_whoHas rfl rfl (m_whoHas0 (d := 2) (e := 6 * i32 + 392) (e2 := 6 * i32 + 391) (by decide) (by omega) (by omega) (by omega) ek94 ek95) rfl rfl hdd (Nat.le_refl _) (Nat.le_refl _) (Nat.le_of_ble_eq_true rfl) (pm_ki (fun v96 σ' cnt' hq => ?_))
                                obtain ⟨rfl, rfl, rfl⟩ := hq
                                refine pm_if_lt (tgt := 149) hG dX12_press_135 rfl (fun _ => ?_) (fun q => absurd q (by decide))
                                refine pm_iconst (v := nI 0) hG dX12_press_149 (by decide) ?_
                                refine pm_ior hG dX12_press_150 ?_
                                refine pm_any (fun x97 => ?_)
                                refine pm_istoreXi (loc' := [some (.ref (B + 54)), some (.int za), some (.int zb), some (.int x31), some (.int x97), some (.int (nI i32))]) hG dX12_press_151 (by decide) (pm_c1b rfl) rfl ?_
                                refine pm_iincX (v := nI (i32 + 1)) (loc' := [some (.ref (B + 54)), some (.int za), some (.int zb), some (.int x31), some (.int x97), some (.int (nI (i32 + 1)))]) hG dX12_press_153 rfl (nI_1 _) (by decide) (pm_c1b rfl) rfl ?_
                                refine pm_goto (tgt := 94) hG dX12_press_156 rfl ?_
                                exact ih32 I32 A32 n_32 x97 (i32 + 1) hnn_32 hrn_32 (kc32_0.trans (congrArg nI (by omega))) (kc32_6.trans (congrArg nI (by omega))) (by omega) (by omega)
                              · refine pm_callV (As := [.int (nI i32)]) (rest := [.int x32_4]) hG hR dX12_press_132 (lkX12_139 _ rfl) okV_X12_whoHas rfl rfl (m_whoHas0 (d := 2) (e := 6 * i32 + 392) (e2 := 6 * i32 + 391) (by decide) (by omega) (by omega) (by omega) ek94 ek95) rfl rfl hdd (Nat.le_refl _) (Nat.le_refl _) (Nat.le_of_ble_eq_true rfl) (pm_ki (fun v98 σ' cnt' hq => ?_))
                                obtain ⟨rfl, rfl, rfl⟩ := hq
                                refine pm_ifN_lt hG dX12_press_135 rfl (by omega) ?_
                                refine pm_iconst (v := nI 1) hG dX12_press_138 (by decide) ?_
                                refine pm_aloadn hG dX12_press_139 rfl ?_
                                refine pm_iloadi hG dX12_press_140 rfl ?_
                                refine pm_callV (As := [.int (nI i32)]) (rest := [.int (nI 1), .int x32_4]) hG hR dX12_press_142 (lkX12_139 _ rfl) okV_X12_whoHas rfl rfl (m_whoHas0 (d := 2) (e := 6 * i32 + 392) (e2 := 6 * i32 + 391) (by decide) (by omega) (by omega) (by omega) ek94 ek95) rfl rfl hdd (Nat.le_refl _) (Nat.le_refl _) (Nat.le_of_ble_eq_true rfl) (pm_ki (fun v99 σ' cnt' hq => ?_))
                                obtain ⟨rfl, rfl, rfl⟩ := hq
                                refine pm_ishl hG dX12_press_145 ?_
                                refine pm_any (fun x100 => ?_)
                                refine pm_goto (tgt := 150) hG dX12_press_146 rfl ?_
                                refine pm_ior hG dX12_press_150 ?_
                                refine pm_any (fun x101 => ?_)
                                refine pm_istoreXi (loc' := [some (.ref (B + 54)), some (.int za), some (.int zb), some (.int x31), some (.int x101), some (.int (nI i32))]) hG dX12_press_151 (by decide) (pm_c1b rfl) rfl ?_
                                refine pm_iincX (v := nI (i32 + 1)) (loc' := [some (.ref (B + 54)), some (.int za), some (.int zb), some (.int x31), some (.int x101), some (.int (nI (i32 + 1)))]) hG dX12_press_153 rfl (nI_1 _) (by decide) (pm_c1b rfl) rfl ?_
                                refine pm_goto (tgt := 94) hG dX12_press_156 rfl ?_
                                exact ih32 I32 A32 n_32 x101 (i32 + 1) hnn_32 hrn_32 (kc32_0.trans (congrArg nI (by omega))) (kc32_6.trans (congrArg nI (by omega))) (by omega) (by omega)
                            · refine pm_callV (As := [.int (nI i32)]) (rest := [.int x32_4]) hG hR dX12_press_132 (lkX12_139 _ rfl) okV_X12_whoHas rfl rfl (m_whoHas1 (d := 2) (e := 6 * i32 + 392) (by decide) (by omega) (by omega) ek94 (by omega)) rfl rfl hdd (Nat.le_refl _) (Nat.le_refl _) (Nat.le_of_ble_eq_true rfl) (pm_ki (fun v102 σ' cnt' hq => ?_))
                              obtain ⟨rfl, rfl, rfl⟩ := hq
                              refine pm_ifN_lt hG dX12_press_135 rfl (by omega) ?_
                              refine pm_iconst (v := nI 1) hG dX12_press_138 (by decide) ?_
                              refine pm_aloadn hG dX12_press_139 rfl ?_
                              refine pm_iloadi hG dX12_press_140 rfl ?_
                              refine pm_callV (As := [.int (nI i32)]) (rest := [.int (nI 1), .int x32_4]) hG hR dX12_press_142 (lkX12_139 _ rfl) okV_X12_whoHas rfl rfl (m_whoHas1 (d := 2) (e := 6 * i32 + 392) (by decide) (by omega) (by omega) ek94 (by omega)) rfl rfl hdd (Nat.le_refl _) (Nat.le_refl _) (Nat.le_of_ble_eq_true rfl) (pm_ki (fun v103 σ' cnt' hq => ?_))
                              obtain ⟨rfl, rfl, rfl⟩ := hq
                              refine pm_ishl hG dX12_press_145 ?_
                              refine pm_any (fun x104 => ?_)
                              refine pm_goto (tgt := 150) hG dX12_press_146 rfl ?_
                              refine pm_ior hG dX12_press_150 ?_
                              refine pm_any (fun x105 => ?_)
                              refine pm_istoreXi (loc' := [some (.ref (B + 54)), some (.int za), some (.int zb), some (.int x31), some (.int x105), some (.int (nI i32))]) hG dX12_press_151 (by decide) (pm_c1b rfl) rfl ?_
                              refine pm_iincX (v := nI (i32 + 1)) (loc' := [some (.ref (B + 54)), some (.int za), some (.int zb), some (.int x31), some (.int x105), some (.int (nI (i32 + 1)))]) hG dX12_press_153 rfl (nI_1 _) (by decide) (pm_c1b rfl) rfl ?_
                              refine pm_goto (tgt := 94) hG dX12_press_156 rfl ?_
                              exact ih32 I32 A32 n_32 x105 (i32 + 1) hnn_32 hrn_32 (kc32_0.trans (congrArg nI (by omega))) (kc32_6.trans (congrArg nI (by omega))) (by omega) (by omega)
                  exact loop94_32 _ I A n (nI 0) 0 hn hr (ekc0.trans (congrArg nI (by omega))) (ekc6.trans (congrArg nI (by omega))) (by omega) (Nat.lt_succ_self _)
                · refine pm_aloadn hG dX12_press_75 rfl ?_
                  refine pm_iconst (v := nI 3) hG dX12_press_76 (by decide) ?_
                  refine pm_callV (As := [.int (nI 3)]) (rest := []) hG hR dX12_press_77 (lkX12_80 _ rfl) okV_X12_finds rfl rfl (m_finds (d := 2) (by decide) hn hz (by omega)) rfl rfl hdd (Nat.le_refl _) (Nat.le_refl _) (by decide) (pm_ki (fun v106 σ' cnt' hq => ?_))
                  obtain ⟨⟨I107, A107, rfl⟩, rfl, fv106⟩ := hq
                  exact pm_iret hG hF dX12_press_80 rfl (Nat.le_refl _) (Nat.le_refl _) ⟨_, rfl, ⟨_, _, _, rfl, hn, hr, ekc0.trans ekc0.symm, ekc6.trans ekc6.symm⟩, rfl⟩
          · refine pm_callV (As := [.int (nI k8)]) (rest := []) hG hR dX12_press_49 (lkX12_139 _ rfl) okV_X12_whoHas rfl rfl (m_whoHas1 (d := 2) (e := 6 * k8 + 392) (by decide) (by omega) (by omega) ek14 (by omega)) rfl rfl hdd (Nat.le_refl _) (Nat.le_refl _) (by decide) (pm_ki (fun v108 σ' cnt' hq => ?_))
            obtain ⟨rfl, rfl, rfl⟩ := hq
            refine pm_ifN_lt hG dX12_press_52 rfl (by omega) ?_
            refine pm_aloadn hG dX12_press_55 rfl ?_
            refine pm_aloadn hG dX12_press_56 rfl ?_
            refine pm_iloadn hG dX12_press_57 rfl ?_
            refine pm_top (v := nI k8) ek8 ?_
            refine pm_callV (As := [.int (nI k8)]) (rest := [.ref (B + 54)]) hG hR dX12_press_58 (lkX12_139 _ rfl) okV_X12_whoHas rfl rfl (m_whoHas1 (d := 2) (e := 6 * k8 + 392) (by decide) (by omega) (by omega) ek14 (by omega)) rfl rfl hdd (Nat.le_refl _) (Nat.le_refl _) (Nat.le_of_ble_eq_true rfl) (pm_ki (fun v109 σ' cnt' hq => ?_))
            obtain ⟨rfl, rfl, rfl⟩ := hq
            refine pm_iconst (v := nI 4) hG dX12_press_61 (by decide) ?_
            refine pm_callV (As := [.int (nI k14), .int (nI 4)]) (rest := []) hG hR dX12_press_62 (lkX12_72 _ rfl) okV_X12_man rfl rfl (m_man (d := 2) (e := 14 * k14 + 114) (by omega) (by omega) (by omega)) rfl rfl hdd (Nat.le_refl _) (Nat.le_refl _) (by decide) (pm_ki (fun v110 σ' cnt' hq => ?_))
            obtain ⟨rfl, rfl, rfl⟩ := hq
            rcases KI.opt hn (show kd (14 * k14 + 114) = (2, 10, false) from (kd_P (k := k14) (c := 4) (by omega) (by omega) (by decide))) with ek111 | ⟨k111, hk111, ek111⟩
            · refine pm_top (v := (-1)) ek111 ?_
              refine pm_aloadn hG dX12_press_65 rfl ?_
              refine pm_iloadn hG dX12_press_66 rfl ?_
              refine pm_top (v := nI k4) ek4 ?_
              refine pm_bipush (v := nI 10) hG dX12_press_67 (by decide) ?_
              refine pm_callV (As := [.int (nI k4), .int (nI 10)]) (rest := [.int (-1)]) hG hR dX12_press_69 (lkX12_199 _ rfl) okV_X12_of rfl rfl (m_of (d := 2) (e := 12 * k4 + 1300) (by omega) (by omega) (by omega)) rfl rfl hdd (Nat.le_refl _) (Nat.le_refl _) (Nat.le_of_ble_eq_true rfl) (pm_ki (fun v112 σ' cnt' hq => ?_))
              obtain ⟨rfl, rfl, rfl⟩ := hq
              obtain ⟨k113, hk113, ek113⟩ := KI.nat hn (show kd (12 * k4 + 1300) = (1, 10, false) from (kd_E (k := k4) (c := 10) (by omega) (by omega) (by decide)))
              refine pm_top (v := nI k113) ek113 ?_
              refine pm_icmp_eq (tgt := 81) hG dX12_press_72 rfl (fun q => absurd q ((fun q => nI_m1 (by omega) q.symm))) (fun _ => ?_)
              refine pm_aloadn hG dX12_press_75 rfl ?_
              refine pm_iconst (v := nI 3) hG dX12_press_76 (by decide) ?_
              refine pm_callV (As := [.int (nI 3)]) (rest := []) hG hR dX12_press_77 (lkX12_80 _ rfl) okV_X12_finds rfl rfl (m_finds (d := 2) (by decide) hn hz (by omega)) rfl rfl hdd (Nat.le_refl _) (Nat.le_refl _) (by decide) (pm_ki (fun v114 σ' cnt' hq => ?_))
              obtain ⟨⟨I115, A115, rfl⟩, rfl, fv114⟩ := hq
              exact pm_iret hG hF dX12_press_80 rfl (Nat.le_refl _) (Nat.le_refl _) ⟨_, rfl, ⟨_, _, _, rfl, hn, hr, ekc0.trans ekc0.symm, ekc6.trans ekc6.symm⟩, rfl⟩
            · refine pm_top (v := nI k111) ek111 ?_
              refine pm_aloadn hG dX12_press_65 rfl ?_
              refine pm_iloadn hG dX12_press_66 rfl ?_
              refine pm_top (v := nI k4) ek4 ?_
              refine pm_bipush (v := nI 10) hG dX12_press_67 (by decide) ?_
              refine pm_callV (As := [.int (nI k4), .int (nI 10)]) (rest := [.int (nI k111)]) hG hR dX12_press_69 (lkX12_199 _ rfl) okV_X12_of rfl rfl (m_of (d := 2) (e := 12 * k4 + 1300) (by omega) (by omega) (by omega)) rfl rfl hdd (Nat.le_refl _) (Nat.le_refl _) (Nat.le_of_ble_eq_true rfl) (pm_ki (fun v116 σ' cnt' hq => ?_))
              obtain ⟨rfl, rfl, rfl⟩ := hq
              obtain ⟨k117, hk117, ek117⟩ := KI.nat hn (show kd (12 * k4 + 1300) = (1, 10, false) from (kd_E (k := k4) (c := 10) (by omega) (by omega) (by decide)))
              refine pm_top (v := nI k117) ek117 ?_
              refine pm_icmpN_eq (tgt := 81) hG dX12_press_72 rfl (by omega) (by omega) (fun c118 => ?_) (fun c118 => ?_)
              · refine pm_aloadn hG dX12_press_81 rfl ?_
                refine pm_iloadn hG dX12_press_82 rfl ?_
                refine pm_top (v := nI k8) ek8 ?_
                refine pm_iconst (v := nI 5) hG dX12_press_83 (by decide) ?_
                refine pm_callV (As := [.int (nI k8), .int (nI 5)]) (rest := []) hG hR dX12_press_84 (lkX12_110 _ rfl) okV_X12_its rfl rfl (m_its (d := 2) (e := 6 * k8 + 395) (by omega) (by omega) (by omega)) rfl rfl hdd (Nat.le_refl _) (Nat.le_refl _) (by decide) (pm_ki (fun v119 σ' cnt' hq => ?_))
                obtain ⟨rfl, rfl, rfl⟩ := hq
                refine pm_gen (fun x120 ex120 => ?_)
                refine pm_istoreXn (loc' := [some (.ref (B + 54)), some (.int za), some (.int zb), some (.int x120), none, none]) hG dX12_press_87 (by decide) (pm_c1b rfl) rfl ?_
                refine pm_iconst (v := nI 0) hG dX12_press_88 (by decide) ?_
                refine pm_istoreXi (loc' := [some (.ref (B + 54)), some (.int za), some (.int zb), some (.int x120), some (.int (nI 0)), none]) hG dX12_press_89 (by decide) (pm_c1b rfl) rfl ?_
                refine pm_iconst (v := nI 0) hG dX12_press_91 (by decide) ?_
                refine pm_istoreXi (loc' := [some (.ref (B + 54)), some (.int za), some (.int zb), some (.int x120), some (.int (nI 0)), some (.int (nI 0))]) hG dX12_press_92 (by decide) (pm_c1b rfl) rfl ?_
                have loop94_121 : ∀ (m121 : Nat) (I121 : Nat → Int32) (A121 : Nat → Nat → Int32) (n_121 : Nat → Int32) (x121_4 : Int32) (i121 : Nat), KI n_121 → NRx 40 n_121 → n_121 0 = nI kc0 → n_121 6 = nI kc6 → i121 ≤ 20 → 20 - i121 < m121 → pm_wp mX12_press G B 94 [some (.ref (B + 54)), some (.int za), some (.int zb), some (.int x120), some (.int x121_4), some (.int (nI i121))] [] 0 0 cnt (pm_mid σ (md_L B I121 A121 n_121 k z ac wt pl (nI p0) (nI t0) im)) := by
                  intro m121
                  induction m121 with
                  | zero => intro I121 A121 n_121 x121_4 i121 _ _ _ _ _ hm; exact absurd hm (Nat.not_lt_zero _)
                  | succ m121 ih121 =>
                    intro I121 A121 n_121 x121_4 i121 hnn_121 hrn_121 kc121_0 kc121_6 hi121 hm121
                    refine pm_iloadi hG dX12_press_94 rfl ?_
                    refine pm_aloadn hG dX12_press_96 rfl ?_
                    refine pm_getf hG dX12_press_97 (flX12_7 _ rfl) rfl rfl ?_
                    refine pm_iconst (v := nI 3) hG dX12_press_100 (by decide) ?_
                    refine pm_ialdN hG dX12_press_101 rfl (by decide) (by omega) ?_
                    obtain ⟨k122, hk122, ek122⟩ := KI.nat hnn_121 (show kd 3 = (1, 21, false) by decide)
                    refine pm_top (v := nI k122) ek122 ?_
                    refine pm_icmpN_ge (tgt := 159) hG dX12_press_102 rfl (by omega) (by omega) (fun c123 => ?_) (fun c123 => ?_)
                    · refine pm_aloadn hG dX12_press_159 rfl ?_
                      refine pm_aloadn hG dX12_press_160 rfl ?_
                      refine pm_iloadn hG dX12_press_161 rfl ?_
                      refine pm_top (v := nI k4) ek4 ?_
                      refine pm_bipush (v := nI 10) hG dX12_press_162 (by decide) ?_
                      refine pm_callV (As := [.int (nI k4), .int (nI 10)]) (rest := [.ref (B + 54)]) hG hR dX12_press_164 (lkX12_199 _ rfl) okV_X12_of rfl rfl (m_of (d := 2) (e := 12 * k4 + 1300) (by omega) (by omega) (by omega)) rfl rfl hdd (Nat.le_refl _) (Nat.le_refl _) (Nat.le_of_ble_eq_true rfl) (pm_ki (fun v124 σ' cnt' hq => ?_))
                      obtain ⟨rfl, rfl, rfl⟩ := hq
                      obtain ⟨k125, hk125, ek125⟩ := KI.nat hnn_121 (show kd (12 * k4 + 1300) = (1, 10, false) from (kd_E (k := k4) (c := 10) (by omega) (by omega) (by decide)))
                      refine pm_top (v := nI k125) ek125 ?_
                      refine pm_callV (As := [.int (nI k125)]) (rest := []) hG hR dX12_press_167 (lkX12_220 _ rfl) okV_X12_thoseIn rfl rfl (m_thoseIn (d := 2) (by decide) hnn_121 hz) rfl rfl hdd (Nat.le_refl _) (Nat.le_refl _) (by decide) (pm_ki (fun v126 σ' cnt' hq => ?_))
                      obtain ⟨rfl, rfl⟩ := hq
                      refine pm_iloadi hG dX12_press_170 rfl ?_
                      refine pm_iand hG dX12_press_172 ?_
                      refine pm_any (fun x128 => ?_)
                      refine pm_istoreXi (loc' := [some (.ref (B + 54)), some (.int za), some (.int zb), some (.int x120), some (.int x121_4), some (.int x128)]) hG dX12_press_173 (by decide) (pm_c1b rfl) rfl ?_
                      refine pm_aloadn hG dX12_press_175 rfl ?_
                      refine pm_iloadn hG dX12_press_176 rfl ?_
                      refine pm_top (v := nI k4) ek4 ?_
                      refine pm_bipush (v := nI 9) hG dX12_press_177 (by decide) ?_
                      refine pm_aloadn hG dX12_press_179 rfl ?_
                      refine pm_iloadn hG dX12_press_180 rfl ?_
                      refine pm_top (v := nI k4) ek4 ?_
                      refine pm_iconst (v := nI 3) hG dX12_press_181 (by decide) ?_
                      refine pm_callV (As := [.int (nI k4), .int (nI 3)]) (rest := [.int (nI 9), .int (nI k4), .ref (B + 54)]) hG hR dX12_press_182 (lkX12_199 _ rfl) okV_X12_of rfl rfl (m_of (d := 2) (e := 12 * k4 + 1293) (by omega) (by omega) (by omega)) rfl rfl hdd (Nat.le_refl _) (Nat.le_refl _) (Nat.le_of_ble_eq_true rfl) (pm_ki (fun v129 σ' cnt' hq => ?_))
                      obtain ⟨rfl, rfl, rfl⟩ := hq
                      refine pm_gen (fun x130 ex130 => ?_)
                      refine pm_if_ne (tgt := 193) hG dX12_press_185 rfl (fun c131 => ?_) (fun c131 => ?_)
                      · refine pm_aloadn hG dX12_press_193 rfl ?_
                        refine pm_iloadn hG dX12_press_194 rfl ?_
                        refine pm_top (v := nI k4) ek4 ?_
                        refine pm_bipush (v := nI 9) hG dX12_press_195 (by decide) ?_
                        refine pm_callV (As := [.int (nI k4), .int (nI 9)]) (rest := [.int (nI 9), .int (nI k4), .ref (B + 54)]) hG hR dX12_press_197 (lkX12_199 _ rfl) okV_X12_of rfl rfl (m_of (d := 2) (e := 12 * k4 + 1299) (by omega) (by omega) (by omega)) rfl rfl hdd (Nat.le_refl _) (Nat.le_refl _) (Nat.le_of_ble_eq_true rfl) (pm_ki (fun v132 σ' cnt' hq => ?_))
                        obtain ⟨rfl, rfl, rfl⟩ := hq
                        refine pm_gen (fun x133 ex133 => ?_)
                        refine pm_iloadi hG dX12_press_200 rfl ?_
                        refine pm_iand hG dX12_press_202 ?_
                        refine pm_any (fun x134 => ?_)
                        refine pm_callV (As := [.int (nI k4), .int (nI 9), .int x134]) (rest := []) hG hR dX12_press_203 (lkX12_217 _ rfl) okV_X12_writes rfl rfl (m_writes (d := 2) (e := 12 * k4 + 1299) (by omega) (by omega) (by omega)) rfl rfl hdd (Nat.le_refl _) (Nat.le_refl _) (by decide) (pm_kv (fun σ' cnt' hq => ?_))
                        obtain ⟨rfl, rfl⟩ := hq
                        obtain ⟨n_135, en_135⟩ : ∃ f : Nat → Int32, f = upd n_121 (12 * k4 + 1299) x134 := ⟨_, rfl⟩
                        rw [← en_135]
                        have hnn_135 := KI.w en_135 hnn_121 (okv_f (show kd (12 * k4 + 1299) = (0, 0, false) from (kd_E (k := k4) (c := 9) (by omega) (by omega) (by decide))))
                        have hrn_135 := NRx.w en_135 hrn_121 (by rw [(show kd (12 * k4 + 1299) = (0, 0, false) from (kd_E (k := k4) (c := 9) (by omega) (by omega) (by decide)))])
                        have e136 : n_135 0 = nI kc0 := by rw [en_135, pk_un (by omega)]; exact kc121_0
                        have e137 : n_135 6 = nI kc6 := by rw [en_135, pk_un (by omega)]; exact kc121_6
                        have e138 : n_135 3 = nI k122 := by rw [en_135, pk_un (by omega)]; exact ek122
                        have e139 : n_135 (12 * k4 + 1300) = nI k125 := by rw [en_135, pk_un (by omega)]; exact ek125
                        have e140 : n_135 (12 * k4 + 1293) = x130 := by rw [en_135, pk_un (by omega)]; exact ex130
                        have e141 : n_135 (12 * k4 + 1299) = x134 := by rw [en_135, pk_us]
                        refine pm_aloadn hG dX12_press_206 rfl ?_
                        refine pm_iloadn hG dX12_press_207 rfl ?_
                        refine pm_top (v := nI k4) ek4 ?_
                        refine pm_iconst (v := nI 3) hG dX12_press_208 (by decide) ?_
                        refine pm_aloadn hG dX12_press_209 rfl ?_
                        refine pm_iloadn hG dX12_press_210 rfl ?_
                        refine pm_top (v := nI k4) ek4 ?_
                        refine pm_iconst (v := nI 3) hG dX12_press_211 (by decide) ?_
                        refine pm_callV (As := [.int (nI k4), .int (nI 3)]) (rest := [.int (nI 3), .int (nI k4), .ref (B + 54)]) hG hR dX12_press_212 (lkX12_199 _ rfl) okV_X12_of rfl rfl (m_of (d := 2) (e := 12 * k4 + 1293) (by omega) (by omega) (by omega)) rfl rfl hdd (Nat.le_refl _) (Nat.le_refl _) (Nat.le_of_ble_eq_true rfl) (pm_ki (fun v142 σ' cnt' hq => ?_))
                        obtain ⟨rfl, rfl, rfl⟩ := hq
                        refine pm_top (v := x130) e140 ?_
                        refine pm_iconst (v := nI 1) hG dX12_press_215 (by decide) ?_
                        refine pm_iloadn hG dX12_press_216 rfl ?_
                        refine pm_ishl hG dX12_press_217 ?_
                        refine pm_any (fun x143 => ?_)
                        refine pm_ior hG dX12_press_218 ?_
                        refine pm_any (fun x144 => ?_)
                        refine pm_callV (As := [.int (nI k4), .int (nI 3), .int x144]) (rest := []) hG hR dX12_press_219 (lkX12_217 _ rfl) okV_X12_writes rfl rfl (m_writes (d := 2) (e := 12 * k4 + 1293) (by omega) (by omega) (by omega)) rfl rfl hdd (Nat.le_refl _) (Nat.le_refl _) (by decide) (pm_kv (fun σ' cnt' hq => ?_))
                        obtain ⟨rfl, rfl⟩ := hq
                        obtain ⟨n_145, en_145⟩ : ∃ f : Nat → Int32, f = upd n_135 (12 * k4 + 1293) x144 := ⟨_, rfl⟩
                        rw [← en_145]
                        have hnn_145 := KI.w en_145 hnn_135 (okv_f (show kd (12 * k4 + 1293) = (0, 0, false) from (kd_E (k := k4) (c := 3) (by omega) (by omega) (by decide))))
                        have hrn_145 := NRx.w en_145 hrn_135 (by rw [(show kd (12 * k4 + 1293) = (0, 0, false) from (kd_E (k := k4) (c := 3) (by omega) (by omega) (by decide)))])
                        have e146 : n_145 0 = nI kc0 := by rw [en_145, pk_un (by omega)]; exact e136
                        have e147 : n_145 6 = nI kc6 := by rw [en_145, pk_un (by omega)]; exact e137
                        have e148 : n_145 3 = nI k122 := by rw [en_145, pk_un (by omega)]; exact e138
                        have e149 : n_145 (12 * k4 + 1300) = nI k125 := by rw [en_145, pk_un (by omega)]; exact e139
                        have e150 : n_145 (12 * k4 + 1299) = x134 := by rw [en_145, pk_un (by omega)]; exact e141
                        have e151 : n_145 (12 * k4 + 1293) = x144 := by rw [en_145, pk_us]
                        refine pm_aloadn hG dX12_press_222 rfl ?_
                        refine pm_iloadn hG dX12_press_223 rfl ?_
                        refine pm_top (v := nI k4) ek4 ?_
                        refine pm_iconst (v := nI 3) hG dX12_press_224 (by decide) ?_
                        refine pm_callV (As := [.int (nI k4), .int (nI 3)]) (rest := []) hG hR dX12_press_225 (lkX12_199 _ rfl) okV_X12_of rfl rfl (m_of (d := 2) (e := 12 * k4 + 1293) (by omega) (by omega) (by omega)) rfl rfl hdd (Nat.le_refl _) (Nat.le_refl _) (by decide) (pm_ki (fun v152 σ' cnt' hq => ?_))
                        obtain ⟨rfl, rfl, rfl⟩ := hq
                        refine pm_top (v := x144) e151 ?_
                        refine pm_callS (As := [.int x144]) (rest := []) hG hR dX12_press_228 (lkX12_202 _ rfl) okS_X12_bits (m_bits (d := 2) (by decide) hnn_145 hz) rfl rfl hdd (Nat.le_refl _) (Nat.le_refl _) (by decide) (pm_ki (fun v153 σ' cnt' hq => ?_))
                        obtain ⟨rfl, rfl⟩ := hq
                        exact pm_iret hG hF dX12_press_231 rfl (Nat.le_refl _) (Nat.le_refl _) ⟨_, rfl, ⟨_, _, _, rfl, hnn_145, hrn_145, e146.trans ekc0.symm, e147.trans ekc6.symm⟩, rfl⟩
                      · refine pm_iloadi hG dX12_press_188 rfl ?_
                        refine pm_goto (tgt := 203) hG dX12_press_190 rfl ?_
                        refine pm_callV (As := [.int (nI k4), .int (nI 9), .int x128]) (rest := []) hG hR dX12_press_203 (lkX12_217 _ rfl) okV_X12_writes rfl rfl (m_writes (d := 2) (e := 12 * k4 + 1299) (by omega) (by omega) (by omega)) rfl rfl hdd (Nat.le_refl _) (Nat.le_refl _) (by decide) (pm_kv (fun σ' cnt' hq => ?_))
                        obtain ⟨rfl, rfl⟩ := hq
                        obtain ⟨n_155, en_155⟩ : ∃ f : Nat → Int32, f = upd n_121 (12 * k4 + 1299) x128 := ⟨_, rfl⟩
                        rw [← en_155]
                        have hnn_155 := KI.w en_155 hnn_121 (okv_f (show kd (12 * k4 + 1299) = (0, 0, false) from (kd_E (k := k4) (c := 9) (by omega) (by omega) (by decide))))
                        have hrn_155 := NRx.w en_155 hrn_121 (by rw [(show kd (12 * k4 + 1299) = (0, 0, false) from (kd_E (k := k4) (c := 9) (by omega) (by omega) (by decide)))])
                        have e156 : n_155 0 = nI kc0 := by rw [en_155, pk_un (by omega)]; exact kc121_0
                        have e157 : n_155 6 = nI kc6 := by rw [en_155, pk_un (by omega)]; exact kc121_6
                        have e158 : n_155 3 = nI k122 := by rw [en_155, pk_un (by omega)]; exact ek122
                        have e159 : n_155 (12 * k4 + 1300) = nI k125 := by rw [en_155, pk_un (by omega)]; exact ek125
                        have e160 : n_155 (12 * k4 + 1293) = x130 := by rw [en_155, pk_un (by omega)]; exact ex130
                        have e161 : n_155 (12 * k4 + 1299) = x128 := by rw [en_155, pk_us]
                        refine pm_aloadn hG dX12_press_206 rfl ?_
                        refine pm_iloadn hG dX12_press_207 rfl ?_
                        refine pm_top (v := nI k4) ek4 ?_
                        refine pm_iconst (v := nI 3) hG dX12_press_208 (by decide) ?_
                        refine pm_aloadn hG dX12_press_209 rfl ?_
                        refine pm_iloadn hG dX12_press_210 rfl ?_
                        refine pm_top (v := nI k4) ek4 ?_
                        refine pm_iconst (v := nI 3) hG dX12_press_211 (by decide) ?_
                        refine pm_callV (As := [.int (nI k4), .int (nI 3)]) (rest := [.int (nI 3), .int (nI k4), .ref (B + 54)]) hG hR dX12_press_212 (lkX12_199 _ rfl) okV_X12_of rfl rfl (m_of (d := 2) (e := 12 * k4 + 1293) (by omega) (by omega) (by omega)) rfl rfl hdd (Nat.le_refl _) (Nat.le_refl _) (Nat.le_of_ble_eq_true rfl) (pm_ki (fun v162 σ' cnt' hq => ?_))
                        obtain ⟨rfl, rfl, rfl⟩ := hq
                        refine pm_top (v := x130) e160 ?_
                        refine pm_iconst (v := nI 1) hG dX12_press_215 (by decide) ?_
                        refine pm_iloadn hG dX12_press_216 rfl ?_
                        refine pm_ishl hG dX12_press_217 ?_
                        refine pm_any (fun x163 => ?_)
                        refine pm_ior hG dX12_press_218 ?_
                        refine pm_any (fun x164 => ?_)
                        refine pm_callV (As := [.int (nI k4), .int (nI 3), .int x164]) (rest := []) hG hR dX12_press_219 (lkX12_217 _ rfl) okV_X12_writes rfl rfl (m_writes (d := 2) (e := 12 * k4 + 1293) (by omega) (by omega) (by omega)) rfl rfl hdd (Nat.le_refl _) (Nat.le_refl _) (by decide) (pm_kv (fun σ' cnt' hq => ?_))
                        obtain ⟨rfl, rfl⟩ := hq
                        obtain ⟨n_165, en_165⟩ : ∃ f : Nat → Int32, f = upd n_155 (12 * k4 + 1293) x164 := ⟨_, rfl⟩
                        rw [← en_165]
                        have hnn_165 := KI.w en_165 hnn_155 (okv_f (show kd (12 * k4 + 1293) = (0, 0, false) from (kd_E (k := k4) (c := 3) (by omega) (by omega) (by decide))))
                        have hrn_165 := NRx.w en_165 hrn_155 (by rw [(show kd (12 * k4 + 1293) = (0, 0, false) from (kd_E (k := k4) (c := 3) (by omega) (by omega) (by decide)))])
                        have e166 : n_165 0 = nI kc0 := by rw [en_165, pk_un (by omega)]; exact e156
                        have e167 : n_165 6 = nI kc6 := by rw [en_165, pk_un (by omega)]; exact e157
                        have e168 : n_165 3 = nI k122 := by rw [en_165, pk_un (by omega)]; exact e158
                        have e169 : n_165 (12 * k4 + 1300) = nI k125 := by rw [en_165, pk_un (by omega)]; exact e159
                        have e170 : n_165 (12 * k4 + 1299) = x128 := by rw [en_165, pk_un (by omega)]; exact e161
                        have e171 : n_165 (12 * k4 + 1293) = x164 := by rw [en_165, pk_us]
                        refine pm_aloadn hG dX12_press_222 rfl ?_
                        refine pm_iloadn hG dX12_press_223 rfl ?_
                        refine pm_top (v := nI k4) ek4 ?_
                        refine pm_iconst (v := nI 3) hG dX12_press_224 (by decide) ?_
                        refine pm_callV (As := [.int (nI k4), .int (nI 3)]) (rest := []) hG hR dX12_press_225 (lkX12_199 _ rfl) okV_X12_of rfl rfl (m_of (d := 2) (e := 12 * k4 + 1293) (by omega) (by omega) (by omega)) rfl rfl hdd (Nat.le_refl _) (Nat.le_refl _) (by decide) (pm_ki (fun v172 σ' cnt' hq => ?_))
                        obtain ⟨rfl, rfl, rfl⟩ := hq
                        refine pm_top (v := x164) e171 ?_
                        refine pm_callS (As := [.int x164]) (rest := []) hG hR dX12_press_228 (lkX12_202 _ rfl) okS_X12_bits (m_bits (d := 2) (by decide) hnn_165 hz) rfl rfl hdd (Nat.le_refl _) (Nat.le_refl _) (by decide) (pm_ki (fun v173 σ' cnt' hq => ?_))
                        obtain ⟨rfl, rfl⟩ := hq
                        exact pm_iret hG hF dX12_press_231 rfl (Nat.le_refl _) (Nat.le_refl _) ⟨_, rfl, ⟨_, _, _, rfl, hnn_165, hrn_165, e166.trans ekc0.symm, e167.trans ekc6.symm⟩, rfl⟩
                    · refine pm_iloadi hG dX12_press_105 rfl ?_
                      refine pm_aloadn hG dX12_press_107 rfl ?_
                      refine pm_iloadi hG dX12_press_108 rfl ?_
                      refine pm_iconst (v := nI 0) hG dX12_press_110 (by decide) ?_
                      refine pm_callV (As := [.int (nI i121), .int (nI 0)]) (rest := [.int x121_4]) hG hR dX12_press_111 (lkX12_110 _ rfl) okV_X12_its rfl rfl (m_its (d := 2) (e := 6 * i121 + 390) (by omega) (by omega) (by omega)) rfl rfl hdd (Nat.le_refl _) (Nat.le_refl _) (Nat.le_of_ble_eq_true rfl) (pm_ki (fun v175 σ' cnt' hq => ?_))
                      obtain ⟨rfl, rfl, rfl⟩ := hq
                      refine pm_gen (fun x176 ex176 => ?_)
                      refine pm_iconst (v := nI 2) hG dX12_press_114 (by decide) ?_
                      refine pm_icmp_ne (tgt := 149) hG dX12_press_115 rfl (fun c177 => ?_) (fun c177 => ?_)
                      · refine pm_iconst (v := nI 0) hG dX12_press_149 (by decide) ?_
                        refine pm_ior hG dX12_press_150 ?_
                        refine pm_any (fun x178 => ?_)
                        refine pm_istoreXi (loc' := [some (.ref (B + 54)), some (.int za), some (.int zb), some (.int x120), some (.int x178), some (.int (nI i121))]) hG dX12_press_151 (by decide) (pm_c1b rfl) rfl ?_
                        refine pm_iincX (v := nI (i121 + 1)) (loc' := [some (.ref (B + 54)), some (.int za), some (.int zb), some (.int x120), some (.int x178), some (.int (nI (i121 + 1)))]) hG dX12_press_153 rfl (nI_1 _) (by decide) (pm_c1b rfl) rfl ?_
                        refine pm_goto (tgt := 94) hG dX12_press_156 rfl ?_
                        exact ih121 I121 A121 n_121 x178 (i121 + 1) hnn_121 hrn_121 (kc121_0.trans (congrArg nI (by omega))) (kc121_6.trans (congrArg nI (by omega))) (by omega) (by omega)
                      · refine pm_aloadn hG dX12_press_118 rfl ?_
                        refine pm_iloadi hG dX12_press_119 rfl ?_
                        refine pm_iconst (v := nI 5) hG dX12_press_121 (by decide) ?_
                        refine pm_callV (As := [.int (nI i121), .int (nI 5)]) (rest := [.int x121_4]) hG hR dX12_press_122 (lkX12_110 _ rfl) okV_X12_its rfl rfl (m_its (d := 2) (e := 6 * i121 + 395) (by omega) (by omega) (by omega)) rfl rfl hdd (Nat.le_refl _) (Nat.le_refl _) (Nat.le_of_ble_eq_true rfl) (pm_ki (fun v179 σ' cnt' hq => ?_))
                        obtain ⟨rfl, rfl, rfl⟩ := hq
                        refine pm_gen (fun x180 ex180 => ?_)
                        refine pm_iloadn hG dX12_press_125 rfl ?_
                        refine pm_icmp_ne (tgt := 149) hG dX12_press_126 rfl (fun c181 => ?_) (fun c181 => ?_)
                        · refine pm_iconst (v := nI 0) hG dX12_press_149 (by decide) ?_
                          refine pm_ior hG dX12_press_150 ?_
                          refine pm_any (fun x182 => ?_)
                          refine pm_istoreXi (loc' := [some (.ref (B + 54)), some (.int za), some (.int zb), some (.int x120), some (.int x182), some (.int (nI i121))]) hG dX12_press_151 (by decide) (pm_c1b rfl) rfl ?_
                          refine pm_iincX (v := nI (i121 + 1)) (loc' := [some (.ref (B + 54)), some (.int za), some (.int zb), some (.int x120), some (.int x182), some (.int (nI (i121 + 1)))]) hG dX12_press_153 rfl (nI_1 _) (by decide) (pm_c1b rfl) rfl ?_
                          refine pm_goto (tgt := 94) hG dX12_press_156 rfl ?_
                          exact ih121 I121 A121 n_121 x182 (i121 + 1) hnn_121 hrn_121 (kc121_0.trans (congrArg nI (by omega))) (kc121_6.trans (congrArg nI (by omega))) (by omega) (by omega)
                        · refine pm_aloadn hG dX12_press_129 rfl ?_
                          refine pm_iloadi hG dX12_press_130 rfl ?_
                          rcases KI.opt hnn_121 (show kd (6 * i121 + 392) = (2, 20, false) from (kd_W (k := i121) (c := 2) (by omega) (by omega) (by decide))) with ek183 | ⟨k183, hk183, ek183⟩
                          · rcases KI.opt hnn_121 (show kd (6 * i121 + 391) = (2, 20, false) from (kd_W (k := i121) (c := 1) (by omega) (by omega) (by decide))) with ek184 | ⟨k184, hk184, ek184⟩
                            · refine pm_callV (As := [.int (nI i121)]) (rest := [.int x121_4]) hG hR dX12_press_132 (lkX12_139 _ rfl) okV_X12_whoHas rfl rfl (m_whoHas0 (d := 2) (e := 6 * i121 + 392) (e2 := 6 * i121 + 391) (by decide) (by omega) (by omega) (by omega) ek183 ek184) rfl rfl hdd (Nat.le_refl _) (Nat.le_refl _) (Nat.le_of_ble_eq_true rfl) (pm_ki (fun v185 σ' cnt' hq => ?_))
                              obtain ⟨rfl, rfl, rfl⟩ := hq
                              refine pm_if_lt (tgt := 149) hG dX12_press_135 rfl (fun _ => ?_) (fun q => absurd q (by decide))
                              refine pm_iconst (v := nI 0) hG dX12_press_149 (by decide) ?_
                              refine pm_ior hG dX12_press_150 ?_
                              refine pm_any (fun x186 => ?_)
                              refine pm_istoreXi (loc' := [some (.ref (B + 54)), some (.int za), some (.int zb), some (.int x120), some (.int x186), some (.int (nI i121))]) hG dX12_press_151 (by decide) (pm_c1b rfl) rfl ?_
                              refine pm_iincX (v := nI (i121 + 1)) (loc' := [some (.ref (B + 54)), some (.int za), some (.int zb), some (.int x120), some (.int x186), some (.int (nI (i121 + 1)))]) hG dX12_press_153 rfl (nI_1 _) (by decide) (pm_c1b rfl) rfl ?_
                              refine pm_goto (tgt := 94) hG dX12_press_156 rfl ?_
                              exact ih121 I121 A121 n_121 x186 (i121 + 1) hnn_121 hrn_121 (kc121_0.trans (congrArg nI (by omega))) (kc121_6.trans (congrArg nI (by omega))) (by omega) (by omega)
                            · refine pm_callV (As := [.int (nI i121)]) (rest := [.int x121_4]) hG hR dX12_press_132 (lkX12_139 _ rfl) okV_X12_whoHas rfl rfl (m_whoHas0 (d := 2) (e := 6 * i121 + 392) (e2 := 6 * i121 + 391) (by decide) (by omega) (by omega) (by omega) ek183 ek184) rfl rfl hdd (Nat.le_refl _) (Nat.le_refl _) (Nat.le_of_ble_eq_true rfl) (pm_ki (fun v187 σ' cnt' hq => ?_))
                              obtain ⟨rfl, rfl, rfl⟩ := hq
                              refine pm_ifN_lt hG dX12_press_135 rfl (by omega) ?_
                              refine pm_iconst (v := nI 1) hG dX12_press_138 (by decide) ?_
                              refine pm_aloadn hG dX12_press_139 rfl ?_
                              refine pm_iloadi hG dX12_press_140 rfl ?_
                              refine pm_callV (As := [.int (nI i121)]) (rest := [.int (nI 1), .int x121_4]) hG hR dX12_press_142 (lkX12_139 _ rfl) okV_X12_whoHas rfl rfl (m_whoHas0 (d := 2) (e := 6 * i121 + 392) (e2 := 6 * i121 + 391) (by decide) (by omega) (by omega) (by omega) ek183 ek184) rfl rfl hdd (Nat.le_refl _) (Nat.le_refl _) (Nat.le_of_ble_eq_true rfl) (pm_ki (fun v188 σ' cnt' hq => ?_))
                              obtain ⟨rfl, rfl, rfl⟩ := hq
                              refine pm_ishl hG dX12_press_145 ?_
                              refine pm_any (fun x189 => ?_)
                              refine pm_goto (tgt := 150) hG dX12_press_146 rfl ?_
                              refine pm_ior hG dX12_press_150 ?_
                              refine pm_any (fun x190 => ?_)
                              refine pm_istoreXi (loc' := [some (.ref (B + 54)), some (.int za), some (.int zb), some (.int x120), some (.int x190), some (.int (nI i121))]) hG dX12_press_151 (by decide) (pm_c1b rfl) rfl ?_
                              refine pm_iincX (v := nI (i121 + 1)) (loc' := [some (.ref (B + 54)), some (.int za), some (.int zb), some (.int x120), some (.int x190), some (.int (nI (i121 + 1)))]) hG dX12_press_153 rfl (nI_1 _) (by decide) (pm_c1b rfl) rfl ?_
                              refine pm_goto (tgt := 94) hG dX12_press_156 rfl ?_
                              exact ih121 I121 A121 n_121 x190 (i121 + 1) hnn_121 hrn_121 (kc121_0.trans (congrArg nI (by omega))) (kc121_6.trans (congrArg nI (by omega))) (by omega) (by omega)
                          · refine pm_callV (As := [.int (nI i121)]) (rest := [.int x121_4]) hG hR dX12_press_132 (lkX12_139 _ rfl) okV_X12_whoHas rfl rfl (m_whoHas1 (d := 2) (e := 6 * i121 + 392) (by decide) (by omega) (by omega) ek183 (by omega)) rfl rfl hdd (Nat.le_refl _) (Nat.le_refl _) (Nat.le_of_ble_eq_true rfl) (pm_ki (fun v191 σ' cnt' hq => ?_))
                            obtain ⟨rfl, rfl, rfl⟩ := hq
                            refine pm_ifN_lt hG dX12_press_135 rfl (by omega) ?_
                            refine pm_iconst (v := nI 1) hG dX12_press_138 (by decide) ?_
                            refine pm_aloadn hG dX12_press_139 rfl ?_
                            refine pm_iloadi hG dX12_press_140 rfl ?_
                            refine pm_callV (As := [.int (nI i121)]) (rest := [.int (nI 1), .int x121_4]) hG hR dX12_press_142 (lkX12_139 _ rfl) okV_X12_whoHas rfl rfl (m_whoHas1 (d := 2) (e := 6 * i121 + 392) (by decide) (by omega) (by omega) ek183 (by omega)) rfl rfl hdd (Nat.le_refl _) (Nat.le_refl _) (Nat.le_of_ble_eq_true rfl) (pm_ki (fun v192 σ' cnt' hq => ?_))
                            obtain ⟨rfl, rfl, rfl⟩ := hq
                            refine pm_ishl hG dX12_press_145 ?_
                            refine pm_any (fun x193 => ?_)
                            refine pm_goto (tgt := 150) hG dX12_press_146 rfl ?_
                            refine pm_ior hG dX12_press_150 ?_
                            refine pm_any (fun x194 => ?_)
                            refine pm_istoreXi (loc' := [some (.ref (B + 54)), some (.int za), some (.int zb), some (.int x120), some (.int x194), some (.int (nI i121))]) hG dX12_press_151 (by decide) (pm_c1b rfl) rfl ?_
                            refine pm_iincX (v := nI (i121 + 1)) (loc' := [some (.ref (B + 54)), some (.int za), some (.int zb), some (.int x120), some (.int x194), some (.int (nI (i121 + 1)))]) hG dX12_press_153 rfl (nI_1 _) (by decide) (pm_c1b rfl) rfl ?_
                            refine pm_goto (tgt := 94) hG dX12_press_156 rfl ?_
                            exact ih121 I121 A121 n_121 x194 (i121 + 1) hnn_121 hrn_121 (kc121_0.trans (congrArg nI (by omega))) (kc121_6.trans (congrArg nI (by omega))) (by omega) (by omega)
                exact loop94_121 _ I A n (nI 0) 0 hn hr (ekc0.trans (congrArg nI (by omega))) (ekc6.trans (congrArg nI (by omega))) (by omega) (Nat.lt_succ_self _)
              · refine pm_aloadn hG dX12_press_75 rfl ?_
                refine pm_iconst (v := nI 3) hG dX12_press_76 (by decide) ?_
                refine pm_callV (As := [.int (nI 3)]) (rest := []) hG hR dX12_press_77 (lkX12_80 _ rfl) okV_X12_finds rfl rfl (m_finds (d := 2) (by decide) hn hz (by omega)) rfl rfl hdd (Nat.le_refl _) (Nat.le_refl _) (by decide) (pm_ki (fun v195 σ' cnt' hq => ?_))
                obtain ⟨⟨I196, A196, rfl⟩, rfl, fv195⟩ := hq
                exact pm_iret hG hF dX12_press_80 rfl (Nat.le_refl _) (Nat.le_refl _) ⟨_, rfl, ⟨_, _, _, rfl, hn, hr, ekc0.trans ekc0.symm, ekc6.trans ekc6.symm⟩, rfl⟩
        · refine pm_top (v := nI k13) ek13 ?_
          refine pm_ifN_ge (tgt := 75) hG dX12_press_44 rfl (by omega) ?_
          refine pm_aloadn hG dX12_press_75 rfl ?_
          refine pm_iconst (v := nI 3) hG dX12_press_76 (by decide) ?_
          refine pm_callV (As := [.int (nI 3)]) (rest := []) hG hR dX12_press_77 (lkX12_80 _ rfl) okV_X12_finds rfl rfl (m_finds (d := 2) (by decide) hn hz (by omega)) rfl rfl hdd (Nat.le_refl _) (Nat.le_refl _) (by decide) (pm_ki (fun v197 σ' cnt' hq => ?_))
          obtain ⟨⟨I198, A198, rfl⟩, rfl, fv197⟩ := hq
          exact pm_iret hG hF dX12_press_80 rfl (Nat.le_refl _) (Nat.le_refl _) ⟨_, rfl, ⟨_, _, _, rfl, hn, hr, ekc0.trans ekc0.symm, ekc6.trans ekc6.symm⟩, rfl⟩
      · refine pm_aloadn hG dX12_press_32 rfl ?_
        refine pm_iconst (v := nI 5) hG dX12_press_33 (by decide) ?_
        refine pm_callV (As := [.int (nI 5)]) (rest := []) hG hR dX12_press_34 (lkX12_80 _ rfl) okV_X12_finds rfl rfl (m_finds (d := 2) (by decide) hn hz (by omega)) rfl rfl hdd (Nat.le_refl _) (Nat.le_refl _) (by decide) (pm_ki (fun v199 σ' cnt' hq => ?_))
        obtain ⟨⟨I200, A200, rfl⟩, rfl, fv199⟩ := hq
        exact pm_iret hG hF dX12_press_37 rfl (Nat.le_refl _) (Nat.le_refl _) ⟨_, rfl, ⟨_, _, _, rfl, hn, hr, ekc0.trans ekc0.symm, ekc6.trans ekc6.symm⟩, rfl⟩
    · refine pm_ifN_ne (tgt := 22) hG dX12_press_13 rfl (by omega) (fun q => absurd q (by omega)) (fun _ => ?_)
      refine pm_aloadn hG dX12_press_16 rfl ?_
      refine pm_iconst (v := nI 1) hG dX12_press_17 (by decide) ?_
      refine pm_callV (As := [.int (nI 1)]) (rest := []) hG hR dX12_press_18 (lkX12_80 _ rfl) okV_X12_finds rfl rfl (m_finds (d := 2) (by decide) hn hz (by omega)) rfl rfl hdd (Nat.le_refl _) (Nat.le_refl _) (by decide) (pm_ki (fun v201 σ' cnt' hq => ?_))
      obtain ⟨⟨I202, A202, rfl⟩, rfl, fv201⟩ := hq
      exact pm_iret hG hF dX12_press_21 rfl (Nat.le_refl _) (Nat.le_refl _) ⟨_, rfl, ⟨_, _, _, rfl, hn, hr, ekc0.trans ekc0.symm, ekc6.trans ekc6.symm⟩, rfl⟩
  · refine pm_ifN_eq (tgt := 16) hG dX12_press_5 rfl (by omega) (fun _ => ?_) (fun q => absurd q (by omega))
    refine pm_aloadn hG dX12_press_16 rfl ?_
    refine pm_iconst (v := nI 1) hG dX12_press_17 (by decide) ?_
    refine pm_callV (As := [.int (nI 1)]) (rest := []) hG hR dX12_press_18 (lkX12_80 _ rfl) okV_X12_finds rfl rfl (m_finds (d := 2) (by decide) hn hz (by omega)) rfl rfl hdd (Nat.le_refl _) (Nat.le_refl _) (by decide) (pm_ki (fun v203 σ' cnt' hq => ?_))
    obtain ⟨⟨I204, A204, rfl⟩, rfl, fv203⟩ := hq
    exact pm_iret hG hF dX12_press_21 rfl (Nat.le_refl _) (Nat.le_refl _) ⟨_, rfl, ⟨_, _, _, rfl, hn, hr, ekc0.trans ekc0.symm, ekc6.trans ekc6.symm⟩, rfl⟩
