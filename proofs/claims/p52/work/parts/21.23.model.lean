set_option maxRecDepth 100000 in
set_option maxHeartbeats 4000000 in
theorem m_press {d B cnt p0 t0 : Nat} {σ : pm_S} {I : Nat → Int32} {A : Nat → Nat → Int32} {n k z : Nat → Int32} {ac wt pl im : Int32} {za zb : Int32} (hdd : 3 ≤ d) (hn : KI n) (hr : NR n) (hz : SZ z)  : pm_met mX12_press d 0 0 B [.ref (B + 54), .int za, .int zb] cnt (pm_mid σ (md_L B I A n k z ac wt pl (nI p0) (nI t0) im)) (pm_Qi (fun v σ' cnt' => (∃ (I' : Nat → Int32) (A' : Nat → Nat → Int32) (n' : Nat → Int32), σ' = pm_mid σ (md_L B I' A' n' k z ac wt pl (nI p0) (nI t0) im) ∧ KI n' ∧ NR n' ∧ n' 8 = n 8) ∧ cnt = cnt')) := by
  obtain ⟨kc8, hkc8, ekc8⟩ := KI.nat hn (show kd 8 = (1, 2001, false) by decide)
  refine pm_enter 3 (by decide) (Nat.le_of_ble_eq_true rfl) rfl (fun G hG hR hF => ?_)
  refine pm_aloadn hG dX12_press_0 rfl ?_
  refine pm_iloadn hG dX12_press_1 rfl ?_
  obtain ⟨k1, hk1, ek1⟩ := KI.nat hn (show kd 5 = (1, 41, true) by decide)
  refine pm_callV (As := [.int za]) (rest := []) hG hR dX12_press_2 (lkX12_211 _ rfl) okV_X12_isLetter rfl rfl (m_isLetter (d := 2) (by decide) ek1 (by omega)) rfl rfl hdd (Nat.le_refl _) (Nat.le_refl _) (by decide) (pm_ki (fun v2 σ' cnt' hq => ?_))
  obtain ⟨hq, rfl, rfl⟩ := hq
  rcases hq with ⟨rfl, k4, hk4, ek4⟩ | rfl
  · refine pm_ifN_eq (tgt := 16) hG dX12_press_5 rfl (by omega) (fun q => absurd q (by omega)) (fun _ => ?_)
    refine pm_aloadn hG dX12_press_8 rfl ?_
    refine pm_iloadn hG dX12_press_9 rfl ?_
    obtain ⟨k5, hk5, ek5⟩ := KI.nat hn (show kd 3 = (1, 21, false) by decide)
    refine pm_callV (As := [.int zb]) (rest := []) hG hR dX12_press_10 (lkX12_132 _ rfl) okV_X12_isPower rfl rfl (m_isPower (d := 2) (by decide) ek5 (by omega)) rfl rfl hdd (Nat.le_refl _) (Nat.le_refl _) (by decide) (pm_ki (fun v6 σ' cnt' hq => ?_))
    obtain ⟨hq, rfl, rfl⟩ := hq
    rcases hq with ⟨rfl, k8, hk8, ek8⟩ | rfl
    · refine pm_ifN_ne (tgt := 22) hG dX12_press_13 rfl (by omega) (fun _ => ?_) (fun q => absurd q (by omega))
      refine pm_aloadn hG dX12_press_22 rfl ?_
      refine pm_iloadn hG dX12_press_23 rfl ?_
      refine pm_top (v := nI k8) ek8 ?_
      refine pm_iconst (v := nI 0) hG dX12_press_24 (by decide) ?_
      refine pm_callV (As := [.int (nI k8), .int (nI 0)]) (rest := []) hG hR dX12_press_25 (lkX12_110 _ rfl) okV_X12_its rfl rfl (m_its (d := 2) (e := 6 * k8 + 390) (by omega) (by omega) (by omega)) rfl rfl hdd (Nat.le_refl _) (Nat.le_refl _) (by decide) (pm_ki (fun v9 σ' cnt' hq => ?_))
      obtain ⟨rfl, rfl, rfl⟩ := hq
      refine pm_gen (fun x10 ex10 => ?_)
      refine pm_iconst (v := nI 2) hG dX12_press_28 (by decide) ?_
      refine pm_icmp_eq (tgt := 38) hG dX12_press_29 rfl (fun c11 => ?_) (fun c11 => ?_)
      · refine pm_aloadn hG dX12_press_38 rfl ?_
        refine pm_iloadn hG dX12_press_39 rfl ?_
        refine pm_top (v := nI k4) ek4 ?_
        refine pm_iconst (v := nI 4) hG dX12_press_40 (by decide) ?_
        refine pm_callV (As := [.int (nI k4), .int (nI 4)]) (rest := []) hG hR dX12_press_41 (lkX12_199 _ rfl) okV_X12_of rfl rfl (m_of (d := 2) (e := 12 * k4 + 1294) (by omega) (by omega) (by omega)) rfl rfl hdd (Nat.le_refl _) (Nat.le_refl _) (by decide) (pm_ki (fun v12 σ' cnt' hq => ?_))
        obtain ⟨rfl, rfl, rfl⟩ := hq
        rcases KI.opt hn (show kd (12 * k4 + 1294) = (2, 20, true) from (kd_E (k := k4) (c := 4) (by omega) (by omega) (by decide))) with ek13 | ⟨k13, hk13, ek13⟩
        · refine pm_top (v := (-1)) ek13 ?_
          refine pm_if_ge (tgt := 75) hG dX12_press_44 rfl (fun q => absurd q (by decide)) (fun _ => ?_)
          refine pm_aloadn hG dX12_press_47 rfl ?_
          refine pm_iloadn hG dX12_press_48 rfl ?_
          refine pm_top (v := nI k8) ek8 ?_
          rcases KI.opt hn (show kd (6 * k8 + 392) = (2, 20, false) from (kd_W (k := k8) (c := 2) (by omega) (by omega) (by decide))) with ek14 | ⟨k14, hk14, ek14⟩
          · rcases KI.opt hn (show kd (6 * k8 + 391) = (2, 20, false) from (kd_W (k := k8) (c := 1) (by omega) (by omega) (by decide))) with ek15 | ⟨k15, hk15, ek15⟩
            · refine pm_callV (As := [.int (nI k8)]) (rest := []) hG hR dX12_press_49 (lkX12_139 _ rfl) okV_X12_whoHas rfl rfl (m_whoHas0 (d := 2) (e := 6 * k8 + 392) (e2 := 6 * k8 + 391) (by decide) (by omega) (by omega) (by omega) ek14 ek15) rfl rfl hdd (Nat.le_refl _) (Nat.le_refl _) (by decide) (pm_ki (fun v16 σ' cnt' hq => ?_))
              obtain ⟨rfl, rfl, rfl⟩ := hq
              refine pm_if_lt (tgt := 75) hG dX12_press_52 rfl (fun _ => ?_) (fun q => absurd q (by decide))
              refine pm_aloadn hG dX12_press_75 rfl ?_
              refine pm_iconst (v := nI 3) hG dX12_press_76 (by decide) ?_
              refine pm_callV (As := [.int (nI 3)]) (rest := []) hG hR dX12_press_77 (lkX12_80 _ rfl) okV_X12_finds rfl rfl (m_finds (d := 2) (by decide) hn hz (by omega)) rfl rfl hdd (Nat.le_refl _) (Nat.le_refl _) (by decide) (pm_ki (fun v17 σ' cnt' hq => ?_))
              obtain ⟨⟨I18, A18, rfl⟩, rfl, fv17⟩ := hq
              exact pm_iret hG hF dX12_press_80 rfl (Nat.le_refl _) (Nat.le_refl _) ⟨_, rfl, ⟨_, _, _, rfl, hn, hr, ekc8.trans ekc8.symm⟩, rfl⟩
            · refine pm_callV (As := [.int (nI k8)]) (rest := []) hG hR dX12_press_49 (lkX12_139 _ rfl) okV_X12_whoHas rfl rfl (m_whoHas0 (d := 2) (e := 6 * k8 + 392) (e2 := 6 * k8 + 391) (by decide) (by omega) (by omega) (by omega) ek14 ek15) rfl rfl hdd (Nat.le_refl _) (Nat.le_refl _) (by decide) (pm_ki (fun v19 σ' cnt' hq => ?_))
              obtain ⟨rfl, rfl, rfl⟩ := hq
              refine pm_ifN_lt hG dX12_press_52 rfl (by omega) ?_
              refine pm_aloadn hG dX12_press_55 rfl ?_
              refine pm_aloadn hG dX12_press_56 rfl ?_
              refine pm_iloadn hG dX12_press_57 rfl ?_
              refine pm_top (v := nI k8) ek8 ?_
              refine pm_callV (As := [.int (nI k8)]) (rest := [.ref (B + 54)]) hG hR dX12_press_58 (lkX12_139 _ rfl) okV_X12_whoHas rfl rfl (m_whoHas0 (d := 2) (e := 6 * k8 + 392) (e2 := 6 * k8 + 391) (by decide) (by omega) (by omega) (by omega) ek14 ek15) rfl rfl hdd (Nat.le_refl _) (Nat.le_refl _) (Nat.le_of_ble_eq_true rfl) (pm_ki (fun v20 σ' cnt' hq => ?_))
              obtain ⟨rfl, rfl, rfl⟩ := hq
              refine pm_iconst (v := nI 4) hG dX12_press_61 (by decide) ?_
              refine pm_callV (As := [.int (nI k15), .int (nI 4)]) (rest := []) hG hR dX12_press_62 (lkX12_72 _ rfl) okV_X12_man rfl rfl (m_man (d := 2) (e := 14 * k15 + 114) (by omega) (by omega) (by omega)) rfl rfl hdd (Nat.le_refl _) (Nat.le_refl _) (by decide) (pm_ki (fun v21 σ' cnt' hq => ?_))
              obtain ⟨rfl, rfl, rfl⟩ := hq
              rcases KI.opt hn (show kd (14 * k15 + 114) = (2, 10, false) from (kd_P (k := k15) (c := 4) (by omega) (by omega) (by decide))) with ek22 | ⟨k22, hk22, ek22⟩
              · refine pm_top (v := (-1)) ek22 ?_
                refine pm_aloadn hG dX12_press_65 rfl ?_
                refine pm_iloadn hG dX12_press_66 rfl ?_
                refine pm_top (v := nI k4) ek4 ?_
                refine pm_bipush (v := nI 10) hG dX12_press_67 (by decide) ?_
                refine pm_callV (As := [.int (nI k4), .int (nI 10)]) (rest := [.int (-1)]) hG hR dX12_press_69 (lkX12_199 _ rfl) okV_X12_of rfl rfl (m_of (d := 2) (e := 12 * k4 + 1300) (by omega) (by omega) (by omega)) rfl rfl hdd (Nat.le_refl _) (Nat.le_refl _) (Nat.le_of_ble_eq_true rfl) (pm_ki (fun v23 σ' cnt' hq => ?_))
                obtain ⟨rfl, rfl, rfl⟩ := hq
                obtain ⟨k24, hk24, ek24⟩ := KI.nat hn (show kd (12 * k4 + 1300) = (1, 10, false) from (kd_E (k := k4) (c := 10) (by omega) (by omega) (by decide)))
                refine pm_top (v := nI k24) ek24 ?_
                refine pm_icmp_eq (tgt := 81) hG dX12_press_72 rfl (fun q => absurd q ((fun q => nI_m1 (by omega) q.symm))) (fun _ => ?_)
                refine pm_aloadn hG dX12_press_75 rfl ?_
                refine pm_iconst (v := nI 3) hG dX12_press_76 (by decide) ?_
                refine pm_callV (As := [.int (nI 3)]) (rest := []) hG hR dX12_press_77 (lkX12_80 _ rfl) okV_X12_finds rfl rfl (m_finds (d := 2) (by decide) hn hz (by omega)) rfl rfl hdd (Nat.le_refl _) (Nat.le_refl _) (by decide) (pm_ki (fun v25 σ' cnt' hq => ?_))
                obtain ⟨⟨I26, A26, rfl⟩, rfl, fv25⟩ := hq
                exact pm_iret hG hF dX12_press_80 rfl (Nat.le_refl _) (Nat.le_refl _) ⟨_, rfl, ⟨_, _, _, rfl, hn, hr, ekc8.trans ekc8.symm⟩, rfl⟩
              · refine pm_top (v := nI k22) ek22 ?_
                refine pm_aloadn hG dX12_press_65 rfl ?_
                refine pm_iloadn hG dX12_press_66 rfl ?_
                refine pm_top (v := nI k4) ek4 ?_
                refine pm_bipush (v := nI 10) hG dX12_press_67 (by decide) ?_
                refine pm_callV (As := [.int (nI k4), .int (nI 10)]) (rest := [.int (nI k22)]) hG hR dX12_press_69 (lkX12_199 _ rfl) okV_X12_of rfl rfl (m_of (d := 2) (e := 12 * k4 + 1300) (by omega) (by omega) (by omega)) rfl rfl hdd (Nat.le_refl _) (Nat.le_refl _) (Nat.le_of_ble_eq_true rfl) (pm_ki (fun v27 σ' cnt' hq => ?_))
                obtain ⟨rfl, rfl, rfl⟩ := hq
                obtain ⟨k28, hk28, ek28⟩ := KI.nat hn (show kd (12 * k4 + 1300) = (1, 10, false) from (kd_E (k := k4) (c := 10) (by omega) (by omega) (by decide)))
                refine pm_top (v := nI k28) ek28 ?_
                refine pm_icmpN_eq (tgt := 81) hG dX12_press_72 rfl (by omega) (by omega) (fun c29 => ?_) (fun c29 => ?_)
                · refine pm_aloadn hG dX12_press_81 rfl ?_
                  refine pm_iloadn hG dX12_press_82 rfl ?_
                  refine pm_top (v := nI k8) ek8 ?_
                  refine pm_iconst (v := nI 5) hG dX12_press_83 (by decide) ?_
                  refine pm_callV (As := [.int (nI k8), .int (nI 5)]) (rest := []) hG hR dX12_press_84 (lkX12_110 _ rfl) okV_X12_its rfl rfl (m_its (d := 2) (e := 6 * k8 + 395) (by omega) (by omega) (by omega)) rfl rfl hdd (Nat.le_refl _) (Nat.le_refl _) (by decide) (pm_ki (fun v30 σ' cnt' hq => ?_))
                  obtain ⟨rfl, rfl, rfl⟩ := hq
                  refine pm_gen (fun x31 ex31 => ?_)
                  refine pm_istoreXn (loc' := [some (.ref (B + 54)), some (.int za), some (.int zb), some (.int x31), none, none]) hG dX12_press_87 (by decide) (pm_c1b rfl) rfl ?_
                  refine pm_iconst (v := nI 0) hG dX12_press_88 (by decide) ?_
                  refine pm_istoreXi (loc' := [some (.ref (B + 54)), some (.int za), some (.int zb), some (.int x31), some (.int (nI 0)), none]) hG dX12_press_89 (by decide) (pm_c1b rfl) rfl ?_
                  refine pm_iconst (v := nI 0) hG dX12_press_91 (by decide) ?_
                  refine pm_istoreXi (loc' := [some (.ref (B + 54)), some (.int za), some (.int zb), some (.int x31), some (.int (nI 0)), some (.int (nI 0))]) hG dX12_press_92 (by decide) (pm_c1b rfl) rfl ?_
                  have loop94_32 : ∀ (m32 : Nat) (I32 : Nat → Int32) (A32 : Nat → Nat → Int32) (n_32 : Nat → Int32) (x32_4 : Int32) (i32 : Nat), KI n_32 → NRx 40 n_32 → n_32 8 = nI kc8 → i32 ≤ 20 → 20 - i32 < m32 → pm_wp mX12_press G B 94 [some (.ref (B + 54)), some (.int za), some (.int zb), some (.int x31), some (.int x32_4), some (.int (nI i32))] [] 0 0 cnt (pm_mid σ (md_L B I32 A32 n_32 k z ac wt pl (nI p0) (nI t0) im)) := by
                    intro m32
                    induction m32 with
                    | zero => intro I32 A32 n_32 x32_4 i32 _ _ _ _ hm; exact absurd hm (Nat.not_lt_zero _)
                    | succ m32 ih32 =>
                      intro I32 A32 n_32 x32_4 i32 hnn_32 hrn_32 kc32_8 hi32 hm32
                      refine pm_iloadi hG dX12_press_94 rfl ?_
                      refine pm_aloadn hG dX12_press_96 rfl ?_
                      refine pm_getf hG dX12_press_97 (flX12_7 _ rfl) rfl rfl ?_
                      refine pm_iconst (v := nI 3) hG dX12_press_100 (by decide) ?_
                      refine pm_ialdN hG dX12_press_101 rfl (by decide) (by omega) ?_
                      obtain ⟨k33, hk33, ek33⟩ := KI.nat hnn_32 (show kd 3 = (1, 21, false) by decide)
                      refine pm_top (v := nI k33) ek33 ?_
                      refine pm_icmpN_ge (tgt := 159) hG dX12_press_102 rfl (by omega) (by omega) (fun c34 => ?_) (fun c34 => ?_)
                      · refine pm_aloadn hG dX12_press_159 rfl ?_
                        refine pm_aloadn hG dX12_press_160 rfl ?_
                        refine pm_iloadn hG dX12_press_161 rfl ?_
                        refine pm_top (v := nI k4) ek4 ?_
                        refine pm_bipush (v := nI 10) hG dX12_press_162 (by decide) ?_
                        refine pm_callV (As := [.int (nI k4), .int (nI 10)]) (rest := [.ref (B + 54)]) hG hR dX12_press_164 (lkX12_199 _ rfl) okV_X12_of rfl rfl (m_of (d := 2) (e := 12 * k4 + 1300) (by omega) (by omega) (by omega)) rfl rfl hdd (Nat.le_refl _) (Nat.le_refl _) (Nat.le_of_ble_eq_true rfl) (pm_ki (fun v35 σ' cnt' hq => ?_))
                        obtain ⟨rfl, rfl, rfl⟩ := hq
                        obtain ⟨k36, hk36, ek36⟩ := KI.nat hnn_32 (show kd (12 * k4 + 1300) = (1, 10, false) from (kd_E (k := k4) (c := 10) (by omega) (by omega) (by decide)))
                        refine pm_top (v := nI k36) ek36 ?_
                        refine pm_callV (As := [.int (nI k36)]) (rest := []) hG hR dX12_press_167 (lkX12_220 _ rfl) okV_X12_thoseIn rfl rfl (m_thoseIn (d := 2) (by decide) hnn_32 hz) rfl rfl hdd (Nat.le_refl _) (Nat.le_refl _) (by decide) (pm_ki (fun v37 σ' cnt' hq => ?_))
                        obtain ⟨rfl, rfl⟩ := hq
                        refine pm_iloadi hG dX12_press_170 rfl ?_
                        refine pm_iand hG dX12_press_172 ?_
                        refine pm_any (fun x39 => ?_)
                        refine pm_istoreXi (loc' := [some (.ref (B + 54)), some (.int za), some (.int zb), some (.int x31), some (.int x32_4), some (.int x39)]) hG dX12_press_173 (by decide) (pm_c1b rfl) rfl ?_
                        refine pm_aloadn hG dX12_press_175 rfl ?_
                        refine pm_iloadn hG dX12_press_176 rfl ?_
                        refine pm_top (v := nI k4) ek4 ?_
                        refine pm_bipush (v := nI 9) hG dX12_press_177 (by decide) ?_
                        refine pm_aloadn hG dX12_press_179 rfl ?_
                        refine pm_iloadn hG dX12_press_180 rfl ?_
                        refine pm_top (v := nI k4) ek4 ?_
                        refine pm_iconst (v := nI 3) hG dX12_press_181 (by decide) ?_
                        refine pm_callV (As := [.int (nI k4), .int (nI 3)]) (rest := [.int (nI 9), .int (nI k4), .ref (B + 54)]) hG hR dX12_press_182 (lkX12_199 _ rfl) okV_X12_of rfl rfl (m_of (d := 2) (e := 12 * k4 + 1293) (by omega) (by omega) (by omega)) rfl rfl hdd (Nat.le_refl _) (Nat.le_refl _) (Nat.le_of_ble_eq_true rfl) (pm_ki (fun v40 σ' cnt' hq => ?_))
                        obtain ⟨rfl, rfl, rfl⟩ := hq
                        refine pm_gen (fun x41 ex41 => ?_)
                        refine pm_if_ne (tgt := 193) hG dX12_press_185 rfl (fun c42 => ?_) (fun c42 => ?_)
                        · refine pm_aloadn hG dX12_press_193 rfl ?_
                          refine pm_iloadn hG dX12_press_194 rfl ?_
                          refine pm_top (v := nI k4) ek4 ?_
                          refine pm_bipush (v := nI 9) hG dX12_press_195 (by decide) ?_
                          refine pm_callV (As := [.int (nI k4), .int (nI 9)]) (rest := [.int (nI 9), .int (nI k4), .ref (B + 54)]) hG hR dX12_press_197 (lkX12_199 _ rfl) okV_X12_of rfl rfl (m_of (d := 2) (e := 12 * k4 + 1299) (by omega) (by omega) (by omega)) rfl rfl hdd (Nat.le_refl _) (Nat.le_refl _) (Nat.le_of_ble_eq_true rfl) (pm_ki (fun v43 σ' cnt' hq => ?_))
                          obtain ⟨rfl, rfl, rfl⟩ := hq
                          refine pm_gen (fun x44 ex44 => ?_)
                          refine pm_iloadi hG dX12_press_200 rfl ?_
                          refine pm_iand hG dX12_press_202 ?_
                          refine pm_any (fun x45 => ?_)
                          refine pm_callV (As := [.int (nI k4), .int (nI 9), .int x45]) (rest := []) hG hR dX12_press_203 (lkX12_217 _ rfl) okV_X12_writes rfl rfl (m_writes (d := 2) (e := 12 * k4 + 1299) (by omega) (by omega) (by omega)) rfl rfl hdd (Nat.le_refl _) (Nat.le_refl _) (by decide) (pm_kv (fun σ' cnt' hq => ?_))
                          obtain ⟨rfl, rfl⟩ := hq
                          obtain ⟨n_46, en_46⟩ : ∃ f : Nat → Int32, f = upd n_32 (12 * k4 + 1299) x45 := ⟨_, rfl⟩
                          rw [← en_46]
                          have hnn_46 := KI.w en_46 hnn_32 (okv_f (show kd (12 * k4 + 1299) = (0, 0, false) from (kd_E (k := k4) (c := 9) (by omega) (by omega) (by decide))))
                          have hrn_46 := NRx.w en_46 hrn_32 (by rw [(show kd (12 * k4 + 1299) = (0, 0, false) from (kd_E (k := k4) (c := 9) (by omega) (by omega) (by decide)))])
                          have e47 : n_46 8 = nI kc8 := by rw [en_46, pk_un (by omega)]; exact kc32_8
                          have e48 : n_46 3 = nI k33 := by rw [en_46, pk_un (by omega)]; exact ek33
                          have e49 : n_46 (12 * k4 + 1300) = nI k36 := by rw [en_46, pk_un (by omega)]; exact ek36
                          have e50 : n_46 (12 * k4 + 1293) = x41 := by rw [en_46, pk_un (by omega)]; exact ex41
                          have e51 : n_46 (12 * k4 + 1299) = x45 := by rw [en_46, pk_us]
                          refine pm_aloadn hG dX12_press_206 rfl ?_
                          refine pm_iloadn hG dX12_press_207 rfl ?_
                          refine pm_top (v := nI k4) ek4 ?_
                          refine pm_iconst (v := nI 3) hG dX12_press_208 (by decide) ?_
                          refine pm_aloadn hG dX12_press_209 rfl ?_
                          refine pm_iloadn hG dX12_press_210 rfl ?_
                          refine pm_top (v := nI k4) ek4 ?_
                          refine pm_iconst (v := nI 3) hG dX12_press_211 (by decide) ?_
                          refine pm_callV (As := [.int (nI k4), .int (nI 3)]) (rest := [.int (nI 3), .int (nI k4), .ref (B + 54)]) hG hR dX12_press_212 (lkX12_199 _ rfl) okV_X12_of rfl rfl (m_of (d := 2) (e := 12 * k4 + 1293) (by omega) (by omega) (by omega)) rfl rfl hdd (Nat.le_refl _) (Nat.le_refl _) (Nat.le_of_ble_eq_true rfl) (pm_ki (fun v52 σ' cnt' hq => ?_))
                          obtain ⟨rfl, rfl, rfl⟩ := hq
                          refine pm_top (v := x41) e50 ?_
                          refine pm_iconst (v := nI 1) hG dX12_press_215 (by decide) ?_
                          refine pm_iloadn hG dX12_press_216 rfl ?_
                          refine pm_ishl hG dX12_press_217 ?_
                          refine pm_any (fun x53 => ?_)
                          refine pm_ior hG dX12_press_218 ?_
                          refine pm_any (fun x54 => ?_)
                          refine pm_callV (As := [.int (nI k4), .int (nI 3), .int x54]) (rest := []) hG hR dX12_press_219 (lkX12_217 _ rfl) okV_X12_writes rfl rfl (m_writes (d := 2) (e := 12 * k4 + 1293) (by omega) (by omega) (by omega)) rfl rfl hdd (Nat.le_refl _) (Nat.le_refl _) (by decide) (pm_kv (fun σ' cnt' hq => ?_))
                          obtain ⟨rfl, rfl⟩ := hq
                          obtain ⟨n_55, en_55⟩ : ∃ f : Nat → Int32, f = upd n_46 (12 * k4 + 1293) x54 := ⟨_, rfl⟩
                          rw [← en_55]
                          have hnn_55 := KI.w en_55 hnn_46 (okv_f (show kd (12 * k4 + 1293) = (0, 0, false) from (kd_E (k := k4) (c := 3) (by omega) (by omega) (by decide))))
                          have hrn_55 := NRx.w en_55 hrn_46 (by rw [(show kd (12 * k4 + 1293) = (0, 0, false) from (kd_E (k := k4) (c := 3) (by omega) (by omega) (by decide)))])
                          have e56 : n_55 8 = nI kc8 := by rw [en_55, pk_un (by omega)]; exact e47
                          have e57 : n_55 3 = nI k33 := by rw [en_55, pk_un (by omega)]; exact e48
                          have e58 : n_55 (12 * k4 + 1300) = nI k36 := by rw [en_55, pk_un (by omega)]; exact e49
                          have e59 : n_55 (12 * k4 + 1299) = x45 := by rw [en_55, pk_un (by omega)]; exact e51
                          have e60 : n_55 (12 * k4 + 1293) = x54 := by rw [en_55, pk_us]
                          refine pm_aloadn hG dX12_press_222 rfl ?_
                          refine pm_iloadn hG dX12_press_223 rfl ?_
                          refine pm_top (v := nI k4) ek4 ?_
                          refine pm_iconst (v := nI 3) hG dX12_press_224 (by decide) ?_
                          refine pm_callV (As := [.int (nI k4), .int (nI 3)]) (rest := []) hG hR dX12_press_225 (lkX12_199 _ rfl) okV_X12_of rfl rfl (m_of (d := 2) (e := 12 * k4 + 1293) (by omega) (by omega) (by omega)) rfl rfl hdd (Nat.le_refl _) (Nat.le_refl _) (by decide) (pm_ki (fun v61 σ' cnt' hq => ?_))
                          obtain ⟨rfl, rfl, rfl⟩ := hq
                          refine pm_top (v := x54) e60 ?_
                          refine pm_callS (As := [.int x54]) (rest := []) hG hR dX12_press_228 (lkX12_202 _ rfl) okS_X12_bits (m_bits (d := 2) (by decide) hnn_55 hz) rfl rfl hdd (Nat.le_refl _) (Nat.le_refl _) (by decide) (pm_ki (fun v62 σ' cnt' hq => ?_))
                          obtain ⟨rfl, rfl⟩ := hq
                          exact pm_iret hG hF dX12_press_231 rfl (Nat.le_refl _) (Nat.le_refl _) ⟨_, rfl, ⟨_, _, _, rfl, hnn_55, hrn_55, e56.trans ekc8.symm⟩, rfl⟩
                        · refine pm_iloadi hG dX12_press_188 rfl ?_
                          refine pm_goto (tgt := 203) hG dX12_press_190 rfl ?_
                          refine pm_callV (As := [.int (nI k4), .int (nI 9), .int x39]) (rest := []) hG hR dX12_press_203 (lkX12_217 _ rfl) okV_X12_writes rfl rfl (m_writes (d := 2) (e := 12 * k4 + 1299) (by omega) (by omega) (by omega)) rfl rfl hdd (Nat.le_refl _) (Nat.le_refl _) (by decide) (pm_kv (fun σ' cnt' hq => ?_))
                          obtain ⟨rfl, rfl⟩ := hq
                          obtain ⟨n_64, en_64⟩ : ∃ f : Nat → Int32, f = upd n_32 (12 * k4 + 1299) x39 := ⟨_, rfl⟩
                          rw [← en_64]
                          have hnn_64 := KI.w en_64 hnn_32 (okv_f (show kd (12 * k4 + 1299) = (0, 0, false) from (kd_E (k := k4) (c := 9) (by omega) (by omega) (by decide))))
                          have hrn_64 := NRx.w en_64 hrn_32 (by rw [(show kd (12 * k4 + 1299) = (0, 0, false) from (kd_E (k := k4) (c := 9) (by omega) (by omega) (by decide)))])
                          have e65 : n_64 8 = nI kc8 := by rw [en_64, pk_un (by omega)]; exact kc32_8
                          have e66 : n_64 3 = nI k33 := by rw [en_64, pk_un (by omega)]; exact ek33
                          have e67 : n_64 (12 * k4 + 1300) = nI k36 := by rw [en_64, pk_un (by omega)]; exact ek36
                          have e68 : n_64 (12 * k4 + 1293) = x41 := by rw [en_64, pk_un (by omega)]; exact ex41
                          have e69 : n_64 (12 * k4 + 1299) = x39 := by rw [en_64, pk_us]
                          refine pm_aloadn hG dX12_press_206 rfl ?_
                          refine pm_iloadn hG dX12_press_207 rfl ?_
                          refine pm_top (v := nI k4) ek4 ?_
                          refine pm_iconst (v := nI 3) hG dX12_press_208 (by decide) ?_
                          refine pm_aloadn hG dX12_press_209 rfl ?_
                          refine pm_iloadn hG dX12_press_210 rfl ?_
                          refine pm_top (v := nI k4) ek4 ?_
                          refine pm_iconst (v := nI 3) hG dX12_press_211 (by decide) ?_
                          refine pm_callV (As := [.int (nI k4), .int (nI 3)]) (rest := [.int (nI 3), .int (nI k4), .ref (B + 54)]) hG hR dX12_press_212 (lkX12_199 _ rfl) okV_X12_of rfl rfl (m_of (d := 2) (e := 12 * k4 + 1293) (by omega) (by omega) (by omega)) rfl rfl hdd (Nat.le_refl _) (Nat.le_refl _) (Nat.le_of_ble_eq_true rfl) (pm_ki (fun v70 σ' cnt' hq => ?_))
                          obtain ⟨rfl, rfl, rfl⟩ := hq
                          refine pm_top (v := x41) e68 ?_
                          refine pm_iconst (v := nI 1) hG dX12_press_215 (by decide) ?_
                          refine pm_iloadn hG dX12_press_216 rfl ?_
                          refine pm_ishl hG dX12_press_217 ?_
                          refine pm_any (fun x71 => ?_)
                          refine pm_ior hG dX12_press_218 ?_
                          refine pm_any (fun x72 => ?_)
                          refine pm_callV (As := [.int (nI k4), .int (nI 3), .int x72]) (rest := []) hG hR dX12_press_219 (lkX12_217 _ rfl) okV_X12_writes rfl rfl (m_writes (d := 2) (e := 12 * k4 + 1293) (by omega) (by omega) (by omega)) rfl rfl hdd (Nat.le_refl _) (Nat.le_refl _) (by decide) (pm_kv (fun σ' cnt' hq => ?_))
                          obtain ⟨rfl, rfl⟩ := hq
                          obtain ⟨n_73, en_73⟩ : ∃ f : Nat → Int32, f = upd n_64 (12 * k4 + 1293) x72 := ⟨_, rfl⟩
                          rw [← en_73]
                          have hnn_73 := KI.w en_73 hnn_64 (okv_f (show kd (12 * k4 + 1293) = (0, 0, false) from (kd_E (k := k4) (c := 3) (by omega) (by omega) (by decide))))
                          have hrn_73 := NRx.w en_73 hrn_64 (by rw [(show kd (12 * k4 + 1293) = (0, 0, false) from (kd_E (k := k4) (c := 3) (by omega) (by omega) (by decide)))])
                          have e74 : n_73 8 = nI kc8 := by rw [en_73, pk_un (by omega)]; exact e65
                          have e75 : n_73 3 = nI k33 := by rw [en_73, pk_un (by omega)]; exact e66
                          have e76 : n_73 (12 * k4 + 1300) = nI k36 := by rw [en_73, pk_un (by omega)]; exact e67
                          have e77 : n_73 (12 * k4 + 1299) = x39 := by rw [en_73, pk_un (by omega)]; exact e69
                          have e78 : n_73 (12 * k4 + 1293) = x72 := by rw [en_73, pk_us]
                          refine pm_aloadn hG dX12_press_222 rfl ?_
                          refine pm_iloadn hG dX12_press_223 rfl ?_
                          refine pm_top (v := nI k4) ek4 ?_
                          refine pm_iconst (v := nI 3) hG dX12_press_224 (by decide) ?_
                          refine pm_callV (As := [.int (nI k4), .int (nI 3)]) (rest := []) hG hR dX12_press_225 (lkX12_199 _ rfl) okV_X12_of rfl rfl (m_of (d := 2) (e := 12 * k4 + 1293) (by omega) (by omega) (by omega)) rfl rfl hdd (Nat.le_refl _) (Nat.le_refl _) (by decide) (pm_ki (fun v79 σ' cnt' hq => ?_))
                          obtain ⟨rfl, rfl, rfl⟩ := hq
                          refine pm_top (v := x72) e78 ?_
                          refine pm_callS (As := [.int x72]) (rest := []) hG hR dX12_press_228 (lkX12_202 _ rfl) okS_X12_bits (m_bits (d := 2) (by decide) hnn_73 hz) rfl rfl hdd (Nat.le_refl _) (Nat.le_refl _) (by decide) (pm_ki (fun v80 σ' cnt' hq => ?_))
                          obtain ⟨rfl, rfl⟩ := hq
                          exact pm_iret hG hF dX12_press_231 rfl (Nat.le_refl _) (Nat.le_refl _) ⟨_, rfl, ⟨_, _, _, rfl, hnn_73, hrn_73, e74.trans ekc8.symm⟩, rfl⟩
                      · refine pm_iloadi hG dX12_press_105 rfl ?_
                        refine pm_aloadn hG dX12_press_107 rfl ?_
                        refine pm_iloadi hG dX12_press_108 rfl ?_
                        refine pm_iconst (v := nI 0) hG dX12_press_110 (by decide) ?_
                        refine pm_callV (As := [.int (nI i32), .int (nI 0)]) (rest := [.int x32_4]) hG hR dX12_press_111 (lkX12_110 _ rfl) okV_X12_its rfl rfl (m_its (d := 2) (e := 6 * i32 + 390) (by omega) (by omega) (by omega)) rfl rfl hdd (Nat.le_refl _) (Nat.le_refl _) (Nat.le_of_ble_eq_true rfl) (pm_ki (fun v82 σ' cnt' hq => ?_))
                        obtain ⟨rfl, rfl, rfl⟩ := hq
                        refine pm_gen (fun x83 ex83 => ?_)
                        refine pm_iconst (v := nI 2) hG dX12_press_114 (by decide) ?_
                        refine pm_icmp_ne (tgt := 149) hG dX12_press_115 rfl (fun c84 => ?_) (fun c84 => ?_)
                        · refine pm_iconst (v := nI 0) hG dX12_press_149 (by decide) ?_
                          refine pm_ior hG dX12_press_150 ?_
                          refine pm_any (fun x85 => ?_)
                          refine pm_istoreXi (loc' := [some (.ref (B + 54)), some (.int za), some (.int zb), some (.int x31), some (.int x85), some (.int (nI i32))]) hG dX12_press_151 (by decide) (pm_c1b rfl) rfl ?_
                          refine pm_iincX (v := nI (i32 + 1)) (loc' := [some (.ref (B + 54)), some (.int za), some (.int zb), some (.int x31), some (.int x85), some (.int (nI (i32 + 1)))]) hG dX12_press_153 rfl (nI_1 _) (by decide) (pm_c1b rfl) rfl ?_
                          refine pm_goto (tgt := 94) hG dX12_press_156 rfl ?_
                          exact ih32 I32 A32 n_32 x85 (i32 + 1) hnn_32 hrn_32 (kc32_8.trans (congrArg nI (by omega))) (by omega) (by omega)
                        · refine pm_aloadn hG dX12_press_118 rfl ?_
                          refine pm_iloadi hG dX12_press_119 rfl ?_
                          refine pm_iconst (v := nI 5) hG dX12_press_121 (by decide) ?_
                          refine pm_callV (As := [.int (nI i32), .int (nI 5)]) (rest := [.int x32_4]) hG hR dX12_press_122 (lkX12_110 _ rfl) okV_X12_its rfl rfl (m_its (d := 2) (e := 6 * i32 + 395) (by omega) (by omega) (by omega)) rfl rfl hdd (Nat.le_refl _) (Nat.le_refl _) (Nat.le_of_ble_eq_true rfl) (pm_ki (fun v86 σ' cnt' hq => ?_))
                          obtain ⟨rfl, rfl, rfl⟩ := hq
                          refine pm_gen (fun x87 ex87 => ?_)
                          refine pm_iloadn hG dX12_press_125 rfl ?_
                          refine pm_icmp_ne (tgt := 149) hG dX12_press_126 rfl (fun c88 => ?_) (fun c88 => ?_)
                          · refine pm_iconst (v := nI 0) hG dX12_press_149 (by decide) ?_
                            refine pm_ior hG dX12_press_150 ?_
                            refine pm_any (fun x89 => ?_)
                            refine pm_istoreXi (loc' := [some (.ref (B + 54)), some (.int za), some (.int zb), some (.int x31), some (.int x89), some (.int (nI i32))]) hG dX12_press_151 (by decide) (pm_c1b rfl) rfl ?_
                            refine pm_iincX (v := nI (i32 + 1)) (loc' := [some (.ref (B + 54)), some (.int za), some (.int zb), some (.int x31), some (.int x89), some (.int (nI (i32 + 1)))]) hG dX12_press_153 rfl (nI_1 _) (by decide) (pm_c1b rfl) rfl ?_
                            refine pm_goto (tgt := 94) hG dX12_press_156 rfl ?_
                            exact ih32 I32 A32 n_32 x89 (i32 + 1) hnn_32 hrn_32 (kc32_8.trans (congrArg nI (by omega))) (by omega) (by omega)
                          · refine pm_aloadn hG dX12_press_129 rfl ?_
                            refine pm_iloadi hG dX12_press_130 rfl ?_
                            rcases KI.opt hnn_32 (show kd (6 * i32 + 392) = (2, 20, false) from (kd_W (k := i32) (c := 2) (by omega) (by omega) (by decide))) with ek90 | ⟨k90, hk90, ek90⟩
                            · rcases KI.opt hnn_32 (show kd (6 * i32 + 391) = (2, 20, false) from (kd_W (k := i32) (c := 1) (by omega) (by omega) (by decide))) with ek91 | ⟨k91, hk91, ek91⟩
                              · refine pm_callV (As := [.int (nI i32)]) (rest := [.int x32_4]) hG hR dX12_press_132 (lkX12_139 _ rfl) okV_X12_whoHas rfl rfl (m_whoHas0 (d := 2) (e := 6 * i32 + 392) (e2 := 6 * i32 + 391) (by decide) (by omega) (by omega) (by omega) ek90 ek91) rfl rfl hdd (Nat.le_refl _) (Nat.le_refl _) (Nat.le_of_ble_eq_true rfl) (pm_ki (fun v92 σ' cnt' hq => ?_))
                                obtain ⟨rfl, rfl, rfl⟩ := hq
                                refine pm_if_lt (tgt := 149) hG dX12_press_135 rfl (fun _ => ?_) (fun q => absurd q (by decide))
                                refine pm_iconst (v := nI 0) hG dX12_press_149 (by decide) ?_
                                refine pm_ior hG dX12_press_150 ?_
                                refine pm_any (fun x93 => ?_)
                                refine pm_istoreXi (loc' := [some (.ref (B + 54)), some (.int za), some (.int zb), some (.int x31), some (.int x93), some (.int (nI i32))]) hG dX12_press_151 (by decide) (pm_c1b rfl) rfl ?_
                                refine pm_iincX (v := nI (i32 + 1)) (loc' := [some (.ref (B + 54)), some (.int za), some (.int zb), some (.int x31), some (.int x93), some (.int (nI (i32 + 1)))]) hG dX12_press_153 rfl (nI_1 _) (by decide) (pm_c1b rfl) rfl ?_
                                refine pm_goto (tgt := 94) hG dX12_press_156 rfl ?_
                                exact ih32 I32 A32 n_32 x93 (i32 + 1) hnn_32 hrn_32 (kc32_8.trans (congrArg nI (by omega))) (by omega) (by omega)
                              · refine pm_callV (As := [.int (nI i32)]) (rest := [.int x32_4]) hG hR dX12_press_132 (lkX12_139 _ rfl) okV_X12_whoHas rfl rfl (m_whoHas0 (d := 2) (e := 6 * i32 + 392) (e2 := 6 * i32 + 391) (by decide) (by omega) (by omega) (by omega) ek90 ek91) rfl rfl hdd (Nat.le_refl _) (Nat.le_refl _) (Nat.le_of_ble_eq_true rfl) (pm_ki (fun v94 σ' cnt' hq => ?_))
                                obtain ⟨rfl, rfl, rfl⟩ := hq
                                refine pm_ifN_lt hG dX12_press_135 rfl (by omega) ?_
                                refine pm_iconst (v := nI 1) hG dX12_press_138 (by decide) ?_
                                refine pm_aloadn hG dX12_press_139 rfl ?_
                                refine pm_iloadi hG dX12_press_140 rfl ?_
                                refine pm_callV (As := [.int (nI i32)]) (rest := [.int (nI 1), .int x32_4]) hG hR dX12_press_142 (lkX12_139 _ rfl) okV_X12_whoHas rfl rfl (m_whoHas0 (d := 2) (e := 6 * i32 + 392) (e2 := 6 * i32 + 391) (by decide) (by omega) (by omega) (by omega) ek90 ek91) rfl rfl hdd (Nat.le_refl _) (Nat.le_refl _) (Nat.le_of_ble_eq_true rfl) (pm_ki (fun v95 σ' cnt' hq => ?_))
                                obtain ⟨rfl, rfl, rfl⟩ := hq
                                refine pm_ishl hG dX12_press_145 ?_
                                refine pm_any (fun x96 => ?_)
                                refine pm_goto (tgt := 150) hG dX12_press_146 rfl ?_
                                refine pm_ior hG dX12_press_150 ?_
                                refine pm_any (fun x97 => ?_)
                                refine pm_istoreXi (loc' := [some (.ref (B + 54)), some (.int za), some (.int zb), some (.int x31), some (.int x97), some (.int (nI i32))]) hG dX12_press_151 (by decide) (pm_c1b rfl) rfl ?_
                                refine pm_iincX (v := nI (i32 + 1)) (loc' := [some (.ref (B + 54)), some (.int za), some (.int zb), some (.int x31), some (.int x97), some (.int (nI (i32 + 1)))]) hG dX12_press_153 rfl (nI_1 _) (by decide) (pm_c1b rfl) rfl ?_
                                refine pm_goto (tgt := 94) hG dX12_press_156 rfl ?_
                                exact ih32 I32 A32 n_32 x97 (i32 + 1) hnn_32 hrn_32 (kc32_8.trans (congrArg nI (by omega))) (by omega) (by omega)
                            · refine pm_callV (As := [.int (nI i32)]) (rest := [.int x32_4]) hG hR dX12_press_132 (lkX12_139 _ rfl) okV_X12_whoHas rfl rfl (m_whoHas1 (d := 2) (e := 6 * i32 + 392) (by decide) (by omega) (by omega) ek90 (by omega)) rfl rfl hdd (Nat.le_refl _) (Nat.le_refl _) (Nat.le_of_ble_eq_true rfl) (pm_ki (fun v98 σ' cnt' hq => ?_))
                              obtain ⟨rfl, rfl, rfl⟩ := hq
                              refine pm_ifN_lt hG dX12_press_135 rfl (by omega) ?_
                              refine pm_iconst (v := nI 1) hG dX12_press_138 (by decide) ?_
                              refine pm_aloadn hG dX12_press_139 rfl ?_
                              refine pm_iloadi hG dX12_press_140 rfl ?_
                              refine pm_callV (As := [.int (nI i32)]) (rest := [.int (nI 1), .int x32_4]) hG hR dX12_press_142 (lkX12_139 _ rfl) okV_X12_whoHas rfl rfl (m_whoHas1 (d := 2) (e := 6 * i32 + 392) (by decide) (by omega) (by omega) ek90 (by omega)) rfl rfl hdd (Nat.le_refl _) (Nat.le_refl _) (Nat.le_of_ble_eq_true rfl) (pm_ki (fun v99 σ' cnt' hq => ?_))
                              obtain ⟨rfl, rfl, rfl⟩ := hq
                              refine pm_ishl hG dX12_press_145 ?_
                              refine pm_any (fun x100 => ?_)
                              refine pm_goto (tgt := 150) hG dX12_press_146 rfl ?_
                              refine pm_ior hG dX12_press_150 ?_
                              refine pm_any (fun x101 => ?_)
                              refine pm_istoreXi (loc' := [some (.ref (B + 54)), some (.int za), some (.int zb), some (.int x31), some (.int x101), some (.int (nI i32))]) hG dX12_press_151 (by decide) (pm_c1b rfl) rfl ?_
                              refine pm_iincX (v := nI (i32 + 1)) (loc' := [some (.ref (B + 54)), some (.int za), some (.int zb), some (.int x31), some (.int x101), some (.int (nI (i32 + 1)))]) hG dX12_press_153 rfl (nI_1 _) (by decide) (pm_c1b rfl) rfl ?_
                              refine pm_goto (tgt := 94) hG dX12_press_156 rfl ?_
                              exact ih32 I32 A32 n_32 x101 (i32 + 1) hnn_32 hrn_32 (kc32_8.trans (congrArg nI (by omega))) (by omega) (by omega)
                  exact loop94_32 _ I A n (nI 0) 0 hn hr (ekc8.trans (congrArg nI (by omega))) (by omega) (Nat.lt_succ_self _)
                · refine pm_aloadn hG dX12_press_75 rfl ?_
                  refine pm_iconst (v := nI 3) hG dX12_press_76 (by decide) ?_
                  refine pm_callV (As := [.int (nI 3)]) (rest := []) hG hR dX12_press_77 (lkX12_80 _ rfl) okV_X12_finds rfl rfl (m_finds (d := 2) (by decide) hn hz (by omega)) rfl rfl hdd (Nat.le_refl _) (Nat.le_refl _) (by decide) (pm_ki (fun v102 σ' cnt' hq => ?_))
                  obtain ⟨⟨I103, A103, rfl⟩, rfl, fv102⟩ := hq
                  exact pm_iret hG hF dX12_press_80 rfl (Nat.le_refl _) (Nat.le_refl _) ⟨_, rfl, ⟨_, _, _, rfl, hn, hr, ekc8.trans ekc8.symm⟩, rfl⟩
          · refine pm_callV (As := [.int (nI k8)]) (rest := []) hG hR dX12_press_49 (lkX12_139 _ rfl) okV_X12_whoHas rfl rfl (m_whoHas1 (d := 2) (e := 6 * k8 + 392) (by decide) (by omega) (by omega) ek14 (by omega)) rfl rfl hdd (Nat.le_refl _) (Nat.le_refl _) (by decide) (pm_ki (fun v104 σ' cnt' hq => ?_))
            obtain ⟨rfl, rfl, rfl⟩ := hq
            refine pm_ifN_lt hG dX12_press_52 rfl (by omega) ?_
            refine pm_aloadn hG dX12_press_55 rfl ?_
            refine pm_aloadn hG dX12_press_56 rfl ?_
            refine pm_iloadn hG dX12_press_57 rfl ?_
            refine pm_top (v := nI k8) ek8 ?_
            refine pm_callV (As := [.int (nI k8)]) (rest := [.ref (B + 54)]) hG hR dX12_press_58 (lkX12_139 _ rfl) okV_X12_whoHas rfl rfl (m_whoHas1 (d := 2) (e := 6 * k8 + 392) (by decide) (by omega) (by omega) ek14 (by omega)) rfl rfl hdd (Nat.le_refl _) (Nat.le_refl _) (Nat.le_of_ble_eq_true rfl) (pm_ki (fun v105 σ' cnt' hq => ?_))
            obtain ⟨rfl, rfl, rfl⟩ := hq
            refine pm_iconst (v := nI 4) hG dX12_press_61 (by decide) ?_
            refine pm_callV (As := [.int (nI k14), .int (nI 4)]) (rest := []) hG hR dX12_press_62 (lkX12_72 _ rfl) okV_X12_man rfl rfl (m_man (d := 2) (e := 14 * k14 + 114) (by omega) (by omega) (by omega)) rfl rfl hdd (Nat.le_refl _) (Nat.le_refl _) (by decide) (pm_ki (fun v106 σ' cnt' hq => ?_))
            obtain ⟨rfl, rfl, rfl⟩ := hq
            rcases KI.opt hn (show kd (14 * k14 + 114) = (2, 10, false) from (kd_P (k := k14) (c := 4) (by omega) (by omega) (by decide))) with ek107 | ⟨k107, hk107, ek107⟩
            · refine pm_top (v := (-1)) ek107 ?_
              refine pm_aloadn hG dX12_press_65 rfl ?_
              refine pm_iloadn hG dX12_press_66 rfl ?_
              refine pm_top (v := nI k4) ek4 ?_
              refine pm_bipush (v := nI 10) hG dX12_press_67 (by decide) ?_
              refine pm_callV (As := [.int (nI k4), .int (nI 10)]) (rest := [.int (-1)]) hG hR dX12_press_69 (lkX12_199 _ rfl) okV_X12_of rfl rfl (m_of (d := 2) (e := 12 * k4 + 1300) (by omega) (by omega) (by omega)) rfl rfl hdd (Nat.le_refl _) (Nat.le_refl _) (Nat.le_of_ble_eq_true rfl) (pm_ki (fun v108 σ' cnt' hq => ?_))
              obtain ⟨rfl, rfl, rfl⟩ := hq
              obtain ⟨k109, hk109, ek109⟩ := KI.nat hn (show kd (12 * k4 + 1300) = (1, 10, false) from (kd_E (k := k4) (c := 10) (by omega) (by omega) (by decide)))
              refine pm_top (v := nI k109) ek109 ?_
              refine pm_icmp_eq (tgt := 81) hG dX12_press_72 rfl (fun q => absurd q ((fun q => nI_m1 (by omega) q.symm))) (fun _ => ?_)
              refine pm_aloadn hG dX12_press_75 rfl ?_
              refine pm_iconst (v := nI 3) hG dX12_press_76 (by decide) ?_
              refine pm_callV (As := [.int (nI 3)]) (rest := []) hG hR dX12_press_77 (lkX12_80 _ rfl) okV_X12_finds rfl rfl (m_finds (d := 2) (by decide) hn hz (by omega)) rfl rfl hdd (Nat.le_refl _) (Nat.le_refl _) (by decide) (pm_ki (fun v110 σ' cnt' hq => ?_))
              obtain ⟨⟨I111, A111, rfl⟩, rfl, fv110⟩ := hq
              exact pm_iret hG hF dX12_press_80 rfl (Nat.le_refl _) (Nat.le_refl _) ⟨_, rfl, ⟨_, _, _, rfl, hn, hr, ekc8.trans ekc8.symm⟩, rfl⟩
            · refine pm_top (v := nI k107) ek107 ?_
              refine pm_aloadn hG dX12_press_65 rfl ?_
              refine pm_iloadn hG dX12_press_66 rfl ?_
              refine pm_top (v := nI k4) ek4 ?_
              refine pm_bipush (v := nI 10) hG dX12_press_67 (by decide) ?_
              refine pm_callV (As := [.int (nI k4), .int (nI 10)]) (rest := [.int (nI k107)]) hG hR dX12_press_69 (lkX12_199 _ rfl) okV_X12_of rfl rfl (m_of (d := 2) (e := 12 * k4 + 1300) (by omega) (by omega) (by omega)) rfl rfl hdd (Nat.le_refl _) (Nat.le_refl _) (Nat.le_of_ble_eq_true rfl) (pm_ki (fun v112 σ' cnt' hq => ?_))
              obtain ⟨rfl, rfl, rfl⟩ := hq
              obtain ⟨k113, hk113, ek113⟩ := KI.nat hn (show kd (12 * k4 + 1300) = (1, 10, false) from (kd_E (k := k4) (c := 10) (by omega) (by omega) (by decide)))
              refine pm_top (v := nI k113) ek113 ?_
              refine pm_icmpN_eq (tgt := 81) hG dX12_press_72 rfl (by omega) (by omega) (fun c114 => ?_) (fun c114 => ?_)
              · refine pm_aloadn hG dX12_press_81 rfl ?_
                refine pm_iloadn hG dX12_press_82 rfl ?_
                refine pm_top (v := nI k8) ek8 ?_
                refine pm_iconst (v := nI 5) hG dX12_press_83 (by decide) ?_
                refine pm_callV (As := [.int (nI k8), .int (nI 5)]) (rest := []) hG hR dX12_press_84 (lkX12_110 _ rfl) okV_X12_its rfl rfl (m_its (d := 2) (e := 6 * k8 + 395) (by omega) (by omega) (by omega)) rfl rfl hdd (Nat.le_refl _) (Nat.le_refl _) (by decide) (pm_ki (fun v115 σ' cnt' hq => ?_))
                obtain ⟨rfl, rfl, rfl⟩ := hq
                refine pm_gen (fun x116 ex116 => ?_)
                refine pm_istoreXn (loc' := [some (.ref (B + 54)), some (.int za), some (.int zb), some (.int x116), none, none]) hG dX12_press_87 (by decide) (pm_c1b rfl) rfl ?_
                refine pm_iconst (v := nI 0) hG dX12_press_88 (by decide) ?_
                refine pm_istoreXi (loc' := [some (.ref (B + 54)), some (.int za), some (.int zb), some (.int x116), some (.int (nI 0)), none]) hG dX12_press_89 (by decide) (pm_c1b rfl) rfl ?_
                refine pm_iconst (v := nI 0) hG dX12_press_91 (by decide) ?_
                refine pm_istoreXi (loc' := [some (.ref (B + 54)), some (.int za), some (.int zb), some (.int x116), some (.int (nI 0)), some (.int (nI 0))]) hG dX12_press_92 (by decide) (pm_c1b rfl) rfl ?_
                have loop94_117 : ∀ (m117 : Nat) (I117 : Nat → Int32) (A117 : Nat → Nat → Int32) (n_117 : Nat → Int32) (x117_4 : Int32) (i117 : Nat), KI n_117 → NRx 40 n_117 → n_117 8 = nI kc8 → i117 ≤ 20 → 20 - i117 < m117 → pm_wp mX12_press G B 94 [some (.ref (B + 54)), some (.int za), some (.int zb), some (.int x116), some (.int x117_4), some (.int (nI i117))] [] 0 0 cnt (pm_mid σ (md_L B I117 A117 n_117 k z ac wt pl (nI p0) (nI t0) im)) := by
                  intro m117
                  induction m117 with
                  | zero => intro I117 A117 n_117 x117_4 i117 _ _ _ _ hm; exact absurd hm (Nat.not_lt_zero _)
                  | succ m117 ih117 =>
                    intro I117 A117 n_117 x117_4 i117 hnn_117 hrn_117 kc117_8 hi117 hm117
                    refine pm_iloadi hG dX12_press_94 rfl ?_
                    refine pm_aloadn hG dX12_press_96 rfl ?_
                    refine pm_getf hG dX12_press_97 (flX12_7 _ rfl) rfl rfl ?_
                    refine pm_iconst (v := nI 3) hG dX12_press_100 (by decide) ?_
                    refine pm_ialdN hG dX12_press_101 rfl (by decide) (by omega) ?_
                    obtain ⟨k118, hk118, ek118⟩ := KI.nat hnn_117 (show kd 3 = (1, 21, false) by decide)
                    refine pm_top (v := nI k118) ek118 ?_
                    refine pm_icmpN_ge (tgt := 159) hG dX12_press_102 rfl (by omega) (by omega) (fun c119 => ?_) (fun c119 => ?_)
                    · refine pm_aloadn hG dX12_press_159 rfl ?_
                      refine pm_aloadn hG dX12_press_160 rfl ?_
                      refine pm_iloadn hG dX12_press_161 rfl ?_
                      refine pm_top (v := nI k4) ek4 ?_
                      refine pm_bipush (v := nI 10) hG dX12_press_162 (by decide) ?_
                      refine pm_callV (As := [.int (nI k4), .int (nI 10)]) (rest := [.ref (B + 54)]) hG hR dX12_press_164 (lkX12_199 _ rfl) okV_X12_of rfl rfl (m_of (d := 2) (e := 12 * k4 + 1300) (by omega) (by omega) (by omega)) rfl rfl hdd (Nat.le_refl _) (Nat.le_refl _) (Nat.le_of_ble_eq_true rfl) (pm_ki (fun v120 σ' cnt' hq => ?_))
                      obtain ⟨rfl, rfl, rfl⟩ := hq
                      obtain ⟨k121, hk121, ek121⟩ := KI.nat hnn_117 (show kd (12 * k4 + 1300) = (1, 10, false) from (kd_E (k := k4) (c := 10) (by omega) (by omega) (by decide)))
                      refine pm_top (v := nI k121) ek121 ?_
                      refine pm_callV (As := [.int (nI k121)]) (rest := []) hG hR dX12_press_167 (lkX12_220 _ rfl) okV_X12_thoseIn rfl rfl (m_thoseIn (d := 2) (by decide) hnn_117 hz) rfl rfl hdd (Nat.le_refl _) (Nat.le_refl _) (by decide) (pm_ki (fun v122 σ' cnt' hq => ?_))
                      obtain ⟨rfl, rfl⟩ := hq
                      refine pm_iloadi hG dX12_press_170 rfl ?_
                      refine pm_iand hG dX12_press_172 ?_
                      refine pm_any (fun x124 => ?_)
                      refine pm_istoreXi (loc' := [some (.ref (B + 54)), some (.int za), some (.int zb), some (.int x116), some (.int x117_4), some (.int x124)]) hG dX12_press_173 (by decide) (pm_c1b rfl) rfl ?_
                      refine pm_aloadn hG dX12_press_175 rfl ?_
                      refine pm_iloadn hG dX12_press_176 rfl ?_
                      refine pm_top (v := nI k4) ek4 ?_
                      refine pm_bipush (v := nI 9) hG dX12_press_177 (by decide) ?_
                      refine pm_aloadn hG dX12_press_179 rfl ?_
                      refine pm_iloadn hG dX12_press_180 rfl ?_
                      refine pm_top (v := nI k4) ek4 ?_
                      refine pm_iconst (v := nI 3) hG dX12_press_181 (by decide) ?_
                      refine pm_callV (As := [.int (nI k4), .int (nI 3)]) (rest := [.int (nI 9), .int (nI k4), .ref (B + 54)]) hG hR dX12_press_182 (lkX12_199 _ rfl) okV_X12_of rfl rfl (m_of (d := 2) (e := 12 * k4 + 1293) (by omega) (by omega) (by omega)) rfl rfl hdd (Nat.le_refl _) (Nat.le_refl _) (Nat.le_of_ble_eq_true rfl) (pm_ki (fun v125 σ' cnt' hq => ?_))
                      obtain ⟨rfl, rfl, rfl⟩ := hq
                      refine pm_gen (fun x126 ex126 => ?_)
                      refine pm_if_ne (tgt := 193) hG dX12_press_185 rfl (fun c127 => ?_) (fun c127 => ?_)
                      · refine pm_aloadn hG dX12_press_193 rfl ?_
                        refine pm_iloadn hG dX12_press_194 rfl ?_
                        refine pm_top (v := nI k4) ek4 ?_
                        refine pm_bipush (v := nI 9) hG dX12_press_195 (by decide) ?_
                        refine pm_callV (As := [.int (nI k4), .int (nI 9)]) (rest := [.int (nI 9), .int (nI k4), .ref (B + 54)]) hG hR dX12_press_197 (lkX12_199 _ rfl) okV_X12_of rfl rfl (m_of (d := 2) (e := 12 * k4 + 1299) (by omega) (by omega) (by omega)) rfl rfl hdd (Nat.le_refl _) (Nat.le_refl _) (Nat.le_of_ble_eq_true rfl) (pm_ki (fun v128 σ' cnt' hq => ?_))
                        obtain ⟨rfl, rfl, rfl⟩ := hq
                        refine pm_gen (fun x129 ex129 => ?_)
                        refine pm_iloadi hG dX12_press_200 rfl ?_
                        refine pm_iand hG dX12_press_202 ?_
                        refine pm_any (fun x130 => ?_)
                        refine pm_callV (As := [.int (nI k4), .int (nI 9), .int x130]) (rest := []) hG hR dX12_press_203 (lkX12_217 _ rfl) okV_X12_writes rfl rfl (m_writes (d := 2) (e := 12 * k4 + 1299) (by omega) (by omega) (by omega)) rfl rfl hdd (Nat.le_refl _) (Nat.le_refl _) (by decide) (pm_kv (fun σ' cnt' hq => ?_))
                        obtain ⟨rfl, rfl⟩ := hq
                        obtain ⟨n_131, en_131⟩ : ∃ f : Nat → Int32, f = upd n_117 (12 * k4 + 1299) x130 := ⟨_, rfl⟩
                        rw [← en_131]
                        have hnn_131 := KI.w en_131 hnn_117 (okv_f (show kd (12 * k4 + 1299) = (0, 0, false) from (kd_E (k := k4) (c := 9) (by omega) (by omega) (by decide))))
                        have hrn_131 := NRx.w en_131 hrn_117 (by rw [(show kd (12 * k4 + 1299) = (0, 0, false) from (kd_E (k := k4) (c := 9) (by omega) (by omega) (by decide)))])
                        have e132 : n_131 8 = nI kc8 := by rw [en_131, pk_un (by omega)]; exact kc117_8
                        have e133 : n_131 3 = nI k118 := by rw [en_131, pk_un (by omega)]; exact ek118
                        have e134 : n_131 (12 * k4 + 1300) = nI k121 := by rw [en_131, pk_un (by omega)]; exact ek121
                        have e135 : n_131 (12 * k4 + 1293) = x126 := by rw [en_131, pk_un (by omega)]; exact ex126
                        have e136 : n_131 (12 * k4 + 1299) = x130 := by rw [en_131, pk_us]
                        refine pm_aloadn hG dX12_press_206 rfl ?_
                        refine pm_iloadn hG dX12_press_207 rfl ?_
                        refine pm_top (v := nI k4) ek4 ?_
                        refine pm_iconst (v := nI 3) hG dX12_press_208 (by decide) ?_
                        refine pm_aloadn hG dX12_press_209 rfl ?_
                        refine pm_iloadn hG dX12_press_210 rfl ?_
                        refine pm_top (v := nI k4) ek4 ?_
                        refine pm_iconst (v := nI 3) hG dX12_press_211 (by decide) ?_
                        refine pm_callV (As := [.int (nI k4), .int (nI 3)]) (rest := [.int (nI 3), .int (nI k4), .ref (B + 54)]) hG hR dX12_press_212 (lkX12_199 _ rfl) okV_X12_of rfl rfl (m_of (d := 2) (e := 12 * k4 + 1293) (by omega) (by omega) (by omega)) rfl rfl hdd (Nat.le_refl _) (Nat.le_refl _) (Nat.le_of_ble_eq_true rfl) (pm_ki (fun v137 σ' cnt' hq => ?_))
                        obtain ⟨rfl, rfl, rfl⟩ := hq
                        refine pm_top (v := x126) e135 ?_
                        refine pm_iconst (v := nI 1) hG dX12_press_215 (by decide) ?_
                        refine pm_iloadn hG dX12_press_216 rfl ?_
                        refine pm_ishl hG dX12_press_217 ?_
                        refine pm_any (fun x138 => ?_)
                        refine pm_ior hG dX12_press_218 ?_
                        refine pm_any (fun x139 => ?_)
                        refine pm_callV (As := [.int (nI k4), .int (nI 3), .int x139]) (rest := []) hG hR dX12_press_219 (lkX12_217 _ rfl) okV_X12_writes rfl rfl (m_writes (d := 2) (e := 12 * k4 + 1293) (by omega) (by omega) (by omega)) rfl rfl hdd (Nat.le_refl _) (Nat.le_refl _) (by decide) (pm_kv (fun σ' cnt' hq => ?_))
                        obtain ⟨rfl, rfl⟩ := hq
                        obtain ⟨n_140, en_140⟩ : ∃ f : Nat → Int32, f = upd n_131 (12 * k4 + 1293) x139 := ⟨_, rfl⟩
                        rw [← en_140]
                        have hnn_140 := KI.w en_140 hnn_131 (okv_f (show kd (12 * k4 + 1293) = (0, 0, false) from (kd_E (k := k4) (c := 3) (by omega) (by omega) (by decide))))
                        have hrn_140 := NRx.w en_140 hrn_131 (by rw [(show kd (12 * k4 + 1293) = (0, 0, false) from (kd_E (k := k4) (c := 3) (by omega) (by omega) (by decide)))])
                        have e141 : n_140 8 = nI kc8 := by rw [en_140, pk_un (by omega)]; exact e132
                        have e142 : n_140 3 = nI k118 := by rw [en_140, pk_un (by omega)]; exact e133
                        have e143 : n_140 (12 * k4 + 1300) = nI k121 := by rw [en_140, pk_un (by omega)]; exact e134
                        have e144 : n_140 (12 * k4 + 1299) = x130 := by rw [en_140, pk_un (by omega)]; exact e136
                        have e145 : n_140 (12 * k4 + 1293) = x139 := by rw [en_140, pk_us]
                        refine pm_aloadn hG dX12_press_222 rfl ?_
                        refine pm_iloadn hG dX12_press_223 rfl ?_
                        refine pm_top (v := nI k4) ek4 ?_
                        refine pm_iconst (v := nI 3) hG dX12_press_224 (by decide) ?_
                        refine pm_callV (As := [.int (nI k4), .int (nI 3)]) (rest := []) hG hR dX12_press_225 (lkX12_199 _ rfl) okV_X12_of rfl rfl (m_of (d := 2) (e := 12 * k4 + 1293) (by omega) (by omega) (by omega)) rfl rfl hdd (Nat.le_refl _) (Nat.le_refl _) (by decide) (pm_ki (fun v146 σ' cnt' hq => ?_))
                        obtain ⟨rfl, rfl, rfl⟩ := hq
                        refine pm_top (v := x139) e145 ?_
                        refine pm_callS (As := [.int x139]) (rest := []) hG hR dX12_press_228 (lkX12_202 _ rfl) okS_X12_bits (m_bits (d := 2) (by decide) hnn_140 hz) rfl rfl hdd (Nat.le_refl _) (Nat.le_refl _) (by decide) (pm_ki (fun v147 σ' cnt' hq => ?_))
                        obtain ⟨rfl, rfl⟩ := hq
                        exact pm_iret hG hF dX12_press_231 rfl (Nat.le_refl _) (Nat.le_refl _) ⟨_, rfl, ⟨_, _, _, rfl, hnn_140, hrn_140, e141.trans ekc8.symm⟩, rfl⟩
                      · refine pm_iloadi hG dX12_press_188 rfl ?_
                        refine pm_goto (tgt := 203) hG dX12_press_190 rfl ?_
                        refine pm_callV (As := [.int (nI k4), .int (nI 9), .int x124]) (rest := []) hG hR dX12_press_203 (lkX12_217 _ rfl) okV_X12_writes rfl rfl (m_writes (d := 2) (e := 12 * k4 + 1299) (by omega) (by omega) (by omega)) rfl rfl hdd (Nat.le_refl _) (Nat.le_refl _) (by decide) (pm_kv (fun σ' cnt' hq => ?_))
                        obtain ⟨rfl, rfl⟩ := hq
                        obtain ⟨n_149, en_149⟩ : ∃ f : Nat → Int32, f = upd n_117 (12 * k4 + 1299) x124 := ⟨_, rfl⟩
                        rw [← en_149]
                        have hnn_149 := KI.w en_149 hnn_117 (okv_f (show kd (12 * k4 + 1299) = (0, 0, false) from (kd_E (k := k4) (c := 9) (by omega) (by omega) (by decide))))
                        have hrn_149 := NRx.w en_149 hrn_117 (by rw [(show kd (12 * k4 + 1299) = (0, 0, false) from (kd_E (k := k4) (c := 9) (by omega) (by omega) (by decide)))])
                        have e150 : n_149 8 = nI kc8 := by rw [en_149, pk_un (by omega)]; exact kc117_8
                        have e151 : n_149 3 = nI k118 := by rw [en_149, pk_un (by omega)]; exact ek118
                        have e152 : n_149 (12 * k4 + 1300) = nI k121 := by rw [en_149, pk_un (by omega)]; exact ek121
                        have e153 : n_149 (12 * k4 + 1293) = x126 := by rw [en_149, pk_un (by omega)]; exact ex126
                        have e154 : n_149 (12 * k4 + 1299) = x124 := by rw [en_149, pk_us]
                        refine pm_aloadn hG dX12_press_206 rfl ?_
                        refine pm_iloadn hG dX12_press_207 rfl ?_
                        refine pm_top (v := nI k4) ek4 ?_
                        refine pm_iconst (v := nI 3) hG dX12_press_208 (by decide) ?_
                        refine pm_aloadn hG dX12_press_209 rfl ?_
                        refine pm_iloadn hG dX12_press_210 rfl ?_
                        refine pm_top (v := nI k4) ek4 ?_
                        refine pm_iconst (v := nI 3) hG dX12_press_211 (by decide) ?_
                        refine pm_callV (As := [.int (nI k4), .int (nI 3)]) (rest := [.int (nI 3), .int (nI k4), .ref (B + 54)]) hG hR dX12_press_212 (lkX12_199 _ rfl) okV_X12_of rfl rfl (m_of (d := 2) (e := 12 * k4 + 1293) (by omega) (by omega) (by omega)) rfl rfl hdd (Nat.le_refl _) (Nat.le_refl _) (Nat.le_of_ble_eq_true rfl) (pm_ki (fun v155 σ' cnt' hq => ?_))
                        obtain ⟨rfl, rfl, rfl⟩ := hq
                        refine pm_top (v := x126) e153 ?_
                        refine pm_iconst (v := nI 1) hG dX12_press_215 (by decide) ?_
                        refine pm_iloadn hG dX12_press_216 rfl ?_
                        refine pm_ishl hG dX12_press_217 ?_
                        refine pm_any (fun x156 => ?_)
                        refine pm_ior hG dX12_press_218 ?_
                        refine pm_any (fun x157 => ?_)
                        refine pm_callV (As := [.int (nI k4), .int (nI 3), .int x157]) (rest := []) hG hR dX12_press_219 (lkX12_217 _ rfl) okV_X12_writes rfl rfl (m_writes (d := 2) (e := 12 * k4 + 1293) (by omega) (by omega) (by omega)) rfl rfl hdd (Nat.le_refl _) (Nat.le_refl _) (by decide) (pm_kv (fun σ' cnt' hq => ?_))
                        obtain ⟨rfl, rfl⟩ := hq
                        obtain ⟨n_158, en_158⟩ : ∃ f : Nat → Int32, f = upd n_149 (12 * k4 + 1293) x157 := ⟨_, rfl⟩
                        rw [← en_158]
                        have hnn_158 := KI.w en_158 hnn_149 (okv_f (show kd (12 * k4 + 1293) = (0, 0, false) from (kd_E (k := k4) (c := 3) (by omega) (by omega) (by decide))))
                        have hrn_158 := NRx.w en_158 hrn_149 (by rw [(show kd (12 * k4 + 1293) = (0, 0, false) from (kd_E (k := k4) (c := 3) (by omega) (by omega) (by decide)))])
                        have e159 : n_158 8 = nI kc8 := by rw [en_158, pk_un (by omega)]; exact e150
                        have e160 : n_158 3 = nI k118 := by rw [en_158, pk_un (by omega)]; exact e151
                        have e161 : n_158 (12 * k4 + 1300) = nI k121 := by rw [en_158, pk_un (by omega)]; exact e152
                        have e162 : n_158 (12 * k4 + 1299) = x124 := by rw [en_158, pk_un (by omega)]; exact e154
                        have e163 : n_158 (12 * k4 + 1293) = x157 := by rw [en_158, pk_us]
                        refine pm_aloadn hG dX12_press_222 rfl ?_
                        refine pm_iloadn hG dX12_press_223 rfl ?_
                        refine pm_top (v := nI k4) ek4 ?_
                        refine pm_iconst (v := nI 3) hG dX12_press_224 (by decide) ?_
                        refine pm_callV (As := [.int (nI k4), .int (nI 3)]) (rest := []) hG hR dX12_press_225 (lkX12_199 _ rfl) okV_X12_of rfl rfl (m_of (d := 2) (e := 12 * k4 + 1293) (by omega) (by omega) (by omega)) rfl rfl hdd (Nat.le_refl _) (Nat.le_refl _) (by decide) (pm_ki (fun v164 σ' cnt' hq => ?_))
                        obtain ⟨rfl, rfl, rfl⟩ := hq
                        refine pm_top (v := x157) e163 ?_
                        refine pm_callS (As := [.int x157]) (rest := []) hG hR dX12_press_228 (lkX12_202 _ rfl) okS_X12_bits (m_bits (d := 2) (by decide) hnn_158 hz) rfl rfl hdd (Nat.le_refl _) (Nat.le_refl _) (by decide) (pm_ki (fun v165 σ' cnt' hq => ?_))
                        obtain ⟨rfl, rfl⟩ := hq
                        exact pm_iret hG hF dX12_press_231 rfl (Nat.le_refl _) (Nat.le_refl _) ⟨_, rfl, ⟨_, _, _, rfl, hnn_158, hrn_158, e159.trans ekc8.symm⟩, rfl⟩
                    · refine pm_iloadi hG dX12_press_105 rfl ?_
                      refine pm_aloadn hG dX12_press_107 rfl ?_
                      refine pm_iloadi hG dX12_press_108 rfl ?_
                      refine pm_iconst (v := nI 0) hG dX12_press_110 (by decide) ?_
                      refine pm_callV (As := [.int (nI i117), .int (nI 0)]) (rest := [.int x117_4]) hG hR dX12_press_111 (lkX12_110 _ rfl) okV_X12_its rfl rfl (m_its (d := 2) (e := 6 * i117 + 390) (by omega) (by omega) (by omega)) rfl rfl hdd (Nat.le_refl _) (Nat.le_refl _) (Nat.le_of_ble_eq_true rfl) (pm_ki (fun v167 σ' cnt' hq => ?_))
                      obtain ⟨rfl, rfl, rfl⟩ := hq
                      refine pm_gen (fun x168 ex168 => ?_)
                      refine pm_iconst (v := nI 2) hG dX12_press_114 (by decide) ?_
                      refine pm_icmp_ne (tgt := 149) hG dX12_press_115 rfl (fun c169 => ?_) (fun c169 => ?_)
                      · refine pm_iconst (v := nI 0) hG dX12_press_149 (by decide) ?_
                        refine pm_ior hG dX12_press_150 ?_
                        refine pm_any (fun x170 => ?_)
                        refine pm_istoreXi (loc' := [some (.ref (B + 54)), some (.int za), some (.int zb), some (.int x116), some (.int x170), some (.int (nI i117))]) hG dX12_press_151 (by decide) (pm_c1b rfl) rfl ?_
                        refine pm_iincX (v := nI (i117 + 1)) (loc' := [some (.ref (B + 54)), some (.int za), some (.int zb), some (.int x116), some (.int x170), some (.int (nI (i117 + 1)))]) hG dX12_press_153 rfl (nI_1 _) (by decide) (pm_c1b rfl) rfl ?_
                        refine pm_goto (tgt := 94) hG dX12_press_156 rfl ?_
                        exact ih117 I117 A117 n_117 x170 (i117 + 1) hnn_117 hrn_117 (kc117_8.trans (congrArg nI (by omega))) (by omega) (by omega)
                      · refine pm_aloadn hG dX12_press_118 rfl ?_
                        refine pm_iloadi hG dX12_press_119 rfl ?_
                        refine pm_iconst (v := nI 5) hG dX12_press_121 (by decide) ?_
                        refine pm_callV (As := [.int (nI i117), .int (nI 5)]) (rest := [.int x117_4]) hG hR dX12_press_122 (lkX12_110 _ rfl) okV_X12_its rfl rfl (m_its (d := 2) (e := 6 * i117 + 395) (by omega) (by omega) (by omega)) rfl rfl hdd (Nat.le_refl _) (Nat.le_refl _) (Nat.le_of_ble_eq_true rfl) (pm_ki (fun v171 σ' cnt' hq => ?_))
                        obtain ⟨rfl, rfl, rfl⟩ := hq
                        refine pm_gen (fun x172 ex172 => ?_)
                        refine pm_iloadn hG dX12_press_125 rfl ?_
                        refine pm_icmp_ne (tgt := 149) hG dX12_press_126 rfl (fun c173 => ?_) (fun c173 => ?_)
                        · refine pm_iconst (v := nI 0) hG dX12_press_149 (by decide) ?_
                          refine pm_ior hG dX12_press_150 ?_
                          refine pm_any (fun x174 => ?_)
                          refine pm_istoreXi (loc' := [some (.ref (B + 54)), some (.int za), some (.int zb), some (.int x116), some (.int x174), some (.int (nI i117))]) hG dX12_press_151 (by decide) (pm_c1b rfl) rfl ?_
                          refine pm_iincX (v := nI (i117 + 1)) (loc' := [some (.ref (B + 54)), some (.int za), some (.int zb), some (.int x116), some (.int x174), some (.int (nI (i117 + 1)))]) hG dX12_press_153 rfl (nI_1 _) (by decide) (pm_c1b rfl) rfl ?_
                          refine pm_goto (tgt := 94) hG dX12_press_156 rfl ?_
                          exact ih117 I117 A117 n_117 x174 (i117 + 1) hnn_117 hrn_117 (kc117_8.trans (congrArg nI (by omega))) (by omega) (by omega)
                        · refine pm_aloadn hG dX12_press_129 rfl ?_
                          refine pm_iloadi hG dX12_press_130 rfl ?_
                          rcases KI.opt hnn_117 (show kd (6 * i117 + 392) = (2, 20, false) from (kd_W (k := i117) (c := 2) (by omega) (by omega) (by decide))) with ek175 | ⟨k175, hk175, ek175⟩
                          · rcases KI.opt hnn_117 (show kd (6 * i117 + 391) = (2, 20, false) from (kd_W (k := i117) (c := 1) (by omega) (by omega) (by decide))) with ek176 | ⟨k176, hk176, ek176⟩
                            · refine pm_callV (As := [.int (nI i117)]) (rest := [.int x117_4]) hG hR dX12_press_132 (lkX12_139 _ rfl) okV_X12_whoHas rfl rfl (m_whoHas0 (d := 2) (e := 6 * i117 + 392) (e2 := 6 * i117 + 391) (by decide) (by omega) (by omega) (by omega) ek175 ek176) rfl rfl hdd (Nat.le_refl _) (Nat.le_refl _) (Nat.le_of_ble_eq_true rfl) (pm_ki (fun v177 σ' cnt' hq => ?_))
                              obtain ⟨rfl, rfl, rfl⟩ := hq
                              refine pm_if_lt (tgt := 149) hG dX12_press_135 rfl (fun _ => ?_) (fun q => absurd q (by decide))
                              refine pm_iconst (v := nI 0) hG dX12_press_149 (by decide) ?_
                              refine pm_ior hG dX12_press_150 ?_
                              refine pm_any (fun x178 => ?_)
                              refine pm_istoreXi (loc' := [some (.ref (B + 54)), some (.int za), some (.int zb), some (.int x116), some (.int x178), some (.int (nI i117))]) hG dX12_press_151 (by decide) (pm_c1b rfl) rfl ?_
                              refine pm_iincX (v := nI (i117 + 1)) (loc' := [some (.ref (B + 54)), some (.int za), some (.int zb), some (.int x116), some (.int x178), some (.int (nI (i117 + 1)))]) hG dX12_press_153 rfl (nI_1 _) (by decide) (pm_c1b rfl) rfl ?_
                              refine pm_goto (tgt := 94) hG dX12_press_156 rfl ?_
                              exact ih117 I117 A117 n_117 x178 (i117 + 1) hnn_117 hrn_117 (kc117_8.trans (congrArg nI (by omega))) (by omega) (by omega)
                            · refine pm_callV (As := [.int (nI i117)]) (rest := [.int x117_4]) hG hR dX12_press_132 (lkX12_139 _ rfl) okV_X12_whoHas rfl rfl (m_whoHas0 (d := 2) (e := 6 * i117 + 392) (e2 := 6 * i117 + 391) (by decide) (by omega) (by omega) (by omega) ek175 ek176) rfl rfl hdd (Nat.le_refl _) (Nat.le_refl _) (Nat.le_of_ble_eq_true rfl) (pm_ki (fun v179 σ' cnt' hq => ?_))
                              obtain ⟨rfl, rfl, rfl⟩ := hq
                              refine pm_ifN_lt hG dX12_press_135 rfl (by omega) ?_
                              refine pm_iconst (v := nI 1) hG dX12_press_138 (by decide) ?_
                              refine pm_aloadn hG dX12_press_139 rfl ?_
                              refine pm_iloadi hG dX12_press_140 rfl ?_
                              refine pm_callV (As := [.int (nI i117)]) (rest := [.int (nI 1), .int x117_4]) hG hR dX12_press_142 (lkX12_139 _ rfl) okV_X12_whoHas rfl rfl (m_whoHas0 (d := 2) (e := 6 * i117 + 392) (e2 := 6 * i117 + 391) (by decide) (by omega) (by omega) (by omega) ek175 ek176) rfl rfl hdd (Nat.le_refl _) (Nat.le_refl _) (Nat.le_of_ble_eq_true rfl) (pm_ki (fun v180 σ' cnt' hq => ?_))
                              obtain ⟨rfl, rfl, rfl⟩ := hq
                              refine pm_ishl hG dX12_press_145 ?_
                              refine pm_any (fun x181 => ?_)
                              refine pm_goto (tgt := 150) hG dX12_press_146 rfl ?_
                              refine pm_ior hG dX12_press_150 ?_
                              refine pm_any (fun x182 => ?_)
                              refine pm_istoreXi (loc' := [some (.ref (B + 54)), some (.int za), some (.int zb), some (.int x116), some (.int x182), some (.int (nI i117))]) hG dX12_press_151 (by decide) (pm_c1b rfl) rfl ?_
                              refine pm_iincX (v := nI (i117 + 1)) (loc' := [some (.ref (B + 54)), some (.int za), some (.int zb), some (.int x116), some (.int x182), some (.int (nI (i117 + 1)))]) hG dX12_press_153 rfl (nI_1 _) (by decide) (pm_c1b rfl) rfl ?_
                              refine pm_goto (tgt := 94) hG dX12_press_156 rfl ?_
                              exact ih117 I117 A117 n_117 x182 (i117 + 1) hnn_117 hrn_117 (kc117_8.trans (congrArg nI (by omega))) (by omega) (by omega)
                          · refine pm_callV (As := [.int (nI i117)]) (rest := [.int x117_4]) hG hR dX12_press_132 (lkX12_139 _ rfl) okV_X12_whoHas rfl rfl (m_whoHas1 (d := 2) (e := 6 * i117 + 392) (by decide) (by omega) (by omega) ek175 (by omega)) rfl rfl hdd (Nat.le_refl _) (Nat.le_refl _) (Nat.le_of_ble_eq_true rfl) (pm_ki (fun v183 σ' cnt' hq => ?_))
                            obtain ⟨rfl, rfl, rfl⟩ := hq
                            refine pm_ifN_lt hG dX12_press_135 rfl (by omega) ?_
                            refine pm_iconst (v := nI 1) hG dX12_press_138 (by decide) ?_
                            refine pm_aloadn hG dX12_press_139 rfl ?_
                            refine pm_iloadi hG dX12_press_140 rfl ?_
                            refine pm_callV (As := [.int (nI i117)]) (rest := [.int (nI 1), .int x117_4]) hG hR dX12_press_142 (lkX12_139 _ rfl) okV_X12_whoHas rfl rfl (m_whoHas1 (d := 2) (e := 6 * i117 + 392) (by decide) (by omega) (by omega) ek175 (by omega)) rfl rfl hdd (Nat.le_refl _) (Nat.le_refl _) (Nat.le_of_ble_eq_true rfl) (pm_ki (fun v184 σ' cnt' hq => ?_))
                            obtain ⟨rfl, rfl, rfl⟩ := hq
                            refine pm_ishl hG dX12_press_145 ?_
                            refine pm_any (fun x185 => ?_)
                            refine pm_goto (tgt := 150) hG dX12_press_146 rfl ?_
                            refine pm_ior hG dX12_press_150 ?_
                            refine pm_any (fun x186 => ?_)
                            refine pm_istoreXi (loc' := [some (.ref (B + 54)), some (.int za), some (.int zb), some (.int x116), some (.int x186), some (.int (nI i117))]) hG dX12_press_151 (by decide) (pm_c1b rfl) rfl ?_
                            refine pm_iincX (v := nI (i117 + 1)) (loc' := [some (.ref (B + 54)), some (.int za), some (.int zb), some (.int x116), some (.int x186), some (.int (nI (i117 + 1)))]) hG dX12_press_153 rfl (nI_1 _) (by decide) (pm_c1b rfl) rfl ?_
                            refine pm_goto (tgt := 94) hG dX12_press_156 rfl ?_
                            exact ih117 I117 A117 n_117 x186 (i117 + 1) hnn_117 hrn_117 (kc117_8.trans (congrArg nI (by omega))) (by omega) (by omega)
                exact loop94_117 _ I A n (nI 0) 0 hn hr (ekc8.trans (congrArg nI (by omega))) (by omega) (Nat.lt_succ_self _)
              · refine pm_aloadn hG dX12_press_75 rfl ?_
                refine pm_iconst (v := nI 3) hG dX12_press_76 (by decide) ?_
                refine pm_callV (As := [.int (nI 3)]) (rest := []) hG hR dX12_press_77 (lkX12_80 _ rfl) okV_X12_finds rfl rfl (m_finds (d := 2) (by decide) hn hz (by omega)) rfl rfl hdd (Nat.le_refl _) (Nat.le_refl _) (by decide) (pm_ki (fun v187 σ' cnt' hq => ?_))
                obtain ⟨⟨I188, A188, rfl⟩, rfl, fv187⟩ := hq
                exact pm_iret hG hF dX12_press_80 rfl (Nat.le_refl _) (Nat.le_refl _) ⟨_, rfl, ⟨_, _, _, rfl, hn, hr, ekc8.trans ekc8.symm⟩, rfl⟩
        · refine pm_top (v := nI k13) ek13 ?_
          refine pm_ifN_ge (tgt := 75) hG dX12_press_44 rfl (by omega) ?_
          refine pm_aloadn hG dX12_press_75 rfl ?_
          refine pm_iconst (v := nI 3) hG dX12_press_76 (by decide) ?_
          refine pm_callV (As := [.int (nI 3)]) (rest := []) hG hR dX12_press_77 (lkX12_80 _ rfl) okV_X12_finds rfl rfl (m_finds (d := 2) (by decide) hn hz (by omega)) rfl rfl hdd (Nat.le_refl _) (Nat.le_refl _) (by decide) (pm_ki (fun v189 σ' cnt' hq => ?_))
          obtain ⟨⟨I190, A190, rfl⟩, rfl, fv189⟩ := hq
          exact pm_iret hG hF dX12_press_80 rfl (Nat.le_refl _) (Nat.le_refl _) ⟨_, rfl, ⟨_, _, _, rfl, hn, hr, ekc8.trans ekc8.symm⟩, rfl⟩
      · refine pm_aloadn hG dX12_press_32 rfl ?_
        refine pm_iconst (v := nI 5) hG dX12_press_33 (by decide) ?_
        refine pm_callV (As := [.int (nI 5)]) (rest := []) hG hR dX12_press_34 (lkX12_80 _ rfl) okV_X12_finds rfl rfl (m_finds (d := 2) (by decide) hn hz (by omega)) rfl rfl hdd (Nat.le_refl _) (Nat.le_refl _) (by decide) (pm_ki (fun v191 σ' cnt' hq => ?_))
        obtain ⟨⟨I192, A192, rfl⟩, rfl, fv191⟩ := hq
        exact pm_iret hG hF dX12_press_37 rfl (Nat.le_refl _) (Nat.le_refl _) ⟨_, rfl, ⟨_, _, _, rfl, hn, hr, ekc8.trans ekc8.symm⟩, rfl⟩
    · refine pm_ifN_ne (tgt := 22) hG dX12_press_13 rfl (by omega) (fun q => absurd q (by omega)) (fun _ => ?_)
      refine pm_aloadn hG dX12_press_16 rfl ?_
      refine pm_iconst (v := nI 1) hG dX12_press_17 (by decide) ?_
      refine pm_callV (As := [.int (nI 1)]) (rest := []) hG hR dX12_press_18 (lkX12_80 _ rfl) okV_X12_finds rfl rfl (m_finds (d := 2) (by decide) hn hz (by omega)) rfl rfl hdd (Nat.le_refl _) (Nat.le_refl _) (by decide) (pm_ki (fun v193 σ' cnt' hq => ?_))
      obtain ⟨⟨I194, A194, rfl⟩, rfl, fv193⟩ := hq
      exact pm_iret hG hF dX12_press_21 rfl (Nat.le_refl _) (Nat.le_refl _) ⟨_, rfl, ⟨_, _, _, rfl, hn, hr, ekc8.trans ekc8.symm⟩, rfl⟩
  · refine pm_ifN_eq (tgt := 16) hG dX12_press_5 rfl (by omega) (fun _ => ?_) (fun q => absurd q (by omega))
    refine pm_aloadn hG dX12_press_16 rfl ?_
    refine pm_iconst (v := nI 1) hG dX12_press_17 (by decide) ?_
    refine pm_callV (As := [.int (nI 1)]) (rest := []) hG hR dX12_press_18 (lkX12_80 _ rfl) okV_X12_finds rfl rfl (m_finds (d := 2) (by decide) hn hz (by omega)) rfl rfl hdd (Nat.le_refl _) (Nat.le_refl _) (by decide) (pm_ki (fun v195 σ' cnt' hq => ?_))
    obtain ⟨⟨I196, A196, rfl⟩, rfl, fv195⟩ := hq
    exact pm_iret hG hF dX12_press_21 rfl (Nat.le_refl _) (Nat.le_refl _) ⟨_, rfl, ⟨_, _, _, rfl, hn, hr, ekc8.trans ekc8.symm⟩, rfl⟩
