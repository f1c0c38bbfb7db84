set_option maxRecDepth 100000 in
set_option maxHeartbeats 4000000 in
theorem m_obey {d B cnt p0 t0 : Nat} {σ : pm_S} {I : Nat → Int32} {A : Nat → Nat → Int32} {n k z : Nat → Int32} {ac wt pl im : Int32} {y : Nat → Int32} {za : Int32} (hdd : 6 ≤ d) (hn : KI n) (hr : NR n) (hz : SZ z)  : pm_met mX12_obey d 0 0 B [.ref (B + 54), .int za] cnt (pm_mid σ (md_L B I A n k z ac wt pl (nI p0) (nI t0) im y)) (pm_Qi (fun v σ' cnt' => (∃ (I' : Nat → Int32) (A' : Nat → Nat → Int32) (n' : Nat → Int32), σ' = pm_mid σ (md_L B I' A' n' k z ac wt pl (nI p0) (nI t0) im y) ∧ KI n' ∧ NR n') ∧ cnt = cnt')) := by
  refine pm_enter 0 (by decide) (Nat.le_of_ble_eq_true rfl) rfl (fun G hG hR hF => ?_)
  refine pm_aloadn hG dX12_obey_0 rfl ?_
  refine pm_iloadn hG dX12_obey_1 rfl ?_
  obtain ⟨k1, hk1, ek1⟩ := KI.nat hn (show kd 5 = (1, 41, true) by decide)
  refine pm_callV (As := [.int za]) (rest := []) hG hR dX12_obey_2 (lkX12_211 _ rfl) okV_X12_isLetter rfl rfl (m_isLetter (d := 5) (by decide) ek1 (by omega)) rfl rfl hdd (Nat.le_refl _) (Nat.le_refl _) (by decide) (pm_ki (fun v2 σ' cnt' hq => ?_))
  obtain ⟨hq, rfl, rfl⟩ := hq
  rcases hq with ⟨rfl, k4, hk4, ek4⟩ | rfl
  · refine pm_ifN_ne (tgt := 14) hG dX12_obey_5 rfl (by omega) (fun _ => ?_) (fun q => absurd q (by omega))
    refine pm_aloadn hG dX12_obey_14 rfl ?_
    refine pm_iloadn hG dX12_obey_15 rfl ?_
    refine pm_top (v := nI k4) ek4 ?_
    refine pm_bipush (v := nI 6) hG dX12_obey_16 (by decide) ?_
    refine pm_callV (As := [.int (nI k4), .int (nI 6)]) (rest := []) hG hR dX12_obey_18 (lkX12_199 _ rfl) okV_X12_of rfl rfl (m_of (d := 5) (e := 12 * k4 + 1296) (by omega) (by omega) (by omega)) rfl rfl hdd (Nat.le_refl _) (Nat.le_refl _) (by decide) (pm_ki (fun v5 σ' cnt' hq => ?_))
    obtain ⟨rfl, rfl, rfl⟩ := hq
    refine pm_gen (fun x6 ex6 => ?_)
    refine pm_if_lt (tgt := 48) hG dX12_obey_21 rfl (fun c7 => ?_) (fun c7 => ?_)
    · refine pm_aloadn hG dX12_obey_48 rfl ?_
      refine pm_iconst (v := nI 3) hG dX12_obey_49 (by decide) ?_
      refine pm_callV (As := [.int (nI 3)]) (rest := []) hG hR dX12_obey_50 (lkX12_80 _ rfl) okV_X12_finds rfl rfl (m_finds (d := 5) (by decide) hn hz (by omega)) rfl rfl hdd (Nat.le_refl _) (Nat.le_refl _) (by decide) (pm_ki (fun v8 σ' cnt' hq => ?_))
      obtain ⟨⟨I9, A9, rfl⟩, rfl, fv8⟩ := hq
      exact pm_iret hG hF dX12_obey_53 rfl (Nat.le_refl _) (Nat.le_refl _) ⟨_, rfl, ⟨_, _, _, rfl, hn, hr⟩, rfl⟩
    · obtain ⟨k10, hk10, ek10⟩ := nI_of c7
      refine pm_aloadn hG dX12_obey_24 rfl ?_
      refine pm_iloadn hG dX12_obey_25 rfl ?_
      refine pm_top (v := nI k4) ek4 ?_
      refine pm_bipush (v := nI 8) hG dX12_obey_26 (by decide) ?_
      refine pm_callV (As := [.int (nI k4), .int (nI 8)]) (rest := []) hG hR dX12_obey_28 (lkX12_199 _ rfl) okV_X12_of rfl rfl (m_of (d := 5) (e := 12 * k4 + 1298) (by omega) (by omega) (by omega)) rfl rfl hdd (Nat.le_refl _) (Nat.le_refl _) (by decide) (pm_ki (fun v11 σ' cnt' hq => ?_))
      obtain ⟨rfl, rfl, rfl⟩ := hq
      refine pm_gen (fun x12 ex12 => ?_)
      refine pm_iconst (v := nI 1) hG dX12_obey_31 (by decide) ?_
      refine pm_icmp_eq (tgt := 48) hG dX12_obey_32 rfl (fun c13 => ?_) (fun c13 => ?_)
      · refine pm_aloadn hG dX12_obey_48 rfl ?_
        refine pm_iconst (v := nI 3) hG dX12_obey_49 (by decide) ?_
        refine pm_callV (As := [.int (nI 3)]) (rest := []) hG hR dX12_obey_50 (lkX12_80 _ rfl) okV_X12_finds rfl rfl (m_finds (d := 5) (by decide) hn hz (by omega)) rfl rfl hdd (Nat.le_refl _) (Nat.le_refl _) (by decide) (pm_ki (fun v14 σ' cnt' hq => ?_))
        obtain ⟨⟨I15, A15, rfl⟩, rfl, fv14⟩ := hq
        exact pm_iret hG hF dX12_obey_53 rfl (Nat.le_refl _) (Nat.le_refl _) ⟨_, rfl, ⟨_, _, _, rfl, hn, hr⟩, rfl⟩
      · refine pm_aloadn hG dX12_obey_35 rfl ?_
        refine pm_aloadn hG dX12_obey_36 rfl ?_
        refine pm_iloadn hG dX12_obey_37 rfl ?_
        refine pm_top (v := nI k4) ek4 ?_
        obtain ⟨k16, hk16, ek16⟩ := KI.sent (l := k4) hn hr (by omega) (by rw [ex6, ek10]; exact nI_m1 (by omega))
        refine pm_iconst (v := nI 4) hG dX12_obey_38 (by decide) ?_
        refine pm_callV (As := [.int (nI k4), .int (nI 4)]) (rest := [.ref (B + 54)]) hG hR dX12_obey_39 (lkX12_199 _ rfl) okV_X12_of rfl rfl (m_of (d := 5) (e := 12 * k4 + 1294) (by omega) (by omega) (by omega)) rfl rfl hdd (Nat.le_refl _) (Nat.le_refl _) (Nat.le_of_ble_eq_true rfl) (pm_ki (fun v17 σ' cnt' hq => ?_))
        obtain ⟨rfl, rfl, rfl⟩ := hq
        refine pm_top (v := nI k16) ek16 ?_
        rcases KI.opt hn (show kd (14 * k16 + 119) = (2, 2001, false) from (kd_P (k := k16) (c := 9) (by omega) (by omega) (by decide))) with ek18 | ⟨k18, hk18, ek18⟩
        · refine pm_callV (As := [.int (nI k16)]) (rest := []) hG hR dX12_obey_42 (lkX12_101 _ rfl) okV_X12_lives rfl rfl (m_lives1 (d := 5) (by decide) (by omega) (by omega : 14 * k16 + 119 = 14 * k16 + 119) ek18) rfl rfl hdd (Nat.le_refl _) (Nat.le_refl _) (by decide) (pm_ki (fun v19 σ' cnt' hq => ?_))
          obtain ⟨rfl, rfl, rfl⟩ := hq
          refine pm_ifN_ne (tgt := 54) hG dX12_obey_45 rfl (by omega) (fun _ => ?_) (fun q => absurd q (by omega))
          refine pm_aloadn hG dX12_obey_54 rfl ?_
          refine pm_iloadn hG dX12_obey_55 rfl ?_
          refine pm_top (v := nI k4) ek4 ?_
          refine pm_bipush (v := nI 7) hG dX12_obey_56 (by decide) ?_
          refine pm_callV (As := [.int (nI k4), .int (nI 7)]) (rest := []) hG hR dX12_obey_58 (lkX12_199 _ rfl) okV_X12_of rfl rfl (m_of (d := 5) (e := 12 * k4 + 1297) (by omega) (by omega) (by omega)) rfl rfl hdd (Nat.le_refl _) (Nat.le_refl _) (by decide) (pm_ki (fun v20 σ' cnt' hq => ?_))
          obtain ⟨rfl, rfl, rfl⟩ := hq
          refine pm_gen (fun x21 ex21 => ?_)
          refine pm_iconst (v := nI 1) hG dX12_obey_61 (by decide) ?_
          refine pm_icmp_eq (tgt := 71) hG dX12_obey_62 rfl (fun c22 => ?_) (fun c22 => ?_)
          · refine pm_aloadn hG dX12_obey_71 rfl ?_
            refine pm_iloadn hG dX12_obey_72 rfl ?_
            refine pm_top (v := nI k4) ek4 ?_
            refine pm_callV (As := [.int (nI k4)]) (rest := []) hG hR dX12_obey_73 (lkX12_229 _ rfl) okV_X12_cannot rfl rfl (m_cannot (d := 5) (by decide) hn hr hz (by omega) ek16 (by omega) ek1 (by omega) (by omega)) rfl rfl hdd (Nat.le_refl _) (Nat.le_refl _) (by decide) (pm_ki (fun v23 σ' cnt' hq => ?_))
            obtain ⟨⟨I24, A24, rfl⟩, rfl, rv24⟩ := hq
            rcases rv24 with rfl | ⟨rfl, ob24⟩
            · refine pm_ifN_eq (tgt := 85) hG dX12_obey_76 rfl (by omega) (fun q => absurd q (by omega)) (fun _ => ?_)
              refine pm_aloadn hG dX12_obey_79 rfl ?_
              refine pm_iconst (v := nI 2) hG dX12_obey_80 (by decide) ?_
              refine pm_callV (As := [.int (nI 2)]) (rest := []) hG hR dX12_obey_81 (lkX12_80 _ rfl) okV_X12_finds rfl rfl (m_finds (d := 5) (by decide) hn hz (by omega)) rfl rfl hdd (Nat.le_refl _) (Nat.le_refl _) (by decide) (pm_ki (fun v25 σ' cnt' hq => ?_))
              obtain ⟨⟨I26, A26, rfl⟩, rfl, fv25⟩ := hq
              exact pm_iret hG hF dX12_obey_84 rfl (Nat.le_refl _) (Nat.le_refl _) ⟨_, rfl, ⟨_, _, _, rfl, hn, hr⟩, rfl⟩
            · refine pm_ifN_eq (tgt := 85) hG dX12_obey_76 rfl (by omega) (fun _ => ?_) (fun q => absurd q (by omega))
              refine pm_aloadn hG dX12_obey_85 rfl ?_
              refine pm_iloadn hG dX12_obey_86 rfl ?_
              refine pm_top (v := nI k4) ek4 ?_
              refine pm_bipush (v := nI 8) hG dX12_obey_87 (by decide) ?_
              refine pm_iconst (v := nI 1) hG dX12_obey_89 (by decide) ?_
              refine pm_callV (As := [.int (nI k4), .int (nI 8), .int (nI 1)]) (rest := []) hG hR dX12_obey_90 (lkX12_217 _ rfl) okV_X12_writes rfl rfl (m_writes (d := 5) (e := 12 * k4 + 1298) (by omega) (by omega) (by omega)) rfl rfl hdd (Nat.le_refl _) (Nat.le_refl _) (by decide) (pm_kv (fun σ' cnt' hq => ?_))
              obtain ⟨rfl, rfl⟩ := hq
              obtain ⟨n_27, en_27⟩ : ∃ f : Nat → Int32, f = upd n (12 * k4 + 1298) (nI 1) := ⟨_, rfl⟩
              rw [← en_27]
              have hnn_27 := KI.w en_27 hn (okv_f (show kd (12 * k4 + 1298) = (0, 0, false) from (kd_E (k := k4) (c := 8) (by omega) (by omega) (by decide))))
              have hrn_27 := NRx.w en_27 hr (by rw [(show kd (12 * k4 + 1298) = (0, 0, false) from (kd_E (k := k4) (c := 8) (by omega) (by omega) (by decide)))])
              have e28 : n_27 5 = nI k1 := by rw [en_27, pk_un (by omega)]; exact ek1
              have e29 : n_27 (12 * k4 + 1296) = x6 := by rw [en_27, pk_un (by omega)]; exact ex6
              have e30 : n_27 (12 * k4 + 1294) = nI k16 := by rw [en_27, pk_un (by omega)]; exact ek16
              have e31 : n_27 (14 * k16 + 119) = (-1) := by rw [en_27, pk_un (by omega)]; exact ek18
              have e32 : n_27 (12 * k4 + 1297) = x21 := by rw [en_27, pk_un (by omega)]; exact ex21
              have e33 : n_27 (12 * k4 + 1298) = nI 1 := by rw [en_27, pk_us]
              have o34 : obOK n_27 k4 := by
                unfold obOK
                rw [en_27, pk_un (by omega), pk_un (by omega)]; exact ob24
              refine pm_aloadn hG dX12_obey_93 rfl ?_
              refine pm_iloadn hG dX12_obey_94 rfl ?_
              refine pm_top (v := nI k4) ek4 ?_
              refine pm_callV (As := [.int (nI k4)]) (rest := []) hG hR dX12_obey_95 (lkX12_232 _ rfl) okV_X12_obeys rfl rfl (m_obeys (d := 5) (by decide) hnn_27 hrn_27 hz (by omega) e30 (by omega) e28 (by omega) (by omega) o34) rfl rfl hdd (Nat.le_refl _) (Nat.le_refl _) (by decide) (pm_ki (fun v35 σ' cnt' hq => ?_))
              obtain ⟨⟨I36, A36, n_36, rfl, hn36, hr36⟩, rfl⟩ := hq
              exact pm_iret hG hF dX12_obey_98 rfl (Nat.le_refl _) (Nat.le_refl _) ⟨_, rfl, ⟨_, _, _, rfl, hn36, hr36⟩, rfl⟩
          · refine pm_aloadn hG dX12_obey_65 rfl ?_
            refine pm_iconst (v := nI 5) hG dX12_obey_66 (by decide) ?_
            refine pm_callV (As := [.int (nI 5)]) (rest := []) hG hR dX12_obey_67 (lkX12_80 _ rfl) okV_X12_finds rfl rfl (m_finds (d := 5) (by decide) hn hz (by omega)) rfl rfl hdd (Nat.le_refl _) (Nat.le_refl _) (by decide) (pm_ki (fun v37 σ' cnt' hq => ?_))
            obtain ⟨⟨I38, A38, rfl⟩, rfl, fv37⟩ := hq
            exact pm_iret hG hF dX12_obey_70 rfl (Nat.le_refl _) (Nat.le_refl _) ⟨_, rfl, ⟨_, _, _, rfl, hn, hr⟩, rfl⟩
        · refine pm_callV (As := [.int (nI k16)]) (rest := []) hG hR dX12_obey_42 (lkX12_101 _ rfl) okV_X12_lives rfl rfl (m_lives0 (d := 5) (by decide) (by omega) (by omega : 14 * k16 + 119 = 14 * k16 + 119) ek18 (by omega)) rfl rfl hdd (Nat.le_refl _) (Nat.le_refl _) (by decide) (pm_ki (fun v39 σ' cnt' hq => ?_))
          obtain ⟨rfl, rfl, rfl⟩ := hq
          refine pm_ifN_ne (tgt := 54) hG dX12_obey_45 rfl (by omega) (fun q => absurd q (by omega)) (fun _ => ?_)
          refine pm_aloadn hG dX12_obey_48 rfl ?_
          refine pm_iconst (v := nI 3) hG dX12_obey_49 (by decide) ?_
          refine pm_callV (As := [.int (nI 3)]) (rest := []) hG hR dX12_obey_50 (lkX12_80 _ rfl) okV_X12_finds rfl rfl (m_finds (d := 5) (by decide) hn hz (by omega)) rfl rfl hdd (Nat.le_refl _) (Nat.le_refl _) (by decide) (pm_ki (fun v40 σ' cnt' hq => ?_))
          obtain ⟨⟨I41, A41, rfl⟩, rfl, fv40⟩ := hq
          exact pm_iret hG hF dX12_obey_53 rfl (Nat.le_refl _) (Nat.le_refl _) ⟨_, rfl, ⟨_, _, _, rfl, hn, hr⟩, rfl⟩
  · refine pm_ifN_ne (tgt := 14) hG dX12_obey_5 rfl (by omega) (fun q => absurd q (by omega)) (fun _ => ?_)
    refine pm_aloadn hG dX12_obey_8 rfl ?_
    refine pm_iconst (v := nI 1) hG dX12_obey_9 (by decide) ?_
    refine pm_callV (As := [.int (nI 1)]) (rest := []) hG hR dX12_obey_10 (lkX12_80 _ rfl) okV_X12_finds rfl rfl (m_finds (d := 5) (by decide) hn hz (by omega)) rfl rfl hdd (Nat.le_refl _) (Nat.le_refl _) (by decide) (pm_ki (fun v42 σ' cnt' hq => ?_))
    obtain ⟨⟨I43, A43, rfl⟩, rfl, fv42⟩ := hq
    exact pm_iret hG hF dX12_obey_13 rfl (Nat.le_refl _) (Nat.le_refl _) ⟨_, rfl, ⟨_, _, _, rfl, hn, hr⟩, rfl⟩
