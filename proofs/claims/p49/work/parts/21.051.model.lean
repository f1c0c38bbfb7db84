set_option maxRecDepth 100000 in
set_option maxHeartbeats 4000000 in
theorem m_give {d B cnt p0 t0 : Nat} {σ : pm_S} {I : Nat → Int32} {A : Nat → Nat → Int32} {n k z : Nat → Int32} {ac wt pl im : Int32} {y : Nat → Int32} {za zb : Int32} (hdd : 2 ≤ d) (hn : KI n) (hr : NR n) (hz : SZ z)  : pm_met mX12_give d 0 0 B [.ref (B + 54), .int za, .int zb] cnt (pm_mid σ (md_L B I A n k z ac wt pl (nI p0) (nI t0) im y)) (pm_Qi (fun v σ' cnt' => (∃ (I' : Nat → Int32) (A' : Nat → Nat → Int32) (n' : Nat → Int32), σ' = pm_mid σ (md_L B I' A' n' k z ac wt pl (nI p0) (nI t0) im y) ∧ KI n' ∧ NR n') ∧ cnt = cnt')) := by
  refine pm_enter 1 (by decide) (Nat.le_of_ble_eq_true rfl) rfl (fun G hG hR hF => ?_)
  refine pm_aloadn hG dX12_give_0 rfl ?_
  refine pm_iloadn hG dX12_give_1 rfl ?_
  obtain ⟨k1, hk1, ek1⟩ := KI.nat hn (show kd 3 = (1, 21, false) by decide)
  refine pm_callV (As := [.int za]) (rest := []) hG hR dX12_give_2 (lkX12_132 _ rfl) okV_X12_isPower rfl rfl (m_isPower (d := 1) (by decide) ek1 (by omega)) rfl rfl hdd (Nat.le_refl _) (Nat.le_refl _) (by decide) (pm_ki (fun v2 σ' cnt' hq => ?_))
  obtain ⟨hq, rfl, rfl⟩ := hq
  rcases hq with ⟨rfl, k4, hk4, ek4⟩ | rfl
  · refine pm_ifN_eq (tgt := 29) hG dX12_give_5 rfl (by omega) (fun q => absurd q (by omega)) (fun _ => ?_)
    refine pm_iloadn hG dX12_give_8 rfl ?_
    refine pm_iconst (v := (-1)) hG dX12_give_9 (by decide) ?_
    refine pm_icmp_eq (tgt := 35) hG dX12_give_10 rfl (fun c5 => ?_) (fun c5 => ?_)
    · refine pm_aloadn hG dX12_give_35 rfl ?_
      refine pm_iloadn hG dX12_give_36 rfl ?_
      refine pm_top (v := nI k4) ek4 ?_
      refine pm_iconst (v := nI 2) hG dX12_give_37 (by decide) ?_
      refine pm_callV (As := [.int (nI k4), .int (nI 2)]) (rest := []) hG hR dX12_give_38 (lkX12_110 _ rfl) okV_X12_its rfl rfl (m_its (d := 1) (e := 6 * k4 + 392) (by omega) (by omega) (by omega)) rfl rfl hdd (Nat.le_refl _) (Nat.le_refl _) (by decide) (pm_ki (fun v6 σ' cnt' hq => ?_))
      obtain ⟨rfl, rfl, rfl⟩ := hq
      rcases KI.opt hn (show kd (6 * k4 + 392) = (2, 20, false) from (kd_W (k := k4) (c := 2) (by omega) (by omega) (by decide))) with ek7 | ⟨k7, hk7, ek7⟩
      · refine pm_top (v := (-1)) ek7 ?_
        refine pm_if_lt (tgt := 50) hG dX12_give_41 rfl (fun _ => ?_) (fun q => absurd q (by decide))
        refine pm_aloadn hG dX12_give_50 rfl ?_
        refine pm_iloadn hG dX12_give_51 rfl ?_
        refine pm_top (v := nI k4) ek4 ?_
        refine pm_iconst (v := nI 1) hG dX12_give_52 (by decide) ?_
        refine pm_callV (As := [.int (nI k4), .int (nI 1)]) (rest := []) hG hR dX12_give_53 (lkX12_110 _ rfl) okV_X12_its rfl rfl (m_its (d := 1) (e := 6 * k4 + 391) (by omega) (by omega) (by omega)) rfl rfl hdd (Nat.le_refl _) (Nat.le_refl _) (by decide) (pm_ki (fun v8 σ' cnt' hq => ?_))
        obtain ⟨rfl, rfl, rfl⟩ := hq
        rcases KI.opt hn (show kd (6 * k4 + 391) = (2, 20, false) from (kd_W (k := k4) (c := 1) (by omega) (by omega) (by decide))) with ek9 | ⟨k9, hk9, ek9⟩
        · refine pm_top (v := (-1)) ek9 ?_
          refine pm_istoreXn (loc' := [some (.ref (B + 54)), some (.int za), some (.int zb), some (.int (-1))]) hG dX12_give_56 (by decide) (pm_c1b rfl) rfl ?_
          refine pm_aloadn hG dX12_give_57 rfl ?_
          refine pm_iloadn hG dX12_give_58 rfl ?_
          refine pm_top (v := nI k4) ek4 ?_
          refine pm_iconst (v := nI 1) hG dX12_give_59 (by decide) ?_
          refine pm_iloadn hG dX12_give_60 rfl ?_
          refine pm_top (v := (-1)) c5 ?_
          refine pm_callV (As := [.int (nI k4), .int (nI 1), .int (-1)]) (rest := []) hG hR dX12_give_61 (lkX12_113 _ rfl) okV_X12_makes rfl rfl (m_makes (d := 1) (e := 6 * k4 + 391) (by omega) (by omega) (by omega)) rfl rfl hdd (Nat.le_refl _) (Nat.le_refl _) (by decide) (pm_kv (fun σ' cnt' hq => ?_))
          obtain ⟨rfl, rfl⟩ := hq
          obtain ⟨n_10, en_10⟩ : ∃ f : Nat → Int32, f = upd n (6 * k4 + 391) (-1) := ⟨_, rfl⟩
          rw [← en_10]
          have hnn_10 := KI.w en_10 hn (okv_m (show kd (6 * k4 + 391) = (2, 20, false) from (kd_W (k := k4) (c := 1) (by omega) (by omega) (by decide))))
          have hrn_10 := NRx.w en_10 hr (by rw [(show kd (6 * k4 + 391) = (2, 20, false) from (kd_W (k := k4) (c := 1) (by omega) (by omega) (by decide)))])
          have e11 : n_10 3 = nI k1 := by rw [en_10, pk_un (by omega)]; exact ek1
          have e12 : n_10 (6 * k4 + 392) = (-1) := by rw [en_10, pk_un (by omega)]; exact ek7
          have e13 : n_10 (6 * k4 + 391) = (-1) := by rw [en_10, pk_us]
          refine pm_iloadn hG dX12_give_64 rfl ?_
          exact pm_iret hG hF dX12_give_65 rfl (Nat.le_refl _) (Nat.le_refl _) ⟨_, rfl, ⟨_, _, _, rfl, hnn_10, hrn_10⟩, rfl⟩
        · refine pm_top (v := nI k9) ek9 ?_
          refine pm_istoreXn (loc' := [some (.ref (B + 54)), some (.int za), some (.int zb), some (.int (nI k9))]) hG dX12_give_56 (by decide) (pm_c1b rfl) rfl ?_
          refine pm_aloadn hG dX12_give_57 rfl ?_
          refine pm_iloadn hG dX12_give_58 rfl ?_
          refine pm_top (v := nI k4) ek4 ?_
          refine pm_iconst (v := nI 1) hG dX12_give_59 (by decide) ?_
          refine pm_iloadn hG dX12_give_60 rfl ?_
          refine pm_top (v := (-1)) c5 ?_
          refine pm_callV (As := [.int (nI k4), .int (nI 1), .int (-1)]) (rest := []) hG hR dX12_give_61 (lkX12_113 _ rfl) okV_X12_makes rfl rfl (m_makes (d := 1) (e := 6 * k4 + 391) (by omega) (by omega) (by omega)) rfl rfl hdd (Nat.le_refl _) (Nat.le_refl _) (by decide) (pm_kv (fun σ' cnt' hq => ?_))
          obtain ⟨rfl, rfl⟩ := hq
          obtain ⟨n_14, en_14⟩ : ∃ f : Nat → Int32, f = upd n (6 * k4 + 391) (-1) := ⟨_, rfl⟩
          rw [← en_14]
          have hnn_14 := KI.w en_14 hn (okv_m (show kd (6 * k4 + 391) = (2, 20, false) from (kd_W (k := k4) (c := 1) (by omega) (by omega) (by decide))))
          have hrn_14 := NRx.w en_14 hr (by rw [(show kd (6 * k4 + 391) = (2, 20, false) from (kd_W (k := k4) (c := 1) (by omega) (by omega) (by decide)))])
          have e15 : n_14 3 = nI k1 := by rw [en_14, pk_un (by omega)]; exact ek1
          have e16 : n_14 (6 * k4 + 392) = (-1) := by rw [en_14, pk_un (by omega)]; exact ek7
          have e17 : n_14 (6 * k4 + 391) = (-1) := by rw [en_14, pk_us]
          refine pm_iloadn hG dX12_give_64 rfl ?_
          exact pm_iret hG hF dX12_give_65 rfl (Nat.le_refl _) (Nat.le_refl _) ⟨_, rfl, ⟨_, _, _, rfl, hnn_14, hrn_14⟩, rfl⟩
      · refine pm_top (v := nI k7) ek7 ?_
        refine pm_ifN_lt hG dX12_give_41 rfl (by omega) ?_
        refine pm_aloadn hG dX12_give_44 rfl ?_
        refine pm_iconst (v := nI 3) hG dX12_give_45 (by decide) ?_
        refine pm_callV (As := [.int (nI 3)]) (rest := []) hG hR dX12_give_46 (lkX12_80 _ rfl) okV_X12_finds rfl rfl (m_finds (d := 1) (by decide) hn hz (by omega)) rfl rfl hdd (Nat.le_refl _) (Nat.le_refl _) (by decide) (pm_ki (fun v18 σ' cnt' hq => ?_))
        obtain ⟨⟨I19, A19, rfl⟩, rfl, fv18⟩ := hq
        exact pm_iret hG hF dX12_give_49 rfl (Nat.le_refl _) (Nat.le_refl _) ⟨_, rfl, ⟨_, _, _, rfl, hn, hr⟩, rfl⟩
    · refine pm_aloadn hG dX12_give_13 rfl ?_
      refine pm_iloadn hG dX12_give_14 rfl ?_
      obtain ⟨k20, hk20, ek20⟩ := KI.nat hn (show kd 2 = (1, 21, true) by decide)
      refine pm_callV (As := [.int zb]) (rest := []) hG hR dX12_give_15 (lkX12_91 _ rfl) okV_X12_isPerson rfl rfl (m_isPerson (d := 1) (by decide) ek20 (by omega)) rfl rfl hdd (Nat.le_refl _) (Nat.le_refl _) (by decide) (pm_ki (fun v21 σ' cnt' hq => ?_))
      obtain ⟨hq, rfl, rfl⟩ := hq
      rcases hq with ⟨rfl, k23, hk23, ek23⟩ | rfl
      · refine pm_ifN_eq (tgt := 29) hG dX12_give_18 rfl (by omega) (fun q => absurd q (by omega)) (fun _ => ?_)
        refine pm_aloadn hG dX12_give_21 rfl ?_
        refine pm_iloadn hG dX12_give_22 rfl ?_
        refine pm_top (v := nI k23) ek23 ?_
        rcases KI.opt hn (show kd (14 * k23 + 119) = (2, 2001, false) from (kd_P (k := k23) (c := 9) (by omega) (by omega) (by decide))) with ek24 | ⟨k24, hk24, ek24⟩
        · refine pm_callV (As := [.int (nI k23)]) (rest := []) hG hR dX12_give_23 (lkX12_101 _ rfl) okV_X12_lives rfl rfl (m_lives1 (d := 1) (by decide) (by omega) (by omega : 14 * k23 + 119 = 14 * k23 + 119) ek24) rfl rfl hdd (Nat.le_refl _) (Nat.le_refl _) (by decide) (pm_ki (fun v25 σ' cnt' hq => ?_))
          obtain ⟨rfl, rfl, rfl⟩ := hq
          refine pm_ifN_ne (tgt := 35) hG dX12_give_26 rfl (by omega) (fun _ => ?_) (fun q => absurd q (by omega))
          refine pm_aloadn hG dX12_give_35 rfl ?_
          refine pm_iloadn hG dX12_give_36 rfl ?_
          refine pm_top (v := nI k4) ek4 ?_
          refine pm_iconst (v := nI 2) hG dX12_give_37 (by decide) ?_
          refine pm_callV (As := [.int (nI k4), .int (nI 2)]) (rest := []) hG hR dX12_give_38 (lkX12_110 _ rfl) okV_X12_its rfl rfl (m_its (d := 1) (e := 6 * k4 + 392) (by omega) (by omega) (by omega)) rfl rfl hdd (Nat.le_refl _) (Nat.le_refl _) (by decide) (pm_ki (fun v26 σ' cnt' hq => ?_))
          obtain ⟨rfl, rfl, rfl⟩ := hq
          rcases KI.opt hn (show kd (6 * k4 + 392) = (2, 20, false) from (kd_W (k := k4) (c := 2) (by omega) (by omega) (by decide))) with ek27 | ⟨k27, hk27, ek27⟩
          · refine pm_top (v := (-1)) ek27 ?_
            refine pm_if_lt (tgt := 50) hG dX12_give_41 rfl (fun _ => ?_) (fun q => absurd q (by decide))
            refine pm_aloadn hG dX12_give_50 rfl ?_
            refine pm_iloadn hG dX12_give_51 rfl ?_
            refine pm_top (v := nI k4) ek4 ?_
            refine pm_iconst (v := nI 1) hG dX12_give_52 (by decide) ?_
            refine pm_callV (As := [.int (nI k4), .int (nI 1)]) (rest := []) hG hR dX12_give_53 (lkX12_110 _ rfl) okV_X12_its rfl rfl (m_its (d := 1) (e := 6 * k4 + 391) (by omega) (by omega) (by omega)) rfl rfl hdd (Nat.le_refl _) (Nat.le_refl _) (by decide) (pm_ki (fun v28 σ' cnt' hq => ?_))
            obtain ⟨rfl, rfl, rfl⟩ := hq
            rcases KI.opt hn (show kd (6 * k4 + 391) = (2, 20, false) from (kd_W (k := k4) (c := 1) (by omega) (by omega) (by decide))) with ek29 | ⟨k29, hk29, ek29⟩
            · refine pm_top (v := (-1)) ek29 ?_
              refine pm_istoreXn (loc' := [some (.ref (B + 54)), some (.int za), some (.int zb), some (.int (-1))]) hG dX12_give_56 (by decide) (pm_c1b rfl) rfl ?_
              refine pm_aloadn hG dX12_give_57 rfl ?_
              refine pm_iloadn hG dX12_give_58 rfl ?_
              refine pm_top (v := nI k4) ek4 ?_
              refine pm_iconst (v := nI 1) hG dX12_give_59 (by decide) ?_
              refine pm_iloadn hG dX12_give_60 rfl ?_
              refine pm_top (v := nI k23) ek23 ?_
              refine pm_callV (As := [.int (nI k4), .int (nI 1), .int (nI k23)]) (rest := []) hG hR dX12_give_61 (lkX12_113 _ rfl) okV_X12_makes rfl rfl (m_makes (d := 1) (e := 6 * k4 + 391) (by omega) (by omega) (by omega)) rfl rfl hdd (Nat.le_refl _) (Nat.le_refl _) (by decide) (pm_kv (fun σ' cnt' hq => ?_))
              obtain ⟨rfl, rfl⟩ := hq
              obtain ⟨n_30, en_30⟩ : ∃ f : Nat → Int32, f = upd n (6 * k4 + 391) (nI k23) := ⟨_, rfl⟩
              rw [← en_30]
              have hnn_30 := KI.w en_30 hn (okv_o (show kd (6 * k4 + 391) = (2, 20, false) from (kd_W (k := k4) (c := 1) (by omega) (by omega) (by decide))) (by omega))
              have hrn_30 := NRx.w en_30 hr (by rw [(show kd (6 * k4 + 391) = (2, 20, false) from (kd_W (k := k4) (c := 1) (by omega) (by omega) (by decide)))])
              have e31 : n_30 3 = nI k1 := by rw [en_30, pk_un (by omega)]; exact ek1
              have e32 : n_30 2 = nI k20 := by rw [en_30, pk_un (by omega)]; exact ek20
              have e33 : n_30 (14 * k23 + 119) = (-1) := by rw [en_30, pk_un (by omega)]; exact ek24
              have e34 : n_30 (6 * k4 + 392) = (-1) := by rw [en_30, pk_un (by omega)]; exact ek27
              have e35 : n_30 (6 * k4 + 391) = nI k23 := by rw [en_30, pk_us]
              refine pm_iloadn hG dX12_give_64 rfl ?_
              exact pm_iret hG hF dX12_give_65 rfl (Nat.le_refl _) (Nat.le_refl _) ⟨_, rfl, ⟨_, _, _, rfl, hnn_30, hrn_30⟩, rfl⟩
            · refine pm_top (v := nI k29) ek29 ?_
              refine pm_istoreXn (loc' := [some (.ref (B + 54)), some (.int za), some (.int zb), some (.int (nI k29))]) hG dX12_give_56 (by decide) (pm_c1b rfl) rfl ?_
              refine pm_aloadn hG dX12_give_57 rfl ?_
              refine pm_iloadn hG dX12_give_58 rfl ?_
              refine pm_top (v := nI k4) ek4 ?_
              refine pm_iconst (v := nI 1) hG dX12_give_59 (by decide) ?_
              refine pm_iloadn hG dX12_give_60 rfl ?_
              refine pm_top (v := nI k23) ek23 ?_
              refine pm_callV (As := [.int (nI k4), .int (nI 1), .int (nI k23)]) (rest := []) hG hR dX12_give_61 (lkX12_113 _ rfl) okV_X12_makes rfl rfl (m_makes (d := 1) (e := 6 * k4 + 391) (by omega) (by omega) (by omega)) rfl rfl hdd (Nat.le_refl _) (Nat.le_refl _) (by decide) (pm_kv (fun σ' cnt' hq => ?_))
              obtain ⟨rfl, rfl⟩ := hq
              obtain ⟨n_36, en_36⟩ : ∃ f : Nat → Int32, f = upd n (6 * k4 + 391) (nI k23) := ⟨_, rfl⟩
              rw [← en_36]
              have hnn_36 := KI.w en_36 hn (okv_o (show kd (6 * k4 + 391) = (2, 20, false) from (kd_W (k := k4) (c := 1) (by omega) (by omega) (by decide))) (by omega))
              have hrn_36 := NRx.w en_36 hr (by rw [(show kd (6 * k4 + 391) = (2, 20, false) from (kd_W (k := k4) (c := 1) (by omega) (by omega) (by decide)))])
              have e37 : n_36 3 = nI k1 := by rw [en_36, pk_un (by omega)]; exact ek1
              have e38 : n_36 2 = nI k20 := by rw [en_36, pk_un (by omega)]; exact ek20
              have e39 : n_36 (14 * k23 + 119) = (-1) := by rw [en_36, pk_un (by omega)]; exact ek24
              have e40 : n_36 (6 * k4 + 392) = (-1) := by rw [en_36, pk_un (by omega)]; exact ek27
              have e41 : n_36 (6 * k4 + 391) = nI k23 := by rw [en_36, pk_us]
              refine pm_iloadn hG dX12_give_64 rfl ?_
              exact pm_iret hG hF dX12_give_65 rfl (Nat.le_refl _) (Nat.le_refl _) ⟨_, rfl, ⟨_, _, _, rfl, hnn_36, hrn_36⟩, rfl⟩
          · refine pm_top (v := nI k27) ek27 ?_
            refine pm_ifN_lt hG dX12_give_41 rfl (by omega) ?_
            refine pm_aloadn hG dX12_give_44 rfl ?_
            refine pm_iconst (v := nI 3) hG dX12_give_45 (by decide) ?_
            refine pm_callV (As := [.int (nI 3)]) (rest := []) hG hR dX12_give_46 (lkX12_80 _ rfl) okV_X12_finds rfl rfl (m_finds (d := 1) (by decide) hn hz (by omega)) rfl rfl hdd (Nat.le_refl _) (Nat.le_refl _) (by decide) (pm_ki (fun v42 σ' cnt' hq => ?_))
            obtain ⟨⟨I43, A43, rfl⟩, rfl, fv42⟩ := hq
            exact pm_iret hG hF dX12_give_49 rfl (Nat.le_refl _) (Nat.le_refl _) ⟨_, rfl, ⟨_, _, _, rfl, hn, hr⟩, rfl⟩
        · refine pm_callV (As := [.int (nI k23)]) (rest := []) hG hR dX12_give_23 (lkX12_101 _ rfl) okV_X12_lives rfl rfl (m_lives0 (d := 1) (by decide) (by omega) (by omega : 14 * k23 + 119 = 14 * k23 + 119) ek24 (by omega)) rfl rfl hdd (Nat.le_refl _) (Nat.le_refl _) (by decide) (pm_ki (fun v44 σ' cnt' hq => ?_))
          obtain ⟨rfl, rfl, rfl⟩ := hq
          refine pm_ifN_ne (tgt := 35) hG dX12_give_26 rfl (by omega) (fun q => absurd q (by omega)) (fun _ => ?_)
          refine pm_aloadn hG dX12_give_29 rfl ?_
          refine pm_iconst (v := nI 1) hG dX12_give_30 (by decide) ?_
          refine pm_callV (As := [.int (nI 1)]) (rest := []) hG hR dX12_give_31 (lkX12_80 _ rfl) okV_X12_finds rfl rfl (m_finds (d := 1) (by decide) hn hz (by omega)) rfl rfl hdd (Nat.le_refl _) (Nat.le_refl _) (by decide) (pm_ki (fun v45 σ' cnt' hq => ?_))
          obtain ⟨⟨I46, A46, rfl⟩, rfl, fv45⟩ := hq
          exact pm_iret hG hF dX12_give_34 rfl (Nat.le_refl _) (Nat.le_refl _) ⟨_, rfl, ⟨_, _, _, rfl, hn, hr⟩, rfl⟩
      · refine pm_ifN_eq (tgt := 29) hG dX12_give_18 rfl (by omega) (fun _ => ?_) (fun q => absurd q (by omega))
        refine pm_aloadn hG dX12_give_29 rfl ?_
        refine pm_iconst (v := nI 1) hG dX12_give_30 (by decide) ?_
        refine pm_callV (As := [.int (nI 1)]) (rest := []) hG hR dX12_give_31 (lkX12_80 _ rfl) okV_X12_finds rfl rfl (m_finds (d := 1) (by decide) hn hz (by omega)) rfl rfl hdd (Nat.le_refl _) (Nat.le_refl _) (by decide) (pm_ki (fun v47 σ' cnt' hq => ?_))
        obtain ⟨⟨I48, A48, rfl⟩, rfl, fv47⟩ := hq
        exact pm_iret hG hF dX12_give_34 rfl (Nat.le_refl _) (Nat.le_refl _) ⟨_, rfl, ⟨_, _, _, rfl, hn, hr⟩, rfl⟩
  · refine pm_ifN_eq (tgt := 29) hG dX12_give_5 rfl (by omega) (fun _ => ?_) (fun q => absurd q (by omega))
    refine pm_aloadn hG dX12_give_29 rfl ?_
    refine pm_iconst (v := nI 1) hG dX12_give_30 (by decide) ?_
    refine pm_callV (As := [.int (nI 1)]) (rest := []) hG hR dX12_give_31 (lkX12_80 _ rfl) okV_X12_finds rfl rfl (m_finds (d := 1) (by decide) hn hz (by omega)) rfl rfl hdd (Nat.le_refl _) (Nat.le_refl _) (by decide) (pm_ki (fun v49 σ' cnt' hq => ?_))
    obtain ⟨⟨I50, A50, rfl⟩, rfl, fv49⟩ := hq
    exact pm_iret hG hF dX12_give_34 rfl (Nat.le_refl _) (Nat.le_refl _) ⟨_, rfl, ⟨_, _, _, rfl, hn, hr⟩, rfl⟩
