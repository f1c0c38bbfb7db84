set_option maxRecDepth 100000 in
set_option maxHeartbeats 4000000 in
theorem m_thoseIn {d B cnt p0 t0 : Nat} {σ : pm_S} {I : Nat → Int32} {A : Nat → Nat → Int32} {n k z : Nat → Int32} {ac wt pl im : Int32} {za : Int32} (hdd : 2 ≤ d) (hn : KI n) (hz : SZ z)  : pm_met mX12_thoseIn d 0 0 B [.ref (B + 54), .int za] cnt (pm_mid σ (md_L B I A n k z ac wt pl (nI p0) (nI t0) im)) (pm_Qi (fun v σ' cnt' => σ' = pm_mid σ (md_L B I A n k z ac wt pl (nI p0) (nI t0) im) ∧ cnt = cnt')) := by
  refine pm_enter 2 (by decide) (Nat.le_of_ble_eq_true rfl) rfl (fun G hG hR hF => ?_)
  refine pm_iconst (v := nI 0) hG dX12_thoseIn_0 (by decide) ?_
  refine pm_istoreXn (loc' := [some (.ref (B + 54)), some (.int za), some (.int (nI 0)), none]) hG dX12_thoseIn_1 (by decide) (pm_c1b rfl) rfl ?_
  refine pm_iconst (v := nI 0) hG dX12_thoseIn_2 (by decide) ?_
  refine pm_istoreXn (loc' := [some (.ref (B + 54)), some (.int za), some (.int (nI 0)), some (.int (nI 0))]) hG dX12_thoseIn_3 (by decide) (pm_c1b rfl) rfl ?_
  have loop4_1 : ∀ (m1 : Nat) (x1_2 : Int32) (i1 : Nat), i1 ≤ 20 → 20 - i1 < m1 → pm_wp mX12_thoseIn G B 4 [some (.ref (B + 54)), some (.int za), some (.int x1_2), some (.int (nI i1))] [] 0 0 cnt (pm_mid σ (md_L B I A n k z ac wt pl (nI p0) (nI t0) im)) := by
    intro m1
    induction m1 with
    | zero => intro x1_2 i1 _ hm; exact absurd hm (Nat.not_lt_zero _)
    | succ m1 ih1 =>
      intro x1_2 i1 hi1 hm1
      refine pm_iloadn hG dX12_thoseIn_4 rfl ?_
      refine pm_aloadn hG dX12_thoseIn_5 rfl ?_
      refine pm_getf hG dX12_thoseIn_6 (flX12_7 _ rfl) rfl rfl ?_
      refine pm_iconst (v := nI 2) hG dX12_thoseIn_9 (by decide) ?_
      refine pm_ialdN hG dX12_thoseIn_10 rfl (by decide) (by omega) ?_
      obtain ⟨k2, hk2, ek2⟩ := KI.nat hn (show kd 2 = (1, 21, true) by decide)
      refine pm_top (v := nI k2) ek2 ?_
      refine pm_icmpN_ge (tgt := 48) hG dX12_thoseIn_11 rfl (by omega) (by omega) (fun c3 => ?_) (fun c3 => ?_)
      · refine pm_iloadn hG dX12_thoseIn_48 rfl ?_
        exact pm_iret hG hF dX12_thoseIn_49 rfl (Nat.le_refl _) (Nat.le_refl _) ⟨_, rfl, rfl, rfl⟩
      · refine pm_iloadn hG dX12_thoseIn_14 rfl ?_
        refine pm_aloadn hG dX12_thoseIn_15 rfl ?_
        refine pm_iloadn hG dX12_thoseIn_16 rfl ?_
        rcases KI.opt hn (show kd (14 * i1 + 119) = (2, 2001, false) from (kd_P (k := i1) (c := 9) (by omega) (by omega) (by decide))) with ek4 | ⟨k4, hk4, ek4⟩
        · refine pm_callV (As := [.int (nI i1)]) (rest := [.int x1_2]) hG hR dX12_thoseIn_17 (lkX12_101 _ rfl) okV_X12_lives rfl rfl (m_lives1 (d := 1) (by decide) (by omega) (by omega : 14 * i1 + 119 = 14 * i1 + 119) ek4) rfl rfl hdd (Nat.le_refl _) (Nat.le_refl _) (Nat.le_of_ble_eq_true rfl) (pm_ki (fun v5 σ' cnt' hq => ?_))
          obtain ⟨rfl, rfl, rfl⟩ := hq
          refine pm_ifN_eq (tgt := 39) hG dX12_thoseIn_20 rfl (by omega) (fun q => absurd q (by omega)) (fun _ => ?_)
          refine pm_aloadn hG dX12_thoseIn_23 rfl ?_
          refine pm_iloadn hG dX12_thoseIn_24 rfl ?_
          refine pm_iconst (v := nI 4) hG dX12_thoseIn_25 (by decide) ?_
          refine pm_callV (As := [.int (nI i1), .int (nI 4)]) (rest := [.int x1_2]) hG hR dX12_thoseIn_26 (lkX12_72 _ rfl) okV_X12_man rfl rfl (m_man (d := 1) (e := 14 * i1 + 114) (by omega) (by omega) (by omega)) rfl rfl hdd (Nat.le_refl _) (Nat.le_refl _) (Nat.le_of_ble_eq_true rfl) (pm_ki (fun v6 σ' cnt' hq => ?_))
          obtain ⟨rfl, rfl, rfl⟩ := hq
          rcases KI.opt hn (show kd (14 * i1 + 114) = (2, 10, false) from (kd_P (k := i1) (c := 4) (by omega) (by omega) (by decide))) with ek7 | ⟨k7, hk7, ek7⟩
          · refine pm_top (v := (-1)) ek7 ?_
            refine pm_iloadn hG dX12_thoseIn_29 rfl ?_
            refine pm_icmp_ne (tgt := 39) hG dX12_thoseIn_30 rfl (fun c8 => ?_) (fun c8 => ?_)
            · refine pm_iconst (v := nI 0) hG dX12_thoseIn_39 (by decide) ?_
              refine pm_ior hG dX12_thoseIn_40 ?_
              refine pm_any (fun x9 => ?_)
              refine pm_istoreXn (loc' := [some (.ref (B + 54)), some (.int za), some (.int x9), some (.int (nI i1))]) hG dX12_thoseIn_41 (by decide) (pm_c1b rfl) rfl ?_
              refine pm_iincX (v := nI (i1 + 1)) (loc' := [some (.ref (B + 54)), some (.int za), some (.int x9), some (.int (nI (i1 + 1)))]) hG dX12_thoseIn_42 rfl (nI_1 _) (by decide) (pm_c1b rfl) rfl ?_
              refine pm_goto (tgt := 4) hG dX12_thoseIn_45 rfl ?_
              exact ih1 x9 (i1 + 1) (by omega) (by omega)
            · refine pm_iconst (v := nI 1) hG dX12_thoseIn_33 (by decide) ?_
              refine pm_iloadn hG dX12_thoseIn_34 rfl ?_
              refine pm_ishl hG dX12_thoseIn_35 ?_
              refine pm_any (fun x10 => ?_)
              refine pm_goto (tgt := 40) hG dX12_thoseIn_36 rfl ?_
              refine pm_ior hG dX12_thoseIn_40 ?_
              refine pm_any (fun x11 => ?_)
              refine pm_istoreXn (loc' := [some (.ref (B + 54)), some (.int za), some (.int x11), some (.int (nI i1))]) hG dX12_thoseIn_41 (by decide) (pm_c1b rfl) rfl ?_
              refine pm_iincX (v := nI (i1 + 1)) (loc' := [some (.ref (B + 54)), some (.int za), some (.int x11), some (.int (nI (i1 + 1)))]) hG dX12_thoseIn_42 rfl (nI_1 _) (by decide) (pm_c1b rfl) rfl ?_
              refine pm_goto (tgt := 4) hG dX12_thoseIn_45 rfl ?_
              exact ih1 x11 (i1 + 1) (by omega) (by omega)
          · refine pm_top (v := nI k7) ek7 ?_
            refine pm_iloadn hG dX12_thoseIn_29 rfl ?_
            refine pm_icmp_ne (tgt := 39) hG dX12_thoseIn_30 rfl (fun c12 => ?_) (fun c12 => ?_)
            · refine pm_iconst (v := nI 0) hG dX12_thoseIn_39 (by decide) ?_
              refine pm_ior hG dX12_thoseIn_40 ?_
              refine pm_any (fun x13 => ?_)
              refine pm_istoreXn (loc' := [some (.ref (B + 54)), some (.int za), some (.int x13), some (.int (nI i1))]) hG dX12_thoseIn_41 (by decide) (pm_c1b rfl) rfl ?_
              refine pm_iincX (v := nI (i1 + 1)) (loc' := [some (.ref (B + 54)), some (.int za), some (.int x13), some (.int (nI (i1 + 1)))]) hG dX12_thoseIn_42 rfl (nI_1 _) (by decide) (pm_c1b rfl) rfl ?_
              refine pm_goto (tgt := 4) hG dX12_thoseIn_45 rfl ?_
              exact ih1 x13 (i1 + 1) (by omega) (by omega)
            · refine pm_iconst (v := nI 1) hG dX12_thoseIn_33 (by decide) ?_
              refine pm_iloadn hG dX12_thoseIn_34 rfl ?_
              refine pm_ishl hG dX12_thoseIn_35 ?_
              refine pm_any (fun x14 => ?_)
              refine pm_goto (tgt := 40) hG dX12_thoseIn_36 rfl ?_
              refine pm_ior hG dX12_thoseIn_40 ?_
              refine pm_any (fun x15 => ?_)
              refine pm_istoreXn (loc' := [some (.ref (B + 54)), some (.int za), some (.int x15), some (.int (nI i1))]) hG dX12_thoseIn_41 (by decide) (pm_c1b rfl) rfl ?_
              refine pm_iincX (v := nI (i1 + 1)) (loc' := [some (.ref (B + 54)), some (.int za), some (.int x15), some (.int (nI (i1 + 1)))]) hG dX12_thoseIn_42 rfl (nI_1 _) (by decide) (pm_c1b rfl) rfl ?_
              refine pm_goto (tgt := 4) hG dX12_thoseIn_45 rfl ?_
              exact ih1 x15 (i1 + 1) (by omega) (by omega)
        · refine pm_callV (As := [.int (nI i1)]) (rest := [.int x1_2]) hG hR dX12_thoseIn_17 (lkX12_101 _ rfl) okV_X12_lives rfl rfl (m_lives0 (d := 1) (by decide) (by omega) (by omega : 14 * i1 + 119 = 14 * i1 + 119) ek4 (by omega)) rfl rfl hdd (Nat.le_refl _) (Nat.le_refl _) (Nat.le_of_ble_eq_true rfl) (pm_ki (fun v16 σ' cnt' hq => ?_))
          obtain ⟨rfl, rfl, rfl⟩ := hq
          refine pm_ifN_eq (tgt := 39) hG dX12_thoseIn_20 rfl (by omega) (fun _ => ?_) (fun q => absurd q (by omega))
          refine pm_iconst (v := nI 0) hG dX12_thoseIn_39 (by decide) ?_
          refine pm_ior hG dX12_thoseIn_40 ?_
          refine pm_any (fun x17 => ?_)
          refine pm_istoreXn (loc' := [some (.ref (B + 54)), some (.int za), some (.int x17), some (.int (nI i1))]) hG dX12_thoseIn_41 (by decide) (pm_c1b rfl) rfl ?_
          refine pm_iincX (v := nI (i1 + 1)) (loc' := [some (.ref (B + 54)), some (.int za), some (.int x17), some (.int (nI (i1 + 1)))]) hG dX12_thoseIn_42 rfl (nI_1 _) (by decide) (pm_c1b rfl) rfl ?_
          refine pm_goto (tgt := 4) hG dX12_thoseIn_45 rfl ?_
          exact ih1 x17 (i1 + 1) (by omega) (by omega)
  exact loop4_1 _ (nI 0) 0 (by omega) (Nat.lt_succ_self _)

set_option maxRecDepth 100000 in
set_option maxHeartbeats 4000000 in
theorem m_draw {d B cnt p0 t0 : Nat} {σ : pm_S} {I : Nat → Int32} {A : Nat → Nat → Int32} {n k z : Nat → Int32} {ac wt pl im : Int32} {za zb zc : Int32} (hdd : 3 ≤ d) (hn : KI n) (hr : NR n) (hz : SZ z)  : pm_met mX12_draw d 0 0 B [.ref (B + 54), .int za, .int zb, .int zc] cnt (pm_mid σ (md_L B I A n k z ac wt pl (nI p0) (nI t0) im)) (pm_Qi (fun v σ' cnt' => (∃ (I' : Nat → Int32) (A' : Nat → Nat → Int32) (n' : Nat → Int32), σ' = pm_mid σ (md_L B I' A' n' k z ac wt pl (nI p0) (nI t0) im) ∧ KI n' ∧ NR n' ∧ n' 0 = n 0 ∧ n' 2 = n 2 ∧ n' 7 = n 7 ∧ n' 8 = n 8 ∧ KS n' n) ∧ cnt = cnt')) := by
  obtain ⟨kc0, hkc0, ekc0⟩ := KI.nat hn (show kd 0 = (1, 11, true) by decide)
  obtain ⟨kc2, hkc2, ekc2⟩ := KI.nat hn (show kd 2 = (1, 21, true) by decide)
  obtain ⟨kc7, hkc7, ekc7⟩ := KI.nat hn (show kd 7 = (1, 31, false) by decide)
  obtain ⟨kc8, hkc8, ekc8⟩ := KI.nat hn (show kd 8 = (1, 2001, false) by decide)
  refine pm_enter 2 (by decide) (Nat.le_of_ble_eq_true rfl) rfl (fun G hG hR hF => ?_)
  refine pm_aloadn hG dX12_draw_0 rfl ?_
  refine pm_iloadn hG dX12_draw_1 rfl ?_
  refine pm_callV (As := [.int za]) (rest := []) hG hR dX12_draw_2 (lkX12_91 _ rfl) okV_X12_isPerson rfl rfl (m_isPerson (d := 2) (by decide) ekc2 (by omega)) rfl rfl hdd (Nat.le_refl _) (Nat.le_refl _) (by decide) (pm_ki (fun v1 σ' cnt' hq => ?_))
  obtain ⟨hq, rfl, rfl⟩ := hq
  rcases hq with ⟨rfl, k3, hk3, ek3⟩ | ⟨rfl, ntk3⟩
  · refine pm_ifN_eq (tgt := 28) hG dX12_draw_5 rfl (by omega) (fun q => absurd q (by omega)) (fun _ => ?_)
    refine pm_iloadn hG dX12_draw_8 rfl ?_
    refine pm_iconst (v := nI 0) hG dX12_draw_9 (by decide) ?_
    refine pm_iconst (v := nI 4) hG dX12_draw_10 (by decide) ?_
    refine pm_callS (As := [.int zb, .int (nI 0), .int (nI 4)]) (rest := []) hG hR dX12_draw_11 (lkX12_68 _ rfl) okS_X12_in (m_in (d := 2)) rfl rfl hdd (Nat.le_refl _) (Nat.le_refl _) (by decide) (pm_ki (fun v4 σ' cnt' hq => ?_))
    obtain ⟨hq, rfl, rfl⟩ := hq
    rcases hq with ⟨rfl, ac5, bc5⟩ | ⟨rfl, c5⟩
    · obtain ⟨k6, hk6, ek6⟩ := in_nat (by omega) (by omega) ac5 bc5
      refine pm_ifN_eq (tgt := 28) hG dX12_draw_14 rfl (by omega) (fun q => absurd q (by omega)) (fun _ => ?_)
      refine pm_iloadn hG dX12_draw_17 rfl ?_
      refine pm_iconst (v := nI 0) hG dX12_draw_18 (by decide) ?_
      refine pm_sipush (v := nI 999) hG dX12_draw_19 (by decide) ?_
      refine pm_callS (As := [.int zc, .int (nI 0), .int (nI 999)]) (rest := []) hG hR dX12_draw_22 (lkX12_68 _ rfl) okS_X12_in (m_in (d := 2)) rfl rfl hdd (Nat.le_refl _) (Nat.le_refl _) (by decide) (pm_ki (fun v7 σ' cnt' hq => ?_))
      obtain ⟨hq, rfl, rfl⟩ := hq
      rcases hq with ⟨rfl, ac8, bc8⟩ | ⟨rfl, c8⟩
      · obtain ⟨k9, hk9, ek9⟩ := in_nat (by omega) (by omega) ac8 bc8
        refine pm_ifN_ne (tgt := 34) hG dX12_draw_25 rfl (by omega) (fun _ => ?_) (fun q => absurd q (by omega))
        refine pm_aloadn hG dX12_draw_34 rfl ?_
        refine pm_iloadn hG dX12_draw_35 rfl ?_
        refine pm_top (v := nI k3) ek3 ?_
        rcases KI.opt hn (show kd (14 * k3 + 119) = (2, 2001, false) from (kd_P (k := k3) (c := 9) (by omega) (by omega) (by decide))) with ek10 | ⟨k10, hk10, ek10⟩
        · refine pm_callV (As := [.int (nI k3)]) (rest := []) hG hR dX12_draw_36 (lkX12_101 _ rfl) okV_X12_lives rfl rfl (m_lives1 (d := 2) (by decide) (by omega) (by omega : 14 * k3 + 119 = 14 * k3 + 119) ek10) rfl rfl hdd (Nat.le_refl _) (Nat.le_refl _) (by decide) (pm_ki (fun v11 σ' cnt' hq => ?_))
          obtain ⟨rfl, rfl, rfl⟩ := hq
          refine pm_ifN_eq (tgt := 51) hG dX12_draw_39 rfl (by omega) (fun q => absurd q (by omega)) (fun _ => ?_)
          refine pm_aloadn hG dX12_draw_42 rfl ?_
          refine pm_iloadn hG dX12_draw_43 rfl ?_
          refine pm_top (v := nI k3) ek3 ?_
          refine pm_iconst (v := nI 4) hG dX12_draw_44 (by decide) ?_
          refine pm_callV (As := [.int (nI k3), .int (nI 4)]) (rest := []) hG hR dX12_draw_45 (lkX12_72 _ rfl) okV_X12_man rfl rfl (m_man (d := 2) (e := 14 * k3 + 114) (by omega) (by omega) (by omega)) rfl rfl hdd (Nat.le_refl _) (Nat.le_refl _) (by decide) (pm_ki (fun v12 σ' cnt' hq => ?_))
          obtain ⟨rfl, rfl, rfl⟩ := hq
          rcases KI.opt hn (show kd (14 * k3 + 114) = (2, 10, false) from (kd_P (k := k3) (c := 4) (by omega) (by omega) (by decide))) with ek13 | ⟨k13, hk13, ek13⟩
          · refine pm_top (v := (-1)) ek13 ?_
            refine pm_if_ge (tgt := 57) hG dX12_draw_48 rfl (fun q => absurd q (by decide)) (fun _ => ?_)
            refine pm_aloadn hG dX12_draw_51 rfl ?_
            refine pm_iconst (v := nI 3) hG dX12_draw_52 (by decide) ?_
            refine pm_callV (As := [.int (nI 3)]) (rest := []) hG hR dX12_draw_53 (lkX12_80 _ rfl) okV_X12_finds rfl rfl (m_finds (d := 2) (by decide) hn hz (by omega)) rfl rfl hdd (Nat.le_refl _) (Nat.le_refl _) (by decide) (pm_ki (fun v14 σ' cnt' hq => ?_))
            obtain ⟨⟨I15, A15, rfl⟩, rfl, fv14⟩ := hq
            exact pm_iret hG hF dX12_draw_56 rfl (Nat.le_refl _) (Nat.le_refl _) ⟨_, rfl, ⟨_, _, _, rfl, hn, hr, ekc0.trans ekc0.symm, ekc2.trans ekc2.symm, ekc7.trans ekc7.symm, ekc8.trans ekc8.symm, KS.rf⟩, rfl⟩
          · refine pm_top (v := nI k13) ek13 ?_
            refine pm_ifN_ge (tgt := 57) hG dX12_draw_48 rfl (by omega) ?_
            refine pm_aloadn hG dX12_draw_57 rfl ?_
            refine pm_getf hG dX12_draw_58 (flX12_7 _ rfl) rfl rfl ?_
            refine pm_iconst (v := nI 5) hG dX12_draw_61 (by decide) ?_
            refine pm_ialdN hG dX12_draw_62 rfl (by decide) (by omega) ?_
            obtain ⟨k16, hk16, ek16⟩ := KI.nat hn (show kd 5 = (1, 41, true) by decide)
            refine pm_top (v := nI k16) ek16 ?_
            refine pm_istoreXi (loc' := [some (.ref (B + 54)), some (.int za), some (.int zb), some (.int zc), some (.int (nI k16)), none]) hG dX12_draw_63 (by decide) (pm_c1b rfl) rfl ?_
            refine pm_iloadi hG dX12_draw_65 rfl ?_
            refine pm_bipush (v := nI 40) hG dX12_draw_67 (by decide) ?_
            refine pm_icmpN_ne (tgt := 78) hG dX12_draw_69 rfl (by omega) (by omega) (fun c17 => ?_) (fun c17 => ?_)
            · refine pm_aloadn hG dX12_draw_78 rfl ?_
              refine pm_getf hG dX12_draw_79 (flX12_7 _ rfl) rfl rfl ?_
              refine pm_iconst (v := nI 5) hG dX12_draw_82 (by decide) ?_
              refine pm_dup2 hG dX12_draw_83 rfl rfl ?_
              refine pm_ialdN hG dX12_draw_84 rfl (by decide) (by omega) ?_
              refine pm_top (v := nI k16) ek16 ?_
              refine pm_iconst (v := nI 1) hG dX12_draw_85 (by decide) ?_
              refine pm_iaddN (c := k16 + 1) hG dX12_draw_86 (by omega) ?_
              refine pm_iastN hG dX12_draw_87 rfl (by decide) (by omega) ?_
              refine mdn_now (fun n_18 en_18 => ?_)
              have hnn_18 := KI.w en_18 hn (okv_n (show kd 5 = (1, 41, true) by decide) (by omega))
              obtain ⟨k19, hk19, ek19⟩ := NRx.some hn ekc2 (by omega) hr
              have hrn_18 := NRx.lett en_18 hr ek19 (by omega) ek16 (by omega)
              have ksn_18 := KS.w en_18 KS.rf (by unfold tS; omega)
              have e20 : n_18 0 = nI kc0 := by rw [en_18, pk_un (by omega)]; exact ekc0
              have e21 : n_18 2 = nI kc2 := by rw [en_18, pk_un (by omega)]; exact ekc2
              have e22 : n_18 7 = nI kc7 := by rw [en_18, pk_un (by omega)]; exact ekc7
              have e23 : n_18 8 = nI kc8 := by rw [en_18, pk_un (by omega)]; exact ekc8
              have e24 : n_18 (14 * k3 + 114) = nI k13 := by rw [en_18, pk_un (by omega)]; exact ek13
              have e25 : n_18 5 = nI (k16 + 1) := by rw [en_18, pk_us]
              refine pm_iconst (v := nI 0) hG dX12_draw_88 (by decide) ?_
              refine pm_istoreXi (loc' := [some (.ref (B + 54)), some (.int za), some (.int zb), some (.int zc), some (.int (nI k16)), some (.int (nI 0))]) hG dX12_draw_89 (by decide) (pm_c1b rfl) rfl ?_
              refine pm_iloadi hG dX12_draw_91 rfl ?_
              refine pm_bipush (v := nI 12) hG dX12_draw_93 (by decide) ?_
              refine pm_icmpN_ge (tgt := 143) hG dX12_draw_95 rfl (by omega) (by omega) (fun q => absurd q (by omega)) (fun _ => ?_)
              refine pm_aloadn hG dX12_draw_98 rfl ?_
              refine pm_iloadi hG dX12_draw_99 rfl ?_
              refine pm_iloadi hG dX12_draw_101 rfl ?_
              refine pm_iloadi hG dX12_draw_103 rfl ?_
              refine pm_iconst (v := nI 4) hG dX12_draw_105 (by decide) ?_
              refine pm_icmpN_eq (tgt := 129) hG dX12_draw_106 rfl (by omega) (by omega) (fun q => absurd q (by omega)) (fun _ => ?_)
              refine pm_iloadi hG dX12_draw_109 rfl ?_
              refine pm_iconst (v := nI 5) hG dX12_draw_111 (by decide) ?_
              refine pm_icmpN_eq (tgt := 129) hG dX12_draw_112 rfl (by omega) (by omega) (fun q => absurd q (by omega)) (fun _ => ?_)
              refine pm_iloadi hG dX12_draw_115 rfl ?_
              refine pm_bipush (v := nI 6) hG dX12_draw_117 (by decide) ?_
              refine pm_icmpN_eq (tgt := 129) hG dX12_draw_119 rfl (by omega) (by omega) (fun q => absurd q (by omega)) (fun _ => ?_)
              refine pm_iloadi hG dX12_draw_122 rfl ?_
              refine pm_bipush (v := nI 7) hG dX12_draw_124 (by decide) ?_
              refine pm_icmpN_ne (tgt := 133) hG dX12_draw_126 rfl (by omega) (by omega) (fun _ => ?_) (fun q => absurd q (by omega))
              refine pm_iconst (v := nI 0) hG dX12_draw_133 (by decide) ?_
              refine pm_callV (As := [.int (nI k16), .int (nI 0), .int (nI 0)]) (rest := []) hG hR dX12_draw_134 (lkX12_217 _ rfl) okV_X12_writes rfl rfl (m_writes (d := 2) (e := 12 * k16 + 1290) (by omega) (by omega) (by omega)) rfl rfl hdd (Nat.le_refl _) (Nat.le_refl _) (by decide) (pm_kv (fun σ' cnt' hq => ?_))
              obtain ⟨rfl, rfl⟩ := hq
              obtain ⟨n_26, en_26⟩ : ∃ f : Nat → Int32, f = upd n_18 (12 * k16 + 1290) (nI 0) := ⟨_, rfl⟩
              rw [← en_26]
              have hnn_26 := KI.w en_26 hnn_18 (okv_f (show kd (12 * k16 + 1290) = (0, 0, false) from (kd_E (k := k16) (c := 0) (by omega) (by omega) (by decide))))
              have hrn_26 := NRx.w en_26 hrn_18 (by rw [(show kd (12 * k16 + 1290) = (0, 0, false) from (kd_E (k := k16) (c := 0) (by omega) (by omega) (by decide)))])
              have ksn_26 := KS.w en_26 ksn_18 (by unfold tS; omega)
              have e27 : n_26 0 = nI kc0 := by rw [en_26, pk_un (by omega)]; exact e20
              have e28 : n_26 2 = nI kc2 := by rw [en_26, pk_un (by omega)]; exact e21
              have e29 : n_26 7 = nI kc7 := by rw [en_26, pk_un (by omega)]; exact e22
              have e30 : n_26 8 = nI kc8 := by rw [en_26, pk_un (by omega)]; exact e23
              have e31 : n_26 (14 * k3 + 114) = nI k13 := by rw [en_26, pk_un (by omega)]; exact e24
              have e32 : n_26 5 = nI (k16 + 1) := by rw [en_26, pk_un (by omega)]; exact e25
              have e33 : n_26 (12 * k16 + 1290) = nI 0 := by rw [en_26, pk_us]
              refine pm_iincX (v := nI 1) (loc' := [some (.ref (B + 54)), some (.int za), some (.int zb), some (.int zc), some (.int (nI k16)), some (.int (nI 1))]) hG dX12_draw_137 rfl (nI_1 _) (by decide) (pm_c1b rfl) rfl ?_
              refine pm_goto (tgt := 91) hG dX12_draw_140 rfl ?_
              refine pm_iloadi hG dX12_draw_91 rfl ?_
              refine pm_bipush (v := nI 12) hG dX12_draw_93 (by decide) ?_
              refine pm_icmpN_ge (tgt := 143) hG dX12_draw_95 rfl (by omega) (by omega) (fun q => absurd q (by omega)) (fun _ => ?_)
              refine pm_aloadn hG dX12_draw_98 rfl ?_
              refine pm_iloadi hG dX12_draw_99 rfl ?_
              refine pm_iloadi hG dX12_draw_101 rfl ?_
              refine pm_iloadi hG dX12_draw_103 rfl ?_
              refine pm_iconst (v := nI 4) hG dX12_draw_105 (by decide) ?_
              refine pm_icmpN_eq (tgt := 129) hG dX12_draw_106 rfl (by omega) (by omega) (fun q => absurd q (by omega)) (fun _ => ?_)
              refine pm_iloadi hG dX12_draw_109 rfl ?_
              refine pm_iconst (v := nI 5) hG dX12_draw_111 (by decide) ?_
              refine pm_icmpN_eq (tgt := 129) hG dX12_draw_112 rfl (by omega) (by omega) (fun q => absurd q (by omega)) (fun _ => ?_)
              refine pm_iloadi hG dX12_draw_115 rfl ?_
              refine pm_bipush (v := nI 6) hG dX12_draw_117 (by decide) ?_
              refine pm_icmpN_eq (tgt := 129) hG dX12_draw_119 rfl (by omega) (by omega) (fun q => absurd q (by omega)) (fun _ => ?_)
              refine pm_iloadi hG dX12_draw_122 rfl ?_
              refine pm_bipush (v := nI 7) hG dX12_draw_124 (by decide) ?_
              refine pm_icmpN_ne (tgt := 133) hG dX12_draw_126 rfl (by omega) (by omega) (fun _ => ?_) (fun q => absurd q (by omega))
              refine pm_iconst (v := nI 0) hG dX12_draw_133 (by decide) ?_
              refine pm_callV (As := [.int (nI k16), .int (nI 1), .int (nI 0)]) (rest := []) hG hR dX12_draw_134 (lkX12_217 _ rfl) okV_X12_writes rfl rfl (m_writes (d := 2) (e := 12 * k16 + 1291) (by omega) (by omega) (by omega)) rfl rfl hdd (Nat.le_refl _) (Nat.le_refl _) (by decide) (pm_kv (fun σ' cnt' hq => ?_))
              obtain ⟨rfl, rfl⟩ := hq
              obtain ⟨n_34, en_34⟩ : ∃ f : Nat → Int32, f = upd n_26 (12 * k16 + 1291) (nI 0) := ⟨_, rfl⟩
              rw [← en_34]
              have hnn_34 := KI.w en_34 hnn_26 (okv_f (show kd (12 * k16 + 1291) = (0, 0, false) from (kd_E (k := k16) (c := 1) (by omega) (by omega) (by decide))))
              have hrn_34 := NRx.w en_34 hrn_26 (by rw [(show kd (12 * k16 + 1291) = (0, 0, false) from (kd_E (k := k16) (c := 1) (by omega) (by omega) (by decide)))])
              have ksn_34 := KS.w en_34 ksn_26 (by unfold tS; omega)
              have e35 : n_34 0 = nI kc0 := by rw [en_34, pk_un (by omega)]; exact e27
              have e36 : n_34 2 = nI kc2 := by rw [en_34, pk_un (by omega)]; exact e28
              have e37 : n_34 7 = nI kc7 := by rw [en_34, pk_un (by omega)]; exact e29
              have e38 : n_34 8 = nI kc8 := by rw [en_34, pk_un (by omega)]; exact e30
              have e39 : n_34 (14 * k3 + 114) = nI k13 := by rw [en_34, pk_un (by omega)]; exact e31
              have e40 : n_34 5 = nI (k16 + 1) := by rw [en_34, pk_un (by omega)]; exact e32
              have e41 : n_34 (12 * k16 + 1291) = nI 0 := by rw [en_34, pk_us]
              refine pm_iincX (v := nI 2) (loc' := [some (.ref (B + 54)), some (.int za), some (.int zb), some (.int zc), some (.int (nI k16)), some (.int (nI 2))]) hG dX12_draw_137 rfl (nI_1 _) (by decide) (pm_c1b rfl) rfl ?_
              refine pm_goto (tgt := 91) hG dX12_draw_140 rfl ?_
              refine pm_iloadi hG dX12_draw_91 rfl ?_
              refine pm_bipush (v := nI 12) hG dX12_draw_93 (by decide) ?_
              refine pm_icmpN_ge (tgt := 143) hG dX12_draw_95 rfl (by omega) (by omega) (fun q => absurd q (by omega)) (fun _ => ?_)
              refine pm_aloadn hG dX12_draw_98 rfl ?_
              refine pm_iloadi hG dX12_draw_99 rfl ?_
              refine pm_iloadi hG dX12_draw_101 rfl ?_
              refine pm_iloadi hG dX12_draw_103 rfl ?_
              refine pm_iconst (v := nI 4) hG dX12_draw_105 (by decide) ?_
              refine pm_icmpN_eq (tgt := 129) hG dX12_draw_106 rfl (by omega) (by omega) (fun q => absurd q (by omega)) (fun _ => ?_)
              refine pm_iloadi hG dX12_draw_109 rfl ?_
              refine pm_iconst (v := nI 5) hG dX12_draw_111 (by decide) ?_
              refine pm_icmpN_eq (tgt := 129) hG dX12_draw_112 rfl (by omega) (by omega) (fun q => absurd q (by omega)) (fun _ => ?_)
              refine pm_iloadi hG dX12_draw_115 rfl ?_
              refine pm_bipush (v := nI 6) hG dX12_draw_117 (by decide) ?_
              refine pm_icmpN_eq (tgt := 129) hG dX12_draw_119 rfl (by omega) (by omega) (fun q => absurd q (by omega)) (fun _ => ?_)
              refine pm_iloadi hG dX12_draw_122 rfl ?_
              refine pm_bipush (v := nI 7) hG dX12_draw_124 (by decide) ?_
              refine pm_icmpN_ne (tgt := 133) hG dX12_draw_126 rfl (by omega) (by omega) (fun _ => ?_) (fun q => absurd q (by omega))
              refine pm_iconst (v := nI 0) hG dX12_draw_133 (by decide) ?_
              refine pm_callV (As := [.int (nI k16), .int (nI 2), .int (nI 0)]) (rest := []) hG hR dX12_draw_134 (lkX12_217 _ rfl) okV_X12_writes rfl rfl (m_writes (d := 2) (e := 12 * k16 + 1292) (by omega) (by omega) (by omega)) rfl rfl hdd (Nat.le_refl _) (Nat.le_refl _) (by decide) (pm_kv (fun σ' cnt' hq => ?_))
              obtain ⟨rfl, rfl⟩ := hq
              obtain ⟨n_42, en_42⟩ : ∃ f : Nat → Int32, f = upd n_34 (12 * k16 + 1292) (nI 0) := ⟨_, rfl⟩
              rw [← en_42]
              have hnn_42 := KI.w en_42 hnn_34 (okv_n (show kd (12 * k16 + 1292) = (1, 1000, false) from (kd_E (k := k16) (c := 2) (by omega) (by omega) (by decide))) (by omega))
              have hrn_42 := NRx.w en_42 hrn_34 (by rw [(show kd (12 * k16 + 1292) = (1, 1000, false) from (kd_E (k := k16) (c := 2) (by omega) (by omega) (by decide)))])
              have ksn_42 := KS.w en_42 ksn_34 (by unfold tS; omega)
              have e43 : n_42 0 = nI kc0 := by rw [en_42, pk_un (by omega)]; exact e35
              have e44 : n_42 2 = nI kc2 := by rw [en_42, pk_un (by omega)]; exact e36
              have e45 : n_42 7 = nI kc7 := by rw [en_42, pk_un (by omega)]; exact e37
              have e46 : n_42 8 = nI kc8 := by rw [en_42, pk_un (by omega)]; exact e38
              have e47 : n_42 (14 * k3 + 114) = nI k13 := by rw [en_42, pk_un (by omega)]; exact e39
              have e48 : n_42 5 = nI (k16 + 1) := by rw [en_42, pk_un (by omega)]; exact e40
              have e49 : n_42 (12 * k16 + 1292) = nI 0 := by rw [en_42, pk_us]
              refine pm_iincX (v := nI 3) (loc' := [some (.ref (B + 54)), some (.int za), some (.int zb), some (.int zc), some (.int (nI k16)), some (.int (nI 3))]) hG dX12_draw_137 rfl (nI_1 _) (by decide) (pm_c1b rfl) rfl ?_
              refine pm_goto (tgt := 91) hG dX12_draw_140 rfl ?_
              refine pm_iloadi hG dX12_draw_91 rfl ?_
              refine pm_bipush (v := nI 12) hG dX12_draw_93 (by decide) ?_
              refine pm_icmpN_ge (tgt := 143) hG dX12_draw_95 rfl (by omega) (by omega) (fun q => absurd q (by omega)) (fun _ => ?_)
              refine pm_aloadn hG dX12_draw_98 rfl ?_
              refine pm_iloadi hG dX12_draw_99 rfl ?_
              refine pm_iloadi hG dX12_draw_101 rfl ?_
              refine pm_iloadi hG dX12_draw_103 rfl ?_
              refine pm_iconst (v := nI 4) hG dX12_draw_105 (by decide) ?_
              refine pm_icmpN_eq (tgt := 129) hG dX12_draw_106 rfl (by omega) (by omega) (fun q => absurd q (by omega)) (fun _ => ?_)
              refine pm_iloadi hG dX12_draw_109 rfl ?_
              refine pm_iconst (v := nI 5) hG dX12_draw_111 (by decide) ?_
              refine pm_icmpN_eq (tgt := 129) hG dX12_draw_112 rfl (by omega) (by omega) (fun q => absurd q (by omega)) (fun _ => ?_)
              refine pm_iloadi hG dX12_draw_115 rfl ?_
              refine pm_bipush (v := nI 6) hG dX12_draw_117 (by decide) ?_
              refine pm_icmpN_eq (tgt := 129) hG dX12_draw_119 rfl (by omega) (by omega) (fun q => absurd q (by omega)) (fun _ => ?_)
              refine pm_iloadi hG dX12_draw_122 rfl ?_
              refine pm_bipush (v := nI 7) hG dX12_draw_124 (by decide) ?_
              refine pm_icmpN_ne (tgt := 133) hG dX12_draw_126 rfl (by omega) (by omega) (fun _ => ?_) (fun q => absurd q (by omega))
              refine pm_iconst (v := nI 0) hG dX12_draw_133 (by decide) ?_
              refine pm_callV (As := [.int (nI k16), .int (nI 3), .int (nI 0)]) (rest := []) hG hR dX12_draw_134 (lkX12_217 _ rfl) okV_X12_writes rfl rfl (m_writes (d := 2) (e := 12 * k16 + 1293) (by omega) (by omega) (by omega)) rfl rfl hdd (Nat.le_refl _) (Nat.le_refl _) (by decide) (pm_kv (fun σ' cnt' hq => ?_))
              obtain ⟨rfl, rfl⟩ := hq
              obtain ⟨n_50, en_50⟩ : ∃ f : Nat → Int32, f = upd n_42 (12 * k16 + 1293) (nI 0) := ⟨_, rfl⟩
              rw [← en_50]
              have hnn_50 := KI.w en_50 hnn_42 (okv_f (show kd (12 * k16 + 1293) = (0, 0, false) from (kd_E (k := k16) (c := 3) (by omega) (by omega) (by decide))))
              have hrn_50 := NRx.w en_50 hrn_42 (by rw [(show kd (12 * k16 + 1293) = (0, 0, false) from (kd_E (k := k16) (c := 3) (by omega) (by omega) (by decide)))])
              have ksn_50 := KS.w en_50 ksn_42 (by unfold tS; omega)
              have e51 : n_50 0 = nI kc0 := by rw [en_50, pk_un (by omega)]; exact e43
              have e52 : n_50 2 = nI kc2 := by rw [en_50, pk_un (by omega)]; exact e44
              have e53 : n_50 7 = nI kc7 := by rw [en_50, pk_un (by omega)]; exact e45
              have e54 : n_50 8 = nI kc8 := by rw [en_50, pk_un (by omega)]; exact e46
              have e55 : n_50 (14 * k3 + 114) = nI k13 := by rw [en_50, pk_un (by omega)]; exact e47
              have e56 : n_50 5 = nI (k16 + 1) := by rw [en_50, pk_un (by omega)]; exact e48
              have e57 : n_50 (12 * k16 + 1293) = nI 0 := by rw [en_50, pk_us]
              refine pm_iincX (v := nI 4) (loc' := [some (.ref (B + 54)), some (.int za), some (.int zb), some (.int zc), some (.int (nI k16)), some (.int (nI 4))]) hG dX12_draw_137 rfl (nI_1 _) (by decide) (pm_c1b rfl) rfl ?_
              refine pm_goto (tgt := 91) hG dX12_draw_140 rfl ?_
              refine pm_iloadi hG dX12_draw_91 rfl ?_
              refine pm_bipush (v := nI 12) hG dX12_draw_93 (by decide) ?_
              refine pm_icmpN_ge (tgt := 143) hG dX12_draw_95 rfl (by omega) (by omega) (fun q => absurd q (by omega)) (fun _ => ?_)
              refine pm_aloadn hG dX12_draw_98 rfl ?_
              refine pm_iloadi hG dX12_draw_99 rfl ?_
              refine pm_iloadi hG dX12_draw_101 rfl ?_
              refine pm_iloadi hG dX12_draw_103 rfl ?_
              refine pm_iconst (v := nI 4) hG dX12_draw_105 (by decide) ?_
              refine pm_icmpN_eq (tgt := 129) hG dX12_draw_106 rfl (by omega) (by omega) (fun _ => ?_) (fun q => absurd q (by omega))
              refine pm_iconst (v := (-1)) hG dX12_draw_129 (by decide) ?_
              refine pm_goto (tgt := 134) hG dX12_draw_130 rfl ?_
              refine pm_callV (As := [.int (nI k16), .int (nI 4), .int (-1)]) (rest := []) hG hR dX12_draw_134 (lkX12_217 _ rfl) okV_X12_writes rfl rfl (m_writes (d := 2) (e := 12 * k16 + 1294) (by omega) (by omega) (by omega)) rfl rfl hdd (Nat.le_refl _) (Nat.le_refl _) (by decide) (pm_kv (fun σ' cnt' hq => ?_))
              obtain ⟨rfl, rfl⟩ := hq
              obtain ⟨n_58, en_58⟩ : ∃ f : Nat → Int32, f = upd n_50 (12 * k16 + 1294) (-1) := ⟨_, rfl⟩
              rw [← en_58]
              have hnn_58 := KI.w en_58 hnn_50 (okv_m (show kd (12 * k16 + 1294) = (2, 20, true) from (kd_E (k := k16) (c := 4) (by omega) (by omega) (by decide))))
              have hrn_58 := NRx.row (l := k16) en_58 (NRx.wk k16 hrn_50) (by omega)
              have ksn_58 := KS.w en_58 ksn_50 (by unfold tS; omega)
              have e59 : n_58 0 = nI kc0 := by rw [en_58, pk_un (by omega)]; exact e51
              have e60 : n_58 2 = nI kc2 := by rw [en_58, pk_un (by omega)]; exact e52
              have e61 : n_58 7 = nI kc7 := by rw [en_58, pk_un (by omega)]; exact e53
              have e62 : n_58 8 = nI kc8 := by rw [en_58, pk_un (by omega)]; exact e54
              have e63 : n_58 (14 * k3 + 114) = nI k13 := by rw [en_58, pk_un (by omega)]; exact e55
              have e64 : n_58 5 = nI (k16 + 1) := by rw [en_58, pk_un (by omega)]; exact e56
              have e65 : n_58 (12 * k16 + 1294) = (-1) := by rw [en_58, pk_us]
              refine pm_iincX (v := nI 5) (loc' := [some (.ref (B + 54)), some (.int za), some (.int zb), some (.int zc), some (.int (nI k16)), some (.int (nI 5))]) hG dX12_draw_137 rfl (nI_1 _) (by decide) (pm_c1b rfl) rfl ?_
              refine pm_goto (tgt := 91) hG dX12_draw_140 rfl ?_
              refine pm_iloadi hG dX12_draw_91 rfl ?_
              refine pm_bipush (v := nI 12) hG dX12_draw_93 (by decide) ?_
              refine pm_icmpN_ge (tgt := 143) hG dX12_draw_95 rfl (by omega) (by omega) (fun q => absurd q (by omega)) (fun _ => ?_)
              refine pm_aloadn hG dX12_draw_98 rfl ?_
              refine pm_iloadi hG dX12_draw_99 rfl ?_
              refine pm_iloadi hG dX12_draw_101 rfl ?_
              refine pm_iloadi hG dX12_draw_103 rfl ?_
              refine pm_iconst (v := nI 4) hG dX12_draw_105 (by decide) ?_
              refine pm_icmpN_eq (tgt := 129) hG dX12_draw_106 rfl (by omega) (by omega) (fun q => absurd q (by omega)) (fun _ => ?_)
              refine pm_iloadi hG dX12_draw_109 rfl ?_
              refine pm_iconst (v := nI 5) hG dX12_draw_111 (by decide) ?_
              refine pm_icmpN_eq (tgt := 129) hG dX12_draw_112 rfl (by omega) (by omega) (fun _ => ?_) (fun q => absurd q (by omega))
              refine pm_iconst (v := (-1)) hG dX12_draw_129 (by decide) ?_
              refine pm_goto (tgt := 134) hG dX12_draw_130 rfl ?_
              refine pm_callV (As := [.int (nI k16), .int (nI 5), .int (-1)]) (rest := []) hG hR dX12_draw_134 (lkX12_217 _ rfl) okV_X12_writes rfl rfl (m_writes (d := 2) (e := 12 * k16 + 1295) (by omega) (by omega) (by omega)) rfl rfl hdd (Nat.le_refl _) (Nat.le_refl _) (by decide) (pm_kv (fun σ' cnt' hq => ?_))
              obtain ⟨rfl, rfl⟩ := hq
              obtain ⟨n_66, en_66⟩ : ∃ f : Nat → Int32, f = upd n_58 (12 * k16 + 1295) (-1) := ⟨_, rfl⟩
              rw [← en_66]
              have hnn_66 := KI.w en_66 hnn_58 (okv_f (show kd (12 * k16 + 1295) = (0, 0, false) from (kd_E (k := k16) (c := 5) (by omega) (by omega) (by decide))))
              have hrn_66 := NRx.w en_66 hrn_58 (by rw [(show kd (12 * k16 + 1295) = (0, 0, false) from (kd_E (k := k16) (c := 5) (by omega) (by omega) (by decide)))])
              have ksn_66 := KS.w en_66 ksn_58 (by unfold tS; omega)
              have e67 : n_66 0 = nI kc0 := by rw [en_66, pk_un (by omega)]; exact e59
              have e68 : n_66 2 = nI kc2 := by rw [en_66, pk_un (by omega)]; exact e60
              have e69 : n_66 7 = nI kc7 := by rw [en_66, pk_un (by omega)]; exact e61
              have e70 : n_66 8 = nI kc8 := by rw [en_66, pk_un (by omega)]; exact e62
              have e71 : n_66 (14 * k3 + 114) = nI k13 := by rw [en_66, pk_un (by omega)]; exact e63
              have e72 : n_66 5 = nI (k16 + 1) := by rw [en_66, pk_un (by omega)]; exact e64
              have e73 : n_66 (12 * k16 + 1295) = (-1) := by rw [en_66, pk_us]
              refine pm_iincX (v := nI 6) (loc' := [some (.ref (B + 54)), some (.int za), some (.int zb), some (.int zc), some (.int (nI k16)), some (.int (nI 6))]) hG dX12_draw_137 rfl (nI_1 _) (by decide) (pm_c1b rfl) rfl ?_
              refine pm_goto (tgt := 91) hG dX12_draw_140 rfl ?_
              refine pm_iloadi hG dX12_draw_91 rfl ?_
              refine pm_bipush (v := nI 12) hG dX12_draw_93 (by decide) ?_
              refine pm_icmpN_ge (tgt := 143) hG dX12_draw_95 rfl (by omega) (by omega) (fun q => absurd q (by omega)) (fun _ => ?_)
              refine pm_aloadn hG dX12_draw_98 rfl ?_
              refine pm_iloadi hG dX12_draw_99 rfl ?_
              refine pm_iloadi hG dX12_draw_101 rfl ?_
              refine pm_iloadi hG dX12_draw_103 rfl ?_
              refine pm_iconst (v := nI 4) hG dX12_draw_105 (by decide) ?_
              refine pm_icmpN_eq (tgt := 129) hG dX12_draw_106 rfl (by omega) (by omega) (fun q => absurd q (by omega)) (fun _ => ?_)
              refine pm_iloadi hG dX12_draw_109 rfl ?_
              refine pm_iconst (v := nI 5) hG dX12_draw_111 (by decide) ?_
              refine pm_icmpN_eq (tgt := 129) hG dX12_draw_112 rfl (by omega) (by omega) (fun q => absurd q (by omega)) (fun _ => ?_)
              refine pm_iloadi hG dX12_draw_115 rfl ?_
              refine pm_bipush (v := nI 6) hG dX12_draw_117 (by decide) ?_
              refine pm_icmpN_eq (tgt := 129) hG dX12_draw_119 rfl (by omega) (by omega) (fun _ => ?_) (fun q => absurd q (by omega))
              refine pm_iconst (v := (-1)) hG dX12_draw_129 (by decide) ?_
              refine pm_goto (tgt := 134) hG dX12_draw_130 rfl ?_
              refine pm_callV (As := [.int (nI k16), .int (nI 6), .int (-1)]) (rest := []) hG hR dX12_draw_134 (lkX12_217 _ rfl) okV_X12_writes rfl rfl (m_writes (d := 2) (e := 12 * k16 + 1296) (by omega) (by omega) (by omega)) rfl rfl hdd (Nat.le_refl _) (Nat.le_refl _) (by decide) (pm_kv (fun σ' cnt' hq => ?_))
              obtain ⟨rfl, rfl⟩ := hq
              obtain ⟨n_74, en_74⟩ : ∃ f : Nat → Int32, f = upd n_66 (12 * k16 + 1296) (-1) := ⟨_, rfl⟩
              rw [← en_74]
              have hnn_74 := KI.w en_74 hnn_66 (okv_f (show kd (12 * k16 + 1296) = (0, 0, true) from (kd_E (k := k16) (c := 6) (by omega) (by omega) (by decide))))
              have hrn_74 := NRx.row (l := k16) en_74 hrn_66 (by omega)
              have ksn_74 := KS.w en_74 ksn_66 (by unfold tS; omega)
              have e75 : n_74 0 = nI kc0 := by rw [en_74, pk_un (by omega)]; exact e67
              have e76 : n_74 2 = nI kc2 := by rw [en_74, pk_un (by omega)]; exact e68
              have e77 : n_74 7 = nI kc7 := by rw [en_74, pk_un (by omega)]; exact e69
              have e78 : n_74 8 = nI kc8 := by rw [en_74, pk_un (by omega)]; exact e70
              have e79 : n_74 (14 * k3 + 114) = nI k13 := by rw [en_74, pk_un (by omega)]; exact e71
              have e80 : n_74 5 = nI (k16 + 1) := by rw [en_74, pk_un (by omega)]; exact e72
              have e81 : n_74 (12 * k16 + 1296) = (-1) := by rw [en_74, pk_us]
              refine pm_iincX (v := nI 7) (loc' := [some (.ref (B + 54)), some (.int za), some (.int zb), some (.int zc), some (.int (nI k16)), some (.int (nI 7))]) hG dX12_draw_137 rfl (nI_1 _) (by decide) (pm_c1b rfl) rfl ?_
              refine pm_goto (tgt := 91) hG dX12_draw_140 rfl ?_
              refine pm_iloadi hG dX12_draw_91 rfl ?_
              refine pm_bipush (v := nI 12) hG dX12_draw_93 (by decide) ?_
              refine pm_icmpN_ge (tgt := 143) hG dX12_draw_95 rfl (by omega) (by omega) (fun q => absurd q (by omega)) (fun _ => ?_)
              refine pm_aloadn hG dX12_draw_98 rfl ?_
              refine pm_iloadi hG dX12_draw_99 rfl ?_
              refine pm_iloadi hG dX12_draw_101 rfl ?_
              refine pm_iloadi hG dX12_draw_103 rfl ?_
              refine pm_iconst (v := nI 4) hG dX12_draw_105 (by decide) ?_
              refine pm_icmpN_eq (tgt := 129) hG dX12_draw_106 rfl (by omega) (by omega) (fun q => absurd q (by omega)) (fun _ => ?_)
              refine pm_iloadi hG dX12_draw_109 rfl ?_
              refine pm_iconst (v := nI 5) hG dX12_draw_111 (by decide) ?_
              refine pm_icmpN_eq (tgt := 129) hG dX12_draw_112 rfl (by omega) (by omega) (fun q => absurd q (by omega)) (fun _ => ?_)
              refine pm_iloadi hG dX12_draw_115 rfl ?_
              refine pm_bipush (v := nI 6) hG dX12_draw_117 (by decide) ?_
              refine pm_icmpN_eq (tgt := 129) hG dX12_draw_119 rfl (by omega) (by omega) (fun q => absurd q (by omega)) (fun _ => ?_)
              refine pm_iloadi hG dX12_draw_122 rfl ?_
              refine pm_bipush (v := nI 7) hG dX12_draw_124 (by decide) ?_
              refine pm_icmpN_ne (tgt := 133) hG dX12_draw_126 rfl (by omega) (by omega) (fun q => absurd q (by omega)) (fun _ => ?_)
              refine pm_iconst (v := (-1)) hG dX12_draw_129 (by decide) ?_
              refine pm_goto (tgt := 134) hG dX12_draw_130 rfl ?_
              refine pm_callV (As := [.int (nI k16), .int (nI 7), .int (-1)]) (rest := []) hG hR dX12_draw_134 (lkX12_217 _ rfl) okV_X12_writes rfl rfl (m_writes (d := 2) (e := 12 * k16 + 1297) (by omega) (by omega) (by omega)) rfl rfl hdd (Nat.le_refl _) (Nat.le_refl _) (by decide) (pm_kv (fun σ' cnt' hq => ?_))
              obtain ⟨rfl, rfl⟩ := hq
              obtain ⟨n_82, en_82⟩ : ∃ f : Nat → Int32, f = upd n_74 (12 * k16 + 1297) (-1) := ⟨_, rfl⟩
              rw [← en_82]
              have hnn_82 := KI.w en_82 hnn_74 (okv_f (show kd (12 * k16 + 1297) = (0, 0, false) from (kd_E (k := k16) (c := 7) (by omega) (by omega) (by decide))))
              have hrn_82 := NRx.w en_82 hrn_74 (by rw [(show kd (12 * k16 + 1297) = (0, 0, false) from (kd_E (k := k16) (c := 7) (by omega) (by omega) (by decide)))])
              have ksn_82 := KS.w en_82 ksn_74 (by unfold tS; omega)
              have e83 : n_82 0 = nI kc0 := by rw [en_82, pk_un (by omega)]; exact e75
              have e84 : n_82 2 = nI kc2 := by rw [en_82, pk_un (by omega)]; exact e76
              have e85 : n_82 7 = nI kc7 := by rw [en_82, pk_un (by omega)]; exact e77
              have e86 : n_82 8 = nI kc8 := by rw [en_82, pk_un (by omega)]; exact e78
              have e87 : n_82 (14 * k3 + 114) = nI k13 := by rw [en_82, pk_un (by omega)]; exact e79
              have e88 : n_82 5 = nI (k16 + 1) := by rw [en_82, pk_un (by omega)]; exact e80
              have e89 : n_82 (12 * k16 + 1296) = (-1) := by rw [en_82, pk_un (by omega)]; exact e81
              have e90 : n_82 (12 * k16 + 1297) = (-1) := by rw [en_82, pk_us]
              refine pm_iincX (v := nI 8) (loc' := [some (.ref (B + 54)), some (.int za), some (.int zb), some (.int zc), some (.int (nI k16)), some (.int (nI 8))]) hG dX12_draw_137 rfl (nI_1 _) (by decide) (pm_c1b rfl) rfl ?_
              refine pm_goto (tgt := 91) hG dX12_draw_140 rfl ?_
              refine pm_iloadi hG dX12_draw_91 rfl ?_
              refine pm_bipush (v := nI 12) hG dX12_draw_93 (by decide) ?_
              refine pm_icmpN_ge (tgt := 143) hG dX12_draw_95 rfl (by omega) (by omega) (fun q => absurd q (by omega)) (fun _ => ?_)
              refine pm_aloadn hG dX12_draw_98 rfl ?_
              refine pm_iloadi hG dX12_draw_99 rfl ?_
              refine pm_iloadi hG dX12_draw_101 rfl ?_
              refine pm_iloadi hG dX12_draw_103 rfl ?_
              refine pm_iconst (v := nI 4) hG dX12_draw_105 (by decide) ?_
              refine pm_icmpN_eq (tgt := 129) hG dX12_draw_106 rfl (by omega) (by omega) (fun q => absurd q (by omega)) (fun _ => ?_)
              refine pm_iloadi hG dX12_draw_109 rfl ?_
              refine pm_iconst (v := nI 5) hG dX12_draw_111 (by decide) ?_
              refine pm_icmpN_eq (tgt := 129) hG dX12_draw_112 rfl (by omega) (by omega) (fun q => absurd q (by omega)) (fun _ => ?_)
              refine pm_iloadi hG dX12_draw_115 rfl ?_
              refine pm_bipush (v := nI 6) hG dX12_draw_117 (by decide) ?_
              refine pm_icmpN_eq (tgt := 129) hG dX12_draw_119 rfl (by omega) (by omega) (fun q => absurd q (by omega)) (fun _ => ?_)
              refine pm_iloadi hG dX12_draw_122 rfl ?_
              refine pm_bipush (v := nI 7) hG dX12_draw_124 (by decide) ?_
              refine pm_icmpN_ne (tgt := 133) hG dX12_draw_126 rfl (by omega) (by omega) (fun _ => ?_) (fun q => absurd q (by omega))
              refine pm_iconst (v := nI 0) hG dX12_draw_133 (by decide) ?_
              refine pm_callV (As := [.int (nI k16), .int (nI 8), .int (nI 0)]) (rest := []) hG hR dX12_draw_134 (lkX12_217 _ rfl) okV_X12_writes rfl rfl (m_writes (d := 2) (e := 12 * k16 + 1298) (by omega) (by omega) (by omega)) rfl rfl hdd (Nat.le_refl _) (Nat.le_refl _) (by decide) (pm_kv (fun σ' cnt' hq => ?_))
              obtain ⟨rfl, rfl⟩ := hq
              obtain ⟨n_91, en_91⟩ : ∃ f : Nat → Int32, f = upd n_82 (12 * k16 + 1298) (nI 0) := ⟨_, rfl⟩
              rw [← en_91]
              have hnn_91 := KI.w en_91 hnn_82 (okv_f (show kd (12 * k16 + 1298) = (0, 0, false) from (kd_E (k := k16) (c := 8) (by omega) (by omega) (by decide))))
              have hrn_91 := NRx.w en_91 hrn_82 (by rw [(show kd (12 * k16 + 1298) = (0, 0, false) from (kd_E (k := k16) (c := 8) (by omega) (by omega) (by decide)))])
              have ksn_91 := KS.w en_91 ksn_82 (by unfold tS; omega)
              have e92 : n_91 0 = nI kc0 := by rw [en_91, pk_un (by omega)]; exact e83
              have e93 : n_91 2 = nI kc2 := by rw [en_91, pk_un (by omega)]; exact e84
              have e94 : n_91 7 = nI kc7 := by rw [en_91, pk_un (by omega)]; exact e85
              have e95 : n_91 8 = nI kc8 := by rw [en_91, pk_un (by omega)]; exact e86
              have e96 : n_91 (14 * k3 + 114) = nI k13 := by rw [en_91, pk_un (by omega)]; exact e87
              have e97 : n_91 5 = nI (k16 + 1) := by rw [en_91, pk_un (by omega)]; exact e88
              have e98 : n_91 (12 * k16 + 1296) = (-1) := by rw [en_91, pk_un (by omega)]; exact e89
              have e99 : n_91 (12 * k16 + 1298) = nI 0 := by rw [en_91, pk_us]
              refine pm_iincX (v := nI 9) (loc' := [some (.ref (B + 54)), some (.int za), some (.int zb), some (.int zc), some (.int (nI k16)), some (.int (nI 9))]) hG dX12_draw_137 rfl (nI_1 _) (by decide) (pm_c1b rfl) rfl ?_
              refine pm_goto (tgt := 91) hG dX12_draw_140 rfl ?_
              refine pm_iloadi hG dX12_draw_91 rfl ?_
              refine pm_bipush (v := nI 12) hG dX12_draw_93 (by decide) ?_
              refine pm_icmpN_ge (tgt := 143) hG dX12_draw_95 rfl (by omega) (by omega) (fun q => absurd q (by omega)) (fun _ => ?_)
              refine pm_aloadn hG dX12_draw_98 rfl ?_
              refine pm_iloadi hG dX12_draw_99 rfl ?_
              refine pm_iloadi hG dX12_draw_101 rfl ?_
              refine pm_iloadi hG dX12_draw_103 rfl ?_
              refine pm_iconst (v := nI 4) hG dX12_draw_105 (by decide) ?_
              refine pm_icmpN_eq (tgt := 129) hG dX12_draw_106 rfl (by omega) (by omega) (fun q => absurd q (by omega)) (fun _ => ?_)
              refine pm_iloadi hG dX12_draw_109 rfl ?_
              refine pm_iconst (v := nI 5) hG dX12_draw_111 (by decide) ?_
              refine pm_icmpN_eq (tgt := 129) hG dX12_draw_112 rfl (by omega) (by omega) (fun q => absurd q (by omega)) (fun _ => ?_)
              refine pm_iloadi hG dX12_draw_115 rfl ?_
              refine pm_bipush (v := nI 6) hG dX12_draw_117 (by decide) ?_
              refine pm_icmpN_eq (tgt := 129) hG dX12_draw_119 rfl (by omega) (by omega) (fun q => absurd q (by omega)) (fun _ => ?_)
              refine pm_iloadi hG dX12_draw_122 rfl ?_
              refine pm_bipush (v := nI 7) hG dX12_draw_124 (by decide) ?_
              refine pm_icmpN_ne (tgt := 133) hG dX12_draw_126 rfl (by omega) (by omega) (fun _ => ?_) (fun q => absurd q (by omega))
              refine pm_iconst (v := nI 0) hG dX12_draw_133 (by decide) ?_
              refine pm_callV (As := [.int (nI k16), .int (nI 9), .int (nI 0)]) (rest := []) hG hR dX12_draw_134 (lkX12_217 _ rfl) okV_X12_writes rfl rfl (m_writes (d := 2) (e := 12 * k16 + 1299) (by omega) (by omega) (by omega)) rfl rfl hdd (Nat.le_refl _) (Nat.le_refl _) (by decide) (pm_kv (fun σ' cnt' hq => ?_))
              obtain ⟨rfl, rfl⟩ := hq
              obtain ⟨n_100, en_100⟩ : ∃ f : Nat → Int32, f = upd n_91 (12 * k16 + 1299) (nI 0) := ⟨_, rfl⟩
              rw [← en_100]
              have hnn_100 := KI.w en_100 hnn_91 (okv_f (show kd (12 * k16 + 1299) = (0, 0, false) from (kd_E (k := k16) (c := 9) (by omega) (by omega) (by decide))))
              have hrn_100 := NRx.w en_100 hrn_91 (by rw [(show kd (12 * k16 + 1299) = (0, 0, false) from (kd_E (k := k16) (c := 9) (by omega) (by omega) (by decide)))])
              have ksn_100 := KS.w en_100 ksn_91 (by unfold tS; omega)
              have e101 : n_100 0 = nI kc0 := by rw [en_100, pk_un (by omega)]; exact e92
              have e102 : n_100 2 = nI kc2 := by rw [en_100, pk_un (by omega)]; exact e93
              have e103 : n_100 7 = nI kc7 := by rw [en_100, pk_un (by omega)]; exact e94
              have e104 : n_100 8 = nI kc8 := by rw [en_100, pk_un (by omega)]; exact e95
              have e105 : n_100 (14 * k3 + 114) = nI k13 := by rw [en_100, pk_un (by omega)]; exact e96
              have e106 : n_100 5 = nI (k16 + 1) := by rw [en_100, pk_un (by omega)]; exact e97
              have e107 : n_100 (12 * k16 + 1296) = (-1) := by rw [en_100, pk_un (by omega)]; exact e98
              have e108 : n_100 (12 * k16 + 1299) = nI 0 := by rw [en_100, pk_us]
              refine pm_iincX (v := nI 10) (loc' := [some (.ref (B + 54)), some (.int za), some (.int zb), some (.int zc), some (.int (nI k16)), some (.int (nI 10))]) hG dX12_draw_137 rfl (nI_1 _) (by decide) (pm_c1b rfl) rfl ?_
              refine pm_goto (tgt := 91) hG dX12_draw_140 rfl ?_
              refine pm_iloadi hG dX12_draw_91 rfl ?_
              refine pm_bipush (v := nI 12) hG dX12_draw_93 (by decide) ?_
              refine pm_icmpN_ge (tgt := 143) hG dX12_draw_95 rfl (by omega) (by omega) (fun q => absurd q (by omega)) (fun _ => ?_)
              refine pm_aloadn hG dX12_draw_98 rfl ?_
              refine pm_iloadi hG dX12_draw_99 rfl ?_
              refine pm_iloadi hG dX12_draw_101 rfl ?_
              refine pm_iloadi hG dX12_draw_103 rfl ?_
              refine pm_iconst (v := nI 4) hG dX12_draw_105 (by decide) ?_
              refine pm_icmpN_eq (tgt := 129) hG dX12_draw_106 rfl (by omega) (by omega) (fun q => absurd q (by omega)) (fun _ => ?_)
              refine pm_iloadi hG dX12_draw_109 rfl ?_
              refine pm_iconst (v := nI 5) hG dX12_draw_111 (by decide) ?_
              refine pm_icmpN_eq (tgt := 129) hG dX12_draw_112 rfl (by omega) (by omega) (fun q => absurd q (by omega)) (fun _ => ?_)
              refine pm_iloadi hG dX12_draw_115 rfl ?_
              refine pm_bipush (v := nI 6) hG dX12_draw_117 (by decide) ?_
              refine pm_icmpN_eq (tgt := 129) hG dX12_draw_119 rfl (by omega) (by omega) (fun q => absurd q (by omega)) (fun _ => ?_)
              refine pm_iloadi hG dX12_draw_122 rfl ?_
              refine pm_bipush (v := nI 7) hG dX12_draw_124 (by decide) ?_
              refine pm_icmpN_ne (tgt := 133) hG dX12_draw_126 rfl (by omega) (by omega) (fun _ => ?_) (fun q => absurd q (by omega))
              refine pm_iconst (v := nI 0) hG dX12_draw_133 (by decide) ?_
              refine pm_callV (As := [.int (nI k16), .int (nI 10), .int (nI 0)]) (rest := []) hG hR dX12_draw_134 (lkX12_217 _ rfl) okV_X12_writes rfl rfl (m_writes (d := 2) (e := 12 * k16 + 1300) (by omega) (by omega) (by omega)) rfl rfl hdd (Nat.le_refl _) (Nat.le_refl _) (by decide) (pm_kv (fun σ' cnt' hq => ?_))
              obtain ⟨rfl, rfl⟩ := hq
              obtain ⟨n_109, en_109⟩ : ∃ f : Nat → Int32, f = upd n_100 (12 * k16 + 1300) (nI 0) := ⟨_, rfl⟩
              rw [← en_109]
              have hnn_109 := KI.w en_109 hnn_100 (okv_n (show kd (12 * k16 + 1300) = (1, 10, false) from (kd_E (k := k16) (c := 10) (by omega) (by omega) (by decide))) (by omega))
              have hrn_109 := NRx.w en_109 hrn_100 (by rw [(show kd (12 * k16 + 1300) = (1, 10, false) from (kd_E (k := k16) (c := 10) (by omega) (by omega) (by decide)))])
              have ksn_109 := KS.w en_109 ksn_100 (by unfold tS; omega)
              have e110 : n_109 0 = nI kc0 := by rw [en_109, pk_un (by omega)]; exact e101
              have e111 : n_109 2 = nI kc2 := by rw [en_109, pk_un (by omega)]; exact e102
              have e112 : n_109 7 = nI kc7 := by rw [en_109, pk_un (by omega)]; exact e103
              have e113 : n_109 8 = nI kc8 := by rw [en_109, pk_un (by omega)]; exact e104
              have e114 : n_109 (14 * k3 + 114) = nI k13 := by rw [en_109, pk_un (by omega)]; exact e105
              have e115 : n_109 5 = nI (k16 + 1) := by rw [en_109, pk_un (by omega)]; exact e106
              have e116 : n_109 (12 * k16 + 1296) = (-1) := by rw [en_109, pk_un (by omega)]; exact e107
              have e117 : n_109 (12 * k16 + 1300) = nI 0 := by rw [en_109, pk_us]
              refine pm_iincX (v := nI 11) (loc' := [some (.ref (B + 54)), some (.int za), some (.int zb), some (.int zc), some (.int (nI k16)), some (.int (nI 11))]) hG dX12_draw_137 rfl (nI_1 _) (by decide) (pm_c1b rfl) rfl ?_
              refine pm_goto (tgt := 91) hG dX12_draw_140 rfl ?_
              refine pm_iloadi hG dX12_draw_91 rfl ?_
              refine pm_bipush (v := nI 12) hG dX12_draw_93 (by decide) ?_
              refine pm_icmpN_ge (tgt := 143) hG dX12_draw_95 rfl (by omega) (by omega) (fun q => absurd q (by omega)) (fun _ => ?_)
              refine pm_aloadn hG dX12_draw_98 rfl ?_
              refine pm_iloadi hG dX12_draw_99 rfl ?_
              refine pm_iloadi hG dX12_draw_101 rfl ?_
              refine pm_iloadi hG dX12_draw_103 rfl ?_
              refine pm_iconst (v := nI 4) hG dX12_draw_105 (by decide) ?_
              refine pm_icmpN_eq (tgt := 129) hG dX12_draw_106 rfl (by omega) (by omega) (fun q => absurd q (by omega)) (fun _ => ?_)
              refine pm_iloadi hG dX12_draw_109 rfl ?_
              refine pm_iconst (v := nI 5) hG dX12_draw_111 (by decide) ?_
              refine pm_icmpN_eq (tgt := 129) hG dX12_draw_112 rfl (by omega) (by omega) (fun q => absurd q (by omega)) (fun _ => ?_)
              refine pm_iloadi hG dX12_draw_115 rfl ?_
              refine pm_bipush (v := nI 6) hG dX12_draw_117 (by decide) ?_
              refine pm_icmpN_eq (tgt := 129) hG dX12_draw_119 rfl (by omega) (by omega) (fun q => absurd q (by omega)) (fun _ => ?_)
              refine pm_iloadi hG dX12_draw_122 rfl ?_
              refine pm_bipush (v := nI 7) hG dX12_draw_124 (by decide) ?_
              refine pm_icmpN_ne (tgt := 133) hG dX12_draw_126 rfl (by omega) (by omega) (fun _ => ?_) (fun q => absurd q (by omega))
              refine pm_iconst (v := nI 0) hG dX12_draw_133 (by decide) ?_
              refine pm_callV (As := [.int (nI k16), .int (nI 11), .int (nI 0)]) (rest := []) hG hR dX12_draw_134 (lkX12_217 _ rfl) okV_X12_writes rfl rfl (m_writes (d := 2) (e := 12 * k16 + 1301) (by omega) (by omega) (by omega)) rfl rfl hdd (Nat.le_refl _) (Nat.le_refl _) (by decide) (pm_kv (fun σ' cnt' hq => ?_))
              obtain ⟨rfl, rfl⟩ := hq
              obtain ⟨n_118, en_118⟩ : ∃ f : Nat → Int32, f = upd n_109 (12 * k16 + 1301) (nI 0) := ⟨_, rfl⟩
              rw [← en_118]
              have hnn_118 := KI.w en_118 hnn_109 (okv_f (show kd (12 * k16 + 1301) = (0, 0, false) from (kd_E (k := k16) (c := 11) (by omega) (by omega) (by decide))))
              have hrn_118 := NRx.w en_118 hrn_109 (by rw [(show kd (12 * k16 + 1301) = (0, 0, false) from (kd_E (k := k16) (c := 11) (by omega) (by omega) (by decide)))])
              have ksn_118 := KS.w en_118 ksn_109 (by unfold tS; omega)
              have e119 : n_118 0 = nI kc0 := by rw [en_118, pk_un (by omega)]; exact e110
              have e120 : n_118 2 = nI kc2 := by rw [en_118, pk_un (by omega)]; exact e111
              have e121 : n_118 7 = nI kc7 := by rw [en_118, pk_un (by omega)]; exact e112
              have e122 : n_118 8 = nI kc8 := by rw [en_118, pk_un (by omega)]; exact e113
              have e123 : n_118 (14 * k3 + 114) = nI k13 := by rw [en_118, pk_un (by omega)]; exact e114
              have e124 : n_118 5 = nI (k16 + 1) := by rw [en_118, pk_un (by omega)]; exact e115
              have e125 : n_118 (12 * k16 + 1296) = (-1) := by rw [en_118, pk_un (by omega)]; exact e116
              have e126 : n_118 (12 * k16 + 1301) = nI 0 := by rw [en_118, pk_us]
              refine pm_iincX (v := nI 12) (loc' := [some (.ref (B + 54)), some (.int za), some (.int zb), some (.int zc), some (.int (nI k16)), some (.int (nI 12))]) hG dX12_draw_137 rfl (nI_1 _) (by decide) (pm_c1b rfl) rfl ?_
              refine pm_goto (tgt := 91) hG dX12_draw_140 rfl ?_
              refine pm_iloadi hG dX12_draw_91 rfl ?_
              refine pm_bipush (v := nI 12) hG dX12_draw_93 (by decide) ?_
              refine pm_icmpN_ge (tgt := 143) hG dX12_draw_95 rfl (by omega) (by omega) (fun _ => ?_) (fun q => absurd q (by omega))
              refine pm_aloadn hG dX12_draw_143 rfl ?_
              refine pm_iloadi hG dX12_draw_144 rfl ?_
              refine pm_iconst (v := nI 0) hG dX12_draw_146 (by decide) ?_
              refine pm_iloadn hG dX12_draw_147 rfl ?_
              refine pm_top (v := nI k3) ek3 ?_
              refine pm_callV (As := [.int (nI k16), .int (nI 0), .int (nI k3)]) (rest := []) hG hR dX12_draw_148 (lkX12_217 _ rfl) okV_X12_writes rfl rfl (m_writes (d := 2) (e := 12 * k16 + 1290) (by omega) (by omega) (by omega)) rfl rfl hdd (Nat.le_refl _) (Nat.le_refl _) (by decide) (pm_kv (fun σ' cnt' hq => ?_))
              obtain ⟨rfl, rfl⟩ := hq
              obtain ⟨n_127, en_127⟩ : ∃ f : Nat → Int32, f = upd n_118 (12 * k16 + 1290) (nI k3) := ⟨_, rfl⟩
              rw [← en_127]
              have hnn_127 := KI.w en_127 hnn_118 (okv_f (show kd (12 * k16 + 1290) = (0, 0, false) from (kd_E (k := k16) (c := 0) (by omega) (by omega) (by decide))))
              have hrn_127 := NRx.w en_127 hrn_118 (by rw [(show kd (12 * k16 + 1290) = (0, 0, false) from (kd_E (k := k16) (c := 0) (by omega) (by omega) (by decide)))])
              have ksn_127 := KS.w en_127 ksn_118 (by unfold tS; omega)
              have e128 : n_127 0 = nI kc0 := by rw [en_127, pk_un (by omega)]; exact e119
              have e129 : n_127 2 = nI kc2 := by rw [en_127, pk_un (by omega)]; exact e120
              have e130 : n_127 7 = nI kc7 := by rw [en_127, pk_un (by omega)]; exact e121
              have e131 : n_127 8 = nI kc8 := by rw [en_127, pk_un (by omega)]; exact e122
              have e132 : n_127 (14 * k3 + 114) = nI k13 := by rw [en_127, pk_un (by omega)]; exact e123
              have e133 : n_127 5 = nI (k16 + 1) := by rw [en_127, pk_un (by omega)]; exact e124
              have e134 : n_127 (12 * k16 + 1296) = (-1) := by rw [en_127, pk_un (by omega)]; exact e125
              have e135 : n_127 (12 * k16 + 1290) = nI k3 := by rw [en_127, pk_us]
              refine pm_aloadn hG dX12_draw_151 rfl ?_
              refine pm_iloadi hG dX12_draw_152 rfl ?_
              refine pm_iconst (v := nI 1) hG dX12_draw_154 (by decide) ?_
              refine pm_iloadn hG dX12_draw_155 rfl ?_
              refine pm_top (v := nI k6) ek6 ?_
              refine pm_callV (As := [.int (nI k16), .int (nI 1), .int (nI k6)]) (rest := []) hG hR dX12_draw_156 (lkX12_217 _ rfl) okV_X12_writes rfl rfl (m_writes (d := 2) (e := 12 * k16 + 1291) (by omega) (by omega) (by omega)) rfl rfl hdd (Nat.le_refl _) (Nat.le_refl _) (by decide) (pm_kv (fun σ' cnt' hq => ?_))
              obtain ⟨rfl, rfl⟩ := hq
              obtain ⟨n_136, en_136⟩ : ∃ f : Nat → Int32, f = upd n_127 (12 * k16 + 1291) (nI k6) := ⟨_, rfl⟩
              rw [← en_136]
              have hnn_136 := KI.w en_136 hnn_127 (okv_f (show kd (12 * k16 + 1291) = (0, 0, false) from (kd_E (k := k16) (c := 1) (by omega) (by omega) (by decide))))
              have hrn_136 := NRx.w en_136 hrn_127 (by rw [(show kd (12 * k16 + 1291) = (0, 0, false) from (kd_E (k := k16) (c := 1) (by omega) (by omega) (by decide)))])
              have ksn_136 := KS.w en_136 ksn_127 (by unfold tS; omega)
              have e137 : n_136 0 = nI kc0 := by rw [en_136, pk_un (by omega)]; exact e128
              have e138 : n_136 2 = nI kc2 := by rw [en_136, pk_un (by omega)]; exact e129
              have e139 : n_136 7 = nI kc7 := by rw [en_136, pk_un (by omega)]; exact e130
              have e140 : n_136 8 = nI kc8 := by rw [en_136, pk_un (by omega)]; exact e131
              have e141 : n_136 (14 * k3 + 114) = nI k13 := by rw [en_136, pk_un (by omega)]; exact e132
              have e142 : n_136 5 = nI (k16 + 1) := by rw [en_136, pk_un (by omega)]; exact e133
              have e143 : n_136 (12 * k16 + 1296) = (-1) := by rw [en_136, pk_un (by omega)]; exact e134
              have e144 : n_136 (12 * k16 + 1291) = nI k6 := by rw [en_136, pk_us]
              refine pm_aloadn hG dX12_draw_159 rfl ?_
              refine pm_iloadi hG dX12_draw_160 rfl ?_
              refine pm_iconst (v := nI 2) hG dX12_draw_162 (by decide) ?_
              refine pm_iloadn hG dX12_draw_163 rfl ?_
              refine pm_top (v := nI k9) ek9 ?_
              refine pm_callV (As := [.int (nI k16), .int (nI 2), .int (nI k9)]) (rest := []) hG hR dX12_draw_164 (lkX12_217 _ rfl) okV_X12_writes rfl rfl (m_writes (d := 2) (e := 12 * k16 + 1292) (by omega) (by omega) (by omega)) rfl rfl hdd (Nat.le_refl _) (Nat.le_refl _) (by decide) (pm_kv (fun σ' cnt' hq => ?_))
              obtain ⟨rfl, rfl⟩ := hq
              obtain ⟨n_145, en_145⟩ : ∃ f : Nat → Int32, f = upd n_136 (12 * k16 + 1292) (nI k9) := ⟨_, rfl⟩
              rw [← en_145]
              have hnn_145 := KI.w en_145 hnn_136 (okv_n (show kd (12 * k16 + 1292) = (1, 1000, false) from (kd_E (k := k16) (c := 2) (by omega) (by omega) (by decide))) (by omega))
              have hrn_145 := NRx.w en_145 hrn_136 (by rw [(show kd (12 * k16 + 1292) = (1, 1000, false) from (kd_E (k := k16) (c := 2) (by omega) (by omega) (by decide)))])
              have ksn_145 := KS.w en_145 ksn_136 (by unfold tS; omega)
              have e146 : n_145 0 = nI kc0 := by rw [en_145, pk_un (by omega)]; exact e137
              have e147 : n_145 2 = nI kc2 := by rw [en_145, pk_un (by omega)]; exact e138
              have e148 : n_145 7 = nI kc7 := by rw [en_145, pk_un (by omega)]; exact e139
              have e149 : n_145 8 = nI kc8 := by rw [en_145, pk_un (by omega)]; exact e140
              have e150 : n_145 (14 * k3 + 114) = nI k13 := by rw [en_145, pk_un (by omega)]; exact e141
              have e151 : n_145 5 = nI (k16 + 1) := by rw [en_145, pk_un (by omega)]; exact e142
              have e152 : n_145 (12 * k16 + 1296) = (-1) := by rw [en_145, pk_un (by omega)]; exact e143
              have e153 : n_145 (12 * k16 + 1292) = nI k9 := by rw [en_145, pk_us]
              refine pm_aloadn hG dX12_draw_167 rfl ?_
              refine pm_iloadi hG dX12_draw_168 rfl ?_
              refine pm_bipush (v := nI 10) hG dX12_draw_170 (by decide) ?_
              refine pm_aloadn hG dX12_draw_172 rfl ?_
              refine pm_iloadn hG dX12_draw_173 rfl ?_
              refine pm_top (v := nI k3) ek3 ?_
              refine pm_iconst (v := nI 4) hG dX12_draw_174 (by decide) ?_
              refine pm_callV (As := [.int (nI k3), .int (nI 4)]) (rest := [.int (nI 10), .int (nI k16), .ref (B + 54)]) hG hR dX12_draw_175 (lkX12_72 _ rfl) okV_X12_man rfl rfl (m_man (d := 2) (e := 14 * k3 + 114) (by omega) (by omega) (by omega)) rfl rfl hdd (Nat.le_refl _) (Nat.le_refl _) (Nat.le_of_ble_eq_true rfl) (pm_ki (fun v154 σ' cnt' hq => ?_))
              obtain ⟨rfl, rfl, rfl⟩ := hq
              refine pm_top (v := nI k13) e150 ?_
              refine pm_callV (As := [.int (nI k16), .int (nI 10), .int (nI k13)]) (rest := []) hG hR dX12_draw_178 (lkX12_217 _ rfl) okV_X12_writes rfl rfl (m_writes (d := 2) (e := 12 * k16 + 1300) (by omega) (by omega) (by omega)) rfl rfl hdd (Nat.le_refl _) (Nat.le_refl _) (by decide) (pm_kv (fun σ' cnt' hq => ?_))
              obtain ⟨rfl, rfl⟩ := hq
              obtain ⟨n_155, en_155⟩ : ∃ f : Nat → Int32, f = upd n_145 (12 * k16 + 1300) (nI k13) := ⟨_, rfl⟩
              rw [← en_155]
              have hnn_155 := KI.w en_155 hnn_145 (okv_n (show kd (12 * k16 + 1300) = (1, 10, false) from (kd_E (k := k16) (c := 10) (by omega) (by omega) (by decide))) (by omega))
              have hrn_155 := NRx.w en_155 hrn_145 (by rw [(show kd (12 * k16 + 1300) = (1, 10, false) from (kd_E (k := k16) (c := 10) (by omega) (by omega) (by decide)))])
              have ksn_155 := KS.w en_155 ksn_145 (by unfold tS; omega)
              have e156 : n_155 0 = nI kc0 := by rw [en_155, pk_un (by omega)]; exact e146
              have e157 : n_155 2 = nI kc2 := by rw [en_155, pk_un (by omega)]; exact e147
              have e158 : n_155 7 = nI kc7 := by rw [en_155, pk_un (by omega)]; exact e148
              have e159 : n_155 8 = nI kc8 := by rw [en_155, pk_un (by omega)]; exact e149
              have e160 : n_155 (14 * k3 + 114) = nI k13 := by rw [en_155, pk_un (by omega)]; exact e150
              have e161 : n_155 5 = nI (k16 + 1) := by rw [en_155, pk_un (by omega)]; exact e151
              have e162 : n_155 (12 * k16 + 1296) = (-1) := by rw [en_155, pk_un (by omega)]; exact e152
              have e163 : n_155 (12 * k16 + 1300) = nI k13 := by rw [en_155, pk_us]
              refine pm_aloadn hG dX12_draw_181 rfl ?_
              refine pm_iloadi hG dX12_draw_182 rfl ?_
              refine pm_bipush (v := nI 9) hG dX12_draw_184 (by decide) ?_
              refine pm_aloadn hG dX12_draw_186 rfl ?_
              refine pm_aloadn hG dX12_draw_187 rfl ?_
              refine pm_iloadn hG dX12_draw_188 rfl ?_
              refine pm_top (v := nI k3) ek3 ?_
              refine pm_iconst (v := nI 4) hG dX12_draw_189 (by decide) ?_
              refine pm_callV (As := [.int (nI k3), .int (nI 4)]) (rest := [.ref (B + 54), .int (nI 9), .int (nI k16), .ref (B + 54)]) hG hR dX12_draw_190 (lkX12_72 _ rfl) okV_X12_man rfl rfl (m_man (d := 2) (e := 14 * k3 + 114) (by omega) (by omega) (by omega)) rfl rfl hdd (Nat.le_refl _) (Nat.le_refl _) (Nat.le_of_ble_eq_true rfl) (pm_ki (fun v164 σ' cnt' hq => ?_))
              obtain ⟨rfl, rfl, rfl⟩ := hq
              refine pm_top (v := nI k13) e160 ?_
              refine pm_callV (As := [.int (nI k13)]) (rest := [.int (nI 9), .int (nI k16), .ref (B + 54)]) hG hR dX12_draw_193 (lkX12_220 _ rfl) okV_X12_thoseIn rfl rfl (m_thoseIn (d := 2) (by decide) hnn_155 hz) rfl rfl hdd (Nat.le_refl _) (Nat.le_refl _) (Nat.le_of_ble_eq_true rfl) (pm_ki (fun v165 σ' cnt' hq => ?_))
              obtain ⟨rfl, rfl⟩ := hq
              refine pm_callV (As := [.int (nI k16), .int (nI 9), .int v165]) (rest := []) hG hR dX12_draw_196 (lkX12_217 _ rfl) okV_X12_writes rfl rfl (m_writes (d := 2) (e := 12 * k16 + 1299) (by omega) (by omega) (by omega)) rfl rfl hdd (Nat.le_refl _) (Nat.le_refl _) (by decide) (pm_kv (fun σ' cnt' hq => ?_))
              obtain ⟨rfl, rfl⟩ := hq
              obtain ⟨n_167, en_167⟩ : ∃ f : Nat → Int32, f = upd n_155 (12 * k16 + 1299) v165 := ⟨_, rfl⟩
              rw [← en_167]
              have hnn_167 := KI.w en_167 hnn_155 (okv_f (show kd (12 * k16 + 1299) = (0, 0, false) from (kd_E (k := k16) (c := 9) (by omega) (by omega) (by decide))))
              have hrn_167 := NRx.w en_167 hrn_155 (by rw [(show kd (12 * k16 + 1299) = (0, 0, false) from (kd_E (k := k16) (c := 9) (by omega) (by omega) (by decide)))])
              have ksn_167 := KS.w en_167 ksn_155 (by unfold tS; omega)
              have e168 : n_167 0 = nI kc0 := by rw [en_167, pk_un (by omega)]; exact e156
              have e169 : n_167 2 = nI kc2 := by rw [en_167, pk_un (by omega)]; exact e157
              have e170 : n_167 7 = nI kc7 := by rw [en_167, pk_un (by omega)]; exact e158
              have e171 : n_167 8 = nI kc8 := by rw [en_167, pk_un (by omega)]; exact e159
              have e172 : n_167 (14 * k3 + 114) = nI k13 := by rw [en_167, pk_un (by omega)]; exact e160
              have e173 : n_167 5 = nI (k16 + 1) := by rw [en_167, pk_un (by omega)]; exact e161
              have e174 : n_167 (12 * k16 + 1296) = (-1) := by rw [en_167, pk_un (by omega)]; exact e162
              have e175 : n_167 (12 * k16 + 1299) = v165 := by rw [en_167, pk_us]
              refine pm_iloadi hG dX12_draw_199 rfl ?_
              exact pm_iret hG hF dX12_draw_201 rfl (Nat.le_refl _) (Nat.le_refl _) ⟨_, rfl, ⟨_, _, _, rfl, hnn_167, (NRx.cl hrn_167 e174), e168.trans ekc0.symm, e169.trans ekc2.symm, e170.trans ekc7.symm, e171.trans ekc8.symm, ksn_167⟩, rfl⟩
            · refine pm_aloadn hG dX12_draw_72 rfl ?_
              refine pm_iconst (v := nI 4) hG dX12_draw_73 (by decide) ?_
              refine pm_callV (As := [.int (nI 4)]) (rest := []) hG hR dX12_draw_74 (lkX12_80 _ rfl) okV_X12_finds rfl rfl (m_finds (d := 2) (by decide) hn hz (by omega)) rfl rfl hdd (Nat.le_refl _) (Nat.le_refl _) (by decide) (pm_ki (fun v176 σ' cnt' hq => ?_))
              obtain ⟨⟨I177, A177, rfl⟩, rfl, fv176⟩ := hq
              exact pm_iret hG hF dX12_draw_77 rfl (Nat.le_refl _) (Nat.le_refl _) ⟨_, rfl, ⟨_, _, _, rfl, hn, hr, ekc0.trans ekc0.symm, ekc2.trans ekc2.symm, ekc7.trans ekc7.symm, ekc8.trans ekc8.symm, KS.rf⟩, rfl⟩
        · refine pm_callV (As := [.int (nI k3)]) (rest := []) hG hR dX12_draw_36 (lkX12_101 _ rfl) okV_X12_lives rfl rfl (m_lives0 (d := 2) (by decide) (by omega) (by omega : 14 * k3 + 119 = 14 * k3 + 119) ek10 (by omega)) rfl rfl hdd (Nat.le_refl _) (Nat.le_refl _) (by decide) (pm_ki (fun v178 σ' cnt' hq => ?_))
          obtain ⟨rfl, rfl, rfl⟩ := hq
          refine pm_ifN_eq (tgt := 51) hG dX12_draw_39 rfl (by omega) (fun _ => ?_) (fun q => absurd q (by omega))
          refine pm_aloadn hG dX12_draw_51 rfl ?_
          refine pm_iconst (v := nI 3) hG dX12_draw_52 (by decide) ?_
          refine pm_callV (As := [.int (nI 3)]) (rest := []) hG hR dX12_draw_53 (lkX12_80 _ rfl) okV_X12_finds rfl rfl (m_finds (d := 2) (by decide) hn hz (by omega)) rfl rfl hdd (Nat.le_refl _) (Nat.le_refl _) (by decide) (pm_ki (fun v179 σ' cnt' hq => ?_))
          obtain ⟨⟨I180, A180, rfl⟩, rfl, fv179⟩ := hq
          exact pm_iret hG hF dX12_draw_56 rfl (Nat.le_refl _) (Nat.le_refl _) ⟨_, rfl, ⟨_, _, _, rfl, hn, hr, ekc0.trans ekc0.symm, ekc2.trans ekc2.symm, ekc7.trans ekc7.symm, ekc8.trans ekc8.symm, KS.rf⟩, rfl⟩
      · refine pm_ifN_ne (tgt := 34) hG dX12_draw_25 rfl (by omega) (fun q => absurd q (by omega)) (fun _ => ?_)
        refine pm_aloadn hG dX12_draw_28 rfl ?_
        refine pm_iconst (v := nI 1) hG dX12_draw_29 (by decide) ?_
        refine pm_callV (As := [.int (nI 1)]) (rest := []) hG hR dX12_draw_30 (lkX12_80 _ rfl) okV_X12_finds rfl rfl (m_finds (d := 2) (by decide) hn hz (by omega)) rfl rfl hdd (Nat.le_refl _) (Nat.le_refl _) (by decide) (pm_ki (fun v181 σ' cnt' hq => ?_))
        obtain ⟨⟨I182, A182, rfl⟩, rfl, fv181⟩ := hq
        exact pm_iret hG hF dX12_draw_33 rfl (Nat.le_refl _) (Nat.le_refl _) ⟨_, rfl, ⟨_, _, _, rfl, hn, hr, ekc0.trans ekc0.symm, ekc2.trans ekc2.symm, ekc7.trans ekc7.symm, ekc8.trans ekc8.symm, KS.rf⟩, rfl⟩
    · refine pm_ifN_eq (tgt := 28) hG dX12_draw_14 rfl (by omega) (fun _ => ?_) (fun q => absurd q (by omega))
      refine pm_aloadn hG dX12_draw_28 rfl ?_
      refine pm_iconst (v := nI 1) hG dX12_draw_29 (by decide) ?_
      refine pm_callV (As := [.int (nI 1)]) (rest := []) hG hR dX12_draw_30 (lkX12_80 _ rfl) okV_X12_finds rfl rfl (m_finds (d := 2) (by decide) hn hz (by omega)) rfl rfl hdd (Nat.le_refl _) (Nat.le_refl _) (by decide) (pm_ki (fun v183 σ' cnt' hq => ?_))
      obtain ⟨⟨I184, A184, rfl⟩, rfl, fv183⟩ := hq
      exact pm_iret hG hF dX12_draw_33 rfl (Nat.le_refl _) (Nat.le_refl _) ⟨_, rfl, ⟨_, _, _, rfl, hn, hr, ekc0.trans ekc0.symm, ekc2.trans ekc2.symm, ekc7.trans ekc7.symm, ekc8.trans ekc8.symm, KS.rf⟩, rfl⟩
  · refine pm_ifN_eq (tgt := 28) hG dX12_draw_5 rfl (by omega) (fun _ => ?_) (fun q => absurd q (by omega))
    refine pm_aloadn hG dX12_draw_28 rfl ?_
    refine pm_iconst (v := nI 1) hG dX12_draw_29 (by decide) ?_
    refine pm_callV (As := [.int (nI 1)]) (rest := []) hG hR dX12_draw_30 (lkX12_80 _ rfl) okV_X12_finds rfl rfl (m_finds (d := 2) (by decide) hn hz (by omega)) rfl rfl hdd (Nat.le_refl _) (Nat.le_refl _) (by decide) (pm_ki (fun v185 σ' cnt' hq => ?_))
    obtain ⟨⟨I186, A186, rfl⟩, rfl, fv185⟩ := hq
    exact pm_iret hG hF dX12_draw_33 rfl (Nat.le_refl _) (Nat.le_refl _) ⟨_, rfl, ⟨_, _, _, rfl, hn, hr, ekc0.trans ekc0.symm, ekc2.trans ekc2.symm, ekc7.trans ekc7.symm, ekc8.trans ekc8.symm, KS.rf⟩, rfl⟩
