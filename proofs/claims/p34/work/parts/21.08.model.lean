set_option maxRecDepth 100000 in
set_option maxHeartbeats 4000000 in
theorem m_thoseIn {d B cnt p0 t0 : Nat} {σ : pm_S} {I : Nat → Int32} {A : Nat → Nat → Int32} {n k z : Nat → Int32} {ac wt pl im : Int32} {za : Int32} (hdd : 2 ≤ d) (hn : KI n) (hz : SZ z)  : pm_met mX12_thoseIn d 0 0 B [.ref (B + 54), .int za] cnt (pm_mid σ (md_L B I A n k z ac wt pl (nI p0) (nI t0) im)) (pm_Qi (fun v σ' cnt' => σ' = pm_mid σ (md_L B I A n k z ac wt pl (nI p0) (nI t0) im) ∧ cnt = cnt')) := by
  refine pm_enter 2 (by decide) (Nat.le_of_ble_eq_true rfl) rfl (fun G hG hR hF => ?_)
  refine pm_iconst (v := nI 0) hG dX12_thoseIn_0 (by decide) ?_
  refine pm_istoreXn (loc' := [some (.ref (B + 54)), some (.int za), some (.int (nI 0)), none]) hG dX12_thoseIn_1 (by decide) (pm_c1b rfl) rfl ?_
  refine pm_iconst (v := nI 0) hG dX12_thoseIn_2 (by decide) ?_
  refine pm_istoreXn (loc' := [some (.ref (B + 54)), some (.int za), some (.int (nI 0)), some (.int (nI 0))]) hG dX12_thoseIn_3 (by decide) (pm_c1b rfl) rfl ?_
  have loop4_1 : ∀ (m1 : Nat) (x1_2 : Int32) (i1 : Nat), i1 ≤ 20 → 20 - i1 < m1 → pm_wp mX12_thoseIn G B 4 [some (.ref (B + 54)), some (.int za), some (.int x1_2), some (.int (nI i1))] [] 0 0 cnt (pm_mid σ (md_L B I A n k z ac wt pl (nI p0) (nI t0) im)) := by
    intro m1
    induction m1 with
    | zero => intro x1_2 i1 _ hm; exact absurd hm (Nat.not_lt_zero _)
    | succ m1 ih1 =>
      intro x1_2 i1 hi1 hm1
      refine pm_iloadn hG dX12_thoseIn_4 rfl ?_
      refine pm_aloadn hG dX12_thoseIn_5 rfl ?_
      refine pm_getf hG dX12_thoseIn_6 (flX12_7 _ rfl) rfl rfl ?_
      refine pm_iconst (v := nI 2) hG dX12_thoseIn_9 (by decide) ?_
      refine pm_ialdN hG dX12_thoseIn_10 rfl (by decide) (by omega) ?_
      obtain ⟨k2, hk2, ek2⟩ := KI.nat hn (show kd 2 = (1, 21, true) by decide)
      refine pm_top (v := nI k2) ek2 ?_
      refine pm_icmpN_ge (tgt := 48) hG dX12_thoseIn_11 rfl (by omega) (by omega) (fun c3 => ?_) (fun c3 => ?_)
      · refine pm_iloadn hG dX12_thoseIn_48 rfl ?_
        exact pm_iret hG hF dX12_thoseIn_49 rfl (Nat.le_refl _) (Nat.le_refl _) ⟨_, rfl, rfl, rfl⟩
      · refine pm_iloadn hG dX12_thoseIn_14 rfl ?_
        refine pm_aloadn hG dX12_thoseIn_15 rfl ?_
        refine pm_iloadn hG dX12_thoseIn_16 rfl ?_
        rcases KI.opt hn (show kd (14 * i1 + 119) = (2, 2001, false) from (kd_P (k := i1) (c := 9) (by omega) (by omega) (by decide))) with ek4 | ⟨k4, hk4, ek4⟩
        · refine pm_callV (As := [.int (nI i1)]) (rest := [.int x1_2]) hG hR dX12_thoseIn_17 (lkX12_101 _ rfl) okV_X12_lives rfl rfl (m_lives1 (d := 1) (by decide) (by omega) (by omega : 14 * i1 + 119 = 14 * i1 + 119) ek4) rfl rfl hdd (Nat.le_refl _) (Nat.le_refl _) (Nat.le_of_ble_eq_true rfl) (pm_ki (fun v5 σ' cnt' hq => ?_))
          obtain ⟨rfl, rfl, rfl⟩ := hq
          refine pm_ifN_eq (tgt := 39) hG dX12_thoseIn_20 rfl (by omega) (fun q => absurd q (by omega)) (fun _ => ?_)
          refine pm_aloadn hG dX12_thoseIn_23 rfl ?_
          refine pm_iloadn hG dX12_thoseIn_24 rfl ?_
          refine pm_iconst (v := nI 4) hG dX12_thoseIn_25 (by decide) ?_
          refine pm_callV (As := [.int (nI i1), .int (nI 4)]) (rest := [.int x1_2]) hG hR dX12_thoseIn_26 (lkX12_72 _ rfl) okV_X12_man rfl rfl (m_man (d := 1) (e := 14 * i1 + 114) (by omega) (by omega) (by omega)) rfl rfl hdd (Nat.le_refl _) (Nat.le_refl _) (Nat.le_of_ble_eq_true rfl) (pm_ki (fun v6 σ' cnt' hq => ?_))
          obtain ⟨rfl, rfl, rfl⟩ := hq
          rcases KI.opt hn (show kd (14 * i1 + 114) = (2, 10, false) from (kd_P (k := i1) (c := 4) (by omega) (by omega) (by decide))) with ek7 | ⟨k7, hk7, ek7⟩
          · refine pm_top (v := (-1)) ek7 ?_
            refine pm_iloadn hG dX12_thoseIn_29 rfl ?_
            refine pm_icmp_ne (tgt := 39) hG dX12_thoseIn_30 rfl (fun c8 => ?_) (fun c8 => ?_)
            · refine pm_iconst (v := nI 0) hG dX12_thoseIn_39 (by decide) ?_
              refine pm_ior hG dX12_thoseIn_40 ?_
              refine pm_any (fun x9 => ?_)
              refine pm_istoreXn (loc' := [some (.ref (B + 54)), some (.int za), some (.int x9), some (.int (nI i1))]) hG dX12_thoseIn_41 (by decide) (pm_c1b rfl) rfl ?_
              refine pm_iincX (v := nI (i1 + 1)) (loc' := [some (.ref (B + 54)), some (.int za), some (.int x9), some (.int (nI (i1 + 1)))]) hG dX12_thoseIn_42 rfl (nI_1 _) (by decide) (pm_c1b rfl) rfl ?_
              refine pm_goto (tgt := 4) hG dX12_thoseIn_45 rfl ?_
              exact ih1 x9 (i1 + 1) (by omega) (by omega)
            · refine pm_iconst (v := nI 1) hG dX12_thoseIn_33 (by decide) ?_
              refine pm_iloadn hG dX12_thoseIn_34 rfl ?_
              refine pm_ishl hG dX12_thoseIn_35 ?_
              refine pm_any (fun x10 => ?_)
              refine pm_goto (tgt := 40) hG dX12_thoseIn_36 rfl ?_
              refine pm_ior hG dX12_thoseIn_40 ?_
              refine pm_any (fun x11 => ?_)
              refine pm_istoreXn (loc' := [some (.ref (B + 54)), some (.int za), some (.int x11), some (.int (nI i1))]) hG dX12_thoseIn_41 (by decide) (pm_c1b rfl) rfl ?_
              refine pm_iincX (v := nI (i1 + 1)) (loc' := [some (.ref (B + 54)), some (.int za), some (.int x11), some (.int (nI (i1 + 1)))]) hG dX12_thoseIn_42 rfl (nI_1 _) (by decide) (pm_c1b rfl) rfl ?_
              refine pm_goto (tgt := 4) hG dX12_thoseIn_45 rfl ?_
              exact ih1 x11 (i1 + 1) (by omega) (by omega)
          · refine pm_top (v := nI k7) ek7 ?_
            refine pm_iloadn hG dX12_thoseIn_29 rfl ?_
            refine pm_icmp_ne (tgt := 39) hG dX12_thoseIn_30 rfl (fun c12 => ?_) (fun c12 => ?_)
            · refine pm_iconst (v := nI 0) hG dX12_thoseIn_39 (by decide) ?_
              refine pm_ior hG dX12_thoseIn_40 ?_
              refine pm_any (fun x13 => ?_)
              refine pm_istoreXn (loc' := [some (.ref (B + 54)), some (.int za), some (.int x13), some (.int (nI i1))]) hG dX12_thoseIn_41 (by decide) (pm_c1b rfl) rfl ?_
              refine pm_iincX (v := nI (i1 + 1)) (loc' := [some (.ref (B + 54)), some (.int za), some (.int x13), some (.int (nI (i1 + 1)))]) hG dX12_thoseIn_42 rfl (nI_1 _) (by decide) (pm_c1b rfl) rfl ?_
              refine pm_goto (tgt := 4) hG dX12_thoseIn_45 rfl ?_
              exact ih1 x13 (i1 + 1) (by omega) (by omega)
            · refine pm_iconst (v := nI 1) hG dX12_thoseIn_33 (by decide) ?_
              refine pm_iloadn hG dX12_thoseIn_34 rfl ?_
              refine pm_ishl hG dX12_thoseIn_35 ?_
              refine pm_any (fun x14 => ?_)
              refine pm_goto (tgt := 40) hG dX12_thoseIn_36 rfl ?_
              refine pm_ior hG dX12_thoseIn_40 ?_
              refine pm_any (fun x15 => ?_)
              refine pm_istoreXn (loc' := [some (.ref (B + 54)), some (.int za), some (.int x15), some (.int (nI i1))]) hG dX12_thoseIn_41 (by decide) (pm_c1b rfl) rfl ?_
              refine pm_iincX (v := nI (i1 + 1)) (loc' := [some (.ref (B + 54)), some (.int za), some (.int x15), some (.int (nI (i1 + 1)))]) hG dX12_thoseIn_42 rfl (nI_1 _) (by decide) (pm_c1b rfl) rfl ?_
              refine pm_goto (tgt := 4) hG dX12_thoseIn_45 rfl ?_
              exact ih1 x15 (i1 + 1) (by omega) (by omega)
        · refine pm_callV (As := [.int (nI i1)]) (rest := [.int x1_2]) hG hR dX12_thoseIn_17 (lkX12_101 _ rfl) okV_X12_lives rfl rfl (m_lives0 (d := 1) (by decide) (by omega) (by omega : 14 * i1 + 119 = 14 * i1 + 119) ek4 (by omega)) rfl rfl hdd (Nat.le_refl _) (Nat.le_refl _) (Nat.le_of_ble_eq_true rfl) (pm_ki (fun v16 σ' cnt' hq => ?_))
          obtain ⟨rfl, rfl, rfl⟩ := hq
          refine pm_ifN_eq (tgt := 39) hG dX12_thoseIn_20 rfl (by omega) (fun _ => ?_) (fun q => absurd q (by omega))
          refine pm_iconst (v := nI 0) hG dX12_thoseIn_39 (by decide) ?_
          refine pm_ior hG dX12_thoseIn_40 ?_
          refine pm_any (fun x17 => ?_)
          refine pm_istoreXn (loc' := [some (.ref (B + 54)), some (.int za), some (.int x17), some (.int (nI i1))]) hG dX12_thoseIn_41 (by decide) (pm_c1b rfl) rfl ?_
          refine pm_iincX (v := nI (i1 + 1)) (loc' := [some (.ref (B + 54)), some (.int za), some (.int x17), some (.int (nI (i1 + 1)))]) hG dX12_thoseIn_42 rfl (nI_1 _) (by decide) (pm_c1b rfl) rfl ?_
          refine pm_goto (tgt := 4) hG dX12_thoseIn_45 rfl ?_
          exact ih1 x17 (i1 + 1) (by omega) (by omega)
  exact loop4_1 _ (nI 0) 0 (by omega) (Nat.lt_succ_self _)

set_option maxRecDepth 100000 in
set_option maxHeartbeats 4000000 in
theorem m_draw {d B cnt p0 t0 : Nat} {σ : pm_S} {I : Nat → Int32} {A : Nat → Nat → Int32} {n k z : Nat → Int32} {ac wt pl im : Int32} {za zb zc : Int32} (hdd : 3 ≤ d) (hn : KI n) (hr : NR n) (hz : SZ z)  : pm_met mX12_draw d 0 0 B [.ref (B + 54), .int za, .int zb, .int zc] cnt (pm_mid σ (md_L B I A n k z ac wt pl (nI p0) (nI t0) im)) (pm_Qi (fun v σ' cnt' => (∃ (I' : Nat → Int32) (A' : Nat → Nat → Int32) (n' : Nat → Int32), σ' = pm_mid σ (md_L B I' A' n' k z ac wt pl (nI p0) (nI t0) im) ∧ KI n' ∧ NR n' ∧ n' 0 = n 0 ∧ n' 2 = n 2 ∧ n' 8 = n 8 ∧ KS n' n) ∧ cnt = cnt')) := by
  obtain ⟨kc0, hkc0, ekc0⟩ := KI.nat hn (show kd 0 = (1, 11, true) by decide)
  obtain ⟨kc2, hkc2, ekc2⟩ := KI.nat hn (show kd 2 = (1, 21, true) by decide)
  obtain ⟨kc8, hkc8, ekc8⟩ := KI.nat hn (show kd 8 = (1, 2001, false) by decide)
  refine pm_enter 2 (by decide) (Nat.le_of_ble_eq_true rfl) rfl (fun G hG hR hF => ?_)
  refine pm_aloadn hG dX12_draw_0 rfl ?_
  refine pm_iloadn hG dX12_draw_1 rfl ?_
  refine pm_callV (As := [.int za]) (rest := []) hG hR dX12_draw_2 (lkX12_91 _ rfl) okV_X12_isPerson rfl rfl (m_isPerson (d := 2) (by decide) ekc2 (by omega)) rfl rfl hdd (Nat.le_refl _) (Nat.le_refl _) (by decide) (pm_ki (fun v1 σ' cnt' hq => ?_))
  obtain ⟨hq, rfl, rfl⟩ := hq
  rcases hq with ⟨rfl, k3, hk3, ek3⟩ | ⟨rfl, ntk3⟩
  · refine pm_ifN_eq (tgt := 28) hG dX12_draw_5 rfl (by omega) (fun q => absurd q (by omega)) (fun _ => ?_)
    refine pm_iloadn hG dX12_draw_8 rfl ?_
    refine pm_iconst (v := nI 0) hG dX12_draw_9 (by decide) ?_
    refine pm_iconst (v := nI 4) hG dX12_draw_10 (by decide) ?_
    refine pm_callS (As := [.int zb, .int (nI 0), .int (nI 4)]) (rest := []) hG hR dX12_draw_11 (lkX12_68 _ rfl) okS_X12_in (m_in (d := 2)) rfl rfl hdd (Nat.le_refl _) (Nat.le_refl _) (by decide) (pm_ki (fun v4 σ' cnt' hq => ?_))
    obtain ⟨hq, rfl, rfl⟩ := hq
    rcases hq with ⟨rfl, ac5, bc5⟩ | ⟨rfl, c5⟩
    · obtain ⟨k6, hk6, ek6⟩ := in_nat (by omega) (by omega) ac5 bc5
      refine pm_ifN_eq (tgt := 28) hG dX12_draw_14 rfl (by omega) (fun q => absurd q (by omega)) (fun _ => ?_)
      refine pm_iloadn hG dX12_draw_17 rfl ?_
      refine pm_iconst (v := nI 0) hG dX12_draw_18 (by decide) ?_
      refine pm_sipush (v := nI 999) hG dX12_draw_19 (by decide) ?_
      refine pm_callS (As := [.int zc, .int (nI 0), .int (nI 999)]) (rest := []) hG hR dX12_draw_22 (lkX12_68 _ rfl) okS_X12_in (m_in (d := 2)) rfl rfl hdd (Nat.le_refl _) (Nat.le_refl _) (by decide) (pm_ki (fun v7 σ' cnt' hq => ?_))
      obtain ⟨hq, rfl, rfl⟩ := hq
      rcases hq with ⟨rfl, ac8, bc8⟩ | ⟨rfl, c8⟩
      · obtain ⟨k9, hk9, ek9⟩ := in_nat (by omega) (by omega) ac8 bc8
        refine pm_ifN_ne (tgt := 34) hG dX12_draw_25 rfl (by omega) (fun _ => ?_) (fun q => absurd q (by omega))
        refine pm_aloadn hG dX12_draw_34 rfl ?_
        refine pm_iloadn hG dX12_draw_35 rfl ?_
        refine pm_top (v := nI k3) ek3 ?_
        rcases KI.opt hn (show kd (14 * k3 + 119) = (2, 2001, false) from (kd_P (k := k3) (c := 9) (by omega) (by omega) (by decide))) with ek10 | ⟨k10, hk10, ek10⟩
        · refine pm_callV (As := [.int (nI k3)]) (rest := []) hG hR dX12_draw_36 (lkX12_101 _ rfl) okV_X12_lives rfl rfl (m_lives1 (d := 2) (by decide) (by omega) (by omega : 14 * k3 + 119 = 14 * k3 + 119) ek10) rfl rfl hdd (Nat.le_refl _) (Nat.le_refl _) (by decide) (pm_ki (fun v11 σ' cnt' hq => ?_))
          obtain ⟨rfl, rfl, rfl⟩ := hq
          refine pm_ifN_eq (tgt := 51) hG dX12_draw_39 rfl (by omega) (fun q => absurd q (by omega)) (fun _ => ?_)
          refine pm_aloadn hG dX12_draw_42 rfl ?_
          refine pm_iloadn hG dX12_draw_43 rfl ?_
          refine pm_top (v := nI k3) ek3 ?_
          refine pm_iconst (v := nI 4) hG dX12_draw_44 (by decide) ?_
          refine pm_callV (As := [.int (nI k3), .int (nI 4)]) (rest := []) hG hR dX12_draw_45 (lkX12_72 _ rfl) okV_X12_man rfl rfl (m_man (d := 2) (e := 14 * k3 + 114) (by omega) (by omega) (by omega)) rfl rfl hdd (Nat.le_refl _) (Nat.le_refl _) (by decide) (pm_ki (fun v12 σ' cnt' hq => ?_))
          obtain ⟨rfl, rfl, rfl⟩ := hq
          rcases KI.opt hn (show kd (14 * k3 + 114) = (2, 10, false) from (kd_P (k := k3) (c := 4) (by omega) (by omega) (by decide))) with ek13 | ⟨k13, hk13, ek13⟩
          · refine pm_top (v := (-1)) ek13 ?_
            refine pm_if_ge (tgt := 57) hG dX12_draw_48 rfl (fun q => absurd q (by decide)) (fun _ => ?_)
            refine pm_aloadn hG dX12_draw_51 rfl ?_
            refine pm_iconst (v := nI 3) hG dX12_draw_52 (by decide) ?_
            refine pm_callV (As := [.int (nI 3)]) (rest := []) hG hR dX12_draw_53 (lkX12_80 _ rfl) okV_X12_finds rfl rfl (m_finds (d := 2) (by decide) hn hz (by omega)) rfl rfl hdd (Nat.le_refl _) (Nat.le_refl _) (by decide) (pm_ki (fun v14 σ' cnt' hq => ?_))
            obtain ⟨⟨I15, A15, rfl⟩, rfl, fv14⟩ := hq
            exact pm_iret hG hF dX12_draw_56 rfl (Nat.le_refl _) (Nat.le_refl _) ⟨_, rfl, ⟨_, _, _, rfl, hn, hr, ekc0.trans ekc0.symm, ekc2.trans ekc2.symm, ekc8.trans ekc8.symm, KS.rf⟩, rfl⟩
          · refine pm_top (v := nI k13) ek13 ?_
            refine pm_ifN_ge (tgt := 57) hG dX12_draw_48 rfl (by omega) ?_
            refine pm_aloadn hG dX12_draw_57 rfl ?_
            refine pm_getf hG dX12_draw_58 (flX12_7 _ rfl) rfl rfl ?_
            refine pm_iconst (v := nI 5) hG dX12_draw_61 (by decide) ?_
            refine pm_ialdN hG dX12_draw_62 rfl (by decide) (by omega) ?_
            obtain ⟨k16, hk16, ek16⟩ := KI.nat hn (show kd 5 = (1, 41, true) by decide)
            refine pm_top (v := nI k16) ek16 ?_
            refine pm_istoreXi (loc' := [some (.ref (B + 54)), some (.int za), some (.int zb), some (.int zc), some (.int (nI k16)), none]) hG dX12_draw_63 (by decide) (pm_c1b rfl) rfl ?_
            refine pm_iloadi hG dX12_draw_65 rfl ?_
            refine pm_bipush (v := nI 40) hG dX12_draw_67 (by decide) ?_
            refine pm_icmpN_ne (tgt := 78) hG dX12_draw_69 rfl (by omega) (by omega) (fun c17 => ?_) (fun c17 => ?_)
            · refine pm_aloadn hG dX12_draw_78 rfl ?_
              refine pm_getf hG dX12_draw_79 (flX12_7 _ rfl) rfl rfl ?_
              refine pm_iconst (v := nI 5) hG dX12_draw_82 (by decide) ?_
              refine pm_dup2 hG dX12_draw_83 rfl rfl ?_
              refine pm_ialdN hG dX12_draw_84 rfl (by decide) (by omega) ?_
              refine pm_top (v := nI k16) ek16 ?_
              refine pm_iconst (v := nI 1) hG dX12_draw_85 (by decide) ?_
              refine pm_iaddN (c := k16 + 1) hG dX12_draw_86 (by omega) ?_
              refine pm_iastN hG dX12_draw_87 rfl (by decide) (by omega) ?_
              refine mdn_now (fun n_18 en_18 => ?_)
              have hnn_18 := KI.w en_18 hn (okv_n (show kd 5 = (1, 41, true) by decide) (by omega))
              obtain ⟨k19, hk19, ek19⟩ := NRx.some hn ekc2 (by omega) hr
              have hrn_18 := NRx.lett en_18 hr ek19 (by omega) ek16 (by omega)
              have ksn_18 := KS.w en_18 KS.rf (by unfold tS; omega)
              have e20 : n_18 0 = nI kc0 := by rw [en_18, pk_un (by omega)]; exact ekc0
              have e21 : n_18 2 = nI kc2 := by rw [en_18, pk_un (by omega)]; exact ekc2
              have e22 : n_18 8 = nI kc8 := by rw [en_18, pk_un (by omega)]; exact ekc8
              have e23 : n_18 (14 * k3 + 114) = nI k13 := by rw [en_18, pk_un (by omega)]; exact ek13
              have e24 : n_18 5 = nI (k16 + 1) := by rw [en_18, pk_us]
              refine pm_iconst (v := nI 0) hG dX12_draw_88 (by decide) ?_
              refine pm_istoreXi (loc' := [some (.ref (B + 54)), some (.int za), some (.int zb), some (.int zc), some (.int (nI k16)), some (.int (nI 0))]) hG dX12_draw_89 (by decide) (pm_c1b rfl) rfl ?_
              refine pm_iloadi hG dX12_draw_91 rfl ?_
              refine pm_bipush (v := nI 12) hG dX12_draw_93 (by decide) ?_
              refine pm_icmpN_ge (tgt := 143) hG dX12_draw_95 rfl (by omega) (by omega) (fun q => absurd q (by omega)) (fun _ => ?_)
              refine pm_aloadn hG dX12_draw_98 rfl ?_
              refine pm_iloadi hG dX12_draw_99 rfl ?_
              refine pm_iloadi hG dX12_draw_101 rfl ?_
              refine pm_iloadi hG dX12_draw_103 rfl ?_
              refine pm_iconst (v := nI 4) hG dX12_draw_105 (by decide) ?_
              refine pm_icmpN_eq (tgt := 129) hG dX12_draw_106 rfl (by omega) (by omega) (fun q => absurd q (by omega)) (fun _ => ?_)
              refine pm_iloadi hG dX12_draw_109 rfl ?_
              refine pm_iconst (v := nI 5) hG dX12_draw_111 (by decide) ?_
              refine pm_icmpN_eq (tgt := 129) hG dX12_draw_112 rfl (by omega) (by omega) (fun q => absurd q (by omega)) (fun _ => ?_)
              refine pm_iloadi hG dX12_draw_115 rfl ?_
              refine pm_bipush (v := nI 6) hG dX12_draw_117 (by decide) ?_
              refine pm_icmpN_eq (tgt := 129) hG dX12_draw_119 rfl (by omega) (by omega) (fun q => absurd q (by omega)) (fun _ => ?_)
              refine pm_iloadi hG dX12_draw_122 rfl ?_
              refine pm_bipush (v := nI 7) hG dX12_draw_124 (by decide) ?_
              refine pm_icmpN_ne (tgt := 133) hG dX12_draw_126 rfl (by omega) (by omega) (fun _ => ?_) (fun q => absurd q (by omega))
              refine pm_iconst (v := nI 0) hG dX12_draw_133 (by decide) ?_
              refine pm_callV (As := [.int (nI k16), .int (nI 0), .int (nI 0)]) (rest := []) hG hR dX12_draw_134 (lkX12_217 _ rfl) okV_X12_writes rfl rfl (m_writes (d := 2) (e := 12 * k16 + 1290) (by omega) (by omega) (by omega)) rfl rfl hdd (Nat.le_refl _) (Nat.le_refl _) (by decide) (pm_kv (fun σ' cnt' hq => ?_))
              obtain ⟨rfl, rfl⟩ := hq
              obtain ⟨n_25, en_25⟩ : ∃ f : Nat → Int32, f = upd n_18 (12 * k16 + 1290) (nI 0) := ⟨_, rfl⟩
              rw [← en_25]
              have hnn_25 := KI.w en_25 hnn_18 (okv_f (show kd (12 * k16 + 1290) = (0, 0, false) from (kd_E (k := k16) (c := 0) (by omega) (by omega) (by decide))))
              have hrn_25 := NRx.w en_25 hrn_18 (by rw [(show kd (12 * k16 + 1290) = (0, 0, false) from (kd_E (k := k16) (c := 0) (by omega) (by omega) (by decide)))])
              have ksn_25 := KS.w en_25 ksn_18 (by unfold tS; omega)
              have e26 : n_25 0 = nI kc0 := by rw [en_25, pk_un (by omega)]; exact e20
              have e27 : n_25 2 = nI kc2 := by rw [en_25, pk_un (by omega)]; exact e21
              have e28 : n_25 8 = nI kc8 := by rw [en_25, pk_un (by omega)]; exact e22
              have e29 : n_25 (14 * k3 + 114) = nI k13 := by rw [en_25, pk_un (by omega)]; exact e23
              have e30 : n_25 5 = nI (k16 + 1) := by rw [en_25, pk_un (by omega)]; exact e24
              have e31 : n_25 (12 * k16 + 1290) = nI 0 := by rw [en_25, pk_us]
              refine pm_iincX (v := nI 1) (loc' := [some (.ref (B + 54)), some (.int za), some (.int zb), some (.int zc), some (.int (nI k16)), some (.int (nI 1))]) hG dX12_draw_137 rfl (nI_1 _) (by decide) (pm_c1b rfl) rfl ?_
              refine pm_goto (tgt := 91) hG dX12_draw_140 rfl ?_
              refine pm_iloadi hG dX12_draw_91 rfl ?_
              refine pm_bipush (v := nI 12) hG dX12_draw_93 (by decide) ?_
              refine pm_icmpN_ge (tgt := 143) hG dX12_draw_95 rfl (by omega) (by omega) (fun q => absurd q (by omega)) (fun _ => ?_)
              refine pm_aloadn hG dX12_draw_98 rfl ?_
              refine pm_iloadi hG dX12_draw_99 rfl ?_
              refine pm_iloadi hG dX12_draw_101 rfl ?_
              refine pm_iloadi hG dX12_draw_103 rfl ?_
              refine pm_iconst (v := nI 4) hG dX12_draw_105 (by decide) ?_
              refine pm_icmpN_eq (tgt := 129) hG dX12_draw_106 rfl (by omega) (by omega) (fun q => absurd q (by omega)) (fun _ => ?_)
              refine pm_iloadi hG dX12_draw_109 rfl ?_
              refine pm_iconst (v := nI 5) hG dX12_draw_111 (by decide) ?_
              refine pm_icmpN_eq (tgt := 129) hG dX12_draw_112 rfl (by omega) (by omega) (fun q => absurd q (by omega)) (fun _ => ?_)
              refine pm_iloadi hG dX12_draw_115 rfl ?_
              refine pm_bipush (v := nI 6) hG dX12_draw_117 (by decide) ?_
              refine pm_icmpN_eq (tgt := 129) hG dX12_draw_119 rfl (by omega) (by omega) (fun q => absurd q (by omega)) (fun _ => ?_)
              refine pm_iloadi hG dX12_draw_122 rfl ?_
              refine pm_bipush (v := nI 7) hG dX12_draw_124 (by decide) ?_
              refine pm_icmpN_ne (tgt := 133) hG dX12_draw_126 rfl (by omega) (by omega) (fun _ => ?_) (fun q => absurd q (by omega))
              refine pm_iconst (v := nI 0) hG dX12_draw_133 (by decide) ?_
              refine pm_callV (As := [.int (nI k16), .int (nI 1), .int (nI 0)]) (rest := []) hG hR dX12_draw_134 (lkX12_217 _ rfl) okV_X12_writes rfl rfl (m_writes (d := 2) (e := 12 * k16 + 1291) (by omega) (by omega) (by omega)) rfl rfl hdd (Nat.le_refl _) (Nat.le_refl _) (by decide) (pm_kv (fun σ' cnt' hq => ?_))
              obtain ⟨rfl, rfl⟩ := hq
              obtain ⟨n_32, en_32⟩ : ∃ f : Nat → Int32, f = upd n_25 (12 * k16 + 1291) (nI 0) := ⟨_, rfl⟩
              rw [← en_32]
              have hnn_32 := KI.w en_32 hnn_25 (okv_f (show kd (12 * k16 + 1291) = (0, 0, false) from (kd_E (k := k16) (c := 1) (by omega) (by omega) (by decide))))
              have hrn_32 := NRx.w en_32 hrn_25 (by rw [(show kd (12 * k16 + 1291) = (0, 0, false) from (kd_E (k := k16) (c := 1) (by omega) (by omega) (by decide)))])
              have ksn_32 := KS.w en_32 ksn_25 (by unfold tS; omega)
              have e33 : n_32 0 = nI kc0 := by rw [en_32, pk_un (by omega)]; exact e26
              have e34 : n_32 2 = nI kc2 := by rw [en_32, pk_un (by omega)]; exact e27
              have e35 : n_32 8 = nI kc8 := by rw [en_32, pk_un (by omega)]; exact e28
              have e36 : n_32 (14 * k3 + 114) = nI k13 := by rw [en_32, pk_un (by omega)]; exact e29
              have e37 : n_32 5 = nI (k16 + 1) := by rw [en_32, pk_un (by omega)]; exact e30
              have e38 : n_32 (12 * k16 + 1291) = nI 0 := by rw [en_32, pk_us]
              refine pm_iincX (v := nI 2) (loc' := [some (.ref (B + 54)), some (.int za), some (.int zb), some (.int zc), some (.int (nI k16)), some (.int (nI 2))]) hG dX12_draw_137 rfl (nI_1 _) (by decide) (pm_c1b rfl) rfl ?_
              refine pm_goto (tgt := 91) hG dX12_draw_140 rfl ?_
              refine pm_iloadi hG dX12_draw_91 rfl ?_
              refine pm_bipush (v := nI 12) hG dX12_draw_93 (by decide) ?_
              refine pm_icmpN_ge (tgt := 143) hG dX12_draw_95 rfl (by omega) (by omega) (fun q => absurd q (by omega)) (fun _ => ?_)
              refine pm_aloadn hG dX12_draw_98 rfl ?_
              refine pm_iloadi hG dX12_draw_99 rfl ?_
              refine pm_iloadi hG dX12_draw_101 rfl ?_
              refine pm_iloadi hG dX12_draw_103 rfl ?_
              refine pm_iconst (v := nI 4) hG dX12_draw_105 (by decide) ?_
              refine pm_icmpN_eq (tgt := 129) hG dX12_draw_106 rfl (by omega) (by omega) (fun q => absurd q (by omega)) (fun _ => ?_)
              refine pm_iloadi hG dX12_draw_109 rfl ?_
              refine pm_iconst (v := nI 5) hG dX12_draw_111 (by decide) ?_
              refine pm_icmpN_eq (tgt := 129) hG dX12_draw_112 rfl (by omega) (by omega) (fun q => absurd q (by omega)) (fun _ => ?_)
              refine pm_iloadi hG dX12_draw_115 rfl ?_
              refine pm_bipush (v := nI 6) hG dX12_draw_117 (by decide) ?_
              refine pm_icmpN_eq (tgt := 129) hG dX12_draw_119 rfl (by omega) (by omega) (fun q => absurd q (by omega)) (fun _ => ?_)
              refine pm_iloadi hG dX12_draw_122 rfl ?_
              refine pm_bipush (v := nI 7) hG dX12_draw_124 (by decide) ?_
              refine pm_icmpN_ne (tgt := 133) hG dX12_draw_126 rfl (by omega) (by omega) (fun _ => ?_) (fun q => absurd q (by omega))
              refine pm_iconst (v := nI 0) hG dX12_draw_133 (by decide) ?_
              refine pm_callV (As := [.int (nI k16), .int (nI 2), .int (nI 0)]) (rest := []) hG hR dX12_draw_134 (lkX12_217 _ rfl) okV_X12_writes rfl rfl (m_writes (d := 2) (e := 12 * k16 + 1292) (by omega) (by omega) (by omega)) rfl rfl hdd (Nat.le_refl _) (Nat.le_refl _) (by decide) (pm_kv (fun σ' cnt' hq => ?_))
              obtain ⟨rfl, rfl⟩ := hq
              obtain ⟨n_39, en_39⟩ : ∃ f : Nat → Int32, f = upd n_32 (12 * k16 + 1292) (nI 0) := ⟨_, rfl⟩
              rw [← en_39]
              have hnn_39 := KI.w en_39 hnn_32 (okv_n (show kd (12 * k16 + 1292) = (1, 1000, false) from (kd_E (k := k16) (c := 2) (by omega) (by omega) (by decide))) (by omega))
              have hrn_39 := NRx.w en_39 hrn_32 (by rw [(show kd (12 * k16 + 1292) = (1, 1000, false) from (kd_E (k := k16) (c := 2) (by omega) (by omega) (by decide)))])
              have ksn_39 := KS.w en_39 ksn_32 (by unfold tS; omega)
              have e40 : n_39 0 = nI kc0 := by rw [en_39, pk_un (by omega)]; exact e33
              have e41 : n_39 2 = nI kc2 := by rw [en_39, pk_un (by omega)]; exact e34
              have e42 : n_39 8 = nI kc8 := by rw [en_39, pk_un (by omega)]; exact e35
              have e43 : n_39 (14 * k3 + 114) = nI k13 := by rw [en_39, pk_un (by omega)]; exact e36
              have e44 : n_39 5 = nI (k16 + 1) := by rw [en_39, pk_un (by omega)]; exact e37
              have e45 : n_39 (12 * k16 + 1292) = nI 0 := by rw [en_39, pk_us]
              refine pm_iincX (v := nI 3) (loc' := [some (.ref (B + 54)), some (.int za), some (.int zb), some (.int zc), some (.int (nI k16)), some (.int (nI 3))]) hG dX12_draw_137 rfl (nI_1 _) (by decide) (pm_c1b rfl) rfl ?_
              refine pm_goto (tgt := 91) hG dX12_draw_140 rfl ?_
              refine pm_iloadi hG dX12_draw_91 rfl ?_
              refine pm_bipush (v := nI 12) hG dX12_draw_93 (by decide) ?_
              refine pm_icmpN_ge (tgt := 143) hG dX12_draw_95 rfl (by omega) (by omega) (fun q => absurd q (by omega)) (fun _ => ?_)
              refine pm_aloadn hG dX12_draw_98 rfl ?_
              refine pm_iloadi hG dX12_draw_99 rfl ?_
              refine pm_iloadi hG dX12_draw_101 rfl ?_
              refine pm_iloadi hG dX12_draw_103 rfl ?_
              refine pm_iconst (v := nI 4) hG dX12_draw_105 (by decide) ?_
              refine pm_icmpN_eq (tgt := 129) hG dX12_draw_106 rfl (by omega) (by omega) (fun q => absurd q (by omega)) (fun _ => ?_)
              refine pm_iloadi hG dX12_draw_109 rfl ?_
              refine pm_iconst (v := nI 5) hG dX12_draw_111 (by decide) ?_
              refine pm_icmpN_eq (tgt := 129) hG dX12_draw_112 rfl (by omega) (by omega) (fun q => absurd q (by omega)) (fun _ => ?_)
              refine pm_iloadi hG dX12_draw_115 rfl ?_
              refine pm_bipush (v := nI 6) hG dX12_draw_117 (by decide) ?_
              refine pm_icmpN_eq (tgt := 129) hG dX12_draw_119 rfl (by omega) (by omega) (fun q => absurd q (by omega)) (fun _ => ?_)
              refine pm_iloadi hG dX12_draw_122 rfl ?_
              refine pm_bipush (v := nI 7) hG dX12_draw_124 (by decide) ?_
              refine pm_icmpN_ne (tgt := 133) hG dX12_draw_126 rfl (by omega) (by omega) (fun _ => ?_) (fun q => absurd q (by omega))
              refine pm_iconst (v := nI 0) hG dX12_draw_133 (by decide) ?_
              refine pm_callV (As := [.int (nI k16), .int (nI 3), .int (nI 0)]) (rest := []) hG hR dX12_draw_134 (lkX12_217 _ rfl) okV_X12_writes rfl rfl (m_writes (d := 2) (e := 12 * k16 + 1293) (by omega) (by omega) (by omega)) rfl rfl hdd (Nat.le_refl _) (Nat.le_refl _) (by decide) (pm_kv (fun σ' cnt' hq => ?_))
              obtain ⟨rfl, rfl⟩ := hq
              obtain ⟨n_46, en_46⟩ : ∃ f : Nat → Int32, f = upd n_39 (12 * k16 + 1293) (nI 0) := ⟨_, rfl⟩
              rw [← en_46]
              have hnn_46 := KI.w en_46 hnn_39 (okv_f (show kd (12 * k16 + 1293) = (0, 0, false) from (kd_E (k := k16) (c := 3) (by omega) (by omega) (by decide))))
              have hrn_46 := NRx.w en_46 hrn_39 (by rw [(show kd (12 * k16 + 1293) = (0, 0, false) from (kd_E (k := k16) (c := 3) (by omega) (by omega) (by decide)))])
              have ksn_46 := KS.w en_46 ksn_39 (by unfold tS; omega)
              have e47 : n_46 0 = nI kc0 := by rw [en_46, pk_un (by omega)]; exact e40
              have e48 : n_46 2 = nI kc2 := by rw [en_46, pk_un (by omega)]; exact e41
              have e49 : n_46 8 = nI kc8 := by rw [en_46, pk_un (by omega)]; exact e42
              have e50 : n_46 (14 * k3 + 114) = nI k13 := by rw [en_46, pk_un (by omega)]; exact e43
              have e51 : n_46 5 = nI (k16 + 1) := by rw [en_46, pk_un (by omega)]; exact e44
              have e52 : n_46 (12 * k16 + 1293) = nI 0 := by rw [en_46, pk_us]
              refine pm_iincX (v := nI 4) (loc' := [some (.ref (B + 54)), some (.int za), some (.int zb), some (.int zc), some (.int (nI k16)), some (.int (nI 4))]) hG dX12_draw_137 rfl (nI_1 _) (by decide) (pm_c1b rfl) rfl ?_
              refine pm_goto (tgt := 91) hG dX12_draw_140 rfl ?_
              refine pm_iloadi hG dX12_draw_91 rfl ?_
              refine pm_bipush (v := nI 12) hG dX12_draw_93 (by decide) ?_
              refine pm_icmpN_ge (tgt := 143) hG dX12_draw_95 rfl (by omega) (by omega) (fun q => absurd q (by omega)) (fun _ => ?_)
              refine pm_aloadn hG dX12_draw_98 rfl ?_
              refine pm_iloadi hG dX12_draw_99 rfl ?_
              refine pm_iloadi hG dX12_draw_101 rfl ?_
              refine pm_iloadi hG dX12_draw_103 rfl ?_
              refine pm_iconst (v := nI 4) hG dX12_draw_105 (by decide) ?_
              refine pm_icmpN_eq (tgt := 129) hG dX12_draw_106 rfl (by omega) (by omega) (fun _ => ?_) (fun q => absurd q (by omega))
              refine pm_iconst (v := (-1)) hG dX12_draw_129 (by decide) ?_
              refine pm_goto (tgt := 134) hG dX12_draw_130 rfl ?_
              refine pm_callV (As := [.int (nI k16), .int (nI 4), .int (-1)]) (rest := []) hG hR dX12_draw_134 (lkX12_217 _ rfl) okV_X12_writes rfl rfl (m_writes (d := 2) (e := 12 * k16 + 1294) (by omega) (by omega) (by omega)) rfl rfl hdd (Nat.le_refl _) (Nat.le_refl _) (by decide) (pm_kv (fun σ' cnt' hq => ?_))
              obtain ⟨rfl, rfl⟩ := hq
              obtain ⟨n_53, en_53⟩ : ∃ f : Nat → Int32, f = upd n_46 (12 * k16 + 1294) (-1) := ⟨_, rfl⟩
              rw [← en_53]
              have hnn_53 := KI.w en_53 hnn_46 (okv_m (show kd (12 * k16 + 1294) = (2, 20, true) from (kd_E (k := k16) (c := 4) (by omega) (by omega) (by decide))))
              have hrn_53 := NRx.row (l := k16) en_53 (NRx.wk k16 hrn_46) (by omega)
              have ksn_53 := KS.w en_53 ksn_46 (by unfold tS; omega)
              have e54 : n_53 0 = nI kc0 := by rw [en_53, pk_un (by omega)]; exact e47
              have e55 : n_53 2 = nI kc2 := by rw [en_53, pk_un (by omega)]; exact e48
              have e56 : n_53 8 = nI kc8 := by rw [en_53, pk_un (by omega)]; exact e49
              have e57 : n_53 (14 * k3 + 114) = nI k13 := by rw [en_53, pk_un (by omega)]; exact e50
              have e58 : n_53 5 = nI (k16 + 1) := by rw [en_53, pk_un (by omega)]; exact e51
              have e59 : n_53 (12 * k16 + 1294) = (-1) := by rw [en_53, pk_us]
              refine pm_iincX (v := nI 5) (loc' := [some (.ref (B + 54)), some (.int za), some (.int zb), some (.int zc), some (.int (nI k16)), some (.int (nI 5))]) hG dX12_draw_137 rfl (nI_1 _) (by decide) (pm_c1b rfl) rfl ?_
              refine pm_goto (tgt := 91) hG dX12_draw_140 rfl ?_
              refine pm_iloadi hG dX12_draw_91 rfl ?_
              refine pm_bipush (v := nI 12) hG dX12_draw_93 (by decide) ?_
              refine pm_icmpN_ge (tgt := 143) hG dX12_draw_95 rfl (by omega) (by omega) (fun q => absurd q (by omega)) (fun _ => ?_)
              refine pm_aloadn hG dX12_draw_98 rfl ?_
              refine pm_iloadi hG dX12_draw_99 rfl ?_
              refine pm_iloadi hG dX12_draw_101 rfl ?_
              refine pm_iloadi hG dX12_draw_103 rfl ?_
              refine pm_iconst (v := nI 4) hG dX12_draw_105 (by decide) ?_
              refine pm_icmpN_eq (tgt := 129) hG dX12_draw_106 rfl (by omega) (by omega) (fun q => absurd q (by omega)) (fun _ => ?_)
              refine pm_iloadi hG dX12_draw_109 rfl ?_
              refine pm_iconst (v := nI 5) hG dX12_draw_111 (by decide) ?_
              refine pm_icmpN_eq (tgt := 129) hG dX12_draw_112 rfl (by omega) (by omega) (fun _ => ?_) (fun q => absurd q (by omega))
              refine pm_iconst (v := (-1)) hG dX12_draw_129 (by decide) ?_
              refine pm_goto (tgt := 134) hG dX12_draw_130 rfl ?_
              refine pm_callV (As := [.int (nI k16), .int (nI 5), .int (-1)]) (rest := []) hG hR dX12_draw_134 (lkX12_217 _ rfl) okV_X12_writes rfl rfl (m_writes (d := 2) (e := 12 * k16 + 1295) (by omega) (by omega) (by omega)) rfl rfl hdd (Nat.le_refl _) (Nat.le_refl _) (by decide) (pm_kv (fun σ' cnt' hq => ?_))
              obtain ⟨rfl, rfl⟩ := hq
              obtain ⟨n_60, en_60⟩ : ∃ f : Nat → Int32, f = upd n_53 (12 * k16 + 1295) (-1) := ⟨_, rfl⟩
              rw [← en_60]
              have hnn_60 := KI.w en_60 hnn_53 (okv_f (show kd (12 * k16 + 1295) = (0, 0, false) from (kd_E (k := k16) (c := 5) (by omega) (by omega) (by decide))))
              have hrn_60 := NRx.w en_60 hrn_53 (by rw [(show kd (12 * k16 + 1295) = (0, 0, false) from (kd_E (k := k16) (c := 5) (by omega) (by omega) (by decide)))])
              have ksn_60 := KS.w en_60 ksn_53 (by unfold tS; omega)
              have e61 : n_60 0 = nI kc0 := by rw [en_60, pk_un (by omega)]; exact e54
              have e62 : n_60 2 = nI kc2 := by rw [en_60, pk_un (by omega)]; exact e55
              have e63 : n_60 8 = nI kc8 := by rw [en_60, pk_un (by omega)]; exact e56
              have e64 : n_60 (14 * k3 + 114) = nI k13 := by rw [en_60, pk_un (by omega)]; exact e57
              have e65 : n_60 5 = nI (k16 + 1) := by rw [en_60, pk_un (by omega)]; exact e58
              have e66 : n_60 (12 * k16 + 1295) = (-1) := by rw [en_60, pk_us]
              refine pm_iincX (v := nI 6) (loc' := [some (.ref (B + 54)), some (.int za), some (.int zb), some (.int zc), some (.int (nI k16)), some (.int (nI 6))]) hG dX12_draw_137 rfl (nI_1 _) (by decide) (pm_c1b rfl) rfl ?_
              refine pm_goto (tgt := 91) hG dX12_draw_140 rfl ?_
              refine pm_iloadi hG dX12_draw_91 rfl ?_
              refine pm_bipush (v := nI 12) hG dX12_draw_93 (by decide) ?_
              refine pm_icmpN_ge (tgt := 143) hG dX12_draw_95 rfl (by omega) (by omega) (fun q => absurd q (by omega)) (fun _ => ?_)
              refine pm_aloadn hG dX12_draw_98 rfl ?_
              refine pm_iloadi hG dX12_draw_99 rfl ?_
              refine pm_iloadi hG dX12_draw_101 rfl ?_
              refine pm_iloadi hG dX12_draw_103 rfl ?_
              refine pm_iconst (v := nI 4) hG dX12_draw_105 (by decide) ?_
              refine pm_icmpN_eq (tgt := 129) hG dX12_draw_106 rfl (by omega) (by omega) (fun q => absurd q (by omega)) (fun _ => ?_)
              refine pm_iloadi hG dX12_draw_109 rfl ?_
              refine pm_iconst (v := nI 5) hG dX12_draw_111 (by decide) ?_
              refine pm_icmpN_eq (tgt := 129) hG dX12_draw_112 rfl (by omega) (by omega) (fun q => absurd q (by omega)) (fun _ => ?_)
              refine pm_iloadi hG dX12_draw_115 rfl ?_
              refine pm_bipush (v := nI 6) hG dX12_draw_117 (by decide) ?_
              refine pm_icmpN_eq (tgt := 129) hG dX12_draw_119 rfl (by omega) (by omega) (fun _ => ?_) (fun q => absurd q (by omega))
              refine pm_iconst (v := (-1)) hG dX12_draw_129 (by decide) ?_
              refine pm_goto (tgt := 134) hG dX12_draw_130 rfl ?_
              refine pm_callV (As := [.int (nI k16), .int (nI 6), .int (-1)]) (rest := []) hG hR dX12_draw_134 (lkX12_217 _ rfl) okV_X12_writes rfl rfl (m_writes (d := 2) (e := 12 * k16 + 1296) (by omega) (by omega) (by omega)) rfl rfl hdd (Nat.le_refl _) (Nat.le_refl _) (by decide) (pm_kv (fun σ' cnt' hq => ?_))
              obtain ⟨rfl, rfl⟩ := hq
              obtain ⟨n_67, en_67⟩ : ∃ f : Nat → Int32, f = upd n_60 (12 * k16 + 1296) (-1) := ⟨_, rfl⟩
              rw [← en_67]
              have hnn_67 := KI.w en_67 hnn_60 (okv_f (show kd (12 * k16 + 1296) = (0, 0, true) from (kd_E (k := k16) (c := 6) (by omega) (by omega) (by decide))))
              have hrn_67 := NRx.row (l := k16) en_67 hrn_60 (by omega)
              have ksn_67 := KS.w en_67 ksn_60 (by unfold tS; omega)
              have e68 : n_67 0 = nI kc0 := by rw [en_67, pk_un (by omega)]; exact e61
              have e69 : n_67 2 = nI kc2 := by rw [en_67, pk_un (by omega)]; exact e62
              have e70 : n_67 8 = nI kc8 := by rw [en_67, pk_un (by omega)]; exact e63
              have e71 : n_67 (14 * k3 + 114) = nI k13 := by rw [en_67, pk_un (by omega)]; exact e64
              have e72 : n_67 5 = nI (k16 + 1) := by rw [en_67, pk_un (by omega)]; exact e65
              have e73 : n_67 (12 * k16 + 1296) = (-1) := by rw [en_67, pk_us]
              refine pm_iincX (v := nI 7) (loc' := [some (.ref (B + 54)), some (.int za), some (.int zb), some (.int zc), some (.int (nI k16)), some (.int (nI 7))]) hG dX12_draw_137 rfl (nI_1 _) (by decide) (pm_c1b rfl) rfl ?_
              refine pm_goto (tgt := 91) hG dX12_draw_140 rfl ?_
              refine pm_iloadi hG dX12_draw_91 rfl ?_
              refine pm_bipush (v := nI 12) hG dX12_draw_93 (by decide) ?_
              refine pm_icmpN_ge (tgt := 143) hG dX12_draw_95 rfl (by omega) (by omega) (fun q => absurd q (by omega)) (fun _ => ?_)
              refine pm_aloadn hG dX12_draw_98 rfl ?_
              refine pm_iloadi hG dX12_draw_99 rfl ?_
              refine pm_iloadi hG dX12_draw_101 rfl ?_
              refine pm_iloadi hG dX12_draw_103 rfl ?_
              refine pm_iconst (v := nI 4) hG dX12_draw_105 (by decide) ?_
              refine pm_icmpN_eq (tgt := 129) hG dX12_draw_106 rfl (by omega) (by omega) (fun q => absurd q (by omega)) (fun _ => ?_)
              refine pm_iloadi hG dX12_draw_109 rfl ?_
              refine pm_iconst (v := nI 5) hG dX12_draw_111 (by decide) ?_
              refine pm_icmpN_eq (tgt := 129) hG dX12_draw_112 rfl (by omega) (by omega) (fun q => absurd q (by omega)) (fun _ => ?_)
              refine pm_iloadi hG dX12_draw_115 rfl ?_
              refine pm_bipush (v := nI 6) hG dX12_draw_117 (by decide) ?_
              refine pm_icmpN_eq (tgt := 129) hG dX12_draw_119 rfl (by omega) (by omega) (fun q => absurd q (by omega)) (fun _ => ?_)
              refine pm_iloadi hG dX12_draw_122 rfl ?_
              refine pm_bipush (v := nI 7) hG dX12_draw_124 (by decide) ?_
              refine pm_icmpN_ne (tgt := 133) hG dX12_draw_126 rfl (by omega) (by omega) (fun q => absurd q (by omega)) (fun _ => ?_)
              refine pm_iconst (v := (-1)) hG dX12_draw_129 (by decide) ?_
              refine pm_goto (tgt := 134) hG dX12_draw_130 rfl ?_
              refine pm_callV (As := [.int (nI k16), .int (nI 7), .int (-1)]) (rest := []) hG hR dX12_draw_134 (lkX12_217 _ rfl) okV_X12_writes rfl rfl (m_writes (d := 2) (e := 12 * k16 + 1297) (by omega) (by omega) (by omega)) rfl rfl hdd (Nat.le_refl _) (Nat.le_refl _) (by decide) (pm_kv (fun σ' cnt' hq => ?_))
              obtain ⟨rfl, rfl⟩ := hq
              obtain ⟨n_74, en_74⟩ : ∃ f : Nat → Int32, f = upd n_67 (12 * k16 + 1297) (-1) := ⟨_, rfl⟩
              rw [← en_74]
              have hnn_74 := KI.w en_74 hnn_67 (okv_f (show kd (12 * k16 + 1297) = (0, 0, false) from (kd_E (k := k16) (c := 7) (by omega) (by omega) (by decide))))
              have hrn_74 := NRx.w en_74 hrn_67 (by rw [(show kd (12 * k16 + 1297) = (0, 0, false) from (kd_E (k := k16) (c := 7) (by omega) (by omega) (by decide)))])
              have ksn_74 := KS.w en_74 ksn_67 (by unfold tS; omega)
              have e75 : n_74 0 = nI kc0 := by rw [en_74, pk_un (by omega)]; exact e68
              have e76 : n_74 2 = nI kc2 := by rw [en_74, pk_un (by omega)]; exact e69
              have e77 : n_74 8 = nI kc8 := by rw [en_74, pk_un (by omega)]; exact e70
              have e78 : n_74 (14 * k3 + 114) = nI k13 := by rw [en_74, pk_un (by omega)]; exact e71
              have e79 : n_74 5 = nI (k16 + 1) := by rw [en_74, pk_un (by omega)]; exact e72
              have e80 : n_74 (12 * k16 + 1296) = (-1) := by rw [en_74, pk_un (by omega)]; exact e73
              have e81 : n_74 (12 * k16 + 1297) = (-1) := by rw [en_74, pk_us]
              refine pm_iincX (v := nI 8) (loc' := [some (.ref (B + 54)), some (.int za), some (.int zb), some (.int zc), some (.int (nI k16)), some (.int (nI 8))]) hG dX12_draw_137 rfl (nI_1 _) (by decide) (pm_c1b rfl) rfl ?_
              refine pm_goto (tgt := 91) hG dX12_draw_140 rfl ?_
              refine pm_iloadi hG dX12_draw_91 rfl ?_
              refine pm_bipush (v := nI 12) hG dX12_draw_93 (by decide) ?_
              refine pm_icmpN_ge (tgt := 143) hG dX12_draw_95 rfl (by omega) (by omega) (fun q => absurd q (by omega)) (fun _ => ?_)
              refine pm_aloadn hG dX12_draw_98 rfl ?_
              refine pm_iloadi hG dX12_draw_99 rfl ?_
              refine pm_iloadi hG dX12_draw_101 rfl ?_
              refine pm_iloadi hG dX12_draw_103 rfl ?_
              refine pm_iconst (v := nI 4) hG dX12_draw_105 (by decide) ?_
              refine pm_icmpN_eq (tgt := 129) hG dX12_draw_106 rfl (by omega) (by omega) (fun q => absurd q (by omega)) (fun _ => ?_)
              refine pm_iloadi hG dX12_draw_109 rfl ?_
              refine pm_iconst (v := nI 5) hG dX12_draw_111 (by decide) ?_
              refine pm_icmpN_eq (tgt := 129) hG dX12_draw_112 rfl (by omega) (by omega) (fun q => absurd q (by omega)) (fun _ => ?_)
              refine pm_iloadi hG dX12_draw_115 rfl ?_
              refine pm_bipush (v := nI 6) hG dX12_draw_117 (by decide) ?_
              refine pm_icmpN_eq (tgt := 129) hG dX12_draw_119 rfl (by omega) (by omega) (fun q => absurd q (by omega)) (fun _ => ?_)
              refine pm_iloadi hG dX12_draw_122 rfl ?_
              refine pm_bipush (v := nI 7) hG dX12_draw_124 (by decide) ?_
              refine pm_icmpN_ne (tgt := 133) hG dX12_draw_126 rfl (by omega) (by omega) (fun _ => ?_) (fun q => absurd q (by omega))
              refine pm_iconst (v := nI 0) hG dX12_draw_133 (by decide) ?_
              refine pm_callV (As := [.int (nI k16), .int (nI 8), .int (nI 0)]) (rest := []) hG hR dX12_draw_134 (lkX12_217 _ rfl) okV_X12_writes rfl rfl (m_writes (d := 2) (e := 12 * k16 + 1298) (by omega) (by omega) (by omega)) rfl rfl hdd (Nat.le_refl _) (Nat.le_refl _) (by decide) (pm_kv (fun σ' cnt' hq => ?_))
              obtain ⟨rfl, rfl⟩ := hq
              obtain ⟨n_82, en_82⟩ : ∃ f : Nat → Int32, f = upd n_74 (12 * k16 + 1298) (nI 0) := ⟨_, rfl⟩
              rw [← en_82]
              have hnn_82 := KI.w en_82 hnn_74 (okv_f (show kd (12 * k16 + 1298) = (0, 0, false) from (kd_E (k := k16) (c := 8) (by omega) (by omega) (by decide))))
              have hrn_82 := NRx.w en_82 hrn_74 (by rw [(show kd (12 * k16 + 1298) = (0, 0, false) from (kd_E (k := k16) (c := 8) (by omega) (by omega) (by decide)))])
              have ksn_82 := KS.w en_82 ksn_74 (by unfold tS; omega)
              have e83 : n_82 0 = nI kc0 := by rw [en_82, pk_un (by omega)]; exact e75
              have e84 : n_82 2 = nI kc2 := by rw [en_82, pk_un (by omega)]; exact e76
              have e85 : n_82 8 = nI kc8 := by rw [en_82, pk_un (by omega)]; exact e77
              have e86 : n_82 (14 * k3 + 114) = nI k13 := by rw [en_82, pk_un (by omega)]; exact e78
              have e87 : n_82 5 = nI (k16 + 1) := by rw [en_82, pk_un (by omega)]; exact e79
              have e88 : n_82 (12 * k16 + 1296) = (-1) := by rw [en_82, pk_un (by omega)]; exact e80
              have e89 : n_82 (12 * k16 + 1298) = nI 0 := by rw [en_82, pk_us]
              refine pm_iincX (v := nI 9) (loc' := [some (.ref (B + 54)), some (.int za), some (.int zb), some (.int zc), some (.int (nI k16)), some (.int (nI 9))]) hG dX12_draw_137 rfl (nI_1 _) (by decide) (pm_c1b rfl) rfl ?_
              refine pm_goto (tgt := 91) hG dX12_draw_140 rfl ?_
              refine pm_iloadi hG dX12_draw_91 rfl ?_
              refine pm_bipush (v := nI 12) hG dX12_draw_93 (by decide) ?_
              refine pm_icmpN_ge (tgt := 143) hG dX12_draw_95 rfl (by omega) (by omega) (fun q => absurd q (by omega)) (fun _ => ?_)
              refine pm_aloadn hG dX12_draw_98 rfl ?_
              refine pm_iloadi hG dX12_draw_99 rfl ?_
              refine pm_iloadi hG dX12_draw_101 rfl ?_
              refine pm_iloadi hG dX12_draw_103 rfl ?_
              refine pm_iconst (v := nI 4) hG dX12_draw_105 (by decide) ?_
              refine pm_icmpN_eq (tgt := 129) hG dX12_draw_106 rfl (by omega) (by omega) (fun q => absurd q (by omega)) (fun _ => ?_)
              refine pm_iloadi hG dX12_draw_109 rfl ?_
              refine pm_iconst (v := nI 5) hG dX12_draw_111 (by decide) ?_
              refine pm_icmpN_eq (tgt := 129) hG dX12_draw_112 rfl (by omega) (by omega) (fun q => absurd q (by omega)) (fun _ => ?_)
              refine pm_iloadi hG dX12_draw_115 rfl ?_
              refine pm_bipush (v := nI 6) hG dX12_draw_117 (by decide) ?_
              refine pm_icmpN_eq (tgt := 129) hG dX12_draw_119 rfl (by omega) (by omega) (fun q => absurd q (by omega)) (fun _ => ?_)
              refine pm_iloadi hG dX12_draw_122 rfl ?_
              refine pm_bipush (v := nI 7) hG dX12_draw_124 (by decide) ?_
              refine pm_icmpN_ne (tgt := 133) hG dX12_draw_126 rfl (by omega) (by omega) (fun _ => ?_) (fun q => absurd q (by omega))
              refine pm_iconst (v := nI 0) hG dX12_draw_133 (by decide) ?_
              refine pm_callV (As := [.int (nI k16), .int (nI 9), .int (nI 0)]) (rest := []) hG hR dX12_draw_134 (lkX12_217 _ rfl) okV_X12_writes rfl rfl (m_writes (d := 2) (e := 12 * k16 + 1299) (by omega) (by omega) (by omega)) rfl rfl hdd (Nat.le_refl _) (Nat.le_refl _) (by decide) (pm_kv (fun σ' cnt' hq => ?_))
              obtain ⟨rfl, rfl⟩ := hq
              obtain ⟨n_90, en_90⟩ : ∃ f : Nat → Int32, f = upd n_82 (12 * k16 + 1299) (nI 0) := ⟨_, rfl⟩
              rw [← en_90]
              have hnn_90 := KI.w en_90 hnn_82 (okv_f (show kd (12 * k16 + 1299) = (0, 0, false) from (kd_E (k := k16) (c := 9) (by omega) (by omega) (by decide))))
              have hrn_90 := NRx.w en_90 hrn_82 (by rw [(show kd (12 * k16 + 1299) = (0, 0, false) from (kd_E (k := k16) (c := 9) (by omega) (by omega) (by decide)))])
              have ksn_90 := KS.w en_90 ksn_82 (by unfold tS; omega)
              have e91 : n_90 0 = nI kc0 := by rw [en_90, pk_un (by omega)]; exact e83
              have e92 : n_90 2 = nI kc2 := by rw [en_90, pk_un (by omega)]; exact e84
              have e93 : n_90 8 = nI kc8 := by rw [en_90, pk_un (by omega)]; exact e85
              have e94 : n_90 (14 * k3 + 114) = nI k13 := by rw [en_90, pk_un (by omega)]; exact e86
              have e95 : n_90 5 = nI (k16 + 1) := by rw [en_90, pk_un (by omega)]; exact e87
              have e96 : n_90 (12 * k16 + 1296) = (-1) := by rw [en_90, pk_un (by omega)]; exact e88
              have e97 : n_90 (12 * k16 + 1299) = nI 0 := by rw [en_90, pk_us]
              refine pm_iincX (v := nI 10) (loc' := [some (.ref (B + 54)), some (.int za), some (.int zb), some (.int zc), some (.int (nI k16)), some (.int (nI 10))]) hG dX12_draw_137 rfl (nI_1 _) (by decide) (pm_c1b rfl) rfl ?_
              refine pm_goto (tgt := 91) hG dX12_draw_140 rfl ?_
              refine pm_iloadi hG dX12_draw_91 rfl ?_
              refine pm_bipush (v := nI 12) hG dX12_draw_93 (by decide) ?_
              refine pm_icmpN_ge (tgt := 143) hG dX12_draw_95 rfl (by omega) (by omega) (fun q => absurd q (by omega)) (fun _ => ?_)
              refine pm_aloadn hG dX12_draw_98 rfl ?_
              refine pm_iloadi hG dX12_draw_99 rfl ?_
              refine pm_iloadi hG dX12_draw_101 rfl ?_
              refine pm_iloadi hG dX12_draw_103 rfl ?_
              refine pm_iconst (v := nI 4) hG dX12_draw_105 (by decide) ?_
              refine pm_icmpN_eq (tgt := 129) hG dX12_draw_106 rfl (by omega) (by omega) (fun q => absurd q (by omega)) (fun _ => ?_)
              refine pm_iloadi hG dX12_draw_109 rfl ?_
              refine pm_iconst (v := nI 5) hG dX12_draw_111 (by decide) ?_
              refine pm_icmpN_eq (tgt := 129) hG dX12_draw_112 rfl (by omega) (by omega) (fun q => absurd q (by omega)) (fun _ => ?_)
              refine pm_iloadi hG dX12_draw_115 rfl ?_
              refine pm_bipush (v := nI 6) hG dX12_draw_117 (by decide) ?_
              refine pm_icmpN_eq (tgt := 129) hG dX12_draw_119 rfl (by omega) (by omega) (fun q => absurd q (by omega)) (fun _ => ?_)
              refine pm_iloadi hG dX12_draw_122 rfl ?_
              refine pm_bipush (v := nI 7) hG dX12_draw_124 (by decide) ?_
              refine pm_icmpN_ne (tgt := 133) hG dX12_draw_126 rfl (by omega) (by omega) (fun _ => ?_) (fun q => absurd q (by omega))
              refine pm_iconst (v := nI 0) hG dX12_draw_133 (by decide) ?_
              refine pm_callV (As := [.int (nI k16), .int (nI 10), .int (nI 0)]) (rest := []) hG hR dX12_draw_134 (lkX12_217 _ rfl) okV_X12_writes rfl rfl (m_writes (d := 2) (e := 12 * k16 + 1300) (by omega) (by omega) (by omega)) rfl rfl hdd (Nat.le_refl _) (Nat.le_refl _) (by decide) (pm_kv (fun σ' cnt' hq => ?_))
              obtain ⟨rfl, rfl⟩ := hq
              obtain ⟨n_98, en_98⟩ : ∃ f : Nat → Int32, f = upd n_90 (12 * k16 + 1300) (nI 0) := ⟨_, rfl⟩
              rw [← en_98]
              have hnn_98 := KI.w en_98 hnn_90 (okv_n (show kd (12 * k16 + 1300) = (1, 10, false) from (kd_E (k := k16) (c := 10) (by omega) (by omega) (by decide))) (by omega))
              have hrn_98 := NRx.w en_98 hrn_90 (by rw [(show kd (12 * k16 + 1300) = (1, 10, false) from (kd_E (k := k16) (c := 10) (by omega) (by omega) (by decide)))])
              have ksn_98 := KS.w en_98 ksn_90 (by unfold tS; omega)
              have e99 : n_98 0 = nI kc0 := by rw [en_98, pk_un (by omega)]; exact e91
              have e100 : n_98 2 = nI kc2 := by rw [en_98, pk_un (by omega)]; exact e92
              have e101 : n_98 8 = nI kc8 := by rw [en_98, pk_un (by omega)]; exact e93
              have e102 : n_98 (14 * k3 + 114) = nI k13 := by rw [en_98, pk_un (by omega)]; exact e94
              have e103 : n_98 5 = nI (k16 + 1) := by rw [en_98, pk_un (by omega)]; exact e95
              have e104 : n_98 (12 * k16 + 1296) = (-1) := by rw [en_98, pk_un (by omega)]; exact e96
              have e105 : n_98 (12 * k16 + 1300) = nI 0 := by rw [en_98, pk_us]
              refine pm_iincX (v := nI 11) (loc' := [some (.ref (B + 54)), some (.int za), some (.int zb), some (.int zc), some (.int (nI k16)), some (.int (nI 11))]) hG dX12_draw_137 rfl (nI_1 _) (by decide) (pm_c1b rfl) rfl ?_
              refine pm_goto (tgt := 91) hG dX12_draw_140 rfl ?_
              refine pm_iloadi hG dX12_draw_91 rfl ?_
              refine pm_bipush (v := nI 12) hG dX12_draw_93 (by decide) ?_
              refine pm_icmpN_ge (tgt := 143) hG dX12_draw_95 rfl (by omega) (by omega) (fun q => absurd q (by omega)) (fun _ => ?_)
              refine pm_aloadn hG dX12_draw_98 rfl ?_
              refine pm_iloadi hG dX12_draw_99 rfl ?_
              refine pm_iloadi hG dX12_draw_101 rfl ?_
              refine pm_iloadi hG dX12_draw_103 rfl ?_
              refine pm_iconst (v := nI 4) hG dX12_draw_105 (by decide) ?_
              refine pm_icmpN_eq (tgt := 129) hG dX12_draw_106 rfl (by omega) (by omega) (fun q => absurd q (by omega)) (fun _ => ?_)
              refine pm_iloadi hG dX12_draw_109 rfl ?_
              refine pm_iconst (v := nI 5) hG dX12_draw_111 (by decide) ?_
              refine pm_icmpN_eq (tgt := 129) hG dX12_draw_112 rfl (by omega) (by omega) (fun q => absurd q (by omega)) (fun _ => ?_)
              refine pm_iloadi hG dX12_draw_115 rfl ?_
              refine pm_bipush (v := nI 6) hG dX12_draw_117 (by decide) ?_
              refine pm_icmpN_eq (tgt := 129) hG dX12_draw_119 rfl (by omega) (by omega) (fun q => absurd q (by omega)) (fun _ => ?_)
              refine pm_iloadi hG dX12_draw_122 rfl ?_
              refine pm_bipush (v := nI 7) hG dX12_draw_124 (by decide) ?_
              refine pm_icmpN_ne (tgt := 133) hG dX12_draw_126 rfl (by omega) (by omega) (fun _ => ?_) (fun q => absurd q (by omega))
              refine pm_iconst (v := nI 0) hG dX12_draw_133 (by decide) ?_
              refine pm_callV (As := [.int (nI k16), .int (nI 11), .int (nI 0)]) (rest := []) hG hR dX12_draw_134 (lkX12_217 _ rfl) okV_X12_writes rfl rfl (m_writes (d := 2) (e := 12 * k16 + 1301) (by omega) (by omega) (by omega)) rfl rfl hdd (Nat.le_refl _) (Nat.le_refl _) (by decide) (pm_kv (fun σ' cnt' hq => ?_))
              obtain ⟨rfl, rfl⟩ := hq
              obtain ⟨n_106, en_106⟩ : ∃ f : Nat → Int32, f = upd n_98 (12 * k16 + 1301) (nI 0) := ⟨_, rfl⟩
              rw [← en_106]
              have hnn_106 := KI.w en_106 hnn_98 (okv_f (show kd (12 * k16 + 1301) = (0, 0, false) from (kd_E (k := k16) (c := 11) (by omega) (by omega) (by decide))))
              have hrn_106 := NRx.w en_106 hrn_98 (by rw [(show kd (12 * k16 + 1301) = (0, 0, false) from (kd_E (k := k16) (c := 11) (by omega) (by omega) (by decide)))])
              have ksn_106 := KS.w en_106 ksn_98 (by unfold tS; omega)
              have e107 : n_106 0 = nI kc0 := by rw [en_106, pk_un (by omega)]; exact e99
              have e108 : n_106 2 = nI kc2 := by rw [en_106, pk_un (by omega)]; exact e100
              have e109 : n_106 8 = nI kc8 := by rw [en_106, pk_un (by omega)]; exact e101
              have e110 : n_106 (14 * k3 + 114) = nI k13 := by rw [en_106, pk_un (by omega)]; exact e102
              have e111 : n_106 5 = nI (k16 + 1) := by rw [en_106, pk_un (by omega)]; exact e103
              have e112 : n_106 (12 * k16 + 1296) = (-1) := by rw [en_106, pk_un (by omega)]; exact e104
              have e113 : n_106 (12 * k16 + 1301) = nI 0 := by rw [en_106, pk_us]
              refine pm_iincX (v := nI 12) (loc' := [some (.ref (B + 54)), some (.int za), some (.int zb), some (.int zc), some (.int (nI k16)), some (.int (nI 12))]) hG dX12_draw_137 rfl (nI_1 _) (by decide) (pm_c1b rfl) rfl ?_
              refine pm_goto (tgt := 91) hG dX12_draw_140 rfl ?_
              refine pm_iloadi hG dX12_draw_91 rfl ?_
              refine pm_bipush (v := nI 12) hG dX12_draw_93 (by decide) ?_
              refine pm_icmpN_ge (tgt := 143) hG dX12_draw_95 rfl (by omega) (by omega) (fun _ => ?_) (fun q => absurd q (by omega))
              refine pm_aloadn hG dX12_draw_143 rfl ?_
              refine pm_iloadi hG dX12_draw_144 rfl ?_
              refine pm_iconst (v := nI 0) hG dX12_draw_146 (by decide) ?_
              refine pm_iloadn hG dX12_draw_147 rfl ?_
              refine pm_top (v := nI k3) ek3 ?_
              refine pm_callV (As := [.int (nI k16), .int (nI 0), .int (nI k3)]) (rest := []) hG hR dX12_draw_148 (lkX12_217 _ rfl) okV_X12_writes rfl rfl (m_writes (d := 2) (e := 12 * k16 + 1290) (by omega) (by omega) (by omega)) rfl rfl hdd (Nat.le_refl _) (Nat.le_refl _) (by decide) (pm_kv (fun σ' cnt' hq => ?_))
              obtain ⟨rfl, rfl⟩ := hq
              obtain ⟨n_114, en_114⟩ : ∃ f : Nat → Int32, f = upd n_106 (12 * k16 + 1290) (nI k3) := ⟨_, rfl⟩
              rw [← en_114]
              have hnn_114 := KI.w en_114 hnn_106 (okv_f (show kd (12 * k16 + 1290) = (0, 0, false) from (kd_E (k := k16) (c := 0) (by omega) (by omega) (by decide))))
              have hrn_114 := NRx.w en_114 hrn_106 (by rw [(show kd (12 * k16 + 1290) = (0, 0, false) from (kd_E (k := k16) (c := 0) (by omega) (by omega) (by decide)))])
              have ksn_114 := KS.w en_114 ksn_106 (by unfold tS; omega)
              have e115 : n_114 0 = nI kc0 := by rw [en_114, pk_un (by omega)]; exact e107
              have e116 : n_114 2 = nI kc2 := by rw [en_114, pk_un (by omega)]; exact e108
              have e117 : n_114 8 = nI kc8 := by rw [en_114, pk_un (by omega)]; exact e109
              have e118 : n_114 (14 * k3 + 114) = nI k13 := by rw [en_114, pk_un (by omega)]; exact e110
              have e119 : n_114 5 = nI (k16 + 1) := by rw [en_114, pk_un (by omega)]; exact e111
              have e120 : n_114 (12 * k16 + 1296) = (-1) := by rw [en_114, pk_un (by omega)]; exact e112
              have e121 : n_114 (12 * k16 + 1290) = nI k3 := by rw [en_114, pk_us]
              refine pm_aloadn hG dX12_draw_151 rfl ?_
              refine pm_iloadi hG dX12_draw_152 rfl ?_
              refine pm_iconst (v := nI 1) hG dX12_draw_154 (by decide) ?_
              refine pm_iloadn hG dX12_draw_155 rfl ?_
              refine pm_top (v := nI k6) ek6 ?_
              refine pm_callV (As := [.int (nI k16), .int (nI 1), .int (nI k6)]) (rest := []) hG hR dX12_draw_156 (lkX12_217 _ rfl) okV_X12_writes rfl rfl (m_writes (d := 2) (e := 12 * k16 + 1291) (by omega) (by omega) (by omega)) rfl rfl hdd (Nat.le_refl _) (Nat.le_refl _) (by decide) (pm_kv (fun σ' cnt' hq => ?_))
              obtain ⟨rfl, rfl⟩ := hq
              obtain ⟨n_122, en_122⟩ : ∃ f : Nat → Int32, f = upd n_114 (12 * k16 + 1291) (nI k6) := ⟨_, rfl⟩
              rw [← en_122]
              have hnn_122 := KI.w en_122 hnn_114 (okv_f (show kd (12 * k16 + 1291) = (0, 0, false) from (kd_E (k := k16) (c := 1) (by omega) (by omega) (by decide))))
              have hrn_122 := NRx.w en_122 hrn_114 (by rw [(show kd (12 * k16 + 1291) = (0, 0, false) from (kd_E (k := k16) (c := 1) (by omega) (by omega) (by decide)))])
              have ksn_122 := KS.w en_122 ksn_114 (by unfold tS; omega)
              have e123 : n_122 0 = nI kc0 := by rw [en_122, pk_un (by omega)]; exact e115
              have e124 : n_122 2 = nI kc2 := by rw [en_122, pk_un (by omega)]; exact e116
              have e125 : n_122 8 = nI kc8 := by rw [en_122, pk_un (by omega)]; exact e117
              have e126 : n_122 (14 * k3 + 114) = nI k13 := by rw [en_122, pk_un (by omega)]; exact e118
              have e127 : n_122 5 = nI (k16 + 1) := by rw [en_122, pk_un (by omega)]; exact e119
              have e128 : n_122 (12 * k16 + 1296) = (-1) := by rw [en_122, pk_un (by omega)]; exact e120
              have e129 : n_122 (12 * k16 + 1291) = nI k6 := by rw [en_122, pk_us]
              refine pm_aloadn hG dX12_draw_159 rfl ?_
              refine pm_iloadi hG dX12_draw_160 rfl ?_
              refine pm_iconst (v := nI 2) hG dX12_draw_162 (by decide) ?_
              refine pm_iloadn hG dX12_draw_163 rfl ?_
              refine pm_top (v := nI k9) ek9 ?_
              refine pm_callV (As := [.int (nI k16), .int (nI 2), .int (nI k9)]) (rest := []) hG hR dX12_draw_164 (lkX12_217 _ rfl) okV_X12_writes rfl rfl (m_writes (d := 2) (e := 12 * k16 + 1292) (by omega) (by omega) (by omega)) rfl rfl hdd (Nat.le_refl _) (Nat.le_refl _) (by decide) (pm_kv (fun σ' cnt' hq => ?_))
              obtain ⟨rfl, rfl⟩ := hq
              obtain ⟨n_130, en_130⟩ : ∃ f : Nat → Int32, f = upd n_122 (12 * k16 + 1292) (nI k9) := ⟨_, rfl⟩
              rw [← en_130]
              have hnn_130 := KI.w en_130 hnn_122 (okv_n (show kd (12 * k16 + 1292) = (1, 1000, false) from (kd_E (k := k16) (c := 2) (by omega) (by omega) (by decide))) (by omega))
              have hrn_130 := NRx.w en_130 hrn_122 (by rw [(show kd (12 * k16 + 1292) = (1, 1000, false) from (kd_E (k := k16) (c := 2) (by omega) (by omega) (by decide)))])
              have ksn_130 := KS.w en_130 ksn_122 (by unfold tS; omega)
              have e131 : n_130 0 = nI kc0 := by rw [en_130, pk_un (by omega)]; exact e123
              have e132 : n_130 2 = nI kc2 := by rw [en_130, pk_un (by omega)]; exact e124
              have e133 : n_130 8 = nI kc8 := by rw [en_130, pk_un (by omega)]; exact e125
              have e134 : n_130 (14 * k3 + 114) = nI k13 := by rw [en_130, pk_un (by omega)]; exact e126
              have e135 : n_130 5 = nI (k16 + 1) := by rw [en_130, pk_un (by omega)]; exact e127
              have e136 : n_130 (12 * k16 + 1296) = (-1) := by rw [en_130, pk_un (by omega)]; exact e128
              have e137 : n_130 (12 * k16 + 1292) = nI k9 := by rw [en_130, pk_us]
              refine pm_aloadn hG dX12_draw_167 rfl ?_
              refine pm_iloadi hG dX12_draw_168 rfl ?_
              refine pm_bipush (v := nI 10) hG dX12_draw_170 (by decide) ?_
              refine pm_aloadn hG dX12_draw_172 rfl ?_
              refine pm_iloadn hG dX12_draw_173 rfl ?_
              refine pm_top (v := nI k3) ek3 ?_
              refine pm_iconst (v := nI 4) hG dX12_draw_174 (by decide) ?_
              refine pm_callV (As := [.int (nI k3), .int (nI 4)]) (rest := [.int (nI 10), .int (nI k16), .ref (B + 54)]) hG hR dX12_draw_175 (lkX12_72 _ rfl) okV_X12_man rfl rfl (m_man (d := 2) (e := 14 * k3 + 114) (by omega) (by omega) (by omega)) rfl rfl hdd (Nat.le_refl _) (Nat.le_refl _) (Nat.le_of_ble_eq_true rfl) (pm_ki (fun v138 σ' cnt' hq => ?_))
              obtain ⟨rfl, rfl, rfl⟩ := hq
              refine pm_top (v := nI k13) e134 ?_
              refine pm_callV (As := [.int (nI k16), .int (nI 10), .int (nI k13)]) (rest := []) hG hR dX12_draw_178 (lkX12_217 _ rfl) okV_X12_writes rfl rfl (m_writes (d := 2) (e := 12 * k16 + 1300) (by omega) (by omega) (by omega)) rfl rfl hdd (Nat.le_refl _) (Nat.le_refl _) (by decide) (pm_kv (fun σ' cnt' hq => ?_))
              obtain ⟨rfl, rfl⟩ := hq
              obtain ⟨n_139, en_139⟩ : ∃ f : Nat → Int32, f = upd n_130 (12 * k16 + 1300) (nI k13) := ⟨_, rfl⟩
              rw [← en_139]
              have hnn_139 := KI.w en_139 hnn_130 (okv_n (show kd (12 * k16 + 1300) = (1, 10, false) from (kd_E (k := k16) (c := 10) (by omega) (by omega) (by decide))) (by omega))
              have hrn_139 := NRx.w en_139 hrn_130 (by rw [(show kd (12 * k16 + 1300) = (1, 10, false) from (kd_E (k := k16) (c := 10) (by omega) (by omega) (by decide)))])
              have ksn_139 := KS.w en_139 ksn_130 (by unfold tS; omega)
              have e140 : n_139 0 = nI kc0 := by rw [en_139, pk_un (by omega)]; exact e131
              have e141 : n_139 2 = nI kc2 := by rw [en_139, pk_un (by omega)]; exact e132
              have e142 : n_139 8 = nI kc8 := by rw [en_139, pk_un (by omega)]; exact e133
              have e143 : n_139 (14 * k3 + 114) = nI k13 := by rw [en_139, pk_un (by omega)]; exact e134
              have e144 : n_139 5 = nI (k16 + 1) := by rw [en_139, pk_un (by omega)]; exact e135
              have e145 : n_139 (12 * k16 + 1296) = (-1) := by rw [en_139, pk_un (by omega)]; exact e136
              have e146 : n_139 (12 * k16 + 1300) = nI k13 := by rw [en_139, pk_us]
              refine pm_aloadn hG dX12_draw_181 rfl ?_
              refine pm_iloadi hG dX12_draw_182 rfl ?_
              refine pm_bipush (v := nI 9) hG dX12_draw_184 (by decide) ?_
              refine pm_aloadn hG dX12_draw_186 rfl ?_
              refine pm_aloadn hG dX12_draw_187 rfl ?_
              refine pm_iloadn hG dX12_draw_188 rfl ?_
              refine pm_top (v := nI k3) ek3 ?_
              refine pm_iconst (v := nI 4) hG dX12_draw_189 (by decide) ?_
              refine pm_callV (As := [.int (nI k3), .int (nI 4)]) (rest := [.ref (B + 54), .int (nI 9), .int (nI k16), .ref (B + 54)]) hG hR dX12_draw_190 (lkX12_72 _ rfl) okV_X12_man rfl rfl (m_man (d := 2) (e := 14 * k3 + 114) (by omega) (by omega) (by omega)) rfl rfl hdd (Nat.le_refl _) (Nat.le_refl _) (Nat.le_of_ble_eq_true rfl) (pm_ki (fun v147 σ' cnt' hq => ?_))
              obtain ⟨rfl, rfl, rfl⟩ := hq
              refine pm_top (v := nI k13) e143 ?_
              refine pm_callV (As := [.int (nI k13)]) (rest := [.int (nI 9), .int (nI k16), .ref (B + 54)]) hG hR dX12_draw_193 (lkX12_220 _ rfl) okV_X12_thoseIn rfl rfl (m_thoseIn (d := 2) (by decide) hnn_139 hz) rfl rfl hdd (Nat.le_refl _) (Nat.le_refl _) (Nat.le_of_ble_eq_true rfl) (pm_ki (fun v148 σ' cnt' hq => ?_))
              obtain ⟨rfl, rfl⟩ := hq
              refine pm_callV (As := [.int (nI k16), .int (nI 9), .int v148]) (rest := []) hG hR dX12_draw_196 (lkX12_217 _ rfl) okV_X12_writes rfl rfl (m_writes (d := 2) (e := 12 * k16 + 1299) (by omega) (by omega) (by omega)) rfl rfl hdd (Nat.le_refl _) (Nat.le_refl _) (by decide) (pm_kv (fun σ' cnt' hq => ?_))
              obtain ⟨rfl, rfl⟩ := hq
              obtain ⟨n_150, en_150⟩ : ∃ f : Nat → Int32, f = upd n_139 (12 * k16 + 1299) v148 := ⟨_, rfl⟩
              rw [← en_150]
              have hnn_150 := KI.w en_150 hnn_139 (okv_f (show kd (12 * k16 + 1299) = (0, 0, false) from (kd_E (k := k16) (c := 9) (by omega) (by omega) (by decide))))
              have hrn_150 := NRx.w en_150 hrn_139 (by rw [(show kd (12 * k16 + 1299) = (0, 0, false) from (kd_E (k := k16) (c := 9) (by omega) (by omega) (by decide)))])
              have ksn_150 := KS.w en_150 ksn_139 (by unfold tS; omega)
              have e151 : n_150 0 = nI kc0 := by rw [en_150, pk_un (by omega)]; exact e140
              have e152 : n_150 2 = nI kc2 := by rw [en_150, pk_un (by omega)]; exact e141
              have e153 : n_150 8 = nI kc8 := by rw [en_150, pk_un (by omega)]; exact e142
              have e154 : n_150 (14 * k3 + 114) = nI k13 := by rw [en_150, pk_un (by omega)]; exact e143
              have e155 : n_150 5 = nI (k16 + 1) := by rw [en_150, pk_un (by omega)]; exact e144
              have e156 : n_150 (12 * k16 + 1296) = (-1) := by rw [en_150, pk_un (by omega)]; exact e145
              have e157 : n_150 (12 * k16 + 1299) = v148 := by rw [en_150, pk_us]
              refine pm_iloadi hG dX12_draw_199 rfl ?_
              exact pm_iret hG hF dX12_draw_201 rfl (Nat.le_refl _) (Nat.le_refl _) ⟨_, rfl, ⟨_, _, _, rfl, hnn_150, (NRx.cl hrn_150 e156), e151.trans ekc0.symm, e152.trans ekc2.symm, e153.trans ekc8.symm, ksn_150⟩, rfl⟩
            · refine pm_aloadn hG dX12_draw_72 rfl ?_
              refine pm_iconst (v := nI 4) hG dX12_draw_73 (by decide) ?_
              refine pm_callV (As := [.int (nI 4)]) (rest := []) hG hR dX12_draw_74 (lkX12_80 _ rfl) okV_X12_finds rfl rfl (m_finds (d := 2) (by decide) hn hz (by omega)) rfl rfl hdd (Nat.le_refl _) (Nat.le_refl _) (by decide) (pm_ki (fun v158 σ' cnt' hq => ?_))
              obtain ⟨⟨I159, A159, rfl⟩, rfl, fv158⟩ := hq
              exact pm_iret hG hF dX12_draw_77 rfl (Nat.le_refl _) (Nat.le_refl _) ⟨_, rfl, ⟨_, _, _, rfl, hn, hr, ekc0.trans ekc0.symm, ekc2.trans ekc2.symm, ekc8.trans ekc8.symm, KS.rf⟩, rfl⟩
        · refine pm_callV (As := [.int (nI k3)]) (rest := []) hG hR dX12_draw_36 (lkX12_101 _ rfl) okV_X12_lives rfl rfl (m_lives0 (d := 2) (by decide) (by omega) (by omega : 14 * k3 + 119 = 14 * k3 + 119) ek10 (by omega)) rfl rfl hdd (Nat.le_refl _) (Nat.le_refl _) (by decide) (pm_ki (fun v160 σ' cnt' hq => ?_))
          obtain ⟨rfl, rfl, rfl⟩ := hq
          refine pm_ifN_eq (tgt := 51) hG dX12_draw_39 rfl (by omega) (fun _ => ?_) (fun q => absurd q (by omega))
          refine pm_aloadn hG dX12_draw_51 rfl ?_
          refine pm_iconst (v := nI 3) hG dX12_draw_52 (by decide) ?_
          refine pm_callV (As := [.int (nI 3)]) (rest := []) hG hR dX12_draw_53 (lkX12_80 _ rfl) okV_X12_finds rfl rfl (m_finds (d := 2) (by decide) hn hz (by omega)) rfl rfl hdd (Nat.le_refl _) (Nat.le_refl _) (by decide) (pm_ki (fun v161 σ' cnt' hq => ?_))
          obtain ⟨⟨I162, A162, rfl⟩, rfl, fv161⟩ := hq
          exact pm_iret hG hF dX12_draw_56 rfl (Nat.le_refl _) (Nat.le_refl _) ⟨_, rfl, ⟨_, _, _, rfl, hn, hr, ekc0.trans ekc0.symm, ekc2.trans ekc2.symm, ekc8.trans ekc8.symm, KS.rf⟩, rfl⟩
      · refine pm_ifN_ne (tgt := 34) hG dX12_draw_25 rfl (by omega) (fun q => absurd q (by omega)) (fun _ => ?_)
        refine pm_aloadn hG dX12_draw_28 rfl ?_
        refine pm_iconst (v := nI 1) hG dX12_draw_29 (by decide) ?_
        refine pm_callV (As := [.int (nI 1)]) (rest := []) hG hR dX12_draw_30 (lkX12_80 _ rfl) okV_X12_finds rfl rfl (m_finds (d := 2) (by decide) hn hz (by omega)) rfl rfl hdd (Nat.le_refl _) (Nat.le_refl _) (by decide) (pm_ki (fun v163 σ' cnt' hq => ?_))
        obtain ⟨⟨I164, A164, rfl⟩, rfl, fv163⟩ := hq
        exact pm_iret hG hF dX12_draw_33 rfl (Nat.le_refl _) (Nat.le_refl _) ⟨_, rfl, ⟨_, _, _, rfl, hn, hr, ekc0.trans ekc0.symm, ekc2.trans ekc2.symm, ekc8.trans ekc8.symm, KS.rf⟩, rfl⟩
    · refine pm_ifN_eq (tgt := 28) hG dX12_draw_14 rfl (by omega) (fun _ => ?_) (fun q => absurd q (by omega))
      refine pm_aloadn hG dX12_draw_28 rfl ?_
      refine pm_iconst (v := nI 1) hG dX12_draw_29 (by decide) ?_
      refine pm_callV (As := [.int (nI 1)]) (rest := []) hG hR dX12_draw_30 (lkX12_80 _ rfl) okV_X12_finds rfl rfl (m_finds (d := 2) (by decide) hn hz (by omega)) rfl rfl hdd (Nat.le_refl _) (Nat.le_refl _) (by decide) (pm_ki (fun v165 σ' cnt' hq => ?_))
      obtain ⟨⟨I166, A166, rfl⟩, rfl, fv165⟩ := hq
      exact pm_iret hG hF dX12_draw_33 rfl (Nat.le_refl _) (Nat.le_refl _) ⟨_, rfl, ⟨_, _, _, rfl, hn, hr, ekc0.trans ekc0.symm, ekc2.trans ekc2.symm, ekc8.trans ekc8.symm, KS.rf⟩, rfl⟩
  · refine pm_ifN_eq (tgt := 28) hG dX12_draw_5 rfl (by omega) (fun _ => ?_) (fun q => absurd q (by omega))
    refine pm_aloadn hG dX12_draw_28 rfl ?_
    refine pm_iconst (v := nI 1) hG dX12_draw_29 (by decide) ?_
    refine pm_callV (As := [.int (nI 1)]) (rest := []) hG hR dX12_draw_30 (lkX12_80 _ rfl) okV_X12_finds rfl rfl (m_finds (d := 2) (by decide) hn hz (by omega)) rfl rfl hdd (Nat.le_refl _) (Nat.le_refl _) (by decide) (pm_ki (fun v167 σ' cnt' hq => ?_))
    obtain ⟨⟨I168, A168, rfl⟩, rfl, fv167⟩ := hq
    exact pm_iret hG hF dX12_draw_33 rfl (Nat.le_refl _) (Nat.le_refl _) ⟨_, rfl, ⟨_, _, _, rfl, hn, hr, ekc0.trans ekc0.symm, ekc2.trans ekc2.symm, ekc8.trans ekc8.symm, KS.rf⟩, rfl⟩
