set_option maxRecDepth 100000 in
set_option maxHeartbeats 4000000 in
theorem m_thoseIn {d B cnt p0 t0 : Nat} {σ : pm_S} {I : Nat → Int32} {A : Nat → Nat → Int32} {n k z : Nat → Int32} {ac wt pl im : Int32} {za : Int32} (hdd : 2 ≤ d) (hn : KI n) (hz : SZ z)  : pm_met mX12_thoseIn d 0 0 B [.ref (B + 54), .int za] cnt (pm_mid σ (md_L B I A n k z ac wt pl (nI p0) (nI t0) im)) (pm_Qi (fun v σ' cnt' => σ' = pm_mid σ (md_L B I A n k z ac wt pl (nI p0) (nI t0) im) ∧ cnt = cnt')) := by
  refine pm_enter 2 (by decide) (Nat.le_of_ble_eq_true rfl) rfl (fun G hG hR hF => ?_)
  refine pm_iconst (v := nI 0) hG dX12_thoseIn_0 (by decide) ?_
  refine pm_istoreXn (loc' := [some (.ref (B + 54)), some (.int za), some (.int (nI 0)), none]) hG dX12_thoseIn_1 (by decide) (pm_c1b rfl) rfl ?_
  refine pm_iconst (v := nI 0) hG dX12_thoseIn_2 (by decide) ?_
  refine pm_istoreXn (loc' := [some (.ref (B + 54)), some (.int za), some (.int (nI 0)), some (.int (nI 0))]) hG dX12_thoseIn_3 (by decide) (pm_c1b rfl) rfl ?_
  have loop4_1 : ∀ (m1 : Nat) (x1_2 : Int32) (i1 : Nat), i1 ≤ 20 → 20 - i1 < m1 → pm_wp mX12_thoseIn G B 4 [some (.ref (B + 54)), some (.int za), some (.int x1_2), some (.int (nI i1))] [] 0 0 cnt (pm_mid σ (md_L B I A n k z ac wt pl (nI p0) (nI t0) im)) := by
    intro m1
    induction m1 with
    | zero => intro x1_2 i1 _ hm; exact absurd hm (Nat.not_lt_zero _)
    | succ m1 ih1 =>
      intro x1_2 i1 hi1 hm1
      refine pm_iloadn hG dX12_thoseIn_4 rfl ?_
      refine pm_aloadn hG dX12_thoseIn_5 rfl ?_
      refine pm_getf hG dX12_thoseIn_6 (flX12_7 _ rfl) rfl rfl ?_
      refine pm_iconst (v := nI 2) hG dX12_thoseIn_9 (by decide) ?_
      refine pm_ialdN hG dX12_thoseIn_10 rfl (by decide) (by omega) ?_
      obtain ⟨k2, hk2, ek2⟩ := KI.nat hn (show kd 2 = (1, 21, true) by decide)
      refine pm_top (v := nI k2) ek2 ?_
      refine pm_icmpN_ge (tgt := 48) hG dX12_thoseIn_11 rfl (by omega) (by omega) (fun c3 => ?_) (fun c3 => ?_)
      · refine pm_iloadn hG dX12_thoseIn_48 rfl ?_
        exact pm_iret hG hF dX12_thoseIn_49 rfl (Nat.le_refl _) (Nat.le_refl _) ⟨_, rfl, rfl, rfl⟩
      · refine pm_iloadn hG dX12_thoseIn_14 rfl ?_
        refine pm_aloadn hG dX12_thoseIn_15 rfl ?_
        refine pm_iloadn hG dX12_thoseIn_16 rfl ?_
        rcases KI.opt hn (show kd (14 * i1 + 119) = (2, 2001, false) from (kd_P (k := i1) (c := 9) (by omega) (by omega) (by decide))) with ek4 | ⟨k4, hk4, ek4⟩
        · refine pm_callV (As := [.int (nI i1)]) (rest := [.int x1_2]) hG hR dX12_thoseIn_17 (lkX12_101 _ rfl) okV_X12_lives rfl rfl (m_lives1 (d := 1) (by decide) (by omega) (by omega : 14 * i1 + 119 = 14 * i1 + 119) ek4) rfl rfl hdd (Nat.le_refl _) (Nat.le_refl _) (Nat.le_of_ble_eq_true rfl) (pm_ki (fun v5 σ' cnt' hq => ?_))
          obtain ⟨rfl, rfl, rfl⟩ := hq
          refine pm_ifN_eq (tgt := 39) hG dX12_thoseIn_20 rfl (by omega) (fun q => absurd q (by omega)) (fun _ => ?_)
          refine pm_aloadn hG dX12_thoseIn_23 rfl ?_
          refine pm_iloadn hG dX12_thoseIn_24 rfl ?_
          refine pm_iconst (v := nI 4) hG dX12_thoseIn_25 (by decide) ?_
          refine pm_callV (As := [.int (nI i1), .int (nI 4)]) (rest := [.int x1_2]) hG hR dX12_thoseIn_26 (lkX12_72 _ rfl) okV_X12_man rfl rfl (m_man (d := 1) (e := 14 * i1 + 114) (by omega) (by omega) (by omega)) rfl rfl hdd (Nat.le_refl _) (Nat.le_refl _) (Nat.le_of_ble_eq_true rfl) (pm_ki (fun v6 σ' cnt' hq => ?_))
          obtain ⟨rfl, rfl, rfl⟩ := hq
          rcases KI.opt hn (show kd (14 * i1 + 114) = (2, 10, false) from (kd_P (k := i1) (c := 4) (by omega) (by omega) (by decide))) with ek7 | ⟨k7, hk7, ek7⟩
          · refine pm_top (v := (-1)) ek7 ?_
            refine pm_iloadn hG dX12_thoseIn_29 rfl ?_
            refine pm_icmp_ne (tgt := 39) hG dX12_thoseIn_30 rfl (fun c8 => ?_) (fun c8 => ?_)
            · refine pm_iconst (v := nI 0) hG dX12_thoseIn_39 (by decide) ?_
              refine pm_ior hG dX12_thoseIn_40 ?_
              refine pm_any (fun x9 => ?_)
              refine pm_istoreXn (loc' := [some (.ref (B + 54)), some (.int za), some (.int x9), some (.int (nI i1))]) hG dX12_thoseIn_41 (by decide) (pm_c1b rfl) rfl ?_
              refine pm_iincX (v := nI (i1 + 1)) (loc' := [some (.ref (B + 54)), some (.int za), some (.int x9), some (.int (nI (i1 + 1)))]) hG dX12_thoseIn_42 rfl (nI_1 _) (by decide) (pm_c1b rfl) rfl ?_
              refine pm_goto (tgt := 4) hG dX12_thoseIn_45 rfl ?_
              exact ih1 x9 (i1 + 1) (by omega) (by omega)
            · refine pm_iconst (v := nI 1) hG dX12_thoseIn_33 (by decide) ?_
              refine pm_iloadn hG dX12_thoseIn_34 rfl ?_
              refine pm_ishl hG dX12_thoseIn_35 ?_
              refine pm_any (fun x10 => ?_)
              refine pm_goto (tgt := 40) hG dX12_thoseIn_36 rfl ?_
              refine pm_ior hG dX12_thoseIn_40 ?_
              refine pm_any (fun x11 => ?_)
              refine pm_istoreXn (loc' := [some (.ref (B + 54)), some (.int za), some (.int x11), some (.int (nI i1))]) hG dX12_thoseIn_41 (by decide) (pm_c1b rfl) rfl ?_
              refine pm_iincX (v := nI (i1 + 1)) (loc' := [some (.ref (B + 54)), some (.int za), some (.int x11), some (.int (nI (i1 + 1)))]) hG dX12_thoseIn_42 rfl (nI_1 _) (by decide) (pm_c1b rfl) rfl ?_
              refine pm_goto (tgt := 4) hG dX12_thoseIn_45 rfl ?_
              exact ih1 x11 (i1 + 1) (by omega) (by omega)
          · refine pm_top (v := nI k7) ek7 ?_
            refine pm_iloadn hG dX12_thoseIn_29 rfl ?_
            refine pm_icmp_ne (tgt := 39) hG dX12_thoseIn_30 rfl (fun c12 => ?_) (fun c12 => ?_)
            · refine pm_iconst (v := nI 0) hG dX12_thoseIn_39 (by decide) ?_
              refine pm_ior hG dX12_thoseIn_40 ?_
              refine pm_any (fun x13 => ?_)
              refine pm_istoreXn (loc' := [some (.ref (B + 54)), some (.int za), some (.int x13), some (.int (nI i1))]) hG dX12_thoseIn_41 (by decide) (pm_c1b rfl) rfl ?_
              refine pm_iincX (v := nI (i1 + 1)) (loc' := [some (.ref (B + 54)), some (.int za), some (.int x13), some (.int (nI (i1 + 1)))]) hG dX12_thoseIn_42 rfl (nI_1 _) (by decide) (pm_c1b rfl) rfl ?_
              refine pm_goto (tgt := 4) hG dX12_thoseIn_45 rfl ?_
              exact ih1 x13 (i1 + 1) (by omega) (by omega)
            · refine pm_iconst (v := nI 1) hG dX12_thoseIn_33 (by decide) ?_
              refine pm_iloadn hG dX12_thoseIn_34 rfl ?_
              refine pm_ishl hG dX12_thoseIn_35 ?_
              refine pm_any (fun x14 => ?_)
              refine pm_goto (tgt := 40) hG dX12_thoseIn_36 rfl ?_
              refine pm_ior hG dX12_thoseIn_40 ?_
              refine pm_any (fun x15 => ?_)
              refine pm_istoreXn (loc' := [some (.ref (B + 54)), some (.int za), some (.int x15), some (.int (nI i1))]) hG dX12_thoseIn_41 (by decide) (pm_c1b rfl) rfl ?_
              refine pm_iincX (v := nI (i1 + 1)) (loc' := [some (.ref (B + 54)), some (.int za), some (.int x15), some (.int (nI (i1 + 1)))]) hG dX12_thoseIn_42 rfl (nI_1 _) (by decide) (pm_c1b rfl) rfl ?_
              refine pm_goto (tgt := 4) hG dX12_thoseIn_45 rfl ?_
              exact ih1 x15 (i1 + 1) (by omega) (by omega)
        · refine pm_callV (As := [.int (nI i1)]) (rest := [.int x1_2]) hG hR dX12_thoseIn_17 (lkX12_101 _ rfl) okV_X12_lives rfl rfl (m_lives0 (d := 1) (by decide) (by omega) (by omega : 14 * i1 + 119 = 14 * i1 + 119) ek4 (by omega)) rfl rfl hdd (Nat.le_refl _) (Nat.le_refl _) (Nat.le_of_ble_eq_true rfl) (pm_ki (fun v16 σ' cnt' hq => ?_))
          obtain ⟨rfl, rfl, rfl⟩ := hq
          refine pm_ifN_eq (tgt := 39) hG dX12_thoseIn_20 rfl (by omega) (fun _ => ?_) (fun q => absurd q (by omega))
          refine pm_iconst (v := nI 0) hG dX12_thoseIn_39 (by decide) ?_
          refine pm_ior hG dX12_thoseIn_40 ?_
          refine pm_any (fun x17 => ?_)
          refine pm_istoreXn (loc' := [some (.ref (B + 54)), some (.int za), some (.int x17), some (.int (nI i1))]) hG dX12_thoseIn_41 (by decide) (pm_c1b rfl) rfl ?_
          refine pm_iincX (v := nI (i1 + 1)) (loc' := [some (.ref (B + 54)), some (.int za), some (.int x17), some (.int (nI (i1 + 1)))]) hG dX12_thoseIn_42 rfl (nI_1 _) (by decide) (pm_c1b rfl) rfl ?_
          refine pm_goto (tgt := 4) hG dX12_thoseIn_45 rfl ?_
          exact ih1 x17 (i1 + 1) (by omega) (by omega)
  exact loop4_1 _ (nI 0) 0 (by omega) (Nat.lt_succ_self _)

set_option maxRecDepth 100000 in
set_option maxHeartbeats 4000000 in
theorem m_draw {d B cnt p0 t0 : Nat} {σ : pm_S} {I : Nat → Int32} {A : Nat → Nat → Int32} {n k z : Nat → Int32} {ac wt pl im : Int32} {za zb zc : Int32} (hdd : 3 ≤ d) (hn : KI n) (hr : NR n) (hz : SZ z)  : pm_met mX12_draw d 0 0 B [.ref (B + 54), .int za, .int zb, .int zc] cnt (pm_mid σ (md_L B I A n k z ac wt pl (nI p0) (nI t0) im)) (pm_Qi (fun v σ' cnt' => (∃ (I' : Nat → Int32) (A' : Nat → Nat → Int32) (n' : Nat → Int32), σ' = pm_mid σ (md_L B I' A' n' k z ac wt pl (nI p0) (nI t0) im) ∧ KI n' ∧ NR n' ∧ n' 0 = n 0 ∧ n' 6 = n 6) ∧ cnt = cnt')) := by
  obtain ⟨kc0, hkc0, ekc0⟩ := KI.nat hn (show kd 0 = (1, 11, true) by decide)
  obtain ⟨kc6, hkc6, ekc6⟩ := KI.nat hn (show kd 6 = (1, 7, false) by decide)
  refine pm_enter 2 (by decide) (Nat.le_of_ble_eq_true rfl) rfl (fun G hG hR hF => ?_)
  refine pm_aloadn hG dX12_draw_0 rfl ?_
  refine pm_iloadn hG dX12_draw_1 rfl ?_
  obtain ⟨k1, hk1, ek1⟩ := KI.nat hn (show kd 2 = (1, 21, true) by decide)
  refine pm_callV (As := [.int za]) (rest := []) hG hR dX12_draw_2 (lkX12_91 _ rfl) okV_X12_isPerson rfl rfl (m_isPerson (d := 2) (by decide) ek1 (by omega)) rfl rfl hdd (Nat.le_refl _) (Nat.le_refl _) (by decide) (pm_ki (fun v2 σ' cnt' hq => ?_))
  obtain ⟨hq, rfl, rfl⟩ := hq
  rcases hq with ⟨rfl, k4, hk4, ek4⟩ | rfl
  · refine pm_ifN_eq (tgt := 28) hG dX12_draw_5 rfl (by omega) (fun q => absurd q (by omega)) (fun _ => ?_)
    refine pm_iloadn hG dX12_draw_8 rfl ?_
    refine pm_iconst (v := nI 0) hG dX12_draw_9 (by decide) ?_
    refine pm_iconst (v := nI 4) hG dX12_draw_10 (by decide) ?_
    refine pm_callS (As := [.int zb, .int (nI 0), .int (nI 4)]) (rest := []) hG hR dX12_draw_11 (lkX12_68 _ rfl) okS_X12_in (m_in (d := 2)) rfl rfl hdd (Nat.le_refl _) (Nat.le_refl _) (by decide) (pm_ki (fun v5 σ' cnt' hq => ?_))
    obtain ⟨hq, rfl, rfl⟩ := hq
    rcases hq with ⟨rfl, ac6, bc6⟩ | ⟨rfl, c6⟩
    · obtain ⟨k7, hk7, ek7⟩ := in_nat (by omega) (by omega) ac6 bc6
      refine pm_ifN_eq (tgt := 28) hG dX12_draw_14 rfl (by omega) (fun q => absurd q (by omega)) (fun _ => ?_)
      refine pm_iloadn hG dX12_draw_17 rfl ?_
      refine pm_iconst (v := nI 0) hG dX12_draw_18 (by decide) ?_
      refine pm_sipush (v := nI 999) hG dX12_draw_19 (by decide) ?_
      refine pm_callS (As := [.int zc, .int (nI 0), .int (nI 999)]) (rest := []) hG hR dX12_draw_22 (lkX12_68 _ rfl) okS_X12_in (m_in (d := 2)) rfl rfl hdd (Nat.le_refl _) (Nat.le_refl _) (by decide) (pm_ki (fun v8 σ' cnt' hq => ?_))
      obtain ⟨hq, rfl, rfl⟩ := hq
      rcases hq with ⟨rfl, ac9, bc9⟩ | ⟨rfl, c9⟩
      · obtain ⟨k10, hk10, ek10⟩ := in_nat (by omega) (by omega) ac9 bc9
        refine pm_ifN_ne (tgt := 34) hG dX12_draw_25 rfl (by omega) (fun _ => ?_) (fun q => absurd q (by omega))
        refine pm_aloadn hG dX12_draw_34 rfl ?_
        refine pm_iloadn hG dX12_draw_35 rfl ?_
        refine pm_top (v := nI k4) ek4 ?_
        rcases KI.opt hn (show kd (14 * k4 + 119) = (2, 2001, false) from (kd_P (k := k4) (c := 9) (by omega) (by omega) (by decide))) with ek11 | ⟨k11, hk11, ek11⟩
        · refine pm_callV (As := [.int (nI k4)]) (rest := []) hG hR dX12_draw_36 (lkX12_101 _ rfl) okV_X12_lives rfl rfl (m_lives1 (d := 2) (by decide) (by omega) (by omega : 14 * k4 + 119 = 14 * k4 + 119) ek11) rfl rfl hdd (Nat.le_refl _) (Nat.le_refl _) (by decide) (pm_ki (fun v12 σ' cnt' hq => ?_))
          obtain ⟨rfl, rfl, rfl⟩ := hq
          refine pm_ifN_eq (tgt := 51) hG dX12_draw_39 rfl (by omega) (fun q => absurd q (by omega)) (fun _ => ?_)
          refine pm_aloadn hG dX12_draw_42 rfl ?_
          refine pm_iloadn hG dX12_draw_43 rfl ?_
          refine pm_top (v := nI k4) ek4 ?_
          refine pm_iconst (v := nI 4) hG dX12_draw_44 (by decide) ?_
          refine pm_callV (As := [.int (nI k4), .int (nI 4)]) (rest := []) hG hR dX12_draw_45 (lkX12_72 _ rfl) okV_X12_man rfl rfl (m_man (d := 2) (e := 14 * k4 + 114) (by omega) (by omega) (by omega)) rfl rfl hdd (Nat.le_refl _) (Nat.le_refl _) (by decide) (pm_ki (fun v13 σ' cnt' hq => ?_))
          obtain ⟨rfl, rfl, rfl⟩ := hq
          rcases KI.opt hn (show kd (14 * k4 + 114) = (2, 10, false) from (kd_P (k := k4) (c := 4) (by omega) (by omega) (by decide))) with ek14 | ⟨k14, hk14, ek14⟩
          · refine pm_top (v := (-1)) ek14 ?_
            refine pm_if_ge (tgt := 57) hG dX12_draw_48 rfl (fun q => absurd q (by decide)) (fun _ => ?_)
            refine pm_aloadn hG dX12_draw_51 rfl ?_
            refine pm_iconst (v := nI 3) hG dX12_draw_52 (by decide) ?_
            refine pm_callV (As := [.int (nI 3)]) (rest := []) hG hR dX12_draw_53 (lkX12_80 _ rfl) okV_X12_finds rfl rfl (m_finds (d := 2) (by decide) hn hz (by omega)) rfl rfl hdd (Nat.le_refl _) (Nat.le_refl _) (by decide) (pm_ki (fun v15 σ' cnt' hq => ?_))
            obtain ⟨⟨I16, A16, rfl⟩, rfl, fv15⟩ := hq
            exact pm_iret hG hF dX12_draw_56 rfl (Nat.le_refl _) (Nat.le_refl _) ⟨_, rfl, ⟨_, _, _, rfl, hn, hr, ekc0.trans ekc0.symm, ekc6.trans ekc6.symm⟩, rfl⟩
          · refine pm_top (v := nI k14) ek14 ?_
            refine pm_ifN_ge (tgt := 57) hG dX12_draw_48 rfl (by omega) ?_
            refine pm_aloadn hG dX12_draw_57 rfl ?_
            refine pm_getf hG dX12_draw_58 (flX12_7 _ rfl) rfl rfl ?_
            refine pm_iconst (v := nI 5) hG dX12_draw_61 (by decide) ?_
            refine pm_ialdN hG dX12_draw_62 rfl (by decide) (by omega) ?_
            obtain ⟨k17, hk17, ek17⟩ := KI.nat hn (show kd 5 = (1, 41, true) by decide)
            refine pm_top (v := nI k17) ek17 ?_
            refine pm_istoreXi (loc' := [some (.ref (B + 54)), some (.int za), some (.int zb), some (.int zc), some (.int (nI k17)), none]) hG dX12_draw_63 (by decide) (pm_c1b rfl) rfl ?_
            refine pm_iloadi hG dX12_draw_65 rfl ?_
            refine pm_bipush (v := nI 40) hG dX12_draw_67 (by decide) ?_
            refine pm_icmpN_ne (tgt := 78) hG dX12_draw_69 rfl (by omega) (by omega) (fun c18 => ?_) (fun c18 => ?_)
            · refine pm_aloadn hG dX12_draw_78 rfl ?_
              refine pm_getf hG dX12_draw_79 (flX12_7 _ rfl) rfl rfl ?_
              refine pm_iconst (v := nI 5) hG dX12_draw_82 (by decide) ?_
              refine pm_dup2 hG dX12_draw_83 rfl rfl ?_
              refine pm_ialdN hG dX12_draw_84 rfl (by decide) (by omega) ?_
              refine pm_top (v := nI k17) ek17 ?_
              refine pm_iconst (v := nI 1) hG dX12_draw_85 (by decide) ?_
              refine pm_iaddN (c := k17 + 1) hG dX12_draw_86 (by omega) ?_
              refine pm_iastN hG dX12_draw_87 rfl (by decide) (by omega) ?_
              refine mdn_now (fun n_19 en_19 => ?_)
              have hnn_19 := KI.w en_19 hn (okv_n (show kd 5 = (1, 41, true) by decide) (by omega))
              obtain ⟨k20, hk20, ek20⟩ := NRx.some hn ek1 (by omega) hr
              have hrn_19 := NRx.lett en_19 hr ek20 (by omega) ek17 (by omega)
              have e21 : n_19 0 = nI kc0 := by rw [en_19, pk_un (by omega)]; exact ekc0
              have e22 : n_19 6 = nI kc6 := by rw [en_19, pk_un (by omega)]; exact ekc6
              have e23 : n_19 2 = nI k1 := by rw [en_19, pk_un (by omega)]; exact ek1
              have e24 : n_19 (14 * k4 + 114) = nI k14 := by rw [en_19, pk_un (by omega)]; exact ek14
              have e25 : n_19 5 = nI (k17 + 1) := by rw [en_19, pk_us]
              refine pm_iconst (v := nI 0) hG dX12_draw_88 (by decide) ?_
              refine pm_istoreXi (loc' := [some (.ref (B + 54)), some (.int za), some (.int zb), some (.int zc), some (.int (nI k17)), some (.int (nI 0))]) hG dX12_draw_89 (by decide) (pm_c1b rfl) rfl ?_
              refine pm_iloadi hG dX12_draw_91 rfl ?_
              refine pm_bipush (v := nI 12) hG dX12_draw_93 (by decide) ?_
              refine pm_icmpN_ge (tgt := 143) hG dX12_draw_95 rfl (by omega) (by omega) (fun q => absurd q (by omega)) (fun _ => ?_)
              refine pm_aloadn hG dX12_draw_98 rfl ?_
              refine pm_iloadi hG dX12_draw_99 rfl ?_
              refine pm_iloadi hG dX12_draw_101 rfl ?_
              refine pm_iloadi hG dX12_draw_103 rfl ?_
              refine pm_iconst (v := nI 4) hG dX12_draw_105 (by decide) ?_
              refine pm_icmpN_eq (tgt := 129) hG dX12_draw_106 rfl (by omega) (by omega) (fun q => absurd q (by omega)) (fun _ => ?_)
              refine pm_iloadi hG dX12_draw_109 rfl ?_
              refine pm_iconst (v := nI 5) hG dX12_draw_111 (by decide) ?_
              refine pm_icmpN_eq (tgt := 129) hG dX12_draw_112 rfl (by omega) (by omega) (fun q => absurd q (by omega)) (fun _ => ?_)
              refine pm_iloadi hG dX12_draw_115 rfl ?_
              refine pm_bipush (v := nI 6) hG dX12_draw_117 (by decide) ?_
              refine pm_icmpN_eq (tgt := 129) hG dX12_draw_119 rfl (by omega) (by omega) (fun q => absurd q (by omega)) (fun _ => ?_)
              refine pm_iloadi hG dX12_draw_122 rfl ?_
              refine pm_bipush (v := nI 7) hG dX12_draw_124 (by decide) ?_
              refine pm_icmpN_ne (tgt := 133) hG dX12_draw_126 rfl (by omega) (by omega) (fun _ => ?_) (fun q => absurd q (by omega))
              refine pm_iconst (v := nI 0) hG dX12_draw_133 (by decide) ?_
              refine pm_callV (As := [.int (nI k17), .int (nI 0), .int (nI 0)]) (rest := []) hG hR dX12_draw_134 (lkX12_217 _ rfl) okV_X12_writes rfl rfl (m_writes (d := 2) (e := 12 * k17 + 1290) (by omega) (by omega) (by omega)) rfl rfl hdd (Nat.le_refl _) (Nat.le_refl _) (by decide) (pm_kv (fun σ' cnt' hq => ?_))
              obtain ⟨rfl, rfl⟩ := hq
              obtain ⟨n_26, en_26⟩ : ∃ f : Nat → Int32, f = upd n_19 (12 * k17 + 1290) (nI 0) := ⟨_, rfl⟩
              rw [← en_26]
              have hnn_26 := KI.w en_26 hnn_19 (okv_f (show kd (12 * k17 + 1290) = (0, 0, false) from (kd_E (k := k17) (c := 0) (by omega) (by omega) (by decide))))
              have hrn_26 := NRx.w en_26 hrn_19 (by rw [(show kd (12 * k17 + 1290) = (0, 0, false) from (kd_E (k := k17) (c := 0) (by omega) (by omega) (by decide)))])
              have e27 : n_26 0 = nI kc0 := by rw [en_26, pk_un (by omega)]; exact e21
              have e28 : n_26 6 = nI kc6 := by rw [en_26, pk_un (by omega)]; exact e22
              have e29 : n_26 2 = nI k1 := by rw [en_26, pk_un (by omega)]; exact e23
              have e30 : n_26 (14 * k4 + 114) = nI k14 := by rw [en_26, pk_un (by omega)]; exact e24
              have e31 : n_26 5 = nI (k17 + 1) := by rw [en_26, pk_un (by omega)]; exact e25
              have e32 : n_26 (12 * k17 + 1290) = nI 0 := by rw [en_26, pk_us]
              refine pm_iincX (v := nI 1) (loc' := [some (.ref (B + 54)), some (.int za), some (.int zb), some (.int zc), some (.int (nI k17)), some (.int (nI 1))]) hG dX12_draw_137 rfl (nI_1 _) (by decide) (pm_c1b rfl) rfl ?_
              refine pm_goto (tgt := 91) hG dX12_draw_140 rfl ?_
              refine pm_iloadi hG dX12_draw_91 rfl ?_
              refine pm_bipush (v := nI 12) hG dX12_draw_93 (by decide) ?_
              refine pm_icmpN_ge (tgt := 143) hG dX12_draw_95 rfl (by omega) (by omega) (fun q => absurd q (by omega)) (fun _ => ?_)
              refine pm_aloadn hG dX12_draw_98 rfl ?_
              refine pm_iloadi hG dX12_draw_99 rfl ?_
              refine pm_iloadi hG dX12_draw_101 rfl ?_
              refine pm_iloadi hG dX12_draw_103 rfl ?_
              refine pm_iconst (v := nI 4) hG dX12_draw_105 (by decide) ?_
              refine pm_icmpN_eq (tgt := 129) hG dX12_draw_106 rfl (by omega) (by omega) (fun q => absurd q (by omega)) (fun _ => ?_)
              refine pm_iloadi hG dX12_draw_109 rfl ?_
              refine pm_iconst (v := nI 5) hG dX12_draw_111 (by decide) ?_
              refine pm_icmpN_eq (tgt := 129) hG dX12_draw_112 rfl (by omega) (by omega) (fun q => absurd q (by omega)) (fun _ => ?_)
              refine pm_iloadi hG dX12_draw_115 rfl ?_
              refine pm_bipush (v := nI 6) hG dX12_draw_117 (by decide) ?_
              refine pm_icmpN_eq (tgt := 129) hG dX12_draw_119 rfl (by omega) (by omega) (fun q => absurd q (by omega)) (fun _ => ?_)
              refine pm_iloadi hG dX12_draw_122 rfl ?_
              refine pm_bipush (v := nI 7) hG dX12_draw_124 (by decide) ?_
              refine pm_icmpN_ne (tgt := 133) hG dX12_draw_126 rfl (by omega) (by omega) (fun _ => ?_) (fun q => absurd q (by omega))
              refine pm_iconst (v := nI 0) hG dX12_draw_133 (by decide) ?_
              refine pm_callV (As := [.int (nI k17), .int (nI 1), .int (nI 0)]) (rest := []) hG hR dX12_draw_134 (lkX12_217 _ rfl) okV_X12_writes rfl rfl (m_writes (d := 2) (e := 12 * k17 + 1291) (by omega) (by omega) (by omega)) rfl rfl hdd (Nat.le_refl _) (Nat.le_refl _) (by decide) (pm_kv (fun σ' cnt' hq => ?_))
              obtain ⟨rfl, rfl⟩ := hq
              obtain ⟨n_33, en_33⟩ : ∃ f : Nat → Int32, f = upd n_26 (12 * k17 + 1291) (nI 0) := ⟨_, rfl⟩
              rw [← en_33]
              have hnn_33 := KI.w en_33 hnn_26 (okv_f (show kd (12 * k17 + 1291) = (0, 0, false) from (kd_E (k := k17) (c := 1) (by omega) (by omega) (by decide))))
              have hrn_33 := NRx.w en_33 hrn_26 (by rw [(show kd (12 * k17 + 1291) = (0, 0, false) from (kd_E (k := k17) (c := 1) (by omega) (by omega) (by decide)))])
              have e34 : n_33 0 = nI kc0 := by rw [en_33, pk_un (by omega)]; exact e27
              have e35 : n_33 6 = nI kc6 := by rw [en_33, pk_un (by omega)]; exact e28
              have e36 : n_33 2 = nI k1 := by rw [en_33, pk_un (by omega)]; exact e29
              have e37 : n_33 (14 * k4 + 114) = nI k14 := by rw [en_33, pk_un (by omega)]; exact e30
              have e38 : n_33 5 = nI (k17 + 1) := by rw [en_33, pk_un (by omega)]; exact e31
              have e39 : n_33 (12 * k17 + 1291) = nI 0 := by rw [en_33, pk_us]
              refine pm_iincX (v := nI 2) (loc' := [some (.ref (B + 54)), some (.int za), some (.int zb), some (.int zc), some (.int (nI k17)), some (.int (nI 2))]) hG dX12_draw_137 rfl (nI_1 _) (by decide) (pm_c1b rfl) rfl ?_
              refine pm_goto (tgt := 91) hG dX12_draw_140 rfl ?_
              refine pm_iloadi hG dX12_draw_91 rfl ?_
              refine pm_bipush (v := nI 12) hG dX12_draw_93 (by decide) ?_
              refine pm_icmpN_ge (tgt := 143) hG dX12_draw_95 rfl (by omega) (by omega) (fun q => absurd q (by omega)) (fun _ => ?_)
              refine pm_aloadn hG dX12_draw_98 rfl ?_
              refine pm_iloadi hG dX12_draw_99 rfl ?_
              refine pm_iloadi hG dX12_draw_101 rfl ?_
              refine pm_iloadi hG dX12_draw_103 rfl ?_
              refine pm_iconst (v := nI 4) hG dX12_draw_105 (by decide) ?_
              refine pm_icmpN_eq (tgt := 129) hG dX12_draw_106 rfl (by omega) (by omega) (fun q => absurd q (by omega)) (fun _ => ?_)
              refine pm_iloadi hG dX12_draw_109 rfl ?_
              refine pm_iconst (v := nI 5) hG dX12_draw_111 (by decide) ?_
              refine pm_icmpN_eq (tgt := 129) hG dX12_draw_112 rfl (by omega) (by omega) (fun q => absurd q (by omega)) (fun _ => ?_)
              refine pm_iloadi hG dX12_draw_115 rfl ?_
              refine pm_bipush (v := nI 6) hG dX12_draw_117 (by decide) ?_
              refine pm_icmpN_eq (tgt := 129) hG dX12_draw_119 rfl (by omega) (by omega) (fun q => absurd q (by omega)) (fun _ => ?_)
              refine pm_iloadi hG dX12_draw_122 rfl ?_
              refine pm_bipush (v := nI 7) hG dX12_draw_124 (by decide) ?_
              refine pm_icmpN_ne (tgt := 133) hG dX12_draw_126 rfl (by omega) (by omega) (fun _ => ?_) (fun q => absurd q (by omega))
              refine pm_iconst (v := nI 0) hG dX12_draw_133 (by decide) ?_
              refine pm_callV (As := [.int (nI k17), .int (nI 2), .int (nI 0)]) (rest := []) hG hR dX12_draw_134 (lkX12_217 _ rfl) okV_X12_writes rfl rfl (m_writes (d := 2) (e := 12 * k17 + 1292) (by omega) (by omega) (by omega)) rfl rfl hdd (Nat.le_refl _) (Nat.le_refl _) (by decide) (pm_kv (fun σ' cnt' hq => ?_))
              obtain ⟨rfl, rfl⟩ := hq
              obtain ⟨n_40, en_40⟩ : ∃ f : Nat → Int32, f = upd n_33 (12 * k17 + 1292) (nI 0) := ⟨_, rfl⟩
              rw [← en_40]
              have hnn_40 := KI.w en_40 hnn_33 (okv_n (show kd (12 * k17 + 1292) = (1, 1000, false) from (kd_E (k := k17) (c := 2) (by omega) (by omega) (by decide))) (by omega))
              have hrn_40 := NRx.w en_40 hrn_33 (by rw [(show kd (12 * k17 + 1292) = (1, 1000, false) from (kd_E (k := k17) (c := 2) (by omega) (by omega) (by decide)))])
              have e41 : n_40 0 = nI kc0 := by rw [en_40, pk_un (by omega)]; exact e34
              have e42 : n_40 6 = nI kc6 := by rw [en_40, pk_un (by omega)]; exact e35
              have e43 : n_40 2 = nI k1 := by rw [en_40, pk_un (by omega)]; exact e36
              have e44 : n_40 (14 * k4 + 114) = nI k14 := by rw [en_40, pk_un (by omega)]; exact e37
              have e45 : n_40 5 = nI (k17 + 1) := by rw [en_40, pk_un (by omega)]; exact e38
              have e46 : n_40 (12 * k17 + 1292) = nI 0 := by rw [en_40, pk_us]
              refine pm_iincX (v := nI 3) (loc' := [some (.ref (B + 54)), some (.int za), some (.int zb), some (.int zc), some (.int (nI k17)), some (.int (nI 3))]) hG dX12_draw_137 rfl (nI_1 _) (by decide) (pm_c1b rfl) rfl ?_
              refine pm_goto (tgt := 91) hG dX12_draw_140 rfl ?_
              refine pm_iloadi hG dX12_draw_91 rfl ?_
              refine pm_bipush (v := nI 12) hG dX12_draw_93 (by decide) ?_
              refine pm_icmpN_ge (tgt := 143) hG dX12_draw_95 rfl (by omega) (by omega) (fun q => absurd q (by omega)) (fun _ => ?_)
              refine pm_aloadn hG dX12_draw_98 rfl ?_
              refine pm_iloadi hG dX12_draw_99 rfl ?_
              refine pm_iloadi hG dX12_draw_101 rfl ?_
              refine pm_iloadi hG dX12_draw_103 rfl ?_
              refine pm_iconst (v := nI 4) hG dX12_draw_105 (by decide) ?_
              refine pm_icmpN_eq (tgt := 129) hG dX12_draw_106 rfl (by omega) (by omega) (fun q => absurd q (by omega)) (fun _ => ?_)
              refine pm_iloadi hG dX12_draw_109 rfl ?_
              refine pm_iconst (v := nI 5) hG dX12_draw_111 (by decide) ?_
              refine pm_icmpN_eq (tgt := 129) hG dX12_draw_112 rfl (by omega) (by omega) (fun q => absurd q (by omega)) (fun _ => ?_)
              refine pm_iloadi hG dX12_draw_115 rfl ?_
              refine pm_bipush (v := nI 6) hG dX12_draw_117 (by decide) ?_
              refine pm_icmpN_eq (tgt := 129) hG dX12_draw_119 rfl (by omega) (by omega) (fun q => absurd q (by omega)) (fun _ => ?_)
              refine pm_iloadi hG dX12_draw_122 rfl ?_
              refine pm_bipush (v := nI 7) hG dX12_draw_124 (by decide) ?_
              refine pm_icmpN_ne (tgt := 133) hG dX12_draw_126 rfl (by omega) (by omega) (fun _ => ?_) (fun q => absurd q (by omega))
              refine pm_iconst (v := nI 0) hG dX12_draw_133 (by decide) ?_
              refine pm_callV (As := [.int (nI k17), .int (nI 3), .int (nI 0)]) (rest := []) hG hR dX12_draw_134 (lkX12_217 _ rfl) okV_X12_writes rfl rfl (m_writes (d := 2) (e := 12 * k17 + 1293) (by omega) (by omega) (by omega)) rfl rfl hdd (Nat.le_refl _) (Nat.le_refl _) (by decide) (pm_kv (fun σ' cnt' hq => ?_))
              obtain ⟨rfl, rfl⟩ := hq
              obtain ⟨n_47, en_47⟩ : ∃ f : Nat → Int32, f = upd n_40 (12 * k17 + 1293) (nI 0) := ⟨_, rfl⟩
              rw [← en_47]
              have hnn_47 := KI.w en_47 hnn_40 (okv_f (show kd (12 * k17 + 1293) = (0, 0, false) from (kd_E (k := k17) (c := 3) (by omega) (by omega) (by decide))))
              have hrn_47 := NRx.w en_47 hrn_40 (by rw [(show kd (12 * k17 + 1293) = (0, 0, false) from (kd_E (k := k17) (c := 3) (by omega) (by omega) (by decide)))])
              have e48 : n_47 0 = nI kc0 := by rw [en_47, pk_un (by omega)]; exact e41
              have e49 : n_47 6 = nI kc6 := by rw [en_47, pk_un (by omega)]; exact e42
              have e50 : n_47 2 = nI k1 := by rw [en_47, pk_un (by omega)]; exact e43
              have e51 : n_47 (14 * k4 + 114) = nI k14 := by rw [en_47, pk_un (by omega)]; exact e44
              have e52 : n_47 5 = nI (k17 + 1) := by rw [en_47, pk_un (by omega)]; exact e45
              have e53 : n_47 (12 * k17 + 1293) = nI 0 := by rw [en_47, pk_us]
              refine pm_iincX (v := nI 4) (loc' := [some (.ref (B + 54)), some (.int za), some (.int zb), some (.int zc), some (.int (nI k17)), some (.int (nI 4))]) hG dX12_draw_137 rfl (nI_1 _) (by decide) (pm_c1b rfl) rfl ?_
              refine pm_goto (tgt := 91) hG dX12_draw_140 rfl ?_
              refine pm_iloadi hG dX12_draw_91 rfl ?_
              refine pm_bipush (v := nI 12) hG dX12_draw_93 (by decide) ?_
              refine pm_icmpN_ge (tgt := 143) hG dX12_draw_95 rfl (by omega) (by omega) (fun q => absurd q (by omega)) (fun _ => ?_)
              refine pm_aloadn hG dX12_draw_98 rfl ?_
              refine pm_iloadi hG dX12_draw_99 rfl ?_
              refine pm_iloadi hG dX12_draw_101 rfl ?_
              refine pm_iloadi hG dX12_draw_103 rfl ?_
              refine pm_iconst (v := nI 4) hG dX12_draw_105 (by decide) ?_
              refine pm_icmpN_eq (tgt := 129) hG dX12_draw_106 rfl (by omega) (by omega) (fun _ => ?_) (fun q => absurd q (by omega))
              refine pm_iconst (v := (-1)) hG dX12_draw_129 (by decide) ?_
              refine pm_goto (tgt := 134) hG dX12_draw_130 rfl ?_
              refine pm_callV (As := [.int (nI k17), .int (nI 4), .int (-1)]) (rest := []) hG hR dX12_draw_134 (lkX12_217 _ rfl) okV_X12_writes rfl rfl (m_writes (d := 2) (e := 12 * k17 + 1294) (by omega) (by omega) (by omega)) rfl rfl hdd (Nat.le_refl _) (Nat.le_refl _) (by decide) (pm_kv (fun σ' cnt' hq => ?_))
              obtain ⟨rfl, rfl⟩ := hq
              obtain ⟨n_54, en_54⟩ : ∃ f : Nat → Int32, f = upd n_47 (12 * k17 + 1294) (-1) := ⟨_, rfl⟩
              rw [← en_54]
              have hnn_54 := KI.w en_54 hnn_47 (okv_m (show kd (12 * k17 + 1294) = (2, 20, true) from (kd_E (k := k17) (c := 4) (by omega) (by omega) (by decide))))
              have hrn_54 := NRx.row (l := k17) en_54 (NRx.wk k17 hrn_47) (by omega)
              have e55 : n_54 0 = nI kc0 := by rw [en_54, pk_un (by omega)]; exact e48
              have e56 : n_54 6 = nI kc6 := by rw [en_54, pk_un (by omega)]; exact e49
              have e57 : n_54 2 = nI k1 := by rw [en_54, pk_un (by omega)]; exact e50
              have e58 : n_54 (14 * k4 + 114) = nI k14 := by rw [en_54, pk_un (by omega)]; exact e51
              have e59 : n_54 5 = nI (k17 + 1) := by rw [en_54, pk_un (by omega)]; exact e52
              have e60 : n_54 (12 * k17 + 1294) = (-1) := by rw [en_54, pk_us]
              refine pm_iincX (v := nI 5) (loc' := [some (.ref (B + 54)), some (.int za), some (.int zb), some (.int zc), some (.int (nI k17)), some (.int (nI 5))]) hG dX12_draw_137 rfl (nI_1 _) (by decide) (pm_c1b rfl) rfl ?_
              refine pm_goto (tgt := 91) hG dX12_draw_140 rfl ?_
              refine pm_iloadi hG dX12_draw_91 rfl ?_
              refine pm_bipush (v := nI 12) hG dX12_draw_93 (by decide) ?_
              refine pm_icmpN_ge (tgt := 143) hG dX12_draw_95 rfl (by omega) (by omega) (fun q => absurd q (by omega)) (fun _ => ?_)
              refine pm_aloadn hG dX12_draw_98 rfl ?_
              refine pm_iloadi hG dX12_draw_99 rfl ?_
              refine pm_iloadi hG dX12_draw_101 rfl ?_
              refine pm_iloadi hG dX12_draw_103 rfl ?_
              refine pm_iconst (v := nI 4) hG dX12_draw_105 (by decide) ?_
              refine pm_icmpN_eq (tgt := 129) hG dX12_draw_106 rfl (by omega) (by omega) (fun q => absurd q (by omega)) (fun _ => ?_)
              refine pm_iloadi hG dX12_draw_109 rfl ?_
              refine pm_iconst (v := nI 5) hG dX12_draw_111 (by decide) ?_
              refine pm_icmpN_eq (tgt := 129) hG dX12_draw_112 rfl (by omega) (by omega) (fun _ => ?_) (fun q => absurd q (by omega))
              refine pm_iconst (v := (-1)) hG dX12_draw_129 (by decide) ?_
              refine pm_goto (tgt := 134) hG dX12_draw_130 rfl ?_
              refine pm_callV (As := [.int (nI k17), .int (nI 5), .int (-1)]) (rest := []) hG hR dX12_draw_134 (lkX12_217 _ rfl) okV_X12_writes rfl rfl (m_writes (d := 2) (e := 12 * k17 + 1295) (by omega) (by omega) (by omega)) rfl rfl hdd (Nat.le_refl _) (Nat.le_refl _) (by decide) (pm_kv (fun σ' cnt' hq => ?_))
              obtain ⟨rfl, rfl⟩ := hq
              obtain ⟨n_61, en_61⟩ : ∃ f : Nat → Int32, f = upd n_54 (12 * k17 + 1295) (-1) := ⟨_, rfl⟩
              rw [← en_61]
              have hnn_61 := KI.w en_61 hnn_54 (okv_f (show kd (12 * k17 + 1295) = (0, 0, false) from (kd_E (k := k17) (c := 5) (by omega) (by omega) (by decide))))
              have hrn_61 := NRx.w en_61 hrn_54 (by rw [(show kd (12 * k17 + 1295) = (0, 0, false) from (kd_E (k := k17) (c := 5) (by omega) (by omega) (by decide)))])
              have e62 : n_61 0 = nI kc0 := by rw [en_61, pk_un (by omega)]; exact e55
              have e63 : n_61 6 = nI kc6 := by rw [en_61, pk_un (by omega)]; exact e56
              have e64 : n_61 2 = nI k1 := by rw [en_61, pk_un (by omega)]; exact e57
              have e65 : n_61 (14 * k4 + 114) = nI k14 := by rw [en_61, pk_un (by omega)]; exact e58
              have e66 : n_61 5 = nI (k17 + 1) := by rw [en_61, pk_un (by omega)]; exact e59
              have e67 : n_61 (12 * k17 + 1295) = (-1) := by rw [en_61, pk_us]
              refine pm_iincX (v := nI 6) (loc' := [some (.ref (B + 54)), some (.int za), some (.int zb), some (.int zc), some (.int (nI k17)), some (.int (nI 6))]) hG dX12_draw_137 rfl (nI_1 _) (by decide) (pm_c1b rfl) rfl ?_
              refine pm_goto (tgt := 91) hG dX12_draw_140 rfl ?_
              refine pm_iloadi hG dX12_draw_91 rfl ?_
              refine pm_bipush (v := nI 12) hG dX12_draw_93 (by decide) ?_
              refine pm_icmpN_ge (tgt := 143) hG dX12_draw_95 rfl (by omega) (by omega) (fun q => absurd q (by omega)) (fun _ => ?_)
              refine pm_aloadn hG dX12_draw_98 rfl ?_
              refine pm_iloadi hG dX12_draw_99 rfl ?_
              refine pm_iloadi hG dX12_draw_101 rfl ?_
              refine pm_iloadi hG dX12_draw_103 rfl ?_
              refine pm_iconst (v := nI 4) hG dX12_draw_105 (by decide) ?_
              refine pm_icmpN_eq (tgt := 129) hG dX12_draw_106 rfl (by omega) (by omega) (fun q => absurd q (by omega)) (fun _ => ?_)
              refine pm_iloadi hG dX12_draw_109 rfl ?_
              refine pm_iconst (v := nI 5) hG dX12_draw_111 (by decide) ?_
              refine pm_icmpN_eq (tgt := 129) hG dX12_draw_112 rfl (by omega) (by omega) (fun q => absurd q (by omega)) (fun _ => ?_)
              refine pm_iloadi hG dX12_draw_115 rfl ?_
              refine pm_bipush (v := nI 6) hG dX12_draw_117 (by decide) ?_
              refine pm_icmpN_eq (tgt := 129) hG dX12_draw_119 rfl (by omega) (by omega) (fun _ => ?_) (fun q => absurd q (by omega))
              refine pm_iconst (v := (-1)) hG dX12_draw_129 (by decide) ?_
              refine pm_goto (tgt := 134) hG dX12_draw_130 rfl ?_
              refine pm_callV (As := [.int (nI k17), .int (nI 6), .int (-1)]) (rest := []) hG hR dX12_draw_134 (lkX12_217 _ rfl) okV_X12_writes rfl rfl (m_writes (d := 2) (e := 12 * k17 + 1296) (by omega) (by omega) (by omega)) rfl rfl hdd (Nat.le_refl _) (Nat.le_refl _) (by decide) (pm_kv (fun σ' cnt' hq => ?_))
              obtain ⟨rfl, rfl⟩ := hq
              obtain ⟨n_68, en_68⟩ : ∃ f : Nat → Int32, f = upd n_61 (12 * k17 + 1296) (-1) := ⟨_, rfl⟩
              rw [← en_68]
              have hnn_68 := KI.w en_68 hnn_61 (okv_f (show kd (12 * k17 + 1296) = (0, 0, true) from (kd_E (k := k17) (c := 6) (by omega) (by omega) (by decide))))
              have hrn_68 := NRx.row (l := k17) en_68 hrn_61 (by omega)
              have e69 : n_68 0 = nI kc0 := by rw [en_68, pk_un (by omega)]; exact e62
              have e70 : n_68 6 = nI kc6 := by rw [en_68, pk_un (by omega)]; exact e63
              have e71 : n_68 2 = nI k1 := by rw [en_68, pk_un (by omega)]; exact e64
              have e72 : n_68 (14 * k4 + 114) = nI k14 := by rw [en_68, pk_un (by omega)]; exact e65
              have e73 : n_68 5 = nI (k17 + 1) := by rw [en_68, pk_un (by omega)]; exact e66
              have e74 : n_68 (12 * k17 + 1296) = (-1) := by rw [en_68, pk_us]
              refine pm_iincX (v := nI 7) (loc' := [some (.ref (B + 54)), some (.int za), some (.int zb), some (.int zc), some (.int (nI k17)), some (.int (nI 7))]) hG dX12_draw_137 rfl (nI_1 _) (by decide) (pm_c1b rfl) rfl ?_
              refine pm_goto (tgt := 91) hG dX12_draw_140 rfl ?_
              refine pm_iloadi hG dX12_draw_91 rfl ?_
              refine pm_bipush (v := nI 12) hG dX12_draw_93 (by decide) ?_
              refine pm_icmpN_ge (tgt := 143) hG dX12_draw_95 rfl (by omega) (by omega) (fun q => absurd q (by omega)) (fun _ => ?_)
              refine pm_aloadn hG dX12_draw_98 rfl ?_
              refine pm_iloadi hG dX12_draw_99 rfl ?_
              refine pm_iloadi hG dX12_draw_101 rfl ?_
              refine pm_iloadi hG dX12_draw_103 rfl ?_
              refine pm_iconst (v := nI 4) hG dX12_draw_105 (by decide) ?_
              refine pm_icmpN_eq (tgt := 129) hG dX12_draw_106 rfl (by omega) (by omega) (fun q => absurd q (by omega)) (fun _ => ?_)
              refine pm_iloadi hG dX12_draw_109 rfl ?_
              refine pm_iconst (v := nI 5) hG dX12_draw_111 (by decide) ?_
              refine pm_icmpN_eq (tgt := 129) hG dX12_draw_112 rfl (by omega) (by omega) (fun q => absurd q (by omega)) (fun _ => ?_)
              refine pm_iloadi hG dX12_draw_115 rfl ?_
              refine pm_bipush (v := nI 6) hG dX12_draw_117 (by decide) ?_
              refine pm_icmpN_eq (tgt := 129) hG dX12_draw_119 rfl (by omega) (by omega) (fun q => absurd q (by omega)) (fun _ => ?_)
              refine pm_iloadi hG dX12_draw_122 rfl ?_
              refine pm_bipush (v := nI 7) hG dX12_draw_124 (by decide) ?_
              refine pm_icmpN_ne (tgt := 133) hG dX12_draw_126 rfl (by omega) (by omega) (fun q => absurd q (by omega)) (fun _ => ?_)
              refine pm_iconst (v := (-1)) hG dX12_draw_129 (by decide) ?_
              refine pm_goto (tgt := 134) hG dX12_draw_130 rfl ?_
              refine pm_callV (As := [.int (nI k17), .int (nI 7), .int (-1)]) (rest := []) hG hR dX12_draw_134 (lkX12_217 _ rfl) okV_X12_writes rfl rfl (m_writes (d := 2) (e := 12 * k17 + 1297) (by omega) (by omega) (by omega)) rfl rfl hdd (Nat.le_refl _) (Nat.le_refl _) (by decide) (pm_kv (fun σ' cnt' hq => ?_))
              obtain ⟨rfl, rfl⟩ := hq
              obtain ⟨n_75, en_75⟩ : ∃ f : Nat → Int32, f = upd n_68 (12 * k17 + 1297) (-1) := ⟨_, rfl⟩
              rw [← en_75]
              have hnn_75 := KI.w en_75 hnn_68 (okv_f (show kd (12 * k17 + 1297) = (0, 0, false) from (kd_E (k := k17) (c := 7) (by omega) (by omega) (by decide))))
              have hrn_75 := NRx.w en_75 hrn_68 (by rw [(show kd (12 * k17 + 1297) = (0, 0, false) from (kd_E (k := k17) (c := 7) (by omega) (by omega) (by decide)))])
              have e76 : n_75 0 = nI kc0 := by rw [en_75, pk_un (by omega)]; exact e69
              have e77 : n_75 6 = nI kc6 := by rw [en_75, pk_un (by omega)]; exact e70
              have e78 : n_75 2 = nI k1 := by rw [en_75, pk_un (by omega)]; exact e71
              have e79 : n_75 (14 * k4 + 114) = nI k14 := by rw [en_75, pk_un (by omega)]; exact e72
              have e80 : n_75 5 = nI (k17 + 1) := by rw [en_75, pk_un (by omega)]; exact e73
              have e81 : n_75 (12 * k17 + 1296) = (-1) := by rw [en_75, pk_un (by omega)]; exact e74
              have e82 : n_75 (12 * k17 + 1297) = (-1) := by rw [en_75, pk_us]
              refine pm_iincX (v := nI 8) (loc' := [some (.ref (B + 54)), some (.int za), some (.int zb), some (.int zc), some (.int (nI k17)), some (.int (nI 8))]) hG dX12_draw_137 rfl (nI_1 _) (by decide) (pm_c1b rfl) rfl ?_
              refine pm_goto (tgt := 91) hG dX12_draw_140 rfl ?_
              refine pm_iloadi hG dX12_draw_91 rfl ?_
              refine pm_bipush (v := nI 12) hG dX12_draw_93 (by decide) ?_
              refine pm_icmpN_ge (tgt := 143) hG dX12_draw_95 rfl (by omega) (by omega) (fun q => absurd q (by omega)) (fun _ => ?_)
              refine pm_aloadn hG dX12_draw_98 rfl ?_
              refine pm_iloadi hG dX12_draw_99 rfl ?_
              refine pm_iloadi hG dX12_draw_101 rfl ?_
              refine pm_iloadi hG dX12_draw_103 rfl ?_
              refine pm_iconst (v := nI 4) hG dX12_draw_105 (by decide) ?_
              refine pm_icmpN_eq (tgt := 129) hG dX12_draw_106 rfl (by omega) (by omega) (fun q => absurd q (by omega)) (fun _ => ?_)
              refine pm_iloadi hG dX12_draw_109 rfl ?_
              refine pm_iconst (v := nI 5) hG dX12_draw_111 (by decide) ?_
              refine pm_icmpN_eq (tgt := 129) hG dX12_draw_112 rfl (by omega) (by omega) (fun q => absurd q (by omega)) (fun _ => ?_)
              refine pm_iloadi hG dX12_draw_115 rfl ?_
              refine pm_bipush (v := nI 6) hG dX12_draw_117 (by decide) ?_
              refine pm_icmpN_eq (tgt := 129) hG dX12_draw_119 rfl (by omega) (by omega) (fun q => absurd q (by omega)) (fun _ => ?_)
              refine pm_iloadi hG dX12_draw_122 rfl ?_
              refine pm_bipush (v := nI 7) hG dX12_draw_124 (by decide) ?_
              refine pm_icmpN_ne (tgt := 133) hG dX12_draw_126 rfl (by omega) (by omega) (fun _ => ?_) (fun q => absurd q (by omega))
              refine pm_iconst (v := nI 0) hG dX12_draw_133 (by decide) ?_
              refine pm_callV (As := [.int (nI k17), .int (nI 8), .int (nI 0)]) (rest := []) hG hR dX12_draw_134 (lkX12_217 _ rfl) okV_X12_writes rfl rfl (m_writes (d := 2) (e := 12 * k17 + 1298) (by omega) (by omega) (by omega)) rfl rfl hdd (Nat.le_refl _) (Nat.le_refl _) (by decide) (pm_kv (fun σ' cnt' hq => ?_))
              obtain ⟨rfl, rfl⟩ := hq
              obtain ⟨n_83, en_83⟩ : ∃ f : Nat → Int32, f = upd n_75 (12 * k17 + 1298) (nI 0) := ⟨_, rfl⟩
              rw [← en_83]
              have hnn_83 := KI.w en_83 hnn_75 (okv_f (show kd (12 * k17 + 1298) = (0, 0, false) from (kd_E (k := k17) (c := 8) (by omega) (by omega) (by decide))))
              have hrn_83 := NRx.w en_83 hrn_75 (by rw [(show kd (12 * k17 + 1298) = (0, 0, false) from (kd_E (k := k17) (c := 8) (by omega) (by omega) (by decide)))])
              have e84 : n_83 0 = nI kc0 := by rw [en_83, pk_un (by omega)]; exact e76
              have e85 : n_83 6 = nI kc6 := by rw [en_83, pk_un (by omega)]; exact e77
              have e86 : n_83 2 = nI k1 := by rw [en_83, pk_un (by omega)]; exact e78
              have e87 : n_83 (14 * k4 + 114) = nI k14 := by rw [en_83, pk_un (by omega)]; exact e79
              have e88 : n_83 5 = nI (k17 + 1) := by rw [en_83, pk_un (by omega)]; exact e80
              have e89 : n_83 (12 * k17 + 1296) = (-1) := by rw [en_83, pk_un (by omega)]; exact e81
              have e90 : n_83 (12 * k17 + 1298) = nI 0 := by rw [en_83, pk_us]
              refine pm_iincX (v := nI 9) (loc' := [some (.ref (B + 54)), some (.int za), some (.int zb), some (.int zc), some (.int (nI k17)), some (.int (nI 9))]) hG dX12_draw_137 rfl (nI_1 _) (by decide) (pm_c1b rfl) rfl ?_
              refine pm_goto (tgt := 91) hG dX12_draw_140 rfl ?_
              refine pm_iloadi hG dX12_draw_91 rfl ?_
              refine pm_bipush (v := nI 12) hG dX12_draw_93 (by decide) ?_
              refine pm_icmpN_ge (tgt := 143) hG dX12_draw_95 rfl (by omega) (by omega) (fun q => absurd q (by omega)) (fun _ => ?_)
              refine pm_aloadn hG dX12_draw_98 rfl ?_
              refine pm_iloadi hG dX12_draw_99 rfl ?_
              refine pm_iloadi hG dX12_draw_101 rfl ?_
              refine pm_iloadi hG dX12_draw_103 rfl ?_
              refine pm_iconst (v := nI 4) hG dX12_draw_105 (by decide) ?_
              refine pm_icmpN_eq (tgt := 129) hG dX12_draw_106 rfl (by omega) (by omega) (fun q => absurd q (by omega)) (fun _ => ?_)
              refine pm_iloadi hG dX12_draw_109 rfl ?_
              refine pm_iconst (v := nI 5) hG dX12_draw_111 (by decide) ?_
              refine pm_icmpN_eq (tgt := 129) hG dX12_draw_112 rfl (by omega) (by omega) (fun q => absurd q (by omega)) (fun _ => ?_)
              refine pm_iloadi hG dX12_draw_115 rfl ?_
              refine pm_bipush (v := nI 6) hG dX12_draw_117 (by decide) ?_
              refine pm_icmpN_eq (tgt := 129) hG dX12_draw_119 rfl (by omega) (by omega) (fun q => absurd q (by omega)) (fun _ => ?_)
              refine pm_iloadi hG dX12_draw_122 rfl ?_
              refine pm_bipush (v := nI 7) hG dX12_draw_124 (by decide) ?_
              refine pm_icmpN_ne (tgt := 133) hG dX12_draw_126 rfl (by omega) (by omega) (fun _ => ?_) (fun q => absurd q (by omega))
              refine pm_iconst (v := nI 0) hG dX12_draw_133 (by decide) ?_
              refine pm_callV (As := [.int (nI k17), .int (nI 9), .int (nI 0)]) (rest := []) hG hR dX12_draw_134 (lkX12_217 _ rfl) okV_X12_writes rfl rfl (m_writes (d := 2) (e := 12 * k17 + 1299) (by omega) (by omega) (by omega)) rfl rfl hdd (Nat.le_refl _) (Nat.le_refl _) (by decide) (pm_kv (fun σ' cnt' hq => ?_))
              obtain ⟨rfl, rfl⟩ := hq
              obtain ⟨n_91, en_91⟩ : ∃ f : Nat → Int32, f = upd n_83 (12 * k17 + 1299) (nI 0) := ⟨_, rfl⟩
              rw [← en_91]
              have hnn_91 := KI.w en_91 hnn_83 (okv_f (show kd (12 * k17 + 1299) = (0, 0, false) from (kd_E (k := k17) (c := 9) (by omega) (by omega) (by decide))))
              have hrn_91 := NRx.w en_91 hrn_83 (by rw [(show kd (12 * k17 + 1299) = (0, 0, false) from (kd_E (k := k17) (c := 9) (by omega) (by omega) (by decide)))])
              have e92 : n_91 0 = nI kc0 := by rw [en_91, pk_un (by omega)]; exact e84
              have e93 : n_91 6 = nI kc6 := by rw [en_91, pk_un (by omega)]; exact e85
              have e94 : n_91 2 = nI k1 := by rw [en_91, pk_un (by omega)]; exact e86
              have e95 : n_91 (14 * k4 + 114) = nI k14 := by rw [en_91, pk_un (by omega)]; exact e87
              have e96 : n_91 5 = nI (k17 + 1) := by rw [en_91, pk_un (by omega)]; exact e88
              have e97 : n_91 (12 * k17 + 1296) = (-1) := by rw [en_91, pk_un (by omega)]; exact e89
              have e98 : n_91 (12 * k17 + 1299) = nI 0 := by rw [en_91, pk_us]
              refine pm_iincX (v := nI 10) (loc' := [some (.ref (B + 54)), some (.int za), some (.int zb), some (.int zc), some (.int (nI k17)), some (.int (nI 10))]) hG dX12_draw_137 rfl (nI_1 _) (by decide) (pm_c1b rfl) rfl ?_
              refine pm_goto (tgt := 91) hG dX12_draw_140 rfl ?_
              refine pm_iloadi hG dX12_draw_91 rfl ?_
              refine pm_bipush (v := nI 12) hG dX12_draw_93 (by decide) ?_
              refine pm_icmpN_ge (tgt := 143) hG dX12_draw_95 rfl (by omega) (by omega) (fun q => absurd q (by omega)) (fun _ => ?_)
              refine pm_aloadn hG dX12_draw_98 rfl ?_
              refine pm_iloadi hG dX12_draw_99 rfl ?_
              refine pm_iloadi hG dX12_draw_101 rfl ?_
              refine pm_iloadi hG dX12_draw_103 rfl ?_
              refine pm_iconst (v := nI 4) hG dX12_draw_105 (by decide) ?_
              refine pm_icmpN_eq (tgt := 129) hG dX12_draw_106 rfl (by omega) (by omega) (fun q => absurd q (by omega)) (fun _ => ?_)
              refine pm_iloadi hG dX12_draw_109 rfl ?_
              refine pm_iconst (v := nI 5) hG dX12_draw_111 (by decide) ?_
              refine pm_icmpN_eq (tgt := 129) hG dX12_draw_112 rfl (by omega) (by omega) (fun q => absurd q (by omega)) (fun _ => ?_)
              refine pm_iloadi hG dX12_draw_115 rfl ?_
              refine pm_bipush (v := nI 6) hG dX12_draw_117 (by decide) ?_
              refine pm_icmpN_eq (tgt := 129) hG dX12_draw_119 rfl (by omega) (by omega) (fun q => absurd q (by omega)) (fun _ => ?_)
              refine pm_iloadi hG dX12_draw_122 rfl ?_
              refine pm_bipush (v := nI 7) hG dX12_draw_124 (by decide) ?_
              refine pm_icmpN_ne (tgt := 133) hG dX12_draw_126 rfl (by omega) (by omega) (fun _ => ?_) (fun q => absurd q (by omega))
              refine pm_iconst (v := nI 0) hG dX12_draw_133 (by decide) ?_
              refine pm_callV (As := [.int (nI k17), .int (nI 10), .int (nI 0)]) (rest := []) hG hR dX12_draw_134 (lkX12_217 _ rfl) okV_X12_writes rfl rfl (m_writes (d := 2) (e := 12 * k17 + 1300) (by omega) (by omega) (by omega)) rfl rfl hdd (Nat.le_refl _) (Nat.le_refl _) (by decide) (pm_kv (fun σ' cnt' hq => ?_))
              obtain ⟨rfl, rfl⟩ := hq
              obtain ⟨n_99, en_99⟩ : ∃ f : Nat → Int32, f = upd n_91 (12 * k17 + 1300) (nI 0) := ⟨_, rfl⟩
              rw [← en_99]
              have hnn_99 := KI.w en_99 hnn_91 (okv_n (show kd (12 * k17 + 1300) = (1, 10, false) from (kd_E (k := k17) (c := 10) (by omega) (by omega) (by decide))) (by omega))
              have hrn_99 := NRx.w en_99 hrn_91 (by rw [(show kd (12 * k17 + 1300) = (1, 10, false) from (kd_E (k := k17) (c := 10) (by omega) (by omega) (by decide)))])
              have e100 : n_99 0 = nI kc0 := by rw [en_99, pk_un (by omega)]; exact e92
              have e101 : n_99 6 = nI kc6 := by rw [en_99, pk_un (by omega)]; exact e93
              have e102 : n_99 2 = nI k1 := by rw [en_99, pk_un (by omega)]; exact e94
              have e103 : n_99 (14 * k4 + 114) = nI k14 := by rw [en_99, pk_un (by omega)]; exact e95
              have e104 : n_99 5 = nI (k17 + 1) := by rw [en_99, pk_un (by omega)]; exact e96
              have e105 : n_99 (12 * k17 + 1296) = (-1) := by rw [en_99, pk_un (by omega)]; exact e97
              have e106 : n_99 (12 * k17 + 1300) = nI 0 := by rw [en_99, pk_us]
              refine pm_iincX (v := nI 11) (loc' := [some (.ref (B + 54)), some (.int za), some (.int zb), some (.int zc), some (.int (nI k17)), some (.int (nI 11))]) hG dX12_draw_137 rfl (nI_1 _) (by decide) (pm_c1b rfl) rfl ?_
              refine pm_goto (tgt := 91) hG dX12_draw_140 rfl ?_
              refine pm_iloadi hG dX12_draw_91 rfl ?_
              refine pm_bipush (v := nI 12) hG dX12_draw_93 (by decide) ?_
              refine pm_icmpN_ge (tgt := 143) hG dX12_draw_95 rfl (by omega) (by omega) (fun q => absurd q (by omega)) (fun _ => ?_)
              refine pm_aloadn hG dX12_draw_98 rfl ?_
              refine pm_iloadi hG dX12_draw_99 rfl ?_
              refine pm_iloadi hG dX12_draw_101 rfl ?_
              refine pm_iloadi hG dX12_draw_103 rfl ?_
              refine pm_iconst (v := nI 4) hG dX12_draw_105 (by decide) ?_
              refine pm_icmpN_eq (tgt := 129) hG dX12_draw_106 rfl (by omega) (by omega) (fun q => absurd q (by omega)) (fun _ => ?_)
              refine pm_iloadi hG dX12_draw_109 rfl ?_
              refine pm_iconst (v := nI 5) hG dX12_draw_111 (by decide) ?_
              refine pm_icmpN_eq (tgt := 129) hG dX12_draw_112 rfl (by omega) (by omega) (fun q => absurd q (by omega)) (fun _ => ?_)
              refine pm_iloadi hG dX12_draw_115 rfl ?_
              refine pm_bipush (v := nI 6) hG dX12_draw_117 (by decide) ?_
              refine pm_icmpN_eq (tgt := 129) hG dX12_draw_119 rfl (by omega) (by omega) (fun q => absurd q (by omega)) (fun _ => ?_)
              refine pm_iloadi hG dX12_draw_122 rfl ?_
              refine pm_bipush (v := nI 7) hG dX12_draw_124 (by decide) ?_
              refine pm_icmpN_ne (tgt := 133) hG dX12_draw_126 rfl (by omega) (by omega) (fun _ => ?_) (fun q => absurd q (by omega))
              refine pm_iconst (v := nI 0) hG dX12_draw_133 (by decide) ?_
              refine pm_callV (As := [.int (nI k17), .int (nI 11), .int (nI 0)]) (rest := []) hG hR dX12_draw_134 (lkX12_217 _ rfl) okV_X12_writes rfl rfl (m_writes (d := 2) (e := 12 * k17 + 1301) (by omega) (by omega) (by omega)) rfl rfl hdd (Nat.le_refl _) (Nat.le_refl _) (by decide) (pm_kv (fun σ' cnt' hq => ?_))
              obtain ⟨rfl, rfl⟩ := hq
              obtain ⟨n_107, en_107⟩ : ∃ f : Nat → Int32, f = upd n_99 (12 * k17 + 1301) (nI 0) := ⟨_, rfl⟩
              rw [← en_107]
              have hnn_107 := KI.w en_107 hnn_99 (okv_f (show kd (12 * k17 + 1301) = (0, 0, false) from (kd_E (k := k17) (c := 11) (by omega) (by omega) (by decide))))
              have hrn_107 := NRx.w en_107 hrn_99 (by rw [(show kd (12 * k17 + 1301) = (0, 0, false) from (kd_E (k := k17) (c := 11) (by omega) (by omega) (by decide)))])
              have e108 : n_107 0 = nI kc0 := by rw [en_107, pk_un (by omega)]; exact e100
              have e109 : n_107 6 = nI kc6 := by rw [en_107, pk_un (by omega)]; exact e101
              have e110 : n_107 2 = nI k1 := by rw [en_107, pk_un (by omega)]; exact e102
              have e111 : n_107 (14 * k4 + 114) = nI k14 := by rw [en_107, pk_un (by omega)]; exact e103
              have e112 : n_107 5 = nI (k17 + 1) := by rw [en_107, pk_un (by omega)]; exact e104
              have e113 : n_107 (12 * k17 + 1296) = (-1) := by rw [en_107, pk_un (by omega)]; exact e105
              have e114 : n_107 (12 * k17 + 1301) = nI 0 := by rw [en_107, pk_us]
              refine pm_iincX (v := nI 12) (loc' := [some (.ref (B + 54)), some (.int za), some (.int zb), some (.int zc), some (.int (nI k17)), some (.int (nI 12))]) hG dX12_draw_137 rfl (nI_1 _) (by decide) (pm_c1b rfl) rfl ?_
              refine pm_goto (tgt := 91) hG dX12_draw_140 rfl ?_
              refine pm_iloadi hG dX12_draw_91 rfl ?_
              refine pm_bipush (v := nI 12) hG dX12_draw_93 (by decide) ?_
              refine pm_icmpN_ge (tgt := 143) hG dX12_draw_95 rfl (by omega) (by omega) (fun _ => ?_) (fun q => absurd q (by omega))
              refine pm_aloadn hG dX12_draw_143 rfl ?_
              refine pm_iloadi hG dX12_draw_144 rfl ?_
              refine pm_iconst (v := nI 0) hG dX12_draw_146 (by decide) ?_
              refine pm_iloadn hG dX12_draw_147 rfl ?_
              refine pm_top (v := nI k4) ek4 ?_
              refine pm_callV (As := [.int (nI k17), .int (nI 0), .int (nI k4)]) (rest := []) hG hR dX12_draw_148 (lkX12_217 _ rfl) okV_X12_writes rfl rfl (m_writes (d := 2) (e := 12 * k17 + 1290) (by omega) (by omega) (by omega)) rfl rfl hdd (Nat.le_refl _) (Nat.le_refl _) (by decide) (pm_kv (fun σ' cnt' hq => ?_))
              obtain ⟨rfl, rfl⟩ := hq
              obtain ⟨n_115, en_115⟩ : ∃ f : Nat → Int32, f = upd n_107 (12 * k17 + 1290) (nI k4) := ⟨_, rfl⟩
              rw [← en_115]
              have hnn_115 := KI.w en_115 hnn_107 (okv_f (show kd (12 * k17 + 1290) = (0, 0, false) from (kd_E (k := k17) (c := 0) (by omega) (by omega) (by decide))))
              have hrn_115 := NRx.w en_115 hrn_107 (by rw [(show kd (12 * k17 + 1290) = (0, 0, false) from (kd_E (k := k17) (c := 0) (by omega) (by omega) (by decide)))])
              have e116 : n_115 0 = nI kc0 := by rw [en_115, pk_un (by omega)]; exact e108
              have e117 : n_115 6 = nI kc6 := by rw [en_115, pk_un (by omega)]; exact e109
              have e118 : n_115 2 = nI k1 := by rw [en_115, pk_un (by omega)]; exact e110
              have e119 : n_115 (14 * k4 + 114) = nI k14 := by rw [en_115, pk_un (by omega)]; exact e111
              have e120 : n_115 5 = nI (k17 + 1) := by rw [en_115, pk_un (by omega)]; exact e112
              have e121 : n_115 (12 * k17 + 1296) = (-1) := by rw [en_115, pk_un (by omega)]; exact e113
              have e122 : n_115 (12 * k17 + 1290) = nI k4 := by rw [en_115, pk_us]
              refine pm_aloadn hG dX12_draw_151 rfl ?_
              refine pm_iloadi hG dX12_draw_152 rfl ?_
              refine pm_iconst (v := nI 1) hG dX12_draw_154 (by decide) ?_
              refine pm_iloadn hG dX12_draw_155 rfl ?_
              refine pm_top (v := nI k7) ek7 ?_
              refine pm_callV (As := [.int (nI k17), .int (nI 1), .int (nI k7)]) (rest := []) hG hR dX12_draw_156 (lkX12_217 _ rfl) okV_X12_writes rfl rfl (m_writes (d := 2) (e := 12 * k17 + 1291) (by omega) (by omega) (by omega)) rfl rfl hdd (Nat.le_refl _) (Nat.le_refl _) (by decide) (pm_kv (fun σ' cnt' hq => ?_))
              obtain ⟨rfl, rfl⟩ := hq
              obtain ⟨n_123, en_123⟩ : ∃ f : Nat → Int32, f = upd n_115 (12 * k17 + 1291) (nI k7) := ⟨_, rfl⟩
              rw [← en_123]
              have hnn_123 := KI.w en_123 hnn_115 (okv_f (show kd (12 * k17 + 1291) = (0, 0, false) from (kd_E (k := k17) (c := 1) (by omega) (by omega) (by decide))))
              have hrn_123 := NRx.w en_123 hrn_115 (by rw [(show kd (12 * k17 + 1291) = (0, 0, false) from (kd_E (k := k17) (c := 1) (by omega) (by omega) (by decide)))])
              have e124 : n_123 0 = nI kc0 := by rw [en_123, pk_un (by omega)]; exact e116
              have e125 : n_123 6 = nI kc6 := by rw [en_123, pk_un (by omega)]; exact e117
              have e126 : n_123 2 = nI k1 := by rw [en_123, pk_un (by omega)]; exact e118
              have e127 : n_123 (14 * k4 + 114) = nI k14 := by rw [en_123, pk_un (by omega)]; exact e119
              have e128 : n_123 5 = nI (k17 + 1) := by rw [en_123, pk_un (by omega)]; exact e120
              have e129 : n_123 (12 * k17 + 1296) = (-1) := by rw [en_123, pk_un (by omega)]; exact e121
              have e130 : n_123 (12 * k17 + 1291) = nI k7 := by rw [en_123, pk_us]
              refine pm_aloadn hG dX12_draw_159 rfl ?_
              refine pm_iloadi hG dX12_draw_160 rfl ?_
              refine pm_iconst (v := nI 2) hG dX12_draw_162 (by decide) ?_
              refine pm_iloadn hG dX12_draw_163 rfl ?_
              refine pm_top (v := nI k10) ek10 ?_
              refine pm_callV (As := [.int (nI k17), .int (nI 2), .int (nI k10)]) (rest := []) hG hR dX12_draw_164 (lkX12_217 _ rfl) okV_X12_writes rfl rfl (m_writes (d := 2) (e := 12 * k17 + 1292) (by omega) (by omega) (by omega)) rfl rfl hdd (Nat.le_refl _) (Nat.le_refl _) (by decide) (pm_kv (fun σ' cnt' hq => ?_))
              obtain ⟨rfl, rfl⟩ := hq
              obtain ⟨n_131, en_131⟩ : ∃ f : Nat → Int32, f = upd n_123 (12 * k17 + 1292) (nI k10) := ⟨_, rfl⟩
              rw [← en_131]
              have hnn_131 := KI.w en_131 hnn_123 (okv_n (show kd (12 * k17 + 1292) = (1, 1000, false) from (kd_E (k := k17) (c := 2) (by omega) (by omega) (by decide))) (by omega))
              have hrn_131 := NRx.w en_131 hrn_123 (by rw [(show kd (12 * k17 + 1292) = (1, 1000, false) from (kd_E (k := k17) (c := 2) (by omega) (by omega) (by decide)))])
              have e132 : n_131 0 = nI kc0 := by rw [en_131, pk_un (by omega)]; exact e124
              have e133 : n_131 6 = nI kc6 := by rw [en_131, pk_un (by omega)]; exact e125
              have e134 : n_131 2 = nI k1 := by rw [en_131, pk_un (by omega)]; exact e126
              have e135 : n_131 (14 * k4 + 114) = nI k14 := by rw [en_131, pk_un (by omega)]; exact e127
              have e136 : n_131 5 = nI (k17 + 1) := by rw [en_131, pk_un (by omega)]; exact e128
              have e137 : n_131 (12 * k17 + 1296) = (-1) := by rw [en_131, pk_un (by omega)]; exact e129
              have e138 : n_131 (12 * k17 + 1292) = nI k10 := by rw [en_131, pk_us]
              refine pm_aloadn hG dX12_draw_167 rfl ?_
              refine pm_iloadi hG dX12_draw_168 rfl ?_
              refine pm_bipush (v := nI 10) hG dX12_draw_170 (by decide) ?_
              refine pm_aloadn hG dX12_draw_172 rfl ?_
              refine pm_iloadn hG dX12_draw_173 rfl ?_
              refine pm_top (v := nI k4) ek4 ?_
              refine pm_iconst (v := nI 4) hG dX12_draw_174 (by decide) ?_
              refine pm_callV (As := [.int (nI k4), .int (nI 4)]) (rest := [.int (nI 10), .int (nI k17), .ref (B + 54)]) hG hR dX12_draw_175 (lkX12_72 _ rfl) okV_X12_man rfl rfl (m_man (d := 2) (e := 14 * k4 + 114) (by omega) (by omega) (by omega)) rfl rfl hdd (Nat.le_refl _) (Nat.le_refl _) (Nat.le_of_ble_eq_true rfl) (pm_ki (fun v139 σ' cnt' hq => ?_))
              obtain ⟨rfl, rfl, rfl⟩ := hq
              refine pm_top (v := nI k14) e135 ?_
              refine pm_callV (As := [.int (nI k17), .int (nI 10), .int (nI k14)]) (rest := []) hG hR dX12_draw_178 (lkX12_217 _ rfl) okV_X12_writes rfl rfl (m_writes (d := 2) (e := 12 * k17 + 1300) (by omega) (by omega) (by omega)) rfl rfl hdd (Nat.le_refl _) (Nat.le_refl _) (by decide) (pm_kv (fun σ' cnt' hq => ?_))
              obtain ⟨rfl, rfl⟩ := hq
              obtain ⟨n_140, en_140⟩ : ∃ f : Nat → Int32, f = upd n_131 (12 * k17 + 1300) (nI k14) := ⟨_, rfl⟩
              rw [← en_140]
              have hnn_140 := KI.w en_140 hnn_131 (okv_n (show kd (12 * k17 + 1300) = (1, 10, false) from (kd_E (k := k17) (c := 10) (by omega) (by omega) (by decide))) (by omega))
              have hrn_140 := NRx.w en_140 hrn_131 (by rw [(show kd (12 * k17 + 1300) = (1, 10, false) from (kd_E (k := k17) (c := 10) (by omega) (by omega) (by decide)))])
              have e141 : n_140 0 = nI kc0 := by rw [en_140, pk_un (by omega)]; exact e132
              have e142 : n_140 6 = nI kc6 := by rw [en_140, pk_un (by omega)]; exact e133
              have e143 : n_140 2 = nI k1 := by rw [en_140, pk_un (by omega)]; exact e134
              have e144 : n_140 (14 * k4 + 114) = nI k14 := by rw [en_140, pk_un (by omega)]; exact e135
              have e145 : n_140 5 = nI (k17 + 1) := by rw [en_140, pk_un (by omega)]; exact e136
              have e146 : n_140 (12 * k17 + 1296) = (-1) := by rw [en_140, pk_un (by omega)]; exact e137
              have e147 : n_140 (12 * k17 + 1300) = nI k14 := by rw [en_140, pk_us]
              refine pm_aloadn hG dX12_draw_181 rfl ?_
              refine pm_iloadi hG dX12_draw_182 rfl ?_
              refine pm_bipush (v := nI 9) hG dX12_draw_184 (by decide) ?_
              refine pm_aloadn hG dX12_draw_186 rfl ?_
              refine pm_aloadn hG dX12_draw_187 rfl ?_
              refine pm_iloadn hG dX12_draw_188 rfl ?_
              refine pm_top (v := nI k4) ek4 ?_
              refine pm_iconst (v := nI 4) hG dX12_draw_189 (by decide) ?_
              refine pm_callV (As := [.int (nI k4), .int (nI 4)]) (rest := [.ref (B + 54), .int (nI 9), .int (nI k17), .ref (B + 54)]) hG hR dX12_draw_190 (lkX12_72 _ rfl) okV_X12_man rfl rfl (m_man (d := 2) (e := 14 * k4 + 114) (by omega) (by omega) (by omega)) rfl rfl hdd (Nat.le_refl _) (Nat.le_refl _) (Nat.le_of_ble_eq_true rfl) (pm_ki (fun v148 σ' cnt' hq => ?_))
              obtain ⟨rfl, rfl, rfl⟩ := hq
              refine pm_top (v := nI k14) e144 ?_
              refine pm_callV (As := [.int (nI k14)]) (rest := [.int (nI 9), .int (nI k17), .ref (B + 54)]) hG hR dX12_draw_193 (lkX12_220 _ rfl) okV_X12_thoseIn rfl rfl (m_thoseIn (d := 2) (by decide) hnn_140 hz) rfl rfl hdd (Nat.le_refl _) (Nat.le_refl _) (Nat.le_of_ble_eq_true rfl) (pm_ki (fun v149 σ' cnt' hq => ?_))
              obtain ⟨rfl, rfl⟩ := hq
              refine pm_callV (As := [.int (nI k17), .int (nI 9), .int v149]) (rest := []) hG hR dX12_draw_196 (lkX12_217 _ rfl) okV_X12_writes rfl rfl (m_writes (d := 2) (e := 12 * k17 + 1299) (by omega) (by omega) (by omega)) rfl rfl hdd (Nat.le_refl _) (Nat.le_refl _) (by decide) (pm_kv (fun σ' cnt' hq => ?_))
              obtain ⟨rfl, rfl⟩ := hq
              obtain ⟨n_151, en_151⟩ : ∃ f : Nat → Int32, f = upd n_140 (12 * k17 + 1299) v149 := ⟨_, rfl⟩
              rw [← en_151]
              have hnn_151 := KI.w en_151 hnn_140 (okv_f (show kd (12 * k17 + 1299) = (0, 0, false) from (kd_E (k := k17) (c := 9) (by omega) (by omega) (by decide))))
              have hrn_151 := NRx.w en_151 hrn_140 (by rw [(show kd (12 * k17 + 1299) = (0, 0, false) from (kd_E (k := k17) (c := 9) (by omega) (by omega) (by decide)))])
              have e152 : n_151 0 = nI kc0 := by rw [en_151, pk_un (by omega)]; exact e141
              have e153 : n_151 6 = nI kc6 := by rw [en_151, pk_un (by omega)]; exact e142
              have e154 : n_151 2 = nI k1 := by rw [en_151, pk_un (by omega)]; exact e143
              have e155 : n_151 (14 * k4 + 114) = nI k14 := by rw [en_151, pk_un (by omega)]; exact e144
              have e156 : n_151 5 = nI (k17 + 1) := by rw [en_151, pk_un (by omega)]; exact e145
              have e157 : n_151 (12 * k17 + 1296) = (-1) := by rw [en_151, pk_un (by omega)]; exact e146
              have e158 : n_151 (12 * k17 + 1299) = v149 := by rw [en_151, pk_us]
              refine pm_iloadi hG dX12_draw_199 rfl ?_
              exact pm_iret hG hF dX12_draw_201 rfl (Nat.le_refl _) (Nat.le_refl _) ⟨_, rfl, ⟨_, _, _, rfl, hnn_151, (NRx.cl hrn_151 e157), e152.trans ekc0.symm, e153.trans ekc6.symm⟩, rfl⟩
            · refine pm_aloadn hG dX12_draw_72 rfl ?_
              refine pm_iconst (v := nI 4) hG dX12_draw_73 (by decide) ?_
              refine pm_callV (As := [.int (nI 4)]) (rest := []) hG hR dX12_draw_74 (lkX12_80 _ rfl) okV_X12_finds rfl rfl (m_finds (d := 2) (by decide) hn hz (by omega)) rfl rfl hdd (Nat.le_refl _) (Nat.le_refl _) (by decide) (pm_ki (fun v159 σ' cnt' hq => ?_))
              obtain ⟨⟨I160, A160, rfl⟩, rfl, fv159⟩ := hq
              exact pm_iret hG hF dX12_draw_77 rfl (Nat.le_refl _) (Nat.le_refl _) ⟨_, rfl, ⟨_, _, _, rfl, hn, hr, ekc0.trans ekc0.symm, ekc6.trans ekc6.symm⟩, rfl⟩
        · refine pm_callV (As := [.int (nI k4)]) (rest := []) hG hR dX12_draw_36 (lkX12_101 _ rfl) okV_X12_lives rfl rfl (m_lives0 (d := 2) (by decide) (by omega) (by omega : 14 * k4 + 119 = 14 * k4 + 119) ek11 (by omega)) rfl rfl hdd (Nat.le_refl _) (Nat.le_refl _) (by decide) (pm_ki (fun v161 σ' cnt' hq => ?_))
          obtain ⟨rfl, rfl, rfl⟩ := hq
          refine pm_ifN_eq (tgt := 51) hG dX12_draw_39 rfl (by omega) (fun _ => ?_) (fun q => absurd q (by omega))
          refine pm_aloadn hG dX12_draw_51 rfl ?_
          refine pm_iconst (v := nI 3) hG dX12_draw_52 (by decide) ?_
          refine pm_callV (As := [.int (nI 3)]) (rest := []) hG hR dX12_draw_53 (lkX12_80 _ rfl) okV_X12_finds rfl rfl (m_finds (d := 2) (by decide) hn hz (by omega)) rfl rfl hdd (Nat.le_refl _) (Nat.le_refl _) (by decide) (pm_ki (fun v162 σ' cnt' hq => ?_))
          obtain ⟨⟨I163, A163, rfl⟩, rfl, fv162⟩ := hq
          exact pm_iret hG hF dX12_draw_56 rfl (Nat.le_refl _) (Nat.le_refl _) ⟨_, rfl, ⟨_, _, _, rfl, hn, hr, ekc0.trans ekc0.symm, ekc6.trans ekc6.symm⟩, rfl⟩
      · refine pm_ifN_ne (tgt := 34) hG dX12_draw_25 rfl (by omega) (fun q => absurd q (by omega)) (fun _ => ?_)
        refine pm_aloadn hG dX12_draw_28 rfl ?_
        refine pm_iconst (v := nI 1) hG dX12_draw_29 (by decide) ?_
        refine pm_callV (As := [.int (nI 1)]) (rest := []) hG hR dX12_draw_30 (lkX12_80 _ rfl) okV_X12_finds rfl rfl (m_finds (d := 2) (by decide) hn hz (by omega)) rfl rfl hdd (Nat.le_refl _) (Nat.le_refl _) (by decide) (pm_ki (fun v164 σ' cnt' hq => ?_))
        obtain ⟨⟨I165, A165, rfl⟩, rfl, fv164⟩ := hq
        exact pm_iret hG hF dX12_draw_33 rfl (Nat.le_refl _) (Nat.le_refl _) ⟨_, rfl, ⟨_, _, _, rfl, hn, hr, ekc0.trans ekc0.symm, ekc6.trans ekc6.symm⟩, rfl⟩
    · refine pm_ifN_eq (tgt := 28) hG dX12_draw_14 rfl (by omega) (fun _ => ?_) (fun q => absurd q (by omega))
      refine pm_aloadn hG dX12_draw_28 rfl ?_
      refine pm_iconst (v := nI 1) hG dX12_draw_29 (by decide) ?_
      refine pm_callV (As := [.int (nI 1)]) (rest := []) hG hR dX12_draw_30 (lkX12_80 _ rfl) okV_X12_finds rfl rfl (m_finds (d := 2) (by decide) hn hz (by omega)) rfl rfl hdd (Nat.le_refl _) (Nat.le_refl _) (by decide) (pm_ki (fun v166 σ' cnt' hq => ?_))
      obtain ⟨⟨I167, A167, rfl⟩, rfl, fv166⟩ := hq
      exact pm_iret hG hF dX12_draw_33 rfl (Nat.le_refl _) (Nat.le_refl _) ⟨_, rfl, ⟨_, _, _, rfl, hn, hr, ekc0.trans ekc0.symm, ekc6.trans ekc6.symm⟩, rfl⟩
  · refine pm_ifN_eq (tgt := 28) hG dX12_draw_5 rfl (by omega) (fun _ => ?_) (fun q => absurd q (by omega))
    refine pm_aloadn hG dX12_draw_28 rfl ?_
    refine pm_iconst (v := nI 1) hG dX12_draw_29 (by decide) ?_
    refine pm_callV (As := [.int (nI 1)]) (rest := []) hG hR dX12_draw_30 (lkX12_80 _ rfl) okV_X12_finds rfl rfl (m_finds (d := 2) (by decide) hn hz (by omega)) rfl rfl hdd (Nat.le_refl _) (Nat.le_refl _) (by decide) (pm_ki (fun v168 σ' cnt' hq => ?_))
    obtain ⟨⟨I169, A169, rfl⟩, rfl, fv168⟩ := hq
    exact pm_iret hG hF dX12_draw_33 rfl (Nat.le_refl _) (Nat.le_refl _) ⟨_, rfl, ⟨_, _, _, rfl, hn, hr, ekc0.trans ekc0.symm, ekc6.trans ekc6.symm⟩, rfl⟩
